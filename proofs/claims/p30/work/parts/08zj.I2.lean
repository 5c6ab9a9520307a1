section IB
variable {w u t : Int64} {k : Nat} {c : Int32} {T T' : Nat} {a : Bk}
theorem BkI_mono (h : BkI T a) (hT : T ≤ T') : BkI T' a := by
  obtain ⟨iW, iN, iP, iB, iS, iL, zW, zN, zS, wW, wN, wL, oW, oN, cW, cP, cS, cL, cK, cT0, cT1, cT2⟩ := h
  exact ⟨iW, iN, iP, iB, iS, iL, zW, zN, zS, wW, wN, wL, oW, oN, cW, cP, rIn_mono cS (by omega), cL, cK, cT0, cT1, cT2⟩
theorem iPutW (h : BkI T a) (hw : isW w = true) (hr : roomW a w = true) (hc : 1 ≤ c.toInt ∧ c.toInt ≤ 999) : BkI T (aPutW a w c) := by
  obtain ⟨iW, iN, iP, iB, iS, iL, zW, zN, zS, wW, wN, wL, oW, oN, cW, cP, cS, cL, cK, cT0, cT1, cT2⟩ := h
  have al := ahd_le (p := bW a) (w := w)
  unfold aPutW
  by_cases q : fw (bW a) w < (bW a).1
  · rw [if_pos q]
    exact ⟨iW, iN, iP, iB, iS, iL, zW, zN, zS, wW, wN, wL, oW, oN, rIn_put cW hc, cP, cS, cL, cK, cT0, cT1, cT2⟩
  · rw [if_neg q]
    have hn : (bW a).1 < 20 := by
      unfold roomW hasW at hr
      rw [decide_eq_false q, Bool.or_false] at hr
      exact of_decide_eq_true hr
    exact ⟨hn, iN, iP, iB, iS, iL, rZ_ins zW al, zN, zS, rWd_ins wW al hw, wN, wL, srt_ins oW wW hw q, oN, rIn_ins cW al hc, cP, cS, cL, cK, cT0, cT1, cT2⟩
theorem le_pred {x m : Nat} (h : x ≤ m) : x - 1 ≤ m := by omega
theorem iDelW (h : BkI T a) : BkI T (aDelW a w) := by
  unfold aDelW
  split
  · obtain ⟨iW, iN, iP, iB, iS, iL, zW, zN, zS, wW, wN, wL, oW, oN, cW, cP, cS, cL, cK, cT0, cT1, cT2⟩ := h
    exact ⟨le_pred iW, iN, iP, iB, iS, iL, rZ_del zW, zN, zS, rWd_del wW, wN, wL, srt_del oW, oN, rIn_del cW, cP, cS, cL, cK, cT0, cT1, cT2⟩
  · exact h
theorem iPutN (h : BkI T a) (hw : isW w = true) (hr : roomN a w = true) : BkI T (aPutN a w) := by
  obtain ⟨iW, iN, iP, iB, iS, iL, zW, zN, zS, wW, wN, wL, oW, oN, cW, cP, cS, cL, cK, cT0, cT1, cT2⟩ := h
  have al := ahd_le (p := bN a) (w := w)
  unfold aPutN
  by_cases q : fw (bN a) w < (bN a).1
  · rw [if_pos q]
    exact ⟨iW, iN, iP, iB, iS, iL, zW, zN, zS, wW, wN, wL, oW, oN, cW, cP, cS, cL, cK, cT0, cT1, cT2⟩
  · rw [if_neg q]
    have hn : (bN a).1 < 10 := by
      unfold roomN hasN at hr
      rw [decide_eq_false q, Bool.or_false] at hr
      exact of_decide_eq_true hr
    exact ⟨iW, hn, iP, iB, iS, iL, zW, rZ_ins zN al, zS, wW, rWd_ins wN al hw, wL, oW, srt_ins oN wN hw q, cW, cP, cS, cL, cK, cT0, cT1, cT2⟩
theorem iDelN (h : BkI T a) : BkI T (aDelN a w) := by
  unfold aDelN
  split
  · obtain ⟨iW, iN, iP, iB, iS, iL, zW, zN, zS, wW, wN, wL, oW, oN, cW, cP, cS, cL, cK, cT0, cT1, cT2⟩ := h
    exact ⟨iW, le_pred iN, iP, iB, iS, iL, zW, rZ_del zN, zS, wW, rWd_del wN, wL, oW, srt_del oN, cW, cP, cS, cL, cK, cT0, cT1, cT2⟩
  · exact h
theorem iDelB (h : BkI T a) : BkI T (aDelB a t w) := by
  unfold aDelB
  split
  · obtain ⟨iW, iN, iP, iB, iS, iL, zW, zN, zS, wW, wN, wL, oW, oN, cW, cP, cS, cL, cK, cT0, cT1, cT2⟩ := h
    exact ⟨iW, iN, iP, le_pred iB, iS, iL, zW, zN, zS, wW, wN, wL, oW, oN, cW, cP, cS, cL, cK, cT0, cT1, cT2⟩
  · exact h
theorem iDelP (h : BkI T a) : BkI T (aDelP a t w) := by
  unfold aDelP
  split
  · obtain ⟨iW, iN, iP, iB, iS, iL, zW, zN, zS, wW, wN, wL, oW, oN, cW, cP, cS, cL, cK, cT0, cT1, cT2⟩ := h
    exact ⟨iW, iN, le_pred iP, iB, iS, iL, zW, zN, zS, wW, wN, wL, oW, oN, cW, rIn_del cP, cS, cL, cK, cT0, cT1, cT2⟩
  · exact h
theorem iBan (h : BkI T a) (hr : (bB a).1 < 24 ∨ fp (bB a) t w < (bB a).1) : BkI T (aBan a t w) := by
  unfold aBan
  by_cases q : fp (bB a) t w < (bB a).1
  · rw [if_pos q]; exact h
  · rw [if_neg q]
    obtain ⟨iW, iN, iP, iB, iS, iL, zW, zN, zS, wW, wN, wL, oW, oN, cW, cP, cS, cL, cK, cT0, cT1, cT2⟩ := h
    have hn : (bB a).1 < 24 := by omega
    exact ⟨iW, iN, iP, hn, iS, iL, zW, zN, zS, wW, wN, wL, oW, oN, cW, cP, cS, cL, cK, cT0, cT1, cT2⟩
theorem iStk (h : BkI T a) (hc : 0 ≤ c.toInt ∧ c.toInt ≤ 2) : BkI T (aStk a k c) := by
  obtain ⟨iW, iN, iP, iB, iS, iL, zW, zN, zS, wW, wN, wL, oW, oN, cW, cP, cS, cL, cK, cT0, cT1, cT2⟩ := h
  refine ⟨iW, iN, iP, iB, iS, iL, zW, zN, zS, wW, wN, wL, oW, oN, cW, cP, cS, cL, fun i hi => ?_, cT0, cT1, cT2⟩
  show 0 ≤ (if i = k then c else bK a i).toInt ∧ (if i = k then c else bK a i).toInt ≤ 2
  by_cases q : i = k
  · rw [if_pos q]; exact hc
  · rw [if_neg q]; exact cK i hi
theorem iSet (h : BkI T a) (h0 : k = 0 → 0 ≤ c.toInt ∧ c.toInt ≤ 12) (h1 : k = 1 → 1 ≤ c.toInt ∧ c.toInt ≤ 9) (h2 : k = 2 → 1 ≤ c.toInt ∧ c.toInt ≤ 5) : BkI T (aSet a k c) := by
  obtain ⟨iW, iN, iP, iB, iS, iL, zW, zN, zS, wW, wN, wL, oW, oN, cW, cP, cS, cL, cK, cT0, cT1, cT2⟩ := h
  refine ⟨iW, iN, iP, iB, iS, iL, zW, zN, zS, wW, wN, wL, oW, oN, cW, cP, cS, cL, cK, ?_, ?_, ?_⟩
  · show 0 ≤ (if 0 = k then c else bT a 0).toInt ∧ (if 0 = k then c else bT a 0).toInt ≤ 12
    by_cases q : 0 = k
    · rw [if_pos q]; exact h0 q.symm
    · rw [if_neg q]; exact cT0
  · show 1 ≤ (if 1 = k then c else bT a 1).toInt ∧ (if 1 = k then c else bT a 1).toInt ≤ 9
    by_cases q : 1 = k
    · rw [if_pos q]; exact h1 q.symm
    · rw [if_neg q]; exact cT1
  · show 1 ≤ (if 2 = k then c else bT a 2).toInt ∧ (if 2 = k then c else bT a 2).toInt ≤ 5
    by_cases q : 2 = k
    · rw [if_pos q]; exact h2 q.symm
    · rw [if_neg q]; exact cT2
theorem iRaise (h : BkI T a) (hw : fw (bW a) w < (bW a).1) : BkI T (aRaise a w) := by
  obtain ⟨iW, iN, iP, iB, iS, iL, zW, zN, zS, wW, wN, wL, oW, oN, cW, cP, cS, cL, cK, cT0, cT1, cT2⟩ := h
  exact ⟨iW, iN, iP, iB, iS, iL, zW, zN, zS, wW, wN, wL, oW, oN, rIn_put cW (up1_in (m := 999) (cW _ hw) (by decide) (by decide) (by decide)), cP, cS, cL, cK, cT0, cT1, cT2⟩
theorem lrnP_le {p : Rw} (h : p.1 ≤ 24) : (lrnP p).1 < 24 := by
  unfold lrnP
  split
  · show p.1 - 1 < 24; omega
  · omega
theorem lrnP_In {p : Rw} {lo hi : Int} (h : rIn p lo hi) : rIn (lrnP p) lo hi := by unfold lrnP; split; exact rIn_del h; exact h
theorem iLearn (h : BkI T a) : BkI T (aLearn a t w) := by
  obtain ⟨iW, iN, iP, iB, iS, iL, zW, zN, zS, wW, wN, wL, oW, oN, cW, cP, cS, cL, cK, cT0, cT1, cT2⟩ := h
  unfold aLearn
  by_cases q : fp (bP a) t w < (bP a).1
  · rw [if_pos q]
    exact ⟨iW, iN, iP, iB, iS, iL, zW, zN, zS, wW, wN, wL, oW, oN, cW, rIn_put cP (up1_in (m := 99) (cP _ q) (by decide) (by decide) (by decide)), cS, cL, cK, cT0, cT1, cT2⟩
  · rw [if_neg q]
    exact ⟨iW, iN, lrnP_le iP, iB, iS, iL, zW, zN, zS, wW, wN, wL, oW, oN, cW, rIn_ins (lrnP_In cP) (Nat.le_refl _) (by decide), cS, cL, cK, cT0, cT1, cT2⟩
theorem iRec (h : BkI T a) (ht : isW t = true) : BkI T (aRec a t w) := by
  unfold aRec
  refine iLearn ?_
  obtain ⟨iW, iN, iP, iB, iS, iL, zW, zN, zS, wW, wN, wL, oW, oN, cW, cP, cS, cL, cK, cT0, cT1, cT2⟩ := h
  have l := (cut_le iL (by omega)).1
  have l2 : (cut (bL a) 20).1 + 1 ≤ 20 := by omega
  exact ⟨iW, iN, iP, iB, iS, l2, zW, zN, zS, wW, wN, rWd_ins (cut_Wd wL) (Nat.le_refl _) ht, oW, oN, cW, cP, cS, rIn_ins (cut_In cL) (Nat.le_refl _) (by decide), cK, cT0, cT1, cT2⟩
theorem strS_f (h : BkI T a) : (strS (bS a) t).1 ≤ 20 ∧ rZ (strS (bS a) t) ∧ rIn (strS (bS a) t) 0 T ∧ strK (bS a) t < (strS (bS a) t).1 := by
  obtain ⟨iW, iN, iP, iB, iS, iL, zW, zN, zS, wW, wN, wL, oW, oN, cW, cP, cS, cL, cK, cT0, cT1, cT2⟩ := h
  have l := (cut_le iS (by omega)).1
  unfold strS strK
  by_cases q : fw (bS a) t < (bS a).1
  · rw [if_pos q, if_pos q]; exact ⟨iS, zS, cS, q⟩
  · rw [if_neg q, if_neg q]
    refine ⟨?_, rZ_ins (cut_Z zS) (Nat.le_refl _), rIn_ins (cut_In cS) (Nat.le_refl _) ⟨by decide, by show (0 : Int) ≤ T; omega⟩, ?_⟩
    · show (cut (bS a) 20).1 + 1 ≤ 20; omega
    · show (cut (bS a) 20).1 < (cut (bS a) 20).1 + 1; omega
theorem iStr (h : BkI T a) (ht : isW t = true) (hT : T < 2147483647) : BkI (T + 1) (aStr a t) := by
  obtain ⟨f1, f2, f3, f4⟩ := strS_f (t := t) h
  have f5 := f3 _ f4
  have e : (strC (bS a) t).toInt = ((strS (bS a) t).2.2.2 (strK (bS a) t)).toInt + 1 := by
    unfold strC
    rw [Int32.toInt_add, show (1 : Int32).toInt = 1 by decide]
    exact Int.bmod_eq_of_le (by omega) (by omega)
  have g3 : rIn (strP (bS a) t) 0 (T + 1 : Nat) := rIn_put (rIn_mono f3 (by omega)) (by omega)
  unfold aStr
  by_cases q : strC (bS a) t = bT a 2 ∧ (bN a).1 < 10
  · rw [if_pos q]
    have h2 := iPutN h ht (by unfold roomN; rw [decide_eq_true q.2, Bool.true_or])
    obtain ⟨iW, iN, iP, iB, iS, iL, zW, zN, zS, wW, wN, wL, oW, oN, cW, cP, cS, cL, cK, cT0, cT1, cT2⟩ := h2
    exact ⟨iW, iN, iP, iB, le_pred (show (strP (bS a) t).1 ≤ 20 from f1), iL, zW, zN, rZ_del (rZ_put f2), wW, wN, wL, oW, oN, cW, cP, rIn_del g3, cL, cK, cT0, cT1, cT2⟩
  · rw [if_neg q]
    obtain ⟨iW, iN, iP, iB, iS, iL, zW, zN, zS, wW, wN, wL, oW, oN, cW, cP, cS, cL, cK, cT0, cT1, cT2⟩ := h
    exact ⟨iW, iN, iP, iB, f1, iL, zW, zN, rZ_put f2, wW, wN, wL, oW, oN, cW, cP, g3, cL, cK, cT0, cT1, cT2⟩
theorem iBack (h : BkI T a) (hc : canB a = true) (hT : T < 2147483647) : BkI (T + 1) (aBack a) := by
  have ll : late a ≤ (bL a).1 := lst_le _
  unfold canB at hc
  rw [Bool.and_eq_true, decide_eq_true_eq] at hc
  obtain ⟨h0, hc⟩ := hc
  have hb : isW (bkF a) = true := h.2.2.2.2.2.2.2.2.2.2.2.1 _ (by omega)
  unfold aBack
  refine iStr (iDelP (iBan ?_ ?_)) hb hT
  · obtain ⟨iW, iN, iP, iB, iS, iL, zW, zN, zS, wW, wN, wL, oW, oN, cW, cP, cS, cL, cK, cT0, cT1, cT2⟩ := h
    exact ⟨iW, iN, iP, iB, iS, iL, zW, zN, zS, wW, wN, wL, oW, oN, cW, cP, cS, rIn_put cL (by decide), cK, cT0, cT1, cT2⟩
  · show (bB a).1 < 24 ∨ fp (bB a) (bkF a) (bkG a) < (bB a).1
    rw [Bool.or_eq_true, decide_eq_true_eq] at hc
    rcases hc with hc | hc
    · exact Or.inl hc
    · exact Or.inr (of_decide_eq_true hc)
theorem iTk (h : BkI T a) (ht : isW t = true) (hT : T < 2147483647) : BkI (T + 1) (tkA a t) := by
  unfold tkA
  by_cases q : hasW a t = true
  · rw [if_pos q]; exact BkI_mono (iRaise h (of_decide_eq_true q)) (by omega)
  · rw [if_neg q]
    by_cases q2 : hasN a t = true
    · rw [if_pos q2]; exact BkI_mono h (by omega)
    · rw [if_neg q2]
      by_cases q3 : oth a t = -1
      · rw [if_pos q3]; exact iStr h ht hT
      · rw [if_neg q3]; exact BkI_mono (iRec h ht) (by omega)
end IB

