/-! what the changes of the book do to what is read -/
section JC
variable {p : Rw} {w u t : Int64} {k m n : Nat} {c : Int32} {T : Nat} {a : Bk}
theorem fw_at (h : srt p) (hk : k < p.1) : fw p (p.2.1 k) = k := by
  have h1 : fw p (p.2.1 k) < p.1 := fw_in hk rfl
  have h2 := fw_hit h1
  rcases Nat.lt_trichotomy (fw p (p.2.1 k)) k with q | q | q
  · have := h _ _ q hk
    rw [h2] at this
    omega
  · exact q
  · exact absurd rfl (fw_no q)
theorem fw_uq (h : sD p) (hk : k < p.1) (e : p.2.1 k = t) : fw p t = k := by
  have h1 : fw p t < p.1 := fw_in hk e
  have h2 := fw_hit h1
  rcases Nat.lt_trichotomy (fw p t) k with q | q | q
  · exact absurd (h2.trans e.symm) (h _ _ q hk)
  · exact q
  · exact absurd e (fw_no q)
theorem srt_ne (h : srt p) {i j : Nat} (hij : i < j) (hj : j < p.1) : ¬ p.2.1 i = p.2.1 j := fun e => by
  have := h _ _ hij hj
  rw [e] at this
  omega
theorem srt_sD (h : srt p) : sD p := fun _ _ hij hj => srt_ne h hij hj
theorem numW_at (h : srt p) (hk : k < p.1) : numW p (p.2.1 k) = p.2.2.2 k := by
  unfold numW
  rw [fw_at h hk, if_pos hk]
theorem numW_no (h : ¬ fw p t < p.1) : numW p t = 0 := if_neg h
theorem numW_in (h : fw p t < p.1) : numW p t = p.2.2.2 (fw p t) := if_pos h
theorem cnt_pos {f : Nat → Bool} : ∀ (k i j : Nat), i ≤ j → j < i + k → f j = true → 0 < cnt f i k
  | 0, i, j, h1, h2, _ => by omega
  | k + 1, i, j, h1, h2, h3 => by
    simp only [cnt]
    by_cases q : j = i
    · subst q
      rw [if_pos h3]
      omega
    · have := cnt_pos k (i + 1) j (by omega) (by omega) h3
      omega
theorem cntF_pos {i : Nat} (h : i < p.1) (hp : p.1 < 2 ^ 31) (e : p.2.1 i = t) : ¬ cntF p t < 1 := by
  have h1 : 0 < cnt (fun i => decide (p.2.1 i = t)) 0 p.1 := cnt_pos p.1 0 i (Nat.zero_le _) (by omega) (decide_eq_true e)
  have h2 := cnt_le (p := fun i => decide (p.2.1 i = t)) p.1 0
  unfold cntF
  rw [show (1 : Int32) = nI 1 by decide, nI_ltI (by omega) (by omega)]
  omega
theorem ins_1 : (rIns p p.1 w u c).2.1 p.1 = w := by
  show (if p.1 < p.1 then p.2.1 p.1 else if p.1 = p.1 then w else p.2.1 (p.1 - 1)) = w
  rw [if_neg (Nat.lt_irrefl _), if_pos rfl]
theorem ins_2 : (rIns p p.1 w u c).2.2.1 p.1 = u := by
  show (if p.1 < p.1 then p.2.2.1 p.1 else if p.1 = p.1 then u else p.2.2.1 (p.1 - 1)) = u
  rw [if_neg (Nat.lt_irrefl _), if_pos rfl]
theorem ins_3 : (rIns p p.1 w u c).2.2.2 p.1 = c := by
  show (if p.1 < p.1 then p.2.2.2 p.1 else if p.1 = p.1 then c else p.2.2.2 (p.1 - 1)) = c
  rw [if_neg (Nat.lt_irrefl _), if_pos rfl]
/-! corrections -/
theorem rec_L : bL (aRec a t w) = rIns (cut (bL a) 20) (cut (bL a) 20).1 t w 0 := by
  unfold aRec aLearn
  split <;> rfl
theorem rec_P (h : BkI T a) : ¬ cntF (bP (aRec a t w)) t < 1 := by
  have iP := h.2.2.1
  have l := lrnP_le iP
  unfold aRec aLearn
  by_cases q : fp (bP (bkL a (rIns (cut (bL a) 20) (cut (bL a) 20).1 t w 0))) t w < (bP (bkL a (rIns (cut (bL a) 20) (cut (bL a) 20).1 t w 0))).1
  · rw [if_pos q]
    have q : fp (bP a) t w < (bP a).1 := q
    exact cntF_pos (p := rPut (bP a) _ _) (i := fp (bP a) t w) q (by show (bP a).1 < _; omega) (fp_hit q).1
  · rw [if_neg q]
    exact cntF_pos (p := rIns (lrnP (bP a)) (lrnP (bP a)).1 t w 1) (i := (lrnP (bP a)).1) (Nat.lt_succ_self _) (by show (lrnP (bP a)).1 + 1 < _; omega) ins_1
theorem rec_n (h : (bL a).1 ≤ 20) : nI (bL (aRec a t w)).1 = (if nI (bL a).1 < 20 then nI (bL a).1 + 1 else 20) := by
  rw [rec_L]
  show nI ((cut (bL a) 20).1 + 1) = _
  have e : (nI (bL a).1 < 20) ↔ (bL a).1 < 20 := by rw [show (20 : Int32) = nI 20 by decide, nI_ltI (by omega) (by omega)]
  unfold cut
  by_cases q : 20 ≤ (bL a).1
  · rw [if_pos q, if_neg (fun z => by have := e.mp z; omega)]
    show nI ((bL a).1 - 1 + 1) = _
    rw [show (bL a).1 - 1 + 1 = 20 by omega]
    decide
  · rw [if_neg q, if_pos (e.mpr (by omega)), nI_1']
/-! words of the book -/
theorem raise_c (h : BkI T a) (q : hasW a t = true) : numW (bW (aRaise a t)) t = (if numW (bW a) t < 999 then numW (bW a) t + 1 else 999) := by
  have q : fw (bW a) t < (bW a).1 := of_decide_eq_true q
  have c := h.2.2.2.2.2.2.2.2.2.2.2.2.2.2.1 _ q
  have e : fw (rPut (bW a) (fw (bW a) t) (up1 ((bW a).2.2.2 (fw (bW a) t)) 999)) t = fw (bW a) t := rfl
  have e1 : ((bW a).2.2.2 (fw (bW a) t) + 1).toInt = ((bW a).2.2.2 (fw (bW a) t)).toInt + 1 := by
    rw [Int32.toInt_add, show (1 : Int32).toInt = 1 by decide]
    exact Int.bmod_eq_of_le (by omega) (by omega)
  have e9 : (999 : Int32).toInt = 999 := by decide
  show numW (rPut (bW a) (fw (bW a) t) (up1 ((bW a).2.2.2 (fw (bW a) t)) 999)) t = _
  rw [numW_in q]
  unfold numW
  rw [e, if_pos (show fw (bW a) t < (rPut (bW a) (fw (bW a) t) (up1 ((bW a).2.2.2 (fw (bW a) t)) 999)).1 from q)]
  show (if fw (bW a) t = fw (bW a) t then up1 ((bW a).2.2.2 (fw (bW a) t)) 999 else _) = _
  rw [if_pos rfl]
  unfold up1
  simp only [Int32.lt_iff_toInt_lt, e1, e9]
  by_cases z : ((bW a).2.2.2 (fw (bW a) t)).toInt < 999
  · rw [if_pos z, if_neg (by omega)]
  · rw [if_neg z, if_pos (by omega)]
theorem cntW_pos (h : BkI T a) (q : hasW a t = true) : 0 < numW (bW a) t := by
  have q : fw (bW a) t < (bW a).1 := of_decide_eq_true q
  have c := h.2.2.2.2.2.2.2.2.2.2.2.2.2.2.1 _ q
  rw [numW_in q, Int32.lt_iff_toInt_lt, Int32.toInt_zero]
  omega
theorem cntW_no (q : ¬ hasW a t = true) : numW (bW a) t = 0 := numW_no (fun z => q (decide_eq_true z))
/-! strange words -/
theorem strK_lt (h : (bS a).1 ≤ 20) : strK (bS a) t < (strS (bS a) t).1 := by
  unfold strS strK
  by_cases q : fw (bS a) t < (bS a).1
  · rw [if_pos q, if_pos q]; exact q
  · rw [if_neg q, if_neg q]; exact Nat.lt_succ_self _
theorem strS_at : (strS p t).2.1 (strK p t) = t := by
  unfold strS strK
  by_cases q : fw p t < p.1
  · rw [if_pos q, if_pos q]; exact fw_hit q
  · rw [if_neg q, if_neg q]; exact ins_1
theorem strC_n : strC p t = numW p t + 1 := by
  unfold strC strS strK
  by_cases q : fw p t < p.1
  · rw [if_pos q, if_pos q, numW_in q]
  · rw [if_neg q, if_neg q, numW_no q]
    congr 1
    exact ins_3
theorem strP_fw (hs : sD (bS a)) (h : (bS a).1 ≤ 20) : fw (strP (bS a) t) t = strK (bS a) t :=
  fw_uq (p := strP (bS a) t) (strS_D (t := t) hs) (strK_lt h) strS_at
theorem strP_num (hs : sD (bS a)) (h : (bS a).1 ≤ 20) : numW (strP (bS a) t) t = strC (bS a) t := by
  unfold numW
  rw [strP_fw hs h, if_pos (show strK (bS a) t < (strP (bS a) t).1 from strK_lt h)]
  show (if strK (bS a) t = strK (bS a) t then strC (bS a) t else _) = _
  rw [if_pos rfl]
theorem del_no (hs : sD p) (hk : k < p.1) (e : p.2.1 k = t) : ¬ fw (rDel p k) t < (rDel p k).1 := by
  intro z
  have z1 := fw_hit z
  have z2 : fw (rDel p k) t < p.1 - 1 := z
  have z3 : (if fw (rDel p k) t < k then p.2.1 (fw (rDel p k) t) else p.2.1 (fw (rDel p k) t + 1)) = t := z1
  by_cases q : fw (rDel p k) t < k
  · rw [if_pos q] at z3
    exact hs _ _ q hk (z3.trans e.symm)
  · rw [if_neg q] at z3
    exact hs _ _ (by omega) (by omega) (e.trans z3.symm)
theorem putN_has : hasN (aPutN a t) t = true := by
  unfold aPutN
  by_cases q : fw (bN a) t < (bN a).1
  · rw [if_pos q]; exact decide_eq_true q
  · rw [if_neg q]
    refine decide_eq_true (fw_in (p := rIns (bN a) (ahd (bN a) t) t 0 0) (i := ahd (bN a) t) ?_ ?_)
    · show ahd (bN a) t < (bN a).1 + 1
      have := ahd_le (p := bN a) (w := t)
      omega
    · show (if ahd (bN a) t < ahd (bN a) t then _ else if ahd (bN a) t = ahd (bN a) t then t else _) = t
      rw [if_neg (Nat.lt_irrefl _), if_pos rfl]
/-- a strange word: a name, and strange no more, or one time more -/
theorem str_or (hs : sD (bS a)) (h : (bS a).1 ≤ 20) : (numW (bS (aStr a t)) t = 0 ∧ hasN (aStr a t) t = true) ∨ numW (bS (aStr a t)) t = numW (bS a) t + 1 := by
  unfold aStr
  by_cases q : strC (bS a) t = bT a 2 ∧ (bN a).1 < 10
  · rw [if_pos q]
    left
    refine ⟨?_, ?_⟩
    · exact numW_no (p := rDel (strP (bS a) t) (strK (bS a) t)) (del_no (p := strP (bS a) t) (strS_D (t := t) hs) (strK_lt h) strS_at)
    · exact putN_has
  · rw [if_neg q]
    right
    exact (strP_num hs h).trans strC_n
theorem str_L : bL (aStr a t) = bL a := by
  unfold aStr aPutN
  split
  · split <;> rfl
  · rfl
theorem str_B : bB (aStr a t) = bB a := by
  unfold aStr aPutN
  split
  · split <;> rfl
  · rfl
/-! corrections that are undone -/
theorem lst_hit {f : Nat → Int32} : ∀ k, 0 < lst f k → f (lst f k - 1) = 0
  | 0, h => by simp [lst] at h
  | k + 1, h => by
    simp only [lst] at h ⊢
    by_cases q : f k = 0
    · rw [if_pos q]; exact q
    · rw [if_neg q] at h ⊢
      exact lst_hit k h
theorem smI_acc {f : Nat → Int32} : ∀ (k i : Nat) (c d : Int32), smI f (c + d) i k = smI f c i k + d
  | 0, i, c, d => by simp only [smI]
  | k + 1, i, c, d => by
    simp only [smI]
    rw [show c + d + f i = (c + f i) + d by rw [Int32.add_assoc, Int32.add_comm d, ← Int32.add_assoc]]
    exact smI_acc k (i + 1) (c + f i) d
theorem smI_put {f : Nat → Int32} {j : Nat} (hj : f j = 0) : ∀ (k i : Nat) (c : Int32), i ≤ j → j < i + k → smI (fun i => if i = j then 1 else f i) c i k = smI f c i k + 1
  | 0, i, c, h1, h2 => by omega
  | k + 1, i, c, h1, h2 => by
    simp only [smI]
    by_cases q : i = j
    · subst q
      rw [if_pos rfl, smI_acc, hj, Int32.add_zero]
      congr 1
      exact smI_congr k (i + 1) c (fun l h3 h4 => by rw [if_neg (by omega)])
    · rw [if_neg q]
      exact smI_put hj k (i + 1) _ (by omega) (by omega)
theorem back_L : bL (aBack a) = rPut (bL a) (late a - 1) 1 := by
  unfold aBack
  rw [str_L]
  unfold aDelP aBan
  split <;> split <;> rfl
theorem back_u (hc : canB a = true) : smI (bL (aBack a)).2.2.2 0 0 (bL (aBack a)).1 = smI (bL a).2.2.2 0 0 (bL a).1 + 1 := by
  unfold canB at hc
  rw [Bool.and_eq_true, decide_eq_true_eq] at hc
  have ll : late a ≤ (bL a).1 := lst_le _
  rw [back_L]
  exact smI_put (f := (bL a).2.2.2) (j := late a - 1) (lst_hit _ hc.1) (bL a).1 0 0 (Nat.zero_le _) (by omega)
theorem back_b (h : BkI T a) (hc : canB a = true) : ¬ cntF (bB (aBack a)) (bkF a) < 1 := by
  have iB := h.2.2.2.1
  unfold canB at hc
  rw [Bool.and_eq_true, decide_eq_true_eq, Bool.or_eq_true, decide_eq_true_eq] at hc
  have e : bB (aBack a) = bB (aBan (bkL a (rPut (bL a) (late a - 1) 1)) (bkF a) (bkG a)) := by
    unfold aBack
    rw [str_B]
    unfold aDelP
    split <;> rfl
  rw [e]
  unfold aBan
  by_cases q : fp (bB (bkL a (rPut (bL a) (late a - 1) 1))) (bkF a) (bkG a) < (bB (bkL a (rPut (bL a) (late a - 1) 1))).1
  · rw [if_pos q]
    have q : fp (bB a) (bkF a) (bkG a) < (bB a).1 := q
    exact cntF_pos (p := bB a) q (by omega) (fp_hit q).1
  · rw [if_neg q]
    exact cntF_pos (p := rIns (bB a) (bB a).1 (bkF a) (bkG a) 0) (i := (bB a).1) (Nat.lt_succ_self _) (by show (bB a).1 + 1 < _; omega) ins_1
theorem back_s (h : BkI T a) (hJ : BkJ a) (hT : T < 2147483647) : 0 < numW (bS (aBack a)) (bkF a) ∨ hasN (aBack a) (bkF a) = true := by
  have hs := hJ.2.2.2.2
  have iS := h.2.2.2.2.1
  have e : bS (aDelP (aBan (bkL a (rPut (bL a) (late a - 1) 1)) (bkF a) (bkG a)) (bkF a) (bkG a)) = bS a := by
    unfold aDelP aBan
    split <;> split <;> rfl
  unfold aBack
  rcases str_or (a := aDelP (aBan (bkL a (rPut (bL a) (late a - 1) 1)) (bkF a) (bkG a)) (bkF a) (bkG a)) (t := bkF a) (by rw [e]; exact hs) (by rw [e]; exact iS) with ⟨-, q⟩ | q
  · exact Or.inr q
  · left
    rw [q, e, Int32.lt_iff_toInt_lt, Int32.toInt_zero]
    have z : 0 ≤ (numW (bS a) (bkF a)).toInt ∧ (numW (bS a) (bkF a)).toInt ≤ T := by
      by_cases q : fw (bS a) (bkF a) < (bS a).1
      · rw [numW_in q]; exact h.2.2.2.2.2.2.2.2.2.2.2.2.2.2.2.2.1 _ q
      · rw [numW_no q, Int32.toInt_zero]; omega
    rw [Int32.toInt_add, show (1 : Int32).toInt = 1 by decide, Int.bmod_eq_of_le (by omega) (by omega)]
    omega
/-! words and names, put and taken -/
theorem putW_n (hs : srt (bW a)) (hr : roomW a w = true) : numW (bW (aPutW a w c)) w = c := by
  unfold aPutW
  by_cases q : fw (bW a) w < (bW a).1
  · rw [if_pos q]
    show numW (rPut (bW a) (fw (bW a) w) c) w = c
    unfold numW
    rw [show fw (rPut (bW a) (fw (bW a) w) c) w = fw (bW a) w from rfl, if_pos (show fw (bW a) w < (rPut (bW a) (fw (bW a) w) c).1 from q)]
    show (if fw (bW a) w = fw (bW a) w then c else _) = c
    rw [if_pos rfl]
  · rw [if_neg q]
    have al := ahd_le (p := bW a) (w := w)
    have e : fw (rIns (bW a) (ahd (bW a) w) w 0 c) w = ahd (bW a) w := by
      have i1 : (rIns (bW a) (ahd (bW a) w) w 0 c).2.1 (ahd (bW a) w) = w := by
        show (if ahd (bW a) w < ahd (bW a) w then _ else if ahd (bW a) w = ahd (bW a) w then w else _) = w
        rw [if_neg (Nat.lt_irrefl _), if_pos rfl]
      have i2 : fw (rIns (bW a) (ahd (bW a) w) w 0 c) w < (rIns (bW a) (ahd (bW a) w) w 0 c).1 := fw_in (i := ahd (bW a) w) (by show _ < (bW a).1 + 1; omega) i1
      have i3 := fw_hit i2
      have i2 : fw (rIns (bW a) (ahd (bW a) w) w 0 c) w < (bW a).1 + 1 := i2
      have i3 : (if fw (rIns (bW a) (ahd (bW a) w) w 0 c) w < ahd (bW a) w then (bW a).2.1 (fw (rIns (bW a) (ahd (bW a) w) w 0 c) w) else if fw (rIns (bW a) (ahd (bW a) w) w 0 c) w = ahd (bW a) w then w else (bW a).2.1 (fw (rIns (bW a) (ahd (bW a) w) w 0 c) w - 1)) = w := i3
      rcases Nat.lt_trichotomy (fw (rIns (bW a) (ahd (bW a) w) w 0 c) w) (ahd (bW a) w) with z | z | z
      · rw [if_pos z] at i3
        exact absurd (fw_in (p := bW a) (by omega) i3) q
      · exact z
      · exact absurd i1 (fw_no z)
    show numW (rIns (bW a) (ahd (bW a) w) w 0 c) w = c
    unfold numW
    rw [e, if_pos (show ahd (bW a) w < (rIns (bW a) (ahd (bW a) w) w 0 c).1 from by show _ < (bW a).1 + 1; omega)]
    show (if ahd (bW a) w < ahd (bW a) w then _ else if ahd (bW a) w = ahd (bW a) w then c else _) = c
    rw [if_neg (Nat.lt_irrefl _), if_pos rfl]
theorem delW_no (hs : srt (bW a)) : ¬ fw (bW (aDelW a w)) w < (bW (aDelW a w)).1 := by
  unfold aDelW
  by_cases q : fw (bW a) w < (bW a).1
  · rw [if_pos q]
    exact del_no (srt_sD hs) q (fw_hit q)
  · rw [if_neg q]; exact q
theorem delN_no (hs : srt (bN a)) : hasN (aDelN a w) w = false := by
  unfold aDelN
  by_cases q : fw (bN a) w < (bN a).1
  · rw [if_pos q]
    exact decide_eq_false (del_no (srt_sD hs) q (fw_hit q))
  · rw [if_neg q]; exact decide_eq_false q
theorem roomW_no (h : BkI T a) (hr : roomW a w = false) : hasW a w = false ∧ (bW a).1 = 20 := by
  unfold roomW at hr
  rw [Bool.or_eq_false_iff, decide_eq_false_iff_not] at hr
  exact ⟨hr.2, by have := h.1; omega⟩
end JC
