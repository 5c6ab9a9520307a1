/-! more that always holds of the book: pairs differ, strange words differ, pairs and corrections change a word -/
def pD (p : Rw) : Prop := ∀ i j, i < j → j < p.1 → ¬ (p.2.1 i = p.2.1 j ∧ p.2.2.1 i = p.2.2.1 j)
def pN (p : Rw) : Prop := ∀ i, i < p.1 → ¬ p.2.1 i = p.2.2.1 i
def sD (p : Rw) : Prop := ∀ i j, i < j → j < p.1 → ¬ p.2.1 i = p.2.1 j
def BkJ (a : Bk) : Prop := rWd (bP a) ∧ pD (bP a) ∧ pN (bP a) ∧ pN (bL a) ∧ sD (bS a)
section JA
variable {p : Rw} {w u t : Int64} {k m : Nat} {c : Int32}
theorem fp_le : fp p w u ≤ p.1 := by
  have := fd_le (p := fun i => decide (p.2.1 i = w) && decide (p.2.2.1 i = u)) p.1 0
  unfold fp
  omega
theorem fp_hit (h : fp p w u < p.1) : p.2.1 (fp p w u) = w ∧ p.2.2.1 (fp p w u) = u := by
  have h2 : (decide (p.2.1 (fp p w u) = w) && decide (p.2.2.1 (fp p w u) = u)) = true := fd_hit (p := fun i => decide (p.2.1 i = w) && decide (p.2.2.1 i = u)) p.1 0 (by unfold fp at h; omega)
  rw [Bool.and_eq_true] at h2
  exact ⟨of_decide_eq_true h2.1, of_decide_eq_true h2.2⟩
theorem fp_no {j : Nat} (h : j < fp p w u) : ¬ (p.2.1 j = w ∧ p.2.2.1 j = u) := by
  have h2 : (decide (p.2.1 j = w) && decide (p.2.2.1 j = u)) = false := fd_no (p := fun i => decide (p.2.1 i = w) && decide (p.2.2.1 i = u)) p.1 0 j (Nat.zero_le _) h
  intro q
  rw [decide_eq_true q.1, decide_eq_true q.2] at h2
  cases h2
theorem fw_in {i : Nat} (h : i < p.1) (e : p.2.1 i = w) : fw p w < p.1 := by
  by_cases q : fw p w < p.1
  · exact q
  · exact absurd e (fw_no (by omega))
theorem fp_in {i : Nat} (h : i < p.1) (e : p.2.1 i = w ∧ p.2.2.1 i = u) : fp p w u < p.1 := by
  by_cases q : fp p w u < p.1
  · exact q
  · exact absurd e (fp_no (by omega))
theorem pD_del (h : pD p) : pD (rDel p k) := by
  intro i j hij hj
  have hj : j < p.1 - 1 := hj
  show ¬ ((if i < k then p.2.1 i else p.2.1 (i + 1)) = (if j < k then p.2.1 j else p.2.1 (j + 1)) ∧ (if i < k then p.2.2.1 i else p.2.2.1 (i + 1)) = (if j < k then p.2.2.1 j else p.2.2.1 (j + 1)))
  by_cases a1 : i < k
  · rw [if_pos a1, if_pos a1]
    by_cases b1 : j < k
    · rw [if_pos b1, if_pos b1]; exact h _ _ hij (by omega)
    · rw [if_neg b1, if_neg b1]; exact h _ _ (by omega) (by omega)
  · have b1 : ¬ j < k := by omega
    rw [if_neg a1, if_neg a1, if_neg b1, if_neg b1]
    exact h _ _ (by omega) (by omega)
theorem sD_del (h : sD p) : sD (rDel p k) := by
  intro i j hij hj
  have hj : j < p.1 - 1 := hj
  show ¬ ((if i < k then p.2.1 i else p.2.1 (i + 1)) = (if j < k then p.2.1 j else p.2.1 (j + 1)))
  by_cases a1 : i < k
  · rw [if_pos a1]
    by_cases b1 : j < k
    · rw [if_pos b1]; exact h _ _ hij (by omega)
    · rw [if_neg b1]; exact h _ _ (by omega) (by omega)
  · have b1 : ¬ j < k := by omega
    rw [if_neg a1, if_neg b1]
    exact h _ _ (by omega) (by omega)
theorem pN_del (h : pN p) : pN (rDel p k) := by
  intro i hi
  have hi : i < p.1 - 1 := hi
  show ¬ ((if i < k then p.2.1 i else p.2.1 (i + 1)) = (if i < k then p.2.2.1 i else p.2.2.1 (i + 1)))
  by_cases a1 : i < k
  · rw [if_pos a1, if_pos a1]; exact h _ (by omega)
  · rw [if_neg a1, if_neg a1]; exact h _ (by omega)
theorem pD_ins (h : pD p) (hn : ∀ i, i < p.1 → ¬ (p.2.1 i = w ∧ p.2.2.1 i = u)) : pD (rIns p p.1 w u c) := by
  intro i j hij hj
  have hj : j < p.1 + 1 := hj
  have a1 : i < p.1 := by omega
  show ¬ ((if i < p.1 then p.2.1 i else if i = p.1 then w else p.2.1 (i - 1)) = (if j < p.1 then p.2.1 j else if j = p.1 then w else p.2.1 (j - 1)) ∧ (if i < p.1 then p.2.2.1 i else if i = p.1 then u else p.2.2.1 (i - 1)) = (if j < p.1 then p.2.2.1 j else if j = p.1 then u else p.2.2.1 (j - 1)))
  rw [if_pos a1, if_pos a1]
  by_cases b1 : j < p.1
  · rw [if_pos b1, if_pos b1]; exact h _ _ hij b1
  · have b2 : j = p.1 := by omega
    rw [if_neg b1, if_neg b1, if_pos b2, if_pos b2]; exact hn _ a1
theorem sD_ins (h : sD p) (hn : ∀ i, i < p.1 → ¬ p.2.1 i = w) : sD (rIns p p.1 w u c) := by
  intro i j hij hj
  have hj : j < p.1 + 1 := hj
  have a1 : i < p.1 := by omega
  show ¬ ((if i < p.1 then p.2.1 i else if i = p.1 then w else p.2.1 (i - 1)) = (if j < p.1 then p.2.1 j else if j = p.1 then w else p.2.1 (j - 1)))
  rw [if_pos a1]
  by_cases b1 : j < p.1
  · rw [if_pos b1]; exact h _ _ hij b1
  · have b2 : j = p.1 := by omega
    rw [if_neg b1, if_pos b2]; exact hn _ a1
theorem pN_ins (h : pN p) (hw : ¬ w = u) : pN (rIns p p.1 w u c) := by
  intro i hi
  have hi : i < p.1 + 1 := hi
  show ¬ ((if i < p.1 then p.2.1 i else if i = p.1 then w else p.2.1 (i - 1)) = (if i < p.1 then p.2.2.1 i else if i = p.1 then u else p.2.2.1 (i - 1)))
  by_cases b1 : i < p.1
  · rw [if_pos b1, if_pos b1]; exact h _ b1
  · have b2 : i = p.1 := by omega
    rw [if_neg b1, if_neg b1, if_pos b2, if_pos b2]; exact hw
theorem del_from {i : Nat} (hi : i < (rDel p k).1) : ∃ j, j < p.1 ∧ (rDel p k).2.1 i = p.2.1 j ∧ (rDel p k).2.2.1 i = p.2.2.1 j := by
  have hi : i < p.1 - 1 := hi
  show ∃ j, j < p.1 ∧ (if i < k then p.2.1 i else p.2.1 (i + 1)) = p.2.1 j ∧ (if i < k then p.2.2.1 i else p.2.2.1 (i + 1)) = p.2.2.1 j
  by_cases a1 : i < k
  · exact ⟨i, by omega, by rw [if_pos a1], by rw [if_pos a1]⟩
  · exact ⟨i + 1, by omega, by rw [if_neg a1], by rw [if_neg a1]⟩
theorem cut_from {i : Nat} (hi : i < (cut p m).1) : ∃ j, j < p.1 ∧ (cut p m).2.1 i = p.2.1 j ∧ (cut p m).2.2.1 i = p.2.2.1 j := by
  unfold cut at hi ⊢
  by_cases q : m ≤ p.1
  · rw [if_pos q] at hi ⊢; exact del_from hi
  · rw [if_neg q] at hi ⊢; exact ⟨i, hi, rfl, rfl⟩
theorem lrn_from {i : Nat} (hi : i < (lrnP p).1) : ∃ j, j < p.1 ∧ (lrnP p).2.1 i = p.2.1 j ∧ (lrnP p).2.2.1 i = p.2.2.1 j := by
  unfold lrnP at hi ⊢
  by_cases q : 24 ≤ p.1
  · rw [if_pos q] at hi ⊢; exact del_from hi
  · rw [if_neg q] at hi ⊢; exact ⟨i, hi, rfl, rfl⟩
theorem cut_N (h : pN p) : pN (cut p m) := by unfold cut; split; exact pN_del h; exact h
theorem cut_sD (h : sD p) : sD (cut p m) := by unfold cut; split; exact sD_del h; exact h
theorem lrn_D (h : pD p) : pD (lrnP p) := by unfold lrnP; split; exact pD_del h; exact h
theorem lrn_N (h : pN p) : pN (lrnP p) := by unfold lrnP; split; exact pN_del h; exact h
theorem lrn_Wd (h : rWd p) : rWd (lrnP p) := by unfold lrnP; split; exact rWd_del h; exact h
theorem strS_D (h : sD p) : sD (strS p t) := by
  unfold strS
  by_cases q : fw p t < p.1
  · rw [if_pos q]; exact h
  · rw [if_neg q]
    refine sD_ins (cut_sD h) (fun i hi e => ?_)
    obtain ⟨j, h1, h2, -⟩ := cut_from hi
    exact q (fw_in h1 (h2.symm.trans e))
end JA
section JB
variable {w u t : Int64} {k n : Nat} {c : Int32} {a : Bk} {s : Nat → Bk}
theorem jPutW (h : BkJ a) : BkJ (aPutW a w c) := by unfold aPutW; split <;> exact h
theorem jDelW (h : BkJ a) : BkJ (aDelW a w) := by unfold aDelW; split <;> exact h
theorem jPutN (h : BkJ a) : BkJ (aPutN a w) := by unfold aPutN; split <;> exact h
theorem jDelN (h : BkJ a) : BkJ (aDelN a w) := by unfold aDelN; split <;> exact h
theorem jBan (h : BkJ a) : BkJ (aBan a t w) := by unfold aBan; split <;> exact h
theorem jStk (h : BkJ a) : BkJ (aStk a k c) := h
theorem jSet (h : BkJ a) : BkJ (aSet a k c) := h
theorem jRaise (h : BkJ a) : BkJ (aRaise a w) := h
theorem jDelP (h : BkJ a) : BkJ (aDelP a t w) := by
  unfold aDelP
  split
  · obtain ⟨h1, h2, h3, h4, h5⟩ := h
    exact ⟨rWd_del h1, pD_del h2, pN_del h3, h4, h5⟩
  · exact h
theorem jStr (h : BkJ a) : BkJ (aStr a t) := by
  have g : sD (strP (bS a) t) := strS_D (t := t) h.2.2.2.2
  unfold aStr
  split
  · obtain ⟨h1, h2, h3, h4, h5⟩ := jPutN (w := t) h
    exact ⟨h1, h2, h3, h4, sD_del g⟩
  · obtain ⟨h1, h2, h3, h4, h5⟩ := h
    exact ⟨h1, h2, h3, h4, g⟩
theorem jLearn (h : BkJ a) (ht : isW t = true) (hn : ¬ t = w) : BkJ (aLearn a t w) := by
  obtain ⟨h1, h2, h3, h4, h5⟩ := h
  unfold aLearn
  by_cases q : fp (bP a) t w < (bP a).1
  · rw [if_pos q]; exact ⟨h1, h2, h3, h4, h5⟩
  · rw [if_neg q]
    refine ⟨rWd_ins (lrn_Wd h1) (Nat.le_refl _) ht, pD_ins (lrn_D h2) (fun i hi e => ?_), pN_ins (lrn_N h3) hn, h4, h5⟩
    obtain ⟨j, g1, g2, g3⟩ := lrn_from hi
    exact q (fp_in g1 ⟨g2.symm.trans e.1, g3.symm.trans e.2⟩)
theorem jRec (h : BkJ a) (ht : isW t = true) (hn : ¬ t = w) : BkJ (aRec a t w) := by
  unfold aRec
  refine jLearn ?_ ht hn
  obtain ⟨h1, h2, h3, h4, h5⟩ := h
  exact ⟨h1, h2, h3, pN_ins (cut_N h4) hn, h5⟩
theorem jBack (h : BkJ a) : BkJ (aBack a) := by
  unfold aBack
  refine jStr (jDelP (jBan ?_))
  exact h
theorem trs_or {f : Nat → Int32} {v : Nat → Bool} {g : Nat → Int64} : ∀ (k i : Nat) (m : Int32) (w : Int64), trs f v g m w i k = w ∨ ∃ j, i ≤ j ∧ j < i + k ∧ v j = true ∧ trs f v g m w i k = g j
  | 0, i, m, w => Or.inl (by simp only [trs])
  | k + 1, i, m, w => by
    simp only [trs]
    by_cases q : m < f i ∧ v i = true
    · rw [if_pos q]
      rcases trs_or k (i + 1) (f i) (g i) with h | ⟨j, h1, h2, h3, h4⟩
      · exact Or.inr ⟨i, by omega, by omega, q.2, h⟩
      · exact Or.inr ⟨j, by omega, by omega, h3, h4⟩
    · rw [if_neg q]
      rcases trs_or k (i + 1) m w with h | ⟨j, h1, h2, h3, h4⟩
      · exact Or.inl h
      · exact Or.inr ⟨j, by omega, by omega, h3, h4⟩
theorem sgg_or {L : Nat → Int32} {g : Nat → Int64} {r : Int32} : ∀ (k i : Nat), sgg L g n r i k = -1 ∨ ∃ j, i ≤ j ∧ j < i + k ∧ sgg L g n r i k = g j
  | 0, i => Or.inl (by simp only [sgg])
  | k + 1, i => by
    simp only [sgg]
    split
    · exact Or.inr ⟨i, by omega, by omega, rfl⟩
    · rcases sgg_or k (i + 1) with h | ⟨j, h1, h2, h3⟩
      · exact Or.inl h
      · exact Or.inr ⟨j, by omega, by omega, h3⟩
theorem trW_ne (h : BkJ a) (q : ¬ trW a t = -1) : ¬ t = trW a t := by
  unfold trW at q ⊢
  rcases trs_or (f := (bP a).2.2.2) (v := usb a t) (g := (bP a).2.2.1) (bP a).1 0 (bT a 1 - 1) (-1) with e | ⟨j, h1, h2, h3, h4⟩
  · exact absurd e q
  · intro e
    rw [h4] at e
    unfold usb at h3
    rw [Bool.and_eq_true, Bool.and_eq_true, decide_eq_true_eq] at h3
    exact h.2.2.1 j (by omega) (h3.1.1.trans e)
theorem sug_in {r : Int32} (q : ¬ sug a t r = -1) : ∃ j, j < (bW a).1 ∧ sug a t r = (bW a).2.1 j := by
  unfold sug at q ⊢
  rcases sgg_or (L := latL a t) (g := (bW a).2.1) (r := r) (n := (bW a).1) (bW a).1 0 with e | ⟨j, h1, h2, h3⟩
  · exact absurd e q
  · exact ⟨j, by omega, h3⟩
theorem sug_ne {r : Int32} (hw : ¬ hasW a t = true) (q : ¬ sug a t r = -1) : ¬ t = sug a t r := by
  obtain ⟨j, h1, h2⟩ := sug_in q
  intro e
  exact hw (decide_eq_true (fw_in h1 (h2.symm.trans e.symm)))
theorem oth_ne (h : BkJ a) (hw : ¬ hasW a t = true) (q : ¬ oth a t = -1) : ¬ t = oth a t := by
  unfold oth at q ⊢
  by_cases e : trW a t = -1
  · rw [if_pos e] at q ⊢; exact sug_ne hw q
  · rw [if_neg e]; exact trW_ne h e
theorem jTk (h : BkJ a) (ht : isW t = true) : BkJ (tkA a t) := by
  unfold tkA
  by_cases q : hasW a t = true
  · rw [if_pos q]; exact jRaise h
  · rw [if_neg q]
    by_cases q2 : hasN a t = true
    · rw [if_pos q2]; exact h
    · rw [if_neg q2]
      by_cases q3 : oth a t = -1
      · rw [if_pos q3]; exact jStr h
      · rw [if_neg q3]; exact jRec h ht (oth_ne h q q3)
/-- the book and the states that can come back -/
def Jz (a : Bk) (n : Nat) (s : Nat → Bk) : Prop := BkJ a ∧ ∀ i, i < n → BkJ (s i)
theorem svS_J (h : Jz a n s) {a' : Bk} (h' : BkJ a') : Jz a' (svN n) (svS s n a) := by
  refine ⟨h', fun i hi => ?_⟩
  unfold svN at hi
  unfold svS
  by_cases q : n = 4
  · rw [if_pos q] at hi
    rw [if_pos q]
    by_cases q2 : i = 3
    · rw [if_pos q2]; exact h.1
    · rw [if_neg q2]; exact h.2 _ (by omega)
  · rw [if_neg q] at hi
    rw [if_neg q]
    by_cases q2 : i = n
    · rw [if_pos q2]; exact h.1
    · rw [if_neg q2]; exact h.2 _ (by omega)
theorem bk0_J : BkJ bk0 := ⟨fun i hi => absurd hi (Nat.not_lt_zero i), fun i j _ hj => absurd hj (Nat.not_lt_zero j), fun i hi => absurd hi (Nat.not_lt_zero i), fun i hi => absurd hi (Nat.not_lt_zero i), fun i j _ hj => absurd hj (Nat.not_lt_zero j)⟩
end JB
