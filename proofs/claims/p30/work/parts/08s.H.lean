/-! history -/
def frR (x : Nat) (R R' : MR) : Prop := ∀ q, ¬ q = x → R' q = R q
def HsS (R : MR) (S : Sh) (h : Nat) (π : Nat → Nat) : Prop := S.1 h = 2 ∧ S.1 (h + 1) = 33 ∧ S.2.1 (h + 1) = 4 ∧ R h 0 = .ref (h + 1) ∧ (∀ i, i < 4 → R (h + 1) i = .ref (π i)) ∧ (∀ i, i < 4 → BkS R S (π i) ∧ h + 1 < π i ∧ π i + 26 ≤ h + 109) ∧ (∀ i j, i < 4 → j < 4 → ¬ i = j → π i + 26 < π j ∨ π j + 26 < π i)
def HsD (I : MI) (J : MJ) (h : Nat) (π : Nat → Nat) (s : Nat → Bk) (n : Nat) : Prop := I h 1 = nI n ∧ n ≤ 4 ∧ ∀ i, i < n → BkD I J (π i) (s i) ∧ BkF (s i)
def svS (s : Nat → Bk) (n : Nat) (a : Bk) : Nat → Bk := if n = 4 then (fun i => if i = 3 then a else s (i + 1)) else fun i => if i = n then a else s i
def svN (n : Nat) : Nat := if n = 4 then 4 else n + 1
section HH
variable {I : MI} {J : MJ} {R R' : MR} {S : Sh} {Q : SkQ} {h B b cap n : Nat} {a : Bk} {π : Nat → Nat} {s : Nat → Bk}
theorem frR_rfl {x : Nat} : frR x R R := fun _ _ => by simp
theorem RwS_R (hS : RwS R S b cap) (hR : R' b = R b) : RwS R' S b cap := by
  unfold RwS at hS ⊢
  rw [hR]
  exact hS
theorem BkS_R (hS : BkS R S B) (hR : ∀ q, B ≤ q → q ≤ B + 26 → R' q = R q) : BkS R' S B := by
  obtain ⟨s0, sW, sN, sP, sB, sS, sL, sK, sT, nK, nT, r0, r1, r2, r3, r4, r5, r6, r7⟩ := hS
  have e := hR B (by omega) (by omega)
  exact ⟨s0, RwS_R sW (hR _ (by omega) (by omega)), RwS_R sN (hR _ (by omega) (by omega)), RwS_R sP (hR _ (by omega) (by omega)), RwS_R sB (hR _ (by omega) (by omega)), RwS_R sS (hR _ (by omega) (by omega)), RwS_R sL (hR _ (by omega) (by omega)), sK, sT, nK, nT, by rw [e]; exact r0, by rw [e]; exact r1, by rw [e]; exact r2, by rw [e]; exact r3, by rw [e]; exact r4, by rw [e]; exact r5, by rw [e]; exact r6, by rw [e]; exact r7⟩
theorem c_H_size (s0 : S.1 h = 2) : Wp 143 0 [.ref h] [] I J R S Q = Q 0 (some (.int (I h 1))) I J R S := by
  simp only [x_H_size_0, x_H_size_1, x_H_size_4, s0]
theorem c_H_savedAt (hS : HsS R S h π) {i : Nat} (hi : i < 4) : Wp 147 0 [.ref h, .int (nI i)] [] I J R S Q = Q 0 (some (.ref (π i))) I J R S := by
  obtain ⟨s0, s1, n1, r0, rp, -, -⟩ := hS
  have e1 : ¬ nI i < 0 := nI_pos (by omega)
  have e2 : nI i < 4 := by rw [show (4 : Int32) = nI 4 by decide]; exact nI_lt hi (by omega)
  have e3 := inb_nI hi (by omega)
  have e4 : ix (nI i) = i := ix_nI (by omega)
  simp only [x_H_savedAt_0, x_H_savedAt_1, x_H_savedAt_4, x_H_savedAt_5, x_H_savedAt_6, x_H_savedAt_9, x_H_savedAt_10, x_H_savedAt_13, x_H_savedAt_14, x_H_savedAt_15, x_H_savedAt_18, x_H_savedAt_19, x_H_savedAt_19N, s0, s1, n1, r0, e1, e2, e3, e4, rp i hi, true_or, bI_0, bI_t, bI_f, e10, isA30, isA31, isA33, isA40, isA42, isA43, rOkB0, rOkB1, rOkB, Ret_v, Ret_n, cmp_eq, cmp_lt, cmp_gt, nI_1, eq_self, if_true, if_false, reduceIte]
theorem l_H_forget (hS : HsS R S h π) : ∀ (k i : Nat) (R1 : MR), i + k = 4 → 1 ≤ i → frR (h + 1) R R1 → (∀ l, l < 4 → R1 (h + 1) l = if l + 1 < i then .ref (π (l + 1)) else .ref (π l)) → (∀ R2, frR (h + 1) R R2 → (∀ l, l < 4 → R2 (h + 1) l = if l = 3 then .ref (π 0) else .ref (π (l + 1))) → Q 0 none (u2 I h 1 3) J R2 S) → Wp 145 9 [.ref h, .ref (π 0), .int (nI i)] [] I J R1 S Q := by
  obtain ⟨s0, s1, n1, r0, rp, rb, ra⟩ := hS
  intro k
  induction k with
  | zero =>
    intro i R1 hi h1 hR hl hQ
    have e2 : ¬ nI i < 4 := by rw [show (4 : Int32) = nI 4 by decide]; exact nI_nlt (by omega) (by omega)
    have rr : R1 h 0 = .ref (h + 1) := by rw [hR h (by omega)]; exact r0
    have e3 : inb 3 4 = true := by decide
    have e4 : ix 3 = 3 := by decide
    rw [x_H_forgetOldest_9]
    simp only [x_H_forgetOldest_0, x_H_forgetOldest_1, x_H_forgetOldest_4, x_H_forgetOldest_5, x_H_forgetOldest_6, x_H_forgetOldest_7, x_H_forgetOldest_8, x_H_forgetOldest_10, x_H_forgetOldest_11, x_H_forgetOldest_14, x_H_forgetOldest_15, x_H_forgetOldest_18, x_H_forgetOldest_19, x_H_forgetOldest_20, x_H_forgetOldest_21, x_H_forgetOldest_22, x_H_forgetOldest_25, x_H_forgetOldest_26, x_H_forgetOldest_27, x_H_forgetOldest_28, x_H_forgetOldest_31, x_H_forgetOldest_34, x_H_forgetOldest_35, x_H_forgetOldest_38, x_H_forgetOldest_39, x_H_forgetOldest_40, x_H_forgetOldest_41, x_H_forgetOldest_42, x_H_forgetOldest_43, x_H_forgetOldest_46, s0, s1, n1, rr, e2, e3, e4, (rb 0 (by omega)).1.1, bI_0, bI_t, bI_f, e10, isA30, isA31, isA33, isA40, isA42, isA43, rOkB0, rOkB1, rOkB, Ret_v, Ret_n, cmp_eq, cmp_lt, cmp_gt, nI_1, eq_self, if_true, if_false, reduceIte]
    refine hQ _ (fun q hq => by rw [u2_p hq]; exact hR q hq) (fun l hl4 => ?_)
    by_cases q : l = 3
    · rw [if_pos q, q, u2_eq]
    · rw [if_neg q, u2_of (by omega), hl l hl4, if_pos (by omega)]
  | succ k ih =>
    intro i R1 hi h1 hR hl hQ
    have e2 : nI i < 4 := by rw [show (4 : Int32) = nI 4 by decide]; exact nI_lt (by omega) (by omega)
    have rr : R1 h 0 = .ref (h + 1) := by rw [hR h (by omega)]; exact r0
    have e3 := inb_nI (i := i) (n := 4) (by omega) (by omega)
    have e4 : ix (nI i) = i := ix_nI (by omega)
    have e5 : nI i - 1 = nI (i - 1) := nI_sub (b := 1) (by omega)
    have e6 := inb_nI (i := i - 1) (n := 4) (by omega) (by omega)
    have e7 : ix (nI (i - 1)) = i - 1 := ix_nI (by omega)
    have ri := hl i (by omega)
    rw [if_neg (by omega)] at ri
    rw [x_H_forgetOldest_9]
    simp only [x_H_forgetOldest_0, x_H_forgetOldest_1, x_H_forgetOldest_4, x_H_forgetOldest_5, x_H_forgetOldest_6, x_H_forgetOldest_7, x_H_forgetOldest_8, x_H_forgetOldest_10, x_H_forgetOldest_11, x_H_forgetOldest_14, x_H_forgetOldest_15, x_H_forgetOldest_18, x_H_forgetOldest_19, x_H_forgetOldest_20, x_H_forgetOldest_21, x_H_forgetOldest_22, x_H_forgetOldest_25, x_H_forgetOldest_26, x_H_forgetOldest_27, x_H_forgetOldest_28, x_H_forgetOldest_31, x_H_forgetOldest_34, x_H_forgetOldest_35, x_H_forgetOldest_38, x_H_forgetOldest_39, x_H_forgetOldest_40, x_H_forgetOldest_41, x_H_forgetOldest_42, x_H_forgetOldest_43, x_H_forgetOldest_46, s0, s1, n1, rr, e2, e3, e4, e5, e6, e7, ri, (rb i (by omega)).1.1, true_or, nI_1', bI_0, bI_t, bI_f, e10, isA30, isA31, isA33, isA40, isA42, isA43, rOkB0, rOkB1, rOkB, Ret_v, Ret_n, cmp_eq, cmp_lt, cmp_gt, nI_1, eq_self, if_true, if_false, reduceIte]
    refine ih (i + 1) _ (by omega) (by omega) (fun q hq => by rw [u2_p hq]; exact hR q hq) (fun l hl4 => ?_) hQ
    by_cases q : l = i - 1
    · rw [q, u2_eq, if_pos (by omega), show i - 1 + 1 = i by omega]
    · rw [u2_of (by omega), hl l hl4]
      by_cases q2 : l + 1 < i
      · rw [if_pos q2, if_pos (by omega)]
      · rw [if_neg q2, if_neg (by omega)]
theorem c_H_forget (hS : HsS R S h π) (hQ : ∀ R2, frR (h + 1) R R2 → (∀ l, l < 4 → R2 (h + 1) l = if l = 3 then .ref (π 0) else .ref (π (l + 1))) → Q 0 none (u2 I h 1 3) J R2 S) : Wp 145 0 [.ref h, nov, nov] [] I J R S Q := by
  have l := l_H_forget (Q := Q) (I := I) (J := J) hS 3 1 R (by omega) (by omega) frR_rfl (fun l hl => by rw [if_neg (by omega)]; exact hS.2.2.2.2.1 l hl) hQ
  obtain ⟨s0, s1, n1, r0, rp, rb, ra⟩ := hS
  have e3 : inb 0 4 = true := by decide
  have e4 : ix 0 = 0 := by decide
  rw [show nI 1 = 1 by decide] at l
  simp only [x_H_forgetOldest_0, x_H_forgetOldest_1, x_H_forgetOldest_4, x_H_forgetOldest_5, x_H_forgetOldest_6, x_H_forgetOldest_7, x_H_forgetOldest_8, x_H_forgetOldest_10, x_H_forgetOldest_11, x_H_forgetOldest_14, x_H_forgetOldest_15, x_H_forgetOldest_18, x_H_forgetOldest_19, x_H_forgetOldest_20, x_H_forgetOldest_21, x_H_forgetOldest_22, x_H_forgetOldest_25, x_H_forgetOldest_26, x_H_forgetOldest_27, x_H_forgetOldest_28, x_H_forgetOldest_31, x_H_forgetOldest_34, x_H_forgetOldest_35, x_H_forgetOldest_38, x_H_forgetOldest_39, x_H_forgetOldest_40, x_H_forgetOldest_41, x_H_forgetOldest_42, x_H_forgetOldest_43, x_H_forgetOldest_46, s0, s1, n1, r0, e3, e4, rp 0 (by omega), true_or, bI_0, bI_t, bI_f, e10, isA30, isA31, isA33, isA40, isA42, isA43, rOkB0, rOkB1, rOkB, Ret_v, Ret_n, cmp_eq, cmp_lt, cmp_gt, nI_1, eq_self, if_true, if_false, reduceIte]
  exact l
end HH

