/-! the law's loop -/
def thS (S S' : Sh) (d : Nat) : Prop := S'.1 = S.1 ∧ S'.2.1 = S.2.1 ∧ S'.2.2.1 = S.2.2.1 ∧ S'.2.2.2.1 ≤ S.2.2.2.1 + d ∧ S'.2.2.2.2 ≤ S.2.2.2.2 + 6 * d
section LY
variable {I I' : MI} {J J' : MJ} {R R' : MR} {S : Sh} {Q : SkQ} {T T' n l : Nat} {z : Zs} {i : Int32} {l5 l6 : Value}
theorem and31 (x : Int32) : ∃ k, k < 32 ∧ x &&& 31 = nI k := by
  refine ⟨(x.toBitVec &&& 31#32).toNat, ?_, ?_⟩
  · rw [BitVec.toNat_and]
    exact Nat.lt_of_le_of_lt Nat.and_le_right (by decide)
  · rw [← Int32.toBitVec_inj]
    show (x &&& 31).toBitVec = (Int32.ofNat _).toBitVec
    rw [Int32.toBitVec_and]
    show x.toBitVec &&& 31#32 = BitVec.ofNat 32 _
    rw [BitVec.ofNat_toNat, BitVec.setWidth_eq]
theorem head5 {L j : Nat} (hL : L < 100000) (hj : j < 100000) : (nI L - 5 < nI (5 * j)) ↔ L < 5 * j + 5 := by
  have e5 : (5 : Int32).toInt = 5 := by decide
  rw [Int32.lt_iff_toInt_lt, Int32.toInt_sub, nI_toInt (by omega), nI_toInt (by omega), e5, Int.bmod_eq_of_le (by omega) (by omega)]
  omega
theorem l_law : ∀ (d j T : Nat) (z : Zs) (I : MI) (J : MJ) (R : MR) (S : Sh) (l5 l6 : Value), S.2.1 34 < 5 * j + 5 * d + 5 → S.2.1 34 ≤ 2560 → j ≤ 512 → T + 150 * (d + 1) < 2147483647 → KZ I J R S T z → MZ I J R S z → S.1 198 = 31 → S.2.1 198 = 1 → S.1 34 = 40 → (∀ I' J' R' S', thS S S' d → Q 0 (some (.int 1)) I' J' R' S') → Wp 23 23 [.ref 34, .ref 35, .ref 187, .ref 198, .int (nI (5 * j)), l5, l6, nov] [] I J R S Q := by
  intro d
  induction d with
  | zero =>
    intro j T z I J R S l5 l6 hd hL hj hT hK hM h8 h9 h4 hQ
    have hb : nI (S.2.1 34) - 5 < nI (5 * j) := (head5 (by omega) (by omega)).mpr (by omega)
    rw [x_L_law_23]
    simp only [x_L_law_25, x_L_law_26, x_L_law_27, x_L_law_28, x_L_law_29, x_L_law_2194, x_L_law_2195, h4, hb, bI_0, bI_t, bI_f, e10, isA30, isA31, isA33, isA40, isA42, isA43, rOkB0, rOkB1, rOkB, Ret_v, Ret_n, cmp_eq, cmp_lt, cmp_gt, nI_1, eq_self, if_true, if_false, reduceIte]
    exact hQ _ _ _ _ ⟨rfl, rfl, rfl, by omega, by omega⟩
  | succ d ih =>
    intro j T z I J R S l5 l6 hd hL hj hT hK hM h8 h9 h4 hQ
    rw [x_L_law_23]
    by_cases hc : S.2.1 34 < 5 * j + 5
    · have hb : nI (S.2.1 34) - 5 < nI (5 * j) := (head5 (by omega) (by omega)).mpr hc
      simp only [x_L_law_25, x_L_law_26, x_L_law_27, x_L_law_28, x_L_law_29, x_L_law_2194, x_L_law_2195, h4, hb, bI_0, bI_t, bI_f, e10, isA30, isA31, isA33, isA40, isA42, isA43, rOkB0, rOkB1, rOkB, Ret_v, Ret_n, cmp_eq, cmp_lt, cmp_gt, nI_1, eq_self, if_true, if_false, reduceIte]
      exact hQ _ _ _ _ ⟨rfl, rfl, rfl, by omega, by omega⟩
    · have hb : ¬ nI (S.2.1 34) - 5 < nI (5 * j) := fun q => hc ((head5 (by omega) (by omega)).mp q)
      have hi : In5 S (nI (5 * j)) := by
        refine ⟨inb_nI (by omega) (by omega), ?_, ?_, ?_, ?_⟩
        · rw [show (1 : Int32) = nI 1 by decide, nI_plus]; exact inb_nI (by omega) (by omega)
        · rw [show (2 : Int32) = nI 2 by decide, nI_plus]; exact inb_nI (by omega) (by omega)
        · rw [show (3 : Int32) = nI 3 by decide, nI_plus]; exact inb_nI (by omega) (by omega)
        · rw [show (4 : Int32) = nI 4 by decide, nI_plus]; exact inb_nI (by omega) (by omega)
      have i0 := hi.1
      have e5 : nI (5 * j) + 5 = nI (5 * (j + 1)) := by rw [show (5 : Int32) = nI 5 by decide, nI_plus]; rfl
      have hl : Lq I J R S T (nI (5 * j)) Q := by
        intro I' J' R' S' z' m5 m6 hK' hM' e34 hs
        rw [x_L_law_2188, x_L_law_2191, e5]
        have q1 : S'.1 = S.1 ∧ S'.2.1 = S.2.1 ∧ S'.2.2.1 = S.2.2.1 ∧ S'.2.2.2.1 ≤ S.2.2.2.1 + 1 ∧ S'.2.2.2.2 ≤ S.2.2.2.2 + 6 := by
          rcases hs with q | q <;> subst q
          · exact ⟨rfl, rfl, rfl, by omega, by omega⟩
          · exact ⟨rfl, rfl, rfl, Nat.le_refl _, Nat.le_refl _⟩
        obtain ⟨q1, q2, q3, q4, q5⟩ := q1
        refine ih (j + 1) (T + 150) z' I' J' R' S' m5 m6 (by rw [q2]; omega) (by rw [q2]; omega) (by omega) (by omega) hK' hM' (by rw [q1]; exact h8) (by rw [q2]; exact h9) (by rw [q1]; exact h4) ?_
        intro I2 J2 R2 S2 hs2
        obtain ⟨p1, p2, p3, p4, p5⟩ := hs2
        exact hQ _ _ _ _ ⟨p1.trans q1, p2.trans q2, p3.trans q3, by omega, by omega⟩
      simp only [x_L_law_25, x_L_law_26, x_L_law_27, x_L_law_28, x_L_law_29, x_L_law_32, x_L_law_33, x_L_law_35, x_L_law_35C, x_L_law_36, x_L_law_38, h4, hb, i0, bI_0, bI_t, bI_f, e10, isA30, isA31, isA33, isA40, isA42, isA43, rOkB0, rOkB1, rOkB, Ret_v, Ret_n, cmp_eq, cmp_lt, cmp_gt, nI_1, eq_self, if_true, if_false, reduceIte]
      obtain ⟨k, hk, e⟩ := and31 (I 34 (ix (nI (5 * j))))
      rw [e]
      rcases (show k = 0 ∨ k = 1 ∨ k = 2 ∨ k = 3 ∨ k = 4 ∨ k = 5 ∨ k = 6 ∨ k = 7 ∨ k = 8 ∨ k = 9 ∨ k = 10 ∨ k = 11 ∨ k = 12 ∨ k = 13 ∨ k = 14 ∨ k = 15 ∨ k = 16 ∨ k = 17 ∨ k = 18 ∨ k = 19 ∨ k = 20 ∨ k = 21 ∨ k = 22 ∨ k = 23 ∨ k = 24 ∨ k = 25 ∨ k = 26 ∨ (26 < k) by omega) with q | q | q | q | q | q | q | q | q | q | q | q | q | q | q | q | q | q | q | q | q | q | q | q | q | q | q | q
      · rw [q, show nI 0 = 0 by decide, x_L_law_39_0]
        exact g_0 hK hM h8 h9 h4 (by omega) hi hl
      · rw [q, show nI 1 = 1 by decide, x_L_law_39_1]
        exact g_1 hK hM h8 h9 h4 (by omega) hi hl
      · rw [q, show nI 2 = 2 by decide, x_L_law_39_2]
        exact g_2 hK hM h8 h9 h4 (by omega) hi hl
      · rw [q, show nI 3 = 3 by decide, x_L_law_39_3]
        exact g_3 hK hM h8 h9 h4 (by omega) hi hl
      · rw [q, show nI 4 = 4 by decide, x_L_law_39_4]
        exact g_4 hK hM h8 h9 h4 (by omega) hi hl
      · rw [q, show nI 5 = 5 by decide, x_L_law_39_5]
        exact g_5 hK hM h8 h9 h4 (by omega) hi hl
      · rw [q, show nI 6 = 6 by decide, x_L_law_39_6]
        exact g_6 hK hM h8 h9 h4 (by omega) hi hl
      · rw [q, show nI 7 = 7 by decide, x_L_law_39_7]
        exact g_7 hK hM h8 h9 h4 (by omega) hi hl
      · rw [q, show nI 8 = 8 by decide, x_L_law_39_8]
        exact g_8 hK hM h8 h9 h4 (by omega) hi hl
      · rw [q, show nI 9 = 9 by decide, x_L_law_39_9]
        exact g_9 hK hM h8 h9 h4 (by omega) hi hl
      · rw [q, show nI 10 = 10 by decide, x_L_law_39_10]
        exact g_10 hK hM h8 h9 h4 (by omega) hi hl
      · rw [q, show nI 11 = 11 by decide, x_L_law_39_11]
        exact g_11 hK hM h8 h9 h4 (by omega) hi hl
      · rw [q, show nI 12 = 12 by decide, x_L_law_39_12]
        exact g_12 hK hM h8 h9 h4 (by omega) hi hl
      · rw [q, show nI 13 = 13 by decide, x_L_law_39_13]
        exact g_13 hK hM h8 h9 h4 (by omega) hi hl
      · rw [q, show nI 14 = 14 by decide, x_L_law_39_14]
        exact g_14 hK hM h8 h9 h4 (by omega) hi hl
      · rw [q, show nI 15 = 15 by decide, x_L_law_39_15]
        exact g_15 hK hM h8 h9 h4 (by omega) hi hl
      · rw [q, show nI 16 = 16 by decide, x_L_law_39_16]
        exact g_16 hK hM h8 h9 h4 (by omega) hi hl
      · rw [q, show nI 17 = 17 by decide, x_L_law_39_17]
        exact g_17 hK hM h8 h9 h4 (by omega) hi hl
      · rw [q, show nI 18 = 18 by decide, x_L_law_39_18]
        exact g_18 hK hM h8 h9 h4 (by omega) hi hl
      · rw [q, show nI 19 = 19 by decide, x_L_law_39_19]
        exact g_19 hK hM h8 h9 h4 (by omega) hi hl
      · rw [q, show nI 20 = 20 by decide, x_L_law_39_20]
        exact g_20 hK hM h8 h9 h4 (by omega) hi hl
      · rw [q, show nI 21 = 21 by decide, x_L_law_39_21]
        exact g_21 hK hM h8 h9 h4 (by omega) hi hl
      · rw [q, show nI 22 = 22 by decide, x_L_law_39_22]
        exact g_22 hK hM h8 h9 h4 (by omega) hi hl
      · rw [q, show nI 23 = 23 by decide, x_L_law_39_23]
        exact g_23 hK hM h8 h9 h4 (by omega) hi hl
      · rw [q, show nI 24 = 24 by decide, x_L_law_39_24]
        exact g_24 hK hM h8 h9 h4 (by omega) hi hl
      · rw [q, show nI 25 = 25 by decide, x_L_law_39_25]
        exact g_25 hK hM h8 h9 h4 (by omega) hi hl
      · rw [q, show nI 26 = 26 by decide, x_L_law_39_26]
        exact g_26 hK hM h8 h9 h4 (by omega) hi hl
      · rw [x_L_law_39_d (Or.inr (by rw [nI_toInt (by omega)]; omega))]
        exact hl I J R S z l5 l6 (KZ_T hK) hM rfl (.inl rfl)
end LY
