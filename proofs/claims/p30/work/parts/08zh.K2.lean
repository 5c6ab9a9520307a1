/-! faultOfText; the settings; where all of the class lies, what it holds -/
def okSet (k v : Int32) : Bool := (decide (k = 0) && !decide (v < 0) && !decide (12 < v)) || (decide (k = 1) && !decide (v < 1) && !decide (9 < v)) || (decide (k = 2) && !decide (v < 1) && !decide (5 < v))
def CnS (S : Sh) (I : MI) : Prop := S.1 0 = 40 ∧ S.1 1 = 40 ∧ S.2.1 0 = 3 ∧ S.2.1 1 = 3 ∧ I 0 0 = 0 ∧ I 0 1 = 1 ∧ I 0 2 = 1 ∧ I 1 0 = 12 ∧ I 1 1 = 9 ∧ I 1 2 = 5 ∧ True
section KB
variable {I : MI} {J : MJ} {R : MR} {S : Sh} {Q : SkQ} {sc n : Nat} {x : Nat → Int32} {k v : Int32}
theorem i32_3 {k : Int32} (h1 : ¬ k < 0) (h2 : k < 3) : k = 0 ∨ k = 1 ∨ k = 2 := by
  rw [Int32.lt_iff_toInt_lt] at h1 h2
  rw [← Int32.toInt_inj, ← Int32.toInt_inj, ← Int32.toInt_inj]
  have a : (0 : Int32).toInt = 0 := by decide
  have b : (1 : Int32).toInt = 1 := by decide
  have c : (2 : Int32).toInt = 2 := by decide
  have d : (3 : Int32).toInt = 3 := by decide
  omega
theorem c_K_isSetting (hC : CnS S I) : Wp 68 0 [.int k, .int v] [] I J R S Q = Q 0 (some (.int (bI (okSet k v)))) I J R S := by
  obtain ⟨k0, k1, n0, n1, a0, a1, a2, b0, b1, b2, -⟩ := hC
  have z3 : nI 3 = 3 := by decide
  by_cases h1 : k < 0
  · have e0 : ¬ k = 0 := fun e => by rw [e] at h1; exact absurd h1 (by decide)
    have e1 : ¬ k = 1 := fun e => by rw [e] at h1; exact absurd h1 (by decide)
    have e2 : ¬ k = 2 := fun e => by rw [e] at h1; exact absurd h1 (by decide)
    simp only [x_K_isSetting_0, x_K_isSetting_1, x_K_isSetting_4, x_K_isSetting_5, x_K_isSetting_8, x_K_isSetting_9, x_K_isSetting_12, x_K_isSetting_13, x_K_isSetting_16, x_K_isSetting_17, x_K_isSetting_20, x_K_isSetting_21, x_K_isSetting_22, x_K_isSetting_23, x_K_isSetting_26, x_K_isSetting_27, x_K_isSetting_27C, x_K_isSetting_28, x_K_isSetting_31, x_K_isSetting_32, x_K_isSetting_35, x_K_isSetting_36, x_K_isSetting_36C, x_K_isSetting_37, x_K_isSetting_40, x_K_isSetting_41, x_K_isSetting_44, x_K_isSetting_45, h1, okSet, e0, e1, e2, decide_false, Bool.false_and, Bool.or_self, bI_0, bI_t, bI_f, e10, isA30, isA31, isA33, isA40, isA42, isA43, rOkB0, rOkB1, rOkB, Ret_v, Ret_n, cmp_eq, cmp_lt, cmp_gt, nI_1, eq_self, if_true, if_false, reduceIte]
  · by_cases h2 : k < 3
    · have o0 : inb 0 3 = true := by decide
      have o1 : inb 1 3 = true := by decide
      have o2 : inb 2 3 = true := by decide
      have i0 : ix 0 = 0 := by decide
      have i1 : ix 1 = 1 := by decide
      have i2 : ix 2 = 2 := by decide
      have t0 : ¬ (0 : Int32) < 0 := by decide
      have t1 : ¬ (1 : Int32) < 0 := by decide
      have t2 : ¬ (2 : Int32) < 0 := by decide
      have s0 : (0 : Int32) < 3 := by decide
      have s1 : (1 : Int32) < 3 := by decide
      have s2 : (2 : Int32) < 3 := by decide
      have u0 : ¬ (1 : Int32) = 0 := by decide
      have u1 : ¬ (2 : Int32) = 0 := by decide
      have u2 : ¬ (2 : Int32) = 1 := by decide
      have u3 : ¬ (0 : Int32) = 1 := by decide
      have u4 : ¬ (0 : Int32) = 2 := by decide
      have u5 : ¬ (1 : Int32) = 2 := by decide
      rcases i32_3 h1 h2 with e | e | e <;> subst e
      · by_cases q1 : v < 0
        · simp only [x_K_isSetting_0, x_K_isSetting_1, x_K_isSetting_4, x_K_isSetting_5, x_K_isSetting_8, x_K_isSetting_9, x_K_isSetting_12, x_K_isSetting_13, x_K_isSetting_16, x_K_isSetting_17, x_K_isSetting_20, x_K_isSetting_21, x_K_isSetting_22, x_K_isSetting_23, x_K_isSetting_26, x_K_isSetting_27, x_K_isSetting_27C, x_K_isSetting_28, x_K_isSetting_31, x_K_isSetting_32, x_K_isSetting_35, x_K_isSetting_36, x_K_isSetting_36C, x_K_isSetting_37, x_K_isSetting_40, x_K_isSetting_41, x_K_isSetting_44, x_K_isSetting_45, okSet, k0, k1, n0, n1, z3, o0, i0, t0, s0, a0, b0, q1, u3, u4, decide_true, decide_false, Bool.not_true, Bool.true_and, Bool.false_and, Bool.or_self, bI_0, bI_t, bI_f, e10, isA30, isA31, isA33, isA40, isA42, isA43, rOkB0, rOkB1, rOkB, Ret_v, Ret_n, cmp_eq, cmp_lt, cmp_gt, nI_1, eq_self, if_true, if_false, reduceIte]
        · by_cases q2 : 12 < v <;> simp only [x_K_isSetting_0, x_K_isSetting_1, x_K_isSetting_4, x_K_isSetting_5, x_K_isSetting_8, x_K_isSetting_9, x_K_isSetting_12, x_K_isSetting_13, x_K_isSetting_16, x_K_isSetting_17, x_K_isSetting_20, x_K_isSetting_21, x_K_isSetting_22, x_K_isSetting_23, x_K_isSetting_26, x_K_isSetting_27, x_K_isSetting_27C, x_K_isSetting_28, x_K_isSetting_31, x_K_isSetting_32, x_K_isSetting_35, x_K_isSetting_36, x_K_isSetting_36C, x_K_isSetting_37, x_K_isSetting_40, x_K_isSetting_41, x_K_isSetting_44, x_K_isSetting_45, okSet, k0, k1, n0, n1, z3, o0, i0, t0, s0, a0, b0, q1, q2, u3, u4, decide_true, decide_false, Bool.not_true, Bool.not_false, Bool.true_and, Bool.false_and, Bool.or_self, Bool.or_false, Bool.and_false, bI_0, bI_t, bI_f, e10, isA30, isA31, isA33, isA40, isA42, isA43, rOkB0, rOkB1, rOkB, Ret_v, Ret_n, cmp_eq, cmp_lt, cmp_gt, nI_1, eq_self, if_true, if_false, reduceIte]
      · by_cases q1 : v < 1
        · simp only [x_K_isSetting_0, x_K_isSetting_1, x_K_isSetting_4, x_K_isSetting_5, x_K_isSetting_8, x_K_isSetting_9, x_K_isSetting_12, x_K_isSetting_13, x_K_isSetting_16, x_K_isSetting_17, x_K_isSetting_20, x_K_isSetting_21, x_K_isSetting_22, x_K_isSetting_23, x_K_isSetting_26, x_K_isSetting_27, x_K_isSetting_27C, x_K_isSetting_28, x_K_isSetting_31, x_K_isSetting_32, x_K_isSetting_35, x_K_isSetting_36, x_K_isSetting_36C, x_K_isSetting_37, x_K_isSetting_40, x_K_isSetting_41, x_K_isSetting_44, x_K_isSetting_45, okSet, k0, k1, n0, n1, z3, o1, i1, t1, s1, a1, b1, q1, u0, u5, decide_true, decide_false, Bool.not_true, Bool.true_and, Bool.and_true, Bool.and_false, Bool.false_and, Bool.or_self, bI_0, bI_t, bI_f, e10, isA30, isA31, isA33, isA40, isA42, isA43, rOkB0, rOkB1, rOkB, Ret_v, Ret_n, cmp_eq, cmp_lt, cmp_gt, nI_1, eq_self, if_true, if_false, reduceIte]
        · by_cases q2 : 9 < v <;> simp only [x_K_isSetting_0, x_K_isSetting_1, x_K_isSetting_4, x_K_isSetting_5, x_K_isSetting_8, x_K_isSetting_9, x_K_isSetting_12, x_K_isSetting_13, x_K_isSetting_16, x_K_isSetting_17, x_K_isSetting_20, x_K_isSetting_21, x_K_isSetting_22, x_K_isSetting_23, x_K_isSetting_26, x_K_isSetting_27, x_K_isSetting_27C, x_K_isSetting_28, x_K_isSetting_31, x_K_isSetting_32, x_K_isSetting_35, x_K_isSetting_36, x_K_isSetting_36C, x_K_isSetting_37, x_K_isSetting_40, x_K_isSetting_41, x_K_isSetting_44, x_K_isSetting_45, okSet, k0, k1, n0, n1, z3, o1, i1, t1, s1, a1, b1, q1, q2, u0, u5, decide_true, decide_false, Bool.not_true, Bool.not_false, Bool.true_and, Bool.false_and, Bool.or_self, Bool.or_false, Bool.false_or, Bool.and_false, bI_0, bI_t, bI_f, e10, isA30, isA31, isA33, isA40, isA42, isA43, rOkB0, rOkB1, rOkB, Ret_v, Ret_n, cmp_eq, cmp_lt, cmp_gt, nI_1, eq_self, if_true, if_false, reduceIte]
      · by_cases q1 : v < 1
        · simp only [x_K_isSetting_0, x_K_isSetting_1, x_K_isSetting_4, x_K_isSetting_5, x_K_isSetting_8, x_K_isSetting_9, x_K_isSetting_12, x_K_isSetting_13, x_K_isSetting_16, x_K_isSetting_17, x_K_isSetting_20, x_K_isSetting_21, x_K_isSetting_22, x_K_isSetting_23, x_K_isSetting_26, x_K_isSetting_27, x_K_isSetting_27C, x_K_isSetting_28, x_K_isSetting_31, x_K_isSetting_32, x_K_isSetting_35, x_K_isSetting_36, x_K_isSetting_36C, x_K_isSetting_37, x_K_isSetting_40, x_K_isSetting_41, x_K_isSetting_44, x_K_isSetting_45, okSet, k0, k1, n0, n1, z3, o2, i2, t2, s2, a2, b2, q1, u1, u2, decide_true, decide_false, Bool.not_true, Bool.true_and, Bool.and_true, Bool.and_false, Bool.false_and, Bool.or_self, bI_0, bI_t, bI_f, e10, isA30, isA31, isA33, isA40, isA42, isA43, rOkB0, rOkB1, rOkB, Ret_v, Ret_n, cmp_eq, cmp_lt, cmp_gt, nI_1, eq_self, if_true, if_false, reduceIte]
        · by_cases q2 : 5 < v <;> simp only [x_K_isSetting_0, x_K_isSetting_1, x_K_isSetting_4, x_K_isSetting_5, x_K_isSetting_8, x_K_isSetting_9, x_K_isSetting_12, x_K_isSetting_13, x_K_isSetting_16, x_K_isSetting_17, x_K_isSetting_20, x_K_isSetting_21, x_K_isSetting_22, x_K_isSetting_23, x_K_isSetting_26, x_K_isSetting_27, x_K_isSetting_27C, x_K_isSetting_28, x_K_isSetting_31, x_K_isSetting_32, x_K_isSetting_35, x_K_isSetting_36, x_K_isSetting_36C, x_K_isSetting_37, x_K_isSetting_40, x_K_isSetting_41, x_K_isSetting_44, x_K_isSetting_45, okSet, k0, k1, n0, n1, z3, o2, i2, t2, s2, a2, b2, q1, q2, u1, u2, decide_true, decide_false, Bool.not_true, Bool.not_false, Bool.true_and, Bool.false_and, Bool.or_self, Bool.or_false, Bool.false_or, Bool.and_false, bI_0, bI_t, bI_f, e10, isA30, isA31, isA33, isA40, isA42, isA43, rOkB0, rOkB1, rOkB, Ret_v, Ret_n, cmp_eq, cmp_lt, cmp_gt, nI_1, eq_self, if_true, if_false, reduceIte]
    · have e0 : ¬ k = 0 := fun e => by rw [e] at h2; exact h2 (by decide)
      have e1 : ¬ k = 1 := fun e => by rw [e] at h2; exact h2 (by decide)
      have e2 : ¬ k = 2 := fun e => by rw [e] at h2; exact h2 (by decide)
      simp only [x_K_isSetting_0, x_K_isSetting_1, x_K_isSetting_4, x_K_isSetting_5, x_K_isSetting_8, x_K_isSetting_9, x_K_isSetting_12, x_K_isSetting_13, x_K_isSetting_16, x_K_isSetting_17, x_K_isSetting_20, x_K_isSetting_21, x_K_isSetting_22, x_K_isSetting_23, x_K_isSetting_26, x_K_isSetting_27, x_K_isSetting_27C, x_K_isSetting_28, x_K_isSetting_31, x_K_isSetting_32, x_K_isSetting_35, x_K_isSetting_36, x_K_isSetting_36C, x_K_isSetting_37, x_K_isSetting_40, x_K_isSetting_41, x_K_isSetting_44, x_K_isSetting_45, h1, h2, k0, k1, n0, n1, z3, okSet, e0, e1, e2, decide_false, Bool.false_and, Bool.or_self, bI_0, bI_t, bI_f, e10, isA30, isA31, isA33, isA40, isA42, isA43, rOkB0, rOkB1, rOkB, Ret_v, Ret_n, cmp_eq, cmp_lt, cmp_gt, nI_1, eq_self, if_true, if_false, reduceIte]
end KB

