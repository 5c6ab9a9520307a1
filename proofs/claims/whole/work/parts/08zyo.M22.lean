/-! the model: the text; command words -/
def TxD (I : MI) (x : Nat → Int32) (l : Nat) : Prop := I 187 11 = nI l ∧ l ≤ 150 ∧ ∀ i, i < l → I 194 i = x i
/-- the letters from p on, as a number -/
def pk (x : Nat → Int32) (l p : Nat) : Nat → Nat
  | 0 => 0
  | k + 1 => pk x l p k * 32 + ltN x l (p + k)
def cpk (c : Nat → Nat) : Nat → Nat
  | 0 => 0
  | k + 1 => cpk c k * 32 + (c k - 96)
def vv (x : Nat → Int32) (l p k : Nat) : Int64 := if k ≤ 8 then lW (pk x l p k) else -1
def vbO (v : Int64) : Int32 := if v = 769604 then 0 else if v = 150000 then 1 else if v = 460197 then 2 else if v = 681477 then 3 else if v = 66667 then 4 else if v = 1454583 then 5 else if v = 20587627 then 6 else if v = 19636 then 7 else -1
section MV
variable {I I' : MI} {J J' : MJ} {R : MR} {S : Sh} {Q : SkQ} {n l p q : Nat} {w u v t : Int64} {lo hi c k y : Int32} {x : Nat → Int32}
theorem TxD_f {k : Nat} (h : TxD I x l) (hk : ¬ k = 11) : TxD (u2 I 187 k c) x l := ⟨by rw [u2_k (by omega)]; exact h.1, h.2.1, fun i hi => by rw [u2_p (by omega)]; exact h.2.2 i hi⟩
theorem c_M_isAt (hS : MyS R S) (hT : TxD I x l) (h2 : I 187 12 = nI p) (hp : p < 2 ^ 31) (hlo : -1 < lo) : Wp 239 0 [.ref 187, .int lo, .int hi] [] I J R S Q = Q 0 (some (.int (bI (!decide (byA x l p < lo) && !decide (hi < byA x l p))))) I J R S := by
  obtain ⟨⟨k0, k1, n1, r0⟩, -, -, -, -, -, -, -, -, -, -, s4, l4, -, -, -, -, -, -, -, -, -, -, -, r10, -⟩ := hS
  obtain ⟨t1, t2, t3⟩ := hT
  unfold byA
  by_cases q1 : p < l
  · have e : nI p < nI l := nI_lt q1 (by omega)
    have e1 := inb_nI (i := p) (n := 150) (by omega) (by omega)
    have e2 : ix (nI p) = p := ix_nI (by omega)
    have v := t3 p q1
    rw [if_pos q1]
    cases q2 : (!decide (x p < lo) && !decide (hi < x p))
    · simp only [x_M_isAt_0, x_M_isAt_1, x_M_isAt_4, x_M_isAt_5, x_M_isAt_8, x_M_isAt_11, x_M_isAt_12, x_M_isAt_15, x_M_isAt_16, x_M_isAt_19, x_M_isAt_20, x_M_isAt_21, x_M_isAt_22, x_M_isAt_23, x_M_isAt_24, x_M_isAt_25, x_M_isAt_28, x_M_isAt_31, x_M_isAt_32, x_M_isAt_35, x_M_isAt_36, k0, s4, l4, r10, h2, t1, e, e1, e2, v, c_M_in, inL_i, q2, bI_0, bI_t, bI_f, e10, isA30, isA31, isA33, isA40, isA42, isA43, rOkB0, rOkB1, rOkB, Ret_v, Ret_n, cmp_eq, cmp_lt, cmp_gt, nI_1, eq_self, if_true, if_false, reduceIte]
    · simp only [x_M_isAt_0, x_M_isAt_1, x_M_isAt_4, x_M_isAt_5, x_M_isAt_8, x_M_isAt_11, x_M_isAt_12, x_M_isAt_15, x_M_isAt_16, x_M_isAt_19, x_M_isAt_20, x_M_isAt_21, x_M_isAt_22, x_M_isAt_23, x_M_isAt_24, x_M_isAt_25, x_M_isAt_28, x_M_isAt_31, x_M_isAt_32, x_M_isAt_35, x_M_isAt_36, k0, s4, l4, r10, h2, t1, e, e1, e2, v, c_M_in, inL_i, q2, e10, Bool.true_eq_false, bI_0, bI_t, bI_f, e10, isA30, isA31, isA33, isA40, isA42, isA43, rOkB0, rOkB1, rOkB, Ret_v, Ret_n, cmp_eq, cmp_lt, cmp_gt, nI_1, eq_self, if_true, if_false, reduceIte]
  · have e : ¬ nI p < nI l := nI_nlt (by omega) (by omega)
    rw [if_neg q1, decide_eq_true hlo]
    simp only [x_M_isAt_0, x_M_isAt_1, x_M_isAt_4, x_M_isAt_5, x_M_isAt_8, x_M_isAt_11, x_M_isAt_12, x_M_isAt_15, x_M_isAt_16, x_M_isAt_19, x_M_isAt_20, x_M_isAt_21, x_M_isAt_22, x_M_isAt_23, x_M_isAt_24, x_M_isAt_25, x_M_isAt_28, x_M_isAt_31, x_M_isAt_32, x_M_isAt_35, x_M_isAt_36, k0, h2, t1, e, Bool.not_true, Bool.false_and, bI_0, bI_t, bI_f, e10, isA30, isA31, isA33, isA40, isA42, isA43, rOkB0, rOkB1, rOkB, Ret_v, Ret_n, cmp_eq, cmp_lt, cmp_gt, nI_1, eq_self, if_true, if_false, reduceIte]
theorem at_eq {b d : Int32} : (!decide (b < d) && !decide (d < b)) = decide (b = d) := by
  rw [Bool.eq_iff_iff]
  simp only [Bool.and_eq_true, Bool.not_eq_true', decide_eq_false_iff_not, decide_eq_true_eq, Int32.lt_iff_toInt_lt, ← Int32.toInt_inj]
  omega
theorem c_M_skips (hS : MyS R S) : ∀ (k p : Nat) (I : MI), l ≤ p + k → p < 1000 → TxD I x l → I 187 12 = nI p → Wp 240 0 [.ref 187] [] I J R S Q = Q 0 none (u2 I 187 12 (nI (skp x l k p))) J R S := by
  have k0 := hS.1.1
  intro k
  induction k with
  | zero =>
    intro p I hk hp hT h2
    have ia := fun Q' => c_M_isAt (Q := Q') (J := J) (lo := 32) (hi := 32) hS hT h2 (by omega) (by decide)
    have ne : ¬ byA x l p = 32 := by
      unfold byA
      rw [if_neg (by omega)]
      decide
    simp only [at_eq, decide_eq_false ne] at ia
    rw [x_M_skips_0]
    simp only [x_M_skips_1, x_M_skips_3, x_M_skips_5, x_M_skips_8, x_M_skips_11, x_M_skips_12, x_M_skips_13, x_M_skips_16, x_M_skips_17, x_M_skips_18, x_M_skips_21, x_M_skips_24, k0, ia, skp, bI_0, bI_t, bI_f, e10, isA30, isA31, isA33, isA40, isA42, isA43, rOkB0, rOkB1, rOkB, Ret_v, Ret_n, cmp_eq, cmp_lt, cmp_gt, nI_1, eq_self, if_true, if_false, reduceIte]
    rw [u2_self h2]
  | succ k ih =>
    intro p I hk hp hT h2
    have ia := fun Q' => c_M_isAt (Q := Q') (J := J) (lo := 32) (hi := 32) hS hT h2 (by omega) (by decide)
    simp only [skp]
    rw [x_M_skips_0]
    by_cases q : byA x l p = 32
    · have pl := byA_lt (x := x) (n := l) (p := p) (by rw [q]; decide)
      have := hT.2.1
      have i1 := ih (p + 1) (u2 I 187 12 (nI (p + 1))) (by omega) (by omega) (TxD_f hT (by omega)) u2_eq
      rw [u2_u2] at i1
      simp only [at_eq, decide_eq_true q] at ia
      simp only [x_M_skips_1, x_M_skips_3, x_M_skips_5, x_M_skips_8, x_M_skips_11, x_M_skips_12, x_M_skips_13, x_M_skips_16, x_M_skips_17, x_M_skips_18, x_M_skips_21, x_M_skips_24, k0, ia, h2, nI_1', e10, bI_0, bI_t, bI_f, e10, isA30, isA31, isA33, isA40, isA42, isA43, rOkB0, rOkB1, rOkB, Ret_v, Ret_n, cmp_eq, cmp_lt, cmp_gt, nI_1, eq_self, if_true, if_false, reduceIte]
      rw [if_pos q]
      exact i1
    · simp only [at_eq, decide_eq_false q] at ia
      simp only [x_M_skips_1, x_M_skips_3, x_M_skips_5, x_M_skips_8, x_M_skips_11, x_M_skips_12, x_M_skips_13, x_M_skips_16, x_M_skips_17, x_M_skips_18, x_M_skips_21, x_M_skips_24, k0, ia, bI_0, bI_t, bI_f, e10, isA30, isA31, isA33, isA40, isA42, isA43, rOkB0, rOkB1, rOkB, Ret_v, Ret_n, cmp_eq, cmp_lt, cmp_gt, nI_1, eq_self, if_true, if_false, reduceIte]
      rw [if_neg q, u2_self h2]
theorem c_M_verbOf : Wp 241 0 [.long v, nov] [] I J R S Q = Q 0 (some (.int (vbO v))) I J R S := by
  unfold vbO
  by_cases q0 : v = 769604
  · simp only [x_M_verbOf_0, x_M_verbOf_1, x_M_verbOf_4, x_M_verbOf_5, x_M_verbOf_8, x_M_verbOf_9, x_M_verbOf_12, x_M_verbOf_13, x_M_verbOf_16, x_M_verbOf_17, x_M_verbOf_20, x_M_verbOf_21, x_M_verbOf_24, x_M_verbOf_25, x_M_verbOf_28, x_M_verbOf_29, x_M_verbOf_30, x_M_verbOf_31, x_M_verbOf_34, x_M_verbOf_35, x_M_verbOf_38, x_M_verbOf_39, x_M_verbOf_42, x_M_verbOf_43, x_M_verbOf_46, x_M_verbOf_47, x_M_verbOf_50, x_M_verbOf_51, x_M_verbOf_54, x_M_verbOf_55, x_M_verbOf_58, x_M_verbOf_59, x_M_verbOf_60, x_M_verbOf_61, x_M_verbOf_64, x_M_verbOf_65, x_M_verbOf_68, x_M_verbOf_69, x_M_verbOf_72, x_M_verbOf_73, x_M_verbOf_76, x_M_verbOf_77, x_M_verbOf_80, x_M_verbOf_81, x_M_verbOf_84, x_M_verbOf_85, x_M_verbOf_88, x_M_verbOf_89, x_M_verbOf_90, x_M_verbOf_91, x_M_verbOf_94, x_M_verbOf_95, x_M_verbOf_98, x_M_verbOf_100, x_M_verbOf_103, x_M_verbOf_104, x_M_verbOf_107, x_M_verbOf_108, x_M_verbOf_111, x_M_verbOf_113, x_M_verbOf_116, x_M_verbOf_117, q0, bI_0, bI_t, bI_f, e10, isA30, isA31, isA33, isA40, isA42, isA43, rOkB0, rOkB1, rOkB, Ret_v, Ret_n, cmp_eq, cmp_lt, cmp_gt, nI_1, eq_self, if_true, if_false, reduceIte]
  · by_cases q1 : v = 150000
    · subst q1
      simp only [x_M_verbOf_0, x_M_verbOf_1, x_M_verbOf_4, x_M_verbOf_5, x_M_verbOf_8, x_M_verbOf_9, x_M_verbOf_12, x_M_verbOf_13, x_M_verbOf_16, x_M_verbOf_17, x_M_verbOf_20, x_M_verbOf_21, x_M_verbOf_24, x_M_verbOf_25, x_M_verbOf_28, x_M_verbOf_29, x_M_verbOf_30, x_M_verbOf_31, x_M_verbOf_34, x_M_verbOf_35, x_M_verbOf_38, x_M_verbOf_39, x_M_verbOf_42, x_M_verbOf_43, x_M_verbOf_46, x_M_verbOf_47, x_M_verbOf_50, x_M_verbOf_51, x_M_verbOf_54, x_M_verbOf_55, x_M_verbOf_58, x_M_verbOf_59, x_M_verbOf_60, x_M_verbOf_61, x_M_verbOf_64, x_M_verbOf_65, x_M_verbOf_68, x_M_verbOf_69, x_M_verbOf_72, x_M_verbOf_73, x_M_verbOf_76, x_M_verbOf_77, x_M_verbOf_80, x_M_verbOf_81, x_M_verbOf_84, x_M_verbOf_85, x_M_verbOf_88, x_M_verbOf_89, x_M_verbOf_90, x_M_verbOf_91, x_M_verbOf_94, x_M_verbOf_95, x_M_verbOf_98, x_M_verbOf_100, x_M_verbOf_103, x_M_verbOf_104, x_M_verbOf_107, x_M_verbOf_108, x_M_verbOf_111, x_M_verbOf_113, x_M_verbOf_116, x_M_verbOf_117, show ¬ (150000 : Int64) = 769604 by decide, bI_0, bI_t, bI_f, e10, isA30, isA31, isA33, isA40, isA42, isA43, rOkB0, rOkB1, rOkB, Ret_v, Ret_n, cmp_eq, cmp_lt, cmp_gt, nI_1, eq_self, if_true, if_false, reduceIte]
    · by_cases q2 : v = 460197
      · subst q2
        simp only [x_M_verbOf_0, x_M_verbOf_1, x_M_verbOf_4, x_M_verbOf_5, x_M_verbOf_8, x_M_verbOf_9, x_M_verbOf_12, x_M_verbOf_13, x_M_verbOf_16, x_M_verbOf_17, x_M_verbOf_20, x_M_verbOf_21, x_M_verbOf_24, x_M_verbOf_25, x_M_verbOf_28, x_M_verbOf_29, x_M_verbOf_30, x_M_verbOf_31, x_M_verbOf_34, x_M_verbOf_35, x_M_verbOf_38, x_M_verbOf_39, x_M_verbOf_42, x_M_verbOf_43, x_M_verbOf_46, x_M_verbOf_47, x_M_verbOf_50, x_M_verbOf_51, x_M_verbOf_54, x_M_verbOf_55, x_M_verbOf_58, x_M_verbOf_59, x_M_verbOf_60, x_M_verbOf_61, x_M_verbOf_64, x_M_verbOf_65, x_M_verbOf_68, x_M_verbOf_69, x_M_verbOf_72, x_M_verbOf_73, x_M_verbOf_76, x_M_verbOf_77, x_M_verbOf_80, x_M_verbOf_81, x_M_verbOf_84, x_M_verbOf_85, x_M_verbOf_88, x_M_verbOf_89, x_M_verbOf_90, x_M_verbOf_91, x_M_verbOf_94, x_M_verbOf_95, x_M_verbOf_98, x_M_verbOf_100, x_M_verbOf_103, x_M_verbOf_104, x_M_verbOf_107, x_M_verbOf_108, x_M_verbOf_111, x_M_verbOf_113, x_M_verbOf_116, x_M_verbOf_117, show ¬ (460197 : Int64) = 769604 by decide, show ¬ (460197 : Int64) = 150000 by decide, bI_0, bI_t, bI_f, e10, isA30, isA31, isA33, isA40, isA42, isA43, rOkB0, rOkB1, rOkB, Ret_v, Ret_n, cmp_eq, cmp_lt, cmp_gt, nI_1, eq_self, if_true, if_false, reduceIte]
      · by_cases q3 : v = 681477
        · subst q3
          simp only [x_M_verbOf_0, x_M_verbOf_1, x_M_verbOf_4, x_M_verbOf_5, x_M_verbOf_8, x_M_verbOf_9, x_M_verbOf_12, x_M_verbOf_13, x_M_verbOf_16, x_M_verbOf_17, x_M_verbOf_20, x_M_verbOf_21, x_M_verbOf_24, x_M_verbOf_25, x_M_verbOf_28, x_M_verbOf_29, x_M_verbOf_30, x_M_verbOf_31, x_M_verbOf_34, x_M_verbOf_35, x_M_verbOf_38, x_M_verbOf_39, x_M_verbOf_42, x_M_verbOf_43, x_M_verbOf_46, x_M_verbOf_47, x_M_verbOf_50, x_M_verbOf_51, x_M_verbOf_54, x_M_verbOf_55, x_M_verbOf_58, x_M_verbOf_59, x_M_verbOf_60, x_M_verbOf_61, x_M_verbOf_64, x_M_verbOf_65, x_M_verbOf_68, x_M_verbOf_69, x_M_verbOf_72, x_M_verbOf_73, x_M_verbOf_76, x_M_verbOf_77, x_M_verbOf_80, x_M_verbOf_81, x_M_verbOf_84, x_M_verbOf_85, x_M_verbOf_88, x_M_verbOf_89, x_M_verbOf_90, x_M_verbOf_91, x_M_verbOf_94, x_M_verbOf_95, x_M_verbOf_98, x_M_verbOf_100, x_M_verbOf_103, x_M_verbOf_104, x_M_verbOf_107, x_M_verbOf_108, x_M_verbOf_111, x_M_verbOf_113, x_M_verbOf_116, x_M_verbOf_117, show ¬ (681477 : Int64) = 769604 by decide, show ¬ (681477 : Int64) = 150000 by decide, show ¬ (681477 : Int64) = 460197 by decide, bI_0, bI_t, bI_f, e10, isA30, isA31, isA33, isA40, isA42, isA43, rOkB0, rOkB1, rOkB, Ret_v, Ret_n, cmp_eq, cmp_lt, cmp_gt, nI_1, eq_self, if_true, if_false, reduceIte]
        · by_cases q4 : v = 66667
          · subst q4
            simp only [x_M_verbOf_0, x_M_verbOf_1, x_M_verbOf_4, x_M_verbOf_5, x_M_verbOf_8, x_M_verbOf_9, x_M_verbOf_12, x_M_verbOf_13, x_M_verbOf_16, x_M_verbOf_17, x_M_verbOf_20, x_M_verbOf_21, x_M_verbOf_24, x_M_verbOf_25, x_M_verbOf_28, x_M_verbOf_29, x_M_verbOf_30, x_M_verbOf_31, x_M_verbOf_34, x_M_verbOf_35, x_M_verbOf_38, x_M_verbOf_39, x_M_verbOf_42, x_M_verbOf_43, x_M_verbOf_46, x_M_verbOf_47, x_M_verbOf_50, x_M_verbOf_51, x_M_verbOf_54, x_M_verbOf_55, x_M_verbOf_58, x_M_verbOf_59, x_M_verbOf_60, x_M_verbOf_61, x_M_verbOf_64, x_M_verbOf_65, x_M_verbOf_68, x_M_verbOf_69, x_M_verbOf_72, x_M_verbOf_73, x_M_verbOf_76, x_M_verbOf_77, x_M_verbOf_80, x_M_verbOf_81, x_M_verbOf_84, x_M_verbOf_85, x_M_verbOf_88, x_M_verbOf_89, x_M_verbOf_90, x_M_verbOf_91, x_M_verbOf_94, x_M_verbOf_95, x_M_verbOf_98, x_M_verbOf_100, x_M_verbOf_103, x_M_verbOf_104, x_M_verbOf_107, x_M_verbOf_108, x_M_verbOf_111, x_M_verbOf_113, x_M_verbOf_116, x_M_verbOf_117, show ¬ (66667 : Int64) = 769604 by decide, show ¬ (66667 : Int64) = 150000 by decide, show ¬ (66667 : Int64) = 460197 by decide, show ¬ (66667 : Int64) = 681477 by decide, bI_0, bI_t, bI_f, e10, isA30, isA31, isA33, isA40, isA42, isA43, rOkB0, rOkB1, rOkB, Ret_v, Ret_n, cmp_eq, cmp_lt, cmp_gt, nI_1, eq_self, if_true, if_false, reduceIte]
          · by_cases q5 : v = 1454583
            · subst q5
              simp only [x_M_verbOf_0, x_M_verbOf_1, x_M_verbOf_4, x_M_verbOf_5, x_M_verbOf_8, x_M_verbOf_9, x_M_verbOf_12, x_M_verbOf_13, x_M_verbOf_16, x_M_verbOf_17, x_M_verbOf_20, x_M_verbOf_21, x_M_verbOf_24, x_M_verbOf_25, x_M_verbOf_28, x_M_verbOf_29, x_M_verbOf_30, x_M_verbOf_31, x_M_verbOf_34, x_M_verbOf_35, x_M_verbOf_38, x_M_verbOf_39, x_M_verbOf_42, x_M_verbOf_43, x_M_verbOf_46, x_M_verbOf_47, x_M_verbOf_50, x_M_verbOf_51, x_M_verbOf_54, x_M_verbOf_55, x_M_verbOf_58, x_M_verbOf_59, x_M_verbOf_60, x_M_verbOf_61, x_M_verbOf_64, x_M_verbOf_65, x_M_verbOf_68, x_M_verbOf_69, x_M_verbOf_72, x_M_verbOf_73, x_M_verbOf_76, x_M_verbOf_77, x_M_verbOf_80, x_M_verbOf_81, x_M_verbOf_84, x_M_verbOf_85, x_M_verbOf_88, x_M_verbOf_89, x_M_verbOf_90, x_M_verbOf_91, x_M_verbOf_94, x_M_verbOf_95, x_M_verbOf_98, x_M_verbOf_100, x_M_verbOf_103, x_M_verbOf_104, x_M_verbOf_107, x_M_verbOf_108, x_M_verbOf_111, x_M_verbOf_113, x_M_verbOf_116, x_M_verbOf_117, show ¬ (1454583 : Int64) = 769604 by decide, show ¬ (1454583 : Int64) = 150000 by decide, show ¬ (1454583 : Int64) = 460197 by decide, show ¬ (1454583 : Int64) = 681477 by decide, show ¬ (1454583 : Int64) = 66667 by decide, bI_0, bI_t, bI_f, e10, isA30, isA31, isA33, isA40, isA42, isA43, rOkB0, rOkB1, rOkB, Ret_v, Ret_n, cmp_eq, cmp_lt, cmp_gt, nI_1, eq_self, if_true, if_false, reduceIte]
            · by_cases q6 : v = 20587627
              · subst q6
                simp only [x_M_verbOf_0, x_M_verbOf_1, x_M_verbOf_4, x_M_verbOf_5, x_M_verbOf_8, x_M_verbOf_9, x_M_verbOf_12, x_M_verbOf_13, x_M_verbOf_16, x_M_verbOf_17, x_M_verbOf_20, x_M_verbOf_21, x_M_verbOf_24, x_M_verbOf_25, x_M_verbOf_28, x_M_verbOf_29, x_M_verbOf_30, x_M_verbOf_31, x_M_verbOf_34, x_M_verbOf_35, x_M_verbOf_38, x_M_verbOf_39, x_M_verbOf_42, x_M_verbOf_43, x_M_verbOf_46, x_M_verbOf_47, x_M_verbOf_50, x_M_verbOf_51, x_M_verbOf_54, x_M_verbOf_55, x_M_verbOf_58, x_M_verbOf_59, x_M_verbOf_60, x_M_verbOf_61, x_M_verbOf_64, x_M_verbOf_65, x_M_verbOf_68, x_M_verbOf_69, x_M_verbOf_72, x_M_verbOf_73, x_M_verbOf_76, x_M_verbOf_77, x_M_verbOf_80, x_M_verbOf_81, x_M_verbOf_84, x_M_verbOf_85, x_M_verbOf_88, x_M_verbOf_89, x_M_verbOf_90, x_M_verbOf_91, x_M_verbOf_94, x_M_verbOf_95, x_M_verbOf_98, x_M_verbOf_100, x_M_verbOf_103, x_M_verbOf_104, x_M_verbOf_107, x_M_verbOf_108, x_M_verbOf_111, x_M_verbOf_113, x_M_verbOf_116, x_M_verbOf_117, q0, q1, q2, q3, q4, q5, bI_0, bI_t, bI_f, e10, isA30, isA31, isA33, isA40, isA42, isA43, rOkB0, rOkB1, rOkB, Ret_v, Ret_n, cmp_eq, cmp_lt, cmp_gt, nI_1, eq_self, if_true, if_false, reduceIte]
              · by_cases q7 : v = 19636
                · subst q7
                  simp only [x_M_verbOf_0, x_M_verbOf_1, x_M_verbOf_4, x_M_verbOf_5, x_M_verbOf_8, x_M_verbOf_9, x_M_verbOf_12, x_M_verbOf_13, x_M_verbOf_16, x_M_verbOf_17, x_M_verbOf_20, x_M_verbOf_21, x_M_verbOf_24, x_M_verbOf_25, x_M_verbOf_28, x_M_verbOf_29, x_M_verbOf_30, x_M_verbOf_31, x_M_verbOf_34, x_M_verbOf_35, x_M_verbOf_38, x_M_verbOf_39, x_M_verbOf_42, x_M_verbOf_43, x_M_verbOf_46, x_M_verbOf_47, x_M_verbOf_50, x_M_verbOf_51, x_M_verbOf_54, x_M_verbOf_55, x_M_verbOf_58, x_M_verbOf_59, x_M_verbOf_60, x_M_verbOf_61, x_M_verbOf_64, x_M_verbOf_65, x_M_verbOf_68, x_M_verbOf_69, x_M_verbOf_72, x_M_verbOf_73, x_M_verbOf_76, x_M_verbOf_77, x_M_verbOf_80, x_M_verbOf_81, x_M_verbOf_84, x_M_verbOf_85, x_M_verbOf_88, x_M_verbOf_89, x_M_verbOf_90, x_M_verbOf_91, x_M_verbOf_94, x_M_verbOf_95, x_M_verbOf_98, x_M_verbOf_100, x_M_verbOf_103, x_M_verbOf_104, x_M_verbOf_107, x_M_verbOf_108, x_M_verbOf_111, x_M_verbOf_113, x_M_verbOf_116, x_M_verbOf_117, q0, q1, q2, q3, q4, q5, q6, bI_0, bI_t, bI_f, e10, isA30, isA31, isA33, isA40, isA42, isA43, rOkB0, rOkB1, rOkB, Ret_v, Ret_n, cmp_eq, cmp_lt, cmp_gt, nI_1, eq_self, if_true, if_false, reduceIte]
                · simp only [x_M_verbOf_0, x_M_verbOf_1, x_M_verbOf_4, x_M_verbOf_5, x_M_verbOf_8, x_M_verbOf_9, x_M_verbOf_12, x_M_verbOf_13, x_M_verbOf_16, x_M_verbOf_17, x_M_verbOf_20, x_M_verbOf_21, x_M_verbOf_24, x_M_verbOf_25, x_M_verbOf_28, x_M_verbOf_29, x_M_verbOf_30, x_M_verbOf_31, x_M_verbOf_34, x_M_verbOf_35, x_M_verbOf_38, x_M_verbOf_39, x_M_verbOf_42, x_M_verbOf_43, x_M_verbOf_46, x_M_verbOf_47, x_M_verbOf_50, x_M_verbOf_51, x_M_verbOf_54, x_M_verbOf_55, x_M_verbOf_58, x_M_verbOf_59, x_M_verbOf_60, x_M_verbOf_61, x_M_verbOf_64, x_M_verbOf_65, x_M_verbOf_68, x_M_verbOf_69, x_M_verbOf_72, x_M_verbOf_73, x_M_verbOf_76, x_M_verbOf_77, x_M_verbOf_80, x_M_verbOf_81, x_M_verbOf_84, x_M_verbOf_85, x_M_verbOf_88, x_M_verbOf_89, x_M_verbOf_90, x_M_verbOf_91, x_M_verbOf_94, x_M_verbOf_95, x_M_verbOf_98, x_M_verbOf_100, x_M_verbOf_103, x_M_verbOf_104, x_M_verbOf_107, x_M_verbOf_108, x_M_verbOf_111, x_M_verbOf_113, x_M_verbOf_116, x_M_verbOf_117, q0, q1, q2, q3, q4, q5, q6, q7, bI_0, bI_t, bI_f, e10, isA30, isA31, isA33, isA40, isA42, isA43, rOkB0, rOkB1, rOkB, Ret_v, Ret_n, cmp_eq, cmp_lt, cmp_gt, nI_1, eq_self, if_true, if_false, reduceIte]
theorem lW_add {a b : Nat} : lW a + lW b = lW (a + b) := (Int64.ofNat_add a b).symm
theorem lW_mul {a b : Nat} : lW a * lW b = lW (a * b) := (Int64.ofNat_mul a b).symm
theorem lW_sub {a b : Nat} (h : b ≤ a) : lW a - lW b = lW (a - b) := by
  have := lW_add (a := a - b) (b := b)
  rw [show a - b + b = a by omega] at this
  rw [← this, Int64.add_sub_cancel]
theorem pkN_lt (hl : ∀ j, j < n → ltN x l (p + j) < 32) : ∀ k, k ≤ n → pk x l p k < 2 ^ (5 * k)
  | 0, _ => by simp [pk]
  | k + 1, h => by
    have := pkN_lt hl k (by omega)
    have h2 := hl k (by omega)
    simp only [pk]
    rw [show 5 * (k + 1) = 5 * k + 5 by omega, Nat.pow_add]
    omega
theorem l_M_verb (hS : MyS R S) {s0 : Nat} : ∀ (d p : Nat) (I : MI), l ≤ p + d → s0 ≤ p → p < 1000 → (∀ j, j < p - s0 → isLt x l (s0 + j) = true) → TxD I x l → I 187 12 = nI p → Wp 242 7 [.ref 187, .int (nI s0), .long (vv x l s0 (p - s0)), nov, nov] [] I J R S Q = Wp 242 69 [.ref 187, .int (nI s0), .long (vv x l s0 (rdP x l d p - s0)), nov, nov] [] (u2 I 187 12 (nI (rdP x l d p))) J R S Q := by
  have hS' := hS
  obtain ⟨⟨k0, k1, n1, r0⟩, -, -, -, -, -, -, -, -, -, -, s4, l4, -, -, -, -, -, -, -, -, -, -, -, r10, -⟩ := hS
  intro d
  induction d with
  | zero =>
    intro p I hd hsp hp hL hT h2
    have ia := fun Q' => c_M_isAt (Q := Q') (J := J) (lo := 97) (hi := 122) hS' hT h2 (by omega) (by decide)
    have nl : isLt x l p = false := by
      cases e : isLt x l p
      · rfl
      · have := (isLt_f e).1; omega
    rw [show (!decide (byA x l p < 97) && !decide (122 < byA x l p)) = isLt x l p from rfl, nl] at ia
    rw [x_M_verb_7]
    simp only [x_M_verb_0, x_M_verb_1, x_M_verb_4, x_M_verb_5, x_M_verb_6, x_M_verb_8, x_M_verb_10, x_M_verb_12, x_M_verb_15, x_M_verb_18, x_M_verb_19, x_M_verb_22, x_M_verb_23, x_M_verb_24, x_M_verb_26, x_M_verb_29, x_M_verb_32, x_M_verb_33, x_M_verb_34, x_M_verb_35, x_M_verb_38, x_M_verb_39, x_M_verb_42, x_M_verb_43, x_M_verb_44, x_M_verb_45, x_M_verb_48, x_M_verb_49, x_M_verb_52, x_M_verb_55, x_M_verb_56, x_M_verb_57, x_M_verb_58, x_M_verb_61, x_M_verb_62, x_M_verb_63, x_M_verb_66, x_M_verb_70, x_M_verb_73, x_M_verb_74, x_M_verb_75, x_M_verb_77, x_M_verb_80, x_M_verb_81, x_M_verb_84, x_M_verb_85, x_M_verb_88, x_M_verb_90, x_M_verb_91, x_M_verb_93, x_M_verb_94, x_M_verb_97, x_M_verb_98, x_M_verb_101, x_M_verb_102, x_M_verb_105, x_M_verb_108, x_M_verb_110, k0, ia, rdP, bI_0, bI_t, bI_f, e10, isA30, isA31, isA33, isA40, isA42, isA43, rOkB0, rOkB1, rOkB, Ret_v, Ret_n, cmp_eq, cmp_lt, cmp_gt, nI_1, eq_self, if_true, if_false, reduceIte]
    rw [u2_self h2]
  | succ d ih =>
    intro p I hd hsp hp hL hT h2
    have ia := fun Q' => c_M_isAt (Q := Q') (J := J) (lo := 97) (hi := 122) hS' hT h2 (by omega) (by decide)
    rw [show (!decide (byA x l p < 97) && !decide (122 < byA x l p)) = isLt x l p from rfl] at ia
    simp only [rdP]
    rw [x_M_verb_7]
    cases e : isLt x l p
    · simp only [x_M_verb_0, x_M_verb_1, x_M_verb_4, x_M_verb_5, x_M_verb_6, x_M_verb_8, x_M_verb_10, x_M_verb_12, x_M_verb_15, x_M_verb_18, x_M_verb_19, x_M_verb_22, x_M_verb_23, x_M_verb_24, x_M_verb_26, x_M_verb_29, x_M_verb_32, x_M_verb_33, x_M_verb_34, x_M_verb_35, x_M_verb_38, x_M_verb_39, x_M_verb_42, x_M_verb_43, x_M_verb_44, x_M_verb_45, x_M_verb_48, x_M_verb_49, x_M_verb_52, x_M_verb_55, x_M_verb_56, x_M_verb_57, x_M_verb_58, x_M_verb_61, x_M_verb_62, x_M_verb_63, x_M_verb_66, x_M_verb_70, x_M_verb_73, x_M_verb_74, x_M_verb_75, x_M_verb_77, x_M_verb_80, x_M_verb_81, x_M_verb_84, x_M_verb_85, x_M_verb_88, x_M_verb_90, x_M_verb_91, x_M_verb_93, x_M_verb_94, x_M_verb_97, x_M_verb_98, x_M_verb_101, x_M_verb_102, x_M_verb_105, x_M_verb_108, x_M_verb_110, k0, ia, e, Bool.false_eq_true, bI_0, bI_t, bI_f, e10, isA30, isA31, isA33, isA40, isA42, isA43, rOkB0, rOkB1, rOkB, Ret_v, Ret_n, cmp_eq, cmp_lt, cmp_gt, nI_1, eq_self, if_true, if_false, reduceIte]
      rw [u2_self h2]
    · obtain ⟨pl, eb, g0, g32⟩ := isLt_f e
      have xp : I 194 p = nI (ltN x l p + 96) := by
        rw [hT.2.2 p pl]
        unfold byA at eb
        rw [if_pos pl] at eb
        exact eb
      have := hT.2.1
      have i1 := ih (p + 1) (u2 I 187 12 (nI (p + 1))) (by omega) (by omega) (by omega) (fun j hj => by
        by_cases q : j = p - s0
        · rw [q, show s0 + (p - s0) = p by omega]; exact e
        · exact hL j (by omega)) (TxD_f hT (by omega)) u2_eq
      rw [u2_u2] at i1
      have sb : nI p - nI s0 = nI (p - s0) := nI_sub hsp
      have e1 := inb_nI (i := p) (n := 150) (by omega) (by omega)
      have e2 : ix (nI p) = p := ix_nI (by omega)
      by_cases q : p - s0 < 8
      · have lt : nI (p - s0) < 8 := by rw [show (8 : Int32) = nI 8 by decide]; exact nI_lt q (by omega)
        have hv : vv x l s0 (p - s0) = lW (pk x l s0 (p - s0)) := if_pos (by omega)
        have hv2 : vv x l s0 (p + 1 - s0) = lW (pk x l s0 (p - s0) * 32 + ltN x l p) := by
          unfold vv
          rw [if_pos (by omega), show p + 1 - s0 = (p - s0) + 1 by omega]
          simp only [pk]
          rw [show s0 + (p - s0) = p by omega]
        have ar : (32 : Int64) * lW (pk x l s0 (p - s0)) + (nI (ltN x l p + 96)).toInt64 - 96 = lW (pk x l s0 (p - s0) * 32 + ltN x l p) := by
          rw [nI_lw (by omega), show (32 : Int64) = lW 32 by decide, show (96 : Int64) = lW 96 by decide, lW_mul, lW_add, lW_sub (by omega)]
          congr 1
          omega
        rw [hv2] at i1
        rw [hv]
        simp only [x_M_verb_0, x_M_verb_1, x_M_verb_4, x_M_verb_5, x_M_verb_6, x_M_verb_8, x_M_verb_10, x_M_verb_12, x_M_verb_15, x_M_verb_18, x_M_verb_19, x_M_verb_22, x_M_verb_23, x_M_verb_24, x_M_verb_26, x_M_verb_29, x_M_verb_32, x_M_verb_33, x_M_verb_34, x_M_verb_35, x_M_verb_38, x_M_verb_39, x_M_verb_42, x_M_verb_43, x_M_verb_44, x_M_verb_45, x_M_verb_48, x_M_verb_49, x_M_verb_52, x_M_verb_55, x_M_verb_56, x_M_verb_57, x_M_verb_58, x_M_verb_61, x_M_verb_62, x_M_verb_63, x_M_verb_66, x_M_verb_70, x_M_verb_73, x_M_verb_74, x_M_verb_75, x_M_verb_77, x_M_verb_80, x_M_verb_81, x_M_verb_84, x_M_verb_85, x_M_verb_88, x_M_verb_90, x_M_verb_91, x_M_verb_93, x_M_verb_94, x_M_verb_97, x_M_verb_98, x_M_verb_101, x_M_verb_102, x_M_verb_105, x_M_verb_108, x_M_verb_110, k0, s4, l4, r10, ia, e, h2, sb, lt, e1, e2, xp, ar, nI_1', e10, Bool.true_eq_false, bI_0, bI_t, bI_f, e10, isA30, isA31, isA33, isA40, isA42, isA43, rOkB0, rOkB1, rOkB, Ret_v, Ret_n, cmp_eq, cmp_lt, cmp_gt, nI_1, eq_self, if_true, if_false, reduceIte]
        exact i1
      · have lt : ¬ nI (p - s0) < 8 := by rw [show (8 : Int32) = nI 8 by decide]; exact nI_nlt (by omega) (by omega)
        have hv2 : vv x l s0 (p + 1 - s0) = -1 := if_neg (by omega)
        rw [hv2] at i1
        simp only [x_M_verb_0, x_M_verb_1, x_M_verb_4, x_M_verb_5, x_M_verb_6, x_M_verb_8, x_M_verb_10, x_M_verb_12, x_M_verb_15, x_M_verb_18, x_M_verb_19, x_M_verb_22, x_M_verb_23, x_M_verb_24, x_M_verb_26, x_M_verb_29, x_M_verb_32, x_M_verb_33, x_M_verb_34, x_M_verb_35, x_M_verb_38, x_M_verb_39, x_M_verb_42, x_M_verb_43, x_M_verb_44, x_M_verb_45, x_M_verb_48, x_M_verb_49, x_M_verb_52, x_M_verb_55, x_M_verb_56, x_M_verb_57, x_M_verb_58, x_M_verb_61, x_M_verb_62, x_M_verb_63, x_M_verb_66, x_M_verb_70, x_M_verb_73, x_M_verb_74, x_M_verb_75, x_M_verb_77, x_M_verb_80, x_M_verb_81, x_M_verb_84, x_M_verb_85, x_M_verb_88, x_M_verb_90, x_M_verb_91, x_M_verb_93, x_M_verb_94, x_M_verb_97, x_M_verb_98, x_M_verb_101, x_M_verb_102, x_M_verb_105, x_M_verb_108, x_M_verb_110, k0, s4, l4, r10, ia, e, h2, sb, lt, e1, e2, xp, nI_1', e10, Bool.true_eq_false, bI_0, bI_t, bI_f, e10, isA30, isA31, isA33, isA40, isA42, isA43, rOkB0, rOkB1, rOkB, Ret_v, Ret_n, cmp_eq, cmp_lt, cmp_gt, nI_1, eq_self, if_true, if_false, reduceIte]
        exact i1
end MV
