/-! the constructor of Keyboard -/
def KbE (I : MI) (b : Nat) : Prop := ∀ i, i < 26 → I (b + 1) i = kbR i ∧ I (b + 2) i = kbC i
def lyR (c : Nat → Nat) (r : Int32) (f : Nat → Int32) (i : Nat) : Nat → Nat → Int32
  | 0 => f
  | k + 1 => lyR c r (fun j => if j = c i - 97 then r else f j) (i + 1) k
def lyC (c : Nat → Nat) (f : Nat → Int32) (i : Nat) : Nat → Nat → Int32
  | 0 => f
  | k + 1 => lyC c (fun j => if j = c i - 97 then nI i else f j) (i + 1) k
def tF (d r : Int32) : Bool := if d = 0 then decide (r = 1) || decide (r = -1) else if d = 1 then decide (r = 0) || decide (r = -1) else if d = -1 then decide (r = 0) || decide (r = 1) else false
theorem tF_tch : ∀ a, a < 26 → ∀ c, c < 26 → tF (kbR c - kbR a) (kbC c - kbC a) = tch a c := by decide +kernel
def rd1 (c : Nat) : Nat := ([113, 119, 101, 114, 116, 121, 117, 105, 111, 112] : List Nat).getD c 0
def rd2 (c : Nat) : Nat := ([97, 115, 100, 102, 103, 104, 106, 107, 108] : List Nat).getD c 0
def rd3 (c : Nat) : Nat := ([122, 120, 99, 118, 98, 110, 109] : List Nat).getD c 0
theorem lay_R : ∀ j, j < 26 → lyR rd3 2 (lyR rd2 1 (lyR rd1 0 (fun _ => 0) 0 10) 0 9) 0 7 j = kbR j := by decide +kernel
theorem lay_C : ∀ j, j < 26 → lyC rd3 (lyC rd2 (lyC rd1 (fun _ => 0) 0 10) 0 9) 0 7 j = kbC j := by decide +kernel
theorem rd1_ok : ∀ i, i < 10 → 97 ≤ rd1 i ∧ rd1 i < 123 := by decide
theorem rd2_ok : ∀ i, i < 9 → 97 ≤ rd2 i ∧ rd2 i < 123 := by decide
theorem rd3_ok : ∀ i, i < 7 → 97 ≤ rd3 i ∧ rd3 i < 123 := by decide
section ND
variable {I I' I2 : MI} {J J' J2 : MJ} {R R' R2 : MR} {S S' S2 : Sh} {Q : SkQ} {a b s y len : Nat} {c : Nat → Nat} {r : Int32} {l4 : Value}
theorem StS_kp {q d : Nat} (h : StS R S I s y len c) (k : kp q d I J R S I' J' R' S') (h1 : q ≤ s ∧ q ≤ y) (h2 : s < d ∧ y < d) : StS R' S' I' s y len c := by
  obtain ⟨a1, a2, a3, a4, a5, a6, a7⟩ := h
  obtain ⟨p1, p2, p3, p4, p5⟩ := k s (by omega) (by omega)
  obtain ⟨q1, q2, q3, q4, q5⟩ := k y (by omega) (by omega)
  exact ⟨p4.trans a1, q4.trans a2, q5.trans a3, a4, by rw [p3]; exact a5, by rw [p1]; exact a6, fun i hi => by rw [q1]; exact a7 i hi⟩
theorem KbS_kp {q d : Nat} (h : KbS R S b) (k : kp q d I J R S I' J' R' S') (h1 : q ≤ b) (h2 : b + 3 < d) : KbS R' S' b := by
  obtain ⟨s0, s1, s2, s3, n1, n2, n3, r0⟩ := h
  obtain ⟨p1, p2, p3, p4, p5⟩ := k b (by omega) (by omega)
  obtain ⟨-, -, -, q4, q5⟩ := k (b + 1) (by omega) (by omega)
  obtain ⟨-, -, -, t4, t5⟩ := k (b + 2) (by omega) (by omega)
  obtain ⟨-, -, -, m4, m5⟩ := k (b + 3) (by omega) (by omega)
  exact ⟨p4.trans s0, q4.trans s1, t4.trans s2, m4.trans s3, q5.trans n1, t5.trans n2, m5.trans n3, by rw [p3]; exact r0⟩
theorem e_B_rowOf {k : Nat} (hS : KbS R S b) (hD : KbE I b) (hk : k < 26) : Wp 72 0 [.ref b, .int (nI k)] [] I J R S Q = Q 0 (some (.int (kbR k))) I J R S := by
  obtain ⟨s0, s1, s2, s3, n1, n2, n3, r0, r1, r2⟩ := hS
  have e1 : ¬ nI k < 0 := nI_pos (by omega)
  have e2 : nI k < 26 := by rw [show (26 : Int32) = nI 26 by decide]; exact nI_lt hk (by omega)
  have e3 := inb_nI hk (by omega)
  have e4 : ix (nI k) = k := ix_nI (by omega)
  simp only [x_B_rowOf_0, x_B_rowOf_1, x_B_rowOf_4, x_B_rowOf_5, x_B_rowOf_7, x_B_rowOf_10, x_B_rowOf_11, x_B_rowOf_14, x_B_rowOf_15, x_B_rowOf_16, x_B_rowOf_19, x_B_rowOf_20, s0, r0, s1, n1, e1, e2, e3, e4, (hD k hk).1, bI_0, bI_t, bI_f, e10, isA30, isA31, isA33, isA40, isA42, isA43, rOkB0, rOkB1, rOkB, Ret_v, Ret_n, cmp_eq, cmp_lt, cmp_gt, nI_1, eq_self, if_true, if_false, reduceIte]
theorem e_B_columnOf {k : Nat} (hS : KbS R S b) (hD : KbE I b) (hk : k < 26) : Wp 73 0 [.ref b, .int (nI k)] [] I J R S Q = Q 0 (some (.int (kbC k))) I J R S := by
  obtain ⟨s0, s1, s2, s3, n1, n2, n3, r0, r1, r2⟩ := hS
  have e1 : ¬ nI k < 0 := nI_pos (by omega)
  have e2 : nI k < 26 := by rw [show (26 : Int32) = nI 26 by decide]; exact nI_lt hk (by omega)
  have e3 := inb_nI hk (by omega)
  have e4 : ix (nI k) = k := ix_nI (by omega)
  simp only [x_B_columnOf_0, x_B_columnOf_1, x_B_columnOf_4, x_B_columnOf_5, x_B_columnOf_7, x_B_columnOf_10, x_B_columnOf_11, x_B_columnOf_14, x_B_columnOf_15, x_B_columnOf_16, x_B_columnOf_19, x_B_columnOf_20, s0, r1, s2, n2, e1, e2, e3, e4, (hD k hk).2, bI_0, bI_t, bI_f, e10, isA30, isA31, isA33, isA40, isA42, isA43, rOkB0, rOkB1, rOkB, Ret_v, Ret_n, cmp_eq, cmp_lt, cmp_gt, nI_1, eq_self, if_true, if_false, reduceIte]
theorem m1n1 : ¬ (-1 : Int32) = 1 := by decide
theorem m0n1 : ¬ (0 : Int32) = -1 := by decide
theorem m0n2 : ¬ (0 : Int32) = 1 := by decide
theorem c_B_touch {k : Nat} (hS : KbS R S b) (hD : KbE I b) (ha : a < 26) (hk : k < 26) : Wp 71 0 [.ref b, .int (nI a), .int (nI k), nov, nov] [] I J R S Q = Q 0 (some (.int (bI (tch a k)))) I J R S := by
  have s0 := hS.1
  have r1 := fun Q' => e_B_rowOf (Q := Q') (J := J) hS hD ha
  have r2 := fun Q' => e_B_rowOf (Q := Q') (J := J) hS hD hk
  have r3 := fun Q' => e_B_columnOf (Q := Q') (J := J) hS hD ha
  have r4 := fun Q' => e_B_columnOf (Q := Q') (J := J) hS hD hk
  rw [← tF_tch a ha k hk]
  simp only [x_B_touch_0, x_B_touch_1, x_B_touch_2, x_B_touch_5, x_B_touch_6, x_B_touch_7, x_B_touch_10, x_B_touch_11, x_B_touch_12, x_B_touch_13, x_B_touch_14, x_B_touch_17, x_B_touch_18, x_B_touch_19, x_B_touch_22, x_B_touch_23, x_B_touch_25, x_B_touch_52, x_B_touch_54, x_B_touch_55, x_B_touch_58, x_B_touch_60, x_B_touch_61, x_B_touch_64, x_B_touch_65, x_B_touch_68, x_B_touch_69, x_B_touch_70, x_B_touch_72, x_B_touch_75, x_B_touch_77, x_B_touch_78, x_B_touch_81, x_B_touch_82, x_B_touch_85, x_B_touch_86, x_B_touch_87, x_B_touch_89, x_B_touch_92, x_B_touch_94, x_B_touch_95, x_B_touch_98, x_B_touch_99, x_B_touch_102, x_B_touch_103, x_B_touch_104, x_B_touch_105, s0, r1, r2, r3, r4, bI_0, bI_t, bI_f, e10, isA30, isA31, isA33, isA40, isA42, isA43, rOkB0, rOkB1, rOkB, Ret_v, Ret_n, cmp_eq, cmp_lt, cmp_gt, nI_1, eq_self, if_true, if_false, reduceIte]
  generalize kbR k - kbR a = d
  generalize kbC k - kbC a = e
  unfold tF
  by_cases d0 : d = 0
  · subst d0
    rw [x_B_touch_26_0]
    by_cases e1 : e = 1
    · subst e1
      simp only [x_B_touch_0, x_B_touch_1, x_B_touch_2, x_B_touch_5, x_B_touch_6, x_B_touch_7, x_B_touch_10, x_B_touch_11, x_B_touch_12, x_B_touch_13, x_B_touch_14, x_B_touch_17, x_B_touch_18, x_B_touch_19, x_B_touch_22, x_B_touch_23, x_B_touch_25, x_B_touch_52, x_B_touch_54, x_B_touch_55, x_B_touch_58, x_B_touch_60, x_B_touch_61, x_B_touch_64, x_B_touch_65, x_B_touch_68, x_B_touch_69, x_B_touch_70, x_B_touch_72, x_B_touch_75, x_B_touch_77, x_B_touch_78, x_B_touch_81, x_B_touch_82, x_B_touch_85, x_B_touch_86, x_B_touch_87, x_B_touch_89, x_B_touch_92, x_B_touch_94, x_B_touch_95, x_B_touch_98, x_B_touch_99, x_B_touch_102, x_B_touch_103, x_B_touch_104, x_B_touch_105, decide_true, Bool.true_or, bI_0, bI_t, bI_f, e10, isA30, isA31, isA33, isA40, isA42, isA43, rOkB0, rOkB1, rOkB, Ret_v, Ret_n, cmp_eq, cmp_lt, cmp_gt, nI_1, eq_self, if_true, if_false, reduceIte]
    · by_cases e2 : e = -1
      · subst e2
        simp only [x_B_touch_0, x_B_touch_1, x_B_touch_2, x_B_touch_5, x_B_touch_6, x_B_touch_7, x_B_touch_10, x_B_touch_11, x_B_touch_12, x_B_touch_13, x_B_touch_14, x_B_touch_17, x_B_touch_18, x_B_touch_19, x_B_touch_22, x_B_touch_23, x_B_touch_25, x_B_touch_52, x_B_touch_54, x_B_touch_55, x_B_touch_58, x_B_touch_60, x_B_touch_61, x_B_touch_64, x_B_touch_65, x_B_touch_68, x_B_touch_69, x_B_touch_70, x_B_touch_72, x_B_touch_75, x_B_touch_77, x_B_touch_78, x_B_touch_81, x_B_touch_82, x_B_touch_85, x_B_touch_86, x_B_touch_87, x_B_touch_89, x_B_touch_92, x_B_touch_94, x_B_touch_95, x_B_touch_98, x_B_touch_99, x_B_touch_102, x_B_touch_103, x_B_touch_104, x_B_touch_105, m1n1, decide_true, Bool.or_true, bI_0, bI_t, bI_f, e10, isA30, isA31, isA33, isA40, isA42, isA43, rOkB0, rOkB1, rOkB, Ret_v, Ret_n, cmp_eq, cmp_lt, cmp_gt, nI_1, eq_self, if_true, if_false, reduceIte]
      · simp only [x_B_touch_0, x_B_touch_1, x_B_touch_2, x_B_touch_5, x_B_touch_6, x_B_touch_7, x_B_touch_10, x_B_touch_11, x_B_touch_12, x_B_touch_13, x_B_touch_14, x_B_touch_17, x_B_touch_18, x_B_touch_19, x_B_touch_22, x_B_touch_23, x_B_touch_25, x_B_touch_52, x_B_touch_54, x_B_touch_55, x_B_touch_58, x_B_touch_60, x_B_touch_61, x_B_touch_64, x_B_touch_65, x_B_touch_68, x_B_touch_69, x_B_touch_70, x_B_touch_72, x_B_touch_75, x_B_touch_77, x_B_touch_78, x_B_touch_81, x_B_touch_82, x_B_touch_85, x_B_touch_86, x_B_touch_87, x_B_touch_89, x_B_touch_92, x_B_touch_94, x_B_touch_95, x_B_touch_98, x_B_touch_99, x_B_touch_102, x_B_touch_103, x_B_touch_104, x_B_touch_105, e1, e2, decide_false, Bool.or_false, bI_0, bI_t, bI_f, e10, isA30, isA31, isA33, isA40, isA42, isA43, rOkB0, rOkB1, rOkB, Ret_v, Ret_n, cmp_eq, cmp_lt, cmp_gt, nI_1, eq_self, if_true, if_false, reduceIte]
  · by_cases d1 : d = 1
    · subst d1
      rw [x_B_touch_26_1]
      by_cases e1 : e = 0
      · subst e1
        simp only [x_B_touch_0, x_B_touch_1, x_B_touch_2, x_B_touch_5, x_B_touch_6, x_B_touch_7, x_B_touch_10, x_B_touch_11, x_B_touch_12, x_B_touch_13, x_B_touch_14, x_B_touch_17, x_B_touch_18, x_B_touch_19, x_B_touch_22, x_B_touch_23, x_B_touch_25, x_B_touch_52, x_B_touch_54, x_B_touch_55, x_B_touch_58, x_B_touch_60, x_B_touch_61, x_B_touch_64, x_B_touch_65, x_B_touch_68, x_B_touch_69, x_B_touch_70, x_B_touch_72, x_B_touch_75, x_B_touch_77, x_B_touch_78, x_B_touch_81, x_B_touch_82, x_B_touch_85, x_B_touch_86, x_B_touch_87, x_B_touch_89, x_B_touch_92, x_B_touch_94, x_B_touch_95, x_B_touch_98, x_B_touch_99, x_B_touch_102, x_B_touch_103, x_B_touch_104, x_B_touch_105, decide_true, Bool.true_or, bI_0, bI_t, bI_f, e10, isA30, isA31, isA33, isA40, isA42, isA43, rOkB0, rOkB1, rOkB, Ret_v, Ret_n, cmp_eq, cmp_lt, cmp_gt, nI_1, eq_self, if_true, if_false, reduceIte]
      · by_cases e2 : e = -1
        · subst e2
          simp only [x_B_touch_0, x_B_touch_1, x_B_touch_2, x_B_touch_5, x_B_touch_6, x_B_touch_7, x_B_touch_10, x_B_touch_11, x_B_touch_12, x_B_touch_13, x_B_touch_14, x_B_touch_17, x_B_touch_18, x_B_touch_19, x_B_touch_22, x_B_touch_23, x_B_touch_25, x_B_touch_52, x_B_touch_54, x_B_touch_55, x_B_touch_58, x_B_touch_60, x_B_touch_61, x_B_touch_64, x_B_touch_65, x_B_touch_68, x_B_touch_69, x_B_touch_70, x_B_touch_72, x_B_touch_75, x_B_touch_77, x_B_touch_78, x_B_touch_81, x_B_touch_82, x_B_touch_85, x_B_touch_86, x_B_touch_87, x_B_touch_89, x_B_touch_92, x_B_touch_94, x_B_touch_95, x_B_touch_98, x_B_touch_99, x_B_touch_102, x_B_touch_103, x_B_touch_104, x_B_touch_105, m0n1, (show ¬ (-1 : Int32) = 0 by decide), decide_true, decide_false, Bool.or_true, bI_0, bI_t, bI_f, e10, isA30, isA31, isA33, isA40, isA42, isA43, rOkB0, rOkB1, rOkB, Ret_v, Ret_n, cmp_eq, cmp_lt, cmp_gt, nI_1, eq_self, if_true, if_false, reduceIte]
        · simp only [x_B_touch_0, x_B_touch_1, x_B_touch_2, x_B_touch_5, x_B_touch_6, x_B_touch_7, x_B_touch_10, x_B_touch_11, x_B_touch_12, x_B_touch_13, x_B_touch_14, x_B_touch_17, x_B_touch_18, x_B_touch_19, x_B_touch_22, x_B_touch_23, x_B_touch_25, x_B_touch_52, x_B_touch_54, x_B_touch_55, x_B_touch_58, x_B_touch_60, x_B_touch_61, x_B_touch_64, x_B_touch_65, x_B_touch_68, x_B_touch_69, x_B_touch_70, x_B_touch_72, x_B_touch_75, x_B_touch_77, x_B_touch_78, x_B_touch_81, x_B_touch_82, x_B_touch_85, x_B_touch_86, x_B_touch_87, x_B_touch_89, x_B_touch_92, x_B_touch_94, x_B_touch_95, x_B_touch_98, x_B_touch_99, x_B_touch_102, x_B_touch_103, x_B_touch_104, x_B_touch_105, e1, e2, decide_false, Bool.or_false, bI_0, bI_t, bI_f, e10, isA30, isA31, isA33, isA40, isA42, isA43, rOkB0, rOkB1, rOkB, Ret_v, Ret_n, cmp_eq, cmp_lt, cmp_gt, nI_1, eq_self, if_true, if_false, reduceIte]
    · by_cases d2 : d = -1
      · subst d2
        rw [x_B_touch_26_n1]
        by_cases e1 : e = 0
        · subst e1
          simp only [x_B_touch_0, x_B_touch_1, x_B_touch_2, x_B_touch_5, x_B_touch_6, x_B_touch_7, x_B_touch_10, x_B_touch_11, x_B_touch_12, x_B_touch_13, x_B_touch_14, x_B_touch_17, x_B_touch_18, x_B_touch_19, x_B_touch_22, x_B_touch_23, x_B_touch_25, x_B_touch_52, x_B_touch_54, x_B_touch_55, x_B_touch_58, x_B_touch_60, x_B_touch_61, x_B_touch_64, x_B_touch_65, x_B_touch_68, x_B_touch_69, x_B_touch_70, x_B_touch_72, x_B_touch_75, x_B_touch_77, x_B_touch_78, x_B_touch_81, x_B_touch_82, x_B_touch_85, x_B_touch_86, x_B_touch_87, x_B_touch_89, x_B_touch_92, x_B_touch_94, x_B_touch_95, x_B_touch_98, x_B_touch_99, x_B_touch_102, x_B_touch_103, x_B_touch_104, x_B_touch_105, d0, d1, decide_true, Bool.true_or, bI_0, bI_t, bI_f, e10, isA30, isA31, isA33, isA40, isA42, isA43, rOkB0, rOkB1, rOkB, Ret_v, Ret_n, cmp_eq, cmp_lt, cmp_gt, nI_1, eq_self, if_true, if_false, reduceIte]
        · by_cases e2 : e = 1
          · subst e2
            simp only [x_B_touch_0, x_B_touch_1, x_B_touch_2, x_B_touch_5, x_B_touch_6, x_B_touch_7, x_B_touch_10, x_B_touch_11, x_B_touch_12, x_B_touch_13, x_B_touch_14, x_B_touch_17, x_B_touch_18, x_B_touch_19, x_B_touch_22, x_B_touch_23, x_B_touch_25, x_B_touch_52, x_B_touch_54, x_B_touch_55, x_B_touch_58, x_B_touch_60, x_B_touch_61, x_B_touch_64, x_B_touch_65, x_B_touch_68, x_B_touch_69, x_B_touch_70, x_B_touch_72, x_B_touch_75, x_B_touch_77, x_B_touch_78, x_B_touch_81, x_B_touch_82, x_B_touch_85, x_B_touch_86, x_B_touch_87, x_B_touch_89, x_B_touch_92, x_B_touch_94, x_B_touch_95, x_B_touch_98, x_B_touch_99, x_B_touch_102, x_B_touch_103, x_B_touch_104, x_B_touch_105, d0, d1, decide_true, decide_false, Bool.or_true, bI_0, bI_t, bI_f, e10, isA30, isA31, isA33, isA40, isA42, isA43, rOkB0, rOkB1, rOkB, Ret_v, Ret_n, cmp_eq, cmp_lt, cmp_gt, nI_1, eq_self, if_true, if_false, reduceIte]
          · simp only [x_B_touch_0, x_B_touch_1, x_B_touch_2, x_B_touch_5, x_B_touch_6, x_B_touch_7, x_B_touch_10, x_B_touch_11, x_B_touch_12, x_B_touch_13, x_B_touch_14, x_B_touch_17, x_B_touch_18, x_B_touch_19, x_B_touch_22, x_B_touch_23, x_B_touch_25, x_B_touch_52, x_B_touch_54, x_B_touch_55, x_B_touch_58, x_B_touch_60, x_B_touch_61, x_B_touch_64, x_B_touch_65, x_B_touch_68, x_B_touch_69, x_B_touch_70, x_B_touch_72, x_B_touch_75, x_B_touch_77, x_B_touch_78, x_B_touch_81, x_B_touch_82, x_B_touch_85, x_B_touch_86, x_B_touch_87, x_B_touch_89, x_B_touch_92, x_B_touch_94, x_B_touch_95, x_B_touch_98, x_B_touch_99, x_B_touch_102, x_B_touch_103, x_B_touch_104, x_B_touch_105, d0, d1, e1, e2, decide_false, Bool.or_false, bI_0, bI_t, bI_f, e10, isA30, isA31, isA33, isA40, isA42, isA43, rOkB0, rOkB1, rOkB, Ret_v, Ret_n, cmp_eq, cmp_lt, cmp_gt, nI_1, eq_self, if_true, if_false, reduceIte]
      · have hd : d.toInt < -1 ∨ 1 < d.toInt := by
          have q0 : ¬ d.toInt = 0 := fun q => d0 (Int32.toInt_inj.mp (q.trans (by decide)))
          have q1 : ¬ d.toInt = 1 := fun q => d1 (Int32.toInt_inj.mp (q.trans (by decide)))
          have q2 : ¬ d.toInt = -1 := fun q => d2 (Int32.toInt_inj.mp (q.trans (by decide)))
          omega
        rw [x_B_touch_26_d hd]
        simp only [x_B_touch_0, x_B_touch_1, x_B_touch_2, x_B_touch_5, x_B_touch_6, x_B_touch_7, x_B_touch_10, x_B_touch_11, x_B_touch_12, x_B_touch_13, x_B_touch_14, x_B_touch_17, x_B_touch_18, x_B_touch_19, x_B_touch_22, x_B_touch_23, x_B_touch_25, x_B_touch_52, x_B_touch_54, x_B_touch_55, x_B_touch_58, x_B_touch_60, x_B_touch_61, x_B_touch_64, x_B_touch_65, x_B_touch_68, x_B_touch_69, x_B_touch_70, x_B_touch_72, x_B_touch_75, x_B_touch_77, x_B_touch_78, x_B_touch_81, x_B_touch_82, x_B_touch_85, x_B_touch_86, x_B_touch_87, x_B_touch_89, x_B_touch_92, x_B_touch_94, x_B_touch_95, x_B_touch_98, x_B_touch_99, x_B_touch_102, x_B_touch_103, x_B_touch_104, x_B_touch_105, d0, d1, d2, bI_0, bI_t, bI_f, e10, isA30, isA31, isA33, isA40, isA42, isA43, rOkB0, rOkB1, rOkB, Ret_v, Ret_n, cmp_eq, cmp_lt, cmp_gt, nI_1, eq_self, if_true, if_false, reduceIte]
theorem l_B_lay (hb : 34 < b) (hs : s ≤ 34) (hy : y ≤ 34) (h26 : ∀ i, i < len → 97 ≤ c i ∧ c i < 123) : ∀ (k i : Nat) (I : MI) (l4 : Value), i + k = len → KbS R S b → StS R S I s y len c → (∀ I', I' (b + 1) = lyR c r (I (b + 1)) i k → I' (b + 2) = lyC c (I (b + 2)) i k → (∀ p, ¬ p = b + 1 → ¬ p = b + 2 → I' p = I p) → Q 0 none I' J R S) → Wp 70 2 [.ref b, .int r, .ref s, .int (nI i), l4] [] I J R S Q := by
  intro k
  induction k with
  | zero =>
    intro i I l4 hi hK hS hQ
    have : i = len := by omega
    subst this
    have e : ¬ nI i < nI i := Int32.lt_irrefl
    have e21 := hS.1
    have r1 := fun Q' => c_Js_length (Q := Q') (J := J) hS
    rw [x_B_layRow_2]
    simp only [x_B_layRow_0, x_B_layRow_1, x_B_layRow_3, x_B_layRow_4, x_B_layRow_7, x_B_layRow_10, x_B_layRow_11, x_B_layRow_12, x_B_layRow_15, x_B_layRow_17, x_B_layRow_18, x_B_layRow_20, x_B_layRow_22, x_B_layRow_25, x_B_layRow_27, x_B_layRow_29, x_B_layRow_32, x_B_layRow_33, x_B_layRow_36, x_B_layRow_38, x_B_layRow_39, x_B_layRow_40, x_B_layRow_41, x_B_layRow_44, x_B_layRow_46, x_B_layRow_47, x_B_layRow_48, x_B_layRow_51, x_B_layRow_54, e21, r1, e, bI_0, bI_t, bI_f, e10, isA30, isA31, isA33, isA40, isA42, isA43, rOkB0, rOkB1, rOkB, Ret_v, Ret_n, cmp_eq, cmp_lt, cmp_gt, nI_1, eq_self, if_true, if_false, reduceIte]
    exact hQ I rfl rfl (fun _ _ _ => rfl)
  | succ k ih =>
    intro i I l4 hi hK hS hQ
    have hl := hS.2.2.2.1
    have e : nI i < nI len := nI_lt (by omega) (by omega)
    have e21 := hS.1
    have r1 := fun Q' => c_Js_length (Q := Q') (J := J) hS
    have r2 := fun Q' => c_Js_charAt (Q := Q') (J := J) (k := i) hS (by omega)
    have hc := h26 i (by omega)
    have e97 : nI (c i) - 97 = nI (c i - 97) := by rw [show (97 : Int32) = nI 97 by decide]; exact nI_sub hc.1
    have p0 : ¬ nI (c i - 97) < 0 := nI_pos (by omega)
    have p1 : nI (c i - 97) < 26 := by rw [show (26 : Int32) = nI 26 by decide]; exact nI_lt (by omega) (by omega)
    have p2 : inb (nI (c i - 97)) 26 = true := inb_nI (by omega) (by omega)
    have p3 : ix (nI (c i - 97)) = c i - 97 := ix_nI (by omega)
    obtain ⟨s0, s1, s2, s3, n1, n2, n3, r0, q1, q2⟩ := hK
    rw [x_B_layRow_2]
    simp only [x_B_layRow_0, x_B_layRow_1, x_B_layRow_3, x_B_layRow_4, x_B_layRow_7, x_B_layRow_10, x_B_layRow_11, x_B_layRow_12, x_B_layRow_15, x_B_layRow_17, x_B_layRow_18, x_B_layRow_20, x_B_layRow_22, x_B_layRow_25, x_B_layRow_27, x_B_layRow_29, x_B_layRow_32, x_B_layRow_33, x_B_layRow_36, x_B_layRow_38, x_B_layRow_39, x_B_layRow_40, x_B_layRow_41, x_B_layRow_44, x_B_layRow_46, x_B_layRow_47, x_B_layRow_48, x_B_layRow_51, x_B_layRow_54, e21, r1, r2, e, e97, p0, p1, p2, p3, s0, s1, s2, n1, n2, r0, q1, nI_1', bI_0, bI_t, bI_f, e10, isA30, isA31, isA33, isA40, isA42, isA43, rOkB0, rOkB1, rOkB, Ret_v, Ret_n, cmp_eq, cmp_lt, cmp_gt, nI_1, eq_self, if_true, if_false, reduceIte]
    refine ih (i + 1) _ _ (by omega) ⟨s0, s1, s2, s3, n1, n2, n3, r0, q1, q2⟩ ?_ (fun I' h1 h2 h3 => ?_)
    · exact StS_kp (I := I) (J := J) (J' := J) (q := 0) (d := b) hS (kp_I (kp_I kp_rfl (by omega)) (by omega)) (by omega) (by omega)
    · refine hQ I' ?_ ?_ (fun p a1 a2 => ?_)
      · rw [h1, u2_p (by omega)]
        show lyR c r _ (i + 1) k = lyR c r _ (i + 1) k
        congr 1
        funext j
        by_cases hj : j = c i - 97
        · rw [if_pos hj, hj]; exact u2_eq
        · rw [if_neg hj, u2_k hj]
      · rw [h2]
        show lyC c _ (i + 1) k = lyC c _ (i + 1) k
        congr 1
        funext j
        by_cases hj : j = c i - 97
        · rw [if_pos hj, hj]; exact u2_eq
        · rw [if_neg hj, u2_k hj, u2_p (by omega)]
      · rw [h3 p a1 a2, u2_p a2, u2_p a1]
theorem c_B_layRow (hb : 34 < b) (hs : s ≤ 34) (hy : y ≤ 34) (h26 : ∀ i, i < len → 97 ≤ c i ∧ c i < 123) (hK : KbS R S b) (hS : StS R S I s y len c) (hQ : ∀ I', I' (b + 1) = lyR c r (I (b + 1)) 0 len → I' (b + 2) = lyC c (I (b + 2)) 0 len → (∀ p, ¬ p = b + 1 → ¬ p = b + 2 → I' p = I p) → Q 0 none I' J R S) : Wp 70 0 [.ref b, .int r, .ref s, nov, nov] [] I J R S Q := by
  simp only [x_B_layRow_0, x_B_layRow_1]
  exact l_B_lay hb hs hy h26 len 0 I nov (by omega) hK hS hQ
theorem l_B_mask (ha : a < 26) : ∀ (k d : Nat) (I : MI), d + k = 26 → KbS R S b → KbE I b → I (b + 3) a = kbM a d → (∀ I', (∀ p, ¬ p = b + 3 → I' p = I p) → (∀ j, ¬ j = a → I' (b + 3) j = I (b + 3) j) → I' (b + 3) a = kbM a 26 → Wp 69 92 [.ref b, .int (nI a), .int (nI 26)] [] I' J R S Q) → Wp 69 59 [.ref b, .int (nI a), .int (nI d)] [] I J R S Q := by
  intro k
  induction k with
  | zero =>
    intro d I hd hK hD h3 hQ
    have : d = 26 := by omega
    subst this
    have e : ¬ nI 26 < 26 := by decide
    rw [x_B_init_59]
    simp only [x_B_init_60, x_B_init_62, e, bI_0, bI_t, bI_f, e10, isA30, isA31, isA33, isA40, isA42, isA43, rOkB0, rOkB1, rOkB, Ret_v, Ret_n, cmp_eq, cmp_lt, cmp_gt, nI_1, eq_self, if_true, if_false, reduceIte]
    exact hQ I (fun _ _ => rfl) (fun _ _ => rfl) h3
  | succ k ih =>
    intro d I hd hK hD h3 hQ
    have e : nI d < 26 := by rw [show (26 : Int32) = nI 26 by decide]; exact nI_lt (by omega) (by omega)
    have r1 := fun Q' => c_B_touch (Q := Q') (J := J) (k := d) hK hD ha (by omega)
    have K := hK
    obtain ⟨s0, s1, s2, s3, n1, n2, n3, r0, q1, q2⟩ := hK
    have i1 : inb (nI a) 26 = true := inb_nI ha (by omega)
    have i2 : ix (nI a) = a := ix_nI (by omega)
    rw [x_B_init_59]
    by_cases ht : tch a d = true
    · have hm : kbM a (d + 1) = kbM a d ||| ((1 : Int32) <<< (nI d &&& 31)) := by
        show (if tch a d = true then _ else _) = _
        rw [if_pos ht]
      simp only [x_B_init_60, x_B_init_62, x_B_init_65, x_B_init_66, x_B_init_67, x_B_init_68, x_B_init_71, x_B_init_74, x_B_init_75, x_B_init_78, x_B_init_79, x_B_init_80, x_B_init_81, x_B_init_82, x_B_init_83, x_B_init_84, x_B_init_85, x_B_init_86, x_B_init_89, e, r1, ht, s0, s3, n3, q2, i1, i2, h3, ← hm, nI_1', bI_0, bI_t, bI_f, e10, isA30, isA31, isA33, isA40, isA42, isA43, rOkB0, rOkB1, rOkB, Ret_v, Ret_n, cmp_eq, cmp_lt, cmp_gt, nI_1, eq_self, if_true, if_false, reduceIte]
      refine ih (d + 1) _ (by omega) K (fun i hi => ?_) u2_eq (fun I' h1 h2 h4 => hQ I' (fun p hp => ?_) (fun j hj => ?_) h4)
      · rw [u2_p (by omega), u2_p (by omega)]; exact hD i hi
      · rw [h1 p hp, u2_p hp]
      · rw [h2 j hj, u2_k hj]
    · have hf : tch a d = false := by simpa using ht
      have hm : kbM a (d + 1) = kbM a d := by
        show (if tch a d = true then _ else _) = _
        rw [if_neg ht]
      simp only [x_B_init_60, x_B_init_62, x_B_init_65, x_B_init_66, x_B_init_67, x_B_init_68, x_B_init_71, x_B_init_86, x_B_init_89, e, r1, hf, s0, nI_1', bI_0, bI_t, bI_f, e10, isA30, isA31, isA33, isA40, isA42, isA43, rOkB0, rOkB1, rOkB, Ret_v, Ret_n, cmp_eq, cmp_lt, cmp_gt, nI_1, eq_self, if_true, if_false, reduceIte]
      exact ih (d + 1) I (by omega) K hD (h3.trans hm.symm) hQ
theorem l_B_all : ∀ (k d : Nat) (I : MI) (l2 : Value), d + k = 26 → KbS R S b → KbE I b → (∀ j, j < d → I (b + 3) j = kbM j 26) → (∀ j, d ≤ j → j < 26 → I (b + 3) j = 0) → (∀ I', (∀ p, ¬ p = b + 3 → I' p = I p) → KbD I' b → Q 0 none I' J R S) → Wp 69 51 [.ref b, .int (nI d), l2] [] I J R S Q := by
  intro k
  induction k with
  | zero =>
    intro d I l2 hd hK hD h1 h2 hQ
    have : d = 26 := by omega
    subst this
    have e : ¬ nI 26 < 26 := by decide
    rw [x_B_init_51]
    simp only [x_B_init_52, x_B_init_54, x_B_init_98, e, bI_0, bI_t, bI_f, e10, isA30, isA31, isA33, isA40, isA42, isA43, rOkB0, rOkB1, rOkB, Ret_v, Ret_n, cmp_eq, cmp_lt, cmp_gt, nI_1, eq_self, if_true, if_false, reduceIte]
    exact hQ I (fun _ _ => rfl) (fun i hi => ⟨(hD i hi).1, (hD i hi).2, h1 i hi⟩)
  | succ k ih =>
    intro d I l2 hd hK hD h1 h2 hQ
    have e : nI d < 26 := by rw [show (26 : Int32) = nI 26 by decide]; exact nI_lt (by omega) (by omega)
    rw [x_B_init_51]
    simp only [x_B_init_52, x_B_init_54, x_B_init_57, x_B_init_58, e, bI_0, bI_t, bI_f, e10, isA30, isA31, isA33, isA40, isA42, isA43, rOkB0, rOkB1, rOkB, Ret_v, Ret_n, cmp_eq, cmp_lt, cmp_gt, nI_1, eq_self, if_true, if_false, reduceIte]
    rw [← nI_0]
    refine l_B_mask (by omega) 26 0 I (by omega) hK hD (h2 d (by omega) (by omega)) (fun I' g1 g2 g3 => ?_)
    simp only [x_B_init_92, x_B_init_95, nI_1']
    refine ih (d + 1) I' _ (by omega) hK (fun i hi => ?_) (fun j hj => ?_) (fun j hj hj2 => ?_) (fun I2 f1 f2 => hQ I2 (fun p hp => (f1 p hp).trans (g1 p hp)) f2)
    · rw [g1 (b + 1) (by omega), g1 (b + 2) (by omega)]; exact hD i hi
    · by_cases hjd : j = d
      · subst hjd; exact g3
      · rw [g2 j hjd]; exact h1 j (by omega)
    · rw [g2 j (by omega)]; exact h2 j (by omega) hj2
theorem c_B_init (hb : 34 < b) (hS : S.1 b = 3) (hn : S.2.2.1 = b + 1) (h0 : S.2.2.2.1 = 0) (t1 : StS R S I 12 23 10 rd1) (t2 : StS R S I 13 24 9 rd2) (t3 : StS R S I 14 25 7 rd3) (hQ : ∀ I' J' R' S', kp 0 b I J R S I' J' R' S' → cq S S' (b + 4) 78 → KbS R' S' b → KbD I' b → Q 0 none I' J' R' S') : Wp 69 0 [.ref b, nov, nov] [] I J R S Q := by
  have k1 : (sh_new S 30 26 26).1 b = 3 := by rw [sh_1p (by omega)]; exact hS
  have c1 : (sh_new S 30 26 26).2.2.1 = b + 2 := by rw [sh_c, hn]
  have k2 : (sh_new (sh_new S 30 26 26) 30 26 26).1 b = 3 := by rw [sh_1p (by omega)]; exact k1
  have c2 : (sh_new (sh_new S 30 26 26) 30 26 26).2.2.1 = b + 3 := by rw [sh_c, c1]
  have k3 : (sh_new (sh_new (sh_new S 30 26 26) 30 26 26) 30 26 26).1 b = 3 := by rw [sh_1p (by omega)]; exact k2
  have g : kp 0 b I J R S (u1 (u1 (u1 I (b + 1) 0) (b + 2) 0) (b + 3) 0) J (u2 (u2 (u2 R b 0 (.ref (b + 1))) b 1 (.ref (b + 2))) b 2 (.ref (b + 3))) (sh_new (sh_new (sh_new S 30 26 26) 30 26 26) 30 26 26) := kp_S (kp_S (kp_S (kp_R (kp_R (kp_R (kp_u1I (kp_u1I (kp_u1I kp_rfl (by omega)) (by omega)) (by omega)) (by omega)) (by omega)) (by omega)) (by omega)) (by omega)) (by omega)
  have K : KbS (u2 (u2 (u2 R b 0 (.ref (b + 1))) b 1 (.ref (b + 2))) b 2 (.ref (b + 3))) (sh_new (sh_new (sh_new S 30 26 26) 30 26 26) 30 26 26) b := by
    refine ⟨k3, ?_, ?_, sh_1e c2.symm, ?_, ?_, sh_2e c2.symm, ?_, ?_, u2_eq⟩
    · rw [sh_1p (by omega), sh_1p (by omega)]; exact sh_1e hn.symm
    · rw [sh_1p (by omega)]; exact sh_1e c1.symm
    · rw [sh_2p (by omega), sh_2p (by omega)]; exact sh_2e hn.symm
    · rw [sh_2p (by omega)]; exact sh_2e c1.symm
    · rw [u2_k (by omega), u2_k (by omega)]; exact u2_eq
    · rw [u2_k (by omega)]; exact u2_eq
  simp only [x_B_init_0, x_B_init_1, x_B_init_4, x_B_init_5, x_B_init_7, x_B_init_9, x_B_init_12, x_B_init_13, x_B_init_15, x_B_init_17, x_B_init_20, x_B_init_21, x_B_init_23, x_B_init_25, x_B_init_28, x_B_init_29, x_B_init_30, x_B_init_32, hS, hn, h0, sh_t, n26, and_self, ix26, k1, c1, k2, c2, k3, bI_0, bI_t, bI_f, e10, isA30, isA31, isA33, isA40, isA42, isA43, rOkB0, rOkB1, rOkB, Ret_v, Ret_n, cmp_eq, cmp_lt, cmp_gt, nI_1, eq_self, if_true, if_false, reduceIte]
  refine c_B_layRow hb (by omega) (by omega) rd1_ok K (StS_kp t1 g (by omega) (by omega)) (fun I1 a1 a2 a3 => ?_)
  have g1 : kp 0 b I J R S I1 J _ _ := kp_trans g (fun p _ hp => ⟨a3 p (by omega) (by omega), rfl, rfl, rfl, rfl⟩)
  simp only [x_B_init_35, x_B_init_36, x_B_init_37, x_B_init_39, k3, bI_0, bI_t, bI_f, e10, isA30, isA31, isA33, isA40, isA42, isA43, rOkB0, rOkB1, rOkB, Ret_v, Ret_n, cmp_eq, cmp_lt, cmp_gt, nI_1, eq_self, if_true, if_false, reduceIte]
  refine c_B_layRow hb (by omega) (by omega) rd2_ok K (StS_kp t2 g1 (by omega) (by omega)) (fun I2 b1 b2 b3 => ?_)
  have g2 : kp 0 b I J R S I2 J _ _ := kp_trans g1 (fun p _ hp => ⟨b3 p (by omega) (by omega), rfl, rfl, rfl, rfl⟩)
  simp only [x_B_init_42, x_B_init_43, x_B_init_44, x_B_init_46, k3, bI_0, bI_t, bI_f, e10, isA30, isA31, isA33, isA40, isA42, isA43, rOkB0, rOkB1, rOkB, Ret_v, Ret_n, cmp_eq, cmp_lt, cmp_gt, nI_1, eq_self, if_true, if_false, reduceIte]
  refine c_B_layRow hb (by omega) (by omega) rd3_ok K (StS_kp t3 g2 (by omega) (by omega)) (fun I3 d1 d2 d3 => ?_)
  have g3 : kp 0 b I J R S I3 J _ _ := kp_trans g2 (fun p _ hp => ⟨d3 p (by omega) (by omega), rfl, rfl, rfl, rfl⟩)
  simp only [x_B_init_49, x_B_init_50, bI_0, bI_t, bI_f, e10, isA30, isA31, isA33, isA40, isA42, isA43, rOkB0, rOkB1, rOkB, Ret_v, Ret_n, cmp_eq, cmp_lt, cmp_gt, nI_1, eq_self, if_true, if_false, reduceIte]
  rw [← nI_0]
  refine l_B_all 26 0 I3 nov (by omega) K (fun i hi => ⟨?_, ?_⟩) (fun j hj => absurd hj (Nat.not_lt_zero j)) (fun j _ hj => ?_) (fun I4 f1 f2 => ?_)
  · rw [d1, b1, a1, ← lay_R i hi]
    congr 3
    funext j
    rw [u1_p (by omega), u1_p (by omega)]
    exact u1_e
  · rw [d2, b2, a2, ← lay_C i hi]
    congr 3
    funext j
    rw [u1_p (by omega)]
    exact u1_e
  · rw [d3 _ (by omega) (by omega), b3 _ (by omega) (by omega), a3 _ (by omega) (by omega)]
    exact u1_e
  · exact hQ I4 _ _ _ (kp_trans g3 (fun p _ hp => ⟨f1 p (by omega), rfl, rfl, rfl, rfl⟩)) ⟨by rw [sh_c, c2], h0, by rw [sh_w, sh_w, sh_w]⟩ K f2
end ND

