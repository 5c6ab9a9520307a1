/-! the model: arguments -/
def okW (x : Nat → Int32) (l p : Nat) : Bool := decide (byA x l p = 32) && (decide (skp x l 150 p < wP x l p) && !isLt x l (wP x l p))
def okN (x : Nat → Int32) (l p : Nat) : Bool := decide (byA x l p = 32) && (decide (skp x l 150 p < nP x l p) && !isDg x l (nP x l p))
def gt0 (n : Nat) : Bool := decide (0 < n)
section MX
variable {I I' : MI} {J J' : MJ} {R : MR} {S : Sh} {Q : SkQ} {n l p q : Nat} {x : Nat → Int32} {v b : Int32}
theorem rdV_p : ∀ (k p m : Nat), 0 < m → 0 < rdV x l k p m
  | 0, p, m, h => by simp only [rdV]; exact h
  | k + 1, p, m, h => by
    simp only [rdV]
    split
    · exact rdV_p k (p + 1) _ (by omega)
    · exact h
theorem rdV_z (k p : Nat) : rdV x l (k + 1) p 0 = 0 ↔ rdP x l (k + 1) p = p := by
  simp only [rdV, rdP]
  by_cases q : isLt x l p = true
  · rw [if_pos q, if_pos q]
    have h1 := isLt_26 q
    have h2 := rdV_p (x := x) (l := l) k (p + 1) (0 * 32 + ltN x l p) (by omega)
    have h3 := (rdP_le (x := x) (n := l) k (p + 1)).1
    omega
  · rw [if_neg q, if_neg q]
    simp
theorem skp_b (k p : Nat) (h : l ≤ p + k) : ¬ byA x l (skp x l k p) = 32 := by
  induction k generalizing p with
  | zero =>
    simp only [skp]
    unfold byA
    rw [if_neg (by omega)]
    decide
  | succ k ih =>
    simp only [skp]
    by_cases q : byA x l p = 32
    · rw [if_pos q]; exact ih (p + 1) (by omega)
    · rw [if_neg q]; exact q
theorem wF_ok (hp : p ≤ 151) (hl : l ≤ 150) : wF x l (-1) p = if okW x l p = true then -1 else nI (if byA x l p = 32 then wP x l p else p) := by
  have b := wP_le (x := x) hp hl
  have z : wV x l p = 0 ↔ wP x l p = skp x l 150 p := rdV_z 7 _
  have g := (rdP_le (x := x) (n := l) 8 (skp x l 150 p)).1
  have g' : skp x l 150 p ≤ wP x l p := g
  unfold wF wdF gapF okW
  by_cases q : byA x l p = 32
  · rw [if_pos q, if_pos q, decide_eq_true q, Bool.true_and]
    by_cases q2 : wV x l p = 0 ∨ isLt x l (wP x l p) = true
    · rw [if_pos q2, if_neg]
      · unfold flt; rw [if_pos rfl]
      · rw [Bool.and_eq_true, decide_eq_true_eq, Bool.not_eq_true']
        rintro ⟨h1, h2⟩
        rcases q2 with q2 | q2
        · have := z.mp q2; omega
        · rw [h2] at q2; cases q2
    · rw [if_neg q2, if_pos]
      rw [Bool.and_eq_true, decide_eq_true_eq, Bool.not_eq_true']
      refine ⟨?_, ?_⟩
      · have : ¬ wP x l p = skp x l 150 p := fun h => q2 (Or.inl (z.mpr h))
        omega
      · cases h : isLt x l (wP x l p)
        · rfl
        · exact absurd (Or.inr h) q2
  · rw [if_neg q, if_neg q, decide_eq_false q, Bool.false_and, if_neg (c := false = true) (by simp)]
    have f1 : flt (-1) p = nI p := by unfold flt; rw [if_pos rfl]
    have f2 : flt (nI p) (wP x l p) = nI p := by unfold flt; rw [if_neg (nI_m1 (by omega))]
    rw [f1, f2]
    simp
theorem nF_ok (hp : p ≤ 151) (hl : l ≤ 150) : nF x l (-1) p = if okN x l p = true then -1 else nI (if byA x l p = 32 then nP x l p else p) := by
  have b := nP_le (x := x) hp hl
  have g := (nuP_le (x := x) (n := l) 3 (skp x l 150 p)).1
  have g' : skp x l 150 p ≤ nP x l p := g
  unfold nF nuF gapF okN
  by_cases q : byA x l p = 32
  · rw [if_pos q, if_pos q, decide_eq_true q, Bool.true_and]
    by_cases q2 : nP x l p = skp x l 150 p ∨ isDg x l (nP x l p) = true
    · rw [if_pos q2, if_neg]
      · unfold flt; rw [if_pos rfl]
      · rw [Bool.and_eq_true, decide_eq_true_eq, Bool.not_eq_true']
        rintro ⟨h1, h2⟩
        rcases q2 with q2 | q2
        · omega
        · rw [h2] at q2; cases q2
    · rw [if_neg q2, if_pos]
      rw [Bool.and_eq_true, decide_eq_true_eq, Bool.not_eq_true']
      refine ⟨?_, ?_⟩
      · have : ¬ nP x l p = skp x l 150 p := fun h => q2 (Or.inl h)
        omega
      · cases h : isDg x l (nP x l p)
        · rfl
        · exact absurd (Or.inr h) q2
  · rw [if_neg q, if_neg q, decide_eq_false q, Bool.false_and, if_neg (c := false = true) (by simp)]
    have f1 : flt (-1) p = nI p := by unfold flt; rw [if_pos rfl]
    have f2 : flt (nI p) (nP x l p) = nI p := by unfold flt; rw [if_neg (nI_m1 (by omega))]
    rw [f1, f2]
    simp
theorem l_M_argW (hS : MyS R S) : ∀ (k i p m : Nat) (I : MI) (J : MJ), i + k = 8 → p ≤ 400 + i → m < 2 ^ (5 * i) → TxD I x l → I 187 12 = nI p → J 187 17 = lW m → Wp 243 61 [.ref 187, .int 0, .int 97, .int 122, .int 8, .int (nI i)] [] I J R S Q = Q 0 (some (.int (bI (gt0 (i + (rdP x l k p - p)) && !isLt x l (rdP x l k p))))) (u2 I 187 12 (nI (rdP x l k p))) (u2 J 187 17 (lW (rdV x l k p m))) R S := by
  have hS' := hS
  obtain ⟨⟨k0, k1, n1, r0⟩, -, -, -, -, -, -, -, -, -, -, s4, l4, -, -, -, -, -, -, -, -, -, -, -, r10, -⟩ := hS
  have fin : ∀ (i p m : Nat) (I : MI) (J : MJ), i < 100 → p < 1000 → TxD I x l → I 187 12 = nI p → J 187 17 = lW m → Wp 243 150 [.ref 187, .int 0, .int 97, .int 122, .int 8, .int (nI i)] [] I J R S Q = Q 0 (some (.int (bI (gt0 (i + (p - p)) && !isLt x l p)))) (u2 I 187 12 (nI p)) (u2 J 187 17 (lW m)) R S := fun i p m I J hi hp hT h2 h7 => by
    have ia := fun Q' => c_M_isAt (Q := Q') (J := J) (lo := 97) (hi := 122) hS' hT h2 (by omega) (by decide)
    rw [show (!decide (byA x l p < 97) && !decide (122 < byA x l p)) = isLt x l p from rfl] at ia
    have g := nI_gt0 (i := i) (by omega)
    rw [Nat.sub_self, Nat.add_zero, u2_self h2, u2_self h7]
    by_cases q : 0 < i
    · rw [show gt0 i = true from decide_eq_true q, Bool.true_and]
      cases e : isLt x l p <;> simp only [x_M_argument_0, x_M_argument_1, x_M_argument_3, x_M_argument_5, x_M_argument_8, x_M_argument_11, x_M_argument_12, x_M_argument_13, x_M_argument_14, x_M_argument_17, x_M_argument_18, x_M_argument_21, x_M_argument_23, x_M_argument_26, x_M_argument_28, x_M_argument_29, x_M_argument_30, x_M_argument_33, x_M_argument_35, x_M_argument_38, x_M_argument_40, x_M_argument_41, x_M_argument_42, x_M_argument_45, x_M_argument_46, x_M_argument_49, x_M_argument_51, x_M_argument_53, x_M_argument_54, x_M_argument_56, x_M_argument_57, x_M_argument_58, x_M_argument_61, x_M_argument_63, x_M_argument_65, x_M_argument_68, x_M_argument_69, x_M_argument_70, x_M_argument_71, x_M_argument_74, x_M_argument_77, x_M_argument_78, x_M_argument_79, x_M_argument_82, x_M_argument_85, x_M_argument_86, x_M_argument_89, x_M_argument_90, x_M_argument_91, x_M_argument_94, x_M_argument_95, x_M_argument_98, x_M_argument_99, x_M_argument_100, x_M_argument_101, x_M_argument_104, x_M_argument_105, x_M_argument_108, x_M_argument_111, x_M_argument_112, x_M_argument_115, x_M_argument_116, x_M_argument_117, x_M_argument_120, x_M_argument_121, x_M_argument_124, x_M_argument_125, x_M_argument_126, x_M_argument_127, x_M_argument_130, x_M_argument_131, x_M_argument_134, x_M_argument_135, x_M_argument_136, x_M_argument_139, x_M_argument_140, x_M_argument_141, x_M_argument_144, x_M_argument_147, x_M_argument_150, x_M_argument_152, x_M_argument_155, x_M_argument_156, x_M_argument_157, x_M_argument_158, x_M_argument_161, x_M_argument_164, x_M_argument_165, x_M_argument_168, x_M_argument_169, k0, g, q, ia, e, Bool.not_true, Bool.not_false, Bool.true_eq_false, bI_0, bI_t, bI_f, e10, isA30, isA31, isA33, isA40, isA42, isA43, rOkB0, rOkB1, rOkB, Ret_v, Ret_n, cmp_eq, cmp_lt, cmp_gt, nI_1, eq_self, if_true, if_false, reduceIte]
    · rw [show gt0 i = false from decide_eq_false q, Bool.false_and]
      simp only [x_M_argument_0, x_M_argument_1, x_M_argument_3, x_M_argument_5, x_M_argument_8, x_M_argument_11, x_M_argument_12, x_M_argument_13, x_M_argument_14, x_M_argument_17, x_M_argument_18, x_M_argument_21, x_M_argument_23, x_M_argument_26, x_M_argument_28, x_M_argument_29, x_M_argument_30, x_M_argument_33, x_M_argument_35, x_M_argument_38, x_M_argument_40, x_M_argument_41, x_M_argument_42, x_M_argument_45, x_M_argument_46, x_M_argument_49, x_M_argument_51, x_M_argument_53, x_M_argument_54, x_M_argument_56, x_M_argument_57, x_M_argument_58, x_M_argument_61, x_M_argument_63, x_M_argument_65, x_M_argument_68, x_M_argument_69, x_M_argument_70, x_M_argument_71, x_M_argument_74, x_M_argument_77, x_M_argument_78, x_M_argument_79, x_M_argument_82, x_M_argument_85, x_M_argument_86, x_M_argument_89, x_M_argument_90, x_M_argument_91, x_M_argument_94, x_M_argument_95, x_M_argument_98, x_M_argument_99, x_M_argument_100, x_M_argument_101, x_M_argument_104, x_M_argument_105, x_M_argument_108, x_M_argument_111, x_M_argument_112, x_M_argument_115, x_M_argument_116, x_M_argument_117, x_M_argument_120, x_M_argument_121, x_M_argument_124, x_M_argument_125, x_M_argument_126, x_M_argument_127, x_M_argument_130, x_M_argument_131, x_M_argument_134, x_M_argument_135, x_M_argument_136, x_M_argument_139, x_M_argument_140, x_M_argument_141, x_M_argument_144, x_M_argument_147, x_M_argument_150, x_M_argument_152, x_M_argument_155, x_M_argument_156, x_M_argument_157, x_M_argument_158, x_M_argument_161, x_M_argument_164, x_M_argument_165, x_M_argument_168, x_M_argument_169, g, q, bI_0, bI_t, bI_f, e10, isA30, isA31, isA33, isA40, isA42, isA43, rOkB0, rOkB1, rOkB, Ret_v, Ret_n, cmp_eq, cmp_lt, cmp_gt, nI_1, eq_self, if_true, if_false, reduceIte]
  intro k
  induction k with
  | zero =>
    intro i p m I J hi hp hm hT h2 h7
    have : i = 8 := by omega
    subst this
    rw [x_M_argument_61]
    simp only [x_M_argument_0, x_M_argument_1, x_M_argument_3, x_M_argument_5, x_M_argument_8, x_M_argument_11, x_M_argument_12, x_M_argument_13, x_M_argument_14, x_M_argument_17, x_M_argument_18, x_M_argument_21, x_M_argument_23, x_M_argument_26, x_M_argument_28, x_M_argument_29, x_M_argument_30, x_M_argument_33, x_M_argument_35, x_M_argument_38, x_M_argument_40, x_M_argument_41, x_M_argument_42, x_M_argument_45, x_M_argument_46, x_M_argument_49, x_M_argument_51, x_M_argument_53, x_M_argument_54, x_M_argument_56, x_M_argument_57, x_M_argument_58, x_M_argument_63, x_M_argument_65, x_M_argument_68, x_M_argument_69, x_M_argument_70, x_M_argument_71, x_M_argument_74, x_M_argument_77, x_M_argument_78, x_M_argument_79, x_M_argument_82, x_M_argument_85, x_M_argument_86, x_M_argument_89, x_M_argument_90, x_M_argument_91, x_M_argument_94, x_M_argument_95, x_M_argument_98, x_M_argument_99, x_M_argument_100, x_M_argument_101, x_M_argument_104, x_M_argument_105, x_M_argument_108, x_M_argument_111, x_M_argument_112, x_M_argument_115, x_M_argument_116, x_M_argument_117, x_M_argument_120, x_M_argument_121, x_M_argument_124, x_M_argument_125, x_M_argument_126, x_M_argument_127, x_M_argument_130, x_M_argument_131, x_M_argument_134, x_M_argument_135, x_M_argument_136, x_M_argument_139, x_M_argument_140, x_M_argument_141, x_M_argument_144, x_M_argument_147, x_M_argument_152, x_M_argument_155, x_M_argument_156, x_M_argument_157, x_M_argument_158, x_M_argument_161, x_M_argument_164, x_M_argument_165, x_M_argument_168, x_M_argument_169, show ¬ nI 8 < 8 by decide, fin 8 p m I J (by omega) (by omega) hT h2 h7, rdP, rdV, bI_0, bI_t, bI_f, e10, isA30, isA31, isA33, isA40, isA42, isA43, rOkB0, rOkB1, rOkB, Ret_v, Ret_n, cmp_eq, cmp_lt, cmp_gt, nI_1, eq_self, if_true, if_false, reduceIte]
  | succ k ih =>
    intro i p m I J hi hp hm hT h2 h7
    have lt : nI i < 8 := by rw [show (8 : Int32) = nI 8 by decide]; exact nI_lt (by omega) (by omega)
    have ia := fun Q' => c_M_isAt (Q := Q') (J := J) (lo := 97) (hi := 122) hS' hT h2 (by omega) (by decide)
    rw [show (!decide (byA x l p < 97) && !decide (122 < byA x l p)) = isLt x l p from rfl] at ia
    rw [x_M_argument_61]
    simp only [rdP, rdV]
    cases e : isLt x l p
    · have f := fin i p m I J (by omega) (by omega) hT h2 h7
      rw [e] at f
      simp only [x_M_argument_0, x_M_argument_1, x_M_argument_3, x_M_argument_5, x_M_argument_8, x_M_argument_11, x_M_argument_12, x_M_argument_13, x_M_argument_14, x_M_argument_17, x_M_argument_18, x_M_argument_21, x_M_argument_23, x_M_argument_26, x_M_argument_28, x_M_argument_29, x_M_argument_30, x_M_argument_33, x_M_argument_35, x_M_argument_38, x_M_argument_40, x_M_argument_41, x_M_argument_42, x_M_argument_45, x_M_argument_46, x_M_argument_49, x_M_argument_51, x_M_argument_53, x_M_argument_54, x_M_argument_56, x_M_argument_57, x_M_argument_58, x_M_argument_63, x_M_argument_65, x_M_argument_68, x_M_argument_69, x_M_argument_70, x_M_argument_71, x_M_argument_74, x_M_argument_77, x_M_argument_78, x_M_argument_79, x_M_argument_82, x_M_argument_85, x_M_argument_86, x_M_argument_89, x_M_argument_90, x_M_argument_91, x_M_argument_94, x_M_argument_95, x_M_argument_98, x_M_argument_99, x_M_argument_100, x_M_argument_101, x_M_argument_104, x_M_argument_105, x_M_argument_108, x_M_argument_111, x_M_argument_112, x_M_argument_115, x_M_argument_116, x_M_argument_117, x_M_argument_120, x_M_argument_121, x_M_argument_124, x_M_argument_125, x_M_argument_126, x_M_argument_127, x_M_argument_130, x_M_argument_131, x_M_argument_134, x_M_argument_135, x_M_argument_136, x_M_argument_139, x_M_argument_140, x_M_argument_141, x_M_argument_144, x_M_argument_147, x_M_argument_152, x_M_argument_155, x_M_argument_156, x_M_argument_157, x_M_argument_158, x_M_argument_161, x_M_argument_164, x_M_argument_165, x_M_argument_168, x_M_argument_169, k0, lt, ia, e, f, Bool.false_eq_true, bI_0, bI_t, bI_f, e10, isA30, isA31, isA33, isA40, isA42, isA43, rOkB0, rOkB1, rOkB, Ret_v, Ret_n, cmp_eq, cmp_lt, cmp_gt, nI_1, eq_self, if_true, if_false, reduceIte]
    · obtain ⟨pl, eb, g0, g32⟩ := isLt_f e
      have xp : I 194 p = nI (ltN x l p + 96) := by
        rw [hT.2.2 p pl]
        unfold byA at eb
        rw [if_pos pl] at eb
        exact eb
      have := hT.2.1
      have m2 : m * 32 + ltN x l p < 2 ^ (5 * (i + 1)) := by
        rw [show 5 * (i + 1) = 5 * i + 5 by omega, Nat.pow_add]
        omega
      have e1 := inb_nI (i := p) (n := 150) (by omega) (by omega)
      have e2 : ix (nI p) = p := ix_nI (by omega)
      have ar : (32 : Int64) * lW m + (nI (ltN x l p + 96)).toInt64 - 96 = lW (m * 32 + ltN x l p) := by
        rw [nI_lw (by omega), show (32 : Int64) = lW 32 by decide, show (96 : Int64) = lW 96 by decide, lW_mul, lW_add, lW_sub (by omega)]
        congr 1
        omega
      have i1 := ih (i + 1) (p + 1) (m * 32 + ltN x l p) (u2 I 187 12 (nI (p + 1))) (u2 J 187 17 (lW (m * 32 + ltN x l p))) (by omega) (by omega) m2 (TxD_f hT (by omega)) u2_eq u2_eq
      rw [u2_u2, u2_u2] at i1
      have rl := (rdP_le (x := x) (n := l) k (p + 1)).1
      rw [show i + 1 + (rdP x l k (p + 1) - (p + 1)) = i + (rdP x l k (p + 1) - p) by omega] at i1
      simp only [x_M_argument_0, x_M_argument_1, x_M_argument_3, x_M_argument_5, x_M_argument_8, x_M_argument_11, x_M_argument_12, x_M_argument_13, x_M_argument_14, x_M_argument_17, x_M_argument_18, x_M_argument_21, x_M_argument_23, x_M_argument_26, x_M_argument_28, x_M_argument_29, x_M_argument_30, x_M_argument_33, x_M_argument_35, x_M_argument_38, x_M_argument_40, x_M_argument_41, x_M_argument_42, x_M_argument_45, x_M_argument_46, x_M_argument_49, x_M_argument_51, x_M_argument_53, x_M_argument_54, x_M_argument_56, x_M_argument_57, x_M_argument_58, x_M_argument_63, x_M_argument_65, x_M_argument_68, x_M_argument_69, x_M_argument_70, x_M_argument_71, x_M_argument_74, x_M_argument_77, x_M_argument_78, x_M_argument_79, x_M_argument_82, x_M_argument_85, x_M_argument_86, x_M_argument_89, x_M_argument_90, x_M_argument_91, x_M_argument_94, x_M_argument_95, x_M_argument_98, x_M_argument_99, x_M_argument_100, x_M_argument_101, x_M_argument_104, x_M_argument_105, x_M_argument_108, x_M_argument_111, x_M_argument_112, x_M_argument_115, x_M_argument_116, x_M_argument_117, x_M_argument_120, x_M_argument_121, x_M_argument_124, x_M_argument_125, x_M_argument_126, x_M_argument_127, x_M_argument_130, x_M_argument_131, x_M_argument_134, x_M_argument_135, x_M_argument_136, x_M_argument_139, x_M_argument_140, x_M_argument_141, x_M_argument_144, x_M_argument_147, x_M_argument_152, x_M_argument_155, x_M_argument_156, x_M_argument_157, x_M_argument_158, x_M_argument_161, x_M_argument_164, x_M_argument_165, x_M_argument_168, x_M_argument_169, k0, s4, l4, r10, lt, ia, e, h2, h7, e1, e2, xp, ar, nI_1', e10, Bool.true_eq_false, bI_0, bI_t, bI_f, e10, isA30, isA31, isA33, isA40, isA42, isA43, rOkB0, rOkB1, rOkB, Ret_v, Ret_n, cmp_eq, cmp_lt, cmp_gt, nI_1, eq_self, if_true, if_false, reduceIte]
      exact i1
theorem c_M_argW (hS : MyS R S) (hp : p ≤ 155) (hT : TxD I x l) (h2 : I 187 12 = nI p) (hQ : ∀ I' J', (okW x l p = true → J' 187 17 = lW (wV x l p)) → I' = u2 I 187 12 (nI (if byA x l p = 32 then wP x l p else p)) → (∀ k, ¬ k = 17 → J' 187 k = J 187 k) → (∀ q, ¬ q = 187 → J' q = J q) → Q 0 (some (.int (bI (okW x l p)))) I' J' R S) : Wp 243 0 [.ref 187, .int 0, nov, nov, nov, nov] [] I J R S Q := by
  have k0 := hS.1.1
  have hl := hT.2.1
  have ia := fun Q' => c_M_isAt (Q := Q') (J := J) (lo := 32) (hi := 32) hS hT h2 (by omega) (by decide)
  simp only [at_eq] at ia
  unfold okW at hQ
  by_cases q : byA x l p = 32
  · rw [decide_eq_true q, Bool.true_and, if_pos q] at hQ
    have sk := fun Q' => c_M_skips (Q := Q') (J := J) hS 150 p I (by omega) (by omega) hT h2
    have sl := skp_le (x := x) (n := l) 150 p
    have lp := l_M_argW (Q := Q) hS 8 0 (skp x l 150 p) 0 (u2 I 187 12 (nI (skp x l 150 p))) (u2 J 187 17 0) (by omega) (by omega) (by omega) (TxD_f hT (by omega)) u2_eq (by rw [u2_eq, lW_0])
    rw [nI_0, Nat.zero_add, u2_u2, u2_u2] at lp
    have rl := (rdP_le (x := x) (n := l) 8 (skp x l 150 p)).1
    simp only [x_M_argument_0, x_M_argument_1, x_M_argument_3, x_M_argument_5, x_M_argument_8, x_M_argument_11, x_M_argument_12, x_M_argument_13, x_M_argument_14, x_M_argument_17, x_M_argument_18, x_M_argument_21, x_M_argument_23, x_M_argument_26, x_M_argument_28, x_M_argument_29, x_M_argument_30, x_M_argument_33, x_M_argument_35, x_M_argument_38, x_M_argument_40, x_M_argument_41, x_M_argument_42, x_M_argument_45, x_M_argument_46, x_M_argument_49, x_M_argument_51, x_M_argument_53, x_M_argument_54, x_M_argument_56, x_M_argument_57, x_M_argument_58, x_M_argument_63, x_M_argument_65, x_M_argument_68, x_M_argument_69, x_M_argument_70, x_M_argument_71, x_M_argument_74, x_M_argument_77, x_M_argument_78, x_M_argument_79, x_M_argument_82, x_M_argument_85, x_M_argument_86, x_M_argument_89, x_M_argument_90, x_M_argument_91, x_M_argument_94, x_M_argument_95, x_M_argument_98, x_M_argument_99, x_M_argument_100, x_M_argument_101, x_M_argument_104, x_M_argument_105, x_M_argument_108, x_M_argument_111, x_M_argument_112, x_M_argument_115, x_M_argument_116, x_M_argument_117, x_M_argument_120, x_M_argument_121, x_M_argument_124, x_M_argument_125, x_M_argument_126, x_M_argument_127, x_M_argument_130, x_M_argument_131, x_M_argument_134, x_M_argument_135, x_M_argument_136, x_M_argument_139, x_M_argument_140, x_M_argument_141, x_M_argument_144, x_M_argument_147, x_M_argument_150, x_M_argument_152, x_M_argument_155, x_M_argument_156, x_M_argument_157, x_M_argument_158, x_M_argument_161, x_M_argument_164, x_M_argument_165, x_M_argument_168, x_M_argument_169, k0, ia, decide_eq_true q, sk, e10, bI_0, bI_t, bI_f, e10, isA30, isA31, isA33, isA40, isA42, isA43, rOkB0, rOkB1, rOkB, Ret_v, Ret_n, cmp_eq, cmp_lt, cmp_gt, nI_1, eq_self, if_true, if_false, reduceIte]
    rw [lp]
    rw [show (rdP x l 8 (skp x l 150 p)) = wP x l p from rfl, show rdV x l 8 (skp x l 150 p) 0 = wV x l p from rfl] at *
    have ed : gt0 (wP x l p - skp x l 150 p) = decide (skp x l 150 p < wP x l p) := by
      unfold gt0
      rw [Bool.eq_iff_iff, decide_eq_true_eq, decide_eq_true_eq]
      omega
    rw [ed]
    exact hQ _ _ (fun _ => u2_eq) rfl (fun k hk => u2_k hk) (fun q hq => u2_p hq)
  · rw [decide_eq_false q, Bool.false_and, if_neg q] at hQ
    simp only [x_M_argument_0, x_M_argument_1, x_M_argument_3, x_M_argument_5, x_M_argument_8, x_M_argument_11, x_M_argument_12, x_M_argument_13, x_M_argument_14, x_M_argument_17, x_M_argument_18, x_M_argument_21, x_M_argument_23, x_M_argument_26, x_M_argument_28, x_M_argument_29, x_M_argument_30, x_M_argument_33, x_M_argument_35, x_M_argument_38, x_M_argument_40, x_M_argument_41, x_M_argument_42, x_M_argument_45, x_M_argument_46, x_M_argument_49, x_M_argument_51, x_M_argument_53, x_M_argument_54, x_M_argument_56, x_M_argument_57, x_M_argument_58, x_M_argument_63, x_M_argument_65, x_M_argument_68, x_M_argument_69, x_M_argument_70, x_M_argument_71, x_M_argument_74, x_M_argument_77, x_M_argument_78, x_M_argument_79, x_M_argument_82, x_M_argument_85, x_M_argument_86, x_M_argument_89, x_M_argument_90, x_M_argument_91, x_M_argument_94, x_M_argument_95, x_M_argument_98, x_M_argument_99, x_M_argument_100, x_M_argument_101, x_M_argument_104, x_M_argument_105, x_M_argument_108, x_M_argument_111, x_M_argument_112, x_M_argument_115, x_M_argument_116, x_M_argument_117, x_M_argument_120, x_M_argument_121, x_M_argument_124, x_M_argument_125, x_M_argument_126, x_M_argument_127, x_M_argument_130, x_M_argument_131, x_M_argument_134, x_M_argument_135, x_M_argument_136, x_M_argument_139, x_M_argument_140, x_M_argument_141, x_M_argument_144, x_M_argument_147, x_M_argument_150, x_M_argument_152, x_M_argument_155, x_M_argument_156, x_M_argument_157, x_M_argument_158, x_M_argument_161, x_M_argument_164, x_M_argument_165, x_M_argument_168, x_M_argument_169, k0, ia, decide_eq_false q, bI_0, bI_t, bI_f, e10, isA30, isA31, isA33, isA40, isA42, isA43, rOkB0, rOkB1, rOkB, Ret_v, Ret_n, cmp_eq, cmp_lt, cmp_gt, nI_1, eq_self, if_true, if_false, reduceIte]
    exact hQ I J (fun h => by cases h) (u2_self h2).symm (fun _ _ => by simp) (fun _ _ => by simp)
theorem num_step (h0 : 0 ≤ v.toInt) (h1 : v.toInt < 1000) (b0 : 48 ≤ b.toInt) (b1 : b.toInt ≤ 57) : (10 : Int64) * v.toInt64 + b.toInt64 - 48 = (10 * v + b - 48).toInt64 ∧ (10 * v + b - 48).toInt = 10 * v.toInt + b.toInt - 48 := by
  have e1 : (10 * v).toInt = 10 * v.toInt := by
    rw [Int32.toInt_mul, show (10 : Int32).toInt = 10 by decide]
    exact Int.bmod_eq_of_le (by omega) (by omega)
  have e2 : (10 * v + b).toInt = 10 * v.toInt + b.toInt := by
    rw [Int32.toInt_add, e1]
    exact Int.bmod_eq_of_le (by omega) (by omega)
  have e3 : (10 * v + b - 48).toInt = 10 * v.toInt + b.toInt - 48 := by
    rw [Int32.toInt_sub, e2, show (48 : Int32).toInt = 48 by decide]
    exact Int.bmod_eq_of_le (by omega) (by omega)
  refine ⟨?_, e3⟩
  rw [← Int64.toInt_inj, Int32.toInt_toInt64, e3, Int64.toInt_sub, Int64.toInt_add, Int64.toInt_mul, Int32.toInt_toInt64, Int32.toInt_toInt64, show (10 : Int64).toInt = 10 by decide, show (48 : Int64).toInt = 48 by decide]
  rw [Int.bmod_eq_of_le (n := 10 * v.toInt) (by omega) (by omega), Int.bmod_eq_of_le (n := 10 * v.toInt + b.toInt) (by omega) (by omega), Int.bmod_eq_of_le (by omega) (by omega)]
theorem isDg_b (h : isDg x l p = true) : p < l ∧ byA x l p = x p ∧ 48 ≤ (x p).toInt ∧ (x p).toInt ≤ 57 := by
  have pl := isDg_f h
  have eb : byA x l p = x p := if_pos pl
  unfold isDg at h
  rw [eb] at h
  simp only [Bool.and_eq_true, Bool.not_eq_true', decide_eq_false_iff_not, Int32.lt_iff_toInt_lt, show (48 : Int32).toInt = 48 by decide, show (57 : Int32).toInt = 57 by decide] at h
  exact ⟨pl, eb, by omega, by omega⟩
theorem l_M_argN (hS : MyS R S) : ∀ (k i p : Nat) (v : Int32) (I : MI) (J : MJ), i + k = 3 → p ≤ 400 + i → 0 ≤ v.toInt → v.toInt < 10 ^ i → TxD I x l → I 187 12 = nI p → J 187 17 = v.toInt64 → Wp 243 61 [.ref 187, .int 1, .int 48, .int 57, .int 3, .int (nI i)] [] I J R S Q = Q 0 (some (.int (bI (gt0 (i + (nuP x l k p - p)) && !isDg x l (nuP x l k p))))) (u2 I 187 12 (nI (nuP x l k p))) (u2 J 187 17 (nuV x l k p v).toInt64) R S := by
  have hS' := hS
  obtain ⟨⟨k0, k1, n1, r0⟩, -, -, -, -, -, -, -, -, -, -, s4, l4, -, -, -, -, -, -, -, -, -, -, -, r10, -⟩ := hS
  have fin : ∀ (i p : Nat) (v : Int32) (I : MI) (J : MJ), i < 100 → p < 1000 → TxD I x l → I 187 12 = nI p → J 187 17 = v.toInt64 → Wp 243 150 [.ref 187, .int 1, .int 48, .int 57, .int 3, .int (nI i)] [] I J R S Q = Q 0 (some (.int (bI (gt0 (i + (p - p)) && !isDg x l p)))) (u2 I 187 12 (nI p)) (u2 J 187 17 v.toInt64) R S := fun i p m I J hi hp hT h2 h7 => by
    have ia := fun Q' => c_M_isAt (Q := Q') (J := J) (lo := 48) (hi := 57) hS' hT h2 (by omega) (by decide)
    rw [show (!decide (byA x l p < 48) && !decide (57 < byA x l p)) = isDg x l p from rfl] at ia
    have g := nI_gt0 (i := i) (by omega)
    rw [Nat.sub_self, Nat.add_zero, u2_self h2, u2_self h7]
    by_cases q : 0 < i
    · rw [show gt0 i = true from decide_eq_true q, Bool.true_and]
      cases e : isDg x l p <;> simp only [x_M_argument_0, x_M_argument_1, x_M_argument_3, x_M_argument_5, x_M_argument_8, x_M_argument_11, x_M_argument_12, x_M_argument_13, x_M_argument_14, x_M_argument_17, x_M_argument_18, x_M_argument_21, x_M_argument_23, x_M_argument_26, x_M_argument_28, x_M_argument_29, x_M_argument_30, x_M_argument_33, x_M_argument_35, x_M_argument_38, x_M_argument_40, x_M_argument_41, x_M_argument_42, x_M_argument_45, x_M_argument_46, x_M_argument_49, x_M_argument_51, x_M_argument_53, x_M_argument_54, x_M_argument_56, x_M_argument_57, x_M_argument_58, x_M_argument_61, x_M_argument_63, x_M_argument_65, x_M_argument_68, x_M_argument_69, x_M_argument_70, x_M_argument_71, x_M_argument_74, x_M_argument_77, x_M_argument_78, x_M_argument_79, x_M_argument_82, x_M_argument_85, x_M_argument_86, x_M_argument_89, x_M_argument_90, x_M_argument_91, x_M_argument_94, x_M_argument_95, x_M_argument_98, x_M_argument_99, x_M_argument_100, x_M_argument_101, x_M_argument_104, x_M_argument_105, x_M_argument_108, x_M_argument_111, x_M_argument_112, x_M_argument_115, x_M_argument_116, x_M_argument_117, x_M_argument_120, x_M_argument_121, x_M_argument_124, x_M_argument_125, x_M_argument_126, x_M_argument_127, x_M_argument_130, x_M_argument_131, x_M_argument_134, x_M_argument_135, x_M_argument_136, x_M_argument_139, x_M_argument_140, x_M_argument_141, x_M_argument_144, x_M_argument_147, x_M_argument_150, x_M_argument_152, x_M_argument_155, x_M_argument_156, x_M_argument_157, x_M_argument_158, x_M_argument_161, x_M_argument_164, x_M_argument_165, x_M_argument_168, x_M_argument_169, k0, g, q, ia, e, Bool.not_true, Bool.not_false, Bool.true_eq_false, bI_0, bI_t, bI_f, e10, isA30, isA31, isA33, isA40, isA42, isA43, rOkB0, rOkB1, rOkB, Ret_v, Ret_n, cmp_eq, cmp_lt, cmp_gt, nI_1, eq_self, if_true, if_false, reduceIte]
    · rw [show gt0 i = false from decide_eq_false q, Bool.false_and]
      simp only [x_M_argument_0, x_M_argument_1, x_M_argument_3, x_M_argument_5, x_M_argument_8, x_M_argument_11, x_M_argument_12, x_M_argument_13, x_M_argument_14, x_M_argument_17, x_M_argument_18, x_M_argument_21, x_M_argument_23, x_M_argument_26, x_M_argument_28, x_M_argument_29, x_M_argument_30, x_M_argument_33, x_M_argument_35, x_M_argument_38, x_M_argument_40, x_M_argument_41, x_M_argument_42, x_M_argument_45, x_M_argument_46, x_M_argument_49, x_M_argument_51, x_M_argument_53, x_M_argument_54, x_M_argument_56, x_M_argument_57, x_M_argument_58, x_M_argument_61, x_M_argument_63, x_M_argument_65, x_M_argument_68, x_M_argument_69, x_M_argument_70, x_M_argument_71, x_M_argument_74, x_M_argument_77, x_M_argument_78, x_M_argument_79, x_M_argument_82, x_M_argument_85, x_M_argument_86, x_M_argument_89, x_M_argument_90, x_M_argument_91, x_M_argument_94, x_M_argument_95, x_M_argument_98, x_M_argument_99, x_M_argument_100, x_M_argument_101, x_M_argument_104, x_M_argument_105, x_M_argument_108, x_M_argument_111, x_M_argument_112, x_M_argument_115, x_M_argument_116, x_M_argument_117, x_M_argument_120, x_M_argument_121, x_M_argument_124, x_M_argument_125, x_M_argument_126, x_M_argument_127, x_M_argument_130, x_M_argument_131, x_M_argument_134, x_M_argument_135, x_M_argument_136, x_M_argument_139, x_M_argument_140, x_M_argument_141, x_M_argument_144, x_M_argument_147, x_M_argument_150, x_M_argument_152, x_M_argument_155, x_M_argument_156, x_M_argument_157, x_M_argument_158, x_M_argument_161, x_M_argument_164, x_M_argument_165, x_M_argument_168, x_M_argument_169, g, q, bI_0, bI_t, bI_f, e10, isA30, isA31, isA33, isA40, isA42, isA43, rOkB0, rOkB1, rOkB, Ret_v, Ret_n, cmp_eq, cmp_lt, cmp_gt, nI_1, eq_self, if_true, if_false, reduceIte]
  intro k
  induction k with
  | zero =>
    intro i p v I J hi hp h0 h1 hT h2 h7
    have : i = 3 := by omega
    subst this
    rw [x_M_argument_61]
    simp only [x_M_argument_0, x_M_argument_1, x_M_argument_3, x_M_argument_5, x_M_argument_8, x_M_argument_11, x_M_argument_12, x_M_argument_13, x_M_argument_14, x_M_argument_17, x_M_argument_18, x_M_argument_21, x_M_argument_23, x_M_argument_26, x_M_argument_28, x_M_argument_29, x_M_argument_30, x_M_argument_33, x_M_argument_35, x_M_argument_38, x_M_argument_40, x_M_argument_41, x_M_argument_42, x_M_argument_45, x_M_argument_46, x_M_argument_49, x_M_argument_51, x_M_argument_53, x_M_argument_54, x_M_argument_56, x_M_argument_57, x_M_argument_58, x_M_argument_63, x_M_argument_65, x_M_argument_68, x_M_argument_69, x_M_argument_70, x_M_argument_71, x_M_argument_74, x_M_argument_77, x_M_argument_78, x_M_argument_79, x_M_argument_82, x_M_argument_85, x_M_argument_86, x_M_argument_89, x_M_argument_90, x_M_argument_91, x_M_argument_94, x_M_argument_95, x_M_argument_98, x_M_argument_99, x_M_argument_100, x_M_argument_101, x_M_argument_104, x_M_argument_105, x_M_argument_108, x_M_argument_111, x_M_argument_112, x_M_argument_115, x_M_argument_116, x_M_argument_117, x_M_argument_120, x_M_argument_121, x_M_argument_124, x_M_argument_125, x_M_argument_126, x_M_argument_127, x_M_argument_130, x_M_argument_131, x_M_argument_134, x_M_argument_135, x_M_argument_136, x_M_argument_139, x_M_argument_140, x_M_argument_141, x_M_argument_144, x_M_argument_147, x_M_argument_152, x_M_argument_155, x_M_argument_156, x_M_argument_157, x_M_argument_158, x_M_argument_161, x_M_argument_164, x_M_argument_165, x_M_argument_168, x_M_argument_169, show ¬ nI 3 < 3 by decide, fin 3 p v I J (by omega) (by omega) hT h2 h7, nuP, nuV, bI_0, bI_t, bI_f, e10, isA30, isA31, isA33, isA40, isA42, isA43, rOkB0, rOkB1, rOkB, Ret_v, Ret_n, cmp_eq, cmp_lt, cmp_gt, nI_1, eq_self, if_true, if_false, reduceIte]
  | succ k ih =>
    intro i p v I J hi hp h0 h1 hT h2 h7
    have lt : nI i < 3 := by rw [show (3 : Int32) = nI 3 by decide]; exact nI_lt (by omega) (by omega)
    have ia := fun Q' => c_M_isAt (Q := Q') (J := J) (lo := 48) (hi := 57) hS' hT h2 (by omega) (by decide)
    rw [show (!decide (byA x l p < 48) && !decide (57 < byA x l p)) = isDg x l p from rfl] at ia
    rw [x_M_argument_61]
    simp only [nuP, nuV]
    cases e : isDg x l p
    · have f := fin i p v I J (by omega) (by omega) hT h2 h7
      rw [e] at f
      simp only [x_M_argument_0, x_M_argument_1, x_M_argument_3, x_M_argument_5, x_M_argument_8, x_M_argument_11, x_M_argument_12, x_M_argument_13, x_M_argument_14, x_M_argument_17, x_M_argument_18, x_M_argument_21, x_M_argument_23, x_M_argument_26, x_M_argument_28, x_M_argument_29, x_M_argument_30, x_M_argument_33, x_M_argument_35, x_M_argument_38, x_M_argument_40, x_M_argument_41, x_M_argument_42, x_M_argument_45, x_M_argument_46, x_M_argument_49, x_M_argument_51, x_M_argument_53, x_M_argument_54, x_M_argument_56, x_M_argument_57, x_M_argument_58, x_M_argument_63, x_M_argument_65, x_M_argument_68, x_M_argument_69, x_M_argument_70, x_M_argument_71, x_M_argument_74, x_M_argument_77, x_M_argument_78, x_M_argument_79, x_M_argument_82, x_M_argument_85, x_M_argument_86, x_M_argument_89, x_M_argument_90, x_M_argument_91, x_M_argument_94, x_M_argument_95, x_M_argument_98, x_M_argument_99, x_M_argument_100, x_M_argument_101, x_M_argument_104, x_M_argument_105, x_M_argument_108, x_M_argument_111, x_M_argument_112, x_M_argument_115, x_M_argument_116, x_M_argument_117, x_M_argument_120, x_M_argument_121, x_M_argument_124, x_M_argument_125, x_M_argument_126, x_M_argument_127, x_M_argument_130, x_M_argument_131, x_M_argument_134, x_M_argument_135, x_M_argument_136, x_M_argument_139, x_M_argument_140, x_M_argument_141, x_M_argument_144, x_M_argument_147, x_M_argument_152, x_M_argument_155, x_M_argument_156, x_M_argument_157, x_M_argument_158, x_M_argument_161, x_M_argument_164, x_M_argument_165, x_M_argument_168, x_M_argument_169, k0, lt, ia, e, f, Bool.false_eq_true, bI_0, bI_t, bI_f, e10, isA30, isA31, isA33, isA40, isA42, isA43, rOkB0, rOkB1, rOkB, Ret_v, Ret_n, cmp_eq, cmp_lt, cmp_gt, nI_1, eq_self, if_true, if_false, reduceIte]
    · obtain ⟨pl, eb, b0, b1⟩ := isDg_b e
      have xp := hT.2.2 p pl
      have := hT.2.1
      have h10 : (10 : Int) ^ i ≤ 100 := by
        rcases (show i = 0 ∨ i = 1 ∨ i = 2 by omega) with h | h | h <;> subst h <;> decide
      have st := num_step h0 (by omega) b0 b1
      have e1 := inb_nI (i := p) (n := 150) (by omega) (by omega)
      have e2 : ix (nI p) = p := ix_nI (by omega)
      have i1 := ih (i + 1) (p + 1) (10 * v + x p - 48) (u2 I 187 12 (nI (p + 1))) (u2 J 187 17 (10 * v + x p - 48).toInt64) (by omega) (by omega) (by omega) (by rw [st.2, Int.pow_succ]; omega) (TxD_f hT (by omega)) u2_eq u2_eq
      rw [u2_u2, u2_u2] at i1
      have rl := (nuP_le (x := x) (n := l) k (p + 1)).1
      rw [show i + 1 + (nuP x l k (p + 1) - (p + 1)) = i + (nuP x l k (p + 1) - p) by omega] at i1
      rw [eb]
      simp only [x_M_argument_0, x_M_argument_1, x_M_argument_3, x_M_argument_5, x_M_argument_8, x_M_argument_11, x_M_argument_12, x_M_argument_13, x_M_argument_14, x_M_argument_17, x_M_argument_18, x_M_argument_21, x_M_argument_23, x_M_argument_26, x_M_argument_28, x_M_argument_29, x_M_argument_30, x_M_argument_33, x_M_argument_35, x_M_argument_38, x_M_argument_40, x_M_argument_41, x_M_argument_42, x_M_argument_45, x_M_argument_46, x_M_argument_49, x_M_argument_51, x_M_argument_53, x_M_argument_54, x_M_argument_56, x_M_argument_57, x_M_argument_58, x_M_argument_63, x_M_argument_65, x_M_argument_68, x_M_argument_69, x_M_argument_70, x_M_argument_71, x_M_argument_74, x_M_argument_77, x_M_argument_78, x_M_argument_79, x_M_argument_82, x_M_argument_85, x_M_argument_86, x_M_argument_89, x_M_argument_90, x_M_argument_91, x_M_argument_94, x_M_argument_95, x_M_argument_98, x_M_argument_99, x_M_argument_100, x_M_argument_101, x_M_argument_104, x_M_argument_105, x_M_argument_108, x_M_argument_111, x_M_argument_112, x_M_argument_115, x_M_argument_116, x_M_argument_117, x_M_argument_120, x_M_argument_121, x_M_argument_124, x_M_argument_125, x_M_argument_126, x_M_argument_127, x_M_argument_130, x_M_argument_131, x_M_argument_134, x_M_argument_135, x_M_argument_136, x_M_argument_139, x_M_argument_140, x_M_argument_141, x_M_argument_144, x_M_argument_147, x_M_argument_152, x_M_argument_155, x_M_argument_156, x_M_argument_157, x_M_argument_158, x_M_argument_161, x_M_argument_164, x_M_argument_165, x_M_argument_168, x_M_argument_169, k0, s4, l4, r10, lt, ia, e, h2, h7, e1, e2, xp, st.1, nI_1', e10, Bool.true_eq_false, bI_0, bI_t, bI_f, e10, isA30, isA31, isA33, isA40, isA42, isA43, rOkB0, rOkB1, rOkB, Ret_v, Ret_n, cmp_eq, cmp_lt, cmp_gt, nI_1, eq_self, if_true, if_false, reduceIte]
      exact i1
theorem c_M_argN (hS : MyS R S) (hp : p ≤ 155) (hT : TxD I x l) (h2 : I 187 12 = nI p) (hQ : ∀ I' J', (okN x l p = true → J' 187 17 = (nV x l p).toInt64) → I' = u2 I 187 12 (nI (if byA x l p = 32 then nP x l p else p)) → (∀ k, ¬ k = 17 → J' 187 k = J 187 k) → (∀ q, ¬ q = 187 → J' q = J q) → Q 0 (some (.int (bI (okN x l p)))) I' J' R S) : Wp 243 0 [.ref 187, .int 1, nov, nov, nov, nov] [] I J R S Q := by
  have k0 := hS.1.1
  have hl := hT.2.1
  have ia := fun Q' => c_M_isAt (Q := Q') (J := J) (lo := 32) (hi := 32) hS hT h2 (by omega) (by decide)
  simp only [at_eq] at ia
  unfold okN at hQ
  by_cases q : byA x l p = 32
  · rw [decide_eq_true q, Bool.true_and, if_pos q] at hQ
    have sk := fun Q' => c_M_skips (Q := Q') (J := J) hS 150 p I (by omega) (by omega) hT h2
    have sl := skp_le (x := x) (n := l) 150 p
    have lp := l_M_argN (Q := Q) hS 3 0 (skp x l 150 p) 0 (u2 I 187 12 (nI (skp x l 150 p))) (u2 J 187 17 0) (by omega) (by omega) (by decide) (by decide) (TxD_f hT (by omega)) u2_eq (by rw [u2_eq]; decide)
    rw [nI_0, Nat.zero_add, u2_u2, u2_u2] at lp
    have rl := (nuP_le (x := x) (n := l) 3 (skp x l 150 p)).1
    simp only [x_M_argument_0, x_M_argument_1, x_M_argument_3, x_M_argument_5, x_M_argument_8, x_M_argument_11, x_M_argument_12, x_M_argument_13, x_M_argument_14, x_M_argument_17, x_M_argument_18, x_M_argument_21, x_M_argument_23, x_M_argument_26, x_M_argument_28, x_M_argument_29, x_M_argument_30, x_M_argument_33, x_M_argument_35, x_M_argument_38, x_M_argument_40, x_M_argument_41, x_M_argument_42, x_M_argument_45, x_M_argument_46, x_M_argument_49, x_M_argument_51, x_M_argument_53, x_M_argument_54, x_M_argument_56, x_M_argument_57, x_M_argument_58, x_M_argument_63, x_M_argument_65, x_M_argument_68, x_M_argument_69, x_M_argument_70, x_M_argument_71, x_M_argument_74, x_M_argument_77, x_M_argument_78, x_M_argument_79, x_M_argument_82, x_M_argument_85, x_M_argument_86, x_M_argument_89, x_M_argument_90, x_M_argument_91, x_M_argument_94, x_M_argument_95, x_M_argument_98, x_M_argument_99, x_M_argument_100, x_M_argument_101, x_M_argument_104, x_M_argument_105, x_M_argument_108, x_M_argument_111, x_M_argument_112, x_M_argument_115, x_M_argument_116, x_M_argument_117, x_M_argument_120, x_M_argument_121, x_M_argument_124, x_M_argument_125, x_M_argument_126, x_M_argument_127, x_M_argument_130, x_M_argument_131, x_M_argument_134, x_M_argument_135, x_M_argument_136, x_M_argument_139, x_M_argument_140, x_M_argument_141, x_M_argument_144, x_M_argument_147, x_M_argument_150, x_M_argument_152, x_M_argument_155, x_M_argument_156, x_M_argument_157, x_M_argument_158, x_M_argument_161, x_M_argument_164, x_M_argument_165, x_M_argument_168, x_M_argument_169, k0, ia, decide_eq_true q, sk, e10, bI_0, bI_t, bI_f, e10, isA30, isA31, isA33, isA40, isA42, isA43, rOkB0, rOkB1, rOkB, Ret_v, Ret_n, cmp_eq, cmp_lt, cmp_gt, nI_1, eq_self, if_true, if_false, reduceIte]
    rw [lp]
    rw [show (nuP x l 3 (skp x l 150 p)) = nP x l p from rfl, show nuV x l 3 (skp x l 150 p) 0 = nV x l p from rfl] at *
    have ed : gt0 (nP x l p - skp x l 150 p) = decide (skp x l 150 p < nP x l p) := by
      unfold gt0
      rw [Bool.eq_iff_iff, decide_eq_true_eq, decide_eq_true_eq]
      omega
    rw [ed]
    exact hQ _ _ (fun _ => u2_eq) rfl (fun k hk => u2_k hk) (fun q hq => u2_p hq)
  · rw [decide_eq_false q, Bool.false_and, if_neg q] at hQ
    simp only [x_M_argument_0, x_M_argument_1, x_M_argument_3, x_M_argument_5, x_M_argument_8, x_M_argument_11, x_M_argument_12, x_M_argument_13, x_M_argument_14, x_M_argument_17, x_M_argument_18, x_M_argument_21, x_M_argument_23, x_M_argument_26, x_M_argument_28, x_M_argument_29, x_M_argument_30, x_M_argument_33, x_M_argument_35, x_M_argument_38, x_M_argument_40, x_M_argument_41, x_M_argument_42, x_M_argument_45, x_M_argument_46, x_M_argument_49, x_M_argument_51, x_M_argument_53, x_M_argument_54, x_M_argument_56, x_M_argument_57, x_M_argument_58, x_M_argument_63, x_M_argument_65, x_M_argument_68, x_M_argument_69, x_M_argument_70, x_M_argument_71, x_M_argument_74, x_M_argument_77, x_M_argument_78, x_M_argument_79, x_M_argument_82, x_M_argument_85, x_M_argument_86, x_M_argument_89, x_M_argument_90, x_M_argument_91, x_M_argument_94, x_M_argument_95, x_M_argument_98, x_M_argument_99, x_M_argument_100, x_M_argument_101, x_M_argument_104, x_M_argument_105, x_M_argument_108, x_M_argument_111, x_M_argument_112, x_M_argument_115, x_M_argument_116, x_M_argument_117, x_M_argument_120, x_M_argument_121, x_M_argument_124, x_M_argument_125, x_M_argument_126, x_M_argument_127, x_M_argument_130, x_M_argument_131, x_M_argument_134, x_M_argument_135, x_M_argument_136, x_M_argument_139, x_M_argument_140, x_M_argument_141, x_M_argument_144, x_M_argument_147, x_M_argument_150, x_M_argument_152, x_M_argument_155, x_M_argument_156, x_M_argument_157, x_M_argument_158, x_M_argument_161, x_M_argument_164, x_M_argument_165, x_M_argument_168, x_M_argument_169, k0, ia, decide_eq_false q, bI_0, bI_t, bI_f, e10, isA30, isA31, isA33, isA40, isA42, isA43, rOkB0, rOkB1, rOkB, Ret_v, Ret_n, cmp_eq, cmp_lt, cmp_gt, nI_1, eq_self, if_true, if_false, reduceIte]
    exact hQ I J (fun h => by cases h) (u2_self h2).symm (fun _ _ => by simp) (fun _ _ => by simp)
end MX
