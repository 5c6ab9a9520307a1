/-! the model: reading one command -/
def gOk (b : Bool) (x : Nat → Int32) (l p : Nat) : Bool := match b with
  | true => okN x l p
  | false => okW x l p
def gEn (b : Bool) (x : Nat → Int32) (l p : Nat) : Nat := match b with
  | true => nP x l p
  | false => wP x l p
def gVa (b : Bool) (x : Nat → Int32) (l p : Nat) : Int64 := match b with
  | true => (nV x l p).toInt64
  | false => lW (wV x l p)
def gFl (b : Bool) (x : Nat → Int32) (l p : Nat) : Nat := if byA x l p = 32 then gEn b x l p else p
def tkN (vb k : Int32) : Bool := decide (vb = 7) || (decide (k = 1) && (decide (vb = 0) || decide (vb = 6)))
/-- only what was read, and the command at the place c, have changed -/
def jR (c : Nat) (J J' : MJ) : Prop := (∀ q, ¬ q = 187 → ¬ q = 196 → ¬ q = 197 → J' q = J q) ∧ (∀ k, ¬ k = 17 → J' 187 k = J 187 k) ∧ ∀ k, ¬ k = c → J' 196 k = J 196 k ∧ J' 197 k = J 197 k
section MY1
variable {I I' : MI} {J J' : MJ} {R : MR} {S : Sh} {Q : SkQ} {n l p q c : Nat} {x : Nat → Int32} {v b : Int32}
theorem jR_rfl : jR c J J := ⟨fun _ _ _ _ => by simp, fun _ _ => by simp, fun _ _ => ⟨by simp, by simp⟩⟩
theorem jR_trans {J2 : MJ} (h1 : jR c J J') (h2 : jR c J' J2) : jR c J J2 := ⟨fun q a b d => (h2.1 q a b d).trans (h1.1 q a b d), fun k hk => (h2.2.1 k hk).trans (h1.2.1 k hk), fun k hk => ⟨(h2.2.2 k hk).1.trans (h1.2.2 k hk).1, (h2.2.2 k hk).2.trans (h1.2.2 k hk).2⟩⟩
theorem c_M_takes {vb k : Int32} : Wp 244 0 [.int vb, .int k] [] I J R S Q = Q 0 (some (.int (bI (tkN vb k)))) I J R S := by
  unfold tkN
  by_cases q1 : vb = 7
  · subst q1
    simp only [x_M_takesNumber_0, x_M_takesNumber_1, x_M_takesNumber_3, x_M_takesNumber_6, x_M_takesNumber_7, x_M_takesNumber_8, x_M_takesNumber_11, x_M_takesNumber_12, x_M_takesNumber_15, x_M_takesNumber_16, x_M_takesNumber_18, x_M_takesNumber_21, x_M_takesNumber_22, x_M_takesNumber_25, x_M_takesNumber_26, decide_true, Bool.true_or, bI_0, bI_t, bI_f, e10, isA30, isA31, isA33, isA40, isA42, isA43, rOkB0, rOkB1, rOkB, Ret_v, Ret_n, cmp_eq, cmp_lt, cmp_gt, nI_1, eq_self, if_true, if_false, reduceIte]
  · by_cases q2 : k = 1
    · subst q2
      by_cases q3 : vb = 0
      · subst q3
        simp only [x_M_takesNumber_0, x_M_takesNumber_1, x_M_takesNumber_3, x_M_takesNumber_6, x_M_takesNumber_7, x_M_takesNumber_8, x_M_takesNumber_11, x_M_takesNumber_12, x_M_takesNumber_15, x_M_takesNumber_16, x_M_takesNumber_18, x_M_takesNumber_21, x_M_takesNumber_22, x_M_takesNumber_25, x_M_takesNumber_26, q1, decide_true, decide_false, Bool.true_or, Bool.false_or, Bool.true_and, bI_0, bI_t, bI_f, e10, isA30, isA31, isA33, isA40, isA42, isA43, rOkB0, rOkB1, rOkB, Ret_v, Ret_n, cmp_eq, cmp_lt, cmp_gt, nI_1, eq_self, if_true, if_false, reduceIte]
      · by_cases q4 : vb = 6
        · subst q4
          simp only [x_M_takesNumber_0, x_M_takesNumber_1, x_M_takesNumber_3, x_M_takesNumber_6, x_M_takesNumber_7, x_M_takesNumber_8, x_M_takesNumber_11, x_M_takesNumber_12, x_M_takesNumber_15, x_M_takesNumber_16, x_M_takesNumber_18, x_M_takesNumber_21, x_M_takesNumber_22, x_M_takesNumber_25, x_M_takesNumber_26, q1, q3, decide_true, decide_false, Bool.or_true, Bool.false_or, Bool.true_and, bI_0, bI_t, bI_f, e10, isA30, isA31, isA33, isA40, isA42, isA43, rOkB0, rOkB1, rOkB, Ret_v, Ret_n, cmp_eq, cmp_lt, cmp_gt, nI_1, eq_self, if_true, if_false, reduceIte]
        · simp only [x_M_takesNumber_0, x_M_takesNumber_1, x_M_takesNumber_3, x_M_takesNumber_6, x_M_takesNumber_7, x_M_takesNumber_8, x_M_takesNumber_11, x_M_takesNumber_12, x_M_takesNumber_15, x_M_takesNumber_16, x_M_takesNumber_18, x_M_takesNumber_21, x_M_takesNumber_22, x_M_takesNumber_25, x_M_takesNumber_26, q1, q3, q4, decide_true, decide_false, Bool.or_self, Bool.and_false, bI_0, bI_t, bI_f, e10, isA30, isA31, isA33, isA40, isA42, isA43, rOkB0, rOkB1, rOkB, Ret_v, Ret_n, cmp_eq, cmp_lt, cmp_gt, nI_1, eq_self, if_true, if_false, reduceIte]
    · simp only [x_M_takesNumber_0, x_M_takesNumber_1, x_M_takesNumber_3, x_M_takesNumber_6, x_M_takesNumber_7, x_M_takesNumber_8, x_M_takesNumber_11, x_M_takesNumber_12, x_M_takesNumber_15, x_M_takesNumber_16, x_M_takesNumber_18, x_M_takesNumber_21, x_M_takesNumber_22, x_M_takesNumber_25, x_M_takesNumber_26, q1, q2, decide_false, Bool.false_and, Bool.or_self, bI_0, bI_t, bI_f, e10, isA30, isA31, isA33, isA40, isA42, isA43, rOkB0, rOkB1, rOkB, Ret_v, Ret_n, cmp_eq, cmp_lt, cmp_gt, nI_1, eq_self, if_true, if_false, reduceIte]
theorem c_M_argB (b : Bool) (hS : MyS R S) (hp : p ≤ 155) (hT : TxD I x l) (h2 : I 187 12 = nI p) (hQ : ∀ J', (gOk b x l p = true → J' 187 17 = gVa b x l p) → (∀ k, ¬ k = 17 → J' 187 k = J 187 k) → (∀ q, ¬ q = 187 → J' q = J q) → Q 0 (some (.int (bI (gOk b x l p)))) (u2 I 187 12 (nI (gFl b x l p))) J' R S) : Wp 243 0 [.ref 187, .int (bI b), nov, nov, nov, nov] [] I J R S Q := by
  cases b
  · refine c_M_argW hS hp hT h2 (fun I' J' a b c d => ?_)
    rw [b]
    exact hQ J' a c d
  · refine c_M_argN hS hp hT h2 (fun I' J' a b c d => ?_)
    rw [b]
    exact hQ J' a c d
theorem gOk_32 {b : Bool} (h : gOk b x l p = true) : gFl b x l p = gEn b x l p := by
  have : byA x l p = 32 := by
    cases b
    · have h : okW x l p = true := h
      unfold okW at h
      rw [Bool.and_eq_true, decide_eq_true_eq] at h
      exact h.1
    · have h : okN x l p = true := h
      unfold okN at h
      rw [Bool.and_eq_true, decide_eq_true_eq] at h
      exact h.1
  unfold gFl
  rw [if_pos this]
theorem l_arg (b : Bool) {vb : Int32} {na k : Nat} (hS : MyS R S) (hk : k < na) (hna : na ≤ 2) (hb : tkN vb (nI k) = b) (hp : p ≤ 151) (hT : TxD I x l) (h2 : I 187 12 = nI p) (hc : c < 40) (h16 : I 187 16 = nI c) (hF : gOk b x l p = false → ∀ J', jR c J J' → Q 0 (some (.int 0)) (u2 I 187 12 (nI (gFl b x l p))) J' R S) (hQ : gOk b x l p = true → ∀ J', jR c J J' → J' 196 c = (if k = 0 then gVa b x l p else J 196 c) → J' 197 c = gVa b x l p → Wp 245 73 [.ref 187, .int vb, .int (nI na), .int (nI (k + 1))] [] (u2 I 187 12 (nI (gEn b x l p))) J' R S Q) : Wp 245 73 [.ref 187, .int vb, .int (nI na), .int (nI k)] [] I J R S Q := by
  have hS' := hS
  obtain ⟨⟨k0, k1, n1, r0⟩, -, -, -, -, -, -, -, -, -, -, s4, l4, s5, l5, s6, l6, s7, l7, -, -, -, -, -, r10, r13, r14, r15⟩ := hS
  have lt : nI k < nI na := nI_lt hk (by omega)
  rw [x_M_reads_73]
  simp only [x_M_reads_0, x_M_reads_1, x_M_reads_2, x_M_reads_5, x_M_reads_6, x_M_reads_7, x_M_reads_10, x_M_reads_11, x_M_reads_14, x_M_reads_15, x_M_reads_18, x_M_reads_19, x_M_reads_22, x_M_reads_25, x_M_reads_26, x_M_reads_29, x_M_reads_30, x_M_reads_31, x_M_reads_32, x_M_reads_35, x_M_reads_36, x_M_reads_37, x_M_reads_38, x_M_reads_39, x_M_reads_42, x_M_reads_43, x_M_reads_46, x_M_reads_47, x_M_reads_48, x_M_reads_51, x_M_reads_52, x_M_reads_55, x_M_reads_56, x_M_reads_59, x_M_reads_60, x_M_reads_61, x_M_reads_62, x_M_reads_65, x_M_reads_66, x_M_reads_69, x_M_reads_70, x_M_reads_71, x_M_reads_72, x_M_reads_74, x_M_reads_75, x_M_reads_78, x_M_reads_79, x_M_reads_80, x_M_reads_81, x_M_reads_84, x_M_reads_87, x_M_reads_90, x_M_reads_91, x_M_reads_92, x_M_reads_93, x_M_reads_96, x_M_reads_97, x_M_reads_100, x_M_reads_101, x_M_reads_104, x_M_reads_105, x_M_reads_108, x_M_reads_111, x_M_reads_112, x_M_reads_115, x_M_reads_116, x_M_reads_119, x_M_reads_120, x_M_reads_121, x_M_reads_122, x_M_reads_125, x_M_reads_126, x_M_reads_129, x_M_reads_130, x_M_reads_133, x_M_reads_134, x_M_reads_137, x_M_reads_141, x_M_reads_144, x_M_reads_145, x_M_reads_147, x_M_reads_149, x_M_reads_152, x_M_reads_155, x_M_reads_156, x_M_reads_157, x_M_reads_158, x_M_reads_159, x_M_reads_162, x_M_reads_163, x_M_reads_164, x_M_reads_167, x_M_reads_168, x_M_reads_169, x_M_reads_172, x_M_reads_173, x_M_reads_174, x_M_reads_177, x_M_reads_178, x_M_reads_181, x_M_reads_184, x_M_reads_185, k0, lt, c_M_takes, hb, bI_0, bI_t, bI_f, e10, isA30, isA31, isA33, isA40, isA42, isA43, rOkB0, rOkB1, rOkB, Ret_v, Ret_n, cmp_eq, cmp_lt, cmp_gt, nI_1, eq_self, if_true, if_false, reduceIte]
  refine c_M_argB b hS' (by omega) hT h2 (fun J1 a1 a2 a3 => ?_)
  have a6 : jR c J J1 := ⟨fun q h1 _ _ => a3 q h1, a2, fun k hk => ⟨by rw [a3 196 (by omega)], by rw [a3 197 (by omega)]⟩⟩
  cases ok : gOk b x l p
  · simp only [x_M_reads_0, x_M_reads_1, x_M_reads_2, x_M_reads_5, x_M_reads_6, x_M_reads_7, x_M_reads_10, x_M_reads_11, x_M_reads_14, x_M_reads_15, x_M_reads_18, x_M_reads_19, x_M_reads_22, x_M_reads_25, x_M_reads_26, x_M_reads_29, x_M_reads_30, x_M_reads_31, x_M_reads_32, x_M_reads_35, x_M_reads_36, x_M_reads_37, x_M_reads_38, x_M_reads_39, x_M_reads_42, x_M_reads_43, x_M_reads_46, x_M_reads_47, x_M_reads_48, x_M_reads_51, x_M_reads_52, x_M_reads_55, x_M_reads_56, x_M_reads_59, x_M_reads_60, x_M_reads_61, x_M_reads_62, x_M_reads_65, x_M_reads_66, x_M_reads_69, x_M_reads_70, x_M_reads_71, x_M_reads_72, x_M_reads_74, x_M_reads_75, x_M_reads_78, x_M_reads_79, x_M_reads_80, x_M_reads_81, x_M_reads_84, x_M_reads_87, x_M_reads_90, x_M_reads_91, x_M_reads_92, x_M_reads_93, x_M_reads_96, x_M_reads_97, x_M_reads_100, x_M_reads_101, x_M_reads_104, x_M_reads_105, x_M_reads_108, x_M_reads_111, x_M_reads_112, x_M_reads_115, x_M_reads_116, x_M_reads_119, x_M_reads_120, x_M_reads_121, x_M_reads_122, x_M_reads_125, x_M_reads_126, x_M_reads_129, x_M_reads_130, x_M_reads_133, x_M_reads_134, x_M_reads_137, x_M_reads_141, x_M_reads_144, x_M_reads_145, x_M_reads_147, x_M_reads_149, x_M_reads_152, x_M_reads_155, x_M_reads_156, x_M_reads_157, x_M_reads_158, x_M_reads_159, x_M_reads_162, x_M_reads_163, x_M_reads_164, x_M_reads_167, x_M_reads_168, x_M_reads_169, x_M_reads_172, x_M_reads_173, x_M_reads_174, x_M_reads_177, x_M_reads_178, x_M_reads_181, x_M_reads_184, x_M_reads_185, bI_0, bI_t, bI_f, e10, isA30, isA31, isA33, isA40, isA42, isA43, rOkB0, rOkB1, rOkB, Ret_v, Ret_n, cmp_eq, cmp_lt, cmp_gt, nI_1, eq_self, if_true, if_false, reduceIte]
    exact hF ok J1 a6
  · have v := a1 ok
    rw [gOk_32 ok]
    have g16 : u2 I 187 12 (nI (gEn b x l p)) 187 16 = nI c := by rw [u2_k (by omega)]; exact h16
    have e1 := inb_nI (i := c) (n := 40) hc (by omega)
    have e2 : ix (nI c) = c := ix_nI (by omega)
    have hQ := hQ ok
    by_cases q : k = 0
    · subst q
      rw [if_pos rfl] at hQ
      have w1 : u2 J1 196 c (gVa b x l p) 187 17 = gVa b x l p := by rw [u2_p (by omega)]; exact v
      simp only [x_M_reads_0, x_M_reads_1, x_M_reads_2, x_M_reads_5, x_M_reads_6, x_M_reads_7, x_M_reads_10, x_M_reads_11, x_M_reads_14, x_M_reads_15, x_M_reads_18, x_M_reads_19, x_M_reads_22, x_M_reads_25, x_M_reads_26, x_M_reads_29, x_M_reads_30, x_M_reads_31, x_M_reads_32, x_M_reads_35, x_M_reads_36, x_M_reads_37, x_M_reads_38, x_M_reads_39, x_M_reads_42, x_M_reads_43, x_M_reads_46, x_M_reads_47, x_M_reads_48, x_M_reads_51, x_M_reads_52, x_M_reads_55, x_M_reads_56, x_M_reads_59, x_M_reads_60, x_M_reads_61, x_M_reads_62, x_M_reads_65, x_M_reads_66, x_M_reads_69, x_M_reads_70, x_M_reads_71, x_M_reads_72, x_M_reads_74, x_M_reads_75, x_M_reads_78, x_M_reads_79, x_M_reads_80, x_M_reads_81, x_M_reads_84, x_M_reads_87, x_M_reads_90, x_M_reads_91, x_M_reads_92, x_M_reads_93, x_M_reads_96, x_M_reads_97, x_M_reads_100, x_M_reads_101, x_M_reads_104, x_M_reads_105, x_M_reads_108, x_M_reads_111, x_M_reads_112, x_M_reads_115, x_M_reads_116, x_M_reads_119, x_M_reads_120, x_M_reads_121, x_M_reads_122, x_M_reads_125, x_M_reads_126, x_M_reads_129, x_M_reads_130, x_M_reads_133, x_M_reads_134, x_M_reads_137, x_M_reads_141, x_M_reads_144, x_M_reads_145, x_M_reads_147, x_M_reads_149, x_M_reads_152, x_M_reads_155, x_M_reads_156, x_M_reads_157, x_M_reads_158, x_M_reads_159, x_M_reads_162, x_M_reads_163, x_M_reads_164, x_M_reads_167, x_M_reads_168, x_M_reads_169, x_M_reads_172, x_M_reads_173, x_M_reads_174, x_M_reads_177, x_M_reads_178, x_M_reads_181, x_M_reads_184, x_M_reads_185, k0, s6, l6, s7, l7, r14, r15, g16, e1, e2, v, w1, kI_0, nI_1', e10, Bool.true_eq_false, bI_0, bI_t, bI_f, e10, isA30, isA31, isA33, isA40, isA42, isA43, rOkB0, rOkB1, rOkB, Ret_v, Ret_n, cmp_eq, cmp_lt, cmp_gt, nI_1, eq_self, if_true, if_false, reduceIte]
      refine hQ _ (jR_trans a6 ⟨fun q h1 h2 h3 => by rw [u2_p h3, u2_p h2], fun k hk => by rw [u2_p (by omega), u2_p (by omega)], fun k hk => ⟨by rw [u2_p (by omega), u2_k hk], by rw [u2_k hk, u2_p (by omega)]⟩⟩) ?_ u2_eq
      rw [u2_p (by omega), u2_eq]
    · rw [if_neg q] at hQ
      have z : ¬ nI k = 0 := by rw [show (0 : Int32) = nI 0 by decide, nI_inj (by omega) (by omega)]; exact q
      have w1 : u2 J1 196 c (J1 196 c) = J1 := u2_self (by simp)
      simp only [x_M_reads_0, x_M_reads_1, x_M_reads_2, x_M_reads_5, x_M_reads_6, x_M_reads_7, x_M_reads_10, x_M_reads_11, x_M_reads_14, x_M_reads_15, x_M_reads_18, x_M_reads_19, x_M_reads_22, x_M_reads_25, x_M_reads_26, x_M_reads_29, x_M_reads_30, x_M_reads_31, x_M_reads_32, x_M_reads_35, x_M_reads_36, x_M_reads_37, x_M_reads_38, x_M_reads_39, x_M_reads_42, x_M_reads_43, x_M_reads_46, x_M_reads_47, x_M_reads_48, x_M_reads_51, x_M_reads_52, x_M_reads_55, x_M_reads_56, x_M_reads_59, x_M_reads_60, x_M_reads_61, x_M_reads_62, x_M_reads_65, x_M_reads_66, x_M_reads_69, x_M_reads_70, x_M_reads_71, x_M_reads_72, x_M_reads_74, x_M_reads_75, x_M_reads_78, x_M_reads_79, x_M_reads_80, x_M_reads_81, x_M_reads_84, x_M_reads_87, x_M_reads_90, x_M_reads_91, x_M_reads_92, x_M_reads_93, x_M_reads_96, x_M_reads_97, x_M_reads_100, x_M_reads_101, x_M_reads_104, x_M_reads_105, x_M_reads_108, x_M_reads_111, x_M_reads_112, x_M_reads_115, x_M_reads_116, x_M_reads_119, x_M_reads_120, x_M_reads_121, x_M_reads_122, x_M_reads_125, x_M_reads_126, x_M_reads_129, x_M_reads_130, x_M_reads_133, x_M_reads_134, x_M_reads_137, x_M_reads_141, x_M_reads_144, x_M_reads_145, x_M_reads_147, x_M_reads_149, x_M_reads_152, x_M_reads_155, x_M_reads_156, x_M_reads_157, x_M_reads_158, x_M_reads_159, x_M_reads_162, x_M_reads_163, x_M_reads_164, x_M_reads_167, x_M_reads_168, x_M_reads_169, x_M_reads_172, x_M_reads_173, x_M_reads_174, x_M_reads_177, x_M_reads_178, x_M_reads_181, x_M_reads_184, x_M_reads_185, k0, s6, l6, s7, l7, r14, r15, g16, e1, e2, v, z, w1, nI_1', e10, Bool.true_eq_false, bI_0, bI_t, bI_f, e10, isA30, isA31, isA33, isA40, isA42, isA43, rOkB0, rOkB1, rOkB, Ret_v, Ret_n, cmp_eq, cmp_lt, cmp_gt, nI_1, eq_self, if_true, if_false, reduceIte]
      refine hQ _ (jR_trans a6 ⟨fun q h1 h2 h3 => u2_p h3, fun k hk => by rw [u2_p (by omega)], fun k hk => ⟨by rw [u2_p (by omega)], u2_k hk⟩⟩) ?_ u2_eq
      rw [u2_p (by omega), a3 196 (by omega)]
theorem l_semi {vb na k : Int32} (hS : MyS R S) (hp : p ≤ 151) (hT : TxD I x l) (h2 : I 187 12 = nI p) (h16 : I 187 16 = nI c) (hF : ¬ byA x l (skp x l 150 p) = 59 → Q 0 (some (.int 0)) (u2 I 187 12 (nI (skp x l 150 p))) J R S) (hQ : byA x l (skp x l 150 p) = 59 → Wp 245 14 [.ref 187, .int vb, .int na, .int k] [] (u2 (u2 I 187 16 (nI (c + 1))) 187 12 (nI (skp x l 150 (skp x l 150 p + 1)))) J R S Q) : Wp 245 140 [.ref 187, .int vb, .int na, .int k] [] I J R S Q := by
  have k0 := hS.1.1
  have hl := hT.2.1
  have sk := fun Q' => c_M_skips (Q := Q') (J := J) hS 150 p I (by omega) (by omega) hT h2
  have sl := skp_le (x := x) (n := l) 150 p
  have T1 : TxD (u2 I 187 12 (nI (skp x l 150 p))) x l := TxD_f hT (by omega)
  have ia := fun Q' => c_M_isAt (Q := Q') (J := J) (lo := 59) (hi := 59) hS T1 u2_eq (by omega) (by decide)
  simp only [at_eq] at ia
  by_cases q : byA x l (skp x l 150 p) = 59
  · have pl := byA_lt (x := x) (n := l) (p := skp x l 150 p) (by rw [q]; decide)
    have g12 : u2 I 187 12 (nI (skp x l 150 p)) 187 12 = nI (skp x l 150 p) := u2_eq
    have g16 : u2 I 187 12 (nI (skp x l 150 p + 1)) 187 16 = nI c := by rw [u2_k (by omega)]; exact h16
    have T2 : TxD (u2 (u2 I 187 12 (nI (skp x l 150 p + 1))) 187 16 (nI (c + 1))) x l := TxD_f (TxD_f hT (by omega)) (by omega)
    have sk2 := fun Q' => c_M_skips (Q := Q') (J := J) hS 150 (skp x l 150 p + 1) (u2 (u2 I 187 12 (nI (skp x l 150 p + 1))) 187 16 (nI (c + 1))) (by omega) (by omega) T2 (by rw [u2_k (by omega), u2_eq])
    have hQ := hQ q
    rw [show u2 (u2 (u2 I 187 12 (nI (skp x l 150 p + 1))) 187 16 (nI (c + 1))) 187 12 (nI (skp x l 150 (skp x l 150 p + 1))) = u2 (u2 I 187 16 (nI (c + 1))) 187 12 (nI (skp x l 150 (skp x l 150 p + 1))) by rw [u2_comm (show ¬ 12 = 16 by omega), u2_u2]] at sk2
    simp only [x_M_reads_0, x_M_reads_1, x_M_reads_2, x_M_reads_5, x_M_reads_6, x_M_reads_7, x_M_reads_10, x_M_reads_11, x_M_reads_15, x_M_reads_18, x_M_reads_19, x_M_reads_22, x_M_reads_25, x_M_reads_26, x_M_reads_29, x_M_reads_30, x_M_reads_31, x_M_reads_32, x_M_reads_35, x_M_reads_36, x_M_reads_37, x_M_reads_38, x_M_reads_39, x_M_reads_42, x_M_reads_43, x_M_reads_46, x_M_reads_47, x_M_reads_48, x_M_reads_51, x_M_reads_52, x_M_reads_55, x_M_reads_56, x_M_reads_59, x_M_reads_60, x_M_reads_61, x_M_reads_62, x_M_reads_65, x_M_reads_66, x_M_reads_69, x_M_reads_70, x_M_reads_71, x_M_reads_72, x_M_reads_74, x_M_reads_75, x_M_reads_78, x_M_reads_79, x_M_reads_80, x_M_reads_81, x_M_reads_84, x_M_reads_87, x_M_reads_90, x_M_reads_91, x_M_reads_92, x_M_reads_93, x_M_reads_96, x_M_reads_97, x_M_reads_100, x_M_reads_101, x_M_reads_104, x_M_reads_105, x_M_reads_108, x_M_reads_111, x_M_reads_112, x_M_reads_115, x_M_reads_116, x_M_reads_119, x_M_reads_120, x_M_reads_121, x_M_reads_122, x_M_reads_125, x_M_reads_126, x_M_reads_129, x_M_reads_130, x_M_reads_133, x_M_reads_134, x_M_reads_137, x_M_reads_140, x_M_reads_141, x_M_reads_144, x_M_reads_145, x_M_reads_147, x_M_reads_149, x_M_reads_152, x_M_reads_155, x_M_reads_156, x_M_reads_157, x_M_reads_158, x_M_reads_159, x_M_reads_162, x_M_reads_163, x_M_reads_164, x_M_reads_167, x_M_reads_168, x_M_reads_169, x_M_reads_172, x_M_reads_173, x_M_reads_174, x_M_reads_177, x_M_reads_178, x_M_reads_181, x_M_reads_184, x_M_reads_185, k0, sk, ia, decide_eq_true q, g12, nI_1', u2_u2, g16, sk2, e10, Bool.true_eq_false, bI_0, bI_t, bI_f, e10, isA30, isA31, isA33, isA40, isA42, isA43, rOkB0, rOkB1, rOkB, Ret_v, Ret_n, cmp_eq, cmp_lt, cmp_gt, nI_1, eq_self, if_true, if_false, reduceIte]
    exact hQ
  · simp only [x_M_reads_0, x_M_reads_1, x_M_reads_2, x_M_reads_5, x_M_reads_6, x_M_reads_7, x_M_reads_10, x_M_reads_11, x_M_reads_15, x_M_reads_18, x_M_reads_19, x_M_reads_22, x_M_reads_25, x_M_reads_26, x_M_reads_29, x_M_reads_30, x_M_reads_31, x_M_reads_32, x_M_reads_35, x_M_reads_36, x_M_reads_37, x_M_reads_38, x_M_reads_39, x_M_reads_42, x_M_reads_43, x_M_reads_46, x_M_reads_47, x_M_reads_48, x_M_reads_51, x_M_reads_52, x_M_reads_55, x_M_reads_56, x_M_reads_59, x_M_reads_60, x_M_reads_61, x_M_reads_62, x_M_reads_65, x_M_reads_66, x_M_reads_69, x_M_reads_70, x_M_reads_71, x_M_reads_72, x_M_reads_74, x_M_reads_75, x_M_reads_78, x_M_reads_79, x_M_reads_80, x_M_reads_81, x_M_reads_84, x_M_reads_87, x_M_reads_90, x_M_reads_91, x_M_reads_92, x_M_reads_93, x_M_reads_96, x_M_reads_97, x_M_reads_100, x_M_reads_101, x_M_reads_104, x_M_reads_105, x_M_reads_108, x_M_reads_111, x_M_reads_112, x_M_reads_115, x_M_reads_116, x_M_reads_119, x_M_reads_120, x_M_reads_121, x_M_reads_122, x_M_reads_125, x_M_reads_126, x_M_reads_129, x_M_reads_130, x_M_reads_133, x_M_reads_134, x_M_reads_137, x_M_reads_140, x_M_reads_141, x_M_reads_144, x_M_reads_145, x_M_reads_147, x_M_reads_149, x_M_reads_152, x_M_reads_155, x_M_reads_156, x_M_reads_157, x_M_reads_158, x_M_reads_159, x_M_reads_162, x_M_reads_163, x_M_reads_164, x_M_reads_167, x_M_reads_168, x_M_reads_169, x_M_reads_172, x_M_reads_173, x_M_reads_174, x_M_reads_177, x_M_reads_178, x_M_reads_181, x_M_reads_184, x_M_reads_185, k0, sk, ia, decide_eq_false q, bI_0, bI_t, bI_f, e10, isA30, isA31, isA33, isA40, isA42, isA43, rOkB0, rOkB1, rOkB, Ret_v, Ret_n, cmp_eq, cmp_lt, cmp_gt, nI_1, eq_self, if_true, if_false, reduceIte]
    exact hF q
end MY1
