/-! the model: risks, reasons, the best key -/
section MR1
variable {I I' : MI} {J J' : MJ} {R : MR} {S : Sh} {Q : SkQ} {n l T : Nat} {w u v t : Int64} {a a' : Bk} {c y qt rk : Int32} {s : Nat → Bk} {x : Nat → Int32}
theorem l_M_riskOf (hI : BkI T a) (ww : isW w = true) : ∀ (d i c : Nat) (I : MI), i + d = (bW a).1 → MOk I J R S a n s x l qt → (∀ I', mS I J I' J → Q 0 (some (.int (nI (c + cnt (fun i => !decide ((bW a).2.1 i = w) && nearW a w ((bW a).2.1 i)) i d)))) I' J R S) → Wp 233 5 [.ref 187, .long w, nov, .int (nI c), .int (nI i)] [] I J R S Q := by
  have iW := hI.1
  intro d
  induction d with
  | zero =>
    intro i c I hi hM hQ
    have e : ¬ nI i < nI (bW a).1 := nI_nlt (by omega) (by omega)
    have m0 := fun Q' => p_many (Q := Q') (k := 0) hM (by omega) hM.2.1.1.1 (by omega)
    simp only [kI_0, kI_1, kI_2, kI_3, kI_4, kI_5, kI_6, kI_7, kI_8, kI_9, kI_10, kI_11, kI_20, kI_24, kI_26, kI_35, kI_55, kI_75, kI_85, kI_109, kI_133, kI_157, kI_181, kI_205, kI_225, kI_245, kI_265, kI_285, kI_305] at m0
    have k0 := hM.1.1.1
    have := hQ I mS_rfl
    simp only [cnt, Nat.add_zero] at this
    rw [x_M_riskOf_5]
    simp only [x_M_riskOf_0, x_M_riskOf_1, x_M_riskOf_2, x_M_riskOf_3, x_M_riskOf_7, x_M_riskOf_8, x_M_riskOf_9, x_M_riskOf_12, x_M_riskOf_15, x_M_riskOf_16, x_M_riskOf_17, x_M_riskOf_20, x_M_riskOf_22, x_M_riskOf_24, x_M_riskOf_25, x_M_riskOf_26, x_M_riskOf_27, x_M_riskOf_28, x_M_riskOf_31, x_M_riskOf_32, x_M_riskOf_33, x_M_riskOf_34, x_M_riskOf_37, x_M_riskOf_39, x_M_riskOf_41, x_M_riskOf_42, x_M_riskOf_43, x_M_riskOf_46, x_M_riskOf_47, x_M_riskOf_48, x_M_riskOf_51, x_M_riskOf_53, x_M_riskOf_54, x_M_riskOf_55, x_M_riskOf_58, x_M_riskOf_59, x_M_riskOf_62, x_M_riskOf_63, x_M_riskOf_64, x_M_riskOf_65, x_M_riskOf_68, x_M_riskOf_71, x_M_riskOf_72, k0, m0, e, bI_0, bI_t, bI_f, e10, isA30, isA31, isA33, isA40, isA42, isA43, rOkB0, rOkB1, rOkB, Ret_v, Ret_n, cmp_eq, cmp_lt, cmp_gt, nI_1, eq_self, if_true, if_false, reduceIte]
    exact this
  | succ d ih =>
    intro i c I hi hM hQ
    have e : nI i < nI (bW a).1 := nI_lt (by omega) (by omega)
    have m0 := fun Q' => p_many (Q := Q') (k := 0) hM (by omega) hM.2.1.1.1 (by omega)
    simp only [kI_0, kI_1, kI_2, kI_3, kI_4, kI_5, kI_6, kI_7, kI_8, kI_9, kI_10, kI_11, kI_20, kI_24, kI_26, kI_35, kI_55, kI_75, kI_85, kI_109, kI_133, kI_157, kI_181, kI_205, kI_225, kI_245, kI_265, kI_285, kI_305] at m0
    have wi : isW ((bW a).2.1 i) = true := hI.2.2.2.2.2.2.2.2.2.1 i (by omega)
    have e3 := inb_nI (i := 35 + i) (n := 305) (by omega) (by omega)
    have e4 : ix (nI (35 + i)) = 35 + i := ix_nI (by omega)
    have v3 : J 188 (35 + i) = (bW a).2.1 i := hM.2.1.1.2.1 i (by omega)
    have v6 : J 188 6 = (bT a 0).toInt64 := hM.2.1.2.2.2.2.2.2.1 0 (by omega)
    obtain ⟨k0, k1, n1, r0⟩ := hM.1.1
    simp only [cnt] at hQ
    have no : ∀ (I1 : MI), mS I J I1 J → (!decide ((bW a).2.1 i = w) && nearW a w ((bW a).2.1 i)) = false → Wp 233 5 [.ref 187, .long w, nov, .int (nI c), .int (nI (i + 1))] [] I1 J R S Q := fun I1 m1 h => by
      rw [if_neg (c := (!decide ((bW a).2.1 i = w) && nearW a w ((bW a).2.1 i)) = true) (by rw [h]; simp), Nat.zero_add] at hQ
      exact ih (i + 1) c I1 (by omega) (MOk_S hM m1) (fun I2 m2 => hQ I2 (mS_trans m1 m2))
    rw [x_M_riskOf_5]
    by_cases q1 : (bW a).2.1 i = w
    · have q1' : ((bW a).2.1 i = w) = True := eq_true q1
      simp only [x_M_riskOf_0, x_M_riskOf_1, x_M_riskOf_2, x_M_riskOf_3, x_M_riskOf_7, x_M_riskOf_8, x_M_riskOf_9, x_M_riskOf_12, x_M_riskOf_15, x_M_riskOf_16, x_M_riskOf_17, x_M_riskOf_20, x_M_riskOf_22, x_M_riskOf_24, x_M_riskOf_25, x_M_riskOf_26, x_M_riskOf_27, x_M_riskOf_28, x_M_riskOf_31, x_M_riskOf_32, x_M_riskOf_33, x_M_riskOf_34, x_M_riskOf_37, x_M_riskOf_39, x_M_riskOf_41, x_M_riskOf_42, x_M_riskOf_43, x_M_riskOf_46, x_M_riskOf_47, x_M_riskOf_48, x_M_riskOf_51, x_M_riskOf_53, x_M_riskOf_54, x_M_riskOf_55, x_M_riskOf_58, x_M_riskOf_59, x_M_riskOf_62, x_M_riskOf_63, x_M_riskOf_64, x_M_riskOf_65, x_M_riskOf_68, x_M_riskOf_71, x_M_riskOf_72, k0, k1, n1, r0, m0, e, e3, e4, v3, q1', nI_1', Int32.add_zero, pK_6, pK_9, pK_35, pK_55, pK_75, pK_85, pK_109, pK_133, pK_157, pK_181, pK_205, pK_225, pK_245, pK_265, pK_285, inK_0, inK_1, inK_2, inK_3, inK_4, inK_5, inK_6, inK_7, inK_8, ixK_0, ixK_1, ixK_2, ixK_3, ixK_4, ixK_5, ixK_6, ixK_7, ixK_8, bI_0, bI_t, bI_f, e10, isA30, isA31, isA33, isA40, isA42, isA43, rOkB0, rOkB1, rOkB, Ret_v, Ret_n, cmp_eq, cmp_lt, cmp_gt, nI_1, eq_self, if_true, if_false, reduceIte]
      exact no I mS_rfl (by rw [decide_eq_true q1]; rfl)
    · simp only [x_M_riskOf_0, x_M_riskOf_1, x_M_riskOf_2, x_M_riskOf_3, x_M_riskOf_7, x_M_riskOf_8, x_M_riskOf_9, x_M_riskOf_12, x_M_riskOf_15, x_M_riskOf_16, x_M_riskOf_17, x_M_riskOf_20, x_M_riskOf_22, x_M_riskOf_24, x_M_riskOf_25, x_M_riskOf_26, x_M_riskOf_27, x_M_riskOf_28, x_M_riskOf_31, x_M_riskOf_32, x_M_riskOf_33, x_M_riskOf_34, x_M_riskOf_37, x_M_riskOf_39, x_M_riskOf_41, x_M_riskOf_42, x_M_riskOf_43, x_M_riskOf_46, x_M_riskOf_47, x_M_riskOf_48, x_M_riskOf_51, x_M_riskOf_53, x_M_riskOf_54, x_M_riskOf_55, x_M_riskOf_58, x_M_riskOf_59, x_M_riskOf_62, x_M_riskOf_63, x_M_riskOf_64, x_M_riskOf_65, x_M_riskOf_68, x_M_riskOf_71, x_M_riskOf_72, k0, k1, n1, r0, m0, e, e3, e4, v3, q1, pK_6, pK_9, pK_35, pK_55, pK_75, pK_85, pK_109, pK_133, pK_157, pK_181, pK_205, pK_225, pK_245, pK_265, pK_285, inK_0, inK_1, inK_2, inK_3, inK_4, inK_5, inK_6, inK_7, inK_8, ixK_0, ixK_1, ixK_2, ixK_3, ixK_4, ixK_5, ixK_6, ixK_7, ixK_8, bI_0, bI_t, bI_f, e10, isA30, isA31, isA33, isA40, isA42, isA43, rOkB0, rOkB1, rOkB, Ret_v, Ret_n, cmp_eq, cmp_lt, cmp_gt, nI_1, eq_self, if_true, if_false, reduceIte]
      refine c_M_far hM ww wi (fun I1 m1 => ?_)
      by_cases q2 : bT a 0 < dsW a (-1) w ((bW a).2.1 i)
      · simp only [x_M_riskOf_0, x_M_riskOf_1, x_M_riskOf_2, x_M_riskOf_3, x_M_riskOf_7, x_M_riskOf_8, x_M_riskOf_9, x_M_riskOf_12, x_M_riskOf_15, x_M_riskOf_16, x_M_riskOf_17, x_M_riskOf_20, x_M_riskOf_22, x_M_riskOf_24, x_M_riskOf_25, x_M_riskOf_26, x_M_riskOf_27, x_M_riskOf_28, x_M_riskOf_31, x_M_riskOf_32, x_M_riskOf_33, x_M_riskOf_34, x_M_riskOf_37, x_M_riskOf_39, x_M_riskOf_41, x_M_riskOf_42, x_M_riskOf_43, x_M_riskOf_46, x_M_riskOf_47, x_M_riskOf_48, x_M_riskOf_51, x_M_riskOf_53, x_M_riskOf_54, x_M_riskOf_55, x_M_riskOf_58, x_M_riskOf_59, x_M_riskOf_62, x_M_riskOf_63, x_M_riskOf_64, x_M_riskOf_65, x_M_riskOf_68, x_M_riskOf_71, x_M_riskOf_72, k0, k1, n1, r0, v6, i64_lt, q2, nI_1', Int32.add_zero, pK_6, pK_9, pK_35, pK_55, pK_75, pK_85, pK_109, pK_133, pK_157, pK_181, pK_205, pK_225, pK_245, pK_265, pK_285, inK_0, inK_1, inK_2, inK_3, inK_4, inK_5, inK_6, inK_7, inK_8, ixK_0, ixK_1, ixK_2, ixK_3, ixK_4, ixK_5, ixK_6, ixK_7, ixK_8, bI_0, bI_t, bI_f, e10, isA30, isA31, isA33, isA40, isA42, isA43, rOkB0, rOkB1, rOkB, Ret_v, Ret_n, cmp_eq, cmp_lt, cmp_gt, nI_1, eq_self, if_true, if_false, reduceIte]
        exact no I1 m1 (by unfold nearW; rw [decide_eq_true q2]; simp)
      · have h : (!decide ((bW a).2.1 i = w) && nearW a w ((bW a).2.1 i)) = true := by unfold nearW; rw [decide_eq_false q1, decide_eq_false q2]; rfl
        rw [if_pos (c := (!decide ((bW a).2.1 i = w) && nearW a w ((bW a).2.1 i)) = true) h] at hQ
        simp only [x_M_riskOf_0, x_M_riskOf_1, x_M_riskOf_2, x_M_riskOf_3, x_M_riskOf_7, x_M_riskOf_8, x_M_riskOf_9, x_M_riskOf_12, x_M_riskOf_15, x_M_riskOf_16, x_M_riskOf_17, x_M_riskOf_20, x_M_riskOf_22, x_M_riskOf_24, x_M_riskOf_25, x_M_riskOf_26, x_M_riskOf_27, x_M_riskOf_28, x_M_riskOf_31, x_M_riskOf_32, x_M_riskOf_33, x_M_riskOf_34, x_M_riskOf_37, x_M_riskOf_39, x_M_riskOf_41, x_M_riskOf_42, x_M_riskOf_43, x_M_riskOf_46, x_M_riskOf_47, x_M_riskOf_48, x_M_riskOf_51, x_M_riskOf_53, x_M_riskOf_54, x_M_riskOf_55, x_M_riskOf_58, x_M_riskOf_59, x_M_riskOf_62, x_M_riskOf_63, x_M_riskOf_64, x_M_riskOf_65, x_M_riskOf_68, x_M_riskOf_71, x_M_riskOf_72, k0, k1, n1, r0, v6, i64_lt, q2, nI_1', pK_6, pK_9, pK_35, pK_55, pK_75, pK_85, pK_109, pK_133, pK_157, pK_181, pK_205, pK_225, pK_245, pK_265, pK_285, inK_0, inK_1, inK_2, inK_3, inK_4, inK_5, inK_6, inK_7, inK_8, ixK_0, ixK_1, ixK_2, ixK_3, ixK_4, ixK_5, ixK_6, ixK_7, ixK_8, bI_0, bI_t, bI_f, e10, isA30, isA31, isA33, isA40, isA42, isA43, rOkB0, rOkB1, rOkB, Ret_v, Ret_n, cmp_eq, cmp_lt, cmp_gt, nI_1, eq_self, if_true, if_false, reduceIte]
        refine ih (i + 1) (c + 1) I1 (by omega) (MOk_S hM m1) (fun I2 m2 => ?_)
        have := hQ I2 (mS_trans m1 m2)
        rw [show c + (1 + cnt (fun i => !decide ((bW a).2.1 i = w) && nearW a w ((bW a).2.1 i)) (i + 1) d) = c + 1 + cnt (fun i => !decide ((bW a).2.1 i = w) && nearW a w ((bW a).2.1 i)) (i + 1) d by omega] at this
        exact this
theorem c_M_riskOf (hM : MOk I J R S a n s x l qt) (hI : BkI T a) (ww : isW w = true) (hQ : ∀ I', mS I J I' J → Q 0 (some (.int (nI (rskN a w)))) I' J R S) : Wp 233 0 [.ref 187, .long w, nov, nov, nov] [] I J R S Q := by
  have lp := l_M_riskOf (Q := Q) hI ww (bW a).1 0 0 I (by omega) hM (fun I' m => by rw [Nat.zero_add]; exact hQ I' m)
  rw [nI_0] at lp
  simp only [x_M_riskOf_0, x_M_riskOf_1, x_M_riskOf_2, x_M_riskOf_3, x_M_riskOf_7, x_M_riskOf_8, x_M_riskOf_9, x_M_riskOf_12, x_M_riskOf_15, x_M_riskOf_16, x_M_riskOf_17, x_M_riskOf_20, x_M_riskOf_22, x_M_riskOf_24, x_M_riskOf_25, x_M_riskOf_26, x_M_riskOf_27, x_M_riskOf_28, x_M_riskOf_31, x_M_riskOf_32, x_M_riskOf_33, x_M_riskOf_34, x_M_riskOf_37, x_M_riskOf_39, x_M_riskOf_41, x_M_riskOf_42, x_M_riskOf_43, x_M_riskOf_46, x_M_riskOf_47, x_M_riskOf_48, x_M_riskOf_51, x_M_riskOf_53, x_M_riskOf_54, x_M_riskOf_55, x_M_riskOf_58, x_M_riskOf_59, x_M_riskOf_62, x_M_riskOf_63, x_M_riskOf_64, x_M_riskOf_65, x_M_riskOf_68, x_M_riskOf_71, x_M_riskOf_72, bI_0, bI_t, bI_f, e10, isA30, isA31, isA33, isA40, isA42, isA43, rOkB0, rOkB1, rOkB, Ret_v, Ret_n, cmp_eq, cmp_lt, cmp_gt, nI_1, eq_self, if_true, if_false, reduceIte]
  exact lp
theorem c_M_risk (hM : MOk I J R S a n s x l qt) (hI : BkI T a) (hQ1 : isW w = false → ∀ I', kM I J R I' J R → MOk I' J R S a n s x l qt → I' 187 4 = 1 → Q 0 (some (.int 0)) I' J R S) (hQ : isW w = true → ∀ I', kM I J R I' J R → MOk I' J R S a n s x l qt → I' 187 4 = 0 → Q 0 (some (.int (nI (rskN a w)))) I' J R S) : Wp 234 0 [.ref 187, .long w, nov] [] I J R S Q := by
  have k0 := hM.1.1.1
  have s1 : ∀ c, mZ I J (u2 (u2 I 187 4 0) 187 4 c) J := fun c => mZ_trans (mZ_f (by omega)) (mZ_f (by omega))
  have s2 : mZ I J (u2 I 187 4 0) J := mZ_f (by omega)
  cases q1 : isW w
  · simp only [x_M_risk_0, x_M_risk_1, x_M_risk_2, x_M_risk_5, x_M_risk_6, x_M_risk_9, x_M_risk_12, x_M_risk_13, x_M_risk_14, x_M_risk_17, x_M_risk_20, x_M_risk_21, x_M_risk_22, x_M_risk_25, k0, c_M_isWord, q1, c_M_fails k0, bI_0, bI_t, bI_f, e10, isA30, isA31, isA33, isA40, isA42, isA43, rOkB0, rOkB1, rOkB, Ret_v, Ret_n, cmp_eq, cmp_lt, cmp_gt, nI_1, eq_self, if_true, if_false, reduceIte]
    exact hQ1 q1 _ (kM_Z (s1 1)) (MOk_Z hM (s1 1)) u2_eq
  · simp only [x_M_risk_0, x_M_risk_1, x_M_risk_2, x_M_risk_5, x_M_risk_6, x_M_risk_9, x_M_risk_12, x_M_risk_13, x_M_risk_14, x_M_risk_17, x_M_risk_20, x_M_risk_21, x_M_risk_22, x_M_risk_25, k0, c_M_isWord, q1, e10, Bool.true_eq_false, bI_0, bI_t, bI_f, e10, isA30, isA31, isA33, isA40, isA42, isA43, rOkB0, rOkB1, rOkB, Ret_v, Ret_n, cmp_eq, cmp_lt, cmp_gt, nI_1, eq_self, if_true, if_false, reduceIte]
    refine c_M_riskOf (MOk_Z hM s2) hI q1 (fun I2 m2 => ?_)
    simp only [x_M_risk_0, x_M_risk_1, x_M_risk_2, x_M_risk_5, x_M_risk_6, x_M_risk_9, x_M_risk_12, x_M_risk_13, x_M_risk_14, x_M_risk_17, x_M_risk_20, x_M_risk_21, x_M_risk_22, x_M_risk_25, bI_0, bI_t, bI_f, e10, isA30, isA31, isA33, isA40, isA42, isA43, rOkB0, rOkB1, rOkB, Ret_v, Ret_n, cmp_eq, cmp_lt, cmp_gt, nI_1, eq_self, if_true, if_false, reduceIte]
    exact hQ q1 I2 (kM_Z (mZ_trans s2 m2.1)) (MOk_Z hM (mZ_trans s2 m2.1)) (m2.2.trans u2_eq)
theorem l_M_riskiest (hI : BkI T a) : ∀ (d i : Nat) (most : Int32) (fd' : Int64) (I : MI) (l5 : Value), i + d = (bW a).1 → MOk I J R S a n s x l qt → (∀ I', mS I J I' J → Q 0 (some (.long (grk (fun i => nI (rskN a ((bW a).2.1 i))) (bW a).2.1 most fd' i d))) I' J R S) → Wp 235 14 [.ref 187, .long fd', nov, .int most, .int (nI i), l5] [] I J R S Q := by
  have iW := hI.1
  intro d
  induction d with
  | zero =>
    intro i most fd' I l5 hi hM hQ
    have e : ¬ nI i < nI (bW a).1 := nI_nlt (by omega) (by omega)
    have m0 := fun Q' => p_many (Q := Q') (k := 0) hM (by omega) hM.2.1.1.1 (by omega)
    simp only [kI_0, kI_1, kI_2, kI_3, kI_4, kI_5, kI_6, kI_7, kI_8, kI_9, kI_10, kI_11, kI_20, kI_24, kI_26, kI_35, kI_55, kI_75, kI_85, kI_109, kI_133, kI_157, kI_181, kI_205, kI_225, kI_245, kI_265, kI_285, kI_305] at m0
    have k0 := hM.1.1.1
    rw [x_M_riskiest_14]
    simp only [x_M_riskiest_0, x_M_riskiest_1, x_M_riskiest_2, x_M_riskiest_5, x_M_riskiest_8, x_M_riskiest_9, x_M_riskiest_10, x_M_riskiest_11, x_M_riskiest_12, x_M_riskiest_16, x_M_riskiest_17, x_M_riskiest_18, x_M_riskiest_21, x_M_riskiest_24, x_M_riskiest_25, x_M_riskiest_26, x_M_riskiest_29, x_M_riskiest_31, x_M_riskiest_33, x_M_riskiest_34, x_M_riskiest_35, x_M_riskiest_38, x_M_riskiest_40, x_M_riskiest_42, x_M_riskiest_43, x_M_riskiest_46, x_M_riskiest_47, x_M_riskiest_50, x_M_riskiest_52, x_M_riskiest_54, x_M_riskiest_55, x_M_riskiest_56, x_M_riskiest_59, x_M_riskiest_60, x_M_riskiest_61, x_M_riskiest_63, x_M_riskiest_64, x_M_riskiest_67, x_M_riskiest_69, x_M_riskiest_72, x_M_riskiest_73, x_M_riskiest_74, x_M_riskiest_77, x_M_riskiest_80, x_M_riskiest_81, k0, m0, e, bI_0, bI_t, bI_f, e10, isA30, isA31, isA33, isA40, isA42, isA43, rOkB0, rOkB1, rOkB, Ret_v, Ret_n, cmp_eq, cmp_lt, cmp_gt, nI_1, eq_self, if_true, if_false, reduceIte]
    exact hQ I mS_rfl
  | succ d ih =>
    intro i most fd' I l5 hi hM hQ
    have e : nI i < nI (bW a).1 := nI_lt (by omega) (by omega)
    have m0 := fun Q' => p_many (Q := Q') (k := 0) hM (by omega) hM.2.1.1.1 (by omega)
    simp only [kI_0, kI_1, kI_2, kI_3, kI_4, kI_5, kI_6, kI_7, kI_8, kI_9, kI_10, kI_11, kI_20, kI_24, kI_26, kI_35, kI_55, kI_75, kI_85, kI_109, kI_133, kI_157, kI_181, kI_205, kI_225, kI_245, kI_265, kI_285, kI_305] at m0
    have wi : isW ((bW a).2.1 i) = true := hI.2.2.2.2.2.2.2.2.2.1 i (by omega)
    have e3 := inb_nI (i := 35 + i) (n := 305) (by omega) (by omega)
    have e4 : ix (nI (35 + i)) = 35 + i := ix_nI (by omega)
    have v3 : J 188 (35 + i) = (bW a).2.1 i := hM.2.1.1.2.1 i (by omega)
    obtain ⟨k0, k1, n1, r0⟩ := hM.1.1
    simp only [grk] at hQ
    rw [x_M_riskiest_14]
    simp only [x_M_riskiest_0, x_M_riskiest_1, x_M_riskiest_2, x_M_riskiest_5, x_M_riskiest_8, x_M_riskiest_9, x_M_riskiest_10, x_M_riskiest_11, x_M_riskiest_12, x_M_riskiest_16, x_M_riskiest_17, x_M_riskiest_18, x_M_riskiest_21, x_M_riskiest_24, x_M_riskiest_25, x_M_riskiest_26, x_M_riskiest_29, x_M_riskiest_31, x_M_riskiest_33, x_M_riskiest_34, x_M_riskiest_35, x_M_riskiest_38, x_M_riskiest_40, x_M_riskiest_42, x_M_riskiest_43, x_M_riskiest_46, x_M_riskiest_47, x_M_riskiest_50, x_M_riskiest_52, x_M_riskiest_54, x_M_riskiest_55, x_M_riskiest_56, x_M_riskiest_59, x_M_riskiest_60, x_M_riskiest_61, x_M_riskiest_63, x_M_riskiest_64, x_M_riskiest_67, x_M_riskiest_69, x_M_riskiest_72, x_M_riskiest_73, x_M_riskiest_74, x_M_riskiest_77, x_M_riskiest_80, x_M_riskiest_81, k0, k1, n1, r0, m0, e, e3, e4, v3, pK_6, pK_9, pK_35, pK_55, pK_75, pK_85, pK_109, pK_133, pK_157, pK_181, pK_205, pK_225, pK_245, pK_265, pK_285, inK_0, inK_1, inK_2, inK_3, inK_4, inK_5, inK_6, inK_7, inK_8, ixK_0, ixK_1, ixK_2, ixK_3, ixK_4, ixK_5, ixK_6, ixK_7, ixK_8, bI_0, bI_t, bI_f, e10, isA30, isA31, isA33, isA40, isA42, isA43, rOkB0, rOkB1, rOkB, Ret_v, Ret_n, cmp_eq, cmp_lt, cmp_gt, nI_1, eq_self, if_true, if_false, reduceIte]
    refine c_M_riskOf hM hI wi (fun I1 m1 => ?_)
    by_cases q : most < nI (rskN a ((bW a).2.1 i))
    · rw [if_pos q] at hQ
      simp only [x_M_riskiest_0, x_M_riskiest_1, x_M_riskiest_2, x_M_riskiest_5, x_M_riskiest_8, x_M_riskiest_9, x_M_riskiest_10, x_M_riskiest_11, x_M_riskiest_12, x_M_riskiest_16, x_M_riskiest_17, x_M_riskiest_18, x_M_riskiest_21, x_M_riskiest_24, x_M_riskiest_25, x_M_riskiest_26, x_M_riskiest_29, x_M_riskiest_31, x_M_riskiest_33, x_M_riskiest_34, x_M_riskiest_35, x_M_riskiest_38, x_M_riskiest_40, x_M_riskiest_42, x_M_riskiest_43, x_M_riskiest_46, x_M_riskiest_47, x_M_riskiest_50, x_M_riskiest_52, x_M_riskiest_54, x_M_riskiest_55, x_M_riskiest_56, x_M_riskiest_59, x_M_riskiest_60, x_M_riskiest_61, x_M_riskiest_63, x_M_riskiest_64, x_M_riskiest_67, x_M_riskiest_69, x_M_riskiest_72, x_M_riskiest_73, x_M_riskiest_74, x_M_riskiest_77, x_M_riskiest_80, x_M_riskiest_81, k0, k1, n1, r0, e3, e4, v3, q, nI_1', pK_6, pK_9, pK_35, pK_55, pK_75, pK_85, pK_109, pK_133, pK_157, pK_181, pK_205, pK_225, pK_245, pK_265, pK_285, inK_0, inK_1, inK_2, inK_3, inK_4, inK_5, inK_6, inK_7, inK_8, ixK_0, ixK_1, ixK_2, ixK_3, ixK_4, ixK_5, ixK_6, ixK_7, ixK_8, bI_0, bI_t, bI_f, e10, isA30, isA31, isA33, isA40, isA42, isA43, rOkB0, rOkB1, rOkB, Ret_v, Ret_n, cmp_eq, cmp_lt, cmp_gt, nI_1, eq_self, if_true, if_false, reduceIte]
      exact ih (i + 1) _ _ I1 _ (by omega) (MOk_S hM m1) (fun I2 m2 => hQ I2 (mS_trans m1 m2))
    · rw [if_neg q] at hQ
      simp only [x_M_riskiest_0, x_M_riskiest_1, x_M_riskiest_2, x_M_riskiest_5, x_M_riskiest_8, x_M_riskiest_9, x_M_riskiest_10, x_M_riskiest_11, x_M_riskiest_12, x_M_riskiest_16, x_M_riskiest_17, x_M_riskiest_18, x_M_riskiest_21, x_M_riskiest_24, x_M_riskiest_25, x_M_riskiest_26, x_M_riskiest_29, x_M_riskiest_31, x_M_riskiest_33, x_M_riskiest_34, x_M_riskiest_35, x_M_riskiest_38, x_M_riskiest_40, x_M_riskiest_42, x_M_riskiest_43, x_M_riskiest_46, x_M_riskiest_47, x_M_riskiest_50, x_M_riskiest_52, x_M_riskiest_54, x_M_riskiest_55, x_M_riskiest_56, x_M_riskiest_59, x_M_riskiest_60, x_M_riskiest_61, x_M_riskiest_63, x_M_riskiest_64, x_M_riskiest_67, x_M_riskiest_69, x_M_riskiest_72, x_M_riskiest_73, x_M_riskiest_74, x_M_riskiest_77, x_M_riskiest_80, x_M_riskiest_81, k0, k1, n1, r0, e3, e4, v3, q, nI_1', pK_6, pK_9, pK_35, pK_55, pK_75, pK_85, pK_109, pK_133, pK_157, pK_181, pK_205, pK_225, pK_245, pK_265, pK_285, inK_0, inK_1, inK_2, inK_3, inK_4, inK_5, inK_6, inK_7, inK_8, ixK_0, ixK_1, ixK_2, ixK_3, ixK_4, ixK_5, ixK_6, ixK_7, ixK_8, bI_0, bI_t, bI_f, e10, isA30, isA31, isA33, isA40, isA42, isA43, rOkB0, rOkB1, rOkB, Ret_v, Ret_n, cmp_eq, cmp_lt, cmp_gt, nI_1, eq_self, if_true, if_false, reduceIte]
      exact ih (i + 1) _ _ I1 _ (by omega) (MOk_S hM m1) (fun I2 m2 => hQ I2 (mS_trans m1 m2))
theorem c_M_riskiest (hM : MOk I J R S a n s x l qt) (hI : BkI T a) (hQ : ∀ I', kM I J R I' J R → MOk I' J R S a n s x l qt → I' 187 4 = 0 → Q 0 (some (.long (rskW a))) I' J R S) : Wp 235 0 [.ref 187, nov, nov, nov, nov, nov] [] I J R S Q := by
  have k0 := hM.1.1.1
  have s2 : mZ I J (u2 I 187 4 0) J := mZ_f (by omega)
  have lp := l_M_riskiest (Q := Q) hI (bW a).1 0 (-1) (-1) _ nov (by omega) (MOk_Z hM s2) (fun I2 m2 => hQ I2 (kM_Z (mZ_trans s2 m2.1)) (MOk_Z hM (mZ_trans s2 m2.1)) (m2.2.trans u2_eq))
  rw [nI_0] at lp
  simp only [x_M_riskiest_0, x_M_riskiest_1, x_M_riskiest_2, x_M_riskiest_5, x_M_riskiest_8, x_M_riskiest_9, x_M_riskiest_10, x_M_riskiest_11, x_M_riskiest_12, x_M_riskiest_16, x_M_riskiest_17, x_M_riskiest_18, x_M_riskiest_21, x_M_riskiest_24, x_M_riskiest_25, x_M_riskiest_26, x_M_riskiest_29, x_M_riskiest_31, x_M_riskiest_33, x_M_riskiest_34, x_M_riskiest_35, x_M_riskiest_38, x_M_riskiest_40, x_M_riskiest_42, x_M_riskiest_43, x_M_riskiest_46, x_M_riskiest_47, x_M_riskiest_50, x_M_riskiest_52, x_M_riskiest_54, x_M_riskiest_55, x_M_riskiest_56, x_M_riskiest_59, x_M_riskiest_60, x_M_riskiest_61, x_M_riskiest_63, x_M_riskiest_64, x_M_riskiest_67, x_M_riskiest_69, x_M_riskiest_72, x_M_riskiest_73, x_M_riskiest_74, x_M_riskiest_77, x_M_riskiest_80, x_M_riskiest_81, k0, bI_0, bI_t, bI_f, e10, isA30, isA31, isA33, isA40, isA42, isA43, rOkB0, rOkB1, rOkB, Ret_v, Ret_n, cmp_eq, cmp_lt, cmp_gt, nI_1, eq_self, if_true, if_false, reduceIte]
  exact lp
theorem c_M_reason (hM : MOk I J R S a n s x l qt) (hI : BkI T a) (hQ1 : (isW t && isW w) = false → ∀ I', kM I J R I' J R → MOk I' J R S a n s x l qt → I' 187 4 = 1 → Q 0 (some (.int 0)) I' J R S) (hQ : (isW t && isW w) = true → ∀ I', kM I J R I' J R → MOk I' J R S a n s x l qt → I' 187 4 = 0 → Q 0 (some (.int (rsn a t w))) I' J R S) : Wp 232 0 [.ref 187, .long t, nov, .long w, nov] [] I J R S Q := by
  have iW := hI.1
  obtain ⟨k0, k1, n1, r0⟩ := hM.1.1
  have s1 : ∀ c, mZ I J (u2 (u2 I 187 4 0) 187 4 c) J := fun c => mZ_trans (mZ_f (by omega)) (mZ_f (by omega))
  have s2 : mZ I J (u2 I 187 4 0) J := mZ_f (by omega)
  have M1 := MOk_Z hM s2
  have v6 : J 188 6 = (bT a 0).toInt64 := hM.2.1.2.2.2.2.2.2.1 0 (by omega)
  cases q1 : isW t
  · simp only [x_M_reason_0, x_M_reason_1, x_M_reason_2, x_M_reason_5, x_M_reason_6, x_M_reason_9, x_M_reason_12, x_M_reason_13, x_M_reason_16, x_M_reason_19, x_M_reason_20, x_M_reason_21, x_M_reason_24, x_M_reason_25, x_M_reason_26, x_M_reason_27, x_M_reason_30, x_M_reason_31, x_M_reason_34, x_M_reason_35, x_M_reason_38, x_M_reason_39, x_M_reason_40, x_M_reason_41, x_M_reason_44, x_M_reason_47, x_M_reason_48, x_M_reason_51, x_M_reason_52, x_M_reason_53, x_M_reason_54, x_M_reason_57, x_M_reason_58, x_M_reason_59, x_M_reason_62, x_M_reason_64, x_M_reason_65, x_M_reason_66, x_M_reason_69, x_M_reason_70, x_M_reason_73, x_M_reason_74, k0, c_M_isWord, q1, c_M_fails k0, bI_0, bI_t, bI_f, e10, isA30, isA31, isA33, isA40, isA42, isA43, rOkB0, rOkB1, rOkB, Ret_v, Ret_n, cmp_eq, cmp_lt, cmp_gt, nI_1, eq_self, if_true, if_false, reduceIte]
    exact hQ1 (by rw [q1]; rfl) _ (kM_Z (s1 1)) (MOk_Z hM (s1 1)) u2_eq
  · cases q2 : isW w
    · simp only [x_M_reason_0, x_M_reason_1, x_M_reason_2, x_M_reason_5, x_M_reason_6, x_M_reason_9, x_M_reason_12, x_M_reason_13, x_M_reason_16, x_M_reason_19, x_M_reason_20, x_M_reason_21, x_M_reason_24, x_M_reason_25, x_M_reason_26, x_M_reason_27, x_M_reason_30, x_M_reason_31, x_M_reason_34, x_M_reason_35, x_M_reason_38, x_M_reason_39, x_M_reason_40, x_M_reason_41, x_M_reason_44, x_M_reason_47, x_M_reason_48, x_M_reason_51, x_M_reason_52, x_M_reason_53, x_M_reason_54, x_M_reason_57, x_M_reason_58, x_M_reason_59, x_M_reason_62, x_M_reason_64, x_M_reason_65, x_M_reason_66, x_M_reason_69, x_M_reason_70, x_M_reason_73, x_M_reason_74, k0, c_M_isWord, q1, q2, c_M_fails k0, e10, Bool.true_eq_false, bI_0, bI_t, bI_f, e10, isA30, isA31, isA33, isA40, isA42, isA43, rOkB0, rOkB1, rOkB, Ret_v, Ret_n, cmp_eq, cmp_lt, cmp_gt, nI_1, eq_self, if_true, if_false, reduceIte]
      exact hQ1 (by rw [q1, q2]; rfl) _ (kM_Z (s1 1)) (MOk_Z hM (s1 1)) u2_eq
    · have ok : (isW t && isW w) = true := by rw [q1, q2]; rfl
      have ip := fun Q' => p_place (Q := Q') (w := w) M1 hI
      have ib := fun Q' => p_isBanned (Q := Q') (t := t) (w := w) M1 hI
      unfold rsn at hQ
      by_cases q3 : fw (bW a) w < (bW a).1
      · have ne := frI_t q3 (by omega)
        rw [frI_lt q3] at ip ne
        rw [show hasW a w = true from decide_eq_true q3] at hQ
        simp only [if_true] at hQ
        cases q4 : isB a t w
        · rw [q4] at hQ
          simp only [Bool.false_eq_true, if_false] at hQ
          simp only [x_M_reason_0, x_M_reason_1, x_M_reason_2, x_M_reason_5, x_M_reason_6, x_M_reason_9, x_M_reason_12, x_M_reason_13, x_M_reason_16, x_M_reason_19, x_M_reason_20, x_M_reason_21, x_M_reason_24, x_M_reason_25, x_M_reason_26, x_M_reason_27, x_M_reason_30, x_M_reason_31, x_M_reason_34, x_M_reason_35, x_M_reason_38, x_M_reason_39, x_M_reason_40, x_M_reason_41, x_M_reason_44, x_M_reason_47, x_M_reason_48, x_M_reason_51, x_M_reason_52, x_M_reason_53, x_M_reason_54, x_M_reason_57, x_M_reason_58, x_M_reason_59, x_M_reason_62, x_M_reason_64, x_M_reason_65, x_M_reason_66, x_M_reason_69, x_M_reason_70, x_M_reason_73, x_M_reason_74, k0, c_M_isWord, q1, q2, ip, ne, ib, q4, e10, Bool.true_eq_false, bI_0, bI_t, bI_f, e10, isA30, isA31, isA33, isA40, isA42, isA43, rOkB0, rOkB1, rOkB, Ret_v, Ret_n, cmp_eq, cmp_lt, cmp_gt, nI_1, eq_self, if_true, if_false, reduceIte]
          refine c_M_far M1 q1 q2 (fun I2 m2 => ?_)
          have hQ := hQ ok I2 (kM_Z (mZ_trans s2 m2.1)) (MOk_Z hM (mZ_trans s2 m2.1)) (m2.2.trans u2_eq)
          unfold nearW at hQ
          by_cases q5 : bT a 0 < dsW a (-1) t w
          · rw [decide_eq_true q5] at hQ
            simp only [Bool.not_true, Bool.false_eq_true, if_false] at hQ
            simp only [x_M_reason_0, x_M_reason_1, x_M_reason_2, x_M_reason_5, x_M_reason_6, x_M_reason_9, x_M_reason_12, x_M_reason_13, x_M_reason_16, x_M_reason_19, x_M_reason_20, x_M_reason_21, x_M_reason_24, x_M_reason_25, x_M_reason_26, x_M_reason_27, x_M_reason_30, x_M_reason_31, x_M_reason_34, x_M_reason_35, x_M_reason_38, x_M_reason_39, x_M_reason_40, x_M_reason_41, x_M_reason_44, x_M_reason_47, x_M_reason_48, x_M_reason_51, x_M_reason_52, x_M_reason_53, x_M_reason_54, x_M_reason_57, x_M_reason_58, x_M_reason_59, x_M_reason_62, x_M_reason_64, x_M_reason_65, x_M_reason_66, x_M_reason_69, x_M_reason_70, x_M_reason_73, x_M_reason_74, k0, k1, n1, r0, v6, i64_lt, q5, pK_6, pK_9, pK_35, pK_55, pK_75, pK_85, pK_109, pK_133, pK_157, pK_181, pK_205, pK_225, pK_245, pK_265, pK_285, inK_0, inK_1, inK_2, inK_3, inK_4, inK_5, inK_6, inK_7, inK_8, ixK_0, ixK_1, ixK_2, ixK_3, ixK_4, ixK_5, ixK_6, ixK_7, ixK_8, bI_0, bI_t, bI_f, e10, isA30, isA31, isA33, isA40, isA42, isA43, rOkB0, rOkB1, rOkB, Ret_v, Ret_n, cmp_eq, cmp_lt, cmp_gt, nI_1, eq_self, if_true, if_false, reduceIte]
            exact hQ
          · rw [decide_eq_false q5] at hQ
            simp only [Bool.not_false, if_true] at hQ
            simp only [x_M_reason_0, x_M_reason_1, x_M_reason_2, x_M_reason_5, x_M_reason_6, x_M_reason_9, x_M_reason_12, x_M_reason_13, x_M_reason_16, x_M_reason_19, x_M_reason_20, x_M_reason_21, x_M_reason_24, x_M_reason_25, x_M_reason_26, x_M_reason_27, x_M_reason_30, x_M_reason_31, x_M_reason_34, x_M_reason_35, x_M_reason_38, x_M_reason_39, x_M_reason_40, x_M_reason_41, x_M_reason_44, x_M_reason_47, x_M_reason_48, x_M_reason_51, x_M_reason_52, x_M_reason_53, x_M_reason_54, x_M_reason_57, x_M_reason_58, x_M_reason_59, x_M_reason_62, x_M_reason_64, x_M_reason_65, x_M_reason_66, x_M_reason_69, x_M_reason_70, x_M_reason_73, x_M_reason_74, k0, k1, n1, r0, v6, i64_lt, q5, pK_6, pK_9, pK_35, pK_55, pK_75, pK_85, pK_109, pK_133, pK_157, pK_181, pK_205, pK_225, pK_245, pK_265, pK_285, inK_0, inK_1, inK_2, inK_3, inK_4, inK_5, inK_6, inK_7, inK_8, ixK_0, ixK_1, ixK_2, ixK_3, ixK_4, ixK_5, ixK_6, ixK_7, ixK_8, bI_0, bI_t, bI_f, e10, isA30, isA31, isA33, isA40, isA42, isA43, rOkB0, rOkB1, rOkB, Ret_v, Ret_n, cmp_eq, cmp_lt, cmp_gt, nI_1, eq_self, if_true, if_false, reduceIte]
            exact hQ
        · rw [q4] at hQ
          simp only [if_true] at hQ
          simp only [x_M_reason_0, x_M_reason_1, x_M_reason_2, x_M_reason_5, x_M_reason_6, x_M_reason_9, x_M_reason_12, x_M_reason_13, x_M_reason_16, x_M_reason_19, x_M_reason_20, x_M_reason_21, x_M_reason_24, x_M_reason_25, x_M_reason_26, x_M_reason_27, x_M_reason_30, x_M_reason_31, x_M_reason_34, x_M_reason_35, x_M_reason_38, x_M_reason_39, x_M_reason_40, x_M_reason_41, x_M_reason_44, x_M_reason_47, x_M_reason_48, x_M_reason_51, x_M_reason_52, x_M_reason_53, x_M_reason_54, x_M_reason_57, x_M_reason_58, x_M_reason_59, x_M_reason_62, x_M_reason_64, x_M_reason_65, x_M_reason_66, x_M_reason_69, x_M_reason_70, x_M_reason_73, x_M_reason_74, k0, c_M_isWord, q1, q2, ip, ne, ib, q4, e10, Bool.true_eq_false, bI_0, bI_t, bI_f, e10, isA30, isA31, isA33, isA40, isA42, isA43, rOkB0, rOkB1, rOkB, Ret_v, Ret_n, cmp_eq, cmp_lt, cmp_gt, nI_1, eq_self, if_true, if_false, reduceIte]
          exact hQ ok _ (kM_Z s2) M1 u2_eq
      · rw [frI_ge q3] at ip
        rw [show hasW a w = false from decide_eq_false q3] at hQ
        simp only [Bool.false_eq_true, if_false] at hQ
        simp only [x_M_reason_0, x_M_reason_1, x_M_reason_2, x_M_reason_5, x_M_reason_6, x_M_reason_9, x_M_reason_12, x_M_reason_13, x_M_reason_16, x_M_reason_19, x_M_reason_20, x_M_reason_21, x_M_reason_24, x_M_reason_25, x_M_reason_26, x_M_reason_27, x_M_reason_30, x_M_reason_31, x_M_reason_34, x_M_reason_35, x_M_reason_38, x_M_reason_39, x_M_reason_40, x_M_reason_41, x_M_reason_44, x_M_reason_47, x_M_reason_48, x_M_reason_51, x_M_reason_52, x_M_reason_53, x_M_reason_54, x_M_reason_57, x_M_reason_58, x_M_reason_59, x_M_reason_62, x_M_reason_64, x_M_reason_65, x_M_reason_66, x_M_reason_69, x_M_reason_70, x_M_reason_73, x_M_reason_74, k0, c_M_isWord, q1, q2, ip, e10, Bool.true_eq_false, bI_0, bI_t, bI_f, e10, isA30, isA31, isA33, isA40, isA42, isA43, rOkB0, rOkB1, rOkB, Ret_v, Ret_n, cmp_eq, cmp_lt, cmp_gt, nI_1, eq_self, if_true, if_false, reduceIte]
        exact hQ ok _ (kM_Z s2) M1 u2_eq
theorem c_M_distance (hM : MOk I J R S a n s x l qt) (hQ1 : (isW t && isW w) = false → ∀ I', kM I J R I' J R → MOk I' J R S a n s x l qt → I' 187 4 = 1 → Q 0 (some (.int 0)) I' J R S) (hQ : (isW t && isW w) = true → ∀ I', kM I J R I' J R → MOk I' J R S a n s x l qt → I' 187 4 = 0 → Q 0 (some (.int (dsW a (-1) t w))) I' J R S) : Wp 229 0 [.ref 187, .long t, nov, .long w, nov] [] I J R S Q := by
  have k0 := hM.1.1.1
  have s1 : ∀ c, mZ I J (u2 (u2 I 187 4 0) 187 4 c) J := fun c => mZ_trans (mZ_f (by omega)) (mZ_f (by omega))
  have s2 : mZ I J (u2 I 187 4 0) J := mZ_f (by omega)
  cases q1 : isW t
  · simp only [x_M_distance_0, x_M_distance_1, x_M_distance_2, x_M_distance_5, x_M_distance_6, x_M_distance_9, x_M_distance_12, x_M_distance_13, x_M_distance_16, x_M_distance_19, x_M_distance_20, x_M_distance_21, x_M_distance_22, x_M_distance_25, x_M_distance_28, x_M_distance_29, x_M_distance_30, x_M_distance_33, k0, c_M_isWord, q1, c_M_fails k0, bI_0, bI_t, bI_f, e10, isA30, isA31, isA33, isA40, isA42, isA43, rOkB0, rOkB1, rOkB, Ret_v, Ret_n, cmp_eq, cmp_lt, cmp_gt, nI_1, eq_self, if_true, if_false, reduceIte]
    exact hQ1 (by rw [q1]; rfl) _ (kM_Z (s1 1)) (MOk_Z hM (s1 1)) u2_eq
  · cases q2 : isW w
    · simp only [x_M_distance_0, x_M_distance_1, x_M_distance_2, x_M_distance_5, x_M_distance_6, x_M_distance_9, x_M_distance_12, x_M_distance_13, x_M_distance_16, x_M_distance_19, x_M_distance_20, x_M_distance_21, x_M_distance_22, x_M_distance_25, x_M_distance_28, x_M_distance_29, x_M_distance_30, x_M_distance_33, k0, c_M_isWord, q1, q2, c_M_fails k0, e10, Bool.true_eq_false, bI_0, bI_t, bI_f, e10, isA30, isA31, isA33, isA40, isA42, isA43, rOkB0, rOkB1, rOkB, Ret_v, Ret_n, cmp_eq, cmp_lt, cmp_gt, nI_1, eq_self, if_true, if_false, reduceIte]
      exact hQ1 (by rw [q1, q2]; rfl) _ (kM_Z (s1 1)) (MOk_Z hM (s1 1)) u2_eq
    · simp only [x_M_distance_0, x_M_distance_1, x_M_distance_2, x_M_distance_5, x_M_distance_6, x_M_distance_9, x_M_distance_12, x_M_distance_13, x_M_distance_16, x_M_distance_19, x_M_distance_20, x_M_distance_21, x_M_distance_22, x_M_distance_25, x_M_distance_28, x_M_distance_29, x_M_distance_30, x_M_distance_33, k0, c_M_isWord, q1, q2, e10, Bool.true_eq_false, bI_0, bI_t, bI_f, e10, isA30, isA31, isA33, isA40, isA42, isA43, rOkB0, rOkB1, rOkB, Ret_v, Ret_n, cmp_eq, cmp_lt, cmp_gt, nI_1, eq_self, if_true, if_false, reduceIte]
      refine c_M_far (MOk_Z hM s2) q1 q2 (fun I2 m2 => ?_)
      simp only [x_M_distance_0, x_M_distance_1, x_M_distance_2, x_M_distance_5, x_M_distance_6, x_M_distance_9, x_M_distance_12, x_M_distance_13, x_M_distance_16, x_M_distance_19, x_M_distance_20, x_M_distance_21, x_M_distance_22, x_M_distance_25, x_M_distance_28, x_M_distance_29, x_M_distance_30, x_M_distance_33, bI_0, bI_t, bI_f, e10, isA30, isA31, isA33, isA40, isA42, isA43, rOkB0, rOkB1, rOkB, Ret_v, Ret_n, cmp_eq, cmp_lt, cmp_gt, nI_1, eq_self, if_true, if_false, reduceIte]
      exact hQ (by rw [q1, q2]; rfl) I2 (kM_Z (mZ_trans s2 m2.1)) (MOk_Z hM (mZ_trans s2 m2.1)) (m2.2.trans u2_eq)
theorem c_M_caseOf (hM : MOk I J R S a n s x l qt) (hI : BkI T a) (hQ1 : isW t = false → ∀ I', kM I J R I' J R → MOk I' J R S a n s x l qt → I' 187 4 = 1 → Q 0 (some (.int 0)) I' J R S) (hQ : isW t = true → ∀ I' J', kM I J R I' J' R → MOk I' J' R S a n s x l qt → I' 187 4 = 0 → Q 0 (some (.int (csF a t))) I' J' R S) : Wp 230 0 [.ref 187, .long t, nov] [] I J R S Q := by
  have k0 := hM.1.1.1
  have s1 : ∀ c, mZ I J (u2 (u2 I 187 4 0) 187 4 c) J := fun c => mZ_trans (mZ_f (by omega)) (mZ_f (by omega))
  have s2 : mZ I J (u2 I 187 4 0) J := mZ_f (by omega)
  cases q1 : isW t
  · simp only [x_M_caseOf_0, x_M_caseOf_1, x_M_caseOf_2, x_M_caseOf_5, x_M_caseOf_6, x_M_caseOf_9, x_M_caseOf_12, x_M_caseOf_13, x_M_caseOf_14, x_M_caseOf_17, x_M_caseOf_20, x_M_caseOf_21, x_M_caseOf_22, x_M_caseOf_25, k0, c_M_isWord, q1, c_M_fails k0, bI_0, bI_t, bI_f, e10, isA30, isA31, isA33, isA40, isA42, isA43, rOkB0, rOkB1, rOkB, Ret_v, Ret_n, cmp_eq, cmp_lt, cmp_gt, nI_1, eq_self, if_true, if_false, reduceIte]
    exact hQ1 q1 _ (kM_Z (s1 1)) (MOk_Z hM (s1 1)) u2_eq
  · simp only [x_M_caseOf_0, x_M_caseOf_1, x_M_caseOf_2, x_M_caseOf_5, x_M_caseOf_6, x_M_caseOf_9, x_M_caseOf_12, x_M_caseOf_13, x_M_caseOf_14, x_M_caseOf_17, x_M_caseOf_20, x_M_caseOf_21, x_M_caseOf_22, x_M_caseOf_25, k0, c_M_isWord, q1, e10, Bool.true_eq_false, bI_0, bI_t, bI_f, e10, isA30, isA31, isA33, isA40, isA42, isA43, rOkB0, rOkB1, rOkB, Ret_v, Ret_n, cmp_eq, cmp_lt, cmp_gt, nI_1, eq_self, if_true, if_false, reduceIte]
    refine c_M_caseFor (MOk_Z hM s2) hI q1 (fun I2 J2 m2 _ => ?_)
    simp only [x_M_caseOf_0, x_M_caseOf_1, x_M_caseOf_2, x_M_caseOf_5, x_M_caseOf_6, x_M_caseOf_9, x_M_caseOf_12, x_M_caseOf_13, x_M_caseOf_14, x_M_caseOf_17, x_M_caseOf_20, x_M_caseOf_21, x_M_caseOf_22, x_M_caseOf_25, bI_0, bI_t, bI_f, e10, isA30, isA31, isA33, isA40, isA42, isA43, rOkB0, rOkB1, rOkB, Ret_v, Ret_n, cmp_eq, cmp_lt, cmp_gt, nI_1, eq_self, if_true, if_false, reduceIte]
    exact hQ q1 I2 J2 (kM_Z (mZ_trans s2 m2.1)) (MOk_Z hM (mZ_trans s2 m2.1)) (m2.2.trans u2_eq)
theorem dst_drop {k nn mm : Nat} (hk : k < 26) : dst (aStk a k 1) (-1) nn mm = dst a (nI k) nn mm := by
  have lv32 : ∀ n i, lv n i < 32 := fun n i => by unfold lv; omega
  have hb : ∀ i, bK (aStk a k 1) i = if i = k then 1 else bK a i := fun i => rfl
  have g : gC (aStk a k 1) (-1) nn = gC a (nI k) nn := by
    funext i
    have l := lv32 nn i
    unfold gC
    rw [hb]
    by_cases q : lv nn i = k
    · rw [if_pos q, if_neg (fun h => absurd h.1.2 (by decide)), if_neg (fun h => h.1.1 (by rw [q]))]
    · rw [if_neg q]
      have n1 : ¬ nI (lv nn i) = -1 := nI_m1 (by omega)
      have n2 : ¬ nI (lv nn i) = nI k := fun h => q ((nI_inj (by omega) (by omega)).mp h)
      simp only [n1, n2, not_false_eq_true, true_and]
  have c : cC (aStk a k 1) (-1) mm = cC a (nI k) mm := by
    funext i
    have l := lv32 mm i
    unfold cC
    rw [hb]
    by_cases q : lv mm i = k
    · rw [if_pos q, if_pos (Or.inr rfl), if_pos (Or.inl (by rw [q]))]
    · rw [if_neg q]
      have n1 : ¬ nI (lv mm i) = -1 := nI_m1 (by omega)
      have n2 : ¬ nI (lv mm i) = nI k := fun h => q ((nI_inj (by omega) (by omega)).mp h)
      simp only [n1, n2, false_or]
  unfold dst
  rw [g, c]
theorem l_M_best (wt : isW t = true) (ww : isW w = true) (hF : BkF a) : ∀ (d i b : Nat) (least : Int32) (I : MI) (l8 l9 l10 : Value), i + d = 26 → MOk I J R S a n s x l qt → (∀ I', mS I J I' J → Q 0 (some (.int (bdk (fun i => dsW a (nI i) t w) b least i d))) I' J R S) → Wp 236 36 [.ref 187, .long t, nov, .long w, nov, .int (nI b), .int least, .int (nI i), l8, nov, l10] [] I J R S Q := by
  intro d
  induction d with
  | zero =>
    intro i b least I l8 _ l10 hi hM hQ
    have e : ¬ nI i < 26 := by rw [show (26 : Int32) = nI 26 by decide]; exact nI_nlt (by omega) (by omega)
    rw [x_M_bestDropping_36]
    simp only [x_M_bestDropping_0, x_M_bestDropping_1, x_M_bestDropping_2, x_M_bestDropping_5, x_M_bestDropping_6, x_M_bestDropping_9, x_M_bestDropping_12, x_M_bestDropping_13, x_M_bestDropping_16, x_M_bestDropping_19, x_M_bestDropping_20, x_M_bestDropping_21, x_M_bestDropping_24, x_M_bestDropping_25, x_M_bestDropping_26, x_M_bestDropping_28, x_M_bestDropping_31, x_M_bestDropping_33, x_M_bestDropping_34, x_M_bestDropping_38, x_M_bestDropping_40, x_M_bestDropping_43, x_M_bestDropping_44, x_M_bestDropping_47, x_M_bestDropping_49, x_M_bestDropping_51, x_M_bestDropping_52, x_M_bestDropping_53, x_M_bestDropping_55, x_M_bestDropping_56, x_M_bestDropping_59, x_M_bestDropping_61, x_M_bestDropping_63, x_M_bestDropping_64, x_M_bestDropping_65, x_M_bestDropping_66, x_M_bestDropping_67, x_M_bestDropping_68, x_M_bestDropping_69, x_M_bestDropping_72, x_M_bestDropping_74, x_M_bestDropping_75, x_M_bestDropping_78, x_M_bestDropping_80, x_M_bestDropping_82, x_M_bestDropping_83, x_M_bestDropping_85, x_M_bestDropping_86, x_M_bestDropping_88, x_M_bestDropping_90, x_M_bestDropping_93, x_M_bestDropping_95, x_M_bestDropping_98, x_M_bestDropping_100, x_M_bestDropping_102, x_M_bestDropping_104, x_M_bestDropping_106, x_M_bestDropping_109, x_M_bestDropping_111, x_M_bestDropping_114, x_M_bestDropping_117, x_M_bestDropping_119, x_M_bestDropping_121, x_M_bestDropping_122, x_M_bestDropping_124, x_M_bestDropping_125, e, bI_0, bI_t, bI_f, e10, isA30, isA31, isA33, isA40, isA42, isA43, rOkB0, rOkB1, rOkB, Ret_v, Ret_n, cmp_eq, cmp_lt, cmp_gt, nI_1, eq_self, if_true, if_false, reduceIte]
    exact hQ I mS_rfl
  | succ d ih =>
    intro i b least I l8 _ l10 hi hM hQ
    have e : nI i < 26 := by rw [show (26 : Int32) = nI 26 by decide]; exact nI_lt (by omega) (by omega)
    have e3 := inb_nI (i := 9 + i) (n := 305) (by omega) (by omega)
    have e4 : ix (nI (9 + i)) = 9 + i := ix_nI (by omega)
    obtain ⟨k0, k1, n1, r0⟩ := hM.1.1
    simp only [bdk] at hQ
    rw [x_M_bestDropping_36]
    simp only [x_M_bestDropping_0, x_M_bestDropping_1, x_M_bestDropping_2, x_M_bestDropping_5, x_M_bestDropping_6, x_M_bestDropping_9, x_M_bestDropping_12, x_M_bestDropping_13, x_M_bestDropping_16, x_M_bestDropping_19, x_M_bestDropping_20, x_M_bestDropping_21, x_M_bestDropping_24, x_M_bestDropping_25, x_M_bestDropping_26, x_M_bestDropping_28, x_M_bestDropping_31, x_M_bestDropping_33, x_M_bestDropping_34, x_M_bestDropping_38, x_M_bestDropping_40, x_M_bestDropping_43, x_M_bestDropping_44, x_M_bestDropping_47, x_M_bestDropping_49, x_M_bestDropping_51, x_M_bestDropping_52, x_M_bestDropping_53, x_M_bestDropping_55, x_M_bestDropping_56, x_M_bestDropping_59, x_M_bestDropping_61, x_M_bestDropping_63, x_M_bestDropping_64, x_M_bestDropping_65, x_M_bestDropping_66, x_M_bestDropping_67, x_M_bestDropping_68, x_M_bestDropping_69, x_M_bestDropping_72, x_M_bestDropping_74, x_M_bestDropping_75, x_M_bestDropping_78, x_M_bestDropping_80, x_M_bestDropping_82, x_M_bestDropping_83, x_M_bestDropping_85, x_M_bestDropping_86, x_M_bestDropping_88, x_M_bestDropping_90, x_M_bestDropping_93, x_M_bestDropping_95, x_M_bestDropping_98, x_M_bestDropping_100, x_M_bestDropping_102, x_M_bestDropping_104, x_M_bestDropping_106, x_M_bestDropping_109, x_M_bestDropping_111, x_M_bestDropping_114, x_M_bestDropping_117, x_M_bestDropping_119, x_M_bestDropping_121, x_M_bestDropping_122, x_M_bestDropping_124, x_M_bestDropping_125, k0, k1, n1, r0, e, e3, e4, u2_jn', pK_6, pK_9, pK_35, pK_55, pK_75, pK_85, pK_109, pK_133, pK_157, pK_181, pK_205, pK_225, pK_245, pK_265, pK_285, inK_0, inK_1, inK_2, inK_3, inK_4, inK_5, inK_6, inK_7, inK_8, ixK_0, ixK_1, ixK_2, ixK_3, ixK_4, ixK_5, ixK_6, ixK_7, ixK_8, bI_0, bI_t, bI_f, e10, isA30, isA31, isA33, isA40, isA42, isA43, rOkB0, rOkB1, rOkB, Ret_v, Ret_n, cmp_eq, cmp_lt, cmp_gt, nI_1, eq_self, if_true, if_false, reduceIte]
    have D1 := NoD_K (c := 1) hM.2.1 hF (show i < 26 by omega)
    rw [o64] at D1
    have M1 := MOk_now hM D1
    refine c_M_far M1 wt ww (fun I1 m1 => ?_)
    have ed : dsW (aStk a i 1) (-1) t w = dsW a (nI i) t w := dst_drop (by omega)
    rw [ed]
    have back : jn J (ju (ju (J 188) (9 + i) 1) (9 + i) (J 188 (9 + i))) = J := by
      rw [show ju (ju (J 188) (9 + i) 1) (9 + i) (J 188 (9 + i)) = J 188 by
        funext k
        unfold ju
        by_cases q : k = 9 + i
        · rw [if_pos q, q]
        · rw [if_neg q, if_neg q], jn_self]
    have m0' := m1.1.1
    have m1' : mS I J I1 J := ⟨⟨⟨m0'.1, m0'.2.1, m0'.2.2.1, m0'.2.2.2.1, m0'.2.2.2.2.1, by simp, by simp, fun p hp => ⟨(m0'.2.2.2.2.2.2.2 p hp).1, by simp⟩⟩, m1.1.2.1, by simp, by simp, m1.1.2.2.2.2⟩, m1.2⟩
    by_cases q : dsW a (nI i) t w < least
    · rw [if_pos q] at hQ
      have mnl : mn least (dsW a (nI i) t w) = dsW a (nI i) t w := if_pos q
      simp only [x_M_bestDropping_0, x_M_bestDropping_1, x_M_bestDropping_2, x_M_bestDropping_5, x_M_bestDropping_6, x_M_bestDropping_9, x_M_bestDropping_12, x_M_bestDropping_13, x_M_bestDropping_16, x_M_bestDropping_19, x_M_bestDropping_20, x_M_bestDropping_21, x_M_bestDropping_24, x_M_bestDropping_25, x_M_bestDropping_26, x_M_bestDropping_28, x_M_bestDropping_31, x_M_bestDropping_33, x_M_bestDropping_34, x_M_bestDropping_38, x_M_bestDropping_40, x_M_bestDropping_43, x_M_bestDropping_44, x_M_bestDropping_47, x_M_bestDropping_49, x_M_bestDropping_51, x_M_bestDropping_52, x_M_bestDropping_53, x_M_bestDropping_55, x_M_bestDropping_56, x_M_bestDropping_59, x_M_bestDropping_61, x_M_bestDropping_63, x_M_bestDropping_64, x_M_bestDropping_65, x_M_bestDropping_66, x_M_bestDropping_67, x_M_bestDropping_68, x_M_bestDropping_69, x_M_bestDropping_72, x_M_bestDropping_74, x_M_bestDropping_75, x_M_bestDropping_78, x_M_bestDropping_80, x_M_bestDropping_82, x_M_bestDropping_83, x_M_bestDropping_85, x_M_bestDropping_86, x_M_bestDropping_88, x_M_bestDropping_90, x_M_bestDropping_93, x_M_bestDropping_95, x_M_bestDropping_98, x_M_bestDropping_100, x_M_bestDropping_102, x_M_bestDropping_104, x_M_bestDropping_106, x_M_bestDropping_109, x_M_bestDropping_111, x_M_bestDropping_114, x_M_bestDropping_117, x_M_bestDropping_119, x_M_bestDropping_121, x_M_bestDropping_122, x_M_bestDropping_124, x_M_bestDropping_125, k0, k1, n1, r0, e3, e4, q, u2_jn, back, c_M_less, mnl, nI_1', pK_6, pK_9, pK_35, pK_55, pK_75, pK_85, pK_109, pK_133, pK_157, pK_181, pK_205, pK_225, pK_245, pK_265, pK_285, inK_0, inK_1, inK_2, inK_3, inK_4, inK_5, inK_6, inK_7, inK_8, ixK_0, ixK_1, ixK_2, ixK_3, ixK_4, ixK_5, ixK_6, ixK_7, ixK_8, bI_0, bI_t, bI_f, e10, isA30, isA31, isA33, isA40, isA42, isA43, rOkB0, rOkB1, rOkB, Ret_v, Ret_n, cmp_eq, cmp_lt, cmp_gt, nI_1, eq_self, if_true, if_false, reduceIte]
      exact ih (i + 1) i _ I1 _ nov _ (by omega) (MOk_S hM m1') (fun I2 m2 => hQ I2 (mS_trans m1' m2))
    · rw [if_neg q] at hQ
      have mnl : mn least (dsW a (nI i) t w) = least := if_neg q
      simp only [x_M_bestDropping_0, x_M_bestDropping_1, x_M_bestDropping_2, x_M_bestDropping_5, x_M_bestDropping_6, x_M_bestDropping_9, x_M_bestDropping_12, x_M_bestDropping_13, x_M_bestDropping_16, x_M_bestDropping_19, x_M_bestDropping_20, x_M_bestDropping_21, x_M_bestDropping_24, x_M_bestDropping_25, x_M_bestDropping_26, x_M_bestDropping_28, x_M_bestDropping_31, x_M_bestDropping_33, x_M_bestDropping_34, x_M_bestDropping_38, x_M_bestDropping_40, x_M_bestDropping_43, x_M_bestDropping_44, x_M_bestDropping_47, x_M_bestDropping_49, x_M_bestDropping_51, x_M_bestDropping_52, x_M_bestDropping_53, x_M_bestDropping_55, x_M_bestDropping_56, x_M_bestDropping_59, x_M_bestDropping_61, x_M_bestDropping_63, x_M_bestDropping_64, x_M_bestDropping_65, x_M_bestDropping_66, x_M_bestDropping_67, x_M_bestDropping_68, x_M_bestDropping_69, x_M_bestDropping_72, x_M_bestDropping_74, x_M_bestDropping_75, x_M_bestDropping_78, x_M_bestDropping_80, x_M_bestDropping_82, x_M_bestDropping_83, x_M_bestDropping_85, x_M_bestDropping_86, x_M_bestDropping_88, x_M_bestDropping_90, x_M_bestDropping_93, x_M_bestDropping_95, x_M_bestDropping_98, x_M_bestDropping_100, x_M_bestDropping_102, x_M_bestDropping_104, x_M_bestDropping_106, x_M_bestDropping_109, x_M_bestDropping_111, x_M_bestDropping_114, x_M_bestDropping_117, x_M_bestDropping_119, x_M_bestDropping_121, x_M_bestDropping_122, x_M_bestDropping_124, x_M_bestDropping_125, k0, k1, n1, r0, e3, e4, q, u2_jn, back, c_M_less, mnl, nI_1', pK_6, pK_9, pK_35, pK_55, pK_75, pK_85, pK_109, pK_133, pK_157, pK_181, pK_205, pK_225, pK_245, pK_265, pK_285, inK_0, inK_1, inK_2, inK_3, inK_4, inK_5, inK_6, inK_7, inK_8, ixK_0, ixK_1, ixK_2, ixK_3, ixK_4, ixK_5, ixK_6, ixK_7, ixK_8, bI_0, bI_t, bI_f, e10, isA30, isA31, isA33, isA40, isA42, isA43, rOkB0, rOkB1, rOkB, Ret_v, Ret_n, cmp_eq, cmp_lt, cmp_gt, nI_1, eq_self, if_true, if_false, reduceIte]
      exact ih (i + 1) b _ I1 _ nov _ (by omega) (MOk_S hM m1') (fun I2 m2 => hQ I2 (mS_trans m1' m2))
theorem bst_eq : bstK a t w = bdk (fun i => dsW a (nI i) t w) 0 1000 0 26 := by
  have z : dsW a (nI 0) t w = dsW a 0 t w := by rw [nI_0]
  have key : ∀ (f : Nat → Int32) (d : Int32) (k : Nat), f 0 = d → in1k d → bdk f 0 d 1 k = bdk f 0 1000 0 (k + 1) := fun f d k h0 h1 => by
    rw [show bdk f 0 1000 0 (k + 1) = if f 0 < 1000 then bdk f 0 (f 0) (0 + 1) k else bdk f 0 1000 (0 + 1) k from rfl, h0, Nat.zero_add]
    by_cases q : d < 1000
    · rw [if_pos q]
    · rw [if_neg q]
      have e : d = 1000 := by
        rw [← Int32.toInt_inj]
        rw [Int32.lt_iff_toInt_lt] at q
        have := h1.2
        rw [show (1000 : Int32).toInt = 1000 by decide] at *
        omega
      rw [e]
  exact key (fun i => dsW a (nI i) t w) (dsW a 0 t w) 25 z dsW_in
theorem c_M_bestDropping (hM : MOk I J R S a n s x l qt) (hI : BkI T a) (hQ1 : (isW t && isW w) = false → ∀ I', kM I J R I' J R → MOk I' J R S a n s x l qt → I' 187 4 = 1 → Q 0 (some (.int 0)) I' J R S) (hQ : (isW t && isW w) = true → ∀ I', kM I J R I' J R → MOk I' J R S a n s x l qt → I' 187 4 = 0 → Q 0 (some (.int (bstK a t w))) I' J R S) : Wp 236 0 [.ref 187, .long t, nov, .long w, nov, nov, nov, nov, nov, nov, nov] [] I J R S Q := by
  have k0 := hM.1.1.1
  have s1 : ∀ c, mZ I J (u2 (u2 I 187 4 0) 187 4 c) J := fun c => mZ_trans (mZ_f (by omega)) (mZ_f (by omega))
  have s2 : mZ I J (u2 I 187 4 0) J := mZ_f (by omega)
  cases q1 : isW t
  · simp only [x_M_bestDropping_0, x_M_bestDropping_1, x_M_bestDropping_2, x_M_bestDropping_5, x_M_bestDropping_6, x_M_bestDropping_9, x_M_bestDropping_12, x_M_bestDropping_13, x_M_bestDropping_16, x_M_bestDropping_19, x_M_bestDropping_20, x_M_bestDropping_21, x_M_bestDropping_24, x_M_bestDropping_25, x_M_bestDropping_26, x_M_bestDropping_28, x_M_bestDropping_31, x_M_bestDropping_33, x_M_bestDropping_34, x_M_bestDropping_38, x_M_bestDropping_40, x_M_bestDropping_43, x_M_bestDropping_44, x_M_bestDropping_47, x_M_bestDropping_49, x_M_bestDropping_51, x_M_bestDropping_52, x_M_bestDropping_53, x_M_bestDropping_55, x_M_bestDropping_56, x_M_bestDropping_59, x_M_bestDropping_61, x_M_bestDropping_63, x_M_bestDropping_64, x_M_bestDropping_65, x_M_bestDropping_66, x_M_bestDropping_67, x_M_bestDropping_68, x_M_bestDropping_69, x_M_bestDropping_72, x_M_bestDropping_74, x_M_bestDropping_75, x_M_bestDropping_78, x_M_bestDropping_80, x_M_bestDropping_82, x_M_bestDropping_83, x_M_bestDropping_85, x_M_bestDropping_86, x_M_bestDropping_88, x_M_bestDropping_90, x_M_bestDropping_93, x_M_bestDropping_95, x_M_bestDropping_98, x_M_bestDropping_100, x_M_bestDropping_102, x_M_bestDropping_104, x_M_bestDropping_106, x_M_bestDropping_109, x_M_bestDropping_111, x_M_bestDropping_114, x_M_bestDropping_117, x_M_bestDropping_119, x_M_bestDropping_121, x_M_bestDropping_122, x_M_bestDropping_124, x_M_bestDropping_125, k0, c_M_isWord, q1, c_M_fails k0, bI_0, bI_t, bI_f, e10, isA30, isA31, isA33, isA40, isA42, isA43, rOkB0, rOkB1, rOkB, Ret_v, Ret_n, cmp_eq, cmp_lt, cmp_gt, nI_1, eq_self, if_true, if_false, reduceIte]
    exact hQ1 (by rw [q1]; rfl) _ (kM_Z (s1 1)) (MOk_Z hM (s1 1)) u2_eq
  · cases q2 : isW w
    · simp only [x_M_bestDropping_0, x_M_bestDropping_1, x_M_bestDropping_2, x_M_bestDropping_5, x_M_bestDropping_6, x_M_bestDropping_9, x_M_bestDropping_12, x_M_bestDropping_13, x_M_bestDropping_16, x_M_bestDropping_19, x_M_bestDropping_20, x_M_bestDropping_21, x_M_bestDropping_24, x_M_bestDropping_25, x_M_bestDropping_26, x_M_bestDropping_28, x_M_bestDropping_31, x_M_bestDropping_33, x_M_bestDropping_34, x_M_bestDropping_38, x_M_bestDropping_40, x_M_bestDropping_43, x_M_bestDropping_44, x_M_bestDropping_47, x_M_bestDropping_49, x_M_bestDropping_51, x_M_bestDropping_52, x_M_bestDropping_53, x_M_bestDropping_55, x_M_bestDropping_56, x_M_bestDropping_59, x_M_bestDropping_61, x_M_bestDropping_63, x_M_bestDropping_64, x_M_bestDropping_65, x_M_bestDropping_66, x_M_bestDropping_67, x_M_bestDropping_68, x_M_bestDropping_69, x_M_bestDropping_72, x_M_bestDropping_74, x_M_bestDropping_75, x_M_bestDropping_78, x_M_bestDropping_80, x_M_bestDropping_82, x_M_bestDropping_83, x_M_bestDropping_85, x_M_bestDropping_86, x_M_bestDropping_88, x_M_bestDropping_90, x_M_bestDropping_93, x_M_bestDropping_95, x_M_bestDropping_98, x_M_bestDropping_100, x_M_bestDropping_102, x_M_bestDropping_104, x_M_bestDropping_106, x_M_bestDropping_109, x_M_bestDropping_111, x_M_bestDropping_114, x_M_bestDropping_117, x_M_bestDropping_119, x_M_bestDropping_121, x_M_bestDropping_122, x_M_bestDropping_124, x_M_bestDropping_125, k0, c_M_isWord, q1, q2, c_M_fails k0, e10, Bool.true_eq_false, bI_0, bI_t, bI_f, e10, isA30, isA31, isA33, isA40, isA42, isA43, rOkB0, rOkB1, rOkB, Ret_v, Ret_n, cmp_eq, cmp_lt, cmp_gt, nI_1, eq_self, if_true, if_false, reduceIte]
      exact hQ1 (by rw [q1, q2]; rfl) _ (kM_Z (s1 1)) (MOk_Z hM (s1 1)) u2_eq
    · have eb := bst_eq (a := a) (t := t) (w := w)
      have lp := l_M_best (Q := Q) q1 q2 (BkF_of hI) 26 0 0 1000 _ nov nov nov (by omega) (MOk_Z hM s2) (fun I2 m2 => by
        have := hQ (by rw [q1, q2]; rfl) I2 (kM_Z (mZ_trans s2 m2.1)) (MOk_Z hM (mZ_trans s2 m2.1)) (m2.2.trans u2_eq)
        rw [eb] at this
        exact this)
      simp only [x_M_bestDropping_0, x_M_bestDropping_1, x_M_bestDropping_2, x_M_bestDropping_5, x_M_bestDropping_6, x_M_bestDropping_9, x_M_bestDropping_12, x_M_bestDropping_13, x_M_bestDropping_16, x_M_bestDropping_19, x_M_bestDropping_20, x_M_bestDropping_21, x_M_bestDropping_24, x_M_bestDropping_25, x_M_bestDropping_26, x_M_bestDropping_28, x_M_bestDropping_31, x_M_bestDropping_33, x_M_bestDropping_34, x_M_bestDropping_38, x_M_bestDropping_40, x_M_bestDropping_43, x_M_bestDropping_44, x_M_bestDropping_47, x_M_bestDropping_49, x_M_bestDropping_51, x_M_bestDropping_52, x_M_bestDropping_53, x_M_bestDropping_55, x_M_bestDropping_56, x_M_bestDropping_59, x_M_bestDropping_61, x_M_bestDropping_63, x_M_bestDropping_64, x_M_bestDropping_65, x_M_bestDropping_66, x_M_bestDropping_67, x_M_bestDropping_68, x_M_bestDropping_69, x_M_bestDropping_72, x_M_bestDropping_74, x_M_bestDropping_75, x_M_bestDropping_78, x_M_bestDropping_80, x_M_bestDropping_82, x_M_bestDropping_83, x_M_bestDropping_85, x_M_bestDropping_86, x_M_bestDropping_88, x_M_bestDropping_90, x_M_bestDropping_93, x_M_bestDropping_95, x_M_bestDropping_98, x_M_bestDropping_100, x_M_bestDropping_102, x_M_bestDropping_104, x_M_bestDropping_106, x_M_bestDropping_109, x_M_bestDropping_111, x_M_bestDropping_114, x_M_bestDropping_117, x_M_bestDropping_119, x_M_bestDropping_121, x_M_bestDropping_122, x_M_bestDropping_124, x_M_bestDropping_125, k0, c_M_isWord, q1, q2, e10, Bool.true_eq_false, bI_0, bI_t, bI_f, e10, isA30, isA31, isA33, isA40, isA42, isA43, rOkB0, rOkB1, rOkB, Ret_v, Ret_n, cmp_eq, cmp_lt, cmp_gt, nI_1, eq_self, if_true, if_false, reduceIte]
      exact lp
end MR1
