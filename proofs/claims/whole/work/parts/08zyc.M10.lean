/-! the model: sticks, settings, bans, undo, the text -/
section MJ0
variable {I I' : MI} {J J' : MJ} {R : MR} {S : Sh} {Q : SkQ} {f g h : Nat → Int64} {b n l T : Nat} {w u v t : Int64} {a a' : Bk} {p q r : Rw} {c k y qt : Int32} {s : Nat → Bk} {x : Nat → Int32}
theorem c_M_setStick (hM : MOk I J R S a n s x l qt) (hI : BkI T a) (hQ1 : (okLet k && okStk c) = false → ∀ I', kM I J R I' J R → MOk I' J R S a n s x l qt → I' 187 4 = 1 → Q 0 (some (.int 0)) I' J R S) (hQ : (okLet k && okStk c) = true → ∀ I' J', kM I J R I' J' R → MOk I' J' R S (aStk a (ix k) c) (qtN qt n) (qtS qt s n a) x l qt → I' 187 4 = 0 → Q 0 (some (.int (bK a (ix k)))) I' J' R S) : Wp 196 0 [.ref 187, .int k, .int c, nov] [] I J R S Q := by
  have k0 := hM.1.1.1
  have hF := BkF_of hI
  have s1 : ∀ c, mZ I J (u2 (u2 I 187 4 0) 187 4 c) J := fun c => mZ_trans (mZ_f (by omega)) (mZ_f (by omega))
  cases q1 : okLet k
  · simp only [x_M_setStick_0, x_M_setStick_1, x_M_setStick_2, x_M_setStick_5, x_M_setStick_6, x_M_setStick_7, x_M_setStick_8, x_M_setStick_11, x_M_setStick_14, x_M_setStick_17, x_M_setStick_18, x_M_setStick_19, x_M_setStick_20, x_M_setStick_23, x_M_setStick_26, x_M_setStick_29, x_M_setStick_30, x_M_setStick_31, x_M_setStick_34, x_M_setStick_35, x_M_setStick_36, x_M_setStick_39, x_M_setStick_40, x_M_setStick_43, x_M_setStick_45, x_M_setStick_46, x_M_setStick_47, x_M_setStick_48, x_M_setStick_49, x_M_setStick_50, x_M_setStick_51, x_M_setStick_54, x_M_setStick_56, x_M_setStick_57, x_M_setStick_58, x_M_setStick_59, x_M_setStick_60, x_M_setStick_61, x_M_setStick_62, k0, c_M_in, inL_let, q1, c_M_fails k0, bI_0, bI_t, bI_f, e10, isA30, isA31, isA33, isA40, isA42, isA43, rOkB0, rOkB1, rOkB, Ret_v, Ret_n, cmp_eq, cmp_lt, cmp_gt, nI_1, eq_self, if_true, if_false, reduceIte]
    exact hQ1 (by rw [q1]; rfl) _ (kM_Z (s1 1)) (MOk_Z hM (s1 1)) u2_eq
  · cases q2 : okStk c
    · simp only [x_M_setStick_0, x_M_setStick_1, x_M_setStick_2, x_M_setStick_5, x_M_setStick_6, x_M_setStick_7, x_M_setStick_8, x_M_setStick_11, x_M_setStick_14, x_M_setStick_17, x_M_setStick_18, x_M_setStick_19, x_M_setStick_20, x_M_setStick_23, x_M_setStick_26, x_M_setStick_29, x_M_setStick_30, x_M_setStick_31, x_M_setStick_34, x_M_setStick_35, x_M_setStick_36, x_M_setStick_39, x_M_setStick_40, x_M_setStick_43, x_M_setStick_45, x_M_setStick_46, x_M_setStick_47, x_M_setStick_48, x_M_setStick_49, x_M_setStick_50, x_M_setStick_51, x_M_setStick_54, x_M_setStick_56, x_M_setStick_57, x_M_setStick_58, x_M_setStick_59, x_M_setStick_60, x_M_setStick_61, x_M_setStick_62, k0, c_M_in, inL_let, inL_stk, q1, q2, c_M_fails k0, e10, Bool.true_eq_false, bI_0, bI_t, bI_f, e10, isA30, isA31, isA33, isA40, isA42, isA43, rOkB0, rOkB1, rOkB, Ret_v, Ret_n, cmp_eq, cmp_lt, cmp_gt, nI_1, eq_self, if_true, if_false, reduceIte]
      exact hQ1 (by rw [q1, q2]; rfl) _ (kM_Z (s1 1)) (MOk_Z hM (s1 1)) u2_eq
    · have s2 : mZ I J (u2 I 187 4 0) J := mZ_f (by omega)
      have M1 := MOk_Z hM s2
      simp only [x_M_setStick_0, x_M_setStick_1, x_M_setStick_2, x_M_setStick_5, x_M_setStick_6, x_M_setStick_7, x_M_setStick_8, x_M_setStick_11, x_M_setStick_14, x_M_setStick_17, x_M_setStick_18, x_M_setStick_19, x_M_setStick_20, x_M_setStick_23, x_M_setStick_26, x_M_setStick_29, x_M_setStick_30, x_M_setStick_31, x_M_setStick_34, x_M_setStick_35, x_M_setStick_36, x_M_setStick_39, x_M_setStick_40, x_M_setStick_43, x_M_setStick_45, x_M_setStick_46, x_M_setStick_47, x_M_setStick_48, x_M_setStick_49, x_M_setStick_50, x_M_setStick_51, x_M_setStick_54, x_M_setStick_56, x_M_setStick_57, x_M_setStick_58, x_M_setStick_59, x_M_setStick_60, x_M_setStick_61, x_M_setStick_62, k0, c_M_in, inL_let, inL_stk, q1, q2, e10, Bool.true_eq_false, bI_0, bI_t, bI_f, e10, isA30, isA31, isA33, isA40, isA42, isA43, rOkB0, rOkB1, rOkB, Ret_v, Ret_n, cmp_eq, cmp_lt, cmp_gt, nI_1, eq_self, if_true, if_false, reduceIte]
      refine c_M_save M1 hF (fun I2 J2 f2 j2 t2 M2 => ?_)
      obtain ⟨i, hi, e⟩ := okLet_n q1
      have ei : ix k = i := by rw [e, ix_nI (by omega)]
      rw [ei] at hQ
      have e1 := inb_nI (i := 9 + i) (n := 305) (by omega) (by omega)
      have e2 : ix (nI (9 + i)) = 9 + i := ix_nI (by omega)
      have v1 : J2 188 (9 + i) = (bK a i).toInt64 := M2.2.1.2.2.2.2.2.2.2 i hi
      obtain ⟨-, k1, n1, r0⟩ := hM.1.1
      simp only [x_M_setStick_0, x_M_setStick_1, x_M_setStick_2, x_M_setStick_5, x_M_setStick_6, x_M_setStick_7, x_M_setStick_8, x_M_setStick_11, x_M_setStick_14, x_M_setStick_17, x_M_setStick_18, x_M_setStick_19, x_M_setStick_20, x_M_setStick_23, x_M_setStick_26, x_M_setStick_29, x_M_setStick_30, x_M_setStick_31, x_M_setStick_34, x_M_setStick_35, x_M_setStick_36, x_M_setStick_39, x_M_setStick_40, x_M_setStick_43, x_M_setStick_45, x_M_setStick_46, x_M_setStick_47, x_M_setStick_48, x_M_setStick_49, x_M_setStick_50, x_M_setStick_51, x_M_setStick_54, x_M_setStick_56, x_M_setStick_57, x_M_setStick_58, x_M_setStick_59, x_M_setStick_60, x_M_setStick_61, x_M_setStick_62, k0, k1, n1, r0, e, e1, e2, v1, i64_32, u2_jn', pK_6, pK_9, pK_35, pK_55, pK_75, pK_85, pK_109, pK_133, pK_157, pK_181, pK_205, pK_225, pK_245, pK_265, pK_285, inK_0, inK_1, inK_2, inK_3, inK_4, inK_5, inK_6, inK_7, inK_8, ixK_0, ixK_1, ixK_2, ixK_3, ixK_4, ixK_5, ixK_6, ixK_7, ixK_8, bI_0, bI_t, bI_f, e10, isA30, isA31, isA33, isA40, isA42, isA43, rOkB0, rOkB1, rOkB, Ret_v, Ret_n, cmp_eq, cmp_lt, cmp_gt, nI_1, eq_self, if_true, if_false, reduceIte]
      exact hQ (by rw [q1, q2]; rfl) _ _ (kM_trans (kM_Z s2) (kM_trans f2 kM_jn)) (MOk_now M2 (NoD_K M2.2.1 hF hi)) (t2.trans u2_eq)
theorem c_M_set (hM : MOk I J R S a n s x l qt) (hI : BkI T a) (hQ1 : okSet k c = false → ∀ I', kM I J R I' J R → MOk I' J R S a n s x l qt → I' 187 4 = 1 → Q 0 (some (.int 0)) I' J R S) (hQ : okSet k c = true → ∀ I' J', kM I J R I' J' R → MOk I' J' R S (aSet a (ix k) c) (qtN qt n) (qtS qt s n a) x l qt → I' 187 4 = 0 → Q 0 (some (.int (bT a (ix k)))) I' J' R S) : Wp 197 0 [.ref 187, .int k, .int c, nov, nov] [] I J R S Q := by
  have k0 := hM.1.1.1
  have hF := BkF_of hI
  have s1 : ∀ c, mZ I J (u2 (u2 I 187 4 0) 187 4 c) J := fun c => mZ_trans (mZ_f (by omega)) (mZ_f (by omega))
  have s2 : mZ I J (u2 I 187 4 0) J := mZ_f (by omega)
  have M1 := MOk_Z hM s2
  have i0 : inL c.toInt64 0 12 = (!decide (c < 0) && !decide (12 < c)) := by
    rw [show (0 : Int64) = (0 : Int32).toInt64 by decide, show (12 : Int64) = (12 : Int32).toInt64 by decide, inL_i]
  have i1 : inL c.toInt64 1 9 = (!decide (c < 1) && !decide (9 < c)) := by
    rw [show (1 : Int64) = (1 : Int32).toInt64 by decide, show (9 : Int64) = (9 : Int32).toInt64 by decide, inL_i]
  have i2 : inL c.toInt64 1 5 = (!decide (c < 1) && !decide (5 < c)) := by
    rw [show (1 : Int64) = (1 : Int32).toInt64 by decide, show (5 : Int64) = (5 : Int32).toInt64 by decide, inL_i]
  have bad : okSet k c = false → Wp 197 61 [.ref 187, .int k, .int c, .int 0, nov] [] (u2 I 187 4 0) J R S Q := fun o => by
    simp only [x_M_set_0, x_M_set_1, x_M_set_2, x_M_set_5, x_M_set_6, x_M_set_9, x_M_set_10, x_M_set_11, x_M_set_12, x_M_set_15, x_M_set_18, x_M_set_21, x_M_set_22, x_M_set_23, x_M_set_26, x_M_set_27, x_M_set_28, x_M_set_29, x_M_set_32, x_M_set_35, x_M_set_38, x_M_set_39, x_M_set_40, x_M_set_43, x_M_set_44, x_M_set_45, x_M_set_46, x_M_set_49, x_M_set_52, x_M_set_55, x_M_set_56, x_M_set_59, x_M_set_60, x_M_set_61, x_M_set_62, x_M_set_65, x_M_set_66, x_M_set_67, x_M_set_70, x_M_set_71, x_M_set_72, x_M_set_75, x_M_set_76, x_M_set_79, x_M_set_81, x_M_set_82, x_M_set_83, x_M_set_84, x_M_set_85, x_M_set_87, x_M_set_88, x_M_set_91, x_M_set_93, x_M_set_94, x_M_set_95, x_M_set_96, x_M_set_97, x_M_set_98, x_M_set_100, k0, c_M_fails k0, bI_0, bI_t, bI_f, e10, isA30, isA31, isA33, isA40, isA42, isA43, rOkB0, rOkB1, rOkB, Ret_v, Ret_n, cmp_eq, cmp_lt, cmp_gt, nI_1, eq_self, if_true, if_false, reduceIte]
    exact hQ1 o _ (kM_Z (s1 1)) (MOk_Z hM (s1 1)) u2_eq
  have good : okSet k c = true → Wp 197 61 [.ref 187, .int k, .int c, .int 1, nov] [] (u2 I 187 4 0) J R S Q := fun o => by
    simp only [x_M_set_0, x_M_set_1, x_M_set_2, x_M_set_5, x_M_set_6, x_M_set_9, x_M_set_10, x_M_set_11, x_M_set_12, x_M_set_15, x_M_set_18, x_M_set_21, x_M_set_22, x_M_set_23, x_M_set_26, x_M_set_27, x_M_set_28, x_M_set_29, x_M_set_32, x_M_set_35, x_M_set_38, x_M_set_39, x_M_set_40, x_M_set_43, x_M_set_44, x_M_set_45, x_M_set_46, x_M_set_49, x_M_set_52, x_M_set_55, x_M_set_56, x_M_set_59, x_M_set_60, x_M_set_61, x_M_set_62, x_M_set_65, x_M_set_66, x_M_set_67, x_M_set_70, x_M_set_71, x_M_set_72, x_M_set_75, x_M_set_76, x_M_set_79, x_M_set_81, x_M_set_82, x_M_set_83, x_M_set_84, x_M_set_85, x_M_set_87, x_M_set_88, x_M_set_91, x_M_set_93, x_M_set_94, x_M_set_95, x_M_set_96, x_M_set_97, x_M_set_98, x_M_set_100, k0, e10, bI_0, bI_t, bI_f, e10, isA30, isA31, isA33, isA40, isA42, isA43, rOkB0, rOkB1, rOkB, Ret_v, Ret_n, cmp_eq, cmp_lt, cmp_gt, nI_1, eq_self, if_true, if_false, reduceIte]
    refine c_M_save M1 hF (fun I2 J2 f2 j2 t2 M2 => ?_)
    obtain ⟨i, hi, e, -, -, -⟩ := okSet_n o
    have ei : ix k = i := by rw [e, ix_nI (by omega)]
    rw [ei] at hQ
    have e1 := inb_nI (i := 6 + i) (n := 305) (by omega) (by omega)
    have e2 : ix (nI (6 + i)) = 6 + i := ix_nI (by omega)
    have v1 : J2 188 (6 + i) = (bT a i).toInt64 := M2.2.1.2.2.2.2.2.2.1 i hi
    obtain ⟨-, k1, n1, r0⟩ := hM.1.1
    simp only [x_M_set_0, x_M_set_1, x_M_set_2, x_M_set_5, x_M_set_6, x_M_set_9, x_M_set_10, x_M_set_11, x_M_set_12, x_M_set_15, x_M_set_18, x_M_set_21, x_M_set_22, x_M_set_23, x_M_set_26, x_M_set_27, x_M_set_28, x_M_set_29, x_M_set_32, x_M_set_35, x_M_set_38, x_M_set_39, x_M_set_40, x_M_set_43, x_M_set_44, x_M_set_45, x_M_set_46, x_M_set_49, x_M_set_52, x_M_set_55, x_M_set_56, x_M_set_59, x_M_set_60, x_M_set_61, x_M_set_62, x_M_set_65, x_M_set_66, x_M_set_67, x_M_set_70, x_M_set_71, x_M_set_72, x_M_set_75, x_M_set_76, x_M_set_79, x_M_set_81, x_M_set_82, x_M_set_83, x_M_set_84, x_M_set_85, x_M_set_87, x_M_set_88, x_M_set_91, x_M_set_93, x_M_set_94, x_M_set_95, x_M_set_96, x_M_set_97, x_M_set_98, x_M_set_100, k0, k1, n1, r0, e, e1, e2, v1, i64_32, u2_jn', pK_6, pK_9, pK_35, pK_55, pK_75, pK_85, pK_109, pK_133, pK_157, pK_181, pK_205, pK_225, pK_245, pK_265, pK_285, inK_0, inK_1, inK_2, inK_3, inK_4, inK_5, inK_6, inK_7, inK_8, ixK_0, ixK_1, ixK_2, ixK_3, ixK_4, ixK_5, ixK_6, ixK_7, ixK_8, bI_0, bI_t, bI_f, e10, isA30, isA31, isA33, isA40, isA42, isA43, rOkB0, rOkB1, rOkB, Ret_v, Ret_n, cmp_eq, cmp_lt, cmp_gt, nI_1, eq_self, if_true, if_false, reduceIte]
    exact hQ o _ _ (kM_trans (kM_Z s2) (kM_trans f2 kM_jn)) (MOk_now M2 (NoD_T M2.2.1 hF hi)) (t2.trans u2_eq)
  have cs : ∀ o : Bool, okSet k c = o → Wp 197 61 [.ref 187, .int k, .int c, .int (bI o), nov] [] (u2 I 187 4 0) J R S Q := fun o ho => by
    cases o
    · exact bad ho
    · exact good ho
  by_cases h0 : k = 0
  · have o : okSet k c = (!decide (c < 0) && !decide (12 < c)) := by
      subst h0
      unfold okSet
      rw [show decide ((0 : Int32) = 0) = true by decide, show decide ((0 : Int32) = 1) = false by decide, show decide ((0 : Int32) = 2) = false by decide]
      simp
    simp only [x_M_set_0, x_M_set_1, x_M_set_2, x_M_set_5, x_M_set_6, x_M_set_9, x_M_set_10, x_M_set_11, x_M_set_12, x_M_set_15, x_M_set_18, x_M_set_21, x_M_set_22, x_M_set_23, x_M_set_26, x_M_set_27, x_M_set_28, x_M_set_29, x_M_set_32, x_M_set_35, x_M_set_38, x_M_set_39, x_M_set_40, x_M_set_43, x_M_set_44, x_M_set_45, x_M_set_46, x_M_set_49, x_M_set_52, x_M_set_55, x_M_set_56, x_M_set_59, x_M_set_60, x_M_set_62, x_M_set_65, x_M_set_66, x_M_set_67, x_M_set_70, x_M_set_71, x_M_set_72, x_M_set_75, x_M_set_76, x_M_set_79, x_M_set_81, x_M_set_82, x_M_set_83, x_M_set_84, x_M_set_85, x_M_set_87, x_M_set_88, x_M_set_91, x_M_set_93, x_M_set_94, x_M_set_95, x_M_set_96, x_M_set_97, x_M_set_98, x_M_set_100, k0, c_M_in, i0, h0, bI_0, bI_t, bI_f, e10, isA30, isA31, isA33, isA40, isA42, isA43, rOkB0, rOkB1, rOkB, Ret_v, Ret_n, cmp_eq, cmp_lt, cmp_gt, nI_1, eq_self, if_true, if_false, reduceIte]
    have := cs _ o
    rw [h0] at this
    exact this
  · by_cases h1 : k = 1
    · have o : okSet k c = (!decide (c < 1) && !decide (9 < c)) := by
        subst h1
        unfold okSet
        rw [show decide ((1 : Int32) = 0) = false by decide, show decide ((1 : Int32) = 1) = true by decide, show decide ((1 : Int32) = 2) = false by decide]
        simp
      simp only [x_M_set_0, x_M_set_1, x_M_set_2, x_M_set_5, x_M_set_6, x_M_set_9, x_M_set_10, x_M_set_11, x_M_set_12, x_M_set_15, x_M_set_18, x_M_set_21, x_M_set_22, x_M_set_23, x_M_set_26, x_M_set_27, x_M_set_28, x_M_set_29, x_M_set_32, x_M_set_35, x_M_set_38, x_M_set_39, x_M_set_40, x_M_set_43, x_M_set_44, x_M_set_45, x_M_set_46, x_M_set_49, x_M_set_52, x_M_set_55, x_M_set_56, x_M_set_59, x_M_set_60, x_M_set_62, x_M_set_65, x_M_set_66, x_M_set_67, x_M_set_70, x_M_set_71, x_M_set_72, x_M_set_75, x_M_set_76, x_M_set_79, x_M_set_81, x_M_set_82, x_M_set_83, x_M_set_84, x_M_set_85, x_M_set_87, x_M_set_88, x_M_set_91, x_M_set_93, x_M_set_94, x_M_set_95, x_M_set_96, x_M_set_97, x_M_set_98, x_M_set_100, k0, c_M_in, i1, h1, e10, bI_0, bI_t, bI_f, e10, isA30, isA31, isA33, isA40, isA42, isA43, rOkB0, rOkB1, rOkB, Ret_v, Ret_n, cmp_eq, cmp_lt, cmp_gt, nI_1, eq_self, if_true, if_false, reduceIte]
      have := cs _ o
      rw [h1] at this
      exact this
    · by_cases h2 : k = 2
      · have o : okSet k c = (!decide (c < 1) && !decide (5 < c)) := by
          subst h2
          unfold okSet
          rw [show decide ((2 : Int32) = 0) = false by decide, show decide ((2 : Int32) = 1) = false by decide, show decide ((2 : Int32) = 2) = true by decide]
          simp
        have n0 : ¬ (2 : Int32) = 0 := by decide
        have n1 : ¬ (2 : Int32) = 1 := by decide
        cases o2 : (!decide (c < 1) && !decide (5 < c))
        · rw [o2] at o
          simp only [x_M_set_0, x_M_set_1, x_M_set_2, x_M_set_5, x_M_set_6, x_M_set_9, x_M_set_10, x_M_set_11, x_M_set_12, x_M_set_15, x_M_set_18, x_M_set_21, x_M_set_22, x_M_set_23, x_M_set_26, x_M_set_27, x_M_set_28, x_M_set_29, x_M_set_32, x_M_set_35, x_M_set_38, x_M_set_39, x_M_set_40, x_M_set_43, x_M_set_44, x_M_set_45, x_M_set_46, x_M_set_49, x_M_set_52, x_M_set_55, x_M_set_56, x_M_set_59, x_M_set_60, x_M_set_62, x_M_set_65, x_M_set_66, x_M_set_67, x_M_set_70, x_M_set_71, x_M_set_72, x_M_set_75, x_M_set_76, x_M_set_79, x_M_set_81, x_M_set_82, x_M_set_83, x_M_set_84, x_M_set_85, x_M_set_87, x_M_set_88, x_M_set_91, x_M_set_93, x_M_set_94, x_M_set_95, x_M_set_96, x_M_set_97, x_M_set_98, x_M_set_100, k0, c_M_in, i2, o2, h2, n0, n1, bI_0, bI_t, bI_f, e10, isA30, isA31, isA33, isA40, isA42, isA43, rOkB0, rOkB1, rOkB, Ret_v, Ret_n, cmp_eq, cmp_lt, cmp_gt, nI_1, eq_self, if_true, if_false, reduceIte]
          have := cs _ o
          rw [h2, bI_f] at this
          exact this
        · rw [o2] at o
          simp only [x_M_set_0, x_M_set_1, x_M_set_2, x_M_set_5, x_M_set_6, x_M_set_9, x_M_set_10, x_M_set_11, x_M_set_12, x_M_set_15, x_M_set_18, x_M_set_21, x_M_set_22, x_M_set_23, x_M_set_26, x_M_set_27, x_M_set_28, x_M_set_29, x_M_set_32, x_M_set_35, x_M_set_38, x_M_set_39, x_M_set_40, x_M_set_43, x_M_set_44, x_M_set_45, x_M_set_46, x_M_set_49, x_M_set_52, x_M_set_55, x_M_set_56, x_M_set_59, x_M_set_60, x_M_set_62, x_M_set_65, x_M_set_66, x_M_set_67, x_M_set_70, x_M_set_71, x_M_set_72, x_M_set_75, x_M_set_76, x_M_set_79, x_M_set_81, x_M_set_82, x_M_set_83, x_M_set_84, x_M_set_85, x_M_set_87, x_M_set_88, x_M_set_91, x_M_set_93, x_M_set_94, x_M_set_95, x_M_set_96, x_M_set_97, x_M_set_98, x_M_set_100, k0, c_M_in, i2, o2, h2, n0, n1, e10, Bool.true_eq_false, bI_0, bI_t, bI_f, e10, isA30, isA31, isA33, isA40, isA42, isA43, rOkB0, rOkB1, rOkB, Ret_v, Ret_n, cmp_eq, cmp_lt, cmp_gt, nI_1, eq_self, if_true, if_false, reduceIte]
          have := cs _ o
          rw [h2, bI_t] at this
          exact this
      · have o : okSet k c = false := by
          unfold okSet
          rw [decide_eq_false h0, decide_eq_false h1, decide_eq_false h2]
          simp
        simp only [x_M_set_0, x_M_set_1, x_M_set_2, x_M_set_5, x_M_set_6, x_M_set_9, x_M_set_10, x_M_set_11, x_M_set_12, x_M_set_15, x_M_set_18, x_M_set_21, x_M_set_22, x_M_set_23, x_M_set_26, x_M_set_27, x_M_set_28, x_M_set_29, x_M_set_32, x_M_set_35, x_M_set_38, x_M_set_39, x_M_set_40, x_M_set_43, x_M_set_44, x_M_set_45, x_M_set_46, x_M_set_49, x_M_set_52, x_M_set_55, x_M_set_56, x_M_set_59, x_M_set_60, x_M_set_62, x_M_set_65, x_M_set_66, x_M_set_67, x_M_set_70, x_M_set_71, x_M_set_72, x_M_set_75, x_M_set_76, x_M_set_79, x_M_set_81, x_M_set_82, x_M_set_83, x_M_set_84, x_M_set_85, x_M_set_87, x_M_set_88, x_M_set_91, x_M_set_93, x_M_set_94, x_M_set_95, x_M_set_96, x_M_set_97, x_M_set_98, x_M_set_100, k0, h0, h1, h2, bI_0, bI_t, bI_f, e10, isA30, isA31, isA33, isA40, isA42, isA43, rOkB0, rOkB1, rOkB, Ret_v, Ret_n, cmp_eq, cmp_lt, cmp_gt, nI_1, eq_self, if_true, if_false, reduceIte]
        exact bad o
theorem c_M_allow (hM : MOk I J R S a n s x l qt) (hI : BkI T a) (hQ1 : (isW t && isW w) = false → ∀ I', kM I J R I' J R → MOk I' J R S a n s x l qt → I' 187 4 = 1 → Q 0 (some (.int 0)) I' J R S) (hQ : (isW t && isW w) = true → ∀ I' J', kM I J R I' J' R → MOk I' J' R S (aDelB a t w) (qtN qt n) (qtS qt s n a) x l qt → I' 187 4 = 0 → Q 0 (some (.int (bI (isB a t w)))) I' J' R S) : Wp 216 0 [.ref 187, .long t, nov, .long w, nov, nov] [] I J R S Q := by
  have k0 := hM.1.1.1
  have iB := hI.2.2.2.1
  have hF := BkF_of hI
  have s1 : ∀ c, mZ I J (u2 (u2 I 187 4 0) 187 4 c) J := fun c => mZ_trans (mZ_f (by omega)) (mZ_f (by omega))
  cases q1 : isW t
  · simp only [x_M_allow_0, x_M_allow_1, x_M_allow_2, x_M_allow_5, x_M_allow_6, x_M_allow_9, x_M_allow_12, x_M_allow_13, x_M_allow_16, x_M_allow_19, x_M_allow_20, x_M_allow_21, x_M_allow_24, x_M_allow_25, x_M_allow_26, x_M_allow_29, x_M_allow_32, x_M_allow_33, x_M_allow_34, x_M_allow_37, x_M_allow_38, x_M_allow_39, x_M_allow_42, x_M_allow_44, x_M_allow_45, x_M_allow_48, x_M_allow_50, x_M_allow_51, x_M_allow_54, x_M_allow_55, x_M_allow_56, x_M_allow_57, x_M_allow_60, x_M_allow_61, x_M_allow_62, x_M_allow_65, x_M_allow_67, x_M_allow_70, x_M_allow_71, x_M_allow_74, x_M_allow_75, x_M_allow_76, x_M_allow_79, x_M_allow_81, x_M_allow_84, x_M_allow_85, x_M_allow_88, x_M_allow_89, x_M_allow_90, x_M_allow_91, x_M_allow_92, x_M_allow_93, x_M_allow_94, x_M_allow_95, k0, c_M_isWord, q1, c_M_fails k0, bI_0, bI_t, bI_f, e10, isA30, isA31, isA33, isA40, isA42, isA43, rOkB0, rOkB1, rOkB, Ret_v, Ret_n, cmp_eq, cmp_lt, cmp_gt, nI_1, eq_self, if_true, if_false, reduceIte]
    exact hQ1 (by rw [q1]; rfl) _ (kM_Z (s1 1)) (MOk_Z hM (s1 1)) u2_eq
  · cases q2 : isW w
    · simp only [x_M_allow_0, x_M_allow_1, x_M_allow_2, x_M_allow_5, x_M_allow_6, x_M_allow_9, x_M_allow_12, x_M_allow_13, x_M_allow_16, x_M_allow_19, x_M_allow_20, x_M_allow_21, x_M_allow_24, x_M_allow_25, x_M_allow_26, x_M_allow_29, x_M_allow_32, x_M_allow_33, x_M_allow_34, x_M_allow_37, x_M_allow_38, x_M_allow_39, x_M_allow_42, x_M_allow_44, x_M_allow_45, x_M_allow_48, x_M_allow_50, x_M_allow_51, x_M_allow_54, x_M_allow_55, x_M_allow_56, x_M_allow_57, x_M_allow_60, x_M_allow_61, x_M_allow_62, x_M_allow_65, x_M_allow_67, x_M_allow_70, x_M_allow_71, x_M_allow_74, x_M_allow_75, x_M_allow_76, x_M_allow_79, x_M_allow_81, x_M_allow_84, x_M_allow_85, x_M_allow_88, x_M_allow_89, x_M_allow_90, x_M_allow_91, x_M_allow_92, x_M_allow_93, x_M_allow_94, x_M_allow_95, k0, c_M_isWord, q1, q2, c_M_fails k0, e10, Bool.true_eq_false, bI_0, bI_t, bI_f, e10, isA30, isA31, isA33, isA40, isA42, isA43, rOkB0, rOkB1, rOkB, Ret_v, Ret_n, cmp_eq, cmp_lt, cmp_gt, nI_1, eq_self, if_true, if_false, reduceIte]
      exact hQ1 (by rw [q1, q2]; rfl) _ (kM_Z (s1 1)) (MOk_Z hM (s1 1)) u2_eq
    · have ok : (isW t && isW w) = true := by rw [q1, q2]; rfl
      have s2 : mZ I J (u2 I 187 4 0) J := mZ_f (by omega)
      have M1 := MOk_Z hM s2
      have hB := hM.2.1.2.2.2.1
      have m0 := fun Q' => p_many (Q := Q') (k := 3) M1 (by omega) hB.1 (by omega)
      have pl := fun Q' => c_M_findBoth (Q := Q') (I := u2 I 187 4 0) (J := J) (f := J 188) (w := t) (u := w) (b := 157) (b2 := 181) (n := (bB a).1) hM.1.1 (by omega) (by omega)
      rw [fd_congr (q := fun i => decide ((bB a).2.1 i = t) && decide ((bB a).2.2.1 i = w)) _ _ (fun j h1 h2 => by rw [hB.2.1 j (by omega), hB.2.2 j (by omega)]), jn_self] at pl
      rw [show fd (fun i => decide ((bB a).2.1 i = t) && decide ((bB a).2.2.1 i = w)) 0 (bB a).1 = fp (bB a) t w from rfl] at pl
      unfold isB at hQ
      by_cases q3 : fp (bB a) t w < (bB a).1
      · have ne := frI_t q3 (by omega)
        rw [frI_lt q3] at pl ne
        rw [decide_eq_true q3, bI_t] at hQ
        simp only [kI_0, kI_1, kI_2, kI_3, kI_4, kI_5, kI_6, kI_7, kI_8, kI_9, kI_10, kI_11, kI_20, kI_24, kI_26, kI_35, kI_55, kI_75, kI_85, kI_109, kI_133, kI_157, kI_181, kI_205, kI_225, kI_245, kI_265, kI_285, kI_305] at m0 pl
        simp only [x_M_allow_0, x_M_allow_1, x_M_allow_2, x_M_allow_5, x_M_allow_6, x_M_allow_9, x_M_allow_12, x_M_allow_13, x_M_allow_16, x_M_allow_19, x_M_allow_20, x_M_allow_21, x_M_allow_24, x_M_allow_25, x_M_allow_26, x_M_allow_29, x_M_allow_32, x_M_allow_33, x_M_allow_34, x_M_allow_37, x_M_allow_38, x_M_allow_39, x_M_allow_42, x_M_allow_44, x_M_allow_45, x_M_allow_48, x_M_allow_50, x_M_allow_51, x_M_allow_54, x_M_allow_55, x_M_allow_56, x_M_allow_57, x_M_allow_60, x_M_allow_61, x_M_allow_62, x_M_allow_65, x_M_allow_67, x_M_allow_70, x_M_allow_71, x_M_allow_74, x_M_allow_75, x_M_allow_76, x_M_allow_79, x_M_allow_81, x_M_allow_84, x_M_allow_85, x_M_allow_88, x_M_allow_89, x_M_allow_90, x_M_allow_91, x_M_allow_92, x_M_allow_93, x_M_allow_94, x_M_allow_95, k0, c_M_isWord, q1, q2, pl, m0, e10, Bool.true_eq_false, bI_0, bI_t, bI_f, e10, isA30, isA31, isA33, isA40, isA42, isA43, rOkB0, rOkB1, rOkB, Ret_v, Ret_n, cmp_eq, cmp_lt, cmp_gt, nI_1, eq_self, if_true, if_false, reduceIte]
        refine c_M_save M1 hF (fun I2 J2 f2 j2 t2 M2 => ?_)
        have hB := M2.2.1.2.2.2.1
        generalize hk : fp (bB a) t w = k at *
        have c1 := fun Q' => c_M_closes (Q := Q') (I := I2) (J := J2) (f := J2 188) (b := 157) hM.1.1 (show 157 + (bB a).1 ≤ 305 by omega) q3
        rw [jn_self] at c1
        have z1 : clsF (J2 188) 157 (bB a).1 k 3 = lW (bB a).1 := by rw [cls_out (by omega) q3]; exact hB.1
        have c2 := fun Q' => c_M_closes (Q := Q') (I := I2) (J := J2) (f := clsF (J2 188) 157 (bB a).1 k) (b := 181) hM.1.1 (show 181 + (bB a).1 ≤ 305 by omega) q3
        have z2 : clsF (clsF (J2 188) 157 (bB a).1 k) 181 (bB a).1 k 3 = lW (bB a).1 := by rw [cls_out (by omega) q3]; exact z1
        have m2 := fun Q' => p_many (Q := Q') (k := 3) M2 (by omega) hB.1 (by omega)
        have m3 := fun Q' => mmany (Q := Q') (I := I2) (J := J2) (k := 3) hM.1.1 (by omega) z1 (by omega)
        simp only [kI_0, kI_1, kI_2, kI_3, kI_4, kI_5, kI_6, kI_7, kI_8, kI_9, kI_10, kI_11, kI_20, kI_24, kI_26, kI_35, kI_55, kI_75, kI_85, kI_109, kI_133, kI_157, kI_181, kI_205, kI_225, kI_245, kI_265, kI_285, kI_305] at c1 c2 m2 m3
        obtain ⟨-, k1, n1, r0⟩ := hM.1.1
        simp only [x_M_allow_0, x_M_allow_1, x_M_allow_2, x_M_allow_5, x_M_allow_6, x_M_allow_9, x_M_allow_12, x_M_allow_13, x_M_allow_16, x_M_allow_19, x_M_allow_20, x_M_allow_21, x_M_allow_24, x_M_allow_25, x_M_allow_26, x_M_allow_29, x_M_allow_32, x_M_allow_33, x_M_allow_34, x_M_allow_37, x_M_allow_38, x_M_allow_39, x_M_allow_42, x_M_allow_44, x_M_allow_45, x_M_allow_48, x_M_allow_50, x_M_allow_51, x_M_allow_54, x_M_allow_55, x_M_allow_56, x_M_allow_57, x_M_allow_60, x_M_allow_61, x_M_allow_62, x_M_allow_65, x_M_allow_67, x_M_allow_70, x_M_allow_71, x_M_allow_74, x_M_allow_75, x_M_allow_76, x_M_allow_79, x_M_allow_81, x_M_allow_84, x_M_allow_85, x_M_allow_88, x_M_allow_89, x_M_allow_90, x_M_allow_91, x_M_allow_92, x_M_allow_93, x_M_allow_94, x_M_allow_95, k0, k1, n1, r0, ne, c1, c2, m2, m3, z2, jn_a, u2_jn, lW_pred (show 0 < (bB a).1 by omega), pK_6, pK_9, pK_35, pK_55, pK_75, pK_85, pK_109, pK_133, pK_157, pK_181, pK_205, pK_225, pK_245, pK_265, pK_285, inK_0, inK_1, inK_2, inK_3, inK_4, inK_5, inK_6, inK_7, inK_8, ixK_0, ixK_1, ixK_2, ixK_3, ixK_4, ixK_5, ixK_6, ixK_7, ixK_8, bI_0, bI_t, bI_f, e10, isA30, isA31, isA33, isA40, isA42, isA43, rOkB0, rOkB1, rOkB, Ret_v, Ret_n, cmp_eq, cmp_lt, cmp_gt, nI_1, eq_self, if_true, if_false, reduceIte]
        refine hQ ok _ _ (kM_trans (kM_Z s2) (kM_trans f2 kM_jn)) (MOk_now M2 ?_) (t2.trans u2_eq)
        unfold aDelB
        rw [hk, if_pos q3]
        exact NoD_B M2.2.1 hF (fun i _ h => mBdel_o q3 iB h) (NoB_del hB q3 iB)
      · rw [frI_ge q3] at pl
        rw [decide_eq_false q3, bI_f] at hQ
        simp only [kI_0, kI_1, kI_2, kI_3, kI_4, kI_5, kI_6, kI_7, kI_8, kI_9, kI_10, kI_11, kI_20, kI_24, kI_26, kI_35, kI_55, kI_75, kI_85, kI_109, kI_133, kI_157, kI_181, kI_205, kI_225, kI_245, kI_265, kI_285, kI_305] at m0 pl
        simp only [x_M_allow_0, x_M_allow_1, x_M_allow_2, x_M_allow_5, x_M_allow_6, x_M_allow_9, x_M_allow_12, x_M_allow_13, x_M_allow_16, x_M_allow_19, x_M_allow_20, x_M_allow_21, x_M_allow_24, x_M_allow_25, x_M_allow_26, x_M_allow_29, x_M_allow_32, x_M_allow_33, x_M_allow_34, x_M_allow_37, x_M_allow_38, x_M_allow_39, x_M_allow_42, x_M_allow_44, x_M_allow_45, x_M_allow_48, x_M_allow_50, x_M_allow_51, x_M_allow_54, x_M_allow_55, x_M_allow_56, x_M_allow_57, x_M_allow_60, x_M_allow_61, x_M_allow_62, x_M_allow_65, x_M_allow_67, x_M_allow_70, x_M_allow_71, x_M_allow_74, x_M_allow_75, x_M_allow_76, x_M_allow_79, x_M_allow_81, x_M_allow_84, x_M_allow_85, x_M_allow_88, x_M_allow_89, x_M_allow_90, x_M_allow_91, x_M_allow_92, x_M_allow_93, x_M_allow_94, x_M_allow_95, k0, c_M_isWord, q1, q2, pl, m0, e10, Bool.true_eq_false, bI_0, bI_t, bI_f, e10, isA30, isA31, isA33, isA40, isA42, isA43, rOkB0, rOkB1, rOkB, Ret_v, Ret_n, cmp_eq, cmp_lt, cmp_gt, nI_1, eq_self, if_true, if_false, reduceIte]
        refine c_M_save M1 hF (fun I2 J2 f2 j2 t2 M2 => ?_)
        simp only [x_M_allow_0, x_M_allow_1, x_M_allow_2, x_M_allow_5, x_M_allow_6, x_M_allow_9, x_M_allow_12, x_M_allow_13, x_M_allow_16, x_M_allow_19, x_M_allow_20, x_M_allow_21, x_M_allow_24, x_M_allow_25, x_M_allow_26, x_M_allow_29, x_M_allow_32, x_M_allow_33, x_M_allow_34, x_M_allow_37, x_M_allow_38, x_M_allow_39, x_M_allow_42, x_M_allow_44, x_M_allow_45, x_M_allow_48, x_M_allow_50, x_M_allow_51, x_M_allow_54, x_M_allow_55, x_M_allow_56, x_M_allow_57, x_M_allow_60, x_M_allow_61, x_M_allow_62, x_M_allow_65, x_M_allow_67, x_M_allow_70, x_M_allow_71, x_M_allow_74, x_M_allow_75, x_M_allow_76, x_M_allow_79, x_M_allow_81, x_M_allow_84, x_M_allow_85, x_M_allow_88, x_M_allow_89, x_M_allow_90, x_M_allow_91, x_M_allow_92, x_M_allow_93, x_M_allow_94, x_M_allow_95, bI_0, bI_t, bI_f, e10, isA30, isA31, isA33, isA40, isA42, isA43, rOkB0, rOkB1, rOkB, Ret_v, Ret_n, cmp_eq, cmp_lt, cmp_gt, nI_1, eq_self, if_true, if_false, reduceIte]
        refine hQ ok _ _ (kM_trans (kM_Z s2) f2) ?_ (t2.trans u2_eq)
        unfold aDelB
        rw [if_neg q3]
        exact M2
theorem l_M_undo (hS : MyS R S) (hn : n < 4) (h2 : I 187 2 = nI n) : ∀ (d i : Nat) (f : Nat → Int64), i + d = 305 → (∀ g, (∀ k, g k = if i ≤ k ∧ k < 305 then J 189 (305 * n + k) else f k) → Q 0 (some (.int (nI n))) I (jn J g) R S) → Wp 248 30 [.ref 187, .int (nI i)] [] I (jn J f) R S Q := by
  obtain ⟨⟨k0, k1, n1, r0⟩, s9, l9, -, -, -, -, -, -, -, -, -, -, -, -, -, -, -, -, r1, -⟩ := hS
  intro d
  induction d with
  | zero =>
    intro i f hi hQ
    have e : ¬ nI i < 305 := by rw [show (305 : Int32) = nI 305 by decide]; exact nI_nlt (by omega) (by omega)
    rw [x_M_undo_30]
    simp only [x_M_undo_0, x_M_undo_1, x_M_undo_2, x_M_undo_5, x_M_undo_6, x_M_undo_9, x_M_undo_12, x_M_undo_13, x_M_undo_14, x_M_undo_17, x_M_undo_18, x_M_undo_19, x_M_undo_20, x_M_undo_23, x_M_undo_24, x_M_undo_25, x_M_undo_28, x_M_undo_29, x_M_undo_31, x_M_undo_34, x_M_undo_37, x_M_undo_38, x_M_undo_41, x_M_undo_42, x_M_undo_43, x_M_undo_46, x_M_undo_49, x_M_undo_50, x_M_undo_53, x_M_undo_54, x_M_undo_55, x_M_undo_56, x_M_undo_57, x_M_undo_58, x_M_undo_61, x_M_undo_64, x_M_undo_65, x_M_undo_68, e, k0, h2, bI_0, bI_t, bI_f, e10, isA30, isA31, isA33, isA40, isA42, isA43, rOkB0, rOkB1, rOkB, Ret_v, Ret_n, cmp_eq, cmp_lt, cmp_gt, nI_1, eq_self, if_true, if_false, reduceIte]
    exact hQ f (fun k => by rw [if_neg (by omega)])
  | succ d ih =>
    intro i f hi hQ
    have e : nI i < 305 := by rw [show (305 : Int32) = nI 305 by decide]; exact nI_lt (by omega) (by omega)
    have e0 : (305 : Int32) * nI n = nI (305 * n) := by rw [show (305 : Int32) = nI 305 by decide, nI_mul]
    have e1 := inb_nI (i := 305 * n + i) (n := 1220) (by omega) (by omega)
    have e2 : ix (nI (305 * n + i)) = 305 * n + i := ix_nI (by omega)
    have e3 := inb_nI (i := i) (n := 305) (by omega) (by omega)
    have e4 : ix (nI i) = i := ix_nI (by omega)
    have jo : jn J f 189 = J 189 := jn_o (by omega)
    rw [x_M_undo_30]
    simp only [x_M_undo_0, x_M_undo_1, x_M_undo_2, x_M_undo_5, x_M_undo_6, x_M_undo_9, x_M_undo_12, x_M_undo_13, x_M_undo_14, x_M_undo_17, x_M_undo_18, x_M_undo_19, x_M_undo_20, x_M_undo_23, x_M_undo_24, x_M_undo_25, x_M_undo_28, x_M_undo_29, x_M_undo_31, x_M_undo_34, x_M_undo_37, x_M_undo_38, x_M_undo_41, x_M_undo_42, x_M_undo_43, x_M_undo_46, x_M_undo_49, x_M_undo_50, x_M_undo_53, x_M_undo_54, x_M_undo_55, x_M_undo_56, x_M_undo_57, x_M_undo_58, x_M_undo_61, x_M_undo_64, x_M_undo_65, x_M_undo_68, e, k0, k1, n1, r0, s9, l9, r1, h2, e0, nI_plus, e1, e2, e3, e4, nI_1', jo, u2_jn, bI_0, bI_t, bI_f, e10, isA30, isA31, isA33, isA40, isA42, isA43, rOkB0, rOkB1, rOkB, Ret_v, Ret_n, cmp_eq, cmp_lt, cmp_gt, nI_1, eq_self, if_true, if_false, reduceIte]
    refine ih (i + 1) _ (by omega) (fun g hg => hQ g (fun k => ?_))
    rw [hg]
    by_cases q : k = i
    · rw [q, if_neg (by omega), if_pos (by omega), ju_eq]
    · by_cases q2 : i ≤ k ∧ k < 305
      · rw [if_pos q2, if_pos (by omega)]
      · rw [if_neg q2, if_neg (by omega), ju_of q]
theorem c_M_undo (hM : MOk I J R S a n s x l qt) (hQ1 : n = 0 → ∀ I', kM I J R I' J R → MOk I' J R S a n s x l qt → I' 187 4 = 1 → Q 0 (some (.int 0)) I' J R S) (hQ : 0 < n → ∀ I' J', kM I J R I' J' R → MOk I' J' R S (s (n - 1)) (n - 1) s x l qt → I' 187 4 = 0 → Q 0 (some (.int (nI (n - 1)))) I' J' R S) : Wp 248 0 [.ref 187, nov] [] I J R S Q := by
  have k0 := hM.1.1.1
  have n4 := hM.2.2.2.1
  have s1 : ∀ c, mZ I J (u2 (u2 I 187 4 0) 187 4 c) J := fun c => mZ_trans (mZ_f (by omega)) (mZ_f (by omega))
  have h2 : u2 I 187 4 0 187 2 = nI n := by rw [u2_k (by omega)]; exact hM.2.2.2.2.1
  by_cases q : n = 0
  · have e : nI n = 0 := by rw [q]; decide
    simp only [x_M_undo_0, x_M_undo_1, x_M_undo_2, x_M_undo_5, x_M_undo_6, x_M_undo_9, x_M_undo_12, x_M_undo_13, x_M_undo_14, x_M_undo_17, x_M_undo_18, x_M_undo_19, x_M_undo_20, x_M_undo_23, x_M_undo_24, x_M_undo_25, x_M_undo_28, x_M_undo_29, x_M_undo_31, x_M_undo_34, x_M_undo_37, x_M_undo_38, x_M_undo_41, x_M_undo_42, x_M_undo_43, x_M_undo_46, x_M_undo_49, x_M_undo_50, x_M_undo_53, x_M_undo_54, x_M_undo_55, x_M_undo_56, x_M_undo_57, x_M_undo_58, x_M_undo_61, x_M_undo_64, x_M_undo_65, x_M_undo_68, k0, h2, e, c_M_fails k0, bI_0, bI_t, bI_f, e10, isA30, isA31, isA33, isA40, isA42, isA43, rOkB0, rOkB1, rOkB, Ret_v, Ret_n, cmp_eq, cmp_lt, cmp_gt, nI_1, eq_self, if_true, if_false, reduceIte]
    exact hQ1 q _ (kM_Z (s1 1)) (MOk_Z hM (s1 1)) u2_eq
  · have e : ¬ nI n = 0 := by rw [show (0 : Int32) = nI 0 by decide, nI_inj (by omega) (by omega)]; exact q
    have e1 : nI n - 1 = nI (n - 1) := nI_sub (b := 1) (by omega)
    have lp := l_M_undo (Q := Q) (I := u2 (u2 I 187 4 0) 187 2 (nI (n - 1))) (J := J) (n := n - 1) hM.1 (by omega) u2_eq 305 0 (J 188) (by omega) (fun g hg => by
      have z := hM.2.2.1 (n - 1) (by omega)
      have fr' : kM I J R (u2 (u2 I 187 4 0) 187 2 (nI (n - 1))) (jn J g) R := ⟨⟨fun p hp => ⟨by rw [u2_p (by omega), u2_p (by omega)], jn_o (by omega)⟩, fun _ _ => by simp⟩, by rw [u2_p (by omega), u2_p (by omega)], jn_o (by omega), jn_o (by omega), by rw [u2_k (by omega), u2_k (by omega)]⟩
      refine hQ (by omega) _ _ fr' ?_ (by rw [u2_k (by omega), u2_eq])
      obtain ⟨m1, m2, m3, m4, m5, m6, m7, m8, m9, m10⟩ := hM
      refine ⟨m1, ?_, ?_, by omega, u2_eq, by rw [u2_k (by omega), u2_k (by omega)]; exact m6, by rw [u2_k (by omega), u2_k (by omega)]; exact m7, m8, by rw [u2_p (by omega), u2_p (by omega)]; exact m9, by rw [u2_p (by omega), u2_p (by omega)]; exact m10⟩
      · rw [jn_a]
        exact NoD_c z.1 z.2 (fun k hk => by rw [hg, if_pos (by omega)])
      · rw [jn_o (by omega)]
        exact fun i hi => m3 i (by omega))
    rw [nI_0, jn_self] at lp
    simp only [x_M_undo_0, x_M_undo_1, x_M_undo_2, x_M_undo_5, x_M_undo_6, x_M_undo_9, x_M_undo_12, x_M_undo_13, x_M_undo_14, x_M_undo_17, x_M_undo_18, x_M_undo_19, x_M_undo_20, x_M_undo_23, x_M_undo_24, x_M_undo_25, x_M_undo_28, x_M_undo_29, x_M_undo_31, x_M_undo_34, x_M_undo_37, x_M_undo_38, x_M_undo_41, x_M_undo_42, x_M_undo_43, x_M_undo_46, x_M_undo_49, x_M_undo_50, x_M_undo_53, x_M_undo_54, x_M_undo_55, x_M_undo_56, x_M_undo_57, x_M_undo_58, x_M_undo_61, x_M_undo_64, x_M_undo_65, x_M_undo_68, k0, h2, e, e1, bI_0, bI_t, bI_f, e10, isA30, isA31, isA33, isA40, isA42, isA43, rOkB0, rOkB1, rOkB, Ret_v, Ret_n, cmp_eq, cmp_lt, cmp_gt, nI_1, eq_self, if_true, if_false, reduceIte]
    exact lp
theorem inL_byt : inL c.toInt64 0 127 = (!decide (c < 0) && !decide (127 < c)) := by
  rw [show (0 : Int64) = (0 : Int32).toInt64 by decide, show (127 : Int64) = (127 : Int32).toInt64 by decide, inL_i]
theorem c_M_type (hM : MOk I J R S a n s x l qt) (hQ1 : (!decide (c < 0) && !decide (127 < c)) = false → ∀ I', kM I J R I' J R → MOk I' J R S a n s x l qt → I' 187 4 = 1 → Q 0 (some (.int 0)) I' J R S) (hQ2 : (!decide (c < 0) && !decide (127 < c)) = true → ¬ l < 150 → ∀ I', kM I J R I' J R → MOk I' J R S a n s x l qt → I' 187 4 = 2 → Q 0 (some (.int 0)) I' J R S) (hQ : (!decide (c < 0) && !decide (127 < c)) = true → l < 150 → ∀ I', kM I J R I' J R → MOk I' J R S a n s (fun i => if i = l then c else x i) (l + 1) qt → I' 187 4 = 0 → Q 0 (some (.int (nI (l + 1)))) I' J R S) : Wp 237 0 [.ref 187, .int c] [] I J R S Q := by
  have k0 := hM.1.1.1
  have l150 := hM.2.2.2.2.2.2.2.1
  have s1 : ∀ c, mZ I J (u2 (u2 I 187 4 0) 187 4 c) J := fun c => mZ_trans (mZ_f (by omega)) (mZ_f (by omega))
  have h2 : u2 I 187 4 0 187 11 = nI l := by rw [u2_k (by omega)]; exact hM.2.2.2.2.2.2.1
  cases q : (!decide (c < 0) && !decide (127 < c))
  · simp only [x_M_type_0, x_M_type_1, x_M_type_2, x_M_type_5, x_M_type_6, x_M_type_7, x_M_type_8, x_M_type_11, x_M_type_14, x_M_type_17, x_M_type_18, x_M_type_19, x_M_type_22, x_M_type_23, x_M_type_24, x_M_type_27, x_M_type_30, x_M_type_33, x_M_type_34, x_M_type_35, x_M_type_38, x_M_type_39, x_M_type_40, x_M_type_43, x_M_type_44, x_M_type_47, x_M_type_48, x_M_type_49, x_M_type_50, x_M_type_51, x_M_type_54, x_M_type_55, x_M_type_56, x_M_type_59, x_M_type_60, x_M_type_63, k0, c_M_in, inL_byt, q, c_M_fails k0, bI_0, bI_t, bI_f, e10, isA30, isA31, isA33, isA40, isA42, isA43, rOkB0, rOkB1, rOkB, Ret_v, Ret_n, cmp_eq, cmp_lt, cmp_gt, nI_1, eq_self, if_true, if_false, reduceIte]
    exact hQ1 q _ (kM_Z (s1 1)) (MOk_Z hM (s1 1)) u2_eq
  · by_cases q2 : l < 150
    · have e : ¬ nI l = 150 := by rw [show (150 : Int32) = nI 150 by decide, nI_inj (by omega) (by omega)]; omega
      have e1 := inb_nI (i := l) (n := 150) (by omega) (by omega)
      have e2 : ix (nI l) = l := ix_nI (by omega)
      have h4 : u2 (u2 I 187 4 0) 194 l c 187 11 = nI l := by rw [u2_p (by omega)]; exact h2
      have h5 : u2 (u2 (u2 I 187 4 0) 194 l c) 187 11 (nI (l + 1)) 187 11 = nI (l + 1) := u2_eq
      obtain ⟨m1, m2, m3, m4, m5, m6, m7, m8, m9, m10⟩ := hM
      have hS := m1
      obtain ⟨-, -, -, -, -, -, -, -, -, -, -, a4, b4, -, -, -, -, -, -, -, -, -, -, -, r10, -⟩ := m1
      simp only [x_M_type_0, x_M_type_1, x_M_type_2, x_M_type_5, x_M_type_6, x_M_type_7, x_M_type_8, x_M_type_11, x_M_type_14, x_M_type_17, x_M_type_18, x_M_type_19, x_M_type_22, x_M_type_23, x_M_type_24, x_M_type_27, x_M_type_30, x_M_type_33, x_M_type_34, x_M_type_35, x_M_type_38, x_M_type_39, x_M_type_40, x_M_type_43, x_M_type_44, x_M_type_47, x_M_type_48, x_M_type_49, x_M_type_50, x_M_type_51, x_M_type_54, x_M_type_55, x_M_type_56, x_M_type_59, x_M_type_60, x_M_type_63, k0, c_M_in, inL_byt, q, h2, e, a4, b4, r10, e1, e2, h4, h5, nI_1', e10, Bool.true_eq_false, bI_0, bI_t, bI_f, e10, isA30, isA31, isA33, isA40, isA42, isA43, rOkB0, rOkB1, rOkB, Ret_v, Ret_n, cmp_eq, cmp_lt, cmp_gt, nI_1, eq_self, if_true, if_false, reduceIte]
      refine hQ q q2 _ ⟨⟨fun p hp => ⟨by rw [u2_p (by omega), u2_p (by omega), u2_p (by omega)], by simp⟩, fun _ _ => by simp⟩, by rw [u2_p (by omega), u2_p (by omega), u2_p (by omega)], by simp, by simp, by rw [u2_k (by omega), u2_p (by omega), u2_k (by omega)]⟩ ⟨hS, m2, m3, m4, ?_, ?_, u2_eq, by omega, ?_, fun i hi => ?_⟩ ?_
      · rw [u2_k (by omega), u2_p (by omega), u2_k (by omega)]; exact m5
      · rw [u2_k (by omega), u2_p (by omega), u2_k (by omega)]; exact m6
      · rw [u2_p (by omega), u2_p (by omega), u2_p (by omega)]; exact m9
      · rw [u2_p (by omega)]
        dsimp only
        by_cases q3 : i = l
        · rw [if_pos q3, q3, u2_eq]
        · rw [if_neg q3, u2_k q3, u2_p (by omega)]; exact m10 i (by omega)
      · rw [u2_k (by omega), u2_p (by omega), u2_eq]
    · have e : nI l = 150 := by rw [show l = 150 by omega]; decide
      simp only [x_M_type_0, x_M_type_1, x_M_type_2, x_M_type_5, x_M_type_6, x_M_type_7, x_M_type_8, x_M_type_11, x_M_type_14, x_M_type_17, x_M_type_18, x_M_type_19, x_M_type_22, x_M_type_23, x_M_type_24, x_M_type_27, x_M_type_30, x_M_type_33, x_M_type_34, x_M_type_35, x_M_type_38, x_M_type_39, x_M_type_40, x_M_type_43, x_M_type_44, x_M_type_47, x_M_type_48, x_M_type_49, x_M_type_50, x_M_type_51, x_M_type_54, x_M_type_55, x_M_type_56, x_M_type_59, x_M_type_60, x_M_type_63, k0, c_M_in, inL_byt, q, h2, e, c_M_fails k0, e10, Bool.true_eq_false, bI_0, bI_t, bI_f, e10, isA30, isA31, isA33, isA40, isA42, isA43, rOkB0, rOkB1, rOkB, Ret_v, Ret_n, cmp_eq, cmp_lt, cmp_gt, nI_1, eq_self, if_true, if_false, reduceIte]
      exact hQ2 q q2 _ (kM_Z (s1 2)) (MOk_Z hM (s1 2)) u2_eq
theorem c_M_clear (hM : MOk I J R S a n s x l qt) (hQ : ∀ I', kM I J R I' J R → MOk I' J R S a n s x 0 qt → I' 187 4 = 0 → Q 0 (some (.int (nI l))) I' J R S) : Wp 238 0 [.ref 187, nov] [] I J R S Q := by
  have k0 := hM.1.1.1
  have h2 : u2 I 187 4 0 187 11 = nI l := by rw [u2_k (by omega)]; exact hM.2.2.2.2.2.2.1
  obtain ⟨m1, m2, m3, m4, m5, m6, m7, m8, m9, m10⟩ := hM
  simp only [x_M_clearCommands_0, x_M_clearCommands_1, x_M_clearCommands_2, x_M_clearCommands_5, x_M_clearCommands_6, x_M_clearCommands_9, x_M_clearCommands_10, x_M_clearCommands_11, x_M_clearCommands_12, x_M_clearCommands_15, x_M_clearCommands_16, k0, h2, bI_0, bI_t, bI_f, e10, isA30, isA31, isA33, isA40, isA42, isA43, rOkB0, rOkB1, rOkB, Ret_v, Ret_n, cmp_eq, cmp_lt, cmp_gt, nI_1, eq_self, if_true, if_false, reduceIte]
  refine hQ _ ⟨⟨fun p hp => ⟨by rw [u2_p (by omega), u2_p (by omega)], by simp⟩, fun _ _ => by simp⟩, by rw [u2_p (by omega), u2_p (by omega)], by simp, by simp, by rw [u2_k (by omega), u2_k (by omega)]⟩ ⟨m1, m2, m3, m4, ?_, ?_, u2_eq, by omega, ?_, fun i hi => absurd hi (by omega)⟩ ?_
  · rw [u2_k (by omega), u2_k (by omega)]; exact m5
  · rw [u2_k (by omega), u2_k (by omega)]; exact m6
  · rw [u2_p (by omega), u2_p (by omega)]; exact m9
  · rw [u2_k (by omega), u2_eq]
end MJ0
