/-! the model: the calls that read values -/
section MT1
variable {I I' : MI} {J J' : MJ} {R : MR} {S : Sh} {Q : SkQ} {n l T : Nat} {w u v t : Int64} {a a' : Bk} {c k y qt rk : Int32} {s : Nat → Bk} {x : Nat → Int32} {p : Rw} {b : Nat}
theorem inL_ok6 {m : Nat} (hm : (nI m).toInt64 = v) : inL k.toInt64 0 v = ok6 k m := by
  rw [← hm, show (0 : Int64) = (0 : Int32).toInt64 by decide, inL_i]
  rfl
theorem c_M_word (hM : MOk I J R S a n s x l qt) (hI : BkI T a) (hQ1 : (isW w && ok6 k 6) = false → ∀ I', kM I J R I' J R → MOk I' J R S a n s x l qt → I' 187 4 = 1 → Q 0 (some (.int 0)) I' J R S) (hQ : (isW w && ok6 k 6) = true → ∀ I', kM I J R I' J R → MOk I' J R S a n s x l qt → I' 187 4 = 0 → Q 0 (some (.int (vW a w (ix k)))) I' J R S) : Wp 219 0 [.ref 187, .long w, nov, .int k] [] I J R S Q := by
  have k0 := hM.1.1.1
  have s1 : ∀ c, mZ I J (u2 (u2 I 187 4 0) 187 4 c) J := fun c => mZ_trans (mZ_f (by omega)) (mZ_f (by omega))
  have s2 : mZ I J (u2 I 187 4 0) J := mZ_f (by omega)
  have M1 := MOk_Z hM s2
  have i6 : inL k.toInt64 0 6 = ok6 k 6 := inL_ok6 (by decide)
  cases q1 : isW w
  · simp only [x_M_word_0, x_M_word_1, x_M_word_2, x_M_word_5, x_M_word_6, x_M_word_9, x_M_word_12, x_M_word_13, x_M_word_14, x_M_word_15, x_M_word_18, x_M_word_21, x_M_word_24, x_M_word_25, x_M_word_26, x_M_word_27, x_M_word_30, x_M_word_33, x_M_word_34, x_M_word_35, x_M_word_38, k0, c_M_isWord, q1, c_M_fails k0, bI_0, bI_t, bI_f, e10, isA30, isA31, isA33, isA40, isA42, isA43, rOkB0, rOkB1, rOkB, Ret_v, Ret_n, cmp_eq, cmp_lt, cmp_gt, nI_1, eq_self, if_true, if_false, reduceIte]
    exact hQ1 (by rw [q1]; rfl) _ (kM_Z (s1 1)) (MOk_Z hM (s1 1)) u2_eq
  · cases q2 : ok6 k 6
    · simp only [x_M_word_0, x_M_word_1, x_M_word_2, x_M_word_5, x_M_word_6, x_M_word_9, x_M_word_12, x_M_word_13, x_M_word_14, x_M_word_15, x_M_word_18, x_M_word_21, x_M_word_24, x_M_word_25, x_M_word_26, x_M_word_27, x_M_word_30, x_M_word_33, x_M_word_34, x_M_word_35, x_M_word_38, k0, c_M_isWord, c_M_in, i6, q1, q2, c_M_fails k0, e10, Bool.true_eq_false, bI_0, bI_t, bI_f, e10, isA30, isA31, isA33, isA40, isA42, isA43, rOkB0, rOkB1, rOkB, Ret_v, Ret_n, cmp_eq, cmp_lt, cmp_gt, nI_1, eq_self, if_true, if_false, reduceIte]
      exact hQ1 (by rw [q1, q2]; rfl) _ (kM_Z (s1 1)) (MOk_Z hM (s1 1)) u2_eq
    · obtain ⟨i, hi, e1, e2⟩ := ok6_n (by omega) q2
      have vo := fun Q' => c_M_valueOf (Q := Q') M1 hI q1 i (by omega)
      rw [← e1] at vo
      simp only [x_M_word_0, x_M_word_1, x_M_word_2, x_M_word_5, x_M_word_6, x_M_word_9, x_M_word_12, x_M_word_13, x_M_word_14, x_M_word_15, x_M_word_18, x_M_word_21, x_M_word_24, x_M_word_25, x_M_word_26, x_M_word_27, x_M_word_30, x_M_word_33, x_M_word_34, x_M_word_35, x_M_word_38, k0, c_M_isWord, c_M_in, i6, q1, q2, vo, e10, Bool.true_eq_false, bI_0, bI_t, bI_f, e10, isA30, isA31, isA33, isA40, isA42, isA43, rOkB0, rOkB1, rOkB, Ret_v, Ret_n, cmp_eq, cmp_lt, cmp_gt, nI_1, eq_self, if_true, if_false, reduceIte]
      rw [← e2]
      exact hQ (by rw [q1, q2]; rfl) _ (kM_Z s2) M1 u2_eq
theorem c_M_listed {nm : Bool} (hM : MOk I J R S a n s x l qt) (hI : BkI T a) (hQ1 : k < 0 → ∀ I', kM I J R I' J R → MOk I' J R S a n s x l qt → I' 187 4 = 1 → Q 0 (some (.long 0)) I' J R S) (hQ : ¬ k < 0 → ∀ I', kM I J R I' J R → MOk I' J R S a n s x l qt → I' 187 4 = 0 → Q 0 (some (.long (if nm = true then prV (bN a) k 0 else prV (bW a) k 0))) I' J R S) : Wp 220 0 [.ref 187, .int (bI nm), .int k, nov] [] I J R S Q := by
  have iW := hI.1
  have iN := hI.2.1
  have s1 : ∀ c, mZ I J (u2 (u2 I 187 4 0) 187 4 c) J := fun c => mZ_trans (mZ_f (by omega)) (mZ_f (by omega))
  have s2 : mZ I J (u2 I 187 4 0) J := mZ_f (by omega)
  have M1 := MOk_Z hM s2
  obtain ⟨k0, k1, n1, r0⟩ := hM.1.1
  by_cases q1 : k < 0
  · simp only [x_M_listed_0, x_M_listed_1, x_M_listed_2, x_M_listed_5, x_M_listed_6, x_M_listed_9, x_M_listed_10, x_M_listed_11, x_M_listed_14, x_M_listed_15, x_M_listed_16, x_M_listed_17, x_M_listed_18, x_M_listed_21, x_M_listed_22, x_M_listed_25, x_M_listed_26, x_M_listed_29, x_M_listed_30, x_M_listed_31, x_M_listed_32, x_M_listed_35, x_M_listed_36, x_M_listed_39, x_M_listed_40, x_M_listed_43, x_M_listed_45, x_M_listed_48, x_M_listed_50, x_M_listed_51, x_M_listed_52, x_M_listed_53, x_M_listed_56, x_M_listed_59, k0, q1, c_M_fails k0, z64, bI_0, bI_t, bI_f, e10, isA30, isA31, isA33, isA40, isA42, isA43, rOkB0, rOkB1, rOkB, Ret_v, Ret_n, cmp_eq, cmp_lt, cmp_gt, nI_1, eq_self, if_true, if_false, reduceIte]
    exact hQ1 q1 _ (kM_Z (s1 1)) (MOk_Z hM (s1 1)) u2_eq
  · have hQ := hQ q1 _ (kM_Z s2) M1 u2_eq
    cases nm
    · have m0 := fun Q' => p_many (Q := Q') (k := 0) M1 (by omega) hM.2.1.1.1 (by omega)
      simp only [kI_0, kI_1, kI_2, kI_3, kI_4, kI_5, kI_6, kI_7, kI_8, kI_9, kI_10, kI_11, kI_20, kI_24, kI_26, kI_35, kI_55, kI_75, kI_85, kI_109, kI_133, kI_157, kI_181, kI_205, kI_225, kI_245, kI_265, kI_285, kI_305] at m0
      simp only [Bool.false_eq_true, if_false] at hQ
      unfold prV at hQ
      by_cases q2 : k < nI (bW a).1
      · have inb1 := inb_l q1 q2 (by omega)
        have lt := ix_lt inb1
        have e : k = nI (ix k) := by
          rw [← Int32.toInt_inj, nI_toInt (by omega)]
          rw [Int32.lt_iff_toInt_lt, Int32.toInt_zero] at q1
          unfold ix
          rw [Int32.toNatClampNeg]
          omega
        have e1 := inb_nI (i := 35 + ix k) (n := 305) (by omega) (by omega)
        have e2 : ix (nI (35 + ix k)) = 35 + ix k := ix_nI (by omega)
        have v1 : J 188 (35 + ix k) = (bW a).2.1 (ix k) := hM.2.1.1.2.1 _ lt
        have pk : (35 : Int32) + k = nI (35 + ix k) := by rw [show (35 : Int32) + k = 35 + nI (ix k) by rw [← e], pK_35]
        simp only [inb1, if_true] at hQ
        simp only [x_M_listed_0, x_M_listed_1, x_M_listed_2, x_M_listed_5, x_M_listed_6, x_M_listed_9, x_M_listed_10, x_M_listed_11, x_M_listed_14, x_M_listed_15, x_M_listed_16, x_M_listed_17, x_M_listed_18, x_M_listed_21, x_M_listed_22, x_M_listed_25, x_M_listed_26, x_M_listed_29, x_M_listed_30, x_M_listed_31, x_M_listed_32, x_M_listed_35, x_M_listed_36, x_M_listed_39, x_M_listed_40, x_M_listed_43, x_M_listed_45, x_M_listed_48, x_M_listed_50, x_M_listed_51, x_M_listed_52, x_M_listed_53, x_M_listed_56, x_M_listed_59, k0, k1, n1, r0, q1, m0, q2, pk, e1, e2, v1, bI_0, bI_t, bI_f, e10, isA30, isA31, isA33, isA40, isA42, isA43, rOkB0, rOkB1, rOkB, Ret_v, Ret_n, cmp_eq, cmp_lt, cmp_gt, nI_1, eq_self, if_true, if_false, reduceIte]
        exact hQ
      · have inb1 := inb_n2 q2 (show (bW a).1 < 2 ^ 31 by omega)
        simp only [inb1, Bool.false_eq_true, if_false] at hQ
        simp only [x_M_listed_0, x_M_listed_1, x_M_listed_2, x_M_listed_5, x_M_listed_6, x_M_listed_9, x_M_listed_10, x_M_listed_11, x_M_listed_14, x_M_listed_15, x_M_listed_16, x_M_listed_17, x_M_listed_18, x_M_listed_21, x_M_listed_22, x_M_listed_25, x_M_listed_26, x_M_listed_29, x_M_listed_30, x_M_listed_31, x_M_listed_32, x_M_listed_35, x_M_listed_36, x_M_listed_39, x_M_listed_40, x_M_listed_43, x_M_listed_45, x_M_listed_48, x_M_listed_50, x_M_listed_51, x_M_listed_52, x_M_listed_53, x_M_listed_56, x_M_listed_59, k0, q1, m0, q2, bI_0, bI_t, bI_f, e10, isA30, isA31, isA33, isA40, isA42, isA43, rOkB0, rOkB1, rOkB, Ret_v, Ret_n, cmp_eq, cmp_lt, cmp_gt, nI_1, eq_self, if_true, if_false, reduceIte]
        exact hQ
    · have m0 := fun Q' => p_many (Q := Q') (k := 1) M1 (by omega) hM.2.1.2.1.1 (by omega)
      simp only [kI_0, kI_1, kI_2, kI_3, kI_4, kI_5, kI_6, kI_7, kI_8, kI_9, kI_10, kI_11, kI_20, kI_24, kI_26, kI_35, kI_55, kI_75, kI_85, kI_109, kI_133, kI_157, kI_181, kI_205, kI_225, kI_245, kI_265, kI_285, kI_305] at m0
      simp only [if_true] at hQ
      unfold prV at hQ
      by_cases q2 : k < nI (bN a).1
      · have inb1 := inb_l q1 q2 (by omega)
        have lt := ix_lt inb1
        have e : k = nI (ix k) := by
          rw [← Int32.toInt_inj, nI_toInt (by omega)]
          rw [Int32.lt_iff_toInt_lt, Int32.toInt_zero] at q1
          unfold ix
          rw [Int32.toNatClampNeg]
          omega
        have e1 := inb_nI (i := 75 + ix k) (n := 305) (by omega) (by omega)
        have e2 : ix (nI (75 + ix k)) = 75 + ix k := ix_nI (by omega)
        have v1 : J 188 (75 + ix k) = (bN a).2.1 (ix k) := hM.2.1.2.1.2 _ lt
        have pk : (75 : Int32) + k = nI (75 + ix k) := by rw [show (75 : Int32) + k = 75 + nI (ix k) by rw [← e], pK_75]
        simp only [inb1, if_true] at hQ
        simp only [x_M_listed_0, x_M_listed_1, x_M_listed_2, x_M_listed_5, x_M_listed_6, x_M_listed_9, x_M_listed_10, x_M_listed_11, x_M_listed_14, x_M_listed_15, x_M_listed_16, x_M_listed_17, x_M_listed_18, x_M_listed_21, x_M_listed_22, x_M_listed_25, x_M_listed_26, x_M_listed_29, x_M_listed_30, x_M_listed_31, x_M_listed_32, x_M_listed_35, x_M_listed_36, x_M_listed_39, x_M_listed_40, x_M_listed_43, x_M_listed_45, x_M_listed_48, x_M_listed_50, x_M_listed_51, x_M_listed_52, x_M_listed_53, x_M_listed_56, x_M_listed_59, k0, k1, n1, r0, q1, m0, q2, pk, e1, e2, v1, e10, bI_0, bI_t, bI_f, e10, isA30, isA31, isA33, isA40, isA42, isA43, rOkB0, rOkB1, rOkB, Ret_v, Ret_n, cmp_eq, cmp_lt, cmp_gt, nI_1, eq_self, if_true, if_false, reduceIte]
        exact hQ
      · have inb1 := inb_n2 q2 (show (bN a).1 < 2 ^ 31 by omega)
        simp only [inb1, Bool.false_eq_true, if_false] at hQ
        simp only [x_M_listed_0, x_M_listed_1, x_M_listed_2, x_M_listed_5, x_M_listed_6, x_M_listed_9, x_M_listed_10, x_M_listed_11, x_M_listed_14, x_M_listed_15, x_M_listed_16, x_M_listed_17, x_M_listed_18, x_M_listed_21, x_M_listed_22, x_M_listed_25, x_M_listed_26, x_M_listed_29, x_M_listed_30, x_M_listed_31, x_M_listed_32, x_M_listed_35, x_M_listed_36, x_M_listed_39, x_M_listed_40, x_M_listed_43, x_M_listed_45, x_M_listed_48, x_M_listed_50, x_M_listed_51, x_M_listed_52, x_M_listed_53, x_M_listed_56, x_M_listed_59, k0, q1, m0, q2, e10, bI_0, bI_t, bI_f, e10, isA30, isA31, isA33, isA40, isA42, isA43, rOkB0, rOkB1, rOkB, Ret_v, Ret_n, cmp_eq, cmp_lt, cmp_gt, nI_1, eq_self, if_true, if_false, reduceIte]
        exact hQ
theorem c_M_pairOf (hM : MOk I J R S a n s x l qt) (hI : BkI T a) {i m : Nat} (hi : i < (bP a).1) (hm : m ≤ 2) : Wp 221 0 [.ref 187, .int (nI i), .int (nI m)] [] I J R S Q = Q 0 (some (.long (prV (bP a) (nI i) m))) I J R S := by
  have iP := hI.2.2.1
  have hP := hM.2.1.2.2.1
  obtain ⟨k0, k1, n1, r0⟩ := hM.1.1
  have inb1 := inb_nI hi (by omega)
  have ix1 : ix (nI i) = i := ix_nI (by omega)
  have e1 := inb_nI (i := 85 + i) (n := 305) (by omega) (by omega)
  have e2 : ix (nI (85 + i)) = 85 + i := ix_nI (by omega)
  have e3 := inb_nI (i := 109 + i) (n := 305) (by omega) (by omega)
  have e4 : ix (nI (109 + i)) = 109 + i := ix_nI (by omega)
  have e5 := inb_nI (i := 133 + i) (n := 305) (by omega) (by omega)
  have e6 : ix (nI (133 + i)) = 133 + i := ix_nI (by omega)
  have v1 := hP.2.1 i hi
  have v2 := hP.2.2.1 i hi
  have v3 := hP.2.2.2 i hi
  unfold prV
  simp only [inb1, ix1, if_true]
  rcases (show m = 0 ∨ m = 1 ∨ m = 2 by omega) with e | e | e <;> subst e
  · simp only [x_M_pairOf_0, x_M_pairOf_1, x_M_pairOf_4, x_M_pairOf_5, x_M_pairOf_8, x_M_pairOf_10, x_M_pairOf_13, x_M_pairOf_14, x_M_pairOf_15, x_M_pairOf_18, x_M_pairOf_20, x_M_pairOf_23, x_M_pairOf_26, x_M_pairOf_27, x_M_pairOf_28, x_M_pairOf_29, k0, k1, n1, r0, e1, e2, v1, kI_0, kI_1, kI_2, kI_3, kI_4, kI_5, kI_6, kI_7, kI_8, kI_9, kI_10, kI_11, kI_20, kI_24, kI_26, kI_35, kI_55, kI_75, kI_85, kI_109, kI_133, kI_157, kI_181, kI_205, kI_225, kI_245, kI_265, kI_285, kI_305, pK_6, pK_9, pK_35, pK_55, pK_75, pK_85, pK_109, pK_133, pK_157, pK_181, pK_205, pK_225, pK_245, pK_265, pK_285, inK_0, inK_1, inK_2, inK_3, inK_4, inK_5, inK_6, inK_7, inK_8, ixK_0, ixK_1, ixK_2, ixK_3, ixK_4, ixK_5, ixK_6, ixK_7, ixK_8, bI_0, bI_t, bI_f, e10, isA30, isA31, isA33, isA40, isA42, isA43, rOkB0, rOkB1, rOkB, Ret_v, Ret_n, cmp_eq, cmp_lt, cmp_gt, nI_1, eq_self, if_true, if_false, reduceIte]
  · simp only [x_M_pairOf_0, x_M_pairOf_1, x_M_pairOf_4, x_M_pairOf_5, x_M_pairOf_8, x_M_pairOf_10, x_M_pairOf_13, x_M_pairOf_14, x_M_pairOf_15, x_M_pairOf_18, x_M_pairOf_20, x_M_pairOf_23, x_M_pairOf_26, x_M_pairOf_27, x_M_pairOf_28, x_M_pairOf_29, k0, k1, n1, r0, e3, e4, v2, kI_0, kI_1, kI_2, kI_3, kI_4, kI_5, kI_6, kI_7, kI_8, kI_9, kI_10, kI_11, kI_20, kI_24, kI_26, kI_35, kI_55, kI_75, kI_85, kI_109, kI_133, kI_157, kI_181, kI_205, kI_225, kI_245, kI_265, kI_285, kI_305, pK_6, pK_9, pK_35, pK_55, pK_75, pK_85, pK_109, pK_133, pK_157, pK_181, pK_205, pK_225, pK_245, pK_265, pK_285, inK_0, inK_1, inK_2, inK_3, inK_4, inK_5, inK_6, inK_7, inK_8, ixK_0, ixK_1, ixK_2, ixK_3, ixK_4, ixK_5, ixK_6, ixK_7, ixK_8, e10, bI_0, bI_t, bI_f, e10, isA30, isA31, isA33, isA40, isA42, isA43, rOkB0, rOkB1, rOkB, Ret_v, Ret_n, cmp_eq, cmp_lt, cmp_gt, nI_1, eq_self, if_true, if_false, reduceIte]
  · simp only [x_M_pairOf_0, x_M_pairOf_1, x_M_pairOf_4, x_M_pairOf_5, x_M_pairOf_8, x_M_pairOf_10, x_M_pairOf_13, x_M_pairOf_14, x_M_pairOf_15, x_M_pairOf_18, x_M_pairOf_20, x_M_pairOf_23, x_M_pairOf_26, x_M_pairOf_27, x_M_pairOf_28, x_M_pairOf_29, k0, k1, n1, r0, e5, e6, v3, kI_0, kI_1, kI_2, kI_3, kI_4, kI_5, kI_6, kI_7, kI_8, kI_9, kI_10, kI_11, kI_20, kI_24, kI_26, kI_35, kI_55, kI_75, kI_85, kI_109, kI_133, kI_157, kI_181, kI_205, kI_225, kI_245, kI_265, kI_285, kI_305, pK_6, pK_9, pK_35, pK_55, pK_75, pK_85, pK_109, pK_133, pK_157, pK_181, pK_205, pK_225, pK_245, pK_265, pK_285, inK_0, inK_1, inK_2, inK_3, inK_4, inK_5, inK_6, inK_7, inK_8, ixK_0, ixK_1, ixK_2, ixK_3, ixK_4, ixK_5, ixK_6, ixK_7, ixK_8, show ¬ (2 : Int32) = 0 by decide, show ¬ (2 : Int32) = 1 by decide, bI_0, bI_t, bI_f, e10, isA30, isA31, isA33, isA40, isA42, isA43, rOkB0, rOkB1, rOkB, Ret_v, Ret_n, cmp_eq, cmp_lt, cmp_gt, nI_1, eq_self, if_true, if_false, reduceIte]
    rfl
theorem c_M_loggedOf (hM : MOk I J R S a n s x l qt) (hI : BkI T a) {i m : Nat} (hi : i < (bL a).1) (hm : m ≤ 2) : Wp 223 0 [.ref 187, .int (nI i), .int (nI m)] [] I J R S Q = Q 0 (some (.long (prV (bL a) (nI ((bL a).1 - 1 - i)) m))) I J R S := by
  have iL := hI.2.2.2.2.2.1
  have hL := hM.2.1.2.2.2.2.2.1
  have m5 := fun Q' => p_many (Q := Q') (k := 5) hM (by omega) hL.1 (by omega)
  simp only [kI_0, kI_1, kI_2, kI_3, kI_4, kI_5, kI_6, kI_7, kI_8, kI_9, kI_10, kI_11, kI_20, kI_24, kI_26, kI_35, kI_55, kI_75, kI_85, kI_109, kI_133, kI_157, kI_181, kI_205, kI_225, kI_245, kI_265, kI_285, kI_305] at m5
  obtain ⟨k0, k1, n1, r0⟩ := hM.1.1
  have hj : (bL a).1 - 1 - i < (bL a).1 := by omega
  have inb1 := inb_nI hj (by omega)
  have ix1 : ix (nI ((bL a).1 - 1 - i)) = (bL a).1 - 1 - i := ix_nI (by omega)
  have sb : ∀ b : Nat, nI (b + (bL a).1) - 1 - nI i = nI (b + ((bL a).1 - 1 - i)) := fun b => by
    rw [show nI (b + (bL a).1) - 1 = nI (b + (bL a).1 - 1) from nI_sub (b := 1) (by omega), nI_sub (by omega), show b + (bL a).1 - 1 - i = b + ((bL a).1 - 1 - i) by omega]
  have e1 := inb_nI (i := 245 + ((bL a).1 - 1 - i)) (n := 305) (by omega) (by omega)
  have e2 : ix (nI (245 + ((bL a).1 - 1 - i))) = 245 + ((bL a).1 - 1 - i) := ix_nI (by omega)
  have e3 := inb_nI (i := 265 + ((bL a).1 - 1 - i)) (n := 305) (by omega) (by omega)
  have e4 : ix (nI (265 + ((bL a).1 - 1 - i))) = 265 + ((bL a).1 - 1 - i) := ix_nI (by omega)
  have e5 := inb_nI (i := 285 + ((bL a).1 - 1 - i)) (n := 305) (by omega) (by omega)
  have e6 : ix (nI (285 + ((bL a).1 - 1 - i))) = 285 + ((bL a).1 - 1 - i) := ix_nI (by omega)
  have v1 := hL.2.1 _ hj
  have v2 := hL.2.2.1 _ hj
  have v3 := hL.2.2.2 _ hj
  unfold prV
  simp only [inb1, ix1, if_true]
  rcases (show m = 0 ∨ m = 1 ∨ m = 2 by omega) with e | e | e <;> subst e
  · simp only [x_M_loggedOf_0, x_M_loggedOf_1, x_M_loggedOf_4, x_M_loggedOf_5, x_M_loggedOf_8, x_M_loggedOf_11, x_M_loggedOf_14, x_M_loggedOf_15, x_M_loggedOf_16, x_M_loggedOf_19, x_M_loggedOf_22, x_M_loggedOf_25, x_M_loggedOf_28, x_M_loggedOf_29, x_M_loggedOf_30, x_M_loggedOf_33, x_M_loggedOf_34, x_M_loggedOf_35, x_M_loggedOf_36, x_M_loggedOf_37, x_M_loggedOf_38, x_M_loggedOf_39, k0, k1, n1, r0, m5, sb, e1, e2, v1, kI_0, kI_1, kI_2, kI_3, kI_4, kI_5, kI_6, kI_7, kI_8, kI_9, kI_10, kI_11, kI_20, kI_24, kI_26, kI_35, kI_55, kI_75, kI_85, kI_109, kI_133, kI_157, kI_181, kI_205, kI_225, kI_245, kI_265, kI_285, kI_305, pK_6, pK_9, pK_35, pK_55, pK_75, pK_85, pK_109, pK_133, pK_157, pK_181, pK_205, pK_225, pK_245, pK_265, pK_285, inK_0, inK_1, inK_2, inK_3, inK_4, inK_5, inK_6, inK_7, inK_8, ixK_0, ixK_1, ixK_2, ixK_3, ixK_4, ixK_5, ixK_6, ixK_7, ixK_8, bI_0, bI_t, bI_f, e10, isA30, isA31, isA33, isA40, isA42, isA43, rOkB0, rOkB1, rOkB, Ret_v, Ret_n, cmp_eq, cmp_lt, cmp_gt, nI_1, eq_self, if_true, if_false, reduceIte]
  · simp only [x_M_loggedOf_0, x_M_loggedOf_1, x_M_loggedOf_4, x_M_loggedOf_5, x_M_loggedOf_8, x_M_loggedOf_11, x_M_loggedOf_14, x_M_loggedOf_15, x_M_loggedOf_16, x_M_loggedOf_19, x_M_loggedOf_22, x_M_loggedOf_25, x_M_loggedOf_28, x_M_loggedOf_29, x_M_loggedOf_30, x_M_loggedOf_33, x_M_loggedOf_34, x_M_loggedOf_35, x_M_loggedOf_36, x_M_loggedOf_37, x_M_loggedOf_38, x_M_loggedOf_39, k0, k1, n1, r0, m5, sb, e3, e4, v2, kI_0, kI_1, kI_2, kI_3, kI_4, kI_5, kI_6, kI_7, kI_8, kI_9, kI_10, kI_11, kI_20, kI_24, kI_26, kI_35, kI_55, kI_75, kI_85, kI_109, kI_133, kI_157, kI_181, kI_205, kI_225, kI_245, kI_265, kI_285, kI_305, pK_6, pK_9, pK_35, pK_55, pK_75, pK_85, pK_109, pK_133, pK_157, pK_181, pK_205, pK_225, pK_245, pK_265, pK_285, inK_0, inK_1, inK_2, inK_3, inK_4, inK_5, inK_6, inK_7, inK_8, ixK_0, ixK_1, ixK_2, ixK_3, ixK_4, ixK_5, ixK_6, ixK_7, ixK_8, e10, bI_0, bI_t, bI_f, e10, isA30, isA31, isA33, isA40, isA42, isA43, rOkB0, rOkB1, rOkB, Ret_v, Ret_n, cmp_eq, cmp_lt, cmp_gt, nI_1, eq_self, if_true, if_false, reduceIte]
  · simp only [x_M_loggedOf_0, x_M_loggedOf_1, x_M_loggedOf_4, x_M_loggedOf_5, x_M_loggedOf_8, x_M_loggedOf_11, x_M_loggedOf_14, x_M_loggedOf_15, x_M_loggedOf_16, x_M_loggedOf_19, x_M_loggedOf_22, x_M_loggedOf_25, x_M_loggedOf_28, x_M_loggedOf_29, x_M_loggedOf_30, x_M_loggedOf_33, x_M_loggedOf_34, x_M_loggedOf_35, x_M_loggedOf_36, x_M_loggedOf_37, x_M_loggedOf_38, x_M_loggedOf_39, k0, k1, n1, r0, m5, sb, e5, e6, v3, kI_0, kI_1, kI_2, kI_3, kI_4, kI_5, kI_6, kI_7, kI_8, kI_9, kI_10, kI_11, kI_20, kI_24, kI_26, kI_35, kI_55, kI_75, kI_85, kI_109, kI_133, kI_157, kI_181, kI_205, kI_225, kI_245, kI_265, kI_285, kI_305, pK_6, pK_9, pK_35, pK_55, pK_75, pK_85, pK_109, pK_133, pK_157, pK_181, pK_205, pK_225, pK_245, pK_265, pK_285, inK_0, inK_1, inK_2, inK_3, inK_4, inK_5, inK_6, inK_7, inK_8, ixK_0, ixK_1, ixK_2, ixK_3, ixK_4, ixK_5, ixK_6, ixK_7, ixK_8, show ¬ (2 : Int32) = 0 by decide, show ¬ (2 : Int32) = 1 by decide, bI_0, bI_t, bI_f, e10, isA30, isA31, isA33, isA40, isA42, isA43, rOkB0, rOkB1, rOkB, Ret_v, Ret_n, cmp_eq, cmp_lt, cmp_gt, nI_1, eq_self, if_true, if_false, reduceIte]
    rfl
theorem nI_ix {k : Int32} (q1 : ¬ k < 0) : k = nI (ix k) := by
  have := Int32.toInt_lt k
  rw [Int32.lt_iff_toInt_lt, Int32.toInt_zero] at q1
  rw [← Int32.toInt_inj, nI_toInt (by unfold ix; rw [Int32.toNatClampNeg]; omega)]
  unfold ix
  rw [Int32.toNatClampNeg]
  omega
theorem c_M_pair (hM : MOk I J R S a n s x l qt) (hI : BkI T a) (hQ1 : (!decide (k < 0) && ok6 c 2) = false → ∀ I', kM I J R I' J R → MOk I' J R S a n s x l qt → I' 187 4 = 1 → Q 0 (some (.long 0)) I' J R S) (hQ : (!decide (k < 0) && ok6 c 2) = true → ∀ I', kM I J R I' J R → MOk I' J R S a n s x l qt → I' 187 4 = 0 → Q 0 (some (.long (prV (bP a) k (ix c)))) I' J R S) : Wp 222 0 [.ref 187, .int k, .int c] [] I J R S Q := by
  have iP := hI.2.2.1
  have s1 : ∀ c, mZ I J (u2 (u2 I 187 4 0) 187 4 c) J := fun c => mZ_trans (mZ_f (by omega)) (mZ_f (by omega))
  have s2 : mZ I J (u2 I 187 4 0) J := mZ_f (by omega)
  have M1 := MOk_Z hM s2
  have i2 : inL c.toInt64 0 2 = ok6 c 2 := inL_ok6 (by decide)
  have k0 := hM.1.1.1
  by_cases q1 : k < 0
  · simp only [x_M_pair_0, x_M_pair_1, x_M_pair_2, x_M_pair_5, x_M_pair_6, x_M_pair_9, x_M_pair_10, x_M_pair_11, x_M_pair_12, x_M_pair_15, x_M_pair_18, x_M_pair_21, x_M_pair_22, x_M_pair_23, x_M_pair_26, x_M_pair_27, x_M_pair_28, x_M_pair_29, x_M_pair_30, x_M_pair_31, x_M_pair_34, x_M_pair_37, x_M_pair_38, x_M_pair_39, x_M_pair_40, x_M_pair_43, x_M_pair_46, x_M_pair_49, k0, q1, c_M_fails k0, z64, bI_0, bI_t, bI_f, e10, isA30, isA31, isA33, isA40, isA42, isA43, rOkB0, rOkB1, rOkB, Ret_v, Ret_n, cmp_eq, cmp_lt, cmp_gt, nI_1, eq_self, if_true, if_false, reduceIte]
    exact hQ1 (by rw [decide_eq_true q1]; rfl) _ (kM_Z (s1 1)) (MOk_Z hM (s1 1)) u2_eq
  · cases q2 : ok6 c 2
    · simp only [x_M_pair_0, x_M_pair_1, x_M_pair_2, x_M_pair_5, x_M_pair_6, x_M_pair_9, x_M_pair_10, x_M_pair_11, x_M_pair_12, x_M_pair_15, x_M_pair_18, x_M_pair_21, x_M_pair_22, x_M_pair_23, x_M_pair_26, x_M_pair_27, x_M_pair_28, x_M_pair_29, x_M_pair_30, x_M_pair_31, x_M_pair_34, x_M_pair_37, x_M_pair_38, x_M_pair_39, x_M_pair_40, x_M_pair_43, x_M_pair_46, x_M_pair_49, k0, q1, c_M_in, i2, q2, c_M_fails k0, z64, bI_0, bI_t, bI_f, e10, isA30, isA31, isA33, isA40, isA42, isA43, rOkB0, rOkB1, rOkB, Ret_v, Ret_n, cmp_eq, cmp_lt, cmp_gt, nI_1, eq_self, if_true, if_false, reduceIte]
      exact hQ1 (by rw [q2]; simp) _ (kM_Z (s1 1)) (MOk_Z hM (s1 1)) u2_eq
    · have hQ := hQ (by rw [decide_eq_false q1, q2]; rfl) _ (kM_Z s2) M1 u2_eq
      obtain ⟨i, hi, e1, e2⟩ := ok6_n (by omega) q2
      rw [e2] at hQ
      have m2 := fun Q' => p_many (Q := Q') (k := 2) M1 (by omega) hM.2.1.2.2.1.1 (by omega)
      simp only [kI_0, kI_1, kI_2, kI_3, kI_4, kI_5, kI_6, kI_7, kI_8, kI_9, kI_10, kI_11, kI_20, kI_24, kI_26, kI_35, kI_55, kI_75, kI_85, kI_109, kI_133, kI_157, kI_181, kI_205, kI_225, kI_245, kI_265, kI_285, kI_305] at m2
      by_cases q3 : k < nI (bP a).1
      · have lt := ix_lt (inb_l q1 q3 (by omega))
        have po := fun Q' => c_M_pairOf (Q := Q') M1 hI lt hi
        rw [← nI_ix q1, ← e1] at po
        simp only [x_M_pair_0, x_M_pair_1, x_M_pair_2, x_M_pair_5, x_M_pair_6, x_M_pair_9, x_M_pair_10, x_M_pair_11, x_M_pair_12, x_M_pair_15, x_M_pair_18, x_M_pair_21, x_M_pair_22, x_M_pair_23, x_M_pair_26, x_M_pair_27, x_M_pair_28, x_M_pair_29, x_M_pair_30, x_M_pair_31, x_M_pair_34, x_M_pair_37, x_M_pair_38, x_M_pair_39, x_M_pair_40, x_M_pair_43, x_M_pair_46, x_M_pair_49, k0, q1, c_M_in, i2, q2, m2, q3, po, e10, Bool.true_eq_false, bI_0, bI_t, bI_f, e10, isA30, isA31, isA33, isA40, isA42, isA43, rOkB0, rOkB1, rOkB, Ret_v, Ret_n, cmp_eq, cmp_lt, cmp_gt, nI_1, eq_self, if_true, if_false, reduceIte]
        exact hQ
      · have inb1 := inb_n2 q3 (show (bP a).1 < 2 ^ 31 by omega)
        have z : prV (bP a) k i = -1 := by
          unfold prV
          rw [inb1]
          rcases (show i = 0 ∨ i = 1 ∨ i = 2 by omega) with e | e | e <;> subst e <;> rfl
        rw [z] at hQ
        simp only [x_M_pair_0, x_M_pair_1, x_M_pair_2, x_M_pair_5, x_M_pair_6, x_M_pair_9, x_M_pair_10, x_M_pair_11, x_M_pair_12, x_M_pair_15, x_M_pair_18, x_M_pair_21, x_M_pair_22, x_M_pair_23, x_M_pair_26, x_M_pair_27, x_M_pair_28, x_M_pair_29, x_M_pair_30, x_M_pair_31, x_M_pair_34, x_M_pair_37, x_M_pair_38, x_M_pair_39, x_M_pair_40, x_M_pair_43, x_M_pair_46, x_M_pair_49, k0, q1, c_M_in, i2, q2, m2, q3, e10, Bool.true_eq_false, bI_0, bI_t, bI_f, e10, isA30, isA31, isA33, isA40, isA42, isA43, rOkB0, rOkB1, rOkB, Ret_v, Ret_n, cmp_eq, cmp_lt, cmp_gt, nI_1, eq_self, if_true, if_false, reduceIte]
        exact hQ
theorem c_M_logged (hM : MOk I J R S a n s x l qt) (hI : BkI T a) (hQ1 : (!decide (k < 0) && ok6 c 2) = false → ∀ I', kM I J R I' J R → MOk I' J R S a n s x l qt → I' 187 4 = 1 → Q 0 (some (.long 0)) I' J R S) (hQ : (!decide (k < 0) && ok6 c 2) = true → ∀ I', kM I J R I' J R → MOk I' J R S a n s x l qt → I' 187 4 = 0 → Q 0 (some (.long (prV (bL a) (nI (bL a).1 - 1 - k) (ix c)))) I' J R S) : Wp 224 0 [.ref 187, .int k, .int c] [] I J R S Q := by
  have iL := hI.2.2.2.2.2.1
  have s1 : ∀ c, mZ I J (u2 (u2 I 187 4 0) 187 4 c) J := fun c => mZ_trans (mZ_f (by omega)) (mZ_f (by omega))
  have s2 : mZ I J (u2 I 187 4 0) J := mZ_f (by omega)
  have M1 := MOk_Z hM s2
  have i2 : inL c.toInt64 0 2 = ok6 c 2 := inL_ok6 (by decide)
  have k0 := hM.1.1.1
  by_cases q1 : k < 0
  · simp only [x_M_logged_0, x_M_logged_1, x_M_logged_2, x_M_logged_5, x_M_logged_6, x_M_logged_9, x_M_logged_10, x_M_logged_11, x_M_logged_12, x_M_logged_15, x_M_logged_18, x_M_logged_21, x_M_logged_22, x_M_logged_23, x_M_logged_26, x_M_logged_27, x_M_logged_28, x_M_logged_29, x_M_logged_30, x_M_logged_31, x_M_logged_34, x_M_logged_37, x_M_logged_38, x_M_logged_39, x_M_logged_40, x_M_logged_43, x_M_logged_46, x_M_logged_49, k0, q1, c_M_fails k0, z64, bI_0, bI_t, bI_f, e10, isA30, isA31, isA33, isA40, isA42, isA43, rOkB0, rOkB1, rOkB, Ret_v, Ret_n, cmp_eq, cmp_lt, cmp_gt, nI_1, eq_self, if_true, if_false, reduceIte]
    exact hQ1 (by rw [decide_eq_true q1]; rfl) _ (kM_Z (s1 1)) (MOk_Z hM (s1 1)) u2_eq
  · cases q2 : ok6 c 2
    · simp only [x_M_logged_0, x_M_logged_1, x_M_logged_2, x_M_logged_5, x_M_logged_6, x_M_logged_9, x_M_logged_10, x_M_logged_11, x_M_logged_12, x_M_logged_15, x_M_logged_18, x_M_logged_21, x_M_logged_22, x_M_logged_23, x_M_logged_26, x_M_logged_27, x_M_logged_28, x_M_logged_29, x_M_logged_30, x_M_logged_31, x_M_logged_34, x_M_logged_37, x_M_logged_38, x_M_logged_39, x_M_logged_40, x_M_logged_43, x_M_logged_46, x_M_logged_49, k0, q1, c_M_in, i2, q2, c_M_fails k0, z64, bI_0, bI_t, bI_f, e10, isA30, isA31, isA33, isA40, isA42, isA43, rOkB0, rOkB1, rOkB, Ret_v, Ret_n, cmp_eq, cmp_lt, cmp_gt, nI_1, eq_self, if_true, if_false, reduceIte]
      exact hQ1 (by rw [q2]; simp) _ (kM_Z (s1 1)) (MOk_Z hM (s1 1)) u2_eq
    · have hQ := hQ (by rw [decide_eq_false q1, q2]; rfl) _ (kM_Z s2) M1 u2_eq
      obtain ⟨i, hi, e1, e2⟩ := ok6_n (by omega) q2
      rw [e2] at hQ
      have m2 := fun Q' => p_many (Q := Q') (k := 5) M1 (by omega) hM.2.1.2.2.2.2.2.1.1 (by omega)
      simp only [kI_0, kI_1, kI_2, kI_3, kI_4, kI_5, kI_6, kI_7, kI_8, kI_9, kI_10, kI_11, kI_20, kI_24, kI_26, kI_35, kI_55, kI_75, kI_85, kI_109, kI_133, kI_157, kI_181, kI_205, kI_225, kI_245, kI_265, kI_285, kI_305] at m2
      by_cases q3 : k < nI (bL a).1
      · have lt := ix_lt (inb_l q1 q3 (by omega))
        have po := fun Q' => c_M_loggedOf (Q := Q') M1 hI lt hi
        rw [← nI_ix q1, ← e1] at po
        have sb : nI (bL a).1 - 1 - k = nI ((bL a).1 - 1 - ix k) := by
          rw [show nI (bL a).1 - 1 - k = nI (bL a).1 - 1 - nI (ix k) by rw [← nI_ix q1], show nI (bL a).1 - 1 = nI ((bL a).1 - 1) from nI_sub (b := 1) (by omega), nI_sub (by omega)]
        rw [sb] at hQ
        simp only [x_M_logged_0, x_M_logged_1, x_M_logged_2, x_M_logged_5, x_M_logged_6, x_M_logged_9, x_M_logged_10, x_M_logged_11, x_M_logged_12, x_M_logged_15, x_M_logged_18, x_M_logged_21, x_M_logged_22, x_M_logged_23, x_M_logged_26, x_M_logged_27, x_M_logged_28, x_M_logged_29, x_M_logged_30, x_M_logged_31, x_M_logged_34, x_M_logged_37, x_M_logged_38, x_M_logged_39, x_M_logged_40, x_M_logged_43, x_M_logged_46, x_M_logged_49, k0, q1, c_M_in, i2, q2, m2, q3, po, e10, Bool.true_eq_false, bI_0, bI_t, bI_f, e10, isA30, isA31, isA33, isA40, isA42, isA43, rOkB0, rOkB1, rOkB, Ret_v, Ret_n, cmp_eq, cmp_lt, cmp_gt, nI_1, eq_self, if_true, if_false, reduceIte]
        exact hQ
      · have inb1 : inb (nI (bL a).1 - 1 - k) (bL a).1 = false := by
          have b1 := Int32.toInt_lt k
          rw [Int32.lt_iff_toInt_lt, nI_toInt (by omega)] at q3
          refine inb_n1 ?_
          rw [Int32.lt_iff_toInt_lt, Int32.toInt_zero, Int32.toInt_sub, Int32.toInt_sub, nI_toInt (by omega), show (1 : Int32).toInt = 1 by decide]
          rw [Int.bmod_eq_of_le (n := (bL a).1 - 1) (by omega) (by omega), Int.bmod_eq_of_le (by omega) (by omega)]
          omega
        have z : prV (bL a) (nI (bL a).1 - 1 - k) i = -1 := by
          unfold prV
          rw [inb1]
          rcases (show i = 0 ∨ i = 1 ∨ i = 2 by omega) with e | e | e <;> subst e <;> rfl
        rw [z] at hQ
        simp only [x_M_logged_0, x_M_logged_1, x_M_logged_2, x_M_logged_5, x_M_logged_6, x_M_logged_9, x_M_logged_10, x_M_logged_11, x_M_logged_12, x_M_logged_15, x_M_logged_18, x_M_logged_21, x_M_logged_22, x_M_logged_23, x_M_logged_26, x_M_logged_27, x_M_logged_28, x_M_logged_29, x_M_logged_30, x_M_logged_31, x_M_logged_34, x_M_logged_37, x_M_logged_38, x_M_logged_39, x_M_logged_40, x_M_logged_43, x_M_logged_46, x_M_logged_49, k0, q1, c_M_in, i2, q2, m2, q3, e10, Bool.true_eq_false, bI_0, bI_t, bI_f, e10, isA30, isA31, isA33, isA40, isA42, isA43, rOkB0, rOkB1, rOkB, Ret_v, Ret_n, cmp_eq, cmp_lt, cmp_gt, nI_1, eq_self, if_true, if_false, reduceIte]
        exact hQ
theorem l_M_beside (hS : MyS R S) (hP : MpD I) {i : Nat} (hi : i < 26) : ∀ d j m : Nat, j + d = 26 → Wp 225 4 [.ref 187, .int (nI i), .int (nI m), .int (nI j)] [] I J R S Q = Q 0 (some (.int (nI (m + cnt (tch i) j d)))) I J R S := by
  have k0 := hS.1.1
  intro d
  induction d with
  | zero =>
    intro j m hj
    have e : ¬ nI j < 26 := by rw [show (26 : Int32) = nI 26 by decide]; exact nI_nlt (by omega) (by omega)
    rw [x_M_beside_4]
    simp only [x_M_beside_0, x_M_beside_1, x_M_beside_2, x_M_beside_3, x_M_beside_5, x_M_beside_7, x_M_beside_10, x_M_beside_11, x_M_beside_12, x_M_beside_13, x_M_beside_14, x_M_beside_17, x_M_beside_20, x_M_beside_21, x_M_beside_24, x_M_beside_25, x_M_beside_26, x_M_beside_27, x_M_beside_30, x_M_beside_33, x_M_beside_34, e, cnt, Nat.add_zero, bI_0, bI_t, bI_f, e10, isA30, isA31, isA33, isA40, isA42, isA43, rOkB0, rOkB1, rOkB, Ret_v, Ret_n, cmp_eq, cmp_lt, cmp_gt, nI_1, eq_self, if_true, if_false, reduceIte]
  | succ d ih =>
    intro j m hj
    have e : nI j < 26 := by rw [show (26 : Int32) = nI 26 by decide]; exact nI_lt (by omega) (by omega)
    have br := fun Q' => c_M_areBeside (Q := Q') (J := J) hS hP hi (show j < 26 by omega)
    rw [x_M_beside_4]
    cases q : tch i j
    · have l := ih (j + 1) m (by omega)
      simp only [x_M_beside_0, x_M_beside_1, x_M_beside_2, x_M_beside_3, x_M_beside_5, x_M_beside_7, x_M_beside_10, x_M_beside_11, x_M_beside_12, x_M_beside_13, x_M_beside_14, x_M_beside_17, x_M_beside_20, x_M_beside_21, x_M_beside_24, x_M_beside_25, x_M_beside_26, x_M_beside_27, x_M_beside_30, x_M_beside_33, x_M_beside_34, e, k0, br, q, nI_1', Int32.add_zero, cnt, Bool.false_eq_true, Nat.zero_add, l, bI_0, bI_t, bI_f, e10, isA30, isA31, isA33, isA40, isA42, isA43, rOkB0, rOkB1, rOkB, Ret_v, Ret_n, cmp_eq, cmp_lt, cmp_gt, nI_1, eq_self, if_true, if_false, reduceIte]
    · have l := ih (j + 1) (m + 1) (by omega)
      simp only [x_M_beside_0, x_M_beside_1, x_M_beside_2, x_M_beside_3, x_M_beside_5, x_M_beside_7, x_M_beside_10, x_M_beside_11, x_M_beside_12, x_M_beside_13, x_M_beside_14, x_M_beside_17, x_M_beside_20, x_M_beside_21, x_M_beside_24, x_M_beside_25, x_M_beside_26, x_M_beside_27, x_M_beside_30, x_M_beside_33, x_M_beside_34, e, k0, br, q, nI_1', cnt, Bool.true_eq_false, l, e10, bI_0, bI_t, bI_f, e10, isA30, isA31, isA33, isA40, isA42, isA43, rOkB0, rOkB1, rOkB, Ret_v, Ret_n, cmp_eq, cmp_lt, cmp_gt, nI_1, eq_self, if_true, if_false, reduceIte]
      rw [show m + 1 + cnt (tch i) (j + 1) d = m + (1 + cnt (tch i) (j + 1) d) by omega]
theorem c_M_key (hM : MOk I J R S a n s x l qt) (hQ1 : (okLet k && ok6 c 4) = false → ∀ I', kM I J R I' J R → MOk I' J R S a n s x l qt → I' 187 4 = 1 → Q 0 (some (.int 0)) I' J R S) (hQ : (okLet k && ok6 c 4) = true → ∀ I', kM I J R I' J R → MOk I' J R S a n s x l qt → I' 187 4 = 0 → Q 0 (some (.int (kyV a (ix k) (ix c)))) I' J R S) : Wp 226 0 [.ref 187, .int k, .int c] [] I J R S Q := by
  have s1 : ∀ c, mZ I J (u2 (u2 I 187 4 0) 187 4 c) J := fun c => mZ_trans (mZ_f (by omega)) (mZ_f (by omega))
  have s2 : mZ I J (u2 I 187 4 0) J := mZ_f (by omega)
  have M1 := MOk_Z hM s2
  have i4 : inL c.toInt64 0 4 = ok6 c 4 := inL_ok6 (by decide)
  have hS := hM.1
  obtain ⟨k0, k1, n1, r0⟩ := hM.1.1
  cases q1 : okLet k
  · simp only [x_M_key_0, x_M_key_1, x_M_key_2, x_M_key_5, x_M_key_6, x_M_key_7, x_M_key_8, x_M_key_11, x_M_key_14, x_M_key_17, x_M_key_18, x_M_key_19, x_M_key_20, x_M_key_23, x_M_key_26, x_M_key_29, x_M_key_30, x_M_key_31, x_M_key_34, x_M_key_35, x_M_key_36, x_M_key_37, x_M_key_40, x_M_key_41, x_M_key_44, x_M_key_45, x_M_key_48, x_M_key_49, x_M_key_50, x_M_key_52, x_M_key_53, x_M_key_56, x_M_key_57, x_M_key_60, x_M_key_61, x_M_key_62, x_M_key_64, x_M_key_65, x_M_key_66, x_M_key_67, x_M_key_68, x_M_key_71, x_M_key_72, x_M_key_73, x_M_key_76, x_M_key_79, x_M_key_80, x_M_key_81, x_M_key_84, x_M_key_85, x_M_key_88, x_M_key_90, x_M_key_91, x_M_key_92, x_M_key_93, x_M_key_94, x_M_key_97, x_M_key_98, x_M_key_99, x_M_key_102, k0, c_M_in, inL_let, q1, c_M_fails k0, bI_0, bI_t, bI_f, e10, isA30, isA31, isA33, isA40, isA42, isA43, rOkB0, rOkB1, rOkB, Ret_v, Ret_n, cmp_eq, cmp_lt, cmp_gt, nI_1, eq_self, if_true, if_false, reduceIte]
    exact hQ1 (by rw [q1]; rfl) _ (kM_Z (s1 1)) (MOk_Z hM (s1 1)) u2_eq
  · cases q2 : ok6 c 4
    · simp only [x_M_key_0, x_M_key_1, x_M_key_2, x_M_key_5, x_M_key_6, x_M_key_7, x_M_key_8, x_M_key_11, x_M_key_14, x_M_key_17, x_M_key_18, x_M_key_19, x_M_key_20, x_M_key_23, x_M_key_26, x_M_key_29, x_M_key_30, x_M_key_31, x_M_key_34, x_M_key_35, x_M_key_36, x_M_key_37, x_M_key_40, x_M_key_41, x_M_key_44, x_M_key_45, x_M_key_48, x_M_key_49, x_M_key_50, x_M_key_52, x_M_key_53, x_M_key_56, x_M_key_57, x_M_key_60, x_M_key_61, x_M_key_62, x_M_key_64, x_M_key_65, x_M_key_66, x_M_key_67, x_M_key_68, x_M_key_71, x_M_key_72, x_M_key_73, x_M_key_76, x_M_key_79, x_M_key_80, x_M_key_81, x_M_key_84, x_M_key_85, x_M_key_88, x_M_key_90, x_M_key_91, x_M_key_92, x_M_key_93, x_M_key_94, x_M_key_97, x_M_key_98, x_M_key_99, x_M_key_102, k0, c_M_in, inL_let, i4, q1, q2, c_M_fails k0, e10, Bool.true_eq_false, bI_0, bI_t, bI_f, e10, isA30, isA31, isA33, isA40, isA42, isA43, rOkB0, rOkB1, rOkB, Ret_v, Ret_n, cmp_eq, cmp_lt, cmp_gt, nI_1, eq_self, if_true, if_false, reduceIte]
      exact hQ1 (by rw [q1, q2]; rfl) _ (kM_Z (s1 1)) (MOk_Z hM (s1 1)) u2_eq
    · have hZ := hQ (by rw [q1, q2]; rfl) _ (kM_Z s2) M1 u2_eq
      obtain ⟨i, hi, e1, e2⟩ := ok6_n (by omega) q2
      obtain ⟨j, hj, e3⟩ := okLet_n q1
      have e4 : ix k = j := by rw [e3, ix_nI (by omega)]
      rw [e2, e4] at hZ
      have P1 : MpD (u2 I 187 4 0) := M1.2.2.2.2.2.2.2.2.1
      have pj := P1 j hj
      have pd := plc_d j hj
      have b1 := inb_nI hj (by omega)
      have b2 : ix (nI j) = j := ix_nI (by omega)
      obtain ⟨-, -, -, sp, lp, -, -, -, -, -, -, -, -, -, -, -, -, -, -, -, r5, -⟩ := hS
      subst e3
      rw [e1] at q2 i4 ⊢
      rcases (show i = 0 ∨ i = 1 ∨ i = 2 ∨ i = 3 ∨ i = 4 by omega) with e | e | e | e | e <;> subst e
      · simp only [kI_0, kI_1, kI_2, kI_3, kI_4, kI_5, kI_6, kI_7, kI_8, kI_9, kI_10, kI_11, kI_20, kI_24, kI_26, kI_35, kI_55, kI_75, kI_85, kI_109, kI_133, kI_157, kI_181, kI_205, kI_225, kI_245, kI_265, kI_285, kI_305] at q2 i4 ⊢
        simp only [x_M_key_0, x_M_key_1, x_M_key_2, x_M_key_5, x_M_key_6, x_M_key_7, x_M_key_8, x_M_key_11, x_M_key_14, x_M_key_17, x_M_key_18, x_M_key_19, x_M_key_20, x_M_key_23, x_M_key_26, x_M_key_29, x_M_key_30, x_M_key_31, x_M_key_34, x_M_key_35, x_M_key_36, x_M_key_37, x_M_key_40, x_M_key_41, x_M_key_44, x_M_key_45, x_M_key_48, x_M_key_49, x_M_key_50, x_M_key_52, x_M_key_53, x_M_key_56, x_M_key_57, x_M_key_60, x_M_key_61, x_M_key_62, x_M_key_64, x_M_key_65, x_M_key_66, x_M_key_67, x_M_key_68, x_M_key_71, x_M_key_72, x_M_key_73, x_M_key_76, x_M_key_79, x_M_key_80, x_M_key_81, x_M_key_84, x_M_key_85, x_M_key_88, x_M_key_90, x_M_key_91, x_M_key_92, x_M_key_93, x_M_key_94, x_M_key_97, x_M_key_98, x_M_key_99, x_M_key_102, k0, sp, lp, r5, c_M_in, inL_let, i4, q1, q2, b1, b2, pj, pd.1, n100, not_false_eq_true, show (0 : Int32) < 2 by decide, e10, Bool.true_eq_false, bI_0, bI_t, bI_f, e10, isA30, isA31, isA33, isA40, isA42, isA43, rOkB0, rOkB1, rOkB, Ret_v, Ret_n, cmp_eq, cmp_lt, cmp_gt, nI_1, eq_self, if_true, if_false, reduceIte]
        exact hZ
      · simp only [kI_0, kI_1, kI_2, kI_3, kI_4, kI_5, kI_6, kI_7, kI_8, kI_9, kI_10, kI_11, kI_20, kI_24, kI_26, kI_35, kI_55, kI_75, kI_85, kI_109, kI_133, kI_157, kI_181, kI_205, kI_225, kI_245, kI_265, kI_285, kI_305] at q2 i4 ⊢
        simp only [x_M_key_0, x_M_key_1, x_M_key_2, x_M_key_5, x_M_key_6, x_M_key_7, x_M_key_8, x_M_key_11, x_M_key_14, x_M_key_17, x_M_key_18, x_M_key_19, x_M_key_20, x_M_key_23, x_M_key_26, x_M_key_29, x_M_key_30, x_M_key_31, x_M_key_34, x_M_key_35, x_M_key_36, x_M_key_37, x_M_key_40, x_M_key_41, x_M_key_44, x_M_key_45, x_M_key_48, x_M_key_49, x_M_key_50, x_M_key_52, x_M_key_53, x_M_key_56, x_M_key_57, x_M_key_60, x_M_key_61, x_M_key_62, x_M_key_64, x_M_key_65, x_M_key_66, x_M_key_67, x_M_key_68, x_M_key_71, x_M_key_72, x_M_key_73, x_M_key_76, x_M_key_79, x_M_key_80, x_M_key_81, x_M_key_84, x_M_key_85, x_M_key_88, x_M_key_90, x_M_key_91, x_M_key_92, x_M_key_93, x_M_key_94, x_M_key_97, x_M_key_98, x_M_key_99, x_M_key_102, k0, sp, lp, r5, c_M_in, inL_let, i4, q1, q2, b1, b2, pj, pd.2, n100, not_false_eq_true, show (1 : Int32) < 2 by decide, e10, Bool.true_eq_false, bI_0, bI_t, bI_f, e10, isA30, isA31, isA33, isA40, isA42, isA43, rOkB0, rOkB1, rOkB, Ret_v, Ret_n, cmp_eq, cmp_lt, cmp_gt, nI_1, eq_self, if_true, if_false, reduceIte]
        exact hZ
      · have hd := fun Q' => c_M_hand (Q := Q') (J := J) hM.1 P1 hj
        simp only [kI_0, kI_1, kI_2, kI_3, kI_4, kI_5, kI_6, kI_7, kI_8, kI_9, kI_10, kI_11, kI_20, kI_24, kI_26, kI_35, kI_55, kI_75, kI_85, kI_109, kI_133, kI_157, kI_181, kI_205, kI_225, kI_245, kI_265, kI_285, kI_305] at q2 i4 ⊢
        simp only [x_M_key_0, x_M_key_1, x_M_key_2, x_M_key_5, x_M_key_6, x_M_key_7, x_M_key_8, x_M_key_11, x_M_key_14, x_M_key_17, x_M_key_18, x_M_key_19, x_M_key_20, x_M_key_23, x_M_key_26, x_M_key_29, x_M_key_30, x_M_key_31, x_M_key_34, x_M_key_35, x_M_key_36, x_M_key_37, x_M_key_40, x_M_key_41, x_M_key_44, x_M_key_45, x_M_key_48, x_M_key_49, x_M_key_50, x_M_key_52, x_M_key_53, x_M_key_56, x_M_key_57, x_M_key_60, x_M_key_61, x_M_key_62, x_M_key_64, x_M_key_65, x_M_key_66, x_M_key_67, x_M_key_68, x_M_key_71, x_M_key_72, x_M_key_73, x_M_key_76, x_M_key_79, x_M_key_80, x_M_key_81, x_M_key_84, x_M_key_85, x_M_key_88, x_M_key_90, x_M_key_91, x_M_key_92, x_M_key_93, x_M_key_94, x_M_key_97, x_M_key_98, x_M_key_99, x_M_key_102, k0, c_M_in, inL_let, i4, q1, q2, hd, show ¬ (2 : Int32) < 2 by decide, e10, Bool.true_eq_false, bI_0, bI_t, bI_f, e10, isA30, isA31, isA33, isA40, isA42, isA43, rOkB0, rOkB1, rOkB, Ret_v, Ret_n, cmp_eq, cmp_lt, cmp_gt, nI_1, eq_self, if_true, if_false, reduceIte]
        exact hZ
      · have f1 := inb_nI (i := 9 + j) (n := 305) (by omega) (by omega)
        have f2 : ix (nI (9 + j)) = 9 + j := ix_nI (by omega)
        have v := hM.2.1.2.2.2.2.2.2.2 j hj
        simp only [kI_0, kI_1, kI_2, kI_3, kI_4, kI_5, kI_6, kI_7, kI_8, kI_9, kI_10, kI_11, kI_20, kI_24, kI_26, kI_35, kI_55, kI_75, kI_85, kI_109, kI_133, kI_157, kI_181, kI_205, kI_225, kI_245, kI_265, kI_285, kI_305] at q2 i4 ⊢
        simp only [x_M_key_0, x_M_key_1, x_M_key_2, x_M_key_5, x_M_key_6, x_M_key_7, x_M_key_8, x_M_key_11, x_M_key_14, x_M_key_17, x_M_key_18, x_M_key_19, x_M_key_20, x_M_key_23, x_M_key_26, x_M_key_29, x_M_key_30, x_M_key_31, x_M_key_34, x_M_key_35, x_M_key_36, x_M_key_37, x_M_key_40, x_M_key_41, x_M_key_44, x_M_key_45, x_M_key_48, x_M_key_49, x_M_key_50, x_M_key_52, x_M_key_53, x_M_key_56, x_M_key_57, x_M_key_60, x_M_key_61, x_M_key_62, x_M_key_64, x_M_key_65, x_M_key_66, x_M_key_67, x_M_key_68, x_M_key_71, x_M_key_72, x_M_key_73, x_M_key_76, x_M_key_79, x_M_key_80, x_M_key_81, x_M_key_84, x_M_key_85, x_M_key_88, x_M_key_90, x_M_key_91, x_M_key_92, x_M_key_93, x_M_key_94, x_M_key_97, x_M_key_98, x_M_key_99, x_M_key_102, k0, k1, n1, r0, c_M_in, inL_let, i4, q1, q2, f1, f2, v, i64_32, show ¬ (3 : Int32) < 2 by decide, show ¬ (3 : Int32) = 2 by decide, e10, Bool.true_eq_false, pK_6, pK_9, pK_35, pK_55, pK_75, pK_85, pK_109, pK_133, pK_157, pK_181, pK_205, pK_225, pK_245, pK_265, pK_285, inK_0, inK_1, inK_2, inK_3, inK_4, inK_5, inK_6, inK_7, inK_8, ixK_0, ixK_1, ixK_2, ixK_3, ixK_4, ixK_5, ixK_6, ixK_7, ixK_8, bI_0, bI_t, bI_f, e10, isA30, isA31, isA33, isA40, isA42, isA43, rOkB0, rOkB1, rOkB, Ret_v, Ret_n, cmp_eq, cmp_lt, cmp_gt, nI_1, eq_self, if_true, if_false, reduceIte]
        exact hZ
      · have lb := fun Q' => l_M_beside (Q := Q') (J := J) hM.1 P1 hj 26 0 0 (by omega)
        simp only [kI_0, kI_1, kI_2, kI_3, kI_4, kI_5, kI_6, kI_7, kI_8, kI_9, kI_10, kI_11, kI_20, kI_24, kI_26, kI_35, kI_55, kI_75, kI_85, kI_109, kI_133, kI_157, kI_181, kI_205, kI_225, kI_245, kI_265, kI_285, kI_305, Nat.zero_add] at q2 i4 lb ⊢
        simp only [x_M_key_0, x_M_key_1, x_M_key_2, x_M_key_5, x_M_key_6, x_M_key_7, x_M_key_8, x_M_key_11, x_M_key_14, x_M_key_17, x_M_key_18, x_M_key_19, x_M_key_20, x_M_key_23, x_M_key_26, x_M_key_29, x_M_key_30, x_M_key_31, x_M_key_34, x_M_key_35, x_M_key_36, x_M_key_37, x_M_key_40, x_M_key_41, x_M_key_44, x_M_key_45, x_M_key_48, x_M_key_49, x_M_key_50, x_M_key_52, x_M_key_53, x_M_key_56, x_M_key_57, x_M_key_60, x_M_key_61, x_M_key_62, x_M_key_64, x_M_key_65, x_M_key_66, x_M_key_67, x_M_key_68, x_M_key_71, x_M_key_72, x_M_key_73, x_M_key_76, x_M_key_79, x_M_key_80, x_M_key_81, x_M_key_84, x_M_key_85, x_M_key_88, x_M_key_90, x_M_key_91, x_M_key_92, x_M_key_93, x_M_key_94, x_M_key_97, x_M_key_98, x_M_key_99, x_M_key_102, x_M_beside_0, x_M_beside_1, x_M_beside_2, x_M_beside_3, x_M_beside_5, x_M_beside_7, x_M_beside_10, x_M_beside_11, x_M_beside_12, x_M_beside_13, x_M_beside_14, x_M_beside_17, x_M_beside_20, x_M_beside_21, x_M_beside_24, x_M_beside_25, x_M_beside_26, x_M_beside_27, x_M_beside_30, x_M_beside_33, x_M_beside_34, k0, c_M_in, inL_let, i4, q1, q2, lb, show ¬ (4 : Int32) < 2 by decide, show ¬ (4 : Int32) = 2 by decide, show ¬ (4 : Int32) = 3 by decide, e10, Bool.true_eq_false, bI_0, bI_t, bI_f, e10, isA30, isA31, isA33, isA40, isA42, isA43, rOkB0, rOkB1, rOkB, Ret_v, Ret_n, cmp_eq, cmp_lt, cmp_gt, nI_1, eq_self, if_true, if_false, reduceIte]
        exact hZ
theorem c_M_whole (hM : MOk I J R S a n s x l qt) (hI : BkI T a) (hQ1 : ok6 k 11 = false → ∀ I', kM I J R I' J R → MOk I' J R S a n s x l qt → I' 187 4 = 1 → Q 0 (some (.int 0)) I' J R S) (hQ : ok6 k 11 = true → ∀ I', kM I J R I' J R → MOk I' J R S a n s x l qt → I' 187 4 = 0 → Q 0 (some (.int (whV a l (ix k)))) I' J R S) : Wp 228 0 [.ref 187, .int k] [] I J R S Q := by
  have s1 : ∀ c, mZ I J (u2 (u2 I 187 4 0) 187 4 c) J := fun c => mZ_trans (mZ_f (by omega)) (mZ_f (by omega))
  have s2 : mZ I J (u2 I 187 4 0) J := mZ_f (by omega)
  have M1 := MOk_Z hM s2
  have i4 : inL k.toInt64 0 11 = ok6 k 11 := inL_ok6 (by decide)
  have k0 := hM.1.1.1
  cases q2 : ok6 k 11
  · simp only [x_M_whole_0, x_M_whole_1, x_M_whole_2, x_M_whole_5, x_M_whole_6, x_M_whole_7, x_M_whole_8, x_M_whole_11, x_M_whole_14, x_M_whole_17, x_M_whole_18, x_M_whole_19, x_M_whole_22, x_M_whole_25, x_M_whole_26, x_M_whole_27, x_M_whole_30, k0, c_M_in, i4, q2, c_M_fails k0, bI_0, bI_t, bI_f, e10, isA30, isA31, isA33, isA40, isA42, isA43, rOkB0, rOkB1, rOkB, Ret_v, Ret_n, cmp_eq, cmp_lt, cmp_gt, nI_1, eq_self, if_true, if_false, reduceIte]
    exact hQ1 q2 _ (kM_Z (s1 1)) (MOk_Z hM (s1 1)) u2_eq
  · obtain ⟨i, hi, e1, e2⟩ := ok6_n (by omega) q2
    have wo := fun Q' => c_M_wholeOf (Q := Q') M1 hI i hi
    rw [← e1] at wo
    simp only [x_M_whole_0, x_M_whole_1, x_M_whole_2, x_M_whole_5, x_M_whole_6, x_M_whole_7, x_M_whole_8, x_M_whole_11, x_M_whole_14, x_M_whole_17, x_M_whole_18, x_M_whole_19, x_M_whole_22, x_M_whole_25, x_M_whole_26, x_M_whole_27, x_M_whole_30, k0, c_M_in, i4, q2, wo, e10, Bool.true_eq_false, bI_0, bI_t, bI_f, e10, isA30, isA31, isA33, isA40, isA42, isA43, rOkB0, rOkB1, rOkB, Ret_v, Ret_n, cmp_eq, cmp_lt, cmp_gt, nI_1, eq_self, if_true, if_false, reduceIte]
    rw [← e2]
    exact hQ q2 _ (kM_Z s2) M1 u2_eq
end MT1
