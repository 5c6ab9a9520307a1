/-! the model: words and names -/
section MI9
variable {I I' : MI} {J J' : MJ} {R : MR} {S : Sh} {Q : SkQ} {f g h : Nat → Int64} {b n k l T : Nat} {w u v t : Int64} {a a' : Bk} {p q r : Rw} {c y qt : Int32} {s : Nat → Bk} {x : Nat → Int32}
theorem u2_jn' {k : Nat} : u2 J 188 k v = jn J (ju (J 188) k v) := by
  have := u2_jn (J := J) (f := J 188) (k := k) (v := v)
  rwa [jn_self] at this
theorem i64_32 {x : Int32} : x.toInt64.toInt32 = x := by
  rw [← Int32.toInt_inj, Int64.toInt_toInt32, Int32.toInt_toInt64]
  have := Int32.le_toInt x
  have := Int32.toInt_lt x
  exact Int.bmod_eq_of_le (by omega) (by omega)
theorem c_M_fails (hS : S.1 187 = 8) : Wp 175 0 [.ref 187, .int c] [] I J R S Q = Q 0 (some (.int 0)) (u2 I 187 4 c) J R S := by
  simp only [x_M_fails_0, x_M_fails_1, x_M_fails_2, x_M_fails_5, x_M_fails_6, hS, bI_0, bI_t, bI_f, e10, isA30, isA31, isA33, isA40, isA42, isA43, rOkB0, rOkB1, rOkB, Ret_v, Ret_n, cmp_eq, cmp_lt, cmp_gt, nI_1, eq_self, if_true, if_false, reduceIte]
theorem p_many (hM : MOk I J R S a n s x l qt) (hk : k < 305) {m : Nat} (h : J 188 k = lW m) (hm : m < 2 ^ 31) : Wp 177 0 [.ref 187, .int (nI k)] [] I J R S Q = Q 0 (some (.int (nI m))) I J R S := by
  have := mmany (Q := Q) (I := I) (J := J) (f := J 188) hM.1.1 hk h hm
  rw [jn_self] at this
  exact this
theorem p_place (hM : MOk I J R S a n s x l qt) (hI : BkI T a) : Wp 184 0 [.ref 187, .long w, nov] [] I J R S Q = Q 0 (some (.int (frI (fw (bW a) w) (bW a).1))) I J R S := by
  have := c_M_place (Q := Q) (I := I) (J := J) (f := J 188) (w := w) hM.1.1 hM.2.1 hI
  rw [jn_self] at this
  exact this
theorem p_isName (hM : MOk I J R S a n s x l qt) (hI : BkI T a) : Wp 185 0 [.ref 187, .long w, nov] [] I J R S Q = Q 0 (some (.int (bI (hasN a w)))) I J R S := by
  have := c_M_isName (Q := Q) (I := I) (J := J) (f := J 188) (w := w) hM.1.1 hM.2.1 hI
  rw [jn_self] at this
  exact this
theorem p_isBanned (hM : MOk I J R S a n s x l qt) (hI : BkI T a) : Wp 186 0 [.ref 187, .long t, nov, .long w, nov] [] I J R S Q = Q 0 (some (.int (bI (isB a t w)))) I J R S := by
  have := c_M_isBanned (Q := Q) (I := I) (J := J) (f := J 188) (t := t) (w := w) hM.1.1 hM.2.1 hI
  rw [jn_self] at this
  exact this
theorem inL_i {lo hi : Int32} : inL c.toInt64 lo.toInt64 hi.toInt64 = (!decide (c < lo) && !decide (hi < c)) := by
  unfold inL
  rw [show decide (c.toInt64 < lo.toInt64) = decide (c < lo) by simp only [i64_lt], show decide (hi.toInt64 < c.toInt64) = decide (hi < c) by simp only [i64_lt]]
theorem inL_cnt : inL c.toInt64 1 999 = okCnt c := by
  rw [show (1 : Int64) = (1 : Int32).toInt64 by decide, show (999 : Int64) = (999 : Int32).toInt64 by decide, inL_i]
  rfl
theorem inL_stk : inL c.toInt64 0 2 = okStk c := by
  rw [show (0 : Int64) = (0 : Int32).toInt64 by decide, show (2 : Int64) = (2 : Int32).toInt64 by decide, inL_i]
  rfl
theorem inL_let : inL c.toInt64 0 25 = okLet c := by
  rw [show (0 : Int64) = (0 : Int32).toInt64 by decide, show (25 : Int64) = (25 : Int32).toInt64 by decide, inL_i]
  unfold okLet
  have e : (!decide (25 < c)) = decide (c < 26) := by
    rw [Bool.eq_iff_iff, Bool.not_eq_true', decide_eq_false_iff_not, decide_eq_true_eq, Int32.lt_iff_toInt_lt, Int32.lt_iff_toInt_lt, show (25 : Int32).toInt = 25 by decide, show (26 : Int32).toInt = 26 by decide]
    omega
  rw [e]
theorem c_M_addWord (hM : MOk I J R S a n s x l qt) (hI : BkI T a) (hQ1 : (isW w && okCnt c) = false → ∀ I', kM I J R I' J R → MOk I' J R S a n s x l qt → I' 187 4 = 1 → Q 0 (some (.int 0)) I' J R S) (hQ2 : (isW w && okCnt c) = true → roomW a w = false → ∀ I', kM I J R I' J R → MOk I' J R S a n s x l qt → I' 187 4 = 2 → Q 0 (some (.int 0)) I' J R S) (hQ : (isW w && okCnt c) = true → roomW a w = true → ∀ I' J', kM I J R I' J' R → MOk I' J' R S (aPutW a w c) (qtN qt n) (qtS qt s n a) x l qt → I' 187 4 = 0 → Q 0 (some (.int (numW (bW a) w))) I' J' R S) : Wp 192 0 [.ref 187, .long w, nov, .int c, nov, nov] [] I J R S Q := by
  have k0 := hM.1.1.1
  have iW := hI.1
  have hF := BkF_of hI
  have s1 : ∀ c, mZ I J (u2 (u2 I 187 4 0) 187 4 c) J := fun c => mZ_trans (mZ_f (by omega)) (mZ_f (by omega))
  cases q1 : isW w
  · simp only [x_M_addWord_0, x_M_addWord_1, x_M_addWord_2, x_M_addWord_5, x_M_addWord_6, x_M_addWord_9, x_M_addWord_12, x_M_addWord_13, x_M_addWord_14, x_M_addWord_15, x_M_addWord_18, x_M_addWord_21, x_M_addWord_24, x_M_addWord_25, x_M_addWord_26, x_M_addWord_29, x_M_addWord_30, x_M_addWord_31, x_M_addWord_32, x_M_addWord_35, x_M_addWord_37, x_M_addWord_39, x_M_addWord_40, x_M_addWord_43, x_M_addWord_44, x_M_addWord_45, x_M_addWord_48, x_M_addWord_50, x_M_addWord_53, x_M_addWord_54, x_M_addWord_55, x_M_addWord_58, x_M_addWord_59, x_M_addWord_60, x_M_addWord_63, x_M_addWord_65, x_M_addWord_66, x_M_addWord_69, x_M_addWord_70, x_M_addWord_73, x_M_addWord_75, x_M_addWord_77, x_M_addWord_78, x_M_addWord_79, x_M_addWord_80, x_M_addWord_82, x_M_addWord_83, x_M_addWord_86, x_M_addWord_88, x_M_addWord_90, x_M_addWord_91, x_M_addWord_92, x_M_addWord_93, x_M_addWord_94, x_M_addWord_96, x_M_addWord_97, x_M_addWord_98, x_M_addWord_100, x_M_addWord_101, x_M_addWord_102, x_M_addWord_105, x_M_addWord_106, x_M_addWord_109, x_M_addWord_111, x_M_addWord_112, x_M_addWord_114, x_M_addWord_115, x_M_addWord_116, x_M_addWord_119, x_M_addWord_121, x_M_addWord_122, x_M_addWord_125, x_M_addWord_126, x_M_addWord_128, x_M_addWord_129, x_M_addWord_130, x_M_addWord_133, x_M_addWord_135, x_M_addWord_136, x_M_addWord_137, x_M_addWord_140, x_M_addWord_141, x_M_addWord_144, x_M_addWord_145, x_M_addWord_146, x_M_addWord_147, x_M_addWord_148, x_M_addWord_149, x_M_addWord_150, x_M_addWord_151, k0, c_M_isWord, q1, c_M_fails k0, bI_0, bI_t, bI_f, e10, isA30, isA31, isA33, isA40, isA42, isA43, rOkB0, rOkB1, rOkB, Ret_v, Ret_n, cmp_eq, cmp_lt, cmp_gt, nI_1, eq_self, if_true, if_false, reduceIte]
    exact hQ1 (by rw [q1]; rfl) _ (kM_Z (s1 1)) (MOk_Z hM (s1 1)) u2_eq
  · cases q2 : okCnt c
    · simp only [x_M_addWord_0, x_M_addWord_1, x_M_addWord_2, x_M_addWord_5, x_M_addWord_6, x_M_addWord_9, x_M_addWord_12, x_M_addWord_13, x_M_addWord_14, x_M_addWord_15, x_M_addWord_18, x_M_addWord_21, x_M_addWord_24, x_M_addWord_25, x_M_addWord_26, x_M_addWord_29, x_M_addWord_30, x_M_addWord_31, x_M_addWord_32, x_M_addWord_35, x_M_addWord_37, x_M_addWord_39, x_M_addWord_40, x_M_addWord_43, x_M_addWord_44, x_M_addWord_45, x_M_addWord_48, x_M_addWord_50, x_M_addWord_53, x_M_addWord_54, x_M_addWord_55, x_M_addWord_58, x_M_addWord_59, x_M_addWord_60, x_M_addWord_63, x_M_addWord_65, x_M_addWord_66, x_M_addWord_69, x_M_addWord_70, x_M_addWord_73, x_M_addWord_75, x_M_addWord_77, x_M_addWord_78, x_M_addWord_79, x_M_addWord_80, x_M_addWord_82, x_M_addWord_83, x_M_addWord_86, x_M_addWord_88, x_M_addWord_90, x_M_addWord_91, x_M_addWord_92, x_M_addWord_93, x_M_addWord_94, x_M_addWord_96, x_M_addWord_97, x_M_addWord_98, x_M_addWord_100, x_M_addWord_101, x_M_addWord_102, x_M_addWord_105, x_M_addWord_106, x_M_addWord_109, x_M_addWord_111, x_M_addWord_112, x_M_addWord_114, x_M_addWord_115, x_M_addWord_116, x_M_addWord_119, x_M_addWord_121, x_M_addWord_122, x_M_addWord_125, x_M_addWord_126, x_M_addWord_128, x_M_addWord_129, x_M_addWord_130, x_M_addWord_133, x_M_addWord_135, x_M_addWord_136, x_M_addWord_137, x_M_addWord_140, x_M_addWord_141, x_M_addWord_144, x_M_addWord_145, x_M_addWord_146, x_M_addWord_147, x_M_addWord_148, x_M_addWord_149, x_M_addWord_150, x_M_addWord_151, k0, c_M_isWord, c_M_in, inL_cnt, q1, q2, c_M_fails k0, e10, bI_0, bI_t, bI_f, e10, isA30, isA31, isA33, isA40, isA42, isA43, rOkB0, rOkB1, rOkB, Ret_v, Ret_n, cmp_eq, cmp_lt, cmp_gt, nI_1, eq_self, if_true, if_false, reduceIte]
      exact hQ1 (by rw [q1, q2]; rfl) _ (kM_Z (s1 1)) (MOk_Z hM (s1 1)) u2_eq
    · have ok : (isW w && okCnt c) = true := by rw [q1, q2]; rfl
      have s2 : mZ I J (u2 I 187 4 0) J := mZ_f (by omega)
      have M1 := MOk_Z hM s2
      have pl := fun Q' => p_place (Q := Q') (w := w) M1 hI
      have m0 := fun Q' => p_many (Q := Q') (k := 0) M1 (by omega) hM.2.1.1.1 (by omega)
      simp only [kI_0, kI_1, kI_2, kI_3, kI_4, kI_5, kI_6, kI_7, kI_8, kI_9, kI_10, kI_11, kI_20, kI_24, kI_26, kI_35, kI_55, kI_75, kI_85, kI_109, kI_133, kI_157, kI_181, kI_205, kI_225, kI_245, kI_265, kI_285, kI_305] at m0
      by_cases q3 : fw (bW a) w < (bW a).1
      · have rm : roomW a w = true := by
          unfold roomW hasW
          rw [decide_eq_true q3, Bool.or_true]
        have ne := frI_t q3 (by omega)
        rw [frI_lt q3] at pl ne
        simp only [x_M_addWord_0, x_M_addWord_1, x_M_addWord_2, x_M_addWord_5, x_M_addWord_6, x_M_addWord_9, x_M_addWord_12, x_M_addWord_13, x_M_addWord_14, x_M_addWord_15, x_M_addWord_18, x_M_addWord_21, x_M_addWord_24, x_M_addWord_25, x_M_addWord_26, x_M_addWord_29, x_M_addWord_30, x_M_addWord_31, x_M_addWord_32, x_M_addWord_35, x_M_addWord_37, x_M_addWord_39, x_M_addWord_40, x_M_addWord_43, x_M_addWord_44, x_M_addWord_45, x_M_addWord_48, x_M_addWord_50, x_M_addWord_53, x_M_addWord_54, x_M_addWord_55, x_M_addWord_58, x_M_addWord_59, x_M_addWord_60, x_M_addWord_63, x_M_addWord_65, x_M_addWord_66, x_M_addWord_69, x_M_addWord_70, x_M_addWord_73, x_M_addWord_75, x_M_addWord_77, x_M_addWord_78, x_M_addWord_79, x_M_addWord_80, x_M_addWord_82, x_M_addWord_83, x_M_addWord_86, x_M_addWord_88, x_M_addWord_90, x_M_addWord_91, x_M_addWord_92, x_M_addWord_93, x_M_addWord_94, x_M_addWord_96, x_M_addWord_97, x_M_addWord_98, x_M_addWord_100, x_M_addWord_101, x_M_addWord_102, x_M_addWord_105, x_M_addWord_106, x_M_addWord_109, x_M_addWord_111, x_M_addWord_112, x_M_addWord_114, x_M_addWord_115, x_M_addWord_116, x_M_addWord_119, x_M_addWord_121, x_M_addWord_122, x_M_addWord_125, x_M_addWord_126, x_M_addWord_128, x_M_addWord_129, x_M_addWord_130, x_M_addWord_133, x_M_addWord_135, x_M_addWord_136, x_M_addWord_137, x_M_addWord_140, x_M_addWord_141, x_M_addWord_144, x_M_addWord_145, x_M_addWord_146, x_M_addWord_147, x_M_addWord_148, x_M_addWord_149, x_M_addWord_150, x_M_addWord_151, k0, c_M_isWord, c_M_in, inL_cnt, q1, q2, pl, ne, e10, bI_0, bI_t, bI_f, e10, isA30, isA31, isA33, isA40, isA42, isA43, rOkB0, rOkB1, rOkB, Ret_v, Ret_n, cmp_eq, cmp_lt, cmp_gt, nI_1, eq_self, if_true, if_false, reduceIte]
        refine c_M_save M1 hF (fun I2 J2 f2 j2 t2 M2 => ?_)
        obtain ⟨-, k1, n1, r0⟩ := hM.1.1
        have e1 := inb_nI (i := 55 + fw (bW a) w) (n := 305) (by omega) (by omega)
        have e2 : ix (nI (55 + fw (bW a) w)) = 55 + fw (bW a) w := ix_nI (by omega)
        have v1 : J2 188 (55 + fw (bW a) w) = ((bW a).2.2.2 (fw (bW a) w)).toInt64 := M2.2.1.1.2.2 _ q3
        simp only [x_M_addWord_0, x_M_addWord_1, x_M_addWord_2, x_M_addWord_5, x_M_addWord_6, x_M_addWord_9, x_M_addWord_12, x_M_addWord_13, x_M_addWord_14, x_M_addWord_15, x_M_addWord_18, x_M_addWord_21, x_M_addWord_24, x_M_addWord_25, x_M_addWord_26, x_M_addWord_29, x_M_addWord_30, x_M_addWord_31, x_M_addWord_32, x_M_addWord_35, x_M_addWord_37, x_M_addWord_39, x_M_addWord_40, x_M_addWord_43, x_M_addWord_44, x_M_addWord_45, x_M_addWord_48, x_M_addWord_50, x_M_addWord_53, x_M_addWord_54, x_M_addWord_55, x_M_addWord_58, x_M_addWord_59, x_M_addWord_60, x_M_addWord_63, x_M_addWord_65, x_M_addWord_66, x_M_addWord_69, x_M_addWord_70, x_M_addWord_73, x_M_addWord_75, x_M_addWord_77, x_M_addWord_78, x_M_addWord_79, x_M_addWord_80, x_M_addWord_82, x_M_addWord_83, x_M_addWord_86, x_M_addWord_88, x_M_addWord_90, x_M_addWord_91, x_M_addWord_92, x_M_addWord_93, x_M_addWord_94, x_M_addWord_96, x_M_addWord_97, x_M_addWord_98, x_M_addWord_100, x_M_addWord_101, x_M_addWord_102, x_M_addWord_105, x_M_addWord_106, x_M_addWord_109, x_M_addWord_111, x_M_addWord_112, x_M_addWord_114, x_M_addWord_115, x_M_addWord_116, x_M_addWord_119, x_M_addWord_121, x_M_addWord_122, x_M_addWord_125, x_M_addWord_126, x_M_addWord_128, x_M_addWord_129, x_M_addWord_130, x_M_addWord_133, x_M_addWord_135, x_M_addWord_136, x_M_addWord_137, x_M_addWord_140, x_M_addWord_141, x_M_addWord_144, x_M_addWord_145, x_M_addWord_146, x_M_addWord_147, x_M_addWord_148, x_M_addWord_149, x_M_addWord_150, x_M_addWord_151, k0, k1, n1, r0, ne, e1, e2, v1, i64_32, u2_jn', pK_6, pK_9, pK_35, pK_55, pK_75, pK_85, pK_109, pK_133, pK_157, pK_181, pK_205, pK_225, pK_245, pK_265, pK_285, inK_0, inK_1, inK_2, inK_3, inK_4, inK_5, inK_6, inK_7, inK_8, ixK_0, ixK_1, ixK_2, ixK_3, ixK_4, ixK_5, ixK_6, ixK_7, ixK_8, bI_0, bI_t, bI_f, e10, isA30, isA31, isA33, isA40, isA42, isA43, rOkB0, rOkB1, rOkB, Ret_v, Ret_n, cmp_eq, cmp_lt, cmp_gt, nI_1, eq_self, if_true, if_false, reduceIte]
        have nW : numW (bW a) w = (bW a).2.2.2 (fw (bW a) w) := if_pos q3
        rw [nW] at hQ
        refine hQ ok rm _ _ (kM_trans (kM_Z s2) (kM_trans f2 kM_jn)) (MOk_now M2 ?_) (t2.trans u2_eq)
        unfold aPutW
        rw [if_pos q3]
        exact NoD_W M2.2.1 hF (fun i _ h => ju_of (by omega)) (NoW_put M2.2.1.1 q3 iW)
      · rw [frI_ge q3] at pl
        have rm : roomW a w = decide ((bW a).1 < 20) := by
          unfold roomW hasW
          rw [decide_eq_false q3, Bool.or_false]
        by_cases q4 : (bW a).1 < 20
        · have e20 : ¬ nI (bW a).1 = 20 := by rw [show (20 : Int32) = nI 20 by decide, nI_inj (by omega) (by omega)]; omega
          rw [decide_eq_true q4] at rm
          simp only [x_M_addWord_0, x_M_addWord_1, x_M_addWord_2, x_M_addWord_5, x_M_addWord_6, x_M_addWord_9, x_M_addWord_12, x_M_addWord_13, x_M_addWord_14, x_M_addWord_15, x_M_addWord_18, x_M_addWord_21, x_M_addWord_24, x_M_addWord_25, x_M_addWord_26, x_M_addWord_29, x_M_addWord_30, x_M_addWord_31, x_M_addWord_32, x_M_addWord_35, x_M_addWord_37, x_M_addWord_39, x_M_addWord_40, x_M_addWord_43, x_M_addWord_44, x_M_addWord_45, x_M_addWord_48, x_M_addWord_50, x_M_addWord_53, x_M_addWord_54, x_M_addWord_55, x_M_addWord_58, x_M_addWord_59, x_M_addWord_60, x_M_addWord_63, x_M_addWord_65, x_M_addWord_66, x_M_addWord_69, x_M_addWord_70, x_M_addWord_73, x_M_addWord_75, x_M_addWord_77, x_M_addWord_78, x_M_addWord_79, x_M_addWord_80, x_M_addWord_82, x_M_addWord_83, x_M_addWord_86, x_M_addWord_88, x_M_addWord_90, x_M_addWord_91, x_M_addWord_92, x_M_addWord_93, x_M_addWord_94, x_M_addWord_96, x_M_addWord_97, x_M_addWord_98, x_M_addWord_100, x_M_addWord_101, x_M_addWord_102, x_M_addWord_105, x_M_addWord_106, x_M_addWord_109, x_M_addWord_111, x_M_addWord_112, x_M_addWord_114, x_M_addWord_115, x_M_addWord_116, x_M_addWord_119, x_M_addWord_121, x_M_addWord_122, x_M_addWord_125, x_M_addWord_126, x_M_addWord_128, x_M_addWord_129, x_M_addWord_130, x_M_addWord_133, x_M_addWord_135, x_M_addWord_136, x_M_addWord_137, x_M_addWord_140, x_M_addWord_141, x_M_addWord_144, x_M_addWord_145, x_M_addWord_146, x_M_addWord_147, x_M_addWord_148, x_M_addWord_149, x_M_addWord_150, x_M_addWord_151, k0, c_M_isWord, c_M_in, inL_cnt, q1, q2, pl, m0, e20, e10, bI_0, bI_t, bI_f, e10, isA30, isA31, isA33, isA40, isA42, isA43, rOkB0, rOkB1, rOkB, Ret_v, Ret_n, cmp_eq, cmp_lt, cmp_gt, nI_1, eq_self, if_true, if_false, reduceIte]
          refine c_M_save M1 hF (fun I2 J2 f2 j2 t2 M2 => ?_)
          have hW := M2.2.1.1
          have al := ahd_le (p := bW a) (w := w)
          have wW := hI.2.2.2.2.2.2.2.2.2.1
          have ah := fun Q' => c_M_ahead (Q := Q') (I := I2) (J := J2) (f := J2 188) (b := 35) (n := (bW a).1) hM.1.1 (by omega) q1 (fun i hi => by rw [hW.2.1 i hi]; exact wW i hi)
          rw [ahF_ahd hI.2.2.2.2.2.2.2.2.2.2.2.2.1 hW.2.1, jn_self] at ah
          have c1 := fun Q' => c_M_opens (Q := Q') (I := I2) (J := J2) (f := J2 188) (b := 35) (v := w) hM.1.1 (show 35 + (bW a).1 < 305 by omega) al
          rw [jn_self] at c1
          have z1 : opnF (J2 188) 35 (bW a).1 (ahd (bW a) w) w 0 = lW (bW a).1 := by rw [opn_out (by omega) al]; exact hW.1
          have c2 := fun Q' => c_M_opens (Q := Q') (I := I2) (J := J2) (f := opnF (J2 188) 35 (bW a).1 (ahd (bW a) w) w) (b := 55) (v := c.toInt64) hM.1.1 (show 55 + (bW a).1 < 305 by omega) al
          have z2 : opnF (opnF (J2 188) 35 (bW a).1 (ahd (bW a) w) w) 55 (bW a).1 (ahd (bW a) w) c.toInt64 0 = lW (bW a).1 := by rw [opn_out (by omega) al]; exact z1
          have m2 := fun Q' => p_many (Q := Q') (k := 0) M2 (by omega) hW.1 (by omega)
          have m3 := fun Q' => mmany (Q := Q') (I := I2) (J := J2) (k := 0) hM.1.1 (by omega) z1 (by omega)
          simp only [kI_0, kI_1, kI_2, kI_3, kI_4, kI_5, kI_6, kI_7, kI_8, kI_9, kI_10, kI_11, kI_20, kI_24, kI_26, kI_35, kI_55, kI_75, kI_85, kI_109, kI_133, kI_157, kI_181, kI_205, kI_225, kI_245, kI_265, kI_285, kI_305] at ah c1 c2 m2 m3
          obtain ⟨-, k1, n1, r0⟩ := hM.1.1
          simp only [x_M_addWord_0, x_M_addWord_1, x_M_addWord_2, x_M_addWord_5, x_M_addWord_6, x_M_addWord_9, x_M_addWord_12, x_M_addWord_13, x_M_addWord_14, x_M_addWord_15, x_M_addWord_18, x_M_addWord_21, x_M_addWord_24, x_M_addWord_25, x_M_addWord_26, x_M_addWord_29, x_M_addWord_30, x_M_addWord_31, x_M_addWord_32, x_M_addWord_35, x_M_addWord_37, x_M_addWord_39, x_M_addWord_40, x_M_addWord_43, x_M_addWord_44, x_M_addWord_45, x_M_addWord_48, x_M_addWord_50, x_M_addWord_53, x_M_addWord_54, x_M_addWord_55, x_M_addWord_58, x_M_addWord_59, x_M_addWord_60, x_M_addWord_63, x_M_addWord_65, x_M_addWord_66, x_M_addWord_69, x_M_addWord_70, x_M_addWord_73, x_M_addWord_75, x_M_addWord_77, x_M_addWord_78, x_M_addWord_79, x_M_addWord_80, x_M_addWord_82, x_M_addWord_83, x_M_addWord_86, x_M_addWord_88, x_M_addWord_90, x_M_addWord_91, x_M_addWord_92, x_M_addWord_93, x_M_addWord_94, x_M_addWord_96, x_M_addWord_97, x_M_addWord_98, x_M_addWord_100, x_M_addWord_101, x_M_addWord_102, x_M_addWord_105, x_M_addWord_106, x_M_addWord_109, x_M_addWord_111, x_M_addWord_112, x_M_addWord_114, x_M_addWord_115, x_M_addWord_116, x_M_addWord_119, x_M_addWord_121, x_M_addWord_122, x_M_addWord_125, x_M_addWord_126, x_M_addWord_128, x_M_addWord_129, x_M_addWord_130, x_M_addWord_133, x_M_addWord_135, x_M_addWord_136, x_M_addWord_137, x_M_addWord_140, x_M_addWord_141, x_M_addWord_144, x_M_addWord_145, x_M_addWord_146, x_M_addWord_147, x_M_addWord_148, x_M_addWord_149, x_M_addWord_150, x_M_addWord_151, k0, k1, n1, r0, ah, c1, c2, m2, m3, z2, jn_a, u2_jn, lW_succ, pK_6, pK_9, pK_35, pK_55, pK_75, pK_85, pK_109, pK_133, pK_157, pK_181, pK_205, pK_225, pK_245, pK_265, pK_285, inK_0, inK_1, inK_2, inK_3, inK_4, inK_5, inK_6, inK_7, inK_8, ixK_0, ixK_1, ixK_2, ixK_3, ixK_4, ixK_5, ixK_6, ixK_7, ixK_8, bI_0, bI_t, bI_f, e10, isA30, isA31, isA33, isA40, isA42, isA43, rOkB0, rOkB1, rOkB, Ret_v, Ret_n, cmp_eq, cmp_lt, cmp_gt, nI_1, eq_self, if_true, if_false, reduceIte]
          have nW : numW (bW a) w = 0 := if_neg q3
          rw [nW] at hQ
          refine hQ ok rm _ _ (kM_trans (kM_Z s2) (kM_trans f2 kM_jn)) (MOk_now M2 ?_) (t2.trans u2_eq)
          unfold aPutW
          rw [if_neg q3]
          exact NoD_W M2.2.1 hF (fun i _ h => mWins_o (c := c) al q4 h) (NoW_ins hW al q4)
        · have e20 : nI (bW a).1 = 20 := by rw [show (bW a).1 = 20 by omega]; decide
          rw [decide_eq_false q4] at rm
          simp only [x_M_addWord_0, x_M_addWord_1, x_M_addWord_2, x_M_addWord_5, x_M_addWord_6, x_M_addWord_9, x_M_addWord_12, x_M_addWord_13, x_M_addWord_14, x_M_addWord_15, x_M_addWord_18, x_M_addWord_21, x_M_addWord_24, x_M_addWord_25, x_M_addWord_26, x_M_addWord_29, x_M_addWord_30, x_M_addWord_31, x_M_addWord_32, x_M_addWord_35, x_M_addWord_37, x_M_addWord_39, x_M_addWord_40, x_M_addWord_43, x_M_addWord_44, x_M_addWord_45, x_M_addWord_48, x_M_addWord_50, x_M_addWord_53, x_M_addWord_54, x_M_addWord_55, x_M_addWord_58, x_M_addWord_59, x_M_addWord_60, x_M_addWord_63, x_M_addWord_65, x_M_addWord_66, x_M_addWord_69, x_M_addWord_70, x_M_addWord_73, x_M_addWord_75, x_M_addWord_77, x_M_addWord_78, x_M_addWord_79, x_M_addWord_80, x_M_addWord_82, x_M_addWord_83, x_M_addWord_86, x_M_addWord_88, x_M_addWord_90, x_M_addWord_91, x_M_addWord_92, x_M_addWord_93, x_M_addWord_94, x_M_addWord_96, x_M_addWord_97, x_M_addWord_98, x_M_addWord_100, x_M_addWord_101, x_M_addWord_102, x_M_addWord_105, x_M_addWord_106, x_M_addWord_109, x_M_addWord_111, x_M_addWord_112, x_M_addWord_114, x_M_addWord_115, x_M_addWord_116, x_M_addWord_119, x_M_addWord_121, x_M_addWord_122, x_M_addWord_125, x_M_addWord_126, x_M_addWord_128, x_M_addWord_129, x_M_addWord_130, x_M_addWord_133, x_M_addWord_135, x_M_addWord_136, x_M_addWord_137, x_M_addWord_140, x_M_addWord_141, x_M_addWord_144, x_M_addWord_145, x_M_addWord_146, x_M_addWord_147, x_M_addWord_148, x_M_addWord_149, x_M_addWord_150, x_M_addWord_151, k0, c_M_isWord, c_M_in, inL_cnt, q1, q2, pl, m0, e20, c_M_fails k0, e10, bI_0, bI_t, bI_f, e10, isA30, isA31, isA33, isA40, isA42, isA43, rOkB0, rOkB1, rOkB, Ret_v, Ret_n, cmp_eq, cmp_lt, cmp_gt, nI_1, eq_self, if_true, if_false, reduceIte]
          exact hQ2 ok rm _ (kM_Z (s1 2)) (MOk_Z hM (s1 2)) u2_eq
theorem c_M_dropWord (hM : MOk I J R S a n s x l qt) (hI : BkI T a) (hQ1 : isW w = false → ∀ I', kM I J R I' J R → MOk I' J R S a n s x l qt → I' 187 4 = 1 → Q 0 (some (.int 0)) I' J R S) (hQ : isW w = true → ∀ I' J', kM I J R I' J' R → MOk I' J' R S (aDelW a w) (qtN qt n) (qtS qt s n a) x l qt → I' 187 4 = 0 → Q 0 (some (.int (numW (bW a) w))) I' J' R S) : Wp 193 0 [.ref 187, .long w, nov, nov, nov] [] I J R S Q := by
  have k0 := hM.1.1.1
  have iW := hI.1
  have hF := BkF_of hI
  have s1 : ∀ c, mZ I J (u2 (u2 I 187 4 0) 187 4 c) J := fun c => mZ_trans (mZ_f (by omega)) (mZ_f (by omega))
  cases q1 : isW w
  · simp only [x_M_dropWord_0, x_M_dropWord_1, x_M_dropWord_2, x_M_dropWord_5, x_M_dropWord_6, x_M_dropWord_9, x_M_dropWord_12, x_M_dropWord_13, x_M_dropWord_14, x_M_dropWord_17, x_M_dropWord_18, x_M_dropWord_19, x_M_dropWord_20, x_M_dropWord_23, x_M_dropWord_24, x_M_dropWord_25, x_M_dropWord_28, x_M_dropWord_29, x_M_dropWord_30, x_M_dropWord_33, x_M_dropWord_34, x_M_dropWord_35, x_M_dropWord_36, x_M_dropWord_39, x_M_dropWord_41, x_M_dropWord_42, x_M_dropWord_43, x_M_dropWord_44, x_M_dropWord_45, x_M_dropWord_47, x_M_dropWord_48, x_M_dropWord_50, x_M_dropWord_51, x_M_dropWord_52, x_M_dropWord_55, x_M_dropWord_56, x_M_dropWord_59, x_M_dropWord_60, x_M_dropWord_62, x_M_dropWord_63, x_M_dropWord_64, x_M_dropWord_67, x_M_dropWord_68, x_M_dropWord_71, x_M_dropWord_72, x_M_dropWord_75, x_M_dropWord_76, x_M_dropWord_77, x_M_dropWord_78, x_M_dropWord_79, x_M_dropWord_80, x_M_dropWord_81, x_M_dropWord_83, k0, c_M_isWord, q1, c_M_fails k0, bI_0, bI_t, bI_f, e10, isA30, isA31, isA33, isA40, isA42, isA43, rOkB0, rOkB1, rOkB, Ret_v, Ret_n, cmp_eq, cmp_lt, cmp_gt, nI_1, eq_self, if_true, if_false, reduceIte]
    exact hQ1 q1 _ (kM_Z (s1 1)) (MOk_Z hM (s1 1)) u2_eq
  · have s2 : mZ I J (u2 I 187 4 0) J := mZ_f (by omega)
    have M1 := MOk_Z hM s2
    have pl := fun Q' => p_place (Q := Q') (w := w) M1 hI
    by_cases q3 : fw (bW a) w < (bW a).1
    · have ne := frI_t q3 (by omega)
      rw [frI_lt q3] at pl ne
      simp only [x_M_dropWord_0, x_M_dropWord_1, x_M_dropWord_2, x_M_dropWord_5, x_M_dropWord_6, x_M_dropWord_9, x_M_dropWord_12, x_M_dropWord_13, x_M_dropWord_14, x_M_dropWord_17, x_M_dropWord_18, x_M_dropWord_19, x_M_dropWord_20, x_M_dropWord_23, x_M_dropWord_24, x_M_dropWord_25, x_M_dropWord_28, x_M_dropWord_29, x_M_dropWord_30, x_M_dropWord_33, x_M_dropWord_34, x_M_dropWord_35, x_M_dropWord_36, x_M_dropWord_39, x_M_dropWord_41, x_M_dropWord_42, x_M_dropWord_43, x_M_dropWord_44, x_M_dropWord_45, x_M_dropWord_47, x_M_dropWord_48, x_M_dropWord_50, x_M_dropWord_51, x_M_dropWord_52, x_M_dropWord_55, x_M_dropWord_56, x_M_dropWord_59, x_M_dropWord_60, x_M_dropWord_62, x_M_dropWord_63, x_M_dropWord_64, x_M_dropWord_67, x_M_dropWord_68, x_M_dropWord_71, x_M_dropWord_72, x_M_dropWord_75, x_M_dropWord_76, x_M_dropWord_77, x_M_dropWord_78, x_M_dropWord_79, x_M_dropWord_80, x_M_dropWord_81, x_M_dropWord_83, k0, c_M_isWord, q1, pl, e10, bI_0, bI_t, bI_f, e10, isA30, isA31, isA33, isA40, isA42, isA43, rOkB0, rOkB1, rOkB, Ret_v, Ret_n, cmp_eq, cmp_lt, cmp_gt, nI_1, eq_self, if_true, if_false, reduceIte]
      refine c_M_save M1 hF (fun I2 J2 f2 j2 t2 M2 => ?_)
      have hW := M2.2.1.1
      generalize hk : fw (bW a) w = k at *
      have e1 := inb_nI (i := 55 + k) (n := 305) (by omega) (by omega)
      have e2 : ix (nI (55 + k)) = 55 + k := ix_nI (by omega)
      have v1 : J2 188 (55 + k) = ((bW a).2.2.2 k).toInt64 := hW.2.2 _ q3
      have c1 := fun Q' => c_M_closes (Q := Q') (I := I2) (J := J2) (f := J2 188) (b := 35) hM.1.1 (show 35 + (bW a).1 ≤ 305 by omega) q3
      rw [jn_self] at c1
      have z1 : clsF (J2 188) 35 (bW a).1 k 0 = lW (bW a).1 := by rw [cls_out (by omega) q3]; exact hW.1
      have c2 := fun Q' => c_M_closes (Q := Q') (I := I2) (J := J2) (f := clsF (J2 188) 35 (bW a).1 k) (b := 55) hM.1.1 (show 55 + (bW a).1 ≤ 305 by omega) q3
      have z2 : clsF (clsF (J2 188) 35 (bW a).1 k) 55 (bW a).1 k 0 = lW (bW a).1 := by rw [cls_out (by omega) q3]; exact z1
      have m2 := fun Q' => p_many (Q := Q') (k := 0) M2 (by omega) hW.1 (by omega)
      have m3 := fun Q' => mmany (Q := Q') (I := I2) (J := J2) (k := 0) hM.1.1 (by omega) z1 (by omega)
      simp only [kI_0, kI_1, kI_2, kI_3, kI_4, kI_5, kI_6, kI_7, kI_8, kI_9, kI_10, kI_11, kI_20, kI_24, kI_26, kI_35, kI_55, kI_75, kI_85, kI_109, kI_133, kI_157, kI_181, kI_205, kI_225, kI_245, kI_265, kI_285, kI_305] at c1 c2 m2 m3
      obtain ⟨-, k1, n1, r0⟩ := hM.1.1
      simp only [x_M_dropWord_0, x_M_dropWord_1, x_M_dropWord_2, x_M_dropWord_5, x_M_dropWord_6, x_M_dropWord_9, x_M_dropWord_12, x_M_dropWord_13, x_M_dropWord_14, x_M_dropWord_17, x_M_dropWord_18, x_M_dropWord_19, x_M_dropWord_20, x_M_dropWord_23, x_M_dropWord_24, x_M_dropWord_25, x_M_dropWord_28, x_M_dropWord_29, x_M_dropWord_30, x_M_dropWord_33, x_M_dropWord_34, x_M_dropWord_35, x_M_dropWord_36, x_M_dropWord_39, x_M_dropWord_41, x_M_dropWord_42, x_M_dropWord_43, x_M_dropWord_44, x_M_dropWord_45, x_M_dropWord_47, x_M_dropWord_48, x_M_dropWord_50, x_M_dropWord_51, x_M_dropWord_52, x_M_dropWord_55, x_M_dropWord_56, x_M_dropWord_59, x_M_dropWord_60, x_M_dropWord_62, x_M_dropWord_63, x_M_dropWord_64, x_M_dropWord_67, x_M_dropWord_68, x_M_dropWord_71, x_M_dropWord_72, x_M_dropWord_75, x_M_dropWord_76, x_M_dropWord_77, x_M_dropWord_78, x_M_dropWord_79, x_M_dropWord_80, x_M_dropWord_81, x_M_dropWord_83, k0, k1, n1, r0, ne, e1, e2, v1, i64_32, c1, c2, m2, m3, z2, jn_a, u2_jn, lW_pred (show 0 < (bW a).1 by omega), pK_6, pK_9, pK_35, pK_55, pK_75, pK_85, pK_109, pK_133, pK_157, pK_181, pK_205, pK_225, pK_245, pK_265, pK_285, inK_0, inK_1, inK_2, inK_3, inK_4, inK_5, inK_6, inK_7, inK_8, ixK_0, ixK_1, ixK_2, ixK_3, ixK_4, ixK_5, ixK_6, ixK_7, ixK_8, bI_0, bI_t, bI_f, e10, isA30, isA31, isA33, isA40, isA42, isA43, rOkB0, rOkB1, rOkB, Ret_v, Ret_n, cmp_eq, cmp_lt, cmp_gt, nI_1, eq_self, if_true, if_false, reduceIte]
      have nW : numW (bW a) w = (bW a).2.2.2 k := by unfold numW; rw [hk]; exact if_pos q3
      rw [nW] at hQ
      refine hQ q1 _ _ (kM_trans (kM_Z s2) (kM_trans f2 kM_jn)) (MOk_now M2 ?_) (t2.trans u2_eq)
      unfold aDelW
      rw [hk, if_pos q3]
      exact NoD_W M2.2.1 hF (fun i _ h => mWdel_o q3 iW h) (NoW_del hW q3 iW)
    · rw [frI_ge q3] at pl
      simp only [x_M_dropWord_0, x_M_dropWord_1, x_M_dropWord_2, x_M_dropWord_5, x_M_dropWord_6, x_M_dropWord_9, x_M_dropWord_12, x_M_dropWord_13, x_M_dropWord_14, x_M_dropWord_17, x_M_dropWord_18, x_M_dropWord_19, x_M_dropWord_20, x_M_dropWord_23, x_M_dropWord_24, x_M_dropWord_25, x_M_dropWord_28, x_M_dropWord_29, x_M_dropWord_30, x_M_dropWord_33, x_M_dropWord_34, x_M_dropWord_35, x_M_dropWord_36, x_M_dropWord_39, x_M_dropWord_41, x_M_dropWord_42, x_M_dropWord_43, x_M_dropWord_44, x_M_dropWord_45, x_M_dropWord_47, x_M_dropWord_48, x_M_dropWord_50, x_M_dropWord_51, x_M_dropWord_52, x_M_dropWord_55, x_M_dropWord_56, x_M_dropWord_59, x_M_dropWord_60, x_M_dropWord_62, x_M_dropWord_63, x_M_dropWord_64, x_M_dropWord_67, x_M_dropWord_68, x_M_dropWord_71, x_M_dropWord_72, x_M_dropWord_75, x_M_dropWord_76, x_M_dropWord_77, x_M_dropWord_78, x_M_dropWord_79, x_M_dropWord_80, x_M_dropWord_81, x_M_dropWord_83, k0, c_M_isWord, q1, pl, e10, bI_0, bI_t, bI_f, e10, isA30, isA31, isA33, isA40, isA42, isA43, rOkB0, rOkB1, rOkB, Ret_v, Ret_n, cmp_eq, cmp_lt, cmp_gt, nI_1, eq_self, if_true, if_false, reduceIte]
      refine c_M_save M1 hF (fun I2 J2 f2 j2 t2 M2 => ?_)
      simp only [x_M_dropWord_0, x_M_dropWord_1, x_M_dropWord_2, x_M_dropWord_5, x_M_dropWord_6, x_M_dropWord_9, x_M_dropWord_12, x_M_dropWord_13, x_M_dropWord_14, x_M_dropWord_17, x_M_dropWord_18, x_M_dropWord_19, x_M_dropWord_20, x_M_dropWord_23, x_M_dropWord_24, x_M_dropWord_25, x_M_dropWord_28, x_M_dropWord_29, x_M_dropWord_30, x_M_dropWord_33, x_M_dropWord_34, x_M_dropWord_35, x_M_dropWord_36, x_M_dropWord_39, x_M_dropWord_41, x_M_dropWord_42, x_M_dropWord_43, x_M_dropWord_44, x_M_dropWord_45, x_M_dropWord_47, x_M_dropWord_48, x_M_dropWord_50, x_M_dropWord_51, x_M_dropWord_52, x_M_dropWord_55, x_M_dropWord_56, x_M_dropWord_59, x_M_dropWord_60, x_M_dropWord_62, x_M_dropWord_63, x_M_dropWord_64, x_M_dropWord_67, x_M_dropWord_68, x_M_dropWord_71, x_M_dropWord_72, x_M_dropWord_75, x_M_dropWord_76, x_M_dropWord_77, x_M_dropWord_78, x_M_dropWord_79, x_M_dropWord_80, x_M_dropWord_81, x_M_dropWord_83, bI_0, bI_t, bI_f, e10, isA30, isA31, isA33, isA40, isA42, isA43, rOkB0, rOkB1, rOkB, Ret_v, Ret_n, cmp_eq, cmp_lt, cmp_gt, nI_1, eq_self, if_true, if_false, reduceIte]
      have nW : numW (bW a) w = 0 := if_neg q3
      rw [nW] at hQ
      refine hQ q1 _ _ (kM_trans (kM_Z s2) f2) ?_ (t2.trans u2_eq)
      unfold aDelW
      rw [if_neg q3]
      exact M2
theorem c_M_addName (hM : MOk I J R S a n s x l qt) (hI : BkI T a) (hQ1 : isW w = false → ∀ I', kM I J R I' J R → MOk I' J R S a n s x l qt → I' 187 4 = 1 → Q 0 (some (.int 0)) I' J R S) (hQ2 : isW w = true → roomN a w = false → ∀ I', kM I J R I' J R → MOk I' J R S a n s x l qt → I' 187 4 = 2 → Q 0 (some (.int 0)) I' J R S) (hQ : isW w = true → roomN a w = true → ∀ I' J', kM I J R I' J' R → MOk I' J' R S (aPutN a w) (qtN qt n) (qtS qt s n a) x l qt → I' 187 4 = 0 → Q 0 (some (.int (bI (!hasN a w)))) I' J' R S) : Wp 194 0 [.ref 187, .long w, nov, nov] [] I J R S Q := by
  have k0 := hM.1.1.1
  have iN := hI.2.1
  have hF := BkF_of hI
  have s1 : ∀ c, mZ I J (u2 (u2 I 187 4 0) 187 4 c) J := fun c => mZ_trans (mZ_f (by omega)) (mZ_f (by omega))
  have s2 : mZ I J (u2 I 187 4 0) J := mZ_f (by omega)
  have M1 := MOk_Z hM s2
  cases q1 : isW w
  · simp only [x_M_addName_0, x_M_addName_1, x_M_addName_2, x_M_addName_5, x_M_addName_6, x_M_addName_9, x_M_addName_12, x_M_addName_13, x_M_addName_14, x_M_addName_17, x_M_addName_18, x_M_addName_19, x_M_addName_20, x_M_addName_23, x_M_addName_24, x_M_addName_25, x_M_addName_28, x_M_addName_29, x_M_addName_30, x_M_addName_33, x_M_addName_35, x_M_addName_38, x_M_addName_39, x_M_addName_40, x_M_addName_43, x_M_addName_44, x_M_addName_45, x_M_addName_48, x_M_addName_49, x_M_addName_50, x_M_addName_53, x_M_addName_54, x_M_addName_57, x_M_addName_58, x_M_addName_61, x_M_addName_62, k0, c_M_isWord, q1, c_M_fails k0, bI_0, bI_t, bI_f, e10, isA30, isA31, isA33, isA40, isA42, isA43, rOkB0, rOkB1, rOkB, Ret_v, Ret_n, cmp_eq, cmp_lt, cmp_gt, nI_1, eq_self, if_true, if_false, reduceIte]
    exact hQ1 q1 _ (kM_Z (s1 1)) (MOk_Z hM (s1 1)) u2_eq
  · have pl := fun Q' => p_isName (Q := Q') (w := w) M1 hI
    have m0 := fun Q' => p_many (Q := Q') (k := 1) M1 (by omega) hM.2.1.2.1.1 (by omega)
    simp only [kI_0, kI_1, kI_2, kI_3, kI_4, kI_5, kI_6, kI_7, kI_8, kI_9, kI_10, kI_11, kI_20, kI_24, kI_26, kI_35, kI_55, kI_75, kI_85, kI_109, kI_133, kI_157, kI_181, kI_205, kI_225, kI_245, kI_265, kI_285, kI_305] at m0
    have nm : roomN a w = true → ∀ (I2 : MI) (J2 : MJ) (Q' : SkQ), MOk I2 J2 R S a (qtN qt n) (qtS qt s n a) x l qt → Wp 190 0 [.ref 187, .long w, nov] [] I2 J2 R S Q' = Q' 0 none I2 (jn J2 (mNams (J2 188) a w)) R S := fun hr I2 J2 Q' M2 => by
      have := c_M_names (Q := Q') (I := I2) (J := J2) (f := J2 188) (w := w) hM.1.1 M2.2.1 hI hr q1
      rw [jn_self] at this
      exact this
    cases q3 : hasN a w
    · have rm : roomN a w = decide ((bN a).1 < 10) := by
        unfold roomN
        rw [q3, Bool.or_false]
      by_cases q4 : (bN a).1 < 10
      · have e10' : ¬ nI (bN a).1 = 10 := by rw [show (10 : Int32) = nI 10 by decide, nI_inj (by omega) (by omega)]; omega
        rw [decide_eq_true q4] at rm
        simp only [x_M_addName_0, x_M_addName_1, x_M_addName_2, x_M_addName_5, x_M_addName_6, x_M_addName_9, x_M_addName_12, x_M_addName_13, x_M_addName_14, x_M_addName_17, x_M_addName_18, x_M_addName_19, x_M_addName_20, x_M_addName_23, x_M_addName_24, x_M_addName_25, x_M_addName_28, x_M_addName_29, x_M_addName_30, x_M_addName_33, x_M_addName_35, x_M_addName_38, x_M_addName_39, x_M_addName_40, x_M_addName_43, x_M_addName_44, x_M_addName_45, x_M_addName_48, x_M_addName_49, x_M_addName_50, x_M_addName_53, x_M_addName_54, x_M_addName_57, x_M_addName_58, x_M_addName_61, x_M_addName_62, k0, c_M_isWord, q1, q3, pl, m0, e10', e10, bI_0, bI_t, bI_f, e10, isA30, isA31, isA33, isA40, isA42, isA43, rOkB0, rOkB1, rOkB, Ret_v, Ret_n, cmp_eq, cmp_lt, cmp_gt, nI_1, eq_self, if_true, if_false, reduceIte]
        refine c_M_save M1 hF (fun I2 J2 f2 j2 t2 M2 => ?_)
        simp only [x_M_addName_0, x_M_addName_1, x_M_addName_2, x_M_addName_5, x_M_addName_6, x_M_addName_9, x_M_addName_12, x_M_addName_13, x_M_addName_14, x_M_addName_17, x_M_addName_18, x_M_addName_19, x_M_addName_20, x_M_addName_23, x_M_addName_24, x_M_addName_25, x_M_addName_28, x_M_addName_29, x_M_addName_30, x_M_addName_33, x_M_addName_35, x_M_addName_38, x_M_addName_39, x_M_addName_40, x_M_addName_43, x_M_addName_44, x_M_addName_45, x_M_addName_48, x_M_addName_49, x_M_addName_50, x_M_addName_53, x_M_addName_54, x_M_addName_57, x_M_addName_58, x_M_addName_61, x_M_addName_62, k0, nm rm I2 J2 _ M2, bI_0, bI_t, bI_f, e10, isA30, isA31, isA33, isA40, isA42, isA43, rOkB0, rOkB1, rOkB, Ret_v, Ret_n, cmp_eq, cmp_lt, cmp_gt, nI_1, eq_self, if_true, if_false, reduceIte]
        rw [q3, show (some (Value.int (bI (!false)))) = some (.int 1) by rw [show bI (!false) = 1 by decide]] at hQ
        exact hQ q1 rm _ _ (kM_trans (kM_Z s2) (kM_trans f2 kM_jn)) (MOk_now M2 (mNams_D M2.2.1 hF rm)) (t2.trans u2_eq)
      · have e10' : nI (bN a).1 = 10 := by rw [show (bN a).1 = 10 by omega]; decide
        rw [decide_eq_false q4] at rm
        simp only [x_M_addName_0, x_M_addName_1, x_M_addName_2, x_M_addName_5, x_M_addName_6, x_M_addName_9, x_M_addName_12, x_M_addName_13, x_M_addName_14, x_M_addName_17, x_M_addName_18, x_M_addName_19, x_M_addName_20, x_M_addName_23, x_M_addName_24, x_M_addName_25, x_M_addName_28, x_M_addName_29, x_M_addName_30, x_M_addName_33, x_M_addName_35, x_M_addName_38, x_M_addName_39, x_M_addName_40, x_M_addName_43, x_M_addName_44, x_M_addName_45, x_M_addName_48, x_M_addName_49, x_M_addName_50, x_M_addName_53, x_M_addName_54, x_M_addName_57, x_M_addName_58, x_M_addName_61, x_M_addName_62, k0, c_M_isWord, q1, q3, pl, m0, e10', c_M_fails k0, e10, bI_0, bI_t, bI_f, e10, isA30, isA31, isA33, isA40, isA42, isA43, rOkB0, rOkB1, rOkB, Ret_v, Ret_n, cmp_eq, cmp_lt, cmp_gt, nI_1, eq_self, if_true, if_false, reduceIte]
        exact hQ2 q1 rm _ (kM_Z (s1 2)) (MOk_Z hM (s1 2)) u2_eq
    · have rm : roomN a w = true := by
        unfold roomN
        rw [q3, Bool.or_true]
      simp only [x_M_addName_0, x_M_addName_1, x_M_addName_2, x_M_addName_5, x_M_addName_6, x_M_addName_9, x_M_addName_12, x_M_addName_13, x_M_addName_14, x_M_addName_17, x_M_addName_18, x_M_addName_19, x_M_addName_20, x_M_addName_23, x_M_addName_24, x_M_addName_25, x_M_addName_28, x_M_addName_29, x_M_addName_30, x_M_addName_33, x_M_addName_35, x_M_addName_38, x_M_addName_39, x_M_addName_40, x_M_addName_43, x_M_addName_44, x_M_addName_45, x_M_addName_48, x_M_addName_49, x_M_addName_50, x_M_addName_53, x_M_addName_54, x_M_addName_57, x_M_addName_58, x_M_addName_61, x_M_addName_62, k0, c_M_isWord, q1, q3, pl, e10, bI_0, bI_t, bI_f, e10, isA30, isA31, isA33, isA40, isA42, isA43, rOkB0, rOkB1, rOkB, Ret_v, Ret_n, cmp_eq, cmp_lt, cmp_gt, nI_1, eq_self, if_true, if_false, reduceIte]
      refine c_M_save M1 hF (fun I2 J2 f2 j2 t2 M2 => ?_)
      simp only [x_M_addName_0, x_M_addName_1, x_M_addName_2, x_M_addName_5, x_M_addName_6, x_M_addName_9, x_M_addName_12, x_M_addName_13, x_M_addName_14, x_M_addName_17, x_M_addName_18, x_M_addName_19, x_M_addName_20, x_M_addName_23, x_M_addName_24, x_M_addName_25, x_M_addName_28, x_M_addName_29, x_M_addName_30, x_M_addName_33, x_M_addName_35, x_M_addName_38, x_M_addName_39, x_M_addName_40, x_M_addName_43, x_M_addName_44, x_M_addName_45, x_M_addName_48, x_M_addName_49, x_M_addName_50, x_M_addName_53, x_M_addName_54, x_M_addName_57, x_M_addName_58, x_M_addName_61, x_M_addName_62, k0, nm rm I2 J2 _ M2, e10, bI_0, bI_t, bI_f, e10, isA30, isA31, isA33, isA40, isA42, isA43, rOkB0, rOkB1, rOkB, Ret_v, Ret_n, cmp_eq, cmp_lt, cmp_gt, nI_1, eq_self, if_true, if_false, reduceIte]
      rw [q3, show (some (Value.int (bI (!true)))) = some (.int 0) by rw [show bI (!true) = 0 by decide]] at hQ
      exact hQ q1 rm _ _ (kM_trans (kM_Z s2) (kM_trans f2 kM_jn)) (MOk_now M2 (mNams_D M2.2.1 hF rm)) (t2.trans u2_eq)
theorem c_M_dropName (hM : MOk I J R S a n s x l qt) (hI : BkI T a) (hQ1 : isW w = false → ∀ I', kM I J R I' J R → MOk I' J R S a n s x l qt → I' 187 4 = 1 → Q 0 (some (.int 0)) I' J R S) (hQ : isW w = true → ∀ I' J', kM I J R I' J' R → MOk I' J' R S (aDelN a w) (qtN qt n) (qtS qt s n a) x l qt → I' 187 4 = 0 → Q 0 (some (.int (bI (hasN a w)))) I' J' R S) : Wp 195 0 [.ref 187, .long w, nov, nov] [] I J R S Q := by
  have k0 := hM.1.1.1
  have iN := hI.2.1
  have hF := BkF_of hI
  have s1 : ∀ c, mZ I J (u2 (u2 I 187 4 0) 187 4 c) J := fun c => mZ_trans (mZ_f (by omega)) (mZ_f (by omega))
  cases q1 : isW w
  · simp only [x_M_dropName_0, x_M_dropName_1, x_M_dropName_2, x_M_dropName_5, x_M_dropName_6, x_M_dropName_9, x_M_dropName_12, x_M_dropName_13, x_M_dropName_14, x_M_dropName_17, x_M_dropName_18, x_M_dropName_19, x_M_dropName_21, x_M_dropName_22, x_M_dropName_23, x_M_dropName_26, x_M_dropName_27, x_M_dropName_30, x_M_dropName_31, x_M_dropName_32, x_M_dropName_35, x_M_dropName_36, x_M_dropName_37, x_M_dropName_40, x_M_dropName_41, x_M_dropName_42, x_M_dropName_43, x_M_dropName_45, x_M_dropName_46, x_M_dropName_47, x_M_dropName_50, x_M_dropName_51, x_M_dropName_54, x_M_dropName_55, x_M_dropName_58, x_M_dropName_59, x_M_dropName_60, x_M_dropName_61, x_M_dropName_62, x_M_dropName_63, x_M_dropName_64, x_M_dropName_65, k0, c_M_isWord, q1, c_M_fails k0, bI_0, bI_t, bI_f, e10, isA30, isA31, isA33, isA40, isA42, isA43, rOkB0, rOkB1, rOkB, Ret_v, Ret_n, cmp_eq, cmp_lt, cmp_gt, nI_1, eq_self, if_true, if_false, reduceIte]
    exact hQ1 q1 _ (kM_Z (s1 1)) (MOk_Z hM (s1 1)) u2_eq
  · have s2 : mZ I J (u2 I 187 4 0) J := mZ_f (by omega)
    have M1 := MOk_Z hM s2
    have hN := hM.2.1.2.1
    have m0 := fun Q' => p_many (Q := Q') (k := 1) M1 (by omega) hN.1 (by omega)
    have pl := fun Q' => c_M_find (Q := Q') (I := u2 I 187 4 0) (J := J) (f := J 188) (w := w) (b := 75) (n := (bN a).1) hM.1.1 (by omega)
    rw [fd_congr (q := fun i => decide ((bN a).2.1 i = w)) _ _ (fun j h1 h2 => by rw [hN.2 j (by omega)]), jn_self] at pl
    rw [show fd (fun i => decide ((bN a).2.1 i = w)) 0 (bN a).1 = fw (bN a) w from rfl] at pl
    unfold hasN at hQ
    by_cases q3 : fw (bN a) w < (bN a).1
    · have ne := frI_t q3 (by omega)
      rw [frI_lt q3] at pl ne
      rw [decide_eq_true q3, bI_t] at hQ
      simp only [kI_0, kI_1, kI_2, kI_3, kI_4, kI_5, kI_6, kI_7, kI_8, kI_9, kI_10, kI_11, kI_20, kI_24, kI_26, kI_35, kI_55, kI_75, kI_85, kI_109, kI_133, kI_157, kI_181, kI_205, kI_225, kI_245, kI_265, kI_285, kI_305] at m0 pl
      simp only [x_M_dropName_0, x_M_dropName_1, x_M_dropName_2, x_M_dropName_5, x_M_dropName_6, x_M_dropName_9, x_M_dropName_12, x_M_dropName_13, x_M_dropName_14, x_M_dropName_17, x_M_dropName_18, x_M_dropName_19, x_M_dropName_21, x_M_dropName_22, x_M_dropName_23, x_M_dropName_26, x_M_dropName_27, x_M_dropName_30, x_M_dropName_31, x_M_dropName_32, x_M_dropName_35, x_M_dropName_36, x_M_dropName_37, x_M_dropName_40, x_M_dropName_41, x_M_dropName_42, x_M_dropName_43, x_M_dropName_45, x_M_dropName_46, x_M_dropName_47, x_M_dropName_50, x_M_dropName_51, x_M_dropName_54, x_M_dropName_55, x_M_dropName_58, x_M_dropName_59, x_M_dropName_60, x_M_dropName_61, x_M_dropName_62, x_M_dropName_63, x_M_dropName_64, x_M_dropName_65, k0, c_M_isWord, q1, pl, m0, e10, bI_0, bI_t, bI_f, e10, isA30, isA31, isA33, isA40, isA42, isA43, rOkB0, rOkB1, rOkB, Ret_v, Ret_n, cmp_eq, cmp_lt, cmp_gt, nI_1, eq_self, if_true, if_false, reduceIte]
      refine c_M_save M1 hF (fun I2 J2 f2 j2 t2 M2 => ?_)
      have hN := M2.2.1.2.1
      generalize hk : fw (bN a) w = k at *
      have c1 := fun Q' => c_M_closes (Q := Q') (I := I2) (J := J2) (f := J2 188) (b := 75) hM.1.1 (show 75 + (bN a).1 ≤ 305 by omega) q3
      rw [jn_self] at c1
      have z1 : clsF (J2 188) 75 (bN a).1 k 1 = lW (bN a).1 := by rw [cls_out (by omega) q3]; exact hN.1
      have m2 := fun Q' => p_many (Q := Q') (k := 1) M2 (by omega) hN.1 (by omega)
      simp only [kI_0, kI_1, kI_2, kI_3, kI_4, kI_5, kI_6, kI_7, kI_8, kI_9, kI_10, kI_11, kI_20, kI_24, kI_26, kI_35, kI_55, kI_75, kI_85, kI_109, kI_133, kI_157, kI_181, kI_205, kI_225, kI_245, kI_265, kI_285, kI_305] at c1 m2
      obtain ⟨-, k1, n1, r0⟩ := hM.1.1
      simp only [x_M_dropName_0, x_M_dropName_1, x_M_dropName_2, x_M_dropName_5, x_M_dropName_6, x_M_dropName_9, x_M_dropName_12, x_M_dropName_13, x_M_dropName_14, x_M_dropName_17, x_M_dropName_18, x_M_dropName_19, x_M_dropName_21, x_M_dropName_22, x_M_dropName_23, x_M_dropName_26, x_M_dropName_27, x_M_dropName_30, x_M_dropName_31, x_M_dropName_32, x_M_dropName_35, x_M_dropName_36, x_M_dropName_37, x_M_dropName_40, x_M_dropName_41, x_M_dropName_42, x_M_dropName_43, x_M_dropName_45, x_M_dropName_46, x_M_dropName_47, x_M_dropName_50, x_M_dropName_51, x_M_dropName_54, x_M_dropName_55, x_M_dropName_58, x_M_dropName_59, x_M_dropName_60, x_M_dropName_61, x_M_dropName_62, x_M_dropName_63, x_M_dropName_64, x_M_dropName_65, k0, k1, n1, r0, ne, c1, m2, z1, jn_a, u2_jn, lW_pred (show 0 < (bN a).1 by omega), pK_6, pK_9, pK_35, pK_55, pK_75, pK_85, pK_109, pK_133, pK_157, pK_181, pK_205, pK_225, pK_245, pK_265, pK_285, inK_0, inK_1, inK_2, inK_3, inK_4, inK_5, inK_6, inK_7, inK_8, ixK_0, ixK_1, ixK_2, ixK_3, ixK_4, ixK_5, ixK_6, ixK_7, ixK_8, bI_0, bI_t, bI_f, e10, isA30, isA31, isA33, isA40, isA42, isA43, rOkB0, rOkB1, rOkB, Ret_v, Ret_n, cmp_eq, cmp_lt, cmp_gt, nI_1, eq_self, if_true, if_false, reduceIte]
      refine hQ q1 _ _ (kM_trans (kM_Z s2) (kM_trans f2 kM_jn)) (MOk_now M2 ?_) (t2.trans u2_eq)
      unfold aDelN
      rw [hk, if_pos q3]
      exact NoD_N M2.2.1 hF (fun i _ h => mNdel_o q3 iN h) (NoN_del hN q3 iN)
    · rw [frI_ge q3] at pl
      rw [decide_eq_false q3, bI_f] at hQ
      simp only [kI_0, kI_1, kI_2, kI_3, kI_4, kI_5, kI_6, kI_7, kI_8, kI_9, kI_10, kI_11, kI_20, kI_24, kI_26, kI_35, kI_55, kI_75, kI_85, kI_109, kI_133, kI_157, kI_181, kI_205, kI_225, kI_245, kI_265, kI_285, kI_305] at m0 pl
      simp only [x_M_dropName_0, x_M_dropName_1, x_M_dropName_2, x_M_dropName_5, x_M_dropName_6, x_M_dropName_9, x_M_dropName_12, x_M_dropName_13, x_M_dropName_14, x_M_dropName_17, x_M_dropName_18, x_M_dropName_19, x_M_dropName_21, x_M_dropName_22, x_M_dropName_23, x_M_dropName_26, x_M_dropName_27, x_M_dropName_30, x_M_dropName_31, x_M_dropName_32, x_M_dropName_35, x_M_dropName_36, x_M_dropName_37, x_M_dropName_40, x_M_dropName_41, x_M_dropName_42, x_M_dropName_43, x_M_dropName_45, x_M_dropName_46, x_M_dropName_47, x_M_dropName_50, x_M_dropName_51, x_M_dropName_54, x_M_dropName_55, x_M_dropName_58, x_M_dropName_59, x_M_dropName_60, x_M_dropName_61, x_M_dropName_62, x_M_dropName_63, x_M_dropName_64, x_M_dropName_65, k0, c_M_isWord, q1, pl, m0, e10, bI_0, bI_t, bI_f, e10, isA30, isA31, isA33, isA40, isA42, isA43, rOkB0, rOkB1, rOkB, Ret_v, Ret_n, cmp_eq, cmp_lt, cmp_gt, nI_1, eq_self, if_true, if_false, reduceIte]
      refine c_M_save M1 hF (fun I2 J2 f2 j2 t2 M2 => ?_)
      simp only [x_M_dropName_0, x_M_dropName_1, x_M_dropName_2, x_M_dropName_5, x_M_dropName_6, x_M_dropName_9, x_M_dropName_12, x_M_dropName_13, x_M_dropName_14, x_M_dropName_17, x_M_dropName_18, x_M_dropName_19, x_M_dropName_21, x_M_dropName_22, x_M_dropName_23, x_M_dropName_26, x_M_dropName_27, x_M_dropName_30, x_M_dropName_31, x_M_dropName_32, x_M_dropName_35, x_M_dropName_36, x_M_dropName_37, x_M_dropName_40, x_M_dropName_41, x_M_dropName_42, x_M_dropName_43, x_M_dropName_45, x_M_dropName_46, x_M_dropName_47, x_M_dropName_50, x_M_dropName_51, x_M_dropName_54, x_M_dropName_55, x_M_dropName_58, x_M_dropName_59, x_M_dropName_60, x_M_dropName_61, x_M_dropName_62, x_M_dropName_63, x_M_dropName_64, x_M_dropName_65, bI_0, bI_t, bI_f, e10, isA30, isA31, isA33, isA40, isA42, isA43, rOkB0, rOkB1, rOkB, Ret_v, Ret_n, cmp_eq, cmp_lt, cmp_gt, nI_1, eq_self, if_true, if_false, reduceIte]
      refine hQ q1 _ _ (kM_trans (kM_Z s2) f2) ?_ (t2.trans u2_eq)
      unfold aDelN
      rw [if_neg q3]
      exact M2
end MI9
