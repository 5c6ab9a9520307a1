/-! the law: words, names -/
section QD
variable {I I' : MI} {J J' : MJ} {R R' : MR} {S : Sh} {Q : SkQ} {T n l : Nat} {a : Bk} {s : Nat → Bk} {x : Nat → Int32} {w t : Int64}
theorem l_L_words : ∀ (k i : Nat) (c : Int32) (l4 : Value) (I : MI), i + k = (bW a).1 → smI (bW a).2.2.2 c i k = smI (bW a).2.2.2 0 0 (bW a).1 → KOk I J R S T a n s x l → (∀ I', KOk I' J R S T a n s x l → Q 0 (some (.int 1)) I' J R S) → Wp 4 27 [.ref 35, .int c, .int 1, .int (nI i), l4, nov] [] I J R S Q := by
  intro k
  induction k with
  | zero =>
    intro i c l4 I hi hs h hQ
    have e35 : S.1 35 = 7 := h.1.1
    have hb := (KOk_I h).1
    have hlt : ¬ nI i < nI (bW a).1 := nI_nlt (by omega) (by omega)
    have w0 := fun Q' => e_wh0 (Q := Q') h
    have w10 := fun Q' => e_wh10 (Q := Q') h
    simp only [smI] at hs
    rw [x_L_words_27]
    simp only [x_L_words_0, x_L_words_1, x_L_words_2, x_L_words_3, x_L_words_4, x_L_words_5, x_L_words_6, x_L_words_9, x_L_words_12, x_L_words_15, x_L_words_16, x_L_words_19, x_L_words_20, x_L_words_23, x_L_words_24, x_L_words_25, x_L_words_26, x_L_words_28, x_L_words_29, x_L_words_30, x_L_words_33, x_L_words_36, x_L_words_37, x_L_words_40, x_L_words_41, x_L_words_42, x_L_words_43, x_L_words_46, x_L_words_48, x_L_words_49, x_L_words_51, x_L_words_52, x_L_words_55, x_L_words_56, x_L_words_59, x_L_words_60, x_L_words_62, x_L_words_63, x_L_words_66, x_L_words_67, x_L_words_70, x_L_words_71, x_L_words_73, x_L_words_74, x_L_words_77, x_L_words_80, x_L_words_83, x_L_words_84, x_L_words_86, x_L_words_89, x_L_words_92, x_L_words_93, x_L_words_96, x_L_words_97, x_L_words_98, x_L_words_99, x_L_words_102, x_L_words_103, x_L_words_106, x_L_words_108, x_L_words_109, x_L_words_110, x_L_words_111, x_L_words_112, x_L_words_113, x_L_words_116, x_L_words_117, x_L_words_120, x_L_words_121, x_L_words_124, x_L_words_125, x_L_words_126, x_L_words_127, x_L_words_128, x_L_words_130, x_L_words_131, x_L_words_134, x_L_words_135, x_L_words_136, x_L_words_139, x_L_words_142, x_L_words_143, x_L_words_146, x_L_words_147, x_L_words_148, x_L_words_150, x_L_words_153, x_L_words_156, x_L_words_157, x_L_words_160, x_L_words_161, e35, w0, w10, hlt, hs, bI_0, bI_t, bI_f, e10, isA30, isA31, isA33, isA40, isA42, isA43, rOkB0, rOkB1, rOkB, Ret_v, Ret_n, cmp_eq, cmp_lt, cmp_gt, nI_1, eq_self, if_true, if_false, reduceIte]
    exact hQ _ h
  | succ k ih =>
    intro i c l4 I hi hs h hQ
    have e35 : S.1 35 = 7 := h.1.1
    have hI := KOk_I h
    have hb := hI.1
    have hiW : i < (bW a).1 := by omega
    have ww : isW ((bW a).2.1 i) = true := hI.2.2.2.2.2.2.2.2.2.1 i hiW
    have oW := hI.2.2.2.2.2.2.2.2.2.2.2.2.1
    have cW := hI.2.2.2.2.2.2.2.2.2.2.2.2.2.2.1 i hiW
    have hlt : nI i < nI (bW a).1 := nI_lt hiW (by omega)
    have w0 := fun Q' => e_wh0 (Q := Q') h
    have li := fun Q' => e_liW (Q := Q') h hiW
    have d4 := fun Q' => e_wd4 (Q := Q') h ww
    have d0 := fun Q' => e_wd0 (Q := Q') h ww
    have f4 : frI (fw (bW a) ((bW a).2.1 i)) (bW a).1 = nI i := by rw [fw_at oW hiW, frI_lt hiW]
    have f0 : numW (bW a) ((bW a).2.1 i) = (bW a).2.2.2 i := numW_at oW hiW
    have n1 : ¬ (bW a).2.2.2 i < 1 := by rw [Int32.lt_iff_toInt_lt, show (1 : Int32).toInt = 1 by decide]; omega
    have n2 : ¬ 999 < (bW a).2.2.2 i := by rw [Int32.lt_iff_toInt_lt, show (999 : Int32).toInt = 999 by decide]; omega
    have c0 : csF a ((bW a).2.1 i) = 0 := by
      unfold csF
      rw [if_pos (show hasW a ((bW a).2.1 i) = true from decide_eq_true (fw_in hiW rfl))]
    simp only [smI] at hs
    rw [x_L_words_27]
    simp only [x_L_words_0, x_L_words_1, x_L_words_2, x_L_words_3, x_L_words_4, x_L_words_5, x_L_words_6, x_L_words_9, x_L_words_12, x_L_words_15, x_L_words_16, x_L_words_19, x_L_words_20, x_L_words_23, x_L_words_24, x_L_words_25, x_L_words_26, x_L_words_28, x_L_words_29, x_L_words_30, x_L_words_33, x_L_words_36, x_L_words_37, x_L_words_40, x_L_words_41, x_L_words_42, x_L_words_43, x_L_words_46, x_L_words_48, x_L_words_49, x_L_words_51, x_L_words_52, x_L_words_55, x_L_words_56, x_L_words_59, x_L_words_60, x_L_words_62, x_L_words_63, x_L_words_66, x_L_words_67, x_L_words_70, x_L_words_71, x_L_words_73, x_L_words_74, x_L_words_77, x_L_words_80, x_L_words_83, x_L_words_84, x_L_words_89, x_L_words_92, x_L_words_93, x_L_words_96, x_L_words_97, x_L_words_98, x_L_words_99, x_L_words_102, x_L_words_103, x_L_words_106, x_L_words_108, x_L_words_109, x_L_words_110, x_L_words_111, x_L_words_112, x_L_words_113, x_L_words_116, x_L_words_117, x_L_words_120, x_L_words_121, x_L_words_124, x_L_words_125, x_L_words_126, x_L_words_127, x_L_words_128, x_L_words_130, x_L_words_131, x_L_words_134, x_L_words_135, x_L_words_136, x_L_words_139, x_L_words_142, x_L_words_143, x_L_words_146, x_L_words_147, x_L_words_148, x_L_words_150, x_L_words_153, x_L_words_156, x_L_words_157, x_L_words_160, x_L_words_161, e35, w0, li, d4, f4, d0, f0, n1, n2, hlt, bI_0, bI_t, bI_f, e10, isA30, isA31, isA33, isA40, isA42, isA43, rOkB0, rOkB1, rOkB, Ret_v, Ret_n, cmp_eq, cmp_lt, cmp_gt, nI_1, eq_self, if_true, if_false, reduceIte]
    rw [x_L_words_86 e35]
    refine c_K_caseOf h (fun z => ?_) (fun _ I' hf h' => ?_)
    · rw [ww] at z; cases z
    rw [c0]
    have d0' := fun Q' => e_wd0 (Q := Q') h' ww
    by_cases q : i = 0
    · have hz : (nI i = 0) = True := eq_true (by rw [q]; decide)
      simp only [x_L_words_0, x_L_words_1, x_L_words_2, x_L_words_3, x_L_words_4, x_L_words_5, x_L_words_6, x_L_words_9, x_L_words_12, x_L_words_15, x_L_words_16, x_L_words_19, x_L_words_20, x_L_words_23, x_L_words_24, x_L_words_25, x_L_words_26, x_L_words_28, x_L_words_29, x_L_words_30, x_L_words_33, x_L_words_36, x_L_words_37, x_L_words_40, x_L_words_41, x_L_words_42, x_L_words_43, x_L_words_46, x_L_words_48, x_L_words_49, x_L_words_51, x_L_words_52, x_L_words_55, x_L_words_56, x_L_words_59, x_L_words_60, x_L_words_62, x_L_words_63, x_L_words_66, x_L_words_67, x_L_words_70, x_L_words_71, x_L_words_73, x_L_words_74, x_L_words_77, x_L_words_80, x_L_words_83, x_L_words_84, x_L_words_89, x_L_words_92, x_L_words_93, x_L_words_96, x_L_words_97, x_L_words_98, x_L_words_99, x_L_words_102, x_L_words_103, x_L_words_106, x_L_words_108, x_L_words_109, x_L_words_110, x_L_words_111, x_L_words_112, x_L_words_113, x_L_words_116, x_L_words_117, x_L_words_120, x_L_words_121, x_L_words_124, x_L_words_125, x_L_words_126, x_L_words_127, x_L_words_128, x_L_words_130, x_L_words_131, x_L_words_134, x_L_words_135, x_L_words_136, x_L_words_139, x_L_words_142, x_L_words_143, x_L_words_146, x_L_words_147, x_L_words_148, x_L_words_150, x_L_words_153, x_L_words_156, x_L_words_157, x_L_words_160, x_L_words_161, e35, d0', f0, hz, nI_1', bI_0, bI_t, bI_f, e10, isA30, isA31, isA33, isA40, isA42, isA43, rOkB0, rOkB1, rOkB, Ret_v, Ret_n, cmp_eq, cmp_lt, cmp_gt, nI_1, eq_self, if_true, if_false, reduceIte]
      exact ih (i + 1) _ _ I' (by omega) hs h' hQ
    · have hz : ¬ nI i = 0 := nI_nz (by omega) (by omega)
      have e1 : nI i - 1 = nI (i - 1) := nI_sub (b := 1) (by omega)
      have li' := fun Q' => e_liW (Q := Q') h' (i := i - 1) (by omega)
      have hne : ¬ (bW a).2.1 i = (bW a).2.1 (i - 1) := fun z => srt_ne oW (i := i - 1) (j := i) (by omega) hiW z.symm
      simp only [x_L_words_0, x_L_words_1, x_L_words_2, x_L_words_3, x_L_words_4, x_L_words_5, x_L_words_6, x_L_words_9, x_L_words_12, x_L_words_15, x_L_words_16, x_L_words_19, x_L_words_20, x_L_words_23, x_L_words_24, x_L_words_25, x_L_words_26, x_L_words_28, x_L_words_29, x_L_words_30, x_L_words_33, x_L_words_36, x_L_words_37, x_L_words_40, x_L_words_41, x_L_words_42, x_L_words_43, x_L_words_46, x_L_words_48, x_L_words_49, x_L_words_51, x_L_words_52, x_L_words_55, x_L_words_56, x_L_words_59, x_L_words_60, x_L_words_62, x_L_words_63, x_L_words_66, x_L_words_67, x_L_words_70, x_L_words_71, x_L_words_73, x_L_words_74, x_L_words_77, x_L_words_80, x_L_words_83, x_L_words_84, x_L_words_89, x_L_words_92, x_L_words_93, x_L_words_96, x_L_words_97, x_L_words_98, x_L_words_99, x_L_words_102, x_L_words_103, x_L_words_106, x_L_words_108, x_L_words_109, x_L_words_110, x_L_words_111, x_L_words_112, x_L_words_113, x_L_words_116, x_L_words_117, x_L_words_120, x_L_words_121, x_L_words_124, x_L_words_125, x_L_words_126, x_L_words_127, x_L_words_128, x_L_words_130, x_L_words_131, x_L_words_134, x_L_words_135, x_L_words_136, x_L_words_139, x_L_words_142, x_L_words_143, x_L_words_146, x_L_words_147, x_L_words_148, x_L_words_150, x_L_words_153, x_L_words_156, x_L_words_157, x_L_words_160, x_L_words_161, e35, d0', f0, hz, e1, li', hne, nI_1', bI_0, bI_t, bI_f, e10, isA30, isA31, isA33, isA40, isA42, isA43, rOkB0, rOkB1, rOkB, Ret_v, Ret_n, cmp_eq, cmp_lt, cmp_gt, nI_1, eq_self, if_true, if_false, reduceIte]
      exact ih (i + 1) _ _ I' (by omega) hs h' hQ
theorem c_L_words (h : KOk I J R S T a n s x l) (hQ : ∀ I', KOk I' J R S T a n s x l → Q 0 (some (.int 1)) I' J R S) : Wp 4 0 [.ref 35, nov, nov, nov, nov, nov] [] I J R S Q := by
  have e35 : S.1 35 = 7 := h.1.1
  have w0 := fun Q' => e_wh0 (Q := Q') h
  have ln := fun Q' => e_liWn (Q := Q') h
  have g := l_L_words (Q := Q) (a := a) (bW a).1 0 0 nov I (by omega) rfl h hQ
  rw [nI_0] at g
  simp only [x_L_words_0, x_L_words_1, x_L_words_2, x_L_words_3, x_L_words_4, x_L_words_5, x_L_words_6, x_L_words_9, x_L_words_12, x_L_words_15, x_L_words_16, x_L_words_19, x_L_words_20, x_L_words_24, x_L_words_25, x_L_words_26, e35, w0, ln, bI_0, bI_t, bI_f, e10, isA30, isA31, isA33, isA40, isA42, isA43, rOkB0, rOkB1, rOkB, Ret_v, Ret_n, cmp_eq, cmp_lt, cmp_gt, nI_1, eq_self, if_true, if_false, reduceIte]
  exact g
theorem l_L_names : ∀ (k i : Nat) (l3 : Value) (I : MI), i + k = (bN a).1 → KOk I J R S T a n s x l → (∀ I', KOk I' J R S T a n s x l → Q 0 (some (.int 1)) I' J R S) → Wp 5 35 [.ref 35, .int 1, .int (nI i), l3, nov] [] I J R S Q := by
  intro k
  induction k with
  | zero =>
    intro i l3 I hi h hQ
    have e35 : S.1 35 = 7 := h.1.1
    have hb := (KOk_I h).2.1
    have hlt : ¬ nI i < nI (bN a).1 := nI_nlt (by omega) (by omega)
    have w1 := fun Q' => e_wh1 (Q := Q') h
    rw [x_L_names_35]
    simp only [x_L_names_0, x_L_names_1, x_L_names_2, x_L_names_3, x_L_names_4, x_L_names_7, x_L_names_10, x_L_names_13, x_L_names_14, x_L_names_17, x_L_names_18, x_L_names_19, x_L_names_22, x_L_names_24, x_L_names_27, x_L_names_28, x_L_names_31, x_L_names_32, x_L_names_33, x_L_names_34, x_L_names_36, x_L_names_37, x_L_names_38, x_L_names_41, x_L_names_44, x_L_names_45, x_L_names_48, x_L_names_49, x_L_names_50, x_L_names_51, x_L_names_54, x_L_names_55, x_L_names_56, x_L_names_57, x_L_names_58, x_L_names_61, x_L_names_62, x_L_names_65, x_L_names_66, x_L_names_67, x_L_names_70, x_L_names_71, x_L_names_72, x_L_names_73, x_L_names_76, x_L_names_79, x_L_names_80, x_L_names_83, x_L_names_84, x_L_names_87, x_L_names_88, x_L_names_91, x_L_names_92, x_L_names_93, x_L_names_96, x_L_names_99, x_L_names_100, e35, w1, hlt, bI_0, bI_t, bI_f, e10, isA30, isA31, isA33, isA40, isA42, isA43, rOkB0, rOkB1, rOkB, Ret_v, Ret_n, cmp_eq, cmp_lt, cmp_gt, nI_1, eq_self, if_true, if_false, reduceIte]
    exact hQ _ h
  | succ k ih =>
    intro i l3 I hi h hQ
    have e35 : S.1 35 = 7 := h.1.1
    have hI := KOk_I h
    have hb := hI.2.1
    have hiN : i < (bN a).1 := by omega
    have ww : isW ((bN a).2.1 i) = true := hI.2.2.2.2.2.2.2.2.2.2.1 i hiN
    have hlt : nI i < nI (bN a).1 := nI_lt hiN (by omega)
    have w1 := fun Q' => e_wh1 (Q := Q') h
    have li := fun Q' => e_liN (Q := Q') h hiN
    have d1 := fun Q' => e_wd1 (Q := Q') h ww
    have f1 : hasN a ((bN a).2.1 i) = true := decide_eq_true (fw_in hiN rfl)
    have h01 : ¬ (0 : Int32) < 0 := by decide
    rw [x_L_names_35]
    simp only [x_L_names_0, x_L_names_1, x_L_names_2, x_L_names_3, x_L_names_4, x_L_names_7, x_L_names_10, x_L_names_13, x_L_names_14, x_L_names_17, x_L_names_18, x_L_names_19, x_L_names_22, x_L_names_24, x_L_names_27, x_L_names_28, x_L_names_31, x_L_names_32, x_L_names_33, x_L_names_34, x_L_names_36, x_L_names_37, x_L_names_38, x_L_names_41, x_L_names_44, x_L_names_45, x_L_names_48, x_L_names_49, x_L_names_50, x_L_names_51, x_L_names_54, x_L_names_55, x_L_names_56, x_L_names_57, x_L_names_58, x_L_names_61, x_L_names_62, x_L_names_65, x_L_names_66, x_L_names_70, x_L_names_71, x_L_names_72, x_L_names_73, x_L_names_76, x_L_names_79, x_L_names_80, x_L_names_83, x_L_names_84, x_L_names_87, x_L_names_88, x_L_names_91, x_L_names_92, x_L_names_93, x_L_names_96, x_L_names_99, x_L_names_100, e35, w1, li, d1, f1, hlt, bI_0, bI_t, bI_f, e10, isA30, isA31, isA33, isA40, isA42, isA43, rOkB0, rOkB1, rOkB, Ret_v, Ret_n, cmp_eq, cmp_lt, cmp_gt, nI_1, eq_self, if_true, if_false, reduceIte]
    rw [x_L_names_67 e35]
    refine c_K_caseOf h (fun z => ?_) (fun _ I' hf h' => ?_)
    · rw [ww] at z; cases z
    have d0' := fun Q' => e_wd0 (Q := Q') h' ww
    by_cases q : hasW a ((bN a).2.1 i) = true
    · have c0 : csF a ((bN a).2.1 i) = 0 := by unfold csF; rw [if_pos q]
      have f0 := cntW_pos hI q
      rw [c0]
      simp only [x_L_names_0, x_L_names_1, x_L_names_2, x_L_names_3, x_L_names_4, x_L_names_7, x_L_names_10, x_L_names_13, x_L_names_14, x_L_names_17, x_L_names_18, x_L_names_19, x_L_names_22, x_L_names_24, x_L_names_27, x_L_names_28, x_L_names_31, x_L_names_32, x_L_names_33, x_L_names_34, x_L_names_36, x_L_names_37, x_L_names_38, x_L_names_41, x_L_names_44, x_L_names_45, x_L_names_48, x_L_names_49, x_L_names_50, x_L_names_51, x_L_names_54, x_L_names_55, x_L_names_56, x_L_names_57, x_L_names_58, x_L_names_61, x_L_names_62, x_L_names_65, x_L_names_66, x_L_names_70, x_L_names_71, x_L_names_72, x_L_names_73, x_L_names_76, x_L_names_79, x_L_names_80, x_L_names_83, x_L_names_84, x_L_names_87, x_L_names_88, x_L_names_91, x_L_names_92, x_L_names_93, x_L_names_96, x_L_names_99, x_L_names_100, e35, d0', f0, nI_1', bI_0, bI_t, bI_f, e10, isA30, isA31, isA33, isA40, isA42, isA43, rOkB0, rOkB1, rOkB, Ret_v, Ret_n, cmp_eq, cmp_lt, cmp_gt, nI_1, eq_self, if_true, if_false, reduceIte]
      exact ih (i + 1) _ I' (by omega) h' hQ
    · have c1 : csF a ((bN a).2.1 i) = 1 := by unfold csF; rw [if_neg q, if_pos f1]
      have f0 : numW (bW a) ((bN a).2.1 i) = 0 := cntW_no q
      rw [c1]
      simp only [x_L_names_0, x_L_names_1, x_L_names_2, x_L_names_3, x_L_names_4, x_L_names_7, x_L_names_10, x_L_names_13, x_L_names_14, x_L_names_17, x_L_names_18, x_L_names_19, x_L_names_22, x_L_names_24, x_L_names_27, x_L_names_28, x_L_names_31, x_L_names_32, x_L_names_33, x_L_names_34, x_L_names_36, x_L_names_37, x_L_names_38, x_L_names_41, x_L_names_44, x_L_names_45, x_L_names_48, x_L_names_49, x_L_names_50, x_L_names_51, x_L_names_54, x_L_names_55, x_L_names_56, x_L_names_57, x_L_names_58, x_L_names_61, x_L_names_62, x_L_names_65, x_L_names_66, x_L_names_70, x_L_names_71, x_L_names_72, x_L_names_73, x_L_names_76, x_L_names_79, x_L_names_80, x_L_names_83, x_L_names_84, x_L_names_87, x_L_names_88, x_L_names_91, x_L_names_92, x_L_names_93, x_L_names_96, x_L_names_99, x_L_names_100, e35, d0', f0, h01, nI_1', bI_0, bI_t, bI_f, e10, isA30, isA31, isA33, isA40, isA42, isA43, rOkB0, rOkB1, rOkB, Ret_v, Ret_n, cmp_eq, cmp_lt, cmp_gt, nI_1, eq_self, if_true, if_false, reduceIte]
      exact ih (i + 1) _ I' (by omega) h' hQ
theorem c_L_names (h : KOk I J R S T a n s x l) (hQ : ∀ I', KOk I' J R S T a n s x l → Q 0 (some (.int 1)) I' J R S) : Wp 5 0 [.ref 35, nov, nov, nov, nov] [] I J R S Q := by
  have e35 : S.1 35 = 7 := h.1.1
  have hb := (KOk_I h).2.1
  have w1 := fun Q' => e_wh1 (Q := Q') h
  have ln := fun Q' => e_liNn (Q := Q') h
  have hle : ¬ 10 < nI (bN a).1 := by rw [show (10 : Int32) = nI 10 by decide]; exact nI_nlt hb (by omega)
  have g := l_L_names (Q := Q) (a := a) (bN a).1 0 nov I (by omega) h hQ
  rw [nI_0] at g
  simp only [x_L_names_0, x_L_names_1, x_L_names_2, x_L_names_3, x_L_names_4, x_L_names_7, x_L_names_10, x_L_names_13, x_L_names_14, x_L_names_17, x_L_names_18, x_L_names_19, x_L_names_22, x_L_names_24, x_L_names_27, x_L_names_28, x_L_names_32, x_L_names_33, x_L_names_34, e35, w1, ln, hle, bI_0, bI_t, bI_f, e10, isA30, isA31, isA33, isA40, isA42, isA43, rOkB0, rOkB1, rOkB, Ret_v, Ret_n, cmp_eq, cmp_lt, cmp_gt, nI_1, eq_self, if_true, if_false, reduceIte]
  exact g
end QD
