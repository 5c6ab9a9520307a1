/-! the model: logs, learns -/
section MG
variable {I : MI} {J : MJ} {R : MR} {S : Sh} {Q : SkQ} {f g : Nat → Int64} {b n k j T : Nat} {w u v t : Int64} {a : Bk} {p q r : Rw} {c x y : Int32}
theorem c_M_logs (hS : MxS R S) (hD : NoD f a) (hF : BkF a) (hQ : ∀ g, NoD g (bkL a (rIns (cut (bL a) 20) (cut (bL a) 20).1 t w 0)) → Q 0 none I (jn J g) R S) : Wp 213 0 [.ref 187, .long t, nov, .long w, nov, nov] [] I (jn J f) R S Q := by
  have iL := hF.2.2.2.2.2
  have hL := hD.2.2.2.2.2.1
  have m := fun Q' => mmany (Q := Q') (I := I) (J := J) (k := 5) hS (by omega) hL.1 (by omega)
  have hS' := hS
  obtain ⟨k0, k1, n1, r0⟩ := hS
  have app : ∀ (f' : Nat → Int64) (p : Rw), NoL f' p → p.1 < 20 → (∀ g, NoL g (rIns p p.1 t w 0) → (∀ i, ¬ (i = 5 ∨ (245 ≤ i ∧ i < 305)) → g i = f' i) → Q 0 none I (jn J g) R S) → Wp 213 50 [.ref 187, .long t, nov, .long w, nov, nov] [] I (jn J f') R S Q := by
    intro f' p hp h20 hq
    have m' := fun Q' => mmany (Q := Q') (I := I) (J := J) (k := 5) hS' (by omega) hp.1 (by omega)
    have e1 := inb_nI (i := 245 + p.1) (n := 305) (by omega) (by omega)
    have e2 : ix (nI (245 + p.1)) = 245 + p.1 := ix_nI (by omega)
    have e3 := inb_nI (i := 265 + p.1) (n := 305) (by omega) (by omega)
    have e4 : ix (nI (265 + p.1)) = 265 + p.1 := ix_nI (by omega)
    have e5 := inb_nI (i := 285 + p.1) (n := 305) (by omega) (by omega)
    have e6 : ix (nI (285 + p.1)) = 285 + p.1 := ix_nI (by omega)
    have z : ju (ju (ju f' (245 + p.1) t) (265 + p.1) w) (285 + p.1) 0 5 = lW p.1 := by rw [ju_of (by omega), ju_of (by omega), ju_of (by omega)]; exact hp.1
    simp only [kI_0, kI_1, kI_2, kI_3, kI_4, kI_5, kI_6, kI_7, kI_8, kI_9, kI_10, kI_11, kI_20, kI_24, kI_26, kI_35, kI_55, kI_75, kI_85, kI_109, kI_133, kI_157, kI_181, kI_205, kI_225, kI_245, kI_265, kI_285, kI_305] at m'
    simp only [x_M_logs_0, x_M_logs_1, x_M_logs_2, x_M_logs_5, x_M_logs_7, x_M_logs_10, x_M_logs_11, x_M_logs_14, x_M_logs_16, x_M_logs_17, x_M_logs_20, x_M_logs_21, x_M_logs_24, x_M_logs_26, x_M_logs_27, x_M_logs_30, x_M_logs_31, x_M_logs_34, x_M_logs_36, x_M_logs_37, x_M_logs_40, x_M_logs_41, x_M_logs_44, x_M_logs_45, x_M_logs_46, x_M_logs_47, x_M_logs_48, x_M_logs_49, x_M_logs_50, x_M_logs_51, x_M_logs_52, x_M_logs_55, x_M_logs_57, x_M_logs_58, x_M_logs_61, x_M_logs_64, x_M_logs_66, x_M_logs_67, x_M_logs_68, x_M_logs_69, x_M_logs_70, x_M_logs_73, x_M_logs_76, x_M_logs_78, x_M_logs_79, x_M_logs_80, x_M_logs_81, x_M_logs_82, x_M_logs_85, x_M_logs_88, x_M_logs_90, x_M_logs_91, x_M_logs_92, x_M_logs_93, x_M_logs_94, x_M_logs_97, x_M_logs_98, x_M_logs_99, x_M_logs_100, x_M_logs_101, x_M_logs_102, x_M_logs_103, k0, k1, n1, r0, e1, e2, e3, e4, e5, e6, z, m', jn_a, u2_jn, lW_succ, pK_6, pK_9, pK_35, pK_55, pK_75, pK_85, pK_109, pK_133, pK_157, pK_181, pK_205, pK_225, pK_245, pK_265, pK_285, inK_0, inK_1, inK_2, inK_3, inK_4, inK_5, inK_6, inK_7, inK_8, ixK_0, ixK_1, ixK_2, ixK_3, ixK_4, ixK_5, ixK_6, ixK_7, ixK_8, bI_0, bI_t, bI_f, e10, isA30, isA31, isA33, isA40, isA42, isA43, rOkB0, rOkB1, rOkB, Ret_v, Ret_n, cmp_eq, cmp_lt, cmp_gt, nI_1, eq_self, if_true, if_false, reduceIte]
    have := NoL_app (w := t) (u := w) (c := 0) hp h20
    unfold mLapp at this
    rw [z64] at this
    refine hq _ this (fun i hi => ?_)
    have o := mLapp_o (f := f') (w := t) (u := w) (c := 0) h20 hi
    unfold mLapp at o
    rw [z64] at o
    exact o
  by_cases q2 : 20 ≤ (bL a).1
  · have cu : cut (bL a) 20 = rDel (bL a) 0 := if_pos q2
    rw [cu] at hQ
    have n20 : (bL a).1 = 20 := by omega
    have e20 : nI (bL a).1 = 20 := by rw [n20]; decide
    have c1 := fun Q' => c_M_closes (Q := Q') (I := I) (J := J) (f := f) (b := 245) (n := (bL a).1) (k := 0) hS' (by omega) (by omega)
    have c2 := fun Q' => c_M_closes (Q := Q') (I := I) (J := J) (f := clsF f 245 (bL a).1 0) (b := 265) (n := (bL a).1) (k := 0) hS' (by omega) (by omega)
    have c3 := fun Q' => c_M_closes (Q := Q') (I := I) (J := J) (f := clsF (clsF f 245 (bL a).1 0) 265 (bL a).1 0) (b := 285) (n := (bL a).1) (k := 0) hS' (by omega) (by omega)
    have z : clsF (clsF (clsF f 245 (bL a).1 0) 265 (bL a).1 0) 285 (bL a).1 0 5 = lW (bL a).1 := by rw [cls_out (by omega) (by omega), cls_out (by omega) (by omega), cls_out (by omega) (by omega)]; exact hL.1
    simp only [kI_0, kI_1, kI_2, kI_3, kI_4, kI_5, kI_6, kI_7, kI_8, kI_9, kI_10, kI_11, kI_20, kI_24, kI_26, kI_35, kI_55, kI_75, kI_85, kI_109, kI_133, kI_157, kI_181, kI_205, kI_225, kI_245, kI_265, kI_285, kI_305, e20] at m c1 c2 c3
    simp only [x_M_logs_0, x_M_logs_1, x_M_logs_2, x_M_logs_5, x_M_logs_7, x_M_logs_10, x_M_logs_11, x_M_logs_14, x_M_logs_16, x_M_logs_17, x_M_logs_20, x_M_logs_21, x_M_logs_24, x_M_logs_26, x_M_logs_27, x_M_logs_30, x_M_logs_31, x_M_logs_34, x_M_logs_36, x_M_logs_37, x_M_logs_40, x_M_logs_41, x_M_logs_44, x_M_logs_45, x_M_logs_46, x_M_logs_47, x_M_logs_48, x_M_logs_49, x_M_logs_51, x_M_logs_52, x_M_logs_55, x_M_logs_57, x_M_logs_58, x_M_logs_61, x_M_logs_64, x_M_logs_66, x_M_logs_67, x_M_logs_68, x_M_logs_69, x_M_logs_70, x_M_logs_73, x_M_logs_76, x_M_logs_78, x_M_logs_79, x_M_logs_80, x_M_logs_81, x_M_logs_82, x_M_logs_85, x_M_logs_88, x_M_logs_90, x_M_logs_91, x_M_logs_92, x_M_logs_93, x_M_logs_94, x_M_logs_97, x_M_logs_98, x_M_logs_99, x_M_logs_100, x_M_logs_101, x_M_logs_102, x_M_logs_103, k0, k1, n1, r0, m, c1, c2, c3, z, jn_a, u2_jn, lW_pred (show 0 < (bL a).1 by omega), pK_6, pK_9, pK_35, pK_55, pK_75, pK_85, pK_109, pK_133, pK_157, pK_181, pK_205, pK_225, pK_245, pK_265, pK_285, inK_0, inK_1, inK_2, inK_3, inK_4, inK_5, inK_6, inK_7, inK_8, ixK_0, ixK_1, ixK_2, ixK_3, ixK_4, ixK_5, ixK_6, ixK_7, ixK_8, bI_0, bI_t, bI_f, e10, isA30, isA31, isA33, isA40, isA42, isA43, rOkB0, rOkB1, rOkB, Ret_v, Ret_n, cmp_eq, cmp_lt, cmp_gt, nI_1, eq_self, if_true, if_false, reduceIte]
    have D1 := NoL_del (k := 0) hL (by omega) iL
    refine app _ (rDel (bL a) 0) D1 (show (bL a).1 - 1 < 20 by omega) (fun g hg ho => hQ g ?_)
    exact NoD_L hD hF (fun i h305 hi => (ho i hi).trans (mLdel_o (by omega) iL hi)) hg
  · have cu : cut (bL a) 20 = bL a := if_neg q2
    rw [cu] at hQ
    have e20 : ¬ nI (bL a).1 = 20 := by rw [show (20 : Int32) = nI 20 by decide, nI_inj (by omega) (by omega)]; omega
    simp only [kI_0, kI_1, kI_2, kI_3, kI_4, kI_5, kI_6, kI_7, kI_8, kI_9, kI_10, kI_11, kI_20, kI_24, kI_26, kI_35, kI_55, kI_75, kI_85, kI_109, kI_133, kI_157, kI_181, kI_205, kI_225, kI_245, kI_265, kI_285, kI_305] at m
    simp only [x_M_logs_0, x_M_logs_1, x_M_logs_2, x_M_logs_5, x_M_logs_7, x_M_logs_10, x_M_logs_11, x_M_logs_14, x_M_logs_16, x_M_logs_17, x_M_logs_20, x_M_logs_21, x_M_logs_24, x_M_logs_26, x_M_logs_27, x_M_logs_30, x_M_logs_31, x_M_logs_34, x_M_logs_36, x_M_logs_37, x_M_logs_40, x_M_logs_41, x_M_logs_44, x_M_logs_45, x_M_logs_46, x_M_logs_47, x_M_logs_48, x_M_logs_49, x_M_logs_51, x_M_logs_52, x_M_logs_55, x_M_logs_57, x_M_logs_58, x_M_logs_61, x_M_logs_64, x_M_logs_66, x_M_logs_67, x_M_logs_68, x_M_logs_69, x_M_logs_70, x_M_logs_73, x_M_logs_76, x_M_logs_78, x_M_logs_79, x_M_logs_80, x_M_logs_81, x_M_logs_82, x_M_logs_85, x_M_logs_88, x_M_logs_90, x_M_logs_91, x_M_logs_92, x_M_logs_93, x_M_logs_94, x_M_logs_97, x_M_logs_98, x_M_logs_99, x_M_logs_100, x_M_logs_101, x_M_logs_102, x_M_logs_103, k0, m, e20, bI_0, bI_t, bI_f, e10, isA30, isA31, isA33, isA40, isA42, isA43, rOkB0, rOkB1, rOkB, Ret_v, Ret_n, cmp_eq, cmp_lt, cmp_gt, nI_1, eq_self, if_true, if_false, reduceIte]
    refine app f (bL a) hL (by omega) (fun g hg ho => hQ g ?_)
    exact NoD_L hD hF (fun i h305 hi => ho i hi) hg
theorem l_M_least (hS : MxS R S) (hP : NoP f p) (h24 : p.1 = 24) {k0' : Int32} : ∀ (d i l : Nat), i + d = 24 → l < 24 → Wp 212 77 [.ref 187, .long t, nov, .long w, nov, .int k0', .int (nI l), .int (nI i)] [] I (jn J f) R S Q = Wp 212 125 [.ref 187, .long t, nov, .long w, nov, .int k0', .int (nI (lsI p.2.2.2 l i d)), .int (nI 24)] [] I (jn J f) R S Q := by
  obtain ⟨k0, k1, n1, r0⟩ := hS
  intro d
  induction d with
  | zero =>
    intro i l hi hl
    have : i = 24 := by omega
    subst this
    rw [x_M_learns_77]
    simp only [x_M_learns_0, x_M_learns_1, x_M_learns_3, x_M_learns_5, x_M_learns_6, x_M_learns_7, x_M_learns_10, x_M_learns_11, x_M_learns_12, x_M_learns_15, x_M_learns_17, x_M_learns_19, x_M_learns_20, x_M_learns_23, x_M_learns_24, x_M_learns_27, x_M_learns_30, x_M_learns_32, x_M_learns_33, x_M_learns_34, x_M_learns_35, x_M_learns_36, x_M_learns_39, x_M_learns_42, x_M_learns_44, x_M_learns_45, x_M_learns_46, x_M_learns_49, x_M_learns_50, x_M_learns_53, x_M_learns_54, x_M_learns_57, x_M_learns_58, x_M_learns_59, x_M_learns_60, x_M_learns_61, x_M_learns_62, x_M_learns_63, x_M_learns_66, x_M_learns_68, x_M_learns_71, x_M_learns_72, x_M_learns_74, x_M_learns_75, x_M_learns_79, x_M_learns_81, x_M_learns_84, x_M_learns_85, x_M_learns_88, x_M_learns_91, x_M_learns_93, x_M_learns_94, x_M_learns_95, x_M_learns_96, x_M_learns_99, x_M_learns_102, x_M_learns_104, x_M_learns_105, x_M_learns_106, x_M_learns_107, x_M_learns_110, x_M_learns_112, x_M_learns_115, x_M_learns_117, x_M_learns_119, x_M_learns_122, x_M_learns_126, x_M_learns_128, x_M_learns_131, x_M_learns_132, x_M_learns_133, x_M_learns_136, x_M_learns_138, x_M_learns_139, x_M_learns_142, x_M_learns_144, x_M_learns_146, x_M_learns_147, x_M_learns_148, x_M_learns_149, x_M_learns_150, x_M_learns_153, x_M_learns_155, x_M_learns_157, x_M_learns_158, x_M_learns_159, x_M_learns_160, x_M_learns_161, x_M_learns_164, x_M_learns_167, x_M_learns_169, x_M_learns_170, x_M_learns_171, x_M_learns_172, x_M_learns_173, x_M_learns_176, x_M_learns_177, x_M_learns_178, x_M_learns_179, x_M_learns_180, x_M_learns_181, x_M_learns_182, show ¬ nI 24 < 24 by decide, lsI, bI_0, bI_t, bI_f, e10, isA30, isA31, isA33, isA40, isA42, isA43, rOkB0, rOkB1, rOkB, Ret_v, Ret_n, cmp_eq, cmp_lt, cmp_gt, nI_1, eq_self, if_true, if_false, reduceIte]
  | succ d ih =>
    intro i l hi hl
    have e : nI i < 24 := by rw [show (24 : Int32) = nI 24 by decide]; exact nI_lt (by omega) (by omega)
    have e1 := inb_nI (i := 133 + i) (n := 305) (by omega) (by omega)
    have e2 : ix (nI (133 + i)) = 133 + i := ix_nI (by omega)
    have e3 := inb_nI (i := 133 + l) (n := 305) (by omega) (by omega)
    have e4 : ix (nI (133 + l)) = 133 + l := ix_nI (by omega)
    have v1 : f (133 + i) = (p.2.2.2 i).toInt64 := hP.2.2.2 i (by omega)
    have v2 : f (133 + l) = (p.2.2.2 l).toInt64 := hP.2.2.2 l (by omega)
    rw [x_M_learns_77]
    by_cases q : p.2.2.2 i < p.2.2.2 l
    · simp only [x_M_learns_0, x_M_learns_1, x_M_learns_3, x_M_learns_5, x_M_learns_6, x_M_learns_7, x_M_learns_10, x_M_learns_11, x_M_learns_12, x_M_learns_15, x_M_learns_17, x_M_learns_19, x_M_learns_20, x_M_learns_23, x_M_learns_24, x_M_learns_27, x_M_learns_30, x_M_learns_32, x_M_learns_33, x_M_learns_34, x_M_learns_35, x_M_learns_36, x_M_learns_39, x_M_learns_42, x_M_learns_44, x_M_learns_45, x_M_learns_46, x_M_learns_49, x_M_learns_50, x_M_learns_53, x_M_learns_54, x_M_learns_57, x_M_learns_58, x_M_learns_59, x_M_learns_60, x_M_learns_61, x_M_learns_62, x_M_learns_63, x_M_learns_66, x_M_learns_68, x_M_learns_71, x_M_learns_72, x_M_learns_74, x_M_learns_75, x_M_learns_79, x_M_learns_81, x_M_learns_84, x_M_learns_85, x_M_learns_88, x_M_learns_91, x_M_learns_93, x_M_learns_94, x_M_learns_95, x_M_learns_96, x_M_learns_99, x_M_learns_102, x_M_learns_104, x_M_learns_105, x_M_learns_106, x_M_learns_107, x_M_learns_110, x_M_learns_112, x_M_learns_115, x_M_learns_117, x_M_learns_119, x_M_learns_122, x_M_learns_126, x_M_learns_128, x_M_learns_131, x_M_learns_132, x_M_learns_133, x_M_learns_136, x_M_learns_138, x_M_learns_139, x_M_learns_142, x_M_learns_144, x_M_learns_146, x_M_learns_147, x_M_learns_148, x_M_learns_149, x_M_learns_150, x_M_learns_153, x_M_learns_155, x_M_learns_157, x_M_learns_158, x_M_learns_159, x_M_learns_160, x_M_learns_161, x_M_learns_164, x_M_learns_167, x_M_learns_169, x_M_learns_170, x_M_learns_171, x_M_learns_172, x_M_learns_173, x_M_learns_176, x_M_learns_177, x_M_learns_178, x_M_learns_179, x_M_learns_180, x_M_learns_181, x_M_learns_182, e, k0, k1, n1, r0, e1, e2, e3, e4, v1, v2, jn_a, i64_lt, q, nI_1', lsI, ih (i + 1) i (by omega) (by omega), pK_6, pK_9, pK_35, pK_55, pK_75, pK_85, pK_109, pK_133, pK_157, pK_181, pK_205, pK_225, pK_245, pK_265, pK_285, inK_0, inK_1, inK_2, inK_3, inK_4, inK_5, inK_6, inK_7, inK_8, ixK_0, ixK_1, ixK_2, ixK_3, ixK_4, ixK_5, ixK_6, ixK_7, ixK_8, bI_0, bI_t, bI_f, e10, isA30, isA31, isA33, isA40, isA42, isA43, rOkB0, rOkB1, rOkB, Ret_v, Ret_n, cmp_eq, cmp_lt, cmp_gt, nI_1, eq_self, if_true, if_false, reduceIte]
    · simp only [x_M_learns_0, x_M_learns_1, x_M_learns_3, x_M_learns_5, x_M_learns_6, x_M_learns_7, x_M_learns_10, x_M_learns_11, x_M_learns_12, x_M_learns_15, x_M_learns_17, x_M_learns_19, x_M_learns_20, x_M_learns_23, x_M_learns_24, x_M_learns_27, x_M_learns_30, x_M_learns_32, x_M_learns_33, x_M_learns_34, x_M_learns_35, x_M_learns_36, x_M_learns_39, x_M_learns_42, x_M_learns_44, x_M_learns_45, x_M_learns_46, x_M_learns_49, x_M_learns_50, x_M_learns_53, x_M_learns_54, x_M_learns_57, x_M_learns_58, x_M_learns_59, x_M_learns_60, x_M_learns_61, x_M_learns_62, x_M_learns_63, x_M_learns_66, x_M_learns_68, x_M_learns_71, x_M_learns_72, x_M_learns_74, x_M_learns_75, x_M_learns_79, x_M_learns_81, x_M_learns_84, x_M_learns_85, x_M_learns_88, x_M_learns_91, x_M_learns_93, x_M_learns_94, x_M_learns_95, x_M_learns_96, x_M_learns_99, x_M_learns_102, x_M_learns_104, x_M_learns_105, x_M_learns_106, x_M_learns_107, x_M_learns_110, x_M_learns_112, x_M_learns_115, x_M_learns_117, x_M_learns_119, x_M_learns_122, x_M_learns_126, x_M_learns_128, x_M_learns_131, x_M_learns_132, x_M_learns_133, x_M_learns_136, x_M_learns_138, x_M_learns_139, x_M_learns_142, x_M_learns_144, x_M_learns_146, x_M_learns_147, x_M_learns_148, x_M_learns_149, x_M_learns_150, x_M_learns_153, x_M_learns_155, x_M_learns_157, x_M_learns_158, x_M_learns_159, x_M_learns_160, x_M_learns_161, x_M_learns_164, x_M_learns_167, x_M_learns_169, x_M_learns_170, x_M_learns_171, x_M_learns_172, x_M_learns_173, x_M_learns_176, x_M_learns_177, x_M_learns_178, x_M_learns_179, x_M_learns_180, x_M_learns_181, x_M_learns_182, e, k0, k1, n1, r0, e1, e2, e3, e4, v1, v2, jn_a, i64_lt, q, nI_1', lsI, ih (i + 1) l (by omega) hl, pK_6, pK_9, pK_35, pK_55, pK_75, pK_85, pK_109, pK_133, pK_157, pK_181, pK_205, pK_225, pK_245, pK_265, pK_285, inK_0, inK_1, inK_2, inK_3, inK_4, inK_5, inK_6, inK_7, inK_8, ixK_0, ixK_1, ixK_2, ixK_3, ixK_4, ixK_5, ixK_6, ixK_7, ixK_8, bI_0, bI_t, bI_f, e10, isA30, isA31, isA33, isA40, isA42, isA43, rOkB0, rOkB1, rOkB, Ret_v, Ret_n, cmp_eq, cmp_lt, cmp_gt, nI_1, eq_self, if_true, if_false, reduceIte]
theorem c_M_learns (hS : MxS R S) (hD : NoD f a) (hI : BkI T a) (hQ : ∀ g, NoD g (aLearn a t w) → Q 0 none I (jn J g) R S) : Wp 212 0 [.ref 187, .long t, nov, .long w, nov, nov, nov, nov] [] I (jn J f) R S Q := by
  have hF := BkF_of hI
  have iP := hI.2.2.1
  have cP := hI.2.2.2.2.2.2.2.2.2.2.2.2.2.2.2.1
  have hP := hD.2.2.1
  have m := fun Q' => mmany (Q := Q') (I := I) (J := J) (k := 2) hS (by omega) hP.1 (by omega)
  have fnd := fun Q' => c_M_findBoth (Q := Q') (I := I) (J := J) (f := f) (w := t) (u := w) (b := 85) (b2 := 109) (n := (bP a).1) hS (by omega) (by omega)
  rw [fd_congr (q := fun i => decide ((bP a).2.1 i = t) && decide ((bP a).2.2.1 i = w)) _ _ (fun j h1 h2 => by rw [hP.2.1 j (by omega), hP.2.2.1 j (by omega)])] at fnd
  rw [show fd (fun i => decide ((bP a).2.1 i = t) && decide ((bP a).2.2.1 i = w)) 0 (bP a).1 = fp (bP a) t w from rfl] at fnd
  have hS' := hS
  obtain ⟨k0, k1, n1, r0⟩ := hS
  have app : ∀ (f' : Nat → Int64) (p : Rw) (l6 l7 : Value), NoP f' p → p.1 < 24 → (∀ g, NoP g (rIns p p.1 t w 1) → (∀ i, ¬ (i = 2 ∨ (85 ≤ i ∧ i < 157)) → g i = f' i) → Q 0 none I (jn J g) R S) → Wp 212 131 [.ref 187, .long t, nov, .long w, nov, .int (-1), l6, l7] [] I (jn J f') R S Q := by
    intro f' p l6 l7 hp h20 hq
    have m' := fun Q' => mmany (Q := Q') (I := I) (J := J) (k := 2) hS' (by omega) hp.1 (by omega)
    have e1 := inb_nI (i := 85 + p.1) (n := 305) (by omega) (by omega)
    have e2 : ix (nI (85 + p.1)) = 85 + p.1 := ix_nI (by omega)
    have e3 := inb_nI (i := 109 + p.1) (n := 305) (by omega) (by omega)
    have e4 : ix (nI (109 + p.1)) = 109 + p.1 := ix_nI (by omega)
    have e5 := inb_nI (i := 133 + p.1) (n := 305) (by omega) (by omega)
    have e6 : ix (nI (133 + p.1)) = 133 + p.1 := ix_nI (by omega)
    have z : ju (ju (ju f' (85 + p.1) t) (109 + p.1) w) (133 + p.1) 1 2 = lW p.1 := by rw [ju_of (by omega), ju_of (by omega), ju_of (by omega)]; exact hp.1
    simp only [kI_0, kI_1, kI_2, kI_3, kI_4, kI_5, kI_6, kI_7, kI_8, kI_9, kI_10, kI_11, kI_20, kI_24, kI_26, kI_35, kI_55, kI_75, kI_85, kI_109, kI_133, kI_157, kI_181, kI_205, kI_225, kI_245, kI_265, kI_285, kI_305] at m'
    simp only [x_M_learns_0, x_M_learns_1, x_M_learns_3, x_M_learns_5, x_M_learns_6, x_M_learns_7, x_M_learns_10, x_M_learns_11, x_M_learns_12, x_M_learns_15, x_M_learns_17, x_M_learns_19, x_M_learns_20, x_M_learns_23, x_M_learns_24, x_M_learns_27, x_M_learns_30, x_M_learns_32, x_M_learns_33, x_M_learns_34, x_M_learns_35, x_M_learns_36, x_M_learns_39, x_M_learns_42, x_M_learns_44, x_M_learns_45, x_M_learns_46, x_M_learns_49, x_M_learns_50, x_M_learns_53, x_M_learns_54, x_M_learns_57, x_M_learns_58, x_M_learns_59, x_M_learns_60, x_M_learns_61, x_M_learns_62, x_M_learns_63, x_M_learns_66, x_M_learns_68, x_M_learns_71, x_M_learns_72, x_M_learns_74, x_M_learns_75, x_M_learns_79, x_M_learns_81, x_M_learns_84, x_M_learns_85, x_M_learns_88, x_M_learns_91, x_M_learns_93, x_M_learns_94, x_M_learns_95, x_M_learns_96, x_M_learns_99, x_M_learns_102, x_M_learns_104, x_M_learns_105, x_M_learns_106, x_M_learns_107, x_M_learns_110, x_M_learns_112, x_M_learns_115, x_M_learns_117, x_M_learns_119, x_M_learns_122, x_M_learns_125, x_M_learns_126, x_M_learns_128, x_M_learns_131, x_M_learns_132, x_M_learns_133, x_M_learns_136, x_M_learns_138, x_M_learns_139, x_M_learns_142, x_M_learns_144, x_M_learns_146, x_M_learns_147, x_M_learns_148, x_M_learns_149, x_M_learns_150, x_M_learns_153, x_M_learns_155, x_M_learns_157, x_M_learns_158, x_M_learns_159, x_M_learns_160, x_M_learns_161, x_M_learns_164, x_M_learns_167, x_M_learns_169, x_M_learns_170, x_M_learns_171, x_M_learns_172, x_M_learns_173, x_M_learns_176, x_M_learns_177, x_M_learns_178, x_M_learns_179, x_M_learns_180, x_M_learns_181, x_M_learns_182, k0, k1, n1, r0, e1, e2, e3, e4, e5, e6, z, m', jn_a, u2_jn, lW_succ, pK_6, pK_9, pK_35, pK_55, pK_75, pK_85, pK_109, pK_133, pK_157, pK_181, pK_205, pK_225, pK_245, pK_265, pK_285, inK_0, inK_1, inK_2, inK_3, inK_4, inK_5, inK_6, inK_7, inK_8, ixK_0, ixK_1, ixK_2, ixK_3, ixK_4, ixK_5, ixK_6, ixK_7, ixK_8, bI_0, bI_t, bI_f, e10, isA30, isA31, isA33, isA40, isA42, isA43, rOkB0, rOkB1, rOkB, Ret_v, Ret_n, cmp_eq, cmp_lt, cmp_gt, nI_1, eq_self, if_true, if_false, reduceIte]
    have := NoP_app (w := t) (u := w) (c := 1) hp h20
    unfold mPapp at this
    rw [o64] at this
    refine hq _ this (fun i hi => ?_)
    have o := mPapp_o (f := f') (w := t) (u := w) (c := 1) h20 hi
    unfold mPapp at o
    rw [o64] at o
    exact o
  unfold aLearn at hQ
  by_cases q1 : fp (bP a) t w < (bP a).1
  · rw [if_pos q1] at hQ
    have ne := frI_t q1 (by omega)
    rw [frI_lt q1] at fnd ne
    generalize fp (bP a) t w = i at *
    have cc := cP i q1
    have e1 := inb_nI (i := 133 + i) (n := 305) (by omega) (by omega)
    have e2 : ix (nI (133 + i)) = 133 + i := ix_nI (by omega)
    have v1 : f (133 + i) = ((bP a).2.2.2 i).toInt64 := hP.2.2.2 i (by omega)
    have D1 := fun c => NoD_P hD hF (fun j _ h => ju_of (by omega)) (NoP_put (c := c) hP q1 iP)
    have s1 := i64_succ (x := (bP a).2.2.2 i) (by omega) (by omega)
    have n99 : (99 : Int64) = (99 : Int32).toInt64 := by decide
    have hlt : ((bP a).2.2.2 i).toInt64 < 99 ↔ (bP a).2.2.2 i < 99 := by rw [n99, i64_lt]
    have su := i32_succ (x := (bP a).2.2.2 i) (by omega) (by omega)
    have t99 : (99 : Int32).toInt = 99 := by decide
    simp only [kI_0, kI_1, kI_2, kI_3, kI_4, kI_5, kI_6, kI_7, kI_8, kI_9, kI_10, kI_11, kI_20, kI_24, kI_26, kI_35, kI_55, kI_75, kI_85, kI_109, kI_133, kI_157, kI_181, kI_205, kI_225, kI_245, kI_265, kI_285, kI_305] at m fnd
    by_cases q3 : (bP a).2.2.2 i < 99
    · have up : up1 ((bP a).2.2.2 i) 99 = (bP a).2.2.2 i + 1 := by
        unfold up1
        rw [if_neg]
        rw [Int32.lt_iff_toInt_lt, t99] at *
        omega
      rw [up] at hQ
      have lt := hlt.mpr q3
      simp only [x_M_learns_0, x_M_learns_1, x_M_learns_3, x_M_learns_5, x_M_learns_6, x_M_learns_7, x_M_learns_10, x_M_learns_11, x_M_learns_12, x_M_learns_15, x_M_learns_17, x_M_learns_19, x_M_learns_20, x_M_learns_23, x_M_learns_24, x_M_learns_27, x_M_learns_30, x_M_learns_32, x_M_learns_33, x_M_learns_34, x_M_learns_35, x_M_learns_36, x_M_learns_39, x_M_learns_42, x_M_learns_44, x_M_learns_45, x_M_learns_46, x_M_learns_49, x_M_learns_50, x_M_learns_53, x_M_learns_54, x_M_learns_57, x_M_learns_58, x_M_learns_59, x_M_learns_60, x_M_learns_61, x_M_learns_62, x_M_learns_63, x_M_learns_66, x_M_learns_68, x_M_learns_71, x_M_learns_72, x_M_learns_74, x_M_learns_75, x_M_learns_79, x_M_learns_81, x_M_learns_84, x_M_learns_85, x_M_learns_88, x_M_learns_91, x_M_learns_93, x_M_learns_94, x_M_learns_95, x_M_learns_96, x_M_learns_99, x_M_learns_102, x_M_learns_104, x_M_learns_105, x_M_learns_106, x_M_learns_107, x_M_learns_110, x_M_learns_112, x_M_learns_115, x_M_learns_117, x_M_learns_119, x_M_learns_122, x_M_learns_125, x_M_learns_126, x_M_learns_128, x_M_learns_132, x_M_learns_133, x_M_learns_136, x_M_learns_138, x_M_learns_139, x_M_learns_142, x_M_learns_144, x_M_learns_146, x_M_learns_147, x_M_learns_148, x_M_learns_149, x_M_learns_150, x_M_learns_153, x_M_learns_155, x_M_learns_157, x_M_learns_158, x_M_learns_159, x_M_learns_160, x_M_learns_161, x_M_learns_164, x_M_learns_167, x_M_learns_169, x_M_learns_170, x_M_learns_171, x_M_learns_172, x_M_learns_173, x_M_learns_176, x_M_learns_177, x_M_learns_178, x_M_learns_179, x_M_learns_180, x_M_learns_181, x_M_learns_182, k0, k1, n1, r0, m, fnd, ne, e1, e2, v1, lt, s1, jn_a, u2_jn, pK_6, pK_9, pK_35, pK_55, pK_75, pK_85, pK_109, pK_133, pK_157, pK_181, pK_205, pK_225, pK_245, pK_265, pK_285, inK_0, inK_1, inK_2, inK_3, inK_4, inK_5, inK_6, inK_7, inK_8, ixK_0, ixK_1, ixK_2, ixK_3, ixK_4, ixK_5, ixK_6, ixK_7, ixK_8, bI_0, bI_t, bI_f, e10, isA30, isA31, isA33, isA40, isA42, isA43, rOkB0, rOkB1, rOkB, Ret_v, Ret_n, cmp_eq, cmp_lt, cmp_gt, nI_1, eq_self, if_true, if_false, reduceIte]
      exact hQ _ (D1 _)
    · have up : up1 ((bP a).2.2.2 i) 99 = (bP a).2.2.2 i := by
        unfold up1
        rw [if_pos]
        · rw [← Int32.toInt_inj, t99]
          rw [Int32.lt_iff_toInt_lt, t99] at q3
          omega
        · rw [Int32.lt_iff_toInt_lt, t99] at *
          omega
      rw [up] at hQ
      have lt : ¬ ((bP a).2.2.2 i).toInt64 < 99 := fun h => q3 (hlt.mp h)
      simp only [x_M_learns_0, x_M_learns_1, x_M_learns_3, x_M_learns_5, x_M_learns_6, x_M_learns_7, x_M_learns_10, x_M_learns_11, x_M_learns_12, x_M_learns_15, x_M_learns_17, x_M_learns_19, x_M_learns_20, x_M_learns_23, x_M_learns_24, x_M_learns_27, x_M_learns_30, x_M_learns_32, x_M_learns_33, x_M_learns_34, x_M_learns_35, x_M_learns_36, x_M_learns_39, x_M_learns_42, x_M_learns_44, x_M_learns_45, x_M_learns_46, x_M_learns_49, x_M_learns_50, x_M_learns_53, x_M_learns_54, x_M_learns_57, x_M_learns_58, x_M_learns_59, x_M_learns_60, x_M_learns_61, x_M_learns_62, x_M_learns_63, x_M_learns_66, x_M_learns_68, x_M_learns_71, x_M_learns_72, x_M_learns_74, x_M_learns_75, x_M_learns_79, x_M_learns_81, x_M_learns_84, x_M_learns_85, x_M_learns_88, x_M_learns_91, x_M_learns_93, x_M_learns_94, x_M_learns_95, x_M_learns_96, x_M_learns_99, x_M_learns_102, x_M_learns_104, x_M_learns_105, x_M_learns_106, x_M_learns_107, x_M_learns_110, x_M_learns_112, x_M_learns_115, x_M_learns_117, x_M_learns_119, x_M_learns_122, x_M_learns_125, x_M_learns_126, x_M_learns_128, x_M_learns_132, x_M_learns_133, x_M_learns_136, x_M_learns_138, x_M_learns_139, x_M_learns_142, x_M_learns_144, x_M_learns_146, x_M_learns_147, x_M_learns_148, x_M_learns_149, x_M_learns_150, x_M_learns_153, x_M_learns_155, x_M_learns_157, x_M_learns_158, x_M_learns_159, x_M_learns_160, x_M_learns_161, x_M_learns_164, x_M_learns_167, x_M_learns_169, x_M_learns_170, x_M_learns_171, x_M_learns_172, x_M_learns_173, x_M_learns_176, x_M_learns_177, x_M_learns_178, x_M_learns_179, x_M_learns_180, x_M_learns_181, x_M_learns_182, k0, k1, n1, r0, m, fnd, ne, e1, e2, v1, lt, Int64.add_zero, jn_a, u2_jn, pK_6, pK_9, pK_35, pK_55, pK_75, pK_85, pK_109, pK_133, pK_157, pK_181, pK_205, pK_225, pK_245, pK_265, pK_285, inK_0, inK_1, inK_2, inK_3, inK_4, inK_5, inK_6, inK_7, inK_8, ixK_0, ixK_1, ixK_2, ixK_3, ixK_4, ixK_5, ixK_6, ixK_7, ixK_8, bI_0, bI_t, bI_f, e10, isA30, isA31, isA33, isA40, isA42, isA43, rOkB0, rOkB1, rOkB, Ret_v, Ret_n, cmp_eq, cmp_lt, cmp_gt, nI_1, eq_self, if_true, if_false, reduceIte]
      exact hQ _ (D1 _)
  · rw [if_neg q1] at hQ
    rw [frI_ge q1] at fnd
    unfold lrnP at hQ
    by_cases q2 : 24 ≤ (bP a).1
    · rw [if_pos q2] at hQ
      have n24 : (bP a).1 = 24 := by omega
      have e24 : nI (bP a).1 = 24 := by rw [n24]; decide
      have ls := l_M_least (I := I) (J := J) (Q := Q) (t := t) (w := w) hS' hP n24 (k0' := -1) 23 1 0 (by omega) (by omega)
      have ll := lsI_lt (f := (bP a).2.2.2) 23 0 1 24 (by omega) (by omega)
      rw [show (bP a).1 - 1 = 23 by omega] at hQ
      generalize lsI (bP a).2.2.2 0 1 23 = l at *
      have ul := fun Q' => c_M_unlearns (Q := Q') (I := I) (J := J) (k := l) hS' hP iP (by omega)
      simp only [kI_0, kI_1, kI_2, kI_3, kI_4, kI_5, kI_6, kI_7, kI_8, kI_9, kI_10, kI_11, kI_20, kI_24, kI_26, kI_35, kI_55, kI_75, kI_85, kI_109, kI_133, kI_157, kI_181, kI_205, kI_225, kI_245, kI_265, kI_285, kI_305, e24] at m fnd ls
      simp only [x_M_learns_0, x_M_learns_1, x_M_learns_3, x_M_learns_5, x_M_learns_6, x_M_learns_7, x_M_learns_10, x_M_learns_11, x_M_learns_12, x_M_learns_15, x_M_learns_17, x_M_learns_19, x_M_learns_20, x_M_learns_23, x_M_learns_24, x_M_learns_27, x_M_learns_30, x_M_learns_32, x_M_learns_33, x_M_learns_34, x_M_learns_35, x_M_learns_36, x_M_learns_39, x_M_learns_42, x_M_learns_44, x_M_learns_45, x_M_learns_46, x_M_learns_49, x_M_learns_50, x_M_learns_53, x_M_learns_54, x_M_learns_57, x_M_learns_58, x_M_learns_59, x_M_learns_60, x_M_learns_61, x_M_learns_62, x_M_learns_63, x_M_learns_66, x_M_learns_68, x_M_learns_71, x_M_learns_72, x_M_learns_74, x_M_learns_75, x_M_learns_79, x_M_learns_81, x_M_learns_84, x_M_learns_85, x_M_learns_88, x_M_learns_91, x_M_learns_93, x_M_learns_94, x_M_learns_95, x_M_learns_96, x_M_learns_99, x_M_learns_102, x_M_learns_104, x_M_learns_105, x_M_learns_106, x_M_learns_107, x_M_learns_110, x_M_learns_112, x_M_learns_115, x_M_learns_117, x_M_learns_119, x_M_learns_122, x_M_learns_125, x_M_learns_126, x_M_learns_128, x_M_learns_132, x_M_learns_133, x_M_learns_136, x_M_learns_138, x_M_learns_139, x_M_learns_142, x_M_learns_144, x_M_learns_146, x_M_learns_147, x_M_learns_148, x_M_learns_149, x_M_learns_150, x_M_learns_153, x_M_learns_155, x_M_learns_157, x_M_learns_158, x_M_learns_159, x_M_learns_160, x_M_learns_161, x_M_learns_164, x_M_learns_167, x_M_learns_169, x_M_learns_170, x_M_learns_171, x_M_learns_172, x_M_learns_173, x_M_learns_176, x_M_learns_177, x_M_learns_178, x_M_learns_179, x_M_learns_180, x_M_learns_181, x_M_learns_182, k0, m, fnd, ls, ul, bI_0, bI_t, bI_f, e10, isA30, isA31, isA33, isA40, isA42, isA43, rOkB0, rOkB1, rOkB, Ret_v, Ret_n, cmp_eq, cmp_lt, cmp_gt, nI_1, eq_self, if_true, if_false, reduceIte]
      refine app _ (rDel (bP a) l) _ _ (NoP_del hP (by omega) iP) (show (bP a).1 - 1 < 24 by omega) (fun g hg ho => hQ g ?_)
      exact NoD_P hD hF (fun i h305 hi => (ho i hi).trans (mPdel_o (by omega) iP hi)) hg
    · rw [if_neg q2] at hQ
      have e24 : ¬ nI (bP a).1 = 24 := by rw [show (24 : Int32) = nI 24 by decide, nI_inj (by omega) (by omega)]; omega
      simp only [kI_0, kI_1, kI_2, kI_3, kI_4, kI_5, kI_6, kI_7, kI_8, kI_9, kI_10, kI_11, kI_20, kI_24, kI_26, kI_35, kI_55, kI_75, kI_85, kI_109, kI_133, kI_157, kI_181, kI_205, kI_225, kI_245, kI_265, kI_285, kI_305] at m fnd
      simp only [x_M_learns_0, x_M_learns_1, x_M_learns_3, x_M_learns_5, x_M_learns_6, x_M_learns_7, x_M_learns_10, x_M_learns_11, x_M_learns_12, x_M_learns_15, x_M_learns_17, x_M_learns_19, x_M_learns_20, x_M_learns_23, x_M_learns_24, x_M_learns_27, x_M_learns_30, x_M_learns_32, x_M_learns_33, x_M_learns_34, x_M_learns_35, x_M_learns_36, x_M_learns_39, x_M_learns_42, x_M_learns_44, x_M_learns_45, x_M_learns_46, x_M_learns_49, x_M_learns_50, x_M_learns_53, x_M_learns_54, x_M_learns_57, x_M_learns_58, x_M_learns_59, x_M_learns_60, x_M_learns_61, x_M_learns_62, x_M_learns_63, x_M_learns_66, x_M_learns_68, x_M_learns_71, x_M_learns_72, x_M_learns_74, x_M_learns_75, x_M_learns_79, x_M_learns_81, x_M_learns_84, x_M_learns_85, x_M_learns_88, x_M_learns_91, x_M_learns_93, x_M_learns_94, x_M_learns_95, x_M_learns_96, x_M_learns_99, x_M_learns_102, x_M_learns_104, x_M_learns_105, x_M_learns_106, x_M_learns_107, x_M_learns_110, x_M_learns_112, x_M_learns_115, x_M_learns_117, x_M_learns_119, x_M_learns_122, x_M_learns_125, x_M_learns_126, x_M_learns_128, x_M_learns_132, x_M_learns_133, x_M_learns_136, x_M_learns_138, x_M_learns_139, x_M_learns_142, x_M_learns_144, x_M_learns_146, x_M_learns_147, x_M_learns_148, x_M_learns_149, x_M_learns_150, x_M_learns_153, x_M_learns_155, x_M_learns_157, x_M_learns_158, x_M_learns_159, x_M_learns_160, x_M_learns_161, x_M_learns_164, x_M_learns_167, x_M_learns_169, x_M_learns_170, x_M_learns_171, x_M_learns_172, x_M_learns_173, x_M_learns_176, x_M_learns_177, x_M_learns_178, x_M_learns_179, x_M_learns_180, x_M_learns_181, x_M_learns_182, k0, m, fnd, e24, bI_0, bI_t, bI_f, e10, isA30, isA31, isA33, isA40, isA42, isA43, rOkB0, rOkB1, rOkB, Ret_v, Ret_n, cmp_eq, cmp_lt, cmp_gt, nI_1, eq_self, if_true, if_false, reduceIte]
      refine app f (bP a) _ _ hP (by omega) (fun g hg ho => hQ g ?_)
      exact NoD_P hD hF (fun i h305 hi => ho i hi) hg
end MG
