/-! the constructor of Book -/
section NB
variable {I I' I2 : MI} {J J' J2 : MJ} {R R' R2 : MR} {S S' S2 : Sh} {Q : SkQ} {B : Nat}
theorem n26 : 0 ≤ (26 : Int32).toInt ∧ (26 : Int32).toInt ≤ 100000 := by decide
theorem n3 : 0 ≤ (3 : Int32).toInt ∧ (3 : Int32).toInt ≤ 100000 := by decide
theorem ix26 : ix 26 = 26 := by decide
theorem in03 : inb 0 3 = true := by decide
theorem in13 : inb 1 3 = true := by decide
theorem in23 : inb 2 3 = true := by decide
theorem c_O_init (hS : S.1 B = 0) (hn : S.2.2.1 = B + 1) (h0 : S.2.2.2.1 = 0) (hQ : ∀ I' J' R' S', kp 0 B I J R S I' J' R' S' → cq S S' (B + 27) 407 → BkS R' S' B → BkD I' J' B bk0 → Q 0 none I' J' R' S') : Wp 77 0 [.ref B] [] I J R S Q := by
  have z0 : (sh_new S 4 0 4).1 (B + 1) = 4 := sh_1e hn.symm
  simp only [x_O_init_0, x_O_init_1, x_O_init_4, x_O_init_5, x_O_init_8, x_O_init_9, x_O_init_11, x_O_init_14, x_O_init_17, x_O_init_18, x_O_init_21, x_O_init_22, x_O_init_24, x_O_init_27, x_O_init_30, x_O_init_31, x_O_init_34, x_O_init_35, x_O_init_37, x_O_init_40, x_O_init_43, x_O_init_44, x_O_init_47, x_O_init_48, x_O_init_50, x_O_init_53, x_O_init_56, x_O_init_57, x_O_init_60, x_O_init_61, x_O_init_63, x_O_init_66, x_O_init_69, x_O_init_70, x_O_init_73, x_O_init_74, x_O_init_76, x_O_init_79, x_O_init_82, x_O_init_83, x_O_init_85, x_O_init_87, x_O_init_90, x_O_init_91, x_O_init_92, x_O_init_94, x_O_init_95, x_O_init_96, x_O_init_97, x_O_init_98, x_O_init_99, x_O_init_100, x_O_init_101, x_O_init_102, x_O_init_103, x_O_init_104, x_O_init_105, x_O_init_106, x_O_init_109, hS, hn, h0, z0, bI_0, bI_t, bI_f, e10, isA30, isA31, isA33, isA40, isA42, isA43, rOkB0, rOkB1, rOkB, Ret_v, Ret_n, cmp_eq, cmp_lt, cmp_gt, nI_1, eq_self, if_true, if_false, reduceIte]
  refine c_R_init (c := 20) (by decide) (by omega) z0 (by rw [sh_c, hn]) h0 (fun I1 J1 R1 S1 hk1 hc1 hr1 hi1 => ?_)
  have P1 : Pk B 1 I1 (u2 R1 B 0 (.ref (B + 1))) S1 := Pk_nx (k := 0) (lo := B + 1) (fun j hj => absurd hj (by omega)) (by omega) hn hk1 hr1 hi1
  have e1 : S1.1 B = 0 := ((hk1 B (by omega) (by omega)).2.2.2.1).trans (by rw [sh_1p (by omega)]; exact hS)
  have c1 : S1.2.2.1 = B + 5 := by rw [hc1.1]
  have t1 : S1.2.2.2.1 = 0 := hc1.2.1
  have w1 : S1.2.2.2.2 = S.2.2.2.2 + 64 := by rw [hc1.2.2, sh_w]
  have g1 : kp 0 B I J R S I1 J1 (u2 R1 B 0 (.ref (B + 1))) S1 := kp_R (kp_trans (kp_mono (kp_new hn) (by omega) (by omega)) (kp_mono hk1 (by omega) (by omega))) (by omega)
  have z1 : (sh_new S1 4 0 4).1 (B + 5) = 4 := sh_1e c1.symm
  simp only [x_O_init_0, x_O_init_1, x_O_init_4, x_O_init_5, x_O_init_8, x_O_init_9, x_O_init_11, x_O_init_14, x_O_init_17, x_O_init_18, x_O_init_21, x_O_init_22, x_O_init_24, x_O_init_27, x_O_init_30, x_O_init_31, x_O_init_34, x_O_init_35, x_O_init_37, x_O_init_40, x_O_init_43, x_O_init_44, x_O_init_47, x_O_init_48, x_O_init_50, x_O_init_53, x_O_init_56, x_O_init_57, x_O_init_60, x_O_init_61, x_O_init_63, x_O_init_66, x_O_init_69, x_O_init_70, x_O_init_73, x_O_init_74, x_O_init_76, x_O_init_79, x_O_init_82, x_O_init_83, x_O_init_85, x_O_init_87, x_O_init_90, x_O_init_91, x_O_init_92, x_O_init_94, x_O_init_95, x_O_init_96, x_O_init_97, x_O_init_98, x_O_init_99, x_O_init_100, x_O_init_101, x_O_init_102, x_O_init_103, x_O_init_104, x_O_init_105, x_O_init_106, x_O_init_109, e1, c1, t1, z1, bI_0, bI_t, bI_f, e10, isA30, isA31, isA33, isA40, isA42, isA43, rOkB0, rOkB1, rOkB, Ret_v, Ret_n, cmp_eq, cmp_lt, cmp_gt, nI_1, eq_self, if_true, if_false, reduceIte]
  refine c_R_init (c := 10) (by decide) (by omega) z1 (by rw [sh_c, c1]) t1 (fun I2 J2 R2 S2 hk2 hc2 hr2 hi2 => ?_)
  have P2 : Pk B 2 I2 (u2 R2 B 1 (.ref (B + 5))) S2 := Pk_nx (k := 1) (lo := B + 5) P1 (by omega) c1 hk2 hr2 hi2
  have e2 : S2.1 B = 0 := ((hk2 B (by omega) (by omega)).2.2.2.1).trans (by rw [sh_1p (by omega)]; exact e1)
  have c2 : S2.2.2.1 = B + 9 := by rw [hc2.1]
  have t2 : S2.2.2.2.1 = 0 := hc2.2.1
  have w2 : S2.2.2.2.2 = S1.2.2.2.2 + 34 := by rw [hc2.2.2, sh_w]
  have g2 : kp 0 B I J R S I2 J2 (u2 R2 B 1 (.ref (B + 5))) S2 := kp_trans g1 (kp_R (kp_trans (kp_mono (kp_new c1) (by omega) (by omega)) (kp_mono hk2 (by omega) (by omega))) (by omega))
  have z2 : (sh_new S2 4 0 4).1 (B + 9) = 4 := sh_1e c2.symm
  simp only [x_O_init_0, x_O_init_1, x_O_init_4, x_O_init_5, x_O_init_8, x_O_init_9, x_O_init_11, x_O_init_14, x_O_init_17, x_O_init_18, x_O_init_21, x_O_init_22, x_O_init_24, x_O_init_27, x_O_init_30, x_O_init_31, x_O_init_34, x_O_init_35, x_O_init_37, x_O_init_40, x_O_init_43, x_O_init_44, x_O_init_47, x_O_init_48, x_O_init_50, x_O_init_53, x_O_init_56, x_O_init_57, x_O_init_60, x_O_init_61, x_O_init_63, x_O_init_66, x_O_init_69, x_O_init_70, x_O_init_73, x_O_init_74, x_O_init_76, x_O_init_79, x_O_init_82, x_O_init_83, x_O_init_85, x_O_init_87, x_O_init_90, x_O_init_91, x_O_init_92, x_O_init_94, x_O_init_95, x_O_init_96, x_O_init_97, x_O_init_98, x_O_init_99, x_O_init_100, x_O_init_101, x_O_init_102, x_O_init_103, x_O_init_104, x_O_init_105, x_O_init_106, x_O_init_109, e2, c2, t2, z2, bI_0, bI_t, bI_f, e10, isA30, isA31, isA33, isA40, isA42, isA43, rOkB0, rOkB1, rOkB, Ret_v, Ret_n, cmp_eq, cmp_lt, cmp_gt, nI_1, eq_self, if_true, if_false, reduceIte]
  refine c_R_init (c := 24) (by decide) (by omega) z2 (by rw [sh_c, c2]) t2 (fun I3 J3 R3 S3 hk3 hc3 hr3 hi3 => ?_)
  have P3 : Pk B 3 I3 (u2 R3 B 2 (.ref (B + 9))) S3 := Pk_nx (k := 2) (lo := B + 9) P2 (by omega) c2 hk3 hr3 hi3
  have e3 : S3.1 B = 0 := ((hk3 B (by omega) (by omega)).2.2.2.1).trans (by rw [sh_1p (by omega)]; exact e2)
  have c3 : S3.2.2.1 = B + 13 := by rw [hc3.1]
  have t3 : S3.2.2.2.1 = 0 := hc3.2.1
  have w3 : S3.2.2.2.2 = S2.2.2.2.2 + 76 := by rw [hc3.2.2, sh_w]
  have g3 : kp 0 B I J R S I3 J3 (u2 R3 B 2 (.ref (B + 9))) S3 := kp_trans g2 (kp_R (kp_trans (kp_mono (kp_new c2) (by omega) (by omega)) (kp_mono hk3 (by omega) (by omega))) (by omega))
  have z3 : (sh_new S3 4 0 4).1 (B + 13) = 4 := sh_1e c3.symm
  simp only [x_O_init_0, x_O_init_1, x_O_init_4, x_O_init_5, x_O_init_8, x_O_init_9, x_O_init_11, x_O_init_14, x_O_init_17, x_O_init_18, x_O_init_21, x_O_init_22, x_O_init_24, x_O_init_27, x_O_init_30, x_O_init_31, x_O_init_34, x_O_init_35, x_O_init_37, x_O_init_40, x_O_init_43, x_O_init_44, x_O_init_47, x_O_init_48, x_O_init_50, x_O_init_53, x_O_init_56, x_O_init_57, x_O_init_60, x_O_init_61, x_O_init_63, x_O_init_66, x_O_init_69, x_O_init_70, x_O_init_73, x_O_init_74, x_O_init_76, x_O_init_79, x_O_init_82, x_O_init_83, x_O_init_85, x_O_init_87, x_O_init_90, x_O_init_91, x_O_init_92, x_O_init_94, x_O_init_95, x_O_init_96, x_O_init_97, x_O_init_98, x_O_init_99, x_O_init_100, x_O_init_101, x_O_init_102, x_O_init_103, x_O_init_104, x_O_init_105, x_O_init_106, x_O_init_109, e3, c3, t3, z3, bI_0, bI_t, bI_f, e10, isA30, isA31, isA33, isA40, isA42, isA43, rOkB0, rOkB1, rOkB, Ret_v, Ret_n, cmp_eq, cmp_lt, cmp_gt, nI_1, eq_self, if_true, if_false, reduceIte]
  refine c_R_init (c := 24) (by decide) (by omega) z3 (by rw [sh_c, c3]) t3 (fun I4 J4 R4 S4 hk4 hc4 hr4 hi4 => ?_)
  have P4 : Pk B 4 I4 (u2 R4 B 3 (.ref (B + 13))) S4 := Pk_nx (k := 3) (lo := B + 13) P3 (by omega) c3 hk4 hr4 hi4
  have e4 : S4.1 B = 0 := ((hk4 B (by omega) (by omega)).2.2.2.1).trans (by rw [sh_1p (by omega)]; exact e3)
  have c4 : S4.2.2.1 = B + 17 := by rw [hc4.1]
  have t4 : S4.2.2.2.1 = 0 := hc4.2.1
  have w4 : S4.2.2.2.2 = S3.2.2.2.2 + 76 := by rw [hc4.2.2, sh_w]
  have g4 : kp 0 B I J R S I4 J4 (u2 R4 B 3 (.ref (B + 13))) S4 := kp_trans g3 (kp_R (kp_trans (kp_mono (kp_new c3) (by omega) (by omega)) (kp_mono hk4 (by omega) (by omega))) (by omega))
  have z4 : (sh_new S4 4 0 4).1 (B + 17) = 4 := sh_1e c4.symm
  simp only [x_O_init_0, x_O_init_1, x_O_init_4, x_O_init_5, x_O_init_8, x_O_init_9, x_O_init_11, x_O_init_14, x_O_init_17, x_O_init_18, x_O_init_21, x_O_init_22, x_O_init_24, x_O_init_27, x_O_init_30, x_O_init_31, x_O_init_34, x_O_init_35, x_O_init_37, x_O_init_40, x_O_init_43, x_O_init_44, x_O_init_47, x_O_init_48, x_O_init_50, x_O_init_53, x_O_init_56, x_O_init_57, x_O_init_60, x_O_init_61, x_O_init_63, x_O_init_66, x_O_init_69, x_O_init_70, x_O_init_73, x_O_init_74, x_O_init_76, x_O_init_79, x_O_init_82, x_O_init_83, x_O_init_85, x_O_init_87, x_O_init_90, x_O_init_91, x_O_init_92, x_O_init_94, x_O_init_95, x_O_init_96, x_O_init_97, x_O_init_98, x_O_init_99, x_O_init_100, x_O_init_101, x_O_init_102, x_O_init_103, x_O_init_104, x_O_init_105, x_O_init_106, x_O_init_109, e4, c4, t4, z4, bI_0, bI_t, bI_f, e10, isA30, isA31, isA33, isA40, isA42, isA43, rOkB0, rOkB1, rOkB, Ret_v, Ret_n, cmp_eq, cmp_lt, cmp_gt, nI_1, eq_self, if_true, if_false, reduceIte]
  refine c_R_init (c := 20) (by decide) (by omega) z4 (by rw [sh_c, c4]) t4 (fun I5 J5 R5 S5 hk5 hc5 hr5 hi5 => ?_)
  have P5 : Pk B 5 I5 (u2 R5 B 4 (.ref (B + 17))) S5 := Pk_nx (k := 4) (lo := B + 17) P4 (by omega) c4 hk5 hr5 hi5
  have e5 : S5.1 B = 0 := ((hk5 B (by omega) (by omega)).2.2.2.1).trans (by rw [sh_1p (by omega)]; exact e4)
  have c5 : S5.2.2.1 = B + 21 := by rw [hc5.1]
  have t5 : S5.2.2.2.1 = 0 := hc5.2.1
  have w5 : S5.2.2.2.2 = S4.2.2.2.2 + 64 := by rw [hc5.2.2, sh_w]
  have g5 : kp 0 B I J R S I5 J5 (u2 R5 B 4 (.ref (B + 17))) S5 := kp_trans g4 (kp_R (kp_trans (kp_mono (kp_new c4) (by omega) (by omega)) (kp_mono hk5 (by omega) (by omega))) (by omega))
  have z5 : (sh_new S5 4 0 4).1 (B + 21) = 4 := sh_1e c5.symm
  simp only [x_O_init_0, x_O_init_1, x_O_init_4, x_O_init_5, x_O_init_8, x_O_init_9, x_O_init_11, x_O_init_14, x_O_init_17, x_O_init_18, x_O_init_21, x_O_init_22, x_O_init_24, x_O_init_27, x_O_init_30, x_O_init_31, x_O_init_34, x_O_init_35, x_O_init_37, x_O_init_40, x_O_init_43, x_O_init_44, x_O_init_47, x_O_init_48, x_O_init_50, x_O_init_53, x_O_init_56, x_O_init_57, x_O_init_60, x_O_init_61, x_O_init_63, x_O_init_66, x_O_init_69, x_O_init_70, x_O_init_73, x_O_init_74, x_O_init_76, x_O_init_79, x_O_init_82, x_O_init_83, x_O_init_85, x_O_init_87, x_O_init_90, x_O_init_91, x_O_init_92, x_O_init_94, x_O_init_95, x_O_init_96, x_O_init_97, x_O_init_98, x_O_init_99, x_O_init_100, x_O_init_101, x_O_init_102, x_O_init_103, x_O_init_104, x_O_init_105, x_O_init_106, x_O_init_109, e5, c5, t5, z5, bI_0, bI_t, bI_f, e10, isA30, isA31, isA33, isA40, isA42, isA43, rOkB0, rOkB1, rOkB, Ret_v, Ret_n, cmp_eq, cmp_lt, cmp_gt, nI_1, eq_self, if_true, if_false, reduceIte]
  refine c_R_init (c := 20) (by decide) (by omega) z5 (by rw [sh_c, c5]) t5 (fun I6 J6 R6 S6 hk6 hc6 hr6 hi6 => ?_)
  have P6 : Pk B 6 I6 (u2 R6 B 5 (.ref (B + 21))) S6 := Pk_nx (k := 5) (lo := B + 21) P5 (by omega) c5 hk6 hr6 hi6
  have e6 : S6.1 B = 0 := ((hk6 B (by omega) (by omega)).2.2.2.1).trans (by rw [sh_1p (by omega)]; exact e5)
  have c6 : S6.2.2.1 = B + 25 := by rw [hc6.1]
  have t6 : S6.2.2.2.1 = 0 := hc6.2.1
  have w6 : S6.2.2.2.2 = S5.2.2.2.2 + 64 := by rw [hc6.2.2, sh_w]
  have g6 : kp 0 B I J R S I6 J6 (u2 R6 B 5 (.ref (B + 21))) S6 := kp_trans g5 (kp_R (kp_trans (kp_mono (kp_new c5) (by omega) (by omega)) (kp_mono hk6 (by omega) (by omega))) (by omega))
  have k1 : (sh_new S6 30 26 26).1 B = 0 := by rw [sh_1p (by omega)]; exact e6
  have c7 : (sh_new S6 30 26 26).2.2.1 = B + 26 := by rw [sh_c, c6]
  have k2 : (sh_new (sh_new S6 30 26 26) 30 3 3).1 B = 0 := by rw [sh_1p (by omega)]; exact k1
  have k3 : (sh_new (sh_new S6 30 26 26) 30 3 3).1 (B + 26) = 30 := sh_1e c7.symm
  have k4 : (sh_new (sh_new S6 30 26 26) 30 3 3).2.1 (B + 26) = 3 := sh_2e c7.symm
  simp only [x_O_init_0, x_O_init_1, x_O_init_4, x_O_init_5, x_O_init_8, x_O_init_9, x_O_init_11, x_O_init_14, x_O_init_17, x_O_init_18, x_O_init_21, x_O_init_22, x_O_init_24, x_O_init_27, x_O_init_30, x_O_init_31, x_O_init_34, x_O_init_35, x_O_init_37, x_O_init_40, x_O_init_43, x_O_init_44, x_O_init_47, x_O_init_48, x_O_init_50, x_O_init_53, x_O_init_56, x_O_init_57, x_O_init_60, x_O_init_61, x_O_init_63, x_O_init_66, x_O_init_69, x_O_init_70, x_O_init_73, x_O_init_74, x_O_init_76, x_O_init_79, x_O_init_82, x_O_init_83, x_O_init_85, x_O_init_87, x_O_init_90, x_O_init_91, x_O_init_92, x_O_init_94, x_O_init_95, x_O_init_96, x_O_init_97, x_O_init_98, x_O_init_99, x_O_init_100, x_O_init_101, x_O_init_102, x_O_init_103, x_O_init_104, x_O_init_105, x_O_init_106, x_O_init_109, e6, c6, t6, sh_t, n26, n3, and_self, ix26, ixK_3, k1, c7, k2, k3, k4, in03, in13, in23, ixK_0, ixK_1, ixK_2, bI_0, bI_t, bI_f, e10, isA30, isA31, isA33, isA40, isA42, isA43, rOkB0, rOkB1, rOkB, Ret_v, Ret_n, cmp_eq, cmp_lt, cmp_gt, nI_1, eq_self, if_true, if_false, reduceIte]
  have q1 : kp 0 (B + 25) I6 J6 (u2 R6 B 5 (.ref (B + 21))) S6 (u2 (u2 (u2 (u1 (u1 I6 (B + 25) 0) (B + 26) 0) (B + 26) 0 4) (B + 26) 1 2) (B + 26) 2 3) J6 (u2 R6 B 5 (.ref (B + 21))) (sh_new (sh_new S6 30 26 26) 30 3 3) := kp_S (kp_S (kp_I (kp_I (kp_I (kp_u1I (kp_u1I kp_rfl (by omega)) (by omega)) (by omega)) (by omega)) (by omega)) (by omega)) (by omega)
  have q2 := kp_R (k := B) (n := 6) (r := .ref (B + 25)) (kp_mono q1 (a' := B + 1) (b' := B + 25) (by omega) (by omega)) (by omega)
  have q3 := kp_R (k := B) (n := 7) (r := .ref (B + 26)) q2 (by omega)
  have P7 : Pk B 6 (u2 (u2 (u2 (u1 (u1 I6 (B + 25) 0) (B + 26) 0) (B + 26) 0 4) (B + 26) 1 2) (B + 26) 2 3) (u2 (u2 (u2 R6 B 5 (.ref (B + 21))) B 6 (.ref (B + 25))) B 7 (.ref (B + 26))) (sh_new (sh_new S6 30 26 26) 30 3 3) := fun j hj => by
    obtain ⟨a1, a2, a3⟩ := P6 j hj
    exact ⟨RwS_kp a1 q3 (by omega) (by omega), by rw [(q3 (B + 1 + 4 * j) (by omega) (by omega)).1]; exact a2, by rw [u2_k (by omega), u2_k (by omega)]; exact a3⟩
  refine hQ _ _ _ _ (kp_trans g6 (kp_R (kp_R (kp_mono q1 (by omega) (by omega)) (by omega)) (by omega))) ⟨by rw [sh_c, c7], t6, by rw [sh_w, sh_w]; omega⟩ (BkS_of P7 k2 ?_ k3 ?_ k4 ?_ u2_eq) (BkD_of P7 ?_ ?_)
  · rw [sh_1p (by omega)]; exact sh_1e c6.symm
  · rw [sh_2p (by omega)]; exact sh_2e c6.symm
  · rw [u2_k (by omega)]; exact u2_eq
  · intro i hi
    rw [u2_p (by omega), u2_p (by omega), u2_p (by omega), u1_p (by omega)]
    exact u1_e
  · intro i hi
    rcases (show i = 0 ∨ i = 1 ∨ i = 2 by omega) with z | z | z <;> subst z
    · rw [u2_k (by omega), u2_k (by omega)]; exact u2_eq
    · rw [u2_k (by omega)]; exact u2_eq
    · exact u2_eq
end NB

