/-! the constructor of StuckKeys -/
section NE
variable {I I' I2 : MI} {J J' J2 : MJ} {R R' R2 : MR} {S S' S2 : Sh} {Q : SkQ} {a d b B kb sp h T n l : Nat} {z : Bk} {p : Rw} {π : Nat → Nat} {s : Nat → Bk} {x : Nat → Int32}
theorem RwD_kp (hD : RwD I J b p) (k : kp a d I J R S I' J' R' S') (h1 : a ≤ b) (h2 : b + 3 < d) : RwD I' J' b p := by
  obtain ⟨p1, -⟩ := k b (by omega) (by omega)
  obtain ⟨-, q1, -⟩ := k (b + 1) (by omega) (by omega)
  obtain ⟨-, q2, -⟩ := k (b + 2) (by omega) (by omega)
  obtain ⟨q3, -⟩ := k (b + 3) (by omega) (by omega)
  exact ⟨by rw [p1]; exact hD.1, fun i hi => by rw [q1, q2, q3]; exact hD.2 i hi⟩
theorem BkD_kp (hD : BkD I J B z) (k : kp a d I J R S I' J' R' S') (h1 : a ≤ B) (h2 : B + 26 < d) : BkD I' J' B z := by
  obtain ⟨a1, a2, a3, a4, a5, a6, a7, a8⟩ := hD
  obtain ⟨p1, -⟩ := k (B + 25) (by omega) (by omega)
  obtain ⟨p2, -⟩ := k (B + 26) (by omega) (by omega)
  exact ⟨RwD_kp a1 k (by omega) (by omega), RwD_kp a2 k (by omega) (by omega), RwD_kp a3 k (by omega) (by omega), RwD_kp a4 k (by omega) (by omega), RwD_kp a5 k (by omega) (by omega), RwD_kp a6 k (by omega) (by omega), by rw [p1]; exact a7, by rw [p2]; exact a8⟩
theorem KbD_kp (hD : KbD I b) (k : kp a d I J R S I' J' R' S') (h1 : a ≤ b) (h2 : b + 3 < d) : KbD I' b := by
  obtain ⟨p1, -⟩ := k (b + 1) (by omega) (by omega)
  obtain ⟨p2, -⟩ := k (b + 2) (by omega) (by omega)
  obtain ⟨p3, -⟩ := k (b + 3) (by omega) (by omega)
  exact fun i hi => by rw [p1, p2, p3]; exact hD i hi
theorem SpS_kp (hs : SpS R S sp kb B) (k : kp a d I J R S I' J' R' S') (h1 : a ≤ sp) (h2 : sp + 7 < d) : SpS R' S' sp kb B := by
  unfold SpS DsS at hs ⊢
  obtain ⟨-, -, p3, p4, p5⟩ := k sp (by omega) (by omega)
  obtain ⟨-, -, -, q4, q5⟩ := k (sp + 1) (by omega) (by omega)
  obtain ⟨-, -, t3, t4, t5⟩ := k (sp + 2) (by omega) (by omega)
  obtain ⟨-, -, -, u4, u5⟩ := k (sp + 2 + 1) (by omega) (by omega)
  obtain ⟨-, -, -, v4, v5⟩ := k (sp + 2 + 2) (by omega) (by omega)
  obtain ⟨-, -, -, w4, w5⟩ := k (sp + 2 + 3) (by omega) (by omega)
  obtain ⟨-, -, -, y4, y5⟩ := k (sp + 2 + 4) (by omega) (by omega)
  obtain ⟨-, -, -, m4, m5⟩ := k (sp + 2 + 5) (by omega) (by omega)
  rw [p3, p4, q4, q5, t3, t4, u4, u5, v4, v5, w4, w5, y4, y5, m4, m5]
  exact hs
theorem HsS_kp (hs : HsS R S h π) (k : kp a d I J R S I' J' R' S') (h1 : a ≤ h) (h2 : h + 109 < d) : HsS R' S' h π := by
  obtain ⟨a1, a2, a3, a4, a5, a6, a7⟩ := hs
  obtain ⟨-, -, p3, p4, p5⟩ := k h (by omega) (by omega)
  obtain ⟨-, -, q3, q4, q5⟩ := k (h + 1) (by omega) (by omega)
  exact ⟨p4.trans a1, q4.trans a2, q5.trans a3, by rw [p3]; exact a4, fun i hi => by rw [q3]; exact a5 i hi, fun i hi => ⟨BkS_kp (a6 i hi).1 k (by have := (a6 i hi).2; omega) (by have := (a6 i hi).2; omega), (a6 i hi).2⟩, a7⟩
theorem HsD_kp (hs : HsS R S h π) (hD : HsD I J h π s n) (k : kp a d I J R S I' J' R' S') (h1 : a ≤ h) (h2 : h + 109 < d) : HsD I' J' h π s n := by
  obtain ⟨a1, a2, a3, a4, a5, a6, a7⟩ := hs
  obtain ⟨b1, b2, b3⟩ := hD
  exact ⟨by rw [(k h (by omega) (by omega)).1]; exact b1, b2, fun i hi => ⟨BkD_kp (b3 i hi).1 k (by have := (a6 i (by omega)).2; omega) (by have := (a6 i (by omega)).2; omega), (b3 i hi).2⟩⟩
theorem ScS_kp {sc : Nat} (hs : ScS R S sc) (k : kp a d I J R S I' J' R' S') (h1 : a ≤ sc) (h2 : sc + 1 < d) : ScS R' S' sc := by
  obtain ⟨-, -, p3, p4, p5⟩ := k sc (by omega) (by omega)
  obtain ⟨-, -, -, q4, q5⟩ := k (sc + 1) (by omega) (by omega)
  exact ⟨p4.trans hs.1, q4.trans hs.2.1, q5.trans hs.2.2.1, by rw [p3]; exact hs.2.2.2⟩
theorem CmS_kp (hC : CmS R S I) (k : kp 0 d I J R S I' J' R' S') (h2 : 34 < d) : CmS R' S' I' := trivial
theorem CnS_kp (hC : CnS S I) (k : kp 0 d I J R S I' J' R' S') (h2 : 34 < d) : CnS S' I' := by
  unfold CnS at hC ⊢
  obtain ⟨p1, -, -, p4, p5⟩ := k 0 (by omega) (by omega)
  obtain ⟨q1, -, -, q4, q5⟩ := k 1 (by omega) (by omega)
  rw [p1, p4, p5, q1, q4, q5]
  exact hC
theorem KOk_kp (hK : KOk I J R S T z n s x l) (k : kp 0 d I J R S I' J' R' S') (h2 : 186 < d) : KOk I' J' R' S' T z n s x l := by
  obtain ⟨h1, ⟨e1, e2, e3, e4, e5, e6, e7, e8⟩, ⟨π, p1, p2⟩, h4, h5, h6, h7, h8⟩ := hK
  refine ⟨?_, ⟨SpS_kp e1 k (by omega) (by omega), KbS_kp e2 k (by omega) (by omega), KbD_kp e3 k (by omega) (by omega), BkS_kp e4 k (by omega) (by omega), BkD_kp e5 k (by omega) (by omega), e6, e7, e8⟩, ⟨π, HsS_kp p1 k (by omega) (by omega), HsD_kp p1 p2 k (by omega) (by omega)⟩, ScS_kp h4 k (by omega) (by omega), ⟨by rw [(k 185 (by omega) (by omega)).1]; exact h5.1, h5.2.1, fun i hi => by rw [(k 186 (by omega) (by omega)).1]; exact h5.2.2 i hi⟩, CmS_kp h6 k (by omega), CnS_kp h7 k (by omega), h8⟩
  unfold KxS at h1 ⊢
  obtain ⟨-, -, p3, p4, -⟩ := k 35 (by omega) (by omega)
  rw [p3, p4]
  exact h1
theorem BkI_0 : BkI T bk0 := by
  refine ⟨?_, ?_, ?_, ?_, ?_, ?_, ?_, ?_, ?_, ?_, ?_, ?_, ?_, ?_, ?_, ?_, ?_, ?_, ?_, ?_, ?_, ?_⟩
  · exact Nat.zero_le _
  · exact Nat.zero_le _
  · exact Nat.zero_le _
  · exact Nat.zero_le _
  · exact Nat.zero_le _
  · exact Nat.zero_le _
  · exact fun i hi => absurd hi (Nat.not_lt_zero i)
  · exact fun i hi => absurd hi (Nat.not_lt_zero i)
  · exact fun i hi => absurd hi (Nat.not_lt_zero i)
  · exact fun i hi => absurd hi (Nat.not_lt_zero i)
  · exact fun i hi => absurd hi (Nat.not_lt_zero i)
  · exact fun i hi => absurd hi (Nat.not_lt_zero i)
  · exact fun i j _ hi => absurd hi (Nat.not_lt_zero j)
  · exact fun i j _ hi => absurd hi (Nat.not_lt_zero j)
  · exact fun i hi => absurd hi (Nat.not_lt_zero i)
  · exact fun i hi => absurd hi (Nat.not_lt_zero i)
  · exact fun i hi => absurd hi (Nat.not_lt_zero i)
  · exact fun i hi => absurd hi (Nat.not_lt_zero i)
  · exact fun i hi => by show 0 ≤ (0 : Int32).toInt ∧ (0 : Int32).toInt ≤ 2; decide
  · decide
  · decide
  · decide
theorem c_K_init (hS : S.1 35 = 7) (hn : S.2.2.1 = 36) (h0 : S.2.2.2.1 = 0) (t1 : StS R S I 12 23 10 rd1) (t2 : StS R S I 13 24 9 rd2) (t3 : StS R S I 14 25 7 rd3) (hC : CmS R S I) (hN : CnS S I) (hQ : ∀ I' J' R' S', kp 0 35 I J R S I' J' R' S' → cq S S' 187 2464 → KOk I' J' R' S' T bk0 0 s x 0 → Q 0 none I' J' R' S') : Wp 24 0 [.ref 35] [] I J R S Q := by
  have z1 : (sh_new S 3 0 3).1 36 = 3 := sh_1e hn.symm
  have n1 := kp_new (I := I) (J := J) (R := R) (k := 3) (n := 0) (w := 3) hn
  simp only [x_K_init_0, x_K_init_1, x_K_init_4, x_K_init_5, x_K_init_8, x_K_init_9, x_K_init_12, x_K_init_15, x_K_init_16, x_K_init_19, x_K_init_20, x_K_init_23, x_K_init_26, x_K_init_27, x_K_init_30, x_K_init_31, x_K_init_32, x_K_init_35, x_K_init_36, x_K_init_39, x_K_init_42, x_K_init_45, x_K_init_46, x_K_init_49, x_K_init_50, x_K_init_53, x_K_init_56, x_K_init_57, x_K_init_60, x_K_init_61, x_K_init_64, x_K_init_67, hS, hn, h0, z1, bI_0, bI_t, bI_f, e10, isA30, isA31, isA33, isA40, isA42, isA43, rOkB0, rOkB1, rOkB, Ret_v, Ret_n, cmp_eq, cmp_lt, cmp_gt, nI_1, eq_self, if_true, if_false, reduceIte]
  refine c_B_init (by omega) z1 (by rw [sh_c, hn]) h0 (StS_kp t1 n1 (by omega) (by omega)) (StS_kp t2 n1 (by omega) (by omega)) (StS_kp t3 n1 (by omega) (by omega)) (fun I1 J1 R1 S1 hk1 hc1 kS kD => ?_)
  have g1 := kp_trans n1 hk1
  have s1 : S1.1 35 = 7 := (g1 35 (by omega) (by omega)).2.2.2.1.trans hS
  have c1 : S1.2.2.1 = 40 := hc1.1
  have t1' : S1.2.2.2.1 = 0 := hc1.2.1
  have w1 : S1.2.2.2.2 = S.2.2.2.2 + 81 := by rw [hc1.2.2, sh_w]
  have z2 : (sh_new S1 0 0 8).1 40 = 0 := sh_1e c1.symm
  simp only [x_K_init_0, x_K_init_1, x_K_init_4, x_K_init_5, x_K_init_8, x_K_init_9, x_K_init_12, x_K_init_15, x_K_init_16, x_K_init_19, x_K_init_20, x_K_init_23, x_K_init_26, x_K_init_27, x_K_init_30, x_K_init_31, x_K_init_32, x_K_init_35, x_K_init_36, x_K_init_39, x_K_init_42, x_K_init_45, x_K_init_46, x_K_init_49, x_K_init_50, x_K_init_53, x_K_init_56, x_K_init_57, x_K_init_60, x_K_init_61, x_K_init_64, x_K_init_67, s1, c1, t1', z2, bI_0, bI_t, bI_f, e10, isA30, isA31, isA33, isA40, isA42, isA43, rOkB0, rOkB1, rOkB, Ret_v, Ret_n, cmp_eq, cmp_lt, cmp_gt, nI_1, eq_self, if_true, if_false, reduceIte]
  have n2 := kp_new (I := I1) (J := J1) (R := u2 R1 35 0 (.ref 36)) (k := 0) (n := 0) (w := 8) c1
  refine c_O_init z2 (by rw [sh_c, c1]) t1' (fun I2 J2 R2 S2 hk2 hc2 bS bD => ?_)
  have g2 := kp_trans n2 hk2
  have s2 : S2.1 35 = 7 := (g2 35 (by omega) (by omega)).2.2.2.1.trans s1
  have c2 : S2.2.2.1 = 67 := hc2.1
  have t2' : S2.2.2.2.1 = 0 := hc2.2.1
  have w2 : S2.2.2.2.2 = S.2.2.2.2 + 496 := by rw [hc2.2.2, sh_w]; omega
  have z3 : (sh_new S2 6 0 3).1 67 = 6 := sh_1e c2.symm
  have z3' : (sh_new S2 6 0 3).1 35 = 7 := by rw [sh_1p (by omega)]; exact s2
  have r20 : R2 35 0 = .ref 36 := by rw [(g2 35 (by omega) (by omega)).2.2.1]; exact u2_eq
  have r30 : u1 (u2 R2 35 1 (.ref 40)) 67 .null 35 0 = .ref 36 := by rw [u1_p (by omega), u2_k (by omega)]; exact r20
  have r31 : u1 (u2 R2 35 1 (.ref 40)) 67 .null 35 1 = .ref 40 := by rw [u1_p (by omega)]; exact u2_eq
  simp only [x_K_init_0, x_K_init_1, x_K_init_4, x_K_init_5, x_K_init_8, x_K_init_9, x_K_init_12, x_K_init_15, x_K_init_16, x_K_init_19, x_K_init_20, x_K_init_23, x_K_init_26, x_K_init_27, x_K_init_30, x_K_init_31, x_K_init_32, x_K_init_35, x_K_init_36, x_K_init_39, x_K_init_42, x_K_init_45, x_K_init_46, x_K_init_49, x_K_init_50, x_K_init_53, x_K_init_56, x_K_init_57, x_K_init_60, x_K_init_61, x_K_init_64, x_K_init_67, s2, c2, t2', z3, z3', r30, r31, bI_0, bI_t, bI_f, e10, isA30, isA31, isA33, isA40, isA42, isA43, rOkB0, rOkB1, rOkB, Ret_v, Ret_n, cmp_eq, cmp_lt, cmp_gt, nI_1, eq_self, if_true, if_false, reduceIte]
  have n3 := kp_new (I := I2) (J := J2) (R := u2 R2 35 1 (.ref 40)) (k := 6) (n := 0) (w := 3) c2
  refine c_S_init z3 (by rw [sh_c, c2]) t2' (fun I3 J3 R3 S3 hk3 hc3 pS => ?_)
  have g3 := kp_trans n3 hk3
  have s3 : S3.1 35 = 7 := (g3 35 (by omega) (by omega)).2.2.2.1.trans s2
  have c3 : S3.2.2.1 = 75 := hc3.1
  have t3' : S3.2.2.2.1 = 0 := hc3.2.1
  have w3 : S3.2.2.2.2 = S.2.2.2.2 + 639 := by rw [hc3.2.2, sh_w]; omega
  have z4 : (sh_new S3 2 0 2).1 75 = 2 := sh_1e c3.symm
  simp only [x_K_init_0, x_K_init_1, x_K_init_4, x_K_init_5, x_K_init_8, x_K_init_9, x_K_init_12, x_K_init_15, x_K_init_16, x_K_init_19, x_K_init_20, x_K_init_23, x_K_init_26, x_K_init_27, x_K_init_30, x_K_init_31, x_K_init_32, x_K_init_35, x_K_init_36, x_K_init_39, x_K_init_42, x_K_init_45, x_K_init_46, x_K_init_49, x_K_init_50, x_K_init_53, x_K_init_56, x_K_init_57, x_K_init_60, x_K_init_61, x_K_init_64, x_K_init_67, s3, c3, t3', z4, bI_0, bI_t, bI_f, e10, isA30, isA31, isA33, isA40, isA42, isA43, rOkB0, rOkB1, rOkB, Ret_v, Ret_n, cmp_eq, cmp_lt, cmp_gt, nI_1, eq_self, if_true, if_false, reduceIte]
  have n4 := kp_new (I := I3) (J := J3) (R := u2 R3 35 2 (.ref 67)) (k := 2) (n := 0) (w := 2) c3
  refine c_H_init z4 (by rw [sh_c, c3]) t3' (fun I4 J4 R4 S4 hk4 hc4 hsS hsI => ?_)
  have g4 := kp_trans n4 hk4
  have s4 : S4.1 35 = 7 := (g4 35 (by omega) (by omega)).2.2.2.1.trans s3
  have c4 : S4.2.2.1 = 185 := hc4.1
  have t4' : S4.2.2.2.1 = 0 := hc4.2.1
  have w4 : S4.2.2.2.2 = S.2.2.2.2 + 2305 := by rw [hc4.2.2, sh_w]; omega
  have z5 : (sh_new S4 5 0 9).1 185 = 5 := sh_1e c4.symm
  simp only [x_K_init_0, x_K_init_1, x_K_init_4, x_K_init_5, x_K_init_8, x_K_init_9, x_K_init_12, x_K_init_15, x_K_init_16, x_K_init_19, x_K_init_20, x_K_init_23, x_K_init_26, x_K_init_27, x_K_init_30, x_K_init_31, x_K_init_32, x_K_init_35, x_K_init_36, x_K_init_39, x_K_init_42, x_K_init_45, x_K_init_46, x_K_init_49, x_K_init_50, x_K_init_53, x_K_init_56, x_K_init_57, x_K_init_60, x_K_init_61, x_K_init_64, x_K_init_67, s4, c4, t4', z5, bI_0, bI_t, bI_f, e10, isA30, isA31, isA33, isA40, isA42, isA43, rOkB0, rOkB1, rOkB, Ret_v, Ret_n, cmp_eq, cmp_lt, cmp_gt, nI_1, eq_self, if_true, if_false, reduceIte]
  have n5 := kp_new (I := I4) (J := J4) (R := u2 R4 35 3 (.ref 75)) (k := 5) (n := 0) (w := 9) c4
  refine c_C_init z5 (by rw [sh_c, c4]) t4' (fun I5 J5 R5 S5 hk5 hc5 cS cI => ?_)
  have g5 := kp_trans n5 hk5
  have s5 : S5.1 35 = 7 := (g5 35 (by omega) (by omega)).2.2.2.1.trans s4
  simp only [x_K_init_0, x_K_init_1, x_K_init_4, x_K_init_5, x_K_init_8, x_K_init_9, x_K_init_12, x_K_init_15, x_K_init_16, x_K_init_19, x_K_init_20, x_K_init_23, x_K_init_26, x_K_init_27, x_K_init_30, x_K_init_31, x_K_init_32, x_K_init_35, x_K_init_36, x_K_init_39, x_K_init_42, x_K_init_45, x_K_init_46, x_K_init_49, x_K_init_50, x_K_init_53, x_K_init_56, x_K_init_57, x_K_init_60, x_K_init_61, x_K_init_64, x_K_init_67, s5, bI_0, bI_t, bI_f, e10, isA30, isA31, isA33, isA40, isA42, isA43, rOkB0, rOkB1, rOkB, Ret_v, Ret_n, cmp_eq, cmp_lt, cmp_gt, nI_1, eq_self, if_true, if_false, reduceIte]
  have w5 : S5.2.2.2.2 = S.2.2.2.2 + 2464 := by rw [hc5.2.2, sh_w]; omega
  have f5 : kp 36 187 I5 J5 R5 S5 I5 J5 (u2 R5 35 4 (.ref 185)) S5 := kp_R kp_rfl (by omega)
  have f4 : kp 36 185 I4 J4 R4 S4 I5 J5 (u2 R5 35 4 (.ref 185)) S5 := kp_R (kp_trans (kp_R kp_rfl (by omega)) (kp_mono g5 (by omega) (by omega))) (by omega)
  have f3 : kp 36 75 I3 J3 R3 S3 I5 J5 (u2 R5 35 4 (.ref 185)) S5 := kp_trans (kp_trans (kp_R kp_rfl (by omega)) (kp_mono g4 (by omega) (by omega))) (kp_mono f4 (by omega) (by omega))
  have f2 : kp 36 67 I2 J2 R2 S2 I5 J5 (u2 R5 35 4 (.ref 185)) S5 := kp_trans (kp_trans (kp_R kp_rfl (by omega)) (kp_mono g3 (by omega) (by omega))) (kp_mono f3 (by omega) (by omega))
  have f1 : kp 36 40 I1 J1 R1 S1 I5 J5 (u2 R5 35 4 (.ref 185)) S5 := kp_trans (kp_trans (kp_R kp_rfl (by omega)) (kp_mono g2 (by omega) (by omega))) (kp_mono f2 (by omega) (by omega))
  have b2 : kp 0 35 I1 J1 R1 S1 I2 J2 R2 S2 := kp_trans (kp_R kp_rfl (by omega)) (kp_mono g2 (by omega) (by omega))
  have b3 : kp 0 35 I2 J2 R2 S2 I3 J3 R3 S3 := kp_trans (kp_R kp_rfl (by omega)) (kp_mono g3 (by omega) (by omega))
  have b4 : kp 0 35 I3 J3 R3 S3 I4 J4 R4 S4 := kp_trans (kp_R kp_rfl (by omega)) (kp_mono g4 (by omega) (by omega))
  have b5 : kp 0 35 I4 J4 R4 S4 I5 J5 (u2 R5 35 4 (.ref 185)) S5 := kp_R (kp_trans (kp_R kp_rfl (by omega)) (kp_mono g5 (by omega) (by omega))) (by omega)
  have b0 : kp 0 35 I J R S I5 J5 (u2 R5 35 4 (.ref 185)) S5 := kp_trans (kp_mono g1 (by omega) (by omega)) (kp_trans b2 (kp_trans b3 (kp_trans b4 b5)))
  refine hQ _ _ _ _ b0 ⟨hc5.1, hc5.2.1, w5⟩ ⟨⟨s5, ?_, ?_, ?_, ?_, u2_eq⟩, ⟨SpS_kp pS f3 (by omega) (by omega), KbS_kp kS f1 (by omega) (by omega), KbD_kp kD f1 (by omega) (by omega), BkS_kp bS f2 (by omega) (by omega), BkD_kp bD f2 (by omega) (by omega), BkI_0, by omega, by omega⟩, ⟨_, HsS_kp hsS f4 (by omega) (by omega), ⟨?_, by omega, fun i hi => absurd hi (Nat.not_lt_zero i)⟩⟩, ScS_kp cS f5 (by omega) (by omega), ⟨?_, by omega, fun i hi => absurd hi (Nat.not_lt_zero i)⟩, CmS_kp hC b0 (by omega), CnS_kp hN b0 (by omega), fun i hi => absurd hi (Nat.not_lt_zero i)⟩
  · rw [u2_k (by omega), (g5 35 (by omega) (by omega)).2.2.1, u2_k (by omega), (g4 35 (by omega) (by omega)).2.2.1, u2_k (by omega), (g3 35 (by omega) (by omega)).2.2.1, u2_k (by omega)]; exact r20
  · rw [u2_k (by omega), (g5 35 (by omega) (by omega)).2.2.1, u2_k (by omega), (g4 35 (by omega) (by omega)).2.2.1, u2_k (by omega), (g3 35 (by omega) (by omega)).2.2.1]; exact u2_eq
  · rw [u2_k (by omega), (g5 35 (by omega) (by omega)).2.2.1, u2_k (by omega), (g4 35 (by omega) (by omega)).2.2.1]; exact u2_eq
  · rw [u2_k (by omega), (g5 35 (by omega) (by omega)).2.2.1]; exact u2_eq
  · rw [(f4 75 (by omega) (by omega)).1, hsI, nI_0]
    exact u1_e
  · rw [cI, nI_0]
    exact u1_e
end NE

