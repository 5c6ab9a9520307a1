/-! the constructors of Distances, Speller, Script, History -/
section NC2
variable {I I' I2 : MI} {J J' J2 : MJ} {R R' R2 : MR} {S S' S2 : Sh} {Q : SkQ} {B b c d kb sp sc h n w lo hi : Nat}
theorem n8 : 0 ≤ (8 : Int32).toInt ∧ (8 : Int32).toInt ≤ 100000 := by decide
theorem n81 : 0 ≤ (81 : Int32).toInt ∧ (81 : Int32).toInt ≤ 100000 := by decide
theorem n20 : 0 ≤ (20 : Int32).toInt ∧ (20 : Int32).toInt ≤ 100000 := by decide
theorem n4 : 0 ≤ (4 : Int32).toInt ∧ (4 : Int32).toInt ≤ 100000 := by decide
theorem n150 : 0 ≤ (150 : Int32).toInt ∧ (150 : Int32).toInt ≤ 100000 := by decide
theorem ix81 : ix 81 = 81 := by decide
theorem ix20 : ix 20 = 20 := by decide
theorem ix150 : ix 150 = 150 := by decide
theorem BkS_kp (hB : BkS R S B) (k : kp b d I J R S I' J' R' S') (h1 : b ≤ B) (h2 : B + 26 < d) : BkS R' S' B := by
  obtain ⟨a0, a1, a2, a3, a4, a5, a6, a7, a8, a9, a10, r⟩ := hB
  obtain ⟨p1, p2, p3, p4, p5⟩ := k B (by omega) (by omega)
  obtain ⟨-, -, -, q4, q5⟩ := k (B + 25) (by omega) (by omega)
  obtain ⟨-, -, -, t4, t5⟩ := k (B + 26) (by omega) (by omega)
  exact ⟨p4.trans a0, RwS_kp a1 k (by omega) (by omega), RwS_kp a2 k (by omega) (by omega), RwS_kp a3 k (by omega) (by omega), RwS_kp a4 k (by omega) (by omega), RwS_kp a5 k (by omega) (by omega), RwS_kp a6 k (by omega) (by omega), q4.trans a7, t4.trans a8, q5.trans a9, t5.trans a10, by rw [p3]; exact r⟩
theorem c_D_init (hS : S.1 d = 1) (hn : S.2.2.1 = d + 1) (h0 : S.2.2.2.1 = 0) (hQ : ∀ I' J' R' S', kp 0 d I J R S I' J' R' S' → cq S S' (d + 6) 113 → DsS R' S' d kb B → Q 0 none I' J' R' S') : Wp 134 0 [.ref d, .ref kb, .ref B] [] I J R S Q := by
  have k1 : (sh_new S 30 8 8).1 d = 1 := by rw [sh_1p (by omega)]; exact hS
  have c1 : (sh_new S 30 8 8).2.2.1 = d + 2 := by rw [sh_c, hn]
  have k2 : (sh_new (sh_new S 30 8 8) 30 8 8).1 d = 1 := by rw [sh_1p (by omega)]; exact k1
  have c2 : (sh_new (sh_new S 30 8 8) 30 8 8).2.2.1 = d + 3 := by rw [sh_c, c1]
  have k3 : (sh_new (sh_new (sh_new S 30 8 8) 30 8 8) 30 8 8).1 d = 1 := by rw [sh_1p (by omega)]; exact k2
  have c3 : (sh_new (sh_new (sh_new S 30 8 8) 30 8 8) 30 8 8).2.2.1 = d + 4 := by rw [sh_c, c2]
  have k4 : (sh_new (sh_new (sh_new (sh_new S 30 8 8) 30 8 8) 30 8 8) 30 8 8).1 d = 1 := by rw [sh_1p (by omega)]; exact k3
  have c4 : (sh_new (sh_new (sh_new (sh_new S 30 8 8) 30 8 8) 30 8 8) 30 8 8).2.2.1 = d + 5 := by rw [sh_c, c3]
  have k5 : (sh_new (sh_new (sh_new (sh_new (sh_new S 30 8 8) 30 8 8) 30 8 8) 30 8 8) 30 81 81).1 d = 1 := by rw [sh_1p (by omega)]; exact k4
  have c5 : (sh_new (sh_new (sh_new (sh_new (sh_new S 30 8 8) 30 8 8) 30 8 8) 30 8 8) 30 81 81).2.2.1 = d + 6 := by rw [sh_c, c4]
  simp only [x_D_init_0, x_D_init_1, x_D_init_4, x_D_init_5, x_D_init_7, x_D_init_9, x_D_init_12, x_D_init_13, x_D_init_15, x_D_init_17, x_D_init_20, x_D_init_21, x_D_init_23, x_D_init_25, x_D_init_28, x_D_init_29, x_D_init_31, x_D_init_33, x_D_init_36, x_D_init_37, x_D_init_39, x_D_init_41, x_D_init_44, x_D_init_45, x_D_init_46, x_D_init_49, x_D_init_50, x_D_init_51, x_D_init_54, hS, hn, h0, sh_t, n8, n81, and_self, ixK_8, ix81, k1, k2, k3, k4, k5, c1, c2, c3, c4, c5, bI_0, bI_t, bI_f, e10, isA30, isA31, isA33, isA40, isA42, isA43, rOkB0, rOkB1, rOkB, Ret_v, Ret_n, cmp_eq, cmp_lt, cmp_gt, nI_1, eq_self, if_true, if_false, reduceIte]
  refine hQ _ _ _ _ ?_ ⟨by rw [sh_c, c4], h0, by rw [sh_w, sh_w, sh_w, sh_w, sh_w]⟩ ⟨k5, ?_, ?_, ?_, ?_, ?_, ?_, ?_, ?_, ?_, ?_, ?_, ?_, ?_, ?_, ?_, ?_, ?_⟩
  · exact kp_S (kp_S (kp_S (kp_S (kp_S (kp_R (kp_R (kp_R (kp_R (kp_R (kp_R (kp_R (kp_u1I (kp_u1I (kp_u1I (kp_u1I (kp_u1I kp_rfl (by omega)) (by omega)) (by omega)) (by omega)) (by omega)) (by omega)) (by omega)) (by omega)) (by omega)) (by omega)) (by omega)) (by omega)) (by omega)) (by omega)) (by omega)) (by omega)) (by omega)
  · rw [sh_1p (by omega), sh_1p (by omega), sh_1p (by omega), sh_1p (by omega), sh_1e (by omega)]
  · rw [sh_1p (by omega), sh_1p (by omega), sh_1p (by omega), sh_1e (by omega)]
  · rw [sh_1p (by omega), sh_1p (by omega), sh_1e (by omega)]
  · rw [sh_1p (by omega), sh_1e (by omega)]
  · rw [sh_1e (by omega)]
  · rw [sh_2p (by omega), sh_2p (by omega), sh_2p (by omega), sh_2p (by omega), sh_2e (by omega)]
  · rw [sh_2p (by omega), sh_2p (by omega), sh_2p (by omega), sh_2e (by omega)]
  · rw [sh_2p (by omega), sh_2p (by omega), sh_2e (by omega)]
  · rw [sh_2p (by omega), sh_2e (by omega)]
  · rw [sh_2e (by omega)]
  · rw [u2_k (by omega)]; exact u2_eq
  · exact u2_eq
  · rw [u2_k (by omega), u2_k (by omega), u2_k (by omega), u2_k (by omega), u2_k (by omega), u2_k (by omega)]; exact u2_eq
  · rw [u2_k (by omega), u2_k (by omega), u2_k (by omega), u2_k (by omega), u2_k (by omega)]; exact u2_eq
  · rw [u2_k (by omega), u2_k (by omega), u2_k (by omega), u2_k (by omega)]; exact u2_eq
  · rw [u2_k (by omega), u2_k (by omega), u2_k (by omega)]; exact u2_eq
  · rw [u2_k (by omega), u2_k (by omega)]; exact u2_eq
theorem c_S_init (hS : S.1 sp = 6) (hn : S.2.2.1 = sp + 1) (h0 : S.2.2.2.1 = 0) (hQ : ∀ I' J' R' S', kp 0 sp I J R S I' J' R' S' → cq S S' (sp + 8) 140 → SpS R' S' sp kb B → Q 0 none I' J' R' S') : Wp 121 0 [.ref sp, .ref kb, .ref B] [] I J R S Q := by
  have k1 : (sh_new S 30 20 20).1 sp = 6 := by rw [sh_1p (by omega)]; exact hS
  have c1 : (sh_new S 30 20 20).2.2.1 = sp + 2 := by rw [sh_c, hn]
  have z1 : (sh_new (sh_new S 30 20 20) 1 0 7).1 (sp + 2) = 1 := sh_1e c1.symm
  simp only [x_S_init_0, x_S_init_1, x_S_init_4, x_S_init_5, x_S_init_7, x_S_init_9, x_S_init_12, x_S_init_13, x_S_init_14, x_S_init_17, x_S_init_18, x_S_init_21, x_S_init_22, x_S_init_23, x_S_init_24, x_S_init_27, x_S_init_30, hS, hn, h0, sh_t, n20, and_self, ix20, k1, c1, z1, bI_0, bI_t, bI_f, e10, isA30, isA31, isA33, isA40, isA42, isA43, rOkB0, rOkB1, rOkB, Ret_v, Ret_n, cmp_eq, cmp_lt, cmp_gt, nI_1, eq_self, if_true, if_false, reduceIte]
  refine c_D_init z1 (by rw [sh_c, c1]) h0 (fun I1 J1 R1 S1 hk hc hd => ?_)
  have f1 : ∀ p, p < sp + 2 → R1 p = (u2 (u2 R sp 2 (.ref (sp + 1))) sp 0 (.ref B)) p ∧ S1.1 p = (sh_new S 30 20 20).1 p ∧ S1.2.1 p = (sh_new S 30 20 20).2.1 p := fun p hp => by
    obtain ⟨-, -, a3, a4, a5⟩ := hk p (by omega) hp
    exact ⟨by rw [a3, u1_p (by omega)], by rw [a4, sh_1p (by omega)], by rw [a5, sh_2p (by omega)]⟩
  have e1 : S1.1 sp = 6 := by rw [(f1 sp (by omega)).2.1]; exact k1
  simp only [x_S_init_0, x_S_init_1, x_S_init_4, x_S_init_5, x_S_init_7, x_S_init_9, x_S_init_12, x_S_init_13, x_S_init_14, x_S_init_17, x_S_init_18, x_S_init_21, x_S_init_22, x_S_init_23, x_S_init_24, x_S_init_27, x_S_init_30, e1, bI_0, bI_t, bI_f, e10, isA30, isA31, isA33, isA40, isA42, isA43, rOkB0, rOkB1, rOkB, Ret_v, Ret_n, cmp_eq, cmp_lt, cmp_gt, nI_1, eq_self, if_true, if_false, reduceIte]
  refine hQ _ _ _ _ (kp_R (kp_trans (b := sp) (I' := u1 (u1 I (sp + 1) 0) (sp + 2) 0) (J' := u1 J (sp + 2) 0) (R' := u1 (u2 (u2 R sp 2 (.ref (sp + 1))) sp 0 (.ref B)) (sp + 2) .null) (S' := sh_new (sh_new S 30 20 20) 1 0 7) ?_ (kp_mono hk (by omega) (by omega))) (by omega)) ⟨hc.1, hc.2.1, by rw [hc.2.2, sh_w, sh_w]⟩ ⟨e1, ?_, ?_, ?_, u2_eq, ?_, ?_⟩
  · exact kp_S (kp_S (kp_u1R (kp_R (kp_R (kp_u1J (kp_u1I (kp_u1I kp_rfl (by omega)) (by omega)) (by omega)) (by omega)) (by omega)) (by omega)) (by omega)) (by omega)
  · rw [(f1 (sp + 1) (by omega)).2.1]; exact sh_1e hn.symm
  · rw [(f1 (sp + 1) (by omega)).2.2]; exact sh_2e hn.symm
  · rw [u2_k (by omega), (f1 sp (by omega)).1]; exact u2_eq
  · rw [u2_k (by omega), (f1 sp (by omega)).1, u2_k (by omega)]; exact u2_eq
  · unfold DsS at hd ⊢
    rw [u2_p (by omega)]
    exact hd
theorem c_C_init (hS : S.1 sc = 5) (hn : S.2.2.1 = sc + 1) (h0 : S.2.2.2.1 = 0) (hQ : ∀ I' J' R' S', kp 0 sc I J R S I' J' R' S' → cq S S' (sc + 2) 150 → ScS R' S' sc → I' sc 1 = I sc 1 → Q 0 none I' J' R' S') : Wp 148 0 [.ref sc] [] I J R S Q := by
  have k1 : (sh_new S 30 150 150).1 sc = 5 := by rw [sh_1p (by omega)]; exact hS
  simp only [x_C_init_0, x_C_init_1, x_C_init_4, x_C_init_5, x_C_init_8, x_C_init_10, x_C_init_13, x_C_init_14, x_C_init_15, x_C_init_18, hS, hn, h0, n150, and_self, ix150, k1, bI_0, bI_t, bI_f, e10, isA30, isA31, isA33, isA40, isA42, isA43, rOkB0, rOkB1, rOkB, Ret_v, Ret_n, cmp_eq, cmp_lt, cmp_gt, nI_1, eq_self, if_true, if_false, reduceIte]
  refine hQ _ _ _ _ (kp_S (kp_R (kp_I (kp_u1I kp_rfl (by omega)) (by omega)) (by omega)) (by omega)) ⟨by rw [sh_c, hn], h0, by rw [sh_w]⟩ ⟨k1, sh_1e hn.symm, sh_2e hn.symm, u2_eq⟩ ?_
  rw [u2_k (by omega), u1_p (by omega)]
/-! History -/
def Hk (h i : Nat) (R : MR) (S : Sh) : Prop := S.1 h = 2 ∧ S.1 (h + 1) = 33 ∧ S.2.1 (h + 1) = 4 ∧ R h 0 = .ref (h + 1) ∧ ∀ j, j < i → R (h + 1) j = .ref (h + 2 + 27 * j) ∧ BkS R S (h + 2 + 27 * j)
theorem l_H_init : ∀ (k i : Nat) (I : MI) (J : MJ) (R : MR) (S : Sh), i + k = 4 → S.2.2.1 = h + 2 + 27 * i → S.2.2.2.1 = 0 → Hk h i R S → (∀ I' J' R' S', kp 0 h I J R S I' J' R' S' → cq S S' (h + 110) (415 * k) → Hk h 4 R' S' → I' h = I h → Q 0 none I' J' R' S') → Wp 142 14 [.ref h, .int (nI i)] [] I J R S Q := by
  intro k
  induction k with
  | zero =>
    intro i I J R S hi hn h0 hH hQ
    have : i = 4 := by omega
    subst this
    rw [x_H_init_14]
    have e : ¬ nI 4 < 4 := by decide
    simp only [x_H_init_0, x_H_init_1, x_H_init_4, x_H_init_5, x_H_init_6, x_H_init_9, x_H_init_12, x_H_init_13, x_H_init_15, x_H_init_16, x_H_init_19, x_H_init_20, x_H_init_23, x_H_init_24, x_H_init_27, x_H_init_28, x_H_init_31, x_H_init_32, x_H_init_35, x_H_init_38, e, bI_0, bI_t, bI_f, e10, isA30, isA31, isA33, isA40, isA42, isA43, rOkB0, rOkB1, rOkB, Ret_v, Ret_n, cmp_eq, cmp_lt, cmp_gt, nI_1, eq_self, if_true, if_false, reduceIte]
    exact hQ _ _ _ _ kp_rfl ⟨by omega, h0, rfl⟩ hH (by simp)
  | succ k ih =>
    intro i I J R S hi hn h0 hH hQ
    have e : nI i < 4 := by rw [show (4 : Int32) = nI 4 by decide]; exact nI_lt (by omega) (by omega)
    obtain ⟨a1, a2, a3, a4, a5⟩ := hH
    have z0 : (sh_new S 0 0 8).1 (h + 2 + 27 * i) = 0 := sh_1e hn.symm
    rw [x_H_init_14]
    simp only [x_H_init_0, x_H_init_1, x_H_init_4, x_H_init_5, x_H_init_6, x_H_init_9, x_H_init_12, x_H_init_13, x_H_init_15, x_H_init_16, x_H_init_19, x_H_init_20, x_H_init_23, x_H_init_24, x_H_init_27, x_H_init_28, x_H_init_31, x_H_init_32, x_H_init_35, x_H_init_38, e, a1, a4, hn, h0, z0, bI_0, bI_t, bI_f, e10, isA30, isA31, isA33, isA40, isA42, isA43, rOkB0, rOkB1, rOkB, Ret_v, Ret_n, cmp_eq, cmp_lt, cmp_gt, nI_1, eq_self, if_true, if_false, reduceIte]
    refine c_O_init z0 (by rw [sh_c, hn]) h0 (fun I1 J1 R1 S1 hk hc hB hD => ?_)
    have g1 : kp 0 (h + 2 + 27 * i) I J R S I1 J1 R1 S1 := kp_trans (kp_new hn) hk
    have b1 : S1.1 (h + 1) = 33 := (g1 (h + 1) (by omega) (by omega)).2.2.2.1.trans a2
    have b2 : inb (nI i) (S1.2.1 (h + 1)) = true := by
      rw [(g1 (h + 1) (by omega) (by omega)).2.2.2.2, a3]
      exact inb_nI (by omega) (by omega)
    have b3 : S1.1 (h + 2 + 27 * i) = 0 := hB.1
    have b4 : ix (nI i) = i := ix_nI (by omega)
    simp only [x_H_init_0, x_H_init_1, x_H_init_4, x_H_init_5, x_H_init_6, x_H_init_9, x_H_init_12, x_H_init_13, x_H_init_15, x_H_init_16, x_H_init_19, x_H_init_20, x_H_init_23, x_H_init_24, x_H_init_27, x_H_init_28, x_H_init_31, x_H_init_32, x_H_init_35, x_H_init_38, b1, b2, b3, b4, nI_1', bI_0, bI_t, bI_f, e10, isA30, isA31, isA33, isA40, isA42, isA43, rOkB0, rOkB1, rOkB, Ret_v, Ret_n, cmp_eq, cmp_lt, cmp_gt, nI_1, eq_self, if_true, if_false, reduceIte]
    have g2 : kp (h + 2) (h + 2 + 27 * i + 27) I1 J1 R1 S1 I1 J1 (u2 R1 (h + 1) i (.ref (h + 2 + 27 * i))) S1 := kp_R kp_rfl (by omega)
    have g3 : kp 0 h I J R S I1 J1 (u2 R1 (h + 1) i (.ref (h + 2 + 27 * i))) S1 := kp_R (kp_mono g1 (by omega) (by omega)) (by omega)
    refine ih (i + 1) I1 J1 _ S1 (by omega) (by rw [hc.1]; omega) hc.2.1 ?_ (fun I' J' R' S' q1 q2 q3 q4 => hQ I' J' R' S' (kp_trans g3 q1) ⟨q2.1, q2.2.1, by rw [q2.2.2, hc.2.2, sh_w]; omega⟩ q3 (q4.trans (g1 h (by omega) (by omega)).1))
    refine ⟨(g1 h (by omega) (by omega)).2.2.2.1.trans a1, b1, (g1 (h + 1) (by omega) (by omega)).2.2.2.2.trans a3, ?_, fun j hj => ?_⟩
    · rw [u2_p (by omega), (g1 h (by omega) (by omega)).2.2.1]; exact a4
    · by_cases hji : j = i
      · subst hji
        exact ⟨u2_eq, BkS_kp hB g2 (by omega) (by omega)⟩
      · obtain ⟨c1, c2⟩ := a5 j (by omega)
        refine ⟨?_, BkS_kp (BkS_kp c2 g1 (by omega) (by omega)) g2 (by omega) (by omega)⟩
        rw [u2_k hji, (g1 (h + 1) (by omega) (by omega)).2.2.1]
        exact c1
theorem c_H_init (hS : S.1 h = 2) (hn : S.2.2.1 = h + 1) (h0 : S.2.2.2.1 = 0) (hQ : ∀ I' J' R' S', kp 0 h I J R S I' J' R' S' → cq S S' (h + 110) 1664 → HsS R' S' h (fun i => h + 2 + 27 * i) → I' h = I h → Q 0 none I' J' R' S') : Wp 142 0 [.ref h, nov] [] I J R S Q := by
  have k1 : (sh_new S 33 4 4).1 h = 2 := by rw [sh_1p (by omega)]; exact hS
  have ix4 : ix 4 = 4 := by decide
  simp only [x_H_init_0, x_H_init_1, x_H_init_4, x_H_init_5, x_H_init_6, x_H_init_9, x_H_init_12, x_H_init_13, hS, hn, h0, n4, and_self, ix4, k1, bI_0, bI_t, bI_f, e10, isA30, isA31, isA33, isA40, isA42, isA43, rOkB0, rOkB1, rOkB, Ret_v, Ret_n, cmp_eq, cmp_lt, cmp_gt, nI_1, eq_self, if_true, if_false, reduceIte]
  refine l_H_init 4 0 _ _ _ _ (by omega) (by rw [sh_c, hn]) h0 ⟨k1, sh_1e hn.symm, sh_2e hn.symm, u2_eq, fun j hj => absurd hj (Nat.not_lt_zero j)⟩ (fun I' J' R' S' q1 q2 q3 q4 => ?_)
  obtain ⟨p1, p2, p3, p4, p5⟩ := q3
  refine hQ _ _ _ _ (kp_trans (kp_S (kp_R (kp_u1R kp_rfl (by omega)) (by omega)) (by omega)) q1) ⟨q2.1, q2.2.1, by rw [q2.2.2, sh_w]⟩ ⟨p1, p2, p3, p4, fun i hi => (p5 i hi).1, fun i hi => ⟨(p5 i hi).2, by show h + 1 < h + 2 + 27 * i; omega, by show h + 2 + 27 * i + 26 ≤ h + 109; omega⟩, fun i j hi hj hij => by show h + 2 + 27 * i + 26 < h + 2 + 27 * j ∨ h + 2 + 27 * j + 26 < h + 2 + 27 * i; omega⟩ q4
end NC2

