/-! the law: its loops, from its start -/
def thS (S S' : Sh) (d : Nat) : Prop := S'.1 = S.1 ∧ S'.2.1 = S.2.1 ∧ S'.2.2.1 = S.2.2.1 ∧ S'.2.2.2.1 ≤ S.2.2.2.1 + d ∧ S'.2.2.2.2 ≤ S.2.2.2.2 + 6 * d
section QI
variable {I I' : MI} {J J' : MJ} {R R' : MR} {S S' : Sh} {Q : SkQ} {T T' n l : Nat} {a : Bk} {s : Nat → Bk} {x : Nat → Int32} {w t : Int64} {u v y z : Int32} {k : Nat}
theorem thS_1 (h : S' = S ∨ S' = sh_thr S) : thS S S' 1 := by
  rcases h with q | q <;> subst q
  · exact ⟨rfl, rfl, rfl, by omega, by omega⟩
  · exact ⟨rfl, rfl, rfl, Nat.le_refl _, Nat.le_refl _⟩
theorem thS_t {S2 : Sh} {d e : Nat} (h : thS S S' d) (h2 : thS S' S2 e) : thS S S2 (d + e) := by
  obtain ⟨q1, q2, q3, q4, q5⟩ := h
  obtain ⟨p1, p2, p3, p4, p5⟩ := h2
  exact ⟨p1.trans q1, p2.trans q2, p3.trans q3, by omega, by omega⟩
theorem l_L_add : ∀ (d k : Nat) (a : Bk) (n : Nat) (s : Nat → Bk) (I : MI) (J : MJ) (R : MR) (S : Sh), k + d = 8 → KOk I J R S T a n s x l → Jz a n s → S.1 34 = 40 → S.2.1 34 ≤ 260 → (∀ I' J' R' S' a' n' s', KOk I' J' R' S' T a' n' s' x l → Jz a' n' s' → thS S S' d → Wp 23 60 [.ref 34, .ref 35, .int 1, .int (nI 8)] [] I' J' R' S' Q) → Wp 23 15 [.ref 34, .ref 35, .int 1, .int (nI k)] [] I J R S Q := by
  intro d
  induction d with
  | zero =>
    intro k a n s I J R S hk h hJ h4 hL hQ
    have e : k = 8 := by omega
    subst e
    have hlt : ¬ nI 8 < 8 := by decide
    rw [x_L_law_15, x_L_law_16, x_L_law_18, if_neg hlt]
    exact hQ _ _ _ _ _ _ _ h hJ ⟨rfl, rfl, rfl, by omega, by omega⟩
  | succ d ih =>
    intro k a n s I J R S hk h hJ h4 hL hQ
    have hlt : nI k < 8 := by rw [show (8 : Int32) = nI 8 by decide]; exact nI_lt (by omega) (by omega)
    have e200 : (200 : Int32) + nI k = nI (200 + k) := by rw [show (200 : Int32) = nI 200 by decide, nI_plus]
    have e220 : (220 : Int32) + nI k = nI (220 + k) := by rw [show (220 : Int32) = nI 220 by decide, nI_plus]
    have c1 := fun Q' => c_L_cell (Q := Q') (I := I) (J := J) (R := R) (S := S) h4 (by omega) (x := nI (200 + k)) (nI_pos (by omega))
    have c2 := fun Q' => c_L_cell (Q := Q') (I := I) (J := J) (R := R) (S := S) h4 (by omega) (x := nI (220 + k)) (nI_pos (by omega))
    have wd := fun Q' => c_L_word (Q := Q') (I := I) (J := J) (R := R) (S := S) (v := cellV I S (nI (200 + k)))
    have l9 := fun Q' => c_L_lowc (Q := Q') (I := I) (J := J) (R := R) (S := S) (v := cellV I S (nI (220 + k))) (c := 9) (k := 9) (by decide) (by omega) (by omega)
    have hm : lo (cellV I S (nI (220 + k))) % 9 < 9 := Nat.mod_lt _ (by omega)
    rw [x_L_law_15]
    simp only [x_L_law_16, x_L_law_18, x_L_law_21, x_L_law_22, x_L_law_23, x_L_law_26, x_L_law_27, x_L_law_28, x_L_law_31, x_L_law_34, x_L_law_35, x_L_law_36, x_L_law_39, x_L_law_40, x_L_law_41, x_L_law_44, x_L_law_46, x_L_law_49, hlt, e200, e220, c1, c2, wd, l9, nI_1'', bI_0, bI_t, bI_f, e10, isA30, isA31, isA33, isA40, isA42, isA43, rOkB0, rOkB1, rOkB, Ret_v, Ret_n, cmp_eq, cmp_lt, cmp_gt, nI_1, eq_self, if_true, if_false, reduceIte]
    rw [x_L_law_50]
    refine w_addWord h (Wd_ok _) (okCnt_nI (by omega) (by omega)) (fun hr => ?_) (fun hr I1 J1 R1 hk1 => ?_)
    · simp only [x_L_law_53, x_L_law_54, x_L_law_57, nI_1', bI_0, bI_t, bI_f, e10, isA30, isA31, isA33, isA40, isA42, isA43, rOkB0, rOkB1, rOkB, Ret_v, Ret_n, cmp_eq, cmp_lt, cmp_gt, nI_1, eq_self, if_true, if_false, reduceIte]
      exact ih (k + 1) a n s I J R (sh_thr S) (by omega) (KOk_th h) hJ h4 hL (fun I2 J2 R2 S2 a2 n2 s2 h2 j2 t2 => hQ _ _ _ _ _ _ _ h2 j2 (by rw [Nat.add_comm]; exact thS_t (thS_1 (.inr rfl)) t2))
    · simp only [x_L_law_53, x_L_law_54, x_L_law_57, nI_1', bI_0, bI_t, bI_f, e10, isA30, isA31, isA33, isA40, isA42, isA43, rOkB0, rOkB1, rOkB, Ret_v, Ret_n, cmp_eq, cmp_lt, cmp_gt, nI_1, eq_self, if_true, if_false, reduceIte]
      exact ih (k + 1) _ _ _ I1 J1 R1 S (by omega) hk1 (svS_J hJ (jPutW hJ.1)) h4 hL (fun I2 J2 R2 S2 a2 n2 s2 h2 j2 t2 => hQ _ _ _ _ _ _ _ h2 j2 (by rw [Nat.add_comm]; exact thS_t (thS_1 (.inl rfl)) t2))
theorem l_L_acts : ∀ (d k T : Nat) (a : Bk) (n : Nat) (s : Nat → Bk) (I : MI) (J : MJ) (R : MR) (S : Sh), k + d = 40 → T + d < 2147483647 → KOk I J R S T a n s x l → Jz a n s → S.1 34 = 40 → S.2.1 34 ≤ 260 → (∀ I' J' R' S', thS S S' d → Q 0 (some (.int 1)) I' J' R' S') → Wp 23 62 [.ref 34, .ref 35, .int 1, .int (nI k)] [] I J R S Q := by
  intro d
  induction d with
  | zero =>
    intro k T a n s I J R S hk hT h hJ h4 hL hQ
    have e : k = 40 := by omega
    subst e
    have hlt : ¬ nI 40 < 40 := by decide
    rw [x_L_law_62]
    simp only [x_L_law_63, x_L_law_65, x_L_law_123, x_L_law_124, hlt, bI_0, bI_t, bI_f, e10, isA30, isA31, isA33, isA40, isA42, isA43, rOkB0, rOkB1, rOkB, Ret_v, Ret_n, cmp_eq, cmp_lt, cmp_gt, nI_1, eq_self, if_true, if_false, reduceIte]
    exact hQ _ _ _ _ ⟨rfl, rfl, rfl, by omega, by omega⟩
  | succ d ih =>
    intro k T a n s I J R S hk hT h hJ h4 hL hQ
    have hlt : nI k < 40 := by rw [show (40 : Int32) = nI 40 by decide]; exact nI_lt (by omega) (by omega)
    have e3 : (3 : Int32) * nI k = nI (3 * k) := by rw [show (3 : Int32) = nI 3 by decide, nI_mul]
    have e32 : nI (3 * k) + 2 = nI (3 * k + 2) := by rw [show (2 : Int32) = nI 2 by decide, nI_plus]
    have c0 := fun Q' => c_L_cell (Q := Q') (I := I) (J := J) (R := R) (S := S) h4 (by omega) (x := nI (3 * k)) (nI_pos (by omega))
    have c1 := fun Q' => c_L_cell (Q := Q') (I := I) (J := J) (R := R) (S := S) h4 (by omega) (x := nI (3 * k + 1)) (nI_pos (by omega))
    have c2 := fun Q' => c_L_cell (Q := Q') (I := I) (J := J) (R := R) (S := S) h4 (by omega) (x := nI (3 * k + 2)) (nI_pos (by omega))
    rw [x_L_law_62]
    simp only [x_L_law_63, x_L_law_65, x_L_law_68, x_L_law_69, x_L_law_72, x_L_law_73, x_L_law_74, x_L_law_75, x_L_law_76, x_L_law_77, x_L_law_80, x_L_law_81, x_L_law_82, x_L_law_83, x_L_law_84, x_L_law_85, x_L_law_86, x_L_law_89, x_L_law_90, x_L_law_91, x_L_law_92, x_L_law_93, x_L_law_94, x_L_law_95, hlt, e3, e32, nI_1', c0, c1, c2, bI_0, bI_t, bI_f, e10, isA30, isA31, isA33, isA40, isA42, isA43, rOkB0, rOkB1, rOkB, Ret_v, Ret_n, cmp_eq, cmp_lt, cmp_gt, nI_1, eq_self, if_true, if_false, reduceIte]
    rw [x_L_law_98]
    refine c_L_acts h hJ (by omega) (fun I1 J1 R1 S1 a1 n1 s1 h1 j1 hs => ?_)
    simp only [x_L_law_101, x_L_law_104, bI_0, bI_t, bI_f, e10, isA30, isA31, isA33, isA40, isA42, isA43, rOkB0, rOkB1, rOkB, Ret_v, Ret_n, cmp_eq, cmp_lt, cmp_gt, nI_1, eq_self, if_true, if_false, reduceIte]
    rw [x_L_law_105]
    refine c_L_holds h1 j1.1 (fun I2 h2 => ?_)
    simp only [x_L_law_108, x_L_law_111, x_L_law_112, x_L_law_116, x_L_law_117, x_L_law_120, nI_1', bI_0, bI_t, bI_f, e10, isA30, isA31, isA33, isA40, isA42, isA43, rOkB0, rOkB1, rOkB, Ret_v, Ret_n, cmp_eq, cmp_lt, cmp_gt, nI_1, eq_self, if_true, if_false, reduceIte]
    have ts := thS_1 hs
    exact ih (k + 1) (T + 1) a1 n1 s1 I2 J1 R1 S1 (by omega) (by omega) h2 j1 (by rw [ts.1]; exact h4) (by rw [ts.2.1]; exact hL) (fun I3 J3 R3 S3 t3 => hQ _ _ _ _ (by rw [Nat.add_comm]; exact thS_t ts t3))
/-- the law from its start -/
theorem c_L_law (hn : S.2.2.1 = 35) (h0 : S.2.2.2.1 = 0) (h4 : S.1 34 = 40) (hL : S.2.1 34 ≤ 260) (t1 : StS R S I 12 23 10 rd1) (t2 : StS R S I 13 24 9 rd2) (t3 : StS R S I 14 25 7 rd3) (hC : CmS R S I) (hN : CnS S I) (hQ : ∀ I' J' R' S', S'.2.2.1 = 187 → S'.2.2.2.1 ≤ 48 → S'.2.2.2.2 ≤ S.2.2.2.2 + 2757 → Q 0 (some (.int 1)) I' J' R' S') : Wp 23 0 [.ref 34, nov, nov, nov] [] I J R S Q := by
  have z1 : (sh_new S 7 0 5).1 35 = 7 := sh_1e hn.symm
  have m1 := kp_new (I := I) (J := J) (R := R) (k := 7) (n := 0) (w := 5) hn
  simp only [x_L_law_0, x_L_law_3, x_L_law_4, hn, h0, z1, bI_0, bI_t, bI_f, e10, isA30, isA31, isA33, isA40, isA42, isA43, rOkB0, rOkB1, rOkB, Ret_v, Ret_n, cmp_eq, cmp_lt, cmp_gt, nI_1, eq_self, if_true, if_false, reduceIte]
  refine c_K_init (T := 0) (s := fun _ => bk0) (x := fun _ => 0) z1 (by rw [sh_c, hn]) h0 (StS_kp t1 m1 (by omega) (by omega)) (StS_kp t2 m1 (by omega) (by omega)) (StS_kp t3 m1 (by omega) (by omega)) (CmS_kp hC m1 (by omega)) (CnS_kp hN m1 (by omega)) (fun I1 J1 R1 S1 k1 c1 K1 => ?_)
  have d1 := c1.1
  have e1 := c1.2.1
  have w1 : S1.2.2.2.2 = S.2.2.2.2 + 2469 := by rw [c1.2.2, sh_w]
  have f1 := kp_trans m1 k1
  have g34 := f1 34 (by omega) (by omega)
  have j0 : Jz bk0 0 (fun _ => bk0) := ⟨bk0_J, fun i hi => absurd hi (Nat.not_lt_zero i)⟩
  simp only [x_L_law_7, x_L_law_8, bI_0, bI_t, bI_f, e10, isA30, isA31, isA33, isA40, isA42, isA43, rOkB0, rOkB1, rOkB, Ret_v, Ret_n, cmp_eq, cmp_lt, cmp_gt, nI_1, eq_self, if_true, if_false, reduceIte]
  rw [x_L_law_9]
  refine c_L_holds K1 bk0_J (fun I2 h2 => ?_)
  simp only [x_L_law_12, x_L_law_13, x_L_law_14, bI_0, bI_t, bI_f, e10, isA30, isA31, isA33, isA40, isA42, isA43, rOkB0, rOkB1, rOkB, Ret_v, Ret_n, cmp_eq, cmp_lt, cmp_gt, nI_1, eq_self, if_true, if_false, reduceIte]
  rw [← nI_0]
  refine l_L_add 8 0 _ _ _ I2 J1 R1 S1 (by omega) h2 j0 (g34.2.2.2.1.trans h4) (by rw [g34.2.2.2.2]; exact hL) (fun I3 J3 R3 S3 a3 n3 s3 h3 j3 t3 => ?_)
  simp only [x_L_law_60, x_L_law_61, bI_0, bI_t, bI_f, e10, isA30, isA31, isA33, isA40, isA42, isA43, rOkB0, rOkB1, rOkB, Ret_v, Ret_n, cmp_eq, cmp_lt, cmp_gt, nI_1, eq_self, if_true, if_false, reduceIte]
  rw [← nI_0]
  refine l_L_acts 40 0 0 a3 n3 s3 I3 J3 R3 S3 (by omega) (by omega) h3 j3 (by rw [t3.1]; exact g34.2.2.2.1.trans h4) (by rw [t3.2.1, g34.2.2.2.2]; exact hL) (fun I4 J4 R4 S4 t4 => ?_)
  obtain ⟨-, -, q3, q4, q5⟩ := thS_t t3 t4
  exact hQ I4 J4 R4 S4 (by rw [q3, d1]) (by omega) (by omega)
end QI
