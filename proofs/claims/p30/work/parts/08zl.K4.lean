/-! the calls: those that change the book -/
section KD
variable {I I' : MI} {J J' : MJ} {R R' : MR} {S : Sh} {Q : SkQ} {T n l : Nat} {a : Bk} {s : Nat → Bk} {x : Nat → Int32} {w t : Int64} {c v k : Int32}
theorem c_K_rs1 : Wp 64 0 [.int 1] [] I J R S Q = Q 0 none I J R S := by
  have := c_K_requireState (Q := Q) (I := I) (J := J) (R := R) (S := S) (b := true)
  rw [bI_t, if_pos (by simp)] at this
  exact this
theorem c_K_rs0 : Wp 64 0 [.int 0] [] I J R S Q = Q 2 none I J R (sh_thr S) := by
  have := c_K_requireState (Q := Q) (I := I) (J := J) (R := R) (S := S) (b := false)
  rw [bI_f, if_neg (by simp)] at this
  exact this
theorem sh0 : (sh_thr S).1 = S.1 := rfl
theorem c_K_addWord (h : KOk I J R S T a n s x l) (hQ1 : (isW w && okCnt c) = false → Q 1 none I J R (sh_thr S)) (hQ2 : (isW w && okCnt c) = true → roomW a w = false → Q 2 none I J R (sh_thr S)) (hQ : (isW w && okCnt c) = true → roomW a w = true → ∀ I' J' R', kF 35 186 I J R I' J' R' → KOk I' J' R' S T (aPutW a w c) (svN n) (svS s n a) x l → Q 0 (some (.int (numW (bW a) w))) I' J' R' S) : Wp 25 0 [.ref 35, .long w, nov, .int c] [] I J R S Q := by
  obtain ⟨k0, r0, r1, r2, r3, r4⟩ := h.1
  have hb := h.2.1.2.2.2.1
  have hd := h.2.1.2.2.2.2.1
  have hi := h.2.1.2.2.2.2.2.1
  have hh := h.2.2.1
  cases q1 : isW w
  · simp only [x_K_addWord_0, x_K_addWord_1, x_K_addWord_4, x_K_addWord_5, x_K_addWord_8, x_K_addWord_11, x_K_addWord_12, x_K_addWord_15, x_K_addWord_16, x_K_addWord_19, x_K_addWord_22, x_K_addWord_23, x_K_addWord_26, x_K_addWord_27, x_K_addWord_30, x_K_addWord_33, x_K_addWord_34, x_K_addWord_37, x_K_addWord_38, x_K_addWord_39, x_K_addWord_42, c_K_requireWord, q1, Ret_t1 (m := 25) tO62 (by decide), Bool.false_eq_true, bI_0, bI_t, bI_f, e10, isA30, isA31, isA33, isA40, isA42, isA43, rOkB0, rOkB1, rOkB, Ret_v, Ret_n, cmp_eq, cmp_lt, cmp_gt, nI_1, eq_self, if_true, if_false, reduceIte]
    exact hQ1 (by rw [q1]; rfl)
  · cases q2 : okCnt c
    · simp only [x_K_addWord_0, x_K_addWord_1, x_K_addWord_4, x_K_addWord_5, x_K_addWord_8, x_K_addWord_11, x_K_addWord_12, x_K_addWord_15, x_K_addWord_16, x_K_addWord_19, x_K_addWord_22, x_K_addWord_23, x_K_addWord_26, x_K_addWord_27, x_K_addWord_30, x_K_addWord_33, x_K_addWord_34, x_K_addWord_37, x_K_addWord_38, x_K_addWord_39, x_K_addWord_42, c_K_requireWord, c_K_isCount, c_K_req0, c_K_req1, q1, q2, Ret_t1 (m := 25) tO63 (by decide), Bool.false_eq_true, bI_0, bI_t, bI_f, e10, isA30, isA31, isA33, isA40, isA42, isA43, rOkB0, rOkB1, rOkB, Ret_v, Ret_n, cmp_eq, cmp_lt, cmp_gt, nI_1, eq_self, if_true, if_false, reduceIte]
      exact hQ1 (by rw [q1, q2]; rfl)
    · have f := fun Q' => c_O_hasRoomForWord (Q := Q') hb hd hi (w := w)
      cases q3 : roomW a w
      · simp only [x_K_addWord_0, x_K_addWord_1, x_K_addWord_4, x_K_addWord_5, x_K_addWord_8, x_K_addWord_11, x_K_addWord_12, x_K_addWord_15, x_K_addWord_16, x_K_addWord_19, x_K_addWord_22, x_K_addWord_23, x_K_addWord_26, x_K_addWord_27, x_K_addWord_30, x_K_addWord_33, x_K_addWord_34, x_K_addWord_37, x_K_addWord_38, x_K_addWord_39, x_K_addWord_42, c_K_requireWord, c_K_isCount, c_K_req0, c_K_req1, c_K_rs0, c_K_rs1, q1, q2, q3, k0, r1, hb.1, f, Ret_t2 (m := 25) tO64 (by decide), Bool.false_eq_true, bI_0, bI_t, bI_f, e10, isA30, isA31, isA33, isA40, isA42, isA43, rOkB0, rOkB1, rOkB, Ret_v, Ret_n, cmp_eq, cmp_lt, cmp_gt, nI_1, eq_self, if_true, if_false, reduceIte]
        exact hQ2 (by rw [q1, q2]; rfl) q3
      · obtain ⟨π, p1, p2⟩ := hh
        simp only [x_K_addWord_0, x_K_addWord_1, x_K_addWord_4, x_K_addWord_5, x_K_addWord_8, x_K_addWord_11, x_K_addWord_12, x_K_addWord_15, x_K_addWord_16, x_K_addWord_19, x_K_addWord_22, x_K_addWord_23, x_K_addWord_26, x_K_addWord_27, x_K_addWord_30, x_K_addWord_33, x_K_addWord_34, x_K_addWord_37, x_K_addWord_38, x_K_addWord_39, x_K_addWord_42, c_K_requireWord, c_K_isCount, c_K_req0, c_K_req1, c_K_rs0, c_K_rs1, q1, q2, q3, k0, r1, r3, hb.1, p1.1, f, bI_0, bI_t, bI_f, e10, isA30, isA31, isA33, isA40, isA42, isA43, rOkB0, rOkB1, rOkB, Ret_v, Ret_n, cmp_eq, cmp_lt, cmp_gt, nI_1, eq_self, if_true, if_false, reduceIte]
        refine k_save h (fun I1 J1 R1 f1 h1 => ?_)
        obtain ⟨k0, r0, r1, r2, r3, r4⟩ := h1.1
        have hb := h1.2.1.2.2.2.1
        simp only [x_K_addWord_0, x_K_addWord_1, x_K_addWord_4, x_K_addWord_5, x_K_addWord_8, x_K_addWord_11, x_K_addWord_12, x_K_addWord_15, x_K_addWord_16, x_K_addWord_19, x_K_addWord_22, x_K_addWord_23, x_K_addWord_26, x_K_addWord_27, x_K_addWord_30, x_K_addWord_33, x_K_addWord_34, x_K_addWord_37, x_K_addWord_38, x_K_addWord_39, x_K_addWord_42, k0, r1, hb.1, bI_0, bI_t, bI_f, e10, isA30, isA31, isA33, isA40, isA42, isA43, rOkB0, rOkB1, rOkB, Ret_v, Ret_n, cmp_eq, cmp_lt, cmp_gt, nI_1, eq_self, if_true, if_false, reduceIte]
        refine c_O_putWord hb h1.2.1.2.2.2.2.1 h1.2.1.2.2.2.2.2.1 q1 q3 (fun I2 J2 f2 d2 => ?_)
        simp only [x_K_addWord_0, x_K_addWord_1, x_K_addWord_4, x_K_addWord_5, x_K_addWord_8, x_K_addWord_11, x_K_addWord_12, x_K_addWord_15, x_K_addWord_16, x_K_addWord_19, x_K_addWord_22, x_K_addWord_23, x_K_addWord_26, x_K_addWord_27, x_K_addWord_30, x_K_addWord_33, x_K_addWord_34, x_K_addWord_37, x_K_addWord_38, x_K_addWord_39, x_K_addWord_42, bI_0, bI_t, bI_f, e10, isA30, isA31, isA33, isA40, isA42, isA43, rOkB0, rOkB1, rOkB, Ret_v, Ret_n, cmp_eq, cmp_lt, cmp_gt, nI_1, eq_self, if_true, if_false, reduceIte]
        exact hQ (by rw [q1, q2]; rfl) q3 _ _ _ (kF_trans f1 (kF_of f2 (by omega))) (KOk_bk h1 (fr_mono f2 (by omega)) d2 (iPutW hi q1 q3 (okCnt_in q2)) (Nat.le_refl _))
theorem c_K_dropWord (h : KOk I J R S T a n s x l) (hQ1 : isW w = false → Q 1 none I J R (sh_thr S)) (hQ : isW w = true → ∀ I' J' R', kF 35 186 I J R I' J' R' → KOk I' J' R' S T (aDelW a w) (svN n) (svS s n a) x l → Q 0 (some (.int (numW (bW a) w))) I' J' R' S) : Wp 26 0 [.ref 35, .long w, nov] [] I J R S Q := by
  obtain ⟨k0, r0, r1, r2, r3, r4⟩ := h.1
  have hi := h.2.1.2.2.2.2.2.1
  have hh := h.2.2.1
  cases q1 : isW w
  · simp only [x_K_dropWord_0, x_K_dropWord_1, x_K_dropWord_4, x_K_dropWord_5, x_K_dropWord_8, x_K_dropWord_9, x_K_dropWord_12, x_K_dropWord_15, x_K_dropWord_16, x_K_dropWord_19, x_K_dropWord_20, x_K_dropWord_23, c_K_requireWord, q1, Ret_t1 (m := 26) tO62 (by decide), Bool.false_eq_true, bI_0, bI_t, bI_f, e10, isA30, isA31, isA33, isA40, isA42, isA43, rOkB0, rOkB1, rOkB, Ret_v, Ret_n, cmp_eq, cmp_lt, cmp_gt, nI_1, eq_self, if_true, if_false, reduceIte]
    exact hQ1 q1
  · obtain ⟨π, p1, p2⟩ := hh
    have hb := h.2.1.2.2.2.1
    simp only [x_K_dropWord_0, x_K_dropWord_1, x_K_dropWord_4, x_K_dropWord_5, x_K_dropWord_8, x_K_dropWord_9, x_K_dropWord_12, x_K_dropWord_15, x_K_dropWord_16, x_K_dropWord_19, x_K_dropWord_20, x_K_dropWord_23, c_K_requireWord, q1, k0, r1, r3, hb.1, p1.1, bI_0, bI_t, bI_f, e10, isA30, isA31, isA33, isA40, isA42, isA43, rOkB0, rOkB1, rOkB, Ret_v, Ret_n, cmp_eq, cmp_lt, cmp_gt, nI_1, eq_self, if_true, if_false, reduceIte]
    refine k_save h (fun I1 J1 R1 f1 h1 => ?_)
    obtain ⟨k0, r0, r1, r2, r3, r4⟩ := h1.1
    have hb := h1.2.1.2.2.2.1
    simp only [x_K_dropWord_0, x_K_dropWord_1, x_K_dropWord_4, x_K_dropWord_5, x_K_dropWord_8, x_K_dropWord_9, x_K_dropWord_12, x_K_dropWord_15, x_K_dropWord_16, x_K_dropWord_19, x_K_dropWord_20, x_K_dropWord_23, k0, r1, hb.1, bI_0, bI_t, bI_f, e10, isA30, isA31, isA33, isA40, isA42, isA43, rOkB0, rOkB1, rOkB, Ret_v, Ret_n, cmp_eq, cmp_lt, cmp_gt, nI_1, eq_self, if_true, if_false, reduceIte]
    refine c_O_removeWord hb h1.2.1.2.2.2.2.1 h1.2.1.2.2.2.2.2.1 (fun I2 J2 f2 d2 => ?_)
    simp only [x_K_dropWord_0, x_K_dropWord_1, x_K_dropWord_4, x_K_dropWord_5, x_K_dropWord_8, x_K_dropWord_9, x_K_dropWord_12, x_K_dropWord_15, x_K_dropWord_16, x_K_dropWord_19, x_K_dropWord_20, x_K_dropWord_23, bI_0, bI_t, bI_f, e10, isA30, isA31, isA33, isA40, isA42, isA43, rOkB0, rOkB1, rOkB, Ret_v, Ret_n, cmp_eq, cmp_lt, cmp_gt, nI_1, eq_self, if_true, if_false, reduceIte]
    exact hQ q1 _ _ _ (kF_trans f1 (kF_of f2 (by omega))) (KOk_bk h1 (fr_mono f2 (by omega)) d2 (iDelW hi) (Nat.le_refl _))
theorem c_K_dropName (h : KOk I J R S T a n s x l) (hQ1 : isW w = false → Q 1 none I J R (sh_thr S)) (hQ : isW w = true → ∀ I' J' R', kF 35 186 I J R I' J' R' → KOk I' J' R' S T (aDelN a w) (svN n) (svS s n a) x l → Q 0 (some (.int (bI (hasN a w)))) I' J' R' S) : Wp 28 0 [.ref 35, .long w, nov] [] I J R S Q := by
  obtain ⟨k0, r0, r1, r2, r3, r4⟩ := h.1
  have hi := h.2.1.2.2.2.2.2.1
  have hh := h.2.2.1
  cases q1 : isW w
  · simp only [x_K_dropName_0, x_K_dropName_1, x_K_dropName_4, x_K_dropName_5, x_K_dropName_8, x_K_dropName_9, x_K_dropName_12, x_K_dropName_15, x_K_dropName_16, x_K_dropName_19, x_K_dropName_20, x_K_dropName_23, c_K_requireWord, q1, Ret_t1 (m := 28) tO62 (by decide), Bool.false_eq_true, bI_0, bI_t, bI_f, e10, isA30, isA31, isA33, isA40, isA42, isA43, rOkB0, rOkB1, rOkB, Ret_v, Ret_n, cmp_eq, cmp_lt, cmp_gt, nI_1, eq_self, if_true, if_false, reduceIte]
    exact hQ1 q1
  · obtain ⟨π, p1, p2⟩ := hh
    have hb := h.2.1.2.2.2.1
    simp only [x_K_dropName_0, x_K_dropName_1, x_K_dropName_4, x_K_dropName_5, x_K_dropName_8, x_K_dropName_9, x_K_dropName_12, x_K_dropName_15, x_K_dropName_16, x_K_dropName_19, x_K_dropName_20, x_K_dropName_23, c_K_requireWord, q1, k0, r1, r3, hb.1, p1.1, bI_0, bI_t, bI_f, e10, isA30, isA31, isA33, isA40, isA42, isA43, rOkB0, rOkB1, rOkB, Ret_v, Ret_n, cmp_eq, cmp_lt, cmp_gt, nI_1, eq_self, if_true, if_false, reduceIte]
    refine k_save h (fun I1 J1 R1 f1 h1 => ?_)
    obtain ⟨k0, r0, r1, r2, r3, r4⟩ := h1.1
    have hb := h1.2.1.2.2.2.1
    simp only [x_K_dropName_0, x_K_dropName_1, x_K_dropName_4, x_K_dropName_5, x_K_dropName_8, x_K_dropName_9, x_K_dropName_12, x_K_dropName_15, x_K_dropName_16, x_K_dropName_19, x_K_dropName_20, x_K_dropName_23, k0, r1, hb.1, bI_0, bI_t, bI_f, e10, isA30, isA31, isA33, isA40, isA42, isA43, rOkB0, rOkB1, rOkB, Ret_v, Ret_n, cmp_eq, cmp_lt, cmp_gt, nI_1, eq_self, if_true, if_false, reduceIte]
    refine c_O_removeName hb h1.2.1.2.2.2.2.1 h1.2.1.2.2.2.2.2.1 (fun I2 J2 f2 d2 => ?_)
    simp only [x_K_dropName_0, x_K_dropName_1, x_K_dropName_4, x_K_dropName_5, x_K_dropName_8, x_K_dropName_9, x_K_dropName_12, x_K_dropName_15, x_K_dropName_16, x_K_dropName_19, x_K_dropName_20, x_K_dropName_23, bI_0, bI_t, bI_f, e10, isA30, isA31, isA33, isA40, isA42, isA43, rOkB0, rOkB1, rOkB, Ret_v, Ret_n, cmp_eq, cmp_lt, cmp_gt, nI_1, eq_self, if_true, if_false, reduceIte]
    exact hQ q1 _ _ _ (kF_trans f1 (kF_of f2 (by omega))) (KOk_bk h1 (fr_mono f2 (by omega)) d2 (iDelN hi) (Nat.le_refl _))
theorem c_K_addName (h : KOk I J R S T a n s x l) (hQ1 : isW w = false → Q 1 none I J R (sh_thr S)) (hQ2 : isW w = true → roomN a w = false → Q 2 none I J R (sh_thr S)) (hQ : isW w = true → roomN a w = true → ∀ I' J' R', kF 35 186 I J R I' J' R' → KOk I' J' R' S T (aPutN a w) (svN n) (svS s n a) x l → Q 0 (some (.int (bI (!hasN a w)))) I' J' R' S) : Wp 27 0 [.ref 35, .long w, nov] [] I J R S Q := by
  obtain ⟨k0, r0, r1, r2, r3, r4⟩ := h.1
  have hb := h.2.1.2.2.2.1
  have hd := h.2.1.2.2.2.2.1
  have hi := h.2.1.2.2.2.2.2.1
  have hh := h.2.2.1
  cases q1 : isW w
  · simp only [x_K_addName_0, x_K_addName_1, x_K_addName_4, x_K_addName_5, x_K_addName_8, x_K_addName_9, x_K_addName_12, x_K_addName_15, x_K_addName_16, x_K_addName_19, x_K_addName_20, x_K_addName_23, x_K_addName_26, x_K_addName_27, x_K_addName_30, x_K_addName_31, x_K_addName_34, c_K_requireWord, q1, Ret_t1 (m := 27) tO62 (by decide), Bool.false_eq_true, bI_0, bI_t, bI_f, e10, isA30, isA31, isA33, isA40, isA42, isA43, rOkB0, rOkB1, rOkB, Ret_v, Ret_n, cmp_eq, cmp_lt, cmp_gt, nI_1, eq_self, if_true, if_false, reduceIte]
    exact hQ1 q1
  · have f := fun Q' => c_O_hasRoomForName (Q := Q') hb hd hi (w := w)
    cases q3 : roomN a w
    · simp only [x_K_addName_0, x_K_addName_1, x_K_addName_4, x_K_addName_5, x_K_addName_8, x_K_addName_9, x_K_addName_12, x_K_addName_15, x_K_addName_16, x_K_addName_19, x_K_addName_20, x_K_addName_23, x_K_addName_26, x_K_addName_27, x_K_addName_30, x_K_addName_31, x_K_addName_34, c_K_requireWord, c_K_rs0, c_K_rs1, q1, q3, k0, r1, hb.1, f, Ret_t2 (m := 27) tO64 (by decide), Bool.false_eq_true, bI_0, bI_t, bI_f, e10, isA30, isA31, isA33, isA40, isA42, isA43, rOkB0, rOkB1, rOkB, Ret_v, Ret_n, cmp_eq, cmp_lt, cmp_gt, nI_1, eq_self, if_true, if_false, reduceIte]
      exact hQ2 q1 q3
    · obtain ⟨π, p1, p2⟩ := hh
      simp only [x_K_addName_0, x_K_addName_1, x_K_addName_4, x_K_addName_5, x_K_addName_8, x_K_addName_9, x_K_addName_12, x_K_addName_15, x_K_addName_16, x_K_addName_19, x_K_addName_20, x_K_addName_23, x_K_addName_26, x_K_addName_27, x_K_addName_30, x_K_addName_31, x_K_addName_34, c_K_requireWord, c_K_rs0, c_K_rs1, q1, q3, k0, r1, r3, hb.1, p1.1, f, bI_0, bI_t, bI_f, e10, isA30, isA31, isA33, isA40, isA42, isA43, rOkB0, rOkB1, rOkB, Ret_v, Ret_n, cmp_eq, cmp_lt, cmp_gt, nI_1, eq_self, if_true, if_false, reduceIte]
      refine k_save h (fun I1 J1 R1 f1 h1 => ?_)
      obtain ⟨k0, r0, r1, r2, r3, r4⟩ := h1.1
      have hb := h1.2.1.2.2.2.1
      simp only [x_K_addName_0, x_K_addName_1, x_K_addName_4, x_K_addName_5, x_K_addName_8, x_K_addName_9, x_K_addName_12, x_K_addName_15, x_K_addName_16, x_K_addName_19, x_K_addName_20, x_K_addName_23, x_K_addName_26, x_K_addName_27, x_K_addName_30, x_K_addName_31, x_K_addName_34, k0, r1, hb.1, bI_0, bI_t, bI_f, e10, isA30, isA31, isA33, isA40, isA42, isA43, rOkB0, rOkB1, rOkB, Ret_v, Ret_n, cmp_eq, cmp_lt, cmp_gt, nI_1, eq_self, if_true, if_false, reduceIte]
      refine c_O_putName hb h1.2.1.2.2.2.2.1 h1.2.1.2.2.2.2.2.1 q1 q3 (fun I2 J2 f2 d2 => ?_)
      simp only [x_K_addName_0, x_K_addName_1, x_K_addName_4, x_K_addName_5, x_K_addName_8, x_K_addName_9, x_K_addName_12, x_K_addName_15, x_K_addName_16, x_K_addName_19, x_K_addName_20, x_K_addName_23, x_K_addName_26, x_K_addName_27, x_K_addName_30, x_K_addName_31, x_K_addName_34, bI_0, bI_t, bI_f, e10, isA30, isA31, isA33, isA40, isA42, isA43, rOkB0, rOkB1, rOkB, Ret_v, Ret_n, cmp_eq, cmp_lt, cmp_gt, nI_1, eq_self, if_true, if_false, reduceIte]
      exact hQ q1 q3 _ _ _ (kF_trans f1 (kF_of f2 (by omega))) (KOk_bk h1 (fr_mono f2 (by omega)) d2 (iPutN hi q1 q3) (Nat.le_refl _))
theorem c_K_setStick (h : KOk I J R S T a n s x l) (hQ1 : (okLet k && okStk v) = false → Q 1 none I J R (sh_thr S)) (hQ : (okLet k && okStk v) = true → ∀ I' J' R', kF 35 186 I J R I' J' R' → KOk I' J' R' S T (aStk a (ix k) v) (svN n) (svS s n a) x l → Q 0 (some (.int (bK a (ix k)))) I' J' R' S) : Wp 29 0 [.ref 35, .int k, .int v] [] I J R S Q := by
  obtain ⟨k0, r0, r1, r2, r3, r4⟩ := h.1
  have hi := h.2.1.2.2.2.2.2.1
  obtain ⟨π, p1, p2⟩ := h.2.2.1
  have hb := h.2.1.2.2.2.1
  cases q1 : okLet k
  · simp only [x_K_setStick_0, x_K_setStick_1, x_K_setStick_4, x_K_setStick_7, x_K_setStick_8, x_K_setStick_11, x_K_setStick_14, x_K_setStick_15, x_K_setStick_18, x_K_setStick_19, x_K_setStick_22, x_K_setStick_23, x_K_setStick_26, x_K_setStick_27, x_K_setStick_30, x_K_setStick_33, x_K_setStick_34, x_K_setStick_37, x_K_setStick_38, x_K_setStick_39, x_K_setStick_42, c_K_isLetter, c_K_req0, q1, Ret_t1 (m := 29) tO63 (by decide), bI_0, bI_t, bI_f, e10, isA30, isA31, isA33, isA40, isA42, isA43, rOkB0, rOkB1, rOkB, Ret_v, Ret_n, cmp_eq, cmp_lt, cmp_gt, nI_1, eq_self, if_true, if_false, reduceIte]
    exact hQ1 (by rw [q1]; rfl)
  · cases q2 : okStk v
    · simp only [x_K_setStick_0, x_K_setStick_1, x_K_setStick_4, x_K_setStick_7, x_K_setStick_8, x_K_setStick_11, x_K_setStick_14, x_K_setStick_15, x_K_setStick_18, x_K_setStick_19, x_K_setStick_22, x_K_setStick_23, x_K_setStick_26, x_K_setStick_27, x_K_setStick_30, x_K_setStick_33, x_K_setStick_34, x_K_setStick_37, x_K_setStick_38, x_K_setStick_39, x_K_setStick_42, c_K_isLetter, c_K_isStick, c_K_req0, q1, q2, Ret_t1 (m := 29) tO63 (by decide), bI_0, bI_t, bI_f, e10, isA30, isA31, isA33, isA40, isA42, isA43, rOkB0, rOkB1, rOkB, Ret_v, Ret_n, cmp_eq, cmp_lt, cmp_gt, nI_1, eq_self, if_true, if_false, reduceIte]
      exact hQ1 (by rw [q1, q2]; rfl)
    · simp only [x_K_setStick_0, x_K_setStick_1, x_K_setStick_4, x_K_setStick_7, x_K_setStick_8, x_K_setStick_11, x_K_setStick_14, x_K_setStick_15, x_K_setStick_18, x_K_setStick_19, x_K_setStick_22, x_K_setStick_23, x_K_setStick_26, x_K_setStick_27, x_K_setStick_30, x_K_setStick_33, x_K_setStick_34, x_K_setStick_37, x_K_setStick_38, x_K_setStick_39, x_K_setStick_42, c_K_isLetter, c_K_isStick, c_K_req1, q1, q2, k0, r1, r3, hb.1, p1.1, bI_0, bI_t, bI_f, e10, isA30, isA31, isA33, isA40, isA42, isA43, rOkB0, rOkB1, rOkB, Ret_v, Ret_n, cmp_eq, cmp_lt, cmp_gt, nI_1, eq_self, if_true, if_false, reduceIte]
      refine k_save h (fun I1 J1 R1 f1 h1 => ?_)
      obtain ⟨k0, r0, r1, r2, r3, r4⟩ := h1.1
      have hb := h1.2.1.2.2.2.1
      simp only [x_K_setStick_0, x_K_setStick_1, x_K_setStick_4, x_K_setStick_7, x_K_setStick_8, x_K_setStick_11, x_K_setStick_14, x_K_setStick_15, x_K_setStick_18, x_K_setStick_19, x_K_setStick_22, x_K_setStick_23, x_K_setStick_26, x_K_setStick_27, x_K_setStick_30, x_K_setStick_33, x_K_setStick_34, x_K_setStick_37, x_K_setStick_38, x_K_setStick_39, x_K_setStick_42, k0, r1, hb.1, bI_0, bI_t, bI_f, e10, isA30, isA31, isA33, isA40, isA42, isA43, rOkB0, rOkB1, rOkB, Ret_v, Ret_n, cmp_eq, cmp_lt, cmp_gt, nI_1, eq_self, if_true, if_false, reduceIte]
      obtain ⟨i, hi26, e⟩ := okLet_n q1
      have ei : ix k = i := by rw [e, ix_nI (by omega)]
      rw [ei] at hQ
      rw [e]
      refine c_O_putStick hb h1.2.1.2.2.2.2.1 hi26 (fun I2 J2 f2 d2 => ?_)
      simp only [x_K_setStick_0, x_K_setStick_1, x_K_setStick_4, x_K_setStick_7, x_K_setStick_8, x_K_setStick_11, x_K_setStick_14, x_K_setStick_15, x_K_setStick_18, x_K_setStick_19, x_K_setStick_22, x_K_setStick_23, x_K_setStick_26, x_K_setStick_27, x_K_setStick_30, x_K_setStick_33, x_K_setStick_34, x_K_setStick_37, x_K_setStick_38, x_K_setStick_39, x_K_setStick_42, bI_0, bI_t, bI_f, e10, isA30, isA31, isA33, isA40, isA42, isA43, rOkB0, rOkB1, rOkB, Ret_v, Ret_n, cmp_eq, cmp_lt, cmp_gt, nI_1, eq_self, if_true, if_false, reduceIte]
      exact hQ (by rw [q1, q2]; rfl) _ _ _ (kF_trans f1 (kF_of f2 (by omega))) (KOk_bk h1 (fr_mono f2 (by omega)) d2 (iStk hi (okStk_in q2)) (Nat.le_refl _))
theorem c_K_set (h : KOk I J R S T a n s x l) (hQ1 : okSet k v = false → Q 1 none I J R (sh_thr S)) (hQ : okSet k v = true → ∀ I' J' R', kF 35 186 I J R I' J' R' → KOk I' J' R' S T (aSet a (ix k) v) (svN n) (svS s n a) x l → Q 0 (some (.int (bT a (ix k)))) I' J' R' S) : Wp 30 0 [.ref 35, .int k, .int v] [] I J R S Q := by
  obtain ⟨k0, r0, r1, r2, r3, r4⟩ := h.1
  have hi := h.2.1.2.2.2.2.2.1
  obtain ⟨π, p1, p2⟩ := h.2.2.1
  have hb := h.2.1.2.2.2.1
  have f := fun Q' => c_K_isSetting (Q := Q') (J := J) (R := R) (k := k) (v := v) h.2.2.2.2.2.2.1
  cases q1 : okSet k v
  · simp only [x_K_set_0, x_K_set_1, x_K_set_2, x_K_set_5, x_K_set_8, x_K_set_9, x_K_set_12, x_K_set_13, x_K_set_16, x_K_set_19, x_K_set_20, x_K_set_23, x_K_set_24, x_K_set_25, x_K_set_28, f, c_K_req0, q1, Ret_t1 (m := 30) tO63 (by decide), bI_0, bI_t, bI_f, e10, isA30, isA31, isA33, isA40, isA42, isA43, rOkB0, rOkB1, rOkB, Ret_v, Ret_n, cmp_eq, cmp_lt, cmp_gt, nI_1, eq_self, if_true, if_false, reduceIte]
    exact hQ1 q1
  · simp only [x_K_set_0, x_K_set_1, x_K_set_2, x_K_set_5, x_K_set_8, x_K_set_9, x_K_set_12, x_K_set_13, x_K_set_16, x_K_set_19, x_K_set_20, x_K_set_23, x_K_set_24, x_K_set_25, x_K_set_28, f, c_K_req1, q1, k0, r1, r3, hb.1, p1.1, bI_0, bI_t, bI_f, e10, isA30, isA31, isA33, isA40, isA42, isA43, rOkB0, rOkB1, rOkB, Ret_v, Ret_n, cmp_eq, cmp_lt, cmp_gt, nI_1, eq_self, if_true, if_false, reduceIte]
    refine k_save h (fun I1 J1 R1 f1 h1 => ?_)
    obtain ⟨k0, r0, r1, r2, r3, r4⟩ := h1.1
    have hb := h1.2.1.2.2.2.1
    simp only [x_K_set_0, x_K_set_1, x_K_set_2, x_K_set_5, x_K_set_8, x_K_set_9, x_K_set_12, x_K_set_13, x_K_set_16, x_K_set_19, x_K_set_20, x_K_set_23, x_K_set_24, x_K_set_25, x_K_set_28, k0, r1, hb.1, bI_0, bI_t, bI_f, e10, isA30, isA31, isA33, isA40, isA42, isA43, rOkB0, rOkB1, rOkB, Ret_v, Ret_n, cmp_eq, cmp_lt, cmp_gt, nI_1, eq_self, if_true, if_false, reduceIte]
    obtain ⟨i, hi3, e, g0, g1, g2⟩ := okSet_n q1
    have ei : ix k = i := by rw [e, ix_nI (by omega)]
    rw [ei] at hQ
    rw [e]
    refine c_O_putSetting hb h1.2.1.2.2.2.2.1 hi3 (fun I2 J2 f2 d2 => ?_)
    simp only [x_K_set_0, x_K_set_1, x_K_set_2, x_K_set_5, x_K_set_8, x_K_set_9, x_K_set_12, x_K_set_13, x_K_set_16, x_K_set_19, x_K_set_20, x_K_set_23, x_K_set_24, x_K_set_25, x_K_set_28, bI_0, bI_t, bI_f, e10, isA30, isA31, isA33, isA40, isA42, isA43, rOkB0, rOkB1, rOkB, Ret_v, Ret_n, cmp_eq, cmp_lt, cmp_gt, nI_1, eq_self, if_true, if_false, reduceIte]
    exact hQ q1 _ _ _ (kF_trans f1 (kF_of f2 (by omega))) (KOk_bk h1 (fr_mono f2 (by omega)) d2 (iSet hi g0 g1 g2) (Nat.le_refl _))
theorem c_K_correct (h : KOk I J R S T a n s x l) (hT : T < 2147483647) (hQ1 : isW w = false → Q 1 none I J R (sh_thr S)) (hQ : isW w = true → ∀ I' J' R', kF 35 186 I J R I' J' R' → KOk I' J' R' S (T + 1) (tkA a w) (svN n) (svS s n a) x l → Q 0 (some (.long (tkR a w))) I' J' R' S) : Wp 31 0 [.ref 35, .long w, nov] [] I J R S Q := by
  obtain ⟨k0, r0, r1, r2, r3, r4⟩ := h.1
  have hi := h.2.1.2.2.2.2.2.1
  cases q1 : isW w
  · simp only [x_K_correct_0, x_K_correct_1, x_K_correct_4, x_K_correct_5, x_K_correct_8, x_K_correct_9, x_K_correct_12, x_K_correct_15, x_K_correct_16, x_K_correct_19, x_K_correct_20, x_K_correct_23, c_K_requireWord, q1, Ret_t1 (m := 31) tO62 (by decide), Bool.false_eq_true, bI_0, bI_t, bI_f, e10, isA30, isA31, isA33, isA40, isA42, isA43, rOkB0, rOkB1, rOkB, Ret_v, Ret_n, cmp_eq, cmp_lt, cmp_gt, nI_1, eq_self, if_true, if_false, reduceIte]
    exact hQ1 q1
  · obtain ⟨π, p1, p2⟩ := h.2.2.1
    have hb := h.2.1.2.2.2.1
    simp only [x_K_correct_0, x_K_correct_1, x_K_correct_4, x_K_correct_5, x_K_correct_8, x_K_correct_9, x_K_correct_12, x_K_correct_15, x_K_correct_16, x_K_correct_19, x_K_correct_20, x_K_correct_23, c_K_requireWord, q1, k0, r1, r3, hb.1, p1.1, bI_0, bI_t, bI_f, e10, isA30, isA31, isA33, isA40, isA42, isA43, rOkB0, rOkB1, rOkB, Ret_v, Ret_n, cmp_eq, cmp_lt, cmp_gt, nI_1, eq_self, if_true, if_false, reduceIte]
    refine k_save h (fun I1 J1 R1 f1 h1 => ?_)
    obtain ⟨k0, r0, r1, r2, r3, r4⟩ := h1.1
    have hs := h1.2.1.1.1
    simp only [x_K_correct_0, x_K_correct_1, x_K_correct_4, x_K_correct_5, x_K_correct_8, x_K_correct_9, x_K_correct_12, x_K_correct_15, x_K_correct_16, x_K_correct_19, x_K_correct_20, x_K_correct_23, k0, r2, hs, bI_0, bI_t, bI_f, e10, isA30, isA31, isA33, isA40, isA42, isA43, rOkB0, rOkB1, rOkB, Ret_v, Ret_n, cmp_eq, cmp_lt, cmp_gt, nI_1, eq_self, if_true, if_false, reduceIte]
    refine c_S_takeTyped h1.2.1 q1 (fun I2 J2 f2 d2 => ?_)
    simp only [x_K_correct_0, x_K_correct_1, x_K_correct_4, x_K_correct_5, x_K_correct_8, x_K_correct_9, x_K_correct_12, x_K_correct_15, x_K_correct_16, x_K_correct_19, x_K_correct_20, x_K_correct_23, bI_0, bI_t, bI_f, e10, isA30, isA31, isA33, isA40, isA42, isA43, rOkB0, rOkB1, rOkB, Ret_v, Ret_n, cmp_eq, cmp_lt, cmp_gt, nI_1, eq_self, if_true, if_false, reduceIte]
    exact hQ q1 _ _ _ (kF_trans f1 (kF_of f2 (by omega))) (KOk_bk h1 (fr_mono f2 (by omega)) d2 (iTk hi q1 hT) (by omega))
theorem c_K_takeBack (h : KOk I J R S T a n s x l) (hT : T < 2147483647) (hQ2 : canB a = false → Q 2 none I J R (sh_thr S)) (hQ : canB a = true → ∀ I' J' R', kF 35 186 I J R I' J' R' → KOk I' J' R' S (T + 1) (aBack a) (svN n) (svS s n a) x l → Q 0 (some (.long (bkF a))) I' J' R' S) : Wp 32 0 [.ref 35] [] I J R S Q := by
  obtain ⟨k0, r0, r1, r2, r3, r4⟩ := h.1
  have hb := h.2.1.2.2.2.1
  have hi := h.2.1.2.2.2.2.2.1
  have f := fun Q' => c_O_canTakeBack (Q := Q') hb h.2.1.2.2.2.2.1 hi
  cases q1 : canB a
  · simp only [x_K_takeBack_0, x_K_takeBack_1, x_K_takeBack_4, x_K_takeBack_7, x_K_takeBack_10, x_K_takeBack_11, x_K_takeBack_14, x_K_takeBack_15, x_K_takeBack_18, x_K_takeBack_21, x_K_takeBack_22, x_K_takeBack_25, x_K_takeBack_28, c_K_rs0, c_K_rs1, q1, k0, r1, hb.1, f, Ret_t2 (m := 32) tO64 (by decide), Bool.false_eq_true, bI_0, bI_t, bI_f, e10, isA30, isA31, isA33, isA40, isA42, isA43, rOkB0, rOkB1, rOkB, Ret_v, Ret_n, cmp_eq, cmp_lt, cmp_gt, nI_1, eq_self, if_true, if_false, reduceIte]
    exact hQ2 q1
  · obtain ⟨π, p1, p2⟩ := h.2.2.1
    simp only [x_K_takeBack_0, x_K_takeBack_1, x_K_takeBack_4, x_K_takeBack_7, x_K_takeBack_10, x_K_takeBack_11, x_K_takeBack_14, x_K_takeBack_15, x_K_takeBack_18, x_K_takeBack_21, x_K_takeBack_22, x_K_takeBack_25, x_K_takeBack_28, c_K_rs0, c_K_rs1, q1, k0, r1, r3, hb.1, p1.1, f, bI_0, bI_t, bI_f, e10, isA30, isA31, isA33, isA40, isA42, isA43, rOkB0, rOkB1, rOkB, Ret_v, Ret_n, cmp_eq, cmp_lt, cmp_gt, nI_1, eq_self, if_true, if_false, reduceIte]
    refine k_save h (fun I1 J1 R1 f1 h1 => ?_)
    obtain ⟨k0, r0, r1, r2, r3, r4⟩ := h1.1
    have hb := h1.2.1.2.2.2.1
    simp only [x_K_takeBack_0, x_K_takeBack_1, x_K_takeBack_4, x_K_takeBack_7, x_K_takeBack_10, x_K_takeBack_11, x_K_takeBack_14, x_K_takeBack_15, x_K_takeBack_18, x_K_takeBack_21, x_K_takeBack_22, x_K_takeBack_25, x_K_takeBack_28, k0, r1, hb.1, bI_0, bI_t, bI_f, e10, isA30, isA31, isA33, isA40, isA42, isA43, rOkB0, rOkB1, rOkB, Ret_v, Ret_n, cmp_eq, cmp_lt, cmp_gt, nI_1, eq_self, if_true, if_false, reduceIte]
    refine c_O_takeBack hb h1.2.1.2.2.2.2.1 hi q1 (fun I2 J2 f2 d2 => ?_)
    simp only [x_K_takeBack_0, x_K_takeBack_1, x_K_takeBack_4, x_K_takeBack_7, x_K_takeBack_10, x_K_takeBack_11, x_K_takeBack_14, x_K_takeBack_15, x_K_takeBack_18, x_K_takeBack_21, x_K_takeBack_22, x_K_takeBack_25, x_K_takeBack_28, bI_0, bI_t, bI_f, e10, isA30, isA31, isA33, isA40, isA42, isA43, rOkB0, rOkB1, rOkB, Ret_v, Ret_n, cmp_eq, cmp_lt, cmp_gt, nI_1, eq_self, if_true, if_false, reduceIte]
    exact hQ q1 _ _ _ (kF_trans f1 (kF_of f2 (by omega))) (KOk_bk h1 (fr_mono f2 (by omega)) d2 (iBack hi q1 hT) (by omega))
theorem c_K_undo (h : KOk I J R S T a n s x l) (hQ2 : n = 0 → Q 2 none I J R (sh_thr S)) (hQ : 0 < n → ∀ I' J' R', kF 35 186 I J R I' J' R' → KOk I' J' R' S T (s (n - 1)) (n - 1) s x l → Q 0 (some (.int (nI (n - 1)))) I' J' R' S) : Wp 50 0 [.ref 35] [] I J R S Q := by
  obtain ⟨k0, r0, r1, r2, r3, r4⟩ := h.1
  have hb := h.2.1.2.2.2.1
  obtain ⟨π, p1, p2⟩ := h.2.2.1
  have f := fun Q' => c_H_size (Q := Q') (I := I) (J := J) (R := R) p1.1
  rw [p2.1] at f
  have g := nI_gt0 (i := n) (by have := p2.2.1; omega)
  by_cases q : 0 < n
  · have f0 := g.mpr q
    simp only [x_K_undo_0, x_K_undo_1, x_K_undo_4, x_K_undo_7, x_K_undo_10, x_K_undo_11, x_K_undo_14, x_K_undo_15, x_K_undo_18, x_K_undo_19, x_K_undo_22, x_K_undo_23, x_K_undo_26, x_K_undo_29, k0, r1, r3, hb.1, p1.1, f, f0, c_K_rs0, c_K_rs1, bI_0, bI_t, bI_f, e10, isA30, isA31, isA33, isA40, isA42, isA43, rOkB0, rOkB1, rOkB, Ret_v, Ret_n, cmp_eq, cmp_lt, cmp_gt, nI_1, eq_self, if_true, if_false, reduceIte]
    refine c_H_restore p1 p2 q hb (by omega) (fun I1 J1 f1 g1 h1 d1 => ?_)
    simp only [x_K_undo_0, x_K_undo_1, x_K_undo_4, x_K_undo_7, x_K_undo_10, x_K_undo_11, x_K_undo_14, x_K_undo_15, x_K_undo_18, x_K_undo_19, x_K_undo_22, x_K_undo_23, x_K_undo_26, x_K_undo_29, bI_0, bI_t, bI_f, e10, isA30, isA31, isA33, isA40, isA42, isA43, rOkB0, rOkB1, rOkB, Ret_v, Ret_n, cmp_eq, cmp_lt, cmp_gt, nI_1, eq_self, if_true, if_false, reduceIte]
    obtain ⟨h1', ⟨e1, e2, e3, e4, e5, e6, e7, e8⟩, -, h4, h5, h6, h7, h8⟩ := h
    exact hQ q _ _ _ (kF_of f1 (by omega)) ⟨h1', ⟨e1, e2, KbD_fr e3 f1 (by omega), e4, d1, h8 _ (by omega), e7, e8⟩, ⟨π, p1, h1⟩, h4, ⟨by rw [(f1 185 (by omega)).1]; exact h5.1, h5.2.1, fun i hi => by rw [(f1 186 (by omega)).1]; exact h5.2.2 i hi⟩, CmS_lo h6 (fun q hq => (f1 q (by omega)).1) (fun _ _ => by simp), CnS_lo h7 (fun q hq => (f1 q (by omega)).1), fun i hi => h8 i (by omega)⟩
  · have f0 : ¬ 0 < nI n := fun e => q (g.mp e)
    simp only [x_K_undo_0, x_K_undo_1, x_K_undo_4, x_K_undo_7, x_K_undo_10, x_K_undo_11, x_K_undo_14, x_K_undo_15, x_K_undo_18, x_K_undo_19, x_K_undo_22, x_K_undo_23, x_K_undo_26, x_K_undo_29, k0, r3, p1.1, f, f0, c_K_rs0, c_K_rs1, Ret_t2 (m := 50) tO64 (by decide), Bool.false_eq_true, bI_0, bI_t, bI_f, e10, isA30, isA31, isA33, isA40, isA42, isA43, rOkB0, rOkB1, rOkB, Ret_v, Ret_n, cmp_eq, cmp_lt, cmp_gt, nI_1, eq_self, if_true, if_false, reduceIte]
    exact hQ2 (by omega)
end KD

