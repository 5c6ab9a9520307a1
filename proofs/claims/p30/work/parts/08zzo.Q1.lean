/-! the law's numbers and words -/
def lo (v : Int32) : Nat := (v.toBitVec &&& 2147483647#32).toNat
theorem lo_lt (v : Int32) : lo v < 2 ^ 31 := by
  unfold lo
  rw [BitVec.toNat_and]
  exact Nat.lt_of_le_of_lt Nat.and_le_right (by decide)
theorem lo_and (v : Int32) : v &&& 2147483647 = nI (lo v) := by
  rw [← Int32.toBitVec_inj]
  show (v &&& 2147483647).toBitVec = (Int32.ofNat _).toBitVec
  rw [Int32.toBitVec_and]
  show v.toBitVec &&& 2147483647#32 = BitVec.ofNat 32 _
  unfold lo
  rw [BitVec.ofNat_toNat, BitVec.setWidth_eq]
theorem lW_mul (a b : Nat) : lW a * lW b = lW (a * b) := (Int64.ofNat_mul a b).symm
theorem lW_add (a b : Nat) : lW a + lW b = lW (a + b) := (Int64.ofNat_add a b).symm
def ltL (i : Nat) : Nat := [5, 18, 20, 4, 21, 10].getD i 10
theorem ltL_ok : ∀ i, i < 6 → 1 ≤ ltL i ∧ ltL i ≤ 26 := by decide
def gwF : Nat → Nat → Nat → Nat
  | 0, W, _ => W
  | k + 1, W, l => gwF k (32 * W + ltL (l % 6)) (l / 6)
def wordN (v : Int32) : Nat := gwF (lo v % 5 + 1) 0 (lo v / 5)
def Wd (v : Int32) : Int64 := lW (wordN v)
theorem gwF_ok : ∀ (k i W l : Nat), wOk i W = true → W < 2 ^ (5 * i) → wOk (i + k) (gwF k W l) = true ∧ gwF k W l < 2 ^ (5 * (i + k)) ∧ W ≤ gwF k W l ∧ (0 < k → 0 < gwF k W l)
  | 0, i, W, l, h1, h2 => ⟨h1, h2, Nat.le_refl _, fun h => absurd h (Nat.lt_irrefl _)⟩
  | k + 1, i, W, l, h1, h2 => by
    have g := ltL_ok (l % 6) (Nat.mod_lt _ (by omega))
    have e : 2 ^ (5 * (i + 1)) = 2 ^ (5 * i) * 32 := by rw [show 5 * (i + 1) = 5 * i + 5 by omega, Nat.pow_add]
    have p1 := wOk_put h1 g.1 g.2
    rw [show W * 32 + ltL (l % 6) = 32 * W + ltL (l % 6) by omega] at p1
    obtain ⟨a1, a2, a3, a4⟩ := gwF_ok k (i + 1) (32 * W + ltL (l % 6)) (l / 6) p1 (by omega)
    rw [show i + 1 + k = i + (k + 1) by omega] at a1 a2
    exact ⟨a1, a2, by show W ≤ gwF k (32 * W + ltL (l % 6)) (l / 6); omega, fun _ => by show 0 < gwF k (32 * W + ltL (l % 6)) (l / 6); omega⟩
theorem Wd_ok (v : Int32) : isW (Wd v) = true := by
  have hm : lo v % 5 < 5 := Nat.mod_lt _ (by omega)
  obtain ⟨a1, a2, a3, a4⟩ := gwF_ok (lo v % 5 + 1) 0 0 (lo v / 5) (by simp [wOk]) (by omega)
  rw [Nat.zero_add] at a1 a2
  have a2 : wordN v < 2 ^ (5 * (lo v % 5 + 1)) := a2
  have a4 : 0 < wordN v := a4 (by omega)
  have b1 := wOk_mono' (8 - (lo v % 5 + 1)) a1 a2
  rw [show lo v % 5 + 1 + (8 - (lo v % 5 + 1)) = 8 by omega] at b1
  have b2 : 2 ^ (5 * (lo v % 5 + 1)) ≤ 2 ^ 40 := Nat.pow_le_pow_right (by omega) (by omega)
  unfold Wd
  rw [isW_lW (by omega), decide_eq_true a4, decide_eq_true (show wordN v < 2 ^ 40 by omega)]
  exact b1
section QA
variable {I : MI} {J : MJ} {R : MR} {S : Sh} {Q : SkQ} {v x : Int32} {k : Nat}
theorem nI_nz (h0 : 0 < k) (hk : k < 2 ^ 31) : ¬ nI k = 0 := by
  rw [← nI_0, nI_inj (by omega) (by omega)]
  omega
theorem c_L_low (h0 : 0 < k) (hk : k < 2 ^ 31) : Wp 0 0 [.int v, .int (nI k)] [] I J R S Q = Q 0 (some (.int (nI (lo v % k)))) I J R S := by
  simp only [x_L_low_0, x_L_low_1, x_L_low_3, x_L_low_4, x_L_low_5, x_L_low_6, lo_and, pk_rem (lo_lt v) h0 hk, nI_nz h0 hk, not_false_eq_true, bI_0, bI_t, bI_f, e10, isA30, isA31, isA33, isA40, isA42, isA43, rOkB0, rOkB1, rOkB, Ret_v, Ret_n, cmp_eq, cmp_lt, cmp_gt, nI_1, eq_self, if_true, if_false, reduceIte]
theorem c_L_lowc {c : Int32} (e : nI k = c) (h0 : 0 < k) (hk : k < 2 ^ 31) : Wp 0 0 [.int v, .int c] [] I J R S Q = Q 0 (some (.int (nI (lo v % k)))) I J R S := by
  subst e
  exact c_L_low h0 hk
def cellV (I : MI) (S : Sh) (x : Int32) : Int32 := if x < nI (S.2.1 34) then I 34 (ix x) else 40503 * x + 977
theorem c_L_cell (h4 : S.1 34 = 40) (hL : S.2.1 34 < 2 ^ 31) (hx : ¬ x < 0) : Wp 1 0 [.ref 34, .int x] [] I J R S Q = Q 0 (some (.int (cellV I S x))) I J R S := by
  unfold cellV
  by_cases q : x < nI (S.2.1 34)
  · have e := inb_l hx q hL
    simp only [x_L_cell_0, x_L_cell_1, x_L_cell_2, x_L_cell_3, x_L_cell_6, x_L_cell_7, x_L_cell_8, x_L_cell_8C, x_L_cell_9, x_L_cell_12, x_L_cell_14, x_L_cell_15, x_L_cell_16, x_L_cell_19, x_L_cell_20, h4, q, e, bI_0, bI_t, bI_f, e10, isA30, isA31, isA33, isA40, isA42, isA43, rOkB0, rOkB1, rOkB, Ret_v, Ret_n, cmp_eq, cmp_lt, cmp_gt, nI_1, eq_self, if_true, if_false, reduceIte]
  · simp only [x_L_cell_0, x_L_cell_1, x_L_cell_2, x_L_cell_3, x_L_cell_6, x_L_cell_7, x_L_cell_8, x_L_cell_8C, x_L_cell_9, x_L_cell_12, x_L_cell_14, x_L_cell_15, x_L_cell_16, x_L_cell_19, x_L_cell_20, h4, q, bI_0, bI_t, bI_f, e10, isA30, isA31, isA33, isA40, isA42, isA43, rOkB0, rOkB1, rOkB, Ret_v, Ret_n, cmp_eq, cmp_lt, cmp_gt, nI_1, eq_self, if_true, if_false, reduceIte]
theorem c_L_letter (hk : k < 6) : Wp 3 0 [.int (nI k)] [] I J R S Q = Q 0 (some (.long (lW (ltL k)))) I J R S := by
  have d20 : ¬ (2 : Int32) = 0 := by decide
  have d30 : ¬ (3 : Int32) = 0 := by decide
  have d40 : ¬ (4 : Int32) = 0 := by decide
  have d50 : ¬ (5 : Int32) = 0 := by decide
  have d21 : ¬ (2 : Int32) = 1 := by decide
  have d31 : ¬ (3 : Int32) = 1 := by decide
  have d41 : ¬ (4 : Int32) = 1 := by decide
  have d51 : ¬ (5 : Int32) = 1 := by decide
  have d32 : ¬ (3 : Int32) = 2 := by decide
  have d42 : ¬ (4 : Int32) = 2 := by decide
  have d52 : ¬ (5 : Int32) = 2 := by decide
  have d43 : ¬ (4 : Int32) = 3 := by decide
  have d53 : ¬ (5 : Int32) = 3 := by decide
  have d54 : ¬ (5 : Int32) = 4 := by decide
  rcases (show k = 0 ∨ k = 1 ∨ k = 2 ∨ k = 3 ∨ k = 4 ∨ k = 5 by omega) with e | e | e | e | e | e <;> subst e
  · rw [show nI 0 = 0 by decide, show lW (ltL 0) = 5 by decide]; simp only [x_L_letter_0, x_L_letter_1, x_L_letter_4, x_L_letter_7, x_L_letter_10, x_L_letter_11, x_L_letter_12, x_L_letter_15, x_L_letter_18, x_L_letter_21, x_L_letter_22, x_L_letter_23, x_L_letter_26, x_L_letter_29, x_L_letter_32, x_L_letter_33, x_L_letter_34, x_L_letter_37, x_L_letter_40, x_L_letter_43, x_L_letter_44, x_L_letter_45, x_L_letter_48, x_L_letter_51, x_L_letter_54, x_L_letter_57, d20, d30, d40, d50, d21, d31, d41, d51, d32, d42, d52, d43, d53, d54, bI_0, bI_t, bI_f, e10, isA30, isA31, isA33, isA40, isA42, isA43, rOkB0, rOkB1, rOkB, Ret_v, Ret_n, cmp_eq, cmp_lt, cmp_gt, nI_1, eq_self, if_true, if_false, reduceIte]
  · rw [show nI 1 = 1 by decide, show lW (ltL 1) = 18 by decide]; simp only [x_L_letter_0, x_L_letter_1, x_L_letter_4, x_L_letter_7, x_L_letter_10, x_L_letter_11, x_L_letter_12, x_L_letter_15, x_L_letter_18, x_L_letter_21, x_L_letter_22, x_L_letter_23, x_L_letter_26, x_L_letter_29, x_L_letter_32, x_L_letter_33, x_L_letter_34, x_L_letter_37, x_L_letter_40, x_L_letter_43, x_L_letter_44, x_L_letter_45, x_L_letter_48, x_L_letter_51, x_L_letter_54, x_L_letter_57, d20, d30, d40, d50, d21, d31, d41, d51, d32, d42, d52, d43, d53, d54, bI_0, bI_t, bI_f, e10, isA30, isA31, isA33, isA40, isA42, isA43, rOkB0, rOkB1, rOkB, Ret_v, Ret_n, cmp_eq, cmp_lt, cmp_gt, nI_1, eq_self, if_true, if_false, reduceIte]
  · rw [show nI 2 = 2 by decide, show lW (ltL 2) = 20 by decide]; simp only [x_L_letter_0, x_L_letter_1, x_L_letter_4, x_L_letter_7, x_L_letter_10, x_L_letter_11, x_L_letter_12, x_L_letter_15, x_L_letter_18, x_L_letter_21, x_L_letter_22, x_L_letter_23, x_L_letter_26, x_L_letter_29, x_L_letter_32, x_L_letter_33, x_L_letter_34, x_L_letter_37, x_L_letter_40, x_L_letter_43, x_L_letter_44, x_L_letter_45, x_L_letter_48, x_L_letter_51, x_L_letter_54, x_L_letter_57, d20, d30, d40, d50, d21, d31, d41, d51, d32, d42, d52, d43, d53, d54, bI_0, bI_t, bI_f, e10, isA30, isA31, isA33, isA40, isA42, isA43, rOkB0, rOkB1, rOkB, Ret_v, Ret_n, cmp_eq, cmp_lt, cmp_gt, nI_1, eq_self, if_true, if_false, reduceIte]
  · rw [show nI 3 = 3 by decide, show lW (ltL 3) = 4 by decide]; simp only [x_L_letter_0, x_L_letter_1, x_L_letter_4, x_L_letter_7, x_L_letter_10, x_L_letter_11, x_L_letter_12, x_L_letter_15, x_L_letter_18, x_L_letter_21, x_L_letter_22, x_L_letter_23, x_L_letter_26, x_L_letter_29, x_L_letter_32, x_L_letter_33, x_L_letter_34, x_L_letter_37, x_L_letter_40, x_L_letter_43, x_L_letter_44, x_L_letter_45, x_L_letter_48, x_L_letter_51, x_L_letter_54, x_L_letter_57, d20, d30, d40, d50, d21, d31, d41, d51, d32, d42, d52, d43, d53, d54, bI_0, bI_t, bI_f, e10, isA30, isA31, isA33, isA40, isA42, isA43, rOkB0, rOkB1, rOkB, Ret_v, Ret_n, cmp_eq, cmp_lt, cmp_gt, nI_1, eq_self, if_true, if_false, reduceIte]
  · rw [show nI 4 = 4 by decide, show lW (ltL 4) = 21 by decide]; simp only [x_L_letter_0, x_L_letter_1, x_L_letter_4, x_L_letter_7, x_L_letter_10, x_L_letter_11, x_L_letter_12, x_L_letter_15, x_L_letter_18, x_L_letter_21, x_L_letter_22, x_L_letter_23, x_L_letter_26, x_L_letter_29, x_L_letter_32, x_L_letter_33, x_L_letter_34, x_L_letter_37, x_L_letter_40, x_L_letter_43, x_L_letter_44, x_L_letter_45, x_L_letter_48, x_L_letter_51, x_L_letter_54, x_L_letter_57, d20, d30, d40, d50, d21, d31, d41, d51, d32, d42, d52, d43, d53, d54, bI_0, bI_t, bI_f, e10, isA30, isA31, isA33, isA40, isA42, isA43, rOkB0, rOkB1, rOkB, Ret_v, Ret_n, cmp_eq, cmp_lt, cmp_gt, nI_1, eq_self, if_true, if_false, reduceIte]
  · rw [show nI 5 = 5 by decide, show lW (ltL 5) = 10 by decide]; simp only [x_L_letter_0, x_L_letter_1, x_L_letter_4, x_L_letter_7, x_L_letter_10, x_L_letter_11, x_L_letter_12, x_L_letter_15, x_L_letter_18, x_L_letter_21, x_L_letter_22, x_L_letter_23, x_L_letter_26, x_L_letter_29, x_L_letter_32, x_L_letter_33, x_L_letter_34, x_L_letter_37, x_L_letter_40, x_L_letter_43, x_L_letter_44, x_L_letter_45, x_L_letter_48, x_L_letter_51, x_L_letter_54, x_L_letter_57, d20, d30, d40, d50, d21, d31, d41, d51, d32, d42, d52, d43, d53, d54, bI_0, bI_t, bI_f, e10, isA30, isA31, isA33, isA40, isA42, isA43, rOkB0, rOkB1, rOkB, Ret_v, Ret_n, cmp_eq, cmp_lt, cmp_gt, nI_1, eq_self, if_true, if_false, reduceIte]
theorem l_L_word {N : Nat} (hN : N ≤ 5) : ∀ (k i W l : Nat), i + k = N → l < 2 ^ 31 → Wp 2 21 [.int v, .long (lW W), nov, .int (nI l), .int (nI N), .int (nI i)] [] I J R S Q = Q 0 (some (.long (lW (gwF k W l)))) I J R S := by
  intro k
  induction k with
  | zero =>
    intro i W l hi hl
    have hlt : ¬ nI i < nI N := nI_nlt (by omega) (by omega)
    rw [x_L_word_21]
    simp only [x_L_word_0, x_L_word_1, x_L_word_2, x_L_word_3, x_L_word_5, x_L_word_6, x_L_word_7, x_L_word_8, x_L_word_9, x_L_word_10, x_L_word_11, x_L_word_12, x_L_word_14, x_L_word_15, x_L_word_16, x_L_word_17, x_L_word_18, x_L_word_19, x_L_word_23, x_L_word_25, x_L_word_28, x_L_word_31, x_L_word_32, x_L_word_33, x_L_word_34, x_L_word_36, x_L_word_37, x_L_word_40, x_L_word_41, x_L_word_42, x_L_word_43, x_L_word_45, x_L_word_46, x_L_word_47, x_L_word_50, x_L_word_53, x_L_word_54, hlt, bI_0, bI_t, bI_f, e10, isA30, isA31, isA33, isA40, isA42, isA43, rOkB0, rOkB1, rOkB, Ret_v, Ret_n, cmp_eq, cmp_lt, cmp_gt, nI_1, eq_self, if_true, if_false, reduceIte, gwF]
  | succ k ih =>
    intro i W l hi hl
    have hlt : nI i < nI N := nI_lt (by omega) (by omega)
    have h6 : ¬ (6 : Int32) = 0 := by decide
    have q6 : nI l / 6 = nI (l / 6) := pk_div (d := 6) hl (by omega) (by omega)
    have r6 : nI l - nI (l / 6) * 6 = nI (l % 6) := by rw [← q6]; exact pk_rem (d := 6) hl (by omega) (by omega)
    have g := fun Q' => c_L_letter (Q := Q') (I := I) (J := J) (R := R) (S := S) (k := l % 6) (Nat.mod_lt _ (by omega))
    have m32 : (32 : Int64) * lW W = lW (32 * W) := lW_mul 32 W
    have l' : l / 6 < 2 ^ 31 := by omega
    rw [x_L_word_21]
    simp only [x_L_word_0, x_L_word_1, x_L_word_2, x_L_word_3, x_L_word_5, x_L_word_6, x_L_word_7, x_L_word_8, x_L_word_9, x_L_word_10, x_L_word_11, x_L_word_12, x_L_word_14, x_L_word_15, x_L_word_16, x_L_word_17, x_L_word_18, x_L_word_19, x_L_word_23, x_L_word_25, x_L_word_28, x_L_word_31, x_L_word_32, x_L_word_33, x_L_word_34, x_L_word_36, x_L_word_37, x_L_word_40, x_L_word_41, x_L_word_42, x_L_word_43, x_L_word_45, x_L_word_46, x_L_word_47, x_L_word_50, x_L_word_53, x_L_word_54, hlt, h6, not_false_eq_true, r6, q6, g, m32, lW_add, nI_1', ih (i + 1) _ (l / 6) (by omega) l', bI_0, bI_t, bI_f, e10, isA30, isA31, isA33, isA40, isA42, isA43, rOkB0, rOkB1, rOkB, Ret_v, Ret_n, cmp_eq, cmp_lt, cmp_gt, nI_1, eq_self, if_true, if_false, reduceIte, gwF]
theorem c_L_word : Wp 2 0 [.int v, nov, nov, nov, nov, nov] [] I J R S Q = Q 0 (some (.long (Wd v))) I J R S := by
  have h5 : ¬ (5 : Int32) = 0 := by decide
  have hl := lo_lt v
  have q5 : nI (lo v) / 5 = nI (lo v / 5) := pk_div (d := 5) hl (by omega) (by omega)
  have r5 : nI (lo v) - nI (lo v / 5) * 5 = nI (lo v % 5) := by rw [← q5]; exact pk_rem (d := 5) hl (by omega) (by omega)
  have hm : lo v % 5 < 5 := Nat.mod_lt _ (by omega)
  have g := l_L_word (v := v) (I := I) (J := J) (R := R) (S := S) (Q := Q) (N := lo v % 5 + 1) (by omega) (lo v % 5 + 1) 0 0 (lo v / 5) (by omega) (by omega)
  rw [nI_0, lW_0] at g
  simp only [x_L_word_0, x_L_word_1, x_L_word_2, x_L_word_3, x_L_word_5, x_L_word_6, x_L_word_7, x_L_word_8, x_L_word_9, x_L_word_10, x_L_word_11, x_L_word_12, x_L_word_14, x_L_word_15, x_L_word_16, x_L_word_17, x_L_word_18, x_L_word_19, h5, not_false_eq_true, lo_and, r5, q5, nI_1'', g, bI_0, bI_t, bI_f, e10, isA30, isA31, isA33, isA40, isA42, isA43, rOkB0, rOkB1, rOkB, Ret_v, Ret_n, cmp_eq, cmp_lt, cmp_gt, nI_1, eq_self, if_true, if_false, reduceIte]
  rfl
end QA
