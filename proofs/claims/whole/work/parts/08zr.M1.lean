/-! the model: words -/
def inL (v lo hi : Int64) : Bool := !decide (v < lo) && !decide (hi < v)
theorem shr5 {n : Nat} (h : n < 2 ^ 63) : lW n >>> ((5 : Int32).toInt64 &&& 63) = lW (n / 32) := by
  rw [show (5 : Int32) = nI 5 by decide]
  exact lW_shr (k := 5) h (by omega)
theorem lW_pos {n : Nat} (h : n < 2 ^ 63) : (0 < lW n) ↔ 0 < n := by rw [← lW_0, lW_lt (by omega) h]
section MA
variable {I : MI} {J : MJ} {R : MR} {S : Sh} {Q : SkQ} {n : Nat} {w : Int64} {v lo hi : Int64}
theorem c_M_in : Wp 176 0 [.long v, nov, .long lo, nov, .long hi, nov] [] I J R S Q = Q 0 (some (.int (bI (inL v lo hi)))) I J R S := by
  unfold inL
  by_cases q1 : v < lo
  · simp only [x_M_in_0, x_M_in_1, x_M_in_2, x_M_in_3, x_M_in_6, x_M_in_7, x_M_in_9, x_M_in_10, x_M_in_13, x_M_in_14, x_M_in_17, x_M_in_18, q1, decide_true, Bool.not_true, Bool.false_and, bI_0, bI_t, bI_f, e10, isA30, isA31, isA33, isA40, isA42, isA43, rOkB0, rOkB1, rOkB, Ret_v, Ret_n, cmp_eq, cmp_lt, cmp_gt, nI_1, eq_self, if_true, if_false, reduceIte]
  · by_cases q2 : hi < v
    · simp only [x_M_in_0, x_M_in_1, x_M_in_2, x_M_in_3, x_M_in_6, x_M_in_7, x_M_in_9, x_M_in_10, x_M_in_13, x_M_in_14, x_M_in_17, x_M_in_18, q1, q2, decide_true, decide_false, Bool.not_true, Bool.not_false, Bool.and_false, bI_0, bI_t, bI_f, e10, isA30, isA31, isA33, isA40, isA42, isA43, rOkB0, rOkB1, rOkB, Ret_v, Ret_n, cmp_eq, cmp_lt, cmp_gt, nI_1, eq_self, if_true, if_false, reduceIte]
    · simp only [x_M_in_0, x_M_in_1, x_M_in_2, x_M_in_3, x_M_in_6, x_M_in_7, x_M_in_9, x_M_in_10, x_M_in_13, x_M_in_14, x_M_in_17, x_M_in_18, q1, q2, decide_false, Bool.not_false, Bool.and_true, bI_0, bI_t, bI_f, e10, isA30, isA31, isA33, isA40, isA42, isA43, rOkB0, rOkB1, rOkB, Ret_v, Ret_n, cmp_eq, cmp_lt, cmp_gt, nI_1, eq_self, if_true, if_false, reduceIte]
theorem inL_lW {n a b : Nat} (hn : n < 2 ^ 63) (ha : a < 2 ^ 63) (hb : b < 2 ^ 63) : inL (lW n) (lW a) (lW b) = decide (a ≤ n ∧ n ≤ b) := by
  unfold inL
  rw [show decide (lW n < lW a) = decide (n < a) by simp only [lW_lt hn ha], show decide (lW b < lW n) = decide (b < n) by simp only [lW_lt hb hn]]
  by_cases q1 : n < a
  · rw [decide_eq_true q1, decide_eq_false (p := a ≤ n ∧ n ≤ b) (by omega)]; rfl
  · by_cases q2 : b < n
    · rw [decide_eq_false q1, decide_eq_true q2, decide_eq_false (p := a ≤ n ∧ n ≤ b) (by omega)]; rfl
    · rw [decide_eq_false q1, decide_eq_false q2, decide_eq_true (p := a ≤ n ∧ n ≤ b) (by omega)]; rfl
theorem l_M_isWord {w0 : Int64} : ∀ (k n : Nat) (b : Bool), n < 2 ^ (5 * k) → k ≤ 8 → Wp 178 30 [.long w0, nov, .int (bI b), .long (lW n), nov] [] I J R S Q = Q 0 (some (.int (bI (b && wOk k n)))) I J R S := by
  intro k
  induction k with
  | zero =>
    intro n b hn hk
    have : n = 0 := by omega
    subst this
    have e : ¬ (0 : Int64) < lW 0 := by decide
    rw [x_M_isWord_30]
    simp only [x_M_isWord_0, x_M_isWord_1, x_M_isWord_2, x_M_isWord_3, x_M_isWord_6, x_M_isWord_7, x_M_isWord_10, x_M_isWord_11, x_M_isWord_14, x_M_isWord_15, x_M_isWord_18, x_M_isWord_19, x_M_isWord_20, x_M_isWord_21, x_M_isWord_24, x_M_isWord_25, x_M_isWord_28, x_M_isWord_29, x_M_isWord_31, x_M_isWord_32, x_M_isWord_33, x_M_isWord_36, x_M_isWord_37, x_M_isWord_40, x_M_isWord_41, x_M_isWord_44, x_M_isWord_45, x_M_isWord_46, x_M_isWord_49, x_M_isWord_52, x_M_isWord_55, x_M_isWord_56, x_M_isWord_59, x_M_isWord_60, x_M_isWord_61, x_M_isWord_62, x_M_isWord_63, x_M_isWord_64, x_M_isWord_65, x_M_isWord_68, x_M_isWord_69, e, wOk, Bool.and_true, bI_0, bI_t, bI_f, e10, isA30, isA31, isA33, isA40, isA42, isA43, rOkB0, rOkB1, rOkB, Ret_v, Ret_n, cmp_eq, cmp_lt, cmp_gt, nI_1, eq_self, if_true, if_false, reduceIte]
  | succ k ih =>
    intro n b hn hk
    have hn2 : n < 2 ^ 40 := Nat.lt_of_lt_of_le hn (Nat.pow_le_pow_right (by omega) (by omega))
    have hp := lW_pos (n := n) (by omega)
    rw [x_M_isWord_30]
    by_cases q : n = 0
    · subst q
      have e : ¬ (0 : Int64) < lW 0 := by decide
      simp only [x_M_isWord_0, x_M_isWord_1, x_M_isWord_2, x_M_isWord_3, x_M_isWord_6, x_M_isWord_7, x_M_isWord_10, x_M_isWord_11, x_M_isWord_14, x_M_isWord_15, x_M_isWord_18, x_M_isWord_19, x_M_isWord_20, x_M_isWord_21, x_M_isWord_24, x_M_isWord_25, x_M_isWord_28, x_M_isWord_29, x_M_isWord_31, x_M_isWord_32, x_M_isWord_33, x_M_isWord_36, x_M_isWord_37, x_M_isWord_40, x_M_isWord_41, x_M_isWord_44, x_M_isWord_45, x_M_isWord_46, x_M_isWord_49, x_M_isWord_52, x_M_isWord_55, x_M_isWord_56, x_M_isWord_59, x_M_isWord_60, x_M_isWord_61, x_M_isWord_62, x_M_isWord_63, x_M_isWord_64, x_M_isWord_65, x_M_isWord_68, x_M_isWord_69, e, wOk, Bool.and_true, bI_0, bI_t, bI_f, e10, isA30, isA31, isA33, isA40, isA42, isA43, rOkB0, rOkB1, rOkB, Ret_v, Ret_n, cmp_eq, cmp_lt, cmp_gt, nI_1, eq_self, if_true, if_false, reduceIte]
    · have e : 0 < lW n := hp.mpr (by omega)
      have hd : n / 32 < 2 ^ (5 * k) := by
        rw [show 5 * (k + 1) = 5 * k + 5 by omega, Nat.pow_add] at hn
        omega
      have sh := shr5 (n := n) (by omega)
      have i1 := ih (n / 32) true hd (by omega)
      have i0 := ih (n / 32) false hd (by omega)
      rw [bI_t, Bool.true_and] at i1
      rw [bI_f, Bool.false_and, bI_f] at i0
      rw [wOk, if_neg q]
      cases b
      · simp only [x_M_isWord_0, x_M_isWord_1, x_M_isWord_2, x_M_isWord_3, x_M_isWord_6, x_M_isWord_7, x_M_isWord_10, x_M_isWord_11, x_M_isWord_14, x_M_isWord_15, x_M_isWord_18, x_M_isWord_19, x_M_isWord_20, x_M_isWord_21, x_M_isWord_24, x_M_isWord_25, x_M_isWord_28, x_M_isWord_29, x_M_isWord_31, x_M_isWord_32, x_M_isWord_33, x_M_isWord_36, x_M_isWord_37, x_M_isWord_40, x_M_isWord_41, x_M_isWord_44, x_M_isWord_45, x_M_isWord_46, x_M_isWord_49, x_M_isWord_52, x_M_isWord_55, x_M_isWord_56, x_M_isWord_59, x_M_isWord_60, x_M_isWord_61, x_M_isWord_62, x_M_isWord_63, x_M_isWord_64, x_M_isWord_65, x_M_isWord_68, x_M_isWord_69, e, sh, i0, Bool.false_and, bI_0, bI_t, bI_f, e10, isA30, isA31, isA33, isA40, isA42, isA43, rOkB0, rOkB1, rOkB, Ret_v, Ret_n, cmp_eq, cmp_lt, cmp_gt, nI_1, eq_self, if_true, if_false, reduceIte]
      · have a := lW_and (n := n) (by omega)
        have m := fun Q' => c_M_in (Q := Q') (I := I) (J := J) (R := R) (S := S) (v := lW (n % 32)) (lo := lW 1) (hi := lW 26)
        rw [inL_lW (by omega) (by omega) (by omega), lW_1, lW_26] at m
        by_cases q2 : 1 ≤ n % 32 ∧ n % 32 ≤ 26
        · simp only [decide_eq_true q2] at m ⊢
          simp only [x_M_isWord_0, x_M_isWord_1, x_M_isWord_2, x_M_isWord_3, x_M_isWord_6, x_M_isWord_7, x_M_isWord_10, x_M_isWord_11, x_M_isWord_14, x_M_isWord_15, x_M_isWord_18, x_M_isWord_19, x_M_isWord_20, x_M_isWord_21, x_M_isWord_24, x_M_isWord_25, x_M_isWord_28, x_M_isWord_29, x_M_isWord_31, x_M_isWord_32, x_M_isWord_33, x_M_isWord_36, x_M_isWord_37, x_M_isWord_40, x_M_isWord_41, x_M_isWord_44, x_M_isWord_45, x_M_isWord_46, x_M_isWord_49, x_M_isWord_52, x_M_isWord_55, x_M_isWord_56, x_M_isWord_59, x_M_isWord_60, x_M_isWord_61, x_M_isWord_62, x_M_isWord_63, x_M_isWord_64, x_M_isWord_65, x_M_isWord_68, x_M_isWord_69, e, sh, a, m, i1, Bool.true_and, Bool.true_eq_false, bI_0, bI_t, bI_f, e10, isA30, isA31, isA33, isA40, isA42, isA43, rOkB0, rOkB1, rOkB, Ret_v, Ret_n, cmp_eq, cmp_lt, cmp_gt, nI_1, eq_self, if_true, if_false, reduceIte]
        · simp only [decide_eq_false q2] at m ⊢
          simp only [x_M_isWord_0, x_M_isWord_1, x_M_isWord_2, x_M_isWord_3, x_M_isWord_6, x_M_isWord_7, x_M_isWord_10, x_M_isWord_11, x_M_isWord_14, x_M_isWord_15, x_M_isWord_18, x_M_isWord_19, x_M_isWord_20, x_M_isWord_21, x_M_isWord_24, x_M_isWord_25, x_M_isWord_28, x_M_isWord_29, x_M_isWord_31, x_M_isWord_32, x_M_isWord_33, x_M_isWord_36, x_M_isWord_37, x_M_isWord_40, x_M_isWord_41, x_M_isWord_44, x_M_isWord_45, x_M_isWord_46, x_M_isWord_49, x_M_isWord_52, x_M_isWord_55, x_M_isWord_56, x_M_isWord_59, x_M_isWord_60, x_M_isWord_61, x_M_isWord_62, x_M_isWord_63, x_M_isWord_64, x_M_isWord_65, x_M_isWord_68, x_M_isWord_69, e, sh, a, m, i0, Bool.true_and, Bool.false_and, Bool.true_eq_false, bI_0, bI_t, bI_f, e10, isA30, isA31, isA33, isA40, isA42, isA43, rOkB0, rOkB1, rOkB, Ret_v, Ret_n, cmp_eq, cmp_lt, cmp_gt, nI_1, eq_self, if_true, if_false, reduceIte]
theorem c_M_isWord : Wp 178 0 [.long w, nov, nov, nov, nov] [] I J R S Q = Q 0 (some (.int (bI (isW w)))) I J R S := by
  by_cases q : 0 < w
  · have q0 : 0 < w.toInt := by rwa [Int64.lt_iff_toInt_lt, Int64.toInt_zero] at q
    obtain ⟨e, hn⟩ := lW_of (w := w) (by omega)
    generalize hm : w.toInt.toNat = n at e hn
    have n0 : 0 < n := by omega
    have b40 : (1099511627776 : Int64) = lW 1099511627776 := by decide
    subst e
    by_cases q2 : n < 1099511627776
    · have e2 : lW n < 1099511627776 := by rw [b40, lW_lt hn (by omega)]; exact q2
      have l := l_M_isWord (I := I) (J := J) (R := R) (S := S) (Q := Q) (w0 := lW n) 8 n true (by omega) (by omega)
      rw [bI_t, Bool.true_and] at l
      rw [isW_lW hn, decide_eq_true n0, decide_eq_true (show n < 2 ^ 40 by omega), Bool.true_and, Bool.true_and]
      simp only [x_M_isWord_0, x_M_isWord_1, x_M_isWord_2, x_M_isWord_3, x_M_isWord_6, x_M_isWord_7, x_M_isWord_10, x_M_isWord_11, x_M_isWord_14, x_M_isWord_15, x_M_isWord_18, x_M_isWord_19, x_M_isWord_20, x_M_isWord_21, x_M_isWord_24, x_M_isWord_25, x_M_isWord_28, x_M_isWord_29, x_M_isWord_31, x_M_isWord_32, x_M_isWord_33, x_M_isWord_36, x_M_isWord_37, x_M_isWord_40, x_M_isWord_41, x_M_isWord_44, x_M_isWord_45, x_M_isWord_46, x_M_isWord_49, x_M_isWord_52, x_M_isWord_55, x_M_isWord_56, x_M_isWord_59, x_M_isWord_60, x_M_isWord_61, x_M_isWord_62, x_M_isWord_63, x_M_isWord_64, x_M_isWord_65, x_M_isWord_68, x_M_isWord_69, q, e2, l, bI_0, bI_t, bI_f, e10, isA30, isA31, isA33, isA40, isA42, isA43, rOkB0, rOkB1, rOkB, Ret_v, Ret_n, cmp_eq, cmp_lt, cmp_gt, nI_1, eq_self, if_true, if_false, reduceIte]
    · have e2 : ¬ lW n < 1099511627776 := by rw [b40, lW_lt hn (by omega)]; exact q2
      have l := l_M_isWord (I := I) (J := J) (R := R) (S := S) (Q := Q) (w0 := lW n) 8 0 false (by omega) (by omega)
      rw [bI_f, Bool.false_and, bI_f, lW_0] at l
      rw [isW_lW hn, decide_eq_false (show ¬ n < 2 ^ 40 by omega), Bool.and_false, Bool.false_and]
      simp only [x_M_isWord_0, x_M_isWord_1, x_M_isWord_2, x_M_isWord_3, x_M_isWord_6, x_M_isWord_7, x_M_isWord_10, x_M_isWord_11, x_M_isWord_14, x_M_isWord_15, x_M_isWord_18, x_M_isWord_19, x_M_isWord_20, x_M_isWord_21, x_M_isWord_24, x_M_isWord_25, x_M_isWord_28, x_M_isWord_29, x_M_isWord_31, x_M_isWord_32, x_M_isWord_33, x_M_isWord_36, x_M_isWord_37, x_M_isWord_40, x_M_isWord_41, x_M_isWord_44, x_M_isWord_45, x_M_isWord_46, x_M_isWord_49, x_M_isWord_52, x_M_isWord_55, x_M_isWord_56, x_M_isWord_59, x_M_isWord_60, x_M_isWord_61, x_M_isWord_62, x_M_isWord_63, x_M_isWord_64, x_M_isWord_65, x_M_isWord_68, x_M_isWord_69, q, e2, l, bI_0, bI_t, bI_f, e10, isA30, isA31, isA33, isA40, isA42, isA43, rOkB0, rOkB1, rOkB, Ret_v, Ret_n, cmp_eq, cmp_lt, cmp_gt, nI_1, eq_self, if_true, if_false, reduceIte]
  · have l := l_M_isWord (I := I) (J := J) (R := R) (S := S) (Q := Q) (w0 := w) 8 0 false (by omega) (by omega)
    rw [bI_f, Bool.false_and, bI_f, lW_0] at l
    have q0 : ¬ 0 < w.toInt := by rwa [Int64.lt_iff_toInt_lt, Int64.toInt_zero] at q
    have e : isW w = false := by unfold isW; rw [decide_eq_false q0]; rfl
    rw [e]
    simp only [x_M_isWord_0, x_M_isWord_1, x_M_isWord_2, x_M_isWord_3, x_M_isWord_6, x_M_isWord_7, x_M_isWord_10, x_M_isWord_11, x_M_isWord_14, x_M_isWord_15, x_M_isWord_18, x_M_isWord_19, x_M_isWord_20, x_M_isWord_21, x_M_isWord_24, x_M_isWord_25, x_M_isWord_28, x_M_isWord_29, x_M_isWord_31, x_M_isWord_32, x_M_isWord_33, x_M_isWord_36, x_M_isWord_37, x_M_isWord_40, x_M_isWord_41, x_M_isWord_44, x_M_isWord_45, x_M_isWord_46, x_M_isWord_49, x_M_isWord_52, x_M_isWord_55, x_M_isWord_56, x_M_isWord_59, x_M_isWord_60, x_M_isWord_61, x_M_isWord_62, x_M_isWord_63, x_M_isWord_64, x_M_isWord_65, x_M_isWord_68, x_M_isWord_69, q, l, bI_0, bI_t, bI_f, e10, isA30, isA31, isA33, isA40, isA42, isA43, rOkB0, rOkB1, rOkB, Ret_v, Ret_n, cmp_eq, cmp_lt, cmp_gt, nI_1, eq_self, if_true, if_false, reduceIte]
theorem l_M_letters {w0 : Int64} : ∀ (k n c : Nat), n < 2 ^ (5 * k) → k ≤ 8 → Wp 179 4 [.long w0, nov, .int (nI c), .long (lW n), nov] [] I J R S Q = Q 0 (some (.int (nI (c + wlF k n)))) I J R S := by
  intro k
  induction k with
  | zero =>
    intro n c hn hk
    have : n = 0 := by omega
    subst this
    have e : ¬ (0 : Int64) < lW 0 := by decide
    rw [x_M_letters_4]
    simp only [x_M_letters_0, x_M_letters_1, x_M_letters_2, x_M_letters_3, x_M_letters_5, x_M_letters_6, x_M_letters_7, x_M_letters_10, x_M_letters_11, x_M_letters_12, x_M_letters_13, x_M_letters_14, x_M_letters_17, x_M_letters_20, x_M_letters_21, e, wlF, Nat.add_zero, bI_0, bI_t, bI_f, e10, isA30, isA31, isA33, isA40, isA42, isA43, rOkB0, rOkB1, rOkB, Ret_v, Ret_n, cmp_eq, cmp_lt, cmp_gt, nI_1, eq_self, if_true, if_false, reduceIte]
  | succ k ih =>
    intro n c hn hk
    have hn2 : n < 2 ^ 40 := Nat.lt_of_lt_of_le hn (Nat.pow_le_pow_right (by omega) (by omega))
    rw [x_M_letters_4]
    by_cases q : n = 0
    · subst q
      have e : ¬ (0 : Int64) < lW 0 := by decide
      simp only [x_M_letters_0, x_M_letters_1, x_M_letters_2, x_M_letters_3, x_M_letters_5, x_M_letters_6, x_M_letters_7, x_M_letters_10, x_M_letters_11, x_M_letters_12, x_M_letters_13, x_M_letters_14, x_M_letters_17, x_M_letters_20, x_M_letters_21, e, wlF_0, Nat.add_zero, bI_0, bI_t, bI_f, e10, isA30, isA31, isA33, isA40, isA42, isA43, rOkB0, rOkB1, rOkB, Ret_v, Ret_n, cmp_eq, cmp_lt, cmp_gt, nI_1, eq_self, if_true, if_false, reduceIte]
    · have e : 0 < lW n := (lW_pos (by omega)).mpr (by omega)
      have hd : n / 32 < 2 ^ (5 * k) := by
        rw [show 5 * (k + 1) = 5 * k + 5 by omega, Nat.pow_add] at hn
        omega
      have sh := shr5 (n := n) (by omega)
      have i1 := ih (n / 32) (c + 1) hd (by omega)
      rw [wlF, if_neg q]
      simp only [x_M_letters_0, x_M_letters_1, x_M_letters_2, x_M_letters_3, x_M_letters_5, x_M_letters_6, x_M_letters_7, x_M_letters_10, x_M_letters_11, x_M_letters_12, x_M_letters_13, x_M_letters_14, x_M_letters_17, x_M_letters_20, x_M_letters_21, e, sh, nI_1', i1, bI_0, bI_t, bI_f, e10, isA30, isA31, isA33, isA40, isA42, isA43, rOkB0, rOkB1, rOkB, Ret_v, Ret_n, cmp_eq, cmp_lt, cmp_gt, nI_1, eq_self, if_true, if_false, reduceIte]
      rw [show c + 1 + wlF k (n / 32) = c + (wlF k (n / 32) + 1) by omega]
theorem c_M_letters (hn : n < 2 ^ 40) : Wp 179 0 [.long (lW n), nov, nov, nov, nov] [] I J R S Q = Q 0 (some (.int (nI (wlF 8 n)))) I J R S := by
  have l := l_M_letters (I := I) (J := J) (R := R) (S := S) (Q := Q) (w0 := lW n) 8 n 0 (by omega) (by omega)
  rw [Nat.zero_add, nI_0] at l
  simp only [x_M_letters_0, x_M_letters_1, x_M_letters_2, x_M_letters_3, x_M_letters_5, x_M_letters_6, x_M_letters_7, x_M_letters_10, x_M_letters_11, x_M_letters_12, x_M_letters_13, x_M_letters_14, x_M_letters_17, x_M_letters_20, x_M_letters_21, l, bI_0, bI_t, bI_f, e10, isA30, isA31, isA33, isA40, isA42, isA43, rOkB0, rOkB1, rOkB, Ret_v, Ret_n, cmp_eq, cmp_lt, cmp_gt, nI_1, eq_self, if_true, if_false, reduceIte]
theorem wlF_up : ∀ k n, n < 2 ^ (5 * k) → wlF (k + 1) n = wlF k n
  | 0, n, h => by
    have : n = 0 := by omega
    subst this
    simp [wlF]
  | k + 1, n, h => by
    rw [show wlF (k + 1 + 1) n = if n = 0 then 0 else wlF (k + 1) (n / 32) + 1 from rfl, show wlF (k + 1) n = if n = 0 then 0 else wlF k (n / 32) + 1 from rfl]
    by_cases q : n = 0
    · rw [if_pos q, if_pos q]
    · rw [if_neg q, if_neg q, wlF_up k (n / 32) (by
        rw [show 5 * (k + 1) = 5 * k + 5 by omega, Nat.pow_add] at h
        omega)]
theorem wlF_8 : ∀ k n, 2 ^ (5 * k) ≤ n → wlF (k + 1) n = k + 1
  | 0, n, h => by rw [wlF, if_neg (by omega), wlF]
  | k + 1, n, h => by
    rw [show 5 * (k + 1) = 5 * k + 5 by omega, Nat.pow_add] at h
    rw [wlF, if_neg (by have := Nat.pow_pos (n := 5 * k) (show 0 < 2 by omega); omega), wlF_8 k (n / 32) (by omega)]
theorem alF_wl : ∀ k n, 0 < n → n < 2 ^ 40 → 8 - wlF 8 n ≤ k → alF k n = n * 2 ^ (5 * (8 - wlF 8 n))
  | 0, n, h0, h, hk => by
    rw [show 8 - wlF 8 n = 0 by omega]
    simp [alF]
  | k + 1, n, h0, h, hk => by
    rw [alF]
    by_cases q : n / 2 ^ 35 = 0
    · have h35 : n < 2 ^ 35 := by omega
      rw [if_pos q]
      have e : wlF 8 (n * 32) = wlF 8 n + 1 := by
        rw [wlF, if_neg (by omega), show n * 32 / 32 = n by omega, wlF_up 7 n h35]
      have l := wlF_le 7 n
      have l2 := wlF_up 7 n h35
      have l3 : wlF (7 + 1) n = wlF 8 n := rfl
      rw [alF_wl k (n * 32) (by omega) (by omega) (by omega), e, show 5 * (8 - wlF 8 n) = 5 + 5 * (8 - (wlF 8 n + 1)) by omega, Nat.pow_add, Nat.mul_assoc]
    · rw [if_neg q, wlF_8 7 n (by omega)]
      simp
theorem c_M_order (h : isW w = true) : Wp 180 0 [.long w, nov] [] I J R S Q = Q 0 (some (.long (lW (alg w)))) I J R S := by
  obtain ⟨n, e, n0, n4, n8⟩ := isW_of h
  have wl := wlF_le 8 n
  have wp := wl_pos n0
  have al : alg w = n * 2 ^ (5 * (8 - wlF 8 n)) := by rw [e, alg_lW (by omega), alF_wl 7 n n0 n4 (by omega)]
  have e2 : (8 : Int32) - nI (wlF 8 n) = nI (8 - wlF 8 n) := by rw [show (8 : Int32) = nI 8 by decide]; exact nI_sub wl
  have e3 : (5 : Int32) * nI (8 - wlF 8 n) = nI (5 * (8 - wlF 8 n)) := by rw [show (5 : Int32) = nI 5 by decide, nI_mul]
  have lt := alg_lt h
  rw [al] at lt
  have e4 := lW_shl (n := n) (k := 5 * (8 - wlF 8 n)) (by omega) (by omega) (by omega)
  rw [al, e]
  simp only [x_M_order_0, x_M_order_1, x_M_order_2, x_M_order_4, x_M_order_5, x_M_order_8, x_M_order_9, x_M_order_10, x_M_order_11, c_M_letters n4, e2, e3, e4, bI_0, bI_t, bI_f, e10, isA30, isA31, isA33, isA40, isA42, isA43, rOkB0, rOkB1, rOkB, Ret_v, Ret_n, cmp_eq, cmp_lt, cmp_gt, nI_1, eq_self, if_true, if_false, reduceIte]
end MA
