section CE
variable {I : MI} {J : MJ} {R : MR} {S : Sh} {Q : SkQ} {sc n p : Nat} {x : Nat → Int32} {f : Int32}
theorem rdV_lt {x : Nat → Int32} {n : Nat} : ∀ k i p m, m < 2 ^ (5 * i) → rdV x n k p m < 2 ^ (5 * (i + k))
  | 0, i, p, m, h => by simp only [rdV]; exact h
  | k + 1, i, p, m, h => by
    simp only [rdV]
    have h2 : 2 ^ (5 * (i + 1)) = 2 ^ (5 * i) * 32 := by rw [show 5 * (i + 1) = 5 * i + 5 by omega, Nat.pow_add]
    by_cases q : isLt x n p = true
    · rw [if_pos q, show i + (k + 1) = (i + 1) + k by omega]
      have := (isLt_f q).2.2.2
      exact rdV_lt k (i + 1) (p + 1) _ (by omega)
    · rw [if_neg q]
      exact Nat.lt_of_lt_of_le h (Nat.pow_le_pow_right (by omega) (by omega))
/-- behind the letters -/
theorem l_C_wordEnd (hS : ScS R S sc) (hp : p ≤ 2000) (hD : ScD I sc x n) (h2 : I sc 2 = nI p) (h3 : I sc 3 = f) {m : Nat} (hm : m < 2 ^ 63) {l3 : Int32} : Wp 158 53 [.ref sc, .long (lW m), nov, .int l3] [] I J R S Q = Q 0 (some (.long (lW m))) (scPF I sc p (wdF x n f p m)) J R S := by
  have il := fun Q' => c_C_isLetterNext (Q := Q') (J := J) hS hD (show p < 2 ^ 31 by omega) h2
  have fh := fun Q' => c_C_failHere (Q := Q') (J := J) hS h2 h3
  rw [PF_of3 h2] at fh
  have hz := lW_inj hm (show 0 < 2 ^ 63 by omega)
  rw [lW_0] at hz
  unfold wdF
  by_cases q : m = 0
  · subst q
    rw [if_pos (Or.inl (by omega))]
    simp only [x_C_readWord_0, x_C_readWord_1, x_C_readWord_4, x_C_readWord_5, x_C_readWord_6, x_C_readWord_7, x_C_readWord_9, x_C_readWord_11, x_C_readWord_14, x_C_readWord_15, x_C_readWord_18, x_C_readWord_21, x_C_readWord_22, x_C_readWord_23, x_C_readWord_24, x_C_readWord_27, x_C_readWord_30, x_C_readWord_32, x_C_readWord_33, x_C_readWord_36, x_C_readWord_37, x_C_readWord_38, x_C_readWord_39, x_C_readWord_42, x_C_readWord_43, x_C_readWord_44, x_C_readWord_47, x_C_readWord_50, x_C_readWord_53, x_C_readWord_54, x_C_readWord_55, x_C_readWord_56, x_C_readWord_59, x_C_readWord_60, x_C_readWord_63, x_C_readWord_66, x_C_readWord_67, x_C_readWord_70, x_C_readWord_71, hS.1, lW_0, fh, bI_0, bI_t, bI_f, e10, isA30, isA31, isA33, isA40, isA42, isA43, rOkB0, rOkB1, rOkB, Ret_v, Ret_n, cmp_eq, cmp_lt, cmp_gt, nI_1, eq_self, if_true, if_false, reduceIte]
  · cases e : isLt x n p with
    | true =>
      rw [e] at il
      rw [if_pos (Or.inr (by simp))]
      simp only [x_C_readWord_0, x_C_readWord_1, x_C_readWord_4, x_C_readWord_5, x_C_readWord_6, x_C_readWord_7, x_C_readWord_9, x_C_readWord_11, x_C_readWord_14, x_C_readWord_15, x_C_readWord_18, x_C_readWord_21, x_C_readWord_22, x_C_readWord_23, x_C_readWord_24, x_C_readWord_27, x_C_readWord_30, x_C_readWord_32, x_C_readWord_33, x_C_readWord_36, x_C_readWord_37, x_C_readWord_38, x_C_readWord_39, x_C_readWord_42, x_C_readWord_43, x_C_readWord_44, x_C_readWord_47, x_C_readWord_50, x_C_readWord_53, x_C_readWord_54, x_C_readWord_55, x_C_readWord_56, x_C_readWord_59, x_C_readWord_60, x_C_readWord_63, x_C_readWord_66, x_C_readWord_67, x_C_readWord_70, x_C_readWord_71, hS.1, hz, q, il, fh, bI_0, bI_t, bI_f, e10, isA30, isA31, isA33, isA40, isA42, isA43, rOkB0, rOkB1, rOkB, Ret_v, Ret_n, cmp_eq, cmp_lt, cmp_gt, nI_1, eq_self, if_true, if_false, reduceIte]
    | false =>
      rw [e] at il
      rw [if_neg (by simp [q]), PF_self h2 h3]
      simp only [x_C_readWord_0, x_C_readWord_1, x_C_readWord_4, x_C_readWord_5, x_C_readWord_6, x_C_readWord_7, x_C_readWord_9, x_C_readWord_11, x_C_readWord_14, x_C_readWord_15, x_C_readWord_18, x_C_readWord_21, x_C_readWord_22, x_C_readWord_23, x_C_readWord_24, x_C_readWord_27, x_C_readWord_30, x_C_readWord_32, x_C_readWord_33, x_C_readWord_36, x_C_readWord_37, x_C_readWord_38, x_C_readWord_39, x_C_readWord_42, x_C_readWord_43, x_C_readWord_44, x_C_readWord_47, x_C_readWord_50, x_C_readWord_53, x_C_readWord_54, x_C_readWord_55, x_C_readWord_56, x_C_readWord_59, x_C_readWord_60, x_C_readWord_63, x_C_readWord_66, x_C_readWord_67, x_C_readWord_70, x_C_readWord_71, hS.1, hz, q, il, bI_0, bI_t, bI_f, e10, isA30, isA31, isA33, isA40, isA42, isA43, rOkB0, rOkB1, rOkB, Ret_v, Ret_n, cmp_eq, cmp_lt, cmp_gt, nI_1, eq_self, if_true, if_false, reduceIte]
theorem l_C_readWord (hS : ScS R S sc) : ∀ (k i p m : Nat) (I : MI), i + k = 8 → p ≤ 1000 + i → m < 2 ^ (5 * i) → ScD I sc x n → I sc 2 = nI p → I sc 3 = f → Wp 158 8 [.ref sc, .long (lW m), nov, .int (nI i)] [] I J R S Q = Q 0 (some (.long (lW (rdV x n k p m)))) (scPF I sc (rdP x n k p) (wdF x n f (rdP x n k p) (rdV x n k p m))) J R S := by
  intro k
  induction k with
  | zero =>
    intro i p m I hi hp hm hD h2 h3
    have e : ¬ nI i < 8 := by rw [show (8 : Int32) = nI 8 by decide]; exact nI_nlt (by omega) (by omega)
    have : i = 8 := by omega
    subst this
    rw [x_C_readWord_8]
    simp only [x_C_readWord_9, x_C_readWord_11, e, rdV, rdP, l_C_wordEnd hS (show p ≤ 2000 by omega) hD h2 h3 (show m < 2 ^ 63 by omega), bI_0, bI_t, bI_f, e10, isA30, isA31, isA33, isA40, isA42, isA43, rOkB0, rOkB1, rOkB, Ret_v, Ret_n, cmp_eq, cmp_lt, cmp_gt, nI_1, eq_self, if_true, if_false, reduceIte]
  | succ k ih =>
    intro i p m I hi hp hm hD h2 h3
    have e : nI i < 8 := by rw [show (8 : Int32) = nI 8 by decide]; exact nI_lt (by omega) (by omega)
    have il := fun Q' => c_C_isLetterNext (Q := Q') (J := J) hS hD (show p < 2 ^ 31 by omega) h2
    have b := fun Q' => c_C_byteAt (Q := Q') (J := J) hS hD (show p < 2 ^ 31 by omega)
    have hi7 : 2 ^ (5 * i) ≤ 2 ^ 35 := Nat.pow_le_pow_right (by omega) (by omega)
    simp only [rdV, rdP]
    rw [x_C_readWord_8]
    cases q : isLt x n p with
    | true =>
      rw [q] at il
      obtain ⟨q1, q2, q3, q4⟩ := isLt_f q
      have e97 : nI (ltN x n p + 96) - 97 = nI (ltN x n p) - 1 := by
        rw [show (97 : Int32) = nI 97 by decide, show (1 : Int32) = nI 1 by decide, nI_sub (by omega), nI_sub (by omega)]
        rw [show ltN x n p + 96 - 97 = ltN x n p - 1 by omega]
      have wl := fun Q' => c_W_withLetter (Q := Q') (I := I) (J := J) (R := R) (S := S) (n := m) (c := ltN x n p) (by omega) ⟨q3, q4⟩
      have h2e : 2 ^ (5 * (i + 1)) = 2 ^ (5 * i) * 32 := by rw [show 5 * (i + 1) = 5 * i + 5 by omega, Nat.pow_add]
      have l := ih (i + 1) (p + 1) (m * 32 + ltN x n p) (scPF I sc (p + 1) f) (by omega) (by omega) (by omega) (ScD_PF hD) PF_2 PF_3
      rw [PF_PF] at l
      rw [if_pos (by simp), if_pos (by simp)]
      simp only [x_C_readWord_0, x_C_readWord_1, x_C_readWord_4, x_C_readWord_5, x_C_readWord_6, x_C_readWord_7, x_C_readWord_9, x_C_readWord_11, x_C_readWord_14, x_C_readWord_15, x_C_readWord_18, x_C_readWord_21, x_C_readWord_22, x_C_readWord_23, x_C_readWord_24, x_C_readWord_27, x_C_readWord_30, x_C_readWord_32, x_C_readWord_33, x_C_readWord_36, x_C_readWord_37, x_C_readWord_38, x_C_readWord_39, x_C_readWord_42, x_C_readWord_43, x_C_readWord_44, x_C_readWord_47, x_C_readWord_50, x_C_readWord_54, x_C_readWord_55, x_C_readWord_56, x_C_readWord_59, x_C_readWord_60, x_C_readWord_63, x_C_readWord_66, x_C_readWord_67, x_C_readWord_70, x_C_readWord_71, hS.1, h2, e, il, b, q2, e97, wl, nI_1', PF_of2 h3, l, bI_0, bI_t, bI_f, e10, isA30, isA31, isA33, isA40, isA42, isA43, rOkB0, rOkB1, rOkB, Ret_v, Ret_n, cmp_eq, cmp_lt, cmp_gt, nI_1, eq_self, if_true, if_false, reduceIte]
    | false =>
      rw [q] at il
      rw [if_neg (by simp), if_neg (by simp)]
      simp only [x_C_readWord_0, x_C_readWord_1, x_C_readWord_4, x_C_readWord_5, x_C_readWord_6, x_C_readWord_7, x_C_readWord_9, x_C_readWord_11, x_C_readWord_14, x_C_readWord_15, x_C_readWord_18, x_C_readWord_21, x_C_readWord_22, x_C_readWord_23, x_C_readWord_24, x_C_readWord_27, x_C_readWord_30, x_C_readWord_32, x_C_readWord_33, x_C_readWord_36, x_C_readWord_37, x_C_readWord_38, x_C_readWord_39, x_C_readWord_42, x_C_readWord_43, x_C_readWord_44, x_C_readWord_47, x_C_readWord_50, x_C_readWord_54, x_C_readWord_55, x_C_readWord_56, x_C_readWord_59, x_C_readWord_60, x_C_readWord_63, x_C_readWord_66, x_C_readWord_67, x_C_readWord_70, x_C_readWord_71, hS.1, e, il, l_C_wordEnd hS (show p ≤ 2000 by omega) hD h2 h3 (show m < 2 ^ 63 by omega), bI_0, bI_t, bI_f, e10, isA30, isA31, isA33, isA40, isA42, isA43, rOkB0, rOkB1, rOkB, Ret_v, Ret_n, cmp_eq, cmp_lt, cmp_gt, nI_1, eq_self, if_true, if_false, reduceIte]
/-- a word read: the letters' end, the word, the fault -/
def wP (x : Nat → Int32) (n p : Nat) : Nat := rdP x n 8 (skp x n 150 p)
def wV (x : Nat → Int32) (n p : Nat) : Nat := rdV x n 8 (skp x n 150 p) 0
def wF (x : Nat → Int32) (n : Nat) (f : Int32) (p : Nat) : Int32 := wdF x n (gapF x n f p) (wP x n p) (wV x n p)
theorem c_C_readWord (hS : ScS R S sc) (hp : p ≤ 155) (hD : ScD I sc x n) (h2 : I sc 2 = nI p) (h3 : I sc 3 = f) : Wp 158 0 [.ref sc, nov, nov, nov] [] I J R S Q = Q 0 (some (.long (lW (wV x n p)))) (scPF I sc (wP x n p) (wF x n f p)) J R S := by
  have g := fun Q' => c_C_readGap (Q := Q') (J := J) hS hp hD h2 h3
  have hl := skp_le (x := x) (n := n) 150 p
  have dn := hD.2.1
  have l := l_C_readWord (Q := Q) (J := J) (f := gapF x n f p) hS 8 0 (skp x n 150 p) 0 (scPF I sc (skp x n 150 p) (gapF x n f p)) (by omega) (by omega) (by omega) (ScD_PF hD) PF_2 PF_3
  rw [PF_PF, nI_0, lW_0] at l
  simp only [x_C_readWord_0, x_C_readWord_1, x_C_readWord_4, x_C_readWord_5, x_C_readWord_6, x_C_readWord_7, hS.1, g, bI_0, bI_t, bI_f, e10, isA30, isA31, isA33, isA40, isA42, isA43, rOkB0, rOkB1, rOkB, Ret_v, Ret_n, cmp_eq, cmp_lt, cmp_gt, nI_1, eq_self, if_true, if_false, reduceIte]
  exact l
theorem l_C_numEnd (hS : ScS R S sc) {p1 : Nat} (hp : p ≤ 2000) (hp1 : p1 ≤ 2000) (hD : ScD I sc x n) (h2 : I sc 2 = nI p) (h3 : I sc 3 = f) {v : Int32} {l3 : Int32} : Wp 159 58 [.ref sc, .int (nI p1), .int v, .int l3] [] I J R S Q = Q 0 (some (.int v)) (scPF I sc p (nuF x n f p1 p)) J R S := by
  have il := fun Q' => c_C_isDigitNext (Q := Q') (J := J) hS hD (show p < 2 ^ 31 by omega) h2
  have fh := fun Q' => c_C_failHere (Q := Q') (J := J) hS h2 h3
  rw [PF_of3 h2] at fh
  have hz := nI_inj (a := p) (b := p1) (by omega) (by omega)
  unfold nuF
  by_cases q : p = p1
  · subst q
    rw [if_pos (Or.inl (by omega))]
    simp only [x_C_readNumber_0, x_C_readNumber_1, x_C_readNumber_4, x_C_readNumber_5, x_C_readNumber_8, x_C_readNumber_9, x_C_readNumber_10, x_C_readNumber_11, x_C_readNumber_12, x_C_readNumber_14, x_C_readNumber_15, x_C_readNumber_18, x_C_readNumber_19, x_C_readNumber_22, x_C_readNumber_25, x_C_readNumber_27, x_C_readNumber_28, x_C_readNumber_29, x_C_readNumber_30, x_C_readNumber_31, x_C_readNumber_34, x_C_readNumber_37, x_C_readNumber_38, x_C_readNumber_40, x_C_readNumber_41, x_C_readNumber_42, x_C_readNumber_43, x_C_readNumber_44, x_C_readNumber_47, x_C_readNumber_48, x_C_readNumber_49, x_C_readNumber_52, x_C_readNumber_55, x_C_readNumber_58, x_C_readNumber_59, x_C_readNumber_62, x_C_readNumber_63, x_C_readNumber_66, x_C_readNumber_67, x_C_readNumber_70, x_C_readNumber_73, x_C_readNumber_74, x_C_readNumber_77, x_C_readNumber_78, hS.1, h2, fh, bI_0, bI_t, bI_f, e10, isA30, isA31, isA33, isA40, isA42, isA43, rOkB0, rOkB1, rOkB, Ret_v, Ret_n, cmp_eq, cmp_lt, cmp_gt, nI_1, eq_self, if_true, if_false, reduceIte]
  · cases e : isDg x n p with
    | true =>
      rw [e] at il
      rw [if_pos (Or.inr (by simp))]
      simp only [x_C_readNumber_0, x_C_readNumber_1, x_C_readNumber_4, x_C_readNumber_5, x_C_readNumber_8, x_C_readNumber_9, x_C_readNumber_10, x_C_readNumber_11, x_C_readNumber_12, x_C_readNumber_14, x_C_readNumber_15, x_C_readNumber_18, x_C_readNumber_19, x_C_readNumber_22, x_C_readNumber_25, x_C_readNumber_27, x_C_readNumber_28, x_C_readNumber_29, x_C_readNumber_30, x_C_readNumber_31, x_C_readNumber_34, x_C_readNumber_37, x_C_readNumber_38, x_C_readNumber_40, x_C_readNumber_41, x_C_readNumber_42, x_C_readNumber_43, x_C_readNumber_44, x_C_readNumber_47, x_C_readNumber_48, x_C_readNumber_49, x_C_readNumber_52, x_C_readNumber_55, x_C_readNumber_58, x_C_readNumber_59, x_C_readNumber_62, x_C_readNumber_63, x_C_readNumber_66, x_C_readNumber_67, x_C_readNumber_70, x_C_readNumber_73, x_C_readNumber_74, x_C_readNumber_77, x_C_readNumber_78, hS.1, h2, hz, q, il, fh, bI_0, bI_t, bI_f, e10, isA30, isA31, isA33, isA40, isA42, isA43, rOkB0, rOkB1, rOkB, Ret_v, Ret_n, cmp_eq, cmp_lt, cmp_gt, nI_1, eq_self, if_true, if_false, reduceIte]
    | false =>
      rw [e] at il
      rw [if_neg (by simp [q]), PF_self h2 h3]
      simp only [x_C_readNumber_0, x_C_readNumber_1, x_C_readNumber_4, x_C_readNumber_5, x_C_readNumber_8, x_C_readNumber_9, x_C_readNumber_10, x_C_readNumber_11, x_C_readNumber_12, x_C_readNumber_14, x_C_readNumber_15, x_C_readNumber_18, x_C_readNumber_19, x_C_readNumber_22, x_C_readNumber_25, x_C_readNumber_27, x_C_readNumber_28, x_C_readNumber_29, x_C_readNumber_30, x_C_readNumber_31, x_C_readNumber_34, x_C_readNumber_37, x_C_readNumber_38, x_C_readNumber_40, x_C_readNumber_41, x_C_readNumber_42, x_C_readNumber_43, x_C_readNumber_44, x_C_readNumber_47, x_C_readNumber_48, x_C_readNumber_49, x_C_readNumber_52, x_C_readNumber_55, x_C_readNumber_58, x_C_readNumber_59, x_C_readNumber_62, x_C_readNumber_63, x_C_readNumber_66, x_C_readNumber_67, x_C_readNumber_70, x_C_readNumber_73, x_C_readNumber_74, x_C_readNumber_77, x_C_readNumber_78, hS.1, h2, hz, q, il, bI_0, bI_t, bI_f, e10, isA30, isA31, isA33, isA40, isA42, isA43, rOkB0, rOkB1, rOkB, Ret_v, Ret_n, cmp_eq, cmp_lt, cmp_gt, nI_1, eq_self, if_true, if_false, reduceIte]
theorem l_C_readNumber (hS : ScS R S sc) {p1 : Nat} (hp1 : p1 ≤ 2000) : ∀ (k i p : Nat) (v : Int32) (I : MI), i + k = 3 → p ≤ 1000 + i → ScD I sc x n → I sc 2 = nI p → I sc 3 = f → Wp 159 13 [.ref sc, .int (nI p1), .int v, .int (nI i)] [] I J R S Q = Q 0 (some (.int (nuV x n k p v))) (scPF I sc (nuP x n k p) (nuF x n f p1 (nuP x n k p))) J R S := by
  intro k
  induction k with
  | zero =>
    intro i p v I hi hp hD h2 h3
    have e : ¬ nI i < 3 := by rw [show (3 : Int32) = nI 3 by decide]; exact nI_nlt (by omega) (by omega)
    rw [x_C_readNumber_13]
    simp only [x_C_readNumber_14, x_C_readNumber_15, e, nuV, nuP, l_C_numEnd hS (show p ≤ 2000 by omega) hp1 hD h2 h3, bI_0, bI_t, bI_f, e10, isA30, isA31, isA33, isA40, isA42, isA43, rOkB0, rOkB1, rOkB, Ret_v, Ret_n, cmp_eq, cmp_lt, cmp_gt, nI_1, eq_self, if_true, if_false, reduceIte]
  | succ k ih =>
    intro i p v I hi hp hD h2 h3
    have e : nI i < 3 := by rw [show (3 : Int32) = nI 3 by decide]; exact nI_lt (by omega) (by omega)
    have il := fun Q' => c_C_isDigitNext (Q := Q') (J := J) hS hD (show p < 2 ^ 31 by omega) h2
    have b := fun Q' => c_C_byteAt (Q := Q') (J := J) hS hD (show p < 2 ^ 31 by omega)
    simp only [nuV, nuP]
    rw [x_C_readNumber_13]
    cases q : isDg x n p with
    | true =>
      rw [q] at il
      have l := ih (i + 1) (p + 1) (10 * v + byA x n p - 48) (scPF I sc (p + 1) f) (by omega) (by omega) (ScD_PF hD) PF_2 PF_3
      rw [PF_PF] at l
      rw [if_pos (by simp), if_pos (by simp)]
      simp only [x_C_readNumber_0, x_C_readNumber_1, x_C_readNumber_4, x_C_readNumber_5, x_C_readNumber_8, x_C_readNumber_9, x_C_readNumber_10, x_C_readNumber_11, x_C_readNumber_12, x_C_readNumber_14, x_C_readNumber_15, x_C_readNumber_18, x_C_readNumber_19, x_C_readNumber_22, x_C_readNumber_25, x_C_readNumber_27, x_C_readNumber_28, x_C_readNumber_29, x_C_readNumber_30, x_C_readNumber_31, x_C_readNumber_34, x_C_readNumber_37, x_C_readNumber_38, x_C_readNumber_40, x_C_readNumber_41, x_C_readNumber_42, x_C_readNumber_43, x_C_readNumber_44, x_C_readNumber_47, x_C_readNumber_48, x_C_readNumber_49, x_C_readNumber_52, x_C_readNumber_55, x_C_readNumber_59, x_C_readNumber_62, x_C_readNumber_63, x_C_readNumber_66, x_C_readNumber_67, x_C_readNumber_70, x_C_readNumber_73, x_C_readNumber_74, x_C_readNumber_77, x_C_readNumber_78, hS.1, h2, e, il, b, nI_1', PF_of2 h3, l, bI_0, bI_t, bI_f, e10, isA30, isA31, isA33, isA40, isA42, isA43, rOkB0, rOkB1, rOkB, Ret_v, Ret_n, cmp_eq, cmp_lt, cmp_gt, nI_1, eq_self, if_true, if_false, reduceIte]
    | false =>
      rw [q] at il
      rw [if_neg (by simp), if_neg (by simp)]
      simp only [x_C_readNumber_0, x_C_readNumber_1, x_C_readNumber_4, x_C_readNumber_5, x_C_readNumber_8, x_C_readNumber_9, x_C_readNumber_10, x_C_readNumber_11, x_C_readNumber_12, x_C_readNumber_14, x_C_readNumber_15, x_C_readNumber_18, x_C_readNumber_19, x_C_readNumber_22, x_C_readNumber_25, x_C_readNumber_27, x_C_readNumber_28, x_C_readNumber_29, x_C_readNumber_30, x_C_readNumber_31, x_C_readNumber_34, x_C_readNumber_37, x_C_readNumber_38, x_C_readNumber_40, x_C_readNumber_41, x_C_readNumber_42, x_C_readNumber_43, x_C_readNumber_44, x_C_readNumber_47, x_C_readNumber_48, x_C_readNumber_49, x_C_readNumber_52, x_C_readNumber_55, x_C_readNumber_59, x_C_readNumber_62, x_C_readNumber_63, x_C_readNumber_66, x_C_readNumber_67, x_C_readNumber_70, x_C_readNumber_73, x_C_readNumber_74, x_C_readNumber_77, x_C_readNumber_78, hS.1, e, il, l_C_numEnd hS (show p ≤ 2000 by omega) hp1 hD h2 h3, bI_0, bI_t, bI_f, e10, isA30, isA31, isA33, isA40, isA42, isA43, rOkB0, rOkB1, rOkB, Ret_v, Ret_n, cmp_eq, cmp_lt, cmp_gt, nI_1, eq_self, if_true, if_false, reduceIte]
def nP (x : Nat → Int32) (n p : Nat) : Nat := nuP x n 3 (skp x n 150 p)
def nV (x : Nat → Int32) (n p : Nat) : Int32 := nuV x n 3 (skp x n 150 p) 0
def nF (x : Nat → Int32) (n : Nat) (f : Int32) (p : Nat) : Int32 := nuF x n (gapF x n f p) (skp x n 150 p) (nP x n p)
theorem c_C_readNumber (hS : ScS R S sc) (hp : p ≤ 155) (hD : ScD I sc x n) (h2 : I sc 2 = nI p) (h3 : I sc 3 = f) : Wp 159 0 [.ref sc, nov, nov, nov] [] I J R S Q = Q 0 (some (.int (nV x n p))) (scPF I sc (nP x n p) (nF x n f p)) J R S := by
  have g := fun Q' => c_C_readGap (Q := Q') (J := J) hS hp hD h2 h3
  have hl := skp_le (x := x) (n := n) 150 p
  have dn := hD.2.1
  have l := l_C_readNumber (Q := Q) (J := J) (f := gapF x n f p) hS (show skp x n 150 p ≤ 2000 by omega) 3 0 (skp x n 150 p) 0 (scPF I sc (skp x n 150 p) (gapF x n f p)) (by omega) (by omega) (ScD_PF hD) PF_2 PF_3
  rw [PF_PF, nI_0] at l
  have e2 : scPF I sc (skp x n 150 p) (gapF x n f p) sc 2 = nI (skp x n 150 p) := PF_2
  simp only [x_C_readNumber_0, x_C_readNumber_1, x_C_readNumber_4, x_C_readNumber_5, x_C_readNumber_8, x_C_readNumber_9, x_C_readNumber_10, x_C_readNumber_11, x_C_readNumber_12, hS.1, g, e2, bI_0, bI_t, bI_f, e10, isA30, isA31, isA33, isA40, isA42, isA43, rOkB0, rOkB1, rOkB, Ret_v, Ret_n, cmp_eq, cmp_lt, cmp_gt, nI_1, eq_self, if_true, if_false, reduceIte]
  exact l
end CE
