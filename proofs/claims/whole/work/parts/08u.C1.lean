/-! the script: its bytes at sc + 1 -/
theorem u2_self {α : Type} {f : Nat → Nat → α} {a k : Nat} {v : α} (h : f a k = v) : u2 f a k v = f := by
  funext b j
  by_cases q : b = a ∧ j = k
  · rw [q.1, q.2, u2_eq, h]
  · rw [u2_of q]
theorem u2_u2 {α : Type} {f : Nat → Nat → α} {a k : Nat} {v w : α} : u2 (u2 f a k v) a k w = u2 f a k w := by
  funext b j
  by_cases q : b = a ∧ j = k
  · rw [q.1, q.2, u2_eq, u2_eq]
  · rw [u2_of q, u2_of q, u2_of q]
theorem u2_k {α : Type} {f : Nat → Nat → α} {a b k l : Nat} {v : α} (h : ¬ l = k) : u2 f a k v b l = f b l := u2_of (fun q => h q.2)
def ScS (R : MR) (S : Sh) (sc : Nat) : Prop := S.1 sc = 5 ∧ S.1 (sc + 1) = 30 ∧ S.2.1 (sc + 1) = 150 ∧ R sc 0 = .ref (sc + 1)
def ScD (I : MI) (sc : Nat) (x : Nat → Int32) (n : Nat) : Prop := I sc 1 = nI n ∧ n ≤ 150 ∧ ∀ i, i < n → I (sc + 1) i = x i
/-- the byte at a place, -1 behind the end -/
def byA (x : Nat → Int32) (n i : Nat) : Int32 := if i < n then x i else -1
/-- the place behind the spaces -/
def skp (x : Nat → Int32) (n : Nat) : Nat → Nat → Nat
  | 0, p => p
  | k + 1, p => if byA x n p = 32 then skp x n k (p + 1) else p
def isLt (x : Nat → Int32) (n p : Nat) : Bool := !decide (byA x n p < 97) && !decide (122 < byA x n p)
def isDg (x : Nat → Int32) (n p : Nat) : Bool := !decide (byA x n p < 48) && !decide (57 < byA x n p)
/-- the first fault stays -/
def flt (f : Int32) (p : Nat) : Int32 := if f = -1 then nI p else f
theorem skp_le {x : Nat → Int32} {n : Nat} : ∀ k p, p ≤ skp x n k p ∧ (skp x n k p ≤ p ∨ skp x n k p ≤ n)
  | 0, p => by simp [skp]
  | k + 1, p => by
    simp only [skp]
    by_cases q : byA x n p = 32
    · rw [if_pos q]
      have := skp_le (x := x) (n := n) k (p + 1)
      have hp : p < n := by
        unfold byA at q
        by_cases h : p < n
        · exact h
        · rw [if_neg h] at q; exact absurd q (by decide)
      omega
    · rw [if_neg q]; omega
section CC
variable {I : MI} {J : MJ} {R : MR} {S : Sh} {Q : SkQ} {sc n p : Nat} {x : Nat → Int32} {f : Int32}
theorem ScD_2 (hD : ScD I sc x n) {k : Nat} {v : Int32} (hk : ¬ k = 1) : ScD (u2 I sc k v) sc x n := by
  obtain ⟨d1, dn, dx⟩ := hD
  exact ⟨by rw [u2_k (by omega)]; exact d1, dn, fun i hi => by rw [u2_p (by omega)]; exact dx i hi⟩
theorem c_C_length (hS : ScS R S sc) : Wp 149 0 [.ref sc] [] I J R S Q = Q 0 (some (.int (I sc 1))) I J R S := by
  simp only [x_C_length_0, x_C_length_1, x_C_length_4, hS.1]
theorem c_C_isFull (hS : ScS R S sc) (hD : ScD I sc x n) : Wp 150 0 [.ref sc] [] I J R S Q = Q 0 (some (.int (bI (decide (150 ≤ n))))) I J R S := by
  have dn := hD.2.1
  by_cases q : n < 150
  · have e : nI n < 150 := by rw [show (150 : Int32) = nI 150 by decide]; exact nI_lt q (by omega)
    simp only [x_C_isFull_0, x_C_isFull_1, x_C_isFull_4, x_C_isFull_7, x_C_isFull_10, x_C_isFull_11, x_C_isFull_14, x_C_isFull_15, hS.1, hD.1, e, decide_eq_false (show ¬ 150 ≤ n by omega), bI_0, bI_t, bI_f, e10, isA30, isA31, isA33, isA40, isA42, isA43, rOkB0, rOkB1, rOkB, Ret_v, Ret_n, cmp_eq, cmp_lt, cmp_gt, nI_1, eq_self, if_true, if_false, reduceIte]
  · have e : ¬ nI n < 150 := by rw [show (150 : Int32) = nI 150 by decide]; exact nI_nlt (by omega) (by omega)
    simp only [x_C_isFull_0, x_C_isFull_1, x_C_isFull_4, x_C_isFull_7, x_C_isFull_10, x_C_isFull_11, x_C_isFull_14, x_C_isFull_15, hS.1, hD.1, e, decide_eq_true (show 150 ≤ n by omega), bI_0, bI_t, bI_f, e10, isA30, isA31, isA33, isA40, isA42, isA43, rOkB0, rOkB1, rOkB, Ret_v, Ret_n, cmp_eq, cmp_lt, cmp_gt, nI_1, eq_self, if_true, if_false, reduceIte]
theorem c_C_append (hS : ScS R S sc) (hD : ScD I sc x n) (hn : n < 150) {v : Int32} (hQ : ∀ I', fr sc (sc + 1) I J I' J → ScD I' sc (fun i => if i = n then v else x i) (n + 1) → Q 0 (some (.int (nI (n + 1)))) I' J R S) : Wp 151 0 [.ref sc, .int v] [] I J R S Q := by
  obtain ⟨s0, s1, n1, r0⟩ := hS
  obtain ⟨d1, dn, dx⟩ := hD
  have e1 : ¬ nI n < 0 := nI_pos (by omega)
  have e2 : nI n < 150 := by rw [show (150 : Int32) = nI 150 by decide]; exact nI_lt hn (by omega)
  have e3 := inb_nI hn (by omega)
  have e4 : ix (nI n) = n := ix_nI (by omega)
  have e5 : ∀ v : Int32, u2 I (sc + 1) n v sc 1 = nI n := fun v => by rw [u2_p (by omega)]; exact d1
  have e6 : ∀ v w : Int32, u2 (u2 I (sc + 1) n v) sc 1 w sc 1 = w := fun v w => u2_eq
  simp only [x_C_append_0, x_C_append_1, x_C_append_4, x_C_append_7, x_C_append_8, x_C_append_11, x_C_append_14, x_C_append_17, x_C_append_18, x_C_append_21, x_C_append_22, x_C_append_25, x_C_append_26, x_C_append_27, x_C_append_28, x_C_append_29, x_C_append_32, x_C_append_33, x_C_append_34, x_C_append_37, x_C_append_38, x_C_append_41, s0, s1, n1, r0, d1, e1, e2, e3, e4, e5, e6, nI_1', bI_0, bI_t, bI_f, e10, isA30, isA31, isA33, isA40, isA42, isA43, rOkB0, rOkB1, rOkB, Ret_v, Ret_n, cmp_eq, cmp_lt, cmp_gt, nI_1, eq_self, if_true, if_false, reduceIte]
  refine hQ _ (fr_I (fr_I fr_rfl (by omega)) (by omega)) ⟨u2_eq, by omega, fun i hi => ?_⟩
  rw [u2_p (by omega)]
  dsimp only
  by_cases q : i = n
  · rw [if_pos q, q, u2_eq]
  · rw [if_neg q, u2_of (by omega)]; exact dx i (by omega)
theorem c_C_makeEmpty (hS : ScS R S sc) (hD : ScD I sc x n) (hQ : ∀ I', fr sc (sc + 1) I J I' J → ScD I' sc x 0 → Q 0 (some (.int (nI n))) I' J R S) : Wp 152 0 [.ref sc, nov] [] I J R S Q := by
  simp only [x_C_makeEmpty_0, x_C_makeEmpty_1, x_C_makeEmpty_4, x_C_makeEmpty_5, x_C_makeEmpty_6, x_C_makeEmpty_7, x_C_makeEmpty_10, x_C_makeEmpty_11, hS.1, hD.1, bI_0, bI_t, bI_f, e10, isA30, isA31, isA33, isA40, isA42, isA43, rOkB0, rOkB1, rOkB, Ret_v, Ret_n, cmp_eq, cmp_lt, cmp_gt, nI_1, eq_self, if_true, if_false, reduceIte]
  exact hQ _ (fr_I fr_rfl (by omega)) ⟨by rw [u2_eq, nI_0], by omega, fun i hi => absurd hi (by omega)⟩
theorem c_C_rewind (hS : ScS R S sc) : Wp 153 0 [.ref sc] [] I J R S Q = Q 0 none (u2 (u2 I sc 2 0) sc 3 (-1)) J R S := by
  simp only [x_C_rewind_0, x_C_rewind_1, x_C_rewind_2, x_C_rewind_5, x_C_rewind_6, x_C_rewind_7, x_C_rewind_10, hS.1, bI_0, bI_t, bI_f, e10, isA30, isA31, isA33, isA40, isA42, isA43, rOkB0, rOkB1, rOkB, Ret_v, Ret_n, cmp_eq, cmp_lt, cmp_gt, nI_1, eq_self, if_true, if_false, reduceIte]
theorem c_C_byteAt (hS : ScS R S sc) (hD : ScD I sc x n) (hp : p < 2 ^ 31) : Wp 166 0 [.ref sc, .int (nI p)] [] I J R S Q = Q 0 (some (.int (byA x n p))) I J R S := by
  obtain ⟨s0, s1, n1, r0⟩ := hS
  obtain ⟨d1, dn, dx⟩ := hD
  have e1 : ¬ nI p < 0 := nI_pos (by omega)
  unfold byA
  by_cases q : p < n
  · have e2 : nI p < nI n := nI_lt q (by omega)
    have e3 : nI p < 150 := by rw [show (150 : Int32) = nI 150 by decide]; exact nI_lt (by omega) (by omega)
    have e4 : inb (nI p) 150 = true := inb_nI (by omega) (by omega)
    have e5 : ix (nI p) = p := ix_nI (by omega)
    simp only [x_C_byteAt_0, x_C_byteAt_1, x_C_byteAt_4, x_C_byteAt_5, x_C_byteAt_6, x_C_byteAt_9, x_C_byteAt_12, x_C_byteAt_13, x_C_byteAt_16, x_C_byteAt_19, x_C_byteAt_20, x_C_byteAt_23, x_C_byteAt_24, x_C_byteAt_25, x_C_byteAt_28, x_C_byteAt_29, s0, s1, n1, r0, d1, e1, e2, e3, e4, e5, dx p q, q, bI_0, bI_t, bI_f, e10, isA30, isA31, isA33, isA40, isA42, isA43, rOkB0, rOkB1, rOkB, Ret_v, Ret_n, cmp_eq, cmp_lt, cmp_gt, nI_1, eq_self, if_true, if_false, reduceIte]
  · have e2 : ¬ nI p < nI n := nI_nlt (by omega) (by omega)
    simp only [x_C_byteAt_0, x_C_byteAt_1, x_C_byteAt_4, x_C_byteAt_5, x_C_byteAt_6, x_C_byteAt_9, x_C_byteAt_12, x_C_byteAt_13, x_C_byteAt_16, x_C_byteAt_19, x_C_byteAt_20, x_C_byteAt_23, x_C_byteAt_24, x_C_byteAt_25, x_C_byteAt_28, x_C_byteAt_29, s0, s1, n1, r0, d1, e1, e2, q, bI_0, bI_t, bI_f, e10, isA30, isA31, isA33, isA40, isA42, isA43, rOkB0, rOkB1, rOkB, Ret_v, Ret_n, cmp_eq, cmp_lt, cmp_gt, nI_1, eq_self, if_true, if_false, reduceIte]
theorem c_C_isLetterNext (hS : ScS R S sc) (hD : ScD I sc x n) (hp : p < 2 ^ 31) (h2 : I sc 2 = nI p) : Wp 164 0 [.ref sc] [] I J R S Q = Q 0 (some (.int (bI (isLt x n p)))) I J R S := by
  have b := fun Q' => c_C_byteAt (Q := Q') (J := J) hS hD hp
  unfold isLt
  by_cases q1 : byA x n p < 97
  · simp only [x_C_isLetterNext_0, x_C_isLetterNext_1, x_C_isLetterNext_2, x_C_isLetterNext_5, x_C_isLetterNext_8, x_C_isLetterNext_10, x_C_isLetterNext_13, x_C_isLetterNext_14, x_C_isLetterNext_15, x_C_isLetterNext_18, x_C_isLetterNext_21, x_C_isLetterNext_23, x_C_isLetterNext_26, x_C_isLetterNext_27, x_C_isLetterNext_30, x_C_isLetterNext_31, hS.1, h2, b, q1, decide_true, Bool.not_true, Bool.false_and, bI_0, bI_t, bI_f, e10, isA30, isA31, isA33, isA40, isA42, isA43, rOkB0, rOkB1, rOkB, Ret_v, Ret_n, cmp_eq, cmp_lt, cmp_gt, nI_1, eq_self, if_true, if_false, reduceIte]
  · by_cases q2 : 122 < byA x n p
    · simp only [x_C_isLetterNext_0, x_C_isLetterNext_1, x_C_isLetterNext_2, x_C_isLetterNext_5, x_C_isLetterNext_8, x_C_isLetterNext_10, x_C_isLetterNext_13, x_C_isLetterNext_14, x_C_isLetterNext_15, x_C_isLetterNext_18, x_C_isLetterNext_21, x_C_isLetterNext_23, x_C_isLetterNext_26, x_C_isLetterNext_27, x_C_isLetterNext_30, x_C_isLetterNext_31, hS.1, h2, b, q1, q2, decide_true, decide_false, Bool.not_true, Bool.not_false, Bool.and_false, bI_0, bI_t, bI_f, e10, isA30, isA31, isA33, isA40, isA42, isA43, rOkB0, rOkB1, rOkB, Ret_v, Ret_n, cmp_eq, cmp_lt, cmp_gt, nI_1, eq_self, if_true, if_false, reduceIte]
    · simp only [x_C_isLetterNext_0, x_C_isLetterNext_1, x_C_isLetterNext_2, x_C_isLetterNext_5, x_C_isLetterNext_8, x_C_isLetterNext_10, x_C_isLetterNext_13, x_C_isLetterNext_14, x_C_isLetterNext_15, x_C_isLetterNext_18, x_C_isLetterNext_21, x_C_isLetterNext_23, x_C_isLetterNext_26, x_C_isLetterNext_27, x_C_isLetterNext_30, x_C_isLetterNext_31, hS.1, h2, b, q1, q2, decide_false, Bool.not_false, Bool.and_true, bI_0, bI_t, bI_f, e10, isA30, isA31, isA33, isA40, isA42, isA43, rOkB0, rOkB1, rOkB, Ret_v, Ret_n, cmp_eq, cmp_lt, cmp_gt, nI_1, eq_self, if_true, if_false, reduceIte]
theorem c_C_isDigitNext (hS : ScS R S sc) (hD : ScD I sc x n) (hp : p < 2 ^ 31) (h2 : I sc 2 = nI p) : Wp 165 0 [.ref sc] [] I J R S Q = Q 0 (some (.int (bI (isDg x n p)))) I J R S := by
  have b := fun Q' => c_C_byteAt (Q := Q') (J := J) hS hD hp
  unfold isDg
  by_cases q1 : byA x n p < 48
  · simp only [x_C_isDigitNext_0, x_C_isDigitNext_1, x_C_isDigitNext_2, x_C_isDigitNext_5, x_C_isDigitNext_8, x_C_isDigitNext_10, x_C_isDigitNext_13, x_C_isDigitNext_14, x_C_isDigitNext_15, x_C_isDigitNext_18, x_C_isDigitNext_21, x_C_isDigitNext_23, x_C_isDigitNext_26, x_C_isDigitNext_27, x_C_isDigitNext_30, x_C_isDigitNext_31, hS.1, h2, b, q1, decide_true, Bool.not_true, Bool.false_and, bI_0, bI_t, bI_f, e10, isA30, isA31, isA33, isA40, isA42, isA43, rOkB0, rOkB1, rOkB, Ret_v, Ret_n, cmp_eq, cmp_lt, cmp_gt, nI_1, eq_self, if_true, if_false, reduceIte]
  · by_cases q2 : 57 < byA x n p
    · simp only [x_C_isDigitNext_0, x_C_isDigitNext_1, x_C_isDigitNext_2, x_C_isDigitNext_5, x_C_isDigitNext_8, x_C_isDigitNext_10, x_C_isDigitNext_13, x_C_isDigitNext_14, x_C_isDigitNext_15, x_C_isDigitNext_18, x_C_isDigitNext_21, x_C_isDigitNext_23, x_C_isDigitNext_26, x_C_isDigitNext_27, x_C_isDigitNext_30, x_C_isDigitNext_31, hS.1, h2, b, q1, q2, decide_true, decide_false, Bool.not_true, Bool.not_false, Bool.and_false, bI_0, bI_t, bI_f, e10, isA30, isA31, isA33, isA40, isA42, isA43, rOkB0, rOkB1, rOkB, Ret_v, Ret_n, cmp_eq, cmp_lt, cmp_gt, nI_1, eq_self, if_true, if_false, reduceIte]
    · simp only [x_C_isDigitNext_0, x_C_isDigitNext_1, x_C_isDigitNext_2, x_C_isDigitNext_5, x_C_isDigitNext_8, x_C_isDigitNext_10, x_C_isDigitNext_13, x_C_isDigitNext_14, x_C_isDigitNext_15, x_C_isDigitNext_18, x_C_isDigitNext_21, x_C_isDigitNext_23, x_C_isDigitNext_26, x_C_isDigitNext_27, x_C_isDigitNext_30, x_C_isDigitNext_31, hS.1, h2, b, q1, q2, decide_false, Bool.not_false, Bool.and_true, bI_0, bI_t, bI_f, e10, isA30, isA31, isA33, isA40, isA42, isA43, rOkB0, rOkB1, rOkB, Ret_v, Ret_n, cmp_eq, cmp_lt, cmp_gt, nI_1, eq_self, if_true, if_false, reduceIte]
theorem c_C_failHere (hS : ScS R S sc) (h2 : I sc 2 = nI p) (h3 : I sc 3 = f) : Wp 162 0 [.ref sc] [] I J R S Q = Q 0 none (u2 I sc 3 (flt f p)) J R S := by
  unfold flt
  by_cases q : f = -1
  · simp only [x_C_failHere_0, x_C_failHere_1, x_C_failHere_4, x_C_failHere_5, x_C_failHere_8, x_C_failHere_9, x_C_failHere_10, x_C_failHere_13, x_C_failHere_16, hS.1, h2, h3, q, bI_0, bI_t, bI_f, e10, isA30, isA31, isA33, isA40, isA42, isA43, rOkB0, rOkB1, rOkB, Ret_v, Ret_n, cmp_eq, cmp_lt, cmp_gt, nI_1, eq_self, if_true, if_false, reduceIte]
  · have e : u2 I sc 3 f = I := u2_self h3
    simp only [x_C_failHere_0, x_C_failHere_1, x_C_failHere_4, x_C_failHere_5, x_C_failHere_8, x_C_failHere_9, x_C_failHere_10, x_C_failHere_13, x_C_failHere_16, hS.1, h2, h3, q, e, bI_0, bI_t, bI_f, e10, isA30, isA31, isA33, isA40, isA42, isA43, rOkB0, rOkB1, rOkB, Ret_v, Ret_n, cmp_eq, cmp_lt, cmp_gt, nI_1, eq_self, if_true, if_false, reduceIte]
theorem l_C_skipSpaces (hS : ScS R S sc) : ∀ (k i p : Nat) (I : MI), i + k = 150 → p ≤ 150 + i + 10 → ScD I sc x n → I sc 2 = nI p → Wp 163 2 [.ref sc, .int (nI i)] [] I J R S Q = Q 0 none (u2 I sc 2 (nI (skp x n k p))) J R S := by
  intro k
  induction k with
  | zero =>
    intro i p I hi hp hD h2
    have e : ¬ nI i < 150 := by rw [show (150 : Int32) = nI 150 by decide]; exact nI_nlt (by omega) (by omega)
    rw [x_C_skipSpaces_2]
    simp only [x_C_skipSpaces_0, x_C_skipSpaces_1, x_C_skipSpaces_3, x_C_skipSpaces_6, x_C_skipSpaces_9, x_C_skipSpaces_10, x_C_skipSpaces_11, x_C_skipSpaces_14, x_C_skipSpaces_17, x_C_skipSpaces_19, x_C_skipSpaces_22, x_C_skipSpaces_23, x_C_skipSpaces_24, x_C_skipSpaces_27, x_C_skipSpaces_28, x_C_skipSpaces_29, x_C_skipSpaces_32, x_C_skipSpaces_35, x_C_skipSpaces_38, e, skp, u2_self h2, bI_0, bI_t, bI_f, e10, isA30, isA31, isA33, isA40, isA42, isA43, rOkB0, rOkB1, rOkB, Ret_v, Ret_n, cmp_eq, cmp_lt, cmp_gt, nI_1, eq_self, if_true, if_false, reduceIte]
  | succ k ih =>
    intro i p I hi hp hD h2
    have e : nI i < 150 := by rw [show (150 : Int32) = nI 150 by decide]; exact nI_lt (by omega) (by omega)
    have b := fun Q' => c_C_byteAt (Q := Q') (J := J) hS hD (show p < 2 ^ 31 by omega)
    rw [x_C_skipSpaces_2]
    by_cases q : byA x n p = 32
    · have l := ih (i + 1) (p + 1) (u2 I sc 2 (nI (p + 1))) (by omega) (by omega) (ScD_2 hD (by omega)) u2_eq
      simp only [x_C_skipSpaces_0, x_C_skipSpaces_1, x_C_skipSpaces_3, x_C_skipSpaces_6, x_C_skipSpaces_9, x_C_skipSpaces_10, x_C_skipSpaces_11, x_C_skipSpaces_14, x_C_skipSpaces_17, x_C_skipSpaces_19, x_C_skipSpaces_22, x_C_skipSpaces_23, x_C_skipSpaces_24, x_C_skipSpaces_27, x_C_skipSpaces_28, x_C_skipSpaces_29, x_C_skipSpaces_32, x_C_skipSpaces_35, x_C_skipSpaces_38, hS.1, e, h2, b, q, skp, nI_1', l, u2_u2, bI_0, bI_t, bI_f, e10, isA30, isA31, isA33, isA40, isA42, isA43, rOkB0, rOkB1, rOkB, Ret_v, Ret_n, cmp_eq, cmp_lt, cmp_gt, nI_1, eq_self, if_true, if_false, reduceIte]
    · simp only [x_C_skipSpaces_0, x_C_skipSpaces_1, x_C_skipSpaces_3, x_C_skipSpaces_6, x_C_skipSpaces_9, x_C_skipSpaces_10, x_C_skipSpaces_11, x_C_skipSpaces_14, x_C_skipSpaces_17, x_C_skipSpaces_19, x_C_skipSpaces_22, x_C_skipSpaces_23, x_C_skipSpaces_24, x_C_skipSpaces_27, x_C_skipSpaces_28, x_C_skipSpaces_29, x_C_skipSpaces_32, x_C_skipSpaces_35, x_C_skipSpaces_38, hS.1, e, h2, b, q, skp, u2_self h2, bI_0, bI_t, bI_f, e10, isA30, isA31, isA33, isA40, isA42, isA43, rOkB0, rOkB1, rOkB, Ret_v, Ret_n, cmp_eq, cmp_lt, cmp_gt, nI_1, eq_self, if_true, if_false, reduceIte]
theorem c_C_skipSpaces (hS : ScS R S sc) (hp : p ≤ 155) (hD : ScD I sc x n) (h2 : I sc 2 = nI p) : Wp 163 0 [.ref sc, nov] [] I J R S Q = Q 0 none (u2 I sc 2 (nI (skp x n 150 p))) J R S := by
  rw [x_C_skipSpaces_0, x_C_skipSpaces_1, ← nI_0]
  exact l_C_skipSpaces hS 150 0 p I (by omega) (by omega) hD h2
end CC
