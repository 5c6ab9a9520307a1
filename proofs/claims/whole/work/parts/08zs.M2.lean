/-! the model: its row of numbers -/
def MxS (R : MR) (S : Sh) : Prop := S.1 187 = 8 ∧ S.1 188 = 31 ∧ S.2.1 188 = 305 ∧ R 187 0 = .ref 188
/-- the row replaced -/
def jn (J : MJ) (f : Nat → Int64) : MJ := fun p => if p = 188 then f else J p
def ju (f : Nat → Int64) (k : Nat) (v : Int64) : Nat → Int64 := fun i => if i = k then v else f i
def clsL (f : Nat → Int64) (b i : Nat) : Nat → Nat → Int64
  | 0 => f
  | d + 1 => clsL (ju f (b + i) (f (b + i + 1))) b (i + 1) d
def opnL (f : Nat → Int64) (b i : Nat) : Nat → Nat → Int64
  | 0 => f
  | d + 1 => opnL (ju f (b + i) (f (b + i - 1))) b (i - 1) d
def clsF (f : Nat → Int64) (b n k : Nat) : Nat → Int64 := ju (clsL f b k (n - 1 - k)) (b + n - 1) 0
def opnF (f : Nat → Int64) (b n k : Nat) (v : Int64) : Nat → Int64 := ju (opnL f b n (n - k)) (b + k) v
def ahF (f : Nat → Int64) (b n : Nat) (w : Int64) : Nat := fd (fun k => !decide (alg (f (b + k)) < alg w)) 0 n
section MB
variable {I : MI} {J : MJ} {R : MR} {S : Sh} {Q : SkQ} {f g : Nat → Int64} {b b2 n k j : Nat} {w u v : Int64}
theorem jn_a : jn J f 188 = f := if_pos (by simp)
theorem jn_o {p : Nat} (h : ¬ p = 188) : jn J f p = J p := if_neg h
theorem jn_jn : jn (jn J f) g = jn J g := by
  funext p
  unfold jn
  split <;> rfl
theorem jn_self : jn J (J 188) = J := by
  funext p
  unfold jn
  by_cases q : p = 188
  · rw [if_pos q, q]
  · rw [if_neg q]
theorem u2_jn : u2 (jn J f) 188 k v = jn J (ju f k v) := by
  funext p j
  by_cases q : p = 188
  · subst q
    rw [jn_a]
    unfold ju
    by_cases q2 : j = k
    · rw [if_pos q2, q2, u2_eq]
    · rw [if_neg q2, u2_of (by omega), jn_a]
  · rw [u2_of (by omega), jn_o q, jn_o q]
theorem ju_eq {k : Nat} : ju f k v k = v := if_pos (by simp)
theorem ju_of {k i : Nat} (h : ¬ i = k) : ju f k v i = f i := if_neg h
theorem c_M_many (hS : MxS R S) (hk : k < 305) : Wp 177 0 [.ref 187, .int (nI k)] [] I (jn J f) R S Q = Q 0 (some (.int (f k).toInt32)) I (jn J f) R S := by
  obtain ⟨k0, k1, n1, r0⟩ := hS
  have e := inb_nI (i := k) (n := 305) hk (by omega)
  have e2 : ix (nI k) = k := ix_nI (by omega)
  simp only [x_M_many_0, x_M_many_1, x_M_many_4, x_M_many_5, x_M_many_6, x_M_many_7, k0, k1, n1, r0, e, e2, jn_a, bI_0, bI_t, bI_f, e10, isA30, isA31, isA33, isA40, isA42, isA43, rOkB0, rOkB1, rOkB, Ret_v, Ret_n, cmp_eq, cmp_lt, cmp_gt, nI_1, eq_self, if_true, if_false, reduceIte]
theorem l_M_find (hS : MxS R S) (hb : b + n ≤ 305) : ∀ k i : Nat, i + k = n → Wp 182 6 [.ref 187, .int (nI b), .int (nI n), .long w, nov, .int (-1), .int (nI i)] [] I (jn J f) R S Q = Q 0 (some (.int (fsI (fun k => decide (f (b + k) = w)) i k))) I (jn J f) R S := by
  obtain ⟨k0, k1, n1, r0⟩ := hS
  intro k
  induction k with
  | zero =>
    intro i hi
    have e : ¬ nI i < nI n := nI_nlt (by omega) (by omega)
    rw [x_M_find_6]
    simp only [x_M_find_0, x_M_find_1, x_M_find_3, x_M_find_4, x_M_find_8, x_M_find_9, x_M_find_12, x_M_find_14, x_M_find_15, x_M_find_18, x_M_find_19, x_M_find_22, x_M_find_23, x_M_find_25, x_M_find_26, x_M_find_27, x_M_find_28, x_M_find_29, x_M_find_32, x_M_find_34, x_M_find_37, x_M_find_38, x_M_find_40, x_M_find_43, x_M_find_46, x_M_find_48, e, fsI, bI_0, bI_t, bI_f, e10, isA30, isA31, isA33, isA40, isA42, isA43, rOkB0, rOkB1, rOkB, Ret_v, Ret_n, cmp_eq, cmp_lt, cmp_gt, nI_1, eq_self, if_true, if_false, reduceIte]
  | succ k ih =>
    intro i hi
    have e : nI i < nI n := nI_lt (by omega) (by omega)
    have e1 := inb_nI (i := b + i) (n := 305) (by omega) (by omega)
    have e2 : ix (nI (b + i)) = b + i := ix_nI (by omega)
    rw [x_M_find_6]
    by_cases q : f (b + i) = w
    · have z : ¬ nI i = -1 := nI_m1 (by omega)
      have g : ∀ c, Wp 182 6 [.ref 187, .int (nI b), .int (nI n), .long w, nov, .int (nI i), .int c] [] I (jn J f) R S Q = Q 0 (some (.int (nI i))) I (jn J f) R S := fun c => by
        rw [x_M_find_6]
        by_cases q2 : c < nI n <;> simp only [x_M_find_0, x_M_find_1, x_M_find_3, x_M_find_4, x_M_find_8, x_M_find_9, x_M_find_12, x_M_find_14, x_M_find_15, x_M_find_18, x_M_find_19, x_M_find_22, x_M_find_23, x_M_find_25, x_M_find_26, x_M_find_27, x_M_find_28, x_M_find_29, x_M_find_32, x_M_find_34, x_M_find_37, x_M_find_38, x_M_find_40, x_M_find_43, x_M_find_46, x_M_find_48, q2, z, bI_0, bI_t, bI_f, e10, isA30, isA31, isA33, isA40, isA42, isA43, rOkB0, rOkB1, rOkB, Ret_v, Ret_n, cmp_eq, cmp_lt, cmp_gt, nI_1, eq_self, if_true, if_false, reduceIte]
      simp only [x_M_find_0, x_M_find_1, x_M_find_3, x_M_find_4, x_M_find_8, x_M_find_9, x_M_find_12, x_M_find_14, x_M_find_15, x_M_find_18, x_M_find_19, x_M_find_22, x_M_find_23, x_M_find_25, x_M_find_26, x_M_find_27, x_M_find_28, x_M_find_29, x_M_find_32, x_M_find_34, x_M_find_37, x_M_find_38, x_M_find_40, x_M_find_43, x_M_find_46, x_M_find_48, e, k0, k1, n1, r0, nI_plus, e1, e2, jn_a, q, g, fsI, decide_true, bI_0, bI_t, bI_f, e10, isA30, isA31, isA33, isA40, isA42, isA43, rOkB0, rOkB1, rOkB, Ret_v, Ret_n, cmp_eq, cmp_lt, cmp_gt, nI_1, eq_self, if_true, if_false, reduceIte]
    · simp only [x_M_find_0, x_M_find_1, x_M_find_3, x_M_find_4, x_M_find_8, x_M_find_9, x_M_find_12, x_M_find_14, x_M_find_15, x_M_find_18, x_M_find_19, x_M_find_22, x_M_find_23, x_M_find_25, x_M_find_26, x_M_find_27, x_M_find_28, x_M_find_29, x_M_find_32, x_M_find_34, x_M_find_37, x_M_find_38, x_M_find_40, x_M_find_43, x_M_find_46, x_M_find_48, e, k0, k1, n1, r0, nI_plus, nI_1', e1, e2, jn_a, q, fsI, decide_false, Bool.false_eq_true, ih (i + 1) (by omega), bI_0, bI_t, bI_f, e10, isA30, isA31, isA33, isA40, isA42, isA43, rOkB0, rOkB1, rOkB, Ret_v, Ret_n, cmp_eq, cmp_lt, cmp_gt, nI_1, eq_self, if_true, if_false, reduceIte]
theorem c_M_find (hS : MxS R S) (hb : b + n ≤ 305) : Wp 182 0 [.ref 187, .int (nI b), .int (nI n), .long w, nov, nov, nov] [] I (jn J f) R S Q = Q 0 (some (.int (frI (fd (fun k => decide (f (b + k) = w)) 0 n) n))) I (jn J f) R S := by
  have l := l_M_find (I := I) (J := J) (Q := Q) (f := f) (w := w) hS hb n 0 (by omega)
  rw [nI_0, fsI_fd, Nat.zero_add] at l
  simp only [x_M_find_0, x_M_find_1, x_M_find_3, x_M_find_4, x_M_find_8, x_M_find_9, x_M_find_12, x_M_find_14, x_M_find_15, x_M_find_18, x_M_find_19, x_M_find_22, x_M_find_23, x_M_find_25, x_M_find_26, x_M_find_27, x_M_find_28, x_M_find_29, x_M_find_32, x_M_find_34, x_M_find_37, x_M_find_38, x_M_find_40, x_M_find_43, x_M_find_46, x_M_find_48, l, bI_0, bI_t, bI_f, e10, isA30, isA31, isA33, isA40, isA42, isA43, rOkB0, rOkB1, rOkB, Ret_v, Ret_n, cmp_eq, cmp_lt, cmp_gt, nI_1, eq_self, if_true, if_false, reduceIte]
theorem l_M_findBoth (hS : MxS R S) (hb : b + n ≤ 305) (hb2 : b2 + n ≤ 305) : ∀ k i : Nat, i + k = n → Wp 183 6 [.ref 187, .int (nI b), .int (nI b2), .int (nI n), .long w, nov, .long u, nov, .int (-1), .int (nI i)] [] I (jn J f) R S Q = Q 0 (some (.int (fsI (fun k => decide (f (b + k) = w) && decide (f (b2 + k) = u)) i k))) I (jn J f) R S := by
  obtain ⟨k0, k1, n1, r0⟩ := hS
  intro k
  induction k with
  | zero =>
    intro i hi
    have e : ¬ nI i < nI n := nI_nlt (by omega) (by omega)
    rw [x_M_findBoth_6]
    simp only [x_M_findBoth_0, x_M_findBoth_1, x_M_findBoth_3, x_M_findBoth_4, x_M_findBoth_8, x_M_findBoth_9, x_M_findBoth_12, x_M_findBoth_14, x_M_findBoth_15, x_M_findBoth_18, x_M_findBoth_19, x_M_findBoth_22, x_M_findBoth_23, x_M_findBoth_25, x_M_findBoth_26, x_M_findBoth_27, x_M_findBoth_29, x_M_findBoth_30, x_M_findBoth_33, x_M_findBoth_34, x_M_findBoth_37, x_M_findBoth_38, x_M_findBoth_40, x_M_findBoth_41, x_M_findBoth_42, x_M_findBoth_44, x_M_findBoth_45, x_M_findBoth_48, x_M_findBoth_50, x_M_findBoth_53, x_M_findBoth_54, x_M_findBoth_56, x_M_findBoth_59, x_M_findBoth_62, x_M_findBoth_64, e, fsI, bI_0, bI_t, bI_f, e10, isA30, isA31, isA33, isA40, isA42, isA43, rOkB0, rOkB1, rOkB, Ret_v, Ret_n, cmp_eq, cmp_lt, cmp_gt, nI_1, eq_self, if_true, if_false, reduceIte]
  | succ k ih =>
    intro i hi
    have e : nI i < nI n := nI_lt (by omega) (by omega)
    have e1 := inb_nI (i := b + i) (n := 305) (by omega) (by omega)
    have e2 : ix (nI (b + i)) = b + i := ix_nI (by omega)
    have e3 := inb_nI (i := b2 + i) (n := 305) (by omega) (by omega)
    have e4 : ix (nI (b2 + i)) = b2 + i := ix_nI (by omega)
    rw [x_M_findBoth_6]
    by_cases q : f (b + i) = w
    · by_cases q1 : f (b2 + i) = u
      · have z : ¬ nI i = -1 := nI_m1 (by omega)
        have g : ∀ c, Wp 183 6 [.ref 187, .int (nI b), .int (nI b2), .int (nI n), .long w, nov, .long u, nov, .int (nI i), .int c] [] I (jn J f) R S Q = Q 0 (some (.int (nI i))) I (jn J f) R S := fun c => by
          rw [x_M_findBoth_6]
          by_cases q2 : c < nI n <;> simp only [x_M_findBoth_0, x_M_findBoth_1, x_M_findBoth_3, x_M_findBoth_4, x_M_findBoth_8, x_M_findBoth_9, x_M_findBoth_12, x_M_findBoth_14, x_M_findBoth_15, x_M_findBoth_18, x_M_findBoth_19, x_M_findBoth_22, x_M_findBoth_23, x_M_findBoth_25, x_M_findBoth_26, x_M_findBoth_27, x_M_findBoth_29, x_M_findBoth_30, x_M_findBoth_33, x_M_findBoth_34, x_M_findBoth_37, x_M_findBoth_38, x_M_findBoth_40, x_M_findBoth_41, x_M_findBoth_42, x_M_findBoth_44, x_M_findBoth_45, x_M_findBoth_48, x_M_findBoth_50, x_M_findBoth_53, x_M_findBoth_54, x_M_findBoth_56, x_M_findBoth_59, x_M_findBoth_62, x_M_findBoth_64, q2, z, bI_0, bI_t, bI_f, e10, isA30, isA31, isA33, isA40, isA42, isA43, rOkB0, rOkB1, rOkB, Ret_v, Ret_n, cmp_eq, cmp_lt, cmp_gt, nI_1, eq_self, if_true, if_false, reduceIte]
        simp only [x_M_findBoth_0, x_M_findBoth_1, x_M_findBoth_3, x_M_findBoth_4, x_M_findBoth_8, x_M_findBoth_9, x_M_findBoth_12, x_M_findBoth_14, x_M_findBoth_15, x_M_findBoth_18, x_M_findBoth_19, x_M_findBoth_22, x_M_findBoth_23, x_M_findBoth_25, x_M_findBoth_26, x_M_findBoth_27, x_M_findBoth_29, x_M_findBoth_30, x_M_findBoth_33, x_M_findBoth_34, x_M_findBoth_37, x_M_findBoth_38, x_M_findBoth_40, x_M_findBoth_41, x_M_findBoth_42, x_M_findBoth_44, x_M_findBoth_45, x_M_findBoth_48, x_M_findBoth_50, x_M_findBoth_53, x_M_findBoth_54, x_M_findBoth_56, x_M_findBoth_59, x_M_findBoth_62, x_M_findBoth_64, e, k0, k1, n1, r0, nI_plus, e1, e2, e3, e4, jn_a, q, q1, g, fsI, decide_true, Bool.and_true, bI_0, bI_t, bI_f, e10, isA30, isA31, isA33, isA40, isA42, isA43, rOkB0, rOkB1, rOkB, Ret_v, Ret_n, cmp_eq, cmp_lt, cmp_gt, nI_1, eq_self, if_true, if_false, reduceIte]
      · simp only [x_M_findBoth_0, x_M_findBoth_1, x_M_findBoth_3, x_M_findBoth_4, x_M_findBoth_8, x_M_findBoth_9, x_M_findBoth_12, x_M_findBoth_14, x_M_findBoth_15, x_M_findBoth_18, x_M_findBoth_19, x_M_findBoth_22, x_M_findBoth_23, x_M_findBoth_25, x_M_findBoth_26, x_M_findBoth_27, x_M_findBoth_29, x_M_findBoth_30, x_M_findBoth_33, x_M_findBoth_34, x_M_findBoth_37, x_M_findBoth_38, x_M_findBoth_40, x_M_findBoth_41, x_M_findBoth_42, x_M_findBoth_44, x_M_findBoth_45, x_M_findBoth_48, x_M_findBoth_50, x_M_findBoth_53, x_M_findBoth_54, x_M_findBoth_56, x_M_findBoth_59, x_M_findBoth_62, x_M_findBoth_64, e, k0, k1, n1, r0, nI_plus, nI_1', e1, e2, e3, e4, jn_a, q, q1, fsI, decide_false, decide_true, Bool.and_false, Bool.false_eq_true, ih (i + 1) (by omega), bI_0, bI_t, bI_f, e10, isA30, isA31, isA33, isA40, isA42, isA43, rOkB0, rOkB1, rOkB, Ret_v, Ret_n, cmp_eq, cmp_lt, cmp_gt, nI_1, eq_self, if_true, if_false, reduceIte]
    · simp only [x_M_findBoth_0, x_M_findBoth_1, x_M_findBoth_3, x_M_findBoth_4, x_M_findBoth_8, x_M_findBoth_9, x_M_findBoth_12, x_M_findBoth_14, x_M_findBoth_15, x_M_findBoth_18, x_M_findBoth_19, x_M_findBoth_22, x_M_findBoth_23, x_M_findBoth_25, x_M_findBoth_26, x_M_findBoth_27, x_M_findBoth_29, x_M_findBoth_30, x_M_findBoth_33, x_M_findBoth_34, x_M_findBoth_37, x_M_findBoth_38, x_M_findBoth_40, x_M_findBoth_41, x_M_findBoth_42, x_M_findBoth_44, x_M_findBoth_45, x_M_findBoth_48, x_M_findBoth_50, x_M_findBoth_53, x_M_findBoth_54, x_M_findBoth_56, x_M_findBoth_59, x_M_findBoth_62, x_M_findBoth_64, e, k0, k1, n1, r0, nI_plus, nI_1', e1, e2, jn_a, q, fsI, decide_false, Bool.false_and, Bool.false_eq_true, ih (i + 1) (by omega), bI_0, bI_t, bI_f, e10, isA30, isA31, isA33, isA40, isA42, isA43, rOkB0, rOkB1, rOkB, Ret_v, Ret_n, cmp_eq, cmp_lt, cmp_gt, nI_1, eq_self, if_true, if_false, reduceIte]
theorem c_M_findBoth (hS : MxS R S) (hb : b + n ≤ 305) (hb2 : b2 + n ≤ 305) : Wp 183 0 [.ref 187, .int (nI b), .int (nI b2), .int (nI n), .long w, nov, .long u, nov, nov, nov] [] I (jn J f) R S Q = Q 0 (some (.int (frI (fd (fun k => decide (f (b + k) = w) && decide (f (b2 + k) = u)) 0 n) n))) I (jn J f) R S := by
  have l := l_M_findBoth (I := I) (J := J) (Q := Q) (f := f) (w := w) (u := u) hS hb hb2 n 0 (by omega)
  rw [nI_0, fsI_fd, Nat.zero_add] at l
  simp only [x_M_findBoth_0, x_M_findBoth_1, x_M_findBoth_3, x_M_findBoth_4, x_M_findBoth_8, x_M_findBoth_9, x_M_findBoth_12, x_M_findBoth_14, x_M_findBoth_15, x_M_findBoth_18, x_M_findBoth_19, x_M_findBoth_22, x_M_findBoth_23, x_M_findBoth_25, x_M_findBoth_26, x_M_findBoth_27, x_M_findBoth_29, x_M_findBoth_30, x_M_findBoth_33, x_M_findBoth_34, x_M_findBoth_37, x_M_findBoth_38, x_M_findBoth_40, x_M_findBoth_41, x_M_findBoth_42, x_M_findBoth_44, x_M_findBoth_45, x_M_findBoth_48, x_M_findBoth_50, x_M_findBoth_53, x_M_findBoth_54, x_M_findBoth_56, x_M_findBoth_59, x_M_findBoth_62, x_M_findBoth_64, l, bI_0, bI_t, bI_f, e10, isA30, isA31, isA33, isA40, isA42, isA43, rOkB0, rOkB1, rOkB, Ret_v, Ret_n, cmp_eq, cmp_lt, cmp_gt, nI_1, eq_self, if_true, if_false, reduceIte]
theorem l_M_countOf (hS : MxS R S) (hb : b + n ≤ 305) : ∀ k i c : Nat, i + k = n → Wp 217 6 [.ref 187, .int (nI b), .int (nI n), .long w, nov, .int (nI c), .int (nI i)] [] I (jn J f) R S Q = Q 0 (some (.int (nI (c + cnt (fun k => decide (f (b + k) = w)) i k)))) I (jn J f) R S := by
  obtain ⟨k0, k1, n1, r0⟩ := hS
  intro k
  induction k with
  | zero =>
    intro i c hi
    have e : ¬ nI i < nI n := nI_nlt (by omega) (by omega)
    rw [x_M_countOf_6]
    simp only [x_M_countOf_0, x_M_countOf_1, x_M_countOf_3, x_M_countOf_4, x_M_countOf_8, x_M_countOf_9, x_M_countOf_12, x_M_countOf_14, x_M_countOf_15, x_M_countOf_18, x_M_countOf_19, x_M_countOf_21, x_M_countOf_22, x_M_countOf_23, x_M_countOf_24, x_M_countOf_25, x_M_countOf_28, x_M_countOf_29, x_M_countOf_32, x_M_countOf_33, x_M_countOf_34, x_M_countOf_36, x_M_countOf_39, x_M_countOf_42, x_M_countOf_44, e, cnt, Nat.add_zero, bI_0, bI_t, bI_f, e10, isA30, isA31, isA33, isA40, isA42, isA43, rOkB0, rOkB1, rOkB, Ret_v, Ret_n, cmp_eq, cmp_lt, cmp_gt, nI_1, eq_self, if_true, if_false, reduceIte]
  | succ k ih =>
    intro i c hi
    have e : nI i < nI n := nI_lt (by omega) (by omega)
    have e1 := inb_nI (i := b + i) (n := 305) (by omega) (by omega)
    have e2 : ix (nI (b + i)) = b + i := ix_nI (by omega)
    rw [x_M_countOf_6]
    by_cases q : f (b + i) = w
    · have l := ih (i + 1) (c + 1) (by omega)
      simp only [x_M_countOf_0, x_M_countOf_1, x_M_countOf_3, x_M_countOf_4, x_M_countOf_8, x_M_countOf_9, x_M_countOf_12, x_M_countOf_14, x_M_countOf_15, x_M_countOf_18, x_M_countOf_19, x_M_countOf_21, x_M_countOf_22, x_M_countOf_23, x_M_countOf_24, x_M_countOf_25, x_M_countOf_28, x_M_countOf_29, x_M_countOf_32, x_M_countOf_33, x_M_countOf_34, x_M_countOf_36, x_M_countOf_39, x_M_countOf_42, x_M_countOf_44, e, k0, k1, n1, r0, nI_plus, nI_1', e1, e2, jn_a, q, l, cnt, decide_true, bI_0, bI_t, bI_f, e10, isA30, isA31, isA33, isA40, isA42, isA43, rOkB0, rOkB1, rOkB, Ret_v, Ret_n, cmp_eq, cmp_lt, cmp_gt, nI_1, eq_self, if_true, if_false, reduceIte]
      rw [show c + 1 + cnt (fun k => decide (f (b + k) = w)) (i + 1) k = c + (1 + cnt (fun k => decide (f (b + k) = w)) (i + 1) k) by omega]
    · have l := ih (i + 1) c (by omega)
      simp only [x_M_countOf_0, x_M_countOf_1, x_M_countOf_3, x_M_countOf_4, x_M_countOf_8, x_M_countOf_9, x_M_countOf_12, x_M_countOf_14, x_M_countOf_15, x_M_countOf_18, x_M_countOf_19, x_M_countOf_21, x_M_countOf_22, x_M_countOf_23, x_M_countOf_24, x_M_countOf_25, x_M_countOf_28, x_M_countOf_29, x_M_countOf_32, x_M_countOf_33, x_M_countOf_34, x_M_countOf_36, x_M_countOf_39, x_M_countOf_42, x_M_countOf_44, e, k0, k1, n1, r0, nI_plus, nI_1', Int32.add_zero, e1, e2, jn_a, q, l, cnt, decide_false, Bool.false_eq_true, Nat.zero_add, bI_0, bI_t, bI_f, e10, isA30, isA31, isA33, isA40, isA42, isA43, rOkB0, rOkB1, rOkB, Ret_v, Ret_n, cmp_eq, cmp_lt, cmp_gt, nI_1, eq_self, if_true, if_false, reduceIte]
theorem c_M_countOf (hS : MxS R S) (hb : b + n ≤ 305) : Wp 217 0 [.ref 187, .int (nI b), .int (nI n), .long w, nov, nov, nov] [] I (jn J f) R S Q = Q 0 (some (.int (nI (cnt (fun k => decide (f (b + k) = w)) 0 n)))) I (jn J f) R S := by
  have l := l_M_countOf (I := I) (J := J) (Q := Q) (f := f) (w := w) hS hb n 0 0 (by omega)
  rw [nI_0, Nat.zero_add] at l
  simp only [x_M_countOf_0, x_M_countOf_1, x_M_countOf_3, x_M_countOf_4, x_M_countOf_8, x_M_countOf_9, x_M_countOf_12, x_M_countOf_14, x_M_countOf_15, x_M_countOf_18, x_M_countOf_19, x_M_countOf_21, x_M_countOf_22, x_M_countOf_23, x_M_countOf_24, x_M_countOf_25, x_M_countOf_28, x_M_countOf_29, x_M_countOf_32, x_M_countOf_33, x_M_countOf_34, x_M_countOf_36, x_M_countOf_39, x_M_countOf_42, x_M_countOf_44, l, bI_0, bI_t, bI_f, e10, isA30, isA31, isA33, isA40, isA42, isA43, rOkB0, rOkB1, rOkB, Ret_v, Ret_n, cmp_eq, cmp_lt, cmp_gt, nI_1, eq_self, if_true, if_false, reduceIte]
theorem l_M_closes (hS : MxS R S) (hb : b + n ≤ 305) (hn : 0 < n) {k0 : Int32} : ∀ (d i : Nat) (f : Nat → Int64), i + d = n - 1 → Wp 187 3 [.ref 187, .int (nI b), .int (nI n), .int k0, .int (nI i)] [] I (jn J f) R S Q = Q 0 none I (jn J (ju (clsL f b i d) (b + n - 1) 0)) R S := by
  obtain ⟨s0, k1, n1, r0⟩ := hS
  intro d
  induction d with
  | zero =>
    intro i f hi
    have e : ¬ nI (i + 1) < nI n := nI_nlt (by omega) (by omega)
    have e0 : nI (b + n) - 1 = nI (b + n - 1) := nI_sub (b := 1) (by omega)
    have e1 := inb_nI (i := b + n - 1) (n := 305) (by omega) (by omega)
    have e2 : ix (nI (b + n - 1)) = b + n - 1 := ix_nI (by omega)
    rw [x_M_closes_3]
    simp only [x_M_closes_0, x_M_closes_1, x_M_closes_5, x_M_closes_6, x_M_closes_7, x_M_closes_8, x_M_closes_11, x_M_closes_12, x_M_closes_15, x_M_closes_16, x_M_closes_18, x_M_closes_19, x_M_closes_20, x_M_closes_23, x_M_closes_24, x_M_closes_26, x_M_closes_27, x_M_closes_28, x_M_closes_29, x_M_closes_30, x_M_closes_31, x_M_closes_34, x_M_closes_37, x_M_closes_38, x_M_closes_41, x_M_closes_42, x_M_closes_43, x_M_closes_44, x_M_closes_45, x_M_closes_46, x_M_closes_47, x_M_closes_48, nI_1', e, s0, k1, n1, r0, nI_plus, e0, e1, e2, u2_jn, clsL, bI_0, bI_t, bI_f, e10, isA30, isA31, isA33, isA40, isA42, isA43, rOkB0, rOkB1, rOkB, Ret_v, Ret_n, cmp_eq, cmp_lt, cmp_gt, nI_1, eq_self, if_true, if_false, reduceIte]
  | succ d ih =>
    intro i f hi
    have e : nI (i + 1) < nI n := nI_lt (by omega) (by omega)
    have e1 := inb_nI (i := b + i) (n := 305) (by omega) (by omega)
    have e2 : ix (nI (b + i)) = b + i := ix_nI (by omega)
    have e3 := inb_nI (i := b + i + 1) (n := 305) (by omega) (by omega)
    have e4 : ix (nI (b + i + 1)) = b + i + 1 := ix_nI (by omega)
    rw [x_M_closes_3]
    simp only [x_M_closes_0, x_M_closes_1, x_M_closes_5, x_M_closes_6, x_M_closes_7, x_M_closes_8, x_M_closes_11, x_M_closes_12, x_M_closes_15, x_M_closes_16, x_M_closes_18, x_M_closes_19, x_M_closes_20, x_M_closes_23, x_M_closes_24, x_M_closes_26, x_M_closes_27, x_M_closes_28, x_M_closes_29, x_M_closes_30, x_M_closes_31, x_M_closes_34, x_M_closes_37, x_M_closes_38, x_M_closes_41, x_M_closes_42, x_M_closes_43, x_M_closes_44, x_M_closes_45, x_M_closes_46, x_M_closes_47, x_M_closes_48, nI_1', e, s0, k1, n1, r0, nI_plus, e1, e2, e3, e4, u2_jn, jn_a, clsL, ih (i + 1) _ (show i + 1 + d = n - 1 by omega), bI_0, bI_t, bI_f, e10, isA30, isA31, isA33, isA40, isA42, isA43, rOkB0, rOkB1, rOkB, Ret_v, Ret_n, cmp_eq, cmp_lt, cmp_gt, nI_1, eq_self, if_true, if_false, reduceIte]
theorem c_M_closes (hS : MxS R S) (hb : b + n ≤ 305) (hk : k < n) : Wp 187 0 [.ref 187, .int (nI b), .int (nI n), .int (nI k), nov] [] I (jn J f) R S Q = Q 0 none I (jn J (clsF f b n k)) R S := by
  have l := l_M_closes (I := I) (J := J) (Q := Q) hS hb (by omega) (k0 := nI k) (n - 1 - k) k f (by omega)
  simp only [x_M_closes_0, x_M_closes_1, x_M_closes_5, x_M_closes_6, x_M_closes_7, x_M_closes_8, x_M_closes_11, x_M_closes_12, x_M_closes_15, x_M_closes_16, x_M_closes_18, x_M_closes_19, x_M_closes_20, x_M_closes_23, x_M_closes_24, x_M_closes_26, x_M_closes_27, x_M_closes_28, x_M_closes_29, x_M_closes_30, x_M_closes_31, x_M_closes_34, x_M_closes_37, x_M_closes_38, x_M_closes_41, x_M_closes_42, x_M_closes_43, x_M_closes_44, x_M_closes_45, x_M_closes_46, x_M_closes_47, x_M_closes_48, l, bI_0, bI_t, bI_f, e10, isA30, isA31, isA33, isA40, isA42, isA43, rOkB0, rOkB1, rOkB, Ret_v, Ret_n, cmp_eq, cmp_lt, cmp_gt, nI_1, eq_self, if_true, if_false, reduceIte]
  rfl
theorem l_M_opens (hS : MxS R S) (hb : b + n < 305) {n0 : Int32} (hk : k ≤ n) : ∀ (d i : Nat) (f : Nat → Int64), k + d = i → i ≤ n → Wp 188 3 [.ref 187, .int (nI b), .int n0, .int (nI k), .long v, nov, .int (nI i)] [] I (jn J f) R S Q = Q 0 none I (jn J (ju (opnL f b i d) (b + k) v)) R S := by
  obtain ⟨s0, k1, n1, r0⟩ := hS
  intro d
  induction d with
  | zero =>
    intro i f hi hn
    have e : ¬ nI k < nI i := nI_nlt (by omega) (by omega)
    have e1 := inb_nI (i := b + k) (n := 305) (by omega) (by omega)
    have e2 : ix (nI (b + k)) = b + k := ix_nI (by omega)
    rw [x_M_opens_3]
    simp only [x_M_opens_0, x_M_opens_1, x_M_opens_5, x_M_opens_6, x_M_opens_9, x_M_opens_10, x_M_opens_13, x_M_opens_14, x_M_opens_16, x_M_opens_17, x_M_opens_18, x_M_opens_21, x_M_opens_22, x_M_opens_24, x_M_opens_25, x_M_opens_26, x_M_opens_27, x_M_opens_28, x_M_opens_29, x_M_opens_32, x_M_opens_35, x_M_opens_36, x_M_opens_39, x_M_opens_40, x_M_opens_41, x_M_opens_42, x_M_opens_44, x_M_opens_45, e, s0, k1, n1, r0, nI_plus, e1, e2, u2_jn, opnL, bI_0, bI_t, bI_f, e10, isA30, isA31, isA33, isA40, isA42, isA43, rOkB0, rOkB1, rOkB, Ret_v, Ret_n, cmp_eq, cmp_lt, cmp_gt, nI_1, eq_self, if_true, if_false, reduceIte]
  | succ d ih =>
    intro i f hi hn
    have e : nI k < nI i := nI_lt (by omega) (by omega)
    have e1 := inb_nI (i := b + i) (n := 305) (by omega) (by omega)
    have e2 : ix (nI (b + i)) = b + i := ix_nI (by omega)
    have e0 : nI (b + i) - 1 = nI (b + i - 1) := nI_sub (b := 1) (by omega)
    have e3 := inb_nI (i := b + i - 1) (n := 305) (by omega) (by omega)
    have e4 : ix (nI (b + i - 1)) = b + i - 1 := ix_nI (by omega)
    have e5 : nI i + -1 = nI (i - 1) := by rw [show i = i - 1 + 1 by omega, nI_m]; simp
    rw [x_M_opens_3]
    simp only [x_M_opens_0, x_M_opens_1, x_M_opens_5, x_M_opens_6, x_M_opens_9, x_M_opens_10, x_M_opens_13, x_M_opens_14, x_M_opens_16, x_M_opens_17, x_M_opens_18, x_M_opens_21, x_M_opens_22, x_M_opens_24, x_M_opens_25, x_M_opens_26, x_M_opens_27, x_M_opens_28, x_M_opens_29, x_M_opens_32, x_M_opens_35, x_M_opens_36, x_M_opens_39, x_M_opens_40, x_M_opens_41, x_M_opens_42, x_M_opens_44, x_M_opens_45, e, s0, k1, n1, r0, nI_plus, e0, e1, e2, e3, e4, e5, u2_jn, jn_a, opnL, ih (i - 1) _ (show k + d = i - 1 by omega) (by omega), bI_0, bI_t, bI_f, e10, isA30, isA31, isA33, isA40, isA42, isA43, rOkB0, rOkB1, rOkB, Ret_v, Ret_n, cmp_eq, cmp_lt, cmp_gt, nI_1, eq_self, if_true, if_false, reduceIte]
theorem c_M_opens (hS : MxS R S) (hb : b + n < 305) (hk : k ≤ n) : Wp 188 0 [.ref 187, .int (nI b), .int (nI n), .int (nI k), .long v, nov, nov] [] I (jn J f) R S Q = Q 0 none I (jn J (opnF f b n k v)) R S := by
  have l := l_M_opens (I := I) (J := J) (Q := Q) (v := v) hS hb (n0 := nI n) hk (n - k) n f (by omega) (by omega)
  simp only [x_M_opens_0, x_M_opens_1, x_M_opens_5, x_M_opens_6, x_M_opens_9, x_M_opens_10, x_M_opens_13, x_M_opens_14, x_M_opens_16, x_M_opens_17, x_M_opens_18, x_M_opens_21, x_M_opens_22, x_M_opens_24, x_M_opens_25, x_M_opens_26, x_M_opens_27, x_M_opens_28, x_M_opens_29, x_M_opens_32, x_M_opens_35, x_M_opens_36, x_M_opens_39, x_M_opens_40, x_M_opens_41, x_M_opens_42, x_M_opens_44, x_M_opens_45, l, bI_0, bI_t, bI_f, e10, isA30, isA31, isA33, isA40, isA42, isA43, rOkB0, rOkB1, rOkB, Ret_v, Ret_n, cmp_eq, cmp_lt, cmp_gt, nI_1, eq_self, if_true, if_false, reduceIte]
  rfl
theorem l_M_ahead (hS : MxS R S) (hb : b + n ≤ 305) (hw : isW w = true) (hf : ∀ i, i < n → isW (f (b + i)) = true) : ∀ k i : Nat, i + k = n → Wp 189 3 [.ref 187, .int (nI b), .int (nI n), .long w, nov, .int (nI i)] [] I (jn J f) R S Q = Q 0 (some (.int (nI (fd (fun k => !decide (alg (f (b + k)) < alg w)) i k)))) I (jn J f) R S := by
  obtain ⟨k0, k1, n1, r0⟩ := hS
  intro k
  induction k with
  | zero =>
    intro i hi
    have e : ¬ nI i < nI n := nI_nlt (by omega) (by omega)
    rw [x_M_ahead_3]
    simp only [x_M_ahead_0, x_M_ahead_1, x_M_ahead_5, x_M_ahead_6, x_M_ahead_9, x_M_ahead_10, x_M_ahead_13, x_M_ahead_14, x_M_ahead_16, x_M_ahead_17, x_M_ahead_18, x_M_ahead_21, x_M_ahead_22, x_M_ahead_25, x_M_ahead_26, x_M_ahead_29, x_M_ahead_32, x_M_ahead_35, x_M_ahead_37, e, fd, bI_0, bI_t, bI_f, e10, isA30, isA31, isA33, isA40, isA42, isA43, rOkB0, rOkB1, rOkB, Ret_v, Ret_n, cmp_eq, cmp_lt, cmp_gt, nI_1, eq_self, if_true, if_false, reduceIte]
  | succ k ih =>
    intro i hi
    have e : nI i < nI n := nI_lt (by omega) (by omega)
    have e1 := inb_nI (i := b + i) (n := 305) (by omega) (by omega)
    have e2 : ix (nI (b + i)) = b + i := ix_nI (by omega)
    have o1 := fun Q' => c_M_order (Q := Q') (I := I) (J := jn J f) (R := R) (S := S) (hf i (by omega))
    have o2 := fun Q' => c_M_order (Q := Q') (I := I) (J := jn J f) (R := R) (S := S) hw
    have a1 := alg_lt (hf i (by omega))
    have a2 := alg_lt hw
    have l := lW_lt (a := alg (f (b + i))) (b := alg w) (by omega) (by omega)
    rw [x_M_ahead_3]
    by_cases q : alg (f (b + i)) < alg w
    · simp only [x_M_ahead_0, x_M_ahead_1, x_M_ahead_5, x_M_ahead_6, x_M_ahead_9, x_M_ahead_10, x_M_ahead_13, x_M_ahead_14, x_M_ahead_16, x_M_ahead_17, x_M_ahead_18, x_M_ahead_21, x_M_ahead_22, x_M_ahead_25, x_M_ahead_26, x_M_ahead_29, x_M_ahead_32, x_M_ahead_35, x_M_ahead_37, e, k0, k1, n1, r0, nI_plus, nI_1', e1, e2, jn_a, o1, o2, l, q, fd, decide_true, Bool.not_true, Bool.false_eq_true, ih (i + 1) (by omega), bI_0, bI_t, bI_f, e10, isA30, isA31, isA33, isA40, isA42, isA43, rOkB0, rOkB1, rOkB, Ret_v, Ret_n, cmp_eq, cmp_lt, cmp_gt, nI_1, eq_self, if_true, if_false, reduceIte]
    · simp only [x_M_ahead_0, x_M_ahead_1, x_M_ahead_5, x_M_ahead_6, x_M_ahead_9, x_M_ahead_10, x_M_ahead_13, x_M_ahead_14, x_M_ahead_16, x_M_ahead_17, x_M_ahead_18, x_M_ahead_21, x_M_ahead_22, x_M_ahead_25, x_M_ahead_26, x_M_ahead_29, x_M_ahead_32, x_M_ahead_35, x_M_ahead_37, e, k0, k1, n1, r0, nI_plus, e1, e2, jn_a, o1, o2, l, q, fd, decide_false, Bool.not_false, bI_0, bI_t, bI_f, e10, isA30, isA31, isA33, isA40, isA42, isA43, rOkB0, rOkB1, rOkB, Ret_v, Ret_n, cmp_eq, cmp_lt, cmp_gt, nI_1, eq_self, if_true, if_false, reduceIte]
theorem c_M_ahead (hS : MxS R S) (hb : b + n ≤ 305) (hw : isW w = true) (hf : ∀ i, i < n → isW (f (b + i)) = true) : Wp 189 0 [.ref 187, .int (nI b), .int (nI n), .long w, nov, nov] [] I (jn J f) R S Q = Q 0 (some (.int (nI (ahF f b n w)))) I (jn J f) R S := by
  have l := l_M_ahead (I := I) (J := J) (Q := Q) hS hb hw hf n 0 (by omega)
  rw [nI_0] at l
  simp only [x_M_ahead_0, x_M_ahead_1, x_M_ahead_5, x_M_ahead_6, x_M_ahead_9, x_M_ahead_10, x_M_ahead_13, x_M_ahead_14, x_M_ahead_16, x_M_ahead_17, x_M_ahead_18, x_M_ahead_21, x_M_ahead_22, x_M_ahead_25, x_M_ahead_26, x_M_ahead_29, x_M_ahead_32, x_M_ahead_35, x_M_ahead_37, l, bI_0, bI_t, bI_f, e10, isA30, isA31, isA33, isA40, isA42, isA43, rOkB0, rOkB1, rOkB, Ret_v, Ret_n, cmp_eq, cmp_lt, cmp_gt, nI_1, eq_self, if_true, if_false, reduceIte]
  rfl
/-! columns -/
def col (f : Nat → Int64) (b n : Nat) (c : Nat → Int64) : Prop := ∀ i, i < n → f (b + i) = c i
theorem clsL_at : ∀ (d i : Nat) (f : Nat → Int64) (j : Nat), clsL f b i d j = if b + i ≤ j ∧ j < b + i + d then f (j + 1) else f j
  | 0, i, f, j => by
    simp only [clsL]
    rw [if_neg (by omega)]
  | d + 1, i, f, j => by
    simp only [clsL]
    rw [clsL_at d (i + 1)]
    by_cases q : b + i ≤ j ∧ j < b + i + (d + 1)
    · rw [if_pos q]
      by_cases q2 : j = b + i
      · rw [if_neg (by omega), q2, ju_eq]
      · rw [if_pos (by omega), ju_of (by omega)]
    · rw [if_neg q, if_neg (by omega), ju_of (by omega)]
theorem opnL_at : ∀ (d i : Nat) (f : Nat → Int64) (j : Nat), d ≤ i → opnL f b i d j = if b + i < j + d ∧ j ≤ b + i then f (j - 1) else f j
  | 0, i, f, j, _ => by
    simp only [opnL]
    rw [if_neg (by omega)]
  | d + 1, i, f, j, h => by
    simp only [opnL]
    rw [opnL_at d (i - 1) _ j (by omega)]
    by_cases q : b + i < j + (d + 1) ∧ j ≤ b + i
    · rw [if_pos q]
      by_cases q2 : j = b + i
      · rw [if_neg (by omega), q2, ju_eq]
      · rw [if_pos (by omega), ju_of (by omega)]
    · rw [if_neg q, if_neg (by omega), ju_of (by omega)]
theorem cls_out (h : j < b ∨ b + n ≤ j) (hk : k < n) : clsF f b n k j = f j := by
  unfold clsF
  rw [ju_of (by omega), clsL_at, if_neg (by omega)]
theorem opn_out (h : j < b ∨ b + n < j) (hk : k ≤ n) : opnF f b n k v j = f j := by
  unfold opnF
  rw [ju_of (by omega), opnL_at _ _ _ _ (by omega), if_neg (by omega)]
theorem cls_col {c : Nat → Int64} (h : col f b n c) (hk : k < n) : col (clsF f b n k) b (n - 1) (fun i => if i < k then c i else c (i + 1)) := by
  intro i hi
  unfold clsF
  rw [ju_of (by omega), clsL_at]
  dsimp only
  by_cases q : i < k
  · rw [if_neg (by omega), if_pos q]; exact h i (by omega)
  · rw [if_pos (by omega), if_neg q]; exact h (i + 1) (by omega)
theorem opn_col {c : Nat → Int64} (h : col f b n c) (hk : k ≤ n) : col (opnF f b n k v) b (n + 1) (fun i => if i < k then c i else if i = k then v else c (i - 1)) := by
  intro i hi
  unfold opnF
  dsimp only
  by_cases q : i = k
  · rw [q, ju_eq, if_neg (by omega), if_pos rfl]
  · rw [ju_of (by omega), opnL_at _ _ _ _ (by omega)]
    by_cases q2 : i < k
    · rw [if_neg (by omega), if_pos q2]; exact h i (by omega)
    · rw [if_pos (by omega), if_neg q2, if_neg q, show b + i - 1 = b + (i - 1) by omega]; exact h (i - 1) (by omega)
theorem col_of {c : Nat → Int64} (h : col f b n c) (hg : ∀ i, i < n → g (b + i) = f (b + i)) : col g b n c := fun i hi => (hg i hi).trans (h i hi)
end MB
