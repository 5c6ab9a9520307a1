/-! numbers and truth values -/
def bI (c : Bool) : Int32 := if c = true then 1 else 0
theorem bI_0 (c : Bool) : (bI c = 0) ↔ c = false := by cases c <;> decide
theorem bI_t : bI true = 1 := by decide
theorem bI_f : bI false = 0 := by decide
theorem isA30 : isArr 30 = true := by decide
theorem isA31 : isArr 31 = true := by decide
theorem isA33 : isArr 33 = true := by decide
theorem isA40 : isArr 40 = true := by decide
theorem isA42 : isArr 42 = true := by decide
theorem isA43 : isArr 43 = true := by decide
theorem rOkB0 : rOk (some .boolean) 0 = true := by decide
theorem rOkB1 : rOk (some .boolean) 1 = true := by decide
theorem rOkB {c : Bool} : rOk (some .boolean) (bI c) = true := by cases c <;> decide
theorem inb_nI {i n : Nat} (h : i < n) (h2 : n < 2 ^ 31) : inb (nI i) n = true := by
  unfold inb
  rw [nI_toInt (by omega)]
  simp
  omega
theorem ix_nI {i : Nat} (h : i < 2 ^ 31) : ix (nI i) = i := nI_clamp h
/-- the first place from i on, among k, that p takes; -1 if none -/
def fsI (p : Nat → Bool) (i : Nat) : Nat → Int32
  | 0 => -1
  | k + 1 => if p i = true then nI i else fsI p (i + 1) k
/-! Rows: a table of two words and a number. Its places: the object b, its arrays b+1, b+2, b+3. -/
def RwS (R : MR) (S : Sh) (b cap : Nat) : Prop := S.1 b = 4 ∧ S.1 (b + 1) = 31 ∧ S.1 (b + 2) = 31 ∧ S.1 (b + 3) = 30 ∧ S.2.1 (b + 1) = cap ∧ S.2.1 (b + 2) = cap ∧ S.2.1 (b + 3) = cap ∧ R b 0 = .ref (b + 1) ∧ R b 1 = .ref (b + 2) ∧ R b 2 = .ref (b + 3)
section RW
variable {I : MI} {J : MJ} {R : MR} {S : Sh} {Q : SkQ} {b cap n : Nat}
theorem c_R_size (h : RwS R S b cap) : Wp 104 0 [.ref b] [] I J R S Q = Q 0 (some (.int (I b 3))) I J R S := by
  obtain ⟨k0, k1, k2, k3, n1, n2, n3, r0, r1, r2⟩ := h
  simp only [x_R_size_0, x_R_size_1, x_R_size_4, k0]
theorem c_R_isFull (h : RwS R S b cap) (hn : I b 3 = nI n) (hc : n ≤ cap) (hc2 : cap < 2 ^ 31) : Wp 105 0 [.ref b] [] I J R S Q = Q 0 (some (.int (bI (decide (cap ≤ n))))) I J R S := by
  obtain ⟨k0, k1, k2, k3, n1, n2, n3, r0, r1, r2⟩ := h
  simp only [x_R_isFull_0, x_R_isFull_1, x_R_isFull_4, x_R_isFull_5, x_R_isFull_8, x_R_isFull_9, x_R_isFull_12, x_R_isFull_13, x_R_isFull_16, x_R_isFull_17, bI_0, bI_t, bI_f, isA30, isA31, isA33, isA40, isA42, isA43, rOkB0, rOkB1, rOkB, Ret_v, Ret_n, cmp_eq, cmp_lt, cmp_gt, nI_1, eq_self, if_true, if_false, reduceIte, k0, r0, k1, n1, hn, nI_ltI (show n < 2 ^ 31 by omega) hc2]
  by_cases q : n < cap
  · rw [if_pos q, decide_eq_false (by omega), bI_f]
  · rw [if_neg q, decide_eq_true (by omega), bI_t]
theorem c_R_has (h : RwS R S b cap) (hn : I b 3 = nI n) (hn2 : n < 2 ^ 31) {i : Int32} : Wp 106 0 [.ref b, .int i] [] I J R S Q = Q 0 (some (.int (bI (inb i n)))) I J R S := by
  obtain ⟨k0, k1, k2, k3, n1, n2, n3, r0, r1, r2⟩ := h
  simp only [x_R_has_0, x_R_has_1, x_R_has_4, x_R_has_5, x_R_has_6, x_R_has_9, x_R_has_12, x_R_has_13, x_R_has_16, x_R_has_17, bI_0, bI_t, bI_f, isA30, isA31, isA33, isA40, isA42, isA43, rOkB0, rOkB1, rOkB, Ret_v, Ret_n, cmp_eq, cmp_lt, cmp_gt, nI_1, eq_self, if_true, if_false, reduceIte, k0, hn]
  unfold inb
  by_cases q : i < 0
  · rw [if_pos q, Int32.lt_iff_toInt_lt, Int32.toInt_zero] at *
    rw [decide_eq_false (by omega)]
    rfl
  · rw [if_neg q]
    rw [Int32.lt_iff_toInt_lt, Int32.toInt_zero] at q
    rw [decide_eq_true (show 0 ≤ i.toInt by omega), Bool.true_and]
    by_cases q2 : i < nI n
    · rw [if_pos q2]
      rw [Int32.lt_iff_toInt_lt, nI_toInt hn2] at q2
      rw [decide_eq_true q2]; rfl
    · rw [if_neg q2]
      rw [Int32.lt_iff_toInt_lt, nI_toInt hn2] at q2
      rw [decide_eq_false q2]; rfl
theorem l_R_find (h : RwS R S b cap) (hn : I b 3 = nI n) (hc : n ≤ cap) (hc2 : cap < 2 ^ 31) {w u : Int64} : ∀ k i : Nat, i + k = n → Wp 112 3 [.ref b, .long w, nov, .long u, nov, .int (nI i)] [] I J R S Q = Q 0 (some (.int (fsI (fun i => decide (J (b + 1) i = w) && decide (J (b + 2) i = u)) i k))) I J R S := by
  obtain ⟨k0, k1, k2, k3, n1, n2, n3, r0, r1, r2⟩ := h
  intro k
  induction k with
  | zero =>
    intro i hi
    have hlt : ¬ nI i < I b 3 := by rw [hn]; exact nI_nlt (by omega) (by omega)
    rw [x_R_find_3]
    simp only [x_R_find_0, x_R_find_1, x_R_find_5, x_R_find_6, x_R_find_9, x_R_find_12, x_R_find_13, x_R_find_16, x_R_find_18, x_R_find_19, x_R_find_20, x_R_find_21, x_R_find_24, x_R_find_25, x_R_find_28, x_R_find_30, x_R_find_31, x_R_find_32, x_R_find_33, x_R_find_36, x_R_find_38, x_R_find_39, x_R_find_42, x_R_find_45, x_R_find_46, k0, hlt, bI_0, bI_t, bI_f, isA30, isA31, isA33, isA40, isA42, isA43, rOkB0, rOkB1, rOkB, Ret_v, Ret_n, cmp_eq, cmp_lt, cmp_gt, nI_1, eq_self, if_true, if_false, reduceIte, fsI]
  | succ k ih =>
    intro i hi
    have hlt : nI i < I b 3 := by rw [hn]; exact nI_lt (by omega) (by omega)
    have hin : inb (nI i) cap = true := inb_nI (by omega) hc2
    have hix : ix (nI i) = i := ix_nI (by omega)
    rw [x_R_find_3]
    simp only [x_R_find_0, x_R_find_1, x_R_find_5, x_R_find_6, x_R_find_9, x_R_find_12, x_R_find_13, x_R_find_16, x_R_find_18, x_R_find_19, x_R_find_20, x_R_find_21, x_R_find_24, x_R_find_25, x_R_find_28, x_R_find_30, x_R_find_31, x_R_find_32, x_R_find_33, x_R_find_36, x_R_find_38, x_R_find_39, x_R_find_42, x_R_find_45, x_R_find_46, k0, k1, k2, r0, r1, n1, n2, hin, hix, hlt, bI_0, bI_t, bI_f, isA30, isA31, isA33, isA40, isA42, isA43, rOkB0, rOkB1, rOkB, Ret_v, Ret_n, cmp_eq, cmp_lt, cmp_gt, nI_1, eq_self, if_true, if_false, reduceIte, ih (i + 1) (by omega), fsI]
    by_cases hw : J (b + 1) i = w <;> by_cases hu : J (b + 2) i = u <;> simp [hw, hu]
theorem c_R_find (h : RwS R S b cap) (hn : I b 3 = nI n) (hc : n ≤ cap) (hc2 : cap < 2 ^ 31) {w u : Int64} : Wp 112 0 [.ref b, .long w, nov, .long u, nov, nov] [] I J R S Q = Q 0 (some (.int (fsI (fun i => decide (J (b + 1) i = w) && decide (J (b + 2) i = u)) 0 n))) I J R S := by
  rw [x_R_find_0, x_R_find_1]
  exact l_R_find h hn hc hc2 n 0 (Nat.zero_add n)
end RW

