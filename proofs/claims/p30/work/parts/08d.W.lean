/-! words as natural numbers -/
def lW (n : Nat) : Int64 := Int64.ofNat n
theorem lW_toInt {n : Nat} (h : n < 2 ^ 63) : (lW n).toInt = (n : Int) := Int64.toInt_ofNat_of_lt h
theorem lW_inj {a b : Nat} (ha : a < 2 ^ 63) (hb : b < 2 ^ 63) : lW a = lW b ↔ a = b := by
  rw [← Int64.toInt_inj, lW_toInt ha, lW_toInt hb]
  omega
theorem lW_lt {a b : Nat} (ha : a < 2 ^ 63) (hb : b < 2 ^ 63) : lW a < lW b ↔ a < b := by
  rw [Int64.lt_iff_toInt_lt, lW_toInt ha, lW_toInt hb]
  omega
theorem lW_of {w : Int64} (h : 0 ≤ w.toInt) : w = lW w.toInt.toNat ∧ w.toInt.toNat < 2 ^ 63 := by
  have a : w.toInt < 2 ^ 63 := Int64.toInt_lt w
  have b : w.toInt.toNat < 2 ^ 63 := by omega
  refine ⟨?_, b⟩
  rw [← Int64.toInt_inj, lW_toInt b]
  omega
theorem sh_amt : ∀ k : Nat, k < 64 → ((nI k).toInt64 &&& 63).toBitVec.smod 64 = BitVec.ofNat 64 k := by decide +kernel
theorem lW_shr {n k : Nat} (hn : n < 2 ^ 63) (hk : k < 64) : lW n >>> ((nI k).toInt64 &&& 63) = lW (n / 2 ^ k) := by
  have h2 : n / 2 ^ k < 2 ^ 63 := Nat.lt_of_le_of_lt (Nat.div_le_self _ _) hn
  rw [← Int64.toInt_inj, lW_toInt h2]
  show (BitVec.sshiftRight' (lW n).toBitVec (((nI k).toInt64 &&& 63).toBitVec.smod 64)).toInt = _
  rw [sh_amt k hk, BitVec.toInt_sshiftRight', BitVec.toNat_ofNat, Nat.mod_eq_of_lt (by omega : k < 2 ^ 64), Int.shiftRight_eq_div_pow]
  rw [show (lW n).toBitVec.toInt = (n : Int) from lW_toInt hn]
  exact Int.natCast_ediv n (2 ^ k)
theorem lW_toNat {n : Nat} (h : n < 2 ^ 63) : (lW n).toBitVec.toNat = n := by
  show (BitVec.ofNat 64 n).toNat = n
  rw [BitVec.toNat_ofNat, Nat.mod_eq_of_lt (by omega)]
theorem lW_nat {x : Int64} {n : Nat} (h : n < 2 ^ 63) (e : x.toBitVec.toNat = n) : x = lW n := by
  apply Int64.toBitVec.inj
  apply BitVec.eq_of_toNat_eq
  rw [e, lW_toNat h]
theorem lW_shl {n k : Nat} (hk : k < 64) (h : n * 2 ^ k < 2 ^ 63) (hn : n < 2 ^ 63) : lW n <<< ((nI k).toInt64 &&& 63) = lW (n * 2 ^ k) := by
  apply lW_nat h
  show ((lW n).toBitVec <<< (((nI k).toInt64 &&& 63).toBitVec.smod 64)).toNat = _
  rw [sh_amt k hk, BitVec.shiftLeft_eq', BitVec.toNat_ofNat, Nat.mod_eq_of_lt (by omega : k < 2 ^ 64), BitVec.toNat_shiftLeft, lW_toNat hn, Nat.shiftLeft_eq, Nat.mod_eq_of_lt (by omega)]
theorem lW_and {n : Nat} (hn : n < 2 ^ 63) : lW n &&& 31 = lW (n % 32) := by
  apply lW_nat (by omega)
  show ((lW n).toBitVec &&& (BitVec.ofNat 64 31)).toNat = _
  rw [BitVec.toNat_and, lW_toNat hn]
  exact Nat.and_two_pow_sub_one_eq_mod n 5
theorem lW_or {n c : Nat} (hn : n * 32 + c < 2 ^ 63) (hc : c < 32) : lW (n * 32) ||| lW c = lW (n * 32 + c) := by
  apply lW_nat hn
  show ((lW (n * 32)).toBitVec ||| (lW c).toBitVec).toNat = _
  rw [BitVec.toNat_or, lW_toNat (by omega), lW_toNat (by omega)]
  have := Nat.two_pow_add_eq_or_of_lt (i := 5) hc n
  rw [show n * 32 = 2 ^ 5 * n by omega]
  exact this.symm
theorem lW_i {n : Nat} (h : n < 2 ^ 31) : (lW n).toInt32 = nI n := by
  rw [← Int32.toInt_inj, nI_toInt h, Int64.toInt_toInt32, lW_toInt (by omega)]
  exact Int.bmod_eq_of_le (by omega) (by omega)
theorem nI_lw {n : Nat} (h : n < 2 ^ 31) : (nI n).toInt64 = lW n := by
  rw [← Int64.toInt_inj, lW_toInt (by omega), Int32.toInt_toInt64, nI_toInt h]
theorem nI_mul (a b : Nat) : nI a * nI b = nI (a * b) := (Int32.ofNat_mul a b).symm
theorem nI_plus (a b : Nat) : nI a + nI b = nI (a + b) := (Int32.ofNat_add a b).symm
theorem nI_sub {a b : Nat} (h : b ≤ a) : nI a - nI b = nI (a - b) := by
  have e : nI a = nI (a - b) + nI b := by rw [nI_plus, Nat.sub_add_cancel h]
  rw [e, Int32.sub_eq_add_neg, Int32.add_assoc, ← Int32.sub_eq_add_neg, Int32.sub_self, Int32.add_zero]
theorem lW_0 : lW 0 = 0 := by decide
theorem lW_1 : lW 1 = 1 := by decide
theorem lW_26 : lW 26 = 26 := by decide
/-- how many letters, at most k; whether all of at most k letters are letters -/
def wlF : Nat → Nat → Nat
  | 0, _ => 0
  | k + 1, n => if n = 0 then 0 else wlF k (n / 32) + 1
def wOk : Nat → Nat → Bool
  | 0, _ => true
  | k + 1, n => if n = 0 then true else decide (1 ≤ n % 32 ∧ n % 32 ≤ 26) && wOk k (n / 32)
def isW (w : Int64) : Bool := decide (0 < w.toInt) && decide (w.toInt < 2 ^ 40) && wOk 8 w.toInt.toNat
theorem isW_of {w : Int64} (h : isW w = true) : ∃ n, w = lW n ∧ 0 < n ∧ n < 2 ^ 40 ∧ wOk 8 n = true := by
  unfold isW at h
  simp only [Bool.and_eq_true, decide_eq_true_eq] at h
  obtain ⟨⟨h1, h2⟩, h3⟩ := h
  refine ⟨w.toInt.toNat, (lW_of (by omega)).1, by omega, by omega, h3⟩
theorem isW_lW {n : Nat} (h : n < 2 ^ 63) : isW (lW n) = (decide (0 < n) && decide (n < 2 ^ 40) && wOk 8 n) := by
  unfold isW
  rw [lW_toInt h, Int.toNat_natCast, decide_eq_decide.mpr (show (0 : Int) < (n : Int) ↔ 0 < n by omega), decide_eq_decide.mpr (show (n : Int) < 2 ^ 40 ↔ n < 2 ^ 40 by omega)]
theorem wlF_0 (k : Nat) : wlF k 0 = 0 := by cases k <;> simp [wlF]
theorem wlF_le : ∀ k n, wlF k n ≤ k
  | 0, _ => by simp [wlF]
  | k + 1, n => by
    simp only [wlF]
    split
    · omega
    · have := wlF_le k (n / 32); omega
theorem div_div32 (n i : Nat) : n / 2 ^ (5 * i) / 32 = n / 2 ^ (5 * (i + 1)) := by
  rw [Nat.div_div_eq_div_mul, show 5 * (i + 1) = 5 * i + 5 by omega, Nat.pow_add]
section WD
variable {I : MI} {J : MJ} {R : MR} {S : Sh} {Q : SkQ} {n : Nat}
theorem l_W_lengthOf (hn : n < 2 ^ 63) : ∀ k i : Nat, i + k = 8 → Wp 168 2 [.long (lW n), nov, .int (nI i)] [] I J R S Q = Q 0 (some (.int (nI (i + wlF k (n / 2 ^ (5 * i)))))) I J R S := by
  intro k
  induction k with
  | zero =>
    intro i hi
    have : i = 8 := by omega
    subst this
    have hlt : ¬ nI 8 < 8 := by decide
    rw [x_W_lengthOf_2]
    simp only [x_W_lengthOf_0, x_W_lengthOf_1, x_W_lengthOf_3, x_W_lengthOf_5, x_W_lengthOf_8, x_W_lengthOf_9, x_W_lengthOf_10, x_W_lengthOf_11, x_W_lengthOf_12, x_W_lengthOf_13, x_W_lengthOf_14, x_W_lengthOf_15, x_W_lengthOf_18, x_W_lengthOf_19, x_W_lengthOf_20, x_W_lengthOf_23, x_W_lengthOf_26, x_W_lengthOf_28, hlt, bI_0, bI_t, bI_f, e10, isA30, isA31, isA33, isA40, isA42, isA43, rOkB0, rOkB1, rOkB, Ret_v, Ret_n, cmp_eq, cmp_lt, cmp_gt, nI_1, eq_self, if_true, if_false, reduceIte, wlF, Nat.add_zero]
    rfl
  | succ k ih =>
    intro i hi
    have hlt : nI i < 8 := by rw [show (8 : Int32) = nI 8 by decide]; exact nI_lt (by omega) (by omega)
    have h5 : (5 : Int32) * nI i = nI (5 * i) := by rw [show (5 : Int32) = nI 5 by decide, nI_mul]
    have hs := lW_shr (k := 5 * i) hn (by omega)
    have hb : n / 2 ^ (5 * i) < 2 ^ 63 := Nat.lt_of_le_of_lt (Nat.div_le_self _ _) hn
    have hz := lW_inj hb (show 0 < 2 ^ 63 by omega)
    rw [lW_0] at hz
    rw [x_W_lengthOf_2]
    by_cases q : n / 2 ^ (5 * i) = 0
    · simp only [x_W_lengthOf_0, x_W_lengthOf_1, x_W_lengthOf_3, x_W_lengthOf_5, x_W_lengthOf_8, x_W_lengthOf_9, x_W_lengthOf_10, x_W_lengthOf_11, x_W_lengthOf_12, x_W_lengthOf_13, x_W_lengthOf_14, x_W_lengthOf_15, x_W_lengthOf_18, x_W_lengthOf_19, x_W_lengthOf_20, x_W_lengthOf_23, x_W_lengthOf_26, x_W_lengthOf_28, hlt, bI_0, bI_t, bI_f, e10, isA30, isA31, isA33, isA40, isA42, isA43, rOkB0, rOkB1, rOkB, Ret_v, Ret_n, cmp_eq, cmp_lt, cmp_gt, nI_1, eq_self, if_true, if_false, reduceIte, h5, hs, hz, q, lW_0, wlF, Nat.add_zero]
    · simp only [x_W_lengthOf_0, x_W_lengthOf_1, x_W_lengthOf_3, x_W_lengthOf_5, x_W_lengthOf_8, x_W_lengthOf_9, x_W_lengthOf_10, x_W_lengthOf_11, x_W_lengthOf_12, x_W_lengthOf_13, x_W_lengthOf_14, x_W_lengthOf_15, x_W_lengthOf_18, x_W_lengthOf_19, x_W_lengthOf_20, x_W_lengthOf_23, x_W_lengthOf_26, x_W_lengthOf_28, hlt, bI_0, bI_t, bI_f, e10, isA30, isA31, isA33, isA40, isA42, isA43, rOkB0, rOkB1, rOkB, Ret_v, Ret_n, cmp_eq, cmp_lt, cmp_gt, nI_1, eq_self, if_true, if_false, reduceIte, h5, hs, hz, q, lW_0, nI_1', ih (i + 1) (by omega), wlF, div_div32]
      rw [show i + 1 + wlF k (n / 2 ^ (5 * (i + 1))) = i + (wlF k (n / 2 ^ (5 * (i + 1))) + 1) by omega]
theorem c_W_lengthOf (hn : n < 2 ^ 63) : Wp 168 0 [.long (lW n), nov, nov] [] I J R S Q = Q 0 (some (.int (nI (wlF 8 n)))) I J R S := by
  have l := l_W_lengthOf (Q := Q) (I := I) (J := J) (R := R) (S := S) hn 8 0 (by omega)
  rw [nI_0, Nat.zero_add, Nat.mul_zero, Nat.pow_zero, Nat.div_one] at l
  rw [x_W_lengthOf_0, x_W_lengthOf_1]
  exact l
/-- the letter that has i letters behind it -/
def letB (n i : Nat) : Int32 := nI (n / 2 ^ (5 * i) % 32) - 1
theorem c_W_letterFromEnd (hn : n < 2 ^ 63) {i : Nat} (hi : i < 12) : Wp 170 0 [.long (lW n), nov, .int (nI i)] [] I J R S Q = Q 0 (some (.int (letB n i))) I J R S := by
  have h5 : (5 : Int32) * nI i = nI (5 * i) := by rw [show (5 : Int32) = nI 5 by decide, nI_mul]
  have hs := lW_shr (k := 5 * i) hn (by omega)
  have hb : n / 2 ^ (5 * i) < 2 ^ 63 := Nat.lt_of_le_of_lt (Nat.div_le_self _ _) hn
  have h3 := lW_and hb
  have h4 := lW_i (n := n / 2 ^ (5 * i) % 32) (by omega)
  simp only [x_W_letterFromEnd_0, x_W_letterFromEnd_1, x_W_letterFromEnd_2, x_W_letterFromEnd_3, x_W_letterFromEnd_4, x_W_letterFromEnd_5, x_W_letterFromEnd_8, x_W_letterFromEnd_9, x_W_letterFromEnd_10, x_W_letterFromEnd_11, x_W_letterFromEnd_12, bI_0, bI_t, bI_f, e10, isA30, isA31, isA33, isA40, isA42, isA43, rOkB0, rOkB1, rOkB, Ret_v, Ret_n, cmp_eq, cmp_lt, cmp_gt, nI_1, eq_self, if_true, if_false, reduceIte, h5, hs, h3, h4]
  rfl
theorem l_W_isWord (hn : n < 2 ^ 63) : ∀ (k i : Nat) (l4 : Value), i + k = 8 → Wp 167 24 [.long (lW n), nov, .int (nI (i + wlF k (n / 2 ^ (5 * i)))), .int (nI i), l4, nov] [] I J R S Q = Q 0 (some (.int (bI (wOk k (n / 2 ^ (5 * i)))))) I J R S := by
  intro k
  induction k with
  | zero =>
    intro i l4 hi
    have hlt : ¬ nI i < nI (i + 0) := nI_nlt (by omega) (by omega)
    rw [x_W_isWord_24]
    simp only [x_W_isWord_0, x_W_isWord_1, x_W_isWord_2, x_W_isWord_3, x_W_isWord_6, x_W_isWord_7, x_W_isWord_9, x_W_isWord_10, x_W_isWord_11, x_W_isWord_12, x_W_isWord_15, x_W_isWord_16, x_W_isWord_17, x_W_isWord_18, x_W_isWord_21, x_W_isWord_22, x_W_isWord_23, x_W_isWord_25, x_W_isWord_26, x_W_isWord_29, x_W_isWord_30, x_W_isWord_31, x_W_isWord_32, x_W_isWord_33, x_W_isWord_34, x_W_isWord_37, x_W_isWord_38, x_W_isWord_40, x_W_isWord_42, x_W_isWord_43, x_W_isWord_44, x_W_isWord_47, x_W_isWord_49, x_W_isWord_52, x_W_isWord_53, x_W_isWord_56, x_W_isWord_57, x_W_isWord_58, x_W_isWord_61, x_W_isWord_64, x_W_isWord_65, hlt, bI_0, bI_t, bI_f, e10, isA30, isA31, isA33, isA40, isA42, isA43, rOkB0, rOkB1, rOkB, Ret_v, Ret_n, cmp_eq, cmp_lt, cmp_gt, nI_1, eq_self, if_true, if_false, reduceIte, wOk, wlF]
  | succ k ih =>
    intro i l4 hi
    have h5 : (5 : Int32) * nI i = nI (5 * i) := by rw [show (5 : Int32) = nI 5 by decide, nI_mul]
    have hs := lW_shr (k := 5 * i) hn (by omega)
    have hb : n / 2 ^ (5 * i) < 2 ^ 63 := Nat.lt_of_le_of_lt (Nat.div_le_self _ _) hn
    have h3 := lW_and hb
    have h6 := wlF_le k (n / 2 ^ (5 * i) / 32)
    rw [x_W_isWord_24]
    by_cases q : n / 2 ^ (5 * i) = 0
    · have hlt : ¬ nI i < nI (i + 0) := nI_nlt (by omega) (by omega)
      simp only [x_W_isWord_0, x_W_isWord_1, x_W_isWord_2, x_W_isWord_3, x_W_isWord_6, x_W_isWord_7, x_W_isWord_9, x_W_isWord_10, x_W_isWord_11, x_W_isWord_12, x_W_isWord_15, x_W_isWord_16, x_W_isWord_17, x_W_isWord_18, x_W_isWord_21, x_W_isWord_22, x_W_isWord_23, x_W_isWord_25, x_W_isWord_26, x_W_isWord_29, x_W_isWord_30, x_W_isWord_31, x_W_isWord_32, x_W_isWord_33, x_W_isWord_34, x_W_isWord_37, x_W_isWord_38, x_W_isWord_40, x_W_isWord_42, x_W_isWord_43, x_W_isWord_44, x_W_isWord_47, x_W_isWord_49, x_W_isWord_52, x_W_isWord_53, x_W_isWord_56, x_W_isWord_57, x_W_isWord_58, x_W_isWord_61, x_W_isWord_64, x_W_isWord_65, hlt, bI_0, bI_t, bI_f, e10, isA30, isA31, isA33, isA40, isA42, isA43, rOkB0, rOkB1, rOkB, Ret_v, Ret_n, cmp_eq, cmp_lt, cmp_gt, nI_1, eq_self, if_true, if_false, reduceIte, wOk, wlF, q]
    · have hlt : nI i < nI (i + (wlF k (n / 2 ^ (5 * i) / 32) + 1)) := nI_lt (by omega) (by omega)
      have e1 := lW_lt (a := n / 2 ^ (5 * i) % 32) (b := 1) (by omega) (by omega)
      have e2 := lW_lt (a := 26) (b := n / 2 ^ (5 * i) % 32) (by omega) (by omega)
      rw [lW_1] at e1
      rw [lW_26] at e2
      have l := fun x => ih (i + 1) x (by omega)
      rw [← div_div32, show i + 1 + wlF k (n / 2 ^ (5 * i) / 32) = i + (wlF k (n / 2 ^ (5 * i) / 32) + 1) by omega] at l
      by_cases q1 : n / 2 ^ (5 * i) % 32 < 1
      · simp only [x_W_isWord_0, x_W_isWord_1, x_W_isWord_2, x_W_isWord_3, x_W_isWord_6, x_W_isWord_7, x_W_isWord_9, x_W_isWord_10, x_W_isWord_11, x_W_isWord_12, x_W_isWord_15, x_W_isWord_16, x_W_isWord_17, x_W_isWord_18, x_W_isWord_21, x_W_isWord_22, x_W_isWord_23, x_W_isWord_25, x_W_isWord_26, x_W_isWord_29, x_W_isWord_30, x_W_isWord_31, x_W_isWord_32, x_W_isWord_33, x_W_isWord_34, x_W_isWord_37, x_W_isWord_38, x_W_isWord_40, x_W_isWord_42, x_W_isWord_43, x_W_isWord_44, x_W_isWord_47, x_W_isWord_49, x_W_isWord_52, x_W_isWord_53, x_W_isWord_56, x_W_isWord_57, x_W_isWord_58, x_W_isWord_61, x_W_isWord_64, x_W_isWord_65, hlt, bI_0, bI_t, bI_f, e10, isA30, isA31, isA33, isA40, isA42, isA43, rOkB0, rOkB1, rOkB, Ret_v, Ret_n, cmp_eq, cmp_lt, cmp_gt, nI_1, eq_self, if_true, if_false, reduceIte, wOk, wlF, q, h5, hs, h3, e1, q1, decide_eq_false (show ¬ (1 ≤ n / 2 ^ (5 * i) % 32 ∧ n / 2 ^ (5 * i) % 32 ≤ 26) by omega), Bool.false_and]
      · by_cases q2 : 26 < n / 2 ^ (5 * i) % 32
        · simp only [x_W_isWord_0, x_W_isWord_1, x_W_isWord_2, x_W_isWord_3, x_W_isWord_6, x_W_isWord_7, x_W_isWord_9, x_W_isWord_10, x_W_isWord_11, x_W_isWord_12, x_W_isWord_15, x_W_isWord_16, x_W_isWord_17, x_W_isWord_18, x_W_isWord_21, x_W_isWord_22, x_W_isWord_23, x_W_isWord_25, x_W_isWord_26, x_W_isWord_29, x_W_isWord_30, x_W_isWord_31, x_W_isWord_32, x_W_isWord_33, x_W_isWord_34, x_W_isWord_37, x_W_isWord_38, x_W_isWord_40, x_W_isWord_42, x_W_isWord_43, x_W_isWord_44, x_W_isWord_47, x_W_isWord_49, x_W_isWord_52, x_W_isWord_53, x_W_isWord_56, x_W_isWord_57, x_W_isWord_58, x_W_isWord_61, x_W_isWord_64, x_W_isWord_65, hlt, bI_0, bI_t, bI_f, e10, isA30, isA31, isA33, isA40, isA42, isA43, rOkB0, rOkB1, rOkB, Ret_v, Ret_n, cmp_eq, cmp_lt, cmp_gt, nI_1, eq_self, if_true, if_false, reduceIte, wOk, wlF, q, h5, hs, h3, e1, q1, e2, q2, decide_eq_false (show ¬ (1 ≤ n / 2 ^ (5 * i) % 32 ∧ n / 2 ^ (5 * i) % 32 ≤ 26) by omega), Bool.false_and]
        · simp only [x_W_isWord_0, x_W_isWord_1, x_W_isWord_2, x_W_isWord_3, x_W_isWord_6, x_W_isWord_7, x_W_isWord_9, x_W_isWord_10, x_W_isWord_11, x_W_isWord_12, x_W_isWord_15, x_W_isWord_16, x_W_isWord_17, x_W_isWord_18, x_W_isWord_21, x_W_isWord_22, x_W_isWord_23, x_W_isWord_25, x_W_isWord_26, x_W_isWord_29, x_W_isWord_30, x_W_isWord_31, x_W_isWord_32, x_W_isWord_33, x_W_isWord_34, x_W_isWord_37, x_W_isWord_38, x_W_isWord_40, x_W_isWord_42, x_W_isWord_43, x_W_isWord_44, x_W_isWord_47, x_W_isWord_49, x_W_isWord_52, x_W_isWord_53, x_W_isWord_56, x_W_isWord_57, x_W_isWord_58, x_W_isWord_61, x_W_isWord_64, x_W_isWord_65, hlt, bI_0, bI_t, bI_f, e10, isA30, isA31, isA33, isA40, isA42, isA43, rOkB0, rOkB1, rOkB, Ret_v, Ret_n, cmp_eq, cmp_lt, cmp_gt, nI_1, eq_self, if_true, if_false, reduceIte, wOk, wlF, q, h5, hs, h3, e1, q1, e2, q2, decide_eq_true (show (1 ≤ n / 2 ^ (5 * i) % 32 ∧ n / 2 ^ (5 * i) % 32 ≤ 26) by omega), Bool.true_and, nI_1', l]
theorem c_W_isWord {w : Int64} : Wp 167 0 [.long w, nov, nov, nov, nov, nov] [] I J R S Q = Q 0 (some (.int (bI (isW w)))) I J R S := by
  by_cases h : 0 < w.toInt
  · obtain ⟨e, hn⟩ := lW_of (w := w) (by omega)
    have h0 : 0 < w.toInt.toNat := by omega
    generalize w.toInt.toNat = n at e hn h0
    subst e
    have p0 : (0 : Int64) < lW n := by rw [← lW_0]; exact (lW_lt (by omega) hn).mpr h0
    have hs := lW_shr (k := 40) hn (by omega)
    rw [show nI 40 = 40 by decide] at hs
    have hb : n / 2 ^ 40 < 2 ^ 63 := Nat.lt_of_le_of_lt (Nat.div_le_self _ _) hn
    have hz := lW_inj hb (show 0 < 2 ^ 63 by omega)
    rw [lW_0] at hz
    rw [isW_lW hn, decide_eq_true h0, Bool.true_and]
    by_cases q : n / 2 ^ 40 = 0
    · have l := fun x => l_W_isWord (Q := Q) (I := I) (J := J) (R := R) (S := S) hn 8 0 x (by omega)
      rw [nI_0, Nat.zero_add, Nat.mul_zero, Nat.pow_zero, Nat.div_one] at l
      rw [decide_eq_true (show n < 2 ^ 40 by omega), Bool.true_and]
      simp only [x_W_isWord_0, x_W_isWord_1, x_W_isWord_2, x_W_isWord_3, x_W_isWord_6, x_W_isWord_7, x_W_isWord_9, x_W_isWord_10, x_W_isWord_11, x_W_isWord_12, x_W_isWord_17, x_W_isWord_18, x_W_isWord_21, x_W_isWord_22, x_W_isWord_23, bI_0, bI_t, bI_f, e10, isA30, isA31, isA33, isA40, isA42, isA43, rOkB0, rOkB1, rOkB, Ret_v, Ret_n, cmp_eq, cmp_lt, cmp_gt, nI_1, eq_self, if_true, if_false, reduceIte, p0, hs, hz, q, lW_0, c_W_lengthOf hn, l]
    · rw [decide_eq_false (show ¬ n < 2 ^ 40 by omega), Bool.false_and]
      simp only [x_W_isWord_0, x_W_isWord_1, x_W_isWord_2, x_W_isWord_3, x_W_isWord_6, x_W_isWord_7, x_W_isWord_9, x_W_isWord_10, x_W_isWord_11, x_W_isWord_12, x_W_isWord_15, x_W_isWord_16, x_W_isWord_17, x_W_isWord_18, x_W_isWord_21, x_W_isWord_22, x_W_isWord_23, x_W_isWord_25, x_W_isWord_26, x_W_isWord_29, x_W_isWord_30, x_W_isWord_31, x_W_isWord_32, x_W_isWord_33, x_W_isWord_34, x_W_isWord_37, x_W_isWord_38, x_W_isWord_40, x_W_isWord_42, x_W_isWord_43, x_W_isWord_44, x_W_isWord_47, x_W_isWord_49, x_W_isWord_52, x_W_isWord_53, x_W_isWord_56, x_W_isWord_57, x_W_isWord_58, x_W_isWord_61, x_W_isWord_64, x_W_isWord_65, bI_0, bI_t, bI_f, e10, isA30, isA31, isA33, isA40, isA42, isA43, rOkB0, rOkB1, rOkB, Ret_v, Ret_n, cmp_eq, cmp_lt, cmp_gt, nI_1, eq_self, if_true, if_false, reduceIte, p0, hs, hz, q, lW_0]
  · have p0 : ¬ (0 : Int64) < w := by rw [Int64.lt_iff_toInt_lt, Int64.toInt_zero]; exact h
    unfold isW
    rw [decide_eq_false h, Bool.false_and, Bool.false_and]
    simp only [x_W_isWord_0, x_W_isWord_1, x_W_isWord_2, x_W_isWord_3, x_W_isWord_6, x_W_isWord_7, x_W_isWord_9, x_W_isWord_10, x_W_isWord_11, x_W_isWord_12, x_W_isWord_15, x_W_isWord_16, x_W_isWord_17, x_W_isWord_18, x_W_isWord_21, x_W_isWord_22, x_W_isWord_23, x_W_isWord_25, x_W_isWord_26, x_W_isWord_29, x_W_isWord_30, x_W_isWord_31, x_W_isWord_32, x_W_isWord_33, x_W_isWord_34, x_W_isWord_37, x_W_isWord_38, x_W_isWord_40, x_W_isWord_42, x_W_isWord_43, x_W_isWord_44, x_W_isWord_47, x_W_isWord_49, x_W_isWord_52, x_W_isWord_53, x_W_isWord_56, x_W_isWord_57, x_W_isWord_58, x_W_isWord_61, x_W_isWord_64, x_W_isWord_65, bI_0, bI_t, bI_f, e10, isA30, isA31, isA33, isA40, isA42, isA43, rOkB0, rOkB1, rOkB, Ret_v, Ret_n, cmp_eq, cmp_lt, cmp_gt, nI_1, eq_self, if_true, if_false, reduceIte, p0]
/-- with the first letter in the highest of eight places -/
def alF : Nat → Nat → Nat
  | 0, n => n
  | k + 1, n => if n / 2 ^ 35 = 0 then alF k (n * 32) else n
theorem l_W_aligned {n : Nat} : ∀ k i m : Nat, i + k = 8 → m < 2 ^ 40 → Wp 172 5 [.long (lW n), nov, .long (lW m), nov, .int (nI i)] [] I J R S Q = Q 0 (some (.long (lW (alF k m)))) I J R S := by
  intro k
  induction k with
  | zero =>
    intro i m hi hm
    have hlt : ¬ nI i < 8 := by rw [show (8 : Int32) = nI 8 by decide]; exact nI_nlt (by omega) (by omega)
    rw [x_W_aligned_5]
    simp only [x_W_aligned_0, x_W_aligned_1, x_W_aligned_2, x_W_aligned_3, x_W_aligned_7, x_W_aligned_9, x_W_aligned_12, x_W_aligned_13, x_W_aligned_15, x_W_aligned_16, x_W_aligned_17, x_W_aligned_18, x_W_aligned_21, x_W_aligned_22, x_W_aligned_23, x_W_aligned_24, x_W_aligned_25, x_W_aligned_28, x_W_aligned_31, x_W_aligned_32, hlt, bI_0, bI_t, bI_f, e10, isA30, isA31, isA33, isA40, isA42, isA43, rOkB0, rOkB1, rOkB, Ret_v, Ret_n, cmp_eq, cmp_lt, cmp_gt, nI_1, eq_self, if_true, if_false, reduceIte, alF]
  | succ k ih =>
    intro i m hi hm
    have hlt : nI i < 8 := by rw [show (8 : Int32) = nI 8 by decide]; exact nI_lt (by omega) (by omega)
    have hs := lW_shr (n := m) (k := 35) (by omega) (by omega)
    rw [show nI 35 = 35 by decide] at hs
    have hz := lW_inj (a := m / 2 ^ 35) (by omega) (show 0 < 2 ^ 63 by omega)
    rw [lW_0] at hz
    rw [x_W_aligned_5]
    by_cases q : m / 2 ^ 35 = 0
    · have h2 := lW_shl (n := m) (k := 5) (by omega) (by omega) (by omega)
      rw [show nI 5 = 5 by decide] at h2
      simp only [x_W_aligned_0, x_W_aligned_1, x_W_aligned_2, x_W_aligned_3, x_W_aligned_7, x_W_aligned_9, x_W_aligned_12, x_W_aligned_13, x_W_aligned_15, x_W_aligned_16, x_W_aligned_17, x_W_aligned_18, x_W_aligned_21, x_W_aligned_22, x_W_aligned_23, x_W_aligned_24, x_W_aligned_25, x_W_aligned_28, x_W_aligned_31, x_W_aligned_32, hlt, bI_0, bI_t, bI_f, e10, isA30, isA31, isA33, isA40, isA42, isA43, rOkB0, rOkB1, rOkB, Ret_v, Ret_n, cmp_eq, cmp_lt, cmp_gt, nI_1, eq_self, if_true, if_false, reduceIte, alF, hs, hz, q, lW_0, h2, show 2 ^ 5 = 32 by decide, nI_1', ih (i + 1) (m * 32) (by omega) (by omega)]
    · simp only [x_W_aligned_0, x_W_aligned_1, x_W_aligned_2, x_W_aligned_3, x_W_aligned_7, x_W_aligned_9, x_W_aligned_12, x_W_aligned_13, x_W_aligned_15, x_W_aligned_16, x_W_aligned_17, x_W_aligned_18, x_W_aligned_21, x_W_aligned_22, x_W_aligned_23, x_W_aligned_24, x_W_aligned_25, x_W_aligned_28, x_W_aligned_31, x_W_aligned_32, hlt, bI_0, bI_t, bI_f, e10, isA30, isA31, isA33, isA40, isA42, isA43, rOkB0, rOkB1, rOkB, Ret_v, Ret_n, cmp_eq, cmp_lt, cmp_gt, nI_1, eq_self, if_true, if_false, reduceIte, alF, hs, hz, q, lW_0]
theorem c_W_aligned {n : Nat} (hn : n < 2 ^ 40) : Wp 172 0 [.long (lW n), nov, nov, nov, nov] [] I J R S Q = Q 0 (some (.long (lW (alF 7 n)))) I J R S := by
  have l := l_W_aligned (n := n) (Q := Q) (I := I) (J := J) (R := R) (S := S) 7 1 n (by omega) hn
  rw [show nI 1 = 1 by decide] at l
  rw [x_W_aligned_0, x_W_aligned_1, x_W_aligned_2, x_W_aligned_3]
  exact l
end WD

