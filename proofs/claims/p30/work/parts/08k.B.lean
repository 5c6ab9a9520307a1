/-! the keyboard -/
def plc (i : Nat) : Nat := [10, 24, 22, 12, 2, 13, 14, 15, 7, 16, 17, 18, 26, 25, 8, 9, 0, 3, 11, 4, 6, 23, 1, 21, 5, 20].getD i 0
def kbR (i : Nat) : Int32 := nI (plc i / 10)
def kbC (i : Nat) : Int32 := nI (plc i % 10)
def tch (a b : Nat) : Bool :=
  let d : Int := (plc b / 10 : Nat) - (plc a / 10 : Nat)
  let r : Int := (plc b % 10 : Nat) - (plc a % 10 : Nat)
  (d == 0 && (r == 1 || r == -1)) || (d == 1 && (r == 0 || r == -1)) || (d == -1 && (r == 0 || r == 1))
def kbM (a : Nat) : Nat → Int32
  | 0 => 0
  | b + 1 => if tch a b = true then kbM a b ||| ((1 : Int32) <<< (nI b &&& 31)) else kbM a b
def hnd1 (a : Nat) : Int32 := if plc a % 10 < 5 then 0 else 1
def chg (a b : Nat) : Int32 := if a = b then 0 else if tch a b = true then 2 else 4
def usr (x y : Int32) : Int32 := (x.toUInt32 >>> (y.toUInt32 &&& Int32.toUInt32 31)).toInt32
def bc1 (x : Int32) : Int32 := x - (usr x 1 &&& 1431655765)
def bc2 (x : Int32) : Int32 := (x &&& 858993459) + (usr x 2 &&& 858993459)
def bc3 (x : Int32) : Int32 := (x + usr x 4) &&& 252645135
def bc4 (x : Int32) : Int32 := x + usr x 8
def bc5 (x : Int32) : Int32 := (x + usr x 16) &&& 63
def bcF (x : Int32) : Int32 := bc5 (bc4 (bc3 (bc2 (bc1 x))))
def KbS (R : MR) (S : Sh) (b : Nat) : Prop := S.1 b = 3 ∧ S.1 (b + 1) = 30 ∧ S.1 (b + 2) = 30 ∧ S.1 (b + 3) = 30 ∧ S.2.1 (b + 1) = 26 ∧ S.2.1 (b + 2) = 26 ∧ S.2.1 (b + 3) = 26 ∧ R b 0 = .ref (b + 1) ∧ R b 1 = .ref (b + 2) ∧ R b 2 = .ref (b + 3)
def KbD (I : MI) (b : Nat) : Prop := ∀ i, i < 26 → I (b + 1) i = kbR i ∧ I (b + 2) i = kbC i ∧ I (b + 3) i = kbM i 26
theorem kbM_bit : ∀ a, a < 26 → ∀ b, b < 26 → (kbM a 26 >>> (nI b &&& 31)) &&& 1 = bI (tch a b) := by decide +kernel
theorem kbM_cnt : ∀ a, a < 26 → bcF (kbM a 26) = nI (cnt (tch a) 0 26) := by decide +kernel
theorem kbC_hnd : ∀ a, a < 26 → (if kbC a < 5 then (0 : Int32) else 1) = hnd1 a := by decide +kernel
theorem nI_inj {a b : Nat} (ha : a < 2 ^ 31) (hb : b < 2 ^ 31) : nI a = nI b ↔ a = b := by
  constructor
  · intro e
    have h1 := nI_toInt ha
    rw [e, nI_toInt hb] at h1
    omega
  · intro e; rw [e]
section BB
variable {I : MI} {J : MJ} {R : MR} {S : Sh} {Q : SkQ} {b k : Nat}
theorem c_B_rowOf (hS : KbS R S b) (hD : KbD I b) (hk : k < 26) : Wp 72 0 [.ref b, .int (nI k)] [] I J R S Q = Q 0 (some (.int (kbR k))) I J R S := by
  obtain ⟨s0, s1, s2, s3, n1, n2, n3, r0, r1, r2⟩ := hS
  have e1 : ¬ nI k < 0 := nI_pos (by omega)
  have e2 : nI k < 26 := by rw [show (26 : Int32) = nI 26 by decide]; exact nI_lt hk (by omega)
  have e3 := inb_nI hk (by omega)
  have e4 : ix (nI k) = k := ix_nI (by omega)
  simp only [x_B_rowOf_0, x_B_rowOf_1, x_B_rowOf_4, x_B_rowOf_5, x_B_rowOf_7, x_B_rowOf_10, x_B_rowOf_11, x_B_rowOf_14, x_B_rowOf_15, x_B_rowOf_16, x_B_rowOf_19, x_B_rowOf_20, s0, r0, s1, n1, e1, e2, e3, e4, (hD k hk).1, bI_0, bI_t, bI_f, e10, isA30, isA31, isA33, isA40, isA42, isA43, rOkB0, rOkB1, rOkB, Ret_v, Ret_n, cmp_eq, cmp_lt, cmp_gt, nI_1, eq_self, if_true, if_false, reduceIte]
theorem c_B_columnOf (hS : KbS R S b) (hD : KbD I b) (hk : k < 26) : Wp 73 0 [.ref b, .int (nI k)] [] I J R S Q = Q 0 (some (.int (kbC k))) I J R S := by
  obtain ⟨s0, s1, s2, s3, n1, n2, n3, r0, r1, r2⟩ := hS
  have e1 : ¬ nI k < 0 := nI_pos (by omega)
  have e2 : nI k < 26 := by rw [show (26 : Int32) = nI 26 by decide]; exact nI_lt hk (by omega)
  have e3 := inb_nI hk (by omega)
  have e4 : ix (nI k) = k := ix_nI (by omega)
  simp only [x_B_columnOf_0, x_B_columnOf_1, x_B_columnOf_4, x_B_columnOf_5, x_B_columnOf_7, x_B_columnOf_10, x_B_columnOf_11, x_B_columnOf_14, x_B_columnOf_15, x_B_columnOf_16, x_B_columnOf_19, x_B_columnOf_20, s0, r1, s2, n2, e1, e2, e3, e4, (hD k hk).2.1, bI_0, bI_t, bI_f, e10, isA30, isA31, isA33, isA40, isA42, isA43, rOkB0, rOkB1, rOkB, Ret_v, Ret_n, cmp_eq, cmp_lt, cmp_gt, nI_1, eq_self, if_true, if_false, reduceIte]
theorem c_B_handOf (hS : KbS R S b) (hD : KbD I b) (hk : k < 26) : Wp 74 0 [.ref b, .int (nI k)] [] I J R S Q = Q 0 (some (.int (hnd1 k))) I J R S := by
  obtain ⟨s0, s1, s2, s3, n1, n2, n3, r0, r1, r2⟩ := hS
  have e1 : ¬ nI k < 0 := nI_pos (by omega)
  have e2 : nI k < 26 := by rw [show (26 : Int32) = nI 26 by decide]; exact nI_lt hk (by omega)
  have e3 := inb_nI hk (by omega)
  have e4 : ix (nI k) = k := ix_nI (by omega)
  rw [← kbC_hnd k hk]
  by_cases q : kbC k < 5
  · simp only [x_B_handOf_0, x_B_handOf_1, x_B_handOf_4, x_B_handOf_5, x_B_handOf_7, x_B_handOf_10, x_B_handOf_11, x_B_handOf_14, x_B_handOf_15, x_B_handOf_16, x_B_handOf_17, x_B_handOf_20, x_B_handOf_21, x_B_handOf_24, x_B_handOf_25, s0, r1, s2, n2, e1, e2, e3, e4, (hD k hk).2.1, q, bI_0, bI_t, bI_f, e10, isA30, isA31, isA33, isA40, isA42, isA43, rOkB0, rOkB1, rOkB, Ret_v, Ret_n, cmp_eq, cmp_lt, cmp_gt, nI_1, eq_self, if_true, if_false, reduceIte]
  · simp only [x_B_handOf_0, x_B_handOf_1, x_B_handOf_4, x_B_handOf_5, x_B_handOf_7, x_B_handOf_10, x_B_handOf_11, x_B_handOf_14, x_B_handOf_15, x_B_handOf_16, x_B_handOf_17, x_B_handOf_20, x_B_handOf_21, x_B_handOf_24, x_B_handOf_25, s0, r1, s2, n2, e1, e2, e3, e4, (hD k hk).2.1, q, bI_0, bI_t, bI_f, e10, isA30, isA31, isA33, isA40, isA42, isA43, rOkB0, rOkB1, rOkB, Ret_v, Ret_n, cmp_eq, cmp_lt, cmp_gt, nI_1, eq_self, if_true, if_false, reduceIte]
theorem c_B_costOfChange {c : Nat} (hS : KbS R S b) (hD : KbD I b) (hk : k < 26) (hc : c < 26) : Wp 76 0 [.ref b, .int (nI k), .int (nI c), nov] [] I J R S Q = Q 0 (some (.int (chg k c))) I J R S := by
  obtain ⟨s0, s1, s2, s3, n1, n2, n3, r0, r1, r2⟩ := hS
  have e1 : ¬ nI k < 0 := nI_pos (by omega)
  have e2 : nI k < 26 := by rw [show (26 : Int32) = nI 26 by decide]; exact nI_lt hk (by omega)
  have e3 := inb_nI hk (by omega)
  have e4 : ix (nI k) = k := ix_nI (by omega)
  have e5 := nI_inj (a := k) (b := c) (by omega) (by omega)
  have e6 := kbM_bit k hk c hc
  unfold chg
  by_cases q : k = c
  · subst q
    simp only [x_B_costOfChange_0, x_B_costOfChange_1, x_B_costOfChange_2, x_B_costOfChange_5, x_B_costOfChange_6, x_B_costOfChange_7, x_B_costOfChange_8, x_B_costOfChange_11, x_B_costOfChange_12, x_B_costOfChange_14, x_B_costOfChange_17, x_B_costOfChange_18, x_B_costOfChange_21, x_B_costOfChange_22, x_B_costOfChange_23, x_B_costOfChange_24, x_B_costOfChange_25, x_B_costOfChange_26, x_B_costOfChange_27, x_B_costOfChange_28, x_B_costOfChange_31, x_B_costOfChange_32, x_B_costOfChange_35, x_B_costOfChange_36, x_B_costOfChange_37, x_B_costOfChange_38, x_B_costOfChange_41, x_B_costOfChange_42, x_B_costOfChange_45, x_B_costOfChange_46, bI_0, bI_t, bI_f, e10, isA30, isA31, isA33, isA40, isA42, isA43, rOkB0, rOkB1, rOkB, Ret_v, Ret_n, cmp_eq, cmp_lt, cmp_gt, nI_1, eq_self, if_true, if_false, reduceIte]
  · have e7 : ¬ nI k = nI c := fun h => q (e5.mp h)
    cases t : tch k c <;> rw [t] at e6 <;> simp only [x_B_costOfChange_0, x_B_costOfChange_1, x_B_costOfChange_2, x_B_costOfChange_5, x_B_costOfChange_6, x_B_costOfChange_7, x_B_costOfChange_8, x_B_costOfChange_11, x_B_costOfChange_12, x_B_costOfChange_14, x_B_costOfChange_17, x_B_costOfChange_18, x_B_costOfChange_21, x_B_costOfChange_22, x_B_costOfChange_23, x_B_costOfChange_24, x_B_costOfChange_25, x_B_costOfChange_26, x_B_costOfChange_27, x_B_costOfChange_28, x_B_costOfChange_31, x_B_costOfChange_32, x_B_costOfChange_35, x_B_costOfChange_36, x_B_costOfChange_37, x_B_costOfChange_38, x_B_costOfChange_41, x_B_costOfChange_42, x_B_costOfChange_45, x_B_costOfChange_46, s0, r2, s3, n3, e1, e2, e3, e4, e7, e6, q, (hD k hk).2.2, bI_0, bI_t, bI_f, e10, isA30, isA31, isA33, isA40, isA42, isA43, rOkB0, rOkB1, rOkB, Ret_v, Ret_n, cmp_eq, cmp_lt, cmp_gt, nI_1, eq_self, if_true, if_false, reduceIte, Bool.false_eq_true, show ¬ (0 : Int32) = 1 by decide]
end BB

