/-! the book: its state, where it stands, what always holds of it -/
def Bk : Type := Rw × Rw × Rw × Rw × Rw × Rw × (Nat → Int32) × (Nat → Int32)
def bW (a : Bk) : Rw := a.1
def bN (a : Bk) : Rw := a.2.1
def bP (a : Bk) : Rw := a.2.2.1
def bB (a : Bk) : Rw := a.2.2.2.1
def bS (a : Bk) : Rw := a.2.2.2.2.1
def bL (a : Bk) : Rw := a.2.2.2.2.2.1
def bK (a : Bk) : Nat → Int32 := a.2.2.2.2.2.2.1
def bT (a : Bk) : Nat → Int32 := a.2.2.2.2.2.2.2
def bkW (a : Bk) (r : Rw) : Bk := (r, a.2)
def bkN (a : Bk) (r : Rw) : Bk := (a.1, r, a.2.2)
def bkP (a : Bk) (r : Rw) : Bk := (a.1, a.2.1, r, a.2.2.2)
def bkB (a : Bk) (r : Rw) : Bk := (a.1, a.2.1, a.2.2.1, r, a.2.2.2.2)
def bkS (a : Bk) (r : Rw) : Bk := (a.1, a.2.1, a.2.2.1, a.2.2.2.1, r, a.2.2.2.2.2)
def bkL (a : Bk) (r : Rw) : Bk := (a.1, a.2.1, a.2.2.1, a.2.2.2.1, a.2.2.2.2.1, r, a.2.2.2.2.2.2)
def bkK (a : Bk) (r : Nat → Int32) : Bk := (a.1, a.2.1, a.2.2.1, a.2.2.2.1, a.2.2.2.2.1, a.2.2.2.2.2.1, r, a.2.2.2.2.2.2.2)
def bkT (a : Bk) (r : Nat → Int32) : Bk := (a.1, a.2.1, a.2.2.1, a.2.2.2.1, a.2.2.2.2.1, a.2.2.2.2.2.1, a.2.2.2.2.2.2.1, r)
def BkS (R : MR) (S : Sh) (B : Nat) : Prop := S.1 B = 0 ∧ RwS R S (B + 1) 20 ∧ RwS R S (B + 5) 10 ∧ RwS R S (B + 9) 24 ∧ RwS R S (B + 13) 24 ∧ RwS R S (B + 17) 20 ∧ RwS R S (B + 21) 20 ∧ S.1 (B + 25) = 30 ∧ S.1 (B + 26) = 30 ∧ S.2.1 (B + 25) = 26 ∧ S.2.1 (B + 26) = 3 ∧ R B 0 = .ref (B + 1) ∧ R B 1 = .ref (B + 5) ∧ R B 2 = .ref (B + 9) ∧ R B 3 = .ref (B + 13) ∧ R B 4 = .ref (B + 17) ∧ R B 5 = .ref (B + 21) ∧ R B 6 = .ref (B + 25) ∧ R B 7 = .ref (B + 26)
def BkD (I : MI) (J : MJ) (B : Nat) (a : Bk) : Prop := RwD I J (B + 1) (bW a) ∧ RwD I J (B + 5) (bN a) ∧ RwD I J (B + 9) (bP a) ∧ RwD I J (B + 13) (bB a) ∧ RwD I J (B + 17) (bS a) ∧ RwD I J (B + 21) (bL a) ∧ (∀ i, i < 26 → I (B + 25) i = bK a i) ∧ (∀ i, i < 3 → I (B + 26) i = bT a i)
def rWd (p : Rw) : Prop := ∀ i, i < p.1 → isW (p.2.1 i) = true
def srt (p : Rw) : Prop := ∀ i j, i < j → j < p.1 → alg (p.2.1 i) < alg (p.2.1 j)
/-- the numbers of a table lie between -/
def rIn (p : Rw) (lo hi : Int) : Prop := ∀ i, i < p.1 → lo ≤ (p.2.2.2 i).toInt ∧ (p.2.2.2 i).toInt ≤ hi
def BkI (T : Nat) (a : Bk) : Prop := (bW a).1 ≤ 20 ∧ (bN a).1 ≤ 10 ∧ (bP a).1 ≤ 24 ∧ (bB a).1 ≤ 24 ∧ (bS a).1 ≤ 20 ∧ (bL a).1 ≤ 20 ∧ rZ (bW a) ∧ rZ (bN a) ∧ rZ (bS a) ∧ rWd (bW a) ∧ rWd (bN a) ∧ rWd (bL a) ∧ srt (bW a) ∧ srt (bN a) ∧ rIn (bW a) 1 999 ∧ rIn (bP a) 1 99 ∧ rIn (bS a) 0 T ∧ rIn (bL a) 0 1 ∧ (∀ i, i < 26 → 0 ≤ (bK a i).toInt ∧ (bK a i).toInt ≤ 2) ∧ (0 ≤ (bT a 0).toInt ∧ (bT a 0).toInt ≤ 12) ∧ (1 ≤ (bT a 1).toInt ∧ (bT a 1).toInt ≤ 9) ∧ (1 ≤ (bT a 2).toInt ∧ (bT a 2).toInt ≤ 5)
/-! what is read of it -/
def hasW (a : Bk) (w : Int64) : Bool := decide (fw (bW a) w < (bW a).1)
def hasN (a : Bk) (w : Int64) : Bool := decide (fw (bN a) w < (bN a).1)
def isB (a : Bk) (t w : Int64) : Bool := decide (fp (bB a) t w < (bB a).1)
def roomW (a : Bk) (w : Int64) : Bool := decide ((bW a).1 < 20) || hasW a w
def roomN (a : Bk) (w : Int64) : Bool := decide ((bN a).1 < 10) || hasN a w
def numW (p : Rw) (w : Int64) : Int32 := if fw p w < p.1 then p.2.2.2 (fw p w) else 0
def stk (a : Bk) (i : Int32) : Int32 := if inb i 26 = true then bK a (ix i) else 0
def stg (a : Bk) (i : Int32) : Int32 := if inb i 3 = true then bT a (ix i) else 0
/-- one more than the place of the last row with number 0; 0 if none -/
def lst (f : Nat → Int32) : Nat → Nat
  | 0 => 0
  | k + 1 => if f k = 0 then k + 1 else lst f k
def late (a : Bk) : Nat := lst (bL a).2.2.2 (bL a).1
def canB (a : Bk) : Bool := decide (0 < late a) && (decide ((bB a).1 < 24) || isB a ((bL a).2.1 (late a - 1)) ((bL a).2.2.1 (late a - 1)))
def cntF (p : Rw) (w : Int64) : Int32 := nI (cnt (fun i => decide (p.2.1 i = w)) 0 p.1)
def vW (a : Bk) (w : Int64) : Nat → Int32
  | 0 => numW (bW a) w
  | 1 => bI (hasN a w)
  | 2 => numW (bS a) w
  | 3 => nI (wlF 8 w.toInt.toNat)
  | 4 => frI (fw (bW a) w) (bW a).1
  | 5 => cntF (bP a) w
  | _ => cntF (bB a) w
def vB (a : Bk) : Nat → Int32
  | 0 => nI (bW a).1
  | 1 => nI (bN a).1
  | 2 => nI (bP a).1
  | 3 => nI (bB a).1
  | 4 => nI (bS a).1
  | 5 => nI (bL a).1
  | 6 => smI (bL a).2.2.2 0 0 (bL a).1
  | 7 => bT a 0
  | 8 => bT a 1
  | 9 => bT a 2
  | _ => smI (bW a).2.2.2 0 0 (bW a).1
theorem lst_le {f : Nat → Int32} : ∀ k, lst f k ≤ k
  | 0 => by simp [lst]
  | k + 1 => by
    simp only [lst]
    split
    · omega
    · have := lst_le (f := f) k; omega
theorem frI_t {k n : Nat} (h : k < n) (hn : n < 2 ^ 31) : ¬ frI k n = -1 := fun e => (frI_m1 hn).mp e h
theorem mx0 {x : Int32} (h : 0 ≤ x.toInt) : (if x < 0 then 0 else x) = x := by
  rw [if_neg]
  rw [Int32.lt_iff_toInt_lt, Int32.toInt_zero]
  omega
theorem inb_l {i : Int32} {n : Nat} (h1 : ¬ i < 0) (h2 : i < nI n) (hn : n < 2 ^ 31) : inb i n = true := by
  rw [Int32.lt_iff_toInt_lt, Int32.toInt_zero] at h1
  rw [Int32.lt_iff_toInt_lt, nI_toInt hn] at h2
  unfold inb
  simp
  omega
theorem inb_n1 {i : Int32} {n : Nat} (h1 : i < 0) : inb i n = false := by
  rw [Int32.lt_iff_toInt_lt, Int32.toInt_zero] at h1
  unfold inb
  rw [decide_eq_false (by omega), Bool.false_and]
theorem inb_n2 {i : Int32} {n : Nat} (h2 : ¬ i < nI n) (hn : n < 2 ^ 31) : inb i n = false := by
  rw [Int32.lt_iff_toInt_lt, nI_toInt hn] at h2
  unfold inb
  rw [decide_eq_false (p := i.toInt < n) (by omega), Bool.and_false]
section OR
variable {I : MI} {J : MJ} {R : MR} {S : Sh} {Q : SkQ} {B T : Nat} {a : Bk}
theorem c_O_hasWord (hS : BkS R S B) (hD : BkD I J B a) (hI : BkI T a) {w : Int64} : Wp 79 0 [.ref B, .long w, nov] [] I J R S Q = Q 0 (some (.int (bI (hasW a w)))) I J R S := by
  obtain ⟨s0, sW, sN, sP, sB, sS, sL, sK, sT, nK, nT, r0, r1, r2, r3, r4, r5, r6, r7⟩ := hS
  obtain ⟨iW, iN, iP, iB, iS, iL, zW, zN, zS, wW, wN, wL, oW, oN, cW, cP, cS, cL, cK, cT0, cT1, cT2⟩ := hI
  have f := fun Q' => c_R_fw (Q := Q') sW hD.1 iW (by omega) zW (w := w)
  by_cases q : fw (bW a) w < (bW a).1
  · have e := frI_t q (by omega)
    simp only [x_O_hasWord_0, x_O_hasWord_1, x_O_hasWord_4, x_O_hasWord_5, x_O_hasWord_6, x_O_hasWord_9, x_O_hasWord_10, x_O_hasWord_13, x_O_hasWord_14, x_O_hasWord_17, x_O_hasWord_18, s0, r0, sW.1, f, e, bI_0, bI_t, bI_f, e10, isA30, isA31, isA33, isA40, isA42, isA43, rOkB0, rOkB1, rOkB, Ret_v, Ret_n, cmp_eq, cmp_lt, cmp_gt, nI_1, eq_self, if_true, if_false, reduceIte, hasW, decide_eq_true q]
  · simp only [x_O_hasWord_0, x_O_hasWord_1, x_O_hasWord_4, x_O_hasWord_5, x_O_hasWord_6, x_O_hasWord_9, x_O_hasWord_10, x_O_hasWord_13, x_O_hasWord_14, x_O_hasWord_17, x_O_hasWord_18, s0, r0, sW.1, f, frI_ge q, bI_0, bI_t, bI_f, e10, isA30, isA31, isA33, isA40, isA42, isA43, rOkB0, rOkB1, rOkB, Ret_v, Ret_n, cmp_eq, cmp_lt, cmp_gt, nI_1, eq_self, if_true, if_false, reduceIte, hasW, decide_eq_false q]
theorem c_O_hasName (hS : BkS R S B) (hD : BkD I J B a) (hI : BkI T a) {w : Int64} : Wp 80 0 [.ref B, .long w, nov] [] I J R S Q = Q 0 (some (.int (bI (hasN a w)))) I J R S := by
  obtain ⟨s0, sW, sN, sP, sB, sS, sL, sK, sT, nK, nT, r0, r1, r2, r3, r4, r5, r6, r7⟩ := hS
  obtain ⟨iW, iN, iP, iB, iS, iL, zW, zN, zS, wW, wN, wL, oW, oN, cW, cP, cS, cL, cK, cT0, cT1, cT2⟩ := hI
  have f := fun Q' => c_R_fw (Q := Q') sN hD.2.1 iN (by omega) zN (w := w)
  by_cases q : fw (bN a) w < (bN a).1
  · have e := frI_t q (by omega)
    simp only [x_O_hasName_0, x_O_hasName_1, x_O_hasName_4, x_O_hasName_5, x_O_hasName_6, x_O_hasName_9, x_O_hasName_10, x_O_hasName_13, x_O_hasName_14, x_O_hasName_17, x_O_hasName_18, s0, r1, sN.1, f, e, bI_0, bI_t, bI_f, e10, isA30, isA31, isA33, isA40, isA42, isA43, rOkB0, rOkB1, rOkB, Ret_v, Ret_n, cmp_eq, cmp_lt, cmp_gt, nI_1, eq_self, if_true, if_false, reduceIte, hasN, decide_eq_true q]
  · simp only [x_O_hasName_0, x_O_hasName_1, x_O_hasName_4, x_O_hasName_5, x_O_hasName_6, x_O_hasName_9, x_O_hasName_10, x_O_hasName_13, x_O_hasName_14, x_O_hasName_17, x_O_hasName_18, s0, r1, sN.1, f, frI_ge q, bI_0, bI_t, bI_f, e10, isA30, isA31, isA33, isA40, isA42, isA43, rOkB0, rOkB1, rOkB, Ret_v, Ret_n, cmp_eq, cmp_lt, cmp_gt, nI_1, eq_self, if_true, if_false, reduceIte, hasN, decide_eq_false q]
theorem c_O_isBanned (hS : BkS R S B) (hD : BkD I J B a) (hI : BkI T a) {t w : Int64} : Wp 81 0 [.ref B, .long t, nov, .long w, nov] [] I J R S Q = Q 0 (some (.int (bI (isB a t w)))) I J R S := by
  obtain ⟨s0, sW, sN, sP, sB, sS, sL, sK, sT, nK, nT, r0, r1, r2, r3, r4, r5, r6, r7⟩ := hS
  obtain ⟨iW, iN, iP, iB, iS, iL, zW, zN, zS, wW, wN, wL, oW, oN, cW, cP, cS, cL, cK, cT0, cT1, cT2⟩ := hI
  have f := fun Q' => c_R_fp (Q := Q') sB hD.2.2.2.1 iB (by omega) (w := t) (u := w)
  by_cases q : fp (bB a) t w < (bB a).1
  · have e := frI_t q (by omega)
    simp only [x_O_isBanned_0, x_O_isBanned_1, x_O_isBanned_4, x_O_isBanned_5, x_O_isBanned_6, x_O_isBanned_9, x_O_isBanned_10, x_O_isBanned_13, x_O_isBanned_14, x_O_isBanned_17, x_O_isBanned_18, s0, r3, sB.1, f, e, bI_0, bI_t, bI_f, e10, isA30, isA31, isA33, isA40, isA42, isA43, rOkB0, rOkB1, rOkB, Ret_v, Ret_n, cmp_eq, cmp_lt, cmp_gt, nI_1, eq_self, if_true, if_false, reduceIte, isB, decide_eq_true q]
  · simp only [x_O_isBanned_0, x_O_isBanned_1, x_O_isBanned_4, x_O_isBanned_5, x_O_isBanned_6, x_O_isBanned_9, x_O_isBanned_10, x_O_isBanned_13, x_O_isBanned_14, x_O_isBanned_17, x_O_isBanned_18, s0, r3, sB.1, f, frI_ge q, bI_0, bI_t, bI_f, e10, isA30, isA31, isA33, isA40, isA42, isA43, rOkB0, rOkB1, rOkB, Ret_v, Ret_n, cmp_eq, cmp_lt, cmp_gt, nI_1, eq_self, if_true, if_false, reduceIte, isB, decide_eq_false q]
theorem c_O_hasRoomForWord (hS : BkS R S B) (hD : BkD I J B a) (hI : BkI T a) {w : Int64} : Wp 82 0 [.ref B, .long w, nov] [] I J R S Q = Q 0 (some (.int (bI (roomW a w)))) I J R S := by
  have h := fun Q' => c_O_hasWord (Q := Q') hS hD hI (w := w)
  have f := fun Q' => c_R_isFull (Q := Q') hS.2.1 hD.1.1 hI.1 (by omega) (J := J)
  unfold roomW
  by_cases q : (bW a).1 < 20
  · simp only [x_O_hasRoomForWord_0, x_O_hasRoomForWord_1, x_O_hasRoomForWord_4, x_O_hasRoomForWord_7, x_O_hasRoomForWord_10, x_O_hasRoomForWord_11, x_O_hasRoomForWord_12, x_O_hasRoomForWord_15, x_O_hasRoomForWord_18, x_O_hasRoomForWord_19, x_O_hasRoomForWord_22, x_O_hasRoomForWord_23, hS.1, hS.2.2.2.2.2.2.2.2.2.2.2.1, hS.2.1.1, f, h, bI_0, bI_t, bI_f, e10, isA30, isA31, isA33, isA40, isA42, isA43, rOkB0, rOkB1, rOkB, Ret_v, Ret_n, cmp_eq, cmp_lt, cmp_gt, nI_1, eq_self, if_true, if_false, reduceIte, decide_eq_true q, decide_eq_false (show ¬ 20 ≤ (bW a).1 by omega), Bool.true_or]
  · cases e : hasW a w <;> simp only [x_O_hasRoomForWord_0, x_O_hasRoomForWord_1, x_O_hasRoomForWord_4, x_O_hasRoomForWord_7, x_O_hasRoomForWord_10, x_O_hasRoomForWord_11, x_O_hasRoomForWord_12, x_O_hasRoomForWord_15, x_O_hasRoomForWord_18, x_O_hasRoomForWord_19, x_O_hasRoomForWord_22, x_O_hasRoomForWord_23, hS.1, hS.2.2.2.2.2.2.2.2.2.2.2.1, hS.2.1.1, f, h, e, bI_0, bI_t, bI_f, e10, isA30, isA31, isA33, isA40, isA42, isA43, rOkB0, rOkB1, rOkB, Ret_v, Ret_n, cmp_eq, cmp_lt, cmp_gt, nI_1, eq_self, if_true, if_false, reduceIte, decide_eq_false q, decide_eq_true (show 20 ≤ (bW a).1 by omega), Bool.false_or]
theorem c_O_hasRoomForName (hS : BkS R S B) (hD : BkD I J B a) (hI : BkI T a) {w : Int64} : Wp 83 0 [.ref B, .long w, nov] [] I J R S Q = Q 0 (some (.int (bI (roomN a w)))) I J R S := by
  have h := fun Q' => c_O_hasName (Q := Q') hS hD hI (w := w)
  have f := fun Q' => c_R_isFull (Q := Q') hS.2.2.1 hD.2.1.1 hI.2.1 (by omega) (J := J)
  unfold roomN
  by_cases q : (bN a).1 < 10
  · simp only [x_O_hasRoomForName_0, x_O_hasRoomForName_1, x_O_hasRoomForName_4, x_O_hasRoomForName_7, x_O_hasRoomForName_10, x_O_hasRoomForName_11, x_O_hasRoomForName_12, x_O_hasRoomForName_15, x_O_hasRoomForName_18, x_O_hasRoomForName_19, x_O_hasRoomForName_22, x_O_hasRoomForName_23, hS.1, hS.2.2.2.2.2.2.2.2.2.2.2.2.1, hS.2.2.1.1, f, h, bI_0, bI_t, bI_f, e10, isA30, isA31, isA33, isA40, isA42, isA43, rOkB0, rOkB1, rOkB, Ret_v, Ret_n, cmp_eq, cmp_lt, cmp_gt, nI_1, eq_self, if_true, if_false, reduceIte, decide_eq_true q, decide_eq_false (show ¬ 10 ≤ (bN a).1 by omega), Bool.true_or]
  · cases e : hasN a w <;> simp only [x_O_hasRoomForName_0, x_O_hasRoomForName_1, x_O_hasRoomForName_4, x_O_hasRoomForName_7, x_O_hasRoomForName_10, x_O_hasRoomForName_11, x_O_hasRoomForName_12, x_O_hasRoomForName_15, x_O_hasRoomForName_18, x_O_hasRoomForName_19, x_O_hasRoomForName_22, x_O_hasRoomForName_23, hS.1, hS.2.2.2.2.2.2.2.2.2.2.2.2.1, hS.2.2.1.1, f, h, e, bI_0, bI_t, bI_f, e10, isA30, isA31, isA33, isA40, isA42, isA43, rOkB0, rOkB1, rOkB, Ret_v, Ret_n, cmp_eq, cmp_lt, cmp_gt, nI_1, eq_self, if_true, if_false, reduceIte, decide_eq_false q, decide_eq_true (show 10 ≤ (bN a).1 by omega), Bool.false_or]
theorem c_O_countOf (hS : BkS R S B) (hD : BkD I J B a) (hI : BkI T a) {w : Int64} : Wp 84 0 [.ref B, .long w, nov] [] I J R S Q = Q 0 (some (.int (numW (bW a) w))) I J R S := by
  obtain ⟨s0, sW, sN, sP, sB, sS, sL, sK, sT, nK, nT, r0, r1, r2, r3, r4, r5, r6, r7⟩ := hS
  obtain ⟨iW, iN, iP, iB, iS, iL, zW, zN, zS, wW, wN, wL, oW, oN, cW, cP, cS, cL, cK, cT0, cT1, cT2⟩ := hI
  have f := fun Q' => c_R_fw (Q := Q') sW hD.1 iW (by omega) zW (w := w)
  have g := fun Q' => c_R_numberAt (Q := Q') sW hD.1 iW (by omega) (i := frI (fw (bW a) w) (bW a).1)
  rw [frI_inb (by omega)] at g
  by_cases q : fw (bW a) w < (bW a).1
  · rw [decide_eq_true q, frI_ix (by omega) q] at g
    have m := mx0 (x := (bW a).2.2.2 (fw (bW a) w)) (by have := cW _ q; omega)
    simp only [x_O_countOf_0, x_O_countOf_1, x_O_countOf_4, x_O_countOf_5, x_O_countOf_8, x_O_countOf_9, x_O_countOf_10, x_O_countOf_13, x_O_countOf_16, x_O_countOf_17, x_O_countOf_20, s0, r0, sW.1, f, g, bI_0, bI_t, bI_f, e10, isA30, isA31, isA33, isA40, isA42, isA43, rOkB0, rOkB1, rOkB, Ret_v, Ret_n, cmp_eq, cmp_lt, cmp_gt, nI_1, eq_self, if_true, if_false, reduceIte, numW, q, m]
  · rw [decide_eq_false q] at g
    simp only [x_O_countOf_0, x_O_countOf_1, x_O_countOf_4, x_O_countOf_5, x_O_countOf_8, x_O_countOf_9, x_O_countOf_10, x_O_countOf_13, x_O_countOf_16, x_O_countOf_17, x_O_countOf_20, s0, r0, sW.1, f, g, bI_0, bI_t, bI_f, e10, isA30, isA31, isA33, isA40, isA42, isA43, rOkB0, rOkB1, rOkB, Ret_v, Ret_n, cmp_eq, cmp_lt, cmp_gt, nI_1, eq_self, if_true, if_false, reduceIte, numW, q, Bool.false_eq_true, show ((-1 : Int32) < 0) by decide]
theorem c_O_stickOf (hS : BkS R S B) (hD : BkD I J B a) {i : Int32} : Wp 90 0 [.ref B, .int i] [] I J R S Q = Q 0 (some (.int (stk a i))) I J R S := by
  obtain ⟨s0, sW, sN, sP, sB, sS, sL, sK, sT, nK, nT, r0, r1, r2, r3, r4, r5, r6, r7⟩ := hS
  by_cases h1 : i < 0
  · simp only [x_O_stickOf_0, x_O_stickOf_1, x_O_stickOf_4, x_O_stickOf_5, x_O_stickOf_6, x_O_stickOf_9, x_O_stickOf_10, x_O_stickOf_13, x_O_stickOf_14, x_O_stickOf_17, x_O_stickOf_18, x_O_stickOf_19, x_O_stickOf_22, x_O_stickOf_23, h1, bI_0, bI_t, bI_f, e10, isA30, isA31, isA33, isA40, isA42, isA43, rOkB0, rOkB1, rOkB, Ret_v, Ret_n, cmp_eq, cmp_lt, cmp_gt, nI_1, eq_self, if_true, if_false, reduceIte, stk, inb_n1 h1, Bool.false_eq_true]
  · by_cases h2 : i < nI 26
    · have e := inb_l h1 h2 (by omega)
      have d := hD.2.2.2.2.2.2.1 _ (ix_lt e)
      simp only [x_O_stickOf_0, x_O_stickOf_1, x_O_stickOf_4, x_O_stickOf_5, x_O_stickOf_6, x_O_stickOf_9, x_O_stickOf_10, x_O_stickOf_13, x_O_stickOf_14, x_O_stickOf_17, x_O_stickOf_18, x_O_stickOf_19, x_O_stickOf_22, x_O_stickOf_23, s0, r6, sK, nK, h1, h2, bI_0, bI_t, bI_f, e10, isA30, isA31, isA33, isA40, isA42, isA43, rOkB0, rOkB1, rOkB, Ret_v, Ret_n, cmp_eq, cmp_lt, cmp_gt, nI_1, eq_self, if_true, if_false, reduceIte, stk, e, d]
    · simp only [x_O_stickOf_0, x_O_stickOf_1, x_O_stickOf_4, x_O_stickOf_5, x_O_stickOf_6, x_O_stickOf_9, x_O_stickOf_10, x_O_stickOf_13, x_O_stickOf_14, x_O_stickOf_17, x_O_stickOf_18, x_O_stickOf_19, x_O_stickOf_22, x_O_stickOf_23, s0, r6, sK, nK, h1, h2, bI_0, bI_t, bI_f, e10, isA30, isA31, isA33, isA40, isA42, isA43, rOkB0, rOkB1, rOkB, Ret_v, Ret_n, cmp_eq, cmp_lt, cmp_gt, nI_1, eq_self, if_true, if_false, reduceIte, stk, inb_n2 h2 (by omega), Bool.false_eq_true]
theorem c_O_settingOf (hS : BkS R S B) (hD : BkD I J B a) {i : Int32} : Wp 92 0 [.ref B, .int i] [] I J R S Q = Q 0 (some (.int (stg a i))) I J R S := by
  obtain ⟨s0, sW, sN, sP, sB, sS, sL, sK, sT, nK, nT, r0, r1, r2, r3, r4, r5, r6, r7⟩ := hS
  by_cases h1 : i < 0
  · simp only [x_O_settingOf_0, x_O_settingOf_1, x_O_settingOf_4, x_O_settingOf_5, x_O_settingOf_6, x_O_settingOf_9, x_O_settingOf_10, x_O_settingOf_13, x_O_settingOf_14, x_O_settingOf_17, x_O_settingOf_18, x_O_settingOf_19, x_O_settingOf_22, x_O_settingOf_23, h1, bI_0, bI_t, bI_f, e10, isA30, isA31, isA33, isA40, isA42, isA43, rOkB0, rOkB1, rOkB, Ret_v, Ret_n, cmp_eq, cmp_lt, cmp_gt, nI_1, eq_self, if_true, if_false, reduceIte, stg, inb_n1 h1, Bool.false_eq_true]
  · by_cases h2 : i < nI 3
    · have e := inb_l h1 h2 (by omega)
      have d := hD.2.2.2.2.2.2.2 _ (ix_lt e)
      simp only [x_O_settingOf_0, x_O_settingOf_1, x_O_settingOf_4, x_O_settingOf_5, x_O_settingOf_6, x_O_settingOf_9, x_O_settingOf_10, x_O_settingOf_13, x_O_settingOf_14, x_O_settingOf_17, x_O_settingOf_18, x_O_settingOf_19, x_O_settingOf_22, x_O_settingOf_23, s0, r7, sT, nT, h1, h2, bI_0, bI_t, bI_f, e10, isA30, isA31, isA33, isA40, isA42, isA43, rOkB0, rOkB1, rOkB, Ret_v, Ret_n, cmp_eq, cmp_lt, cmp_gt, nI_1, eq_self, if_true, if_false, reduceIte, stg, e, d]
    · simp only [x_O_settingOf_0, x_O_settingOf_1, x_O_settingOf_4, x_O_settingOf_5, x_O_settingOf_6, x_O_settingOf_9, x_O_settingOf_10, x_O_settingOf_13, x_O_settingOf_14, x_O_settingOf_17, x_O_settingOf_18, x_O_settingOf_19, x_O_settingOf_22, x_O_settingOf_23, s0, r7, sT, nT, h1, h2, bI_0, bI_t, bI_f, e10, isA30, isA31, isA33, isA40, isA42, isA43, rOkB0, rOkB1, rOkB, Ret_v, Ret_n, cmp_eq, cmp_lt, cmp_gt, nI_1, eq_self, if_true, if_false, reduceIte, stg, inb_n2 h2 (by omega), Bool.false_eq_true]
theorem l_O_latest (hS : BkS R S B) (hD : BkD I J B a) (hI : BkI T a) : ∀ k, k ≤ (bL a).1 → Wp 98 10 [.ref B, .int (nI k - 1)] [] I J R S Q = Q 0 (some (.int (nI (lst (bL a).2.2.2 k) - 1))) I J R S := by
  obtain ⟨s0, sW, sN, sP, sB, sS, sL, sK, sT, nK, nT, r0, r1, r2, r3, r4, r5, r6, r7⟩ := hS
  obtain ⟨iW, iN, iP, iB, iS, iL, zW, zN, zS, wW, wN, wL, oW, oN, cW, cP, cS, cL, cK, cT0, cT1, cT2⟩ := hI
  intro k
  induction k with
  | zero =>
    intro hk
    have e : nI 0 - 1 = -1 := by decide
    have e2 : ((-1 : Int32) < 0) := by decide
    rw [x_O_indexOfLatestCorrection_10]
    simp only [x_O_indexOfLatestCorrection_0, x_O_indexOfLatestCorrection_1, x_O_indexOfLatestCorrection_4, x_O_indexOfLatestCorrection_7, x_O_indexOfLatestCorrection_8, x_O_indexOfLatestCorrection_9, x_O_indexOfLatestCorrection_11, x_O_indexOfLatestCorrection_14, x_O_indexOfLatestCorrection_15, x_O_indexOfLatestCorrection_18, x_O_indexOfLatestCorrection_19, x_O_indexOfLatestCorrection_22, x_O_indexOfLatestCorrection_25, x_O_indexOfLatestCorrection_26, x_O_indexOfLatestCorrection_27, x_O_indexOfLatestCorrection_30, x_O_indexOfLatestCorrection_33, x_O_indexOfLatestCorrection_34, e, e2, bI_0, bI_t, bI_f, e10, isA30, isA31, isA33, isA40, isA42, isA43, rOkB0, rOkB1, rOkB, Ret_v, Ret_n, cmp_eq, cmp_lt, cmp_gt, nI_1, eq_self, if_true, if_false, reduceIte, lst]
  | succ k ih =>
    intro hk
    have e : nI (k + 1) - 1 = nI k := nI_s k
    have e2 : ¬ nI k < 0 := nI_pos (by omega)
    have e3 : nI k + -1 = nI k - 1 := (Int32.sub_eq_add_neg _ _).symm
    have g := fun Q' => c_R_numberAt (Q := Q') sL hD.2.2.2.2.2.1 iL (by omega) (i := nI k)
    rw [inb_nI (by omega) (by omega), if_pos (by simp), ix_nI (by omega)] at g
    rw [x_O_indexOfLatestCorrection_10]
    by_cases q : (bL a).2.2.2 k = 0
    · simp only [x_O_indexOfLatestCorrection_0, x_O_indexOfLatestCorrection_1, x_O_indexOfLatestCorrection_4, x_O_indexOfLatestCorrection_7, x_O_indexOfLatestCorrection_8, x_O_indexOfLatestCorrection_9, x_O_indexOfLatestCorrection_11, x_O_indexOfLatestCorrection_14, x_O_indexOfLatestCorrection_15, x_O_indexOfLatestCorrection_18, x_O_indexOfLatestCorrection_19, x_O_indexOfLatestCorrection_22, x_O_indexOfLatestCorrection_25, x_O_indexOfLatestCorrection_26, x_O_indexOfLatestCorrection_27, x_O_indexOfLatestCorrection_30, x_O_indexOfLatestCorrection_33, x_O_indexOfLatestCorrection_34, s0, r5, sL.1, e, e2, g, q, bI_0, bI_t, bI_f, e10, isA30, isA31, isA33, isA40, isA42, isA43, rOkB0, rOkB1, rOkB, Ret_v, Ret_n, cmp_eq, cmp_lt, cmp_gt, nI_1, eq_self, if_true, if_false, reduceIte, lst]
    · simp only [x_O_indexOfLatestCorrection_0, x_O_indexOfLatestCorrection_1, x_O_indexOfLatestCorrection_4, x_O_indexOfLatestCorrection_7, x_O_indexOfLatestCorrection_8, x_O_indexOfLatestCorrection_9, x_O_indexOfLatestCorrection_11, x_O_indexOfLatestCorrection_14, x_O_indexOfLatestCorrection_15, x_O_indexOfLatestCorrection_18, x_O_indexOfLatestCorrection_19, x_O_indexOfLatestCorrection_22, x_O_indexOfLatestCorrection_25, x_O_indexOfLatestCorrection_26, x_O_indexOfLatestCorrection_27, x_O_indexOfLatestCorrection_30, x_O_indexOfLatestCorrection_33, x_O_indexOfLatestCorrection_34, s0, r5, sL.1, e, e2, e3, g, q, bI_0, bI_t, bI_f, e10, isA30, isA31, isA33, isA40, isA42, isA43, rOkB0, rOkB1, rOkB, Ret_v, Ret_n, cmp_eq, cmp_lt, cmp_gt, nI_1, eq_self, if_true, if_false, reduceIte, lst, ih (by omega)]
theorem c_O_latest (hS : BkS R S B) (hD : BkD I J B a) (hI : BkI T a) : Wp 98 0 [.ref B, nov] [] I J R S Q = Q 0 (some (.int (nI (late a) - 1))) I J R S := by
  have l := l_O_latest (Q := Q) hS hD hI _ (Nat.le_refl _)
  obtain ⟨s0, sW, sN, sP, sB, sS, sL, sK, sT, nK, nT, r0, r1, r2, r3, r4, r5, r6, r7⟩ := hS
  simp only [x_O_indexOfLatestCorrection_0, x_O_indexOfLatestCorrection_1, x_O_indexOfLatestCorrection_4, x_O_indexOfLatestCorrection_7, x_O_indexOfLatestCorrection_8, x_O_indexOfLatestCorrection_9, s0, r5, sL.1, c_R_size sL, hD.2.2.2.2.2.1.1, bI_0, bI_t, bI_f, e10, isA30, isA31, isA33, isA40, isA42, isA43, rOkB0, rOkB1, rOkB, Ret_v, Ret_n, cmp_eq, cmp_lt, cmp_gt, nI_1, eq_self, if_true, if_false, reduceIte, l, late]
theorem c_O_canTakeBack (hS : BkS R S B) (hD : BkD I J B a) (hI : BkI T a) : Wp 99 0 [.ref B, nov] [] I J R S Q = Q 0 (some (.int (bI (canB a)))) I J R S := by
  have l := fun Q' => c_O_latest (Q := Q') hS hD hI
  have hb := fun Q' t w => c_O_isBanned (Q := Q') hS hD hI (t := t) (w := w)
  obtain ⟨s0, sW, sN, sP, sB, sS, sL, sK, sT, nK, nT, r0, r1, r2, r3, r4, r5, r6, r7⟩ := hS
  obtain ⟨iW, iN, iP, iB, iS, iL, zW, zN, zS, wW, wN, wL, oW, oN, cW, cP, cS, cL, cK, cT0, cT1, cT2⟩ := hI
  have f := fun Q' => c_R_isFull (Q := Q') sB hD.2.2.2.1.1 iB (by omega) (J := J)
  have ll : late a ≤ (bL a).1 := lst_le _
  unfold canB
  by_cases q : 0 < late a
  · have e : nI (late a) - 1 = nI (late a - 1) := nI_sub (b := 1) q
    have e2 : ¬ nI (late a - 1) = -1 := by
      have := frI_t (k := late a - 1) (n := 20) (by omega) (by omega)
      rwa [frI_lt (by omega)] at this
    have g1 := fun Q' => c_R_firstAt (Q := Q') sL hD.2.2.2.2.2.1 iL (by omega) (i := nI (late a - 1))
    have g2 := fun Q' => c_R_secondAt (Q := Q') sL hD.2.2.2.2.2.1 iL (by omega) (i := nI (late a - 1))
    rw [inb_nI (by omega) (by omega), if_pos (by simp), ix_nI (by omega)] at g1 g2
    by_cases q2 : (bB a).1 < 24
    · simp only [x_O_canTakeBack_0, x_O_canTakeBack_1, x_O_canTakeBack_4, x_O_canTakeBack_5, x_O_canTakeBack_6, x_O_canTakeBack_7, x_O_canTakeBack_10, x_O_canTakeBack_11, x_O_canTakeBack_12, x_O_canTakeBack_13, x_O_canTakeBack_16, x_O_canTakeBack_19, x_O_canTakeBack_22, x_O_canTakeBack_23, x_O_canTakeBack_24, x_O_canTakeBack_27, x_O_canTakeBack_28, x_O_canTakeBack_31, x_O_canTakeBack_32, x_O_canTakeBack_35, x_O_canTakeBack_36, x_O_canTakeBack_39, x_O_canTakeBack_42, x_O_canTakeBack_45, x_O_canTakeBack_46, x_O_canTakeBack_49, x_O_canTakeBack_50, s0, r3, r5, sB.1, sL.1, l, e, e2, f, bI_0, bI_t, bI_f, e10, isA30, isA31, isA33, isA40, isA42, isA43, rOkB0, rOkB1, rOkB, Ret_v, Ret_n, cmp_eq, cmp_lt, cmp_gt, nI_1, eq_self, if_true, if_false, reduceIte, decide_eq_true q, decide_eq_true q2, decide_eq_false (show ¬ 24 ≤ (bB a).1 by omega), Bool.true_and, Bool.true_or]
    · cases qb : isB a ((bL a).2.1 (late a - 1)) ((bL a).2.2.1 (late a - 1)) <;> simp only [x_O_canTakeBack_0, x_O_canTakeBack_1, x_O_canTakeBack_4, x_O_canTakeBack_5, x_O_canTakeBack_6, x_O_canTakeBack_7, x_O_canTakeBack_10, x_O_canTakeBack_11, x_O_canTakeBack_12, x_O_canTakeBack_13, x_O_canTakeBack_16, x_O_canTakeBack_19, x_O_canTakeBack_22, x_O_canTakeBack_23, x_O_canTakeBack_24, x_O_canTakeBack_27, x_O_canTakeBack_28, x_O_canTakeBack_31, x_O_canTakeBack_32, x_O_canTakeBack_35, x_O_canTakeBack_36, x_O_canTakeBack_39, x_O_canTakeBack_42, x_O_canTakeBack_45, x_O_canTakeBack_46, x_O_canTakeBack_49, x_O_canTakeBack_50, s0, r3, r5, sB.1, sL.1, l, e, e2, f, g1, g2, hb, qb, bI_0, bI_t, bI_f, e10, isA30, isA31, isA33, isA40, isA42, isA43, rOkB0, rOkB1, rOkB, Ret_v, Ret_n, cmp_eq, cmp_lt, cmp_gt, nI_1, eq_self, if_true, if_false, reduceIte, decide_eq_true q, decide_eq_false q2, decide_eq_true (show 24 ≤ (bB a).1 by omega), Bool.true_and, Bool.false_or]
  · have e : nI (late a) - 1 = -1 := by rw [show late a = 0 by omega]; decide
    simp only [x_O_canTakeBack_0, x_O_canTakeBack_1, x_O_canTakeBack_4, x_O_canTakeBack_5, x_O_canTakeBack_6, x_O_canTakeBack_7, x_O_canTakeBack_10, x_O_canTakeBack_11, x_O_canTakeBack_12, x_O_canTakeBack_13, x_O_canTakeBack_16, x_O_canTakeBack_19, x_O_canTakeBack_22, x_O_canTakeBack_23, x_O_canTakeBack_24, x_O_canTakeBack_27, x_O_canTakeBack_28, x_O_canTakeBack_31, x_O_canTakeBack_32, x_O_canTakeBack_35, x_O_canTakeBack_36, x_O_canTakeBack_39, x_O_canTakeBack_42, x_O_canTakeBack_45, x_O_canTakeBack_46, x_O_canTakeBack_49, x_O_canTakeBack_50, s0, l, e, bI_0, bI_t, bI_f, e10, isA30, isA31, isA33, isA40, isA42, isA43, rOkB0, rOkB1, rOkB, Ret_v, Ret_n, cmp_eq, cmp_lt, cmp_gt, nI_1, eq_self, if_true, if_false, reduceIte, decide_eq_false q, Bool.false_and]
end OR

