/-- the first place from i on, among k, that p takes; i + k if none -/
def fd (p : Nat → Bool) (i : Nat) : Nat → Nat
  | 0 => i
  | k + 1 => if p i = true then i else fd p (i + 1) k
/-- a place found, as the number that is answered -/
def frI (k n : Nat) : Int32 := if k < n then nI k else -1
theorem fd_le {p : Nat → Bool} : ∀ k i, i ≤ fd p i k ∧ fd p i k ≤ i + k
  | 0, i => by simp only [fd]; omega
  | k + 1, i => by
    simp only [fd]
    split
    · omega
    · have := fd_le (p := p) k (i + 1); omega
theorem fd_congr {p q : Nat → Bool} : ∀ (k i : Nat), (∀ j, i ≤ j → j < i + k → p j = q j) → fd p i k = fd q i k
  | 0, _, _ => by simp only [fd]
  | k + 1, i, h => by
    simp only [fd]
    rw [h i (by omega) (by omega), fd_congr k (i + 1) (fun j h1 h2 => h j (by omega) (by omega))]
theorem fd_hit {p : Nat → Bool} : ∀ k i, fd p i k < i + k → p (fd p i k) = true
  | 0, i, h => by simp only [fd] at h; omega
  | k + 1, i, h => by
    simp only [fd] at h ⊢
    by_cases q : p i = true
    · rw [if_pos q]; exact q
    · rw [if_neg q] at h ⊢
      exact fd_hit k (i + 1) (by omega)
theorem fd_no {p : Nat → Bool} : ∀ k i j, i ≤ j → j < fd p i k → p j = false
  | 0, i, j, h1, h2 => by simp only [fd] at h2; omega
  | k + 1, i, j, h1, h2 => by
    simp only [fd] at h2
    by_cases q : p i = true
    · rw [if_pos q] at h2; omega
    · rw [if_neg q] at h2
      by_cases e : j = i
      · rw [e]; simpa using q
      · exact fd_no k (i + 1) j (by omega) h2
theorem fsI_fd {p : Nat → Bool} : ∀ k i, fsI p i k = frI (fd p i k) (i + k)
  | 0, i => by simp [fsI, fd, frI]
  | k + 1, i => by
    simp only [fsI, fd]
    split
    · rw [frI, if_pos (by omega)]
    · rw [fsI_fd k (i + 1), show i + 1 + k = i + (k + 1) by omega]
theorem cnt_le {p : Nat → Bool} : ∀ k i, cnt p i k ≤ k
  | 0, i => by simp [cnt]
  | k + 1, i => by
    simp only [cnt]
    have := cnt_le (p := p) k (i + 1)
    split <;> omega
theorem frI_lt {k n : Nat} (h : k < n) : frI k n = nI k := if_pos h
theorem frI_ge {k n : Nat} (h : ¬ k < n) : frI k n = -1 := if_neg h
theorem frI_inb {k n : Nat} (h : n < 2 ^ 31) : inb (frI k n) n = decide (k < n) := by
  by_cases q : k < n
  · rw [frI_lt q, inb_nI q h, decide_eq_true q]
  · rw [frI_ge q, inb_m1, decide_eq_false q]
theorem frI_ix {k n : Nat} (h : n < 2 ^ 31) (q : k < n) : ix (frI k n) = k := by rw [frI_lt q, ix_nI (by omega)]
theorem frI_m1 {k n : Nat} (h : n < 2 ^ 31) : (frI k n = -1) ↔ ¬ k < n := by
  by_cases q : k < n
  · rw [frI_lt q]
    constructor
    · intro e
      have := nI_toInt (n := k) (by omega)
      rw [e] at this
      simp at this
    · intro e; exact absurd q e
  · rw [frI_ge q]; simp [q]
theorem alF_lt : ∀ k n, n < 2 ^ 40 → alF k n < 2 ^ 40
  | 0, n, h => by simp only [alF]; exact h
  | k + 1, n, h => by
    simp only [alF]
    split
    · exact alF_lt k _ (by omega)
    · exact h
/-- a word's place in the order of the dictionary -/
def alg (w : Int64) : Nat := alF 7 w.toInt.toNat
theorem alg_lW {n : Nat} (h : n < 2 ^ 63) : alg (lW n) = alF 7 n := by unfold alg; rw [lW_toInt h, Int.toNat_natCast]
theorem alg_lt {w : Int64} (h : isW w = true) : alg w < 2 ^ 40 := by
  obtain ⟨n, e, _, h2, _⟩ := isW_of h
  rw [e, alg_lW (by omega)]
  exact alF_lt _ _ h2
section RI
variable {I : MI} {J : MJ} {R : MR} {S : Sh} {Q : SkQ} {b cap : Nat} {p : Rw}
theorem c_W_al {w : Int64} (h : isW w = true) : Wp 172 0 [.long w, nov, nov, nov, nov] [] I J R S Q = Q 0 (some (.long (lW (alg w)))) I J R S := by
  obtain ⟨n, e, _, h2, _⟩ := isW_of h
  rw [e, alg_lW (by omega)]
  exact c_W_aligned h2
theorem c_W_len {w : Int64} (h : isW w = true) : Wp 168 0 [.long w, nov, nov] [] I J R S Q = Q 0 (some (.int (nI (wlF 8 w.toInt.toNat)))) I J R S := by
  obtain ⟨n, e, _, h2, _⟩ := isW_of h
  rw [e, lW_toInt (by omega), Int.toNat_natCast]
  exact c_W_lengthOf (by omega)
theorem c_R_fd (h : RwS R S b cap) (hd : RwD I J b p) (hc : p.1 ≤ cap) (hc2 : cap < 2 ^ 31) {w u : Int64} : Wp 112 0 [.ref b, .long w, nov, .long u, nov, nov] [] I J R S Q = Q 0 (some (.int (frI (fd (fun i => decide (p.2.1 i = w) && decide (p.2.2.1 i = u)) 0 p.1) p.1))) I J R S := by
  rw [c_R_find h hd.1 hc hc2, fsI_fd, Nat.zero_add]
  rw [fd_congr (q := fun i => decide (p.2.1 i = w) && decide (p.2.2.1 i = u)) p.1 0 (fun j h1 h2 => by
    have := hd.2 j (by omega)
    rw [this.1, this.2.1])]
/-- a table whose second words are all 0 -/
def rZ (p : Rw) : Prop := ∀ i, i < p.1 → p.2.2.1 i = 0
/-- where a first word stands -/
def fw (p : Rw) (w : Int64) : Nat := fd (fun i => decide (p.2.1 i = w)) 0 p.1
/-- where a pair stands -/
def fp (p : Rw) (w u : Int64) : Nat := fd (fun i => decide (p.2.1 i = w) && decide (p.2.2.1 i = u)) 0 p.1
theorem fw_le {p : Rw} {w : Int64} : fw p w ≤ p.1 := by
  have := fd_le (p := fun i => decide (p.2.1 i = w)) p.1 0
  unfold fw
  omega
theorem fw_hit {p : Rw} {w : Int64} (h : fw p w < p.1) : p.2.1 (fw p w) = w := by
  have := fd_hit (p := fun i => decide (p.2.1 i = w)) p.1 0 (by unfold fw at h; omega)
  exact of_decide_eq_true this
theorem fw_no {p : Rw} {w : Int64} {j : Nat} (h : j < fw p w) : p.2.1 j ≠ w := by
  have := fd_no (p := fun i => decide (p.2.1 i = w)) p.1 0 j (Nat.zero_le _) h
  exact of_decide_eq_false this
theorem c_R_fw (h : RwS R S b cap) (hd : RwD I J b p) (hc : p.1 ≤ cap) (hc2 : cap < 2 ^ 31) (hz : rZ p) {w : Int64} : Wp 112 0 [.ref b, .long w, nov, .long 0, nov, nov] [] I J R S Q = Q 0 (some (.int (frI (fw p w) p.1))) I J R S := by
  rw [c_R_fd h hd hc hc2]
  rw [fd_congr (q := fun i => decide (p.2.1 i = w)) p.1 0 (fun j h1 h2 => by rw [hz j (by omega), decide_eq_true (show (0 : Int64) = 0 by simp), Bool.and_true])]
  rfl
theorem c_R_fp (h : RwS R S b cap) (hd : RwD I J b p) (hc : p.1 ≤ cap) (hc2 : cap < 2 ^ 31) {w u : Int64} : Wp 112 0 [.ref b, .long w, nov, .long u, nov, nov] [] I J R S Q = Q 0 (some (.int (frI (fp p w u) p.1))) I J R S := c_R_fd h hd hc hc2
/-- how many stand ahead of a word in the order of the dictionary -/
def ahd (p : Rw) (w : Int64) : Nat := cnt (fun i => decide (alg (p.2.1 i) < alg w)) 0 p.1
theorem ahd_le {p : Rw} {w : Int64} : ahd p w ≤ p.1 := cnt_le _ _
theorem l_R_insertInOrder (h : RwS R S b cap) (hd : RwD I J b p) (hc : p.1 < cap) (hc2 : cap < 2 ^ 31) (hw : ∀ i, i < p.1 → isW (p.2.1 i) = true) {w : Int64} (ww : isW w = true) {c : Int32} (hQ : ∀ I' J', fr b (b + 3) I J I' J' → RwD I' J' b (rIns p (ahd p w) w 0 c) → Q 0 none I' J' R S) : ∀ k i m : Nat, i + k = p.1 → m + cnt (fun i => decide (alg (p.2.1 i) < alg w)) i k = ahd p w → Wp 116 12 [.ref b, .long w, nov, .int c, .long (lW (alg w)), nov, .int (nI m), .int (nI i)] [] I J R S Q := by
  intro k
  induction k with
  | zero =>
    intro i m hi hm
    have hlt : ¬ nI i < I b 3 := by rw [hd.1]; exact nI_nlt (by omega) (by omega)
    have hm' : m = ahd p w := by rw [← hm]; simp [cnt]
    subst hm'
    have hl := ahd_le (p := p) (w := w)
    rw [x_R_insertInOrder_12]
    simp only [x_R_insertInOrder_0, x_R_insertInOrder_1, x_R_insertInOrder_4, x_R_insertInOrder_6, x_R_insertInOrder_7, x_R_insertInOrder_9, x_R_insertInOrder_10, x_R_insertInOrder_14, x_R_insertInOrder_15, x_R_insertInOrder_18, x_R_insertInOrder_21, x_R_insertInOrder_22, x_R_insertInOrder_25, x_R_insertInOrder_27, x_R_insertInOrder_28, x_R_insertInOrder_31, x_R_insertInOrder_33, x_R_insertInOrder_34, x_R_insertInOrder_37, x_R_insertInOrder_40, x_R_insertInOrder_43, x_R_insertInOrder_46, x_R_insertInOrder_47, x_R_insertInOrder_49, x_R_insertInOrder_50, x_R_insertInOrder_51, h.1, hlt, bI_0, bI_t, bI_f, e10, isA30, isA31, isA33, isA40, isA42, isA43, rOkB0, rOkB1, rOkB, Ret_v, Ret_n, cmp_eq, cmp_lt, cmp_gt, nI_1, eq_self, if_true, if_false, reduceIte]
    rw [x_R_insertInOrder_52 h.1]
    refine c_R_insert h hd hc hc2 hl (fun I' J' hf hd' => ?_)
    rw [Ret_n, x_R_insertInOrder_55]
    exact hQ I' J' hf hd'
  | succ k ih =>
    intro i m hi hm
    have hlt : nI i < I b 3 := by rw [hd.1]; exact nI_lt (by omega) (by omega)
    have hin : inb (nI i) cap = true := inb_nI (by omega) hc2
    have hix : ix (nI i) = i := ix_nI (by omega)
    have e := (hd.2 i (by omega)).1
    have ea := fun Q' => c_W_al (Q := Q') (I := I) (J := J) (R := R) (S := S) (hw i (by omega))
    have b1 := alg_lt (hw i (by omega))
    have b2 := alg_lt ww
    have el := lW_lt (a := alg (p.2.1 i)) (b := alg w) (by omega) (by omega)
    simp only [cnt, decide_eq_true_eq] at hm
    rw [x_R_insertInOrder_12]
    by_cases q : alg (p.2.1 i) < alg w
    · rw [if_pos q] at hm
      have l := ih (i + 1) (m + 1) (by omega) (by omega)
      simp only [x_R_insertInOrder_0, x_R_insertInOrder_1, x_R_insertInOrder_4, x_R_insertInOrder_6, x_R_insertInOrder_7, x_R_insertInOrder_9, x_R_insertInOrder_10, x_R_insertInOrder_14, x_R_insertInOrder_15, x_R_insertInOrder_18, x_R_insertInOrder_21, x_R_insertInOrder_22, x_R_insertInOrder_25, x_R_insertInOrder_27, x_R_insertInOrder_28, x_R_insertInOrder_31, x_R_insertInOrder_33, x_R_insertInOrder_34, x_R_insertInOrder_37, x_R_insertInOrder_40, x_R_insertInOrder_43, x_R_insertInOrder_46, x_R_insertInOrder_47, x_R_insertInOrder_49, x_R_insertInOrder_50, x_R_insertInOrder_51, h.1, h.2.1, h.2.2.2.2.1, h.2.2.2.2.2.2.2.1, hin, hix, hlt, bI_0, bI_t, bI_f, e10, isA30, isA31, isA33, isA40, isA42, isA43, rOkB0, rOkB1, rOkB, Ret_v, Ret_n, cmp_eq, cmp_lt, cmp_gt, nI_1, eq_self, if_true, if_false, reduceIte, e, ea, el, q, nI_1', l]
    · rw [if_neg q] at hm
      have l := ih (i + 1) m (by omega) (by omega)
      simp only [x_R_insertInOrder_0, x_R_insertInOrder_1, x_R_insertInOrder_4, x_R_insertInOrder_6, x_R_insertInOrder_7, x_R_insertInOrder_9, x_R_insertInOrder_10, x_R_insertInOrder_14, x_R_insertInOrder_15, x_R_insertInOrder_18, x_R_insertInOrder_21, x_R_insertInOrder_22, x_R_insertInOrder_25, x_R_insertInOrder_27, x_R_insertInOrder_28, x_R_insertInOrder_31, x_R_insertInOrder_33, x_R_insertInOrder_34, x_R_insertInOrder_37, x_R_insertInOrder_40, x_R_insertInOrder_43, x_R_insertInOrder_46, x_R_insertInOrder_47, x_R_insertInOrder_49, x_R_insertInOrder_50, x_R_insertInOrder_51, h.1, h.2.1, h.2.2.2.2.1, h.2.2.2.2.2.2.2.1, hin, hix, hlt, bI_0, bI_t, bI_f, e10, isA30, isA31, isA33, isA40, isA42, isA43, rOkB0, rOkB1, rOkB, Ret_v, Ret_n, cmp_eq, cmp_lt, cmp_gt, nI_1, eq_self, if_true, if_false, reduceIte, e, ea, el, q, nI_1', l]
theorem c_R_insertInOrder (h : RwS R S b cap) (hd : RwD I J b p) (hc : p.1 < cap) (hc2 : cap < 2 ^ 31) (hw : ∀ i, i < p.1 → isW (p.2.1 i) = true) {w : Int64} (ww : isW w = true) {c : Int32} (hQ : ∀ I' J', fr b (b + 3) I J I' J' → RwD I' J' b (rIns p (ahd p w) w 0 c) → Q 0 none I' J' R S) : Wp 116 0 [.ref b, .long w, nov, .int c, nov, nov, nov, nov] [] I J R S Q := by
  have l := l_R_insertInOrder h hd hc hc2 hw ww hQ p.1 0 0 (by omega) (by rw [Nat.zero_add]; rfl)
  rw [nI_0] at l
  simp only [x_R_insertInOrder_0, x_R_insertInOrder_1, x_R_insertInOrder_4, x_R_insertInOrder_6, x_R_insertInOrder_7, x_R_insertInOrder_9, x_R_insertInOrder_10, c_W_al ww, bI_0, bI_t, bI_f, e10, isA30, isA31, isA33, isA40, isA42, isA43, rOkB0, rOkB1, rOkB, Ret_v, Ret_n, cmp_eq, cmp_lt, cmp_gt, nI_1, eq_self, if_true, if_false, reduceIte, l]
end RI

