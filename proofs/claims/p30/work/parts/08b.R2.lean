theorem e10 : ¬ (1 : Int32) = 0 := by decide
theorem nI_1' (i : Nat) : nI i + 1 = nI (i + 1) := (nI_succ i).symm
theorem nI_m (i : Nat) : nI (i + 1) + -1 = nI i := by
  rw [nI_succ, Int32.add_assoc, show (1 : Int32) + -1 = 0 by decide, Int32.add_zero]
theorem nI_s (i : Nat) : nI (i + 1) - 1 = nI i := by
  rw [nI_succ, Int32.sub_eq_add_neg, Int32.add_assoc, show (1 : Int32) + -1 = 0 by decide, Int32.add_zero]
theorem u2_of {α : Type} {f : Nat → Nat → α} {a k b j : Nat} {v : α} (h : ¬ (b = a ∧ j = k)) : u2 f a k v b j = f b j := if_neg h
theorem u2_eq {α : Type} {f : Nat → Nat → α} {a k : Nat} {v : α} : u2 f a k v a k = v := if_pos ⟨by simp, by simp⟩
theorem u2_p {α : Type} {f : Nat → Nat → α} {a k b : Nat} {v : α} (h : ¬ b = a) : u2 f a k v b = f b := by
  funext j
  exact u2_of (fun q => h q.1)
def Rw : Type := Nat × (Nat → Int64) × (Nat → Int64) × (Nat → Int32)
/-- the table's contents -/
def RwD (I : MI) (J : MJ) (b : Nat) (p : Rw) : Prop := I b 3 = nI p.1 ∧ ∀ i, i < p.1 → J (b + 1) i = p.2.1 i ∧ J (b + 2) i = p.2.2.1 i ∧ I (b + 3) i = p.2.2.2 i
/-- nothing outside of the places lo to hi has changed -/
def fr (lo hi : Nat) (I : MI) (J : MJ) (I' : MI) (J' : MJ) : Prop := ∀ p, (p < lo ∨ hi < p) → I' p = I p ∧ J' p = J p
theorem fr_rfl {lo hi : Nat} {I : MI} {J : MJ} : fr lo hi I J I J := fun _ _ => ⟨by simp, by simp⟩
theorem fr_trans {lo hi a b a' b' : Nat} {I I1 I2 : MI} {J J1 J2 : MJ} (h1 : fr a b I J I1 J1) (h2 : fr a' b' I1 J1 I2 J2) (l1 : lo ≤ a ∧ b ≤ hi) (l2 : lo ≤ a' ∧ b' ≤ hi) : fr lo hi I J I2 J2 := fun p hp => by
  obtain ⟨x1, x2⟩ := h1 p (by omega)
  obtain ⟨y1, y2⟩ := h2 p (by omega)
  exact ⟨y1.trans x1, y2.trans x2⟩
theorem fr_I {lo hi a k : Nat} {v : Int32} {I I' : MI} {J J' : MJ} (h : fr lo hi I J I' J') (ha : lo ≤ a ∧ a ≤ hi) : fr lo hi I J (u2 I' a k v) J' := fun p hp => ⟨by rw [u2_p (by omega)]; exact (h p hp).1, (h p hp).2⟩
theorem fr_J {lo hi a k : Nat} {v : Int64} {I I' : MI} {J J' : MJ} (h : fr lo hi I J I' J') (ha : lo ≤ a ∧ a ≤ hi) : fr lo hi I J I' (u2 J' a k v) := fun p hp => ⟨(h p hp).1, by rw [u2_p (by omega)]; exact (h p hp).2⟩
theorem RwD_fr {lo hi b : Nat} {I I' : MI} {J J' : MJ} {p : Rw} (h : RwD I J b p) (hf : fr lo hi I J I' J') (hb : b + 3 < lo ∨ hi < b) : RwD I' J' b p := by
  obtain ⟨h1, h2⟩ := h
  refine ⟨by rw [(hf b (by omega)).1]; exact h1, fun i hi => ?_⟩
  rw [(hf (b + 1) (by omega)).2, (hf (b + 2) (by omega)).2, (hf (b + 3) (by omega)).1]
  exact h2 i hi
/-- a row put in at the place k; the row at the place k taken out; its number changed -/
def rIns (p : Rw) (k : Nat) (w u : Int64) (c : Int32) : Rw := (p.1 + 1, fun i => if i < k then p.2.1 i else if i = k then w else p.2.1 (i - 1), fun i => if i < k then p.2.2.1 i else if i = k then u else p.2.2.1 (i - 1), fun i => if i < k then p.2.2.2 i else if i = k then c else p.2.2.2 (i - 1))
def rDel (p : Rw) (k : Nat) : Rw := (p.1 - 1, fun i => if i < k then p.2.1 i else p.2.1 (i + 1), fun i => if i < k then p.2.2.1 i else p.2.2.1 (i + 1), fun i => if i < k then p.2.2.2 i else p.2.2.2 (i + 1))
def rPut (p : Rw) (k : Nat) (c : Int32) : Rw := (p.1, p.2.1, p.2.2.1, fun i => if i = k then c else p.2.2.2 i)
/-- how many of the k places from i on p takes -/
def cnt (p : Nat → Bool) (i : Nat) : Nat → Nat
  | 0 => 0
  | k + 1 => (if p i = true then 1 else 0) + cnt p (i + 1) k
def smI (f : Nat → Int32) (a : Int32) (i : Nat) : Nat → Int32
  | 0 => a
  | k + 1 => smI f (a + f i) (i + 1) k
/-- the first place of the least number, from the place l on -/
def lsI (f : Nat → Int32) (l i : Nat) : Nat → Nat
  | 0 => l
  | k + 1 => lsI f (if f i < f l then i else l) (i + 1) k
theorem fsI_congr {p q : Nat → Bool} : ∀ (k i : Nat), (∀ j, i ≤ j → j < i + k → p j = q j) → fsI p i k = fsI q i k
  | 0, _, _ => by simp only [fsI]
  | k + 1, i, h => by
    simp only [fsI]
    rw [h i (by omega) (by omega), fsI_congr k (i + 1) (fun j h1 h2 => h j (by omega) (by omega))]
theorem cnt_congr {p q : Nat → Bool} : ∀ (k i : Nat), (∀ j, i ≤ j → j < i + k → p j = q j) → cnt p i k = cnt q i k
  | 0, _, _ => by simp only [cnt]
  | k + 1, i, h => by
    simp only [cnt]
    rw [h i (by omega) (by omega), cnt_congr k (i + 1) (fun j h1 h2 => h j (by omega) (by omega))]
theorem smI_congr {f g : Nat → Int32} : ∀ (k i : Nat) (a : Int32), (∀ j, i ≤ j → j < i + k → f j = g j) → smI f a i k = smI g a i k
  | 0, _, _, _ => by simp only [smI]
  | k + 1, i, a, h => by
    simp only [smI]
    rw [h i (by omega) (by omega), smI_congr k (i + 1) _ (fun j h1 h2 => h j (by omega) (by omega))]
theorem fsI_or {p : Nat → Bool} : ∀ (k i : Nat), fsI p i k = -1 ∧ (∀ j, i ≤ j → j < i + k → p j = false) ∨ ∃ j, i ≤ j ∧ j < i + k ∧ fsI p i k = nI j ∧ p j = true ∧ ∀ l, i ≤ l → l < j → p l = false
  | 0, i => Or.inl ⟨by simp only [fsI], fun j h1 h2 => absurd h2 (by omega)⟩
  | k + 1, i => by
    by_cases h : p i = true
    · exact Or.inr ⟨i, by omega, by omega, by simp only [fsI]; rw [if_pos h], h, fun l h1 h2 => absurd h2 (by omega)⟩
    · have e : fsI p i (k + 1) = fsI p (i + 1) k := by simp only [fsI]; rw [if_neg h]
      rw [e]
      rcases fsI_or k (i + 1) with ⟨h1, h2⟩ | ⟨j, h1, h2, h3, h4, h5⟩
      · refine Or.inl ⟨h1, fun j a b => ?_⟩
        by_cases q : j = i
        · rw [q]; simpa using h
        · exact h2 j (by omega) (by omega)
      · refine Or.inr ⟨j, by omega, by omega, h3, h4, fun l a b => ?_⟩
        by_cases q : l = i
        · rw [q]; simpa using h
        · exact h5 l (by omega) (by omega)
theorem lsI_lt {f : Nat → Int32} : ∀ (k l i n : Nat), l < n → i + k ≤ n → lsI f l i k < n
  | 0, l, i, n, h, _ => by simp only [lsI]; exact h
  | k + 1, l, i, n, h, h2 => by
    simp only [lsI]
    refine lsI_lt k _ (i + 1) n ?_ (by omega)
    split <;> omega
theorem inb_le {i : Int32} {n m : Nat} (h : inb i n = true) (hm : n ≤ m) : inb i m = true := by
  unfold inb at h ⊢
  simp at h ⊢
  omega
theorem ix_lt {i : Int32} {n : Nat} (h : inb i n = true) : ix i < n := by
  unfold inb at h
  simp at h
  rw [ix, Int32.toNatClampNeg]
  omega
theorem inb_m1 {n : Nat} : inb (-1) n = false := by
  unfold inb
  rw [decide_eq_false (by decide)]
  simp
section RW
variable {I : MI} {J : MJ} {R : MR} {S : Sh} {Q : SkQ} {b cap : Nat} {p : Rw}
theorem c_R_firstAt (h : RwS R S b cap) (hd : RwD I J b p) (hc : p.1 ≤ cap) (hc2 : cap < 2 ^ 31) {i : Int32} : Wp 107 0 [.ref b, .int i] [] I J R S Q = Q 0 (some (.long (if inb i p.1 = true then p.2.1 (ix i) else -1))) I J R S := by
  have hh := fun Q' => c_R_has (Q := Q') h hd.1 (by omega) (i := i) (J := J)
  obtain ⟨k0, k1, k2, k3, n1, n2, n3, r0, r1, r2⟩ := h
  by_cases q : inb i p.1 = true
  · have q2 := inb_le q hc
    have q3 := (hd.2 _ (ix_lt q)).1
    simp only [x_R_firstAt_0, x_R_firstAt_1, x_R_firstAt_2, x_R_firstAt_5, x_R_firstAt_8, x_R_firstAt_9, x_R_firstAt_12, x_R_firstAt_13, x_R_firstAt_14, x_R_firstAt_17, x_R_firstAt_20, bI_0, bI_t, bI_f, isA30, isA31, isA33, isA40, isA42, isA43, rOkB0, rOkB1, rOkB, Ret_v, Ret_n, cmp_eq, cmp_lt, cmp_gt, nI_1, eq_self, if_true, if_false, reduceIte, k0, r0, k1, n1, hh, q, q2, q3, e10]
  · rw [Bool.not_eq_true] at q
    simp only [x_R_firstAt_0, x_R_firstAt_1, x_R_firstAt_2, x_R_firstAt_5, x_R_firstAt_8, x_R_firstAt_9, x_R_firstAt_12, x_R_firstAt_13, x_R_firstAt_14, x_R_firstAt_17, x_R_firstAt_20, bI_0, bI_t, bI_f, isA30, isA31, isA33, isA40, isA42, isA43, rOkB0, rOkB1, rOkB, Ret_v, Ret_n, cmp_eq, cmp_lt, cmp_gt, nI_1, eq_self, if_true, if_false, reduceIte, k0, r0, k1, n1, hh, q, Bool.false_eq_true]
theorem c_R_secondAt (h : RwS R S b cap) (hd : RwD I J b p) (hc : p.1 ≤ cap) (hc2 : cap < 2 ^ 31) {i : Int32} : Wp 108 0 [.ref b, .int i] [] I J R S Q = Q 0 (some (.long (if inb i p.1 = true then p.2.2.1 (ix i) else -1))) I J R S := by
  have hh := fun Q' => c_R_has (Q := Q') h hd.1 (by omega) (i := i) (J := J)
  obtain ⟨k0, k1, k2, k3, n1, n2, n3, r0, r1, r2⟩ := h
  by_cases q : inb i p.1 = true
  · have q2 := inb_le q hc
    have q3 := (hd.2 _ (ix_lt q)).2.1
    simp only [x_R_secondAt_0, x_R_secondAt_1, x_R_secondAt_2, x_R_secondAt_5, x_R_secondAt_8, x_R_secondAt_9, x_R_secondAt_12, x_R_secondAt_13, x_R_secondAt_14, x_R_secondAt_17, x_R_secondAt_20, bI_0, bI_t, bI_f, isA30, isA31, isA33, isA40, isA42, isA43, rOkB0, rOkB1, rOkB, Ret_v, Ret_n, cmp_eq, cmp_lt, cmp_gt, nI_1, eq_self, if_true, if_false, reduceIte, k0, r1, k2, n2, hh, q, q2, q3, e10]
  · rw [Bool.not_eq_true] at q
    simp only [x_R_secondAt_0, x_R_secondAt_1, x_R_secondAt_2, x_R_secondAt_5, x_R_secondAt_8, x_R_secondAt_9, x_R_secondAt_12, x_R_secondAt_13, x_R_secondAt_14, x_R_secondAt_17, x_R_secondAt_20, bI_0, bI_t, bI_f, isA30, isA31, isA33, isA40, isA42, isA43, rOkB0, rOkB1, rOkB, Ret_v, Ret_n, cmp_eq, cmp_lt, cmp_gt, nI_1, eq_self, if_true, if_false, reduceIte, k0, hh, q, Bool.false_eq_true]
theorem c_R_numberAt (h : RwS R S b cap) (hd : RwD I J b p) (hc : p.1 ≤ cap) (hc2 : cap < 2 ^ 31) {i : Int32} : Wp 109 0 [.ref b, .int i] [] I J R S Q = Q 0 (some (.int (if inb i p.1 = true then p.2.2.2 (ix i) else -1))) I J R S := by
  have hh := fun Q' => c_R_has (Q := Q') h hd.1 (by omega) (i := i) (J := J)
  obtain ⟨k0, k1, k2, k3, n1, n2, n3, r0, r1, r2⟩ := h
  by_cases q : inb i p.1 = true
  · have q2 := inb_le q hc
    have q3 := (hd.2 _ (ix_lt q)).2.2
    simp only [x_R_numberAt_0, x_R_numberAt_1, x_R_numberAt_2, x_R_numberAt_5, x_R_numberAt_8, x_R_numberAt_9, x_R_numberAt_12, x_R_numberAt_13, x_R_numberAt_14, x_R_numberAt_17, x_R_numberAt_18, bI_0, bI_t, bI_f, isA30, isA31, isA33, isA40, isA42, isA43, rOkB0, rOkB1, rOkB, Ret_v, Ret_n, cmp_eq, cmp_lt, cmp_gt, nI_1, eq_self, if_true, if_false, reduceIte, k0, r2, k3, n3, hh, q, q2, q3, e10]
  · rw [Bool.not_eq_true] at q
    simp only [x_R_numberAt_0, x_R_numberAt_1, x_R_numberAt_2, x_R_numberAt_5, x_R_numberAt_8, x_R_numberAt_9, x_R_numberAt_12, x_R_numberAt_13, x_R_numberAt_14, x_R_numberAt_17, x_R_numberAt_18, bI_0, bI_t, bI_f, isA30, isA31, isA33, isA40, isA42, isA43, rOkB0, rOkB1, rOkB, Ret_v, Ret_n, cmp_eq, cmp_lt, cmp_gt, nI_1, eq_self, if_true, if_false, reduceIte, k0, hh, q, Bool.false_eq_true]
theorem c_R_valueAt0 (h : RwS R S b cap) (hd : RwD I J b p) (hc : p.1 ≤ cap) (hc2 : cap < 2 ^ 31) {i : Int32} : Wp 110 0 [.ref b, .int i, .int 0] [] I J R S Q = Q 0 (some (.long (if inb i p.1 = true then p.2.1 (ix i) else -1))) I J R S := by
  simp only [x_R_valueAt_0, x_R_valueAt_28, x_R_valueAt_29, x_R_valueAt_30, x_R_valueAt_33, x_R_valueAt_34, x_R_valueAt_35, x_R_valueAt_36, x_R_valueAt_39, x_R_valueAt_40, x_R_valueAt_41, x_R_valueAt_42, x_R_valueAt_45, x_R_valueAt_46, x_R_valueAt_1_0, x_R_valueAt_1_1, bI_0, bI_t, bI_f, isA30, isA31, isA33, isA40, isA42, isA43, rOkB0, rOkB1, rOkB, Ret_v, Ret_n, cmp_eq, cmp_lt, cmp_gt, nI_1, eq_self, if_true, if_false, reduceIte, h.1, c_R_firstAt h hd hc hc2]
theorem c_R_valueAt1 (h : RwS R S b cap) (hd : RwD I J b p) (hc : p.1 ≤ cap) (hc2 : cap < 2 ^ 31) {i : Int32} : Wp 110 0 [.ref b, .int i, .int 1] [] I J R S Q = Q 0 (some (.long (if inb i p.1 = true then p.2.2.1 (ix i) else -1))) I J R S := by
  simp only [x_R_valueAt_0, x_R_valueAt_28, x_R_valueAt_29, x_R_valueAt_30, x_R_valueAt_33, x_R_valueAt_34, x_R_valueAt_35, x_R_valueAt_36, x_R_valueAt_39, x_R_valueAt_40, x_R_valueAt_41, x_R_valueAt_42, x_R_valueAt_45, x_R_valueAt_46, x_R_valueAt_1_0, x_R_valueAt_1_1, bI_0, bI_t, bI_f, isA30, isA31, isA33, isA40, isA42, isA43, rOkB0, rOkB1, rOkB, Ret_v, Ret_n, cmp_eq, cmp_lt, cmp_gt, nI_1, eq_self, if_true, if_false, reduceIte, h.1, c_R_secondAt h hd hc hc2]
theorem c_R_valueAt2 (h : RwS R S b cap) (hd : RwD I J b p) (hc : p.1 ≤ cap) (hc2 : cap < 2 ^ 31) {i : Int32} : Wp 110 0 [.ref b, .int i, .int 2] [] I J R S Q = Q 0 (some (.long (if inb i p.1 = true then p.2.2.2 (ix i) else -1).toInt64)) I J R S := by
  have e : ∀ ls st I J R S Q, Wp 110 1 ls (.int 2 :: st) I J R S Q = Wp 110 40 ls st I J R S Q := fun _ _ _ _ _ _ _ => x_R_valueAt_1_d (by decide)
  simp only [x_R_valueAt_0, x_R_valueAt_28, x_R_valueAt_29, x_R_valueAt_30, x_R_valueAt_33, x_R_valueAt_34, x_R_valueAt_35, x_R_valueAt_36, x_R_valueAt_39, x_R_valueAt_40, x_R_valueAt_41, x_R_valueAt_42, x_R_valueAt_45, x_R_valueAt_46, x_R_valueAt_1_0, x_R_valueAt_1_1, e, bI_0, bI_t, bI_f, isA30, isA31, isA33, isA40, isA42, isA43, rOkB0, rOkB1, rOkB, Ret_v, Ret_n, cmp_eq, cmp_lt, cmp_gt, nI_1, eq_self, if_true, if_false, reduceIte, h.1, c_R_numberAt h hd hc hc2]
theorem c_R_putNumber (h : RwS R S b cap) (hd : RwD I J b p) (hc : p.1 ≤ cap) (hc2 : cap < 2 ^ 31) {i v : Int32} (q : inb i p.1 = true) (hQ : ∀ I', fr b (b + 3) I J I' J → RwD I' J b (rPut p (ix i) v) → Q 0 none I' J R S) : Wp 111 0 [.ref b, .int i, .int v] [] I J R S Q := by
  have hh := fun Q' => c_R_has (Q := Q') h hd.1 (by omega) (i := i) (J := J)
  have q2 := inb_le q hc
  obtain ⟨k0, k1, k2, k3, n1, n2, n3, r0, r1, r2⟩ := h
  simp only [x_R_putNumber_0, x_R_putNumber_1, x_R_putNumber_2, x_R_putNumber_5, x_R_putNumber_8, x_R_putNumber_9, x_R_putNumber_12, x_R_putNumber_13, x_R_putNumber_14, x_R_putNumber_15, bI_0, bI_t, bI_f, isA30, isA31, isA33, isA40, isA42, isA43, rOkB0, rOkB1, rOkB, Ret_v, Ret_n, cmp_eq, cmp_lt, cmp_gt, nI_1, eq_self, if_true, if_false, reduceIte, k0, r2, k3, n3, hh, q, q2, Bool.true_eq_false]
  refine hQ _ (fr_I fr_rfl (by omega)) ⟨by rw [u2_p (by omega)]; exact hd.1, fun j hj => ?_⟩
  have := hd.2 j hj
  refine ⟨this.1, this.2.1, ?_⟩
  show u2 I (b + 3) (ix i) v (b + 3) j = if j = ix i then v else p.2.2.2 j
  by_cases e : j = ix i
  · rw [if_pos e, e, u2_eq]
  · rw [if_neg e, u2_of (by omega)]; exact this.2.2
theorem c_R_putNumber_no (h : RwS R S b cap) (hd : RwD I J b p) (hc : p.1 ≤ cap) (hc2 : cap < 2 ^ 31) {i v : Int32} (q : inb i p.1 = false) : Wp 111 0 [.ref b, .int i, .int v] [] I J R S Q = Q 0 none I J R S := by
  have hh := fun Q' => c_R_has (Q := Q') h hd.1 (by omega) (i := i) (J := J)
  simp only [x_R_putNumber_0, x_R_putNumber_1, x_R_putNumber_2, x_R_putNumber_5, x_R_putNumber_8, x_R_putNumber_9, x_R_putNumber_12, x_R_putNumber_13, x_R_putNumber_14, x_R_putNumber_15, bI_0, bI_t, bI_f, isA30, isA31, isA33, isA40, isA42, isA43, rOkB0, rOkB1, rOkB, Ret_v, Ret_n, cmp_eq, cmp_lt, cmp_gt, nI_1, eq_self, if_true, if_false, reduceIte, h.1, hh, q]
theorem l_R_countOfFirst (h : RwS R S b cap) (hd : RwD I J b p) (hc : p.1 ≤ cap) (hc2 : cap < 2 ^ 31) {w : Int64} : ∀ k i c : Nat, i + k = p.1 → Wp 113 5 [.ref b, .long w, nov, .int (nI c), .int (nI i)] [] I J R S Q = Q 0 (some (.int (nI (c + cnt (fun i => decide (p.2.1 i = w)) i k)))) I J R S := by
  obtain ⟨k0, k1, k2, k3, n1, n2, n3, r0, r1, r2⟩ := h
  intro k
  induction k with
  | zero =>
    intro i c hi
    have hlt : ¬ nI i < I b 3 := by rw [hd.1]; exact nI_nlt (by omega) (by omega)
    rw [x_R_countOfFirst_5]
    simp only [x_R_countOfFirst_0, x_R_countOfFirst_1, x_R_countOfFirst_2, x_R_countOfFirst_3, x_R_countOfFirst_7, x_R_countOfFirst_8, x_R_countOfFirst_11, x_R_countOfFirst_14, x_R_countOfFirst_15, x_R_countOfFirst_18, x_R_countOfFirst_20, x_R_countOfFirst_21, x_R_countOfFirst_22, x_R_countOfFirst_23, x_R_countOfFirst_26, x_R_countOfFirst_29, x_R_countOfFirst_32, x_R_countOfFirst_35, x_R_countOfFirst_36, k0, hlt, bI_0, bI_t, bI_f, isA30, isA31, isA33, isA40, isA42, isA43, rOkB0, rOkB1, rOkB, Ret_v, Ret_n, cmp_eq, cmp_lt, cmp_gt, nI_1, eq_self, if_true, if_false, reduceIte, cnt, Nat.add_zero]
  | succ k ih =>
    intro i c hi
    have hlt : nI i < I b 3 := by rw [hd.1]; exact nI_lt (by omega) (by omega)
    have hin : inb (nI i) cap = true := inb_nI (by omega) hc2
    have hix : ix (nI i) = i := ix_nI (by omega)
    have e := (hd.2 i (by omega)).1
    rw [x_R_countOfFirst_5]
    by_cases hw : p.2.1 i = w
    · simp only [x_R_countOfFirst_0, x_R_countOfFirst_1, x_R_countOfFirst_2, x_R_countOfFirst_3, x_R_countOfFirst_7, x_R_countOfFirst_8, x_R_countOfFirst_11, x_R_countOfFirst_14, x_R_countOfFirst_15, x_R_countOfFirst_18, x_R_countOfFirst_20, x_R_countOfFirst_21, x_R_countOfFirst_22, x_R_countOfFirst_23, x_R_countOfFirst_26, x_R_countOfFirst_29, x_R_countOfFirst_32, x_R_countOfFirst_35, x_R_countOfFirst_36, k0, k1, r0, n1, hin, hix, hlt, bI_0, bI_t, bI_f, isA30, isA31, isA33, isA40, isA42, isA43, rOkB0, rOkB1, rOkB, Ret_v, Ret_n, cmp_eq, cmp_lt, cmp_gt, nI_1, eq_self, if_true, if_false, reduceIte, e, hw, nI_1', ih (i + 1) _ (by omega), cnt, decide_true]
      rw [Nat.add_assoc]
    · simp only [x_R_countOfFirst_0, x_R_countOfFirst_1, x_R_countOfFirst_2, x_R_countOfFirst_3, x_R_countOfFirst_7, x_R_countOfFirst_8, x_R_countOfFirst_11, x_R_countOfFirst_14, x_R_countOfFirst_15, x_R_countOfFirst_18, x_R_countOfFirst_20, x_R_countOfFirst_21, x_R_countOfFirst_22, x_R_countOfFirst_23, x_R_countOfFirst_26, x_R_countOfFirst_29, x_R_countOfFirst_32, x_R_countOfFirst_35, x_R_countOfFirst_36, k0, k1, r0, n1, hin, hix, hlt, bI_0, bI_t, bI_f, isA30, isA31, isA33, isA40, isA42, isA43, rOkB0, rOkB1, rOkB, Ret_v, Ret_n, cmp_eq, cmp_lt, cmp_gt, nI_1, eq_self, if_true, if_false, reduceIte, e, hw, nI_1', ih (i + 1) _ (by omega), cnt, decide_false, Bool.false_eq_true, Nat.zero_add]
theorem c_R_countOfFirst (h : RwS R S b cap) (hd : RwD I J b p) (hc : p.1 ≤ cap) (hc2 : cap < 2 ^ 31) {w : Int64} : Wp 113 0 [.ref b, .long w, nov, nov, nov] [] I J R S Q = Q 0 (some (.int (nI (cnt (fun i => decide (p.2.1 i = w)) 0 p.1)))) I J R S := by
  have := l_R_countOfFirst (Q := Q) h hd hc hc2 (w := w) p.1 0 0 (by omega)
  rw [nI_0, Nat.zero_add] at this
  rw [x_R_countOfFirst_0, x_R_countOfFirst_1, x_R_countOfFirst_2, x_R_countOfFirst_3]
  exact this
theorem l_R_sumOfNumbers (h : RwS R S b cap) (hd : RwD I J b p) (hc : p.1 ≤ cap) (hc2 : cap < 2 ^ 31) : ∀ (k i : Nat) (c : Int32), i + k = p.1 → Wp 114 4 [.ref b, .int c, .int (nI i)] [] I J R S Q = Q 0 (some (.int (smI p.2.2.2 c i k))) I J R S := by
  obtain ⟨k0, k1, k2, k3, n1, n2, n3, r0, r1, r2⟩ := h
  intro k
  induction k with
  | zero =>
    intro i c hi
    have hlt : ¬ nI i < I b 3 := by rw [hd.1]; exact nI_nlt (by omega) (by omega)
    rw [x_R_sumOfNumbers_4]
    simp only [x_R_sumOfNumbers_0, x_R_sumOfNumbers_1, x_R_sumOfNumbers_2, x_R_sumOfNumbers_3, x_R_sumOfNumbers_5, x_R_sumOfNumbers_6, x_R_sumOfNumbers_9, x_R_sumOfNumbers_12, x_R_sumOfNumbers_13, x_R_sumOfNumbers_14, x_R_sumOfNumbers_17, x_R_sumOfNumbers_18, x_R_sumOfNumbers_19, x_R_sumOfNumbers_20, x_R_sumOfNumbers_21, x_R_sumOfNumbers_24, x_R_sumOfNumbers_27, x_R_sumOfNumbers_28, k0, hlt, bI_0, bI_t, bI_f, isA30, isA31, isA33, isA40, isA42, isA43, rOkB0, rOkB1, rOkB, Ret_v, Ret_n, cmp_eq, cmp_lt, cmp_gt, nI_1, eq_self, if_true, if_false, reduceIte, smI]
  | succ k ih =>
    intro i c hi
    have hlt : nI i < I b 3 := by rw [hd.1]; exact nI_lt (by omega) (by omega)
    have hin : inb (nI i) cap = true := inb_nI (by omega) hc2
    have hix : ix (nI i) = i := ix_nI (by omega)
    have e := (hd.2 i (by omega)).2.2
    rw [x_R_sumOfNumbers_4]
    simp only [x_R_sumOfNumbers_0, x_R_sumOfNumbers_1, x_R_sumOfNumbers_2, x_R_sumOfNumbers_3, x_R_sumOfNumbers_5, x_R_sumOfNumbers_6, x_R_sumOfNumbers_9, x_R_sumOfNumbers_12, x_R_sumOfNumbers_13, x_R_sumOfNumbers_14, x_R_sumOfNumbers_17, x_R_sumOfNumbers_18, x_R_sumOfNumbers_19, x_R_sumOfNumbers_20, x_R_sumOfNumbers_21, x_R_sumOfNumbers_24, x_R_sumOfNumbers_27, x_R_sumOfNumbers_28, k0, k3, r2, n3, hin, hix, hlt, bI_0, bI_t, bI_f, isA30, isA31, isA33, isA40, isA42, isA43, rOkB0, rOkB1, rOkB, Ret_v, Ret_n, cmp_eq, cmp_lt, cmp_gt, nI_1, eq_self, if_true, if_false, reduceIte, e, nI_1', ih (i + 1) _ (by omega), smI]
theorem c_R_sumOfNumbers (h : RwS R S b cap) (hd : RwD I J b p) (hc : p.1 ≤ cap) (hc2 : cap < 2 ^ 31) : Wp 114 0 [.ref b, nov, nov] [] I J R S Q = Q 0 (some (.int (smI p.2.2.2 0 0 p.1))) I J R S := by
  have := l_R_sumOfNumbers (Q := Q) h hd hc hc2 p.1 0 0 (by omega)
  rw [nI_0] at this
  rw [x_R_sumOfNumbers_0, x_R_sumOfNumbers_1, x_R_sumOfNumbers_2, x_R_sumOfNumbers_3]
  exact this
theorem l_R_indexOfLeast (h : RwS R S b cap) (hd : RwD I J b p) (hc : p.1 ≤ cap) (hc2 : cap < 2 ^ 31) : ∀ (k i l : Nat), i + k = p.1 → l < p.1 → Wp 115 4 [.ref b, .int (nI l), .int (nI i)] [] I J R S Q = Q 0 (some (.int (nI (lsI p.2.2.2 l i k)))) I J R S := by
  obtain ⟨k0, k1, k2, k3, n1, n2, n3, r0, r1, r2⟩ := h
  intro k
  induction k with
  | zero =>
    intro i l hi hl
    have hlt : ¬ nI i < I b 3 := by rw [hd.1]; exact nI_nlt (by omega) (by omega)
    rw [x_R_indexOfLeast_4]
    simp only [x_R_indexOfLeast_0, x_R_indexOfLeast_1, x_R_indexOfLeast_2, x_R_indexOfLeast_3, x_R_indexOfLeast_5, x_R_indexOfLeast_6, x_R_indexOfLeast_9, x_R_indexOfLeast_12, x_R_indexOfLeast_13, x_R_indexOfLeast_16, x_R_indexOfLeast_17, x_R_indexOfLeast_18, x_R_indexOfLeast_19, x_R_indexOfLeast_22, x_R_indexOfLeast_23, x_R_indexOfLeast_24, x_R_indexOfLeast_27, x_R_indexOfLeast_28, x_R_indexOfLeast_29, x_R_indexOfLeast_32, x_R_indexOfLeast_35, x_R_indexOfLeast_36, k0, hlt, bI_0, bI_t, bI_f, isA30, isA31, isA33, isA40, isA42, isA43, rOkB0, rOkB1, rOkB, Ret_v, Ret_n, cmp_eq, cmp_lt, cmp_gt, nI_1, eq_self, if_true, if_false, reduceIte, lsI]
  | succ k ih =>
    intro i l hi hl
    have hlt : nI i < I b 3 := by rw [hd.1]; exact nI_lt (by omega) (by omega)
    have hin : inb (nI i) cap = true := inb_nI (by omega) hc2
    have hix : ix (nI i) = i := ix_nI (by omega)
    have hin2 : inb (nI l) cap = true := inb_nI (by omega) hc2
    have hix2 : ix (nI l) = l := ix_nI (by omega)
    have e := (hd.2 i (by omega)).2.2
    have e2 := (hd.2 l (by omega)).2.2
    rw [x_R_indexOfLeast_4]
    by_cases hw : p.2.2.2 i < p.2.2.2 l
    · simp only [x_R_indexOfLeast_0, x_R_indexOfLeast_1, x_R_indexOfLeast_2, x_R_indexOfLeast_3, x_R_indexOfLeast_5, x_R_indexOfLeast_6, x_R_indexOfLeast_9, x_R_indexOfLeast_12, x_R_indexOfLeast_13, x_R_indexOfLeast_16, x_R_indexOfLeast_17, x_R_indexOfLeast_18, x_R_indexOfLeast_19, x_R_indexOfLeast_22, x_R_indexOfLeast_23, x_R_indexOfLeast_24, x_R_indexOfLeast_27, x_R_indexOfLeast_28, x_R_indexOfLeast_29, x_R_indexOfLeast_32, x_R_indexOfLeast_35, x_R_indexOfLeast_36, k0, k3, r2, n3, hin, hix, hin2, hix2, hlt, bI_0, bI_t, bI_f, isA30, isA31, isA33, isA40, isA42, isA43, rOkB0, rOkB1, rOkB, Ret_v, Ret_n, cmp_eq, cmp_lt, cmp_gt, nI_1, eq_self, if_true, if_false, reduceIte, e, e2, hw, nI_1', ih (i + 1) i (by omega) (by omega), lsI]
    · simp only [x_R_indexOfLeast_0, x_R_indexOfLeast_1, x_R_indexOfLeast_2, x_R_indexOfLeast_3, x_R_indexOfLeast_5, x_R_indexOfLeast_6, x_R_indexOfLeast_9, x_R_indexOfLeast_12, x_R_indexOfLeast_13, x_R_indexOfLeast_16, x_R_indexOfLeast_17, x_R_indexOfLeast_18, x_R_indexOfLeast_19, x_R_indexOfLeast_22, x_R_indexOfLeast_23, x_R_indexOfLeast_24, x_R_indexOfLeast_27, x_R_indexOfLeast_28, x_R_indexOfLeast_29, x_R_indexOfLeast_32, x_R_indexOfLeast_35, x_R_indexOfLeast_36, k0, k3, r2, n3, hin, hix, hin2, hix2, hlt, bI_0, bI_t, bI_f, isA30, isA31, isA33, isA40, isA42, isA43, rOkB0, rOkB1, rOkB, Ret_v, Ret_n, cmp_eq, cmp_lt, cmp_gt, nI_1, eq_self, if_true, if_false, reduceIte, e, e2, hw, nI_1', ih (i + 1) l (by omega) (by omega), lsI]
theorem c_R_indexOfLeast (h : RwS R S b cap) (hd : RwD I J b p) (hc : p.1 ≤ cap) (hc2 : cap < 2 ^ 31) (h0 : 0 < p.1) : Wp 115 0 [.ref b, nov, nov] [] I J R S Q = Q 0 (some (.int (nI (lsI p.2.2.2 0 1 (p.1 - 1))))) I J R S := by
  have := l_R_indexOfLeast (Q := Q) h hd hc hc2 (p.1 - 1) 1 0 (by omega) h0
  rw [nI_0, show nI 1 = 1 by decide] at this
  rw [x_R_indexOfLeast_0, x_R_indexOfLeast_1, x_R_indexOfLeast_2, x_R_indexOfLeast_3]
  exact this
end RW

