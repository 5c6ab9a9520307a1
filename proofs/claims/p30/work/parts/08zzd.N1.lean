/-! the constructors: Rows, Book, Distances, Speller, Script -/
/-- the places a .. b-1 are as they were -/
def kp (a b : Nat) (I : MI) (J : MJ) (R : MR) (S : Sh) (I' : MI) (J' : MJ) (R' : MR) (S' : Sh) : Prop := ∀ p, a ≤ p → p < b → I' p = I p ∧ J' p = J p ∧ R' p = R p ∧ S'.1 p = S.1 p ∧ S'.2.1 p = S.2.1 p
/-- places and room afterwards -/
def cq (S S' : Sh) (hi w : Nat) : Prop := S'.2.2.1 = hi ∧ S'.2.2.2.1 = 0 ∧ S'.2.2.2.2 = S.2.2.2.2 + w
section NA
variable {I I' I2 : MI} {J J' J2 : MJ} {R R' R2 : MR} {S S' S2 : Sh} {Q : SkQ} {a b c d k n w lo hi : Nat} {v : Int32} {r : Value}
theorem u1_p {α : Type} {f : Nat → Nat → α} {a b : Nat} {v : α} (h : ¬ b = a) : u1 f a v b = f b := by
  funext j
  exact if_neg h
theorem u1_e {α : Type} {f : Nat → Nat → α} {a j : Nat} {v : α} : u1 f a v a j = v := if_pos rfl
theorem u0_p {f : Nat → Nat} {a b v : Nat} (h : ¬ b = a) : u0 f a v b = f b := if_neg h
theorem u0_e {f : Nat → Nat} {a v : Nat} : u0 f a v a = v := if_pos rfl
theorem kp_rfl : kp a b I J R S I J R S := fun _ _ _ => ⟨by simp, by simp, by simp, by simp, by simp⟩
theorem kp_trans (h1 : kp a b I J R S I' J' R' S') (h2 : kp a b I' J' R' S' I2 J2 R2 S2) : kp a b I J R S I2 J2 R2 S2 := fun p h3 h4 => by
  obtain ⟨a1, a2, a3, a4, a5⟩ := h1 p h3 h4
  obtain ⟨b1, b2, b3, b4, b5⟩ := h2 p h3 h4
  exact ⟨b1.trans a1, b2.trans a2, b3.trans a3, b4.trans a4, b5.trans a5⟩
theorem kp_mono {a' b' : Nat} (h : kp a b I J R S I' J' R' S') (h1 : a ≤ a') (h2 : b' ≤ b) : kp a' b' I J R S I' J' R' S' := fun p h3 h4 => h p (by omega) (by omega)
theorem kp_R (h : kp a b I J R S I' J' R' S') (hk : k < a ∨ b ≤ k) : kp a b I J R S I' J' (u2 R' k n r) S' := fun p h3 h4 => by
  obtain ⟨a1, a2, a3, a4, a5⟩ := h p h3 h4
  exact ⟨a1, a2, by rw [u2_p (by omega)]; exact a3, a4, a5⟩
theorem kp_I (h : kp a b I J R S I' J' R' S') (hk : k < a ∨ b ≤ k) : kp a b I J R S (u2 I' k n v) J' R' S' := fun p h3 h4 => by
  obtain ⟨a1, a2, a3, a4, a5⟩ := h p h3 h4
  exact ⟨by rw [u2_p (by omega)]; exact a1, a2, a3, a4, a5⟩
theorem kp_u1I (h : kp a b I J R S I' J' R' S') (hk : k < a ∨ b ≤ k) : kp a b I J R S (u1 I' k v) J' R' S' := fun p h3 h4 => by
  obtain ⟨a1, a2, a3, a4, a5⟩ := h p h3 h4
  exact ⟨by rw [u1_p (by omega)]; exact a1, a2, a3, a4, a5⟩
theorem kp_u1J {v : Int64} (h : kp a b I J R S I' J' R' S') (hk : k < a ∨ b ≤ k) : kp a b I J R S I' (u1 J' k v) R' S' := fun p h3 h4 => by
  obtain ⟨a1, a2, a3, a4, a5⟩ := h p h3 h4
  exact ⟨a1, by rw [u1_p (by omega)]; exact a2, a3, a4, a5⟩
theorem kp_u1R (h : kp a b I J R S I' J' R' S') (hk : k < a ∨ b ≤ k) : kp a b I J R S I' J' (u1 R' k r) S' := fun p h3 h4 => by
  obtain ⟨a1, a2, a3, a4, a5⟩ := h p h3 h4
  exact ⟨a1, a2, by rw [u1_p (by omega)]; exact a3, a4, a5⟩
theorem sh_1p {p : Nat} (h : ¬ p = S.2.2.1) : (sh_new S k n w).1 p = S.1 p := if_neg h
theorem sh_2p {p : Nat} (h : ¬ p = S.2.2.1) : (sh_new S k n w).2.1 p = S.2.1 p := if_neg h
theorem sh_1e {p : Nat} (h : p = S.2.2.1) : (sh_new S k n w).1 p = k := if_pos h
theorem sh_2e {p : Nat} (h : p = S.2.2.1) : (sh_new S k n w).2.1 p = n := if_pos h
theorem sh_c : (sh_new S k n w).2.2.1 = S.2.2.1 + 1 := rfl
theorem sh_t : (sh_new S k n w).2.2.2.1 = S.2.2.2.1 := rfl
theorem sh_w : (sh_new S k n w).2.2.2.2 = S.2.2.2.2 + w := rfl
theorem kp_S (h : kp a b I J R S I' J' R' S') (hk : S'.2.2.1 < a ∨ b ≤ S'.2.2.1) : kp a b I J R S I' J' R' (sh_new S' k n w) := fun p h3 h4 => by
  obtain ⟨a1, a2, a3, a4, a5⟩ := h p h3 h4
  exact ⟨a1, a2, a3, by rw [sh_1p (by omega)]; exact a4, by rw [sh_2p (by omega)]; exact a5⟩
/-- a new object -/
theorem kp_new (hl : S.2.2.1 = lo) : kp 0 lo I J R S (u1 I lo 0) (u1 J lo 0) (u1 R lo .null) (sh_new S k n w) := kp_S (kp_u1R (kp_u1J (kp_u1I kp_rfl (by omega)) (by omega)) (by omega)) (by omega)
theorem RwS_kp (h : RwS R S b c) (k : kp a d I J R S I' J' R' S') (h1 : a ≤ b) (h2 : b + 3 < d) : RwS R' S' b c := by
  obtain ⟨s0, s1, s2, s3, n1, n2, n3, r0, r1, r2⟩ := h
  obtain ⟨p1, p2, p3, p4, p5⟩ := k b (by omega) (by omega)
  obtain ⟨-, -, -, q4, q5⟩ := k (b + 1) (by omega) (by omega)
  obtain ⟨-, -, -, t4, t5⟩ := k (b + 2) (by omega) (by omega)
  obtain ⟨-, -, -, m4, m5⟩ := k (b + 3) (by omega) (by omega)
  exact ⟨p4.trans s0, q4.trans s1, t4.trans s2, m4.trans s3, q5.trans n1, t5.trans n2, m5.trans n3, by rw [p3]; exact r0, by rw [p3]; exact r1, by rw [p3]; exact r2⟩
theorem nI_100 (h : c ≤ 100000) : 0 ≤ (nI c).toInt ∧ (nI c).toInt ≤ 100000 := by rw [nI_toInt (by omega)]; omega
theorem c_R_init (hv : v = nI c) (hc : c ≤ 100) (hS : S.1 b = 4) (hn : S.2.2.1 = b + 1) (h0 : S.2.2.2.1 = 0) (hQ : ∀ I' J' R' S', kp 0 b I J R S I' J' R' S' → cq S S' (b + 4) (3 * c) → RwS R' S' b c → I' b = I b → Q 0 none I' J' R' S') : Wp 103 0 [.ref b, .int v, nov] [] I J R S Q := by
  subst hv
  have e : ¬ nI c < 0 := nI_pos (by omega)
  have en := nI_100 (show c ≤ 100000 by omega)
  have ei : ix (nI c) = c := ix_nI (by omega)
  have k1 : (sh_new S 31 c c).1 b = 4 := by rw [sh_1p (by omega)]; exact hS
  have k2 : (sh_new (sh_new S 31 c c) 31 c c).1 b = 4 := by rw [sh_1p (by rw [sh_c]; omega)]; exact k1
  have k3 : (sh_new (sh_new (sh_new S 31 c c) 31 c c) 30 c c).1 b = 4 := by rw [sh_1p (by rw [sh_c, sh_c]; omega)]; exact k2
  simp only [x_R_init_0, x_R_init_1, x_R_init_4, x_R_init_5, x_R_init_6, x_R_init_9, x_R_init_10, x_R_init_11, x_R_init_12, x_R_init_14, x_R_init_17, x_R_init_18, x_R_init_19, x_R_init_21, x_R_init_24, x_R_init_25, x_R_init_26, x_R_init_28, x_R_init_31, hS, h0, sh_t, e, en, ei, k1, k2, k3, and_self, bI_0, bI_t, bI_f, e10, isA30, isA31, isA33, isA40, isA42, isA43, rOkB0, rOkB1, rOkB, Ret_v, Ret_n, cmp_eq, cmp_lt, cmp_gt, nI_1, eq_self, if_true, if_false, reduceIte]
  have c1 : (sh_new S 31 c c).2.2.1 = b + 2 := by rw [sh_c, hn]
  have c2 : (sh_new (sh_new S 31 c c) 31 c c).2.2.1 = b + 3 := by rw [sh_c, c1]
  rw [c2, c1, hn]
  refine hQ _ _ _ _ ?_ ⟨by rw [sh_c, c2], h0, by rw [sh_w, sh_w, sh_w]; omega⟩ ⟨k3, ?_, ?_, ?_, ?_, ?_, ?_, ?_, ?_, u2_eq⟩ ?_
  · exact kp_S (kp_S (kp_S (kp_R (kp_R (kp_R (kp_u1J (kp_u1J (kp_u1I kp_rfl (by omega)) (by omega)) (by omega)) (by omega)) (by omega)) (by omega)) (by omega)) (by omega)) (by omega)
  · rw [sh_1p (by omega), sh_1p (by omega), sh_1e (by omega)]
  · rw [sh_1p (by omega), sh_1e (by omega)]
  · rw [sh_1e (by omega)]
  · rw [sh_2p (by omega), sh_2p (by omega), sh_2e (by omega)]
  · rw [sh_2p (by omega), sh_2e (by omega)]
  · rw [sh_2e (by omega)]
  · rw [u2_k (by omega), u2_k (by omega)]; exact u2_eq
  · rw [u2_k (by omega)]; exact u2_eq
  · rw [u1_p (by omega)]
/-! the Book -/
def cp : Nat → Nat
  | 0 => 20
  | 1 => 10
  | 2 => 24
  | 3 => 24
  | 4 => 20
  | 5 => 20
  | _ => 0
/-- the first k of its tables stand -/
def Pk (B k : Nat) (I : MI) (R : MR) (S : Sh) : Prop := ∀ j, j < k → RwS R S (B + 1 + 4 * j) (cp j) ∧ I (B + 1 + 4 * j) 3 = 0 ∧ R B j = .ref (B + 1 + 4 * j)
theorem Pk_nx {B : Nat} (h : Pk B k I R S) (hx : lo = B + 1 + 4 * k) (hl : S.2.2.1 = lo) (hk : kp 0 lo (u1 I lo 0) (u1 J lo 0) (u1 R lo .null) (sh_new S 4 0 4) I' J' R' S') (hr : RwS R' S' lo (cp k)) (hi : I' lo = u1 I lo 0 lo) : Pk B (k + 1) I' (u2 R' B k (.ref lo)) S' := by
  intro j hj
  have g1 : kp 0 lo I J R S I' J' R' S' := kp_trans (kp_new hl) hk
  have g2 : kp (B + 1) lo I J R S I' J' (u2 R' B k (.ref lo)) S' := kp_R (kp_mono g1 (by omega) (by omega)) (by omega)
  by_cases hjk : j = k
  · subst hjk
    subst hx
    refine ⟨RwS_kp (I := I') (J := J') (a := B + 1) (d := B + 1 + 4 * j + 4) hr (kp_R kp_rfl (by omega)) (by omega) (by omega), ?_, u2_eq⟩
    rw [hi]
    exact u1_e
  · obtain ⟨a1, a2, a3⟩ := h j (by omega)
    refine ⟨RwS_kp a1 g2 (by omega) (by omega), ?_, ?_⟩
    · rw [(g2 (B + 1 + 4 * j) (by omega) (by omega)).1]; exact a2
    · rw [u2_k hjk, (g1 B (by omega) (by omega)).2.2.1]; exact a3
def rw0 : Rw := (0, fun _ => 0, fun _ => 0, fun _ => 0)
def st0 : Nat → Int32 := fun i => if i = 0 then 4 else if i = 1 then 2 else 3
/-- the book at the beginning -/
def bk0 : Bk := (rw0, rw0, rw0, rw0, rw0, rw0, (fun _ => 0), st0)
theorem RwD_0 (h : I b 3 = 0) : RwD I J b rw0 := ⟨h.trans nI_0.symm, fun i hi => absurd hi (Nat.not_lt_zero i)⟩
theorem BkS_of {B : Nat} (h : Pk B 6 I R S) (h0 : S.1 B = 0) (h1 : S.1 (B + 25) = 30) (h2 : S.1 (B + 26) = 30) (h3 : S.2.1 (B + 25) = 26) (h4 : S.2.1 (B + 26) = 3) (h5 : R B 6 = .ref (B + 25)) (h6 : R B 7 = .ref (B + 26)) : BkS R S B := by
  obtain ⟨a0, -, b0⟩ := h 0 (by omega)
  obtain ⟨a1, -, b1⟩ := h 1 (by omega)
  obtain ⟨a2, -, b2⟩ := h 2 (by omega)
  obtain ⟨a3, -, b3⟩ := h 3 (by omega)
  obtain ⟨a4, -, b4⟩ := h 4 (by omega)
  obtain ⟨a5, -, b5⟩ := h 5 (by omega)
  exact ⟨h0, a0, a1, a2, a3, a4, a5, h1, h2, h3, h4, b0, b1, b2, b3, b4, b5, h5, h6⟩
theorem BkD_of {B : Nat} (h : Pk B 6 I R S) (h1 : ∀ i, i < 26 → I (B + 25) i = 0) (h2 : ∀ i, i < 3 → I (B + 26) i = st0 i) : BkD I J B bk0 :=
  ⟨RwD_0 (h 0 (by omega)).2.1, RwD_0 (h 1 (by omega)).2.1, RwD_0 (h 2 (by omega)).2.1, RwD_0 (h 3 (by omega)).2.1, RwD_0 (h 4 (by omega)).2.1, RwD_0 (h 5 (by omega)).2.1, h1, h2⟩
end NA

