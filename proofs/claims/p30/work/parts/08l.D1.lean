/-! distances: the arrays -/
def DsS (R : MR) (S : Sh) (d kb B : Nat) : Prop := S.1 d = 1 ∧ S.1 (d + 1) = 30 ∧ S.1 (d + 2) = 30 ∧ S.1 (d + 3) = 30 ∧ S.1 (d + 4) = 30 ∧ S.1 (d + 5) = 30 ∧ S.2.1 (d + 1) = 8 ∧ S.2.1 (d + 2) = 8 ∧ S.2.1 (d + 3) = 8 ∧ S.2.1 (d + 4) = 8 ∧ S.2.1 (d + 5) = 81 ∧ R d 0 = .ref kb ∧ R d 1 = .ref B ∧ R d 2 = .ref (d + 1) ∧ R d 3 = .ref (d + 2) ∧ R d 4 = .ref (d + 3) ∧ R d 5 = .ref (d + 4) ∧ R d 6 = .ref (d + 5)
/-- the letter at the place i of a word -/
def lv (n i : Nat) : Nat := n / 2 ^ (5 * (wlF 8 n - 1 - i)) % 32 - 1
theorem wOk_dig : ∀ k n i, wOk k n = true → i < wlF k n → 1 ≤ n / 2 ^ (5 * i) % 32 ∧ n / 2 ^ (5 * i) % 32 ≤ 26
  | 0, n, i, _, h => by simp [wlF] at h
  | k + 1, n, i, h1, h2 => by
    simp only [wlF] at h2
    simp only [wOk] at h1
    by_cases q : n = 0
    · rw [if_pos q] at h2; omega
    · rw [if_neg q] at h1 h2
      rw [Bool.and_eq_true, decide_eq_true_eq] at h1
      match i, h2 with
      | 0, _ => rw [Nat.mul_zero, Nat.pow_zero, Nat.div_one]; exact h1.1
      | i + 1, h2 =>
        have := wOk_dig k (n / 32) i h1.2 (by omega)
        rwa [show n / 2 ^ (5 * (i + 1)) = n / 32 / 2 ^ (5 * i) by rw [Nat.div_div_eq_div_mul, show 5 * (i + 1) = 5 + 5 * i by omega, Nat.pow_add]]
theorem lvw_lt {n i : Nat} (h : wOk 8 n = true) (hi : i < wlF 8 n) : lv n i < 26 ∧ letB n (wlF 8 n - 1 - i) = nI (lv n i) := by
  have := wOk_dig 8 n (wlF 8 n - 1 - i) h (by omega)
  unfold lv letB
  exact ⟨by omega, nI_sub (b := 1) this.1⟩
/-- what it costs that a typed letter goes, that a letter comes -/
def gC (a : Bk) (dr : Int32) (n i : Nat) : Int32 := if (¬ nI (lv n i) = dr ∧ bK a (lv n i) = 2) ∧ (0 < i ∧ lv n (i - 1) = lv n i) then 1 else 3
def cC (a : Bk) (dr : Int32) (m j : Nat) : Int32 := if nI (lv m j) = dr ∨ bK a (lv m j) = 1 then 1 else 3
section DD
variable {I : MI} {J : MJ} {R : MR} {S : Sh} {Q : SkQ} {d kb B p n : Nat} {a : Bk}
theorem c_D_at {l : Nat} (s : S.1 p = 30) (hl : S.2.1 p = l) (h2 : l < 2 ^ 31) {i : Int32} : Wp 140 0 [.ref p, .int i] [] I J R S Q = Q 0 (some (.int (if inb i l = true then I p (ix i) else 0))) I J R S := by
  by_cases h1 : i < 0
  · simp only [x_D_at_0, x_D_at_1, x_D_at_4, x_D_at_5, x_D_at_6, x_D_at_7, x_D_at_10, x_D_at_11, x_D_at_12, x_D_at_13, x_D_at_16, x_D_at_17, h1, bI_0, bI_t, bI_f, e10, isA30, isA31, isA33, isA40, isA42, isA43, rOkB0, rOkB1, rOkB, Ret_v, Ret_n, cmp_eq, cmp_lt, cmp_gt, nI_1, eq_self, if_true, if_false, reduceIte, inb_n1 h1, Bool.false_eq_true]
  · by_cases h3 : i < nI l
    · have e := inb_l h1 h3 h2
      simp only [x_D_at_0, x_D_at_1, x_D_at_4, x_D_at_5, x_D_at_6, x_D_at_7, x_D_at_10, x_D_at_11, x_D_at_12, x_D_at_13, x_D_at_16, x_D_at_17, s, hl, h1, h3, bI_0, bI_t, bI_f, e10, isA30, isA31, isA33, isA40, isA42, isA43, rOkB0, rOkB1, rOkB, Ret_v, Ret_n, cmp_eq, cmp_lt, cmp_gt, nI_1, eq_self, if_true, if_false, reduceIte, e]
    · simp only [x_D_at_0, x_D_at_1, x_D_at_4, x_D_at_5, x_D_at_6, x_D_at_7, x_D_at_10, x_D_at_11, x_D_at_12, x_D_at_13, x_D_at_16, x_D_at_17, s, hl, h1, h3, bI_0, bI_t, bI_f, e10, isA30, isA31, isA33, isA40, isA42, isA43, rOkB0, rOkB1, rOkB, Ret_v, Ret_n, cmp_eq, cmp_lt, cmp_gt, nI_1, eq_self, if_true, if_false, reduceIte, inb_n2 h3 h2, Bool.false_eq_true]
theorem c_D_costAt (hS : DsS R S d kb B) {i j : Nat} (hi : i < 9) (hj : j < 9) : Wp 141 0 [.ref d, .int (nI i), .int (nI j)] [] I J R S Q = Q 0 (some (.int (I (d + 5) (9 * i + j)))) I J R S := by
  obtain ⟨s0, s1, s2, s3, s4, s5, n1, n2, n3, n4, n5, r0, r1, r2, r3, r4, r5, r6⟩ := hS
  have e1 : ¬ nI i < 0 := nI_pos (by omega)
  have e2 : nI i < 9 := by rw [show (9 : Int32) = nI 9 by decide]; exact nI_lt hi (by omega)
  have e3 : ¬ nI j < 0 := nI_pos (by omega)
  have e4 : nI j < 9 := by rw [show (9 : Int32) = nI 9 by decide]; exact nI_lt hj (by omega)
  have e5 : (9 : Int32) * nI i + nI j = nI (9 * i + j) := by rw [show (9 : Int32) = nI 9 by decide, nI_mul, nI_plus]
  have e6 : inb (nI (9 * i + j)) 81 = true := inb_nI (by omega) (by omega)
  have e7 : ix (nI (9 * i + j)) = 9 * i + j := ix_nI (by omega)
  simp only [x_D_costAt_0, x_D_costAt_1, x_D_costAt_4, x_D_costAt_5, x_D_costAt_7, x_D_costAt_10, x_D_costAt_11, x_D_costAt_14, x_D_costAt_15, x_D_costAt_17, x_D_costAt_20, x_D_costAt_21, x_D_costAt_24, x_D_costAt_26, x_D_costAt_27, x_D_costAt_28, x_D_costAt_29, x_D_costAt_30, x_D_costAt_31, x_D_costAt_34, x_D_costAt_37, s0, s5, n5, r6, e1, e2, e3, e4, e5, e6, e7, bI_0, bI_t, bI_f, e10, isA30, isA31, isA33, isA40, isA42, isA43, rOkB0, rOkB1, rOkB, Ret_v, Ret_n, cmp_eq, cmp_lt, cmp_gt, nI_1, eq_self, if_true, if_false, reduceIte]
theorem l_D_spell (hp : S.1 p = 30) (hl : S.2.1 p = 8) (hn : n < 2 ^ 40) (hw : wOk 8 n = true) : ∀ (k i : Nat) (I : MI), i + k = wlF 8 n → (∀ j, j < i → I p j = nI (lv n j)) → (∀ I', fr p p I J I' J → (∀ j, j < wlF 8 n → I' p j = nI (lv n j)) → Q 0 (some (.int (nI (wlF 8 n)))) I' J R S) → Wp 136 13 [.long (lW n), nov, .ref p, .int (nI (wlF 8 n)), .int (nI i)] [] I J R S Q := by
  have hl8 := wlF_le 8 n
  intro k
  induction k with
  | zero =>
    intro i I hi hd hQ
    have hlt : ¬ nI i < nI (wlF 8 n) := nI_nlt (by omega) (by omega)
    rw [x_D_spell_13]
    simp only [x_D_spell_0, x_D_spell_1, x_D_spell_4, x_D_spell_5, x_D_spell_6, x_D_spell_9, x_D_spell_10, x_D_spell_11, x_D_spell_15, x_D_spell_16, x_D_spell_19, x_D_spell_20, x_D_spell_22, x_D_spell_23, x_D_spell_24, x_D_spell_25, x_D_spell_26, x_D_spell_28, x_D_spell_29, x_D_spell_32, x_D_spell_33, x_D_spell_36, x_D_spell_39, x_D_spell_40, hlt, bI_0, bI_t, bI_f, e10, isA30, isA31, isA33, isA40, isA42, isA43, rOkB0, rOkB1, rOkB, Ret_v, Ret_n, cmp_eq, cmp_lt, cmp_gt, nI_1, eq_self, if_true, if_false, reduceIte]
    exact hQ I fr_rfl (fun j hj => hd j (by omega))
  | succ k ih =>
    intro i I hi hd hQ
    have hlt : nI i < nI (wlF 8 n) := nI_lt (by omega) (by omega)
    have e1 : nI (wlF 8 n) - 1 = nI (wlF 8 n - 1) := nI_sub (b := 1) (by omega)
    have e2 : nI (wlF 8 n - 1) - nI i = nI (wlF 8 n - 1 - i) := nI_sub (by omega)
    have e3 : inb (nI i) 8 = true := inb_nI (by omega) (by omega)
    have e4 : ix (nI i) = i := ix_nI (by omega)
    have el := (lvw_lt hw (show i < wlF 8 n by omega)).2
    have h := fun Q' => c_W_letterFromEnd (Q := Q') (I := I) (J := J) (R := R) (S := S) (n := n) (by omega) (show wlF 8 n - 1 - i < 12 by omega)
    rw [x_D_spell_13]
    simp only [x_D_spell_0, x_D_spell_1, x_D_spell_4, x_D_spell_5, x_D_spell_6, x_D_spell_9, x_D_spell_10, x_D_spell_11, x_D_spell_15, x_D_spell_16, x_D_spell_19, x_D_spell_20, x_D_spell_22, x_D_spell_23, x_D_spell_24, x_D_spell_25, x_D_spell_26, x_D_spell_28, x_D_spell_29, x_D_spell_32, x_D_spell_33, x_D_spell_36, x_D_spell_39, x_D_spell_40, hp, hl, hlt, e1, e2, e3, e4, h, el, nI_1', bI_0, bI_t, bI_f, e10, isA30, isA31, isA33, isA40, isA42, isA43, rOkB0, rOkB1, rOkB, Ret_v, Ret_n, cmp_eq, cmp_lt, cmp_gt, nI_1, eq_self, if_true, if_false, reduceIte]
    refine ih (i + 1) _ (by omega) (fun j hj => ?_) (fun I' hf hd' => hQ I' (fr_trans (lo := p) (hi := p) (fr_I (a := p) (lo := p) (hi := p) fr_rfl (by omega)) hf (by omega) (by omega)) hd')
    by_cases q : j = i
    · rw [q, u2_eq]
    · rw [u2_of (by omega)]; exact hd j (by omega)
theorem c_D_spell (hp : S.1 p = 30) (hl : S.2.1 p = 8) (hn : n < 2 ^ 40) (hw : wOk 8 n = true) (hQ : ∀ I', fr p p I J I' J → (∀ j, j < wlF 8 n → I' p j = nI (lv n j)) → Q 0 (some (.int (nI (wlF 8 n)))) I' J R S) : Wp 136 0 [.long (lW n), nov, .ref p, nov, nov] [] I J R S Q := by
  have l := l_D_spell (Q := Q) hp hl hn hw (wlF 8 n) 0 I (by omega) (fun j hj => absurd hj (by omega)) hQ
  have hl8 := wlF_le 8 n
  have e : (if nI 8 < nI (wlF 8 n) then nI 8 else nI (wlF 8 n)) = nI (wlF 8 n) := if_neg (nI_nlt (by omega) (by omega))
  rw [nI_0] at l
  have h := fun Q' => c_W_lengthOf (Q := Q') (I := I) (J := J) (R := R) (S := S) (n := n) (by omega)
  simp only [x_D_spell_0, x_D_spell_1, x_D_spell_4, x_D_spell_5, x_D_spell_6, x_D_spell_9, x_D_spell_10, x_D_spell_11, hp, hl, h, e, bI_0, bI_t, bI_f, e10, isA30, isA31, isA33, isA40, isA42, isA43, rOkB0, rOkB1, rOkB, Ret_v, Ret_n, cmp_eq, cmp_lt, cmp_gt, nI_1, eq_self, if_true, if_false, reduceIte]
  exact l
theorem l_D_priceGoing (hS : DsS R S d kb B) (hB : BkS R S B) (hBd : B + 26 < d ∨ d + 5 < B) (hw : wOk 8 n = true) {dr : Int32} : ∀ (k i : Nat) (I : MI) (l4 l5 l6 : Value), i + k = wlF 8 n → BkD I J B a → (∀ j, j < wlF 8 n → I (d + 1) j = nI (lv n j)) → (∀ j, j < i → I (d + 3) j = gC a dr n j) → (∀ I', fr (d + 3) (d + 3) I J I' J → (∀ j, j < wlF 8 n → I' (d + 3) j = gC a dr n j) → Q 0 none I' J R S) → Wp 137 2 [.ref d, .int (nI (wlF 8 n)), .int dr, .int (nI i), l4, l5, l6] [] I J R S Q := by
  obtain ⟨s0, s1, s2, s3, s4, s5, n1, n2, n3, n4, n5, r0, r1, r2, r3, r4, r5, r6⟩ := hS
  have hl8 := wlF_le 8 n
  intro k
  induction k with
  | zero =>
    intro i I l4 l5 l6 hi hD hT hd hQ
    have hlt : ¬ nI i < nI (wlF 8 n) := nI_nlt (by omega) (by omega)
    rw [x_D_priceGoing_2]
    simp only [x_D_priceGoing_0, x_D_priceGoing_1, x_D_priceGoing_3, x_D_priceGoing_4, x_D_priceGoing_7, x_D_priceGoing_8, x_D_priceGoing_9, x_D_priceGoing_12, x_D_priceGoing_13, x_D_priceGoing_16, x_D_priceGoing_17, x_D_priceGoing_20, x_D_priceGoing_21, x_D_priceGoing_24, x_D_priceGoing_26, x_D_priceGoing_28, x_D_priceGoing_29, x_D_priceGoing_32, x_D_priceGoing_33, x_D_priceGoing_36, x_D_priceGoing_38, x_D_priceGoing_41, x_D_priceGoing_42, x_D_priceGoing_45, x_D_priceGoing_46, x_D_priceGoing_49, x_D_priceGoing_50, x_D_priceGoing_52, x_D_priceGoing_53, x_D_priceGoing_56, x_D_priceGoing_57, x_D_priceGoing_60, x_D_priceGoing_61, x_D_priceGoing_62, x_D_priceGoing_63, x_D_priceGoing_66, x_D_priceGoing_68, x_D_priceGoing_71, x_D_priceGoing_72, x_D_priceGoing_75, x_D_priceGoing_76, x_D_priceGoing_78, x_D_priceGoing_79, x_D_priceGoing_82, x_D_priceGoing_83, x_D_priceGoing_85, x_D_priceGoing_88, x_D_priceGoing_90, x_D_priceGoing_93, x_D_priceGoing_94, x_D_priceGoing_97, x_D_priceGoing_98, x_D_priceGoing_99, x_D_priceGoing_102, x_D_priceGoing_105, hlt, bI_0, bI_t, bI_f, e10, isA30, isA31, isA33, isA40, isA42, isA43, rOkB0, rOkB1, rOkB, Ret_v, Ret_n, cmp_eq, cmp_lt, cmp_gt, nI_1, eq_self, if_true, if_false, reduceIte]
    exact hQ I fr_rfl (fun j hj => hd j (by omega))
  | succ k ih =>
    intro i I l4 l5 l6 hi hD hT hd hQ
    have hlt : nI i < nI (wlF 8 n) := nI_lt (by omega) (by omega)
    have hl2 : nI i < nI 8 := nI_lt (by omega) (by omega)
    have e3 : inb (nI i) 8 = true := inb_nI (by omega) (by omega)
    have e4 : ix (nI i) = i := ix_nI (by omega)
    have vl := lvw_lt hw (show i < wlF 8 n by omega)
    have a1 := fun Q' => c_D_at (Q := Q') (I := I) (J := J) (R := R) s1 n1 (by omega) (i := nI i)
    rw [e3, if_pos (by simp), e4, hT i (by omega)] at a1
    have st := fun Q' => c_O_stickOf (Q := Q') hB hD (i := nI (lv n i))
    unfold stk at st
    rw [inb_nI vl.1 (by omega), if_pos (by simp), ix_nI (by omega)] at st
    have fin : ∀ (v : Int32) (l4 l5 l6 : Value), v = gC a dr n i → Wp 137 2 [.ref d, .int (nI (wlF 8 n)), .int dr, .int (nI (i + 1)), l4, l5, l6] [] (u2 I (d + 3) i v) J R S Q := by
      intro v l4 l5 l6 hv
      have hf : fr (d + 3) (d + 3) I J (u2 I (d + 3) i v) J := fr_I fr_rfl (by omega)
      refine ih (i + 1) _ l4 l5 l6 (by omega) (BkD_fr hD hf (by omega)) (fun j hj => ?_) (fun j hj => ?_) (fun I' hf2 hd' => hQ I' (fr_trans (lo := d + 3) (hi := d + 3) hf hf2 (by omega) (by omega)) hd')
      · rw [u2_p (by omega)]; exact hT j hj
      · by_cases q : j = i
        · rw [q, u2_eq]; exact hv
        · rw [u2_of (by omega)]; exact hd j (by omega)
    unfold gC at fin
    rw [x_D_priceGoing_2]
    match i, hi, hlt, hl2, e3, e4, vl, a1, st, fin with
    | 0, hi, hlt, hl2, e3, e4, vl, a1, st, fin =>
      have z : ¬ 0 < nI 0 := by decide
      rw [if_neg (by omega)] at fin
      have fin := fun l4 l5 l6 => fin 3 l4 l5 l6 rfl
      by_cases q1 : nI (lv n 0) = dr
      · simp only [x_D_priceGoing_0, x_D_priceGoing_1, x_D_priceGoing_3, x_D_priceGoing_4, x_D_priceGoing_7, x_D_priceGoing_8, x_D_priceGoing_9, x_D_priceGoing_12, x_D_priceGoing_13, x_D_priceGoing_16, x_D_priceGoing_17, x_D_priceGoing_20, x_D_priceGoing_21, x_D_priceGoing_24, x_D_priceGoing_26, x_D_priceGoing_28, x_D_priceGoing_29, x_D_priceGoing_32, x_D_priceGoing_33, x_D_priceGoing_36, x_D_priceGoing_38, x_D_priceGoing_41, x_D_priceGoing_42, x_D_priceGoing_45, x_D_priceGoing_46, x_D_priceGoing_49, x_D_priceGoing_50, x_D_priceGoing_52, x_D_priceGoing_53, x_D_priceGoing_56, x_D_priceGoing_57, x_D_priceGoing_60, x_D_priceGoing_61, x_D_priceGoing_62, x_D_priceGoing_63, x_D_priceGoing_66, x_D_priceGoing_68, x_D_priceGoing_71, x_D_priceGoing_72, x_D_priceGoing_75, x_D_priceGoing_76, x_D_priceGoing_78, x_D_priceGoing_79, x_D_priceGoing_82, x_D_priceGoing_83, x_D_priceGoing_85, x_D_priceGoing_88, x_D_priceGoing_90, x_D_priceGoing_93, x_D_priceGoing_94, x_D_priceGoing_97, x_D_priceGoing_98, x_D_priceGoing_99, x_D_priceGoing_102, x_D_priceGoing_105, s0, s3, n3, r2, r4, hlt, hl2, e3, e4, a1, q1, z, nI_1', fin, bI_0, bI_t, bI_f, e10, isA30, isA31, isA33, isA40, isA42, isA43, rOkB0, rOkB1, rOkB, Ret_v, Ret_n, cmp_eq, cmp_lt, cmp_gt, nI_1, eq_self, if_true, if_false, reduceIte]
      · by_cases q2 : bK a (lv n 0) = 2
        · simp only [x_D_priceGoing_0, x_D_priceGoing_1, x_D_priceGoing_3, x_D_priceGoing_4, x_D_priceGoing_7, x_D_priceGoing_8, x_D_priceGoing_9, x_D_priceGoing_12, x_D_priceGoing_13, x_D_priceGoing_16, x_D_priceGoing_17, x_D_priceGoing_20, x_D_priceGoing_21, x_D_priceGoing_24, x_D_priceGoing_26, x_D_priceGoing_28, x_D_priceGoing_29, x_D_priceGoing_32, x_D_priceGoing_33, x_D_priceGoing_36, x_D_priceGoing_38, x_D_priceGoing_41, x_D_priceGoing_42, x_D_priceGoing_45, x_D_priceGoing_46, x_D_priceGoing_49, x_D_priceGoing_50, x_D_priceGoing_52, x_D_priceGoing_53, x_D_priceGoing_56, x_D_priceGoing_57, x_D_priceGoing_60, x_D_priceGoing_61, x_D_priceGoing_62, x_D_priceGoing_63, x_D_priceGoing_66, x_D_priceGoing_68, x_D_priceGoing_71, x_D_priceGoing_72, x_D_priceGoing_75, x_D_priceGoing_76, x_D_priceGoing_78, x_D_priceGoing_79, x_D_priceGoing_82, x_D_priceGoing_83, x_D_priceGoing_85, x_D_priceGoing_88, x_D_priceGoing_90, x_D_priceGoing_93, x_D_priceGoing_94, x_D_priceGoing_97, x_D_priceGoing_98, x_D_priceGoing_99, x_D_priceGoing_102, x_D_priceGoing_105, s0, s3, n3, r1, r2, r4, hB.1, hlt, hl2, e3, e4, a1, st, q1, q2, z, nI_1', fin, bI_0, bI_t, bI_f, e10, isA30, isA31, isA33, isA40, isA42, isA43, rOkB0, rOkB1, rOkB, Ret_v, Ret_n, cmp_eq, cmp_lt, cmp_gt, nI_1, eq_self, if_true, if_false, reduceIte]
        · simp only [x_D_priceGoing_0, x_D_priceGoing_1, x_D_priceGoing_3, x_D_priceGoing_4, x_D_priceGoing_7, x_D_priceGoing_8, x_D_priceGoing_9, x_D_priceGoing_12, x_D_priceGoing_13, x_D_priceGoing_16, x_D_priceGoing_17, x_D_priceGoing_20, x_D_priceGoing_21, x_D_priceGoing_24, x_D_priceGoing_26, x_D_priceGoing_28, x_D_priceGoing_29, x_D_priceGoing_32, x_D_priceGoing_33, x_D_priceGoing_36, x_D_priceGoing_38, x_D_priceGoing_41, x_D_priceGoing_42, x_D_priceGoing_45, x_D_priceGoing_46, x_D_priceGoing_49, x_D_priceGoing_50, x_D_priceGoing_52, x_D_priceGoing_53, x_D_priceGoing_56, x_D_priceGoing_57, x_D_priceGoing_60, x_D_priceGoing_61, x_D_priceGoing_62, x_D_priceGoing_63, x_D_priceGoing_66, x_D_priceGoing_68, x_D_priceGoing_71, x_D_priceGoing_72, x_D_priceGoing_75, x_D_priceGoing_76, x_D_priceGoing_78, x_D_priceGoing_79, x_D_priceGoing_82, x_D_priceGoing_83, x_D_priceGoing_85, x_D_priceGoing_88, x_D_priceGoing_90, x_D_priceGoing_93, x_D_priceGoing_94, x_D_priceGoing_97, x_D_priceGoing_98, x_D_priceGoing_99, x_D_priceGoing_102, x_D_priceGoing_105, s0, s3, n3, r1, r2, r4, hB.1, hlt, hl2, e3, e4, a1, st, q1, q2, z, nI_1', fin, bI_0, bI_t, bI_f, e10, isA30, isA31, isA33, isA40, isA42, isA43, rOkB0, rOkB1, rOkB, Ret_v, Ret_n, cmp_eq, cmp_lt, cmp_gt, nI_1, eq_self, if_true, if_false, reduceIte]
    | i + 1, hi, hlt, hl2, e3, e4, vl, a1, st, fin =>
      have z : 0 < nI (i + 1) := by rw [← nI_0]; exact nI_lt (by omega) (by omega)
      have a2 := fun Q' => c_D_at (Q := Q') (I := I) (J := J) (R := R) s1 n1 (by omega) (i := nI i)
      rw [inb_nI (by omega) (by omega), if_pos (by simp), ix_nI (by omega), hT i (by omega)] at a2
      have vl2 := lvw_lt hw (show i < wlF 8 n by omega)
      have e5 := nI_inj (a := lv n i) (b := lv n (i + 1)) (by omega) (by omega)
      rw [Nat.add_sub_cancel] at fin
      by_cases q3 : lv n i = lv n (i + 1)
      · have q3' := e5.mpr q3
        by_cases q1 : nI (lv n (i + 1)) = dr
        · rw [if_neg (fun h => h.1.1 q1)] at fin
          have fin := fun l4 l5 l6 => fin 3 l4 l5 l6 rfl
          rw [q1] at a1 q3'
          rw [q3'] at a2
          simp only [x_D_priceGoing_0, x_D_priceGoing_1, x_D_priceGoing_3, x_D_priceGoing_4, x_D_priceGoing_7, x_D_priceGoing_8, x_D_priceGoing_9, x_D_priceGoing_12, x_D_priceGoing_13, x_D_priceGoing_16, x_D_priceGoing_17, x_D_priceGoing_20, x_D_priceGoing_21, x_D_priceGoing_24, x_D_priceGoing_26, x_D_priceGoing_28, x_D_priceGoing_29, x_D_priceGoing_32, x_D_priceGoing_33, x_D_priceGoing_36, x_D_priceGoing_38, x_D_priceGoing_41, x_D_priceGoing_42, x_D_priceGoing_45, x_D_priceGoing_46, x_D_priceGoing_49, x_D_priceGoing_50, x_D_priceGoing_52, x_D_priceGoing_53, x_D_priceGoing_56, x_D_priceGoing_57, x_D_priceGoing_60, x_D_priceGoing_61, x_D_priceGoing_62, x_D_priceGoing_63, x_D_priceGoing_66, x_D_priceGoing_68, x_D_priceGoing_71, x_D_priceGoing_72, x_D_priceGoing_75, x_D_priceGoing_76, x_D_priceGoing_78, x_D_priceGoing_79, x_D_priceGoing_82, x_D_priceGoing_83, x_D_priceGoing_85, x_D_priceGoing_88, x_D_priceGoing_90, x_D_priceGoing_93, x_D_priceGoing_94, x_D_priceGoing_97, x_D_priceGoing_98, x_D_priceGoing_99, x_D_priceGoing_102, x_D_priceGoing_105, s0, s3, n3, r2, r4, hlt, hl2, e3, e4, a1, a2, z, nI_s, nI_1', fin, bI_0, bI_t, bI_f, e10, isA30, isA31, isA33, isA40, isA42, isA43, rOkB0, rOkB1, rOkB, Ret_v, Ret_n, cmp_eq, cmp_lt, cmp_gt, nI_1, eq_self, if_true, if_false, reduceIte]
        · by_cases q2 : bK a (lv n (i + 1)) = 2
          · rw [if_pos ⟨⟨q1, q2⟩, by omega, q3⟩] at fin
            have fin := fun l4 l5 l6 => fin 1 l4 l5 l6 rfl
            rw [q3'] at a2
            simp only [x_D_priceGoing_0, x_D_priceGoing_1, x_D_priceGoing_3, x_D_priceGoing_4, x_D_priceGoing_7, x_D_priceGoing_8, x_D_priceGoing_9, x_D_priceGoing_12, x_D_priceGoing_13, x_D_priceGoing_16, x_D_priceGoing_17, x_D_priceGoing_20, x_D_priceGoing_21, x_D_priceGoing_24, x_D_priceGoing_26, x_D_priceGoing_28, x_D_priceGoing_29, x_D_priceGoing_32, x_D_priceGoing_33, x_D_priceGoing_36, x_D_priceGoing_38, x_D_priceGoing_41, x_D_priceGoing_42, x_D_priceGoing_45, x_D_priceGoing_46, x_D_priceGoing_49, x_D_priceGoing_50, x_D_priceGoing_52, x_D_priceGoing_53, x_D_priceGoing_56, x_D_priceGoing_57, x_D_priceGoing_60, x_D_priceGoing_61, x_D_priceGoing_62, x_D_priceGoing_63, x_D_priceGoing_66, x_D_priceGoing_68, x_D_priceGoing_71, x_D_priceGoing_72, x_D_priceGoing_75, x_D_priceGoing_76, x_D_priceGoing_78, x_D_priceGoing_79, x_D_priceGoing_82, x_D_priceGoing_83, x_D_priceGoing_85, x_D_priceGoing_88, x_D_priceGoing_90, x_D_priceGoing_93, x_D_priceGoing_94, x_D_priceGoing_97, x_D_priceGoing_98, x_D_priceGoing_99, x_D_priceGoing_102, x_D_priceGoing_105, s0, s3, n3, r1, r2, r4, hB.1, hlt, hl2, e3, e4, a1, a2, st, q1, q2, z, nI_s, nI_1', fin, bI_0, bI_t, bI_f, e10, isA30, isA31, isA33, isA40, isA42, isA43, rOkB0, rOkB1, rOkB, Ret_v, Ret_n, cmp_eq, cmp_lt, cmp_gt, nI_1, eq_self, if_true, if_false, reduceIte]
          · rw [if_neg (fun h => q2 h.1.2)] at fin
            have fin := fun l4 l5 l6 => fin 3 l4 l5 l6 rfl
            rw [q3'] at a2
            simp only [x_D_priceGoing_0, x_D_priceGoing_1, x_D_priceGoing_3, x_D_priceGoing_4, x_D_priceGoing_7, x_D_priceGoing_8, x_D_priceGoing_9, x_D_priceGoing_12, x_D_priceGoing_13, x_D_priceGoing_16, x_D_priceGoing_17, x_D_priceGoing_20, x_D_priceGoing_21, x_D_priceGoing_24, x_D_priceGoing_26, x_D_priceGoing_28, x_D_priceGoing_29, x_D_priceGoing_32, x_D_priceGoing_33, x_D_priceGoing_36, x_D_priceGoing_38, x_D_priceGoing_41, x_D_priceGoing_42, x_D_priceGoing_45, x_D_priceGoing_46, x_D_priceGoing_49, x_D_priceGoing_50, x_D_priceGoing_52, x_D_priceGoing_53, x_D_priceGoing_56, x_D_priceGoing_57, x_D_priceGoing_60, x_D_priceGoing_61, x_D_priceGoing_62, x_D_priceGoing_63, x_D_priceGoing_66, x_D_priceGoing_68, x_D_priceGoing_71, x_D_priceGoing_72, x_D_priceGoing_75, x_D_priceGoing_76, x_D_priceGoing_78, x_D_priceGoing_79, x_D_priceGoing_82, x_D_priceGoing_83, x_D_priceGoing_85, x_D_priceGoing_88, x_D_priceGoing_90, x_D_priceGoing_93, x_D_priceGoing_94, x_D_priceGoing_97, x_D_priceGoing_98, x_D_priceGoing_99, x_D_priceGoing_102, x_D_priceGoing_105, s0, s3, n3, r1, r2, r4, hB.1, hlt, hl2, e3, e4, a1, a2, st, q1, q2, z, nI_s, nI_1', fin, bI_0, bI_t, bI_f, e10, isA30, isA31, isA33, isA40, isA42, isA43, rOkB0, rOkB1, rOkB, Ret_v, Ret_n, cmp_eq, cmp_lt, cmp_gt, nI_1, eq_self, if_true, if_false, reduceIte]
      · have q3' : ¬ nI (lv n i) = nI (lv n (i + 1)) := fun h => q3 (e5.mp h)
        rw [if_neg (fun h => q3 h.2.2)] at fin
        have fin := fun l4 l5 l6 => fin 3 l4 l5 l6 rfl
        by_cases q1 : nI (lv n (i + 1)) = dr
        · rw [q1] at a1 q3'
          simp only [x_D_priceGoing_0, x_D_priceGoing_1, x_D_priceGoing_3, x_D_priceGoing_4, x_D_priceGoing_7, x_D_priceGoing_8, x_D_priceGoing_9, x_D_priceGoing_12, x_D_priceGoing_13, x_D_priceGoing_16, x_D_priceGoing_17, x_D_priceGoing_20, x_D_priceGoing_21, x_D_priceGoing_24, x_D_priceGoing_26, x_D_priceGoing_28, x_D_priceGoing_29, x_D_priceGoing_32, x_D_priceGoing_33, x_D_priceGoing_36, x_D_priceGoing_38, x_D_priceGoing_41, x_D_priceGoing_42, x_D_priceGoing_45, x_D_priceGoing_46, x_D_priceGoing_49, x_D_priceGoing_50, x_D_priceGoing_52, x_D_priceGoing_53, x_D_priceGoing_56, x_D_priceGoing_57, x_D_priceGoing_60, x_D_priceGoing_61, x_D_priceGoing_62, x_D_priceGoing_63, x_D_priceGoing_66, x_D_priceGoing_68, x_D_priceGoing_71, x_D_priceGoing_72, x_D_priceGoing_75, x_D_priceGoing_76, x_D_priceGoing_78, x_D_priceGoing_79, x_D_priceGoing_82, x_D_priceGoing_83, x_D_priceGoing_85, x_D_priceGoing_88, x_D_priceGoing_90, x_D_priceGoing_93, x_D_priceGoing_94, x_D_priceGoing_97, x_D_priceGoing_98, x_D_priceGoing_99, x_D_priceGoing_102, x_D_priceGoing_105, s0, s3, n3, r2, r4, hlt, hl2, e3, e4, a1, a2, q3', z, nI_s, nI_1', fin, bI_0, bI_t, bI_f, e10, isA30, isA31, isA33, isA40, isA42, isA43, rOkB0, rOkB1, rOkB, Ret_v, Ret_n, cmp_eq, cmp_lt, cmp_gt, nI_1, eq_self, if_true, if_false, reduceIte]
        · by_cases q2 : bK a (lv n (i + 1)) = 2
          · simp only [x_D_priceGoing_0, x_D_priceGoing_1, x_D_priceGoing_3, x_D_priceGoing_4, x_D_priceGoing_7, x_D_priceGoing_8, x_D_priceGoing_9, x_D_priceGoing_12, x_D_priceGoing_13, x_D_priceGoing_16, x_D_priceGoing_17, x_D_priceGoing_20, x_D_priceGoing_21, x_D_priceGoing_24, x_D_priceGoing_26, x_D_priceGoing_28, x_D_priceGoing_29, x_D_priceGoing_32, x_D_priceGoing_33, x_D_priceGoing_36, x_D_priceGoing_38, x_D_priceGoing_41, x_D_priceGoing_42, x_D_priceGoing_45, x_D_priceGoing_46, x_D_priceGoing_49, x_D_priceGoing_50, x_D_priceGoing_52, x_D_priceGoing_53, x_D_priceGoing_56, x_D_priceGoing_57, x_D_priceGoing_60, x_D_priceGoing_61, x_D_priceGoing_62, x_D_priceGoing_63, x_D_priceGoing_66, x_D_priceGoing_68, x_D_priceGoing_71, x_D_priceGoing_72, x_D_priceGoing_75, x_D_priceGoing_76, x_D_priceGoing_78, x_D_priceGoing_79, x_D_priceGoing_82, x_D_priceGoing_83, x_D_priceGoing_85, x_D_priceGoing_88, x_D_priceGoing_90, x_D_priceGoing_93, x_D_priceGoing_94, x_D_priceGoing_97, x_D_priceGoing_98, x_D_priceGoing_99, x_D_priceGoing_102, x_D_priceGoing_105, s0, s3, n3, r1, r2, r4, hB.1, hlt, hl2, e3, e4, a1, a2, st, q1, q2, q3', z, nI_s, nI_1', fin, bI_0, bI_t, bI_f, e10, isA30, isA31, isA33, isA40, isA42, isA43, rOkB0, rOkB1, rOkB, Ret_v, Ret_n, cmp_eq, cmp_lt, cmp_gt, nI_1, eq_self, if_true, if_false, reduceIte]
          · simp only [x_D_priceGoing_0, x_D_priceGoing_1, x_D_priceGoing_3, x_D_priceGoing_4, x_D_priceGoing_7, x_D_priceGoing_8, x_D_priceGoing_9, x_D_priceGoing_12, x_D_priceGoing_13, x_D_priceGoing_16, x_D_priceGoing_17, x_D_priceGoing_20, x_D_priceGoing_21, x_D_priceGoing_24, x_D_priceGoing_26, x_D_priceGoing_28, x_D_priceGoing_29, x_D_priceGoing_32, x_D_priceGoing_33, x_D_priceGoing_36, x_D_priceGoing_38, x_D_priceGoing_41, x_D_priceGoing_42, x_D_priceGoing_45, x_D_priceGoing_46, x_D_priceGoing_49, x_D_priceGoing_50, x_D_priceGoing_52, x_D_priceGoing_53, x_D_priceGoing_56, x_D_priceGoing_57, x_D_priceGoing_60, x_D_priceGoing_61, x_D_priceGoing_62, x_D_priceGoing_63, x_D_priceGoing_66, x_D_priceGoing_68, x_D_priceGoing_71, x_D_priceGoing_72, x_D_priceGoing_75, x_D_priceGoing_76, x_D_priceGoing_78, x_D_priceGoing_79, x_D_priceGoing_82, x_D_priceGoing_83, x_D_priceGoing_85, x_D_priceGoing_88, x_D_priceGoing_90, x_D_priceGoing_93, x_D_priceGoing_94, x_D_priceGoing_97, x_D_priceGoing_98, x_D_priceGoing_99, x_D_priceGoing_102, x_D_priceGoing_105, s0, s3, n3, r1, r2, r4, hB.1, hlt, hl2, e3, e4, a1, a2, st, q1, q2, q3', z, nI_s, nI_1', fin, bI_0, bI_t, bI_f, e10, isA30, isA31, isA33, isA40, isA42, isA43, rOkB0, rOkB1, rOkB, Ret_v, Ret_n, cmp_eq, cmp_lt, cmp_gt, nI_1, eq_self, if_true, if_false, reduceIte]
end DD

