theorem nI_1'' (i : Nat) : 1 + nI i = nI (i + 1) := by rw [Int32.add_comm]; exact nI_1' i
section RW
variable {I : MI} {J : MJ} {R : MR} {S : Sh} {Q : SkQ} {b cap : Nat} {p : Rw}
theorem l_R_insert (h : RwS R S b cap) (hc : p.1 < cap) (hc2 : cap < 2 ^ 31) {w u : Int64} {c : Int32} {k : Nat} : ∀ (d : Nat) (I : MI) (J : MJ), I b 3 = nI p.1 → k + d ≤ p.1 → (∀ i, i < k + d → J (b + 1) i = p.2.1 i ∧ J (b + 2) i = p.2.2.1 i ∧ I (b + 3) i = p.2.2.2 i) → (∀ i, k + d < i → i ≤ p.1 → J (b + 1) i = p.2.1 (i - 1) ∧ J (b + 2) i = p.2.2.1 (i - 1) ∧ I (b + 3) i = p.2.2.2 (i - 1)) → (∀ I' J', fr b (b + 3) I J I' J' → RwD I' J' b (rIns p k w u c) → Q 0 none I' J' R S) → Wp 118 31 [.ref b, .int (nI k), .long w, nov, .long u, nov, .int c, .int (nI (k + d))] [] I J R S Q := by
  obtain ⟨k0, k1, k2, k3, n1, n2, n3, r0, r1, r2⟩ := h
  intro d
  induction d with
  | zero =>
    intro I J h3 hk hlo hhi hQ
    have hlt : ¬ nI k < nI (k + 0) := nI_nlt (by omega) (by omega)
    have hin : inb (nI k) cap = true := inb_nI (by omega) hc2
    have hix : ix (nI k) = k := ix_nI (by omega)
    rw [x_R_insert_31]
    simp only [x_R_insert_0, x_R_insert_1, x_R_insert_4, x_R_insert_5, x_R_insert_8, x_R_insert_9, x_R_insert_12, x_R_insert_13, x_R_insert_16, x_R_insert_17, x_R_insert_18, x_R_insert_21, x_R_insert_24, x_R_insert_25, x_R_insert_26, x_R_insert_29, x_R_insert_33, x_R_insert_34, x_R_insert_37, x_R_insert_38, x_R_insert_41, x_R_insert_43, x_R_insert_44, x_R_insert_47, x_R_insert_49, x_R_insert_50, x_R_insert_51, x_R_insert_52, x_R_insert_53, x_R_insert_54, x_R_insert_57, x_R_insert_59, x_R_insert_60, x_R_insert_63, x_R_insert_65, x_R_insert_66, x_R_insert_67, x_R_insert_68, x_R_insert_69, x_R_insert_70, x_R_insert_73, x_R_insert_75, x_R_insert_76, x_R_insert_79, x_R_insert_81, x_R_insert_82, x_R_insert_83, x_R_insert_84, x_R_insert_85, x_R_insert_88, x_R_insert_91, x_R_insert_92, x_R_insert_95, x_R_insert_96, x_R_insert_97, x_R_insert_98, x_R_insert_99, x_R_insert_102, x_R_insert_103, x_R_insert_105, x_R_insert_106, x_R_insert_107, x_R_insert_110, x_R_insert_111, x_R_insert_113, x_R_insert_114, x_R_insert_115, x_R_insert_116, x_R_insert_119, x_R_insert_120, x_R_insert_121, x_R_insert_124, k0, k1, k2, k3, r0, r1, r2, n1, n2, n3, hin, hix, hlt, bI_0, bI_t, bI_f, e10, isA30, isA31, isA33, isA40, isA42, isA43, rOkB0, rOkB1, rOkB, Ret_v, Ret_n, cmp_eq, cmp_lt, cmp_gt, nI_1, eq_self, if_true, if_false, reduceIte]
    refine hQ _ _ (fr_I (fr_I (fr_J (fr_J fr_rfl (by omega)) (by omega)) (by omega)) (by omega)) ⟨?_, fun i hi => ?_⟩
    · show u2 _ _ _ _ b 3 = nI (p.1 + 1)
      simp [u2, h3, nI_1']
    · have hi' : i < p.1 + 1 := hi
      show _ = (if i < k then _ else if i = k then _ else _) ∧ _ = (if i < k then _ else if i = k then _ else _) ∧ _ = (if i < k then _ else if i = k then _ else _)
      rcases Nat.lt_trichotomy i k with q | q | q
      · rw [if_pos q, if_pos q, if_pos q]
        have := hlo i (by omega)
        simp [u2, show ¬ i = k by omega, this]
      · subst q
        simp [u2]
      · rw [if_neg (by omega), if_neg (by omega), if_neg (by omega), if_neg (by omega), if_neg (by omega), if_neg (by omega)]
        have := hhi i (by omega) (by omega)
        simp [u2, show ¬ i = k by omega, this]
  | succ d ih =>
    intro I J h3 hk hlo hhi hQ
    rw [show k + (d + 1) = (k + d) + 1 from (Nat.add_assoc k d 1).symm] at *
    have hlt : nI k < nI (k + d + 1) := nI_lt (by omega) (by omega)
    have hin : inb (nI (k + d)) cap = true := inb_nI (by omega) hc2
    have hix : ix (nI (k + d)) = k + d := ix_nI (by omega)
    have hin2 : inb (nI (k + d + 1)) cap = true := inb_nI (by omega) hc2
    have hix2 : ix (nI (k + d + 1)) = k + d + 1 := ix_nI (by omega)
    rw [x_R_insert_31]
    simp only [x_R_insert_0, x_R_insert_1, x_R_insert_4, x_R_insert_5, x_R_insert_8, x_R_insert_9, x_R_insert_12, x_R_insert_13, x_R_insert_16, x_R_insert_17, x_R_insert_18, x_R_insert_21, x_R_insert_24, x_R_insert_25, x_R_insert_26, x_R_insert_29, x_R_insert_33, x_R_insert_34, x_R_insert_37, x_R_insert_38, x_R_insert_41, x_R_insert_43, x_R_insert_44, x_R_insert_47, x_R_insert_49, x_R_insert_50, x_R_insert_51, x_R_insert_52, x_R_insert_53, x_R_insert_54, x_R_insert_57, x_R_insert_59, x_R_insert_60, x_R_insert_63, x_R_insert_65, x_R_insert_66, x_R_insert_67, x_R_insert_68, x_R_insert_69, x_R_insert_70, x_R_insert_73, x_R_insert_75, x_R_insert_76, x_R_insert_79, x_R_insert_81, x_R_insert_82, x_R_insert_83, x_R_insert_84, x_R_insert_85, x_R_insert_88, x_R_insert_91, x_R_insert_92, x_R_insert_95, x_R_insert_96, x_R_insert_97, x_R_insert_98, x_R_insert_99, x_R_insert_102, x_R_insert_103, x_R_insert_105, x_R_insert_106, x_R_insert_107, x_R_insert_110, x_R_insert_111, x_R_insert_113, x_R_insert_114, x_R_insert_115, x_R_insert_116, x_R_insert_119, x_R_insert_120, x_R_insert_121, x_R_insert_124, k0, k1, k2, k3, r0, r1, r2, n1, n2, n3, nI_m, nI_s, hin, hix, hin2, hix2, hlt, bI_0, bI_t, bI_f, e10, isA30, isA31, isA33, isA40, isA42, isA43, rOkB0, rOkB1, rOkB, Ret_v, Ret_n, cmp_eq, cmp_lt, cmp_gt, nI_1, eq_self, if_true, if_false, reduceIte]
    refine ih _ _ ?_ (by omega) (fun i hi => ?_) (fun i hi hi2 => ?_) (fun I' J' hf hd => hQ I' J' (fr_trans (lo := b) (hi := b + 3) (fr_I (fr_J (fr_J fr_rfl (a := b + 1) (lo := b) (hi := b + 3) (by omega)) (by omega)) (by omega)) hf (by omega) (by omega)) hd)
    · simp [u2, h3]
    · have := hlo i (by omega)
      simp [u2, show ¬ i = k + d + 1 by omega, this]
    · by_cases q : i = k + d + 1
      · subst q
        have := hlo (k + d) (by omega)
        simp [u2, this]
      · have := hhi i (by omega) (by omega)
        simp [u2, q, this]
theorem c_R_insert (h : RwS R S b cap) (hd : RwD I J b p) (hc : p.1 < cap) (hc2 : cap < 2 ^ 31) {w u : Int64} {c : Int32} {k : Nat} (hk : k ≤ p.1) (hQ : ∀ I' J', fr b (b + 3) I J I' J' → RwD I' J' b (rIns p k w u c) → Q 0 none I' J' R S) : Wp 118 0 [.ref b, .int (nI k), .long w, nov, .long u, nov, .int c, nov] [] I J R S Q := by
  have l := l_R_insert (Q := Q) h hc hc2 (w := w) (u := u) (c := c) (k := k) (p.1 - k) I J hd.1 (by omega) (fun i hi => hd.2 i (by omega)) (fun i h1 h2 => absurd h2 (by omega)) hQ
  rw [show k + (p.1 - k) = p.1 by omega] at l
  obtain ⟨k0, k1, k2, k3, n1, n2, n3, r0, r1, r2⟩ := h
  have a1 : nI p.1 < nI cap := nI_lt hc hc2
  have a2 : ¬ nI k < 0 := nI_pos (by omega)
  have a3 : ¬ nI p.1 < nI k := nI_nlt hk (by omega)
  simp only [x_R_insert_0, x_R_insert_1, x_R_insert_4, x_R_insert_5, x_R_insert_8, x_R_insert_9, x_R_insert_12, x_R_insert_13, x_R_insert_16, x_R_insert_17, x_R_insert_18, x_R_insert_21, x_R_insert_25, x_R_insert_26, x_R_insert_29, k0, k1, r0, n1, hd.1, a1, a2, a3, bI_0, bI_t, bI_f, e10, isA30, isA31, isA33, isA40, isA42, isA43, rOkB0, rOkB1, rOkB, Ret_v, Ret_n, cmp_eq, cmp_lt, cmp_gt, nI_1, eq_self, if_true, if_false, reduceIte]
  exact l
theorem c_R_append (h : RwS R S b cap) (hd : RwD I J b p) (hc : p.1 < cap) (hc2 : cap < 2 ^ 31) {w u : Int64} {c : Int32} (hQ : ∀ I' J', fr b (b + 3) I J I' J' → RwD I' J' b (rIns p p.1 w u c) → Q 0 none I' J' R S) : Wp 117 0 [.ref b, .long w, nov, .long u, nov, .int c] [] I J R S Q := by
  simp only [x_R_append_0, x_R_append_1, x_R_append_2, x_R_append_5, x_R_append_6, x_R_append_7, h.1, hd.1]
  rw [x_R_append_9 h.1]
  refine c_R_insert h hd hc hc2 (Nat.le_refl _) (fun I' J' hf hd' => ?_)
  rw [Ret_n, x_R_append_12]
  exact hQ I' J' hf hd'
theorem l_R_remove (h : RwS R S b cap) (hc : p.1 ≤ cap) (hc2 : cap < 2 ^ 31) {k : Nat} : ∀ (d j : Nat) (I : MI) (J : MJ), I b 3 = nI p.1 → k ≤ j → j + 1 + d = p.1 → (∀ i, i < j → J (b + 1) i = (rDel p k).2.1 i ∧ J (b + 2) i = (rDel p k).2.2.1 i ∧ I (b + 3) i = (rDel p k).2.2.2 i) → (∀ i, j < i → i < p.1 → J (b + 1) i = p.2.1 i ∧ J (b + 2) i = p.2.2.1 i ∧ I (b + 3) i = p.2.2.2 i) → (∀ I' J', fr b (b + 3) I J I' J' → RwD I' J' b (rDel p k) → Q 0 none I' J' R S) → Wp 119 13 [.ref b, .int (nI k), .int (nI (j + 1))] [] I J R S Q := by
  obtain ⟨k0, k1, k2, k3, n1, n2, n3, r0, r1, r2⟩ := h
  intro d
  induction d with
  | zero =>
    intro j I J h3 hk hj hlo hhi hQ
    have hlt : ¬ nI (j + 1) < nI p.1 := nI_nlt (by omega) (by omega)
    have e : nI p.1 - 1 = nI (p.1 - 1) := by rw [show p.1 = p.1 - 1 + 1 by omega, nI_s]; rfl
    rw [x_R_remove_13]
    simp only [x_R_remove_0, x_R_remove_1, x_R_remove_2, x_R_remove_5, x_R_remove_8, x_R_remove_9, x_R_remove_10, x_R_remove_11, x_R_remove_12, x_R_remove_14, x_R_remove_15, x_R_remove_18, x_R_remove_21, x_R_remove_22, x_R_remove_25, x_R_remove_26, x_R_remove_27, x_R_remove_28, x_R_remove_29, x_R_remove_32, x_R_remove_33, x_R_remove_34, x_R_remove_35, x_R_remove_36, x_R_remove_39, x_R_remove_40, x_R_remove_41, x_R_remove_42, x_R_remove_43, x_R_remove_46, x_R_remove_47, x_R_remove_48, x_R_remove_49, x_R_remove_50, x_R_remove_53, x_R_remove_54, x_R_remove_55, x_R_remove_56, x_R_remove_57, x_R_remove_60, x_R_remove_61, x_R_remove_62, x_R_remove_63, x_R_remove_66, x_R_remove_69, x_R_remove_70, x_R_remove_71, x_R_remove_74, x_R_remove_75, x_R_remove_76, x_R_remove_79, k0, h3, hlt, e, bI_0, bI_t, bI_f, e10, isA30, isA31, isA33, isA40, isA42, isA43, rOkB0, rOkB1, rOkB, Ret_v, Ret_n, cmp_eq, cmp_lt, cmp_gt, nI_1, eq_self, if_true, if_false, reduceIte]
    refine hQ _ _ (fr_I fr_rfl (by omega)) ⟨u2_eq, fun i hi => ?_⟩
    have hi' : i < p.1 - 1 := hi
    rw [u2_p (by omega)]
    exact hlo i (by omega)
  | succ d ih =>
    intro j I J h3 hk hj hlo hhi hQ
    have hlt : nI (j + 1) < nI p.1 := nI_lt (by omega) (by omega)
    have hin : inb (nI j) cap = true := inb_nI (by omega) hc2
    have hix : ix (nI j) = j := ix_nI (by omega)
    have hin2 : inb (nI (j + 1)) cap = true := inb_nI (by omega) hc2
    have hix2 : ix (nI (j + 1)) = j + 1 := ix_nI (by omega)
    rw [x_R_remove_13]
    simp only [x_R_remove_0, x_R_remove_1, x_R_remove_2, x_R_remove_5, x_R_remove_8, x_R_remove_9, x_R_remove_10, x_R_remove_11, x_R_remove_12, x_R_remove_14, x_R_remove_15, x_R_remove_18, x_R_remove_21, x_R_remove_22, x_R_remove_25, x_R_remove_26, x_R_remove_27, x_R_remove_28, x_R_remove_29, x_R_remove_32, x_R_remove_33, x_R_remove_34, x_R_remove_35, x_R_remove_36, x_R_remove_39, x_R_remove_40, x_R_remove_41, x_R_remove_42, x_R_remove_43, x_R_remove_46, x_R_remove_47, x_R_remove_48, x_R_remove_49, x_R_remove_50, x_R_remove_53, x_R_remove_54, x_R_remove_55, x_R_remove_56, x_R_remove_57, x_R_remove_60, x_R_remove_61, x_R_remove_62, x_R_remove_63, x_R_remove_66, x_R_remove_69, x_R_remove_70, x_R_remove_71, x_R_remove_74, x_R_remove_75, x_R_remove_76, x_R_remove_79, k0, k1, k2, k3, r0, r1, r2, n1, n2, n3, h3, hlt, nI_s, nI_1', hin, hix, hin2, hix2, bI_0, bI_t, bI_f, e10, isA30, isA31, isA33, isA40, isA42, isA43, rOkB0, rOkB1, rOkB, Ret_v, Ret_n, cmp_eq, cmp_lt, cmp_gt, nI_1, eq_self, if_true, if_false, reduceIte]
    refine ih (j + 1) _ _ ?_ (by omega) (by omega) (fun i hi => ?_) (fun i hi hi2 => ?_) (fun I' J' hf hd => hQ I' J' (fr_trans (lo := b) (hi := b + 3) (fr_I (fr_J (fr_J fr_rfl (a := b + 1) (lo := b) (hi := b + 3) (by omega)) (by omega)) (by omega)) hf (by omega) (by omega)) hd)
    · simp [u2, h3]
    · by_cases q : i = j
      · subst q
        have := hhi (i + 1) (by omega) (by omega)
        simp [u2, rDel, this, show ¬ i < k by omega]
      · have := hlo i (by omega)
        simp [u2, q, this]
    · have := hhi i (by omega) (by omega)
      simp [u2, show ¬ i = j by omega, this]
theorem c_R_remove (h : RwS R S b cap) (hd : RwD I J b p) (hc : p.1 ≤ cap) (hc2 : cap < 2 ^ 31) {k : Nat} (hk : k < p.1) (hQ : ∀ I' J', fr b (b + 3) I J I' J' → RwD I' J' b (rDel p k) → Q 0 none I' J' R S) : Wp 119 0 [.ref b, .int (nI k), nov] [] I J R S Q := by
  have l := l_R_remove (Q := Q) h hc hc2 (k := k) (p.1 - 1 - k) k I J hd.1 (Nat.le_refl _) (by omega) (fun i hi => by have := hd.2 i (by omega); simp [rDel, hi, this]) (fun i h1 h2 => hd.2 i h2) hQ
  have hh := fun Q' => c_R_has (Q := Q') h hd.1 (by omega) (i := nI k) (J := J)
  have a1 : inb (nI k) p.1 = true := inb_nI hk (by omega)
  simp only [x_R_remove_0, x_R_remove_1, x_R_remove_2, x_R_remove_5, x_R_remove_9, x_R_remove_10, x_R_remove_11, x_R_remove_12, h.1, hh, a1, nI_1', bI_0, bI_t, bI_f, e10, isA30, isA31, isA33, isA40, isA42, isA43, rOkB0, rOkB1, rOkB, Ret_v, Ret_n, cmp_eq, cmp_lt, cmp_gt, nI_1, eq_self, if_true, if_false, reduceIte]
  exact l
theorem c_R_remove_no (h : RwS R S b cap) (hd : RwD I J b p) (hc : p.1 ≤ cap) (hc2 : cap < 2 ^ 31) {i : Int32} (q : inb i p.1 = false) : Wp 119 0 [.ref b, .int i, nov] [] I J R S Q = Q 0 none I J R S := by
  have hh := fun Q' => c_R_has (Q := Q') h hd.1 (by omega) (i := i) (J := J)
  simp only [x_R_remove_0, x_R_remove_1, x_R_remove_2, x_R_remove_5, x_R_remove_8, h.1, hh, q, bI_0, bI_t, bI_f, e10, isA30, isA31, isA33, isA40, isA42, isA43, rOkB0, rOkB1, rOkB, Ret_v, Ret_n, cmp_eq, cmp_lt, cmp_gt, nI_1, eq_self, if_true, if_false, reduceIte]
theorem l_R_copyFrom {b2 : Nat} (h : RwS R S b cap) (h2 : RwS R S b2 cap) (hb : b + 3 < b2 ∨ b2 + 3 < b) (hc : p.1 ≤ cap) (hc2 : cap < 2 ^ 31) : ∀ (d j : Nat) (I : MI) (J : MJ), I b 3 = nI p.1 → j + d = p.1 → (∀ i, i < j → J (b + 1) i = p.2.1 i ∧ J (b + 2) i = p.2.2.1 i ∧ I (b + 3) i = p.2.2.2 i) → RwD I J b2 p → (∀ I' J', fr b (b + 3) I J I' J' → RwD I' J' b p → Q 0 none I' J' R S) → Wp 120 18 [.ref b, .ref b2, .int (nI j)] [] I J R S Q := by
  obtain ⟨k0, k1, k2, k3, n1, n2, n3, r0, r1, r2⟩ := h
  obtain ⟨k0', k1', k2', k3', n1', n2', n3', r0', r1', r2'⟩ := h2
  intro d
  induction d with
  | zero =>
    intro j I J h3 hj hlo hD hQ
    have hlt : ¬ nI j < nI p.1 := nI_nlt (by omega) (by omega)
    rw [x_R_copyFrom_18]
    simp only [x_R_copyFrom_0, x_R_copyFrom_1, x_R_copyFrom_2, x_R_copyFrom_5, x_R_copyFrom_6, x_R_copyFrom_9, x_R_copyFrom_10, x_R_copyFrom_13, x_R_copyFrom_16, x_R_copyFrom_17, x_R_copyFrom_19, x_R_copyFrom_20, x_R_copyFrom_23, x_R_copyFrom_26, x_R_copyFrom_27, x_R_copyFrom_30, x_R_copyFrom_31, x_R_copyFrom_32, x_R_copyFrom_35, x_R_copyFrom_36, x_R_copyFrom_37, x_R_copyFrom_38, x_R_copyFrom_39, x_R_copyFrom_42, x_R_copyFrom_43, x_R_copyFrom_44, x_R_copyFrom_47, x_R_copyFrom_48, x_R_copyFrom_49, x_R_copyFrom_50, x_R_copyFrom_51, x_R_copyFrom_54, x_R_copyFrom_55, x_R_copyFrom_56, x_R_copyFrom_59, x_R_copyFrom_60, x_R_copyFrom_61, x_R_copyFrom_62, x_R_copyFrom_65, x_R_copyFrom_68, k0, h3, hlt, bI_0, bI_t, bI_f, e10, isA30, isA31, isA33, isA40, isA42, isA43, rOkB0, rOkB1, rOkB, Ret_v, Ret_n, cmp_eq, cmp_lt, cmp_gt, nI_1, eq_self, if_true, if_false, reduceIte]
    exact hQ _ _ fr_rfl ⟨h3, fun i hi => hlo i (by omega)⟩
  | succ d ih =>
    intro j I J h3 hj hlo hD hQ
    have hlt : nI j < nI p.1 := nI_lt (by omega) (by omega)
    have hin : inb (nI j) cap = true := inb_nI (by omega) hc2
    have hix : ix (nI j) = j := ix_nI (by omega)
    rw [x_R_copyFrom_18]
    simp only [x_R_copyFrom_0, x_R_copyFrom_1, x_R_copyFrom_2, x_R_copyFrom_5, x_R_copyFrom_6, x_R_copyFrom_9, x_R_copyFrom_10, x_R_copyFrom_13, x_R_copyFrom_16, x_R_copyFrom_17, x_R_copyFrom_19, x_R_copyFrom_20, x_R_copyFrom_23, x_R_copyFrom_26, x_R_copyFrom_27, x_R_copyFrom_30, x_R_copyFrom_31, x_R_copyFrom_32, x_R_copyFrom_35, x_R_copyFrom_36, x_R_copyFrom_37, x_R_copyFrom_38, x_R_copyFrom_39, x_R_copyFrom_42, x_R_copyFrom_43, x_R_copyFrom_44, x_R_copyFrom_47, x_R_copyFrom_48, x_R_copyFrom_49, x_R_copyFrom_50, x_R_copyFrom_51, x_R_copyFrom_54, x_R_copyFrom_55, x_R_copyFrom_56, x_R_copyFrom_59, x_R_copyFrom_60, x_R_copyFrom_61, x_R_copyFrom_62, x_R_copyFrom_65, x_R_copyFrom_68, k0, k1, k2, k3, r0, r1, r2, n1, n2, n3, k0', k1', k2', k3', r0', r1', r2', n1', n2', n3', h3, hlt, nI_1', hin, hix, bI_0, bI_t, bI_f, e10, isA30, isA31, isA33, isA40, isA42, isA43, rOkB0, rOkB1, rOkB, Ret_v, Ret_n, cmp_eq, cmp_lt, cmp_gt, nI_1, eq_self, if_true, if_false, reduceIte]
    have f1 := fr_I (k := j) (v := I (b2 + 3) j) (fr_J (k := j) (v := u2 J (b + 1) j (J (b2 + 1) j) (b2 + 2) j) (fr_J (k := j) (v := J (b2 + 1) j) (fr_rfl (I := I) (J := J)) (a := b + 1) (lo := b) (hi := b + 3) (by omega)) (a := b + 2) (by omega)) (a := b + 3) (by omega)
    have e := hD.2 j (by omega)
    refine ih (j + 1) _ _ ?_ (by omega) (fun i hi => ?_) (RwD_fr hD f1 (by omega)) (fun I' J' hf hd => hQ I' J' (fr_trans (lo := b) (hi := b + 3) f1 hf (by omega) (by omega)) hd)
    · simp [u2, h3]
    · by_cases q : i = j
      · subst q
        simp [u2, e, show ¬ b2 + 2 = b + 1 by omega]
      · have := hlo i (by omega)
        simp [u2, q, this]
theorem c_R_copyFrom {b2 : Nat} (h : RwS R S b cap) (h2 : RwS R S b2 cap) (hb : b + 3 < b2 ∨ b2 + 3 < b) (hc : p.1 ≤ cap) (hc2 : cap < 2 ^ 31) (hD : RwD I J b2 p) (hQ : ∀ I' J', fr b (b + 3) I J I' J' → RwD I' J' b p → Q 0 none I' J' R S) : Wp 120 0 [.ref b, .ref b2, nov] [] I J R S Q := by
  have f1 := fr_I (k := 3) (v := nI p.1) (fr_rfl (I := I) (J := J) (lo := b) (hi := b + 3)) (a := b) (by omega)
  have l := l_R_copyFrom (Q := Q) h h2 hb hc hc2 p.1 0 (u2 I b 3 (nI p.1)) J u2_eq (by omega) (fun i hi => absurd hi (by omega)) (RwD_fr hD f1 (by omega)) (fun I' J' hf hd => hQ I' J' (fr_trans (lo := b) (hi := b + 3) f1 hf (by omega) (by omega)) hd)
  obtain ⟨k0, k1, k2, k3, n1, n2, n3, r0, r1, r2⟩ := h
  have a1 : ¬ nI cap < nI p.1 := nI_nlt hc (by omega)
  simp only [x_R_copyFrom_0, x_R_copyFrom_1, x_R_copyFrom_2, x_R_copyFrom_5, x_R_copyFrom_6, x_R_copyFrom_9, x_R_copyFrom_10, x_R_copyFrom_13, x_R_copyFrom_16, x_R_copyFrom_17, k0, k1, r0, n1, h2.1, hD.1, a1, bI_0, bI_t, bI_f, e10, isA30, isA31, isA33, isA40, isA42, isA43, rOkB0, rOkB1, rOkB, Ret_v, Ret_n, cmp_eq, cmp_lt, cmp_gt, nI_1, eq_self, if_true, if_false, reduceIte]
  exact l
end RW

