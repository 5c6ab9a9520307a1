/-! the table of least costs -/
def dpF (g c : Nat → Int32) (n m : Nat) : Nat → Nat → Nat → Int32
  | 0 => fun _ _ => 0
  | f + 1 => fun i j => cell g c n m (dpF g c n m f) i j
def dp (g c : Nat → Int32) (n m i j : Nat) : Int32 := dpF g c n m (i + j + 1) i j
theorem cell_congr {g c : Nat → Int32} {n m : Nat} {T U : Nat → Nat → Int32} {i j : Nat} (h : ∀ i' j', i' ≤ i → j' ≤ j → i' + j' < i + j → T i' j' = U i' j') : cell g c n m T i j = cell g c n m U i j := by
  have h1 : ∀ x, ce1 g T i j x = ce1 g U i j x := by
    intro x
    unfold ce1
    by_cases q : 0 < i
    · rw [if_pos q, if_pos q, h (i - 1) j (by omega) (by omega) (by omega)]
    · rw [if_neg q, if_neg q]
  have h2 : ∀ x, ce2 c T i j x = ce2 c U i j x := by
    intro x
    unfold ce2
    by_cases q : 0 < j
    · rw [if_pos q, if_pos q, h i (j - 1) (by omega) (by omega) (by omega)]
    · rw [if_neg q, if_neg q]
  have h3 : ∀ x, ce3 n m T i j x = ce3 n m U i j x := by
    intro x
    unfold ce3
    by_cases q : 0 < i ∧ 0 < j
    · rw [if_pos q, if_pos q, h (i - 1) (j - 1) (by omega) (by omega) (by omega)]
    · rw [if_neg q, if_neg q]
  have h4 : ∀ x, ce4 n m T i j x = ce4 n m U i j x := by
    intro x
    unfold ce4
    by_cases q : 1 < i ∧ 1 < j ∧ lv n (i - 2) = lv m (j - 1) ∧ lv n (i - 1) = lv m (j - 2)
    · rw [if_pos q, if_pos q, h (i - 2) (j - 2) (by omega) (by omega) (by omega)]
    · rw [if_neg q, if_neg q]
  unfold cell
  rw [h1, h2, h3, h4]
theorem dpF_stab {g c : Nat → Int32} {n m : Nat} : ∀ (s f i j : Nat), i + j < s → i + j < f → dpF g c n m f i j = dp g c n m i j := by
  intro s
  induction s with
  | zero => intro f i j h; omega
  | succ s ih =>
    intro f i j h1 h2
    match f, h2 with
    | f + 1, h2 =>
      unfold dp
      show cell g c n m (dpF g c n m f) i j = cell g c n m (dpF g c n m (i + j)) i j
      refine cell_congr (fun i' j' a1 a2 a3 => ?_)
      rw [ih f i' j' (by omega) (by omega), ih (i + j) i' j' (by omega) (by omega)]
theorem dp_eq {g c : Nat → Int32} {n m i j : Nat} : dp g c n m i j = cell g c n m (dp g c n m) i j := by
  show cell g c n m (dpF g c n m (i + j)) i j = _
  exact cell_congr (fun i' j' a1 a2 a3 => dpF_stab (i' + j' + 1) (i + j) i' j' (by omega) a3)
section DB
variable {I : MI} {J : MJ} {R : MR} {S : Sh} {Q : SkQ} {d kb B p n m : Nat} {a : Bk} {g c : Nat → Int32} {dr : Int32}
theorem DsA_fr {I' : MI} {J' : MJ} {lo hi : Nat} (hA : DsA I d n m g c) (hf : fr lo hi I J I' J') (h : d + 4 < lo ∨ hi < d + 1) : DsA I' d n m g c := by
  obtain ⟨h1, h2, h3, h4⟩ := hA
  refine ⟨fun j hj => ?_, fun j hj => ?_, fun j hj => ?_, fun j hj => ?_⟩
  · rw [(hf _ (by omega)).1]; exact h1 j hj
  · rw [(hf _ (by omega)).1]; exact h2 j hj
  · rw [(hf _ (by omega)).1]; exact h3 j hj
  · rw [(hf _ (by omega)).1]; exact h4 j hj
theorem KbD_fr {I' : MI} {J' : MJ} {lo hi : Nat} (hK : KbD I kb) (hf : fr lo hi I J I' J') (h : kb + 3 < lo ∨ hi < kb + 1) : KbD I' kb := fun i hi => by
  rw [(hf (kb + 1) (by omega)).1, (hf (kb + 2) (by omega)).1, (hf (kb + 3) (by omega)).1]
  exact hK i hi
theorem c_D_priceGoing (hS : DsS R S d kb B) (hB : BkS R S B) (hBd : B + 26 < d ∨ d + 5 < B) (hw : wOk 8 n = true) (hD : BkD I J B a) (hT : ∀ j, j < wlF 8 n → I (d + 1) j = nI (lv n j)) (hQ : ∀ I', fr (d + 3) (d + 3) I J I' J → (∀ j, j < wlF 8 n → I' (d + 3) j = gC a dr n j) → Q 0 none I' J R S) : Wp 137 0 [.ref d, .int (nI (wlF 8 n)), .int dr, nov, nov, nov, nov] [] I J R S Q := by
  rw [x_D_priceGoing_0, x_D_priceGoing_1, ← nI_0]
  exact l_D_priceGoing hS hB hBd hw (wlF 8 n) 0 I nov nov nov (by omega) hD hT (fun j hj => absurd hj (by omega)) hQ
theorem l_D_priceComing (hS : DsS R S d kb B) (hB : BkS R S B) (hBd : B + 26 < d ∨ d + 5 < B) (hw : wOk 8 n = true) : ∀ (k i : Nat) (I : MI) (l4 l5 : Value), i + k = wlF 8 n → BkD I J B a → (∀ j, j < wlF 8 n → I (d + 2) j = nI (lv n j)) → (∀ j, j < i → I (d + 4) j = cC a dr n j) → (∀ I', fr (d + 4) (d + 4) I J I' J → (∀ j, j < wlF 8 n → I' (d + 4) j = cC a dr n j) → Q 0 none I' J R S) → Wp 138 2 [.ref d, .int (nI (wlF 8 n)), .int dr, .int (nI i), l4, l5] [] I J R S Q := by
  obtain ⟨s0, s1, s2, s3, s4, s5, n1, n2, n3, n4, n5, r0, r1, r2, r3, r4, r5, r6⟩ := hS
  have hl8 := wlF_le 8 n
  intro k
  induction k with
  | zero =>
    intro i I l4 l5 hi hD hT hd hQ
    have hlt : ¬ nI i < nI (wlF 8 n) := nI_nlt (by omega) (by omega)
    rw [x_D_priceComing_2]
    simp only [x_D_priceComing_0, x_D_priceComing_1, x_D_priceComing_3, x_D_priceComing_4, x_D_priceComing_7, x_D_priceComing_8, x_D_priceComing_9, x_D_priceComing_12, x_D_priceComing_13, x_D_priceComing_16, x_D_priceComing_17, x_D_priceComing_20, x_D_priceComing_21, x_D_priceComing_24, x_D_priceComing_26, x_D_priceComing_28, x_D_priceComing_29, x_D_priceComing_32, x_D_priceComing_33, x_D_priceComing_36, x_D_priceComing_38, x_D_priceComing_41, x_D_priceComing_42, x_D_priceComing_45, x_D_priceComing_46, x_D_priceComing_49, x_D_priceComing_50, x_D_priceComing_52, x_D_priceComing_53, x_D_priceComing_56, x_D_priceComing_57, x_D_priceComing_59, x_D_priceComing_62, x_D_priceComing_63, x_D_priceComing_66, x_D_priceComing_67, x_D_priceComing_68, x_D_priceComing_71, x_D_priceComing_74, hlt, bI_0, bI_t, bI_f, e10, isA30, isA31, isA33, isA40, isA42, isA43, rOkB0, rOkB1, rOkB, Ret_v, Ret_n, cmp_eq, cmp_lt, cmp_gt, nI_1, eq_self, if_true, if_false, reduceIte]
    exact hQ I fr_rfl (fun j hj => hd j (by omega))
  | succ k ih =>
    intro i I l4 l5 hi hD hT hd hQ
    have hlt : nI i < nI (wlF 8 n) := nI_lt (by omega) (by omega)
    have hl2 : nI i < nI 8 := nI_lt (by omega) (by omega)
    have e3 : inb (nI i) 8 = true := inb_nI (by omega) (by omega)
    have e4 : ix (nI i) = i := ix_nI (by omega)
    have vl := lvw_lt hw (show i < wlF 8 n by omega)
    have a1 := fun Q' => c_D_at (Q := Q') (I := I) (J := J) (R := R) s2 n2 (by omega) (i := nI i)
    rw [e3, if_pos (by simp), e4, hT i (by omega)] at a1
    have st := fun Q' => c_O_stickOf (Q := Q') hB hD (i := nI (lv n i))
    unfold stk at st
    rw [inb_nI vl.1 (by omega), if_pos (by simp), ix_nI (by omega)] at st
    have fin : ∀ (v : Int32) (l4 l5 : Value), v = cC a dr n i → Wp 138 2 [.ref d, .int (nI (wlF 8 n)), .int dr, .int (nI (i + 1)), l4, l5] [] (u2 I (d + 4) i v) J R S Q := by
      intro v l4 l5 hv
      have hf : fr (d + 4) (d + 4) I J (u2 I (d + 4) i v) J := fr_I fr_rfl (by omega)
      refine ih (i + 1) _ l4 l5 (by omega) (BkD_fr hD hf (by omega)) (fun j hj => ?_) (fun j hj => ?_) (fun I' hf2 hd' => hQ I' (fr_trans (lo := d + 4) (hi := d + 4) hf hf2 (by omega) (by omega)) hd')
      · rw [u2_p (by omega)]; exact hT j hj
      · by_cases q : j = i
        · rw [q, u2_eq]; exact hv
        · rw [u2_of (by omega)]; exact hd j (by omega)
    unfold cC at fin
    rw [x_D_priceComing_2]
    by_cases q1 : nI (lv n i) = dr
    · rw [if_pos (Or.inl q1)] at fin
      have fin := fun l4 l5 => fin 1 l4 l5 rfl
      simp only [x_D_priceComing_0, x_D_priceComing_1, x_D_priceComing_3, x_D_priceComing_4, x_D_priceComing_7, x_D_priceComing_8, x_D_priceComing_9, x_D_priceComing_12, x_D_priceComing_13, x_D_priceComing_16, x_D_priceComing_17, x_D_priceComing_20, x_D_priceComing_21, x_D_priceComing_24, x_D_priceComing_26, x_D_priceComing_28, x_D_priceComing_29, x_D_priceComing_32, x_D_priceComing_33, x_D_priceComing_36, x_D_priceComing_38, x_D_priceComing_41, x_D_priceComing_42, x_D_priceComing_45, x_D_priceComing_46, x_D_priceComing_49, x_D_priceComing_50, x_D_priceComing_52, x_D_priceComing_53, x_D_priceComing_56, x_D_priceComing_57, x_D_priceComing_59, x_D_priceComing_62, x_D_priceComing_63, x_D_priceComing_66, x_D_priceComing_67, x_D_priceComing_68, x_D_priceComing_71, x_D_priceComing_74, s0, s4, n4, r3, r5, hlt, hl2, e3, e4, a1, q1, nI_1', fin, bI_0, bI_t, bI_f, e10, isA30, isA31, isA33, isA40, isA42, isA43, rOkB0, rOkB1, rOkB, Ret_v, Ret_n, cmp_eq, cmp_lt, cmp_gt, nI_1, eq_self, if_true, if_false, reduceIte]
    · by_cases q2 : bK a (lv n i) = 1
      · rw [if_pos (Or.inr q2)] at fin
        have fin := fun l4 l5 => fin 1 l4 l5 rfl
        simp only [x_D_priceComing_0, x_D_priceComing_1, x_D_priceComing_3, x_D_priceComing_4, x_D_priceComing_7, x_D_priceComing_8, x_D_priceComing_9, x_D_priceComing_12, x_D_priceComing_13, x_D_priceComing_16, x_D_priceComing_17, x_D_priceComing_20, x_D_priceComing_21, x_D_priceComing_24, x_D_priceComing_26, x_D_priceComing_28, x_D_priceComing_29, x_D_priceComing_32, x_D_priceComing_33, x_D_priceComing_36, x_D_priceComing_38, x_D_priceComing_41, x_D_priceComing_42, x_D_priceComing_45, x_D_priceComing_46, x_D_priceComing_49, x_D_priceComing_50, x_D_priceComing_52, x_D_priceComing_53, x_D_priceComing_56, x_D_priceComing_57, x_D_priceComing_59, x_D_priceComing_62, x_D_priceComing_63, x_D_priceComing_66, x_D_priceComing_67, x_D_priceComing_68, x_D_priceComing_71, x_D_priceComing_74, s0, s4, n4, r1, r3, r5, hB.1, hlt, hl2, e3, e4, a1, st, q1, q2, nI_1', fin, bI_0, bI_t, bI_f, e10, isA30, isA31, isA33, isA40, isA42, isA43, rOkB0, rOkB1, rOkB, Ret_v, Ret_n, cmp_eq, cmp_lt, cmp_gt, nI_1, eq_self, if_true, if_false, reduceIte]
      · rw [if_neg (fun h => h.elim q1 q2)] at fin
        have fin := fun l4 l5 => fin 3 l4 l5 rfl
        simp only [x_D_priceComing_0, x_D_priceComing_1, x_D_priceComing_3, x_D_priceComing_4, x_D_priceComing_7, x_D_priceComing_8, x_D_priceComing_9, x_D_priceComing_12, x_D_priceComing_13, x_D_priceComing_16, x_D_priceComing_17, x_D_priceComing_20, x_D_priceComing_21, x_D_priceComing_24, x_D_priceComing_26, x_D_priceComing_28, x_D_priceComing_29, x_D_priceComing_32, x_D_priceComing_33, x_D_priceComing_36, x_D_priceComing_38, x_D_priceComing_41, x_D_priceComing_42, x_D_priceComing_45, x_D_priceComing_46, x_D_priceComing_49, x_D_priceComing_50, x_D_priceComing_52, x_D_priceComing_53, x_D_priceComing_56, x_D_priceComing_57, x_D_priceComing_59, x_D_priceComing_62, x_D_priceComing_63, x_D_priceComing_66, x_D_priceComing_67, x_D_priceComing_68, x_D_priceComing_71, x_D_priceComing_74, s0, s4, n4, r1, r3, r5, hB.1, hlt, hl2, e3, e4, a1, st, q1, q2, nI_1', fin, bI_0, bI_t, bI_f, e10, isA30, isA31, isA33, isA40, isA42, isA43, rOkB0, rOkB1, rOkB, Ret_v, Ret_n, cmp_eq, cmp_lt, cmp_gt, nI_1, eq_self, if_true, if_false, reduceIte]
theorem c_D_priceComing (hS : DsS R S d kb B) (hB : BkS R S B) (hBd : B + 26 < d ∨ d + 5 < B) (hw : wOk 8 n = true) (hD : BkD I J B a) (hT : ∀ j, j < wlF 8 n → I (d + 2) j = nI (lv n j)) (hQ : ∀ I', fr (d + 4) (d + 4) I J I' J → (∀ j, j < wlF 8 n → I' (d + 4) j = cC a dr n j) → Q 0 none I' J R S) : Wp 138 0 [.ref d, .int (nI (wlF 8 n)), .int dr, nov, nov, nov] [] I J R S Q := by
  rw [x_D_priceComing_0, x_D_priceComing_1, ← nI_0]
  exact l_D_priceComing hS hB hBd hw (wlF 8 n) 0 I nov nov (by omega) hD hT (fun j hj => absurd hj (by omega)) hQ
/-- filled up to the place i, j -/
def DsT (I : MI) (d n m : Nat) (g c : Nat → Int32) (i j : Nat) : Prop := ∀ i' j', i' ≤ wlF 8 n → j' ≤ wlF 8 m → (i' < i ∨ (i' = i ∧ j' < j)) → I (d + 5) (9 * i' + j') = dp g c n m i' j'
theorem l_D_inner (hS : DsS R S d kb B) (hK : KbS R S kb) (hkd : kb + 3 < d ∨ d + 5 < kb) (wn : wOk 8 n = true) (wm : wOk 8 m = true) {i : Nat} (hi : i ≤ wlF 8 n) {t w : Int64} : ∀ (k j : Nat) (I : MI), j + k = wlF 8 m + 1 → KbD I kb → DsA I d n m g c → DsT I d n m g c i j → (∀ I', fr (d + 5) (d + 5) I J I' J → DsT I' d n m g c (i + 1) 0 → Wp 135 39 [.ref d, .long t, nov, .long w, nov, .int dr, .int (nI (wlF 8 n)), .int (nI (wlF 8 m)), .int (nI (i + 1)), .int (nI (wlF 8 m + 1))] [] I' J R S Q) → Wp 135 56 [.ref d, .long t, nov, .long w, nov, .int dr, .int (nI (wlF 8 n)), .int (nI (wlF 8 m)), .int (nI i), .int (nI j)] [] I J R S Q := by
  have l1 := wlF_le 8 n
  have l2 := wlF_le 8 m
  have hS' := hS
  obtain ⟨s0, s1, s2, s3, s4, s5, n1, n2, n3, n4, n5, r0, r1, r2, r3, r4, r5, r6⟩ := hS
  intro k
  induction k with
  | zero =>
    intro j I hj hKD hA hT hQ
    have hlt : nI (wlF 8 m) < nI j := nI_lt (by omega) (by omega)
    rw [x_D_between_56]
    simp only [x_D_between_0, x_D_between_1, x_D_between_2, x_D_between_5, x_D_between_8, x_D_between_10, x_D_between_11, x_D_between_12, x_D_between_15, x_D_between_18, x_D_between_20, x_D_between_21, x_D_between_23, x_D_between_25, x_D_between_28, x_D_between_29, x_D_between_31, x_D_between_33, x_D_between_36, x_D_between_37, x_D_between_41, x_D_between_43, x_D_between_46, x_D_between_48, x_D_between_50, x_D_between_53, x_D_between_54, x_D_between_58, x_D_between_60, x_D_between_63, x_D_between_65, x_D_between_67, x_D_between_70, x_D_between_71, x_D_between_74, x_D_between_76, x_D_between_78, x_D_between_79, x_D_between_81, x_D_between_82, x_D_between_83, x_D_between_85, x_D_between_87, x_D_between_90, x_D_between_91, x_D_between_94, x_D_between_97, x_D_between_100, x_D_between_103, x_D_between_104, x_D_between_106, x_D_between_108, x_D_between_111, hlt, nI_1', bI_0, bI_t, bI_f, e10, isA30, isA31, isA33, isA40, isA42, isA43, rOkB0, rOkB1, rOkB, Ret_v, Ret_n, cmp_eq, cmp_lt, cmp_gt, nI_1, eq_self, if_true, if_false, reduceIte]
    rw [show j = wlF 8 m + 1 by omega]
    exact hQ I fr_rfl (fun i' j' a1 a2 a3 => hT i' j' a1 a2 (by omega))
  | succ k ih =>
    intro j I hj hKD hA hT hQ
    have hlt : ¬ nI (wlF 8 m) < nI j := nI_nlt (by omega) (by omega)
    have hl9 : nI j < 9 := by rw [show (9 : Int32) = nI 9 by decide]; exact nI_lt (by omega) (by omega)
    have e5 : (9 : Int32) * nI i + nI j = nI (9 * i + j) := by rw [show (9 : Int32) = nI 9 by decide, nI_mul, nI_plus]
    have e6 : inb (nI (9 * i + j)) 81 = true := inb_nI (by omega) (by omega)
    have e7 : ix (nI (9 * i + j)) = 9 * i + j := ix_nI (by omega)
    have lc := fun Q' => c_D_leastCost (Q := Q') (J := J) hS' hK hKD hA wn wm hi (show j ≤ wlF 8 m by omega)
    rw [show cell g c n m (fun i j => I (d + 5) (9 * i + j)) i j = dp g c n m i j from (cell_congr (fun i' j' a1 a2 a3 => hT i' j' (by omega) (by omega) (by omega))).trans dp_eq.symm] at lc
    rw [x_D_between_56]
    simp only [x_D_between_0, x_D_between_1, x_D_between_2, x_D_between_5, x_D_between_8, x_D_between_10, x_D_between_11, x_D_between_12, x_D_between_15, x_D_between_18, x_D_between_20, x_D_between_21, x_D_between_23, x_D_between_25, x_D_between_28, x_D_between_29, x_D_between_31, x_D_between_33, x_D_between_36, x_D_between_37, x_D_between_41, x_D_between_43, x_D_between_46, x_D_between_48, x_D_between_50, x_D_between_53, x_D_between_54, x_D_between_58, x_D_between_60, x_D_between_63, x_D_between_65, x_D_between_67, x_D_between_70, x_D_between_71, x_D_between_74, x_D_between_76, x_D_between_78, x_D_between_79, x_D_between_81, x_D_between_82, x_D_between_83, x_D_between_85, x_D_between_87, x_D_between_90, x_D_between_91, x_D_between_94, x_D_between_97, x_D_between_100, x_D_between_103, x_D_between_104, x_D_between_106, x_D_between_108, x_D_between_111, s0, s5, n5, r6, hlt, hl9, e5, e6, e7, lc, nI_1', bI_0, bI_t, bI_f, e10, isA30, isA31, isA33, isA40, isA42, isA43, rOkB0, rOkB1, rOkB, Ret_v, Ret_n, cmp_eq, cmp_lt, cmp_gt, nI_1, eq_self, if_true, if_false, reduceIte]
    have hf : fr (d + 5) (d + 5) I J (u2 I (d + 5) (9 * i + j) (dp g c n m i j)) J := fr_I fr_rfl (by omega)
    refine ih (j + 1) _ (by omega) (KbD_fr hKD hf (by omega)) (DsA_fr hA hf (by omega)) (fun i' j' a1 a2 a3 => ?_) (fun I' hf2 => hQ I' (fr_trans (lo := d + 5) (hi := d + 5) hf hf2 (by omega) (by omega)))
    by_cases q : i' = i ∧ j' = j
    · rw [q.1, q.2, u2_eq]
    · rw [u2_of (by omega)]
      exact hT i' j' a1 a2 (by omega)
theorem l_D_outer (hS : DsS R S d kb B) (hK : KbS R S kb) (hkd : kb + 3 < d ∨ d + 5 < kb) (wn : wOk 8 n = true) (wm : wOk 8 m = true) {t w : Int64} : ∀ (k i : Nat) (I : MI) (l9 : Value), i + k = wlF 8 n + 1 → KbD I kb → DsA I d n m g c → DsT I d n m g c i 0 → (∀ I', fr (d + 5) (d + 5) I J I' J → Q 0 (some (.int (dp g c n m (wlF 8 n) (wlF 8 m)))) I' J R S) → Wp 135 39 [.ref d, .long t, nov, .long w, nov, .int dr, .int (nI (wlF 8 n)), .int (nI (wlF 8 m)), .int (nI i), l9] [] I J R S Q := by
  have l1 := wlF_le 8 n
  have l2 := wlF_le 8 m
  have hS' := hS
  obtain ⟨s0, s1, s2, s3, s4, s5, n1, n2, n3, n4, n5, r0, r1, r2, r3, r4, r5, r6⟩ := hS
  intro k
  induction k with
  | zero =>
    intro i I l9 hi hKD hA hT hQ
    have hlt : nI (wlF 8 n) < nI i := nI_lt (by omega) (by omega)
    have ct := fun Q' => c_D_costAt (Q := Q') (I := I) (J := J) hS' (show wlF 8 n < 9 by omega) (show wlF 8 m < 9 by omega)
    rw [hT (wlF 8 n) (wlF 8 m) (by omega) (by omega) (by omega)] at ct
    rw [x_D_between_39]
    simp only [x_D_between_0, x_D_between_1, x_D_between_2, x_D_between_5, x_D_between_8, x_D_between_10, x_D_between_11, x_D_between_12, x_D_between_15, x_D_between_18, x_D_between_20, x_D_between_21, x_D_between_23, x_D_between_25, x_D_between_28, x_D_between_29, x_D_between_31, x_D_between_33, x_D_between_36, x_D_between_37, x_D_between_41, x_D_between_43, x_D_between_46, x_D_between_48, x_D_between_50, x_D_between_53, x_D_between_54, x_D_between_58, x_D_between_60, x_D_between_63, x_D_between_65, x_D_between_67, x_D_between_70, x_D_between_71, x_D_between_74, x_D_between_76, x_D_between_78, x_D_between_79, x_D_between_81, x_D_between_82, x_D_between_83, x_D_between_85, x_D_between_87, x_D_between_90, x_D_between_91, x_D_between_94, x_D_between_97, x_D_between_100, x_D_between_103, x_D_between_104, x_D_between_106, x_D_between_108, x_D_between_111, s0, hlt, ct, bI_0, bI_t, bI_f, e10, isA30, isA31, isA33, isA40, isA42, isA43, rOkB0, rOkB1, rOkB, Ret_v, Ret_n, cmp_eq, cmp_lt, cmp_gt, nI_1, eq_self, if_true, if_false, reduceIte]
    exact hQ I fr_rfl
  | succ k ih =>
    intro i I l9 hi hKD hA hT hQ
    have hlt : ¬ nI (wlF 8 n) < nI i := nI_nlt (by omega) (by omega)
    have hl9 : nI i < 9 := by rw [show (9 : Int32) = nI 9 by decide]; exact nI_lt (by omega) (by omega)
    rw [x_D_between_39]
    simp only [x_D_between_0, x_D_between_1, x_D_between_2, x_D_between_5, x_D_between_8, x_D_between_10, x_D_between_11, x_D_between_12, x_D_between_15, x_D_between_18, x_D_between_20, x_D_between_21, x_D_between_23, x_D_between_25, x_D_between_28, x_D_between_29, x_D_between_31, x_D_between_33, x_D_between_36, x_D_between_37, x_D_between_41, x_D_between_43, x_D_between_46, x_D_between_48, x_D_between_50, x_D_between_53, x_D_between_54, x_D_between_58, x_D_between_60, x_D_between_63, x_D_between_65, x_D_between_67, x_D_between_70, x_D_between_71, x_D_between_74, x_D_between_76, x_D_between_78, x_D_between_79, x_D_between_81, x_D_between_82, x_D_between_83, x_D_between_85, x_D_between_87, x_D_between_90, x_D_between_91, x_D_between_94, x_D_between_97, x_D_between_100, x_D_between_103, x_D_between_104, x_D_between_106, x_D_between_108, x_D_between_111, hlt, hl9, bI_0, bI_t, bI_f, e10, isA30, isA31, isA33, isA40, isA42, isA43, rOkB0, rOkB1, rOkB, Ret_v, Ret_n, cmp_eq, cmp_lt, cmp_gt, nI_1, eq_self, if_true, if_false, reduceIte]
    rw [← nI_0]
    refine l_D_inner hS' hK hkd wn wm (show i ≤ wlF 8 n by omega) (wlF 8 m + 1) 0 I (by omega) hKD hA hT (fun I' hf hT' => ?_)
    exact ih (i + 1) I' _ (by omega) (KbD_fr hKD hf (by omega)) (DsA_fr hA hf (by omega)) hT' (fun I2 hf2 => hQ I2 (fr_trans (lo := d + 5) (hi := d + 5) hf hf2 (by omega) (by omega)))
/-- the distance of two words -/
def dst (a : Bk) (dr : Int32) (n m : Nat) : Int32 := dp (gC a dr n) (cC a dr m) n m (wlF 8 n) (wlF 8 m)
theorem c_D_between (hS : DsS R S d kb B) (hK : KbS R S kb) (hkd : kb + 3 < d ∨ d + 5 < kb) (hB : BkS R S B) (hBd : B + 26 < d ∨ d + 5 < B) (hKD : KbD I kb) (hD : BkD I J B a) (wn : wOk 8 n = true) (wm : wOk 8 m = true) (hn : n < 2 ^ 40) (hm : m < 2 ^ 40) (hQ : ∀ I', fr d (d + 5) I J I' J → Q 0 (some (.int (dst a dr n m))) I' J R S) : Wp 135 0 [.ref d, .long (lW n), nov, .long (lW m), nov, .int dr, nov, nov, nov, nov] [] I J R S Q := by
  have hS' := hS
  obtain ⟨s0, s1, s2, s3, s4, s5, n1, n2, n3, n4, n5, r0, r1, r2, r3, r4, r5, r6⟩ := hS
  simp only [x_D_between_0, x_D_between_1, x_D_between_2, x_D_between_5, s0, r2]
  refine c_D_spell s1 n1 hn wn (fun I1 f1 d1 => ?_)
  simp only [x_D_between_8, x_D_between_10, x_D_between_11, x_D_between_12, x_D_between_15, s0, r3, Ret_v]
  refine c_D_spell s2 n2 hm wm (fun I2 f2 d2 => ?_)
  have F2 := fr_trans (lo := d) (hi := d + 5) f1 f2 (by omega) (by omega)
  have D2 := BkD_fr hD F2 (by omega)
  have d1' : ∀ j, j < wlF 8 n → I2 (d + 1) j = nI (lv n j) := fun j hj => by rw [(f2 _ (by omega)).1]; exact d1 j hj
  simp only [x_D_between_18, x_D_between_20, x_D_between_21, x_D_between_23, x_D_between_25, s0, Ret_v]
  refine c_D_priceGoing hS' hB hBd wn D2 d1' (fun I3 f3 d3 => ?_)
  have F3 := fr_trans (lo := d) (hi := d + 5) F2 f3 (by omega) (by omega)
  have D3 := BkD_fr hD F3 (by omega)
  have d2' : ∀ j, j < wlF 8 m → I3 (d + 2) j = nI (lv m j) := fun j hj => by rw [(f3 _ (by omega)).1]; exact d2 j hj
  simp only [x_D_between_28, x_D_between_29, x_D_between_31, x_D_between_33, s0, Ret_n]
  refine c_D_priceComing hS' hB hBd wm D3 d2' (fun I4 f4 d4 => ?_)
  have F4 := fr_trans (lo := d) (hi := d + 5) F3 f4 (by omega) (by omega)
  simp only [x_D_between_36, x_D_between_37, Ret_n]
  rw [← nI_0]
  refine l_D_outer hS' hK hkd wn wm (g := gC a dr n) (c := cC a dr m) (wlF 8 n + 1) 0 I4 nov (by omega) (KbD_fr hKD F4 (by omega)) ⟨fun j hj => ?_, fun j hj => ?_, fun j hj => ?_, d4⟩ (fun i' j' _ _ h => absurd h (by omega)) (fun I5 f5 => hQ I5 (fr_trans (lo := d) (hi := d + 5) F4 f5 (by omega) (by omega)))
  · rw [(f4 _ (by omega)).1, (f3 _ (by omega)).1]; exact d1' j hj
  · rw [(f4 _ (by omega)).1]; exact d2' j hj
  · rw [(f4 _ (by omega)).1]; exact d3 j hj
end DB

