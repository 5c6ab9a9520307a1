/-! runCommands -/
section KJ
variable {I I' : MI} {J J' : MJ} {R R' : MR} {S : Sh} {Q : SkQ} {T n l c : Nat} {a : Bk} {s : Nat → Bk} {x : Nat → Int32} {w u : Int64} {i j : Int32}
theorem KOk_sc (h : KOk I J R S T a n s x l) (hI : scI 185 I I') (hJ : scJ 185 J J') (hR : scR 185 R R') : KOk I' J' R' S T a n s x l := by
  obtain ⟨h1, ⟨e1, e2, e3, e4, e5, e6, e7, e8⟩, ⟨π, p1, p2⟩, h4, h5, h6, h7, h8⟩ := h
  have f : fr 185 185 I J I' J' := fun p hp => ⟨hI.1 p (by omega), hJ p (by omega)⟩
  have rr : ∀ q, ¬ q = 185 → R' q = R q := fun q hq => by funext k; exact hR q k (by omega)
  refine ⟨?_, ⟨?_, ?_, KbD_fr e3 f (by omega), BkS_R e4 (fun q h1 h2 => rr q (by omega)), BkD_fr e5 f (by omega), e6, e7, e8⟩, ⟨π, ?_, HsD_fr p1 p2 f (by omega)⟩, ?_, ScD_I h5 hI, CmS_lo h6 (fun q hq => (f q (by omega)).1) (fun q hq => rr q (by omega)), CnS_lo h7 (fun q hq => (f q (by omega)).1), h8⟩
  · unfold KxS at h1 ⊢
    rw [rr 35 (by omega)]
    exact h1
  · unfold SpS DsS at e1 ⊢
    rw [rr 67 (by omega), rr (67 + 2) (by omega)]
    exact e1
  · unfold KbS at e2 ⊢
    rw [rr 36 (by omega)]
    exact e2
  · obtain ⟨q1, q2, q3, q4, q5, q6, q7⟩ := p1
    exact ⟨q1, q2, q3, by rw [rr 75 (by omega)]; exact q4, fun i hi => by rw [rr (75 + 1) (by omega)]; exact q5 i hi, fun i hi => ⟨BkS_R (q6 i hi).1 (fun q h1 h2 => rr q (by have := q6 i hi; omega)), (q6 i hi).2⟩, q7⟩
  · exact ⟨h4.1, h4.2.1, h4.2.2.1, by rw [hR 185 0 (by omega)]; exact h4.2.2.2⟩
theorem kF_sc (hI : scI 185 I I') (hJ : scJ 185 J J') (hR : scR 185 R R') : kF 35 186 I J R I' J' R' := ⟨fun p hp => ⟨hI.1 p (by omega), hJ p (by omega)⟩, fun p hp => by funext k; exact hR p k (by omega)⟩
theorem l_K_run {l1 : Int32} : ∀ (k i p T : Nat) (a : Bk) (I : MI) (J : MJ) (R : MR), i + k = 150 → p ≤ 151 → T + k < 2147483647 → KOk I J R S T a n s x l → I 185 2 = nI p → I 185 3 = -1 → fot x l k p = -1 → (∀ I' J' R', kF 35 186 I J R I' J' R' → KOk I' J' R' S (T + k) (runF x l k i p a).2 n s x l → Q 0 (some (.int (nI (runF x l k i p a).1))) I' J' R' S) → Wp 49 38 [.ref 35, .int l1, .int (nI i)] [] I J R S Q := by
  intro k
  induction k with
  | zero =>
    intro i p T a I J R hi hp hT h h2 h3 hf hQ
    have e : ¬ nI i < 150 := by rw [show (150 : Int32) = nI 150 by decide]; exact nI_nlt (by omega) (by omega)
    rw [x_K_runCommands_38]
    simp only [x_K_runCommands_0, x_K_runCommands_1, x_K_runCommands_4, x_K_runCommands_7, x_K_runCommands_8, x_K_runCommands_9, x_K_runCommands_10, x_K_runCommands_13, x_K_runCommands_15, x_K_runCommands_16, x_K_runCommands_17, x_K_runCommands_18, x_K_runCommands_19, x_K_runCommands_22, x_K_runCommands_23, x_K_runCommands_26, x_K_runCommands_29, x_K_runCommands_30, x_K_runCommands_33, x_K_runCommands_36, x_K_runCommands_37, x_K_runCommands_39, x_K_runCommands_42, x_K_runCommands_45, x_K_runCommands_46, x_K_runCommands_49, x_K_runCommands_52, x_K_runCommands_55, x_K_runCommands_56, x_K_runCommands_59, x_K_runCommands_62, x_K_runCommands_63, x_K_runCommands_64, x_K_runCommands_67, x_K_runCommands_70, x_K_runCommands_73, e, bI_0, bI_t, bI_f, e10, isA30, isA31, isA33, isA40, isA42, isA43, rOkB0, rOkB1, rOkB, Ret_v, Ret_n, cmp_eq, cmp_lt, cmp_gt, nI_1, eq_self, if_true, if_false, reduceIte]
    have : i = 150 := by omega
    subst this
    exact hQ I J R kF_rfl h
  | succ k ih =>
    intro i p T a I J R hi hp hT h h2 h3 hf hQ
    have e : nI i < 150 := by rw [show (150 : Int32) = nI 150 by decide]; exact nI_lt (by omega) (by omega)
    obtain ⟨k0, r0, r1, r2, r3, r4⟩ := h.1
    have hS := h.2.2.2.1
    have hs := hS.1
    have hD := h.2.2.2.2.1
    have hC := h.2.2.2.2.2.1
    have dn := hD.2.1
    rw [fot_s] at hf
    simp only [runF] at hQ
    rw [x_K_runCommands_38]
    by_cases q : skp x l 150 p < l
    · rw [if_neg (by omega)] at hQ hf
      by_cases q2 : qK x l p < 8
      · rw [if_neg (by omega)] at hf
        by_cases q3 : qF x l p = -1
        · rw [if_pos q3] at hf
          obtain ⟨w1, w2, b1, b2, b3⟩ := qF_w dn q q3
          simp only [x_K_runCommands_0, x_K_runCommands_1, x_K_runCommands_4, x_K_runCommands_7, x_K_runCommands_8, x_K_runCommands_9, x_K_runCommands_10, x_K_runCommands_13, x_K_runCommands_15, x_K_runCommands_16, x_K_runCommands_17, x_K_runCommands_18, x_K_runCommands_19, x_K_runCommands_22, x_K_runCommands_23, x_K_runCommands_26, x_K_runCommands_29, x_K_runCommands_30, x_K_runCommands_33, x_K_runCommands_36, x_K_runCommands_37, x_K_runCommands_39, x_K_runCommands_42, x_K_runCommands_45, x_K_runCommands_46, x_K_runCommands_49, x_K_runCommands_52, x_K_runCommands_55, x_K_runCommands_56, x_K_runCommands_59, x_K_runCommands_62, x_K_runCommands_63, x_K_runCommands_64, x_K_runCommands_67, x_K_runCommands_70, x_K_runCommands_73, k0, r4, hs, e, bI_0, bI_t, bI_f, e10, isA30, isA31, isA33, isA40, isA42, isA43, rOkB0, rOkB1, rOkB, Ret_v, Ret_n, cmp_eq, cmp_lt, cmp_gt, nI_1, eq_self, if_true, if_false, reduceIte]
          refine c_C_readCommand2 hS (by omega) (by omega) hD hC h2 h3 q rfl q2 rfl (fun I1 s1 d1 => ?_)
          have q3' := decide_eq_true q3
          unfold qF q3P q2P q1P qK at q3'
          rw [q3']
          have sJ : scJ 185 J (u2 (u2 J 185 5 (qW1 x l p)) 185 6 (qW2 x l p)) := fun q hq => by rw [u2_p hq, u2_p hq]
          have sR : scR 185 R (u2 R 185 4 (.ref (4 + qK x l p))) := fun q k h => u2_of h
          have h1 := KOk_sc h s1 sJ sR
          have g1 := kF_sc s1 sJ sR
          simp only [x_K_runCommands_0, x_K_runCommands_1, x_K_runCommands_4, x_K_runCommands_7, x_K_runCommands_8, x_K_runCommands_9, x_K_runCommands_10, x_K_runCommands_13, x_K_runCommands_15, x_K_runCommands_16, x_K_runCommands_17, x_K_runCommands_18, x_K_runCommands_19, x_K_runCommands_22, x_K_runCommands_23, x_K_runCommands_26, x_K_runCommands_29, x_K_runCommands_30, x_K_runCommands_33, x_K_runCommands_36, x_K_runCommands_37, x_K_runCommands_39, x_K_runCommands_42, x_K_runCommands_45, x_K_runCommands_46, x_K_runCommands_49, x_K_runCommands_52, x_K_runCommands_55, x_K_runCommands_56, x_K_runCommands_59, x_K_runCommands_62, x_K_runCommands_63, x_K_runCommands_64, x_K_runCommands_67, x_K_runCommands_70, x_K_runCommands_73, k0, bI_0, bI_t, bI_f, e10, isA30, isA31, isA33, isA40, isA42, isA43, rOkB0, rOkB1, rOkB, Ret_v, Ret_n, cmp_eq, cmp_lt, cmp_gt, nI_1, eq_self, if_true, if_false, reduceIte]
          have be := enP_le b3 dn q3
          have n3 : I1 185 3 = -1 := d1.2.2.2.trans q3
          have n2 : I1 185 2 = nI (qE x l p) := d1.2.2.1
          refine c_K_carryOut (w := qW1 x l p) (u := qW2 x l p) (i := qN1 x l p) (j := qN2 x l p) h1 (by omega) q2 u2_eq (fun z => ?_) (fun z => ?_) ?_ u2_eq d1.1 d1.2.1 (fun ha => ?_) (fun a' ha I2 J2 f2 h2 => ?_)
          · unfold qW1 gJ
            rw [if_pos (decide_eq_true z)]
            exact w1 z
          · unfold qW2 gJ
            rw [if_pos (decide_eq_true z)]
            exact w2 z
          · exact (u2_k (by omega)).trans u2_eq
          · rw [ha] at hQ
            simp only [x_K_runCommands_0, x_K_runCommands_1, x_K_runCommands_4, x_K_runCommands_7, x_K_runCommands_8, x_K_runCommands_9, x_K_runCommands_10, x_K_runCommands_13, x_K_runCommands_15, x_K_runCommands_16, x_K_runCommands_17, x_K_runCommands_18, x_K_runCommands_19, x_K_runCommands_22, x_K_runCommands_23, x_K_runCommands_26, x_K_runCommands_29, x_K_runCommands_30, x_K_runCommands_33, x_K_runCommands_36, x_K_runCommands_37, x_K_runCommands_39, x_K_runCommands_42, x_K_runCommands_45, x_K_runCommands_46, x_K_runCommands_49, x_K_runCommands_52, x_K_runCommands_55, x_K_runCommands_56, x_K_runCommands_59, x_K_runCommands_62, x_K_runCommands_63, x_K_runCommands_64, x_K_runCommands_67, x_K_runCommands_70, x_K_runCommands_73, bI_0, bI_t, bI_f, e10, isA30, isA31, isA33, isA40, isA42, isA43, rOkB0, rOkB1, rOkB, Ret_v, Ret_n, cmp_eq, cmp_lt, cmp_gt, nI_1, eq_self, if_true, if_false, reduceIte]
            exact hQ _ _ _ g1 (KOk_T h1 (by omega))
          · rw [ha] at hQ
            simp only [x_K_runCommands_0, x_K_runCommands_1, x_K_runCommands_4, x_K_runCommands_7, x_K_runCommands_8, x_K_runCommands_9, x_K_runCommands_10, x_K_runCommands_13, x_K_runCommands_15, x_K_runCommands_16, x_K_runCommands_17, x_K_runCommands_18, x_K_runCommands_19, x_K_runCommands_22, x_K_runCommands_23, x_K_runCommands_26, x_K_runCommands_29, x_K_runCommands_30, x_K_runCommands_33, x_K_runCommands_36, x_K_runCommands_37, x_K_runCommands_39, x_K_runCommands_42, x_K_runCommands_45, x_K_runCommands_46, x_K_runCommands_49, x_K_runCommands_52, x_K_runCommands_55, x_K_runCommands_56, x_K_runCommands_59, x_K_runCommands_62, x_K_runCommands_63, x_K_runCommands_64, x_K_runCommands_67, x_K_runCommands_70, x_K_runCommands_73, nI_1', bI_0, bI_t, bI_f, e10, isA30, isA31, isA33, isA40, isA42, isA43, rOkB0, rOkB1, rOkB, Ret_v, Ret_n, cmp_eq, cmp_lt, cmp_gt, nI_1, eq_self, if_true, if_false, reduceIte]
            refine ih (i + 1) (qE x l p) (T + 1) a' I2 J2 _ (by omega) be (by omega) h2 ?_ ?_ hf (fun I3 J3 R3 f3 h3 => ?_)
            · rw [(f2 185 (by omega)).1]; exact n2
            · rw [(f2 185 (by omega)).1]; exact n3
            · rw [show T + 1 + k = T + (k + 1) by omega] at h3
              exact hQ I3 J3 R3 (kF_trans (kF_trans g1 (kF_of f2 (by omega))) f3) h3
        · rw [if_neg q3] at hf
          exact absurd hf q3
      · rw [if_pos q2] at hf
        exact absurd hf (nI_m1 (by omega))
    · rw [if_pos q] at hQ hf
      have r0' := fun Q' => c_C_readCommand0 (Q := Q') (J := J) hS (by omega) hD h2 h3 q
      simp only [x_K_runCommands_0, x_K_runCommands_1, x_K_runCommands_4, x_K_runCommands_7, x_K_runCommands_8, x_K_runCommands_9, x_K_runCommands_10, x_K_runCommands_13, x_K_runCommands_15, x_K_runCommands_16, x_K_runCommands_17, x_K_runCommands_18, x_K_runCommands_19, x_K_runCommands_22, x_K_runCommands_23, x_K_runCommands_26, x_K_runCommands_29, x_K_runCommands_30, x_K_runCommands_33, x_K_runCommands_36, x_K_runCommands_37, x_K_runCommands_39, x_K_runCommands_42, x_K_runCommands_45, x_K_runCommands_46, x_K_runCommands_49, x_K_runCommands_52, x_K_runCommands_55, x_K_runCommands_56, x_K_runCommands_59, x_K_runCommands_62, x_K_runCommands_63, x_K_runCommands_64, x_K_runCommands_67, x_K_runCommands_70, x_K_runCommands_73, k0, r4, hs, e, r0', bI_0, bI_t, bI_f, e10, isA30, isA31, isA33, isA40, isA42, isA43, rOkB0, rOkB1, rOkB, Ret_v, Ret_n, cmp_eq, cmp_lt, cmp_gt, nI_1, eq_self, if_true, if_false, reduceIte]
      have s1 : scI 185 I (scPF I 185 (skp x l 150 p) (-1)) := scI_PF scI_rfl
      exact hQ _ _ _ (kF_sc s1 (fun _ _ => by simp) (fun _ _ _ => by simp)) (KOk_T (KOk_sc h s1 (fun _ _ => by simp) (fun _ _ _ => by simp)) (by omega))
def rcA (x : Nat → Int32) (l : Nat) (a : Bk) : Bk := (runF x l 150 0 0 a).2
theorem c_K_runCommands (h : KOk I J R S T a n s x l) (hT : T + 150 < 2147483647) (hQ1 : ¬ fot x l 150 0 = -1 → ∀ I' J' R', kF 35 186 I J R I' J' R' → KOk I' J' R' S T a n s x l → Q 0 (some (.int (-10 - fot x l 150 0))) I' J' R' S) (hQ : fot x l 150 0 = -1 → ∀ I' J' R', kF 35 186 I J R I' J' R' → KOk I' J' R' S (T + 150) (rcA x l a) (svN n) (svS s n a) x l → Q 0 (some (.int (nI (runF x l 150 0 0 a).1))) I' J' R' S) : Wp 49 0 [.ref 35, nov, nov] [] I J R S Q := by
  obtain ⟨k0, r0, r1, r2, r3, r4⟩ := h.1
  have hS := h.2.2.2.1
  have hs := hS.1
  simp only [x_K_runCommands_0, x_K_runCommands_1, x_K_runCommands_4, x_K_runCommands_7, x_K_runCommands_8, x_K_runCommands_9, x_K_runCommands_10, x_K_runCommands_13, x_K_runCommands_15, x_K_runCommands_16, x_K_runCommands_17, x_K_runCommands_18, x_K_runCommands_19, x_K_runCommands_22, x_K_runCommands_23, x_K_runCommands_26, x_K_runCommands_29, x_K_runCommands_30, x_K_runCommands_33, x_K_runCommands_36, x_K_runCommands_37, x_K_runCommands_39, x_K_runCommands_42, x_K_runCommands_45, x_K_runCommands_46, x_K_runCommands_49, x_K_runCommands_52, x_K_runCommands_55, x_K_runCommands_56, x_K_runCommands_59, x_K_runCommands_62, x_K_runCommands_63, x_K_runCommands_64, x_K_runCommands_67, x_K_runCommands_70, x_K_runCommands_73, k0, r4, hs, bI_0, bI_t, bI_f, e10, isA30, isA31, isA33, isA40, isA42, isA43, rOkB0, rOkB1, rOkB, Ret_v, Ret_n, cmp_eq, cmp_lt, cmp_gt, nI_1, eq_self, if_true, if_false, reduceIte]
  refine c_C_faultOfText (by omega) hS h.2.2.2.2.1 h.2.2.2.2.2.1 (fun I1 J1 R1 s1 j1 t1 => ?_)
  have g1 := kF_sc s1 j1 t1
  have h1 := KOk_sc h s1 j1 t1
  by_cases q : fot x l 150 0 = -1
  · obtain ⟨k0, r0, r1, r2, r3, r4⟩ := h1.1
    have hb := h1.2.1.2.2.2.1
    obtain ⟨π, p1, p2⟩ := h1.2.2.1
    simp only [x_K_runCommands_0, x_K_runCommands_1, x_K_runCommands_4, x_K_runCommands_7, x_K_runCommands_8, x_K_runCommands_9, x_K_runCommands_10, x_K_runCommands_13, x_K_runCommands_15, x_K_runCommands_16, x_K_runCommands_17, x_K_runCommands_18, x_K_runCommands_19, x_K_runCommands_22, x_K_runCommands_23, x_K_runCommands_26, x_K_runCommands_29, x_K_runCommands_30, x_K_runCommands_33, x_K_runCommands_36, x_K_runCommands_37, x_K_runCommands_39, x_K_runCommands_42, x_K_runCommands_45, x_K_runCommands_46, x_K_runCommands_49, x_K_runCommands_52, x_K_runCommands_55, x_K_runCommands_56, x_K_runCommands_59, x_K_runCommands_62, x_K_runCommands_63, x_K_runCommands_64, x_K_runCommands_67, x_K_runCommands_70, x_K_runCommands_73, q, k0, r1, r3, hb.1, p1.1, bI_0, bI_t, bI_f, e10, isA30, isA31, isA33, isA40, isA42, isA43, rOkB0, rOkB1, rOkB, Ret_v, Ret_n, cmp_eq, cmp_lt, cmp_gt, nI_1, eq_self, if_true, if_false, reduceIte]
    refine k_save h1 (fun I2 J2 R2 f2 h2 => ?_)
    obtain ⟨k0, r0, r1, r2, r3, r4⟩ := h2.1
    have hS := h2.2.2.2.1
    have hs := hS.1
    have rw' := fun Q' => c_C_rewind (Q := Q') (I := I2) (J := J2) hS
    simp only [x_K_runCommands_0, x_K_runCommands_1, x_K_runCommands_4, x_K_runCommands_7, x_K_runCommands_8, x_K_runCommands_9, x_K_runCommands_10, x_K_runCommands_13, x_K_runCommands_15, x_K_runCommands_16, x_K_runCommands_17, x_K_runCommands_18, x_K_runCommands_19, x_K_runCommands_22, x_K_runCommands_23, x_K_runCommands_26, x_K_runCommands_29, x_K_runCommands_30, x_K_runCommands_33, x_K_runCommands_36, x_K_runCommands_37, x_K_runCommands_39, x_K_runCommands_42, x_K_runCommands_45, x_K_runCommands_46, x_K_runCommands_49, x_K_runCommands_52, x_K_runCommands_55, x_K_runCommands_56, x_K_runCommands_59, x_K_runCommands_62, x_K_runCommands_63, x_K_runCommands_64, x_K_runCommands_67, x_K_runCommands_70, x_K_runCommands_73, k0, r4, hs, rw', bI_0, bI_t, bI_f, e10, isA30, isA31, isA33, isA40, isA42, isA43, rOkB0, rOkB1, rOkB, Ret_v, Ret_n, cmp_eq, cmp_lt, cmp_gt, nI_1, eq_self, if_true, if_false, reduceIte]
    have s3 : scI 185 I2 (u2 (u2 I2 185 2 0) 185 3 (-1)) := scI_u (scI_u scI_rfl (by omega)) (by omega)
    have h3 := KOk_sc h2 s3 (fun _ _ => by simp) (fun _ _ _ => by simp) (J' := J2) (R' := R2)
    rw [← nI_0]
    refine l_K_run 150 0 0 T a _ J2 R2 (by omega) (by omega) hT h3 ?_ u2_eq q (fun I4 J4 R4 f4 h4 => ?_)
    · rw [u2_k (by omega), u2_eq]
    · exact hQ q I4 J4 R4 (kF_trans (kF_trans (kF_trans g1 f2) (kF_sc s3 (fun _ _ => by simp) (fun _ _ _ => by simp))) f4) h4
  · simp only [x_K_runCommands_0, x_K_runCommands_1, x_K_runCommands_4, x_K_runCommands_7, x_K_runCommands_8, x_K_runCommands_9, x_K_runCommands_10, x_K_runCommands_13, x_K_runCommands_15, x_K_runCommands_16, x_K_runCommands_17, x_K_runCommands_18, x_K_runCommands_19, x_K_runCommands_22, x_K_runCommands_23, x_K_runCommands_26, x_K_runCommands_29, x_K_runCommands_30, x_K_runCommands_33, x_K_runCommands_36, x_K_runCommands_37, x_K_runCommands_39, x_K_runCommands_42, x_K_runCommands_45, x_K_runCommands_46, x_K_runCommands_49, x_K_runCommands_52, x_K_runCommands_55, x_K_runCommands_56, x_K_runCommands_59, x_K_runCommands_62, x_K_runCommands_63, x_K_runCommands_64, x_K_runCommands_67, x_K_runCommands_70, x_K_runCommands_73, q, bI_0, bI_t, bI_f, e10, isA30, isA31, isA33, isA40, isA42, isA43, rOkB0, rOkB1, rOkB, Ret_v, Ret_n, cmp_eq, cmp_lt, cmp_gt, nI_1, eq_self, if_true, if_false, reduceIte]
    exact hQ1 q _ _ _ g1 h1
end KJ
