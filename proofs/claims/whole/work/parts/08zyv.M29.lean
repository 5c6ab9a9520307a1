/-! the model: runCommands -/
section NC
variable {I I' : MI} {J J' : MJ} {R : MR} {S : Sh} {Q : SkQ} {n l p q c T : Nat} {x : Nat → Int32} {a a' : Bk} {s : Nat → Bk} {qt : Int32}
theorem StD_E (h : StD I J x l c) (m : mE I J I' J') : StD I' J' x l c := fun i hi => by
  obtain ⟨m1, m2, m3, m4⟩ := m
  rw [m1, m2, m3]
  exact h i hi
theorem MOk_q (h : MOk I J R S a n s x l qt) {v : Int32} : MOk (u2 I 187 3 v) J R S a n s x l v := by
  obtain ⟨h1, h2, h3, h4, h5, h6, h7, h8, h9, h10⟩ := h
  exact ⟨h1, h2, h3, h4, by rw [u2_k (by omega)]; exact h5, u2_eq, by rw [u2_k (by omega)]; exact h7, h8, by rw [u2_p (by omega)]; exact h9, by rw [u2_p (by omega)]; exact h10⟩
theorem kM_3 {v : Int32} : kM I J R (u2 I 187 3 v) J R := ⟨⟨fr_I fr_rfl (by omega), fun _ _ => by simp⟩, mE_f (by omega)⟩
theorem aCar_I {c' : Nat} {w u : Int64} {i j : Int32} (h : BkI T a) (hT : T < 2147483647) (hw : 0 < cmW c' → isW w = true) (hc : c' < 8) (e : aCar c' w u i j a = some a') : BkI (T + 1) a' := by
  rcases (show c' = 0 ∨ c' = 1 ∨ c' = 2 ∨ c' = 3 ∨ c' = 4 ∨ c' = 5 ∨ c' = 6 ∨ c' = 7 by omega) with z | z | z | z | z | z | z | z <;> subst z
  · have e : (if okCnt i = true ∧ roomW a w = true then some (aPutW a w i) else none) = some a' := e
    by_cases q : okCnt i = true ∧ roomW a w = true
    · rw [if_pos q] at e
      cases e
      exact BkI_mono (iPutW h (hw (by decide)) q.2 (okCnt_in q.1)) (by omega)
    · rw [if_neg q] at e; cases e
  · cases e
    exact BkI_mono (iDelW h) (by omega)
  · have e : (if roomN a w = true then some (aPutN a w) else none) = some a' := e
    by_cases q : roomN a w = true
    · rw [if_pos q] at e
      cases e
      exact BkI_mono (iPutN h (hw (by decide)) q) (by omega)
    · rw [if_neg q] at e; cases e
  · cases e
    exact iTk h (hw (by decide)) hT
  · have e : (if canB a = true then some (aBack a) else none) = some a' := e
    by_cases q : canB a = true
    · rw [if_pos q] at e
      cases e
      exact iBack h q hT
    · rw [if_neg q] at e; cases e
  · cases e
    exact BkI_mono (iDelB h) (by omega)
  · have e : (if okStk i = true then some (aStk a (lv w.toInt.toNat 0) i) else none) = some a' := e
    by_cases q : okStk i = true
    · rw [if_pos q] at e
      cases e
      exact BkI_mono (iStk h (okStk_in q)) (by omega)
    · rw [if_neg q] at e; cases e
  · have e : (if okSet i j = true then some (aSet a (ix i) j) else none) = some a' := e
    by_cases q : okSet i j = true
    · rw [if_pos q] at e
      cases e
      obtain ⟨m, hi3, em, g0, g1, g2⟩ := okSet_n q
      have ei : ix i = m := by rw [em, ix_nI (by omega)]
      rw [ei]
      exact BkI_mono (iSet h g0 g1 g2) (by omega)
    · rw [if_neg q] at e; cases e
theorem l_M_exec (hqt : ¬ qt = 0) (hc : c < 40) : ∀ (f k T : Nat) (a : Bk) (I : MI) (J : MJ), c = k + nCm x l f (psN x l k) → T + f < 2147483647 → fot x l f (psN x l k) = -1 → BkI T a → MOk I J R S a n s x l qt → I 187 4 = 0 → I 187 16 = nI c → StD I J x l c → (∀ I' J', kM I J R I' J' R → MOk I' J' R S (runF x l f k (psN x l k) a).2 n s x l qt → Wp 247 74 [.ref 187, .int (nI (runF x l f k (psN x l k) a).1), .int (nI (runF x l f k (psN x l k) a).1)] [] I' J' R S Q) → (∀ I' J' k', kM I J R I' J' R → MOk I' J' R S (runF x l f k (psN x l k) a).2 n s x l qt → Wp 247 74 [.ref 187, .int (nI (runF x l f k (psN x l k) a).1), .int k'] [] I' J' R S Q) → Wp 247 33 [.ref 187, .int (nI k), .int (nI k)] [] I J R S Q := by
  intro f
  induction f with
  | zero =>
    intro k T a I J hk hT hf hI hM t0 h16 hs hQ hQ2
    simp only [nCm, Nat.add_zero] at hk
    have k0 := hM.1.1.1
    have nl : ¬ nI k < nI c := nI_nlt (by omega) (by omega)
    rw [x_M_runCommands_33]
    simp only [x_M_runCommands_0, x_M_runCommands_1, x_M_runCommands_2, x_M_runCommands_5, x_M_runCommands_6, x_M_runCommands_9, x_M_runCommands_12, x_M_runCommands_14, x_M_runCommands_15, x_M_runCommands_18, x_M_runCommands_19, x_M_runCommands_20, x_M_runCommands_21, x_M_runCommands_24, x_M_runCommands_25, x_M_runCommands_26, x_M_runCommands_29, x_M_runCommands_30, x_M_runCommands_31, x_M_runCommands_32, x_M_runCommands_34, x_M_runCommands_35, x_M_runCommands_38, x_M_runCommands_41, x_M_runCommands_42, x_M_runCommands_45, x_M_runCommands_48, x_M_runCommands_49, x_M_runCommands_50, x_M_runCommands_53, x_M_runCommands_54, x_M_runCommands_55, x_M_runCommands_58, x_M_runCommands_61, x_M_runCommands_62, x_M_runCommands_65, x_M_runCommands_66, x_M_runCommands_67, x_M_runCommands_68, x_M_runCommands_71, x_M_runCommands_75, x_M_runCommands_76, x_M_runCommands_79, x_M_runCommands_80, x_M_runCommands_81, x_M_runCommands_84, x_M_runCommands_85, k0, h16, nl, bI_0, bI_t, bI_f, e10, isA30, isA31, isA33, isA40, isA42, isA43, rOkB0, rOkB1, rOkB, Ret_v, Ret_n, cmp_eq, cmp_lt, cmp_gt, nI_1, eq_self, if_true, if_false, reduceIte]
    exact hQ I J kM_rfl hM
  | succ f ih =>
    intro k T a I J hk hT hf hI hM t0 h16 hs hQ hQ2
    have k0 := hM.1.1.1
    have hl := hM.2.2.2.2.2.2.2.1
    rw [fot_s] at hf
    simp only [nCm] at hk
    simp only [runF] at hQ hQ2
    by_cases q : skp x l 150 (psN x l k) < l
    · rw [if_neg (c := ¬ skp x l 150 (psN x l k) < l) (by omega)] at hf hk
      rw [if_neg (c := ¬ skp x l 150 (psN x l k) < l) (by omega)] at hQ hQ2
      have q8 : qK x l (psN x l k) < 8 := by
        apply Decidable.byContradiction
        intro h
        rw [if_pos h] at hf
        exact nI_m1 (by omega) hf
      rw [if_neg (c := ¬ qK x l (psN x l k) < 8) (by omega)] at hf
      have qf : qF x l (psN x l k) = -1 := by
        apply Decidable.byContradiction
        intro h
        rw [if_neg h] at hf
        exact h hf
      rw [if_pos qf] at hf
      have lt : nI k < nI c := nI_lt (by omega) (by omega)
      have ww := qW_w hl q qf
      rw [x_M_runCommands_33]
      simp only [x_M_runCommands_0, x_M_runCommands_1, x_M_runCommands_2, x_M_runCommands_5, x_M_runCommands_6, x_M_runCommands_9, x_M_runCommands_12, x_M_runCommands_14, x_M_runCommands_15, x_M_runCommands_18, x_M_runCommands_19, x_M_runCommands_20, x_M_runCommands_21, x_M_runCommands_24, x_M_runCommands_25, x_M_runCommands_26, x_M_runCommands_29, x_M_runCommands_30, x_M_runCommands_31, x_M_runCommands_32, x_M_runCommands_34, x_M_runCommands_35, x_M_runCommands_38, x_M_runCommands_41, x_M_runCommands_42, x_M_runCommands_45, x_M_runCommands_48, x_M_runCommands_49, x_M_runCommands_50, x_M_runCommands_53, x_M_runCommands_54, x_M_runCommands_55, x_M_runCommands_58, x_M_runCommands_61, x_M_runCommands_62, x_M_runCommands_65, x_M_runCommands_66, x_M_runCommands_67, x_M_runCommands_68, x_M_runCommands_71, x_M_runCommands_75, x_M_runCommands_76, x_M_runCommands_79, x_M_runCommands_80, x_M_runCommands_81, x_M_runCommands_84, x_M_runCommands_85, k0, h16, lt, t0, bI_0, bI_t, bI_f, e10, isA30, isA31, isA33, isA40, isA42, isA43, rOkB0, rOkB1, rOkB, Ret_v, Ret_n, cmp_eq, cmp_lt, cmp_gt, nI_1, eq_self, if_true, if_false, reduceIte]
      refine c_M_carriesOut hM hI (by omega) hqt hs (show k < c by omega) hc q q8 qf (fun e I1 J1 f1 m1 t1 => ?_) (fun a' e I1 J1 f1 m1 t1 => ?_)
      · rw [e] at hQ2
        have nl : nI (k + 1) < nI c ∨ ¬ nI (k + 1) < nI c := by
          by_cases z : nI (k + 1) < nI c
          · exact Or.inl z
          · exact Or.inr z
        have g16 : I1 187 16 = nI c := f1.2.2.2.2.trans h16
        have z33 : Wp 247 33 [.ref 187, .int (nI k), .int (nI (k + 1))] [] I1 J1 R S Q := by
          rw [x_M_runCommands_33]
          rcases nl with nl | nl
          · simp only [x_M_runCommands_0, x_M_runCommands_1, x_M_runCommands_2, x_M_runCommands_5, x_M_runCommands_6, x_M_runCommands_9, x_M_runCommands_12, x_M_runCommands_14, x_M_runCommands_15, x_M_runCommands_18, x_M_runCommands_19, x_M_runCommands_20, x_M_runCommands_21, x_M_runCommands_24, x_M_runCommands_25, x_M_runCommands_26, x_M_runCommands_29, x_M_runCommands_30, x_M_runCommands_31, x_M_runCommands_32, x_M_runCommands_34, x_M_runCommands_35, x_M_runCommands_38, x_M_runCommands_41, x_M_runCommands_42, x_M_runCommands_45, x_M_runCommands_48, x_M_runCommands_49, x_M_runCommands_50, x_M_runCommands_53, x_M_runCommands_54, x_M_runCommands_55, x_M_runCommands_58, x_M_runCommands_61, x_M_runCommands_62, x_M_runCommands_65, x_M_runCommands_66, x_M_runCommands_67, x_M_runCommands_68, x_M_runCommands_71, x_M_runCommands_75, x_M_runCommands_76, x_M_runCommands_79, x_M_runCommands_80, x_M_runCommands_81, x_M_runCommands_84, x_M_runCommands_85, k0, g16, nl, t1, bI_0, bI_t, bI_f, e10, isA30, isA31, isA33, isA40, isA42, isA43, rOkB0, rOkB1, rOkB, Ret_v, Ret_n, cmp_eq, cmp_lt, cmp_gt, nI_1, eq_self, if_true, if_false, reduceIte]
            exact hQ2 I1 J1 _ f1 m1
          · simp only [x_M_runCommands_0, x_M_runCommands_1, x_M_runCommands_2, x_M_runCommands_5, x_M_runCommands_6, x_M_runCommands_9, x_M_runCommands_12, x_M_runCommands_14, x_M_runCommands_15, x_M_runCommands_18, x_M_runCommands_19, x_M_runCommands_20, x_M_runCommands_21, x_M_runCommands_24, x_M_runCommands_25, x_M_runCommands_26, x_M_runCommands_29, x_M_runCommands_30, x_M_runCommands_31, x_M_runCommands_32, x_M_runCommands_34, x_M_runCommands_35, x_M_runCommands_38, x_M_runCommands_41, x_M_runCommands_42, x_M_runCommands_45, x_M_runCommands_48, x_M_runCommands_49, x_M_runCommands_50, x_M_runCommands_53, x_M_runCommands_54, x_M_runCommands_55, x_M_runCommands_58, x_M_runCommands_61, x_M_runCommands_62, x_M_runCommands_65, x_M_runCommands_66, x_M_runCommands_67, x_M_runCommands_68, x_M_runCommands_71, x_M_runCommands_75, x_M_runCommands_76, x_M_runCommands_79, x_M_runCommands_80, x_M_runCommands_81, x_M_runCommands_84, x_M_runCommands_85, k0, g16, nl, bI_0, bI_t, bI_f, e10, isA30, isA31, isA33, isA40, isA42, isA43, rOkB0, rOkB1, rOkB, Ret_v, Ret_n, cmp_eq, cmp_lt, cmp_gt, nI_1, eq_self, if_true, if_false, reduceIte]
            exact hQ2 I1 J1 _ f1 m1
        simp only [x_M_runCommands_0, x_M_runCommands_1, x_M_runCommands_2, x_M_runCommands_5, x_M_runCommands_6, x_M_runCommands_9, x_M_runCommands_12, x_M_runCommands_14, x_M_runCommands_15, x_M_runCommands_18, x_M_runCommands_19, x_M_runCommands_20, x_M_runCommands_21, x_M_runCommands_24, x_M_runCommands_25, x_M_runCommands_26, x_M_runCommands_29, x_M_runCommands_30, x_M_runCommands_31, x_M_runCommands_32, x_M_runCommands_34, x_M_runCommands_35, x_M_runCommands_38, x_M_runCommands_41, x_M_runCommands_42, x_M_runCommands_45, x_M_runCommands_48, x_M_runCommands_49, x_M_runCommands_50, x_M_runCommands_53, x_M_runCommands_54, x_M_runCommands_55, x_M_runCommands_58, x_M_runCommands_61, x_M_runCommands_62, x_M_runCommands_65, x_M_runCommands_66, x_M_runCommands_67, x_M_runCommands_68, x_M_runCommands_71, x_M_runCommands_75, x_M_runCommands_76, x_M_runCommands_79, x_M_runCommands_80, x_M_runCommands_81, x_M_runCommands_84, x_M_runCommands_85, k0, t1, Int32.add_zero, nI_1', bI_0, bI_t, bI_f, e10, isA30, isA31, isA33, isA40, isA42, isA43, rOkB0, rOkB1, rOkB, Ret_v, Ret_n, cmp_eq, cmp_lt, cmp_gt, nI_1, eq_self, if_true, if_false, reduceIte]
        exact z33
      · rw [e] at hQ hQ2
        have i1 := ih (k + 1) (T + 1) a' I1 J1 (by show c = k + 1 + nCm x l f (qE x l (psN x l k)); omega) (by omega) hf (aCar_I hI (by omega) ww.1 q8 e) m1 t1 (f1.2.2.2.2.trans h16) (StD_E hs f1.2)
          (fun I2 J2 f2 m2 => hQ I2 J2 (kM_trans f1 f2) m2) (fun I2 J2 k' f2 m2 => hQ2 I2 J2 k' (kM_trans f1 f2) m2)
        simp only [x_M_runCommands_0, x_M_runCommands_1, x_M_runCommands_2, x_M_runCommands_5, x_M_runCommands_6, x_M_runCommands_9, x_M_runCommands_12, x_M_runCommands_14, x_M_runCommands_15, x_M_runCommands_18, x_M_runCommands_19, x_M_runCommands_20, x_M_runCommands_21, x_M_runCommands_24, x_M_runCommands_25, x_M_runCommands_26, x_M_runCommands_29, x_M_runCommands_30, x_M_runCommands_31, x_M_runCommands_32, x_M_runCommands_34, x_M_runCommands_35, x_M_runCommands_38, x_M_runCommands_41, x_M_runCommands_42, x_M_runCommands_45, x_M_runCommands_48, x_M_runCommands_49, x_M_runCommands_50, x_M_runCommands_53, x_M_runCommands_54, x_M_runCommands_55, x_M_runCommands_58, x_M_runCommands_61, x_M_runCommands_62, x_M_runCommands_65, x_M_runCommands_66, x_M_runCommands_67, x_M_runCommands_68, x_M_runCommands_71, x_M_runCommands_75, x_M_runCommands_76, x_M_runCommands_79, x_M_runCommands_80, x_M_runCommands_81, x_M_runCommands_84, x_M_runCommands_85, k0, t1, nI_1', bI_0, bI_t, bI_f, e10, isA30, isA31, isA33, isA40, isA42, isA43, rOkB0, rOkB1, rOkB, Ret_v, Ret_n, cmp_eq, cmp_lt, cmp_gt, nI_1, eq_self, if_true, if_false, reduceIte]
        exact i1
    · rw [if_pos (c := ¬ skp x l 150 (psN x l k) < l) q] at hQ hk
      have nl : ¬ nI k < nI c := nI_nlt (by omega) (by omega)
      rw [x_M_runCommands_33]
      simp only [x_M_runCommands_0, x_M_runCommands_1, x_M_runCommands_2, x_M_runCommands_5, x_M_runCommands_6, x_M_runCommands_9, x_M_runCommands_12, x_M_runCommands_14, x_M_runCommands_15, x_M_runCommands_18, x_M_runCommands_19, x_M_runCommands_20, x_M_runCommands_21, x_M_runCommands_24, x_M_runCommands_25, x_M_runCommands_26, x_M_runCommands_29, x_M_runCommands_30, x_M_runCommands_31, x_M_runCommands_32, x_M_runCommands_34, x_M_runCommands_35, x_M_runCommands_38, x_M_runCommands_41, x_M_runCommands_42, x_M_runCommands_45, x_M_runCommands_48, x_M_runCommands_49, x_M_runCommands_50, x_M_runCommands_53, x_M_runCommands_54, x_M_runCommands_55, x_M_runCommands_58, x_M_runCommands_61, x_M_runCommands_62, x_M_runCommands_65, x_M_runCommands_66, x_M_runCommands_67, x_M_runCommands_68, x_M_runCommands_71, x_M_runCommands_75, x_M_runCommands_76, x_M_runCommands_79, x_M_runCommands_80, x_M_runCommands_81, x_M_runCommands_84, x_M_runCommands_85, k0, h16, nl, bI_0, bI_t, bI_f, e10, isA30, isA31, isA33, isA40, isA42, isA43, rOkB0, rOkB1, rOkB, Ret_v, Ret_n, cmp_eq, cmp_lt, cmp_gt, nI_1, eq_self, if_true, if_false, reduceIte]
      exact hQ I J kM_rfl hM
theorem c_M_runCommands (hM : MOk I J R S a n s x l 0) (hI : BkI T a) (hT : T + 150 < 2147483647) (hQ1 : ¬ fot x l 150 0 = -1 → ∀ I' J', kF 187 197 I J R I' J' R → MOk I' J' R S a n s x l 0 → I' 187 4 = 0 → Q 0 (some (.int (-10 - fot x l 150 0))) I' J' R S) (hQ : fot x l 150 0 = -1 → ∀ I' J', kF 187 197 I J R I' J' R → MOk I' J' R S (rcA x l a) (svN n) (svS s n a) x l 0 → I' 187 4 = 0 → Q 0 (some (.int (nI (runF x l 150 0 0 a).1))) I' J' R S) : Wp 247 0 [.ref 187, nov, nov] [] I J R S Q := by
  have k0 := hM.1.1.1
  have hF := BkF_of hI
  have s2 : mY I J (u2 I 187 4 0) J := mY_f (by omega)
  have M1 := MOk_Y hM s2
  have hT1 : TxD (u2 I 187 4 0) x l := ⟨M1.2.2.2.2.2.2.1, M1.2.2.2.2.2.2.2.1, M1.2.2.2.2.2.2.2.2.2⟩
  simp only [x_M_runCommands_0, x_M_runCommands_1, x_M_runCommands_2, x_M_runCommands_5, x_M_runCommands_6, x_M_runCommands_9, x_M_runCommands_12, x_M_runCommands_14, x_M_runCommands_15, x_M_runCommands_18, x_M_runCommands_19, x_M_runCommands_20, x_M_runCommands_21, x_M_runCommands_24, x_M_runCommands_25, x_M_runCommands_26, x_M_runCommands_29, x_M_runCommands_30, x_M_runCommands_31, x_M_runCommands_32, x_M_runCommands_34, x_M_runCommands_35, x_M_runCommands_38, x_M_runCommands_41, x_M_runCommands_42, x_M_runCommands_45, x_M_runCommands_48, x_M_runCommands_49, x_M_runCommands_50, x_M_runCommands_53, x_M_runCommands_54, x_M_runCommands_55, x_M_runCommands_58, x_M_runCommands_61, x_M_runCommands_62, x_M_runCommands_65, x_M_runCommands_66, x_M_runCommands_67, x_M_runCommands_68, x_M_runCommands_71, x_M_runCommands_75, x_M_runCommands_76, x_M_runCommands_79, x_M_runCommands_80, x_M_runCommands_81, x_M_runCommands_84, x_M_runCommands_85, k0, bI_0, bI_t, bI_f, e10, isA30, isA31, isA33, isA40, isA42, isA43, rOkB0, rOkB1, rOkB, Ret_v, Ret_n, cmp_eq, cmp_lt, cmp_gt, nI_1, eq_self, if_true, if_false, reduceIte]
  refine c_M_reads hM.1 hT1 (fun hn I1 J1 m1 t1 e1 => ?_) (fun hn I1 J1 m1 t1 e1 st lt => ?_)
  · simp only [x_M_runCommands_0, x_M_runCommands_1, x_M_runCommands_2, x_M_runCommands_5, x_M_runCommands_6, x_M_runCommands_9, x_M_runCommands_12, x_M_runCommands_14, x_M_runCommands_15, x_M_runCommands_18, x_M_runCommands_19, x_M_runCommands_20, x_M_runCommands_21, x_M_runCommands_24, x_M_runCommands_25, x_M_runCommands_26, x_M_runCommands_29, x_M_runCommands_30, x_M_runCommands_31, x_M_runCommands_32, x_M_runCommands_34, x_M_runCommands_35, x_M_runCommands_38, x_M_runCommands_41, x_M_runCommands_42, x_M_runCommands_45, x_M_runCommands_48, x_M_runCommands_49, x_M_runCommands_50, x_M_runCommands_53, x_M_runCommands_54, x_M_runCommands_55, x_M_runCommands_58, x_M_runCommands_61, x_M_runCommands_62, x_M_runCommands_65, x_M_runCommands_66, x_M_runCommands_67, x_M_runCommands_68, x_M_runCommands_71, x_M_runCommands_75, x_M_runCommands_76, x_M_runCommands_79, x_M_runCommands_80, x_M_runCommands_81, x_M_runCommands_84, x_M_runCommands_85, k0, e1, bI_0, bI_t, bI_f, e10, isA30, isA31, isA33, isA40, isA42, isA43, rOkB0, rOkB1, rOkB, Ret_v, Ret_n, cmp_eq, cmp_lt, cmp_gt, nI_1, eq_self, if_true, if_false, reduceIte]
    exact hQ1 hn I1 J1 (kF_Y (mY_trans s2 m1)) (MOk_Y M1 m1) (t1.trans u2_eq)
  · have M2 := MOk_Y M1 m1
    simp only [x_M_runCommands_0, x_M_runCommands_1, x_M_runCommands_2, x_M_runCommands_5, x_M_runCommands_6, x_M_runCommands_9, x_M_runCommands_12, x_M_runCommands_14, x_M_runCommands_15, x_M_runCommands_18, x_M_runCommands_19, x_M_runCommands_20, x_M_runCommands_21, x_M_runCommands_24, x_M_runCommands_25, x_M_runCommands_26, x_M_runCommands_29, x_M_runCommands_30, x_M_runCommands_31, x_M_runCommands_32, x_M_runCommands_34, x_M_runCommands_35, x_M_runCommands_38, x_M_runCommands_41, x_M_runCommands_42, x_M_runCommands_45, x_M_runCommands_48, x_M_runCommands_49, x_M_runCommands_50, x_M_runCommands_53, x_M_runCommands_54, x_M_runCommands_55, x_M_runCommands_58, x_M_runCommands_61, x_M_runCommands_62, x_M_runCommands_65, x_M_runCommands_66, x_M_runCommands_67, x_M_runCommands_68, x_M_runCommands_71, x_M_runCommands_75, x_M_runCommands_76, x_M_runCommands_79, x_M_runCommands_80, x_M_runCommands_81, x_M_runCommands_84, x_M_runCommands_85, k0, e10, bI_0, bI_t, bI_f, e10, isA30, isA31, isA33, isA40, isA42, isA43, rOkB0, rOkB1, rOkB, Ret_v, Ret_n, cmp_eq, cmp_lt, cmp_gt, nI_1, eq_self, if_true, if_false, reduceIte]
    refine c_M_save M2 hF (fun I2 J2 f2 j2 t2 M3 => ?_)
    have M4 : MOk (u2 I2 187 3 1) J2 R S a (qtN 0 n) (qtS 0 s n a) x l 1 := MOk_q M3
    have T4 : u2 I2 187 3 1 187 4 = 0 := by rw [u2_k (by omega)]; exact t2.trans (t1.trans u2_eq)
    have F4 : kF 187 197 I J R (u2 I2 187 3 1) J2 R := kF_trans (kF_Y (mY_trans s2 m1)) (kF_trans f2.1 kM_3.1)
    have E4 : mE I1 J1 (u2 I2 187 3 1) J2 := mE_trans f2.2 (mE_f (by omega))
    have g16 : u2 I2 187 3 1 187 16 = nI (nCm x l 150 0) := by rw [u2_k (by omega)]; exact f2.2.2.2.2.trans e1
    have fin : ∀ I' J' k', kM (u2 I2 187 3 1) J2 R I' J' R → MOk I' J' R S (runF x l 150 0 (psN x l 0) a).2 (qtN 0 n) (qtS 0 s n a) x l 1 → Wp 247 74 [.ref 187, .int (nI (runF x l 150 0 (psN x l 0) a).1), .int k'] [] I' J' R S Q := fun I' J' k' f' m' => by
      simp only [x_M_runCommands_0, x_M_runCommands_1, x_M_runCommands_2, x_M_runCommands_5, x_M_runCommands_6, x_M_runCommands_9, x_M_runCommands_12, x_M_runCommands_14, x_M_runCommands_15, x_M_runCommands_18, x_M_runCommands_19, x_M_runCommands_20, x_M_runCommands_21, x_M_runCommands_24, x_M_runCommands_25, x_M_runCommands_26, x_M_runCommands_29, x_M_runCommands_30, x_M_runCommands_31, x_M_runCommands_32, x_M_runCommands_34, x_M_runCommands_35, x_M_runCommands_38, x_M_runCommands_41, x_M_runCommands_42, x_M_runCommands_45, x_M_runCommands_48, x_M_runCommands_49, x_M_runCommands_50, x_M_runCommands_53, x_M_runCommands_54, x_M_runCommands_55, x_M_runCommands_58, x_M_runCommands_61, x_M_runCommands_62, x_M_runCommands_65, x_M_runCommands_66, x_M_runCommands_67, x_M_runCommands_68, x_M_runCommands_71, x_M_runCommands_74, x_M_runCommands_75, x_M_runCommands_76, x_M_runCommands_79, x_M_runCommands_80, x_M_runCommands_81, x_M_runCommands_84, x_M_runCommands_85, k0, true_or, bI_0, bI_t, bI_f, e10, isA30, isA31, isA33, isA40, isA42, isA43, rOkB0, rOkB1, rOkB, Ret_v, Ret_n, cmp_eq, cmp_lt, cmp_gt, nI_1, eq_self, if_true, if_false, reduceIte]
      have M5 : MOk (u2 I' 187 3 0) J' R S (runF x l 150 0 (psN x l 0) a).2 (qtN 0 n) (qtS 0 s n a) x l 0 := MOk_q m'
      exact hQ hn _ _ (kF_trans F4 (kF_trans f'.1 (kF_trans kM_3.1 (kF_Y (mY_f (by omega)))))) (MOk_Y M5 (mY_f (by omega))) u2_eq
    have ex := l_M_exec (Q := Q) (R := R) (S := S) (n := qtN 0 n) (s := qtS 0 s n a) (qt := 1) (by decide) lt 150 0 T a (u2 I2 187 3 1) J2 (by rw [Nat.zero_add]; rfl) hT hn hI M4 T4 g16 (StD_E st E4) (fun I' J' f' m' => fin I' J' _ f' m') fin
    rw [nI_0] at ex
    simp only [x_M_runCommands_0, x_M_runCommands_1, x_M_runCommands_2, x_M_runCommands_5, x_M_runCommands_6, x_M_runCommands_9, x_M_runCommands_12, x_M_runCommands_14, x_M_runCommands_15, x_M_runCommands_18, x_M_runCommands_19, x_M_runCommands_20, x_M_runCommands_21, x_M_runCommands_24, x_M_runCommands_25, x_M_runCommands_26, x_M_runCommands_29, x_M_runCommands_30, x_M_runCommands_31, x_M_runCommands_32, x_M_runCommands_34, x_M_runCommands_35, x_M_runCommands_38, x_M_runCommands_41, x_M_runCommands_42, x_M_runCommands_45, x_M_runCommands_48, x_M_runCommands_49, x_M_runCommands_50, x_M_runCommands_53, x_M_runCommands_54, x_M_runCommands_55, x_M_runCommands_58, x_M_runCommands_61, x_M_runCommands_62, x_M_runCommands_65, x_M_runCommands_66, x_M_runCommands_67, x_M_runCommands_68, x_M_runCommands_71, x_M_runCommands_75, x_M_runCommands_76, x_M_runCommands_79, x_M_runCommands_80, x_M_runCommands_81, x_M_runCommands_84, x_M_runCommands_85, k0, true_or, or_true, bI_0, bI_t, bI_f, e10, isA30, isA31, isA33, isA40, isA42, isA43, rOkB0, rOkB1, rOkB, Ret_v, Ret_n, cmp_eq, cmp_lt, cmp_gt, nI_1, eq_self, if_true, if_false, reduceIte]
    exact ex
end NC
