/-! the model: strange words, pairs, the log (the rest) -/
section MF
variable {I : MI} {J : MJ} {R : MR} {S : Sh} {Q : SkQ} {f g : Nat → Int64} {b n k j T : Nat} {w u v t : Int64} {a : Bk} {p q r : Rw} {c x y : Int32}
theorem i64_inj : (x.toInt64 = y.toInt64) ↔ x = y := by
  rw [← Int64.toInt_inj, Int32.toInt_toInt64, Int32.toInt_toInt64, Int32.toInt_inj]
theorem i64_lt : (x.toInt64 < y.toInt64) ↔ x < y := by
  rw [Int64.lt_iff_toInt_lt, Int32.toInt_toInt64, Int32.toInt_toInt64, Int32.lt_iff_toInt_lt]
theorem i32_succ (h0 : 0 ≤ x.toInt) (h : x.toInt < 2147483647) : (x + 1).toInt = x.toInt + 1 := by
  rw [Int32.toInt_add, show (1 : Int32).toInt = 1 by decide]
  exact Int.bmod_eq_of_le (by omega) (by omega)
theorem i64_succ (h0 : 0 ≤ x.toInt) (h : x.toInt < 2147483647) : x.toInt64 + 1 = (x + 1).toInt64 := by
  rw [← Int64.toInt_inj, Int32.toInt_toInt64, i32_succ h0 h, Int64.toInt_add, Int32.toInt_toInt64, show (1 : Int64).toInt = 1 by decide]
  exact Int.bmod_eq_of_le (by omega) (by omega)
theorem z64 : (0 : Int32).toInt64 = 0 := by decide
theorem o64 : (1 : Int32).toInt64 = 1 := by decide
theorem l_M_str72 (hS : MxS R S) (hD : NoD f (bkS a q)) (hF : BkF (bkS a q)) (hI : BkI T (bkS a (rPut q k (q.2.2.2 k + 1)))) (hk : k < q.1) (h0 : 0 ≤ (q.2.2.2 k).toInt) (h1 : (q.2.2.2 k).toInt < 2147483647) (ww : isW t = true) (hQ : ∀ g, NoD g (if q.2.2.2 k + 1 = bT a 2 ∧ (bN a).1 < 10 then bkS (aPutN a t) (rDel (rPut q k (q.2.2.2 k + 1)) k) else bkS a (rPut q k (q.2.2.2 k + 1))) → Q 0 none I (jn J g) R S) : Wp 209 72 [.ref 187, .long t, nov, .int (nI k)] [] I (jn J f) R S Q := by
  have q20 : q.1 ≤ 20 := hF.2.2.2.2.1
  have n10 : (bN a).1 ≤ 10 := hF.2.1
  have nm : f (225 + k) = (q.2.2.2 k).toInt64 := hD.2.2.2.2.1.2.2 k hk
  have D1 : NoD (ju f (225 + k) (q.2.2.2 k + 1).toInt64) (bkS a (rPut q k (q.2.2.2 k + 1))) := NoD_S (a := bkS a q) hD hF (fun i _ h => ju_of (by omega)) (NoS_put hD.2.2.2.2.1 hk q20)
  have F1 : BkF (bkS a (rPut q k (q.2.2.2 k + 1))) := hF
  have e1 := inb_nI (i := 225 + k) (n := 305) (by omega) (by omega)
  have e2 : ix (nI (225 + k)) = 225 + k := ix_nI (by omega)
  have s1 := i64_succ h0 h1
  have t8 : ju f (225 + k) (q.2.2.2 k + 1).toInt64 8 = (bT a 2).toInt64 := by rw [ju_of (by omega)]; exact hD.2.2.2.2.2.2.1 2 (by omega)
  have m1 := fun Q' => mmany (Q := Q') (I := I) (J := J) (k := 1) hS (by omega) D1.2.1.1 (show (bN a).1 < 2 ^ 31 by omega)
  have m1 : ∀ Q', Wp 177 0 [.ref 187, .int 1] [] I (jn J (ju f (225 + k) (q.2.2.2 k + 1).toInt64)) R S Q' = Q' 0 (some (.int (nI (bN a).1))) I (jn J (ju f (225 + k) (q.2.2.2 k + 1).toInt64)) R S := m1
  have hS' := hS
  obtain ⟨k0, k1, n1, r0⟩ := hS
  generalize q.2.2.2 k + 1 = c' at *
  by_cases h2 : c' = bT a 2
  · by_cases h3 : (bN a).1 < 10
    · rw [if_pos ⟨h2, h3⟩] at hQ
      have hr : roomN (bkS a (rPut q k c')) t = true := by
        unfold roomN
        rw [show (bN (bkS a (rPut q k c'))).1 = (bN a).1 from rfl, decide_eq_true h3, Bool.true_or]
      have nn := fun Q' => c_M_names (Q := Q') (I := I) (J := J) (w := t) hS' D1 hI hr ww
      have D2 := mNams_D D1 F1 hr
      have pS : bS (aPutN (bkS a (rPut q k c')) t) = rPut q k c' := by unfold aPutN; split <;> rfl
      have S2 := D2.2.2.2.2.1
      rw [pS] at S2
      have fg := fun Q' => c_M_forgets (Q := Q') (I := I) (J := J) (k := k) hS' S2 q20 hk
      have F2 : BkF (aPutN (bkS a (rPut q k c')) t) := by
        have := iPutN hI ww hr
        exact BkF_of this
      have D3 : NoD (mSdel (mNams (ju f (225 + k) c'.toInt64) (bkS a (rPut q k c')) t) (rPut q k c') k) (bkS (aPutN (bkS a (rPut q k c')) t) (rDel (rPut q k c') k)) := NoD_S D2 F2 (fun i _ h => mSdel_o (p := rPut q k c') hk q20 h) (NoS_del S2 hk q20)
      rw [bkS_putN] at D3
      have lt : nI (bN a).1 < 10 := by rw [show (10 : Int32) = nI 10 by decide]; exact nI_lt h3 (by omega)
      have ee : (c'.toInt64 = (bT a 2).toInt64) = True := eq_true (by rw [h2])
      simp only [x_M_strange_0, x_M_strange_1, x_M_strange_4, x_M_strange_5, x_M_strange_6, x_M_strange_9, x_M_strange_10, x_M_strange_13, x_M_strange_14, x_M_strange_15, x_M_strange_16, x_M_strange_19, x_M_strange_20, x_M_strange_21, x_M_strange_24, x_M_strange_26, x_M_strange_29, x_M_strange_30, x_M_strange_31, x_M_strange_34, x_M_strange_35, x_M_strange_36, x_M_strange_39, x_M_strange_40, x_M_strange_41, x_M_strange_44, x_M_strange_47, x_M_strange_48, x_M_strange_49, x_M_strange_50, x_M_strange_51, x_M_strange_52, x_M_strange_55, x_M_strange_58, x_M_strange_59, x_M_strange_60, x_M_strange_61, x_M_strange_62, x_M_strange_63, x_M_strange_66, x_M_strange_67, x_M_strange_68, x_M_strange_69, x_M_strange_70, x_M_strange_71, x_M_strange_72, x_M_strange_73, x_M_strange_76, x_M_strange_79, x_M_strange_80, x_M_strange_81, x_M_strange_82, x_M_strange_83, x_M_strange_84, x_M_strange_85, x_M_strange_86, x_M_strange_87, x_M_strange_90, x_M_strange_93, x_M_strange_94, x_M_strange_95, x_M_strange_96, x_M_strange_97, x_M_strange_100, x_M_strange_102, x_M_strange_103, x_M_strange_104, x_M_strange_107, x_M_strange_108, x_M_strange_109, x_M_strange_112, x_M_strange_114, x_M_strange_117, x_M_strange_118, x_M_strange_119, x_M_strange_122, x_M_strange_123, x_M_strange_124, x_M_strange_127, k0, k1, n1, r0, e1, e2, nm, s1, t8, ee, m1, nn, fg, lt, ju_eq, jn_a, u2_jn, pK_6, pK_9, pK_35, pK_55, pK_75, pK_85, pK_109, pK_133, pK_157, pK_181, pK_205, pK_225, pK_245, pK_265, pK_285, inK_0, inK_1, inK_2, inK_3, inK_4, inK_5, inK_6, inK_7, inK_8, ixK_0, ixK_1, ixK_2, ixK_3, ixK_4, ixK_5, ixK_6, ixK_7, ixK_8, bI_0, bI_t, bI_f, e10, isA30, isA31, isA33, isA40, isA42, isA43, rOkB0, rOkB1, rOkB, Ret_v, Ret_n, cmp_eq, cmp_lt, cmp_gt, nI_1, eq_self, if_true, if_false, reduceIte]
      exact hQ _ D3
    · rw [if_neg (fun h => h3 h.2)] at hQ
      have lt : ¬ nI (bN a).1 < 10 := by rw [show (10 : Int32) = nI 10 by decide]; exact nI_nlt (by omega) (by omega)
      have ee : (c'.toInt64 = (bT a 2).toInt64) = True := eq_true (by rw [h2])
      simp only [x_M_strange_0, x_M_strange_1, x_M_strange_4, x_M_strange_5, x_M_strange_6, x_M_strange_9, x_M_strange_10, x_M_strange_13, x_M_strange_14, x_M_strange_15, x_M_strange_16, x_M_strange_19, x_M_strange_20, x_M_strange_21, x_M_strange_24, x_M_strange_26, x_M_strange_29, x_M_strange_30, x_M_strange_31, x_M_strange_34, x_M_strange_35, x_M_strange_36, x_M_strange_39, x_M_strange_40, x_M_strange_41, x_M_strange_44, x_M_strange_47, x_M_strange_48, x_M_strange_49, x_M_strange_50, x_M_strange_51, x_M_strange_52, x_M_strange_55, x_M_strange_58, x_M_strange_59, x_M_strange_60, x_M_strange_61, x_M_strange_62, x_M_strange_63, x_M_strange_66, x_M_strange_67, x_M_strange_68, x_M_strange_69, x_M_strange_70, x_M_strange_71, x_M_strange_72, x_M_strange_73, x_M_strange_76, x_M_strange_79, x_M_strange_80, x_M_strange_81, x_M_strange_82, x_M_strange_83, x_M_strange_84, x_M_strange_85, x_M_strange_86, x_M_strange_87, x_M_strange_90, x_M_strange_93, x_M_strange_94, x_M_strange_95, x_M_strange_96, x_M_strange_97, x_M_strange_100, x_M_strange_102, x_M_strange_103, x_M_strange_104, x_M_strange_107, x_M_strange_108, x_M_strange_109, x_M_strange_112, x_M_strange_114, x_M_strange_117, x_M_strange_118, x_M_strange_119, x_M_strange_122, x_M_strange_123, x_M_strange_124, x_M_strange_127, k0, k1, n1, r0, e1, e2, nm, s1, t8, ee, m1, lt, ju_eq, jn_a, u2_jn, pK_6, pK_9, pK_35, pK_55, pK_75, pK_85, pK_109, pK_133, pK_157, pK_181, pK_205, pK_225, pK_245, pK_265, pK_285, inK_0, inK_1, inK_2, inK_3, inK_4, inK_5, inK_6, inK_7, inK_8, ixK_0, ixK_1, ixK_2, ixK_3, ixK_4, ixK_5, ixK_6, ixK_7, ixK_8, bI_0, bI_t, bI_f, e10, isA30, isA31, isA33, isA40, isA42, isA43, rOkB0, rOkB1, rOkB, Ret_v, Ret_n, cmp_eq, cmp_lt, cmp_gt, nI_1, eq_self, if_true, if_false, reduceIte]
      exact hQ _ D1
  · rw [if_neg (fun h => h2 h.1)] at hQ
    have ne : ¬ c'.toInt64 = (bT a 2).toInt64 := fun e => h2 (i64_inj.mp e)
    simp only [x_M_strange_0, x_M_strange_1, x_M_strange_4, x_M_strange_5, x_M_strange_6, x_M_strange_9, x_M_strange_10, x_M_strange_13, x_M_strange_14, x_M_strange_15, x_M_strange_16, x_M_strange_19, x_M_strange_20, x_M_strange_21, x_M_strange_24, x_M_strange_26, x_M_strange_29, x_M_strange_30, x_M_strange_31, x_M_strange_34, x_M_strange_35, x_M_strange_36, x_M_strange_39, x_M_strange_40, x_M_strange_41, x_M_strange_44, x_M_strange_47, x_M_strange_48, x_M_strange_49, x_M_strange_50, x_M_strange_51, x_M_strange_52, x_M_strange_55, x_M_strange_58, x_M_strange_59, x_M_strange_60, x_M_strange_61, x_M_strange_62, x_M_strange_63, x_M_strange_66, x_M_strange_67, x_M_strange_68, x_M_strange_69, x_M_strange_70, x_M_strange_71, x_M_strange_72, x_M_strange_73, x_M_strange_76, x_M_strange_79, x_M_strange_80, x_M_strange_81, x_M_strange_82, x_M_strange_83, x_M_strange_84, x_M_strange_85, x_M_strange_86, x_M_strange_87, x_M_strange_90, x_M_strange_93, x_M_strange_94, x_M_strange_95, x_M_strange_96, x_M_strange_97, x_M_strange_100, x_M_strange_102, x_M_strange_103, x_M_strange_104, x_M_strange_107, x_M_strange_108, x_M_strange_109, x_M_strange_112, x_M_strange_114, x_M_strange_117, x_M_strange_118, x_M_strange_119, x_M_strange_122, x_M_strange_123, x_M_strange_124, x_M_strange_127, k0, k1, n1, r0, e1, e2, nm, s1, t8, ne, ju_eq, jn_a, u2_jn, pK_6, pK_9, pK_35, pK_55, pK_75, pK_85, pK_109, pK_133, pK_157, pK_181, pK_205, pK_225, pK_245, pK_265, pK_285, inK_0, inK_1, inK_2, inK_3, inK_4, inK_5, inK_6, inK_7, inK_8, ixK_0, ixK_1, ixK_2, ixK_3, ixK_4, ixK_5, ixK_6, ixK_7, ixK_8, bI_0, bI_t, bI_f, e10, isA30, isA31, isA33, isA40, isA42, isA43, rOkB0, rOkB1, rOkB, Ret_v, Ret_n, cmp_eq, cmp_lt, cmp_gt, nI_1, eq_self, if_true, if_false, reduceIte]
    exact hQ _ D1
theorem c_M_strange (hS : MxS R S) (hD : NoD f a) (hI : BkI T a) (hT : T < 2147483647) (ww : isW t = true) (hQ : ∀ g, NoD g (aStr a t) → Q 0 none I (jn J g) R S) : Wp 209 0 [.ref 187, .long t, nov, nov] [] I (jn J f) R S Q := by
  obtain ⟨f1, f2, f3, f4⟩ := strS_f (t := t) hI
  have f5 := f3 _ f4
  have iS := hI.2.2.2.2.1
  have hF := BkF_of hI
  have kk := iStr (t := t) hI ww hT
  have hI2 : BkI (T + 1) (bkS a (rPut (strS (bS a) t) (strK (bS a) t) ((strS (bS a) t).2.2.2 (strK (bS a) t) + 1))) := by
    have e := i32_succ f5.1 (by omega)
    obtain ⟨iW, iN, iP, iB, iS, iL, zW, zN, zS, wW, wN, wL, oW, oN, cW, cP, cS, cL, cK, cT0, cT1, cT2⟩ := hI
    exact ⟨iW, iN, iP, iB, f1, iL, zW, zN, rZ_put f2, wW, wN, wL, oW, oN, cW, cP, rIn_put (rIn_mono f3 (by omega)) (by omega), cL, cK, cT0, cT1, cT2⟩
  have fin : ∀ g, NoD g (bkS a (strS (bS a) t)) → Wp 209 72 [.ref 187, .long t, nov, .int (nI (strK (bS a) t))] [] I (jn J g) R S Q := fun g hg =>
    l_M_str72 hS hg ⟨hF.1, hF.2.1, hF.2.2.1, hF.2.2.2.1, f1, hF.2.2.2.2.2⟩ hI2 f4 f5.1 (by omega) ww hQ
  have m := fun Q' => mmany (Q := Q') (I := I) (J := J) (k := 4) hS (by omega) hD.2.2.2.2.1.1 (by omega)
  have fnd := fun Q' => c_M_find (Q := Q') (I := I) (J := J) (f := f) (w := t) (b := 205) (n := (bS a).1) hS (by omega)
  rw [fd_congr (q := fun i => decide ((bS a).2.1 i = t)) _ _ (fun j h1 h2 => by rw [hD.2.2.2.2.1.2.1 j (by omega)])] at fnd
  rw [show fd (fun i => decide ((bS a).2.1 i = t)) 0 (bS a).1 = fw (bS a) t from rfl] at fnd
  have hS' := hS
  obtain ⟨k0, k1, n1, r0⟩ := hS
  unfold strS strK at fin
  have app : ∀ (f' : Nat → Int64) (p : Rw), NoS f' p → p.1 < 20 → (∀ g, NoS g (rIns p p.1 t 0 0) → (∀ i, ¬ (i = 4 ∨ (205 ≤ i ∧ i < 245)) → g i = f' i) → Wp 209 72 [.ref 187, .long t, nov, .int (nI p.1)] [] I (jn J g) R S Q) → Wp 209 34 [.ref 187, .long t, nov, .int (-1)] [] I (jn J f') R S Q := by
    intro f' p hp h20 hq
    have m' := fun Q' => mmany (Q := Q') (I := I) (J := J) (k := 4) hS' (by omega) hp.1 (by omega)
    have e1 := inb_nI (i := 205 + p.1) (n := 305) (by omega) (by omega)
    have e2 : ix (nI (205 + p.1)) = 205 + p.1 := ix_nI (by omega)
    have e3 := inb_nI (i := 225 + p.1) (n := 305) (by omega) (by omega)
    have e4 : ix (nI (225 + p.1)) = 225 + p.1 := ix_nI (by omega)
    have z : ju (ju f' (205 + p.1) t) (225 + p.1) 0 4 = lW p.1 := by rw [ju_of (by omega), ju_of (by omega)]; exact hp.1
    simp only [kI_0, kI_1, kI_2, kI_3, kI_4, kI_5, kI_6, kI_7, kI_8, kI_9, kI_10, kI_11, kI_20, kI_24, kI_26, kI_35, kI_55, kI_75, kI_85, kI_109, kI_133, kI_157, kI_181, kI_205, kI_225, kI_245, kI_265, kI_285, kI_305] at m'
    simp only [x_M_strange_0, x_M_strange_1, x_M_strange_4, x_M_strange_5, x_M_strange_6, x_M_strange_9, x_M_strange_10, x_M_strange_13, x_M_strange_14, x_M_strange_15, x_M_strange_16, x_M_strange_19, x_M_strange_20, x_M_strange_21, x_M_strange_24, x_M_strange_26, x_M_strange_29, x_M_strange_30, x_M_strange_31, x_M_strange_34, x_M_strange_35, x_M_strange_36, x_M_strange_39, x_M_strange_40, x_M_strange_41, x_M_strange_44, x_M_strange_47, x_M_strange_48, x_M_strange_49, x_M_strange_50, x_M_strange_51, x_M_strange_52, x_M_strange_55, x_M_strange_58, x_M_strange_59, x_M_strange_60, x_M_strange_61, x_M_strange_62, x_M_strange_63, x_M_strange_66, x_M_strange_67, x_M_strange_68, x_M_strange_69, x_M_strange_70, x_M_strange_71, x_M_strange_73, x_M_strange_76, x_M_strange_79, x_M_strange_80, x_M_strange_81, x_M_strange_82, x_M_strange_83, x_M_strange_84, x_M_strange_85, x_M_strange_86, x_M_strange_87, x_M_strange_90, x_M_strange_93, x_M_strange_94, x_M_strange_95, x_M_strange_96, x_M_strange_97, x_M_strange_100, x_M_strange_102, x_M_strange_103, x_M_strange_104, x_M_strange_107, x_M_strange_108, x_M_strange_109, x_M_strange_112, x_M_strange_114, x_M_strange_117, x_M_strange_118, x_M_strange_119, x_M_strange_122, x_M_strange_123, x_M_strange_124, x_M_strange_127, k0, k1, n1, r0, e1, e2, e3, e4, z, m', jn_a, u2_jn, lW_succ, pK_6, pK_9, pK_35, pK_55, pK_75, pK_85, pK_109, pK_133, pK_157, pK_181, pK_205, pK_225, pK_245, pK_265, pK_285, inK_0, inK_1, inK_2, inK_3, inK_4, inK_5, inK_6, inK_7, inK_8, ixK_0, ixK_1, ixK_2, ixK_3, ixK_4, ixK_5, ixK_6, ixK_7, ixK_8, bI_0, bI_t, bI_f, e10, isA30, isA31, isA33, isA40, isA42, isA43, rOkB0, rOkB1, rOkB, Ret_v, Ret_n, cmp_eq, cmp_lt, cmp_gt, nI_1, eq_self, if_true, if_false, reduceIte]
    have := NoS_app (w := t) (c := 0) hp h20
    unfold mSapp at this
    rw [z64] at this
    refine hq _ this (fun i hi => ?_)
    have o := mSapp_o (f := f') (w := t) (c := 0) h20 hi
    unfold mSapp at o
    rw [z64] at o
    exact o
  by_cases q1 : fw (bS a) t < (bS a).1
  · rw [if_pos q1, if_pos q1] at fin
    have ne := frI_t q1 (by omega)
    rw [frI_lt q1] at fnd ne
    simp only [kI_0, kI_1, kI_2, kI_3, kI_4, kI_5, kI_6, kI_7, kI_8, kI_9, kI_10, kI_11, kI_20, kI_24, kI_26, kI_35, kI_55, kI_75, kI_85, kI_109, kI_133, kI_157, kI_181, kI_205, kI_225, kI_245, kI_265, kI_285, kI_305] at m fnd
    simp only [x_M_strange_0, x_M_strange_1, x_M_strange_4, x_M_strange_5, x_M_strange_6, x_M_strange_9, x_M_strange_10, x_M_strange_13, x_M_strange_14, x_M_strange_15, x_M_strange_16, x_M_strange_19, x_M_strange_20, x_M_strange_21, x_M_strange_24, x_M_strange_26, x_M_strange_29, x_M_strange_30, x_M_strange_31, x_M_strange_34, x_M_strange_35, x_M_strange_36, x_M_strange_39, x_M_strange_40, x_M_strange_41, x_M_strange_44, x_M_strange_47, x_M_strange_48, x_M_strange_49, x_M_strange_50, x_M_strange_51, x_M_strange_52, x_M_strange_55, x_M_strange_58, x_M_strange_59, x_M_strange_60, x_M_strange_61, x_M_strange_62, x_M_strange_63, x_M_strange_66, x_M_strange_67, x_M_strange_68, x_M_strange_69, x_M_strange_70, x_M_strange_71, x_M_strange_73, x_M_strange_76, x_M_strange_79, x_M_strange_80, x_M_strange_81, x_M_strange_82, x_M_strange_83, x_M_strange_84, x_M_strange_85, x_M_strange_86, x_M_strange_87, x_M_strange_90, x_M_strange_93, x_M_strange_94, x_M_strange_95, x_M_strange_96, x_M_strange_97, x_M_strange_100, x_M_strange_102, x_M_strange_103, x_M_strange_104, x_M_strange_107, x_M_strange_108, x_M_strange_109, x_M_strange_112, x_M_strange_114, x_M_strange_117, x_M_strange_118, x_M_strange_119, x_M_strange_122, x_M_strange_123, x_M_strange_124, x_M_strange_127, k0, m, fnd, ne, bI_0, bI_t, bI_f, e10, isA30, isA31, isA33, isA40, isA42, isA43, rOkB0, rOkB1, rOkB, Ret_v, Ret_n, cmp_eq, cmp_lt, cmp_gt, nI_1, eq_self, if_true, if_false, reduceIte]
    exact fin f hD
  · rw [if_neg q1, if_neg q1] at fin
    rw [frI_ge q1] at fnd
    by_cases q2 : 20 ≤ (bS a).1
    · have cu : cut (bS a) 20 = rDel (bS a) 0 := if_pos q2
      rw [cu] at fin
      have n20 : (bS a).1 = 20 := by omega
      have fg := fun Q' => c_M_forgets (Q := Q') (I := I) (J := J) (k := 0) hS' hD.2.2.2.2.1 iS (by omega)
      have e20 : nI (bS a).1 = 20 := by rw [n20]; decide
      simp only [kI_0, kI_1, kI_2, kI_3, kI_4, kI_5, kI_6, kI_7, kI_8, kI_9, kI_10, kI_11, kI_20, kI_24, kI_26, kI_35, kI_55, kI_75, kI_85, kI_109, kI_133, kI_157, kI_181, kI_205, kI_225, kI_245, kI_265, kI_285, kI_305, e20] at m fnd fg
      simp only [x_M_strange_0, x_M_strange_1, x_M_strange_4, x_M_strange_5, x_M_strange_6, x_M_strange_9, x_M_strange_10, x_M_strange_13, x_M_strange_14, x_M_strange_15, x_M_strange_16, x_M_strange_19, x_M_strange_20, x_M_strange_21, x_M_strange_24, x_M_strange_26, x_M_strange_29, x_M_strange_30, x_M_strange_31, x_M_strange_35, x_M_strange_36, x_M_strange_39, x_M_strange_40, x_M_strange_41, x_M_strange_44, x_M_strange_47, x_M_strange_48, x_M_strange_49, x_M_strange_50, x_M_strange_51, x_M_strange_52, x_M_strange_55, x_M_strange_58, x_M_strange_59, x_M_strange_60, x_M_strange_61, x_M_strange_62, x_M_strange_63, x_M_strange_66, x_M_strange_67, x_M_strange_68, x_M_strange_69, x_M_strange_70, x_M_strange_71, x_M_strange_73, x_M_strange_76, x_M_strange_79, x_M_strange_80, x_M_strange_81, x_M_strange_82, x_M_strange_83, x_M_strange_84, x_M_strange_85, x_M_strange_86, x_M_strange_87, x_M_strange_90, x_M_strange_93, x_M_strange_94, x_M_strange_95, x_M_strange_96, x_M_strange_97, x_M_strange_100, x_M_strange_102, x_M_strange_103, x_M_strange_104, x_M_strange_107, x_M_strange_108, x_M_strange_109, x_M_strange_112, x_M_strange_114, x_M_strange_117, x_M_strange_118, x_M_strange_119, x_M_strange_122, x_M_strange_123, x_M_strange_124, x_M_strange_127, k0, m, fnd, fg, bI_0, bI_t, bI_f, e10, isA30, isA31, isA33, isA40, isA42, isA43, rOkB0, rOkB1, rOkB, Ret_v, Ret_n, cmp_eq, cmp_lt, cmp_gt, nI_1, eq_self, if_true, if_false, reduceIte]
      refine app _ (rDel (bS a) 0) (NoS_del hD.2.2.2.2.1 (by omega) iS) (show (bS a).1 - 1 < 20 by omega) (fun g hg ho => fin g ?_)
      exact NoD_S hD hF (fun i h305 hi => (ho i hi).trans (mSdel_o (by omega) iS hi)) hg
    · have cu : cut (bS a) 20 = bS a := if_neg q2
      rw [cu] at fin
      have e20 : ¬ nI (bS a).1 = 20 := by rw [show (20 : Int32) = nI 20 by decide, nI_inj (by omega) (by omega)]; omega
      simp only [kI_0, kI_1, kI_2, kI_3, kI_4, kI_5, kI_6, kI_7, kI_8, kI_9, kI_10, kI_11, kI_20, kI_24, kI_26, kI_35, kI_55, kI_75, kI_85, kI_109, kI_133, kI_157, kI_181, kI_205, kI_225, kI_245, kI_265, kI_285, kI_305] at m fnd
      simp only [x_M_strange_0, x_M_strange_1, x_M_strange_4, x_M_strange_5, x_M_strange_6, x_M_strange_9, x_M_strange_10, x_M_strange_13, x_M_strange_14, x_M_strange_15, x_M_strange_16, x_M_strange_19, x_M_strange_20, x_M_strange_21, x_M_strange_24, x_M_strange_26, x_M_strange_29, x_M_strange_30, x_M_strange_31, x_M_strange_35, x_M_strange_36, x_M_strange_39, x_M_strange_40, x_M_strange_41, x_M_strange_44, x_M_strange_47, x_M_strange_48, x_M_strange_49, x_M_strange_50, x_M_strange_51, x_M_strange_52, x_M_strange_55, x_M_strange_58, x_M_strange_59, x_M_strange_60, x_M_strange_61, x_M_strange_62, x_M_strange_63, x_M_strange_66, x_M_strange_67, x_M_strange_68, x_M_strange_69, x_M_strange_70, x_M_strange_71, x_M_strange_73, x_M_strange_76, x_M_strange_79, x_M_strange_80, x_M_strange_81, x_M_strange_82, x_M_strange_83, x_M_strange_84, x_M_strange_85, x_M_strange_86, x_M_strange_87, x_M_strange_90, x_M_strange_93, x_M_strange_94, x_M_strange_95, x_M_strange_96, x_M_strange_97, x_M_strange_100, x_M_strange_102, x_M_strange_103, x_M_strange_104, x_M_strange_107, x_M_strange_108, x_M_strange_109, x_M_strange_112, x_M_strange_114, x_M_strange_117, x_M_strange_118, x_M_strange_119, x_M_strange_122, x_M_strange_123, x_M_strange_124, x_M_strange_127, k0, m, fnd, e20, bI_0, bI_t, bI_f, e10, isA30, isA31, isA33, isA40, isA42, isA43, rOkB0, rOkB1, rOkB, Ret_v, Ret_n, cmp_eq, cmp_lt, cmp_gt, nI_1, eq_self, if_true, if_false, reduceIte]
      refine app f (bS a) hD.2.2.2.2.1 (by omega) (fun g hg ho => fin g ?_)
      exact NoD_S hD hF (fun i h305 hi => ho i hi) hg
end MF
