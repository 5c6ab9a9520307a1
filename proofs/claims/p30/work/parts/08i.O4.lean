/-- the book's state with the first m sticks and the first n settings -/
def BkE (I : MI) (J : MJ) (B : Nat) (a : Bk) (m n : Nat) : Prop := RwD I J (B + 1) (bW a) ∧ RwD I J (B + 5) (bN a) ∧ RwD I J (B + 9) (bP a) ∧ RwD I J (B + 13) (bB a) ∧ RwD I J (B + 17) (bS a) ∧ RwD I J (B + 21) (bL a) ∧ (∀ i, i < m → I (B + 25) i = bK a i) ∧ (∀ i, i < n → I (B + 26) i = bT a i)
/-- the tables fit -/
def BkF (a : Bk) : Prop := (bW a).1 ≤ 20 ∧ (bN a).1 ≤ 10 ∧ (bP a).1 ≤ 24 ∧ (bB a).1 ≤ 24 ∧ (bS a).1 ≤ 20 ∧ (bL a).1 ≤ 20
section OY
variable {I : MI} {J : MJ} {R : MR} {S : Sh} {Q : SkQ} {B B2 T : Nat} {a : Bk} {I' : MI} {J' : MJ} {lo hi m n : Nat}
theorem BkF_of (hI : BkI T a) : BkF a := ⟨hI.1, hI.2.1, hI.2.2.1, hI.2.2.2.1, hI.2.2.2.2.1, hI.2.2.2.2.2.1⟩
theorem BkE_fr (hD : BkE I J B a m n) (hf : fr lo hi I J I' J') (hb : B + 26 < lo ∨ hi < B) : BkE I' J' B a m n := by
  obtain ⟨dW, dN, dP, dB, dS, dL, dK, dT⟩ := hD
  exact ⟨RwD_fr dW hf (by omega), RwD_fr dN hf (by omega), RwD_fr dP hf (by omega), RwD_fr dB hf (by omega), RwD_fr dS hf (by omega), RwD_fr dL hf (by omega), fun i hi => by rw [(hf (B + 25) (by omega)).1]; exact dK i hi, fun i hi => by rw [(hf (B + 26) (by omega)).1]; exact dT i hi⟩
theorem BkD_fr (hD : BkD I J B a) (hf : fr lo hi I J I' J') (hb : B + 26 < lo ∨ hi < B) : BkD I' J' B a := BkE_fr (m := 26) (n := 3) hD hf hb
theorem l_O_copyT (hS : BkS R S B) (hS2 : BkS R S B2) (hB : B + 26 < B2 ∨ B2 + 26 < B) : ∀ (d j : Nat) (I : MI) (J : MJ), j + d = 3 → BkE I J B a 26 j → BkD I J B2 a → (∀ I' J', fr B (B + 26) I J I' J' → BkD I' J' B a → Q 0 none I' J' R S) → Wp 78 106 [.ref B, .ref B2, .int (nI j)] [] I J R S Q := by
  obtain ⟨s0, sW, sN, sP, sB, sS, sL, sK, sT, nK, nT, r0, r1, r2, r3, r4, r5, r6, r7⟩ := hS
  obtain ⟨s0', sW', sN', sP', sB', sS', sL', sK', sT', nK', nT', r0', r1', r2', r3', r4', r5', r6', r7'⟩ := hS2
  intro d
  induction d with
  | zero =>
    intro j I J hj hE hD hQ
    have hlt : ¬ nI j < nI 3 := nI_nlt (by omega) (by omega)
    rw [x_O_copyFrom_106]
    simp only [x_O_copyFrom_0, x_O_copyFrom_1, x_O_copyFrom_4, x_O_copyFrom_5, x_O_copyFrom_8, x_O_copyFrom_11, x_O_copyFrom_12, x_O_copyFrom_15, x_O_copyFrom_16, x_O_copyFrom_19, x_O_copyFrom_22, x_O_copyFrom_23, x_O_copyFrom_26, x_O_copyFrom_27, x_O_copyFrom_30, x_O_copyFrom_33, x_O_copyFrom_34, x_O_copyFrom_37, x_O_copyFrom_38, x_O_copyFrom_41, x_O_copyFrom_44, x_O_copyFrom_45, x_O_copyFrom_48, x_O_copyFrom_49, x_O_copyFrom_52, x_O_copyFrom_55, x_O_copyFrom_56, x_O_copyFrom_59, x_O_copyFrom_60, x_O_copyFrom_63, x_O_copyFrom_66, x_O_copyFrom_67, x_O_copyFrom_68, x_O_copyFrom_69, x_O_copyFrom_70, x_O_copyFrom_73, x_O_copyFrom_74, x_O_copyFrom_77, x_O_copyFrom_78, x_O_copyFrom_79, x_O_copyFrom_82, x_O_copyFrom_83, x_O_copyFrom_86, x_O_copyFrom_87, x_O_copyFrom_90, x_O_copyFrom_91, x_O_copyFrom_92, x_O_copyFrom_95, x_O_copyFrom_96, x_O_copyFrom_97, x_O_copyFrom_98, x_O_copyFrom_101, x_O_copyFrom_104, x_O_copyFrom_105, x_O_copyFrom_107, x_O_copyFrom_108, x_O_copyFrom_111, x_O_copyFrom_112, x_O_copyFrom_115, x_O_copyFrom_116, x_O_copyFrom_117, x_O_copyFrom_120, x_O_copyFrom_121, x_O_copyFrom_124, x_O_copyFrom_125, x_O_copyFrom_128, x_O_copyFrom_129, x_O_copyFrom_130, x_O_copyFrom_133, x_O_copyFrom_134, x_O_copyFrom_135, x_O_copyFrom_136, x_O_copyFrom_139, x_O_copyFrom_142, s0, r7, sT, nT, hlt, bI_0, bI_t, bI_f, e10, isA30, isA31, isA33, isA40, isA42, isA43, rOkB0, rOkB1, rOkB, Ret_v, Ret_n, cmp_eq, cmp_lt, cmp_gt, nI_1, eq_self, if_true, if_false, reduceIte]
    have : j = 3 := by omega
    subst this
    exact hQ _ _ fr_rfl hE
  | succ d ih =>
    intro j I J hj hE hD hQ
    have hlt : nI j < nI 3 := nI_lt (by omega) (by omega)
    have hin : inb (nI j) 3 = true := inb_nI (by omega) (by omega)
    have hix : ix (nI j) = j := ix_nI (by omega)
    rw [x_O_copyFrom_106]
    simp only [x_O_copyFrom_0, x_O_copyFrom_1, x_O_copyFrom_4, x_O_copyFrom_5, x_O_copyFrom_8, x_O_copyFrom_11, x_O_copyFrom_12, x_O_copyFrom_15, x_O_copyFrom_16, x_O_copyFrom_19, x_O_copyFrom_22, x_O_copyFrom_23, x_O_copyFrom_26, x_O_copyFrom_27, x_O_copyFrom_30, x_O_copyFrom_33, x_O_copyFrom_34, x_O_copyFrom_37, x_O_copyFrom_38, x_O_copyFrom_41, x_O_copyFrom_44, x_O_copyFrom_45, x_O_copyFrom_48, x_O_copyFrom_49, x_O_copyFrom_52, x_O_copyFrom_55, x_O_copyFrom_56, x_O_copyFrom_59, x_O_copyFrom_60, x_O_copyFrom_63, x_O_copyFrom_66, x_O_copyFrom_67, x_O_copyFrom_68, x_O_copyFrom_69, x_O_copyFrom_70, x_O_copyFrom_73, x_O_copyFrom_74, x_O_copyFrom_77, x_O_copyFrom_78, x_O_copyFrom_79, x_O_copyFrom_82, x_O_copyFrom_83, x_O_copyFrom_86, x_O_copyFrom_87, x_O_copyFrom_90, x_O_copyFrom_91, x_O_copyFrom_92, x_O_copyFrom_95, x_O_copyFrom_96, x_O_copyFrom_97, x_O_copyFrom_98, x_O_copyFrom_101, x_O_copyFrom_104, x_O_copyFrom_105, x_O_copyFrom_107, x_O_copyFrom_108, x_O_copyFrom_111, x_O_copyFrom_112, x_O_copyFrom_115, x_O_copyFrom_116, x_O_copyFrom_117, x_O_copyFrom_120, x_O_copyFrom_121, x_O_copyFrom_124, x_O_copyFrom_125, x_O_copyFrom_128, x_O_copyFrom_129, x_O_copyFrom_130, x_O_copyFrom_133, x_O_copyFrom_134, x_O_copyFrom_135, x_O_copyFrom_136, x_O_copyFrom_139, x_O_copyFrom_142, s0, s0', r7, r7', sT, sT', nT, nT', hlt, hin, hix, nI_1', bI_0, bI_t, bI_f, e10, isA30, isA31, isA33, isA40, isA42, isA43, rOkB0, rOkB1, rOkB, Ret_v, Ret_n, cmp_eq, cmp_lt, cmp_gt, nI_1, eq_self, if_true, if_false, reduceIte]
    have hf : fr (B + 26) (B + 26) I J (u2 I (B + 26) j (I (B2 + 26) j)) J := fr_I fr_rfl (by omega)
    obtain ⟨dW, dN, dP, dB, dS, dL, dK, dT⟩ := hE
    refine ih (j + 1) _ _ (by omega) ⟨RwD_fr dW hf (by omega), RwD_fr dN hf (by omega), RwD_fr dP hf (by omega), RwD_fr dB hf (by omega), RwD_fr dS hf (by omega), RwD_fr dL hf (by omega), fun i hi => by rw [(hf (B + 25) (by omega)).1]; exact dK i hi, fun i hi => ?_⟩ (BkD_fr hD hf (by omega)) (fun I' J' hf2 hd2 => hQ I' J' (fr_trans (lo := B) (hi := B + 26) hf hf2 (by omega) (by omega)) hd2)
    by_cases e : i = j
    · rw [e, u2_eq]; exact hD.2.2.2.2.2.2.2 j (by omega)
    · rw [u2_of (by omega)]; exact dT i (by omega)
theorem l_O_copyK (hS : BkS R S B) (hS2 : BkS R S B2) (hB : B + 26 < B2 ∨ B2 + 26 < B) : ∀ (d j : Nat) (I : MI) (J : MJ), j + d = 26 → BkE I J B a j 0 → BkD I J B2 a → (∀ I' J', fr B (B + 26) I J I' J' → BkD I' J' B a → Q 0 none I' J' R S) → Wp 78 68 [.ref B, .ref B2, .int (nI j)] [] I J R S Q := by
  have hS' := hS
  have hS2' := hS2
  obtain ⟨s0, sW, sN, sP, sB, sS, sL, sK, sT, nK, nT, r0, r1, r2, r3, r4, r5, r6, r7⟩ := hS
  obtain ⟨s0', sW', sN', sP', sB', sS', sL', sK', sT', nK', nT', r0', r1', r2', r3', r4', r5', r6', r7'⟩ := hS2
  intro d
  induction d with
  | zero =>
    intro j I J hj hE hD hQ
    have hlt : ¬ nI j < nI 26 := nI_nlt (by omega) (by omega)
    rw [x_O_copyFrom_68]
    simp only [x_O_copyFrom_0, x_O_copyFrom_1, x_O_copyFrom_4, x_O_copyFrom_5, x_O_copyFrom_8, x_O_copyFrom_11, x_O_copyFrom_12, x_O_copyFrom_15, x_O_copyFrom_16, x_O_copyFrom_19, x_O_copyFrom_22, x_O_copyFrom_23, x_O_copyFrom_26, x_O_copyFrom_27, x_O_copyFrom_30, x_O_copyFrom_33, x_O_copyFrom_34, x_O_copyFrom_37, x_O_copyFrom_38, x_O_copyFrom_41, x_O_copyFrom_44, x_O_copyFrom_45, x_O_copyFrom_48, x_O_copyFrom_49, x_O_copyFrom_52, x_O_copyFrom_55, x_O_copyFrom_56, x_O_copyFrom_59, x_O_copyFrom_60, x_O_copyFrom_63, x_O_copyFrom_66, x_O_copyFrom_67, x_O_copyFrom_69, x_O_copyFrom_70, x_O_copyFrom_73, x_O_copyFrom_74, x_O_copyFrom_77, x_O_copyFrom_78, x_O_copyFrom_79, x_O_copyFrom_82, x_O_copyFrom_83, x_O_copyFrom_86, x_O_copyFrom_87, x_O_copyFrom_90, x_O_copyFrom_91, x_O_copyFrom_92, x_O_copyFrom_95, x_O_copyFrom_96, x_O_copyFrom_97, x_O_copyFrom_98, x_O_copyFrom_101, x_O_copyFrom_104, x_O_copyFrom_105, x_O_copyFrom_107, x_O_copyFrom_108, x_O_copyFrom_111, x_O_copyFrom_112, x_O_copyFrom_115, x_O_copyFrom_116, x_O_copyFrom_117, x_O_copyFrom_120, x_O_copyFrom_121, x_O_copyFrom_124, x_O_copyFrom_125, x_O_copyFrom_128, x_O_copyFrom_129, x_O_copyFrom_130, x_O_copyFrom_133, x_O_copyFrom_134, x_O_copyFrom_135, x_O_copyFrom_136, x_O_copyFrom_139, x_O_copyFrom_142, s0, r6, sK, nK, hlt, bI_0, bI_t, bI_f, e10, isA30, isA31, isA33, isA40, isA42, isA43, rOkB0, rOkB1, rOkB, Ret_v, Ret_n, cmp_eq, cmp_lt, cmp_gt, nI_1, eq_self, if_true, if_false, reduceIte]
    have : j = 26 := by omega
    subst this
    rw [← nI_0]
    exact l_O_copyT hS' hS2' hB 3 0 I J (by omega) hE hD hQ
  | succ d ih =>
    intro j I J hj hE hD hQ
    have hlt : nI j < nI 26 := nI_lt (by omega) (by omega)
    have hin : inb (nI j) 26 = true := inb_nI (by omega) (by omega)
    have hix : ix (nI j) = j := ix_nI (by omega)
    rw [x_O_copyFrom_68]
    simp only [x_O_copyFrom_0, x_O_copyFrom_1, x_O_copyFrom_4, x_O_copyFrom_5, x_O_copyFrom_8, x_O_copyFrom_11, x_O_copyFrom_12, x_O_copyFrom_15, x_O_copyFrom_16, x_O_copyFrom_19, x_O_copyFrom_22, x_O_copyFrom_23, x_O_copyFrom_26, x_O_copyFrom_27, x_O_copyFrom_30, x_O_copyFrom_33, x_O_copyFrom_34, x_O_copyFrom_37, x_O_copyFrom_38, x_O_copyFrom_41, x_O_copyFrom_44, x_O_copyFrom_45, x_O_copyFrom_48, x_O_copyFrom_49, x_O_copyFrom_52, x_O_copyFrom_55, x_O_copyFrom_56, x_O_copyFrom_59, x_O_copyFrom_60, x_O_copyFrom_63, x_O_copyFrom_66, x_O_copyFrom_67, x_O_copyFrom_69, x_O_copyFrom_70, x_O_copyFrom_73, x_O_copyFrom_74, x_O_copyFrom_77, x_O_copyFrom_78, x_O_copyFrom_79, x_O_copyFrom_82, x_O_copyFrom_83, x_O_copyFrom_86, x_O_copyFrom_87, x_O_copyFrom_90, x_O_copyFrom_91, x_O_copyFrom_92, x_O_copyFrom_95, x_O_copyFrom_96, x_O_copyFrom_97, x_O_copyFrom_98, x_O_copyFrom_101, x_O_copyFrom_104, x_O_copyFrom_105, x_O_copyFrom_107, x_O_copyFrom_108, x_O_copyFrom_111, x_O_copyFrom_112, x_O_copyFrom_115, x_O_copyFrom_116, x_O_copyFrom_117, x_O_copyFrom_120, x_O_copyFrom_121, x_O_copyFrom_124, x_O_copyFrom_125, x_O_copyFrom_128, x_O_copyFrom_129, x_O_copyFrom_130, x_O_copyFrom_133, x_O_copyFrom_134, x_O_copyFrom_135, x_O_copyFrom_136, x_O_copyFrom_139, x_O_copyFrom_142, s0, s0', r6, r6', sK, sK', nK, nK', hlt, hin, hix, nI_1', bI_0, bI_t, bI_f, e10, isA30, isA31, isA33, isA40, isA42, isA43, rOkB0, rOkB1, rOkB, Ret_v, Ret_n, cmp_eq, cmp_lt, cmp_gt, nI_1, eq_self, if_true, if_false, reduceIte]
    have hf : fr (B + 25) (B + 25) I J (u2 I (B + 25) j (I (B2 + 25) j)) J := fr_I fr_rfl (by omega)
    obtain ⟨dW, dN, dP, dB, dS, dL, dK, dT⟩ := hE
    refine ih (j + 1) _ _ (by omega) ⟨RwD_fr dW hf (by omega), RwD_fr dN hf (by omega), RwD_fr dP hf (by omega), RwD_fr dB hf (by omega), RwD_fr dS hf (by omega), RwD_fr dL hf (by omega), fun i hi => ?_, fun i hi => absurd hi (by omega)⟩ (BkD_fr hD hf (by omega)) (fun I' J' hf2 hd2 => hQ I' J' (fr_trans (lo := B) (hi := B + 26) hf hf2 (by omega) (by omega)) hd2)
    by_cases e : i = j
    · rw [e, u2_eq]; exact hD.2.2.2.2.2.2.1 j (by omega)
    · rw [u2_of (by omega)]; exact dK i (by omega)
theorem c_O_copyFrom (hS : BkS R S B) (hS2 : BkS R S B2) (hB : B + 26 < B2 ∨ B2 + 26 < B) (hF : BkF a) (hD : BkD I J B2 a) (hQ : ∀ I' J', fr B (B + 26) I J I' J' → BkD I' J' B a → Q 0 none I' J' R S) : Wp 78 0 [.ref B, .ref B2, nov] [] I J R S Q := by
  have hS' := hS
  have hS2' := hS2
  obtain ⟨s0, sW, sN, sP, sB, sS, sL, sK, sT, nK, nT, r0, r1, r2, r3, r4, r5, r6, r7⟩ := hS
  obtain ⟨s0', sW', sN', sP', sB', sS', sL', sK', sT', nK', nT', r0', r1', r2', r3', r4', r5', r6', r7'⟩ := hS2
  obtain ⟨iW, iN, iP, iB, iS, iL⟩ := hF
  simp only [x_O_copyFrom_0, x_O_copyFrom_1, x_O_copyFrom_4, x_O_copyFrom_5, x_O_copyFrom_8, s0, s0', r0, r0', sW.1]
  refine c_R_copyFrom sW sW' (by omega) iW (by omega) hD.1 (fun I1 J1 f1 d1 => ?_)
  have D1 := BkD_fr hD f1 (by omega)
  simp only [x_O_copyFrom_11, x_O_copyFrom_12, x_O_copyFrom_15, x_O_copyFrom_16, x_O_copyFrom_19, s0, s0', r1, r1', sN.1, Ret_n]
  refine c_R_copyFrom sN sN' (by omega) iN (by omega) D1.2.1 (fun I2 J2 f2 d2 => ?_)
  have D2 := BkD_fr D1 f2 (by omega)
  simp only [x_O_copyFrom_22, x_O_copyFrom_23, x_O_copyFrom_26, x_O_copyFrom_27, x_O_copyFrom_30, s0, s0', r2, r2', sP.1, Ret_n]
  refine c_R_copyFrom sP sP' (by omega) iP (by omega) D2.2.2.1 (fun I3 J3 f3 d3 => ?_)
  have D3 := BkD_fr D2 f3 (by omega)
  simp only [x_O_copyFrom_33, x_O_copyFrom_34, x_O_copyFrom_37, x_O_copyFrom_38, x_O_copyFrom_41, s0, s0', r3, r3', sB.1, Ret_n]
  refine c_R_copyFrom sB sB' (by omega) iB (by omega) D3.2.2.2.1 (fun I4 J4 f4 d4 => ?_)
  have D4 := BkD_fr D3 f4 (by omega)
  simp only [x_O_copyFrom_44, x_O_copyFrom_45, x_O_copyFrom_48, x_O_copyFrom_49, x_O_copyFrom_52, s0, s0', r4, r4', sS.1, Ret_n]
  refine c_R_copyFrom sS sS' (by omega) iS (by omega) D4.2.2.2.2.1 (fun I5 J5 f5 d5 => ?_)
  have D5 := BkD_fr D4 f5 (by omega)
  simp only [x_O_copyFrom_55, x_O_copyFrom_56, x_O_copyFrom_59, x_O_copyFrom_60, x_O_copyFrom_63, s0, s0', r5, r5', sL.1, Ret_n]
  refine c_R_copyFrom sL sL' (by omega) iL (by omega) D5.2.2.2.2.2.1 (fun I6 J6 f6 d6 => ?_)
  have D6 := BkD_fr D5 f6 (by omega)
  simp only [x_O_copyFrom_66, x_O_copyFrom_67, Ret_n]
  rw [← nI_0]
  have F2 := fr_trans (lo := B) (hi := B + 26) f1 f2 (by omega) (by omega)
  have F3 := fr_trans (lo := B) (hi := B + 26) F2 f3 (by omega) (by omega)
  have F4 := fr_trans (lo := B) (hi := B + 26) F3 f4 (by omega) (by omega)
  have F5 := fr_trans (lo := B) (hi := B + 26) F4 f5 (by omega) (by omega)
  have F6 := fr_trans (lo := B) (hi := B + 26) F5 f6 (by omega) (by omega)
  refine l_O_copyK hS' hS2' hB 26 0 I6 J6 (by omega) ⟨?_, ?_, ?_, ?_, ?_, d6, fun i hi => absurd hi (by omega), fun i hi => absurd hi (by omega)⟩ D6 (fun I' J' hf hd => hQ I' J' (fr_trans (lo := B) (hi := B + 26) F6 hf (by omega) (by omega)) hd)
  · exact RwD_fr (RwD_fr (RwD_fr (RwD_fr (RwD_fr d1 f2 (by omega)) f3 (by omega)) f4 (by omega)) f5 (by omega)) f6 (by omega)
  · exact RwD_fr (RwD_fr (RwD_fr (RwD_fr d2 f3 (by omega)) f4 (by omega)) f5 (by omega)) f6 (by omega)
  · exact RwD_fr (RwD_fr (RwD_fr d3 f4 (by omega)) f5 (by omega)) f6 (by omega)
  · exact RwD_fr (RwD_fr d4 f5 (by omega)) f6 (by omega)
  · exact RwD_fr d5 f6 (by omega)
theorem c_O_takeBack (hS : BkS R S B) (hD : BkD I J B a) (hI : BkI T a) (hc : canB a = true) (hQ : ∀ I' J', fr B (B + 26) I J I' J' → BkD I' J' B (aBack a) → Q 0 (some (.long (bkF a))) I' J' R S) : Wp 100 0 [.ref B, nov, nov, nov, nov, nov] [] I J R S Q := by
  have hS' := hS
  have l := fun Q' => c_O_latest (Q := Q') hS hD hI
  obtain ⟨s0, sW, sN, sP, sB, sS, sL, sK, sT, nK, nT, r0, r1, r2, r3, r4, r5, r6, r7⟩ := hS
  obtain ⟨iW, iN, iP, iB, iS, iL, zW, zN, zS, wW, wN, wL, oW, oN, cW, cP, cS, cL, cK, cT0, cT1, cT2⟩ := hI
  have dL := hD.2.2.2.2.2.1
  have ll : late a ≤ (bL a).1 := lst_le _
  unfold canB at hc
  rw [Bool.and_eq_true, decide_eq_true_eq] at hc
  obtain ⟨h0, hc⟩ := hc
  have e : nI (late a) - 1 = nI (late a - 1) := nI_sub (b := 1) h0
  have hk : late a - 1 < (bL a).1 := by omega
  have g1 := fun Q' => c_R_firstAt (Q := Q') sL dL iL (by omega) (i := nI (late a - 1))
  have g2 := fun Q' => c_R_secondAt (Q := Q') sL dL iL (by omega) (i := nI (late a - 1))
  rw [inb_nI hk (by omega), if_pos (by simp), ix_nI (by omega)] at g1 g2
  simp only [x_O_takeBackLatest_0, x_O_takeBackLatest_1, x_O_takeBackLatest_4, x_O_takeBackLatest_5, x_O_takeBackLatest_6, x_O_takeBackLatest_9, x_O_takeBackLatest_10, x_O_takeBackLatest_13, x_O_takeBackLatest_14, x_O_takeBackLatest_15, x_O_takeBackLatest_18, x_O_takeBackLatest_19, x_O_takeBackLatest_22, x_O_takeBackLatest_24, x_O_takeBackLatest_25, x_O_takeBackLatest_28, x_O_takeBackLatest_29, x_O_takeBackLatest_30, s0, r5, sL.1, l, e, g1, g2, bI_0, bI_t, bI_f, e10, isA30, isA31, isA33, isA40, isA42, isA43, rOkB0, rOkB1, rOkB, Ret_v, Ret_n, cmp_eq, cmp_lt, cmp_gt, nI_1, eq_self, if_true, if_false, reduceIte]
  refine c_R_putNumber sL dL iL (by omega) (inb_nI hk (by omega)) (fun I1 f1 d1 => ?_)
  rw [ix_nI (by omega)] at d1
  have D1 := BkD_L hD f1 d1
  have F1 : fr B (B + 26) I J I1 J := fr_mono f1 (by omega)
  have fin : ∀ (I2 : MI) (J2 : MJ), fr B (B + 26) I J I2 J2 → BkD I2 J2 B (aBan (bkL a (rPut (bL a) (late a - 1) 1)) (bkF a) (bkG a)) → Wp 100 54 [.ref B, .int (nI (late a - 1)), .long (bkF a), nov, .long (bkG a), nov] [] I2 J2 R S Q := by
    intro I2 J2 F2 D2
    generalize hb : aBan (bkL a (rPut (bL a) (late a - 1) 1)) (bkF a) (bkG a) = a2 at D2
    have p2 : bP a2 = bP a ∧ bS a2 = bS a ∧ bN a2 = bN a ∧ aDelP a2 (bkF a) (bkG a) = aDelP (aBan (bkL a (rPut (bL a) (late a - 1) 1)) (bkF a) (bkG a)) (bkF a) (bkG a) := by
      refine ⟨?_, ?_, ?_, by rw [hb]⟩ <;> rw [← hb] <;> unfold aBan <;> split <;> rfl
    obtain ⟨p2, p3, p4, p5⟩ := p2
    have dP := D2.2.2.1
    have f := fun Q' => c_R_fp (Q := Q') sP dP (by rw [p2]; exact iP) (by omega) (w := bkF a) (u := bkG a)
    have fin2 : ∀ (I3 : MI) (J3 : MJ), fr B (B + 26) I J I3 J3 → BkD I3 J3 B (aDelP a2 (bkF a) (bkG a)) → Wp 100 71 [.ref B, .int (nI (late a - 1)), .long (bkF a), nov, .long (bkG a), nov] [] I3 J3 R S Q := by
      intro I3 J3 F3 D3
      have q3 : bS (aDelP a2 (bkF a) (bkG a)) = bS a ∧ bN (aDelP a2 (bkF a) (bkG a)) = bN a := by
        unfold aDelP
        split <;> exact ⟨p3, p4⟩
      simp only [x_O_takeBackLatest_71, x_O_takeBackLatest_72, x_O_takeBackLatest_73, s0]
      refine c_O_countStrange hS' D3 (by rw [q3.2]; exact iN) (by rw [q3.2]; exact zN) (by rw [q3.2]; exact wN) (by rw [q3.1]; exact iS) (by rw [q3.1]; exact zS) (wL _ hk) (fun I4 J4 f4 d4 => ?_)
      simp only [x_O_takeBackLatest_76, x_O_takeBackLatest_77, Ret_n]
      refine hQ _ _ (fr_trans (lo := B) (hi := B + 26) F3 f4 (by omega) (by omega)) ?_
      unfold aBack
      rw [← p5]
      exact d4
    by_cases q : fp (bP a2) (bkF a) (bkG a) < (bP a2).1
    · rw [frI_lt q] at f
      simp only [x_O_takeBackLatest_0, x_O_takeBackLatest_1, x_O_takeBackLatest_4, x_O_takeBackLatest_5, x_O_takeBackLatest_6, x_O_takeBackLatest_9, x_O_takeBackLatest_10, x_O_takeBackLatest_13, x_O_takeBackLatest_14, x_O_takeBackLatest_15, x_O_takeBackLatest_18, x_O_takeBackLatest_19, x_O_takeBackLatest_22, x_O_takeBackLatest_24, x_O_takeBackLatest_25, x_O_takeBackLatest_28, x_O_takeBackLatest_29, x_O_takeBackLatest_30, x_O_takeBackLatest_33, x_O_takeBackLatest_34, x_O_takeBackLatest_35, x_O_takeBackLatest_37, x_O_takeBackLatest_40, x_O_takeBackLatest_43, x_O_takeBackLatest_44, x_O_takeBackLatest_47, x_O_takeBackLatest_48, x_O_takeBackLatest_50, x_O_takeBackLatest_51, x_O_takeBackLatest_54, x_O_takeBackLatest_55, x_O_takeBackLatest_58, x_O_takeBackLatest_59, x_O_takeBackLatest_62, x_O_takeBackLatest_63, x_O_takeBackLatest_65, x_O_takeBackLatest_68, x_O_takeBackLatest_72, x_O_takeBackLatest_76, x_O_takeBackLatest_77, s0, r2, sP.1, f, bI_0, bI_t, bI_f, e10, isA30, isA31, isA33, isA40, isA42, isA43, rOkB0, rOkB1, rOkB, Ret_v, Ret_n, cmp_eq, cmp_lt, cmp_gt, nI_1, eq_self, if_true, if_false, reduceIte]
      refine c_R_remove sP dP (by rw [p2]; exact iP) (by omega) q (fun I3 J3 f3 d3 => ?_)
      rw [Ret_n]
      refine fin2 _ _ (fr_trans (lo := B) (hi := B + 26) F2 f3 (by omega) (by omega)) ?_
      unfold aDelP
      rw [if_pos q]
      exact BkD_P D2 f3 d3
    · rw [frI_ge q] at f
      simp only [x_O_takeBackLatest_0, x_O_takeBackLatest_1, x_O_takeBackLatest_4, x_O_takeBackLatest_5, x_O_takeBackLatest_6, x_O_takeBackLatest_9, x_O_takeBackLatest_10, x_O_takeBackLatest_13, x_O_takeBackLatest_14, x_O_takeBackLatest_15, x_O_takeBackLatest_18, x_O_takeBackLatest_19, x_O_takeBackLatest_22, x_O_takeBackLatest_24, x_O_takeBackLatest_25, x_O_takeBackLatest_28, x_O_takeBackLatest_29, x_O_takeBackLatest_30, x_O_takeBackLatest_33, x_O_takeBackLatest_34, x_O_takeBackLatest_35, x_O_takeBackLatest_37, x_O_takeBackLatest_40, x_O_takeBackLatest_43, x_O_takeBackLatest_44, x_O_takeBackLatest_47, x_O_takeBackLatest_48, x_O_takeBackLatest_50, x_O_takeBackLatest_51, x_O_takeBackLatest_54, x_O_takeBackLatest_55, x_O_takeBackLatest_58, x_O_takeBackLatest_59, x_O_takeBackLatest_62, x_O_takeBackLatest_63, x_O_takeBackLatest_65, x_O_takeBackLatest_68, x_O_takeBackLatest_72, x_O_takeBackLatest_76, x_O_takeBackLatest_77, s0, r2, sP.1, f, c_R_remove_no sP dP (show (bP a2).1 ≤ 24 by rw [p2]; exact iP) (by omega) inb_m1, bI_0, bI_t, bI_f, e10, isA30, isA31, isA33, isA40, isA42, isA43, rOkB0, rOkB1, rOkB, Ret_v, Ret_n, cmp_eq, cmp_lt, cmp_gt, nI_1, eq_self, if_true, if_false, reduceIte]
      refine fin2 _ _ F2 ?_
      unfold aDelP
      rw [if_neg q]
      exact D2
  have hb := fun Q' => c_O_isBanned' (Q := Q') hS' D1 (show (bB a).1 ≤ 24 from iB) (t := bkF a) (w := bkG a)
  rw [show isB (bkL a (rPut (bL a) (late a - 1) 1)) (bkF a) (bkG a) = isB a (bkF a) (bkG a) from rfl] at hb
  rw [show (bL a).2.1 (late a - 1) = bkF a from rfl, show (bL a).2.2.1 (late a - 1) = bkG a from rfl] at *
  by_cases q : fp (bB a) (bkF a) (bkG a) < (bB a).1
  · simp only [isB, decide_eq_true q] at hb
    simp only [x_O_takeBackLatest_33, x_O_takeBackLatest_34, x_O_takeBackLatest_35, x_O_takeBackLatest_37, x_O_takeBackLatest_40, s0, hb, bI_0, bI_t, bI_f, e10, isA30, isA31, isA33, isA40, isA42, isA43, rOkB0, rOkB1, rOkB, Ret_v, Ret_n, cmp_eq, cmp_lt, cmp_gt, nI_1, eq_self, if_true, if_false, reduceIte]
    refine fin _ _ F1 ?_
    unfold aBan
    rw [if_pos (show fp (bB (bkL a (rPut (bL a) (late a - 1) 1))) (bkF a) (bkG a) < (bB (bkL a (rPut (bL a) (late a - 1) 1))).1 from q)]
    exact D1
  · have nb : (bB a).1 < 24 := by
      unfold isB at hc
      rw [decide_eq_false q, Bool.or_false] at hc
      exact of_decide_eq_true hc
    simp only [isB, decide_eq_false q] at hb
    simp only [x_O_takeBackLatest_33, x_O_takeBackLatest_34, x_O_takeBackLatest_35, x_O_takeBackLatest_37, x_O_takeBackLatest_40, x_O_takeBackLatest_43, x_O_takeBackLatest_44, x_O_takeBackLatest_47, x_O_takeBackLatest_48, x_O_takeBackLatest_50, x_O_takeBackLatest_51, s0, r3, sB.1, hb, bI_0, bI_t, bI_f, e10, isA30, isA31, isA33, isA40, isA42, isA43, rOkB0, rOkB1, rOkB, Ret_v, Ret_n, cmp_eq, cmp_lt, cmp_gt, nI_1, eq_self, if_true, if_false, reduceIte]
    refine c_R_append sB D1.2.2.2.1 nb (by omega) (fun I2 J2 f2 d2 => ?_)
    rw [Ret_n]
    refine fin _ _ (fr_trans (lo := B) (hi := B + 26) F1 f2 (by omega) (by omega)) ?_
    unfold aBan
    rw [if_neg (show ¬ fp (bB (bkL a (rPut (bL a) (late a - 1) 1))) (bkF a) (bkG a) < (bB (bkL a (rPut (bL a) (late a - 1) 1))).1 from q)]
    exact BkD_B D1 f2 d2
end OY

