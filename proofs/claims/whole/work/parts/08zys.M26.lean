/-! the model: reading one command (the whole of it) -/
def naC (c : Nat) : Nat := cmW c + cmN c
def fB (c j : Nat) : Bool := decide (cmW c ≤ j)
def aF (b : Bool) (x : Nat → Int32) (l : Nat) (f : Int32) (p : Nat) : Int32 := match b with
  | true => nF x l f p
  | false => wF x l f p
def e0P (x : Nat → Int32) (l p : Nat) : Nat := gEn (fB (qK x l p) 0) x l (q1P x l p)
def e1P (x : Nat → Int32) (l p : Nat) : Nat := gEn (fB (qK x l p) 1) x l (e0P x l p)
/-- where the arguments end -/
def eaP (x : Nat → Int32) (l p : Nat) : Nat := if naC (qK x l p) = 0 then q1P x l p else if naC (qK x l p) = 1 then e0P x l p else e1P x l p
/-- the first and the last argument -/
def fvP (x : Nat → Int32) (l p : Nat) : Int64 := gVa (fB (qK x l p) 0) x l (q1P x l p)
def svP (x : Nat → Int32) (l p : Nat) : Int64 := if naC (qK x l p) = 1 then fvP x l p else gVa (fB (qK x l p) 1) x l (e0P x l p)
theorem na_ok : ∀ c, c < 8 → naC c ≤ 2 ∧ ∀ j, j < naC c → tkN (nI c) (nI j) = fB c j := by decide
section MZ1
variable {I I' : MI} {J J' : MJ} {R : MR} {S : Sh} {Q : SkQ} {n l p q c : Nat} {x : Nat → Int32} {v b : Int32} {f : Int32}
theorem gFt {g h : Int32} : gF true g h = g := rfl
theorem gFf {g h : Int32} : gF false g h = h := rfl
theorem gPt {g h : Nat} : gP true g h = g := rfl
theorem gPf {g h : Nat} : gP false g h = h := rfl
theorem aFt : aF true x l f p = nF x l f p := rfl
theorem aFf : aF false x l f p = wF x l f p := rfl
theorem gEt : gEn true x l p = nP x l p := rfl
theorem gEf : gEn false x l p = wP x l p := rfl
theorem qF_0 (hc : qK x l p < 8) (h : naC (qK x l p) = 0) : qF x l p = semF x l (-1) (q1P x l p) ∧ qE x l p = skp x l 150 (q1P x l p) + 1 := by
  unfold qF qE q3P q2P
  generalize qK x l p = c at *
  generalize q1P x l p = p1
  rcases (show c = 0 ∨ c = 1 ∨ c = 2 ∨ c = 3 ∨ c = 4 ∨ c = 5 ∨ c = 6 ∨ c = 7 by omega) with e | e | e | e | e | e | e | e <;> subst e
  · exact absurd h (by decide)
  · exact absurd h (by decide)
  · exact absurd h (by decide)
  · exact absurd h (by decide)
  · simp only [enF, enP, arF, arP, n1F, n2F, n1P, n2P, w1F, w2F, w1P, w2P, show decide (0 < cmW 4) = false by decide, show decide (1 < cmW 4) = false by decide, show decide (0 < cmN 4) = false by decide, show decide (1 < cmN 4) = false by decide, show fB 4 0 = true by decide, show fB 4 1 = true by decide, gFt, gFf, gPt, gPf, aFt, aFf, gEt, gEf, and_self]
  · exact absurd h (by decide)
  · exact absurd h (by decide)
  · exact absurd h (by decide)
theorem qF_1 (hc : qK x l p < 8) (h : naC (qK x l p) = 1) : qF x l p = semF x l (aF (fB (qK x l p) 0) x l (-1) (q1P x l p)) (e0P x l p) ∧ qE x l p = skp x l 150 (e0P x l p) + 1 := by
  unfold qF qE q3P q2P e0P
  generalize qK x l p = c at *
  generalize q1P x l p = p1
  rcases (show c = 0 ∨ c = 1 ∨ c = 2 ∨ c = 3 ∨ c = 4 ∨ c = 5 ∨ c = 6 ∨ c = 7 by omega) with e | e | e | e | e | e | e | e <;> subst e
  · exact absurd h (by decide)
  · simp only [enF, enP, arF, arP, n1F, n2F, n1P, n2P, w1F, w2F, w1P, w2P, show decide (0 < cmW 1) = true by decide, show decide (1 < cmW 1) = false by decide, show decide (0 < cmN 1) = false by decide, show decide (1 < cmN 1) = false by decide, show fB 1 0 = false by decide, show fB 1 1 = true by decide, gFt, gFf, gPt, gPf, aFt, aFf, gEt, gEf, and_self]
  · simp only [enF, enP, arF, arP, n1F, n2F, n1P, n2P, w1F, w2F, w1P, w2P, show decide (0 < cmW 2) = true by decide, show decide (1 < cmW 2) = false by decide, show decide (0 < cmN 2) = false by decide, show decide (1 < cmN 2) = false by decide, show fB 2 0 = false by decide, show fB 2 1 = true by decide, gFt, gFf, gPt, gPf, aFt, aFf, gEt, gEf, and_self]
  · simp only [enF, enP, arF, arP, n1F, n2F, n1P, n2P, w1F, w2F, w1P, w2P, show decide (0 < cmW 3) = true by decide, show decide (1 < cmW 3) = false by decide, show decide (0 < cmN 3) = false by decide, show decide (1 < cmN 3) = false by decide, show fB 3 0 = false by decide, show fB 3 1 = true by decide, gFt, gFf, gPt, gPf, aFt, aFf, gEt, gEf, and_self]
  · exact absurd h (by decide)
  · exact absurd h (by decide)
  · exact absurd h (by decide)
  · exact absurd h (by decide)
theorem qF_2 (hc : qK x l p < 8) (h : naC (qK x l p) = 2) : qF x l p = semF x l (aF (fB (qK x l p) 1) x l (aF (fB (qK x l p) 0) x l (-1) (q1P x l p)) (e0P x l p)) (e1P x l p) ∧ qE x l p = skp x l 150 (e1P x l p) + 1 := by
  unfold qF qE q3P q2P e1P e0P
  generalize qK x l p = c at *
  generalize q1P x l p = p1
  rcases (show c = 0 ∨ c = 1 ∨ c = 2 ∨ c = 3 ∨ c = 4 ∨ c = 5 ∨ c = 6 ∨ c = 7 by omega) with e | e | e | e | e | e | e | e <;> subst e
  · simp only [enF, enP, arF, arP, n1F, n2F, n1P, n2P, w1F, w2F, w1P, w2P, show decide (0 < cmW 0) = true by decide, show decide (1 < cmW 0) = false by decide, show decide (0 < cmN 0) = true by decide, show decide (1 < cmN 0) = false by decide, show fB 0 0 = false by decide, show fB 0 1 = true by decide, gFt, gFf, gPt, gPf, aFt, aFf, gEt, gEf, and_self]
  · exact absurd h (by decide)
  · exact absurd h (by decide)
  · exact absurd h (by decide)
  · exact absurd h (by decide)
  · simp only [enF, enP, arF, arP, n1F, n2F, n1P, n2P, w1F, w2F, w1P, w2P, show decide (0 < cmW 5) = true by decide, show decide (1 < cmW 5) = true by decide, show decide (0 < cmN 5) = false by decide, show decide (1 < cmN 5) = false by decide, show fB 5 0 = false by decide, show fB 5 1 = false by decide, gFt, gFf, gPt, gPf, aFt, aFf, gEt, gEf, and_self]
  · simp only [enF, enP, arF, arP, n1F, n2F, n1P, n2P, w1F, w2F, w1P, w2P, show decide (0 < cmW 6) = true by decide, show decide (1 < cmW 6) = false by decide, show decide (0 < cmN 6) = true by decide, show decide (1 < cmN 6) = false by decide, show fB 6 0 = false by decide, show fB 6 1 = true by decide, gFt, gFf, gPt, gPf, aFt, aFf, gEt, gEf, and_self]
  · simp only [enF, enP, arF, arP, n1F, n2F, n1P, n2P, w1F, w2F, w1P, w2P, show decide (0 < cmW 7) = false by decide, show decide (1 < cmW 7) = false by decide, show decide (0 < cmN 7) = true by decide, show decide (1 < cmN 7) = true by decide, show fB 7 0 = true by decide, show fB 7 1 = true by decide, gFt, gFf, gPt, gPf, aFt, aFf, gEt, gEf, and_self]
theorem aF_ok {b : Bool} (hp : p ≤ 151) (hl : l ≤ 150) : aF b x l (-1) p = if gOk b x l p = true then -1 else nI (gFl b x l p) := by
  cases b
  · exact wF_ok hp hl
  · exact nF_ok hp hl
theorem flt_n (h : ¬ f = -1) : flt f p = f := if_neg h
theorem aF_n {b : Bool} (h : ¬ f = -1) : aF b x l f p = f := by
  have g : gapF x l f p = f := by
    unfold gapF
    split
    · rfl
    · exact flt_n h
  cases b
  · show wF x l f p = f
    unfold wF wdF
    rw [g]
    split
    · exact flt_n h
    · rfl
  · show nF x l f p = f
    unfold nF nuF
    rw [g]
    split
    · exact flt_n h
    · rfl
theorem semF_n (h : ¬ f = -1) : semF x l f p = f := by
  unfold semF
  split
  · rfl
  · exact flt_n h
theorem semF_m : semF x l (-1) p = if byA x l (skp x l 150 p) = 59 then -1 else nI (skp x l 150 p) := by
  unfold semF
  split
  · rfl
  · unfold flt; rw [if_pos rfl]
theorem gEn_le {b : Bool} (hp : p ≤ 151) (hl : l ≤ 150) : gEn b x l p ≤ 151 := by
  cases b
  · exact wP_le hp hl
  · exact nP_le hp hl
theorem gFl_le {b : Bool} (hp : p ≤ 151) (hl : l ≤ 150) : gFl b x l p ≤ 151 := by
  unfold gFl
  split
  · exact gEn_le hp hl
  · exact hp
theorem mY_12 {k : Nat} {v : Int32} (hk : k = 12 ∨ k = 16) : mY I J (u2 I 187 k v) J := mY_f (by omega)
/-- the places of the text and of the commands alone have changed -/
def mP (c : Nat) (I : MI) (J : MJ) (I' : MI) (J' : MJ) : Prop := mY I J I' J' ∧ (∀ k, ¬ k = c → I' 195 k = I 195 k ∧ J' 196 k = J 196 k ∧ J' 197 k = J 197 k) ∧ I' 187 4 = I 187 4
theorem mP_of (h1 : mY I J I' J) (h2 : jR c J J') (h3 : ∀ k, ¬ k = c → I' 195 k = I 195 k) (h4 : I' 187 4 = I 187 4) : mP c I J I' J' := by
  obtain ⟨m1, m2, m3, m4, m5, m6, m7, m8⟩ := h1
  obtain ⟨j1, j2, j3⟩ := h2
  exact ⟨⟨m1, m2, m3, m4, m5, (j1 188 (by omega) (by omega) (by omega)).trans m6, (j1 189 (by omega) (by omega) (by omega)).trans m7, fun q hq => ⟨(m8 q hq).1, j1 q (by omega) (by omega) (by omega)⟩⟩, fun k hk => ⟨h3 k hk, (j3 k hk).1, (j3 k hk).2⟩, h4⟩
theorem l_M_cmd (hS : MyS R S) (hp : p ≤ 151) (hT : TxD I x l) (h2 : I 187 12 = nI (skp x l 150 p)) (hc : c < 40) (h16 : I 187 16 = nI c) (hq : skp x l 150 p < l) {l1 l2 l3 : Value} (hF : ¬ (qK x l p < 8 ∧ qF x l p = -1) → ∀ I' J', mP c I J I' J' → I' 187 12 = (if qK x l p < 8 then qF x l p else nI (skp x l 150 p)) → Q 0 (some (.int 0)) I' J' R S) (hQ : qK x l p < 8 → qF x l p = -1 → ∀ I' J' l1 l2 l3, mP c I J I' J' → TxD I' x l → I' 187 12 = nI (skp x l 150 (qE x l p)) → I' 187 16 = nI (c + 1) → I' 195 c = nI (qK x l p) → (0 < naC (qK x l p) → J' 196 c = fvP x l p ∧ J' 197 c = svP x l p) → Wp 245 14 [.ref 187, l1, l2, l3] [] I' J' R S Q) : Wp 245 14 [.ref 187, l1, l2, l3] [] I J R S Q := by
  have hS' := hS
  have hl := hT.2.1
  have t1 := hT.1
  have vb := fun Q' => c_M_verb (Q := Q') (J := J) hS (show skp x l 150 p ≤ 160 by omega) hT h2
  rw [show cwK x l (skp x l 150 p) = qK x l p from rfl, show cwP x l (skp x l 150 p) = q1P x l p from rfl] at vb
  have lt : nI (skp x l 150 p) < nI l := nI_lt hq (by omega)
  obtain ⟨⟨k0, k1, n1, r0⟩, -, -, -, -, -, -, -, -, -, -, s4, l4, s5, l5, s6, l6, s7, l7, -, -, -, -, -, r10, r13, r14, r15⟩ := hS
  by_cases q8 : qK x l p < 8
  · rw [if_pos q8] at vb
    have ev : vbI (qK x l p) = nI (qK x l p) := if_pos q8
    rw [ev] at vb
    have ne : ¬ nI (qK x l p) = -1 := nI_m1 (by omega)
    have g16 : u2 I 187 12 (nI (q1P x l p)) 187 16 = nI c := by rw [u2_k (by omega)]; exact h16
    have e1 := inb_nI (i := c) (n := 40) hc (by omega)
    have e2 : ix (nI c) = c := ix_nI (by omega)
    obtain ⟨na2, tk⟩ := na_ok _ q8
    have b1 : q1P x l p ≤ 151 := by
      unfold q1P cwP
      have := rdP_le (x := x) (n := l) 150 (skp x l 150 p)
      omega
    -- the state behind the command word
    have go : Wp 245 73 [.ref 187, .int (nI (qK x l p)), .int (nI (naC (qK x l p))), .int (nI 0)] [] (u2 (u2 I 187 12 (nI (q1P x l p))) 195 c (nI (qK x l p))) J R S Q := by
      generalize hI1 : u2 (u2 I 187 12 (nI (q1P x l p))) 195 c (nI (qK x l p)) = I1
      have T1 : TxD I1 x l := by
        rw [← hI1]
        have := TxD_f (k := 12) (c := nI (q1P x l p)) hT (by omega)
        exact ⟨by rw [u2_p (by omega)]; exact this.1, this.2.1, fun i hi => by rw [u2_p (by omega)]; exact this.2.2 i hi⟩
      have a12 : I1 187 12 = nI (q1P x l p) := by rw [← hI1, u2_p (by omega), u2_eq]
      have a16 : I1 187 16 = nI c := by rw [← hI1, u2_p (by omega)]; exact g16
      have a195 : I1 195 c = nI (qK x l p) := by rw [← hI1, u2_eq]
      have ao : ∀ k, ¬ k = c → I1 195 k = I 195 k := fun k hk => by rw [← hI1, u2_k hk, u2_p (by omega)]
      have a4 : I1 187 4 = I 187 4 := by rw [← hI1, u2_p (by omega), u2_k (by omega)]
      have mY1 : mY I J I1 J := by rw [← hI1]; exact mY_trans (mY_f (by omega)) (mY_aI (by omega))
      have mP12 : ∀ {J' : MJ} {v : Int32}, jR c J J' → mP c I J (u2 I1 187 12 v) J' := fun hj => mP_of (mY_trans mY1 (mY_f (by omega))) hj (fun k hk => by rw [u2_p (by omega)]; exact ao k hk) (by rw [u2_k (by omega)]; exact a4)
      -- a fault
      have bad : ∀ {J' : MJ} (m : Nat), m < 2 ^ 31 → jR c J J' → qF x l p = nI m → Q 0 (some (.int 0)) (u2 I1 187 12 (nI m)) J' R S := fun m hm hj e => by
        refine hF (fun h => nI_m1 hm (e ▸ h.2)) _ _ (mP12 hj) ?_
        rw [if_pos q8, u2_eq, e]
      -- the end
      have fin : ∀ {J' : MJ} {k : Int32} (r : Nat), r ≤ 151 → jR c J J' → qF x l p = semF x l (-1) r → qE x l p = skp x l 150 r + 1 → (0 < naC (qK x l p) → J' 196 c = fvP x l p ∧ J' 197 c = svP x l p) → Wp 245 140 [.ref 187, .int (nI (qK x l p)), .int (nI (naC (qK x l p))), .int k] [] (u2 I1 187 12 (nI r)) J' R S Q := fun {J'} {k} r hr hj eF eE hst => by
        have sl := skp_le (x := x) (n := l) 150 r
        rw [semF_m] at eF
        refine l_semi hS' hr (TxD_f T1 (by omega)) u2_eq (by rw [u2_k (by omega)]; exact a16) (fun h => ?_) (fun h => ?_)
        · rw [if_neg h] at eF
          rw [u2_u2]
          exact bad _ (by omega) hj eF
        · rw [if_pos h] at eF
          rw [← eE, u2_comm (show ¬ 12 = 16 by omega), u2_u2]
          refine hQ q8 eF _ _ _ _ _ (mP_of (mY_trans (mY_trans mY1 (mY_f (by omega))) (mY_f (by omega))) hj (fun k hk => by rw [u2_p (by omega), u2_p (by omega)]; exact ao k hk) (by rw [u2_k (by omega), u2_k (by omega)]; exact a4)) (TxD_f (TxD_f T1 (by omega)) (by omega)) u2_eq (by rw [u2_k (by omega), u2_eq]) (by rw [u2_p (by omega), u2_p (by omega)]; exact a195) hst
      have exit : ∀ {I' : MI} {J' : MJ}, Wp 245 73 [.ref 187, .int (nI (qK x l p)), .int (nI (naC (qK x l p))), .int (nI (naC (qK x l p)))] [] I' J' R S Q = Wp 245 140 [.ref 187, .int (nI (qK x l p)), .int (nI (naC (qK x l p))), .int (nI (naC (qK x l p)))] [] I' J' R S Q := fun {I'} {J'} => by
        have nl : ¬ nI (naC (qK x l p)) < nI (naC (qK x l p)) := nI_nlt (Nat.le_refl _) (by omega)
        rw [x_M_reads_73]
        simp only [x_M_reads_0, x_M_reads_1, x_M_reads_2, x_M_reads_5, x_M_reads_6, x_M_reads_7, x_M_reads_10, x_M_reads_11, x_M_reads_15, x_M_reads_18, x_M_reads_19, x_M_reads_22, x_M_reads_25, x_M_reads_26, x_M_reads_29, x_M_reads_30, x_M_reads_31, x_M_reads_32, x_M_reads_35, x_M_reads_36, x_M_reads_37, x_M_reads_38, x_M_reads_39, x_M_reads_42, x_M_reads_43, x_M_reads_46, x_M_reads_47, x_M_reads_48, x_M_reads_51, x_M_reads_52, x_M_reads_55, x_M_reads_56, x_M_reads_59, x_M_reads_60, x_M_reads_61, x_M_reads_62, x_M_reads_65, x_M_reads_66, x_M_reads_69, x_M_reads_70, x_M_reads_71, x_M_reads_72, x_M_reads_74, x_M_reads_75, x_M_reads_78, x_M_reads_79, x_M_reads_80, x_M_reads_81, x_M_reads_84, x_M_reads_87, x_M_reads_90, x_M_reads_91, x_M_reads_92, x_M_reads_93, x_M_reads_96, x_M_reads_97, x_M_reads_100, x_M_reads_101, x_M_reads_104, x_M_reads_105, x_M_reads_108, x_M_reads_111, x_M_reads_112, x_M_reads_115, x_M_reads_116, x_M_reads_119, x_M_reads_120, x_M_reads_121, x_M_reads_122, x_M_reads_125, x_M_reads_126, x_M_reads_129, x_M_reads_130, x_M_reads_133, x_M_reads_134, x_M_reads_137, x_M_reads_141, x_M_reads_144, x_M_reads_145, x_M_reads_147, x_M_reads_149, x_M_reads_152, x_M_reads_155, x_M_reads_156, x_M_reads_157, x_M_reads_158, x_M_reads_159, x_M_reads_162, x_M_reads_163, x_M_reads_164, x_M_reads_167, x_M_reads_168, x_M_reads_169, x_M_reads_172, x_M_reads_173, x_M_reads_174, x_M_reads_177, x_M_reads_178, x_M_reads_181, x_M_reads_184, x_M_reads_185, nl, bI_0, bI_t, bI_f, e10, isA30, isA31, isA33, isA40, isA42, isA43, rOkB0, rOkB1, rOkB, Ret_v, Ret_n, cmp_eq, cmp_lt, cmp_gt, nI_1, eq_self, if_true, if_false, reduceIte]
      by_cases n0 : naC (qK x l p) = 0
      · have qf := qF_0 q8 n0
        have ex := exit (I' := I1) (J' := J)
        rw [n0] at ex ⊢
        rw [ex, ← u2_self (f := I1) (a := 187) (k := 12) a12, ← n0]
        exact fin _ b1 jR_rfl qf.1 qf.2 (fun h => by omega)
      · have l0 := l_arg (Q := Q) (J := J) (fB (qK x l p) 0) hS' (show 0 < naC (qK x l p) by omega) na2 (tk 0 (by omega)) b1 T1 a12 hc a16
        refine l0 (fun ok J1 j1 => ?_) (fun ok J1 j1 j6 j7 => ?_)
        · refine bad _ (by have := gFl_le (b := fB (qK x l p) 0) (x := x) b1 hl; omega) j1 ?_
          have a := aF_ok (b := fB (qK x l p) 0) (x := x) b1 hl
          rw [if_neg (by rw [ok]; simp)] at a
          have nm : ¬ nI (gFl (fB (qK x l p) 0) x l (q1P x l p)) = -1 := nI_m1 (by have := gFl_le (b := fB (qK x l p) 0) (x := x) b1 hl; omega)
          by_cases n1 : naC (qK x l p) = 1
          · rw [(qF_1 q8 n1).1, a, semF_n nm]
          · rw [(qF_2 q8 (by omega)).1, a, aF_n nm, semF_n nm]
        · have a := aF_ok (b := fB (qK x l p) 0) (x := x) b1 hl
          rw [if_pos ok] at a
          rw [if_pos rfl] at j6
          have b2 : e0P x l p ≤ 151 := gEn_le b1 hl
          rw [show gEn (fB (qK x l p) 0) x l (q1P x l p) = e0P x l p from rfl, Nat.zero_add]
          by_cases n1 : naC (qK x l p) = 1
          · have qf := qF_1 q8 n1
            rw [a] at qf
            have ex := exit (I' := u2 I1 187 12 (nI (e0P x l p))) (J' := J1)
            rw [n1] at ex ⊢
            rw [ex, ← n1]
            refine fin _ b2 j1 qf.1 qf.2 (fun _ => ⟨j6, ?_⟩)
            unfold svP
            rw [if_pos n1]
            exact j7
          · have n2 : naC (qK x l p) = 2 := by omega
            have qf := qF_2 q8 n2
            rw [a] at qf
            have l1 := l_arg (Q := Q) (I := u2 I1 187 12 (nI (e0P x l p))) (J := J1) (k := 1) (fB (qK x l p) 1) hS' (show 1 < naC (qK x l p) by omega) na2 (tk 1 (by omega)) b2 (TxD_f T1 (by omega)) u2_eq hc (by rw [u2_k (by omega)]; exact a16)
            refine l1 (fun ok2 J2 j2 => ?_) (fun ok2 J2 j2 j26 j27 => ?_)
            · rw [u2_u2]
              refine bad _ (by have := gFl_le (b := fB (qK x l p) 1) (x := x) b2 hl; omega) (jR_trans j1 j2) ?_
              have a2 := aF_ok (b := fB (qK x l p) 1) (x := x) b2 hl
              rw [if_neg (by rw [ok2]; simp)] at a2
              have nm : ¬ nI (gFl (fB (qK x l p) 1) x l (e0P x l p)) = -1 := nI_m1 (by have := gFl_le (b := fB (qK x l p) 1) (x := x) b2 hl; omega)
              rw [qf.1, a2, semF_n nm]
            · rw [u2_u2]
              have a2 := aF_ok (b := fB (qK x l p) 1) (x := x) b2 hl
              rw [if_pos ok2] at a2
              rw [a2] at qf
              rw [if_neg (by omega)] at j26
              have b3 : e1P x l p ≤ 151 := gEn_le b2 hl
              have ex := exit (I' := u2 I1 187 12 (nI (e1P x l p))) (J' := J2)
              rw [n2] at ex ⊢
              rw [show gEn (fB (qK x l p) 1) x l (e0P x l p) = e1P x l p from rfl, show 1 + 1 = 2 from rfl, ex, ← n2]
              refine fin _ b3 (jR_trans j1 j2) qf.1 qf.2 (fun _ => ⟨j26.trans j6, ?_⟩)
              unfold svP
              rw [if_neg n1]
              exact j27
    rw [nI_0] at go
    rw [x_M_reads_14]
    by_cases c4 : qK x l p = 4
    · rw [c4] at go
      simp only [c4] at vb ne
      rw [show nI (naC 4) = 0 by decide] at go
      simp only [kI_0, kI_1, kI_2, kI_3, kI_4, kI_5, kI_6, kI_7, kI_8, kI_9, kI_10, kI_11, kI_20, kI_24, kI_26, kI_35, kI_55, kI_75, kI_85, kI_109, kI_133, kI_157, kI_181, kI_205, kI_225, kI_245, kI_265, kI_285, kI_305] at vb ne go
      simp only [x_M_reads_0, x_M_reads_1, x_M_reads_2, x_M_reads_5, x_M_reads_6, x_M_reads_7, x_M_reads_10, x_M_reads_11, x_M_reads_15, x_M_reads_18, x_M_reads_19, x_M_reads_22, x_M_reads_25, x_M_reads_26, x_M_reads_29, x_M_reads_30, x_M_reads_31, x_M_reads_32, x_M_reads_35, x_M_reads_36, x_M_reads_37, x_M_reads_38, x_M_reads_39, x_M_reads_42, x_M_reads_43, x_M_reads_46, x_M_reads_47, x_M_reads_48, x_M_reads_51, x_M_reads_52, x_M_reads_55, x_M_reads_56, x_M_reads_59, x_M_reads_60, x_M_reads_61, x_M_reads_62, x_M_reads_65, x_M_reads_66, x_M_reads_69, x_M_reads_70, x_M_reads_71, x_M_reads_72, x_M_reads_74, x_M_reads_75, x_M_reads_78, x_M_reads_79, x_M_reads_80, x_M_reads_81, x_M_reads_84, x_M_reads_87, x_M_reads_90, x_M_reads_91, x_M_reads_92, x_M_reads_93, x_M_reads_96, x_M_reads_97, x_M_reads_100, x_M_reads_101, x_M_reads_104, x_M_reads_105, x_M_reads_108, x_M_reads_111, x_M_reads_112, x_M_reads_115, x_M_reads_116, x_M_reads_119, x_M_reads_120, x_M_reads_121, x_M_reads_122, x_M_reads_125, x_M_reads_126, x_M_reads_129, x_M_reads_130, x_M_reads_133, x_M_reads_134, x_M_reads_137, x_M_reads_141, x_M_reads_144, x_M_reads_145, x_M_reads_147, x_M_reads_149, x_M_reads_152, x_M_reads_155, x_M_reads_156, x_M_reads_157, x_M_reads_158, x_M_reads_159, x_M_reads_162, x_M_reads_163, x_M_reads_164, x_M_reads_167, x_M_reads_168, x_M_reads_169, x_M_reads_172, x_M_reads_173, x_M_reads_174, x_M_reads_177, x_M_reads_178, x_M_reads_181, x_M_reads_184, x_M_reads_185, k0, s5, l5, r13, h2, t1, lt, vb, ne, g16, e1, e2, bI_0, bI_t, bI_f, e10, isA30, isA31, isA33, isA40, isA42, isA43, rOkB0, rOkB1, rOkB, Ret_v, Ret_n, cmp_eq, cmp_lt, cmp_gt, nI_1, eq_self, if_true, if_false, reduceIte]
      exact go
    · have n4 : ¬ nI (qK x l p) = 4 := by rw [show (4 : Int32) = nI 4 by decide, nI_inj (by omega) (by omega)]; exact c4
      by_cases c3 : qK x l p < 4
      · have lt4 : nI (qK x l p) < 4 := by rw [show (4 : Int32) = nI 4 by decide]; exact nI_lt c3 (by omega)
        by_cases c0 : qK x l p = 0
        · have n0 : (nI (qK x l p) = 0) = True := eq_true (by rw [c0]; decide)
          rw [show nI (naC (qK x l p)) = 2 by rw [c0]; decide] at go
          simp only [x_M_reads_0, x_M_reads_1, x_M_reads_2, x_M_reads_5, x_M_reads_6, x_M_reads_7, x_M_reads_10, x_M_reads_11, x_M_reads_15, x_M_reads_18, x_M_reads_19, x_M_reads_22, x_M_reads_25, x_M_reads_26, x_M_reads_29, x_M_reads_30, x_M_reads_31, x_M_reads_32, x_M_reads_35, x_M_reads_36, x_M_reads_37, x_M_reads_38, x_M_reads_39, x_M_reads_42, x_M_reads_43, x_M_reads_46, x_M_reads_47, x_M_reads_48, x_M_reads_51, x_M_reads_52, x_M_reads_55, x_M_reads_56, x_M_reads_59, x_M_reads_60, x_M_reads_61, x_M_reads_62, x_M_reads_65, x_M_reads_66, x_M_reads_69, x_M_reads_70, x_M_reads_71, x_M_reads_72, x_M_reads_74, x_M_reads_75, x_M_reads_78, x_M_reads_79, x_M_reads_80, x_M_reads_81, x_M_reads_84, x_M_reads_87, x_M_reads_90, x_M_reads_91, x_M_reads_92, x_M_reads_93, x_M_reads_96, x_M_reads_97, x_M_reads_100, x_M_reads_101, x_M_reads_104, x_M_reads_105, x_M_reads_108, x_M_reads_111, x_M_reads_112, x_M_reads_115, x_M_reads_116, x_M_reads_119, x_M_reads_120, x_M_reads_121, x_M_reads_122, x_M_reads_125, x_M_reads_126, x_M_reads_129, x_M_reads_130, x_M_reads_133, x_M_reads_134, x_M_reads_137, x_M_reads_141, x_M_reads_144, x_M_reads_145, x_M_reads_147, x_M_reads_149, x_M_reads_152, x_M_reads_155, x_M_reads_156, x_M_reads_157, x_M_reads_158, x_M_reads_159, x_M_reads_162, x_M_reads_163, x_M_reads_164, x_M_reads_167, x_M_reads_168, x_M_reads_169, x_M_reads_172, x_M_reads_173, x_M_reads_174, x_M_reads_177, x_M_reads_178, x_M_reads_181, x_M_reads_184, x_M_reads_185, k0, s5, l5, r13, h2, t1, lt, vb, ne, n4, lt4, n0, g16, e1, e2, bI_0, bI_t, bI_f, e10, isA30, isA31, isA33, isA40, isA42, isA43, rOkB0, rOkB1, rOkB, Ret_v, Ret_n, cmp_eq, cmp_lt, cmp_gt, nI_1, eq_self, if_true, if_false, reduceIte]
          exact go
        · have n0 : ¬ nI (qK x l p) = 0 := by rw [show (0 : Int32) = nI 0 by decide, nI_inj (by omega) (by omega)]; exact c0
          have e1' : nI (naC (qK x l p)) = 1 := by
            rcases (show qK x l p = 1 ∨ qK x l p = 2 ∨ qK x l p = 3 by omega) with e | e | e <;> rw [e] <;> decide
          rw [e1'] at go
          simp only [x_M_reads_0, x_M_reads_1, x_M_reads_2, x_M_reads_5, x_M_reads_6, x_M_reads_7, x_M_reads_10, x_M_reads_11, x_M_reads_15, x_M_reads_18, x_M_reads_19, x_M_reads_22, x_M_reads_25, x_M_reads_26, x_M_reads_29, x_M_reads_30, x_M_reads_31, x_M_reads_32, x_M_reads_35, x_M_reads_36, x_M_reads_37, x_M_reads_38, x_M_reads_39, x_M_reads_42, x_M_reads_43, x_M_reads_46, x_M_reads_47, x_M_reads_48, x_M_reads_51, x_M_reads_52, x_M_reads_55, x_M_reads_56, x_M_reads_59, x_M_reads_60, x_M_reads_61, x_M_reads_62, x_M_reads_65, x_M_reads_66, x_M_reads_69, x_M_reads_70, x_M_reads_71, x_M_reads_72, x_M_reads_74, x_M_reads_75, x_M_reads_78, x_M_reads_79, x_M_reads_80, x_M_reads_81, x_M_reads_84, x_M_reads_87, x_M_reads_90, x_M_reads_91, x_M_reads_92, x_M_reads_93, x_M_reads_96, x_M_reads_97, x_M_reads_100, x_M_reads_101, x_M_reads_104, x_M_reads_105, x_M_reads_108, x_M_reads_111, x_M_reads_112, x_M_reads_115, x_M_reads_116, x_M_reads_119, x_M_reads_120, x_M_reads_121, x_M_reads_122, x_M_reads_125, x_M_reads_126, x_M_reads_129, x_M_reads_130, x_M_reads_133, x_M_reads_134, x_M_reads_137, x_M_reads_141, x_M_reads_144, x_M_reads_145, x_M_reads_147, x_M_reads_149, x_M_reads_152, x_M_reads_155, x_M_reads_156, x_M_reads_157, x_M_reads_158, x_M_reads_159, x_M_reads_162, x_M_reads_163, x_M_reads_164, x_M_reads_167, x_M_reads_168, x_M_reads_169, x_M_reads_172, x_M_reads_173, x_M_reads_174, x_M_reads_177, x_M_reads_178, x_M_reads_181, x_M_reads_184, x_M_reads_185, k0, s5, l5, r13, h2, t1, lt, vb, ne, n4, lt4, n0, g16, e1, e2, bI_0, bI_t, bI_f, e10, isA30, isA31, isA33, isA40, isA42, isA43, rOkB0, rOkB1, rOkB, Ret_v, Ret_n, cmp_eq, cmp_lt, cmp_gt, nI_1, eq_self, if_true, if_false, reduceIte]
          exact go
      · have lt4 : ¬ nI (qK x l p) < 4 := by rw [show (4 : Int32) = nI 4 by decide]; exact nI_nlt (by omega) (by omega)
        have e2' : nI (naC (qK x l p)) = 2 := by
          rcases (show qK x l p = 5 ∨ qK x l p = 6 ∨ qK x l p = 7 by omega) with e | e | e <;> rw [e] <;> decide
        rw [e2'] at go
        simp only [x_M_reads_0, x_M_reads_1, x_M_reads_2, x_M_reads_5, x_M_reads_6, x_M_reads_7, x_M_reads_10, x_M_reads_11, x_M_reads_15, x_M_reads_18, x_M_reads_19, x_M_reads_22, x_M_reads_25, x_M_reads_26, x_M_reads_29, x_M_reads_30, x_M_reads_31, x_M_reads_32, x_M_reads_35, x_M_reads_36, x_M_reads_37, x_M_reads_38, x_M_reads_39, x_M_reads_42, x_M_reads_43, x_M_reads_46, x_M_reads_47, x_M_reads_48, x_M_reads_51, x_M_reads_52, x_M_reads_55, x_M_reads_56, x_M_reads_59, x_M_reads_60, x_M_reads_61, x_M_reads_62, x_M_reads_65, x_M_reads_66, x_M_reads_69, x_M_reads_70, x_M_reads_71, x_M_reads_72, x_M_reads_74, x_M_reads_75, x_M_reads_78, x_M_reads_79, x_M_reads_80, x_M_reads_81, x_M_reads_84, x_M_reads_87, x_M_reads_90, x_M_reads_91, x_M_reads_92, x_M_reads_93, x_M_reads_96, x_M_reads_97, x_M_reads_100, x_M_reads_101, x_M_reads_104, x_M_reads_105, x_M_reads_108, x_M_reads_111, x_M_reads_112, x_M_reads_115, x_M_reads_116, x_M_reads_119, x_M_reads_120, x_M_reads_121, x_M_reads_122, x_M_reads_125, x_M_reads_126, x_M_reads_129, x_M_reads_130, x_M_reads_133, x_M_reads_134, x_M_reads_137, x_M_reads_141, x_M_reads_144, x_M_reads_145, x_M_reads_147, x_M_reads_149, x_M_reads_152, x_M_reads_155, x_M_reads_156, x_M_reads_157, x_M_reads_158, x_M_reads_159, x_M_reads_162, x_M_reads_163, x_M_reads_164, x_M_reads_167, x_M_reads_168, x_M_reads_169, x_M_reads_172, x_M_reads_173, x_M_reads_174, x_M_reads_177, x_M_reads_178, x_M_reads_181, x_M_reads_184, x_M_reads_185, k0, s5, l5, r13, h2, t1, lt, vb, ne, n4, lt4, g16, e1, e2, bI_0, bI_t, bI_f, e10, isA30, isA31, isA33, isA40, isA42, isA43, rOkB0, rOkB1, rOkB, Ret_v, Ret_n, cmp_eq, cmp_lt, cmp_gt, nI_1, eq_self, if_true, if_false, reduceIte]
        exact go
  · rw [if_neg q8] at vb
    have ev : vbI (qK x l p) = -1 := if_neg q8
    rw [ev] at vb
    rw [x_M_reads_14]
    simp only [x_M_reads_0, x_M_reads_1, x_M_reads_2, x_M_reads_5, x_M_reads_6, x_M_reads_7, x_M_reads_10, x_M_reads_11, x_M_reads_15, x_M_reads_18, x_M_reads_19, x_M_reads_22, x_M_reads_25, x_M_reads_26, x_M_reads_29, x_M_reads_30, x_M_reads_31, x_M_reads_32, x_M_reads_35, x_M_reads_36, x_M_reads_37, x_M_reads_38, x_M_reads_39, x_M_reads_42, x_M_reads_43, x_M_reads_46, x_M_reads_47, x_M_reads_48, x_M_reads_51, x_M_reads_52, x_M_reads_55, x_M_reads_56, x_M_reads_59, x_M_reads_60, x_M_reads_61, x_M_reads_62, x_M_reads_65, x_M_reads_66, x_M_reads_69, x_M_reads_70, x_M_reads_71, x_M_reads_72, x_M_reads_74, x_M_reads_75, x_M_reads_78, x_M_reads_79, x_M_reads_80, x_M_reads_81, x_M_reads_84, x_M_reads_87, x_M_reads_90, x_M_reads_91, x_M_reads_92, x_M_reads_93, x_M_reads_96, x_M_reads_97, x_M_reads_100, x_M_reads_101, x_M_reads_104, x_M_reads_105, x_M_reads_108, x_M_reads_111, x_M_reads_112, x_M_reads_115, x_M_reads_116, x_M_reads_119, x_M_reads_120, x_M_reads_121, x_M_reads_122, x_M_reads_125, x_M_reads_126, x_M_reads_129, x_M_reads_130, x_M_reads_133, x_M_reads_134, x_M_reads_137, x_M_reads_141, x_M_reads_144, x_M_reads_145, x_M_reads_147, x_M_reads_149, x_M_reads_152, x_M_reads_155, x_M_reads_156, x_M_reads_157, x_M_reads_158, x_M_reads_159, x_M_reads_162, x_M_reads_163, x_M_reads_164, x_M_reads_167, x_M_reads_168, x_M_reads_169, x_M_reads_172, x_M_reads_173, x_M_reads_174, x_M_reads_177, x_M_reads_178, x_M_reads_181, x_M_reads_184, x_M_reads_185, k0, h2, t1, lt, vb, bI_0, bI_t, bI_f, e10, isA30, isA31, isA33, isA40, isA42, isA43, rOkB0, rOkB1, rOkB, Ret_v, Ret_n, cmp_eq, cmp_lt, cmp_gt, nI_1, eq_self, if_true, if_false, reduceIte]
    refine hF (fun h => q8 h.1) _ _ (mP_of (mY_f (by omega)) jR_rfl (fun k hk => by rw [u2_p (by omega)]) (by rw [u2_k (by omega)])) ?_
    rw [if_neg q8, u2_eq]
end MZ1
