/-! the model: reading the text, carrying a command out -/
def psN (x : Nat → Int32) (l : Nat) : Nat → Nat
  | 0 => 0
  | i + 1 => qE x l (psN x l i)
/-- how many commands from p on -/
def nCm (x : Nat → Int32) (l : Nat) : Nat → Nat → Nat
  | 0, _ => 0
  | k + 1, p => if ¬ skp x l 150 p < l then 0 else nCm x l k (qE x l p) + 1
def StD (I : MI) (J : MJ) (x : Nat → Int32) (l c : Nat) : Prop := ∀ i, i < c → I 195 i = nI (qK x l (psN x l i)) ∧ (0 < naC (qK x l (psN x l i)) → J 196 i = fvP x l (psN x l i) ∧ J 197 i = svP x l (psN x l i))
theorem cmL_3 : ∀ i, i < 8 → 3 ≤ cmL i := by decide
section NA
variable {I I' : MI} {J J' : MJ} {R : MR} {S : Sh} {Q : SkQ} {n l p q c T : Nat} {x : Nat → Int32} {a a' : Bk} {s : Nat → Bk} {qt : Int32}
theorem cmd_at : ∀ (k i : Nat), i + k = 8 → cmd x l p q i k < 8 → q = p + cmL (cmd x l p q i k)
  | 0, i, _, h => by simp only [cmd] at h; omega
  | k + 1, i, hi, h => by
    simp only [cmd] at h ⊢
    by_cases e : q = p + cmL i ∧ wrt x l (cmC i) p 0 (cmL i) = true
    · rw [if_pos e]; exact e.1
    · rw [if_neg e] at h ⊢
      exact cmd_at k (i + 1) (by omega) h
theorem gEn_ge {b : Bool} : p ≤ gEn b x l p := by
  have h1 := skp_le (x := x) (n := l) 150 p
  cases b
  · have := (rdP_le (x := x) (n := l) 8 (skp x l 150 p)).1
    show p ≤ wP x l p
    unfold wP
    omega
  · have := (nuP_le (x := x) (n := l) 3 (skp x l 150 p)).1
    show p ≤ nP x l p
    unfold nP
    omega
theorem qE_ge (h : qK x l p < 8) : p + 4 ≤ qE x l p := by
  have h1 := skp_le (x := x) (n := l) 150 p
  have h2 : q1P x l p = skp x l 150 p + cmL (qK x l p) := cmd_at 8 0 (by omega) h
  have h3 := cmL_3 _ h
  have g0 : q1P x l p ≤ e0P x l p := gEn_ge
  have g1 : e0P x l p ≤ e1P x l p := gEn_ge
  obtain ⟨na2, -⟩ := na_ok _ h
  rcases (show naC (qK x l p) = 0 ∨ naC (qK x l p) = 1 ∨ naC (qK x l p) = 2 by omega) with e | e | e
  · rw [(qF_0 h e).2]
    have := skp_le (x := x) (n := l) 150 (q1P x l p)
    omega
  · rw [(qF_1 h e).2]
    have := skp_le (x := x) (n := l) 150 (e0P x l p)
    omega
  · rw [(qF_2 h e).2]
    have := skp_le (x := x) (n := l) 150 (e1P x l p)
    omega
theorem qE_le (hl : l ≤ 150) (h0 : skp x l 150 p < l) (h : qF x l p = -1) : qE x l p ≤ 151 := enP_le (qF_w hl h0 h).2.2.2.2 hl h
theorem StD_P (h : StD I J x l c) (m : mP c I J I' J') : StD I' J' x l c := fun i hi => by
  have h1 := h i hi
  have h2 := m.2.1 i (by omega)
  exact ⟨h2.1.trans h1.1, fun hn => ⟨h2.2.1.trans (h1.2 hn).1, h2.2.2.trans (h1.2 hn).2⟩⟩
theorem TxD_Y (h : TxD I x l) (m : mY I J I' J') : TxD I' x l := ⟨m.2.2.2.2.1.trans h.1, h.2.1, fun i hi => by rw [m.2.1]; exact h.2.2 i hi⟩
theorem l_M_reads (hS : MyS R S) : ∀ (k c : Nat) (I : MI) (J : MJ) (l1 l2 l3 : Value), c + k = 150 → 4 * c ≤ psN x l c → psN x l c ≤ 151 → TxD I x l → I 187 12 = nI (skp x l 150 (psN x l c)) → I 187 16 = nI c → StD I J x l c → (¬ fot x l k (psN x l c) = -1 → ∀ I' J', mY I J I' J' → I' 187 4 = I 187 4 → I' 187 12 = fot x l k (psN x l c) → Q 0 (some (.int 0)) I' J' R S) → (fot x l k (psN x l c) = -1 → ∀ I' J', mY I J I' J' → I' 187 4 = I 187 4 → I' 187 16 = nI (c + nCm x l k (psN x l c)) → StD I' J' x l (c + nCm x l k (psN x l c)) → c + nCm x l k (psN x l c) < 40 → Q 0 (some (.int 1)) I' J' R S) → Wp 245 14 [.ref 187, l1, l2, l3] [] I J R S Q := by
  intro k
  induction k with
  | zero =>
    intro c I J l1 l2 l3 hc h4 h5
    omega
  | succ k ih =>
    intro c I J l1 l2 l3 hc h4 h5 hT h2 h16 hs hF hQ
    have hl := hT.2.1
    rw [fot_s] at hF hQ
    simp only [nCm] at hQ
    by_cases q : skp x l 150 (psN x l c) < l
    · rw [if_neg (c := ¬ skp x l 150 (psN x l c) < l) (by omega)] at hF hQ
      rw [if_neg (c := ¬ skp x l 150 (psN x l c) < l) (by omega)] at hQ
      refine l_M_cmd hS h5 hT h2 (by omega) h16 q (fun hb I' J' m e => ?_) (fun q8 qf I' J' l1 l2 l3 m hT' e12 e16 e195 est => ?_)
      · by_cases q8 : qK x l (psN x l c) < 8
        · have nf : ¬ qF x l (psN x l c) = -1 := fun h => hb ⟨q8, h⟩
          rw [if_neg (c := ¬ qK x l (psN x l c) < 8) (by omega), if_neg nf] at hF
          rw [if_pos q8] at e
          exact hF nf I' J' m.1 m.2.2 e
        · rw [if_pos q8] at hF
          rw [if_neg q8] at e
          exact hF (nI_m1 (by omega)) I' J' m.1 m.2.2 e
      · rw [if_neg (c := ¬ qK x l (psN x l c) < 8) (by omega), if_pos qf] at hF hQ
        have pe : psN x l (c + 1) = qE x l (psN x l c) := rfl
        have ge := qE_ge q8
        have le := qE_le hl q qf
        have i1 := ih (c + 1) I' J' l1 l2 l3 (by omega) (by rw [pe]; omega) (by rw [pe]; exact le) hT' (by rw [pe]; exact e12) e16 (fun i hi => by
          by_cases e : i = c
          · rw [e]
            exact ⟨e195, est⟩
          · exact StD_P hs m i (by omega))
        rw [pe] at i1
        refine i1 (fun hn I2 J2 m2 t2 e2 => hF hn I2 J2 (mY_trans m.1 m2) (t2.trans m.2.2) e2) (fun hn I2 J2 m2 t2 e2 s2 lt => ?_)
        rw [show c + 1 + nCm x l k (qE x l (psN x l c)) = c + (nCm x l k (qE x l (psN x l c)) + 1) by omega] at e2 s2 lt
        exact hQ hn I2 J2 (mY_trans m.1 m2) (t2.trans m.2.2) e2 s2 lt
    · rw [if_pos (c := ¬ skp x l 150 (psN x l c) < l) q] at hF hQ
      rw [if_pos (c := ¬ skp x l 150 (psN x l c) < l) q] at hQ
      have k0 := hS.1.1
      have nlt : ¬ nI (skp x l 150 (psN x l c)) < nI l := nI_nlt (by omega) (by have := skp_le (x := x) (n := l) 150 (psN x l c); omega)
      rw [x_M_reads_14]
      simp only [x_M_reads_0, x_M_reads_1, x_M_reads_2, x_M_reads_5, x_M_reads_6, x_M_reads_7, x_M_reads_10, x_M_reads_11, x_M_reads_15, x_M_reads_18, x_M_reads_19, x_M_reads_22, x_M_reads_25, x_M_reads_26, x_M_reads_29, x_M_reads_30, x_M_reads_31, x_M_reads_32, x_M_reads_35, x_M_reads_36, x_M_reads_37, x_M_reads_38, x_M_reads_39, x_M_reads_42, x_M_reads_43, x_M_reads_46, x_M_reads_47, x_M_reads_48, x_M_reads_51, x_M_reads_52, x_M_reads_55, x_M_reads_56, x_M_reads_59, x_M_reads_60, x_M_reads_61, x_M_reads_62, x_M_reads_65, x_M_reads_66, x_M_reads_69, x_M_reads_70, x_M_reads_71, x_M_reads_72, x_M_reads_74, x_M_reads_75, x_M_reads_78, x_M_reads_79, x_M_reads_80, x_M_reads_81, x_M_reads_84, x_M_reads_87, x_M_reads_90, x_M_reads_91, x_M_reads_92, x_M_reads_93, x_M_reads_96, x_M_reads_97, x_M_reads_100, x_M_reads_101, x_M_reads_104, x_M_reads_105, x_M_reads_108, x_M_reads_111, x_M_reads_112, x_M_reads_115, x_M_reads_116, x_M_reads_119, x_M_reads_120, x_M_reads_121, x_M_reads_122, x_M_reads_125, x_M_reads_126, x_M_reads_129, x_M_reads_130, x_M_reads_133, x_M_reads_134, x_M_reads_137, x_M_reads_141, x_M_reads_144, x_M_reads_145, x_M_reads_147, x_M_reads_149, x_M_reads_152, x_M_reads_155, x_M_reads_156, x_M_reads_157, x_M_reads_158, x_M_reads_159, x_M_reads_162, x_M_reads_163, x_M_reads_164, x_M_reads_167, x_M_reads_168, x_M_reads_169, x_M_reads_172, x_M_reads_173, x_M_reads_174, x_M_reads_177, x_M_reads_178, x_M_reads_181, x_M_reads_184, x_M_reads_185, k0, h2, hT.1, nlt, bI_0, bI_t, bI_f, e10, isA30, isA31, isA33, isA40, isA42, isA43, rOkB0, rOkB1, rOkB, Ret_v, Ret_n, cmp_eq, cmp_lt, cmp_gt, nI_1, eq_self, if_true, if_false, reduceIte]
      exact hQ rfl I J mY_rfl (by simp) (by rw [Nat.add_zero]; exact h16) (by rw [Nat.add_zero]; exact hs) (by omega)
theorem c_M_reads (hS : MyS R S) (hT : TxD I x l) (hF : ¬ fot x l 150 0 = -1 → ∀ I' J', mY I J I' J' → I' 187 4 = I 187 4 → I' 187 12 = fot x l 150 0 → Q 0 (some (.int 0)) I' J' R S) (hQ : fot x l 150 0 = -1 → ∀ I' J', mY I J I' J' → I' 187 4 = I 187 4 → I' 187 16 = nI (nCm x l 150 0) → StD I' J' x l (nCm x l 150 0) → nCm x l 150 0 < 40 → Q 0 (some (.int 1)) I' J' R S) : Wp 245 0 [.ref 187, nov, nov, nov] [] I J R S Q := by
  have k0 := hS.1.1
  have hl := hT.2.1
  have m2 : mY I J (u2 (u2 I 187 12 (nI 0)) 187 16 0) J := mY_trans (mY_f (by omega)) (mY_f (by omega))
  have T2 := TxD_Y hT m2
  have sk := fun Q' => c_M_skips (Q := Q') (J := J) hS 150 0 (u2 (u2 I 187 12 (nI 0)) 187 16 0) (by omega) (by omega) T2 (by rw [u2_k (by omega), u2_eq])
  rw [nI_0] at sk m2 T2
  have m3 : mY I J (u2 (u2 (u2 I 187 12 0) 187 16 0) 187 12 (nI (skp x l 150 0))) J := mY_trans m2 (mY_f (by omega))
  have t4 : u2 (u2 (u2 I 187 12 0) 187 16 0) 187 12 (nI (skp x l 150 0)) 187 4 = I 187 4 := by rw [u2_k (by omega), u2_k (by omega), u2_k (by omega)]
  simp only [x_M_reads_0, x_M_reads_1, x_M_reads_2, x_M_reads_5, x_M_reads_6, x_M_reads_7, x_M_reads_10, x_M_reads_11, x_M_reads_15, x_M_reads_18, x_M_reads_19, x_M_reads_22, x_M_reads_25, x_M_reads_26, x_M_reads_29, x_M_reads_30, x_M_reads_31, x_M_reads_32, x_M_reads_35, x_M_reads_36, x_M_reads_37, x_M_reads_38, x_M_reads_39, x_M_reads_42, x_M_reads_43, x_M_reads_46, x_M_reads_47, x_M_reads_48, x_M_reads_51, x_M_reads_52, x_M_reads_55, x_M_reads_56, x_M_reads_59, x_M_reads_60, x_M_reads_61, x_M_reads_62, x_M_reads_65, x_M_reads_66, x_M_reads_69, x_M_reads_70, x_M_reads_71, x_M_reads_72, x_M_reads_74, x_M_reads_75, x_M_reads_78, x_M_reads_79, x_M_reads_80, x_M_reads_81, x_M_reads_84, x_M_reads_87, x_M_reads_90, x_M_reads_91, x_M_reads_92, x_M_reads_93, x_M_reads_96, x_M_reads_97, x_M_reads_100, x_M_reads_101, x_M_reads_104, x_M_reads_105, x_M_reads_108, x_M_reads_111, x_M_reads_112, x_M_reads_115, x_M_reads_116, x_M_reads_119, x_M_reads_120, x_M_reads_121, x_M_reads_122, x_M_reads_125, x_M_reads_126, x_M_reads_129, x_M_reads_130, x_M_reads_133, x_M_reads_134, x_M_reads_137, x_M_reads_141, x_M_reads_144, x_M_reads_145, x_M_reads_147, x_M_reads_149, x_M_reads_152, x_M_reads_155, x_M_reads_156, x_M_reads_157, x_M_reads_158, x_M_reads_159, x_M_reads_162, x_M_reads_163, x_M_reads_164, x_M_reads_167, x_M_reads_168, x_M_reads_169, x_M_reads_172, x_M_reads_173, x_M_reads_174, x_M_reads_177, x_M_reads_178, x_M_reads_181, x_M_reads_184, x_M_reads_185, k0, sk, bI_0, bI_t, bI_f, e10, isA30, isA31, isA33, isA40, isA42, isA43, rOkB0, rOkB1, rOkB, Ret_v, Ret_n, cmp_eq, cmp_lt, cmp_gt, nI_1, eq_self, if_true, if_false, reduceIte]
  refine l_M_reads hS 150 0 _ J _ _ _ (by omega) (by show 4 * 0 ≤ 0; omega) (by show 0 ≤ 151; omega) (TxD_Y hT m3) u2_eq (by rw [u2_k (by omega), u2_eq]; decide) (fun i hi => by omega) (fun hn I' J' m t e => hF hn I' J' (mY_trans m3 m) (t.trans t4) e) (fun hn I' J' m t e s lt => ?_)
  rw [Nat.zero_add] at e s lt
  exact hQ hn I' J' (mY_trans m3 m) (t.trans t4) e s lt
end NA
