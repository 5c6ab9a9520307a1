section SN4
variable {base : Nat} {ca : Nat → Nat} {fm : Value} {D : va_G} {p : Program} {l : Launch} {e : Env} {Rm : Room} {s : State} {mid : MethodId} {args : Array Value} {below : List Frame} {meth : Method} {c : Code} {k0 k1 : Nat} {Q : State → Prop}
variable {m pc : Nat} {ls st : List Value} {I : MI} {J : MJ} {R : MR} {S : Sh}
theorem and3 {a b : Bool} (h : (a && b) = true) : a = true ∧ b = true := by simpa using h
theorem inb_ok {i : Int32} {n : Nat} (h : inb i n = true) : ¬ (i < 0 ∨ n ≤ i.toNatClampNeg) ∧ i.toNatClampNeg < n ∧ ¬ i < 0 := by
  obtain ⟨h1, h2⟩ := and3 h
  have h1 := of_decide_eq_true h1
  have h2 := of_decide_eq_true h2
  have h3 : ¬ i < 0 := by rw [Int32.lt_iff_toInt_lt, Int32.toInt_zero]; omega
  have h4 : i.toNatClampNeg < n := by
    have : i.toNatClampNeg = i.toInt.toNat := rfl
    omega
  exact ⟨fun q => q.elim h3 (fun z => by omega), h4, h3⟩
theorem k_getstatic (C : Cx base ca fm p l s mid args meth c Rm m) {idx j : Nat} (hl : sk_lkS (sk_cl m) idx = some j) (hd : decode (sk_by m) pc = .ok (.getstatic idx, 3)) (k : Wk base ca fm D p l e Rm s mid args below meth c k0 k1 Q m (pc + 3) ls (stv j :: st) I J R S) : Wk base ca fm D p l e Rm s mid args below meth c k0 k1 Q m pc ls st I J R S := by
  obtain ⟨hx, hb, -, hown, hts, -, -, -, -, -, -, -, -, h19, hf, -⟩ := C
  intro H locs lsR cells slots h1 h2 h3 h4 h5 h6
  have hs := sk_sl_of h19 hl
  unfold sk_sl at hs
  dsimp only at hs
  cases hq : sk_sfL[j]? with
  | none => rw [hq] at hs; cases hs
  | some q =>
    rw [hq] at hs
    obtain ⟨cf, kf, fi, f, a, cell, g1, g2, g3, g4, g5, g6, g7, g8⟩ := h1.2.2.2.2.2.2.2.1 j q hq
    exact W.gets hx hb hown (hts _ (sk_isw_mem hs)) g1 g2 g3 g4 g5 (fun e => by rw [e] at g6; cases g6) g7 rfl hd (k H locs lsR cells slots h1 h2 h3 h4 h5 h6)
theorem k_ldc2 (C : Cx base ca fm p l s mid args meth c Rm m) {idx : Nat} {v : Int64} (hl : sk_lkK (sk_cl m) idx = some v) (hd : decode (sk_by m) pc = .ok (.ldc2_w idx, 3)) (k : Wk base ca fm D p l e Rm s mid args below meth c k0 k1 Q m (pc + 3) ls (.long v :: st) I J R S) : Wk base ca fm D p l e Rm s mid args below meth c k0 k1 Q m pc ls st I J R S := by
  obtain ⟨hx, hb, -, hown, hts, -, -, -, -, -, -, -, -, h19, hf, -⟩ := C
  intro H locs lsR cells slots h1 h2 h3 h4 h5 h6
  exact lv_ldc2 hx hb hown (hts _ (sk_kl_of h19 hl)) hd (k H locs lsR cells slots h1 h2 h3 h4 h5 h6)
theorem k_ldcI (C : Cx base ca fm p l s mid args meth c Rm m) {idx : Nat} {v : Int32} (hl : sk_lkI (sk_cl m) idx = some v) (hd : decode (sk_by m) pc = .ok (.ldc idx, 2)) (k : Wk base ca fm D p l e Rm s mid args below meth c k0 k1 Q m (pc + 2) ls (.int v :: st) I J R S) : Wk base ca fm D p l e Rm s mid args below meth c k0 k1 Q m pc ls st I J R S := by
  obtain ⟨hx, hb, -, hown, hts, -, -, -, -, -, -, -, -, h19, hf, -⟩ := C
  intro H locs lsR cells slots h1 h2 h3 h4 h5 h6
  exact lv_ldc hx hb hown (hts _ (sk_il_of h19 hl)) hd (k H locs lsR cells slots h1 h2 h3 h4 h5 h6)
theorem k_ldcwI (C : Cx base ca fm p l s mid args meth c Rm m) {idx : Nat} {v : Int32} (hl : sk_lkI (sk_cl m) idx = some v) (hd : decode (sk_by m) pc = .ok (.ldc_w idx, 3)) (k : Wk base ca fm D p l e Rm s mid args below meth c k0 k1 Q m (pc + 3) ls (.int v :: st) I J R S) : Wk base ca fm D p l e Rm s mid args below meth c k0 k1 Q m pc ls st I J R S := by
  obtain ⟨hx, hb, -, hown, hts, -, -, -, -, -, -, -, -, h19, hf, -⟩ := C
  intro H locs lsR cells slots h1 h2 h3 h4 h5 h6
  exact lv_ldcw hx hb hown (hts _ (sk_il_of h19 hl)) hd (k H locs lsR cells slots h1 h2 h3 h4 h5 h6)
theorem sk_ll_all : ∀ c, c < 19 → ∀ e ∈ sk_lkLT.getD c [], e.2 < 35 ∧ ∃ t, (sk_cn c, e.1, t, e.2) ∈ sk_stL := by
  intro c hc e he
  have h : ∀ c, c < 19 → ∀ e ∈ sk_lkLT.getD c [], (decide (e.2 < 35) && sk_stL.any (fun q => decide (q.1 = sk_cn c ∧ q.2.1 = e.1 ∧ q.2.2.2 = e.2))) = true := by decide +kernel
  obtain ⟨h1, h2⟩ := and3 (h c hc e he)
  obtain ⟨q, hq, h3⟩ := List.any_eq_true.mp h2
  obtain ⟨a, b, d⟩ := of_decide_eq_true h3
  exact ⟨of_decide_eq_true h1, q.2.2.1, by rw [← a, ← b, ← d]; exact hq⟩
theorem k_ldcS (C : Cx base ca fm p l s mid args meth c Rm m) {idx v : Nat} (hl : sk_lkL (sk_cl m) idx = some v) (hd : decode (sk_by m) pc = .ok (.ldc idx, 2)) (k : Wk base ca fm D p l e Rm s mid args below meth c k0 k1 Q m (pc + 2) ls (.ref v :: st) I J R S) : Wk base ca fm D p l e Rm s mid args below meth c k0 k1 Q m pc ls st I J R S := by
  obtain ⟨hx, hb, -, hown, hts, -, -, -, hKv, -, -, -, -, h19, hf, -⟩ := C
  intro H locs lsR cells slots h1 h2 h3 h4 h5 h6
  obtain ⟨a1, t, a2⟩ := sk_ll_all _ h19 _ (sk_lookup hl)
  have hz := hKv.2.1 _ a2
  have k9 := k H locs lsR cells slots h1 h2 h3 h4 h5 h6
  rw [List.map_cons, show tr base ca fm (.ref v) = .ref (ca v) by show Value.ref (ad base ca v) = _; rw [ad_lo a1]] at k9
  exact va_ldcS hx hb hown hz hd k9
theorem k_getfield (C : Cx base ca fm p l s mid args meth c Rm m) {idx ci k t fin nest a : Nat} (hl : sk_lkF (sk_cl m) idx = some (ci, k, t, fin, nest)) (ha : S.1 a = ci) (hd : decode (sk_by m) pc = .ok (.getfield idx, 3))
    (kk : Wk base ca fm D p l e Rm s mid args below meth c k0 k1 Q m (pc + 3) ls (getF t a k I J R :: st) I J R S) : Wk base ca fm D p l e Rm s mid args below meth c k0 k1 Q m pc ls (.ref a :: st) I J R S := by
  obtain ⟨hx, hb, -, hown, hts, -, -, -, hKv, -, -, -, -, h19, hf, -⟩ := C
  intro H locs lsR cells slots h1 h2 h3 h4 h5 h6
  have k9 := kk H locs lsR cells slots h1 h2 h3 h4 h5 h6
  have hs := sk_fl_of h19 hl
  have hcl := h1.2.2.2.2.2.2.1 a
  unfold sk_fl at hs
  dsimp only at hs
  by_cases h9 : ci < 9
  · rw [if_pos h9] at hs
    obtain ⟨hs, hs5⟩ := and3 hs
    obtain ⟨hs, hs4⟩ := and3 hs
    obtain ⟨hs, hs3⟩ := and3 hs
    obtain ⟨hs1, hs2⟩ := and3 hs
    have hk := of_decide_eq_true hs1
    have ht := of_decide_eq_true hs2
    obtain ⟨CC, T, N, o1, o2, o3, o4, o5, o6, o7⟩ := sk_ok_all ci h9
    rw [← o2] at hk
    obtain ⟨-, r, e1, cell, q1, q2, q3, q4⟩ := hcl.1 (by rw [ha]; exact h9)
    rw [ha] at e1 q2 q4
    have hr := Option.some.inj (e1.symm.trans o1)
    subst hr
    obtain ⟨hSl, hfc, kC, hkC, hkind⟩ := h1.1.1 ci _ o1
    obtain ⟨cf, kf, fi, f, hi, hsl⟩ := hSl k hk
    have q5 := q4 k hk
    dsimp only at q5
    rw [← ht] at q5
    have hN : sk_fN ci k = ((T k).1, (T k).2.1, (T k).2.2.1) := by unfold sk_fN; rw [o1]
    rw [hN] at hs5
    have hst := (u_facts hfc hkC (u_lays hts o3 hk) hi).1
    cases nest with
    | zero => exact W.getf hx hb hown (hts _ (sk_isw_mem hs5)) hi hst q1 (by rw [q3]; exact fun h => by cases h) (by rw [hsl]; exact q5) rfl rfl hd k9
    | succ nest =>
      dsimp only at hs5
      cases hj : sk_nw (sk_cl m) idx with
      | none => rw [hj] at hs5; cases hs5
      | some j =>
        rw [hj] at hs5
        have hw := hKv.1 _ (List.mem_of_getElem? (of_decide_eq_true hs5))
        exact va_Wgetf hx hb hown (va_Nw.use rfl hw) hi hst q1 (by rw [q3]; exact fun h => by cases h) (by rw [hsl]; exact q5) rfl rfl hd k9
  · rw [if_neg h9] at hs
    cases hq : sk_cf ci k with
    | none => rw [hq] at hs; cases hs
    | some q =>
      rw [hq] at hs
      obtain ⟨hs, hs5⟩ := and3 hs
      obtain ⟨hs1, hs2⟩ := and3 hs
      have ht := of_decide_eq_true hs1
      have hcc := of_decide_eq_true hs2
      obtain ⟨-, -, o⟩ := hcl.2.1 (by rw [ha]; exact hcc)
      rw [ha] at o
      obtain ⟨cf, kf, fi, f, cell, g1, g2, g3, g4, g5, g6⟩ := o k q hq
      rw [← ht] at g5
      cases nest with
      | zero => exact W.getf hx hb hown (hts _ (sk_isw_mem hs5)) g1 g2 g3 g4 g5 rfl rfl hd k9
      | succ nest =>
        cases hj : sk_nw (sk_cl m) idx with
        | none => rw [hj] at hs5; cases hs5
        | some j =>
          rw [hj] at hs5
          have hw := hKv.1 _ (List.mem_of_getElem? (of_decide_eq_true hs5))
          exact va_Wgetf hx hb hown (va_Nw.use rfl hw) g1 g2 g3 g4 g5 rfl rfl hd k9
end SN4
