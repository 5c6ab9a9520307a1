section SN8
variable {base : Nat} {ca : Nat → Nat} {fm : Value} {D : va_G} {p : Program} {l : Launch} {e : Env} {Rm : Room} {s : State} {mid : MethodId} {args : Array Value} {below : List Frame} {meth : Method} {c : Code} {k0 k1 : Nat} {Q : State → Prop}
variable {m pc : Nat} {ls st : List Value} {I : MI} {J : MJ} {R : MR} {S : Sh}
theorem sk_max1 : Cond.static Lib.Math.max.name ∈ sk_TB := sk_memT (i := 126) rfl rfl
theorem sk_max2 : Cond.initialized "java/lang/Math" ∈ sk_TB := sk_memT (i := 9) rfl rfl
theorem sk_max3 : Cond.code Lib.Math.max.name Lib.Math.max.code 2 (some .int) ∈ sk_TB := sk_memT (i := 127) rfl rfl
theorem sk_min1 : Cond.static Lib.Math.min.name ∈ sk_TB := sk_memT (i := 496) rfl rfl
theorem sk_min3 : Cond.code Lib.Math.min.name Lib.Math.min.code 2 (some .int) ∈ sk_TB := sk_memT (i := 497) rfl rfl
theorem sk_nw_stat : ∀ c, c < 19 → ∀ e ∈ sk_lkMT.getD c [], (e.2 = 250 ∨ e.2 = 251) → sk_nw c e.1 = none := by decide +kernel
theorem k_max (C : Cx base ca fm p l s mid args meth c Rm m) {idx : Nat} {x y : Int32} (hl : sk_lkM (sk_cl m) idx = some 250) (hfr : 1 ≤ sk_fr m) (hlo : catS st + 20 ≤ sk_lo m) (hr1 : cN S ≤ Rm.cells + k0) (hr2 : sN S ≤ Rm.slots + k1) (hd : decode (sk_by m) pc = .ok (.invokestatic idx, 3))
    (kk : Wk base ca fm D p l e Rm s mid args below meth c k0 k1 Q m (pc + 3) ls (.int (if x < y then y else x) :: st) I J R S) : Wk base ca fm D p l e Rm s mid args below meth c k0 k1 Q m pc ls (.int y :: .int x :: st) I J R S := by
  obtain ⟨hx, hb, hml, hown, hts, -, -, -, -, hF, hL, -, -, h19, hf, -⟩ := C
  intro H locs lsR cells slots h1 h2 h3 h4 h5 h6
  have hs := sk_ml_of h19 hl
  have hn := sk_nw_stat _ h19 _ (sk_lookup hl) (Or.inl rfl)
  unfold sk_ml at hs
  dsimp only at hs hn
  rw [hn] at hs
  have hs2 : sk_isw (sk_hM (sk_cl m) idx) (.methodLink (sk_cn (sk_cl m)) idx (sk_nm 250)) = true := hs
  exact va_mmax hx hb (hml.trans h3.1.symm) hown (hts _ (sk_isw_mem hs2)) (hts _ sk_max1) (hts _ sk_max2) (hts _ sk_max3) (by omega) (by rw [catS_tr hf]; omega) (by omega) (by omega) hd (kk H locs lsR cells slots h1 h2 h3 h4 h5 h6)
theorem k_min (C : Cx base ca fm p l s mid args meth c Rm m) {idx : Nat} {x y : Int32} (hl : sk_lkM (sk_cl m) idx = some 251) (hfr : 1 ≤ sk_fr m) (hlo : catS st + 20 ≤ sk_lo m) (hr1 : cN S ≤ Rm.cells + k0) (hr2 : sN S ≤ Rm.slots + k1) (hd : decode (sk_by m) pc = .ok (.invokestatic idx, 3))
    (kk : Wk base ca fm D p l e Rm s mid args below meth c k0 k1 Q m (pc + 3) ls (.int (if y < x then y else x) :: st) I J R S) : Wk base ca fm D p l e Rm s mid args below meth c k0 k1 Q m pc ls (.int y :: .int x :: st) I J R S := by
  obtain ⟨hx, hb, hml, hown, hts, -, -, -, -, hF, hL, -, -, h19, hf, -⟩ := C
  intro H locs lsR cells slots h1 h2 h3 h4 h5 h6
  have hs := sk_ml_of h19 hl
  have hn := sk_nw_stat _ h19 _ (sk_lookup hl) (Or.inr rfl)
  unfold sk_ml at hs
  dsimp only at hs hn
  rw [hn] at hs
  have hs2 : sk_isw (sk_hM (sk_cl m) idx) (.methodLink (sk_cn (sk_cl m)) idx (sk_nm 251)) = true := hs
  exact va_mmin hx hb (hml.trans h3.1.symm) hown (hts _ (sk_isw_mem hs2)) (hts _ sk_min1) (hts _ sk_max2) (hts _ sk_min3) (by omega) (by rw [catS_tr hf]; omega) (by omega) (by omega) hd (kk H locs lsR cells slots h1 h2 h3 h4 h5 h6)
/-! ends -/
def QcO (base : Nat) (ca : Nat → Nat) (fm : Value) (D : va_G) (o : SkO) : Array Value → State → Outcome → State → Prop := fun _ st oc t =>
  oc = .returned (o.1.2.map (tr base ca fm)) ∧ o.1.1 = 0 ∧ Hd base ca fm D t t.heap o.2.1 o.2.2.1 o.2.2.2.1 o.2.2.2.2 ∧ va_F (sk_A base) st t
def exN (e : Nat) : String := if e = 0 then "java/lang/IllegalArgumentException" else "java/lang/IllegalStateException"
def XcO (base : Nat) (ca : Nat → Nat) (fm : Value) (D : va_G) (o : SkO) : String → State → State → Prop := fun E st t =>
  ∃ x : Nat, o.1.1 = x + 1 ∧ x < 2 ∧ E = exN x ∧ Hd base ca fm D t t.heap o.2.1 o.2.2.1 o.2.2.2.1 o.2.2.2.2 ∧ va_F (sk_A base) st t
abbrev WQ (base : Nat) (ca : Nat → Nat) (fm : Value) (D : va_G) (below : List Frame) (args : Array Value) (s : State) (Rm : Room) (o : SkO) : State → Prop := vx_MQ below (QcO base ca fm D o) (XcO base ca fm D o) args s Rm.cells Rm.slots (sk_A base)
theorem rOk_nar {t : FieldType} {v : Int32} (h : rOk (some t) v = true) (ht : t ≠ .int) : narrow t (.int v) = .int v := by
  unfold rOk at h
  split at h
  · rename_i e; exact absurd (Option.some.inj e) ht
  · rename_i e
    cases e
    rw [Bool.or_eq_true] at h
    rcases h with q | q
    · rw [of_decide_eq_true q]; exact nar_b0.1
    · rw [of_decide_eq_true q]; exact nar_b1.1
  · rename_i e
    cases e
    have q := of_decide_eq_true h
    rw [← q]; exact pk_nc v
  · rename_i e
    cases e
    have q := of_decide_eq_true h
    rw [← q]; exact pk_nb v
  · cases h
theorem k_ireturn (C : Cx base ca fm p l s mid args meth c Rm m) {v : Int32} (hr : rOk (sk_rt m) v = true) (hr1 : cN S ≤ Rm.cells + k0) (hr2 : sN S ≤ Rm.slots + k1) (hd : decode (sk_by m) pc = .ok (.ireturn, 1)) :
    Wk base ca fm D p l e Rm s mid args below meth c k0 k1 (WQ base ca fm D below args s Rm ((0, some (.int v)), I, J, R, S)) m pc ls [.int v] I J R S := by
  obtain ⟨hx, hb, -, -, -, hrt, hlk, -⟩ := C
  intro H locs lsR cells slots h1 h2 h3 h4 h5 h6
  refine vx_ret (W.widen (k := Rm.cells) (n := Rm.slots) (by omega) (by omega) ?_)
  have hq : ∀ t : State, t.heap = H → s.WarmedH t.vm → QcO base ca fm D ((0, some (.int v)), I, J, R, S) args s (.returned (some (.int v))) t := fun t ht hW => ⟨rfl, rfl, by show Hd _ _ _ _ _ t.heap _ _ _ _; rw [ht]; exact Hd_moved base ca fm D hW.alike h1, h2.F ht⟩
  by_cases hi : sk_rt m = some .int
  · exact W.iret hx hb (hrt.trans hi) hq h2.2.2 hd hlk
  · cases ht : sk_rt m with
    | none => rw [ht] at hr; cases hr
    | some t =>
      rw [ht] at hr
      exact W.zret hx hb (hrt.trans ht) (rOk_nar hr (fun q => hi (by rw [ht, q]))) hq h2.2.2 hd hlk
theorem k_lreturn (C : Cx base ca fm p l s mid args meth c Rm m) {v : Int64} (hr : sk_rt m = some .long) (hr1 : cN S ≤ Rm.cells + k0) (hr2 : sN S ≤ Rm.slots + k1) (hd : decode (sk_by m) pc = .ok (.lreturn, 1)) :
    Wk base ca fm D p l e Rm s mid args below meth c k0 k1 (WQ base ca fm D below args s Rm ((0, some (.long v)), I, J, R, S)) m pc ls [.long v] I J R S := by
  obtain ⟨hx, hb, -, -, -, hrt, hlk, -⟩ := C
  intro H locs lsR cells slots h1 h2 h3 h4 h5 h6
  refine vx_ret (W.widen (k := Rm.cells) (n := Rm.slots) (by omega) (by omega) ?_)
  exact W.lret hx hb (hrt.trans hr) (fun t ht hW => ⟨rfl, rfl, by show Hd _ _ _ _ _ t.heap _ _ _ _; rw [ht]; exact Hd_moved base ca fm D hW.alike h1, h2.F ht⟩) h2.2.2 hd hlk
theorem k_vreturn (C : Cx base ca fm p l s mid args meth c Rm m) (hr : sk_rt m = none) (hr1 : cN S ≤ Rm.cells + k0) (hr2 : sN S ≤ Rm.slots + k1) (hd : decode (sk_by m) pc = .ok (.return_, 1)) :
    Wk base ca fm D p l e Rm s mid args below meth c k0 k1 (WQ base ca fm D below args s Rm ((0, none), I, J, R, S)) m pc ls [] I J R S := by
  obtain ⟨hx, hb, -, -, -, hrt, hlk, -⟩ := C
  intro H locs lsR cells slots h1 h2 h3 h4 h5 h6
  refine vx_ret (W.widen (k := Rm.cells) (n := Rm.slots) (by omega) (by omega) ?_)
  exact W.vret hx hb (hrt.trans hr) (fun t ht hW => ⟨rfl, rfl, by show Hd _ _ _ _ _ t.heap _ _ _ _; rw [ht]; exact Hd_moved base ca fm D hW.alike h1, h2.F ht⟩) h2.2.2 hd hlk
theorem isRefT_of {t : Option FieldType} (h : isRefT t = true) : ∃ rt, t = some rt ∧ ((∃ n, rt = .object n) ∨ ∃ u, rt = .array u) := by
  unfold isRefT at h
  split at h
  · exact ⟨_, rfl, Or.inl ⟨_, rfl⟩⟩
  · exact ⟨_, rfl, Or.inr ⟨_, rfl⟩⟩
  · cases h
theorem k_areturn (C : Cx base ca fm p l s mid args meth c Rm m) {v : Value} (hv : v = .null ∨ ∃ a, v = .ref a) (hr : isRefT (sk_rt m) = true) (hr1 : cN S ≤ Rm.cells + k0) (hr2 : sN S ≤ Rm.slots + k1) (hd : decode (sk_by m) pc = .ok (.areturn, 1)) :
    Wk base ca fm D p l e Rm s mid args below meth c k0 k1 (WQ base ca fm D below args s Rm ((0, some v), I, J, R, S)) m pc ls [v] I J R S := by
  obtain ⟨hx, hb, -, -, -, hrt, hlk, -⟩ := C
  intro H locs lsR cells slots h1 h2 h3 h4 h5 h6
  refine vx_ret (W.widen (k := Rm.cells) (n := Rm.slots) (by omega) (by omega) ?_)
  obtain ⟨rt, e1, e2⟩ := isRefT_of hr
  refine W.aret hx hb (hrt.trans e1) e2 ?_ (fun t ht hW => ⟨rfl, rfl, by show Hd _ _ _ _ _ t.heap _ _ _ _; rw [ht]; exact Hd_moved base ca fm D hW.alike h1, h2.F ht⟩) h2.2.2 hd hlk
  rcases hv with rfl | ⟨a, rfl⟩
  · exact Or.inl rfl
  · exact Or.inr ⟨_, rfl⟩
end SN8
