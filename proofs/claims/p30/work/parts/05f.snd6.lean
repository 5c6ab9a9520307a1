section SN7
variable {base : Nat} {ca : Nat → Nat} {fm : Value} {D : va_G} {p : Program} {l : Launch} {e : Env} {Rm : Room} {s : State} {mid : MethodId} {args : Array Value} {below : List Frame} {meth : Method} {c : Code} {k0 k1 : Nat} {Q : State → Prop}
variable {m pc : Nat} {ls st : List Value} {I : MI} {J : MJ} {R : MR} {S : Sh}
theorem u1_ne {α : Type} {f : Nat → Nat → α} {a : Nat} {v : α} : ∀ b j, b ≠ a → u1 f a v b j = f b j := fun b j h => if_neg h
theorem u1_at {α : Type} (f : Nat → Nat → α) (a : Nat) (v : α) (j : Nat) : u1 f a v a j = v := if_pos rfl
theorem sh_new_at (S : Sh) (k n w : Nat) : (sh_new S k n w).1 S.2.2.1 = k ∧ (sh_new S k n w).2.1 S.2.2.1 = n := ⟨if_pos rfl, if_pos rfl⟩
theorem cN_new (S : Sh) (k n w : Nat) : cN (sh_new S k n w) = cN S + 1 := by
  show S.2.2.1 + 1 + S.2.2.2.1 = S.2.2.1 + S.2.2.2.1 + 1
  omega
theorem sN_new (S : Sh) (k n w : Nat) : sN (sh_new S k n w) = sN S + w := rfl
theorem arrV_aAt {U : State} {H1 : Heap} {a : Nat} {ty : FieldType} {n : Nat} {f g : Nat → Value} {cA : ClassId} (h1 : H1[a]? = some (arrV cA n f)) (h2 : ArrOfT U cA ty) (hg : ∀ j, g j = f j) : aAt U H1 a ty n g :=
  ⟨_, h1, h2 _ _, fun q => (by cases q), arrV_size _ _ _, fun j hj => by rw [hg]; exact arrV_read _ _ hj⟩
theorem S_more {A : Nat → Prop} {H0 H H1 : Heap} {locs : List Loc} (h : va_S A H0 H locs) (hz : H1.size = H.size + 1) (o : ∀ q, q < H.size → H1[q]? = H[q]?) : va_S A H0 H1 locs :=
  ⟨Nat.le_trans h.1 (by omega), fun x h1 h2 => (o x (Nat.lt_of_lt_of_le h1 h.1)).trans (h.2.1 x h1 h2), h.2.2⟩
theorem nneg {n : Int32} (h : 0 ≤ n.toInt) : ¬ n < 0 := by rw [Int32.lt_iff_toInt_lt, Int32.toInt_zero]; omega
theorem k_newI (C : Cx base ca fm p l s mid args meth c Rm m) {n : Int32} (hn : 0 ≤ n.toInt) (hn2 : n.toInt ≤ 100000) (h0 : S.2.2.2.1 = 0) (r1 : cN (sh_new S 30 (ix n) (ix n)) ≤ Rm.cells + k0) (r2 : sN (sh_new S 30 (ix n) (ix n)) ≤ Rm.slots + k1) (hd : decode (sk_by m) pc = .ok (.newarray .int, 2))
    (kk : Wk base ca fm D p l e Rm s mid args below meth c k0 k1 Q m (pc + 2) ls (.ref S.2.2.1 :: st) (u1 I S.2.2.1 0) J R (sh_new S 30 (ix n) (ix n))) : Wk base ca fm D p l e Rm s mid args below meth c k0 k1 Q m pc ls (.int n :: st) I J R S := by
  obtain ⟨hx, hb, -, -, hts, -⟩ := C
  intro H locs lsR cells slots h1 h2 h3 h4 h5 h6
  have hsz := h1.2.2.1 h0
  have h35 := h1.2.1
  rw [cN_new] at r1
  rw [sN_new] at r2
  have hnn : ix n ≤ 100000 := by show n.toInt.toNat ≤ 100000; omega
  refine W.newaK hx hb (atype := .int) (hts _ sk_arI) rfl hd rfl (nneg hn) rfl (by show ix n * 4 ≤ _; omega) (by omega) (by show slots + ix n ≤ _; omega) rfl fun H1 cA z1 z2 z3 z4 => ?_
  have hk9 := kk H1 locs lsR (cells + 1) (slots + ix n) (Hd_new base ca fm D h1 h0 z2 z3 u1_ne (fun _ _ _ => rfl) (fun _ _ _ => rfl) ?_) (S_more h2 z2 z3) h3 h4 (by rw [cN_new]; omega) (by rw [sN_new]; omega)
  · have e9 : tr base ca fm (.ref S.2.2.1) = .ref H.size := by
      show Value.ref (ad base ca S.2.2.1) = _
      rw [ad_hi h35, hsz]
    rw [List.map_cons, e9] at hk9
    exact hk9
  · have e9 : ad base ca S.2.2.1 = H.size := by rw [ad_hi h35, hsz]
    unfold Cl
    rw [(sh_new_at S _ _ _).1, (sh_new_at S _ _ _).2, e9]
    refine ⟨fun q => by omega, fun q => by omega, fun _ => ⟨h35, arrV_aAt z1 z4 fun j => ?_⟩, fun q => by omega, fun q => by omega, fun q => by omega, fun q => by omega, fun q => by omega⟩
    rw [u1_at]; rfl
theorem k_newL (C : Cx base ca fm p l s mid args meth c Rm m) {n : Int32} (hn : 0 ≤ n.toInt) (hn2 : n.toInt ≤ 100000) (h0 : S.2.2.2.1 = 0) (r1 : cN (sh_new S 31 (ix n) (ix n)) ≤ Rm.cells + k0) (r2 : sN (sh_new S 31 (ix n) (ix n)) ≤ Rm.slots + k1) (hd : decode (sk_by m) pc = .ok (.newarray .long, 2))
    (kk : Wk base ca fm D p l e Rm s mid args below meth c k0 k1 Q m (pc + 2) ls (.ref S.2.2.1 :: st) I (u1 J S.2.2.1 0) R (sh_new S 31 (ix n) (ix n))) : Wk base ca fm D p l e Rm s mid args below meth c k0 k1 Q m pc ls (.int n :: st) I J R S := by
  obtain ⟨hx, hb, -, -, hts, -⟩ := C
  intro H locs lsR cells slots h1 h2 h3 h4 h5 h6
  have hsz := h1.2.2.1 h0
  have h35 := h1.2.1
  rw [cN_new] at r1
  rw [sN_new] at r2
  have hnn : ix n ≤ 100000 := by show n.toInt.toNat ≤ 100000; omega
  refine W.newaK hx hb (atype := .long) (hts _ sk_arL) rfl hd rfl (nneg hn) rfl (by show ix n * 8 ≤ _; omega) (by omega) (by show slots + ix n ≤ _; omega) rfl fun H1 cA z1 z2 z3 z4 => ?_
  have hk9 := kk H1 locs lsR (cells + 1) (slots + ix n) (Hd_new base ca fm D h1 h0 z2 z3 (fun _ _ _ => rfl) u1_ne (fun _ _ _ => rfl) ?_) (S_more h2 z2 z3) h3 h4 (by rw [cN_new]; omega) (by rw [sN_new]; omega)
  · have e9 : tr base ca fm (.ref S.2.2.1) = .ref H.size := by
      show Value.ref (ad base ca S.2.2.1) = _
      rw [ad_hi h35, hsz]
    rw [List.map_cons, e9] at hk9
    exact hk9
  · have e9 : ad base ca S.2.2.1 = H.size := by rw [ad_hi h35, hsz]
    unfold Cl
    rw [(sh_new_at S _ _ _).1, (sh_new_at S _ _ _).2, e9]
    refine ⟨fun q => by omega, fun q => by omega, fun q => by omega, fun _ => ⟨h35, arrV_aAt z1 z4 fun j => ?_⟩, fun q => by omega, fun q => by omega, fun q => by omega, fun q => by omega⟩
    rw [u1_at]; rfl
theorem k_newB (C : Cx base ca fm p l s mid args meth c Rm m) {idx : Nat} {n : Int32} (hn : 0 ≤ n.toInt) (hn2 : n.toInt ≤ 100000) (h0 : S.2.2.2.1 = 0) (hl : sk_lkN (sk_cl m) idx = some 0) (r1 : cN (sh_new S 33 (ix n) (ix n)) ≤ Rm.cells + k0) (r2 : sN (sh_new S 33 (ix n) (ix n)) ≤ Rm.slots + k1) (hd : decode (sk_by m) pc = .ok (.anewarray idx, 3))
    (kk : Wk base ca fm D p l e Rm s mid args below meth c k0 k1 Q m (pc + 3) ls (.ref S.2.2.1 :: st) I J (u1 R S.2.2.1 .null) (sh_new S 33 (ix n) (ix n))) : Wk base ca fm D p l e Rm s mid args below meth c k0 k1 Q m pc ls (.int n :: st) I J R S := by
  obtain ⟨hx, hb, -, hown, hts, -, -, -, -, -, -, -, -, h19, hf, -⟩ := C
  intro H locs lsR cells slots h1 h2 h3 h4 h5 h6
  have hsz := h1.2.2.1 h0
  have h35 := h1.2.1
  rw [cN_new] at r1
  rw [sN_new] at r2
  have hs := sk_nl_of h19 hl
  have hcl9 : Cond.classLink (sk_cn (sk_cl m)) idx "StuckKeys$Book" ∈ sk_TB := sk_isw_mem (and3 (and3 hs).1).1
  have hnn : ix n ≤ 100000 := by show n.toInt.toNat ≤ 100000; omega
  have hao : va_AO "StuckKeys$Book" s := h1.2.2.2.2.2.2.2.2.2.2.2.2
  refine W.anew hx hb hown (hts _ hcl9) (va_AO.use hao) rfl hd rfl (nneg hn) (by show ix n * 4 ≤ _; omega) (by omega) (by show slots + ix n ≤ _; omega) fun cA kA comp f1 f2 f3 f4 => ?_
  generalize hH1 : H.push ({ cls := cA, slots := Array.replicate n.toNatClampNeg .null, vm := .none } : Cell) = H1
  have z2 : H1.size = H.size + 1 := by rw [← hH1, Array.size_push]
  have z1 : H1[H.size]? = some (arrV cA n.toNatClampNeg (fun _ => .null)) := by rw [← hH1, Array.getElem?_push_size, ← arrV_new]
  have z3 : ∀ q : Nat, q < H.size → H1[q]? = H[q]? := fun q hq => by rw [← hH1, Array.getElem?_push, if_neg (Nat.ne_of_lt hq)]
  have z4 : ArrOfT s cA (.object "StuckKeys$Book") := fun N z => ⟨(fun k h => by cases h), kA, f2, comp, f3⟩
  have hk9 := kk H1 locs lsR (cells + 1) (slots + ix n) (Hd_new base ca fm D h1 h0 z2 z3 (fun _ _ _ => rfl) (fun _ _ _ => rfl) u1_ne ?_) (S_more h2 z2 z3) h3 h4 (by rw [cN_new]; omega) (by rw [sN_new]; omega)
  · have e9 : tr base ca fm (.ref S.2.2.1) = .ref H.size := by
      show Value.ref (ad base ca S.2.2.1) = _
      rw [ad_hi h35, hsz]
    rw [List.map_cons, e9] at hk9
    exact hk9
  · have e9 : ad base ca S.2.2.1 = H.size := by rw [ad_hi h35, hsz]
    unfold Cl
    rw [(sh_new_at S _ _ _).1, (sh_new_at S _ _ _).2, e9]
    refine ⟨fun q => by omega, fun q => by omega, fun q => by omega, fun q => by omega, fun _ => ⟨h35, cA, ?_, z4, kA, comp, f2, f3, f4, f1⟩, fun q => by omega, fun q => by omega, fun q => by omega⟩
    rw [z1]
    congr 2
    funext j
    rw [u1_at]; rfl
theorem def_ty {t : Nat} {f : FieldType} (h : sk_tyOk t f = true) {base : Nat} {ca : Nat → Nat} {fm : Value} {a k : Nat} {I : MI} {J : MJ} {R : MR} (hI : I a k = 0) (hJ : J a k = 0) (hR : R a k = .null) : defaultValue f = tr base ca fm (getF t a k I J R) := by
  unfold sk_tyOk at h
  split at h
  · rw [of_decide_eq_true h]; show _ = Value.int (I a k); rw [hI]; rfl
  · rw [of_decide_eq_true h]; show _ = Value.long (J a k); rw [hJ]; rfl
  · show _ = tr base ca fm (R a k)
    rw [hR]
    cases f <;> first | rfl | cases h
  · rw [of_decide_eq_true h]; show _ = Value.int (I a k); rw [hI]; rfl
  · cases h
theorem k_new (C : Cx base ca fm p l s mid args meth c Rm m) {idx ci : Nat} (h0 : S.2.2.2.1 = 0) (hl : sk_lkN (sk_cl m) idx = some ci) (hci : ci < 9) (r1 : cN (sh_new S ci 0 ((sk_tyL.getD ci []).length)) ≤ Rm.cells + k0) (r2 : sN (sh_new S ci 0 ((sk_tyL.getD ci []).length)) ≤ Rm.slots + k1) (hd : decode (sk_by m) pc = .ok (.new idx, 3))
    (kk : Wk base ca fm D p l e Rm s mid args below meth c k0 k1 Q m (pc + 3) ls (.ref S.2.2.1 :: st) (u1 I S.2.2.1 0) (u1 J S.2.2.1 0) (u1 R S.2.2.1 .null) (sh_new S ci 0 ((sk_tyL.getD ci []).length))) : Wk base ca fm D p l e Rm s mid args below meth c k0 k1 Q m pc ls st I J R S := by
  obtain ⟨hx, hb, -, hown, hts, -, -, -, -, -, -, -, -, h19, hf, -⟩ := C
  intro H locs lsR cells slots h1 h2 h3 h4 h5 h6
  have hsz := h1.2.2.1 h0
  have h35 := h1.2.1
  rw [cN_new] at r1
  rw [sN_new] at r2
  have hs := sk_nl_of h19 hl
  obtain ⟨CC, T, N, o1, o2, o3, o4, o5, o6, o7⟩ := sk_ok_all ci hci
  unfold sk_nl at hs
  dsimp only at hs
  rw [o1] at hs
  dsimp only at hs
  obtain ⟨hs, hs3⟩ := and3 hs
  obtain ⟨hs1, hs2⟩ := and3 hs
  have hs2 := and3 hs2
  have hKn := h1.1.1 ci _ o1
  have hN : (sk_tyL.getD ci []).length = N := o2.symm
  rw [hN] at r2 kk
  rw [hN] at *
  refine W.newcK hx hb hown (hts _ (sk_isw_mem hs1)) (hts _ (sk_isw_mem hs2.1)) (hts _ (sk_isw_mem hs2.2)) rfl hd (by omega) (by omega) hKn.2.1 rfl fun H1 kC hkC z1 z2 z3 => ?_
  have hk9 := kk H1 locs lsR (cells + 1) (slots + N) (Hd_new base ca fm D h1 h0 z2 z3 u1_ne u1_ne u1_ne ?_) (S_more h2 z2 z3) h3 h4 (by rw [cN_new]; omega) (by rw [sN_new]; omega)
  · have e9 : tr base ca fm (.ref S.2.2.1) = .ref H.size := by
      show Value.ref (ad base ca S.2.2.1) = _
      rw [ad_hi h35, hsz]
    rw [List.map_cons, e9] at hk9
    exact hk9
  · have e9 : ad base ca S.2.2.1 = H.size := by rw [ad_hi h35, hsz]
    unfold Cl
    rw [(sh_new_at S _ _ _).1, e9]
    refine ⟨fun _ => ⟨h35, (CC, T, N), o1, (u_born (sk_FT ci) hts o3 hKn hkC z1 o4).to fun k hk => def_ty (o7 k hk) (u1_at _ _ _ _) (u1_at _ _ _ _) (u1_at _ _ _ _)⟩, fun q => by omega, fun q => by omega, fun q => by omega, fun q => by omega, fun q => by omega, fun q => by omega, fun q => by omega⟩
theorem k_table_out (C : Cx base ca fm p l s mid args meth c Rm m) {d lo hi : Int} {offs : Array Int} {len : Nat} {x : Int32} (h : x.toInt < lo ∨ hi < x.toInt) (hj : jok pc d = true) (hd : decode (sk_by m) pc = .ok (.tableswitch d lo hi offs, len))
    (kk : Wk base ca fm D p l e Rm s mid args below meth c k0 k1 Q m (jt pc d) ls st I J R S) : Wk base ca fm D p l e Rm s mid args below meth c k0 k1 Q m pc ls (.int x :: st) I J R S := by
  obtain ⟨hx, hb, -⟩ := C
  intro H locs lsR cells slots h1 h2 h3 h4 h5 h6
  exact lv_tableOut hx hb hd h (jt_eq hj) (kk H locs lsR cells slots h1 h2 h3 h4 h5 h6)
theorem k_table_in (C : Cx base ca fm p l s mid args meth c Rm m) {d lo hi off : Int} {offs : Array Int} {len : Nat} {x : Int32} (h : ¬ (x.toInt < lo ∨ hi < x.toInt)) (ho : offs[(x.toInt - lo).toNat]? = some off) (hj : jok pc off = true) (hd : decode (sk_by m) pc = .ok (.tableswitch d lo hi offs, len))
    (kk : Wk base ca fm D p l e Rm s mid args below meth c k0 k1 Q m (jt pc off) ls st I J R S) : Wk base ca fm D p l e Rm s mid args below meth c k0 k1 Q m pc ls (.int x :: st) I J R S := by
  obtain ⟨hx, hb, -⟩ := C
  intro H locs lsR cells slots h1 h2 h3 h4 h5 h6
  exact lv_tableIn hx hb hd (fun q => h (Or.inl q)) (fun q => h (Or.inr q)) ho (jt_eq hj) (kk H locs lsR cells slots h1 h2 h3 h4 h5 h6)
theorem k_lookup (C : Cx base ca fm p l s mid args meth c Rm m) {d : Int} {ps : Array (Int × Int)} {len : Nat} {x : Int32} (hp : (ps.toList.zip (ps.toList.drop 1)).all (fun (a, next) => a.1 < next.1) = true) (hj : jok pc (Op.lookupswitch.offset ps.toList d x.toInt) = true) (hd : decode (sk_by m) pc = .ok (.lookupswitch d ps, len))
    (kk : Wk base ca fm D p l e Rm s mid args below meth c k0 k1 Q m (jt pc (Op.lookupswitch.offset ps.toList d x.toInt)) ls st I J R S) : Wk base ca fm D p l e Rm s mid args below meth c k0 k1 Q m pc ls (.int x :: st) I J R S := by
  obtain ⟨hx, hb, -⟩ := C
  intro H locs lsR cells slots h1 h2 h3 h4 h5 h6
  exact lv_lookup hx hb hd hp rfl (jt_eq hj) (kk H locs lsR cells slots h1 h2 h3 h4 h5 h6)
theorem sk_oi : Cond.instanceMethod objectInit ∈ sk_TB := sk_memT (i := 26) rfl rfl
theorem sk_oc : Cond.code objectInit ⟨#[0xb1]⟩ 1 none ∈ sk_TB := sk_memT (i := 27) rfl rfl
theorem k_objInit (C : Cx base ca fm p l s mid args meth c Rm m) {idx a : Nat} (hl : sk_lkM (sk_cl m) idx = some 999) (hfr : 1 ≤ sk_fr m) (hlo : catS st + 12 ≤ sk_lo m) (hd : decode (sk_by m) pc = .ok (.invokespecial idx, 3))
    (kk : Wk base ca fm D p l e Rm s mid args below meth c k0 k1 Q m (pc + 3) ls st I J R S) : Wk base ca fm D p l e Rm s mid args below meth c k0 k1 Q m pc ls (.ref a :: st) I J R S := by
  obtain ⟨hx, hb, hml, hown, hts, -, -, -, -, hF, hL, -, -, h19, hf, -⟩ := C
  intro H locs lsR cells slots h1 h2 h3 h4 h5 h6
  have hs := sk_ml_of h19 hl
  have hs : sk_isw (sk_hM (sk_cl m) idx) (.methodLink (sk_cn (sk_cl m)) idx objectInit) = true := hs
  exact W.objInit hx hb hown (hts _ (sk_isw_mem hs)) (hts _ sk_oi) (hts _ sk_oc) rfl (h3.1.trans hml.symm) rfl hd (by omega) (by show 2 * 0 + _ + 12 ≤ _; rw [catS_tr hf]; omega) (kk H locs lsR cells slots h1 h2 h3 h4 h5 h6)
end SN7
