section SN5
variable {base : Nat} {ca : Nat → Nat} {fm : Value} {D : va_G} {p : Program} {l : Launch} {e : Env} {Rm : Room} {s : State} {mid : MethodId} {args : Array Value} {below : List Frame} {meth : Method} {c : Code} {k0 k1 : Nat} {Q : State → Prop}
variable {m pc : Nat} {ls st : List Value} {I : MI} {J : MJ} {R : MR} {S : Sh}
theorem u2_ne {α : Type} {f : Nat → Nat → α} {a k : Nat} {v : α} : ∀ b j, b ≠ a → u2 f a k v b j = f b j := fun b j h => if_neg (fun q => h q.1)
theorem u2_at {α : Type} (f : Nat → Nat → α) (a k : Nat) (v : α) (j : Nat) : u2 f a k v a j = if j = k then v else f a j := by
  unfold u2
  by_cases h : j = k
  · rw [if_pos ⟨rfl, h⟩, if_pos h]
  · rw [if_neg (fun q => h q.2), if_neg h]
theorem getF_u (t a k : Nat) (v : Value) (I I' : MI) (J J' : MJ) (R R' : MR) (h : putF t a k v I J R = some (I', J', R')) :
    (∀ t' j, j ≠ k → getF t' a j I' J' R' = getF t' a j I J R) ∧ getF t a k I' J' R' = v ∧ (∀ b j, b ≠ a → I' b j = I b j) ∧ (∀ b j, b ≠ a → J' b j = J b j) ∧ (∀ b j, b ≠ a → R' b j = R b j) := by
  unfold putF at h
  split at h
  · cases h
    exact ⟨fun t' j hj => by unfold getF; rw [u2_at, if_neg hj], by show Value.int _ = _; rw [u2_at, if_pos rfl], u2_ne, fun _ _ _ => rfl, fun _ _ _ => rfl⟩
  · cases h
    exact ⟨fun t' j hj => by unfold getF; rw [u2_at, if_neg hj], by show Value.long _ = _; rw [u2_at, if_pos rfl], fun _ _ _ => rfl, u2_ne, fun _ _ _ => rfl⟩
  · cases h
    exact ⟨fun t' j hj => by unfold getF; rw [u2_at, if_neg hj], by show u2 _ _ _ _ _ _ = _; rw [u2_at, if_pos rfl], fun _ _ _ => rfl, fun _ _ _ => rfl, u2_ne⟩
  · cases h
    exact ⟨fun t' j hj => by unfold getF; rw [u2_at, if_neg hj], by show u2 _ _ _ _ _ _ = _; rw [u2_at, if_pos rfl], fun _ _ _ => rfl, fun _ _ _ => rfl, u2_ne⟩
  · cases h
theorem putF_kind {t a k : Nat} {v : Value} {I I' : MI} {J J' : MJ} {R R' : MR} (h : putF t a k v I J R = some (I', J', R')) : (t = 0 ∧ ∃ x, v = .int x) ∨ (t = 1 ∧ ∃ x, v = .long x) ∨ (t = 2 ∧ ((∃ x, v = .ref x) ∨ v = .null)) := by
  unfold putF at h
  split at h <;> first | exact Or.inl ⟨rfl, _, rfl⟩ | exact Or.inr (Or.inl ⟨rfl, _, rfl⟩) | exact Or.inr (Or.inr ⟨rfl, Or.inl ⟨_, rfl⟩⟩) | exact Or.inr (Or.inr ⟨rfl, Or.inr rfl⟩) | cases h
theorem nar_ref {f : FieldType} (h : f.isReference = true) (a : Addr) : narrow f (.ref a) = .ref a ∧ fits f (.ref a) = true := by
  cases f <;> first | exact ⟨rfl, rfl⟩ | cases h
theorem nar_null {f : FieldType} (h : f.isReference = true) : narrow f .null = .null ∧ fits f .null = true := by
  cases f <;> first | exact ⟨rfl, rfl⟩ | cases h
theorem nar_b0 : narrow .boolean (.int 0) = .int 0 ∧ fits .boolean (.int 0) = true := ⟨by decide, by decide⟩
theorem nar_b1 : narrow .boolean (.int 1) = .int 1 ∧ fits .boolean (.int 1) = true := ⟨by decide, by decide⟩
theorem kdc_own : ∀ c, c < 19 → kdc c < 9 → (sk_ow[kdc c]?).map (·.1) = some (sk_cn c) := by decide +kernel
theorem k_putfield (C : Cx base ca fm p l s mid args meth c Rm m) {idx ci k t fin nest a : Nat} {v : Value} {I' : MI} {J' : MJ} {R' : MR} (hl : sk_lkF (sk_cl m) idx = some (ci, k, t, fin, nest)) (ha : S.1 a = ci) (h9 : ci < 9) (hn : nest = 0) (hfin : fin = 0 ∨ (sk_kd m = 2 ∧ kdc (sk_cl m) = ci))
    (hp : putF (if t = 3 then 0 else t) a k v I J R = some (I', J', R')) (h3t : t = 3 → I' a k = 0 ∨ I' a k = 1) (hd : decode (sk_by m) pc = .ok (.putfield idx, 3))
    (kk : Wk base ca fm D p l e Rm s mid args below meth c k0 k1 Q m (pc + 3) ls st I' J' R' S) : Wk base ca fm D p l e Rm s mid args below meth c k0 k1 Q m pc ls (v :: .ref a :: st) I J R S := by
  obtain ⟨hx, hb, -, hown, hts, -, -, hini, hKv, -, -, -, -, h19, hf, -⟩ := C
  intro H locs lsR cells slots h1 h2 h3 h4 h5 h6
  have hs := sk_fl_of h19 hl
  have hcl := h1.2.2.2.2.2.2.1 a
  unfold sk_fl at hs
  dsimp only at hs
  rw [if_pos h9] at hs
  obtain ⟨hs, hs5⟩ := and3 hs
  obtain ⟨hs, hs4⟩ := and3 hs
  obtain ⟨hs, hs3⟩ := and3 hs
  obtain ⟨hs1, hs2⟩ := and3 hs
  have hk := of_decide_eq_true hs1
  have ht := of_decide_eq_true hs2
  have hff := of_decide_eq_true hs3
  obtain ⟨CC, T, N, o1, o2, o3, o4, o5, o6, o7⟩ := sk_ok_all ci h9
  rw [← o2] at hk
  obtain ⟨h35, r, e1, cell, q1, q2, q3, q4⟩ := hcl.1 (by rw [ha]; exact h9)
  rw [ha] at e1 q2 q4
  have hr := Option.some.inj (e1.symm.trans o1)
  subst hr
  have hKn := h1.1.1 ci _ o1
  obtain ⟨hSl, hfc, kC, hkC, hkind⟩ := hKn
  obtain ⟨cf, kf, fi, f, hi, hsl⟩ := hSl k hk
  have hN : sk_fN ci k = ((T k).1, (T k).2.1, (T k).2.2.1) := by unfold sk_fN; rw [o1]
  have hFin : sk_fFin ci k = (T k).2.2.2 := by unfold sk_fFin; rw [o1]
  rw [hN] at hs5
  subst hn
  have hlink := hts _ (sk_isw_mem hs5)
  have hlay := hts _ (o3 _ (u_in_lay hk))
  unfold u_lay at hlay
  have hst := (u_facts hfc hkC (u_lays hts o3 hk) hi).1
  obtain ⟨g1, g2, g3, g4, g5⟩ := getF_u _ _ _ _ _ _ _ _ _ _ hp
  have hap := va_apart (own := CC) (tys := []) hts o3 (sk_FT ci) o4 o5 h1.1 o1
  have hnf : narrow (sk_FT ci k) (tr base ca fm v) = tr base ca fm v ∧ fits (sk_FT ci k) (tr base ca fm v) = true := by
    have o8 := o7 k hk
    rw [← ht] at o8
    by_cases e3 : t = 3
    · rw [if_pos e3] at hp g2
      subst e3
      have o9 : sk_FT ci k = .boolean := of_decide_eq_true o8
      rw [o9]
      have hz := h3t rfl
      rcases putF_kind hp with ⟨-, x, rfl⟩ | ⟨q, -⟩ | ⟨q, -⟩
      · have hx2 : I' a k = x := Value.int.inj g2
        rw [hx2] at hz
        rcases hz with rfl | rfl
        · exact nar_b0
        · exact nar_b1
      · cases q
      · cases q
    · rw [if_neg e3] at hp
      rcases putF_kind hp with ⟨rfl, x, rfl⟩ | ⟨rfl, x, rfl⟩ | ⟨rfl, ⟨x, rfl⟩ | rfl⟩
      · have o9 : sk_FT ci k = .int := of_decide_eq_true o8
        rw [o9]; exact ⟨rfl, rfl⟩
      · have o9 : sk_FT ci k = .long := of_decide_eq_true o8
        rw [o9]; exact ⟨rfl, rfl⟩
      · exact nar_ref o8 _
      · exact nar_null o8
  have hset : ∀ H1 : Heap, H1[ad base ca a]? = some (cell.setSlot f.slot (tr base ca fm v)) → H1.size = H.size → (∀ q, q ≠ ad base ca a → H1[q]? = H[q]?) → Hd base ca fm D s H1 I' J' R' S := by
    intro H1 z1 z2 z3
    refine Hd_upd base ca fm D h1 h35 z2 z3 g3 g4 g5 ⟨fun _ => ⟨h35, (CC, T, N), by rw [ha]; exact o1, ?_⟩, fun q => by omega, fun q => by omega, fun q => by omega, fun q => by omega, fun q => by omega, fun q => by omega, fun q => by omega⟩
    rw [ha]
    rw [hsl] at z1
    refine t_OB.to (V := updV (fun k => tr base ca fm (getF (sk_ty ci k) a k I J R)) k (tr base ca fm v)) ⟨_, z1, q2, q3, t_set q4 hap hk _⟩ (fun j hj => ?_)
    unfold updV
    by_cases hjk : j = k
    · subst hjk
      rw [if_pos rfl]
      congr 1
      by_cases e3 : t = 3
      · rw [if_pos e3] at g2
        rw [← ht, e3]
        exact g2.symm
      · rw [if_neg e3] at g2
        rw [← ht]
        exact g2.symm
    · rw [if_neg hjk, g1 _ _ hjk]
  have hadA : sk_A base (ad base ca a) := by rw [ad_hi h35]; exact Nat.le_add_right _ _
  have hkk : ∀ H1 : Heap, H1[ad base ca a]? = some (cell.setSlot f.slot (tr base ca fm v)) → H1.size = H.size → (∀ q, q ≠ ad base ca a → H1[q]? = H[q]?) →
      W p l e Rm s mid args below meth c H1 (locs ++ [⟨ad base ca a, f.slot⟩]) cells slots Q { (F0 mid pc lsR (tr base ca fm v :: .ref (ad base ca a) :: st.map (tr base ca fm))) with pc := pc + 3, stack := st.map (tr base ca fm) } :=
    fun H1 z1 z2 z3 => kk H1 _ lsR cells slots (hset H1 z1 z2 z3) (h2.put z2 z3 hadA) h3 h4 h5 h6
  by_cases hfz : (T k).2.2.2 = true
  · rw [if_pos hfz] at hlay
    have hfin2 : sk_kd m = 2 ∧ kdc (sk_cl m) = ci := by
      rcases hfin with q | q
      · exfalso
        rw [hFin, hfz, q] at hff
        cases hff
      · exact q
    have hcnn := kdc_own _ h19 (by rw [hfin2.2]; exact h9)
    rw [hfin2.2, o1] at hcnn
    have hcn2 : CC = sk_cn (sk_cl m) := Option.some.inj hcnn
    have hcf : mid.cls = cf := by
      obtain ⟨_, _, c', _, _, _, -, -, hf', -, -, -, hown2, -⟩ := Cond.laysFinal_spec hlay
      have e1 : c' = cf := by have := hi.symm.trans hf'; simp at this; exact this.1.symm
      rw [o6 k hk, hcn2] at hown2
      rw [← e1]; exact Option.some.inj (hown.symm.trans hown2)
    have h6' := u_fits hfc hkC hkind (Or.inr hlay) hi (o4 k hk) hnf.1 hnf.2
    exact W.putFinK hx hb hown hlink hi hst hcf (hini hfin2.1) (by rw [q2]; exact h6') q1 q3 (by rw [hsl]; exact k2_hasslot (q4 k hk)) rfl rfl hd hkk
  · rw [if_neg hfz] at hlay
    have h6' := u_store hfc hkC hkind hlay hi (o4 k hk) hnf.1 hnf.2
    exact W.putK hx hb (f := f) ⟨hown, hlink, ⟨_, _, _, hi⟩, hst⟩ (by rw [q2]; exact h6') q1 q3 (by rw [hsl]; exact k2_hasslot (q4 k hk)) rfl rfl hd hkk
end SN5
