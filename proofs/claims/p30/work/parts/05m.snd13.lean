section SN14
variable {base : Nat} {ca : Nat → Nat} {fm : Value} {D : va_G}
theorem argL_cons (v : Value) (vs : List Value) : argL (v :: vs) = if v.category = 2 then v :: nov :: argL vs else v :: argL vs := rfl
theorem sl_len (hf : fm.category = 1) : ∀ as : List Value, (lg_sl (as.map (tr base ca fm))).length = (argL as).length
  | [] => rfl
  | v :: vs => by
    have ih := sl_len hf vs
    unfold lg_sl at ih ⊢
    rw [List.map_cons, List.flatMap_cons, List.length_append, ih, tr_cat hf, argL_cons]
    by_cases h : v.category = 2
    · rw [if_pos h, if_pos h]; simp; omega
    · rw [if_neg h, if_neg h]; simp; omega
theorem arg_at (hf : fm.category = 1) : ∀ (as : List Value) (j : Nat) (k : Nat) (v : Value) (pad : List Value), (∀ x ∈ pad, x = nov) → (argL as ++ pad)[k]? = some v → (∀ n, v ≠ .retAddr n) → (j + k, tr base ca fm v) ∈ lv_args j (as.map (tr base ca fm))
  | [], j, k, v, pad, hp, h, hv => by
    have := hp v (List.mem_of_getElem? h)
    exact absurd this (hv 0)
  | a :: as, j, k, v, pad, hp, h, hv => by
    rw [List.map_cons, lv_args, tr_cat hf]
    rw [argL_cons] at h
    by_cases hc : a.category = 2
    · rw [if_pos hc] at h ⊢
      match k, h with
      | 0, h =>
        cases h
        exact List.mem_cons_self
      | 1, h =>
        cases h
        exact absurd rfl (hv 0)
      | k + 2, h =>
        have h2 := arg_at hf as (j + 2) k v pad hp h hv
        rw [show j + 2 + k = j + (k + 2) by omega] at h2
        exact List.mem_cons_of_mem _ h2
    · rw [if_neg hc] at h ⊢
      match k, h with
      | 0, h =>
        cases h
        exact List.mem_cons_self
      | k + 1, h =>
        have h2 := arg_at hf as (j + 1) k v pad hp h hv
        rw [show j + 1 + k = j + (k + 1) by omega] at h2
        exact List.mem_cons_of_mem _ h2
theorem ent_has (hf : fm.category = 1) (as : List Value) {mx : Nat} (h : (argL as).length ≤ mx) :
    lv_has ((lg_sl (as.map (tr base ca fm)) ++ List.replicate (mx - (lg_sl (as.map (tr base ca fm))).length) Slot.unset).toArray) mx (al base ca fm (entL mx as)) := by
  refine has_sub (lv_entry (as.map (tr base ca fm)) (by rw [sl_len hf]; exact h)) fun q hq => ?_
  obtain ⟨v, h1, h2, h3⟩ := al_to hq
  obtain ⟨k, u⟩ := q
  dsimp only at h1 h3
  subst h3
  have h9 := arg_at (base := base) (ca := ca) hf as 0 k v _ (fun x hx => List.eq_of_mem_replicate hx) h1 h2
  rw [Nat.zero_add] at h9
  exact h9
theorem ent_len (as : List Value) {mx : Nat} (h : (argL as).length ≤ mx) : (entL mx as).length = mx := by
  unfold entL
  rw [List.length_append, List.length_replicate]
  omega
variable {l : Launch}
/-- what the walk gives at fuel n, of any method -/
def WalkN (base : Nat) (ca : Nat → Nat) (fm : Value) (D : va_G) (l : Launch) (n : Nat) : Prop :=
  ∀ (m pc : Nat) (ls st : List Value) (I : MI) (J : MJ) (R : MR) (S : Sh) (o : SkO), run n m (pc, ls, st, I, J, R, S) = some o → m < 261 →
  ∀ (p : Program) (e : Env) (Rm : Room) (s : State) (mid : MethodId) (args : Array Value) (below : List Frame) (meth : Method) (c : Code) (k0 k1 : Nat), Cx base ca fm p l s mid args meth c Rm m → cN o.2.2.2.2 ≤ Rm.cells + k0 → sN o.2.2.2.2 ≤ Rm.slots + k1 →
    Wk base ca fm D p l e Rm s mid args below meth c k0 k1 (WQ base ca fm D below args s Rm o) m pc ls st I J R S
theorem ctr_of (hf : fm.category = 1) (htr : l.stackTraces = false) {n : Nat} (hw : WalkN base ca fm D l n) {cal : Nat} {as : List Value} {I : MI} {J : MJ} {R : MR} {S : Sh} {o : SkO} (hcal : cal < 261) (hsp : sk_sp cal = false) (hlen : (argL as).length ≤ sk_mx cal)
    (h : run n cal (0, entL (sk_mx cal) as, [], I, J, R, S) = some o) : CtrM base ca fm D l cal as I J R S o := by
  obtain ⟨m1, m2⟩ := sk_mf_all cal hcal hsp
  obtain ⟨f1, f2, f3, f4, f5, f6, f7, f8, f9, f10⟩ := mf_of m1
  have hg := run_grow _ _ _ _ _ _ _ _ _ _ h
  have body : ∀ (p : Program) (e : Env) (s : State) (mid : MethodId) (args : Array Value) (below : List Frame) (meth : Method) (c : Code) (s₁ : State), BodyLoose p l (sk_nm cal) (headSpec (sk_cw cal :: sk_TB) (rmM cal S o)) (sk_by cal) (sk_mx cal) (sk_rt cal) e s mid args below meth c s₁ → c.maxLocals = sk_mx cal → c.exceptionTable.toList = tableOf (sk_hh cal) → PcM base ca fm D as I J R S args s →
      W p l e (headSpec (sk_cw cal :: sk_TB) (rmM cal S o)).room s mid args below meth c s.heap [] 0 0 (vx_MQ below (QcO base ca fm D o) (XcO base ca fm D o) args s (cN o.2.2.2.2 - cN S) (sN o.2.2.2.2 - sN S) (sk_A base)) (entryFrame mid args (sk_mx cal)) := by
    intro p e s mid args below meth c s₁ B hml ht hv
    obtain ⟨rfl, hH, hKv⟩ := hv
    have hown : s.vm.findClass (sk_cn (sk_cl cal)) = some mid.cls := by rw [← f8]; exact findClass_of_methodNamed B.named
    have hts : ∀ w ∈ sk_TB, w.before (as.map (tr base ca fm)).toArray s = true := fun w hw => atoms_spec (ws := sk_cw cal :: sk_TB) B.pre w (List.mem_cons_of_mem _ hw)
    have hin : sk_kd cal = 2 → meth.name = "<init>" := fun hk => (name_of_methodNamed B.named B.method).1.trans (f4 hk).2.1
    have C : Cx base ca fm p l s mid (as.map (tr base ca fm)).toArray meth c (rmM cal S o) cal := ⟨B.exec, B.bytes, hml, hown, hts, B.returns, B.notSynchronized, hin, hKv, Nat.le_refl _, Nat.le_refl _, ht, htr, sk_cl_all cal hcal, hf, hH.2.2.2.2.2.2.2⟩
    rw [lg_entry_eq]
    exact hw cal 0 (entL (sk_mx cal) as) [] I J R S o h hcal p e (rmM cal S o) s mid _ below meth c (cN S) (sN S) C (by show _ ≤ cN o.2.2.2.2 - cN S + cN S; omega) (by show _ ≤ sN o.2.2.2.2 - sN S + sN S; omega) s.heap [] _ 0 0 hH va_S.rf (ent_has hf as hlen) (ent_len as hlen) (Nat.zero_add _) (Nat.zero_add _)
  by_cases hh : (sk_hh cal).isEmpty = true
  · have hcw : sk_cw cal = .code (sk_nm cal) (sk_by cal) (sk_mx cal) (sk_rt cal) := by unfold sk_cw; rw [if_pos hh]
    refine vx_ofW (cc := sk_by cal) (maxL := sk_mx cal) (ret := sk_rt cal) f5 (by rw [hcw]) ?_
    intro p e s mid args below meth c s₁ B hml ht hv
    refine body p e s mid args below meth c s₁ B hml ?_ hv
    rw [List.isEmpty_iff.mp hh]
    exact List.eq_nil_iff_forall_not_mem.mpr fun x hx => ht x hx
  · have hcw : sk_cw cal = .codeWith (sk_nm cal) (sk_by cal) (sk_mx cal) (sk_rt cal) (sk_hh cal) := by unfold sk_cw; rw [if_neg hh]
    refine vx_ofWH (cc := sk_by cal) (maxL := sk_mx cal) (ret := sk_rt cal) (hh := sk_hh cal) f5 (by rw [hcw]) ?_
    intro p e s mid args below meth c s₁ B hml hv
    refine body p e s mid args below meth c s₁ B hml ?_ hv
    exact vx_table (x := sk_nm cal) B (y := sk_nm cal) (bytes := sk_by cal) (maxL' := sk_mx cal) (ret' := sk_rt cal) (by rw [← hcw]; exact atoms_spec (ws := sk_cw cal :: sk_TB) B.pre _ List.mem_cons_self)
theorem walk (hf : fm.category = 1) (htr : l.stackTraces = false) : ∀ n, WalkN base ca fm D l n := by
  intro n
  induction n with
  | zero => intro m pc ls st I J R S o h; simp [run] at h
  | succ n ih =>
    intro m pc ls st I J R S o h hm p e Rm s mid args below meth c k0 k1 C hr1 hr2
    rw [run] at h
    cases hs : stp m (pc, ls, st, I, J, R, S) with
    | none => rw [hs] at h; cases h
    | some x =>
      rw [hs] at h
      unfold stp at hs
      dsimp only at hs
      split at hs
      · rename_i i len hd
        match x, h, hs with
        | .inl (pc', ls', st', I', J', R', S'), h, hs =>
          have g := run_grow _ _ _ _ _ _ _ _ _ _ h
          exact step_go C hd hs (Nat.le_trans g.1 hr1) (Nat.le_trans g.2 hr2) (ih _ _ _ _ _ _ _ _ _ h hm _ _ _ _ _ _ _ _ _ _ _ C hr1 hr2)
        | .inr (.inl (cal, as, rest, pc')), h, hs =>
          obtain ⟨idx, e1, e2, e3, c1, c2, c3, c4, c5, c6, c7, c8, c9, c10⟩ := ex_call hs
          subst e1; subst e2; subst e3
          dsimp only at h
          cases hc : run n cal (0, entL (sk_mx cal) as, [], I, J, R, S) with
          | none => rw [hc] at h; cases h
          | some o1 =>
            rw [hc] at h
            have hM := ctr_of hf htr ih c8 c9 c7 hc
            have g := run_grow _ _ _ _ _ _ _ _ _ _ hc
            intro H locs lsR cells slots h1 h2 h3 h4 h5 h6
            obtain ⟨⟨xo, v⟩, I', J', R', S'⟩ := o1
            cases xo with
            | zero =>
              dsimp only at h
              have g2 := run_grow _ _ _ _ _ _ _ _ _ _ h
              dsimp only at g
              have hcr := call_run (e := e) (below := below) (locs := locs) C c8 c9 c1 hM c2 c3 (fun _ => rfl) c4 c5 c6 c10 hd h1 h3 (by show cells + (cN S' - cN S) ≤ _; omega) (by show slots + (sN S' - sN S) ≤ _; omega)
              refine run_go hcr h2 (fun _ H1 locs1 q1 q2 => ?_) (fun x q => by cases q)
              have hwk := ih _ _ _ _ _ _ _ _ _ h hm p e Rm s mid args below meth c k0 k1 C hr1 hr2 H1 locs1 lsR (cells + (cN S' - cN S)) (slots + (sN S' - sN S)) q1 q2 h3 h4 (by omega) (by omega)
              rw [List.map_append] at hwk
              rw [show (v.map (tr base ca fm)).toList = v.toList.map (tr base ca fm) by cases v <;> rfl]
              exact hwk
            | succ x =>
              dsimp only at h g
              have ht : tOk cal = true := by
                cases hq : tOk cal with
                | true => rfl
                | false => rw [hq] at h; simp at h
              rw [if_pos ht] at h
              have hk2 : sk_kd cal = 2 → ((x + 1, v), I', J', R', S').1.1 = 0 := fun q => by
                have := of_decide_eq_true (and3 ht).2
                omega
              have hg2 : cN S' ≤ cN o.2.2.2.2 ∧ sN S' ≤ sN o.2.2.2.2 := by
                cases hh : hnd m pc x with
                | none => rw [hh] at h; cases h; exact ⟨Nat.le_refl _, Nat.le_refl _⟩
                | some hp =>
                  rw [hh] at h
                  dsimp only at h
                  cases h9 : hst m hp ls with
                  | none => rw [h9] at h; cases h
                  | some y => obtain ⟨pc2, ls2⟩ := y; rw [h9] at h; exact run_grow _ _ _ _ _ _ _ _ _ _ h
              have hcr := call_run (e := e) (below := below) (locs := locs) C c8 c9 c1 hM c2 c3 hk2 c4 c5 c6 c10 hd h1 h3 (by show cells + (cN S' - cN S) ≤ _; omega) (by show slots + (sN S' - sN S) ≤ _; omega)
              refine run_go hcr h2 (fun q => by cases q) (fun x' q hx2 H1 locs1 qa ce q1 q2 g1 g2 g3 => ?_)
              have q : x + 1 = x' + 1 := q
              obtain rfl : x = x' := by omega
              cases hh : hnd m pc x with
              | none =>
                rw [hh] at h
                cases h
                exact k_outX C hm hx2 hh q1 q2 (by show cells + (cN S' - cN S) ≤ _; omega) (by show slots + (sN S' - sN S) ≤ _; omega) g1 g2 g3
              | some hp =>
                rw [hh] at h
                dsimp only at h
                cases h9 : hst m hp ls with
                | none => rw [h9] at h; cases h
                | some y =>
                  obtain ⟨pc2, ls2⟩ := y
                  rw [h9] at h
                  exact k_catch C hm hx2 hh h9 q1 q2 h3 h4 (by show cells + (cN S' - cN S) + k0 = cN S'; omega) (by show slots + (sN S' - sN S) + k1 = sN S'; omega) g1 g2 g3 (ih _ _ _ _ _ _ _ _ _ h hm _ _ _ _ _ _ _ _ _ _ _ C hr1 hr2)
        | .inr (.inr (.inl v)), h, hs =>
          cases h
          unfold exI at hs
          split at hs
          all_goals first
            | (unfold exCall at hs; (repeat' split at hs); all_goals (cases hs; done))
            | skip
          all_goals (repeat' split at hs)
          all_goals first
            | (unfold nxt at hs; cases hs; done)
            | (cases hs; rename_i hr; exact k_ireturn C hr hr1 hr2 hd)
            | (cases hs; rename_i hr; exact k_lreturn C hr hr1 hr2 hd)
            | (cases hs; rename_i hr; exact k_areturn C (Or.inr ⟨_, rfl⟩) hr hr1 hr2 hd)
            | (cases hs; rename_i hr; exact k_areturn C (Or.inl rfl) hr hr1 hr2 hd)
            | (cases hs; rename_i hr; exact k_vreturn C hr hr1 hr2 hd)
            | (cases hs; done)
        | .inr (.inr (.inr x)), h, hs =>
          cases h
          unfold exI at hs
          split at hs
          all_goals first
            | (unfold exCall at hs; (repeat' split at hs); all_goals (cases hs; done))
            | skip
          all_goals (repeat' split at hs)
          all_goals first
            | (unfold nxt at hs; cases hs; done)
            | (rename_i ht _; cases hs; exact k_throw C ht hr1 hr2 hd)
            | (cases hs; rename_i ht; exact k_throw C ht hr1 hr2 hd)
            | (cases hs; done)
      · cases hs
end SN14
