theorem mf_of {m : Nat} (h : sk_mf m = true) : Cond.initialized (sk_nm m).cls ∈ sk_TB ∧ (sk_kd m = 0 → Cond.static (sk_nm m) ∈ sk_TB) ∧ (sk_kd m = 1 → Cond.instanceMethod (sk_nm m) ∈ sk_TB ∧ Cond.selects (sk_nm m).cls (sk_nm m) (sk_nm m) ∈ sk_TB) ∧
    (sk_kd m = 2 → Cond.instanceMethod (sk_nm m) ∈ sk_TB ∧ (sk_nm m).name = "<init>" ∧ sk_rt m = none ∧ (sk_hh m).isEmpty = true) ∧ plainName (sk_nm m).cls = true ∧ ((sk_nm m).cls ≠ "java/lang/invoke/MethodHandle" ∧ (sk_nm m).cls ≠ "java/lang/invoke/VarHandle") ∧
    (parseMethodDescriptor (sk_nm m).desc).map (fun d => d.parameters.length) = some (if sk_kd m = 0 then sk_na m else sk_na m - 1) ∧ (sk_nm m).cls = sk_cn (sk_cl m) ∧ sk_kd m < 3 ∧ (sk_kd m = 0 ∨ 0 < sk_na m) := by
  unfold sk_mf at h
  generalize hz : sk_mH.getD m (0, 0, 0, 0) = z at h
  obtain ⟨a, b, c, d⟩ := z
  dsimp only at h
  obtain ⟨h, h9⟩ := and3 h
  obtain ⟨h, h8⟩ := and3 h
  obtain ⟨h, h7⟩ := and3 h
  obtain ⟨h, h6⟩ := and3 h
  obtain ⟨h, h5⟩ := and3 h
  obtain ⟨h, h4⟩ := and3 h
  obtain ⟨h, h3⟩ := and3 h
  obtain ⟨h1, h2⟩ := and3 h
  refine ⟨sk_isw_mem h1, fun e => ?_, fun e => ?_, fun e => ?_, h3, ⟨of_decide_eq_true h4, of_decide_eq_true h5⟩, of_decide_eq_true h6, of_decide_eq_true h7, of_decide_eq_true h8, of_decide_eq_true h9⟩
  · rw [e] at h2; exact sk_isw_mem h2
  · rw [e] at h2; exact ⟨sk_isw_mem (and3 h2).1, sk_isw_mem (and3 h2).2⟩
  · rw [e] at h2
    obtain ⟨h2, q1⟩ := and3 h2
    obtain ⟨h2, q2⟩ := and3 h2
    obtain ⟨h2, q3⟩ := and3 h2
    exact ⟨sk_isw_mem h2, of_decide_eq_true q3, of_decide_eq_true q2, q1⟩
theorem TB_good {w : Cond} (h : w ∈ sk_TB) : w ∈ sk_TB ∧ ((w.onTables && w.keeps) = true ∨ ∃ ty, w = .arrayClass ty) := ⟨h, good_of_word (List.mem_filter.mp h).2⟩
theorem wsM_good {w0 : Cond} (h : w0 ∈ sk_TB) : GoodIn sk_TB (w0 :: sk_TB) := fun w hw => (List.mem_cons.mp hw).elim (fun q => by rw [q]; exact TB_good h) TB_good
theorem kdc_nm : ∀ c, c < 19 → kdc c < 100 → (kdc c < 9 ∧ (sk_ow[kdc c]?).map (·.1) = some (sk_cn c)) ∨ ((kdc c = 20 ∨ kdc c = 21) ∧ sk_cn c = cKn (kdc c)) := by decide +kernel
theorem sk_hh_all : ∀ m, m < 261 → (sk_kd m ≠ 0 → (sk_hh m).isEmpty = true) := by decide +kernel
theorem sk_cl_all : ∀ m, m < 261 → sk_cl m < 19 := by decide +kernel
def insK (k i : Nat) : Instr := match k with
  | 0 => .invokestatic i
  | 1 => .invokevirtual i
  | _ => .invokespecial i
section SN10
variable {base : Nat} {ca : Nat → Nat} {fm : Value} {D : va_G} {p : Program} {l : Launch} {e : Env} {Rm : Room} {s : State} {mid : MethodId} {args : Array Value} {below : List Frame} {meth : Method} {c : Code} {k0 k1 : Nat} {Q : State → Prop}
variable {m pc : Nat} {ls st : List Value} {I : MI} {J : MJ} {R : MR} {S : Sh}
abbrev PcM (base : Nat) (ca : Nat → Nat) (fm : Value) (D : va_G) (as : List Value) (I : MI) (J : MJ) (R : MR) (S : Sh) : Array Value → State → Prop := va_Pc (as.map (tr base ca fm)) (fun U => Hd base ca fm D U U.heap I J R S ∧ Kv ca U)
abbrev rmM (cal : Nat) (S : Sh) (o : SkO) : Room := { frames := sk_fr cal, cells := cN o.2.2.2.2 - cN S, slots := sN o.2.2.2.2 - sN S, locals := sk_lo cal }
def CtrM (base : Nat) (ca : Nat → Nat) (fm : Value) (D : va_G) (l : Launch) (cal : Nat) (as : List Value) (I : MI) (J : MJ) (R : MR) (S : Sh) (o : SkO) : Prop :=
  vx_Met l (sk_nm cal) (sk_cw cal :: sk_TB) (rmM cal S o) (PcM base ca fm D as I J R S) (QcO base ca fm D o) (XcO base ca fm D o) (cN o.2.2.2.2 - cN S) (sN o.2.2.2.2 - sN S) (sk_A base)
theorem PcM_blind (as : List Value) : FrameBlind (PcM base ca fm D as I J R S) := fun a U g mk h => ⟨h.1, Hd_moved base ca fm D (Vm.Alike.refl U.vm) h.2.1, Kv_warm (s := U) ca (State.WarmedH.refl U) h.2.2⟩
theorem met_of {y : MethodName} {ws : List Cond} {rm : Room} {Pc : Array Value → State → Prop} {Qc : Array Value → State → Outcome → State → Prop} {XC : String → State → State → Prop} {mc ms : Nat} {free : Addr → Prop} (h : vx_Met l y ws rm Pc Qc XC mc ms free) (hX : ∀ E st t, ¬ XC E st t) : Met l y ws rm Pc Qc mc ms free := by
  intro p e h1 h2 h3 s m args below h4 h5 h6 h7
  obtain ⟨n, o, a1, a2, a3, a4⟩ := h p e h1 h2 h3 s m args below h4 h5 h6 h7
  refine ⟨n, o, a1, a2, a3, ?_⟩
  rcases a4 with q | ⟨q, -, E, ce, L, hx, -⟩
  · exact q
  · exact absurd hx (hX _ _ _)
theorem run_of {H : Heap} {locs : List Loc} {cells slots mc ms : Nat} {g : JFrame} {rest : List Value} {Qa : State → Outcome → State → Prop} {XC : String → State → State → Prop} {free : Addr → Prop} (h : va_Run p l e Rm s mid args below meth c H locs cells slots mc ms g rest Qa free) : vx_Run p l e Rm s mid args below meth c H locs cells slots mc ms g rest Qa XC free :=
  fun T hT X => Or.inl (h T hT X)
theorem call_run (C : Cx base ca fm p l s mid args meth c Rm m) {idx cal : Nat} {as rest : List Value} {o : SkO} (hcal : cal < 261) (hsp : sk_sp cal = false) (hl : sk_lkM (sk_cl m) idx = some cal) (hM : CtrM base ca fm D l cal as I J R S o) (hst : st = as.reverse ++ rest) (hna : as.length = sk_na cal)
    (hX : sk_kd cal = 2 → o.1.1 = 0) (hfr : sk_fr cal + 1 ≤ sk_fr m) (hlo : 8 + (sk_mx cal + 11) + sk_lo cal ≤ sk_lo m) (hcat : catS rest ≤ 8) (hrc : rcv (sk_kd cal) (sk_cl cal) as S = true) (hd : decode (sk_by m) pc = .ok (insK (sk_kd cal) idx, 3))
    {H : Heap} {locs : List Loc} {lsR : Array Slot} {cells slots : Nat} (h1 : Hd base ca fm D s H I J R S) (h3 : lv_has lsR (sk_mx m) (al base ca fm ls)) (hf1 : cells + (cN o.2.2.2.2 - cN S) ≤ Rm.cells) (hf2 : slots + (sN o.2.2.2.2 - sN S) ≤ Rm.slots) :
    vx_Run p l e Rm s mid args below meth c H locs cells slots (cN o.2.2.2.2 - cN S) (sN o.2.2.2.2 - sN S) (F0 mid pc lsR (st.map (tr base ca fm))) (rest.map (tr base ca fm)) (QcO base ca fm D o (as.map (tr base ca fm)).toArray) (XcO base ca fm D o) (sk_A base) := by
  obtain ⟨hx, hb, hml, hown, hts, hrt, hlk, -, hKv, hF, hL, htab, htr, h19, hf, hKh⟩ := C
  obtain ⟨m1, m2⟩ := sk_mf_all cal hcal hsp
  obtain ⟨f1, f2, f3, f4, f5, f6, f7, f8, f9, f10⟩ := mf_of m1
  have hs := sk_ml_of h19 hl
  have hGood := wsM_good m2
  have hne : sk_cl cal < 19 := sk_cl_all cal hcal
  have hpre : ∀ U : State, U.heap = H → s.WarmedH U.vm → PcM base ca fm D as I J R S (as.map (tr base ca fm)).toArray U := fun U hU hW => ⟨rfl, by show Hd _ _ _ _ _ U.heap _ _ _ _; rw [hU]; exact Hd_moved base ca fm D hW.alike h1, Kv_warm ca hW hKv⟩
  have hCF : CallFix p mid c (sk_by m) (sk_mx m) s args sk_TB (sk_cn (sk_cl m)) := ⟨hx, hb, hml, hown, hts⟩
  have hW8 : 2 * (F0 mid pc lsR (st.map (tr base ca fm))).monitorRoom + ((rest.map (tr base ca fm)).map fun v => v.category).sum ≤ 8 := lv_room (by rw [catS_tr hf]; exact hcat)
  have hpay : ∀ w ∈ sk_cw cal :: sk_TB, ∀ (a' : Array Value) (U : State), s.WarmedH U.vm → w.before a' U = true := pay_in hts hGood
  have hfr2 : (rmM cal S o).frames + 1 ≤ Rm.frames := by show sk_fr cal + 1 ≤ _; omega
  have hlo2 : 8 + (sk_mx cal + 11) + (rmM cal S o).locals ≤ Rm.locals := by show 8 + (sk_mx cal + 11) + sk_lo cal ≤ _; omega
  have hlen : ∀ n, (if sk_kd cal = 0 then sk_na cal else sk_na cal - 1) = n → ∀ sig, parseMethodDescriptor (sk_nm cal).desc = some sig → n = sig.parameters.length := by
    intro n hn sig hsig
    rw [hsig] at f7
    rw [← hn]
    exact (Option.some.inj f7).symm
  have hnc : cal ≠ 999 ∧ cal ≠ 253 := ⟨by omega, fun q => by rw [q] at hsp; cases hsp⟩
  unfold sk_ml at hs
  dsimp only at hs
  rw [if_neg hnc.1, if_neg hnc.2] at hs
  have hs := (and3 hs).2
  have hkd : sk_kd cal = 0 ∨ sk_kd cal = 1 ∨ sk_kd cal = 2 := by omega
  rcases hkd with hk | hk | hk
  · -- static
    rw [hk] at hd
    have hd : decode (sk_by m) pc = .ok (.invokestatic idx, 3) := hd
    have hst2 : (F0 mid pc lsR (st.map (tr base ca fm))).stack = (as.map (tr base ca fm)).reverse ++ rest.map (tr base ca fm) := by
      show st.map _ = _
      rw [hst, List.map_append, List.map_reverse]
    have hml2 : Cond.methodLink (sk_cn (sk_cl m)) idx (sk_nm cal) ∈ sk_TB := by
      cases hn : sk_nw (sk_cl m) idx with
      | none => rw [hn] at hs; exact sk_isw_mem hs
      | some j =>
        rw [hn] at hs
        have := of_decide_eq_true (and3 hs).2
        omega
    have hn9 : (as.map (tr base ca fm)).length = sk_na cal := by rw [List.length_map]; exact hna
    have hlen := hlen (sk_na cal) (by rw [if_pos hk])
    by_cases hh : (sk_hh cal).isEmpty = true
    · have hcw : sk_cw cal = .code (sk_nm cal) (sk_by cal) (sk_mx cal) (sk_rt cal) := by unfold sk_cw; rw [if_pos hh]
      have hcm : Cond.code (sk_nm cal) (sk_by cal) (sk_mx cal) (sk_rt cal) ∈ sk_cw cal :: sk_TB := by rw [← hcw]; exact List.mem_cons_self
      exact vx_runS hCF hM ⟨⟨rfl, rfl, hfr2, hlo2, hpay, hcm, by rw [← hcw]; exact hts _ m2, hts _ f1, f6, hlen, hts _ hml2⟩, hts _ (f2 hk)⟩ ⟨PcM_blind as, hpre⟩ rfl hn9 h3.1 hst2 hW8 hd ⟨hf1, hf2⟩
    · have hcw : sk_cw cal = .codeWith (sk_nm cal) (sk_by cal) (sk_mx cal) (sk_rt cal) (sk_hh cal) := by unfold sk_cw; rw [if_neg hh]
      have hcm : Cond.codeWith (sk_nm cal) (sk_by cal) (sk_mx cal) (sk_rt cal) (sk_hh cal) ∈ sk_cw cal :: sk_TB := by rw [← hcw]; exact List.mem_cons_self
      exact vx_runSX hCF hM ⟨⟨rfl, rfl, hfr2, hlo2, hpay, hcm⟩, by rw [← hcw]; exact hts _ m2, hts _ f1, f6, hlen, hts _ hml2, hts _ (f2 hk)⟩ ⟨PcM_blind as, hpre⟩ rfl hn9 h3.1 hst2 hW8 hd ⟨hf1, hf2⟩
  · -- of an object
    have hk0 : sk_kd cal ≠ 0 := by omega
    rw [hk] at hd hrc
    have hd : decode (sk_by m) pc = .ok (.invokevirtual idx, 3) := hd
    have hh := sk_hh_all cal hcal hk0
    have hcw : sk_cw cal = .code (sk_nm cal) (sk_by cal) (sk_mx cal) (sk_rt cal) := by unfold sk_cw; rw [if_pos hh]
    have hcm : Cond.code (sk_nm cal) (sk_by cal) (sk_mx cal) (sk_rt cal) ∈ sk_cw cal :: sk_TB := by rw [← hcw]; exact List.mem_cons_self
    have hml2 : Cond.methodLink (sk_cn (sk_cl m)) idx (sk_nm cal) ∈ sk_TB := by
      cases hn : sk_nw (sk_cl m) idx with
      | none => rw [hn] at hs; exact sk_isw_mem hs
      | some j =>
        rw [hn] at hs
        have := of_decide_eq_true (and3 hs).2
        omega
    cases as with
    | nil => cases hrc
    | cons a0 as =>
      cases a0 with
      | ref b =>
        obtain ⟨r1, r2⟩ := and3 (show (S.1 b == kdc (sk_cl cal) && decide (kdc (sk_cl cal) < 100)) = true from hrc)
        have r1 : S.1 b = kdc (sk_cl cal) := by simpa using r1
        have r2 := of_decide_eq_true r2
        have hst2 : (F0 mid pc lsR (st.map (tr base ca fm))).stack = (as.map (tr base ca fm)).reverse ++ .ref (ad base ca b) :: rest.map (tr base ca fm) := by
          show st.map _ = _
          rw [hst, List.map_append, List.map_reverse, List.map_cons, List.reverse_cons, List.append_assoc]
          rfl
        have hn9 : (as.map (tr base ca fm)).length = sk_na cal - 1 := by
          rw [List.length_map]
          have : as.length + 1 = sk_na cal := hna
          omega
        have hrec : ∃ cellB : Cell, H[ad base ca b]? = some cellB ∧ cellB.vm.isStatics = false ∧ s.vm.findClass (sk_nm cal).cls = some cellB.cls := by
          have hcl := h1.2.2.2.2.2.2.1 b
          rw [f8]
          rcases kdc_nm _ hne r2 with ⟨q1, q2⟩ | ⟨q1, q2⟩
          · obtain ⟨-, r, g0, cellB, g1, g2, g3, -⟩ := hcl.1 (by rw [r1]; exact q1)
            rw [r1] at g0 g2
            rw [g0] at q2
            have q2 : r.1 = sk_cn (sk_cl cal) := Option.some.inj q2
            exact ⟨cellB, g1, by rw [g3]; rfl, by rw [g2, ← q2]; exact (h1.1.1 _ _ g0).2.1⟩
          · obtain ⟨-, ⟨cellB, g1, g2, g3, -⟩, -⟩ := hcl.2.1 (by rw [r1]; exact q1)
            rw [r1] at g3
            exact ⟨cellB, g1, g2, by rw [q2]; exact g3⟩
        have hlen := hlen (sk_na cal - 1) (by rw [if_neg hk0])
        exact vx_runV (C := (sk_nm cal).cls) (As := as.map (tr base ca fm)) hCF hM ⟨⟨rfl, rfl, hfr2, hlo2, hpay, hcm, by rw [← hcw]; exact hts _ m2, hts _ f1, f6, hlen, hts _ hml2⟩, hts _ (f3 hk).1, hts _ (f3 hk).2⟩ ⟨PcM_blind _, hrec, hpre⟩ rfl hn9 h3.1 hst2 hW8 hd ⟨hf1, hf2⟩
      | _ => cases hrc
  · -- a constructor
    have hk0 : sk_kd cal ≠ 0 := by omega
    have hX0 := hX hk
    obtain ⟨g1, g2, g3, g4⟩ := f4 hk
    rw [hk] at hd hrc
    have hd : decode (sk_by m) pc = .ok (.invokespecial idx, 3) := hd
    have hcw : sk_cw cal = .code (sk_nm cal) (sk_by cal) (sk_mx cal) none := by unfold sk_cw; rw [if_pos g4, g3]
    have hcm : Cond.code (sk_nm cal) (sk_by cal) (sk_mx cal) none ∈ sk_cw cal :: sk_TB := by rw [← hcw]; exact List.mem_cons_self
    have hM2 := met_of hM (fun E st t h => by obtain ⟨x, q, -⟩ := h; omega)
    cases as with
    | nil => cases hrc
    | cons a0 as =>
      cases a0 with
      | ref b =>
        have hst2 : (F0 mid pc lsR (st.map (tr base ca fm))).stack = (as.map (tr base ca fm)).reverse ++ .ref (ad base ca b) :: rest.map (tr base ca fm) := by
          show st.map _ = _
          rw [hst, List.map_append, List.map_reverse, List.map_cons, List.reverse_cons, List.append_assoc]
          rfl
        have hn9 : (as.map (tr base ca fm)).length = sk_na cal - 1 := by
          rw [List.length_map]
          have : as.length + 1 = sk_na cal := hna
          omega
        have hlen := hlen (sk_na cal - 1) (by rw [if_neg hk0])
        cases hn : sk_nw (sk_cl m) idx with
        | none =>
          rw [hn] at hs
          exact run_of (va_runI (As := as.map (tr base ca fm)) hCF hM2 ⟨⟨rfl, rfl, hfr2, hlo2, hpay, hcm, by rw [← hcw]; exact hts _ m2, hts _ f1, f6, hlen, hts _ (sk_isw_mem hs)⟩, g2, hts _ g1⟩ ⟨PcM_blind _, hpre⟩ rfl hn9 h3.1 hst2 hW8 hd ⟨hf1, hf2⟩)
        | some j =>
          rw [hn] at hs
          have hw := hKv.1 _ (List.mem_of_getElem? (of_decide_eq_true (and3 hs).1))
          exact run_of (va_runIN (As := as.map (tr base ca fm)) hCF hM2 ⟨⟨⟨rfl, rfl, hfr2, hlo2, hpay, hcm⟩, by rw [← hcw]; exact hts _ m2, hts _ f1, f6, hlen, va_Nw.use rfl hw⟩, g2, hts _ g1⟩ ⟨PcM_blind _, hpre⟩ rfl hn9 h3.1 hst2 hW8 hd ⟨hf1, hf2⟩)
      | _ => cases hrc
end SN10
