/-! a call of an inherited getter, its class's start not asked -/
section ORD
variable {l : Launch} {R : Room} {p : Program} {e : Jvm.Env} {below : List Frame} {s : State} {sargs : Array Value}
theorem ord_back {y : MethodName} {bytes : ByteArray} {maxL : Nat} {ret : Option FieldType} {m : MethodId} {meth : Method} {c : Code} {U : State} {Ls : List Loc} {c0 s0 : Nat} {g : JFrame} {ig : Instr} {len : Nat} {mk : MethodId} {a : Array Value} {R' : Room} {v : Option Value}
    (X : Stand p l e R s m sargs below meth c U Ls c0 s0) (hg : g.method = m) (hsize : g.locals.size = c.maxLocals) (hdg : decode c.code g.pc = .ok (ig, len)) (hn : U.methodNamed? y = some mk) (hy : plainFor y = true)
    (h2 : (Cond.code y bytes maxL ret).before a U = true) (hframes : R'.frames + 1 ≤ R.frames) (hlocals : 2 * g.monitorRoom + (g.stack.map fun v => v.category).sum + (maxL + 11) + R'.locals ≤ R.locals) (hcells : c0 + R'.cells ≤ R.cells) (hslots : s0 + R'.slots ≤ R.slots)
    (body : ∀ methY cY, U.vm.method? mk = some methY → methY.code = some cY → cY.code = bytes → cY.maxLocals = maxL → methY.sig.returnType = ret → methY.locks = false →
      W p l e R' (U.calling g mk a) mk a (.java g :: U.frames.tail) methY cY U.heap [] 0 0 (MQ (.java g :: U.frames.tail) (fun _ st o t => o = .returned v ∧ t.heap = st.heap) a (U.calling g mk a) 0 0 (fun _ => False)) (entryFrame mk a maxL)) :
    ∃ B : State, B.heap = U.heap ∧ Stand p l e R s m sargs below meth c B Ls c0 s0 ∧ Steps p.tables e below (doInvoke e (U.setTop g) [] mk a).1 (B.setTop { g with pc := g.pc + len, stack := v.toList ++ g.stack }) := by
  obtain ⟨methY, cY, hmY, hcY, hbY, hlY, hrY, hkY, -, -⟩ := Cond.code_spec hn h2
  have h : At U g.method c below := by rw [hg]; exact X.here
  have hf : (U.calling g mk a).frames = .invoking mk a :: (.java g :: U.frames.tail) := State.frames_calling h.top g mk a
  have hcur := State.cur_lt_of_frames hf
  obtain ⟨t0, ht0, -⟩ := State.frames_cons hf
  have hf1 : ((U.calling g mk a).setFrames (.java (entryFrame mk a maxL) :: (.java g :: U.frames.tail))).frames = .java (entryFrame mk a maxL) :: (.java g :: U.frames.tail) := State.frames_setFrames _ hcur
  have ht1 := State.topJava?_of_frames hf1
  have hname : (U.calling g mk a).methodNamed? y = some mk := hn
  have hmY' : (U.calling g mk a).vm.method? mk = some methY := hmY
  have hplain : ((U.calling g mk a).setFrames (.java (entryFrame mk a maxL) :: (.java g :: U.frames.tail))).plainMethod mk := State.plainMethod.of_named (s := U.calling g mk a) hy hname hmY'
  have hrun : (U.calling g mk a).status = .running := h.running
  have hable : (U.calling g mk a).curStatus? = some .runnable := by simpa [State.calling] using h.runnable
  have halone : (U.calling g mk a).alone = true := by simpa [State.calling] using h.alone
  have hcode : (U.calling g mk a).code? g.method = some c := by
    have := h.code
    rw [State.code?_eq] at this ⊢
    simpa [State.calling, State.pushFrame, State.setFrames] using this
  have hhears : (U.calling g mk a).hears mk (.java g :: U.frames.tail) = true := by simp [State.hears, hcode, hdg, Except.toOption]
  have hAt : At ((U.calling g mk a).setFrames (.java (entryFrame mk a maxL) :: (.java g :: U.frames.tail))) mk cY (.java g :: U.frames.tail) :=
    ⟨by rw [ht1]; rfl, ⟨[], by rw [hf1]; rfl⟩, hrun, by simpa using hable, by simpa using halone,
      by rw [State.code?_eq]; simp [State.setFrames, hmY', hcY], hplain⟩
  have hroom : (U.calling g mk a).hasRoom e.platform R' = true := X.room_calling (g := g) (R' := R') hsize hmY hcY hframes (by rw [hlY]; exact hlocals) hcells hslots
  have X2 : Stand p l e R' (U.calling g mk a) mk a (.java g :: U.frames.tail) methY cY ((U.calling g mk a).setFrames (.java (entryFrame mk a maxL) :: (.java g :: U.frames.tail))) [] 0 0 :=
    ⟨X.admits, X.cas, X.clock, hf, hroom, hhears, hmY', hcY, hAt, by rw [hf1]; rfl, State.WarmedH.refl _, by rw [State.stackLimits_setFrames], by rw [State.stackBytes_setFrames], (State.sameButNew.refl _ ht0).setFrames (.java (entryFrame mk a maxL) :: (.java g :: U.frames.tail)) hcur⟩
  have hB : (stepThread p.tables e (U.calling g mk a)).1 = ((U.calling g mk a).setFrames (.java (entryFrame mk a maxL) :: (.java g :: U.frames.tail))).setTop (entryFrame mk a maxL) := by
    have hfull : e.platform.stackFull ((U.calling g mk a).setFrames (.java g :: U.frames.tail)).me ((U.calling g mk a).setFrames (.java g :: U.frames.tail)).frames cY.maxLocals = false := by
      obtain ⟨-, h1, -, h2⟩ := State.hasRoom_stack hroom
      rw [hf, List.length_cons] at h1
      rw [State.localsInUse_invoking hf hmY' hcY] at h2
      have hw := stackUse_le_stackWeight (.java g :: U.frames.tail)
      rw [State.frames_setFrames _ hcur]
      exact Platform.stackFull_eq_false (by rw [State.stackLimits_setFrames]; omega) (by rw [State.stackLimits_setFrames]; omega)
    rw [stepThread_invoking hf, (doInvoke_java (s := (U.calling g mk a).setFrames (.java g :: U.frames.tail)) (e := e) (meth := methY) (code := cY) hmY' hcY hkY hfull).1, State.setTop_self ht1]
    simp only [State.pushFrame, State.frames_setFrames _ hcur, State.setFrames_setFrames, hlY, entryFrame]
  have hA : (stepThread p.tables e (U.calling g mk a)).1 = (doInvoke e (U.setTop g) [] mk a).1 := by
    have hcu : (U.setTop g).cur < (U.setTop g).threads.size := by
      have : (U.calling g mk a).cur < (U.calling g mk a).threads.size := hcur
      simpa [State.calling, State.pushFrame, State.setFrames] using this
    obtain ⟨t, ht⟩ : ∃ t, (U.setTop g).threads[(U.setTop g).cur]? = some t := ⟨_, Array.getElem?_eq_getElem hcu⟩
    have hf' : ((U.setTop g).pushFrame (.invoking mk a)).frames = .invoking mk a :: (U.setTop g).frames := State.frames_setFrames _ hcu
    show (stepThread p.tables e ((U.setTop g).pushFrame (.invoking mk a))).1 = _
    rw [stepThread_invoking hf', State.pushFrame, State.setFrames_setFrames, State.setFrames_self ht]
  obtain ⟨s₂, hst, o, hr2, hend, ⟨rfl, hheap⟩, L, hfe, hL⟩ := body methY cY hmY hcY hbY hlY hrY hkY ((U.calling g mk a).setFrames (.java (entryFrame mk a maxL) :: (.java g :: U.frames.tail))) rfl X2
  rw [← hB, hA] at hst
  obtain ⟨mid, hmid⟩ := h.above
  have hsteps : Steps p.tables e below (doInvoke e (U.setTop g) [] mk a).1 s₂ := by
    obtain ⟨n, hn1, hw⟩ := hst
    refine ⟨n, hn1, fun k hk => ?_⟩
    have := hw k hk
    rw [hmid] at this
    exact Within.weaken (mid := .java g :: mid) this
  obtain rfl : L = [] := List.eq_nil_iff_forall_not_mem.mpr hL
  obtain ⟨g₀, hg0⟩ := Option.isSome_iff_exists.mp h.top
  obtain ⟨r, hr⟩ := State.topJava?_eq_some.mp hg0
  have hr' : (({ U with heap := s₂.heap, slotsUsed := s₂.slotsUsed } : State).setVm s₂.vm).frames = .java g₀ :: r := hr
  obtain ⟨-, hW₂, e2, q2, q3, q4, q5, q6⟩ := id hfe
  have e3 : s₂ = ({ (U.calling g mk a).setFrames s₂.frames with heap := s₂.heap, slotsUsed := s₂.slotsUsed } : State).setVm s₂.vm := by
    have : s₂ = ({ s₂ with vm := (U.calling g mk a).vm } : State).setVm s₂.vm := rfl
    rw [e2] at this
    exact this
  obtain ⟨c₂, i₂, len₂, hc₂, hd₂, hf₂⟩ := hend
  have hW' : U.WarmedH s₂.vm := hW₂
  have hcc : c₂ = c := by
    have h1 : s₂.code? g.method = U.code? g.method := by
      rw [State.code?_eq, State.code?_eq, hW'.alike.method?]
    exact Option.some.inj (hc₂.symm.trans (h1.trans h.code))
  subst hcc
  have hlen : len₂ = len := by rw [hdg] at hd₂; cases hd₂; rfl
  subst hlen
  have hs₂ : s₂ = (({ U with heap := s₂.heap, slotsUsed := s₂.slotsUsed } : State).setVm s₂.vm).setTop { g with pc := g.pc + len₂, stack := v.toList ++ g.stack } := by
    refine e3.trans ?_
    rw [hf₂, State.calling_eq h.top, State.setFrames_setFrames, State.setTop_of_frames _ hr', hr]
    rfl
  have hsame : U.sameButNew ({ U with heap := s₂.heap, slotsUsed := s₂.slotsUsed } : State) [] 0 0 := by
    refine ⟨?_, q2, q3, q4, q5, q6⟩
    obtain ⟨t, ht, -⟩ := State.frames_cons hr
    show ({ U with heap := s₂.heap, slotsUsed := s₂.slotsUsed } : State) = { U.setFrames U.frames with heap := s₂.heap, slotsUsed := s₂.slotsUsed }
    rw [State.setFrames_self ht]
  subst hg
  have hS2 := X.same.trans (hsame.setVm s.vm)
  rw [List.append_nil] at hS2
  refine ⟨({ U with heap := s₂.heap, slotsUsed := s₂.slotsUsed } : State).setVm s₂.vm, hheap,
    ⟨X.admits, X.cas, X.clock, X.frames, X.room, X.hears, X.method, X.code, (X.here.setHeapUsed s₂.heap s₂.slotsUsed).setVm hW'.alike, X.tail, State.WarmedH.trans X.warmed hW', X.limits, X.bytes, hS2⟩, ?_⟩
  rw [← hs₂]
  exact hsteps
end ORD
section ORD2
variable {base : Nat} {ca : Nat → Nat} {fm : Value} {D : va_G}
variable {p : Program} {l : Launch} {e : Jvm.Env} {Rm : Room} {s : State} {mid : MethodId} {args : Array Value} {below : List Frame} {meth : Method} {c : Code} {k0 k1 : Nat} {Q : State → Prop}
variable {m pc : Nat} {ls st : List Value} {I : MI} {J : MJ} {R : MR} {S : Sh}
def orC : MethodName := ⟨"StuckKeys$Command", "ordinal", "()I"⟩
def orE : MethodName := ⟨"java/lang/Enum", "ordinal", "()I"⟩
theorem or1 : Cond.sameMethod "StuckKeys$Command" "java/lang/Enum" "ordinal" "()I" ∈ sk_TB := sk_memT (i := 479) rfl rfl
theorem or3 : Cond.selects "StuckKeys$Command" orC orE ∈ sk_TB := sk_memT (i := 481) rfl rfl
theorem or4 : Cond.instanceMethod orE ∈ sk_TB := sk_memT (i := 482) rfl rfl
theorem or5 : Cond.code orE (sk_by 253) 1 (some .int) ∈ sk_TB := sk_memT (i := 483) (by decide +kernel) (by decide +kernel)
theorem or6 : Cond.fieldLink "java/lang/Enum" 7 "java/lang/Enum" "ordinal" "I" ∈ sk_TB := sk_memT (i := 1439) (by decide +kernel) (by decide +kernel)
theorem or_d0 : decode (sk_by 253) 0 = .ok (.aload_n 0, 1) := by decide +kernel
theorem or_d1 : decode (sk_by 253) 1 = .ok (.getfield 7, 3) := by decide +kernel
theorem or_d4 : decode (sk_by 253) 4 = .ok (.ireturn, 1) := by decide +kernel
theorem or_body {A : Nat → Prop} {R' : Room} {U : State} {g : JFrame} {mk : MethodId} {methY : Method} {cY : Code} {H : Heap} {q : Nat} {v : Int32} (hx : p.tables.exec = Jvm.exec) (hOF : va_OF "java/lang/Enum" "ordinal" "I" (.int v) q A s H) (hW : s.WarmedH U.vm) (hU : U.heap = H) (hown : U.vm.findClass "java/lang/Enum" = some mk.cls) (hlk : (Cond.fieldLink "java/lang/Enum" 7 "java/lang/Enum" "ordinal" "I").before ([Value.ref q] : List Value).toArray (U.calling g mk ([Value.ref q] : List Value).toArray) = true) (a3 : cY.code = sk_by 253) (a5 : methY.sig.returnType = some .int) (a6 : methY.locks = false) {bl : List Frame} :
    W p l e R' (U.calling g mk ([Value.ref q] : List Value).toArray) mk ([Value.ref q] : List Value).toArray bl methY cY U.heap [] 0 0 (MQ bl (fun _ st o t => o = .returned (some (.int v)) ∧ t.heap = st.heap) ([Value.ref q] : List Value).toArray (U.calling g mk ([Value.ref q] : List Value).toArray) 0 0 (fun _ => False)) (entryFrame mk ([Value.ref q] : List Value).toArray 1) := by
  rw [lg_entry_eq]
  have hlv := lv_entry [Value.ref q] (n := 1) (Nat.le_refl 1)
  refine lv_aload_n (i := 0) hx a3 or_d0 rfl (lv_at hlv 0 rfl) ?_
  obtain ⟨cf, kf, fi, f, cell, g1, g2, g3, g4, g5, -⟩ := va_OF.moved (U := U.calling g mk ([Value.ref q] : List Value).toArray) hW.alike hOF
  have hown' : (U.calling g mk ([Value.ref q] : List Value).toArray).vm.findClass "java/lang/Enum" = some mk.cls := hown
  have g3' : U.heap[q]? = some cell := by rw [hU]; exact g3
  have hh : (U.calling g mk ([Value.ref q] : List Value).toArray).heap = U.heap := rfl
  generalize U.calling g mk ([Value.ref q] : List Value).toArray = s' at hown' hlk g1 hh ⊢
  generalize U.heap = H' at g3' hh ⊢
  generalize (lg_sl [Value.ref q] ++ List.replicate (1 - (lg_sl [Value.ref q]).length) Slot.unset).toArray = lsR
  refine W.getf (g := F0 mk 1 lsR [.ref q]) hx a3 (own := "java/lang/Enum") hown' hlk g1 g2 g3' g4 g5 rfl rfl or_d1 ?_
  exact W.iret (v := v) hx a3 a5 (fun t ht _ => ⟨rfl, ht.trans hh.symm⟩) (fun q hq => absurd hq List.not_mem_nil) or_d4 a6
theorem k_ordX (C : Cx base ca fm p l s mid args meth c Rm m) {idx a : Nat} (hl : sk_lkM (sk_cl m) idx = some 253) (ha : S.1 a = 20) (hfr : 1 ≤ sk_fr m) (hlo : catS st + 20 ≤ sk_lo m) (hr1 : cN S ≤ Rm.cells + k0) (hr2 : sN S ≤ Rm.slots + k1) (hd : decode (sk_by m) pc = .ok (.invokevirtual idx, 3))
    (kk : Wk base ca fm D p l e Rm s mid args below meth c k0 k1 Q m (pc + 3) ls (.int (I a 0) :: st) I J R S) : Wk base ca fm D p l e Rm s mid args below meth c k0 k1 Q m pc ls (.ref a :: st) I J R S := by
  obtain ⟨hx, hb, hml, hown, hts, -, -, -, -, hF, hL, -, -, h19, hf, -⟩ := C
  intro H locs lsR cells slots h1 h2 h3 h4 h5 h6
  have k9 := kk H locs lsR cells slots h1 h2 h3 h4 h5 h6
  have hs := sk_ml_of h19 hl
  unfold sk_ml at hs
  dsimp only at hs
  rw [if_neg (by decide), if_pos rfl] at hs
  have hlink := hts _ (sk_isw_mem hs)
  have pay := pay_in (ws := sk_TB) hts (fun w hw => TB_good hw)
  obtain ⟨-, o1, o2⟩ := (h1.2.2.2.2.2.2.1 a).2.1 (Or.inl ha)
  rw [ha] at o1 o2
  obtain ⟨cellB, hcell, hobj, hcls, -⟩ := o1
  have hOF := o2 0 ("java/lang/Enum", "ordinal", "I") rfl
  intro T hT X
  obtain ⟨r0, r, hn, hrm, hstR, hsigR⟩ := va_Decl.of (hts _ or4) (hts _ or5)
  obtain ⟨cn, ck, r1, hcn, hck, hni, hfo, hn1⟩ := Cond.sameMethod_found (hts _ or1)
  cases hn.symm.trans hn1
  obtain ⟨mk, methM, hnamed, hmethM, -, habM⟩ := Cond.instanceMethod_spec (hts _ or4)
  obtain ⟨c2, r2, m2, q1, q2, q3, q4, kP, hkP, hkPi⟩ := Cond.selects_spec (hts _ or3)
  cases hcls.symm.trans q1
  cases hfo.symm.trans q2
  cases hnamed.symm.trans q3
  have hselP : selectMethod e.platform s.vm cellB.cls r0 = .method mk := by rw [Launch.admits_selectMethod X.admits]; exact q4
  have hd2 : decode c.code (F0 mid pc lsR ((.ref a :: st).map (tr base ca fm))).pc = .ok (.invokevirtual idx, 3) := by rw [hb]; exact hd
  have hlen0 : ([] : List Value).length = r.sig.parameters.length := by
    have : parseMethodDescriptor "()I" = some r.sig := hsigR
    rw [show parseMethodDescriptor "()I" = some ⟨[], some .int⟩ by decide +kernel] at this
    rw [← Option.some.inj this]
    rfl
  obtain ⟨vm₁, X₁, hstep₁⟩ := X.invokevirtualUp hx hown hlink (hts _ or1) (by decide) hn hrm hstR (a := ad base ca a) (cell := cellB) (by rw [hT]; exact hcell)
    (fun z h => by rw [h] at hobj; cases hobj) hselP hmethM habM hkP hkPi (g := F0 mid pc lsR ((.ref a :: st).map (tr base ca fm))) rfl (argsL := []) (rest := st.map (tr base ca fm)) hlen0 rfl hd2
  have hW : s.WarmedH (T.setVm vm₁).vm := X₁.warmed
  have hU : (T.setVm vm₁).heap = H := hT
  obtain ⟨B, hB, XB, hst⟩ := ord_back (y := orE) (bytes := sk_by 253) (maxL := 1) (ret := some .int) (g := F0 mid pc lsR (st.map (tr base ca fm))) (ig := .invokevirtual idx) (len := 3) (mk := mk) (a := ([Value.ref (ad base ca a)] : List Value).toArray) (R' := { frames := 0, cells := 0, slots := 0, locals := 0 }) (v := some (.int (I a 0)))
    X₁ rfl (h3.1.trans hml.symm) hd2 (X₁.named hnamed) (by decide +kernel) (pay _ or5 _ _ hW) (by show 0 + 1 ≤ Rm.frames; omega) (by
      show 2 * 0 + ((st.map (tr base ca fm)).map fun v => v.category).sum + (1 + 11) + 0 ≤ Rm.locals
      rw [catS_tr hf]
      omega) (by show cells + 0 ≤ Rm.cells; omega) (by show slots + 0 ≤ Rm.slots; omega) (fun methY cY a1 a2 a3 a4 a5 a6 => or_body (U := T.setVm vm₁) (g := F0 mid pc lsR (st.map (tr base ca fm))) hx hOF hW hU (findClass_of_methodNamed (X₁.named hnamed)) (pay _ or6 _ ((T.setVm vm₁).calling (F0 mid pc lsR (st.map (tr base ca fm))) mk ([Value.ref (ad base ca a)] : List Value).toArray) hW) a3 a5 a6)
  obtain ⟨t, b1, b2⟩ := k9 B (hB.trans hU) XB
  exact ⟨t, hstep₁ _ (fun acts => by rw [doInvoke_state]; exact hst.trans b1), b2⟩
end ORD2
section SN12
variable {base : Nat} {ca : Nat → Nat} {fm : Value} {D : va_G}
theorem nxt_inj {pc pc' : Nat} {ls st ls' st' : List Value} {I I' : MI} {J J' : MJ} {R R' : MR} {S S' : Sh} (h : nxt pc ls st I J R S = some (.inl (pc', ls', st', I', J', R', S'))) : pc = pc' ∧ ls = ls' ∧ st = st' ∧ I = I' ∧ J = J' ∧ R = R' ∧ S = S' := by
  unfold nxt at h
  cases h
  exact ⟨rfl, rfl, rfl, rfl, rfl, rfl, rfl⟩
variable {p : Program} {l : Launch} {e : Env} {Rm : Room} {s : State} {mid : MethodId} {args : Array Value} {below : List Frame} {meth : Method} {c : Code} {k0 k1 : Nat} {Q : State → Prop}
variable {m pc : Nat} {ls st : List Value} {I : MI} {J : MJ} {R : MR} {S : Sh}
theorem k_ord (C : Cx base ca fm p l s mid args meth c Rm m) {idx a : Nat} (hl : sk_lkM (sk_cl m) idx = some 253) (ha : S.1 a = 20) (hfr : 1 ≤ sk_fr m) (hlo : catS st + 20 ≤ sk_lo m) (hr1 : cN S ≤ Rm.cells + k0) (hr2 : sN S ≤ Rm.slots + k1) (hd : decode (sk_by m) pc = .ok (.invokevirtual idx, 3))
    (kk : Wk base ca fm D p l e Rm s mid args below meth c k0 k1 Q m (pc + 3) ls (.int (I a 0) :: st) I J R S) : Wk base ca fm D p l e Rm s mid args below meth c k0 k1 Q m pc ls (.ref a :: st) I J R S := k_ordX C hl ha hfr hlo hr1 hr2 hd kk
/-- one step of the small machine that goes on -/
theorem step_go (C : Cx base ca fm p l s mid args meth c Rm m) {i : Instr} {len pc' : Nat} {ls' st' : List Value} {I' : MI} {J' : MJ} {R' : MR} {S' : Sh} (hd : decode (sk_by m) pc = .ok (i, len)) (hx : exI m i len pc ls st I J R S = some (.inl (pc', ls', st', I', J', R', S')))
    (hr1 : cN S' ≤ Rm.cells + k0) (hr2 : sN S' ≤ Rm.slots + k1) (kk : Wk base ca fm D p l e Rm s mid args below meth c k0 k1 Q m pc' ls' st' I' J' R' S') : Wk base ca fm D p l e Rm s mid args below meth c k0 k1 Q m pc ls st I J R S := by
  unfold exI at hx
  split at hx
  · obtain ⟨rfl, rfl, rfl, rfl, rfl, rfl, rfl⟩ := nxt_inj hx
    exact k_iconst C hd kk
  · obtain ⟨rfl, rfl, rfl, rfl, rfl, rfl, rfl⟩ := nxt_inj hx
    exact k_bipush C hd kk
  · obtain ⟨rfl, rfl, rfl, rfl, rfl, rfl, rfl⟩ := nxt_inj hx
    exact k_sipush C hd kk
  · obtain ⟨rfl, rfl, rfl, rfl, rfl, rfl, rfl⟩ := nxt_inj hx
    exact k_lconst C hd kk
  · obtain ⟨rfl, rfl, rfl, rfl, rfl, rfl, rfl⟩ := nxt_inj hx
    exact k_null C hd kk
  · split at hx
    · rename_i v hv
      obtain ⟨rfl, rfl, rfl, rfl, rfl, rfl, rfl⟩ := nxt_inj hx
      exact k_ldcI C hv hd kk
    · split at hx
      · rename_i v hv
        obtain ⟨rfl, rfl, rfl, rfl, rfl, rfl, rfl⟩ := nxt_inj hx
        exact k_ldcS C hv hd kk
      · cases hx
  · split at hx
    · rename_i v hv
      obtain ⟨rfl, rfl, rfl, rfl, rfl, rfl, rfl⟩ := nxt_inj hx
      exact k_ldcwI C hv hd kk
    · cases hx
  · split at hx
    · rename_i v hv
      obtain ⟨rfl, rfl, rfl, rfl, rfl, rfl, rfl⟩ := nxt_inj hx
      exact k_ldc2 C hv hd kk
    · cases hx
  · split at hx
    · rename_i x hv
      obtain ⟨rfl, rfl, rfl, rfl, rfl, rfl, rfl⟩ := nxt_inj hx
      exact k_iload_n C hv hd kk
    · cases hx
  · split at hx
    · rename_i x hv
      obtain ⟨rfl, rfl, rfl, rfl, rfl, rfl, rfl⟩ := nxt_inj hx
      exact k_iload C hv hd kk
    · cases hx
  · split at hx
    · rename_i x hv
      obtain ⟨rfl, rfl, rfl, rfl, rfl, rfl, rfl⟩ := nxt_inj hx
      exact k_lload_n C hv hd kk
    · cases hx
  · split at hx
    · rename_i x hv
      obtain ⟨rfl, rfl, rfl, rfl, rfl, rfl, rfl⟩ := nxt_inj hx
      exact k_lload C hv hd kk
    · cases hx
  · split at hx
    · rename_i x hv
      obtain ⟨rfl, rfl, rfl, rfl, rfl, rfl, rfl⟩ := nxt_inj hx
      exact k_aload_n C hv hd kk
    · rename_i hv
      obtain ⟨rfl, rfl, rfl, rfl, rfl, rfl, rfl⟩ := nxt_inj hx
      exact k_aload_nN C hv hd kk
    · cases hx
  · split at hx
    · rename_i x hv
      obtain ⟨rfl, rfl, rfl, rfl, rfl, rfl, rfl⟩ := nxt_inj hx
      exact k_aload C hv hd kk
    · rename_i hv
      obtain ⟨rfl, rfl, rfl, rfl, rfl, rfl, rfl⟩ := nxt_inj hx
      exact k_aloadN C hv hd kk
    · cases hx
  · split at hx
    · split at hx
      · rename_i hk
        obtain ⟨rfl, rfl, rfl, rfl, rfl, rfl, rfl⟩ := nxt_inj hx
        exact k_istore_n C hk.1 hk.2 hd kk
      · cases hx
    · cases hx
  · split at hx
    · split at hx
      · rename_i hk
        obtain ⟨rfl, rfl, rfl, rfl, rfl, rfl, rfl⟩ := nxt_inj hx
        exact k_istore C hk.1 hk.2 hd kk
      · cases hx
    · cases hx
  · split at hx
    · split at hx
      · rename_i hk
        obtain ⟨rfl, rfl, rfl, rfl, rfl, rfl, rfl⟩ := nxt_inj hx
        exact k_lstore_n C hk.1 hk.2 hd kk
      · cases hx
    · cases hx
  · split at hx
    · split at hx
      · rename_i hk
        obtain ⟨rfl, rfl, rfl, rfl, rfl, rfl, rfl⟩ := nxt_inj hx
        exact k_lstore C hk.1 hk.2 hd kk
      · cases hx
    · cases hx
  · split at hx
    · split at hx
      · rename_i hk
        obtain ⟨rfl, rfl, rfl, rfl, rfl, rfl, rfl⟩ := nxt_inj hx
        exact k_astore_n C hk.1 hk.2 hd kk
      · cases hx
    · split at hx
      · rename_i hk
        obtain ⟨rfl, rfl, rfl, rfl, rfl, rfl, rfl⟩ := nxt_inj hx
        exact k_astore_nN C hk.1 hk.2 hd kk
      · cases hx
    · cases hx
  · split at hx
    · split at hx
      · rename_i hk
        obtain ⟨rfl, rfl, rfl, rfl, rfl, rfl, rfl⟩ := nxt_inj hx
        exact k_astore C hk.1 hk.2 hd kk
      · cases hx
    · split at hx
      · rename_i hk
        obtain ⟨rfl, rfl, rfl, rfl, rfl, rfl, rfl⟩ := nxt_inj hx
        exact k_astoreN C hk.1 hk.2 hd kk
      · cases hx
    · cases hx
  · split at hx
    · rename_i x hv
      split at hx
      · rename_i hk
        obtain ⟨rfl, rfl, rfl, rfl, rfl, rfl, rfl⟩ := nxt_inj hx
        exact k_iinc C hv hk.1 hk.2 hd kk
      · cases hx
    · cases hx
  · split at hx
    · obtain ⟨rfl, rfl, rfl, rfl, rfl, rfl, rfl⟩ := nxt_inj hx
      exact k_iadd C hd kk
    · cases hx
  · split at hx
    · obtain ⟨rfl, rfl, rfl, rfl, rfl, rfl, rfl⟩ := nxt_inj hx
      exact k_isub C hd kk
    · cases hx
  · split at hx
    · obtain ⟨rfl, rfl, rfl, rfl, rfl, rfl, rfl⟩ := nxt_inj hx
      exact k_imul C hd kk
    · cases hx
  · split at hx
    · obtain ⟨rfl, rfl, rfl, rfl, rfl, rfl, rfl⟩ := nxt_inj hx
      exact k_iand C hd kk
    · cases hx
  · split at hx
    · obtain ⟨rfl, rfl, rfl, rfl, rfl, rfl, rfl⟩ := nxt_inj hx
      exact k_ior C hd kk
    · cases hx
  · split at hx
    · split at hx
      · cases hx
      · rename_i hy
        obtain ⟨rfl, rfl, rfl, rfl, rfl, rfl, rfl⟩ := nxt_inj hx
        exact k_idiv C hy hd kk
    · cases hx
  · split at hx
    · split at hx
      · cases hx
      · rename_i hy
        obtain ⟨rfl, rfl, rfl, rfl, rfl, rfl, rfl⟩ := nxt_inj hx
        exact k_irem C hy hd kk
    · cases hx
  · split at hx
    · obtain ⟨rfl, rfl, rfl, rfl, rfl, rfl, rfl⟩ := nxt_inj hx
      exact k_ishl C hd kk
    · cases hx
  · split at hx
    · obtain ⟨rfl, rfl, rfl, rfl, rfl, rfl, rfl⟩ := nxt_inj hx
      exact k_ishr C hd kk
    · cases hx
  · split at hx
    · obtain ⟨rfl, rfl, rfl, rfl, rfl, rfl, rfl⟩ := nxt_inj hx
      exact k_iushr C hd kk
    · cases hx
  · split at hx
    · obtain ⟨rfl, rfl, rfl, rfl, rfl, rfl, rfl⟩ := nxt_inj hx
      exact k_ladd C hd kk
    · cases hx
  · split at hx
    · obtain ⟨rfl, rfl, rfl, rfl, rfl, rfl, rfl⟩ := nxt_inj hx
      exact k_lsub C hd kk
    · cases hx
  · split at hx
    · obtain ⟨rfl, rfl, rfl, rfl, rfl, rfl, rfl⟩ := nxt_inj hx
      exact k_lmul C hd kk
    · cases hx
  · split at hx
    · obtain ⟨rfl, rfl, rfl, rfl, rfl, rfl, rfl⟩ := nxt_inj hx
      exact k_land C hd kk
    · cases hx
  · split at hx
    · obtain ⟨rfl, rfl, rfl, rfl, rfl, rfl, rfl⟩ := nxt_inj hx
      exact k_lor C hd kk
    · cases hx
  · split at hx
    · obtain ⟨rfl, rfl, rfl, rfl, rfl, rfl, rfl⟩ := nxt_inj hx
      exact k_lshl C hd kk
    · cases hx
  · split at hx
    · obtain ⟨rfl, rfl, rfl, rfl, rfl, rfl, rfl⟩ := nxt_inj hx
      exact k_lshr C hd kk
    · cases hx
  · split at hx
    · obtain ⟨rfl, rfl, rfl, rfl, rfl, rfl, rfl⟩ := nxt_inj hx
      exact k_lcmp C hd kk
    · cases hx
  · split at hx
    · obtain ⟨rfl, rfl, rfl, rfl, rfl, rfl, rfl⟩ := nxt_inj hx
      exact k_i2l C hd kk
    · cases hx
  · split at hx
    · obtain ⟨rfl, rfl, rfl, rfl, rfl, rfl, rfl⟩ := nxt_inj hx
      exact k_l2i C hd kk
    · cases hx
  · split at hx
    · obtain ⟨rfl, rfl, rfl, rfl, rfl, rfl, rfl⟩ := nxt_inj hx
      exact k_i2c C hd kk
    · cases hx
  · split at hx
    · split at hx
      · rename_i hv
        obtain ⟨rfl, rfl, rfl, rfl, rfl, rfl, rfl⟩ := nxt_inj hx
        exact k_dup C hv hd kk
      · cases hx
    · cases hx
  · split at hx
    · obtain ⟨rfl, rfl, rfl, rfl, rfl, rfl, rfl⟩ := nxt_inj hx
      exact k_dup2b C hd kk
    · split at hx
      · rename_i hv
        obtain ⟨rfl, rfl, rfl, rfl, rfl, rfl, rfl⟩ := nxt_inj hx
        exact k_dup2a C hv.1 hv.2 hd kk
      · cases hx
    · cases hx
  · split at hx
    · split at hx
      · rename_i hv
        obtain ⟨rfl, rfl, rfl, rfl, rfl, rfl, rfl⟩ := nxt_inj hx
        exact k_pop C hv hd kk
      · cases hx
    · cases hx
  · split at hx
    · obtain ⟨rfl, rfl, rfl, rfl, rfl, rfl, rfl⟩ := nxt_inj hx
      exact k_pop2 C hd kk
    · cases hx
  · rename_i cd off
    split at hx
    · split at hx
      · rename_i hj
        cases cd
        · exact k_if_eq C hj hd (fun q => by rw [if_pos q] at hx; obtain ⟨rfl, rfl, rfl, rfl, rfl, rfl, rfl⟩ := nxt_inj hx; exact kk) (fun q => by rw [if_neg q] at hx; obtain ⟨rfl, rfl, rfl, rfl, rfl, rfl, rfl⟩ := nxt_inj hx; exact kk)
        · exact k_if_ne C hj hd (fun q => by rw [if_pos q] at hx; obtain ⟨rfl, rfl, rfl, rfl, rfl, rfl, rfl⟩ := nxt_inj hx; exact kk) (fun q => by rw [if_neg q] at hx; obtain ⟨rfl, rfl, rfl, rfl, rfl, rfl, rfl⟩ := nxt_inj hx; exact kk)
        · exact k_if_lt C hj hd (fun q => by rw [if_pos q] at hx; obtain ⟨rfl, rfl, rfl, rfl, rfl, rfl, rfl⟩ := nxt_inj hx; exact kk) (fun q => by rw [if_neg q] at hx; obtain ⟨rfl, rfl, rfl, rfl, rfl, rfl, rfl⟩ := nxt_inj hx; exact kk)
        · exact k_if_ge C hj hd (fun q => by rw [if_pos q] at hx; obtain ⟨rfl, rfl, rfl, rfl, rfl, rfl, rfl⟩ := nxt_inj hx; exact kk) (fun q => by rw [if_neg q] at hx; obtain ⟨rfl, rfl, rfl, rfl, rfl, rfl, rfl⟩ := nxt_inj hx; exact kk)
        · exact k_if_gt C hj hd (fun q => by rw [if_pos q] at hx; obtain ⟨rfl, rfl, rfl, rfl, rfl, rfl, rfl⟩ := nxt_inj hx; exact kk) (fun q => by rw [if_neg q] at hx; obtain ⟨rfl, rfl, rfl, rfl, rfl, rfl, rfl⟩ := nxt_inj hx; exact kk)
        · exact k_if_le C hj hd (fun q => by rw [if_pos q] at hx; obtain ⟨rfl, rfl, rfl, rfl, rfl, rfl, rfl⟩ := nxt_inj hx; exact kk) (fun q => by rw [if_neg q] at hx; obtain ⟨rfl, rfl, rfl, rfl, rfl, rfl, rfl⟩ := nxt_inj hx; exact kk)
      · cases hx
    · cases hx
  · rename_i cd off
    split at hx
    · split at hx
      · rename_i hj
        cases cd
        · exact k_icmp_eq C hj hd (fun q => by rw [if_pos q] at hx; obtain ⟨rfl, rfl, rfl, rfl, rfl, rfl, rfl⟩ := nxt_inj hx; exact kk) (fun q => by rw [if_neg q] at hx; obtain ⟨rfl, rfl, rfl, rfl, rfl, rfl, rfl⟩ := nxt_inj hx; exact kk)
        · exact k_icmp_ne C hj hd (fun q => by rw [if_pos q] at hx; obtain ⟨rfl, rfl, rfl, rfl, rfl, rfl, rfl⟩ := nxt_inj hx; exact kk) (fun q => by rw [if_neg q] at hx; obtain ⟨rfl, rfl, rfl, rfl, rfl, rfl, rfl⟩ := nxt_inj hx; exact kk)
        · exact k_icmp_lt C hj hd (fun q => by rw [if_pos q] at hx; obtain ⟨rfl, rfl, rfl, rfl, rfl, rfl, rfl⟩ := nxt_inj hx; exact kk) (fun q => by rw [if_neg q] at hx; obtain ⟨rfl, rfl, rfl, rfl, rfl, rfl, rfl⟩ := nxt_inj hx; exact kk)
        · exact k_icmp_ge C hj hd (fun q => by rw [if_pos q] at hx; obtain ⟨rfl, rfl, rfl, rfl, rfl, rfl, rfl⟩ := nxt_inj hx; exact kk) (fun q => by rw [if_neg q] at hx; obtain ⟨rfl, rfl, rfl, rfl, rfl, rfl, rfl⟩ := nxt_inj hx; exact kk)
        · exact k_icmp_gt C hj hd (fun q => by rw [if_pos q] at hx; obtain ⟨rfl, rfl, rfl, rfl, rfl, rfl, rfl⟩ := nxt_inj hx; exact kk) (fun q => by rw [if_neg q] at hx; obtain ⟨rfl, rfl, rfl, rfl, rfl, rfl, rfl⟩ := nxt_inj hx; exact kk)
        · exact k_icmp_le C hj hd (fun q => by rw [if_pos q] at hx; obtain ⟨rfl, rfl, rfl, rfl, rfl, rfl, rfl⟩ := nxt_inj hx; exact kk) (fun q => by rw [if_neg q] at hx; obtain ⟨rfl, rfl, rfl, rfl, rfl, rfl, rfl⟩ := nxt_inj hx; exact kk)
      · cases hx
    · cases hx
  · split at hx
    · obtain ⟨rfl, rfl, rfl, rfl, rfl, rfl, rfl⟩ := nxt_inj hx
      exact k_ifnull C hd kk
    · split at hx
      · rename_i hj
        obtain ⟨rfl, rfl, rfl, rfl, rfl, rfl, rfl⟩ := nxt_inj hx
        exact k_ifnullN C hj hd kk
      · cases hx
    · cases hx
  · split at hx
    · split at hx
      · rename_i hj
        obtain ⟨rfl, rfl, rfl, rfl, rfl, rfl, rfl⟩ := nxt_inj hx
        exact k_ifnonnull C hj hd kk
      · cases hx
    · obtain ⟨rfl, rfl, rfl, rfl, rfl, rfl, rfl⟩ := nxt_inj hx
      exact k_ifnonnullN C hd kk
    · cases hx
  · split at hx
    · rename_i hj
      obtain ⟨rfl, rfl, rfl, rfl, rfl, rfl, rfl⟩ := nxt_inj hx
      exact k_goto C hj hd kk
    · cases hx
  · split at hx
    · split at hx
      · rename_i ho
        split at hx
        · rename_i hj
          obtain ⟨rfl, rfl, rfl, rfl, rfl, rfl, rfl⟩ := nxt_inj hx
          exact k_table_out C ho hj hd kk
        · cases hx
      · rename_i ho
        split at hx
        · rename_i off hof
          split at hx
          · rename_i hj
            obtain ⟨rfl, rfl, rfl, rfl, rfl, rfl, rfl⟩ := nxt_inj hx
            exact k_table_in C ho hof hj hd kk
          · cases hx
        · cases hx
    · cases hx
  · split at hx
    · split at hx
      · rename_i hj
        obtain ⟨rfl, rfl, rfl, rfl, rfl, rfl, rfl⟩ := nxt_inj hx
        exact k_lookup C hj.1 hj.2 hd kk
      · cases hx
    · cases hx
  · split at hx
    · rename_i j hv
      obtain ⟨rfl, rfl, rfl, rfl, rfl, rfl, rfl⟩ := nxt_inj hx
      exact k_getstatic C hv hd kk
    · cases hx
  · split at hx
    · rename_i hl
      split at hx
      · rename_i ha
        obtain ⟨rfl, rfl, rfl, rfl, rfl, rfl, rfl⟩ := nxt_inj hx
        exact k_getfield C hl ha hd kk
      · cases hx
    · cases hx
  · split at hx
    · rename_i hl
      split at hx
      · rename_i ha
        split at hx
        · rename_i hp
          split at hx
          · cases hx
          · rename_i h3
            obtain ⟨rfl, rfl, rfl, rfl, rfl, rfl, rfl⟩ := nxt_inj hx
            exact k_putfield C hl ha.1 ha.2.1 ha.2.2.1 ha.2.2.2 hp (fun q => Classical.byContradiction fun z => h3 ⟨q, z⟩) hd kk
        · cases hx
      · cases hx
    · cases hx
  · split at hx
    · split at hx
      · rename_i ha
        obtain ⟨rfl, rfl, rfl, rfl, rfl, rfl, rfl⟩ := nxt_inj hx
        exact k_alen C ha hd kk
      · cases hx
    · cases hx
  · split at hx
    · split at hx
      · rename_i ha
        obtain ⟨rfl, rfl, rfl, rfl, rfl, rfl, rfl⟩ := nxt_inj hx
        exact k_iaload C ha.1 ha.2 hd kk
      · cases hx
    · cases hx
  · split at hx
    · split at hx
      · rename_i ha
        obtain ⟨rfl, rfl, rfl, rfl, rfl, rfl, rfl⟩ := nxt_inj hx
        exact k_laload C ha.1 ha.2 hd kk
      · cases hx
    · cases hx
  · split at hx
    · split at hx
      · rename_i ha
        obtain ⟨rfl, rfl, rfl, rfl, rfl, rfl, rfl⟩ := nxt_inj hx
        exact k_baload C ha.1 ha.2 hd kk
      · cases hx
    · cases hx
  · split at hx
    · split at hx
      · rename_i ha
        obtain ⟨rfl, rfl, rfl, rfl, rfl, rfl, rfl⟩ := nxt_inj hx
        exact k_aaload C ha.1 ha.2 hd kk
      · cases hx
    · cases hx
  · split at hx
    · split at hx
      · rename_i ha
        obtain ⟨rfl, rfl, rfl, rfl, rfl, rfl, rfl⟩ := nxt_inj hx
        exact k_iastore C ha.1 ha.2 hd kk
      · cases hx
    · cases hx
  · split at hx
    · split at hx
      · rename_i ha
        obtain ⟨rfl, rfl, rfl, rfl, rfl, rfl, rfl⟩ := nxt_inj hx
        exact k_lastore C ha.1 ha.2 hd kk
      · cases hx
    · cases hx
  · split at hx
    · split at hx
      · rename_i ha
        obtain ⟨rfl, rfl, rfl, rfl, rfl, rfl, rfl⟩ := nxt_inj hx
        exact k_aastore C ha.1 ha.2.1 ha.2.2 hd kk
      · cases hx
    · cases hx
  · split at hx
    · split at hx
      · rename_i hn
        split at hx
        · obtain ⟨rfl, rfl, rfl, rfl, rfl, rfl, rfl⟩ := nxt_inj hx
          exact k_newI C hn.1 hn.2.1 hn.2.2 hr1 hr2 hd kk
        · obtain ⟨rfl, rfl, rfl, rfl, rfl, rfl, rfl⟩ := nxt_inj hx
          exact k_newL C hn.1 hn.2.1 hn.2.2 hr1 hr2 hd kk
        · cases hx
      · cases hx
    · cases hx
  · split at hx
    · split at hx
      · rename_i hn
        obtain ⟨rfl, rfl, rfl, rfl, rfl, rfl, rfl⟩ := nxt_inj hx
        exact k_newB C hn.1 hn.2.1 hn.2.2.1 hn.2.2.2 hr1 hr2 hd kk
      · cases hx
    · cases hx
  · split at hx
    · split at hx <;> cases hx
    · split at hx
      · rename_i hl
        split at hx
        · rename_i h0
          obtain ⟨rfl, rfl, rfl, rfl, rfl, rfl, rfl⟩ := nxt_inj hx
          exact k_new C h0.1 hl h0.2 hr1 hr2 hd kk
        · cases hx
      · cases hx
  · unfold exCall at hx
    split at hx
    · cases hx
    · rename_i hl
      first | cases hx | (split at hx <;> first | cases hx | (split at hx <;> cases hx))
    · rename_i hl
      first | cases hx | (split at hx <;> first | cases hx | (split at hx <;> cases hx))
    · rename_i hl
      first | cases hx | (split at hx <;> first | cases hx | (split at hx <;> cases hx))
    · rename_i hl
      split at hx
      · split at hx
        · rename_i hq
          cases hx
          exact k_ord C hl hq.1 hq.2.1 hq.2.2 hr1 hr2 hd kk
        · cases hx
      · cases hx
    · split at hx <;> cases hx
  · unfold exCall at hx
    split at hx
    · cases hx
    · rename_i hl
      first | cases hx | (split at hx <;> first | cases hx | (split at hx <;> cases hx))
    · rename_i hl
      split at hx
      · split at hx
        · rename_i hq
          cases hx
          exact k_max C hl hq.1 hq.2 hr1 hr2 hd kk
        · cases hx
      · cases hx
    · rename_i hl
      split at hx
      · split at hx
        · rename_i hq
          cases hx
          exact k_min C hl hq.1 hq.2 hr1 hr2 hd kk
        · cases hx
      · cases hx
    · rename_i hl
      first | cases hx | (split at hx <;> first | cases hx | (split at hx <;> cases hx))
    · split at hx <;> cases hx
  · unfold exCall at hx
    split at hx
    · cases hx
    · rename_i hl
      split at hx
      · split at hx
        · rename_i hq
          cases hx
          exact k_objInit C hl hq.1 hq.2 hd kk
        · cases hx
      · cases hx
    · rename_i hl
      first | cases hx | (split at hx <;> first | cases hx | (split at hx <;> cases hx))
    · rename_i hl
      first | cases hx | (split at hx <;> first | cases hx | (split at hx <;> cases hx))
    · rename_i hl
      first | cases hx | (split at hx <;> first | cases hx | (split at hx <;> cases hx))
    · split at hx <;> cases hx
  · split at hx
    · split at hx <;> cases hx
    · cases hx
  · split at hx
    · split at hx <;> cases hx
    · cases hx
  · split at hx
    · split at hx <;> cases hx
    · split at hx <;> cases hx
    · cases hx
  · split at hx
    · split at hx <;> cases hx
    · cases hx
  · cases hx
end SN12
