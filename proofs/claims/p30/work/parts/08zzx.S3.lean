/-! the law's walk, whole -/
section NI
variable {L : Nat} {xs : Nat → Int32}
theorem st12 : StS rS (shS L) (iS xs) 12 23 10 rd1 := ⟨rfl, rfl, rfl, by decide, rfl, rfl, fun i hi => ⟨rfl, Nat.lt_trans (rd1_ok i hi).2 (by decide)⟩⟩
theorem st13 : StS rS (shS L) (iS xs) 13 24 9 rd2 := ⟨rfl, rfl, rfl, by decide, rfl, rfl, fun i hi => ⟨rfl, Nat.lt_trans (rd2_ok i hi).2 (by decide)⟩⟩
theorem st14 : StS rS (shS L) (iS xs) 14 25 7 rd3 := ⟨rfl, rfl, rfl, by decide, rfl, rfl, fun i hi => ⟨rfl, Nat.lt_trans (rd3_ok i hi).2 (by decide)⟩⟩
theorem cnS0 : CnS (shS L) (iS xs) := ⟨rfl, rfl, rfl, rfl, rfl, rfl, rfl, rfl, rfl, rfl, trivial⟩
def lwQ : SkQ := fun x v _ _ _ S => x = 0 ∧ v = some (.int 1) ∧ S.2.2.1 = 187 ∧ S.2.2.2.1 ≤ 48 ∧ S.2.2.2.2 ≤ 2757
theorem law_run (hL : L ≤ 260) : Wp 23 0 [.ref 34, nov, nov, nov] [] (iS xs) jS rS (shS L) lwQ :=
  c_L_law rfl rfl rfl (by show L ≤ 260; exact hL) st12 st13 st14 trivial cnS0 (fun _ _ _ S' h1 h2 h3 => ⟨rfl, rfl, h1, h2, by have : (shS L).2.2.2.2 = 0 := rfl; omega⟩)
theorem law_C {p : Program} {l : Launch} {s : State} {m : MethodId} {b : Nat} {meth : Method} {c : Code} {ca : Nat → Nat} {fm : Value} (hx : p.tables.exec = Jvm.exec) (hb : c.code = code) (hr : meth.sig.returnType = ret) (hml : c.maxLocals = 4) (hown : s.vm.findClass "StuckKeysLaw" = some m.cls) (hts : ∀ w ∈ lw_tbl, w.before #[Value.ref b] s = true) (hlocks : meth.locks = false) (ht : c.exceptionTable.toList = []) (htr : l.stackTraces = false) (hf : fm.category = 1) (hK : Kv ca s) (hKh : Kh s.heap.size ca fm s s.heap) : Cx s.heap.size ca fm p l s m #[Value.ref b] meth c room_1 23 :=
  ⟨hx, hb, hml, hown, fun w hw => hts w (List.mem_filter.mp hw).1, hr, hlocks, fun q => absurd q (by decide +kernel), hK, by decide +kernel, by decide +kernel, ht, htr, by decide +kernel, hf, hKh⟩
theorem law_W {p : Program} {e : Jvm.Env} {s : State} {m : MethodId} {below : List Frame} {meth : Method} {c : Code} (l : Launch) (htr : l.stackTraces = false) {b : Nat} (hL : L ≤ 260) (hx : p.tables.exec = Jvm.exec) (hb : c.code = code) (hr : meth.sig.returnType = ret) (hml : c.maxLocals = 4) (hown : s.vm.findClass "StuckKeysLaw" = some m.cls) (hts : ∀ w ∈ lw_tbl, w.before #[Value.ref b] s = true) (hX : va_X b L xs s s.heap) (hbl : b < s.heap.size) (hlocks : meth.locks = false) (hgv : (Jvm.Cond.and given_1 narrow_1).before #[Value.ref b] s = true) (ht : c.exceptionTable.toList = []) :
    W p l e room_1 s m #[Value.ref b] below meth c s.heap [] 0 0 (fun t => ∃ o, t.status = .running ∧ Ended t below o ∧ o = .returned (some (.int 1)) ∧ Framed s o t [] 600104 7301314) (entryFrame m ([Value.ref b] : List Value).toArray 4) := by
  have hs : ∀ w ∈ sk_nr, w.before #[Value.ref b] s = true := flat_of_before _ hgv
  obtain ⟨ca, fm, D, hf, h34, hH, hKv⟩ := hd_start hts hs hX hbl
  subst h34
  obtain ⟨n, o, h1, h2⟩ := law_run (xs := xs) hL
  obtain ⟨⟨ox, ov⟩, oI, oJ, oR, oS⟩ := o
  obtain ⟨q1, q2, q3, q4, q5⟩ := h2
  have q1 : ox = 0 := q1
  have q2 : ov = some (.int 1) := q2
  have q3 : oS.2.2.1 = 187 := q3
  have q4 : oS.2.2.2.1 ≤ 48 := q4
  have q5 : oS.2.2.2.2 ≤ 2757 := q5
  have C := law_C (p := p) (l := l) (ca := ca) (fm := fm) hx hb hr hml hown hts hlocks ht htr hf hKv hH.2.2.2.2.2.2.2
  have hwk := walk (base := s.heap.size) (ca := ca) (fm := fm) (D := D) (l := l) hf htr n 23 0 _ _ _ _ _ _ _ h1 (by decide) p e room_1 s m _ below meth c 35 0 C (by show oS.2.2.1 + oS.2.2.2.1 ≤ 600104 + 35; omega) (by show oS.2.2.2.2 ≤ 7301314 + 0; omega)
  have W0 := hwk s.heap [] _ 0 0 hH va_S.rf (ent_has (base := s.heap.size) (ca := ca) hf [.ref 34] (mx := 4) (by decide)) rfl rfl rfl
  rw [lg_entry_eq]
  intro T hT X
  obtain ⟨t, a1, o', b1, b2, b3⟩ := W0 T hT X
  refine ⟨t, a1, o', b1, b2, ?_⟩
  rcases b3 with ⟨⟨e1, -, -, -⟩, L', ⟨f1, f2, f3⟩, f4⟩ | ⟨q, -, E, ce, L', ⟨x, e1, -⟩, -⟩
  · refine ⟨?_, f1, f2, ?_⟩
    · rw [e1]
      show Outcome.returned (ov.map (tr s.heap.size ca fm)) = _
      rw [q2]
      rfl
    · obtain ⟨g1, g2, g3, g4, g5, g6⟩ := f3
      refine ⟨g1, g2, g3, g4, g5, fun a c' hc => ?_⟩
      obtain ⟨c2, k1, k2, k3, k4⟩ := g6 a c' hc
      refine ⟨c2, k1, k2, k3, fun i _ => k4 i (fun hm => ?_)⟩
      have hA : s.heap.size ≤ a := f4 _ hm
      have := (Array.getElem?_eq_some_iff.mp hc).1
      omega
  · have e1 : ox = x + 1 := e1
    omega
end NI
