section SN9
variable {base : Nat} {ca : Nat → Nat} {fm : Value} {D : va_G} {p : Program} {l : Launch} {e : Env} {Rm : Room} {s : State} {mid : MethodId} {args : Array Value} {below : List Frame} {meth : Method} {c : Code} {k0 k1 : Nat} {Q : State → Prop}
variable {m pc : Nat} {ls st : List Value} {I : MI} {J : MJ} {R : MR} {S : Sh}
/-- a heap that has only grown -/
theorem Hd_thr {U : State} {H H1 : Heap} (h : Hd base ca fm D U H I J R S) (hz : H.size ≤ H1.size) (oq : ∀ q, q < H.size → H1[q]? = H[q]?) : Hd base ca fm D U H1 I J R (sh_thr S) := by
  obtain ⟨h1, h2, h3, h4, h5, h6, h7, h8⟩ := h
  have hA : ∀ q : Nat, q < H.size → ¬ sk_A base q → H1[q]? = H[q]? := fun q hq _ => oq q hq
  refine ⟨h1, h2, fun q => ?_, Nat.le_trans h4 hz, h5, h6, fun x => ?_, Kh_kept base ca fm h8 hA⟩
  · exfalso
    have q : S.2.2.2.1 + 1 = 0 := q
    omega
  · by_cases h9 : S.2.2.1 ≤ x
    · have := h5 x h9
      unfold Cl
      rw [show (sh_thr S).1 x = S.1 x from rfl]
      refine ⟨fun e => by omega, fun e => by omega, fun e => by omega, fun e => by omega, fun e => by omega, fun e => by omega, fun e => by omega, fun e => by omega⟩
    · refine Cl_kept base ca fm D (h7 x) rfl rfl (oq _ ?_) hA (fun _ => rfl) (fun _ => rfl) (fun _ => rfl)
      by_cases h8 : x < 35
      · rw [ad_lo h8]
        have := h6 x h8
        omega
      · rw [ad_hi (by omega)]
        omega
theorem cN_thr (S : Sh) : cN (sh_thr S) = cN S + 1 := rfl
theorem sN_thr (S : Sh) : sN (sh_thr S) = sN S + 6 := rfl
def xnm : List String := ["java/lang/RuntimeException", "java/lang/Exception"]
theorem sk_xat : ∀ q ∈ [(294, "java/lang/IllegalArgumentException"), (303, "java/lang/IllegalStateException")], (vx_atS "StuckKeys" q.1 q.2 xnm).all (fun w => decide (w ∈ lw_tbl) && (goodWord w || (w.faceAtom && w.onTables))) = true := by decide +kernel
theorem sk_xot : ∀ q ∈ [(290, 294, "java/lang/IllegalArgumentException"), (299, 303, "java/lang/IllegalStateException")], (Cond.classLink "StuckKeys" q.1 q.2.2 :: Cond.initialized q.2.2 :: vx_atS "StuckKeys" q.2.1 q.2.2 xnm).all vx_ot = true := by decide +kernel
theorem xat_of {ic : Nat} {X : String} (h : (vx_atS "StuckKeys" ic X xnm).all (fun w => decide (w ∈ lw_tbl) && (goodWord w || (w.faceAtom && w.onTables))) = true) (hts : ∀ w ∈ sk_TB, w.before args s = true) (hKv : Kv ca s) : ∀ w ∈ vx_atS "StuckKeys" ic X xnm, w.before args s = true := by
  intro w hw
  obtain ⟨h1, h2⟩ := and3 (List.all_eq_true.mp h w hw)
  have h1 := of_decide_eq_true h1
  rw [Bool.or_eq_true] at h2
  rcases h2 with q | q
  · exact hts w (List.mem_filter.mpr ⟨h1, q⟩)
  · exact va_Nw.use (and3 q).2 (hKv.2.2.2.2.2 w (List.mem_filter.mpr ⟨h1, q⟩))
theorem thr_site (C : Cx base ca fm p l s mid args meth c Rm m) {ik is ic x : Nat} {X text : String} (hm : sk_cl m = 1) (hh : sk_hh m = []) (hfr : 6 ≤ sk_fr m) (hlo : 100 ≤ sk_lo m) (hx2 : x < 2) (hX : X = exN x)
    (hk : Cond.classLink "StuckKeys" ik X ∈ sk_TB) (hi : Cond.initialized X ∈ sk_TB) (hs : ∃ sa : Nat, vk_R "StuckKeys" is text sa s) (hfit : Bundle.fit X = true) (hat : ∀ w ∈ vx_atS "StuckKeys" ic X xnm, w.before args s = true)
    (hot : (Cond.classLink "StuckKeys" ik X :: Cond.initialized X :: vx_atS "StuckKeys" ic X xnm).all vx_ot = true)
    (d0 : decode (sk_by m) pc = .ok (.new ik, 3)) (d3 : decode (sk_by m) (pc + 3) = .ok (.dup, 1)) (d4 : decode (sk_by m) (pc + 4) = .ok (.ldc_w is, 3)) (d7 : decode (sk_by m) (pc + 7) = .ok (.invokespecial ic, 3)) (d10 : decode (sk_by m) (pc + 10) = .ok (.athrow, 1))
    (hr1 : cN (sh_thr S) ≤ Rm.cells + k0) (hr2 : sN (sh_thr S) ≤ Rm.slots + k1) :
    Wk base ca fm D p l e Rm s mid args below meth c k0 k1 (WQ base ca fm D below args s Rm ((x + 1, none), I, J, R, sh_thr S)) m pc ls [] I J R S := by
  obtain ⟨hx, hb, hml, hown, hts, hrt, hlk, -, hKv, hF, hL, htab, htr, h19, hf, hKh⟩ := C
  intro H locs lsR cells slots h1 h2 h3 h4 h5 h6
  obtain ⟨sa, hsa⟩ := hs
  rw [hm] at hown
  rw [cN_thr] at hr1
  rw [sN_thr] at hr2
  refine vx_throwSW hx hb htr (own := "StuckKeys") (names := xnm) (ik := ik) (is := is) (ic := ic) hown hfit (by decide) (hts _ hk) (hts _ hi) hsa hat (fun w hw => List.all_eq_true.mp hot w hw) hKh.2.1 hKh.2.2.1 h2 (h3.1.trans hml.symm) d0 d3 d4 d7 d10 (fun z hz => ?_) (by show 5 < _; omega) (by show 0 + (13 * 3 + 43) ≤ _; omega) (by omega) (by omega) hlk (fun t ht hz oq => ?_) h2.2.2 (by omega) (by omega)
  · rw [htab, hh] at hz
    cases hz
  · exact ⟨x, rfl, hx2, hX, Hd_moved base ca fm D ht (Hd_thr h1 hz oq), Nat.le_trans h2.1 hz, fun q hq hA => (oq q (Nat.lt_of_lt_of_le hq h2.1)).trans (h2.2.1 q hq hA)⟩
set_option maxRecDepth 100000 in
theorem sk_xk1 : Cond.classLink "StuckKeys" 290 "java/lang/IllegalArgumentException" ∈ sk_TB := sk_memT (i := 311) rfl rfl
set_option maxRecDepth 100000 in
theorem sk_xi1 : Cond.initialized "java/lang/IllegalArgumentException" ∈ sk_TB := sk_memT (i := 17) rfl rfl
set_option maxRecDepth 100000 in
theorem sk_xk2 : Cond.classLink "StuckKeys" 299 "java/lang/IllegalStateException" ∈ sk_TB := sk_memT (i := 592) rfl rfl
set_option maxRecDepth 100000 in
theorem sk_xi2 : Cond.initialized "java/lang/IllegalStateException" ∈ sk_TB := sk_memT (i := 19) rfl rfl
theorem k_throw (C : Cx base ca fm p l s mid args meth c Rm m) {x ik : Nat} (ht : sk_th m pc = some x) (hr1 : cN (sh_thr S) ≤ Rm.cells + k0) (hr2 : sN (sh_thr S) ≤ Rm.slots + k1) (hd : decode (sk_by m) pc = .ok (.new ik, 3)) :
    Wk base ca fm D p l e Rm s mid args below meth c k0 k1 (WQ base ca fm D below args s Rm ((x + 1, none), I, J, R, sh_thr S)) m pc ls [] I J R S := by
  have hts : ∀ w ∈ sk_TB, w.before args s = true := C.2.2.2.2.1
  have hKv := C.2.2.2.2.2.2.2.2.1
  have h9 : (m = 62 ∧ pc = 7 ∧ x = 0) ∨ (m = 63 ∧ pc = 4 ∧ x = 0) ∨ (m = 64 ∧ pc = 4 ∧ x = 1) := by
    unfold sk_th sk_thT at ht
    simp only [List.lookup_cons, List.lookup_nil] at ht
    by_cases e1 : ((m, pc) == (62, 7)) = true
    · rw [e1] at ht
      simp only [beq_iff_eq, Prod.mk.injEq] at e1
      exact Or.inl ⟨e1.1, e1.2, (Option.some.inj ht).symm⟩
    · rw [Bool.not_eq_true] at e1
      rw [e1] at ht
      by_cases e2 : ((m, pc) == (63, 4)) = true
      · rw [e2] at ht
        simp only [beq_iff_eq, Prod.mk.injEq] at e2
        exact Or.inr (Or.inl ⟨e2.1, e2.2, (Option.some.inj ht).symm⟩)
      · rw [Bool.not_eq_true] at e2
        rw [e2] at ht
        by_cases e3 : ((m, pc) == (64, 4)) = true
        · rw [e3] at ht
          simp only [beq_iff_eq, Prod.mk.injEq] at e3
          exact Or.inr (Or.inr ⟨e3.1, e3.2, (Option.some.inj ht).symm⟩)
        · rw [Bool.not_eq_true] at e3
          rw [e3] at ht
          cases ht
  rcases h9 with ⟨rfl, rfl, rfl⟩ | ⟨rfl, rfl, rfl⟩ | ⟨rfl, rfl, rfl⟩
  · exact thr_site C (ik := 290) (is := 292) (ic := 294) (text := "no word") (by decide +kernel) (by decide +kernel) (by decide +kernel) (by decide +kernel) (by decide) rfl sk_xk1 sk_xi1 hKv.2.2.1 (by decide +kernel) (xat_of (sk_xat (294, "java/lang/IllegalArgumentException") (by decide)) hts hKv) (sk_xot (290, 294, "java/lang/IllegalArgumentException") (by decide)) (by decide +kernel) (by decide +kernel) (by decide +kernel) (by decide +kernel) (by decide +kernel) hr1 hr2
  · exact thr_site C (ik := 290) (is := 297) (ic := 294) (text := "out of range") (by decide +kernel) (by decide +kernel) (by decide +kernel) (by decide +kernel) (by decide) rfl sk_xk1 sk_xi1 hKv.2.2.2.1 (by decide +kernel) (xat_of (sk_xat (294, "java/lang/IllegalArgumentException") (by decide)) hts hKv) (sk_xot (290, 294, "java/lang/IllegalArgumentException") (by decide)) (by decide +kernel) (by decide +kernel) (by decide +kernel) (by decide +kernel) (by decide +kernel) hr1 hr2
  · exact thr_site C (ik := 299) (is := 301) (ic := 303) (text := "not possible now") (by decide +kernel) (by decide +kernel) (by decide +kernel) (by decide +kernel) (by decide) rfl sk_xk2 sk_xi2 hKv.2.2.2.2.1 (by decide +kernel) (xat_of (sk_xat (303, "java/lang/IllegalStateException") (by decide)) hts hKv) (sk_xot (299, 303, "java/lang/IllegalStateException") (by decide)) (by decide +kernel) (by decide +kernel) (by decide +kernel) (by decide +kernel) (by decide +kernel) hr1 hr2
end SN9
