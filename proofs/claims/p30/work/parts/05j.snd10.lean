theorem sk_hh_L : ∀ m, m < 261 → ∀ h ∈ sk_hh m, sk_cl m = 0 ∧ (h.2.2.2 = 71 ∨ h.2.2.2 = 73) := by decide +kernel
set_option maxRecDepth 100000 in
theorem sk_lk13 : Cond.classLink "StuckKeysLaw" 71 "java/lang/IllegalArgumentException" ∈ sk_TB := sk_memT (i := 571) rfl rfl
set_option maxRecDepth 100000 in
theorem sk_lk15 : Cond.classLink "StuckKeysLaw" 73 "java/lang/IllegalStateException" ∈ sk_TB := sk_memT (i := 572) rfl rfl
theorem sk_cs0 : Cond.castable "java/lang/IllegalArgumentException" "java/lang/IllegalArgumentException" ∈ sk_TF := List.mem_filter.mpr ⟨by decide +kernel, rfl⟩
theorem sk_cs1 : Cond.castable "java/lang/IllegalStateException" "java/lang/IllegalStateException" ∈ sk_TF := List.mem_filter.mpr ⟨by decide +kernel, rfl⟩
section SN11
variable {base : Nat} {ca : Nat → Nat} {fm : Value} {D : va_G} {p : Program} {l : Launch} {e : Env} {Rm : Room} {s : State} {mid : MethodId} {args : Array Value} {below : List Frame} {meth : Method} {c : Code} {k0 k1 : Nat} {Q : State → Prop}
variable {m pc : Nat} {ls st : List Value} {I : MI} {J : MJ} {R : MR} {S : Sh}
theorem run_go {o : SkO} {H : Heap} {locs : List Loc} {lsR : Array Slot} {cells slots mc ms : Nat} {stR restR : List Value} {aA : Array Value}
    (hr : vx_Run p l e Rm s mid args below meth c H locs cells slots mc ms (F0 mid pc lsR stR) restR (QcO base ca fm D o aA) (XcO base ca fm D o) (sk_A base)) (hS : va_S (sk_A base) s.heap H locs)
    (k0 : o.1.1 = 0 → ∀ (H1 : Heap) (locs1 : List Loc), Hd base ca fm D s H1 o.2.1 o.2.2.1 o.2.2.2.1 o.2.2.2.2 → va_S (sk_A base) s.heap H1 locs1 → W p l e Rm s mid args below meth c H1 locs1 (cells + mc) (slots + ms) Q (F0 mid (pc + 3) lsR ((o.1.2.map (tr base ca fm)).toList ++ restR)))
    (kx : ∀ x, o.1.1 = x + 1 → x < 2 → ∀ (H1 : Heap) (locs1 : List Loc) (q : Addr) (ce : Cell), Hd base ca fm D s H1 o.2.1 o.2.2.1 o.2.2.2.1 o.2.2.2.2 → va_S (sk_A base) s.heap H1 locs1 → H1[q]? = some ce → ce.vm = .none → s.vm.findClass (exN x) = some ce.cls →
      vx_W p l e Rm s mid args below meth c H1 locs1 (cells + mc) (slots + ms) Q (F0 mid pc lsR restR) q) :
    W p l e Rm s mid args below meth c H locs cells slots Q (F0 mid pc lsR stR) := by
  intro T hT X
  have hS2 : ∀ (st₀ t : State) (L : List Loc), st₀.heap = H → (∀ q ∈ L, sk_A base q.base) → va_F (sk_A base) st₀ t → va_S (sk_A base) s.heap t.heap (locs ++ L) := by
    intro st₀ t L h0 hL hF
    obtain ⟨f1, f2⟩ := hF
    rw [h0] at f1 f2
    refine ⟨Nat.le_trans hS.1 f1, fun q hq hA => (f2 q (Nat.lt_of_lt_of_le hq hS.1) hA).trans (hS.2.1 q hq hA), fun z hz => ?_⟩
    rcases List.mem_append.mp hz with q | q
    · exact hS.2.2 z q
    · exact hL z q
  rcases hr T hT X with ⟨v, st₀, t, T', L, e0, X', hL, e1, e2, ⟨q1, q2, q3, q4⟩, hgo⟩ | ⟨q, st₀, t, T', L, E, ce, e0, X', hL, e1, e2, ⟨x, x1, x2, x3, x4, x5⟩, g1, g2, g3, hst⟩
  · have hv := Outcome.returned.inj q1
    subst hv
    have hal : t.vm.Alike s.vm := by rw [← e2]; exact X'.warmed.alike.symm
    obtain ⟨t2, a1, b1⟩ := k0 q2 t.heap (locs ++ L) (Hd_moved base ca fm D hal q3) (hS2 st₀ t L e0 hL q4) T' e1 X'
    exact ⟨t2, hgo t2 a1, b1⟩
  · have hal : t.vm.Alike s.vm := by rw [← e2]; exact X'.warmed.alike.symm
    subst x3
    obtain ⟨t2, a1, b1⟩ := kx x x1 x2 t.heap (locs ++ L) q ce (Hd_moved base ca fm D hal x4) (hS2 st₀ t L e0 hL x5) g1 g2 g3 T' e1 X'
    exact ⟨t2, hst.trans a1, b1⟩
theorem catch_pass {x ct : Nat} (hx : x < 2) (hct : ct = 71 ∨ ct = 73) (hne : ct ≠ hndC x) (hts : ∀ w ∈ sk_TB, w.before args s = true) {H : Heap} (hKh : Kh base ca fm s H) : ct ≠ 0 ∧ ∃ nm : String, (Cond.classLink "StuckKeysLaw" ct nm).before args s = true ∧ va_Nc (exN x) nm s := by
  have h : x = 0 ∨ x = 1 := by omega
  rcases h with rfl | rfl
  · rcases hct with rfl | rfl
    · exact absurd rfl hne
    · exact ⟨by decide, _, hts _ sk_lk15, hKh.2.2.2.2.1⟩
  · rcases hct with rfl | rfl
    · exact ⟨by decide, _, hts _ sk_lk13, hKh.2.2.2.1⟩
    · exact absurd rfl hne
theorem k_catch (C : Cx base ca fm p l s mid args meth c Rm m) {x hp pc2 : Nat} {ls2 restR : List Value} {q : Addr} {ce : Cell} (hm : m < 261) (hx2 : x < 2) (hh : hnd m pc x = some hp) (h9 : hst m hp ls = some (pc2, ls2))
    {H : Heap} {locs : List Loc} {lsR : Array Slot} {cells slots : Nat} (h1 : Hd base ca fm D s H I J R S) (h2 : va_S (sk_A base) s.heap H locs) (h3 : lv_has lsR (sk_mx m) (al base ca fm ls)) (h4 : ls.length = sk_mx m) (h5 : cells + k0 = cN S) (h6 : slots + k1 = sN S)
    (g1 : H[q]? = some ce) (g2 : ce.vm = .none) (g3 : s.vm.findClass (exN x) = some ce.cls) (kk : Wk base ca fm D p l e Rm s mid args below meth c k0 k1 Q m pc2 ls2 [] I J R S) :
    vx_W p l e Rm s mid args below meth c H locs cells slots Q (F0 mid pc lsR restR) q := by
  obtain ⟨hx, hb, hml, hown, hts, hrt, hlk, -, hKv, hF, hL, htab, htr, h19, hf, hKh⟩ := C
  unfold hnd at hh
  cases hfi : (sk_hh m).find? (fun h => decide (h.1 ≤ pc) && decide (pc < h.2.1) && (h.2.2.2 == hndC x)) with
  | none => rw [hfi] at hh; cases hh
  | some r =>
    rw [hfi] at hh
    have hh : r.2.2.1 = hp := Option.some.inj hh
    obtain ⟨p1, as, bs, p2, p3⟩ := List.find?_eq_some_iff_append.mp hfi
    obtain ⟨p1, p4⟩ := and3 p1
    have p4 : r.2.2.2 = hndC x := by simpa using p4
    have hrm : r ∈ sk_hh m := by rw [p2]; exact List.mem_append_right _ List.mem_cons_self
    have hL0 := (sk_hh_L m hm r hrm).1
    rw [hL0] at hown
    have hx01 : x = 0 ∨ x = 1 := by omega
    have hlink : (Cond.classLink "StuckKeysLaw" (hndC x) (exN x)).before args s = true := by
      rcases hx01 with rfl | rfl
      · exact hts _ sk_lk13
      · exact hts _ sk_lk15
    have hcast : (Cond.castable (exN x) (exN x)).before args s = true := by
      rcases hx01 with rfl | rfl
      · exact va_Nw.use rfl (hKv.2.2.2.2.2 _ sk_cs0)
      · exact va_Nw.use rfl (hKv.2.2.2.2.2 _ sk_cs1)
    refine vx_catch (own := "StuckKeysLaw") (name := exN x) hown (tableOf as) ⟨r.1, r.2.1, r.2.2.1, r.2.2.2⟩ (tableOf bs) ?_ (fun z hz => ?_) p1 ?_ ?_ hcast g1 g2 g3 ?_
    · rw [htab, p2]
      unfold tableOf
      rw [List.map_append, List.map_cons]
    · obtain ⟨a, ha, rfl⟩ := List.mem_map.mp hz
      have ham : a ∈ sk_hh m := by rw [p2]; exact List.mem_append_left _ ha
      have hp3 := p3 a ha
      by_cases hc : (decide (a.1 ≤ pc) && decide (pc < a.2.1)) = true
      · refine Or.inr (catch_pass hx2 (sk_hh_L m hm a ham).2 (fun q => ?_) hts hKh)
        have q : a.2.2.2 = hndC x := q
        rw [hc, q] at hp3
        simp at hp3
      · rw [Bool.not_eq_true] at hc
        exact Or.inl hc
    · show r.2.2.2 ≠ 0
      rw [p4]
      rcases hx01 with rfl | rfl <;> decide
    · show (Cond.classLink "StuckKeysLaw" r.2.2.2 (exN x)).before args s = true
      rw [p4]; exact hlink
    · show W p l e Rm s mid args below meth c H locs cells slots Q (F0 mid r.2.2.1 lsR [.ref q])
      rw [hh]
      unfold hst at h9
      split at h9
      · rename_i k hd
        by_cases hk : (k : Nat) < ls.length ∧ lv_free ls k = true
        · rw [if_pos hk] at h9
          cases h9
          exact lv_astore_n hx hb hd rfl h3 (by omega) rfl (fun ls1 h7 => kk H locs ls1 cells slots h1 h2 (has_sub h7 (al_st1n hf (.ref q) hk.1 hk.2)) ((st1_len _ _ _).trans h4) h5 h6)
        · rw [if_neg hk] at h9; cases h9
      · rename_i k hd
        by_cases hk : k < ls.length ∧ lv_free ls k = true
        · rw [if_pos hk] at h9
          cases h9
          exact lv_astore hx hb hd h3 (by omega) rfl (fun ls1 h7 => kk H locs ls1 cells slots h1 h2 (has_sub h7 (al_st1n hf (.ref q) hk.1 hk.2)) ((st1_len _ _ _).trans h4) h5 h6)
        · rw [if_neg hk] at h9; cases h9
      · cases h9
theorem k_outX (C : Cx base ca fm p l s mid args meth c Rm m) {x : Nat} {restR : List Value} {q : Addr} {ce : Cell} (hm : m < 261) (hx2 : x < 2) (hh : hnd m pc x = none)
    {H : Heap} {locs : List Loc} {lsR : Array Slot} {cells slots : Nat} (h1 : Hd base ca fm D s H I J R S) (h2 : va_S (sk_A base) s.heap H locs) (hc : cells ≤ Rm.cells) (hs : slots ≤ Rm.slots)
    (g1 : H[q]? = some ce) (g2 : ce.vm = .none) (g3 : s.vm.findClass (exN x) = some ce.cls) :
    vx_W p l e Rm s mid args below meth c H locs cells slots (WQ base ca fm D below args s Rm ((x + 1, none), I, J, R, S)) (F0 mid pc lsR restR) q := by
  obtain ⟨hx, hb, hml, hown, hts, hrt, hlk, -, hKv, hF, hL, htab, htr, h19, hf, hKh⟩ := C
  refine vx_outP hown hlk (fun z hz => ?_) g1 g2 g3 (fun t ht hW => ⟨x, rfl, hx2, rfl, by show Hd _ _ _ _ _ t.heap _ _ _ _; rw [ht]; exact Hd_moved base ca fm D hW h1, h2.F ht⟩) h2.2.2 hc hs
  rw [htab] at hz
  obtain ⟨a, ha, rfl⟩ := List.mem_map.mp hz
  unfold hnd at hh
  cases hfi : (sk_hh m).find? (fun h => decide (h.1 ≤ pc) && decide (pc < h.2.1) && (h.2.2.2 == hndC x)) with
  | some r => rw [hfi] at hh; cases hh
  | none =>
    have hp3 := List.find?_eq_none.mp hfi a ha
    obtain ⟨l0, l1⟩ := sk_hh_L m hm a ha
    by_cases hc : (decide (a.1 ≤ pc) && decide (pc < a.2.1)) = true
    · rw [l0]
      refine Or.inr (catch_pass hx2 l1 (fun q => ?_) hts hKh)
      have q : a.2.2.2 = hndC x := q
      rw [hc, q] at hp3
      simp at hp3
    · rw [Bool.not_eq_true] at hc
      exact Or.inl hc
end SN11
