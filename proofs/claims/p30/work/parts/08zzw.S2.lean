/-! the small machine's cells at the law's entry -/
def kdS (p : Nat) : Nat := if p < 2 then 40 else if p < 12 then 100 else if p < 15 then 21 else if p < 23 then 100 else if p < 26 then 42 else if p = 34 then 40 else 100
def lnS (L p : Nat) : Nat := if p < 2 then 3 else if 23 ≤ p ∧ p < 26 then sLen (p - 23) else if p = 34 then L else 0
def iS (xs : Nat → Int32) : MI := fun p j => if p = 0 then aLe j else if p = 1 then aGr j else if 23 ≤ p ∧ p < 26 then nI (sCh (p - 23) j) else if p = 34 then xs j else 0
def jS : MJ := fun _ _ => 0
def rS : MR := fun p j => if 12 ≤ p ∧ p < 15 ∧ j = 0 then .ref (p + 11) else .null
def shS (L : Nat) : Sh := (kdS, lnS L, 35, 0, 0)
section NH
variable {base : Nat} {ca : Nat → Nat} {fm : Value} {D : va_G} {U : State} {H : Heap} {I : MI} {J : MJ} {R : MR} {S : Sh} {x : Nat} {args : Array Value} {s : State}
theorem ad_lt (h : x < 35) : ad base ca x = ca x := if_pos h
theorem Cl_40 (h : x < 35) (hk : S.1 x = 40) (ha : aAt U H (ca x) .int (S.2.1 x) (fun j => .int (I x j))) : Cl base ca fm D U H I J R S x := by
  unfold Cl
  rw [hk, ad_lt h]
  exact ⟨fun e => by omega, fun e => by omega, fun e => by omega, fun e => by omega, fun e => by omega, fun _ => ⟨h, ha⟩, fun e => by omega, fun e => by omega⟩
theorem Cl_42 (h : x < 35) (hk : S.1 x = 42) (ha : aAt U H (ca x) .byte (S.2.1 x) (fun j => .int (I x j))) : Cl base ca fm D U H I J R S x := by
  unfold Cl
  rw [hk, ad_lt h]
  exact ⟨fun e => by omega, fun e => by omega, fun e => by omega, fun e => by omega, fun e => by omega, fun e => by omega, fun _ => ⟨h, ha⟩, fun e => by omega⟩
theorem Cl_100 (hk : S.1 x = 100) : Cl base ca fm D U H I J R S x := by
  unfold Cl
  rw [hk]
  exact ⟨fun e => by omega, fun e => by omega, fun e => by omega, fun e => by omega, fun e => by omega, fun e => by omega, fun e => by omega, fun e => by omega⟩
theorem Cl_o {k : Nat} (h : x < 35) (hk : S.1 x = k) (h2 : k = 20 ∨ k = 21) (ho : va_O (cKn k) (ca x) (sk_A base) U H) (hf : ∀ (j : Nat) (q : String × String × String), sk_cf k j = some q → va_OF q.1 q.2.1 q.2.2 (tr base ca fm (getF (sk_cty k j) x j I J R)) (ca x) (sk_A base) U H) : Cl base ca fm D U H I J R S x := by
  unfold Cl
  rw [hk, ad_lt h]
  exact ⟨fun e => by omega, fun _ => ⟨h, ho, hf⟩, fun e => by omega, fun e => by omega, fun e => by omega, fun e => by omega, fun e => by omega, fun e => by omega⟩
set_option maxRecDepth 100000 in
theorem tb_o : tables_1[1]? = some (.initialized "StuckKeys") ∧ tables_1[3]? = some (.initialized "java/lang/String") ∧ tables_1[5]? = some (.initialized "jdk/internal/util/Preconditions") ∧ tables_1[14]? = some (.initialized Bundle.tN) ∧
    tables_1[48]? = some (.laysStatic "java/lang/String" "COMPACT_STRINGS" "Z") ∧ tables_1[64]? = some (.laysStatic "jdk/internal/util/Preconditions" "SIOOBE_FORMATTER" "Ljava/util/function/BiFunction;") ∧ tables_1[709]? = some (.laysStatic "StuckKeys" "LEAST_SETTINGS" "[I") ∧ tables_1[711]? = some (.laysStatic "StuckKeys" "GREATEST_SETTINGS" "[I") ∧
    tables_1[338]? = some (.laysStatic Bundle.tN "UNASSIGNED_STACK" Bundle.steD) ∧ tables_1[340]? = some (.laysStatic Bundle.tN "SUPPRESSED_SENTINEL" Bundle.listD) ∧ tables_1[34]? = some (.stringRef "StuckKeys$Keyboard" 21 "qwertyuiop") ∧ tables_1[87]? = some (.stringRef "StuckKeys$Keyboard" 27 "asdfghjkl") ∧ tables_1[88]? = some (.stringRef "StuckKeys$Keyboard" 29 "zxcvbnm") ∧ tables_1[430]? = some (.stringRef "StuckKeys" 292 "no word") ∧ tables_1[351]? = some (.stringRef "StuckKeys" 297 "out of range") ∧ tables_1[601]? = some (.stringRef "StuckKeys" 301 "not possible now") ∧
    tables_1[224]? = some (.arrayOver (.object "StuckKeys$Book")) := by decide +kernel
set_option maxRecDepth 100000 in
theorem nw_in : ∀ w ∈ sk_nwL, w ∈ lw_tbl ∧ w.onTables = true := by decide +kernel
theorem tb_at (hts : ∀ w ∈ lw_tbl, w.before args s = true) {i : Nat} {w : Cond} (h : tables_1[i]? = some w) : w.before args s = true := hts w (by unfold lw_tbl; exact List.mem_append_right _ (List.mem_of_getElem? h))
set_option maxRecDepth 100000 in
theorem D_of (hts : ∀ w ∈ lw_tbl, w.before args s = true) : ∃ D : va_G, va_K D sk_ow [] s := by
  obtain ⟨c0, i0, k0⟩ := u_known hts sk_in0 (hts (.instantiable "StuckKeys$Book" 8) (by decide +kernel))
  obtain ⟨c1, i1, k1⟩ := u_known hts sk_in1 (hts (.instantiable "StuckKeys$Distances" 7) (by decide +kernel))
  obtain ⟨c2, i2, k2⟩ := u_known hts sk_in2 (hts (.instantiable "StuckKeys$History" 2) (by decide +kernel))
  obtain ⟨c3, i3, k3⟩ := u_known hts sk_in3 (hts (.instantiable "StuckKeys$Keyboard" 3) (by decide +kernel))
  obtain ⟨c4, i4, k4⟩ := u_known hts sk_in4 (hts (.instantiable "StuckKeys$Rows" 4) (by decide +kernel))
  obtain ⟨c5, i5, k5⟩ := u_known hts sk_in5 (hts (.instantiable "StuckKeys$Script" 9) (by decide +kernel))
  obtain ⟨c6, i6, k6⟩ := u_known hts sk_in6 (hts (.instantiable "StuckKeys$Speller" 3) (by decide +kernel))
  obtain ⟨c7, i7, k7⟩ := u_known hts sk_in7 (hts (.instantiable "StuckKeys" 5) (by decide +kernel))
  obtain ⟨c8, i8, k8⟩ := u_known hts sk_in8 (hts (.instantiable "StuckKeys" 5) (by decide +kernel))
  refine ⟨(fun k => ([c0, c1, c2, c3, c4, c5, c6, c7, c8] : List ClassId).getD k c0, fun k => ([i0, i1, i2, i3, i4, i5, i6, i7, i8] : List (Nat → Nat)).getD k i0), ?_, fun k q h => by simp at h⟩
  intro k q hq
  match k, hq with
  | 0, hq => cases hq; exact k0
  | 1, hq => cases hq; exact k1
  | 2, hq => cases hq; exact k2
  | 3, hq => cases hq; exact k3
  | 4, hq => cases hq; exact k4
  | 5, hq => cases hq; exact k5
  | 6, hq => cases hq; exact k6
  | 7, hq => cases hq; exact k7
  | 8, hq => cases hq; exact k8
  | k + 9, hq => simp [sk_ow] at hq
theorem hd_start {b L : Nat} {xs : Nat → Int32} (hts : ∀ w ∈ lw_tbl, w.before args s = true) (hs : ∀ w ∈ sk_nr, w.before args s = true) (hX : va_X b L xs s s.heap) (hb : b < s.heap.size) : ∃ (ca : Nat → Nat) (fm : Value) (D : va_G), fm.category = 1 ∧ ca 34 = b ∧ Hd s.heap.size ca fm D s s.heap (iS xs) jS rS (shS L) ∧ Kv ca s := by
  have hA : ∀ a : Nat, a < s.heap.size → ¬ (sk_A s.heap.size) a := fun a h => Nat.not_le.mpr h
  obtain ⟨D, hD⟩ := D_of hts
  obtain ⟨t1, t3, t5, t14, t48, t64, t709, t711, t338, t340, t34, t87, t88, t430, t351, t601, t224⟩ := tb_o
  obtain ⟨o4, o5, o9, o10, o31, o40, o101, o82, o116⟩ := nr_o
  have E1 : ∀ i : Nat, ∃ q : Nat × Nat, i < 3 → (sTm i).eval args s none [] s = some (.ref q.1) ∧ Tx (sk_A s.heap.size) s q.1 q.2 (sLen i) (sCh i) := fun i => by
    by_cases hi : i < 3
    · obtain ⟨q, hq⟩ := tx_of hs hA hi
      exact ⟨q, fun _ => hq⟩
    · exact ⟨(0, 0), fun h => absurd h hi⟩
  obtain ⟨st, hst⟩ := Classical.axiomOfChoice E1
  obtain ⟨pL, eL, aL, zL⟩ := aAt_of (f := fun j => .int (aLe j)) (N := 3) (by decide) (hs _ (List.mem_of_getElem? nr_le.1)) (va_eqt (hs _ (List.mem_of_getElem? nr_le.2.1))) (fun j hj => va_eqt (hs _ (List.mem_of_getElem? (nr_le.2.2 j hj))))
  obtain ⟨pG, eG, aG, zG⟩ := aAt_of (f := fun j => .int (aGr j)) (N := 3) (by decide) (hs _ (List.mem_of_getElem? nr_gr.1)) (va_eqt (hs _ (List.mem_of_getElem? nr_gr.2.1))) (fun j hj => va_eqt (hs _ (List.mem_of_getElem? (nr_gr.2.2 j hj))))
  obtain ⟨fm, efm, hfm⟩ := Cond.isRef_spec (hs _ (List.mem_of_getElem? o5))
  have hcat : fm.category = 1 := by cases fm <;> first | rfl | cases hfm
  obtain ⟨ca, hca⟩ : ∃ ca : Nat → Nat, ca = fun p => if p = 0 then pL else if p = 1 then pG else if p < 12 then b else if p < 15 then (st (p - 12)).1 else if p < 23 then b else if p < 26 then (st (p - 23)).2 else b := ⟨_, rfl⟩
  have c0 : ca 0 = pL := by rw [hca]; rfl
  have c1 : ca 1 = pG := by rw [hca]; rfl
  have c34 : ca 34 = b := by rw [hca]; rfl
  have cT : ∀ i, i < 3 → ca (12 + i) = (st i).1 := fun i hi => by
    rw [hca]
    show (if 12 + i = 0 then _ else _) = _
    rw [if_neg (by omega), if_neg (by omega), if_neg (by omega), if_pos (by omega), show 12 + i - 12 = i by omega]
  have cV : ∀ i, i < 3 → ca (23 + i) = (st i).2 := fun i hi => by
    rw [hca]
    show (if 23 + i = 0 then _ else _) = _
    rw [if_neg (by omega), if_neg (by omega), if_neg (by omega), if_neg (by omega), if_neg (by omega), if_pos (by omega), show 23 + i - 23 = i by omega]
  have cB : ∀ k : Nat, 2 ≤ k → (k < 12 ∨ (15 ≤ k ∧ k < 23) ∨ 26 ≤ k) → ca k = b := fun k h1 h2 => by
    rw [hca]
    show (if k = 0 then _ else _) = _
    rw [if_neg (by omega), if_neg (by omega)]
    by_cases q : k < 12
    · rw [if_pos q]
    · rw [if_neg q, if_neg (by omega)]
      by_cases q2 : k < 23
      · rw [if_pos q2]
      · rw [if_neg q2, if_neg (by omega)]
  have cl : ∀ k : Nat, k < 35 → ca k < s.heap.size := fun k hk => by
    by_cases q0 : k < 2
    · rcases (show k = 0 ∨ k = 1 by omega) with z | z <;> subst z
      · rw [c0]; exact zL
      · rw [c1]; exact zG
    · by_cases q1 : 12 ≤ k ∧ k < 15
      · obtain ⟨i, rfl⟩ : ∃ i, k = 12 + i := ⟨k - 12, by omega⟩
        rw [cT i (by omega)]
        exact (hst i (by omega)).2.2.2.2.2.2
      · by_cases q2 : 23 ≤ k ∧ k < 26
        · obtain ⟨i, rfl⟩ : ∃ i, k = 23 + i := ⟨k - 23, by omega⟩
          rw [cV i (by omega)]
          exact (hst i (by omega)).2.2.2.2.2.1
        · rw [cB k (by omega) (by omega)]
          exact hb
  have tr_lo : ∀ k : Nat, k < 35 → tr s.heap.size ca fm (.ref k) = .ref (ca k) := fun k hk => by
    show Value.ref (ad s.heap.size ca k) = _
    rw [ad_lt hk]
  have k100 : ∀ k : Nat, 2 ≤ k → (k < 12 ∨ (15 ≤ k ∧ k < 23) ∨ (26 ≤ k ∧ k ≠ 34)) → kdS k = 100 := fun k h1 h2 => by
    unfold kdS
    rw [if_neg (by omega)]
    by_cases q : k < 12
    · rw [if_pos q]
    · rw [if_neg q, if_neg (by omega)]
      by_cases q2 : k < 23
      · rw [if_pos q2]
      · rw [if_neg q2, if_neg (by omega), if_neg (by omega)]
  refine ⟨ca, fm, D, hcat, c34, ⟨hD, Nat.le_refl _, fun _ => (Nat.add_zero _).symm, Nat.le_refl _, fun x hx => ?_, cl, fun x => ?_, ?_⟩, ?_⟩
  · have hx : 35 ≤ x := hx
    show 100 ≤ kdS x
    rw [k100 x (by omega) (by omega)]
    exact Nat.le_refl _
  · by_cases q0 : x < 2
    · rcases (show x = 0 ∨ x = 1 by omega) with z | z <;> subst z
      · exact Cl_40 (by omega) rfl (by rw [c0]; exact aL)
      · exact Cl_40 (by omega) rfl (by rw [c1]; exact aG)
    · by_cases q2 : 12 ≤ x ∧ x < 15
      · obtain ⟨i, rfl⟩ : ∃ i, x = 12 + i := ⟨x - 12, by omega⟩
        have hi : i < 3 := by omega
        obtain ⟨-, m1, m2, m3, m4, m5, m6⟩ := hst i hi
        have hk : (shS L).1 (12 + i) = 21 := by
          show kdS (12 + i) = 21
          unfold kdS
          rw [if_neg (by omega), if_neg (by omega), if_pos (by omega)]
        have hI : iS xs (12 + i) 1 = 0 := by
          unfold iS
          rw [if_neg (by omega), if_neg (by omega), if_neg (by omega), if_neg (by omega)]
        have hR : rS (12 + i) 0 = .ref (23 + i) := by
          unfold rS
          rw [if_pos ⟨by omega, by omega, rfl⟩, show 12 + i + 11 = 23 + i by omega]
        refine Cl_o (by omega) hk (.inr rfl) (by rw [cT i hi]; exact m1) (fun j q hq => ?_)
        rw [cT i hi]
        match j, hq with
        | 0, hq =>
          cases hq
          show va_OF _ _ _ (tr s.heap.size ca fm (rS (12 + i) 0)) _ _ _ _
          rw [hR, tr_lo (23 + i) (by omega), cV i hi]; exact m3
        | 1, hq =>
          cases hq
          show va_OF _ _ _ (.int (iS xs (12 + i) 1)) _ _ _ _
          rw [hI]; exact m2
        | j + 2, hq => exact absurd hq (by simp [sk_cf, sk_cfL])
      · by_cases q3 : 23 ≤ x ∧ x < 26
        · obtain ⟨i, rfl⟩ : ∃ i, x = 23 + i := ⟨x - 23, by omega⟩
          have hi : i < 3 := by omega
          obtain ⟨-, m1, m2, m3, m4, m5, m6⟩ := hst i hi
          have hk : (shS L).1 (23 + i) = 42 := by
            show kdS (23 + i) = 42
            unfold kdS
            rw [if_neg (by omega), if_neg (by omega), if_neg (by omega), if_neg (by omega), if_pos (by omega)]
          have hn : (shS L).2.1 (23 + i) = sLen i := by
            show lnS L (23 + i) = _
            unfold lnS
            rw [if_neg (by omega), if_pos ⟨by omega, by omega⟩, show 23 + i - 23 = i by omega]
          have hI : ∀ j, iS xs (23 + i) j = nI (sCh i j) := fun j => by
            unfold iS
            rw [if_neg (by omega), if_neg (by omega), if_pos ⟨by omega, by omega⟩, show 23 + i - 23 = i by omega]
          refine Cl_42 (by omega) hk ?_
          rw [hn, cV i hi]
          exact aAt_kept m4 rfl (fun j => by rw [hI])
        · by_cases q4 : x = 34
          · subst q4
            exact Cl_40 (by omega) rfl (by rw [c34]; exact hX)
          · exact Cl_100 (k100 x (by omega) (by omega))
  · refine ⟨fun j q hq => ?_, vx_Zqof (tb_at hts t338) (tb_at hts t14) (hs _ (List.mem_of_getElem? o9)) hA, vx_Zqof (tb_at hts t340) (tb_at hts t14) (hs _ (List.mem_of_getElem? o10)) hA, va_Nc.of (hs _ (List.mem_of_getElem? o31)), va_Nc.of (hs _ (List.mem_of_getElem? o40)), va_AO.of (tb_at hts t224)⟩
    match j, hq with
    | 0, hq =>
      cases hq
      show va_Z _ _ _ (tr s.heap.size ca fm (.ref 0)) _ _ _
      rw [tr_lo 0 (by omega), c0]
      exact va_Zof (tb_at hts t709) (tb_at hts t1) eL hA
    | 1, hq =>
      cases hq
      show va_Z _ _ _ (tr s.heap.size ca fm (.ref 1)) _ _ _
      rw [tr_lo 1 (by omega), c1]
      exact va_Zof (tb_at hts t711) (tb_at hts t1) eG hA
    | 2, hq =>
      cases hq
      exact va_Zof (tb_at hts t48) (tb_at hts t3) (va_eqt (hs _ (List.mem_of_getElem? o4))) hA
    | 3, hq =>
      cases hq
      exact va_Zof (tb_at hts t64) (tb_at hts t5) efm hA
    | j + 4, hq => exact absurd hq (by simp [sk_sfL])
  · refine ⟨fun w hw => va_Nw.of (nw_in w hw).2 (hts w (nw_in w hw).1), fun q hq => ?_, ?_, ?_, ?_, fun w hw => ?_⟩
    · rcases List.mem_cons.mp hq with q | hq
      · subst q
        exact vk_R.of (tb_at hts t34) ((hst 0 (by omega)).1.trans (by rw [show ca 12 = (st 0).1 from cT 0 (by omega)]))
      · rcases List.mem_cons.mp hq with q | hq
        · subst q
          exact vk_R.of (tb_at hts t87) ((hst 1 (by omega)).1.trans (by rw [show ca 13 = (st 1).1 from cT 1 (by omega)]))
        · rcases List.mem_cons.mp hq with q | hq
          · subst q
            exact vk_R.of (tb_at hts t88) ((hst 2 (by omega)).1.trans (by rw [show ca 14 = (st 2).1 from cT 2 (by omega)]))
          · exact absurd hq List.not_mem_nil
    · obtain ⟨a, h1, -, -⟩ := obj_of (hs _ (List.mem_of_getElem? o101)) hA
      exact ⟨a, vk_R.of (tb_at hts t430) h1⟩
    · obtain ⟨a, h1, -, -⟩ := obj_of (hs _ (List.mem_of_getElem? o82)) hA
      exact ⟨a, vk_R.of (tb_at hts t351) h1⟩
    · obtain ⟨a, h1, -, -⟩ := obj_of (hs _ (List.mem_of_getElem? o116)) hA
      exact ⟨a, vk_R.of (tb_at hts t601) h1⟩
    · obtain ⟨h1, h2⟩ := List.mem_filter.mp hw
      rw [Bool.and_eq_true] at h2
      exact va_Nw.of h2.2 (hts w h1)
end NH
