/-! the small machine's cells at the law's entry -/
def kdS (p : Nat) : Nat := if p < 2 then 40 else if p = 2 then 43 else if p = 3 then 40 else if p < 12 then 20 else if p < 23 then 21 else if p < 34 then 42 else if p = 34 then 40 else 100
def lnS (L p : Nat) : Nat := if p < 2 then 3 else if p < 4 then 8 else if 23 ≤ p ∧ p < 34 then sLen (p - 23) else if p = 34 then L else 0
def iS (xs : Nat → Int32) : MI := fun p j => if p = 0 then aLe j else if p = 1 then aGr j else if p = 3 then aSw j else if 4 ≤ p ∧ p < 12 then (if j = 0 then nI (p - 4) else if j = 2 then nI (cmW (p - 4)) else if j = 3 then nI (cmN (p - 4)) else 0) else if 23 ≤ p ∧ p < 34 then nI (sCh (p - 23) j) else if p = 34 then xs j else 0
def jS : MJ := fun _ _ => 0
def rS : MR := fun p j => if p = 2 then .ref (4 + j) else if 4 ≤ p ∧ p < 12 ∧ j = 1 then .ref (p + 11) else if 12 ≤ p ∧ p < 23 ∧ j = 0 then .ref (p + 11) else .null
def shS (L : Nat) : Sh := (kdS, lnS L, 35, 0, 0)
section NH
variable {base : Nat} {ca : Nat → Nat} {fm : Value} {D : va_G} {U : State} {H : Heap} {I : MI} {J : MJ} {R : MR} {S : Sh} {x : Nat} {args : Array Value} {s : State}
theorem ad_lt (h : x < 35) : ad base ca x = ca x := if_pos h
theorem Cl_40 (h : x < 35) (hk : S.1 x = 40) (ha : aAt U H (ca x) .int (S.2.1 x) (fun j => .int (I x j))) : Cl base ca fm D U H I J R S x := by
  unfold Cl
  rw [hk, ad_lt h]
  exact ⟨fun e => by omega, fun e => by omega, fun e => by omega, fun e => by omega, fun e => by omega, fun _ => ⟨h, ha⟩, fun e => by omega, fun e => by omega⟩
theorem Cl_42 (h : x < 35) (hk : S.1 x = 42) (ha : aAt U H (ca x) .byte (S.2.1 x) (fun j => .int (I x j))) : Cl base ca fm D U H I J R S x := by
  unfold Cl
  rw [hk, ad_lt h]
  exact ⟨fun e => by omega, fun e => by omega, fun e => by omega, fun e => by omega, fun e => by omega, fun e => by omega, fun _ => ⟨h, ha⟩, fun e => by omega⟩
theorem Cl_43 (h : x < 35) (hk : S.1 x = 43) (ha : aAt U H (ca x) (.object "StuckKeys$Command") (S.2.1 x) (fun j => tr base ca fm (R x j))) : Cl base ca fm D U H I J R S x := by
  unfold Cl
  rw [hk, ad_lt h]
  exact ⟨fun e => by omega, fun e => by omega, fun e => by omega, fun e => by omega, fun e => by omega, fun e => by omega, fun e => by omega, fun _ => ⟨h, ha⟩⟩
theorem Cl_100 (hk : S.1 x = 100) : Cl base ca fm D U H I J R S x := by
  unfold Cl
  rw [hk]
  exact ⟨fun e => by omega, fun e => by omega, fun e => by omega, fun e => by omega, fun e => by omega, fun e => by omega, fun e => by omega, fun e => by omega⟩
theorem Cl_o {k : Nat} (h : x < 35) (hk : S.1 x = k) (h2 : k = 20 ∨ k = 21) (ho : va_O (cKn k) (ca x) (sk_A base) U H) (hf : ∀ (j : Nat) (q : String × String × String), sk_cf k j = some q → va_OF q.1 q.2.1 q.2.2 (tr base ca fm (getF (sk_cty k j) x j I J R)) (ca x) (sk_A base) U H) : Cl base ca fm D U H I J R S x := by
  unfold Cl
  rw [hk, ad_lt h]
  exact ⟨fun e => by omega, fun _ => ⟨h, ho, hf⟩, fun e => by omega, fun e => by omega, fun e => by omega, fun e => by omega, fun e => by omega, fun e => by omega⟩
set_option maxRecDepth 100000 in
theorem tb_o : tables_1[1]? = some (.initialized "StuckKeys") ∧ tables_1[3]? = some (.initialized "java/lang/String") ∧ tables_1[5]? = some (.initialized "jdk/internal/util/Preconditions") ∧ tables_1[13]? = some (.initialized "StuckKeys$Script") ∧ tables_1[22]? = some (.initialized "StuckKeys$1") ∧ tables_1[16]? = some (.initialized Bundle.tN) ∧
    tables_1[51]? = some (.laysStatic "java/lang/String" "COMPACT_STRINGS" "Z") ∧ tables_1[67]? = some (.laysStatic "jdk/internal/util/Preconditions" "SIOOBE_FORMATTER" "Ljava/util/function/BiFunction;") ∧ tables_1[414]? = some (.laysStatic "StuckKeys$Script" "COMMANDS" "[LStuckKeys$Command;") ∧ tables_1[477]? = some (.laysStatic "StuckKeys$1" "$SwitchMap$StuckKeys$Command" "[I") ∧ tables_1[618]? = some (.laysStatic "StuckKeys" "LEAST_SETTINGS" "[I") ∧ tables_1[620]? = some (.laysStatic "StuckKeys" "GREATEST_SETTINGS" "[I") ∧
    tables_1[776]? = some (.laysStatic Bundle.tN "UNASSIGNED_STACK" Bundle.steD) ∧ tables_1[778]? = some (.laysStatic Bundle.tN "SUPPRESSED_SENTINEL" Bundle.listD) ∧ tables_1[37]? = some (.stringRef "StuckKeys$Keyboard" 21 "qwertyuiop") ∧ tables_1[90]? = some (.stringRef "StuckKeys$Keyboard" 27 "asdfghjkl") ∧ tables_1[91]? = some (.stringRef "StuckKeys$Keyboard" 29 "zxcvbnm") ∧ tables_1[789]? = some (.stringRef "StuckKeys" 292 "no word") ∧ tables_1[818]? = some (.stringRef "StuckKeys" 297 "out of range") ∧ tables_1[831]? = some (.stringRef "StuckKeys" 301 "not possible now") ∧
    tables_1[227]? = some (.arrayOver (.object "StuckKeys$Book")) := by decide +kernel
set_option maxRecDepth 100000 in
theorem nw_in : ∀ w ∈ sk_nwL, w ∈ lw_tbl ∧ w.onTables = true := by decide +kernel
theorem tb_at (hts : ∀ w ∈ lw_tbl, w.before args s = true) {i : Nat} {w : Cond} (h : tables_1[i]? = some w) : w.before args s = true := hts w (by unfold lw_tbl; exact List.mem_append_right _ (List.mem_of_getElem? h))
set_option maxRecDepth 100000 in
theorem D_of (hts : ∀ w ∈ lw_tbl, w.before args s = true) : ∃ D : va_G, va_K D sk_ow [] s := by
  obtain ⟨c0, i0, k0⟩ := u_known hts sk_in0 (hts (.instantiable "StuckKeys$Book" 8) (by decide +kernel))
  obtain ⟨c1, i1, k1⟩ := u_known hts sk_in1 (hts (.instantiable "StuckKeys$Distances" 7) (by decide +kernel))
  obtain ⟨c2, i2, k2⟩ := u_known hts sk_in2 (hts (.instantiable "StuckKeys$History" 2) (by decide +kernel))
  obtain ⟨c3, i3, k3⟩ := u_known hts sk_in3 (hts (.instantiable "StuckKeys$Keyboard" 3) (by decide +kernel))
  obtain ⟨c4, i4, k4⟩ := u_known hts sk_in4 (hts (.instantiable "StuckKeys$Rows" 4) (by decide +kernel))
  obtain ⟨c5, i5, k5⟩ := u_known hts sk_in5 (hts (.instantiable "StuckKeys$Script" 9) (by decide +kernel))
  obtain ⟨c6, i6, k6⟩ := u_known hts sk_in6 (hts (.instantiable "StuckKeys$Speller" 3) (by decide +kernel))
  obtain ⟨c7, i7, k7⟩ := u_known hts sk_in7 (hts (.instantiable "StuckKeys" 5) (by decide +kernel))
  obtain ⟨c8, i8, k8⟩ := u_known hts sk_in8 (hts (.instantiable "StuckKeysModel" 18) (by decide +kernel))
  refine ⟨(fun k => ([c0, c1, c2, c3, c4, c5, c6, c7, c8] : List ClassId).getD k c0, fun k => ([i0, i1, i2, i3, i4, i5, i6, i7, i8] : List (Nat → Nat)).getD k i0), ?_, fun k q h => by simp at h⟩
  intro k q hq
  match k, hq with
  | 0, hq => cases hq; exact k0
  | 1, hq => cases hq; exact k1
  | 2, hq => cases hq; exact k2
  | 3, hq => cases hq; exact k3
  | 4, hq => cases hq; exact k4
  | 5, hq => cases hq; exact k5
  | 6, hq => cases hq; exact k6
  | 7, hq => cases hq; exact k7
  | 8, hq => cases hq; exact k8
  | k + 9, hq => simp [sk_ow] at hq
theorem sC_0 {j : Nat} : sk_cf 20 0 = some ("java/lang/Enum", "ordinal", "I") := rfl
theorem hd_start {b L : Nat} {xs : Nat → Int32} (hts : ∀ w ∈ lw_tbl, w.before args s = true) (hs : ∀ w ∈ sk_nr, w.before args s = true) (hX : va_X b L xs s s.heap) (hb : b < s.heap.size) : ∃ (ca : Nat → Nat) (fm : Value) (D : va_G), fm.category = 1 ∧ ca 34 = b ∧ Hd s.heap.size ca fm D s s.heap (iS xs) jS rS (shS L) ∧ Kv ca s := by
  have hA : ∀ a : Nat, a < s.heap.size → ¬ (sk_A s.heap.size) a := fun a h => Nat.not_le.mpr h
  obtain ⟨D, hD⟩ := D_of hts
  obtain ⟨t1, t3, t5, t13, t22, t16, t51, t67, t414, t477, t618, t620, t776, t778, t37, t90, t91, t789, t818, t831, t227⟩ := tb_o
  obtain ⟨o4, o5, o45, o46, o124, o135, o178, o192, o212⟩ := nr_o
  have E1 : ∀ i : Nat, ∃ q : Nat × Nat, i < 11 → (sTm i).eval args s none [] s = some (.ref q.1) ∧ Tx (sk_A s.heap.size) s q.1 q.2 (sLen i) (sCh i) := fun i => by
    by_cases hi : i < 11
    · obtain ⟨q, hq⟩ := tx_of hs hA hi
      exact ⟨q, fun _ => hq⟩
    · exact ⟨(0, 0), fun h => absurd h hi⟩
  obtain ⟨st, hst⟩ := Classical.axiomOfChoice E1
  have E2 : ∀ i : Nat, ∃ a : Nat, i < 8 → (cTm i).eval args s none [] s = some (.ref a) ∧ Cm (sk_A s.heap.size) s a i (st (3 + i)).1 := fun i => by
    by_cases hi : i < 8
    · obtain ⟨q, hq⟩ := cm_of hs hA hi (hst (3 + i) (by omega)).1
      exact ⟨q, fun _ => hq⟩
    · exact ⟨0, fun h => absurd h hi⟩
  obtain ⟨cm, hcm⟩ := Classical.axiomOfChoice E2
  obtain ⟨pL, eL, aL, zL⟩ := aAt_of (f := fun j => .int (aLe j)) (N := 3) (by decide) (hs _ (List.mem_of_getElem? nr_le.1)) (va_eqt (hs _ (List.mem_of_getElem? nr_le.2.1))) (fun j hj => va_eqt (hs _ (List.mem_of_getElem? (nr_le.2.2 j hj))))
  obtain ⟨pG, eG, aG, zG⟩ := aAt_of (f := fun j => .int (aGr j)) (N := 3) (by decide) (hs _ (List.mem_of_getElem? nr_gr.1)) (va_eqt (hs _ (List.mem_of_getElem? nr_gr.2.1))) (fun j hj => va_eqt (hs _ (List.mem_of_getElem? (nr_gr.2.2 j hj))))
  obtain ⟨pS, eS, aS, zS⟩ := aAt_of (f := fun j => .int (aSw j)) (N := 8) (by decide) (hs _ (List.mem_of_getElem? nr_sw.1)) (va_eqt (hs _ (List.mem_of_getElem? nr_sw.2.1))) (fun j hj => va_eqt (hs _ (List.mem_of_getElem? (nr_sw.2.2 j hj))))
  obtain ⟨pC, eC, aC, zC⟩ := aAt_of (f := fun j => .ref (cm j)) (N := 8) (by decide) (hs _ (List.mem_of_getElem? nr_co.1)) (va_eqt (hs _ (List.mem_of_getElem? nr_co.2.1))) (fun j hj => va_eqv (hs _ (List.mem_of_getElem? (nr_co.2.2 j hj))) (hcm j hj).1)
  obtain ⟨fm, efm, hfm⟩ := Cond.isRef_spec (hs _ (List.mem_of_getElem? o5))
  have hcat : fm.category = 1 := by cases fm <;> first | rfl | cases hfm
  obtain ⟨ca, hca⟩ : ∃ ca : Nat → Nat, ca = fun p => if p = 0 then pL else if p = 1 then pG else if p = 2 then pC else if p = 3 then pS else if p < 12 then cm (p - 4) else if p < 23 then (st (p - 12)).1 else if p < 34 then (st (p - 23)).2 else b := ⟨_, rfl⟩
  have c0 : ca 0 = pL := by rw [hca]; rfl
  have c1 : ca 1 = pG := by rw [hca]; rfl
  have c2 : ca 2 = pC := by rw [hca]; rfl
  have c3 : ca 3 = pS := by rw [hca]; rfl
  have c34 : ca 34 = b := by rw [hca]; rfl
  have cC : ∀ i, i < 8 → ca (4 + i) = cm i := fun i hi => by
    rw [hca]
    show (if 4 + i = 0 then _ else _) = _
    rw [if_neg (by omega), if_neg (by omega), if_neg (by omega), if_neg (by omega), if_pos (by omega), show 4 + i - 4 = i by omega]
  have cT : ∀ i, i < 11 → ca (12 + i) = (st i).1 := fun i hi => by
    rw [hca]
    show (if 12 + i = 0 then _ else _) = _
    rw [if_neg (by omega), if_neg (by omega), if_neg (by omega), if_neg (by omega), if_neg (by omega), if_pos (by omega), show 12 + i - 12 = i by omega]
  have cV : ∀ i, i < 11 → ca (23 + i) = (st i).2 := fun i hi => by
    rw [hca]
    show (if 23 + i = 0 then _ else _) = _
    rw [if_neg (by omega), if_neg (by omega), if_neg (by omega), if_neg (by omega), if_neg (by omega), if_neg (by omega), if_pos (by omega), show 23 + i - 23 = i by omega]
  have cl : ∀ k : Nat, k < 35 → ca k < s.heap.size := fun k hk => by
    by_cases q0 : k < 4
    · rcases (show k = 0 ∨ k = 1 ∨ k = 2 ∨ k = 3 by omega) with z | z | z | z <;> subst z
      · rw [c0]; exact zL
      · rw [c1]; exact zG
      · rw [c2]; exact zC
      · rw [c3]; exact zS
    · by_cases q1 : k < 12
      · obtain ⟨i, rfl⟩ : ∃ i, k = 4 + i := ⟨k - 4, by omega⟩
        rw [cC i (by omega)]
        exact (hcm i (by omega)).2.2.2.2.2.2
      · by_cases q2 : k < 23
        · obtain ⟨i, rfl⟩ : ∃ i, k = 12 + i := ⟨k - 12, by omega⟩
          rw [cT i (by omega)]
          exact (hst i (by omega)).2.2.2.2.2.2
        · by_cases q3 : k < 34
          · obtain ⟨i, rfl⟩ : ∃ i, k = 23 + i := ⟨k - 23, by omega⟩
            rw [cV i (by omega)]
            exact (hst i (by omega)).2.2.2.2.2.1
          · rw [show k = 34 by omega, c34]
            exact hb
  have tr_lo : ∀ k : Nat, k < 35 → tr s.heap.size ca fm (.ref k) = .ref (ca k) := fun k hk => by
    show Value.ref (ad s.heap.size ca k) = _
    rw [ad_lt hk]
  refine ⟨ca, fm, D, hcat, c34, ⟨hD, Nat.le_refl _, fun _ => (Nat.add_zero _).symm, Nat.le_refl _, fun x hx => ?_, cl, fun x => ?_, ?_⟩, ?_⟩
  · have hx : 35 ≤ x := hx
    show 100 ≤ kdS x
    unfold kdS
    rw [if_neg (by omega), if_neg (by omega), if_neg (by omega), if_neg (by omega), if_neg (by omega), if_neg (by omega), if_neg (by omega)]
    exact Nat.le_refl _
  · by_cases q35 : 35 ≤ x
    · refine Cl_100 ?_
      show kdS x = 100
      unfold kdS
      rw [if_neg (by omega), if_neg (by omega), if_neg (by omega), if_neg (by omega), if_neg (by omega), if_neg (by omega), if_neg (by omega)]
    · by_cases q0 : x < 4
      · rcases (show x = 0 ∨ x = 1 ∨ x = 2 ∨ x = 3 by omega) with z | z | z | z <;> subst z
        · exact Cl_40 (by omega) rfl (by rw [c0]; exact aL)
        · exact Cl_40 (by omega) rfl (by rw [c1]; exact aG)
        · refine Cl_43 (by omega) rfl ?_
          rw [c2]
          obtain ⟨cell, g1, g2, g3, g4, g5⟩ := aC
          refine ⟨cell, g1, g2, g3, g4, fun j hj => ?_⟩
          have hj : j < 8 := hj
          rw [g5 j hj]
          show _ = some (tr s.heap.size ca fm (.ref (4 + j)))
          rw [tr_lo (4 + j) (by omega), cC j hj]
        · exact Cl_40 (by omega) rfl (by rw [c3]; exact aS)
      · by_cases q1 : x < 12
        · obtain ⟨i, rfl⟩ : ∃ i, x = 4 + i := ⟨x - 4, by omega⟩
          have hi : i < 8 := by omega
          obtain ⟨-, m1, m2, m3, m4, m5, m6⟩ := hcm i hi
          have hk : (shS L).1 (4 + i) = 20 := by
            show kdS (4 + i) = 20
            unfold kdS
            rw [if_neg (by omega), if_neg (by omega), if_neg (by omega), if_pos (by omega)]
          have hI : ∀ j, iS xs (4 + i) j = if j = 0 then nI i else if j = 2 then nI (cmW i) else if j = 3 then nI (cmN i) else 0 := fun j => by
            unfold iS
            rw [if_neg (by omega), if_neg (by omega), if_neg (by omega), if_pos ⟨by omega, by omega⟩, show 4 + i - 4 = i by omega]
          have hR : rS (4 + i) 1 = .ref (15 + i) := by
            unfold rS
            rw [if_neg (by omega), if_pos ⟨by omega, by omega, rfl⟩, show 4 + i + 11 = 15 + i by omega]
          refine Cl_o (by omega) hk (.inl rfl) (by rw [cC i hi]; exact m1) (fun j q hq => ?_)
          rw [cC i hi]
          match j, hq with
          | 0, hq =>
            cases hq
            show va_OF _ _ _ (.int (iS xs (4 + i) 0)) _ _ _ _
            rw [hI]; exact m2
          | 1, hq =>
            cases hq
            show va_OF _ _ _ (tr s.heap.size ca fm (rS (4 + i) 1)) _ _ _ _
            rw [hR, tr_lo (15 + i) (by omega), show 15 + i = 12 + (3 + i) by omega, cT (3 + i) (by omega)]; exact m3
          | 2, hq =>
            cases hq
            show va_OF _ _ _ (.int (iS xs (4 + i) 2)) _ _ _ _
            rw [hI]; exact m4
          | 3, hq =>
            cases hq
            show va_OF _ _ _ (.int (iS xs (4 + i) 3)) _ _ _ _
            rw [hI]; exact m5
          | j + 4, hq => exact absurd hq (by simp [sk_cf, sk_cfL])
        · by_cases q2 : x < 23
          · obtain ⟨i, rfl⟩ : ∃ i, x = 12 + i := ⟨x - 12, by omega⟩
            have hi : i < 11 := by omega
            obtain ⟨-, m1, m2, m3, m4, m5, m6⟩ := hst i hi
            have hk : (shS L).1 (12 + i) = 21 := by
              show kdS (12 + i) = 21
              unfold kdS
              rw [if_neg (by omega), if_neg (by omega), if_neg (by omega), if_neg (by omega), if_pos (by omega)]
            have hI : iS xs (12 + i) 1 = 0 := by
              unfold iS
              rw [if_neg (by omega), if_neg (by omega), if_neg (by omega), if_neg (by omega), if_neg (by omega), if_neg (by omega)]
            have hR : rS (12 + i) 0 = .ref (23 + i) := by
              unfold rS
              rw [if_neg (by omega), if_neg (by omega), if_pos ⟨by omega, by omega, rfl⟩, show 12 + i + 11 = 23 + i by omega]
            refine Cl_o (by omega) hk (.inr rfl) (by rw [cT i hi]; exact m1) (fun j q hq => ?_)
            rw [cT i hi]
            match j, hq with
            | 0, hq =>
              cases hq
              show va_OF _ _ _ (tr s.heap.size ca fm (rS (12 + i) 0)) _ _ _ _
              rw [hR, tr_lo (23 + i) (by omega), cV i hi]; exact m3
            | 1, hq =>
              cases hq
              show va_OF _ _ _ (.int (iS xs (12 + i) 1)) _ _ _ _
              rw [hI]; exact m2
            | j + 2, hq => exact absurd hq (by simp [sk_cf, sk_cfL])
          · by_cases q3 : x < 34
            · obtain ⟨i, rfl⟩ : ∃ i, x = 23 + i := ⟨x - 23, by omega⟩
              have hi : i < 11 := by omega
              obtain ⟨-, m1, m2, m3, m4, m5, m6⟩ := hst i hi
              have hk : (shS L).1 (23 + i) = 42 := by
                show kdS (23 + i) = 42
                unfold kdS
                rw [if_neg (by omega), if_neg (by omega), if_neg (by omega), if_neg (by omega), if_neg (by omega), if_pos (by omega)]
              have hn : (shS L).2.1 (23 + i) = sLen i := by
                show lnS L (23 + i) = _
                unfold lnS
                rw [if_neg (by omega), if_neg (by omega), if_pos ⟨by omega, by omega⟩, show 23 + i - 23 = i by omega]
              have hI : ∀ j, iS xs (23 + i) j = nI (sCh i j) := fun j => by
                unfold iS
                rw [if_neg (by omega), if_neg (by omega), if_neg (by omega), if_neg (by omega), if_pos ⟨by omega, by omega⟩, show 23 + i - 23 = i by omega]
              refine Cl_42 (by omega) hk ?_
              rw [hn, cV i hi]
              exact aAt_kept m4 rfl (fun j => by rw [hI])
            · have : x = 34 := by omega
              subst this
              exact Cl_40 (by omega) rfl (by rw [c34]; exact hX)
  · refine ⟨fun j q hq => ?_, vx_Zqof (tb_at hts t776) (tb_at hts t16) (hs _ (List.mem_of_getElem? o45)) hA, vx_Zqof (tb_at hts t778) (tb_at hts t16) (hs _ (List.mem_of_getElem? o46)) hA, va_Nc.of (hs _ (List.mem_of_getElem? o124)), va_Nc.of (hs _ (List.mem_of_getElem? o135)), va_AO.of (tb_at hts t227)⟩
    match j, hq with
    | 0, hq =>
      cases hq
      show va_Z _ _ _ (tr s.heap.size ca fm (.ref 0)) _ _ _
      rw [tr_lo 0 (by omega), c0]
      exact va_Zof (tb_at hts t618) (tb_at hts t1) eL hA
    | 1, hq =>
      cases hq
      show va_Z _ _ _ (tr s.heap.size ca fm (.ref 1)) _ _ _
      rw [tr_lo 1 (by omega), c1]
      exact va_Zof (tb_at hts t620) (tb_at hts t1) eG hA
    | 2, hq =>
      cases hq
      show va_Z _ _ _ (tr s.heap.size ca fm (.ref 2)) _ _ _
      rw [tr_lo 2 (by omega), c2]
      exact va_Zof (tb_at hts t414) (tb_at hts t13) eC hA
    | 3, hq =>
      cases hq
      show va_Z _ _ _ (tr s.heap.size ca fm (.ref 3)) _ _ _
      rw [tr_lo 3 (by omega), c3]
      exact va_Zof (tb_at hts t477) (tb_at hts t22) eS hA
    | 4, hq =>
      cases hq
      exact va_Zof (tb_at hts t51) (tb_at hts t3) (va_eqt (hs _ (List.mem_of_getElem? o4))) hA
    | 5, hq =>
      cases hq
      exact va_Zof (tb_at hts t67) (tb_at hts t5) efm hA
    | j + 6, hq => exact absurd hq (by simp [sk_sfL])
  · refine ⟨fun w hw => va_Nw.of (nw_in w hw).2 (hts w (nw_in w hw).1), fun q hq => ?_, ?_, ?_, ?_, fun w hw => ?_⟩
    · rcases List.mem_cons.mp hq with q | hq
      · subst q
        exact vk_R.of (tb_at hts t37) ((hst 0 (by omega)).1.trans (by rw [show ca 12 = (st 0).1 from cT 0 (by omega)]))
      · rcases List.mem_cons.mp hq with q | hq
        · subst q
          exact vk_R.of (tb_at hts t90) ((hst 1 (by omega)).1.trans (by rw [show ca 13 = (st 1).1 from cT 1 (by omega)]))
        · rcases List.mem_cons.mp hq with q | hq
          · subst q
            exact vk_R.of (tb_at hts t91) ((hst 2 (by omega)).1.trans (by rw [show ca 14 = (st 2).1 from cT 2 (by omega)]))
          · exact absurd hq List.not_mem_nil
    · obtain ⟨a, h1, -, -⟩ := obj_of (hs _ (List.mem_of_getElem? o178)) hA
      exact ⟨a, vk_R.of (tb_at hts t789) h1⟩
    · obtain ⟨a, h1, -, -⟩ := obj_of (hs _ (List.mem_of_getElem? o192)) hA
      exact ⟨a, vk_R.of (tb_at hts t818) h1⟩
    · obtain ⟨a, h1, -, -⟩ := obj_of (hs _ (List.mem_of_getElem? o212)) hA
      exact ⟨a, vk_R.of (tb_at hts t831) h1⟩
    · obtain ⟨h1, h2⟩ := List.mem_filter.mp hw
      rw [Bool.and_eq_true] at h2
      exact va_Nw.of h2.2 (hts w h1)
end NH
