/-! the law's start: what lies in the heap at its entry -/
def sk_nr : List Cond := flatC (Jvm.Cond.and given_1 narrow_1)
/-- the texts: three rows of keys -/
def sIdx (i : Nat) : Nat := [21, 27, 29].getD i 0
def sLen (i : Nat) : Nat := [10, 9, 7].getD i 0
def sCh (i : Nat) : Nat → Nat := if i = 0 then rd1 else if i = 1 then rd2 else rd3
def sTm (i : Nat) : Term := .string "StuckKeys$Keyboard" (sIdx i)
def sB (i : Nat) : Nat := [41, 55, 69].getD i 0
def aLe (j : Nat) : Int32 := ([0, 1, 1] : List Int32).getD j 0
def aGr (j : Nat) : Int32 := ([12, 9, 5] : List Int32).getD j 0
def fVal (t : Term) : Term := .field t "java/lang/String" "value" "[B"
set_option maxRecDepth 100000 in
theorem nr_s : ∀ i, i < 3 → sk_nr[sB i]? = some (.exactly (sTm i) "java/lang/String") ∧ sk_nr[sB i + 1]? = some (.eq (.field (sTm i) "java/lang/String" "coder" "B") (.int 0)) ∧ sk_nr[sB i + 2]? = some (.arrayOf (fVal (sTm i)) .byte) ∧ sk_nr[sB i + 3]? = some (.eq (.length (fVal (sTm i))) (.int (Int32.ofNat (sLen i)))) ∧
    ∀ j, j < sLen i → sk_nr[sB i + 4 + j]? = some (.eq (.elem (fVal (sTm i)) (.int (Int32.ofNat j))) (.int (nI (sCh i j)))) := by decide +kernel
def tLe : Term := .static "StuckKeys" "LEAST_SETTINGS" "[I"
def tGr : Term := .static "StuckKeys" "GREATEST_SETTINGS" "[I"
set_option maxRecDepth 100000 in
theorem nr_le : sk_nr[12]? = some (.arrayOf tLe .int) ∧ sk_nr[13]? = some (.eq (.length tLe) (.int (Int32.ofNat 3))) ∧ ∀ j, j < 3 → sk_nr[14 + j]? = some (.eq (.elem tLe (.int (Int32.ofNat j))) (.int (aLe j))) := by decide +kernel
set_option maxRecDepth 100000 in
theorem nr_gr : sk_nr[18]? = some (.arrayOf tGr .int) ∧ sk_nr[19]? = some (.eq (.length tGr) (.int (Int32.ofNat 3))) ∧ ∀ j, j < 3 → sk_nr[20 + j]? = some (.eq (.elem tGr (.int (Int32.ofNat j))) (.int (aGr j))) := by decide +kernel
set_option maxRecDepth 100000 in
theorem nr_o : sk_nr[4]? = some (.eq (.static "java/lang/String" "COMPACT_STRINGS" "Z") (.int 1)) ∧ sk_nr[5]? = some (.isRef (.static "jdk/internal/util/Preconditions" "SIOOBE_FORMATTER" "Ljava/util/function/BiFunction;")) ∧ sk_nr[9]? = some (.isRef (.static Bundle.tN "UNASSIGNED_STACK" Bundle.steD)) ∧ sk_nr[10]? = some (.isRef (.static Bundle.tN "SUPPRESSED_SENTINEL" Bundle.listD)) ∧ sk_nr[31]? = some (.not (.castable "java/lang/IllegalStateException" "java/lang/IllegalArgumentException")) ∧ sk_nr[40]? = some (.not (.castable "java/lang/IllegalArgumentException" "java/lang/IllegalStateException")) ∧
    sk_nr[101]? = some (.exactly (.string "StuckKeys" 292) "java/lang/String") ∧ sk_nr[82]? = some (.exactly (.string "StuckKeys" 297) "java/lang/String") ∧ sk_nr[116]? = some (.exactly (.string "StuckKeys" 301) "java/lang/String") := by decide +kernel
section NG
variable {args : Array Value} {s : State} {A : Nat → Prop}
theorem aAt_of {tm : Term} {ty : FieldType} {N : Nat} {f : Nat → Value} (hN : N < 2 ^ 31) (harr : (Cond.arrayOf tm ty).before args s = true) (hlen : (Term.length tm).eval args s none [] s = some (.int (Int32.ofNat N))) (hel : ∀ j : Nat, j < N → (Term.elem tm (.int (Int32.ofNat j))).eval args s none [] s = some (f j)) : ∃ t : Nat, tm.eval args s none [] s = some (.ref t) ∧ aAt s s.heap t ty N f ∧ t < s.heap.size := by
  have hlen0 := hlen
  obtain ⟨t, cell, ht, hat, hv⟩ := Term.length_spec hlen
  have hsz : cell.slots.size < 2 ^ 31 := by
    simp only [Term.eval, ht, hat, Option.bind_eq_bind, Option.bind_some] at hlen0
    by_cases hlt : cell.slots.size < 2147483648
    · exact hlt
    · simp [hlt] at hlen0
  obtain ⟨hcell, hkn, -, -⟩ := State.arrayAt?_spec hat
  obtain ⟨hof, -⟩ := Cond.arrayOf_spec harr ht hcell
  have hs : cell.slots.size = N := (nI_inj hsz hN).mp (Value.int.inj hv).symm
  refine ⟨t, ht, ⟨cell, hcell, hof, hkn, hs, fun j hj => ?_⟩, (Array.getElem?_eq_some_iff.mp hcell).1⟩
  obtain ⟨a, i, cell2, h1, h2, h3, h4, h5⟩ := Term.elem_spec (hel j hj)
  cases ht.symm.trans h1
  cases hat.symm.trans h3
  have hi : i = Int32.ofNat j := by
    have e : (Term.int (Int32.ofNat j)).eval args s none [] s = some (.int (Int32.ofNat j)) := rfl
    cases h2.symm.trans e
    rfl
  have hc : i.toNatClampNeg = j := by rw [hi]; exact Int32.toNatClampNeg_ofNat_of_lt (Nat.lt_trans hj hN)
  rw [hc] at h5
  exact h5
theorem obj_of {tm : Term} {C : String} (hex : (Cond.exactly tm C).before args s = true) (hA : ∀ a : Nat, a < s.heap.size → ¬ A a) : ∃ a : Nat, tm.eval args s none [] s = some (.ref a) ∧ va_O C a A s s.heap ∧ a < s.heap.size := by
  obtain ⟨a, c, cell, k, q1, q2, q3, q4, q5, q6, -⟩ := Cond.exactly_spec hex
  have hl := (Array.getElem?_eq_some_iff.mp q3).1
  exact ⟨a, q1, ⟨cell, q3, q5, by rw [q6]; exact q2, hA a hl⟩, hl⟩
/-- a text at the start -/
def Tx (A : Nat → Prop) (s : State) (a v n : Nat) (c : Nat → Nat) : Prop := va_O "java/lang/String" a A s s.heap ∧ va_OF "java/lang/String" "coder" "B" (.int 0) a A s s.heap ∧ va_OF "java/lang/String" "value" "[B" (.ref v) a A s s.heap ∧ aAt s s.heap v .byte n (fun j => .int (nI (c j))) ∧ v < s.heap.size ∧ a < s.heap.size
theorem tx_of (hs : ∀ w ∈ sk_nr, w.before args s = true) (hA : ∀ a : Nat, a < s.heap.size → ¬ A a) {i : Nat} (hi : i < 3) : ∃ q : Nat × Nat, (sTm i).eval args s none [] s = some (.ref q.1) ∧ Tx A s q.1 q.2 (sLen i) (sCh i) := by
  obtain ⟨m1, m2, m3, m4, m5⟩ := nr_s i hi
  obtain ⟨a, h1, h2, h3⟩ := obj_of (hs _ (List.mem_of_getElem? m1)) hA
  have hN : sLen i < 2 ^ 31 := Nat.lt_of_le_of_lt (show sLen i ≤ 10 from (show ∀ i, i < 3 → sLen i ≤ 10 by decide) i hi) (by decide)
  obtain ⟨v, g1, g2, g3⟩ := aAt_of (f := fun j => .int (nI (sCh i j))) hN (hs _ (List.mem_of_getElem? m3)) (va_eqt (hs _ (List.mem_of_getElem? m4))) (fun j hj => va_eqt (hs _ (List.mem_of_getElem? (m5 j hj))))
  exact ⟨(a, v), h1, h2, vk_OFof h1 (va_eqt (hs _ (List.mem_of_getElem? m2))) hA, vk_OFof h1 g1 hA, g2, g3, h3⟩
end NG
