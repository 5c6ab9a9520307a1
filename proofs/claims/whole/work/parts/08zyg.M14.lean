/-! choices: the nearest word, the best pair -/
def nrF (sg : Nat → Bool) (ah : Nat → Nat → Bool) (b : Option Nat) (i : Nat) : Nat → Option Nat
  | 0 => b
  | k + 1 => nrF sg ah (if sg i = true ∧ (∀ j, b = some j → ah i j = true) then some i else b) (i + 1) k
def opI (b : Option Nat) : Int32 := match b with
  | none => -1
  | some k => nI k
/-- whether word k is suggested ahead of word j -/
def aOk (a : Bk) (t : Int64) (k j : Nat) : Bool := if dsW a (-1) t ((bW a).2.1 k) = dsW a (-1) t ((bW a).2.1 j) then decide ((bW a).2.2.2 j < (bW a).2.2.2 k) || (decide ((bW a).2.2.2 k = (bW a).2.2.2 j) && decide (k < j)) else decide (dsW a (-1) t ((bW a).2.1 k) < dsW a (-1) t ((bW a).2.1 j))
def sgB (a : Bk) (t : Int64) (k : Nat) : Bool := nearW a t ((bW a).2.1 k) && !isB a t ((bW a).2.1 k)
def nrW (a : Bk) (t : Int64) : Option Nat := nrF (sgB a t) (aOk a t) none 0 (bW a).1
def lrB (a : Bk) (t : Int64) (k : Nat) : Bool := usb a t k && !decide ((bP a).2.2.2 k < bT a 1)
def lrP (a : Bk) (t : Int64) : Option Nat := nrF (lrB a t) (fun k b => decide ((bP a).2.2.2 b < (bP a).2.2.2 k)) none 0 (bP a).1
section MO
variable {a : Bk} {t w : Int64} {T n : Nat} {g c : Nat → Int32} {L : Nat → Int32} {x y : Int32}
def in1k (x : Int32) : Prop := 0 ≤ x.toInt ∧ x.toInt ≤ 1000
theorem mn_in (hx : in1k x) (hy : 0 ≤ y.toInt) : in1k (mn x y) := by
  unfold mn
  by_cases q : y < x
  · rw [if_pos q]
    rw [Int32.lt_iff_toInt_lt] at q
    exact ⟨hy, by have := hx.2; omega⟩
  · rw [if_neg q]; exact hx
theorem add_in (hx : in1k x) (hy : 0 ≤ y.toInt ∧ y.toInt ≤ 10) : 0 ≤ (x + y).toInt := by
  rw [Int32.toInt_add, Int.bmod_eq_of_le (by have := hx.1; have := hx.2; omega) (by have := hx.1; have := hx.2; omega)]
  have := hx.1
  omega
theorem cell_in {m : Nat} {U : Nat → Nat → Int32} {i j : Nat} (hU : ∀ i j, in1k (U i j)) (hg : ∀ i, 0 ≤ (g i).toInt ∧ (g i).toInt ≤ 10) (hc : ∀ i, 0 ≤ (c i).toInt ∧ (c i).toInt ≤ 10) : in1k (cell g c n m U i j) := by
  have h0 : in1k (ce0 i j) := by unfold ce0; split <;> exact ⟨by decide, by decide⟩
  have h1 : ∀ x, in1k x → in1k (ce1 g U i j x) := fun x hx => by
    unfold ce1
    split
    · exact mn_in hx (add_in (hU _ _) (hg _))
    · exact hx
  have h2 : ∀ x, in1k x → in1k (ce2 c U i j x) := fun x hx => by
    unfold ce2
    split
    · exact mn_in hx (add_in (hU _ _) (hc _))
    · exact hx
  have h3 : ∀ x, in1k x → in1k (ce3 n m U i j x) := fun x hx => by
    unfold ce3
    split
    · refine mn_in hx (add_in (hU _ _) ?_)
      unfold chg
      split
      · decide
      · split <;> decide
    · exact hx
  have h4 : ∀ x, in1k x → in1k (ce4 n m U i j x) := fun x hx => by
    unfold ce4
    split
    · refine mn_in hx (add_in (hU _ _) ?_)
      split <;> decide
    · exact hx
  exact h4 _ (h3 _ (h2 _ (h1 _ h0)))
theorem dpF_in {m : Nat} (hg : ∀ i, 0 ≤ (g i).toInt ∧ (g i).toInt ≤ 10) (hc : ∀ i, 0 ≤ (c i).toInt ∧ (c i).toInt ≤ 10) : ∀ f i j, in1k (dpF g c n m f i j)
  | 0, i, j => ⟨by show 0 ≤ (0 : Int32).toInt; decide, by show (0 : Int32).toInt ≤ 1000; decide⟩
  | f + 1, i, j => cell_in (dpF_in hg hc f) hg hc
theorem dsW_in {dr : Int32} : in1k (dsW a dr t w) := by
  unfold dsW dst dp
  refine dpF_in (fun i => ?_) (fun i => ?_) _ _ _
  · unfold gC; split <;> decide
  · unfold cC; split <;> decide
theorem latL_in (hI : BkI T a) {i : Nat} (hi : i < (bW a).1) (h : sgB a t i = true) : (latL a t i).toInt = (dsW a (-1) t ((bW a).2.1 i)).toInt * 1000 + 999 - ((bW a).2.2.2 i).toInt := by
  unfold sgB at h
  rw [Bool.and_eq_true, Bool.not_eq_true'] at h
  unfold latL
  rw [if_pos h]
  have d := dsW_in (a := a) (dr := -1) (t := t) (w := (bW a).2.1 i)
  unfold in1k at d
  have c1 := hI.2.2.2.2.2.2.2.2.2.2.2.2.2.2.1 i hi
  generalize dsW a (-1) t ((bW a).2.1 i) = x at d
  generalize (bW a).2.2.2 i = y at c1
  have e1 : (x * 1000).toInt = x.toInt * 1000 := by
    rw [Int32.toInt_mul, show (1000 : Int32).toInt = 1000 by decide]
    exact Int.bmod_eq_of_le (by omega) (by omega)
  have e2 : (x * 1000 + 999).toInt = x.toInt * 1000 + 999 := by
    rw [Int32.toInt_add, e1, show (999 : Int32).toInt = 999 by decide]
    exact Int.bmod_eq_of_le (by omega) (by omega)
  rw [Int32.toInt_sub, e2]
  exact Int.bmod_eq_of_le (by omega) (by omega)
theorem latL_no {i : Nat} (h : sgB a t i = false) : latL a t i = -1 := by
  unfold sgB at h
  unfold latL
  rw [if_neg]
  intro h2
  rw [h2.1, h2.2] at h
  exact absurd h (by decide)
theorem latL_iff (hI : BkI T a) {i : Nat} (hi : i < (bW a).1) : (latL a t i = -1) ↔ sgB a t i = false := by
  constructor
  · intro h
    cases e : sgB a t i
    · rfl
    · have l := latL_in hI hi e
      have d := dsW_in (a := a) (dr := -1) (t := t) (w := (bW a).2.1 i)
      unfold in1k at d
      have c1 := hI.2.2.2.2.2.2.2.2.2.2.2.2.2.2.1 i hi
      rw [h, show (-1 : Int32).toInt = -1 by decide] at l
      omega
  · exact latL_no
theorem erl_aOk (hI : BkI T a) {i j : Nat} (hi : i < (bW a).1) (hj : j < (bW a).1) (h1 : sgB a t i = true) (h2 : sgB a t j = true) : erl (latL a t) i j = aOk a t j i := by
  have l1 := latL_in hI hi h1
  have l2 := latL_in hI hj h2
  have d1 := dsW_in (a := a) (dr := -1) (t := t) (w := (bW a).2.1 i)
  have d2 := dsW_in (a := a) (dr := -1) (t := t) (w := (bW a).2.1 j)
  have c1 := hI.2.2.2.2.2.2.2.2.2.2.2.2.2.2.1 i hi
  have c2 := hI.2.2.2.2.2.2.2.2.2.2.2.2.2.2.1 j hj
  have ne : ¬ latL a t j = -1 := fun h => by rw [(latL_iff hI hj).mp h] at h2; cases h2
  unfold erl aOk in1k at *
  rw [decide_eq_false ne, Bool.not_false, Bool.and_true]
  simp only [Int32.lt_iff_toInt_lt, ← Int32.toInt_inj]
  generalize (dsW a (-1) t ((bW a).2.1 i)).toInt = x1 at *
  generalize (dsW a (-1) t ((bW a).2.1 j)).toInt = x2 at *
  generalize ((bW a).2.2.2 i).toInt = y1 at *
  generalize ((bW a).2.2.2 j).toInt = y2 at *
  generalize (latL a t i).toInt = z1 at *
  generalize (latL a t j).toInt = z2 at *
  by_cases q : x2 = x1
  · rw [if_pos q, Bool.eq_iff_iff]
    simp only [Bool.or_eq_true, Bool.and_eq_true, decide_eq_true_eq]
    omega
  · rw [if_neg q, Bool.eq_iff_iff]
    simp only [Bool.or_eq_true, Bool.and_eq_true, decide_eq_true_eq]
    omega
theorem cnt_0 {p : Nat → Bool} : ∀ k i, (∀ j, i ≤ j → j < i + k → p j = false) → cnt p i k = 0
  | 0, i, _ => by simp [cnt]
  | k + 1, i, h => by
    simp only [cnt]
    rw [h i (by omega) (by omega), if_neg (by simp), cnt_0 k (i + 1) (fun j h1 h2 => h j (by omega) (by omega))]
theorem cnt_p {p : Nat → Bool} : ∀ k i j, i ≤ j → j < i + k → p j = true → 0 < cnt p i k
  | 0, i, j, h1, h2, _ => by omega
  | k + 1, i, j, h1, h2, h3 => by
    simp only [cnt]
    by_cases q : j = i
    · rw [← q, h3, if_pos (by simp)]; omega
    · have := cnt_p k (i + 1) j (by omega) (by omega) h3
      omega
/-- what the choice yields, for a strict order -/
theorem nrF_spec {sg : Nat → Bool} {ah : Nat → Nat → Bool} {N : Nat} (tr : ∀ i j k, i < N → j < N → k < N → sg i = true → sg j = true → sg k = true → ah i j = true → ah j k = true → ah i k = true) (to : ∀ i j, i < N → j < N → sg i = true → sg j = true → ¬ i = j → ah i j = false → ah j i = true) : ∀ (k i : Nat) (b : Option Nat), i + k = N → (b = none → ∀ j, j < i → sg j = false) → (∀ r, b = some r → r < i ∧ sg r = true ∧ ∀ j, j < i → sg j = true → ¬ j = r → ah r j = true) → (nrF sg ah b i k = none → ∀ j, j < N → sg j = false) ∧ (∀ r, nrF sg ah b i k = some r → r < N ∧ sg r = true ∧ ∀ j, j < N → sg j = true → ¬ j = r → ah r j = true)
  | 0, i, b, hi, h1, h2 => by
    simp only [nrF]
    have : i = N := by omega
    subst this
    exact ⟨h1, h2⟩
  | k + 1, i, b, hi, h1, h2 => by
    simp only [nrF]
    refine nrF_spec tr to k (i + 1) _ (by omega) (fun h => ?_) (fun r h => ?_)
    · by_cases q : sg i = true ∧ ∀ j, b = some j → ah i j = true
      · rw [if_pos q] at h; cases h
      · rw [if_neg q] at h
        intro j hj
        by_cases e : j = i
        · subst e
          cases e2 : sg j
          · rfl
          · exact absurd ⟨e2, fun j' hj' => by rw [h] at hj'; cases hj'⟩ q
        · exact h1 h j (by omega)
    · by_cases q : sg i = true ∧ ∀ j, b = some j → ah i j = true
      · rw [if_pos q] at h
        cases h
        refine ⟨by omega, q.1, fun j hj hs hne => ?_⟩
        cases hb : b with
        | none =>
          have := h1 hb j (by omega)
          rw [this] at hs; cases hs
        | some r =>
          obtain ⟨g1, g2, g3⟩ := h2 r hb
          have a1 := q.2 r hb
          by_cases e : j = r
          · rw [e]; exact a1
          · exact tr i r j (by omega) (by omega) (by omega) q.1 g2 hs a1 (g3 j (by omega) hs e)
      · rw [if_neg q] at h
        obtain ⟨g1, g2, g3⟩ := h2 r h
        refine ⟨by omega, g2, fun j hj hs hne => ?_⟩
        by_cases e : j = i
        · subst e
          have : ah j r = false := by
            cases e2 : ah j r
            · rfl
            · exact absurd ⟨hs, fun j' hj' => by rw [h] at hj'; cases hj'; exact e2⟩ q
          exact to j r (by omega) (by omega) hs g2 hne this
        · exact g3 j (by omega) hs hne
theorem sgg_none {W : Nat → Int64} {r : Int32} : ∀ k i, (∀ j, i ≤ j → j < i + k → L j = -1) → sgg L W n r i k = -1
  | 0, i, _ => by simp [sgg]
  | k + 1, i, h => by
    simp only [sgg]
    rw [if_neg (fun q => q.1 (h i (by omega) (by omega)))]
    exact sgg_none k (i + 1) (fun j h1 h2 => h j (by omega) (by omega))
theorem sgg_some {W : Nat → Int64} {r : Nat} (hn : n < 2 ^ 31) (h1 : ¬ L r = -1) (h2 : cnt (erl L r) 0 n = 0) : ∀ k i, i ≤ r → r < i + k → (∀ j, i ≤ j → j < r → ¬ L j = -1 → 0 < cnt (erl L j) 0 n) → sgg L W n 0 i k = W r
  | 0, i, a1, a2, _ => by omega
  | k + 1, i, a1, a2, h => by
    simp only [sgg]
    by_cases q : i = r
    · rw [q, if_pos ⟨h1, by rw [h2]; decide⟩]
    · rw [if_neg]
      · exact sgg_some hn h1 h2 k (i + 1) (by omega) (by omega) (fun j b1 b2 => h j (by omega) b2)
      · rintro ⟨b1, b2⟩
        have := h i (by omega) (by omega) b1
        have l := cnt_le (p := erl L i) n 0
        rw [show (0 : Int32) = nI 0 by decide, nI_inj (by omega) (by omega)] at b2
        omega
theorem aOk_tr {i j k : Nat} (h1 : aOk a t i j = true) (h2 : aOk a t j k = true) : aOk a t i k = true := by
  unfold aOk at *
  simp only [Int32.lt_iff_toInt_lt, ← Int32.toInt_inj] at *
  generalize (dsW a (-1) t ((bW a).2.1 i)).toInt = x1 at *
  generalize (dsW a (-1) t ((bW a).2.1 j)).toInt = x2 at *
  generalize (dsW a (-1) t ((bW a).2.1 k)).toInt = x3 at *
  by_cases q1 : x1 = x2
  · by_cases q2 : x2 = x3
    · rw [if_pos q1] at h1
      rw [if_pos q2] at h2
      rw [if_pos (q1.trans q2)]
      simp only [Bool.or_eq_true, Bool.and_eq_true, decide_eq_true_eq] at *
      omega
    · rw [if_neg q2] at h2
      rw [if_neg (by omega)]
      simp only [decide_eq_true_eq] at *
      omega
  · by_cases q2 : x2 = x3
    · rw [if_neg q1] at h1
      rw [if_neg (by omega)]
      simp only [decide_eq_true_eq] at *
      omega
    · rw [if_neg q1] at h1
      rw [if_neg q2] at h2
      simp only [decide_eq_true_eq] at *
      rw [if_neg (by omega)]
      simp only [decide_eq_true_eq]
      omega
theorem aOk_to {i j : Nat} (hne : ¬ i = j) (h : aOk a t i j = false) : aOk a t j i = true := by
  unfold aOk at *
  simp only [Int32.lt_iff_toInt_lt, ← Int32.toInt_inj] at *
  generalize (dsW a (-1) t ((bW a).2.1 i)).toInt = x1 at *
  generalize (dsW a (-1) t ((bW a).2.1 j)).toInt = x2 at *
  by_cases q1 : x1 = x2
  · rw [if_pos q1] at h
    rw [if_pos q1.symm]
    simp only [Bool.or_eq_false_iff, Bool.and_eq_false_iff, Bool.or_eq_true, Bool.and_eq_true, decide_eq_true_eq, decide_eq_false_iff_not] at *
    omega
  · rw [if_neg q1] at h
    rw [if_neg (by omega)]
    simp only [decide_eq_true_eq, decide_eq_false_iff_not] at *
    omega
theorem aOk_ir {i j : Nat} (h : aOk a t i j = true) : aOk a t j i = false := by
  cases e : aOk a t j i
  · rfl
  · unfold aOk at *
    simp only [Int32.lt_iff_toInt_lt, ← Int32.toInt_inj] at *
    generalize (dsW a (-1) t ((bW a).2.1 i)).toInt = x1 at *
    generalize (dsW a (-1) t ((bW a).2.1 j)).toInt = x2 at *
    by_cases q1 : x1 = x2
    · rw [if_pos q1] at h
      rw [if_pos q1.symm] at e
      simp only [Bool.or_eq_true, Bool.and_eq_true, decide_eq_true_eq] at *
      omega
    · rw [if_neg q1] at h
      rw [if_neg (by omega)] at e
      simp only [decide_eq_true_eq] at *
      omega
theorem sug_nr (hI : BkI T a) : sug a t 0 = match nrW a t with
    | none => -1
    | some r => (bW a).2.1 r := by
  have iW := hI.1
  have sp := nrF_spec (sg := sgB a t) (ah := aOk a t) (N := (bW a).1) (fun i j k _ _ _ _ _ _ h1 h2 => aOk_tr h1 h2) (fun i j _ _ _ _ h1 h2 => aOk_to h1 h2) (bW a).1 0 none (by omega) (fun _ j hj => by omega) (fun r h => by cases h)
  unfold sug nrW
  cases e : nrF (sgB a t) (aOk a t) none 0 (bW a).1 with
  | none => exact sgg_none _ _ (fun j h1 h2 => latL_no (sp.1 e j (by omega)))
  | some r =>
    obtain ⟨g1, g2, g3⟩ := sp.2 r e
    refine sgg_some (by omega) (fun h => by rw [(latL_iff hI g1).mp h] at g2; cases g2) (cnt_0 _ _ (fun j h1 h2 => ?_)) _ _ (by omega) (by omega) (fun j h1 h2 h3 => ?_)
    · cases e2 : sgB a t j
      · unfold erl
        rw [latL_no e2]
        simp
      · rw [erl_aOk hI g1 (by omega) g2 e2]
        by_cases q : j = r
        · subst q
          cases e3 : aOk a t j j
          · rfl
          · exact absurd (aOk_ir e3) (by rw [e3]; simp)
        · exact aOk_ir (g3 j (by omega) e2 q)
    · have e2 : sgB a t j = true := by
        cases e4 : sgB a t j
        · exact absurd (latL_no e4) h3
        · rfl
      refine cnt_p _ _ r (by omega) (by omega) ?_
      rw [erl_aOk hI (by omega) g1 e2 g2]
      exact g3 j (by omega) e2 (by omega)
theorem nr_pos (hI : BkI T a) {r : Nat} (h : nrW a t = some r) : r < (bW a).1 ∧ isW ((bW a).2.1 r) = true := by
  have sp := nrF_spec (sg := sgB a t) (ah := aOk a t) (N := (bW a).1) (fun i j k _ _ _ _ _ _ h1 h2 => aOk_tr h1 h2) (fun i j _ _ _ _ h1 h2 => aOk_to h1 h2) (bW a).1 0 none (by omega) (fun _ j hj => by omega) (fun r h => by cases h)
  have := (sp.2 r h).1
  exact ⟨this, hI.2.2.2.2.2.2.2.2.2.1 r this⟩
theorem isW_m1 (h : isW w = true) : ¬ w = -1 := fun e => by
  rw [e] at h
  exact absurd h (by decide)
theorem trs_nr {f : Nat → Int32} {u : Nat → Bool} {s : Nat → Int64} {m0 : Int32} {sg : Nat → Bool} (hs : ∀ i, sg i = (u i && decide (m0 < f i))) : ∀ (k i : Nat) (b : Option Nat), (∀ r, b = some r → m0 < f r) → trs f u s (match b with | none => m0 | some r => f r) (match b with | none => -1 | some r => s r) i k = match nrF sg (fun k b => decide (f b < f k)) b i k with | none => -1 | some r => s r
  | 0, i, b, _ => by simp only [trs, nrF]
  | k + 1, i, b, hb => by
    simp only [trs, nrF]
    cases b with
    | none =>
      dsimp only
      by_cases q : m0 < f i ∧ u i = true
      · rw [if_pos q, if_pos ⟨by rw [hs, q.2, decide_eq_true q.1]; rfl, fun j hj => by cases hj⟩]
        exact trs_nr hs k (i + 1) (some i) (fun r hr => by cases hr; exact q.1)
      · rw [if_neg q, if_neg]
        · exact trs_nr hs k (i + 1) none (fun r hr => by cases hr)
        · rintro ⟨h1, -⟩
          rw [hs, Bool.and_eq_true, decide_eq_true_eq] at h1
          exact q ⟨h1.2, h1.1⟩
    | some r =>
      have hr := hb r rfl
      dsimp only
      by_cases q : f r < f i ∧ u i = true
      · have hi : m0 < f i := by
          have := q.1
          rw [Int32.lt_iff_toInt_lt] at *
          omega
        rw [if_pos q, if_pos ⟨by rw [hs, q.2, decide_eq_true hi]; rfl, fun j hj => by cases hj; exact decide_eq_true q.1⟩]
        exact trs_nr hs k (i + 1) (some i) (fun r hr => by cases hr; exact hi)
      · rw [if_neg q, if_neg]
        · exact trs_nr hs k (i + 1) (some r) hb
        · rintro ⟨h1, h2⟩
          rw [hs, Bool.and_eq_true] at h1
          exact q ⟨of_decide_eq_true (h2 r rfl), h1.1⟩
theorem trW_lr (hI : BkI T a) : trW a t = match lrP a t with
    | none => -1
    | some r => (bP a).2.2.1 r := by
  have ht := hI.2.2.2.2.2.2.2.2.2.2.2.2.2.2.2.2.2.2.2.2.1
  have e : (bT a 1 - 1).toInt = (bT a 1).toInt - 1 := by
    rw [Int32.toInt_sub, show (1 : Int32).toInt = 1 by decide]
    exact Int.bmod_eq_of_le (by omega) (by omega)
  have hs : ∀ i, lrB a t i = (usb a t i && decide (bT a 1 - 1 < (bP a).2.2.2 i)) := fun i => by
    unfold lrB
    rw [show (!decide ((bP a).2.2.2 i < bT a 1)) = decide (bT a 1 - 1 < (bP a).2.2.2 i) by
      rw [Bool.eq_iff_iff, Bool.not_eq_true', decide_eq_false_iff_not, decide_eq_true_eq, Int32.lt_iff_toInt_lt, Int32.lt_iff_toInt_lt, e]
      omega]
  exact trs_nr (s := (bP a).2.2.1) hs (bP a).1 0 none (fun r h => by cases h)
theorem nrF_sg {sg : Nat → Bool} {ah : Nat → Nat → Bool} {N : Nat} : ∀ (k i : Nat) (b : Option Nat), i + k = N → (∀ r, b = some r → r < N ∧ sg r = true) → ∀ r, nrF sg ah b i k = some r → r < N ∧ sg r = true
  | 0, i, b, _, h, r, hr => by simp only [nrF] at hr; exact h r hr
  | k + 1, i, b, hi, h, r, hr => by
    simp only [nrF] at hr
    refine nrF_sg k (i + 1) _ (by omega) (fun r' h' => ?_) r hr
    by_cases q : sg i = true ∧ ∀ j, b = some j → ah i j = true
    · rw [if_pos q] at h'
      cases h'
      exact ⟨by omega, q.1⟩
    · rw [if_neg q] at h'
      exact h r' h'
theorem lr_pos (hI : BkI T a) {r : Nat} (h : lrP a t = some r) : r < (bP a).1 ∧ isW ((bP a).2.2.1 r) = true := by
  obtain ⟨h1, h2⟩ := nrF_sg (N := (bP a).1) (bP a).1 0 none (by omega) (fun r h => by cases h) r h
  refine ⟨h1, ?_⟩
  unfold lrB usb at h2
  simp only [Bool.and_eq_true, Bool.or_eq_true] at h2
  rcases h2.1.2 with h3 | h3
  · have h4 := of_decide_eq_true h3
    rw [← fw_hit h4]
    exact hI.2.2.2.2.2.2.2.2.2.1 _ h4
  · have h4 := of_decide_eq_true h3
    rw [← fw_hit h4]
    exact hI.2.2.2.2.2.2.2.2.2.2.1 _ h4
end MO
