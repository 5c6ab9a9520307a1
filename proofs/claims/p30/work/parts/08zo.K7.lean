/-! the parts of a command; words that are read are words -/
def qK (x : Nat → Int32) (n p : Nat) : Nat := cwK x n (skp x n 150 p)
def q1P (x : Nat → Int32) (n p : Nat) : Nat := cwP x n (skp x n 150 p)
def q2P (x : Nat → Int32) (n p : Nat) : Nat := w1P x n (qK x n p) (q1P x n p)
def q3P (x : Nat → Int32) (n p : Nat) : Nat := w2P x n (qK x n p) (q2P x n p)
def qF (x : Nat → Int32) (n p : Nat) : Int32 := enF x n (qK x n p) (w2F x n (qK x n p) (w1F x n (qK x n p) (-1) (q1P x n p)) (q2P x n p)) (q3P x n p)
def qE (x : Nat → Int32) (n p : Nat) : Nat := enP x n (qK x n p) (q3P x n p)
def qW1 (x : Nat → Int32) (n p : Nat) : Int64 := gJ (decide (0 < cmW (qK x n p))) (lW (wV x n (q1P x n p)))
def qW2 (x : Nat → Int32) (n p : Nat) : Int64 := gJ (decide (1 < cmW (qK x n p))) (lW (wV x n (q2P x n p)))
def qN1 (x : Nat → Int32) (n p : Nat) : Int32 := gF (decide (0 < cmN (qK x n p))) (nV x n (q3P x n p)) (-1)
def qN2 (x : Nat → Int32) (n p : Nat) : Int32 := gF (decide (1 < cmN (qK x n p))) (nV x n (n1P x n (qK x n p) (q3P x n p))) (-1)
theorem fot_s {x : Nat → Int32} {n k p : Nat} : fot x n (k + 1) p = if ¬ skp x n 150 p < n then -1 else if ¬ qK x n p < 8 then nI (skp x n 150 p) else if qF x n p = -1 then fot x n k (qE x n p) else qF x n p := rfl
/-- what a command does; none if it is refused -/
def aCar (c : Nat) (w u : Int64) (i j : Int32) (a : Bk) : Option Bk := match c with
  | 0 => if okCnt i = true ∧ roomW a w = true then some (aPutW a w i) else none
  | 1 => some (aDelW a w)
  | 2 => if roomN a w = true then some (aPutN a w) else none
  | 3 => some (tkA a w)
  | 4 => if canB a = true then some (aBack a) else none
  | 5 => some (aDelB a w u)
  | 6 => if okStk i = true then some (aStk a (lv w.toInt.toNat 0) i) else none
  | _ => if okSet i j = true then some (aSet a (ix i) j) else none
/-- how many commands are carried out, and what becomes of the book -/
def runF (x : Nat → Int32) (n : Nat) : Nat → Nat → Nat → Bk → Nat × Bk
  | 0, i, _, a => (i, a)
  | k + 1, i, p, a => if ¬ skp x n 150 p < n then (i, a) else match aCar (qK x n p) (qW1 x n p) (qW2 x n p) (qN1 x n p) (qN2 x n p) a with
    | none => (i, a)
    | some a' => runF x n k (i + 1) (qE x n p) a'
theorem nI_m1 {p : Nat} (h : p < 2 ^ 31) : ¬ nI p = -1 := fun e => by
  have := nI_toInt h
  rw [e, show (-1 : Int32).toInt = -1 by decide] at this
  omega
section KH
variable {x : Nat → Int32} {n p q c : Nat} {f : Int32}
theorem flt_m1 (hp : p < 2 ^ 31) : ¬ flt f p = -1 := by
  unfold flt
  by_cases e : f = -1
  · rw [if_pos e]; exact nI_m1 hp
  · rw [if_neg e]; exact e
theorem gap_m1 (hp : p < 2 ^ 31) (h : gapF x n f p = -1) : f = -1 ∧ byA x n p = 32 := by
  unfold gapF at h
  by_cases e : byA x n p = 32
  · rw [if_pos e] at h; exact ⟨h, e⟩
  · rw [if_neg e] at h; exact absurd h (flt_m1 hp)
theorem sem_m1 (hp : skp x n 150 p < 2 ^ 31) (h : semF x n f p = -1) : f = -1 ∧ byA x n (skp x n 150 p) = 59 := by
  unfold semF at h
  by_cases e : byA x n (skp x n 150 p) = 59
  · rw [if_pos e] at h; exact ⟨h, e⟩
  · rw [if_neg e] at h; exact absurd h (flt_m1 hp)
theorem wF_m1 (hp : p ≤ 151) (hn : n ≤ 150) (h : wF x n f p = -1) : f = -1 ∧ byA x n p = 32 ∧ ¬ wV x n p = 0 ∧ isLt x n (wP x n p) = false := by
  have := wP_le (x := x) hp hn
  unfold wF wdF at h
  by_cases e : wV x n p = 0 ∨ isLt x n (wP x n p) = true
  · rw [if_pos e] at h; exact absurd h (flt_m1 (by omega))
  · rw [if_neg e] at h
    have g := gap_m1 (by omega) h
    exact ⟨g.1, g.2, fun z => e (Or.inl z), by cases hh : isLt x n (wP x n p); rfl; exact absurd (Or.inr hh) e⟩
theorem nF_m1 (hp : p ≤ 151) (hn : n ≤ 150) (h : nF x n f p = -1) : f = -1 ∧ byA x n p = 32 ∧ ¬ nP x n p = skp x n 150 p ∧ isDg x n (nP x n p) = false := by
  have := nP_le (x := x) hp hn
  unfold nF nuF at h
  by_cases e : nP x n p = skp x n 150 p ∨ isDg x n (nP x n p) = true
  · rw [if_pos e] at h; exact absurd h (flt_m1 (by omega))
  · rw [if_neg e] at h
    have g := gap_m1 (by omega) h
    exact ⟨g.1, g.2, fun z => e (Or.inl z), by cases hh : isDg x n (nP x n p); rfl; exact absurd (Or.inr hh) e⟩
theorem gF_m1 {b : Bool} {g f : Int32} (hg : b = true → g = -1 → f = -1) (h : gF b g f = -1) : f = -1 ∧ (b = true → g = -1) := by
  unfold gF at h
  cases b
  · exact ⟨h, fun e => by cases e⟩
  · exact ⟨hg rfl h, fun _ => h⟩
theorem wOk_mono : ∀ i m, wOk i m = true → m < 2 ^ (5 * i) → wOk (i + 1) m = true
  | 0, m, _, h2 => by
    have : m = 0 := by omega
    subst this
    simp [wOk]
  | i + 1, m, h1, h2 => by
    rw [wOk] at h1 ⊢
    by_cases q : m = 0
    · rw [if_pos q]
    · rw [if_neg q] at h1 ⊢
      rw [Bool.and_eq_true] at h1 ⊢
      refine ⟨h1.1, wOk_mono i (m / 32) h1.2 ?_⟩
      rw [show 5 * (i + 1) = 5 * i + 5 by omega, Nat.pow_add] at h2
      omega
theorem wOk_mono' (k : Nat) {i m : Nat} (h1 : wOk i m = true) (h2 : m < 2 ^ (5 * i)) : wOk (i + k) m = true := by
  induction k with
  | zero => exact h1
  | succ k ih => exact wOk_mono (i + k) m ih (Nat.lt_of_lt_of_le h2 (Nat.pow_le_pow_right (by omega) (by omega)))
theorem isLt_26 (h : isLt x n p = true) : 1 ≤ ltN x n p ∧ ltN x n p ≤ 26 := by
  obtain ⟨_, e, _, _⟩ := isLt_f h
  unfold isLt at h
  simp only [Bool.and_eq_true, Bool.not_eq_true', decide_eq_false_iff_not] at h
  obtain ⟨h1, h2⟩ := h
  rw [e, Int32.lt_iff_toInt_lt, nI_toInt (by omega), show (97 : Int32).toInt = 97 by decide] at h1
  rw [e, Int32.lt_iff_toInt_lt, nI_toInt (by omega), show (122 : Int32).toInt = 122 by decide] at h2
  omega
theorem wOk_put {i m c : Nat} (h : wOk i m = true) (h1 : 1 ≤ c) (h2 : c ≤ 26) : wOk (i + 1) (m * 32 + c) = true := by
  rw [wOk, if_neg (by omega), show (m * 32 + c) / 32 = m by omega, show (m * 32 + c) % 32 = c by omega, h, Bool.and_true, decide_eq_true_eq]
  exact ⟨h1, h2⟩
theorem rdV_ok : ∀ k i p m, wOk i m = true → m < 2 ^ (5 * i) → wOk (i + k) (rdV x n k p m) = true
  | 0, i, p, m, h, _ => by simp only [rdV]; exact h
  | k + 1, i, p, m, h, h2 => by
    simp only [rdV]
    by_cases q : isLt x n p = true
    · rw [if_pos q, show i + (k + 1) = i + 1 + k by omega]
      have l := isLt_26 q
      refine rdV_ok k (i + 1) (p + 1) _ (wOk_put h l.1 l.2) ?_
      rw [show 5 * (i + 1) = 5 * i + 5 by omega, Nat.pow_add]
      omega
    · rw [if_neg q]
      exact wOk_mono' (k + 1) h h2
theorem wV_isW (h : ¬ wV x n p = 0) : isW (lW (wV x n p)) = true ∧ wV x n p < 2 ^ 40 := by
  have l := rdV_lt (x := x) (n := n) 8 0 (skp x n 150 p) 0 (by omega)
  have o := rdV_ok (x := x) (n := n) 8 0 (skp x n 150 p) 0 (by simp [wOk]) (by omega)
  have l2 : wV x n p < 2 ^ 40 := l
  rw [Nat.zero_add] at o
  rw [isW_lW (by omega), decide_eq_true (by omega), decide_eq_true l2, show wOk 8 (wV x n p) = true from o]
  exact ⟨rfl, l2⟩
/-- a command without a fault has words where it needs them -/
theorem qF_w (hn : n ≤ 150) (h0 : skp x n 150 p < n) (h : qF x n p = -1) : (0 < cmW (qK x n p) → isW (lW (wV x n (q1P x n p))) = true) ∧ (1 < cmW (qK x n p) → isW (lW (wV x n (q2P x n p))) = true) ∧ q1P x n p ≤ 151 ∧ q2P x n p ≤ 151 ∧ q3P x n p ≤ 151 := by
  have b1 : q1P x n p ≤ 151 := by
    unfold q1P cwP
    have := rdP_le (x := x) (n := n) 150 (skp x n 150 p)
    omega
  have b2 : q2P x n p ≤ 151 := gP_le (wP_le b1 hn) b1
  have b3 : q3P x n p ≤ 151 := gP_le (wP_le b2 hn) b2
  have b4 : n1P x n (qK x n p) (q3P x n p) ≤ 151 := gP_le (nP_le b3 hn) b3
  have b5 : n2P x n (qK x n p) (n1P x n (qK x n p) (q3P x n p)) ≤ 151 := gP_le (nP_le b4 hn) b4
  have s5 := skp_le (x := x) (n := n) 150 (n2P x n (qK x n p) (n1P x n (qK x n p) (q3P x n p)))
  unfold qF enF arF arP at h
  have g1 := (sem_m1 (by omega) h).1
  unfold n2F at g1
  have g2 := (gF_m1 (fun _ e => (nF_m1 b4 hn e).1) g1).1
  unfold n1F at g2
  have g3 := (gF_m1 (fun _ e => (nF_m1 b3 hn e).1) g2).1
  unfold w2F at g3
  have g4 := gF_m1 (fun _ e => (wF_m1 b2 hn e).1) g3
  have g5 := g4.1
  unfold w1F at g5
  have g6 := gF_m1 (fun _ e => (wF_m1 b1 hn e).1) g5
  exact ⟨fun e => (wV_isW (wF_m1 b1 hn (g6.2 (decide_eq_true e))).2.2.1).1, fun e => (wV_isW (wF_m1 b2 hn (g4.2 (decide_eq_true e))).2.2.1).1, b1, b2, b3⟩
end KH

