theorem u2_comm {α : Type} {f : Nat → Nat → α} {a k l : Nat} {v w : α} (h : ¬ k = l) : u2 (u2 f a k v) a l w = u2 (u2 f a l w) a k v := by
  funext b j
  by_cases q : b = a ∧ j = k
  · rw [u2_of (fun r => h (q.2.symm.trans r.2)), q.1, q.2, u2_eq, u2_eq]
  · rw [u2_of (f := u2 f a l w) q]
    by_cases r : b = a ∧ j = l
    · rw [r.1, r.2, u2_eq, u2_eq]
    · rw [u2_of r, u2_of r, u2_of q]
/-- the place and the fault set -/
def scPF (I : MI) (sc p : Nat) (f : Int32) : MI := u2 (u2 I sc 3 f) sc 2 (nI p)
def gapF (x : Nat → Int32) (n : Nat) (f : Int32) (p : Nat) : Int32 := if byA x n p = 32 then f else flt f p
def semF (x : Nat → Int32) (n : Nat) (f : Int32) (p : Nat) : Int32 := if byA x n (skp x n 150 p) = 59 then f else flt f (skp x n 150 p)
def ltN (x : Nat → Int32) (n p : Nat) : Nat := (byA x n p).toInt.toNat - 96
def rdP (x : Nat → Int32) (n : Nat) : Nat → Nat → Nat
  | 0, p => p
  | k + 1, p => if isLt x n p = true then rdP x n k (p + 1) else p
def rdV (x : Nat → Int32) (n : Nat) : Nat → Nat → Nat → Nat
  | 0, _, m => m
  | k + 1, p, m => if isLt x n p = true then rdV x n k (p + 1) (m * 32 + ltN x n p) else m
def nuP (x : Nat → Int32) (n : Nat) : Nat → Nat → Nat
  | 0, p => p
  | k + 1, p => if isDg x n p = true then nuP x n k (p + 1) else p
def nuV (x : Nat → Int32) (n : Nat) : Nat → Nat → Int32 → Int32
  | 0, _, v => v
  | k + 1, p, v => if isDg x n p = true then nuV x n k (p + 1) (10 * v + byA x n p - 48) else v
/-- the fault behind a word, a number, whose reading began at p with the fault f -/
def wdF (x : Nat → Int32) (n : Nat) (f : Int32) (p2 m : Nat) : Int32 := if m = 0 ∨ isLt x n p2 = true then flt f p2 else f
def nuF (x : Nat → Int32) (n : Nat) (f : Int32) (p1 p2 : Nat) : Int32 := if p2 = p1 ∨ isDg x n p2 = true then flt f p2 else f
theorem byA_lt {x : Nat → Int32} {n p : Nat} (h : ¬ byA x n p = -1) : p < n := by
  unfold byA at h
  by_cases q : p < n
  · exact q
  · rw [if_neg q] at h; exact absurd rfl h
theorem isLt_f {x : Nat → Int32} {n p : Nat} (h : isLt x n p = true) : p < n ∧ byA x n p = nI (ltN x n p + 96) ∧ 0 < ltN x n p ∧ ltN x n p < 32 := by
  unfold isLt at h
  simp only [Bool.and_eq_true, Bool.not_eq_true', decide_eq_false_iff_not] at h
  obtain ⟨h1, h2⟩ := h
  have h1' := h1
  rw [Int32.lt_iff_toInt_lt, show (97 : Int32).toInt = 97 by decide] at h1
  rw [Int32.lt_iff_toInt_lt, show (122 : Int32).toInt = 122 by decide] at h2
  refine ⟨byA_lt (fun e => h1' (by rw [e]; decide)), ?_, ?_, ?_⟩
  · rw [← Int32.toInt_inj, nI_toInt (by unfold ltN; omega)]
    unfold ltN
    omega
  · unfold ltN; omega
  · unfold ltN; omega
theorem isDg_f {x : Nat → Int32} {n p : Nat} (h : isDg x n p = true) : p < n := by
  unfold isDg at h
  simp only [Bool.and_eq_true, Bool.not_eq_true', decide_eq_false_iff_not] at h
  exact byA_lt (fun e => h.1 (by rw [e]; decide))
theorem rdP_le {x : Nat → Int32} {n : Nat} : ∀ k p, p ≤ rdP x n k p ∧ (rdP x n k p ≤ p ∨ rdP x n k p ≤ n)
  | 0, p => by simp [rdP]
  | k + 1, p => by
    simp only [rdP]
    by_cases q : isLt x n p = true
    · rw [if_pos q]
      have := rdP_le (x := x) (n := n) k (p + 1)
      have := (isLt_f q).1
      omega
    · rw [if_neg q]; omega
theorem nuP_le {x : Nat → Int32} {n : Nat} : ∀ k p, p ≤ nuP x n k p ∧ (nuP x n k p ≤ p ∨ nuP x n k p ≤ n)
  | 0, p => by simp [nuP]
  | k + 1, p => by
    simp only [nuP]
    by_cases q : isDg x n p = true
    · rw [if_pos q]
      have := nuP_le (x := x) (n := n) k (p + 1)
      have := isDg_f q
      omega
    · rw [if_neg q]; omega
section CD
variable {I : MI} {J : MJ} {R : MR} {S : Sh} {Q : SkQ} {sc n p : Nat} {x : Nat → Int32} {f : Int32}
theorem ScD_PF (hD : ScD I sc x n) : ScD (scPF I sc p f) sc x n := ScD_2 (ScD_2 hD (by omega)) (by omega)
theorem PF_2 : scPF I sc p f sc 2 = nI p := u2_eq
theorem PF_3 : scPF I sc p f sc 3 = f := by
  unfold scPF
  rw [u2_k (by omega), u2_eq]
theorem PF_PF {p' : Nat} {f' : Int32} : scPF (scPF I sc p f) sc p' f' = scPF I sc p' f' := by
  unfold scPF
  rw [u2_comm (k := 2) (l := 3) (by omega), u2_u2, u2_u2]
theorem PF_self (h2 : I sc 2 = nI p) (h3 : I sc 3 = f) : scPF I sc p f = I := by
  unfold scPF
  rw [u2_self h3, u2_self h2]
theorem PF_of2 (h3 : I sc 3 = f) : u2 I sc 2 (nI p) = scPF I sc p f := by
  unfold scPF
  rw [u2_self h3]
theorem PF_of3 (h2 : I sc 2 = nI p) : u2 I sc 3 f = scPF I sc p f := by
  unfold scPF
  rw [u2_self (f := u2 I sc 3 f) (by rw [u2_k (by omega)]; exact h2)]
end CD

