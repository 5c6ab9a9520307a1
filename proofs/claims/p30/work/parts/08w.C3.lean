section CE
variable {I : MI} {J : MJ} {R : MR} {S : Sh} {Q : SkQ} {sc n p : Nat} {x : Nat → Int32} {f : Int32}
theorem rdV_lt {x : Nat → Int32} {n : Nat} : ∀ k i p m, m < 2 ^ (5 * i) → rdV x n k p m < 2 ^ (5 * (i + k))
  | 0, i, p, m, h => by simp only [rdV]; exact h
  | k + 1, i, p, m, h => by
    simp only [rdV]
    have h2 : 2 ^ (5 * (i + 1)) = 2 ^ (5 * i) * 32 := by rw [show 5 * (i + 1) = 5 * i + 5 by omega, Nat.pow_add]
    by_cases q : isLt x n p = true
    · rw [if_pos q, show i + (k + 1) = (i + 1) + k by omega]
      have := (isLt_f q).2.2.2
      exact rdV_lt k (i + 1) (p + 1) _ (by omega)
    · rw [if_neg q]
      exact Nat.lt_of_lt_of_le h (Nat.pow_le_pow_right (by omega) (by omega))
/-- a word read: the letters' end, the word, the fault -/
def wP (x : Nat → Int32) (n p : Nat) : Nat := rdP x n 8 (skp x n 150 p)
def wV (x : Nat → Int32) (n p : Nat) : Nat := rdV x n 8 (skp x n 150 p) 0
def wF (x : Nat → Int32) (n : Nat) (f : Int32) (p : Nat) : Int32 := wdF x n (gapF x n f p) (wP x n p) (wV x n p)
def nP (x : Nat → Int32) (n p : Nat) : Nat := nuP x n 3 (skp x n 150 p)
def nV (x : Nat → Int32) (n p : Nat) : Int32 := nuV x n 3 (skp x n 150 p) 0
def nF (x : Nat → Int32) (n : Nat) (f : Int32) (p : Nat) : Int32 := nuF x n (gapF x n f p) (skp x n 150 p) (nP x n p)
end CE

