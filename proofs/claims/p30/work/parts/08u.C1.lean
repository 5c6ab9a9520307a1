/-! the script: its bytes at sc + 1 -/
theorem u2_self {α : Type} {f : Nat → Nat → α} {a k : Nat} {v : α} (h : f a k = v) : u2 f a k v = f := by
  funext b j
  by_cases q : b = a ∧ j = k
  · rw [q.1, q.2, u2_eq, h]
  · rw [u2_of q]
theorem u2_u2 {α : Type} {f : Nat → Nat → α} {a k : Nat} {v w : α} : u2 (u2 f a k v) a k w = u2 f a k w := by
  funext b j
  by_cases q : b = a ∧ j = k
  · rw [q.1, q.2, u2_eq, u2_eq]
  · rw [u2_of q, u2_of q, u2_of q]
theorem u2_k {α : Type} {f : Nat → Nat → α} {a b k l : Nat} {v : α} (h : ¬ l = k) : u2 f a k v b l = f b l := u2_of (fun q => h q.2)
def ScS (R : MR) (S : Sh) (sc : Nat) : Prop := S.1 sc = 5 ∧ S.1 (sc + 1) = 30 ∧ S.2.1 (sc + 1) = 150 ∧ R sc 0 = .ref (sc + 1)
def ScD (I : MI) (sc : Nat) (x : Nat → Int32) (n : Nat) : Prop := I sc 1 = nI n ∧ n ≤ 150 ∧ ∀ i, i < n → I (sc + 1) i = x i
/-- the byte at a place, -1 behind the end -/
def byA (x : Nat → Int32) (n i : Nat) : Int32 := if i < n then x i else -1
/-- the place behind the spaces -/
def skp (x : Nat → Int32) (n : Nat) : Nat → Nat → Nat
  | 0, p => p
  | k + 1, p => if byA x n p = 32 then skp x n k (p + 1) else p
def isLt (x : Nat → Int32) (n p : Nat) : Bool := !decide (byA x n p < 97) && !decide (122 < byA x n p)
def isDg (x : Nat → Int32) (n p : Nat) : Bool := !decide (byA x n p < 48) && !decide (57 < byA x n p)
/-- the first fault stays -/
def flt (f : Int32) (p : Nat) : Int32 := if f = -1 then nI p else f
theorem skp_le {x : Nat → Int32} {n : Nat} : ∀ k p, p ≤ skp x n k p ∧ (skp x n k p ≤ p ∨ skp x n k p ≤ n)
  | 0, p => by simp [skp]
  | k + 1, p => by
    simp only [skp]
    by_cases q : byA x n p = 32
    · rw [if_pos q]
      have := skp_le (x := x) (n := n) k (p + 1)
      have hp : p < n := by
        unfold byA at q
        by_cases h : p < n
        · exact h
        · rw [if_neg h] at q; exact absurd q (by decide)
      omega
    · rw [if_neg q]; omega
section CC
variable {I : MI} {J : MJ} {R : MR} {S : Sh} {Q : SkQ} {sc n p : Nat} {x : Nat → Int32} {f : Int32}
theorem ScD_2 (hD : ScD I sc x n) {k : Nat} {v : Int32} (hk : ¬ k = 1) : ScD (u2 I sc k v) sc x n := by
  obtain ⟨d1, dn, dx⟩ := hD
  exact ⟨by rw [u2_k (by omega)]; exact d1, dn, fun i hi => by rw [u2_p (by omega)]; exact dx i hi⟩
theorem c_C_length (hS : ScS R S sc) : Wp 149 0 [.ref sc] [] I J R S Q = Q 0 (some (.int (I sc 1))) I J R S := by
  simp only [x_C_length_0, x_C_length_1, x_C_length_4, hS.1]
end CC

