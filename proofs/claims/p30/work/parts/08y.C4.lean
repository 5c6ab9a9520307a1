/-- a text stands at a place of the script -/
def wrt (x : Nat → Int32) (n : Nat) (c : Nat → Nat) (p i : Nat) : Nat → Bool
  | 0 => true
  | k + 1 => decide (nI (c i) = byA x n (p + i)) && wrt x n c p (i + 1) k
/-- the commands: letters, how many words, how many numbers -/
def cmC (i k : Nat) : Nat := ([[119, 111, 114, 100], [100, 114, 111, 112], [110, 97, 109, 101], [116, 121, 112, 101], [98, 97, 99, 107], [97, 108, 108, 111, 119], [115, 116, 105, 99, 107], [115, 101, 116]].getD i []).getD k 0
def cmL (i : Nat) : Nat := [4, 4, 4, 4, 4, 5, 5, 3].getD i 0
def cmW (i : Nat) : Nat := [1, 1, 1, 1, 0, 2, 1, 0].getD i 0
def cmN (i : Nat) : Nat := [1, 0, 0, 0, 0, 0, 1, 2].getD i 0
def CmS (_ : MR) (_ : Sh) (_ : MI) : Prop := True
/-- the first command, from i on, that is written from p to q; 8 if none -/
def cmd (x : Nat → Int32) (n p q i : Nat) : Nat → Nat
  | 0 => 8
  | k + 1 => if q = p + cmL i ∧ wrt x n (cmC i) p 0 (cmL i) = true then i else cmd x n p q (i + 1) k
section CF
variable {I : MI} {J : MJ} {R : MR} {S : Sh} {Q : SkQ} {sc n p q s b len : Nat} {x : Nat → Int32} {f : Int32} {c : Nat → Nat}
theorem cmL_lt : ∀ i, i < 8 → cmL i < 100 := by decide
/-- what the reading of a command word answers and sets -/
def cmF (k : Nat) (f : Int32) (p : Nat) : Int32 := if k < 8 then f else nI p
def cmV (k : Nat) : Value := if k < 8 then .ref (4 + k) else .null
end CF

