/-- the place behind a command's arguments, the fault there -/
def arP (x : Nat → Int32) (n c p : Nat) : Nat := n2P x n c (n1P x n c p)
def arF (x : Nat → Int32) (n c : Nat) (f : Int32) (p : Nat) : Int32 := n2F x n c (n1F x n c f p) (n1P x n c p)
def enF (x : Nat → Int32) (n c : Nat) (f : Int32) (p : Nat) : Int32 := semF x n (arF x n c f p) (arP x n c p)
def enP (x : Nat → Int32) (n c p : Nat) : Nat := skp x n 150 (arP x n c p) + 1
/-- what the numbers' reading leaves -/
def NuD (I : MI) (sc : Nat) (x : Nat → Int32) (n c p : Nat) (f : Int32) : Prop := I sc 7 = gF (decide (0 < cmN c)) (nV x n p) (-1) ∧ I sc 8 = gF (decide (1 < cmN c)) (nV x n (n1P x n c p)) (-1) ∧ I sc 2 = nI (enP x n c p) ∧ I sc 3 = enF x n c f p
section CL
variable {I I' I2 : MI} {J J' : MJ} {R : MR} {S : Sh} {Q : SkQ} {sc n p c : Nat} {x : Nat → Int32} {f : Int32}
end CL

