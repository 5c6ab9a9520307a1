def n1P (x : Nat → Int32) (n c p : Nat) : Nat := gP (decide (0 < cmN c)) (nP x n p) p
def n1F (x : Nat → Int32) (n c : Nat) (f : Int32) (p : Nat) : Int32 := gF (decide (0 < cmN c)) (nF x n f p) f
def n2P (x : Nat → Int32) (n c p : Nat) : Nat := gP (decide (1 < cmN c)) (nP x n p) p
def n2F (x : Nat → Int32) (n c : Nat) (f : Int32) (p : Nat) : Int32 := gF (decide (1 < cmN c)) (nF x n f p) f
def w1P (x : Nat → Int32) (n c p : Nat) : Nat := gP (decide (0 < cmW c)) (wP x n p) p
def w1F (x : Nat → Int32) (n c : Nat) (f : Int32) (p : Nat) : Int32 := gF (decide (0 < cmW c)) (wF x n f p) f
def w2P (x : Nat → Int32) (n c p : Nat) : Nat := gP (decide (1 < cmW c)) (wP x n p) p
def w2F (x : Nat → Int32) (n c : Nat) (f : Int32) (p : Nat) : Int32 := gF (decide (1 < cmW c)) (wF x n f p) f
def gJ (b : Bool) (v : Int64) : Int64 := if b = true then v else -1
section CK
variable {I I' I2 : MI} {J : MJ} {R : MR} {S : Sh} {Q : SkQ} {sc n p c : Nat} {x : Nat → Int32} {f : Int32}
end CK

