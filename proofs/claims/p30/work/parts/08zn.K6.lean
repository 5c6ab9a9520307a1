/-! the digest -/
def fld (g : Int64 → Nat → Int64) (h : Int64) (i : Nat) : Nat → Int64
  | 0 => h
  | k + 1 => fld g (g h i) (i + 1) k
def mxH (f : Nat → Int64) (h : Int64) (i : Nat) : Int64 := 31 * h + f i
def mxR (p : Rw) (h : Int64) (i : Nat) : Int64 := 31 * (31 * (31 * h + p.2.1 i) + p.2.2.1 i) + (p.2.2.2 i).toInt64
def mxW (a : Bk) (h : Int64) (i : Nat) : Int64 := 31 * fld (mxH (fun k => (vW a ((bW a).2.1 i) k).toInt64)) (31 * h + (bW a).2.1 i) 0 7 + (nI (rskN a ((bW a).2.1 i))).toInt64
def dgA (a : Bk) (n l : Nat) : Int64 :=
  fld (fun h i => mxR (bL a) h ((bL a).1 - 1 - i)) (fld (mxR (bP a)) (fld (mxH (bN a).2.1) (fld (mxW a) (fld (mxH (fun i => (bK a i).toInt64)) (fld (mxH (fun k => (whV a l k).toInt64)) (31 * 43304 + (nI n).toInt64) 0 12) 0 26) 0 (bW a).1) 0 (bN a).1) 0 (bP a).1) 0 (bL a).1
section KG
variable {I I' : MI} {J J' : MJ} {R R' : MR} {S : Sh} {Q : SkQ} {T n l b cap : Nat} {a : Bk} {s : Nat → Bk} {x : Nat → Int32} {p : Rw}
end KG

