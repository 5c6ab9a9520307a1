/-! carryOut -/
section KI
variable {I I' : MI} {J J' : MJ} {R R' : MR} {S : Sh} {Q : SkQ} {T n l c : Nat} {a : Bk} {s : Nat → Bk} {x : Nat → Int32} {w u : Int64} {i j : Int32}
theorem wl_pos {m : Nat} (h : 0 < m) : 0 < wlF 8 m := by
  rw [wlF, if_neg (by omega)]
  omega
theorem KOk_T {T' : Nat} (h : KOk I J R S T a n s x l) (hT : T ≤ T') : KOk I J R S T' a n s x l :=
  KOk_bk h fr_rfl h.2.1.2.2.2.2.1 (BkI_mono h.2.1.2.2.2.2.2.1 hT) hT
end KI

