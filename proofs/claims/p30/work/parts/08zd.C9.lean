section CM
variable {I I' I2 : MI} {J J' : MJ} {R R' : MR} {S : Sh} {Q : SkQ} {sc n p c : Nat} {x : Nat → Int32} {f : Int32}
theorem ScS_R {v : Value} (hS : ScS R S sc) : ScS (u2 R sc 4 v) S sc := ⟨hS.1, hS.2.1, hS.2.2.1, by rw [u2_k (by omega)]; exact hS.2.2.2⟩
theorem CmS_R {k : Nat} {v : Value} (hs : 34 < sc) (hC : CmS R S I) : CmS (u2 R sc k v) S I := trivial
end CM

