/-- only the script object itself has changed -/
def scI (sc : Nat) (I I' : MI) : Prop := (∀ q, ¬ q = sc → I' q = I q) ∧ I' sc 1 = I sc 1
/-- an argument read if there is one -/
def gP (b : Bool) (q p : Nat) : Nat := if b = true then q else p
def gF (b : Bool) (g f : Int32) : Int32 := if b = true then g else f
section CH
variable {I I' I2 : MI} {J : MJ} {R : MR} {S : Sh} {Q : SkQ} {sc n p c : Nat} {x : Nat → Int32} {f : Int32}
theorem scI_rfl : scI sc I I := ⟨fun _ _ => by simp, by simp⟩
theorem scI_trans (h1 : scI sc I I') (h2 : scI sc I' I2) : scI sc I I2 := ⟨fun q hq => (h2.1 q hq).trans (h1.1 q hq), h2.2.trans h1.2⟩
theorem scI_u {k : Nat} {v : Int32} (h : scI sc I I') (hk : ¬ k = 1) : scI sc I (u2 I' sc k v) := ⟨fun q hq => by rw [u2_p hq]; exact h.1 q hq, by rw [u2_k (by omega)]; exact h.2⟩
theorem scI_PF (h : scI sc I I') : scI sc I (scPF I' sc p f) := scI_u (scI_u h (by omega)) (by omega)
theorem ScD_I (hD : ScD I sc x n) (h : scI sc I I') : ScD I' sc x n := ⟨by rw [h.2]; exact hD.1, hD.2.1, fun i hi => by rw [h.1 (sc + 1) (by omega)]; exact hD.2.2 i hi⟩
theorem CmS_I (hs : 34 < sc) (hC : CmS R S I) (h : scI sc I I') : CmS R S I' := trivial
end CH

