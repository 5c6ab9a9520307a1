section CG
variable {I : MI} {J : MJ} {R : MR} {S : Sh} {Q : SkQ} {sc n p q s b len : Nat} {x : Nat → Int32} {f : Int32} {c : Nat → Nat}
theorem StS_u {a k : Nat} {v : Int32} (h : StS R S I s b len c) (h1 : ¬ s = a) (h2 : ¬ b = a) : StS R S (u2 I a k v) s b len c := by
  obtain ⟨s0, s1, n1, hl, r0, i0, hc⟩ := h
  exact ⟨s0, s1, n1, hl, r0, by rw [u2_p h1]; exact i0, fun i hi => by rw [u2_p h2]; exact hc i hi⟩
theorem CmS_u {a k : Nat} {v : Int32} (ha : 34 < a) (h : CmS R S I) : CmS R S (u2 I a k v) := trivial
theorem CmS_PF (hs : 34 < sc) (h : CmS R S I) : CmS R S (scPF I sc p f) := CmS_u hs (CmS_u hs h)
/-- the command that is read from p on (8 if none), and the letters' end -/
def cwP (x : Nat → Int32) (n p : Nat) : Nat := rdP x n 150 p
def cwK (x : Nat → Int32) (n p : Nat) : Nat := cmd x n p (cwP x n p) 0 8
end CG

