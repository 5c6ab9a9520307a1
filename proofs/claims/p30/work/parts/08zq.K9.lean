/-! runCommands -/
section KJ
variable {I I' : MI} {J J' : MJ} {R R' : MR} {S : Sh} {Q : SkQ} {T n l c : Nat} {a : Bk} {s : Nat → Bk} {x : Nat → Int32} {w u : Int64} {i j : Int32}
theorem KOk_sc (h : KOk I J R S T a n s x l) (hI : scI 185 I I') (hJ : scJ 185 J J') (hR : scR 185 R R') : KOk I' J' R' S T a n s x l := by
  obtain ⟨h1, ⟨e1, e2, e3, e4, e5, e6, e7, e8⟩, ⟨π, p1, p2⟩, h4, h5, h6, h7, h8⟩ := h
  have f : fr 185 185 I J I' J' := fun p hp => ⟨hI.1 p (by omega), hJ p (by omega)⟩
  have rr : ∀ q, ¬ q = 185 → R' q = R q := fun q hq => by funext k; exact hR q k (by omega)
  refine ⟨?_, ⟨?_, ?_, KbD_fr e3 f (by omega), BkS_R e4 (fun q h1 h2 => rr q (by omega)), BkD_fr e5 f (by omega), e6, e7, e8⟩, ⟨π, ?_, HsD_fr p1 p2 f (by omega)⟩, ?_, ScD_I h5 hI, CmS_lo h6 (fun q hq => (f q (by omega)).1) (fun q hq => rr q (by omega)), CnS_lo h7 (fun q hq => (f q (by omega)).1), h8⟩
  · unfold KxS at h1 ⊢
    rw [rr 35 (by omega)]
    exact h1
  · unfold SpS DsS at e1 ⊢
    rw [rr 67 (by omega), rr (67 + 2) (by omega)]
    exact e1
  · unfold KbS at e2 ⊢
    rw [rr 36 (by omega)]
    exact e2
  · obtain ⟨q1, q2, q3, q4, q5, q6, q7⟩ := p1
    exact ⟨q1, q2, q3, by rw [rr 75 (by omega)]; exact q4, fun i hi => by rw [rr (75 + 1) (by omega)]; exact q5 i hi, fun i hi => ⟨BkS_R (q6 i hi).1 (fun q h1 h2 => rr q (by have := q6 i hi; omega)), (q6 i hi).2⟩, q7⟩
  · exact ⟨h4.1, h4.2.1, h4.2.2.1, by rw [hR 185 0 (by omega)]; exact h4.2.2.2⟩
theorem kF_sc (hI : scI 185 I I') (hJ : scJ 185 J J') (hR : scR 185 R R') : kF 35 186 I J R I' J' R' := ⟨fun p hp => ⟨hI.1 p (by omega), hJ p (by omega)⟩, fun p hp => by funext k; exact hR p k (by omega)⟩
def rcA (x : Nat → Int32) (l : Nat) (a : Bk) : Bk := (runF x l 150 0 0 a).2
end KJ

