section SN6
variable {base : Nat} {ca : Nat → Nat} {fm : Value} {D : va_G} {p : Program} {l : Launch} {e : Env} {Rm : Room} {s : State} {mid : MethodId} {args : Array Value} {below : List Frame} {meth : Method} {c : Code} {k0 k1 : Nat} {Q : State → Prop}
variable {m pc : Nat} {ls st : List Value} {I : MI} {J : MJ} {R : MR} {S : Sh}
theorem aAt_set {U : State} {H1 : Heap} {a : Nat} {ty : FieldType} {n : Nat} {f g : Nat → Value} {cell : Cell} {i : Nat} {v : Value} (h2 : U.isArrayOf cell ty) (h3 : cell.vm ≠ .unknown) (h4 : cell.slots.size = n) (h5 : ∀ j : Nat, j < n → cell.slots[j]? = some (f j))
    (h1 : H1[a]? = some (cell.setSlot i v)) (hg : ∀ j, j < n → g j = if j = i then v else f j) : aAt U H1 a ty n g := by
  refine ⟨_, h1, h2, h3, ?_, fun j hj => ?_⟩
  · show (cell.slots.setIfInBounds i v).size = n
    rw [Array.size_setIfInBounds]; exact h4
  · show (cell.slots.setIfInBounds i v)[j]? = _
    rw [Array.getElem?_setIfInBounds, hg j hj]
    by_cases e : i = j
    · subst e
      rw [if_pos rfl, if_pos rfl, if_pos (by omega)]
    · rw [if_neg e, if_neg (fun q => e q.symm)]
      exact h5 j hj
theorem k_iaload (C : Cx base ca fm p l s mid args meth c Rm m) {a : Nat} {i : Int32} (ha : S.1 a = 30 ∨ S.1 a = 40) (hi : inb i (S.2.1 a) = true) (hd : decode (sk_by m) pc = .ok (.iaload, 1))
    (kk : Wk base ca fm D p l e Rm s mid args below meth c k0 k1 Q m (pc + 1) ls (.int (I a (ix i)) :: st) I J R S) : Wk base ca fm D p l e Rm s mid args below meth c k0 k1 Q m pc ls (.int i :: .ref a :: st) I J R S := by
  obtain ⟨hx, hb, -⟩ := C
  intro H locs lsR cells slots h1 h2 h3 h4 h5 h6
  obtain ⟨i1, i2, i3⟩ := inb_ok hi
  have hcl := h1.2.2.2.2.2.2.1 a
  have hc : aAt s H (ad base ca a) .int (S.2.1 a) (fun j => .int (I a j)) := by
    rcases ha with q | q
    · exact (hcl.2.2.1 q).2
    · exact (hcl.2.2.2.2.2.1 q).2
  obtain ⟨cell, q1, q2, q3, q4, q5⟩ := hc
  exact W.iald hx hb q1 q2 q3 (by rw [q4]; exact i1) (q5 _ i2) rfl rfl hd (kk H locs lsR cells slots h1 h2 h3 h4 h5 h6)
theorem k_laload (C : Cx base ca fm p l s mid args meth c Rm m) {a : Nat} {i : Int32} (ha : S.1 a = 31) (hi : inb i (S.2.1 a) = true) (hd : decode (sk_by m) pc = .ok (.laload, 1))
    (kk : Wk base ca fm D p l e Rm s mid args below meth c k0 k1 Q m (pc + 1) ls (.long (J a (ix i)) :: st) I J R S) : Wk base ca fm D p l e Rm s mid args below meth c k0 k1 Q m pc ls (.int i :: .ref a :: st) I J R S := by
  obtain ⟨hx, hb, -⟩ := C
  intro H locs lsR cells slots h1 h2 h3 h4 h5 h6
  obtain ⟨i1, i2, i3⟩ := inb_ok hi
  have hcl := h1.2.2.2.2.2.2.1 a
  obtain ⟨cell, q1, q2, q3, q4, q5⟩ := (hcl.2.2.2.1 ha).2
  exact W.lald hx hb q1 q2 q3 (by rw [q4]; exact i1) (q5 _ i2) rfl rfl hd (kk H locs lsR cells slots h1 h2 h3 h4 h5 h6)
theorem k_baload (C : Cx base ca fm p l s mid args meth c Rm m) {a : Nat} {i : Int32} (ha : S.1 a = 42) (hi : inb i (S.2.1 a) = true) (hd : decode (sk_by m) pc = .ok (.baload, 1))
    (kk : Wk base ca fm D p l e Rm s mid args below meth c k0 k1 Q m (pc + 1) ls (.int (I a (ix i)) :: st) I J R S) : Wk base ca fm D p l e Rm s mid args below meth c k0 k1 Q m pc ls (.int i :: .ref a :: st) I J R S := by
  obtain ⟨hx, hb, -⟩ := C
  intro H locs lsR cells slots h1 h2 h3 h4 h5 h6
  obtain ⟨i1, i2, i3⟩ := inb_ok hi
  have hcl := h1.2.2.2.2.2.2.1 a
  obtain ⟨cell, q1, q2, q3, q4, q5⟩ := (hcl.2.2.2.2.2.2.1 ha).2
  exact W.bald hx hb q1 q2 q3 (by rw [q4]; exact i1) (q5 _ i2) rfl rfl hd (kk H locs lsR cells slots h1 h2 h3 h4 h5 h6)
theorem k_aaload (C : Cx base ca fm p l s mid args meth c Rm m) {a : Nat} {i : Int32} (ha : S.1 a = 33 ∨ S.1 a = 43) (hi : inb i (S.2.1 a) = true) (hd : decode (sk_by m) pc = .ok (.aaload, 1))
    (kk : Wk base ca fm D p l e Rm s mid args below meth c k0 k1 Q m (pc + 1) ls (R a (ix i) :: st) I J R S) : Wk base ca fm D p l e Rm s mid args below meth c k0 k1 Q m pc ls (.int i :: .ref a :: st) I J R S := by
  obtain ⟨hx, hb, -⟩ := C
  intro H locs lsR cells slots h1 h2 h3 h4 h5 h6
  obtain ⟨i1, i2, i3⟩ := inb_ok hi
  have hcl := h1.2.2.2.2.2.2.1 a
  rcases ha with q | q
  · obtain ⟨-, cA, q1, q2, q3⟩ := hcl.2.2.2.2.1 q
    exact W.aald (ty := .object "StuckKeys$Book") hx hb q1 (q2 _ _) rfl (fun q => by cases q) (by rw [arrV_size]; exact i1) (arrV_read _ _ i2) rfl rfl hd (kk H locs lsR cells slots h1 h2 h3 h4 h5 h6)
  · obtain ⟨cell, q1, q2, q3, q4, q5⟩ := (hcl.2.2.2.2.2.2.2 q).2
    exact W.aald (ty := .object "StuckKeys$Command") hx hb q1 q2 rfl q3 (by rw [q4]; exact i1) (q5 _ i2) rfl rfl hd (kk H locs lsR cells slots h1 h2 h3 h4 h5 h6)
theorem k_alen (C : Cx base ca fm p l s mid args meth c Rm m) {a : Nat} (ha : isArr (S.1 a) = true) (hd : decode (sk_by m) pc = .ok (.arraylength, 1))
    (kk : Wk base ca fm D p l e Rm s mid args below meth c k0 k1 Q m (pc + 1) ls (.int (nI (S.2.1 a)) :: st) I J R S) : Wk base ca fm D p l e Rm s mid args below meth c k0 k1 Q m pc ls (.ref a :: st) I J R S := by
  obtain ⟨hx, hb, -⟩ := C
  intro H locs lsR cells slots h1 h2 h3 h4 h5 h6
  have hcl := h1.2.2.2.2.2.2.1 a
  have hc : ∃ (cell : Cell) (ty : FieldType), H[ad base ca a]? = some cell ∧ s.isArrayOf cell ty ∧ cell.slots.size = S.2.1 a := by
    unfold isArr at ha
    simp only [Bool.or_eq_true, beq_iff_eq] at ha
    obtain ⟨-, -, c1, c2, c3, c4, c5, c6⟩ := hcl
    rcases ha with ((((q | q) | q) | q) | q) | q
    · obtain ⟨-, cell, q1, q2, q3, q4, q5⟩ := c1 q; exact ⟨cell, _, q1, q2, q4⟩
    · obtain ⟨-, cell, q1, q2, q3, q4, q5⟩ := c2 q; exact ⟨cell, _, q1, q2, q4⟩
    · obtain ⟨-, cA, q1, q2, q3⟩ := c3 q; exact ⟨_, _, q1, q2 _ _, arrV_size _ _ _⟩
    · obtain ⟨-, cell, q1, q2, q3, q4, q5⟩ := c4 q; exact ⟨cell, _, q1, q2, q4⟩
    · obtain ⟨-, cell, q1, q2, q3, q4, q5⟩ := c5 q; exact ⟨cell, _, q1, q2, q4⟩
    · obtain ⟨-, cell, q1, q2, q3, q4, q5⟩ := c6 q; exact ⟨cell, _, q1, q2, q4⟩
  obtain ⟨cell, ty, q1, q2, q3⟩ := hc
  exact W.alen hx hb q1 q2 (by rw [q3]; rfl) rfl rfl hd (kk H locs lsR cells slots h1 h2 h3 h4 h5 h6)
theorem ad_A {a : Nat} (h : 35 ≤ a) : sk_A base (ad base ca a) := by rw [ad_hi h]; exact Nat.le_add_right _ _
theorem k_iastore (C : Cx base ca fm p l s mid args meth c Rm m) {a : Nat} {i x : Int32} (ha : S.1 a = 30) (hi : inb i (S.2.1 a) = true) (hd : decode (sk_by m) pc = .ok (.iastore, 1))
    (kk : Wk base ca fm D p l e Rm s mid args below meth c k0 k1 Q m (pc + 1) ls st (u2 I a (ix i) x) J R S) : Wk base ca fm D p l e Rm s mid args below meth c k0 k1 Q m pc ls (.int x :: .int i :: .ref a :: st) I J R S := by
  obtain ⟨hx, hb, -⟩ := C
  intro H locs lsR cells slots h1 h2 h3 h4 h5 h6
  obtain ⟨i1, i2, i3⟩ := inb_ok hi
  have hcl := h1.2.2.2.2.2.2.1 a
  obtain ⟨h35, cell, q1, q2, q3, q4, q5⟩ := hcl.2.2.1 ha
  refine W.iast hx hb q1 q2 q3 (by rw [q4]; exact i1) rfl rfl hd fun H1 z1 z2 z3 => ?_
  refine kk H1 _ lsR cells slots (Hd_upd base ca fm D h1 h35 z2 z3 u2_ne (fun _ _ _ => rfl) (fun _ _ _ => rfl) ?_) (h2.put z2 z3 (ad_A h35)) h3 h4 h5 h6
  refine ⟨fun q => by omega, fun q => by omega, fun _ => ⟨h35, aAt_set q2 q3 q4 q5 z1 fun j hj => ?_⟩, fun q => by omega, fun q => by omega, fun q => by omega, fun q => by omega, fun q => by omega⟩
  rw [u2_at]
  by_cases e : j = ix i
  · rw [if_pos e, if_pos e]
  · rw [if_neg e, if_neg e]
theorem k_lastore (C : Cx base ca fm p l s mid args meth c Rm m) {a : Nat} {i : Int32} {x : Int64} (ha : S.1 a = 31) (hi : inb i (S.2.1 a) = true) (hd : decode (sk_by m) pc = .ok (.lastore, 1))
    (kk : Wk base ca fm D p l e Rm s mid args below meth c k0 k1 Q m (pc + 1) ls st I (u2 J a (ix i) x) R S) : Wk base ca fm D p l e Rm s mid args below meth c k0 k1 Q m pc ls (.long x :: .int i :: .ref a :: st) I J R S := by
  obtain ⟨hx, hb, -⟩ := C
  intro H locs lsR cells slots h1 h2 h3 h4 h5 h6
  obtain ⟨i1, i2, i3⟩ := inb_ok hi
  have hcl := h1.2.2.2.2.2.2.1 a
  obtain ⟨h35, cell, q1, q2, q3, q4, q5⟩ := hcl.2.2.2.1 ha
  refine W.last hx hb q1 q2 q3 (by rw [q4]; exact i1) rfl rfl hd fun H1 z1 z2 z3 => ?_
  refine kk H1 _ lsR cells slots (Hd_upd base ca fm D h1 h35 z2 z3 (fun _ _ _ => rfl) u2_ne (fun _ _ _ => rfl) ?_) (h2.put z2 z3 (ad_A h35)) h3 h4 h5 h6
  refine ⟨fun q => by omega, fun q => by omega, fun q => by omega, fun _ => ⟨h35, aAt_set q2 q3 q4 q5 z1 fun j hj => ?_⟩, fun q => by omega, fun q => by omega, fun q => by omega, fun q => by omega⟩
  rw [u2_at]
  by_cases e : j = ix i
  · rw [if_pos e, if_pos e]
  · rw [if_neg e, if_neg e]
theorem k_aastore (C : Cx base ca fm p l s mid args meth c Rm m) {a b : Nat} {i : Int32} (ha : S.1 a = 33) (hi : inb i (S.2.1 a) = true) (hb0 : S.1 b = 0) (hd : decode (sk_by m) pc = .ok (.aastore, 1))
    (kk : Wk base ca fm D p l e Rm s mid args below meth c k0 k1 Q m (pc + 1) ls st I J (u2 R a (ix i) (.ref b)) S) : Wk base ca fm D p l e Rm s mid args below meth c k0 k1 Q m pc ls (.ref b :: .int i :: .ref a :: st) I J R S := by
  obtain ⟨hx, hb, -⟩ := C
  intro H locs lsR cells slots h1 h2 h3 h4 h5 h6
  obtain ⟨i1, i2, i3⟩ := inb_ok hi
  have hcl := h1.2.2.2.2.2.2.1 a
  obtain ⟨h35, cA, q1, q2, kA, comp, r1, r2, r3, r4⟩ := hcl.2.2.2.2.1 ha
  obtain ⟨-, r, g0, cellV, g1, g2, g3, -⟩ := (h1.2.2.2.2.2.2.1 b).1 (by rw [hb0]; decide)
  rw [hb0] at g0 g2
  have hcls := (h1.1.1 0 _ g0).2
  have hr : r.1 = "StuckKeys$Book" := by cases g0; rfl
  rw [hr] at hcls
  have hcomp : comp = D.1 0 := Option.some.inj (r3.symm.trans hcls.1)
  subst hcomp
  obtain ⟨kC, hkC, -⟩ := hcls.2
  refine W.aast hx hb q1 (fun q h => by cases h) (fun h => by cases h) r1 r2 rfl hkC ⟨i3, by rw [arrV_size]; exact i2⟩ g1 (fun q h => by rw [g3] at h; cases h) (by rw [g2]; exact hkC) (by rw [g2]; exact va_assign hcls) rfl rfl hd fun H1 z1 z2 z3 => ?_
  refine kk H1 _ lsR cells slots (Hd_upd base ca fm D h1 h35 z2 z3 (fun _ _ _ => rfl) (fun _ _ _ => rfl) u2_ne ?_) (h2.put z2 z3 (ad_A h35)) h3 h4 h5 h6
  refine ⟨fun q => by omega, fun q => by omega, fun q => by omega, fun q => by omega, fun _ => ⟨h35, cA, ?_, q2, kA, D.1 0, r1, r2, r3, r4⟩, fun q => by omega, fun q => by omega, fun q => by omega⟩
  rw [z1, arrV_store]
  congr 2
  funext j
  unfold updV
  rw [u2_at]
  by_cases e : j = ix i
  · rw [if_pos e, if_pos e]; rfl
  · rw [if_neg e, if_neg e]
end SN6
