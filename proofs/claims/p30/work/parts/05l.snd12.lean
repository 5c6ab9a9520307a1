section SN13
variable {base : Nat} {ca : Nat → Nat} {fm : Value} {D : va_G}
variable {m pc : Nat} {ls st : List Value} {I : MI} {J : MJ} {R : MR} {S : Sh}
theorem call_grow {idx kd pc' : Nat} {ls' st' : List Value} {I' : MI} {J' : MJ} {R' : MR} {S' : Sh} (hx : exCall m pc idx kd ls st I J R S = some (.inl (pc', ls', st', I', J', R', S'))) : S' = S := by
  unfold exCall at hx
  split at hx
  · cases hx
  · split at hx
    · split at hx <;> cases hx
      rfl
    · cases hx
  · split at hx
    · split at hx <;> cases hx
      rfl
    · cases hx
  · split at hx
    · split at hx <;> cases hx
      rfl
    · cases hx
  · split at hx
    · split at hx <;> cases hx
      rfl
    · cases hx
  · split at hx <;> cases hx
theorem ex_grow {i : Instr} {len pc' : Nat} {ls' st' : List Value} {I' : MI} {J' : MJ} {R' : MR} {S' : Sh} (hx : exI m i len pc ls st I J R S = some (.inl (pc', ls', st', I', J', R', S'))) : cN S ≤ cN S' ∧ sN S ≤ sN S' := by
  unfold exI at hx
  split at hx
  all_goals first
    | (rw [call_grow hx]; exact ⟨Nat.le_refl _, Nat.le_refl _⟩)
    | skip
  all_goals (repeat' split at hx)
  all_goals first
    | (have h9 := nxt_inj hx; rw [← h9.2.2.2.2.2.2]; first | exact ⟨Nat.le_refl _, Nat.le_refl _⟩ | exact ⟨by rw [cN_new]; omega, by rw [sN_new]; omega⟩)
    | cases hx
/-- what a call is -/
theorem ex_call {i : Instr} {len cal pc' : Nat} {as rest : List Value} (hx : exI m i len pc ls st I J R S = some (.inr (.inl (cal, as, rest, pc')))) :
    ∃ idx : Nat, i = insK (sk_kd cal) idx ∧ len = 3 ∧ pc' = pc + 3 ∧ sk_lkM (sk_cl m) idx = some cal ∧ st = as.reverse ++ rest ∧ as.length = sk_na cal ∧ sk_fr cal + 1 ≤ sk_fr m ∧ 8 + (sk_mx cal + 11) + sk_lo cal ≤ sk_lo m ∧ catS rest ≤ 8 ∧ (argL as).length ≤ sk_mx cal ∧ cal < 261 ∧ sk_sp cal = false ∧ rcv (sk_kd cal) (sk_cl cal) as S = true := by
  have hC : ∀ idx kd, exCall m pc idx kd ls st I J R S = some (.inr (.inl (cal, as, rest, pc'))) → sk_kd cal = kd ∧ pc' = pc + 3 ∧ sk_lkM (sk_cl m) idx = some cal ∧ st = as.reverse ++ rest ∧ as.length = sk_na cal ∧ sk_fr cal + 1 ≤ sk_fr m ∧ 8 + (sk_mx cal + 11) + sk_lo cal ≤ sk_lo m ∧ catS rest ≤ 8 ∧ (argL as).length ≤ sk_mx cal ∧ cal < 261 ∧ sk_sp cal = false ∧ rcv kd (sk_cl cal) as S = true := by
    intro idx kd h
    unfold exCall at h
    split at h
    · cases h
    · split at h
      · split at h <;> cases h
      · cases h
    · split at h
      · split at h <;> cases h
      · cases h
    · split at h
      · split at h <;> cases h
      · cases h
    · split at h
      · split at h <;> cases h
      · cases h
    · rename_i hl
      split at h
      · rename_i hq
        cases h
        obtain ⟨q1, q2, q3, q4, q5, q6, q7, q8, q9⟩ := hq
        refine ⟨q1, rfl, hl, ?_, ?_, q3, q4, q5, q6, q7, q8, q9⟩
        · rw [List.reverse_reverse, List.take_append_drop]
        · rw [List.length_reverse, List.length_take]; omega
      · cases h
  unfold exI at hx
  split at hx
  all_goals first
    | (obtain ⟨q1, q⟩ := hC _ _ hx; exact ⟨_, by rw [q1]; rfl, rfl, q.1, q.2.1, q.2.2.1, q.2.2.2.1, q.2.2.2.2.1, q.2.2.2.2.2.1, q.2.2.2.2.2.2.1, q.2.2.2.2.2.2.2.1, q.2.2.2.2.2.2.2.2.1, q.2.2.2.2.2.2.2.2.2.1, by rw [q1]; exact q.2.2.2.2.2.2.2.2.2.2⟩)
    | skip
  all_goals (repeat' split at hx)
  all_goals first
    | (unfold nxt at hx; cases hx; done)
    | (cases hx; done)
theorem run_grow : ∀ (n m pc : Nat) (ls st : List Value) (I : MI) (J : MJ) (R : MR) (S : Sh) (o : SkO), run n m (pc, ls, st, I, J, R, S) = some o → cN S ≤ cN o.2.2.2.2 ∧ sN S ≤ sN o.2.2.2.2 := by
  intro n
  induction n with
  | zero => intro m pc ls st I J R S o h; simp [run] at h
  | succ n ih =>
    intro m pc ls st I J R S o h
    rw [run] at h
    cases hs : stp m (pc, ls, st, I, J, R, S) with
    | none => rw [hs] at h; cases h
    | some x =>
      rw [hs] at h
      unfold stp at hs
      dsimp only at hs
      split at hs
      · match x, h with
        | .inl (pc', ls', st', I', J', R', S'), h =>
          have g := ex_grow hs
          have g2 := ih _ _ _ _ _ _ _ _ _ h
          exact ⟨Nat.le_trans g.1 g2.1, Nat.le_trans g.2 g2.2⟩
        | .inr (.inl (cal, as, rest, pc')), h =>
          dsimp only at h
          cases hc : run n cal (0, entL (sk_mx cal) as, [], I, J, R, S) with
          | none => rw [hc] at h; cases h
          | some o1 =>
            rw [hc] at h
            have g := ih _ _ _ _ _ _ _ _ _ hc
            match o1, h, g with
            | ((0, v), I', J', R', S'), h, g =>
              have g2 := ih _ _ _ _ _ _ _ _ _ h
              exact ⟨Nat.le_trans g.1 g2.1, Nat.le_trans g.2 g2.2⟩
            | ((x + 1, v), I', J', R', S'), h, g =>
              dsimp only at h
              split at h
              · cases hh : hnd m pc x with
                | none => rw [hh] at h; cases h; exact g
                | some hp =>
                  rw [hh] at h
                  dsimp only at h
                  cases h9 : hst m hp ls with
                  | none => rw [h9] at h; cases h
                  | some y =>
                    obtain ⟨pc2, ls2⟩ := y
                    rw [h9] at h
                    have g2 := ih _ _ _ _ _ _ _ _ _ h
                    exact ⟨Nat.le_trans g.1 g2.1, Nat.le_trans g.2 g2.2⟩
              · cases h
        | .inr (.inr (.inl v)), h => cases h; exact ⟨Nat.le_refl _, Nat.le_refl _⟩
        | .inr (.inr (.inr x)), h => cases h; exact ⟨Nat.le_add_right _ 1, Nat.le_add_right _ 6⟩
      · cases hs
end SN13
