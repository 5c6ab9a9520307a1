def entL (mx : Nat) (as : List Value) : List Value := argL as ++ List.replicate (mx - (argL as).length) nov
def hndC (e : Nat) : Nat := if e = 0 then 71 else 73
def hnd (m pc e : Nat) : Option Nat := ((sk_hh m).find? (fun h => decide (h.1 ≤ pc) && decide (pc < h.2.1) && (h.2.2.2 == hndC e))).map (·.2.2.1)
def hst (m pc : Nat) (ls : List Value) : Option (Nat × List Value) := match decode (sk_by m) pc with
  | .ok (.astore_n k, 1) => if (k : Nat) < ls.length ∧ lv_free ls k = true then some (pc + 1, st1 ls k nov) else none
  | .ok (.astore k, 2) => if k < ls.length ∧ lv_free ls k = true then some (pc + 2, st1 ls k nov) else none
  | _ => none
def sh_thr (S : Sh) : Sh := (S.1, S.2.1, S.2.2.1, S.2.2.2.1 + 1, S.2.2.2.2 + 6)
/-- a callee that may throw here -/
def tOk (cal : Nat) : Bool := (sk_hh cal).isEmpty && decide (sk_kd cal < 2)
abbrev SkO : Type := (Nat × Option Value) × MI × MJ × MR × Sh
def stp (m : Nat) : SkC → Option SkR
  | (pc, ls, st, I, J, R, S) => match decode (sk_by m) pc with
    | .ok (i, len) => exI m i len pc ls st I J R S
    | _ => none
def run : Nat → Nat → SkC → Option SkO
  | 0, _, _ => none
  | n + 1, m, (pc, ls, st, I, J, R, S) => match stp m (pc, ls, st, I, J, R, S) with
    | none => none
    | some (.inl c) => run n m c
    | some (.inr (.inl (cal, as, rest, pc'))) => match run n cal (0, entL (sk_mx cal) as, [], I, J, R, S) with
      | none => none
      | some ((0, v), I', J', R', S') => run n m (pc', ls, v.toList ++ rest, I', J', R', S')
      | some ((e + 1, _), I', J', R', S') => if tOk cal = true then (match hnd m pc e with
        | some hp => (match hst m hp ls with
          | some (pc2, ls2) => run n m (pc2, ls2, [], I', J', R', S')
          | none => none)
        | none => some ((e + 1, none), I', J', R', S')) else none
    | some (.inr (.inr (.inl v))) => some ((0, v), I, J, R, S)
    | some (.inr (.inr (.inr e))) => some ((e + 1, none), I, J, R, sh_thr S)
theorem run_mono : ∀ (n m : Nat) (c : SkC) (r : SkO), run n m c = some r → run (n + 1) m c = some r := by
  intro n
  induction n with
  | zero => intro m c r h; simp [run] at h
  | succ n ih =>
    intro m c r h
    obtain ⟨pc, ls, st, I, J, R, S⟩ := c
    rw [run] at h ⊢
    cases hs : stp m (pc, ls, st, I, J, R, S) with
    | none => rw [hs] at h; cases h
    | some x =>
      rw [hs] at h
      match x, h with
      | .inl c, h => exact ih _ _ _ h
      | .inr (.inl (cal, as, rest, pc')), h =>
        dsimp only at h ⊢
        cases hc : run n cal (0, entL (sk_mx cal) as, [], I, J, R, S) with
        | none => rw [hc] at h; cases h
        | some o =>
          rw [hc] at h
          rw [ih _ _ _ hc]
          match o, h with
          | ((0, v), I', J', R', S'), h => exact ih _ _ _ h
          | ((e + 1, v), I', J', R', S'), h =>
            dsimp only at h ⊢
            have ht : tOk cal = true := by
              cases hq : tOk cal with
              | true => rfl
              | false => rw [hq] at h; simp at h
            rw [if_pos ht] at h ⊢
            cases hh : hnd m pc e with
            | none => rw [hh] at h; exact h
            | some hp =>
              rw [hh] at h
              dsimp only at h ⊢
              cases h2 : hst m hp ls with
              | none => rw [h2] at h; cases h
              | some y => obtain ⟨pc2, ls2⟩ := y; rw [h2] at h; exact ih _ _ _ h
      | .inr (.inr (.inl v)), h => exact h
      | .inr (.inr (.inr e)), h => exact h
theorem run_le {n k m : Nat} {c : SkC} {r : SkO} (h : run n m c = some r) (hk : n ≤ k) : run k m c = some r := by
  induction hk with
  | refl => exact h
  | step _ ih => exact run_mono _ _ _ _ ih
abbrev SkQ : Type := Nat → Option Value → MI → MJ → MR → Sh → Prop
def Wp (m pc : Nat) (ls st : List Value) (I : MI) (J : MJ) (R : MR) (S : Sh) (Q : SkQ) : Prop :=
  ∃ (n : Nat) (r : SkO), run n m (pc, ls, st, I, J, R, S) = some r ∧ Q r.1.1 r.1.2 r.2.1 r.2.2.1 r.2.2.2.1 r.2.2.2.2
section SKW
variable {m pc len : Nat} {i : Instr} {ls st : List Value} {I : MI} {J : MJ} {R : MR} {S : Sh} {Q : SkQ}
/-- behind a call: what was answered goes on in the caller, what was thrown is caught or goes out -/
def Ret (m pc pc' cal : Nat) (ls rest : List Value) (Q : SkQ) : SkQ := fun x v I J R S => match x with
  | 0 => Wp m pc' ls (v.toList ++ rest) I J R S Q
  | e + 1 => tOk cal = true ∧ match hnd m pc e with
    | some hp => (match hst m hp ls with
      | some (pc2, ls2) => Wp m pc2 ls2 [] I J R S Q
      | none => False)
    | none => Q (e + 1) none I J R S
theorem stp_of (h : decode (sk_by m) pc = .ok (i, len)) : stp m (pc, ls, st, I, J, R, S) = exI m i len pc ls st I J R S := by
  simp only [stp, h]
theorem Wp_mono {Q' : SkQ} (h : Wp m pc ls st I J R S Q) (hq : ∀ x v I J R S, Q x v I J R S → Q' x v I J R S) : Wp m pc ls st I J R S Q' := by
  obtain ⟨n, r, h1, h2⟩ := h
  exact ⟨n, r, h1, hq _ _ _ _ _ _ h2⟩
theorem Wp_next (h : decode (sk_by m) pc = .ok (i, len)) {pc' : Nat} {ls' st' : List Value} {I' : MI} {J' : MJ} {R' : MR} {S' : Sh}
    (hx : exI m i len pc ls st I J R S = some (.inl (pc', ls', st', I', J', R', S'))) : Wp m pc ls st I J R S Q = Wp m pc' ls' st' I' J' R' S' Q := by
  apply propext
  constructor
  · rintro ⟨n, r, h1, h2⟩
    cases n with
    | zero => simp [run] at h1
    | succ n =>
      rw [run, stp_of h, hx] at h1
      exact ⟨n, r, h1, h2⟩
  · rintro ⟨n, r, h1, h2⟩
    refine ⟨n + 1, r, ?_, h2⟩
    rw [run, stp_of h, hx]
    exact h1
theorem Wp_call (h : decode (sk_by m) pc = .ok (i, len)) {cal pc' : Nat} {as rest : List Value}
    (hx : exI m i len pc ls st I J R S = some (.inr (.inl (cal, as, rest, pc')))) : Wp m pc ls st I J R S Q = Wp cal 0 (entL (sk_mx cal) as) [] I J R S (Ret m pc pc' cal ls rest Q) := by
  apply propext
  constructor
  · rintro ⟨n, r, h1, h2⟩
    cases n with
    | zero => simp [run] at h1
    | succ n =>
      rw [run, stp_of h, hx] at h1
      dsimp only at h1
      cases hc : run n cal (0, entL (sk_mx cal) as, [], I, J, R, S) with
      | none => rw [hc] at h1; cases h1
      | some o =>
        rw [hc] at h1
        refine ⟨n, o, hc, ?_⟩
        match o, h1 with
        | ((0, v), I', J', R', S'), h1 => exact ⟨n, r, h1, h2⟩
        | ((e + 1, v), I', J', R', S'), h1 =>
          dsimp only [Ret] at h1 ⊢
          have ht : tOk cal = true := by
            cases hq : tOk cal with
            | true => rfl
            | false => rw [hq] at h1; simp at h1
          rw [if_pos ht] at h1
          refine ⟨ht, ?_⟩
          cases hh : hnd m pc e with
          | none => rw [hh] at h1; cases h1; exact h2
          | some hp =>
            rw [hh] at h1
            dsimp only at h1 ⊢
            cases h9 : hst m hp ls with
            | none => rw [h9] at h1; cases h1
            | some y => obtain ⟨pc2, ls2⟩ := y; rw [h9] at h1; exact ⟨n, r, h1, h2⟩
  · rintro ⟨n, o, h1, h2⟩
    match o, h1, h2 with
    | ((0, v), I', J', R', S'), h1, h2 =>
      obtain ⟨k, r, h3, h4⟩ := h2
      refine ⟨max n k + 1, r, ?_, h4⟩
      rw [run, stp_of h, hx]
      dsimp only
      rw [run_le h1 (Nat.le_max_left n k)]
      exact run_le h3 (Nat.le_max_right n k)
    | ((e + 1, v), I', J', R', S'), h1, h2 =>
      dsimp only [Ret] at h2
      obtain ⟨ht, h2⟩ := h2
      cases hh : hnd m pc e with
      | none =>
        rw [hh] at h2
        refine ⟨n + 1, ((e + 1, none), I', J', R', S'), ?_, h2⟩
        rw [run, stp_of h, hx]
        dsimp only
        rw [h1]
        dsimp only
        rw [if_pos ht, hh]
      | some hp =>
        rw [hh] at h2
        dsimp only at h2
        cases h9 : hst m hp ls with
        | none => rw [h9] at h2; exact h2.elim
        | some y =>
          obtain ⟨pc2, ls2⟩ := y
          rw [h9] at h2
          obtain ⟨k, r, h3, h4⟩ := h2
          refine ⟨max n k + 1, r, ?_, h4⟩
          rw [run, stp_of h, hx]
          dsimp only
          rw [run_le h1 (Nat.le_max_left n k)]
          dsimp only
          rw [if_pos ht, hh]
          dsimp only
          rw [h9]
          exact run_le h3 (Nat.le_max_right n k)
theorem Wp_ret (h : decode (sk_by m) pc = .ok (i, len)) {v : Option Value} (hx : exI m i len pc ls st I J R S = some (.inr (.inr (.inl v)))) : Wp m pc ls st I J R S Q = Q 0 v I J R S := by
  apply propext
  constructor
  · rintro ⟨n, r, h1, h2⟩
    cases n with
    | zero => simp [run] at h1
    | succ n =>
      rw [run, stp_of h, hx] at h1
      cases h1
      exact h2
  · intro hq
    refine ⟨1, ((0, v), I, J, R, S), ?_, hq⟩
    rw [run, stp_of h, hx]
theorem Wp_thr (h : decode (sk_by m) pc = .ok (i, len)) {e : Nat} (hx : exI m i len pc ls st I J R S = some (.inr (.inr (.inr e)))) : Wp m pc ls st I J R S Q = Q (e + 1) none I J R (sh_thr S) := by
  apply propext
  constructor
  · rintro ⟨n, r, h1, h2⟩
    cases n with
    | zero => simp [run] at h1
    | succ n =>
      rw [run, stp_of h, hx] at h1
      cases h1
      exact h2
  · intro hq
    refine ⟨1, ((e + 1, none), I, J, R, sh_thr S), ?_, hq⟩
    rw [run, stp_of h, hx]
theorem Wp_if (h : decode (sk_by m) pc = .ok (i, len)) {c : Bool} {pc' pc2 : Nat} {st' : List Value}
    (hx : exI m i len pc ls st I J R S = if c = true then nxt pc' ls st' I J R S else nxt pc2 ls st' I J R S) : Wp m pc ls st I J R S Q = if c = true then Wp m pc' ls st' I J R S Q else Wp m pc2 ls st' I J R S Q := by
  by_cases hc : c = true
  · rw [if_pos hc] at hx ⊢
    exact Wp_next h hx
  · rw [if_neg hc] at hx ⊢
    exact Wp_next h hx
end SKW
