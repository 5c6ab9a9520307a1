/-! What a real heap is when it holds the small machine's cells; the small machine's steps are the real one's. -/
section SN1
variable (base : Nat) (ca : Nat → Nat) (fm : Value) (D : va_G)
def sk_A : Nat → Prop := fun q => base ≤ q
def ad (k : Nat) : Nat := if k < 35 then ca k else base + (k - 35)
def tr : Value → Value
  | .ref k => .ref (ad base ca k)
  | .retAddr n => if n = 7 then fm else .retAddr n
  | v => v
def aAt (U : State) (H : Heap) (a : Nat) (ty : FieldType) (n : Nat) (f : Nat → Value) : Prop := ∃ cell : Cell, H[a]? = some cell ∧ U.isArrayOf cell ty ∧ cell.vm ≠ .unknown ∧ cell.slots.size = n ∧ ∀ j : Nat, j < n → cell.slots[j]? = some (f j)
theorem aAt_kept {U : State} {H H1 : Heap} {a : Nat} {ty : FieldType} {n : Nat} {f f1 : Nat → Value} (h : aAt U H a ty n f) (h1 : H1[a]? = H[a]?) (hf : ∀ j, f j = f1 j) : aAt U H1 a ty n f1 := by
  obtain ⟨c, q1, q2, q3, q4, q5⟩ := h
  exact ⟨c, h1.trans q1, q2, q3, q4, fun j hj => by rw [← hf]; exact q5 j hj⟩
theorem aAt_moved {u U : State} {H : Heap} {a : Nat} {ty : FieldType} {n : Nat} {f : Nat → Value} (hvm : u.vm.Alike U.vm) (h : aAt u H a ty n f) : aAt U H a ty n f := by
  obtain ⟨c, q1, q2, q3⟩ := h
  exact ⟨c, q1, State.isArrayOf_alike hvm q2, q3⟩
def cKn (k : Nat) : String := if k = 20 then "StuckKeys$Command" else "java/lang/String"
def Cl (U : State) (H : Heap) (I : MI) (J : MJ) (R : MR) (S : Sh) (x : Nat) : Prop :=
  (S.1 x < 9 → 35 ≤ x ∧ ∃ r : vw_C, sk_ow[S.1 x]? = some r ∧ t_OB (ad base ca x) (D.1 (S.1 x)) r.2.2 (D.2 (S.1 x)) H (fun k => tr base ca fm (getF (sk_ty (S.1 x) k) x k I J R))) ∧
  ((S.1 x = 20 ∨ S.1 x = 21) → x < 35 ∧ va_O (cKn (S.1 x)) (ad base ca x) (sk_A base) U H ∧ ∀ (k : Nat) (q : String × String × String), sk_cf (S.1 x) k = some q → va_OF q.1 q.2.1 q.2.2 (tr base ca fm (getF (sk_cty (S.1 x) k) x k I J R)) (ad base ca x) (sk_A base) U H) ∧
  (S.1 x = 30 → 35 ≤ x ∧ aAt U H (ad base ca x) .int (S.2.1 x) (fun j => .int (I x j))) ∧
  (S.1 x = 31 → 35 ≤ x ∧ aAt U H (ad base ca x) .long (S.2.1 x) (fun j => .long (J x j))) ∧
  (S.1 x = 33 → 35 ≤ x ∧ ∃ cA : ClassId, H[ad base ca x]? = some (arrV cA (S.2.1 x) (fun j => tr base ca fm (R x j))) ∧ ArrOfT U cA (.object "StuckKeys$Book") ∧ va_RA U cA (.object "StuckKeys$Book")) ∧
  (S.1 x = 40 → x < 35 ∧ aAt U H (ad base ca x) .int (S.2.1 x) (fun j => .int (I x j))) ∧
  (S.1 x = 42 → x < 35 ∧ aAt U H (ad base ca x) .byte (S.2.1 x) (fun j => .int (I x j))) ∧
  (S.1 x = 43 → x < 35 ∧ aAt U H (ad base ca x) (.object "StuckKeys$Command") (S.2.1 x) (fun j => tr base ca fm (R x j)))
/-- the constants that a heap keeps -/
def Kh (U : State) (H : Heap) : Prop :=
  (∀ (j : Nat) (q : String × String × String), sk_sfL[j]? = some q → va_Z q.1 q.2.1 q.2.2 (tr base ca fm (stv j)) (sk_A base) U H) ∧
  vx_Zq Bundle.tN "UNASSIGNED_STACK" Bundle.steD (sk_A base) U H ∧ vx_Zq Bundle.tN "SUPPRESSED_SENTINEL" Bundle.listD (sk_A base) U H ∧
  va_Nc "java/lang/IllegalStateException" "java/lang/IllegalArgumentException" U ∧ va_Nc "java/lang/IllegalArgumentException" "java/lang/IllegalStateException" U ∧ va_AO "StuckKeys$Book" U
def sk_TF : List Cond := lw_tbl.filter (fun w => w.faceAtom && w.onTables)
/-- what the machine's tables keep -/
def sk_stL : List (String × Nat × String × Nat) := [("StuckKeys$Keyboard", 21, "qwertyuiop", 12), ("StuckKeys$Keyboard", 27, "asdfghjkl", 13), ("StuckKeys$Keyboard", 29, "zxcvbnm", 14)]
def Kv (U : State) : Prop := (∀ w ∈ sk_nwL, va_Nw w U) ∧ (∀ q ∈ sk_stL, vk_R q.1 q.2.1 q.2.2.1 (ca q.2.2.2) U) ∧
  (∃ sa : Nat, vk_R "StuckKeys" 292 "no word" sa U) ∧ (∃ sa : Nat, vk_R "StuckKeys" 297 "out of range" sa U) ∧ (∃ sa : Nat, vk_R "StuckKeys" 301 "not possible now" sa U) ∧ (∀ w ∈ sk_TF, va_Nw w U)
def Hd (U : State) (H : Heap) (I : MI) (J : MJ) (R : MR) (S : Sh) : Prop :=
  va_K D sk_ow [] U ∧ 35 ≤ S.2.2.1 ∧ (S.2.2.2.1 = 0 → H.size = base + (S.2.2.1 - 35)) ∧ base + (S.2.2.1 - 35) ≤ H.size ∧ (∀ x, S.2.2.1 ≤ x → 100 ≤ S.1 x) ∧ (∀ k, k < 35 → ca k < base) ∧
  (∀ x, Cl base ca fm D U H I J R S x) ∧ Kh base ca fm U H
theorem Cl_moved {u U : State} {H : Heap} {I : MI} {J : MJ} {R : MR} {S : Sh} {x : Nat} (hvm : u.vm.Alike U.vm) (h : Cl base ca fm D u H I J R S x) : Cl base ca fm D U H I J R S x := by
  obtain ⟨h1, h2, h3, h4, h5, h6, h7, h8⟩ := h
  refine ⟨h1, fun e => ?_, fun e => ⟨(h3 e).1, aAt_moved hvm (h3 e).2⟩, fun e => ⟨(h4 e).1, aAt_moved hvm (h4 e).2⟩, fun e => ?_, fun e => ⟨(h6 e).1, aAt_moved hvm (h6 e).2⟩, fun e => ⟨(h7 e).1, aAt_moved hvm (h7 e).2⟩, fun e => ⟨(h8 e).1, aAt_moved hvm (h8 e).2⟩⟩
  · obtain ⟨a, b, c⟩ := h2 e
    exact ⟨a, va_O.moved hvm b, fun k q hq => va_OF.moved hvm (c k q hq)⟩
  · obtain ⟨a, cA, b, c, d⟩ := h5 e
    exact ⟨a, cA, b, arrOfT_moved hvm c, d.moved hvm⟩
theorem Kh_moved {u U : State} {H : Heap} (hvm : u.vm.Alike U.vm) (h : Kh base ca fm u H) : Kh base ca fm U H := by
  obtain ⟨h1, h2, h3, h4, h5, h6⟩ := h
  exact ⟨fun j q hq => va_Z.moved hvm (h1 j q hq), vx_Zq.moved hvm h2, vx_Zq.moved hvm h3, va_Nc.moved hvm h4, va_Nc.moved hvm h5, va_AO.moved hvm h6⟩
theorem Hd_moved {u U : State} {H : Heap} {I : MI} {J : MJ} {R : MR} {S : Sh} (hvm : u.vm.Alike U.vm) (h : Hd base ca fm D u H I J R S) : Hd base ca fm D U H I J R S := by
  obtain ⟨h1, h2, h3, h4, h5, h6, h7, h8⟩ := h
  exact ⟨va_K.moved hvm h1, h2, h3, h4, h5, h6, fun x => Cl_moved base ca fm D hvm (h7 x), Kh_moved base ca fm hvm h8⟩
theorem Kv_warm {s U : State} (hW : s.WarmedH U.vm) (h : Kv ca s) : Kv ca U := by
  obtain ⟨h1, h2, ⟨a1, h3⟩, ⟨a2, h4⟩, ⟨a3, h5⟩, h6⟩ := h
  refine ⟨fun w hw => ?_, fun q hq => vk_R.warm hW (h2 q hq), ⟨a1, vk_R.warm hW h3⟩, ⟨a2, vk_R.warm hW h4⟩, ⟨a3, vk_R.warm hW h5⟩, fun w hw => ?_⟩
  rotate_left
  · obtain ⟨-, hf⟩ := List.mem_filter.mp hw
    have hf : (w.faceAtom && w.onTables) = true := hf
    rw [Bool.and_eq_true] at hf
    exact va_tabs hf.2 (rfl : (s.setVm U.vm).vm = U.vm) (Cond.faceAtom_setVm hW.alike _ hf.1 (h6 w hw))
  have hz := h1 w hw
  simp only [sk_nwL, List.mem_cons, List.not_mem_nil, or_false] at hw
  rcases hw with rfl | rfl | rfl | rfl | rfl | rfl | rfl | rfl | rfl <;> first | exact va_Nw.warmF hW hz | exact va_Nw.warmM hW hz
theorem ad_lo {base : Nat} {ca : Nat → Nat} {k : Nat} (h : k < 35) : ad base ca k = ca k := if_pos h
theorem ad_hi {base : Nat} {ca : Nat → Nat} {k : Nat} (h : 35 ≤ k) : ad base ca k = base + (k - 35) := if_neg (by omega)
theorem Kh_kept {U : State} {H H1 : Heap} (h : Kh base ca fm U H) (hq : ∀ a : Nat, a < H.size → ¬ sk_A base a → H1[a]? = H[a]?) : Kh base ca fm U H1 := by
  obtain ⟨h1, h2, h3, h4, h5, h6⟩ := h
  exact ⟨fun j q hj => (h1 j q hj).kept hq, h2.kept hq, h3.kept hq, h4, h5, h6⟩
/-- a cell stays that is not written -/
theorem Cl_kept {U : State} {H H1 : Heap} {I I1 : MI} {J J1 : MJ} {R R1 : MR} {S S1 : Sh} {x : Nat} (h : Cl base ca fm D U H I J R S x) (hk : S1.1 x = S.1 x) (hn : S1.2.1 x = S.2.1 x) (hq : H1[ad base ca x]? = H[ad base ca x]?)
    (hc : ∀ a : Nat, a < H.size → ¬ sk_A base a → H1[a]? = H[a]?) (hI : ∀ k, I1 x k = I x k) (hJ : ∀ k, J1 x k = J x k) (hR : ∀ k, R1 x k = R x k) : Cl base ca fm D U H1 I1 J1 R1 S1 x := by
  have hF : ∀ t k, getF t x k I1 J1 R1 = getF t x k I J R := by
    intro t k
    unfold getF
    rw [hI, hJ, hR]
  obtain ⟨h1, h2, h3, h4, h5, h6, h7, h8⟩ := h
  unfold Cl
  rw [hk, hn]
  refine ⟨fun e => ?_, fun e => ?_, fun e => ⟨(h3 e).1, aAt_kept (h3 e).2 hq fun j => by rw [hI]⟩, fun e => ⟨(h4 e).1, aAt_kept (h4 e).2 hq fun j => by rw [hJ]⟩, fun e => ?_, fun e => ⟨(h6 e).1, aAt_kept (h6 e).2 hq fun j => by rw [hI]⟩, fun e => ⟨(h7 e).1, aAt_kept (h7 e).2 hq fun j => by rw [hI]⟩, fun e => ⟨(h8 e).1, aAt_kept (h8 e).2 hq fun j => by rw [hR]⟩⟩
  · obtain ⟨a, r, b, c⟩ := h1 e
    refine ⟨a, r, b, (c.kept hq).to fun k _ => ?_⟩
    rw [hF]
  · obtain ⟨a, b, c⟩ := h2 e
    refine ⟨a, b.kept hc, fun k q hk => ?_⟩
    rw [hF]
    exact (c k q hk).kept hc
  · obtain ⟨a, cA, b, c, d⟩ := h5 e
    refine ⟨a, cA, hq.trans (b.trans ?_), c, d⟩
    congr 2
    funext j
    rw [hR]
/-- one cell is written -/
theorem Hd_upd {U : State} {H H1 : Heap} {I I1 : MI} {J J1 : MJ} {R R1 : MR} {S : Sh} (h : Hd base ca fm D U H I J R S) {a : Nat} (ha : 35 ≤ a) (hz : H1.size = H.size) (oq : ∀ q, q ≠ ad base ca a → H1[q]? = H[q]?)
    (hI : ∀ b k, b ≠ a → I1 b k = I b k) (hJ : ∀ b k, b ≠ a → J1 b k = J b k) (hR : ∀ b k, b ≠ a → R1 b k = R b k) (hc : Cl base ca fm D U H1 I1 J1 R1 S a) : Hd base ca fm D U H1 I1 J1 R1 S := by
  obtain ⟨h1, h2, h3, h4, h5, h6, h7, h8⟩ := h
  have hA : ∀ q : Nat, q < H.size → ¬ sk_A base q → H1[q]? = H[q]? := fun q _ hq => oq q (fun e => hq (by rw [e, ad_hi ha]; exact Nat.le_add_right _ _))
  refine ⟨h1, h2, fun e => by rw [hz]; exact h3 e, by rw [hz]; exact h4, h5, h6, fun x => ?_, Kh_kept base ca fm h8 hA⟩
  by_cases hx : x = a
  · subst hx; exact hc
  · refine Cl_kept base ca fm D (h7 x) rfl rfl (oq _ ?_) hA (fun k => hI x k hx) (fun k => hJ x k hx) (fun k => hR x k hx)
    rw [ad_hi ha]
    by_cases h9 : x < 35
    · rw [ad_lo h9]
      have := h6 x h9
      omega
    · rw [ad_hi (by omega)]
      omega
/-- one cell is made -/
theorem Hd_new {U : State} {H H1 : Heap} {I I1 : MI} {J J1 : MJ} {R R1 : MR} {S : Sh} (h : Hd base ca fm D U H I J R S) (h0 : S.2.2.2.1 = 0) {k n w : Nat} (hz : H1.size = H.size + 1) (oq : ∀ q, q < H.size → H1[q]? = H[q]?)
    (hI : ∀ b k, b ≠ S.2.2.1 → I1 b k = I b k) (hJ : ∀ b k, b ≠ S.2.2.1 → J1 b k = J b k) (hR : ∀ b k, b ≠ S.2.2.1 → R1 b k = R b k) (hc : Cl base ca fm D U H1 I1 J1 R1 (sh_new S k n w) S.2.2.1) : Hd base ca fm D U H1 I1 J1 R1 (sh_new S k n w) := by
  obtain ⟨h1, h2, h3, h4, h5, h6, h7, h8⟩ := h
  have hs := h3 h0
  have hA : ∀ q : Nat, q < H.size → ¬ sk_A base q → H1[q]? = H[q]? := fun q hq _ => oq q hq
  refine ⟨h1, ?_, fun _ => ?_, ?_, fun x hx => ?_, h6, fun x => ?_, Kh_kept base ca fm h8 hA⟩
  · show 35 ≤ S.2.2.1 + 1
    omega
  · show H1.size = base + (S.2.2.1 + 1 - 35)
    omega
  · show base + (S.2.2.1 + 1 - 35) ≤ H1.size
    omega
  · have hx' : S.2.2.1 + 1 ≤ x := hx
    show 100 ≤ u0 S.1 S.2.2.1 k x
    unfold u0
    rw [if_neg (by omega)]
    exact h5 x (by omega)
  · by_cases hx : x = S.2.2.1
    · subst hx; exact hc
    · have e1 : (sh_new S k n w).1 x = S.1 x := by show u0 _ _ _ _ = _; unfold u0; rw [if_neg hx]
      have e2 : (sh_new S k n w).2.1 x = S.2.1 x := by show u0 _ _ _ _ = _; unfold u0; rw [if_neg hx]
      by_cases h9 : S.2.2.1 ≤ x
      · have := h5 x h9
        unfold Cl
        rw [e1]
        refine ⟨fun e => by omega, fun e => by omega, fun e => by omega, fun e => by omega, fun e => by omega, fun e => by omega, fun e => by omega, fun e => by omega⟩
      · refine Cl_kept base ca fm D (h7 x) e1 e2 (oq _ ?_) hA (fun k => hI x k hx) (fun k => hJ x k hx) (fun k => hR x k hx)
        by_cases h8 : x < 35
        · rw [ad_lo h8]
          have := h6 x h8
          omega
        · rw [ad_hi (by omega)]
          omega
end SN1
