/-- only the script object itself has changed -/
def scI (sc : Nat) (I I' : MI) : Prop := (∀ q, ¬ q = sc → I' q = I q) ∧ I' sc 1 = I sc 1
/-- an argument read if there is one -/
def gP (b : Bool) (q p : Nat) : Nat := if b = true then q else p
def gF (b : Bool) (g f : Int32) : Int32 := if b = true then g else f
section CH
variable {I I' I2 : MI} {J : MJ} {R : MR} {S : Sh} {Q : SkQ} {sc n p c : Nat} {x : Nat → Int32} {f : Int32}
theorem scI_rfl : scI sc I I := ⟨fun _ _ => by simp, by simp⟩
theorem scI_trans (h1 : scI sc I I') (h2 : scI sc I' I2) : scI sc I I2 := ⟨fun q hq => (h2.1 q hq).trans (h1.1 q hq), h2.2.trans h1.2⟩
theorem scI_u {k : Nat} {v : Int32} (h : scI sc I I') (hk : ¬ k = 1) : scI sc I (u2 I' sc k v) := ⟨fun q hq => by rw [u2_p hq]; exact h.1 q hq, by rw [u2_k (by omega)]; exact h.2⟩
theorem scI_PF (h : scI sc I I') : scI sc I (scPF I' sc p f) := scI_u (scI_u h (by omega)) (by omega)
theorem ScD_I (hD : ScD I sc x n) (h : scI sc I I') : ScD I' sc x n := ⟨by rw [h.2]; exact hD.1, hD.2.1, fun i hi => by rw [h.1 (sc + 1) (by omega)]; exact hD.2.2 i hi⟩
theorem CmS_I (hs : 34 < sc) (hC : CmS R S I) (h : scI sc I I') : CmS R S I' := by
  obtain ⟨h1, h2, h3⟩ := hC
  refine ⟨h1, h2, fun i hi => ?_⟩
  obtain ⟨c1, c2, c3, c4, c5, c6, s0, s1, n1, hl, r0, i0, hc⟩ := h3 i hi
  refine ⟨c1, c2, c3, by rw [h.1 _ (by omega)]; exact c4, by rw [h.1 _ (by omega)]; exact c5, by rw [h.1 _ (by omega)]; exact c6, s0, s1, n1, hl, r0, by rw [h.1 _ (by omega)]; exact i0, fun j hj => ?_⟩
  rw [h.1 _ (by omega)]
  exact hc j hj
theorem rc5 (hS : ScS R S sc) (hp : p ≤ 155) (hD : ScD I sc x n) (h2 : I sc 2 = nI p) (h3 : I sc 3 = f) : Wp 155 128 [.ref sc] [] I J R S Q = Q 0 (some (.int (bI (decide (semF x n f p = -1))))) (scPF I sc (skp x n 150 p + 1) (semF x n f p)) J R S := by
  have g := fun Q' => c_C_readSemicolon (Q := Q') (J := J) hS hp hD h2 h3
  have e3 : scPF I sc (skp x n 150 p + 1) (semF x n f p) sc 3 = semF x n f p := PF_3
  generalize semF x n f p = y at g e3 ⊢
  by_cases q : y = -1
  · rw [decide_eq_true q]
    subst q
    simp only [x_C_readCommand_128, x_C_readCommand_129, x_C_readCommand_132, x_C_readCommand_133, x_C_readCommand_136, x_C_readCommand_137, x_C_readCommand_140, x_C_readCommand_141, x_C_readCommand_145, hS.1, g, e3, bI_0, bI_t, bI_f, e10, isA30, isA31, isA33, isA40, isA42, isA43, rOkB0, rOkB1, rOkB, Ret_v, Ret_n, cmp_eq, cmp_lt, cmp_gt, nI_1, eq_self, if_true, if_false, reduceIte]
  · rw [decide_eq_false q]
    simp only [x_C_readCommand_128, x_C_readCommand_129, x_C_readCommand_132, x_C_readCommand_133, x_C_readCommand_136, x_C_readCommand_137, x_C_readCommand_144, x_C_readCommand_145, hS.1, g, e3, q, bI_0, bI_t, bI_f, e10, isA30, isA31, isA33, isA40, isA42, isA43, rOkB0, rOkB1, rOkB, Ret_v, Ret_n, cmp_eq, cmp_lt, cmp_gt, nI_1, eq_self, if_true, if_false, reduceIte]
theorem rc4 (hS : ScS R S sc) (hs : 34 < sc) (hp : p ≤ 155) (hD : ScD I sc x n) (hC : CmS R S I) (hc : c < 8) (hr : R sc 4 = .ref (4 + c)) (h2 : I sc 2 = nI p) (h3 : I sc 3 = f) (hQ : ∀ I', scI sc I I' → I' sc 7 = I sc 7 → I' sc 8 = gF (decide (1 < cmN c)) (nV x n p) (-1) → I' sc 2 = nI (skp x n 150 (gP (decide (1 < cmN c)) (nP x n p) p) + 1) → I' sc 3 = semF x n (gF (decide (1 < cmN c)) (nF x n f p) f) (gP (decide (1 < cmN c)) (nP x n p) p) → Q 0 (some (.int (bI (decide (semF x n (gF (decide (1 < cmN c)) (nF x n f p) f) (gP (decide (1 < cmN c)) (nP x n p) p) = -1))))) I' J R S) : Wp 155 105 [.ref sc] [] I J R S Q := by
  obtain ⟨c1, c2, c3, c4, c5, c6, c7⟩ := hC.2.2 c hc
  have dn := hD.2.1
  have hsk := skp_le (x := x) (n := n) 150 p
  have hnp := nuP_le (x := x) (n := n) 3 (skp x n 150 p)
  have cl : ∀ c, c < 8 → cmN c < 100 := by decide
  have e1 := nI_gt1 (i := cmN c) (by have := cl c hc; omega)
  by_cases q : 1 < cmN c
  · rw [decide_eq_true q] at hQ
    have rn := fun Q' => c_C_readNumber (Q := Q') (J := J) hS hp hD h2 h3
    have t := fun Q' => rc5 (Q := Q') (J := J) (p := nP x n p) (f := nF x n f p) (I := u2 (scPF I sc (nP x n p) (nF x n f p)) sc 8 (nV x n p)) hS (by unfold nP; omega) (ScD_2 (ScD_PF hD) (by omega)) (by rw [u2_k (by omega)]; exact PF_2) (by rw [u2_k (by omega)]; exact PF_3)
    simp only [x_C_readCommand_0, x_C_readCommand_1, x_C_readCommand_4, x_C_readCommand_5, x_C_readCommand_8, x_C_readCommand_9, x_C_readCommand_12, x_C_readCommand_15, x_C_readCommand_16, x_C_readCommand_17, x_C_readCommand_18, x_C_readCommand_19, x_C_readCommand_22, x_C_readCommand_22N, x_C_readCommand_25, x_C_readCommand_26, x_C_readCommand_29, x_C_readCommand_29N, x_C_readCommand_32, x_C_readCommand_33, x_C_readCommand_34, x_C_readCommand_35, x_C_readCommand_36, x_C_readCommand_39, x_C_readCommand_42, x_C_readCommand_45, x_C_readCommand_46, x_C_readCommand_49, x_C_readCommand_52, x_C_readCommand_55, x_C_readCommand_58, x_C_readCommand_59, x_C_readCommand_60, x_C_readCommand_63, x_C_readCommand_66, x_C_readCommand_67, x_C_readCommand_70, x_C_readCommand_71, x_C_readCommand_74, x_C_readCommand_77, x_C_readCommand_80, x_C_readCommand_83, x_C_readCommand_84, x_C_readCommand_85, x_C_readCommand_88, x_C_readCommand_91, x_C_readCommand_94, x_C_readCommand_95, x_C_readCommand_98, x_C_readCommand_101, x_C_readCommand_102, x_C_readCommand_105, x_C_readCommand_106, x_C_readCommand_107, x_C_readCommand_110, x_C_readCommand_113, x_C_readCommand_114, x_C_readCommand_117, x_C_readCommand_118, x_C_readCommand_121, x_C_readCommand_124, x_C_readCommand_125, x_C_readCommand_129, x_C_readCommand_132, x_C_readCommand_133, x_C_readCommand_136, x_C_readCommand_137, x_C_readCommand_140, x_C_readCommand_141, x_C_readCommand_144, x_C_readCommand_145, hS.1, hr, c2, c6, e1, q, rn, t, bI_0, bI_t, bI_f, e10, isA30, isA31, isA33, isA40, isA42, isA43, rOkB0, rOkB1, rOkB, Ret_v, Ret_n, cmp_eq, cmp_lt, cmp_gt, nI_1, eq_self, if_true, if_false, reduceIte]
    refine hQ _ (scI_PF (scI_u (scI_PF scI_rfl) (by omega))) ?_ ?_ PF_2 PF_3
    · unfold scPF; rw [u2_k (by omega), u2_k (by omega), u2_k (by omega), u2_k (by omega), u2_k (by omega)]
    · unfold scPF; rw [u2_k (by omega), u2_k (by omega), u2_eq]; rfl
  · rw [decide_eq_false q] at hQ
    have t := fun Q' => rc5 (Q := Q') (J := J) (p := p) (f := f) (I := u2 I sc 8 (-1)) hS hp (ScD_2 hD (by omega)) (by rw [u2_k (by omega)]; exact h2) (by rw [u2_k (by omega)]; exact h3)
    simp only [x_C_readCommand_0, x_C_readCommand_1, x_C_readCommand_4, x_C_readCommand_5, x_C_readCommand_8, x_C_readCommand_9, x_C_readCommand_12, x_C_readCommand_15, x_C_readCommand_16, x_C_readCommand_17, x_C_readCommand_18, x_C_readCommand_19, x_C_readCommand_22, x_C_readCommand_22N, x_C_readCommand_25, x_C_readCommand_26, x_C_readCommand_29, x_C_readCommand_29N, x_C_readCommand_32, x_C_readCommand_33, x_C_readCommand_34, x_C_readCommand_35, x_C_readCommand_36, x_C_readCommand_39, x_C_readCommand_42, x_C_readCommand_45, x_C_readCommand_46, x_C_readCommand_49, x_C_readCommand_52, x_C_readCommand_55, x_C_readCommand_58, x_C_readCommand_59, x_C_readCommand_60, x_C_readCommand_63, x_C_readCommand_66, x_C_readCommand_67, x_C_readCommand_70, x_C_readCommand_71, x_C_readCommand_74, x_C_readCommand_77, x_C_readCommand_80, x_C_readCommand_83, x_C_readCommand_84, x_C_readCommand_85, x_C_readCommand_88, x_C_readCommand_91, x_C_readCommand_94, x_C_readCommand_95, x_C_readCommand_98, x_C_readCommand_101, x_C_readCommand_102, x_C_readCommand_105, x_C_readCommand_106, x_C_readCommand_107, x_C_readCommand_110, x_C_readCommand_113, x_C_readCommand_114, x_C_readCommand_117, x_C_readCommand_118, x_C_readCommand_121, x_C_readCommand_124, x_C_readCommand_125, x_C_readCommand_129, x_C_readCommand_132, x_C_readCommand_133, x_C_readCommand_136, x_C_readCommand_137, x_C_readCommand_140, x_C_readCommand_141, x_C_readCommand_144, x_C_readCommand_145, hS.1, hr, c2, c6, e1, q, t, bI_0, bI_t, bI_f, e10, isA30, isA31, isA33, isA40, isA42, isA43, rOkB0, rOkB1, rOkB, Ret_v, Ret_n, cmp_eq, cmp_lt, cmp_gt, nI_1, eq_self, if_true, if_false, reduceIte]
    refine hQ _ (scI_PF (scI_u scI_rfl (by omega))) ?_ ?_ PF_2 PF_3
    · unfold scPF; rw [u2_k (by omega), u2_k (by omega), u2_k (by omega)]
    · unfold scPF; rw [u2_k (by omega), u2_k (by omega), u2_eq]; rfl
end CH
