section CG
variable {I : MI} {J : MJ} {R : MR} {S : Sh} {Q : SkQ} {sc n p q s b len : Nat} {x : Nat → Int32} {f : Int32} {c : Nat → Nat}
theorem StS_u {a k : Nat} {v : Int32} (h : StS R S I s b len c) (h1 : ¬ s = a) (h2 : ¬ b = a) : StS R S (u2 I a k v) s b len c := by
  obtain ⟨s0, s1, n1, hl, r0, i0, hc⟩ := h
  exact ⟨s0, s1, n1, hl, r0, by rw [u2_p h1]; exact i0, fun i hi => by rw [u2_p h2]; exact hc i hi⟩
theorem CmS_u {a k : Nat} {v : Int32} (ha : 34 < a) (h : CmS R S I) : CmS R S (u2 I a k v) := by
  obtain ⟨h1, h2, h3⟩ := h
  refine ⟨h1, h2, fun i hi => ?_⟩
  obtain ⟨c1, c2, c3, c4, c5, c6, c7⟩ := h3 i hi
  exact ⟨c1, c2, c3, by rw [u2_p (by omega)]; exact c4, by rw [u2_p (by omega)]; exact c5, by rw [u2_p (by omega)]; exact c6, StS_u c7 (by omega) (by omega)⟩
theorem CmS_PF (hs : 34 < sc) (h : CmS R S I) : CmS R S (scPF I sc p f) := CmS_u hs (CmS_u hs h)
theorem l_C_letters (hS : ScS R S sc) (hs : 34 < sc) (hp0 : p ≤ 155) : ∀ (k i q : Nat) (I : MI), i + k = 150 → q ≤ 155 + i → p ≤ q → ScD I sc x n → CmS R S I → I sc 2 = nI q → I sc 3 = f → Wp 156 7 [.ref sc, .int (nI p), .int (nI i)] [] I J R S Q = Q 0 (some (cmV (cmd x n p (rdP x n k q) 0 8))) (scPF I sc (rdP x n k q) (cmF (cmd x n p (rdP x n k q) 0 8) f p)) J R S := by
  intro k
  induction k with
  | zero =>
    intro i q I hi hq hpq hD hC h2 h3
    have e : ¬ nI i < 150 := by rw [show (150 : Int32) = nI 150 by decide]; exact nI_nlt (by omega) (by omega)
    have l := l_C_cmd (Q := Q) (J := J) (f := f) hS hD hC hpq (by omega) h2 h3 8 0 (by omega)
    rw [nI_0] at l
    rw [x_C_readCommandWord_7]
    simp only [x_C_readCommandWord_8, x_C_readCommandWord_11, x_C_readCommandWord_37, x_C_readCommandWord_38, e, rdP, l, bI_0, bI_t, bI_f, e10, isA30, isA31, isA33, isA40, isA42, isA43, rOkB0, rOkB1, rOkB, Ret_v, Ret_n, cmp_eq, cmp_lt, cmp_gt, nI_1, eq_self, if_true, if_false, reduceIte]
  | succ k ih =>
    intro i q I hi hq hpq hD hC h2 h3
    have e : nI i < 150 := by rw [show (150 : Int32) = nI 150 by decide]; exact nI_lt (by omega) (by omega)
    have il := fun Q' => c_C_isLetterNext (Q := Q') (J := J) hS hD (show q < 2 ^ 31 by omega) h2
    simp only [rdP]
    rw [x_C_readCommandWord_7]
    cases h : isLt x n q with
    | true =>
      rw [h] at il
      have l := ih (i + 1) (q + 1) (scPF I sc (q + 1) f) (by omega) (by omega) (by omega) (ScD_PF hD) (CmS_PF hs hC) PF_2 PF_3
      rw [PF_PF] at l
      rw [if_pos (by simp)]
      simp only [x_C_readCommandWord_0, x_C_readCommandWord_1, x_C_readCommandWord_4, x_C_readCommandWord_5, x_C_readCommandWord_6, x_C_readCommandWord_8, x_C_readCommandWord_11, x_C_readCommandWord_14, x_C_readCommandWord_15, x_C_readCommandWord_18, x_C_readCommandWord_21, x_C_readCommandWord_22, x_C_readCommandWord_23, x_C_readCommandWord_26, x_C_readCommandWord_27, x_C_readCommandWord_28, x_C_readCommandWord_31, x_C_readCommandWord_34, x_C_readCommandWord_37, x_C_readCommandWord_38, x_C_readCommandWord_40, x_C_readCommandWord_43, x_C_readCommandWord_44, x_C_readCommandWord_47, x_C_readCommandWord_48, x_C_readCommandWord_51, x_C_readCommandWord_52, x_C_readCommandWord_53, x_C_readCommandWord_56, x_C_readCommandWord_57, x_C_readCommandWord_58, x_C_readCommandWord_61, x_C_readCommandWord_64, x_C_readCommandWord_67, x_C_readCommandWord_70, x_C_readCommandWord_71, x_C_readCommandWord_72, x_C_readCommandWord_72N, x_C_readCommandWord_73, x_C_readCommandWord_76, x_C_readCommandWord_79, x_C_readCommandWord_80, x_C_readCommandWord_81, x_C_readCommandWord_84, x_C_readCommandWord_85, x_C_readCommandWord_85N, hS.1, e, il, h2, nI_1', PF_of2 h3, l, bI_0, bI_t, bI_f, e10, isA30, isA31, isA33, isA40, isA42, isA43, rOkB0, rOkB1, rOkB, Ret_v, Ret_n, cmp_eq, cmp_lt, cmp_gt, nI_1, eq_self, if_true, if_false, reduceIte]
    | false =>
      rw [h] at il
      have l := l_C_cmd (Q := Q) (J := J) (f := f) hS hD hC hpq (by omega) h2 h3 8 0 (by omega)
      rw [nI_0] at l
      rw [if_neg (by simp)]
      simp only [x_C_readCommandWord_0, x_C_readCommandWord_1, x_C_readCommandWord_4, x_C_readCommandWord_5, x_C_readCommandWord_6, x_C_readCommandWord_8, x_C_readCommandWord_11, x_C_readCommandWord_14, x_C_readCommandWord_15, x_C_readCommandWord_18, x_C_readCommandWord_21, x_C_readCommandWord_22, x_C_readCommandWord_23, x_C_readCommandWord_26, x_C_readCommandWord_27, x_C_readCommandWord_28, x_C_readCommandWord_31, x_C_readCommandWord_34, x_C_readCommandWord_37, x_C_readCommandWord_38, x_C_readCommandWord_40, x_C_readCommandWord_43, x_C_readCommandWord_44, x_C_readCommandWord_47, x_C_readCommandWord_48, x_C_readCommandWord_51, x_C_readCommandWord_52, x_C_readCommandWord_53, x_C_readCommandWord_56, x_C_readCommandWord_57, x_C_readCommandWord_58, x_C_readCommandWord_61, x_C_readCommandWord_64, x_C_readCommandWord_67, x_C_readCommandWord_70, x_C_readCommandWord_71, x_C_readCommandWord_72, x_C_readCommandWord_72N, x_C_readCommandWord_73, x_C_readCommandWord_76, x_C_readCommandWord_79, x_C_readCommandWord_80, x_C_readCommandWord_81, x_C_readCommandWord_84, x_C_readCommandWord_85, x_C_readCommandWord_85N, hS.1, e, il, l, bI_0, bI_t, bI_f, e10, isA30, isA31, isA33, isA40, isA42, isA43, rOkB0, rOkB1, rOkB, Ret_v, Ret_n, cmp_eq, cmp_lt, cmp_gt, nI_1, eq_self, if_true, if_false, reduceIte]
/-- the command that is read from p on (8 if none), and the letters' end -/
def cwP (x : Nat → Int32) (n p : Nat) : Nat := rdP x n 150 p
def cwK (x : Nat → Int32) (n p : Nat) : Nat := cmd x n p (cwP x n p) 0 8
theorem c_C_readCommandWord (hS : ScS R S sc) (hs : 34 < sc) (hp : p ≤ 155) (hD : ScD I sc x n) (hC : CmS R S I) (h2 : I sc 2 = nI p) (h3 : I sc 3 = f) : Wp 156 0 [.ref sc, nov, nov] [] I J R S Q = Q 0 (some (cmV (cwK x n p))) (scPF I sc (cwP x n p) (cmF (cwK x n p) f p)) J R S := by
  have l := l_C_letters (Q := Q) (J := J) (f := f) hS hs hp 150 0 p I (by omega) (by omega) (Nat.le_refl p) hD hC h2 h3
  rw [nI_0] at l
  simp only [x_C_readCommandWord_0, x_C_readCommandWord_1, x_C_readCommandWord_4, x_C_readCommandWord_5, x_C_readCommandWord_6, hS.1, h2]
  exact l
end CG
