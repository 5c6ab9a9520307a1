section CM
variable {I I' I2 : MI} {J J' : MJ} {R R' : MR} {S : Sh} {Q : SkQ} {sc n p c : Nat} {x : Nat → Int32} {f : Int32}
theorem ScS_R {v : Value} (hS : ScS R S sc) : ScS (u2 R sc 4 v) S sc := ⟨hS.1, hS.2.1, hS.2.2.1, by rw [u2_k (by omega)]; exact hS.2.2.2⟩
theorem CmS_R {k : Nat} {v : Value} (hs : 34 < sc) (hC : CmS R S I) : CmS (u2 R sc k v) S I := by
  obtain ⟨h1, h2, h3⟩ := hC
  refine ⟨h1, h2, fun i hi => ?_⟩
  obtain ⟨c1, c2, c3, c4, c5, c6, s0, s1, n1, hl, r0, i0, hc⟩ := h3 i hi
  exact ⟨by rw [u2_p (by omega)]; exact c1, c2, by rw [u2_p (by omega)]; exact c3, c4, c5, c6, s0, s1, n1, hl, by rw [u2_p (by omega)]; exact r0, i0, hc⟩
/-- no more command -/
theorem c_C_readCommand0 (hS : ScS R S sc) (hp : p ≤ 155) (hD : ScD I sc x n) (h2 : I sc 2 = nI p) (h3 : I sc 3 = f) (q : ¬ skp x n 150 p < n) : Wp 155 0 [.ref sc] [] I J R S Q = Q 0 (some (.int 0)) (scPF I sc (skp x n 150 p) f) J R S := by
  have sk := fun Q' => c_C_skipSpaces (Q := Q') (J := J) hS hp hD h2
  rw [PF_of2 h3] at sk
  have dn := hD.2.1
  have hl := skp_le (x := x) (n := n) 150 p
  have g2 : scPF I sc (skp x n 150 p) f sc 2 = nI (skp x n 150 p) := PF_2
  have g1 : scPF I sc (skp x n 150 p) f sc 1 = nI n := (ScD_PF hD).1
  have e : ¬ nI (skp x n 150 p) < nI n := nI_nlt (by omega) (by omega)
  simp only [x_C_readCommand_0, x_C_readCommand_1, x_C_readCommand_4, x_C_readCommand_5, x_C_readCommand_8, x_C_readCommand_9, x_C_readCommand_12, x_C_readCommand_15, x_C_readCommand_16, hS.1, sk, g1, g2, e, bI_0, bI_t, bI_f, e10, isA30, isA31, isA33, isA40, isA42, isA43, rOkB0, rOkB1, rOkB, Ret_v, Ret_n, cmp_eq, cmp_lt, cmp_gt, nI_1, eq_self, if_true, if_false, reduceIte]
/-- no command word -/
theorem c_C_readCommand1 (hS : ScS R S sc) (hs : 34 < sc) (hp : p ≤ 155) (hD : ScD I sc x n) (hC : CmS R S I) (h2 : I sc 2 = nI p) (h3 : I sc 3 = f) (q : skp x n 150 p < n) (hk : ¬ cwK x n (skp x n 150 p) < 8) : Wp 155 0 [.ref sc] [] I J R S Q = Q 0 (some (.int 0)) (scPF I sc (cwP x n (skp x n 150 p)) (nI (skp x n 150 p))) J (u2 R sc 4 .null) S := by
  have sk := fun Q' => c_C_skipSpaces (Q := Q') (J := J) hS hp hD h2
  rw [PF_of2 h3] at sk
  have dn := hD.2.1
  have hl := skp_le (x := x) (n := n) 150 p
  have g2 : scPF I sc (skp x n 150 p) f sc 2 = nI (skp x n 150 p) := PF_2
  have g1 : scPF I sc (skp x n 150 p) f sc 1 = nI n := (ScD_PF hD).1
  have e : nI (skp x n 150 p) < nI n := nI_lt (by omega) (by omega)
  have rw1 := fun Q' => c_C_readCommandWord (Q := Q') (J := J) hS hs (show skp x n 150 p ≤ 155 by omega) (ScD_PF (p := skp x n 150 p) (f := f) hD) (CmS_PF hs hC) g2 PF_3
  rw [show cmV (cwK x n (skp x n 150 p)) = .null from if_neg hk, show cmF (cwK x n (skp x n 150 p)) f (skp x n 150 p) = nI (skp x n 150 p) from if_neg hk, PF_PF] at rw1
  have g4 : u2 R sc 4 Value.null sc 4 = .null := u2_eq
  simp only [x_C_readCommand_0, x_C_readCommand_1, x_C_readCommand_4, x_C_readCommand_5, x_C_readCommand_8, x_C_readCommand_9, x_C_readCommand_12, x_C_readCommand_17, x_C_readCommand_18, x_C_readCommand_19, x_C_readCommand_22N, x_C_readCommand_25, x_C_readCommand_26, x_C_readCommand_29N, x_C_readCommand_32, x_C_readCommand_33, hS.1, sk, g1, g2, e, rw1, g4, bI_0, bI_t, bI_f, e10, isA30, isA31, isA33, isA40, isA42, isA43, rOkB0, rOkB1, rOkB, Ret_v, Ret_n, cmp_eq, cmp_lt, cmp_gt, nI_1, eq_self, if_true, if_false, reduceIte]
theorem c_C_readCommand2 (hS : ScS R S sc) (hs : 34 < sc) (hp : p ≤ 155) (hD : ScD I sc x n) (hC : CmS R S I) (h2 : I sc 2 = nI p) (h3 : I sc 3 = f) (q : skp x n 150 p < n) {p1 : Nat} (hc : cwK x n (skp x n 150 p) = c) (hk : c < 8) (hp1 : cwP x n (skp x n 150 p) = p1) (hQ : ∀ I', scI sc I I' → NuD I' sc x n c (w2P x n c (w1P x n c p1)) (w2F x n c (w1F x n c f p1) (w1P x n c p1)) → Q 0 (some (.int (bI (decide (enF x n c (w2F x n c (w1F x n c f p1) (w1P x n c p1)) (w2P x n c (w1P x n c p1)) = -1))))) I' (u2 (u2 J sc 5 (gJ (decide (0 < cmW c)) (lW (wV x n p1)))) sc 6 (gJ (decide (1 < cmW c)) (lW (wV x n (w1P x n c p1))))) (u2 R sc 4 (.ref (4 + c))) S) : Wp 155 0 [.ref sc] [] I J R S Q := by
  have sk := fun Q' => c_C_skipSpaces (Q := Q') (J := J) hS hp hD h2
  rw [PF_of2 h3] at sk
  have dn := hD.2.1
  have hl := skp_le (x := x) (n := n) 150 p
  have hl2 := rdP_le (x := x) (n := n) 150 (skp x n 150 p)
  have g2 : scPF I sc (skp x n 150 p) f sc 2 = nI (skp x n 150 p) := PF_2
  have g1 : scPF I sc (skp x n 150 p) f sc 1 = nI n := (ScD_PF hD).1
  have e : nI (skp x n 150 p) < nI n := nI_lt (by omega) (by omega)
  have rw1 := fun Q' => c_C_readCommandWord (Q := Q') (J := J) hS hs (show skp x n 150 p ≤ 155 by omega) (ScD_PF (p := skp x n 150 p) (f := f) hD) (CmS_PF hs hC) g2 PF_3
  rw [hc, show cmV c = .ref (4 + c) from if_pos hk, show cmF c f (skp x n 150 p) = f from if_pos hk, PF_PF, hp1] at rw1
  have hp1' : p1 ≤ 155 := by rw [← hp1]; unfold cwP; omega
  simp only [x_C_readCommand_0, x_C_readCommand_1, x_C_readCommand_4, x_C_readCommand_5, x_C_readCommand_8, x_C_readCommand_9, x_C_readCommand_12, x_C_readCommand_17, x_C_readCommand_18, x_C_readCommand_19, x_C_readCommand_22, hS.1, sk, g1, g2, e, rw1, bI_0, bI_t, bI_f, e10, isA30, isA31, isA33, isA40, isA42, isA43, rOkB0, rOkB1, rOkB, Ret_v, Ret_n, cmp_eq, cmp_lt, cmp_gt, nI_1, eq_self, if_true, if_false, reduceIte]
  have si : scI sc I (scPF I sc p1 f) := scI_PF scI_rfl
  exact rc1 (ScS_R hS) hs hp1' (ScD_PF hD) (CmS_R hs (CmS_PF hs hC)) hk u2_eq PF_2 PF_3 (fun I' s a => hQ I' (scI_trans si s) a)
end CM
