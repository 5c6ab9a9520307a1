def n1P (x : Nat → Int32) (n c p : Nat) : Nat := gP (decide (0 < cmN c)) (nP x n p) p
def n1F (x : Nat → Int32) (n c : Nat) (f : Int32) (p : Nat) : Int32 := gF (decide (0 < cmN c)) (nF x n f p) f
def n2P (x : Nat → Int32) (n c p : Nat) : Nat := gP (decide (1 < cmN c)) (nP x n p) p
def n2F (x : Nat → Int32) (n c : Nat) (f : Int32) (p : Nat) : Int32 := gF (decide (1 < cmN c)) (nF x n f p) f
def w1P (x : Nat → Int32) (n c p : Nat) : Nat := gP (decide (0 < cmW c)) (wP x n p) p
def w1F (x : Nat → Int32) (n c : Nat) (f : Int32) (p : Nat) : Int32 := gF (decide (0 < cmW c)) (wF x n f p) f
def w2P (x : Nat → Int32) (n c p : Nat) : Nat := gP (decide (1 < cmW c)) (wP x n p) p
def w2F (x : Nat → Int32) (n c : Nat) (f : Int32) (p : Nat) : Int32 := gF (decide (1 < cmW c)) (wF x n f p) f
def gJ (b : Bool) (v : Int64) : Int64 := if b = true then v else -1
section CK
variable {I I' I2 : MI} {J : MJ} {R : MR} {S : Sh} {Q : SkQ} {sc n p c : Nat} {x : Nat → Int32} {f : Int32}
theorem rc3 (hS : ScS R S sc) (hs : 34 < sc) (hp : p ≤ 155) (hD : ScD I sc x n) (hC : CmS R S I) (hc : c < 8) (hr : R sc 4 = .ref (4 + c)) (h2 : I sc 2 = nI p) (h3 : I sc 3 = f) (hQ : ∀ I', scI sc I I' → I' sc 7 = gF (decide (0 < cmN c)) (nV x n p) (-1) → I' sc 8 = gF (decide (1 < cmN c)) (nV x n (n1P x n c p)) (-1) → I' sc 2 = nI (skp x n 150 (n2P x n c (n1P x n c p)) + 1) → I' sc 3 = semF x n (n2F x n c (n1F x n c f p) (n1P x n c p)) (n2P x n c (n1P x n c p)) → Q 0 (some (.int (bI (decide (semF x n (n2F x n c (n1F x n c f p) (n1P x n c p)) (n2P x n c (n1P x n c p)) = -1))))) I' J R S) : Wp 155 83 [.ref sc] [] I J R S Q := by
  obtain ⟨c1, c2, c3, c4, c5, c6, c7⟩ := hC.2.2 c hc
  have dn := hD.2.1
  have hsk := skp_le (x := x) (n := n) 150 p
  have hnp := nuP_le (x := x) (n := n) 3 (skp x n 150 p)
  have cl : ∀ c, c < 8 → cmN c < 100 := by decide
  have e1 := nI_gt0 (i := cmN c) (by have := cl c hc; omega)
  unfold n1P n1F at hQ
  by_cases q : 0 < cmN c
  · rw [decide_eq_true q] at hQ
    have rn := fun Q' => c_C_readNumber (Q := Q') (J := J) hS hp hD h2 h3
    have si : scI sc I (u2 (scPF I sc (nP x n p) (nF x n f p)) sc 7 (nV x n p)) := scI_u (scI_PF scI_rfl) (by omega)
    simp only [x_C_readCommand_0, x_C_readCommand_1, x_C_readCommand_4, x_C_readCommand_5, x_C_readCommand_8, x_C_readCommand_9, x_C_readCommand_12, x_C_readCommand_15, x_C_readCommand_16, x_C_readCommand_17, x_C_readCommand_18, x_C_readCommand_19, x_C_readCommand_22, x_C_readCommand_22N, x_C_readCommand_25, x_C_readCommand_26, x_C_readCommand_29, x_C_readCommand_29N, x_C_readCommand_32, x_C_readCommand_33, x_C_readCommand_34, x_C_readCommand_35, x_C_readCommand_36, x_C_readCommand_39, x_C_readCommand_42, x_C_readCommand_45, x_C_readCommand_46, x_C_readCommand_49, x_C_readCommand_52, x_C_readCommand_55, x_C_readCommand_58, x_C_readCommand_59, x_C_readCommand_60, x_C_readCommand_63, x_C_readCommand_66, x_C_readCommand_67, x_C_readCommand_70, x_C_readCommand_71, x_C_readCommand_74, x_C_readCommand_77, x_C_readCommand_80, x_C_readCommand_83, x_C_readCommand_84, x_C_readCommand_85, x_C_readCommand_88, x_C_readCommand_91, x_C_readCommand_94, x_C_readCommand_95, x_C_readCommand_98, x_C_readCommand_101, x_C_readCommand_102, x_C_readCommand_106, x_C_readCommand_107, x_C_readCommand_110, x_C_readCommand_113, x_C_readCommand_114, x_C_readCommand_117, x_C_readCommand_118, x_C_readCommand_121, x_C_readCommand_124, x_C_readCommand_125, x_C_readCommand_129, x_C_readCommand_132, x_C_readCommand_133, x_C_readCommand_136, x_C_readCommand_137, x_C_readCommand_140, x_C_readCommand_141, x_C_readCommand_144, x_C_readCommand_145, hS.1, hr, c2, c6, e1, q, rn, bI_0, bI_t, bI_f, e10, isA30, isA31, isA33, isA40, isA42, isA43, rOkB0, rOkB1, rOkB, Ret_v, Ret_n, cmp_eq, cmp_lt, cmp_gt, nI_1, eq_self, if_true, if_false, reduceIte]
    refine rc4 (p := nP x n p) (f := nF x n f p) hS hs (by unfold nP; omega) (ScD_I hD si) (CmS_I hs hC si) hc hr (by rw [u2_k (by omega)]; exact PF_2) (by rw [u2_k (by omega)]; exact PF_3) (fun I' s a b e g => ?_)
    exact hQ I' (scI_trans si s) (by rw [a, u2_eq]; rfl) b e g
  · rw [decide_eq_false q] at hQ
    have si : scI sc I (u2 I sc 7 (-1)) := scI_u scI_rfl (by omega)
    simp only [x_C_readCommand_0, x_C_readCommand_1, x_C_readCommand_4, x_C_readCommand_5, x_C_readCommand_8, x_C_readCommand_9, x_C_readCommand_12, x_C_readCommand_15, x_C_readCommand_16, x_C_readCommand_17, x_C_readCommand_18, x_C_readCommand_19, x_C_readCommand_22, x_C_readCommand_22N, x_C_readCommand_25, x_C_readCommand_26, x_C_readCommand_29, x_C_readCommand_29N, x_C_readCommand_32, x_C_readCommand_33, x_C_readCommand_34, x_C_readCommand_35, x_C_readCommand_36, x_C_readCommand_39, x_C_readCommand_42, x_C_readCommand_45, x_C_readCommand_46, x_C_readCommand_49, x_C_readCommand_52, x_C_readCommand_55, x_C_readCommand_58, x_C_readCommand_59, x_C_readCommand_60, x_C_readCommand_63, x_C_readCommand_66, x_C_readCommand_67, x_C_readCommand_70, x_C_readCommand_71, x_C_readCommand_74, x_C_readCommand_77, x_C_readCommand_80, x_C_readCommand_83, x_C_readCommand_84, x_C_readCommand_85, x_C_readCommand_88, x_C_readCommand_91, x_C_readCommand_94, x_C_readCommand_95, x_C_readCommand_98, x_C_readCommand_101, x_C_readCommand_102, x_C_readCommand_106, x_C_readCommand_107, x_C_readCommand_110, x_C_readCommand_113, x_C_readCommand_114, x_C_readCommand_117, x_C_readCommand_118, x_C_readCommand_121, x_C_readCommand_124, x_C_readCommand_125, x_C_readCommand_129, x_C_readCommand_132, x_C_readCommand_133, x_C_readCommand_136, x_C_readCommand_137, x_C_readCommand_140, x_C_readCommand_141, x_C_readCommand_144, x_C_readCommand_145, hS.1, hr, c2, c6, e1, q, bI_0, bI_t, bI_f, e10, isA30, isA31, isA33, isA40, isA42, isA43, rOkB0, rOkB1, rOkB, Ret_v, Ret_n, cmp_eq, cmp_lt, cmp_gt, nI_1, eq_self, if_true, if_false, reduceIte]
    refine rc4 (p := p) (f := f) hS hs hp (ScD_I hD si) (CmS_I hs hC si) hc hr (by rw [u2_k (by omega)]; exact h2) (by rw [u2_k (by omega)]; exact h3) (fun I' s a b e g => ?_)
    exact hQ I' (scI_trans si s) (by rw [a, u2_eq]; rfl) b e g
end CK
