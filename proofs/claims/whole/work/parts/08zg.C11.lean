/-- no reference has changed but the script's command -/
def scR (sc : Nat) (R R' : MR) : Prop := ∀ q k, ¬ (q = sc ∧ k = 4) → R' q k = R q k
def scJ (sc : Nat) (J J' : MJ) : Prop := ∀ q, ¬ q = sc → J' q = J q
section CN
variable {R : MR} {S : Sh} {Q : SkQ} {sc n : Nat} {x : Nat → Int32}
theorem l_C_fault (hs : 34 < sc) : ∀ (k i p : Nat) (I : MI) (J : MJ) (R : MR), i + k = 150 → p ≤ 151 → ScS R S sc → ScD I sc x n → CmS R S I → I sc 2 = nI p → I sc 3 = -1 → (∀ I' J' R', scI sc I I' → scJ sc J J' → scR sc R R' → Q 0 (some (.int (fot x n k p))) I' J' R' S) → Wp 154 6 [.ref sc, .int (nI i)] [] I J R S Q := by
  intro k
  induction k with
  | zero =>
    intro i p I J R hi hp hS hD hC h2 h3 hQ
    have e : ¬ nI i < 150 := by rw [show (150 : Int32) = nI 150 by decide]; exact nI_nlt (by omega) (by omega)
    rw [x_C_faultOfText_6]
    simp only [x_C_faultOfText_0, x_C_faultOfText_1, x_C_faultOfText_4, x_C_faultOfText_5, x_C_faultOfText_7, x_C_faultOfText_10, x_C_faultOfText_13, x_C_faultOfText_14, x_C_faultOfText_17, x_C_faultOfText_20, x_C_faultOfText_23, x_C_faultOfText_26, x_C_faultOfText_29, x_C_faultOfText_30, x_C_faultOfText_33, hS.1, e, h3, bI_0, bI_t, bI_f, e10, isA30, isA31, isA33, isA40, isA42, isA43, rOkB0, rOkB1, rOkB, Ret_v, Ret_n, cmp_eq, cmp_lt, cmp_gt, nI_1, eq_self, if_true, if_false, reduceIte]
    exact hQ I J R scI_rfl (fun _ _ => by simp) (fun _ _ _ => by simp)
  | succ k ih =>
    intro i p I J R hi hp hS hD hC h2 h3 hQ
    have e : nI i < 150 := by rw [show (150 : Int32) = nI 150 by decide]; exact nI_lt (by omega) (by omega)
    have dn := hD.2.1
    simp only [fot] at hQ
    rw [x_C_faultOfText_6]
    by_cases q : skp x n 150 p < n
    · rw [if_neg (by omega)] at hQ
      by_cases q2 : cwK x n (skp x n 150 p) < 8
      · rw [if_neg (by omega)] at hQ
        generalize hc : cwK x n (skp x n 150 p) = c at hQ q2
        generalize hp1 : cwP x n (skp x n 150 p) = p1 at hQ
        have b1 : p1 ≤ 151 := by
          rw [← hp1]; unfold cwP
          have := rdP_le (x := x) (n := n) 150 (skp x n 150 p)
          omega
        have b2 : w1P x n c p1 ≤ 151 := gP_le (wP_le b1 dn) b1
        have b3 : w2P x n c (w1P x n c p1) ≤ 151 := gP_le (wP_le b2 dn) b2
        simp only [x_C_faultOfText_0, x_C_faultOfText_1, x_C_faultOfText_4, x_C_faultOfText_5, x_C_faultOfText_7, x_C_faultOfText_10, x_C_faultOfText_13, x_C_faultOfText_14, x_C_faultOfText_17, x_C_faultOfText_20, x_C_faultOfText_23, x_C_faultOfText_26, x_C_faultOfText_29, x_C_faultOfText_30, x_C_faultOfText_33, hS.1, e, bI_0, bI_t, bI_f, e10, isA30, isA31, isA33, isA40, isA42, isA43, rOkB0, rOkB1, rOkB, Ret_v, Ret_n, cmp_eq, cmp_lt, cmp_gt, nI_1, eq_self, if_true, if_false, reduceIte]
        refine c_C_readCommand2 hS hs (by omega) hD hC h2 h3 q hc q2 hp1 (fun I' s a => ?_)
        generalize hf : enF x n c (w2F x n c (w1F x n c (-1) p1) (w1P x n c p1)) (w2P x n c (w1P x n c p1)) = y at hQ a ⊢
        have rr : scR sc R (u2 R sc 4 (.ref (4 + c))) := fun q k h => u2_of h
        have a3 := a.2.2.2
        rw [hf] at a3
        by_cases q3 : y = -1
        · rw [if_pos q3] at hQ
          rw [decide_eq_true q3]
          have be := enP_le b3 dn (hf.trans q3)
          simp only [x_C_faultOfText_0, x_C_faultOfText_1, x_C_faultOfText_4, x_C_faultOfText_5, x_C_faultOfText_7, x_C_faultOfText_10, x_C_faultOfText_13, x_C_faultOfText_14, x_C_faultOfText_17, x_C_faultOfText_20, x_C_faultOfText_23, x_C_faultOfText_26, x_C_faultOfText_29, x_C_faultOfText_30, x_C_faultOfText_33, nI_1', bI_0, bI_t, bI_f, e10, isA30, isA31, isA33, isA40, isA42, isA43, rOkB0, rOkB1, rOkB, Ret_v, Ret_n, cmp_eq, cmp_lt, cmp_gt, nI_1, eq_self, if_true, if_false, reduceIte]
          refine ih (i + 1) _ _ _ _ (by omega) be (ScS_R hS) (ScD_I hD s) (CmS_R hs (CmS_I hs hC s)) a.2.2.1 (a3.trans q3) (fun I2 J2 R2 s2 j2 r2 => hQ I2 J2 R2 (scI_trans s s2) (fun q hq => by rw [j2 q hq, u2_p hq, u2_p hq]) (fun q k h => by rw [r2 q k h, rr q k h]))
        · rw [if_neg q3] at hQ
          rw [decide_eq_false q3]
          simp only [x_C_faultOfText_0, x_C_faultOfText_1, x_C_faultOfText_4, x_C_faultOfText_5, x_C_faultOfText_7, x_C_faultOfText_10, x_C_faultOfText_13, x_C_faultOfText_14, x_C_faultOfText_17, x_C_faultOfText_20, x_C_faultOfText_23, x_C_faultOfText_26, x_C_faultOfText_29, x_C_faultOfText_30, x_C_faultOfText_33, hS.1, a3, bI_0, bI_t, bI_f, e10, isA30, isA31, isA33, isA40, isA42, isA43, rOkB0, rOkB1, rOkB, Ret_v, Ret_n, cmp_eq, cmp_lt, cmp_gt, nI_1, eq_self, if_true, if_false, reduceIte]
          exact hQ _ _ _ s (fun q hq => by rw [u2_p hq, u2_p hq]) rr
      · rw [if_pos q2] at hQ
        have r1 := fun Q' => c_C_readCommand1 (Q := Q') (J := J) hS hs (by omega) hD hC h2 h3 q q2
        have g3 : scPF I sc (cwP x n (skp x n 150 p)) (nI (skp x n 150 p)) sc 3 = nI (skp x n 150 p) := PF_3
        simp only [x_C_faultOfText_0, x_C_faultOfText_1, x_C_faultOfText_4, x_C_faultOfText_5, x_C_faultOfText_7, x_C_faultOfText_10, x_C_faultOfText_13, x_C_faultOfText_14, x_C_faultOfText_17, x_C_faultOfText_20, x_C_faultOfText_23, x_C_faultOfText_26, x_C_faultOfText_29, x_C_faultOfText_30, x_C_faultOfText_33, hS.1, e, r1, g3, bI_0, bI_t, bI_f, e10, isA30, isA31, isA33, isA40, isA42, isA43, rOkB0, rOkB1, rOkB, Ret_v, Ret_n, cmp_eq, cmp_lt, cmp_gt, nI_1, eq_self, if_true, if_false, reduceIte]
        exact hQ _ _ _ (scI_PF scI_rfl) (fun _ _ => by simp) (fun q k h => u2_of h)
    · rw [if_pos q] at hQ
      have r0 := fun Q' => c_C_readCommand0 (Q := Q') (J := J) hS (by omega) hD h2 h3 q
      have g3 : scPF I sc (skp x n 150 p) (-1) sc 3 = -1 := PF_3
      simp only [x_C_faultOfText_0, x_C_faultOfText_1, x_C_faultOfText_4, x_C_faultOfText_5, x_C_faultOfText_7, x_C_faultOfText_10, x_C_faultOfText_13, x_C_faultOfText_14, x_C_faultOfText_17, x_C_faultOfText_20, x_C_faultOfText_23, x_C_faultOfText_26, x_C_faultOfText_29, x_C_faultOfText_30, x_C_faultOfText_33, hS.1, e, r0, g3, bI_0, bI_t, bI_f, e10, isA30, isA31, isA33, isA40, isA42, isA43, rOkB0, rOkB1, rOkB, Ret_v, Ret_n, cmp_eq, cmp_lt, cmp_gt, nI_1, eq_self, if_true, if_false, reduceIte]
      exact hQ _ _ _ (scI_PF scI_rfl) (fun _ _ => by simp) (fun _ _ _ => by simp)
end CN
