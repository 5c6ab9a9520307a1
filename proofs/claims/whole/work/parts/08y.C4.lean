/-- a text stands at a place of the script -/
def wrt (x : Nat → Int32) (n : Nat) (c : Nat → Nat) (p i : Nat) : Nat → Bool
  | 0 => true
  | k + 1 => decide (nI (c i) = byA x n (p + i)) && wrt x n c p (i + 1) k
/-- the commands: letters, how many words, how many numbers -/
def cmC (i k : Nat) : Nat := ([[119, 111, 114, 100], [100, 114, 111, 112], [110, 97, 109, 101], [116, 121, 112, 101], [98, 97, 99, 107], [97, 108, 108, 111, 119], [115, 116, 105, 99, 107], [115, 101, 116]].getD i []).getD k 0
def cmL (i : Nat) : Nat := [4, 4, 4, 4, 4, 5, 5, 3].getD i 0
def cmW (i : Nat) : Nat := [1, 1, 1, 1, 0, 2, 1, 0].getD i 0
def cmN (i : Nat) : Nat := [1, 0, 0, 0, 0, 0, 1, 2].getD i 0
def CmS (R : MR) (S : Sh) (I : MI) : Prop := S.1 2 = 43 ∧ S.2.1 2 = 8 ∧ ∀ i, i < 8 → R 2 i = .ref (4 + i) ∧ S.1 (4 + i) = 20 ∧ R (4 + i) 1 = .ref (15 + i) ∧ I (4 + i) 0 = nI i ∧ I (4 + i) 2 = nI (cmW i) ∧ I (4 + i) 3 = nI (cmN i) ∧ StS R S I (15 + i) (26 + i) (cmL i) (cmC i)
/-- the first command, from i on, that is written from p to q; 8 if none -/
def cmd (x : Nat → Int32) (n p q i : Nat) : Nat → Nat
  | 0 => 8
  | k + 1 => if q = p + cmL i ∧ wrt x n (cmC i) p 0 (cmL i) = true then i else cmd x n p q (i + 1) k
section CF
variable {I : MI} {J : MJ} {R : MR} {S : Sh} {Q : SkQ} {sc n p q s b len : Nat} {x : Nat → Int32} {f : Int32} {c : Nat → Nat}
theorem l_C_isWritten (hS : ScS R S sc) (hD : ScD I sc x n) (hT : StS R S I s b len c) (hp : p ≤ 2000) (hl : len < 100) {to : Int32} : ∀ k i : Nat, i + k = len → Wp 157 15 [.ref sc, .ref s, .int (nI p), .int to, .int (nI i)] [] I J R S Q = Q 0 (some (.int (bI (wrt x n c p i k)))) I J R S := by
  have sl := fun Q' => c_Js_length (Q := Q') (J := J) hT
  intro k
  induction k with
  | zero =>
    intro i hi
    have e : ¬ nI i < nI len := nI_nlt (by omega) (by omega)
    rw [x_C_isWritten_15]
    simp only [x_C_isWritten_0, x_C_isWritten_1, x_C_isWritten_4, x_C_isWritten_5, x_C_isWritten_6, x_C_isWritten_7, x_C_isWritten_10, x_C_isWritten_11, x_C_isWritten_12, x_C_isWritten_13, x_C_isWritten_17, x_C_isWritten_18, x_C_isWritten_21, x_C_isWritten_24, x_C_isWritten_25, x_C_isWritten_27, x_C_isWritten_30, x_C_isWritten_31, x_C_isWritten_32, x_C_isWritten_34, x_C_isWritten_35, x_C_isWritten_38, x_C_isWritten_41, x_C_isWritten_42, x_C_isWritten_43, x_C_isWritten_46, x_C_isWritten_49, x_C_isWritten_50, hT.1, sl, e, wrt, bI_0, bI_t, bI_f, e10, isA30, isA31, isA33, isA40, isA42, isA43, rOkB0, rOkB1, rOkB, Ret_v, Ret_n, cmp_eq, cmp_lt, cmp_gt, nI_1, eq_self, if_true, if_false, reduceIte]
  | succ k ih =>
    intro i hi
    have e : nI i < nI len := nI_lt (by omega) (by omega)
    have ch := fun Q' => c_Js_charAt (Q := Q') (J := J) hT (show i < len by omega)
    have ba := fun Q' => c_C_byteAt (Q := Q') (J := J) hS hD (show p + i < 2 ^ 31 by omega)
    have l := ih (i + 1) (by omega)
    rw [x_C_isWritten_15]
    simp only [wrt]
    by_cases q1 : nI (c i) = byA x n (p + i)
    · rw [decide_eq_true q1, Bool.true_and]
      simp only [x_C_isWritten_0, x_C_isWritten_1, x_C_isWritten_4, x_C_isWritten_5, x_C_isWritten_6, x_C_isWritten_7, x_C_isWritten_10, x_C_isWritten_11, x_C_isWritten_12, x_C_isWritten_13, x_C_isWritten_17, x_C_isWritten_18, x_C_isWritten_21, x_C_isWritten_24, x_C_isWritten_25, x_C_isWritten_27, x_C_isWritten_30, x_C_isWritten_31, x_C_isWritten_32, x_C_isWritten_34, x_C_isWritten_35, x_C_isWritten_38, x_C_isWritten_41, x_C_isWritten_42, x_C_isWritten_43, x_C_isWritten_46, x_C_isWritten_49, x_C_isWritten_50, hT.1, hS.1, sl, ch, e, nI_plus, ba, q1, l, bI_0, bI_t, bI_f, e10, isA30, isA31, isA33, isA40, isA42, isA43, rOkB0, rOkB1, rOkB, Ret_v, Ret_n, cmp_eq, cmp_lt, cmp_gt, nI_1, eq_self, if_true, if_false, reduceIte]
    · rw [decide_eq_false q1, Bool.false_and]
      simp only [x_C_isWritten_0, x_C_isWritten_1, x_C_isWritten_4, x_C_isWritten_5, x_C_isWritten_6, x_C_isWritten_7, x_C_isWritten_10, x_C_isWritten_11, x_C_isWritten_12, x_C_isWritten_13, x_C_isWritten_17, x_C_isWritten_18, x_C_isWritten_21, x_C_isWritten_24, x_C_isWritten_25, x_C_isWritten_27, x_C_isWritten_30, x_C_isWritten_31, x_C_isWritten_32, x_C_isWritten_34, x_C_isWritten_35, x_C_isWritten_38, x_C_isWritten_41, x_C_isWritten_42, x_C_isWritten_43, x_C_isWritten_46, x_C_isWritten_49, x_C_isWritten_50, hT.1, hS.1, sl, ch, e, nI_plus, ba, q1, bI_0, bI_t, bI_f, e10, isA30, isA31, isA33, isA40, isA42, isA43, rOkB0, rOkB1, rOkB, Ret_v, Ret_n, cmp_eq, cmp_lt, cmp_gt, nI_1, eq_self, if_true, if_false, reduceIte]
theorem c_C_isWritten (hS : ScS R S sc) (hD : ScD I sc x n) (hT : StS R S I s b len c) (hpq : p ≤ q) (hq : q ≤ 2000) (hl : len < 100) : Wp 157 0 [.ref sc, .ref s, .int (nI p), .int (nI q), nov] [] I J R S Q = Q 0 (some (.int (bI (decide (q = p + len) && wrt x n c p 0 len)))) I J R S := by
  have sl := fun Q' => c_Js_length (Q := Q') (J := J) hT
  have e1 : nI q - nI p = nI (q - p) := nI_sub hpq
  have e2 := nI_inj (a := len) (b := q - p) (by omega) (by omega)
  have l := l_C_isWritten (Q := Q) (J := J) hS hD hT (show p ≤ 2000 by omega) hl (to := nI q) len 0 (by omega)
  rw [nI_0] at l
  by_cases q1 : q = p + len
  · have q2 : len = q - p := by omega
    rw [decide_eq_true q1, Bool.true_and]
    have e3 := e2.mpr q2
    rw [← e3] at e1
    simp only [x_C_isWritten_0, x_C_isWritten_1, x_C_isWritten_4, x_C_isWritten_5, x_C_isWritten_6, x_C_isWritten_7, x_C_isWritten_10, x_C_isWritten_11, x_C_isWritten_12, x_C_isWritten_13, x_C_isWritten_17, x_C_isWritten_18, x_C_isWritten_21, x_C_isWritten_24, x_C_isWritten_25, x_C_isWritten_27, x_C_isWritten_30, x_C_isWritten_31, x_C_isWritten_32, x_C_isWritten_34, x_C_isWritten_35, x_C_isWritten_38, x_C_isWritten_41, x_C_isWritten_42, x_C_isWritten_43, x_C_isWritten_46, x_C_isWritten_49, x_C_isWritten_50, hT.1, sl, e1, l, bI_0, bI_t, bI_f, e10, isA30, isA31, isA33, isA40, isA42, isA43, rOkB0, rOkB1, rOkB, Ret_v, Ret_n, cmp_eq, cmp_lt, cmp_gt, nI_1, eq_self, if_true, if_false, reduceIte]
  · have q2 : ¬ nI len = nI (q - p) := fun h => q1 (by have := e2.mp h; omega)
    rw [decide_eq_false q1, Bool.false_and]
    simp only [x_C_isWritten_0, x_C_isWritten_1, x_C_isWritten_4, x_C_isWritten_5, x_C_isWritten_6, x_C_isWritten_7, x_C_isWritten_10, x_C_isWritten_11, x_C_isWritten_12, x_C_isWritten_13, x_C_isWritten_17, x_C_isWritten_18, x_C_isWritten_21, x_C_isWritten_24, x_C_isWritten_25, x_C_isWritten_27, x_C_isWritten_30, x_C_isWritten_31, x_C_isWritten_32, x_C_isWritten_34, x_C_isWritten_35, x_C_isWritten_38, x_C_isWritten_41, x_C_isWritten_42, x_C_isWritten_43, x_C_isWritten_46, x_C_isWritten_49, x_C_isWritten_50, hT.1, sl, e1, q2, bI_0, bI_t, bI_f, e10, isA30, isA31, isA33, isA40, isA42, isA43, rOkB0, rOkB1, rOkB, Ret_v, Ret_n, cmp_eq, cmp_lt, cmp_gt, nI_1, eq_self, if_true, if_false, reduceIte]
theorem cmL_lt : ∀ i, i < 8 → cmL i < 100 := by decide
/-- what the reading of a command word answers and sets -/
def cmF (k : Nat) (f : Int32) (p : Nat) : Int32 := if k < 8 then f else nI p
def cmV (k : Nat) : Value := if k < 8 then .ref (4 + k) else .null
theorem l_C_cmd (hS : ScS R S sc) (hD : ScD I sc x n) (hC : CmS R S I) (hpq : p ≤ q) (hq : q ≤ 2000) (h2 : I sc 2 = nI q) (h3 : I sc 3 = f) : ∀ k i : Nat, i + k = 8 → Wp 156 39 [.ref sc, .int (nI p), .int (nI i)] [] I J R S Q = Q 0 (some (cmV (cmd x n p q i k))) (scPF I sc q (cmF (cmd x n p q i k) f p)) J R S := by
  intro k
  induction k with
  | zero =>
    intro i hi
    have e : ¬ nI i < nI 8 := nI_nlt (by omega) (by omega)
    have e43 : isArr (S.1 2) = true := by rw [hC.1]; decide
    rw [x_C_readCommandWord_39]
    rw [show cmd x n p q i 0 = 8 by simp only [cmd], show cmV 8 = .null by decide, show cmF 8 f p = nI p from if_neg (by omega)]
    simp only [x_C_readCommandWord_0, x_C_readCommandWord_1, x_C_readCommandWord_4, x_C_readCommandWord_5, x_C_readCommandWord_6, x_C_readCommandWord_8, x_C_readCommandWord_11, x_C_readCommandWord_14, x_C_readCommandWord_15, x_C_readCommandWord_18, x_C_readCommandWord_21, x_C_readCommandWord_22, x_C_readCommandWord_23, x_C_readCommandWord_26, x_C_readCommandWord_27, x_C_readCommandWord_28, x_C_readCommandWord_31, x_C_readCommandWord_34, x_C_readCommandWord_37, x_C_readCommandWord_38, x_C_readCommandWord_40, x_C_readCommandWord_43, x_C_readCommandWord_44, x_C_readCommandWord_47, x_C_readCommandWord_48, x_C_readCommandWord_51, x_C_readCommandWord_52, x_C_readCommandWord_53, x_C_readCommandWord_56, x_C_readCommandWord_57, x_C_readCommandWord_58, x_C_readCommandWord_61, x_C_readCommandWord_64, x_C_readCommandWord_67, x_C_readCommandWord_70, x_C_readCommandWord_71, x_C_readCommandWord_72, x_C_readCommandWord_72N, x_C_readCommandWord_73, x_C_readCommandWord_76, x_C_readCommandWord_79, x_C_readCommandWord_80, x_C_readCommandWord_81, x_C_readCommandWord_84, x_C_readCommandWord_85, x_C_readCommandWord_85N, e43, hC.2.1, hS.1, e, PF_of3 h2, bI_0, bI_t, bI_f, e10, isA30, isA31, isA33, isA40, isA42, isA43, rOkB0, rOkB1, rOkB, Ret_v, Ret_n, cmp_eq, cmp_lt, cmp_gt, nI_1, eq_self, if_true, if_false, reduceIte]
  | succ k ih =>
    intro i hi
    have e : nI i < nI 8 := nI_lt (by omega) (by omega)
    have e43 : isArr (S.1 2) = true := by rw [hC.1]; decide
    have e3 := inb_nI (i := i) (n := 8) (by omega) (by omega)
    have e4 : ix (nI i) = i := ix_nI (by omega)
    obtain ⟨c1, c2, c3, c4, c5, c6, c7⟩ := hC.2.2 i (by omega)
    have cw := fun Q' => c_C_isWritten (Q := Q') (J := J) hS hD c7 hpq hq (cmL_lt i (by omega))
    have l := ih (i + 1) (by omega)
    rw [x_C_readCommandWord_39]
    by_cases q1 : q = p + cmL i ∧ wrt x n (cmC i) p 0 (cmL i) = true
    · rw [decide_eq_true q1.1, q1.2, Bool.true_and] at cw
      rw [show cmd x n p q i (k + 1) = i by simp only [cmd]; rw [if_pos q1], show cmV i = .ref (4 + i) from if_pos (by omega), show cmF i f p = f from if_pos (by omega), PF_self h2 h3]
      simp only [x_C_readCommandWord_0, x_C_readCommandWord_1, x_C_readCommandWord_4, x_C_readCommandWord_5, x_C_readCommandWord_6, x_C_readCommandWord_8, x_C_readCommandWord_11, x_C_readCommandWord_14, x_C_readCommandWord_15, x_C_readCommandWord_18, x_C_readCommandWord_21, x_C_readCommandWord_22, x_C_readCommandWord_23, x_C_readCommandWord_26, x_C_readCommandWord_27, x_C_readCommandWord_28, x_C_readCommandWord_31, x_C_readCommandWord_34, x_C_readCommandWord_37, x_C_readCommandWord_38, x_C_readCommandWord_40, x_C_readCommandWord_43, x_C_readCommandWord_44, x_C_readCommandWord_47, x_C_readCommandWord_48, x_C_readCommandWord_51, x_C_readCommandWord_52, x_C_readCommandWord_53, x_C_readCommandWord_56, x_C_readCommandWord_57, x_C_readCommandWord_58, x_C_readCommandWord_61, x_C_readCommandWord_64, x_C_readCommandWord_67, x_C_readCommandWord_70, x_C_readCommandWord_71, x_C_readCommandWord_72, x_C_readCommandWord_72N, x_C_readCommandWord_73, x_C_readCommandWord_76, x_C_readCommandWord_79, x_C_readCommandWord_80, x_C_readCommandWord_81, x_C_readCommandWord_84, x_C_readCommandWord_85, x_C_readCommandWord_85N, e43, hC.1, hC.2.1, hS.1, e, e3, e4, c1, c2, c3, h2, cw, or_true, bI_0, bI_t, bI_f, e10, isA30, isA31, isA33, isA40, isA42, isA43, rOkB0, rOkB1, rOkB, Ret_v, Ret_n, cmp_eq, cmp_lt, cmp_gt, nI_1, eq_self, if_true, if_false, reduceIte]
    · have cf : (decide (q = p + cmL i) && wrt x n (cmC i) p 0 (cmL i)) = false := by
        cases h : (decide (q = p + cmL i) && wrt x n (cmC i) p 0 (cmL i)) with
        | false => simp
        | true =>
          rw [Bool.and_eq_true, decide_eq_true_eq] at h
          exact absurd h q1
      rw [cf] at cw
      rw [show cmd x n p q i (k + 1) = cmd x n p q (i + 1) k by simp only [cmd]; rw [if_neg q1]]
      simp only [x_C_readCommandWord_0, x_C_readCommandWord_1, x_C_readCommandWord_4, x_C_readCommandWord_5, x_C_readCommandWord_6, x_C_readCommandWord_8, x_C_readCommandWord_11, x_C_readCommandWord_14, x_C_readCommandWord_15, x_C_readCommandWord_18, x_C_readCommandWord_21, x_C_readCommandWord_22, x_C_readCommandWord_23, x_C_readCommandWord_26, x_C_readCommandWord_27, x_C_readCommandWord_28, x_C_readCommandWord_31, x_C_readCommandWord_34, x_C_readCommandWord_37, x_C_readCommandWord_38, x_C_readCommandWord_40, x_C_readCommandWord_43, x_C_readCommandWord_44, x_C_readCommandWord_47, x_C_readCommandWord_48, x_C_readCommandWord_51, x_C_readCommandWord_52, x_C_readCommandWord_53, x_C_readCommandWord_56, x_C_readCommandWord_57, x_C_readCommandWord_58, x_C_readCommandWord_61, x_C_readCommandWord_64, x_C_readCommandWord_67, x_C_readCommandWord_70, x_C_readCommandWord_71, x_C_readCommandWord_72, x_C_readCommandWord_72N, x_C_readCommandWord_73, x_C_readCommandWord_76, x_C_readCommandWord_79, x_C_readCommandWord_80, x_C_readCommandWord_81, x_C_readCommandWord_84, x_C_readCommandWord_85, x_C_readCommandWord_85N, e43, hC.1, hC.2.1, hS.1, e, e3, e4, c1, c2, c3, h2, cw, or_true, nI_1', l, bI_0, bI_t, bI_f, e10, isA30, isA31, isA33, isA40, isA42, isA43, rOkB0, rOkB1, rOkB, Ret_v, Ret_n, cmp_eq, cmp_lt, cmp_gt, nI_1, eq_self, if_true, if_false, reduceIte]
end CF
