section HI
variable {I I' : MI} {J J' : MJ} {R R' : MR} {S : Sh} {Q : SkQ} {h B b cap n lo hi : Nat} {a : Bk} {π : Nat → Nat} {s : Nat → Bk}
theorem HsD_fr (hS : HsS R S h π) (hD : HsD I J h π s n) (hf : fr lo hi I J I' J') (hh : h + 109 < lo ∨ hi < h) : HsD I' J' h π s n := by
  obtain ⟨d0, dn, ds⟩ := hD
  refine ⟨by rw [(hf h (by omega)).1]; exact d0, dn, fun i hi' => ?_⟩
  have := hS.2.2.2.2.2.1 i (by omega)
  exact ⟨BkD_fr (ds i hi').1 hf (by omega), (ds i hi').2⟩
/-- a free book is there: it takes the state -/
theorem l_H_save (hS : HsS R S h π) (hD : HsD I J h π s n) (hn : n < 4) (hB : BkS R S B) (hBD : BkD I J B a) (hF : BkF a) (hd : B + 26 < h ∨ h + 109 < B) (hQ : ∀ I' J', fr h (h + 109) I J I' J' → HsD I' J' h π (fun i => if i = n then a else s i) (n + 1) → Q 0 none I' J' R S) : Wp 144 12 [.ref h, .ref B, nov] [] I J R S Q := by
  have sa := fun Q' => c_H_savedAt (Q := Q') (I := I) (J := J) hS hn
  obtain ⟨s0, s1, n1, r0, rp, rb, ra⟩ := hS
  obtain ⟨d0, dn, ds⟩ := hD
  obtain ⟨b0, b1, b2⟩ := rb n hn
  simp only [x_H_save_12, x_H_save_13, x_H_save_14, x_H_save_17, x_H_save_20, x_H_save_21, x_H_save_22, x_H_save_25, x_H_save_26, x_H_save_27, s0, d0, sa, b0.1, bI_0, bI_t, bI_f, e10, isA30, isA31, isA33, isA40, isA42, isA43, rOkB0, rOkB1, rOkB, Ret_v, Ret_n, cmp_eq, cmp_lt, cmp_gt, nI_1, eq_self, if_true, if_false, reduceIte]
  refine c_O_copyFrom b0 hB (by omega) hF hBD (fun I1 J1 f1 d1 => ?_)
  have e0 : I1 h 1 = nI n := by rw [(f1 h (by omega)).1]; exact d0
  simp only [x_H_save_30, x_H_save_31, x_H_save_32, x_H_save_35, x_H_save_36, x_H_save_37, x_H_save_40, s0, e0, nI_1', bI_0, bI_t, bI_f, e10, isA30, isA31, isA33, isA40, isA42, isA43, rOkB0, rOkB1, rOkB, Ret_v, Ret_n, cmp_eq, cmp_lt, cmp_gt, nI_1, eq_self, if_true, if_false, reduceIte]
  have f2 : fr h (h + 109) I J (u2 I1 h 1 (nI (n + 1))) J1 := fr_I (fr_mono f1 (by omega)) (by omega)
  have f3 : fr h h I1 J1 (u2 I1 h 1 (nI (n + 1))) J1 := fr_I fr_rfl (by omega)
  refine hQ _ _ f2 ⟨u2_eq, by omega, fun i hi => ?_⟩
  dsimp only
  by_cases q : i = n
  · rw [if_pos q, q]
    exact ⟨BkD_fr d1 f3 (by omega), hF⟩
  · rw [if_neg q]
    have b3 := rb i (by omega)
    have b4 := ra i n (by omega) hn q
    exact ⟨BkD_fr (BkD_fr (ds i (by omega)).1 f1 (by omega)) f3 (by omega), (ds i (by omega)).2⟩
theorem c_H_save (hS : HsS R S h π) (hD : HsD I J h π s n) (hB : BkS R S B) (hBD : BkD I J B a) (hF : BkF a) (hd : B + 26 < h ∨ h + 109 < B) (hQ : ∀ I' J' R' π', fr h (h + 109) I J I' J' → frR (h + 1) R R' → HsS R' S h π' → HsD I' J' h π' (svS s n a) (svN n) → Q 0 none I' J' R' S) : Wp 144 0 [.ref h, .ref B, nov] [] I J R S Q := by
  by_cases q : n = 4
  · subst q
    have e : ¬ nI 4 < 4 := by decide
    have s0 := hS.1
    simp only [x_H_save_0, x_H_save_1, x_H_save_4, x_H_save_5, x_H_save_8, x_H_save_9, s0, hD.1, e, bI_0, bI_t, bI_f, e10, isA30, isA31, isA33, isA40, isA42, isA43, rOkB0, rOkB1, rOkB, Ret_v, Ret_n, cmp_eq, cmp_lt, cmp_gt, nI_1, eq_self, if_true, if_false, reduceIte]
    refine c_H_forget hS (fun R2 hR hl => ?_)
    rw [Ret_n]
    obtain ⟨-, s1, n1, r0, rp, rb, ra⟩ := hS
    obtain ⟨d0, dn, ds⟩ := hD
    have hS2 : HsS R2 S h (fun i => if i = 3 then π 0 else π (i + 1)) := by
      refine ⟨s0, s1, n1, by rw [hR h (by omega)]; exact r0, fun i hi => ?_, fun i hi => ?_, fun i j hi hj hne => ?_⟩
      · rw [hl i hi]
        dsimp only
        by_cases q : i = 3
        · rw [if_pos q, if_pos q]
        · rw [if_neg q, if_neg q]
      · dsimp only
        by_cases q : i = 3
        · rw [if_pos q]
          have := rb 0 (by omega)
          exact ⟨BkS_R this.1 (fun q h1 h2 => hR q (by omega)), this.2⟩
        · rw [if_neg q]
          have := rb (i + 1) (by omega)
          exact ⟨BkS_R this.1 (fun q h1 h2 => hR q (by omega)), this.2⟩
      · dsimp only
        by_cases q : i = 3
        · rw [if_pos q, if_neg (by omega)]
          exact ra 0 (j + 1) (by omega) (by omega) (by omega)
        · rw [if_neg q]
          by_cases q2 : j = 3
          · rw [if_pos q2]
            exact ra (i + 1) 0 (by omega) (by omega) (by omega)
          · rw [if_neg q2]
            exact ra (i + 1) (j + 1) (by omega) (by omega) (by omega)
    have f1 : fr h h I J (u2 I h 1 3) J := fr_I fr_rfl (by omega)
    have hD2 : HsD (u2 I h 1 3) J h (fun i => if i = 3 then π 0 else π (i + 1)) (fun i => s (i + 1)) 3 := by
      refine ⟨u2_eq, by omega, fun i hi => ?_⟩
      dsimp only
      rw [if_neg (by omega)]
      have := rb (i + 1) (by omega)
      exact ⟨BkD_fr (ds (i + 1) (by omega)).1 f1 (by omega), (ds (i + 1) (by omega)).2⟩
    refine l_H_save hS2 hD2 (by omega) (BkS_R hB (fun q h1 h2 => hR q (by omega))) (BkD_fr hBD f1 (by omega)) hF hd (fun I' J' hf hd' => ?_)
    exact hQ I' J' R2 _ (fr_trans (lo := h) (hi := h + 109) f1 hf (by omega) (by omega)) hR hS2 hd'
  · have hn : n < 4 := by have := hD.2.1; omega
    have e : nI n < 4 := by rw [show (4 : Int32) = nI 4 by decide]; exact nI_lt hn (by omega)
    have s0 := hS.1
    simp only [x_H_save_0, x_H_save_1, x_H_save_4, x_H_save_5, s0, hD.1, e, bI_0, bI_t, bI_f, e10, isA30, isA31, isA33, isA40, isA42, isA43, rOkB0, rOkB1, rOkB, Ret_v, Ret_n, cmp_eq, cmp_lt, cmp_gt, nI_1, eq_self, if_true, if_false, reduceIte]
    refine l_H_save hS hD hn hB hBD hF hd (fun I' J' hf hd' => hQ I' J' R π hf frR_rfl hS ?_)
    unfold svS svN
    rw [if_neg q, if_neg q]
    exact hd'
theorem c_H_restore (hS : HsS R S h π) (hD : HsD I J h π s n) (h0 : 0 < n) (hB : BkS R S B) (hd : B + 26 < h) (hQ : ∀ I' J', fr B (h + 109) I J I' J' → (∀ p, B + 26 < p → p < h → I' p = I p ∧ J' p = J p) → HsD I' J' h π s (n - 1) → BkD I' J' B (s (n - 1)) → Q 0 (some (.int (nI (n - 1)))) I' J' R S) : Wp 146 0 [.ref h, .ref B, nov] [] I J R S Q := by
  have hS' := hS
  have dn := hD.2.1
  have sa := fun Q' => c_H_savedAt (Q := Q') (I := I) (J := J) hS (show n - 1 < 4 by omega)
  obtain ⟨s0, s1, n1, r0, rp, rb, ra⟩ := hS
  obtain ⟨d0, -, ds⟩ := hD
  obtain ⟨b0, b1, b2⟩ := rb (n - 1) (by omega)
  have e1 : nI n - 1 = nI (n - 1) := nI_sub (b := 1) h0
  simp only [x_H_restore_0, x_H_restore_1, x_H_restore_2, x_H_restore_5, x_H_restore_6, x_H_restore_7, x_H_restore_10, x_H_restore_10N, x_H_restore_11, x_H_restore_11N, x_H_restore_12, x_H_restore_12N, x_H_restore_15, x_H_restore_16, x_H_restore_16N, x_H_restore_17, x_H_restore_20, x_H_restore_21, x_H_restore_22, x_H_restore_25, x_H_restore_26, x_H_restore_27, x_H_restore_30, x_H_restore_31, x_H_restore_34, s0, d0, e1, sa, hB.1, bI_0, bI_t, bI_f, e10, isA30, isA31, isA33, isA40, isA42, isA43, rOkB0, rOkB1, rOkB, Ret_v, Ret_n, cmp_eq, cmp_lt, cmp_gt, nI_1, eq_self, if_true, if_false, reduceIte]
  refine c_O_copyFrom hB b0 (by omega) (ds (n - 1) (by omega)).2 (ds (n - 1) (by omega)).1 (fun I1 J1 f1 d1 => ?_)
  have e0 : I1 h 1 = nI n := by rw [(f1 h (by omega)).1]; exact d0
  have e2 : u2 I1 h 1 (nI (n - 1)) h 1 = nI (n - 1) := u2_eq
  simp only [x_H_restore_0, x_H_restore_1, x_H_restore_2, x_H_restore_5, x_H_restore_6, x_H_restore_7, x_H_restore_10, x_H_restore_10N, x_H_restore_11, x_H_restore_11N, x_H_restore_12, x_H_restore_12N, x_H_restore_15, x_H_restore_16, x_H_restore_16N, x_H_restore_17, x_H_restore_20, x_H_restore_21, x_H_restore_22, x_H_restore_25, x_H_restore_26, x_H_restore_27, x_H_restore_30, x_H_restore_31, x_H_restore_34, s0, e0, e1, e2, bI_0, bI_t, bI_f, e10, isA30, isA31, isA33, isA40, isA42, isA43, rOkB0, rOkB1, rOkB, Ret_v, Ret_n, cmp_eq, cmp_lt, cmp_gt, nI_1, eq_self, if_true, if_false, reduceIte]
  have f3 : fr h h I1 J1 (u2 I1 h 1 (nI (n - 1))) J1 := fr_I fr_rfl (by omega)
  refine hQ _ _ (fr_trans (lo := B) (hi := h + 109) f1 f3 (by omega) (by omega)) (fun p h1 h2 => ?_) ⟨u2_eq, by omega, fun i hi => ?_⟩ (BkD_fr d1 f3 (by omega))
  · rw [(f3 p (by omega)).1, (f3 p (by omega)).2]
    exact f1 p (by omega)
  · have b3 := rb i (by omega)
    exact ⟨BkD_fr (BkD_fr (ds i (by omega)).1 f1 (by omega)) f3 (by omega), (ds i (by omega)).2⟩
end HI

