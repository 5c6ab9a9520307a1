/-! what changes the book -/
def cut (p : Rw) (m : Nat) : Rw := if m ≤ p.1 then rDel p 0 else p
def aPutW (a : Bk) (w : Int64) (c : Int32) : Bk := if fw (bW a) w < (bW a).1 then bkW a (rPut (bW a) (fw (bW a) w) c) else bkW a (rIns (bW a) (ahd (bW a) w) w 0 c)
def aDelW (a : Bk) (w : Int64) : Bk := if fw (bW a) w < (bW a).1 then bkW a (rDel (bW a) (fw (bW a) w)) else a
def aPutN (a : Bk) (w : Int64) : Bk := if fw (bN a) w < (bN a).1 then a else bkN a (rIns (bN a) (ahd (bN a) w) w 0 0)
def aDelN (a : Bk) (w : Int64) : Bk := if fw (bN a) w < (bN a).1 then bkN a (rDel (bN a) (fw (bN a) w)) else a
def aDelB (a : Bk) (t w : Int64) : Bk := if fp (bB a) t w < (bB a).1 then bkB a (rDel (bB a) (fp (bB a) t w)) else a
def aStk (a : Bk) (k : Nat) (v : Int32) : Bk := bkK a (fun i => if i = k then v else bK a i)
def aSet (a : Bk) (k : Nat) (v : Int32) : Bk := bkT a (fun i => if i = k then v else bT a i)
def up1 (c m : Int32) : Int32 := if m < c + 1 then m else c + 1
def aRaise (a : Bk) (w : Int64) : Bk := bkW a (rPut (bW a) (fw (bW a) w) (up1 ((bW a).2.2.2 (fw (bW a) w)) 999))
def lrnP (p : Rw) : Rw := if 24 ≤ p.1 then rDel p (lsI p.2.2.2 0 1 (p.1 - 1)) else p
def aLearn (a : Bk) (t w : Int64) : Bk := if fp (bP a) t w < (bP a).1 then bkP a (rPut (bP a) (fp (bP a) t w) (up1 ((bP a).2.2.2 (fp (bP a) t w)) 99)) else bkP a (rIns (lrnP (bP a)) (lrnP (bP a)).1 t w 1)
def aRec (a : Bk) (t w : Int64) : Bk := aLearn (bkL a (rIns (cut (bL a) 20) (cut (bL a) 20).1 t w 0)) t w
def strS (p : Rw) (t : Int64) : Rw := if fw p t < p.1 then p else rIns (cut p 20) (cut p 20).1 t 0 0
def strK (p : Rw) (t : Int64) : Nat := if fw p t < p.1 then fw p t else (cut p 20).1
def strC (p : Rw) (t : Int64) : Int32 := (strS p t).2.2.2 (strK p t) + 1
def strP (p : Rw) (t : Int64) : Rw := rPut (strS p t) (strK p t) (strC p t)
def aStr (a : Bk) (t : Int64) : Bk := if strC (bS a) t = bT a 2 ∧ (bN a).1 < 10 then bkS (aPutN a t) (rDel (strP (bS a) t) (strK (bS a) t)) else bkS a (strP (bS a) t)
def bkF (a : Bk) : Int64 := (bL a).2.1 (late a - 1)
def bkG (a : Bk) : Int64 := (bL a).2.2.1 (late a - 1)
def aBan (a : Bk) (t w : Int64) : Bk := if fp (bB a) t w < (bB a).1 then a else bkB a (rIns (bB a) (bB a).1 t w 0)
def aDelP (a : Bk) (t w : Int64) : Bk := if fp (bP a) t w < (bP a).1 then bkP a (rDel (bP a) (fp (bP a) t w)) else a
def aBack (a : Bk) : Bk := aStr (aDelP (aBan (bkL a (rPut (bL a) (late a - 1) 1)) (bkF a) (bkG a)) (bkF a) (bkG a)) (bkF a)
theorem fr_mono {lo hi a b : Nat} {I I' : MI} {J J' : MJ} (h : fr a b I J I' J') (l : lo ≤ a ∧ b ≤ hi) : fr lo hi I J I' J' := fun p hp => h p (by omega)
section OW
variable {I : MI} {J : MJ} {R : MR} {S : Sh} {Q : SkQ} {B T : Nat} {a : Bk} {I' : MI} {J' : MJ} {r : Rw}
theorem BkD_W (hD : BkD I J B a) (hf : fr (B + 1) (B + 1 + 3) I J I' J') (hr : RwD I' J' (B + 1) r) : BkD I' J' B (bkW a r) := by
  obtain ⟨dW, dN, dP, dB, dS, dL, dK, dT⟩ := hD
  exact ⟨hr, RwD_fr dN hf (by omega), RwD_fr dP hf (by omega), RwD_fr dB hf (by omega), RwD_fr dS hf (by omega), RwD_fr dL hf (by omega), fun i hi => by rw [(hf (B + 25) (by omega)).1]; exact dK i hi, fun i hi => by rw [(hf (B + 26) (by omega)).1]; exact dT i hi⟩
theorem BkD_N (hD : BkD I J B a) (hf : fr (B + 5) (B + 5 + 3) I J I' J') (hr : RwD I' J' (B + 5) r) : BkD I' J' B (bkN a r) := by
  obtain ⟨dW, dN, dP, dB, dS, dL, dK, dT⟩ := hD
  exact ⟨RwD_fr dW hf (by omega), hr, RwD_fr dP hf (by omega), RwD_fr dB hf (by omega), RwD_fr dS hf (by omega), RwD_fr dL hf (by omega), fun i hi => by rw [(hf (B + 25) (by omega)).1]; exact dK i hi, fun i hi => by rw [(hf (B + 26) (by omega)).1]; exact dT i hi⟩
theorem BkD_P (hD : BkD I J B a) (hf : fr (B + 9) (B + 9 + 3) I J I' J') (hr : RwD I' J' (B + 9) r) : BkD I' J' B (bkP a r) := by
  obtain ⟨dW, dN, dP, dB, dS, dL, dK, dT⟩ := hD
  exact ⟨RwD_fr dW hf (by omega), RwD_fr dN hf (by omega), hr, RwD_fr dB hf (by omega), RwD_fr dS hf (by omega), RwD_fr dL hf (by omega), fun i hi => by rw [(hf (B + 25) (by omega)).1]; exact dK i hi, fun i hi => by rw [(hf (B + 26) (by omega)).1]; exact dT i hi⟩
theorem BkD_B (hD : BkD I J B a) (hf : fr (B + 13) (B + 13 + 3) I J I' J') (hr : RwD I' J' (B + 13) r) : BkD I' J' B (bkB a r) := by
  obtain ⟨dW, dN, dP, dB, dS, dL, dK, dT⟩ := hD
  exact ⟨RwD_fr dW hf (by omega), RwD_fr dN hf (by omega), RwD_fr dP hf (by omega), hr, RwD_fr dS hf (by omega), RwD_fr dL hf (by omega), fun i hi => by rw [(hf (B + 25) (by omega)).1]; exact dK i hi, fun i hi => by rw [(hf (B + 26) (by omega)).1]; exact dT i hi⟩
theorem BkD_S (hD : BkD I J B a) (hf : fr (B + 17) (B + 17 + 3) I J I' J') (hr : RwD I' J' (B + 17) r) : BkD I' J' B (bkS a r) := by
  obtain ⟨dW, dN, dP, dB, dS, dL, dK, dT⟩ := hD
  exact ⟨RwD_fr dW hf (by omega), RwD_fr dN hf (by omega), RwD_fr dP hf (by omega), RwD_fr dB hf (by omega), hr, RwD_fr dL hf (by omega), fun i hi => by rw [(hf (B + 25) (by omega)).1]; exact dK i hi, fun i hi => by rw [(hf (B + 26) (by omega)).1]; exact dT i hi⟩
theorem BkD_L (hD : BkD I J B a) (hf : fr (B + 21) (B + 21 + 3) I J I' J') (hr : RwD I' J' (B + 21) r) : BkD I' J' B (bkL a r) := by
  obtain ⟨dW, dN, dP, dB, dS, dL, dK, dT⟩ := hD
  exact ⟨RwD_fr dW hf (by omega), RwD_fr dN hf (by omega), RwD_fr dP hf (by omega), RwD_fr dB hf (by omega), RwD_fr dS hf (by omega), hr, fun i hi => by rw [(hf (B + 25) (by omega)).1]; exact dK i hi, fun i hi => by rw [(hf (B + 26) (by omega)).1]; exact dT i hi⟩
theorem BkD_K (hD : BkD I J B a) (k : Nat) (v : Int32) : BkD (u2 I (B + 25) k v) J B (aStk a k v) := by
  obtain ⟨dW, dN, dP, dB, dS, dL, dK, dT⟩ := hD
  have hf : fr (B + 25) (B + 25) I J (u2 I (B + 25) k v) J := fr_I fr_rfl (by omega)
  refine ⟨RwD_fr dW hf (by omega), RwD_fr dN hf (by omega), RwD_fr dP hf (by omega), RwD_fr dB hf (by omega), RwD_fr dS hf (by omega), RwD_fr dL hf (by omega), fun i hi => ?_, fun i hi => by rw [(hf (B + 26) (by omega)).1]; exact dT i hi⟩
  show u2 I (B + 25) k v (B + 25) i = if i = k then v else bK a i
  by_cases e : i = k
  · rw [if_pos e, e, u2_eq]
  · rw [if_neg e, u2_of (by omega)]; exact dK i hi
theorem BkD_T (hD : BkD I J B a) (k : Nat) (v : Int32) : BkD (u2 I (B + 26) k v) J B (aSet a k v) := by
  obtain ⟨dW, dN, dP, dB, dS, dL, dK, dT⟩ := hD
  have hf : fr (B + 26) (B + 26) I J (u2 I (B + 26) k v) J := fr_I fr_rfl (by omega)
  refine ⟨RwD_fr dW hf (by omega), RwD_fr dN hf (by omega), RwD_fr dP hf (by omega), RwD_fr dB hf (by omega), RwD_fr dS hf (by omega), RwD_fr dL hf (by omega), fun i hi => by rw [(hf (B + 25) (by omega)).1]; exact dK i hi, fun i hi => ?_⟩
  show u2 I (B + 26) k v (B + 26) i = if i = k then v else bT a i
  by_cases e : i = k
  · rw [if_pos e, e, u2_eq]
  · rw [if_neg e, u2_of (by omega)]; exact dT i hi
theorem c_O_putWord (hS : BkS R S B) (hD : BkD I J B a) (hI : BkI T a) {w : Int64} {c : Int32} (ww : isW w = true) (hr : roomW a w = true) (hQ : ∀ I' J', fr B (B + 26) I J I' J' → BkD I' J' B (aPutW a w c) → Q 0 (some (.int (numW (bW a) w))) I' J' R S) : Wp 85 0 [.ref B, .long w, nov, .int c, nov] [] I J R S Q := by
  have g := fun Q' => c_O_countOf (Q := Q') hS hD hI (w := w)
  have h := fun Q' => c_O_hasWord (Q := Q') hS hD hI (w := w)
  have s0 := hS.1
  have sW := hS.2.1
  have r0 := hS.2.2.2.2.2.2.2.2.2.2.2.1
  have f := fun Q' => c_R_fw (Q := Q') sW hD.1 hI.1 (by omega) hI.2.2.2.2.2.2.1 (w := w)
  have iW := hI.1
  by_cases q : fw (bW a) w < (bW a).1
  · simp only [hasW, decide_eq_true q] at h
    rw [frI_lt q] at f
    simp only [x_O_putWord_0, x_O_putWord_1, x_O_putWord_2, x_O_putWord_5, x_O_putWord_7, x_O_putWord_8, x_O_putWord_9, x_O_putWord_12, x_O_putWord_15, x_O_putWord_16, x_O_putWord_19, x_O_putWord_20, x_O_putWord_23, x_O_putWord_24, x_O_putWord_25, x_O_putWord_28, x_O_putWord_29, x_O_putWord_32, x_O_putWord_35, x_O_putWord_36, x_O_putWord_39, x_O_putWord_40, x_O_putWord_41, x_O_putWord_44, x_O_putWord_46, s0, r0, sW.1, g, h, f, bI_0, bI_t, bI_f, e10, isA30, isA31, isA33, isA40, isA42, isA43, rOkB0, rOkB1, rOkB, Ret_v, Ret_n, cmp_eq, cmp_lt, cmp_gt, nI_1, eq_self, if_true, if_false, reduceIte]
    refine c_R_putNumber sW hD.1 iW (by omega) (inb_nI q (by omega)) (fun I' hf hd => ?_)
    rw [ix_nI (by omega)] at hd
    simp only [x_O_putWord_0, x_O_putWord_1, x_O_putWord_2, x_O_putWord_5, x_O_putWord_7, x_O_putWord_8, x_O_putWord_9, x_O_putWord_12, x_O_putWord_15, x_O_putWord_16, x_O_putWord_19, x_O_putWord_20, x_O_putWord_23, x_O_putWord_24, x_O_putWord_25, x_O_putWord_28, x_O_putWord_29, x_O_putWord_32, x_O_putWord_35, x_O_putWord_36, x_O_putWord_39, x_O_putWord_40, x_O_putWord_41, x_O_putWord_44, x_O_putWord_46, bI_0, bI_t, bI_f, e10, isA30, isA31, isA33, isA40, isA42, isA43, rOkB0, rOkB1, rOkB, Ret_v, Ret_n, cmp_eq, cmp_lt, cmp_gt, nI_1, eq_self, if_true, if_false, reduceIte]
    refine hQ _ _ (fr_mono hf (by omega)) ?_
    unfold aPutW
    rw [if_pos q]
    exact BkD_W hD hf hd
  · simp only [hasW, decide_eq_false q] at h
    have hn : (bW a).1 < 20 := by
      unfold roomW hasW at hr
      rw [decide_eq_false q, Bool.or_false] at hr
      exact of_decide_eq_true hr
    simp only [x_O_putWord_0, x_O_putWord_1, x_O_putWord_2, x_O_putWord_5, x_O_putWord_7, x_O_putWord_8, x_O_putWord_9, x_O_putWord_12, x_O_putWord_15, x_O_putWord_16, x_O_putWord_19, x_O_putWord_20, x_O_putWord_23, x_O_putWord_24, x_O_putWord_25, x_O_putWord_28, x_O_putWord_29, x_O_putWord_32, x_O_putWord_35, x_O_putWord_36, x_O_putWord_39, x_O_putWord_40, x_O_putWord_41, x_O_putWord_44, x_O_putWord_46, s0, r0, sW.1, g, h, bI_0, bI_t, bI_f, e10, isA30, isA31, isA33, isA40, isA42, isA43, rOkB0, rOkB1, rOkB, Ret_v, Ret_n, cmp_eq, cmp_lt, cmp_gt, nI_1, eq_self, if_true, if_false, reduceIte]
    refine c_R_insertInOrder sW hD.1 hn (by omega) hI.2.2.2.2.2.2.2.2.2.1 ww (fun I' J' hf hd => ?_)
    simp only [x_O_putWord_0, x_O_putWord_1, x_O_putWord_2, x_O_putWord_5, x_O_putWord_7, x_O_putWord_8, x_O_putWord_9, x_O_putWord_12, x_O_putWord_15, x_O_putWord_16, x_O_putWord_19, x_O_putWord_20, x_O_putWord_23, x_O_putWord_24, x_O_putWord_25, x_O_putWord_28, x_O_putWord_29, x_O_putWord_32, x_O_putWord_35, x_O_putWord_36, x_O_putWord_39, x_O_putWord_40, x_O_putWord_41, x_O_putWord_44, x_O_putWord_46, bI_0, bI_t, bI_f, e10, isA30, isA31, isA33, isA40, isA42, isA43, rOkB0, rOkB1, rOkB, Ret_v, Ret_n, cmp_eq, cmp_lt, cmp_gt, nI_1, eq_self, if_true, if_false, reduceIte]
    refine hQ _ _ (fr_mono hf (by omega)) ?_
    unfold aPutW
    rw [if_neg q]
    exact BkD_W hD hf hd
theorem c_O_removeWord (hS : BkS R S B) (hD : BkD I J B a) (hI : BkI T a) {w : Int64} (hQ : ∀ I' J', fr B (B + 26) I J I' J' → BkD I' J' B (aDelW a w) → Q 0 (some (.int (numW (bW a) w))) I' J' R S) : Wp 86 0 [.ref B, .long w, nov, nov] [] I J R S Q := by
  have g := fun Q' => c_O_countOf (Q := Q') hS hD hI (w := w)
  have s0 := hS.1
  have sW := hS.2.1
  have r0 := hS.2.2.2.2.2.2.2.2.2.2.2.1
  have iW := hI.1
  have f := fun Q' => c_R_fw (Q := Q') sW hD.1 iW (by omega) hI.2.2.2.2.2.2.1 (w := w)
  by_cases q : fw (bW a) w < (bW a).1
  · rw [frI_lt q] at f
    simp only [x_O_removeWord_0, x_O_removeWord_1, x_O_removeWord_2, x_O_removeWord_5, x_O_removeWord_6, x_O_removeWord_7, x_O_removeWord_10, x_O_removeWord_11, x_O_removeWord_14, x_O_removeWord_15, x_O_removeWord_16, x_O_removeWord_19, x_O_removeWord_22, x_O_removeWord_23, s0, r0, sW.1, g, f, bI_0, bI_t, bI_f, e10, isA30, isA31, isA33, isA40, isA42, isA43, rOkB0, rOkB1, rOkB, Ret_v, Ret_n, cmp_eq, cmp_lt, cmp_gt, nI_1, eq_self, if_true, if_false, reduceIte]
    refine c_R_remove sW hD.1 iW (by omega) q (fun I' J' hf hd => ?_)
    simp only [x_O_removeWord_0, x_O_removeWord_1, x_O_removeWord_2, x_O_removeWord_5, x_O_removeWord_6, x_O_removeWord_7, x_O_removeWord_10, x_O_removeWord_11, x_O_removeWord_14, x_O_removeWord_15, x_O_removeWord_16, x_O_removeWord_19, x_O_removeWord_22, x_O_removeWord_23, bI_0, bI_t, bI_f, e10, isA30, isA31, isA33, isA40, isA42, isA43, rOkB0, rOkB1, rOkB, Ret_v, Ret_n, cmp_eq, cmp_lt, cmp_gt, nI_1, eq_self, if_true, if_false, reduceIte]
    refine hQ _ _ (fr_mono hf (by omega)) ?_
    unfold aDelW
    rw [if_pos q]
    exact BkD_W hD hf hd
  · rw [frI_ge q] at f
    simp only [x_O_removeWord_0, x_O_removeWord_1, x_O_removeWord_2, x_O_removeWord_5, x_O_removeWord_6, x_O_removeWord_7, x_O_removeWord_10, x_O_removeWord_11, x_O_removeWord_14, x_O_removeWord_15, x_O_removeWord_16, x_O_removeWord_19, x_O_removeWord_22, x_O_removeWord_23, s0, r0, sW.1, g, f, bI_0, bI_t, bI_f, e10, isA30, isA31, isA33, isA40, isA42, isA43, rOkB0, rOkB1, rOkB, Ret_v, Ret_n, cmp_eq, cmp_lt, cmp_gt, nI_1, eq_self, if_true, if_false, reduceIte, c_R_remove_no sW hD.1 iW (by omega) inb_m1]
    refine hQ _ _ fr_rfl ?_
    unfold aDelW
    rw [if_neg q]
    exact hD
theorem c_O_putName (hS : BkS R S B) (hD : BkD I J B a) (hI : BkI T a) {w : Int64} (ww : isW w = true) (hr : roomN a w = true) (hQ : ∀ I' J', fr B (B + 26) I J I' J' → BkD I' J' B (aPutN a w) → Q 0 (some (.int (bI (!hasN a w)))) I' J' R S) : Wp 87 0 [.ref B, .long w, nov] [] I J R S Q := by
  have h := fun Q' => c_O_hasName (Q := Q') hS hD hI (w := w)
  have s0 := hS.1
  have sN := hS.2.2.1
  have r1 := hS.2.2.2.2.2.2.2.2.2.2.2.2.1
  have iN := hI.2.1
  by_cases q : fw (bN a) w < (bN a).1
  · simp only [hasN, decide_eq_true q] at h hQ
    simp only [x_O_putName_0, x_O_putName_1, x_O_putName_2, x_O_putName_5, x_O_putName_8, x_O_putName_9, x_O_putName_10, x_O_putName_11, x_O_putName_14, x_O_putName_15, x_O_putName_16, x_O_putName_19, x_O_putName_20, s0, h, bI_0, bI_t, bI_f, e10, isA30, isA31, isA33, isA40, isA42, isA43, rOkB0, rOkB1, rOkB, Ret_v, Ret_n, cmp_eq, cmp_lt, cmp_gt, nI_1, eq_self, if_true, if_false, reduceIte]
    refine hQ _ _ fr_rfl ?_
    unfold aPutN
    rw [if_pos q]
    exact hD
  · simp only [hasN, decide_eq_false q] at h hQ
    have hn : (bN a).1 < 10 := by
      unfold roomN hasN at hr
      rw [decide_eq_false q, Bool.or_false] at hr
      exact of_decide_eq_true hr
    simp only [x_O_putName_0, x_O_putName_1, x_O_putName_2, x_O_putName_5, x_O_putName_8, x_O_putName_9, x_O_putName_10, x_O_putName_11, x_O_putName_14, x_O_putName_15, x_O_putName_16, x_O_putName_19, x_O_putName_20, s0, r1, sN.1, h, bI_0, bI_t, bI_f, e10, isA30, isA31, isA33, isA40, isA42, isA43, rOkB0, rOkB1, rOkB, Ret_v, Ret_n, cmp_eq, cmp_lt, cmp_gt, nI_1, eq_self, if_true, if_false, reduceIte]
    refine c_R_insertInOrder sN hD.2.1 hn (by omega) hI.2.2.2.2.2.2.2.2.2.2.1 ww (fun I' J' hf hd => ?_)
    simp only [x_O_putName_0, x_O_putName_1, x_O_putName_2, x_O_putName_5, x_O_putName_8, x_O_putName_9, x_O_putName_10, x_O_putName_11, x_O_putName_14, x_O_putName_15, x_O_putName_16, x_O_putName_19, x_O_putName_20, bI_0, bI_t, bI_f, e10, isA30, isA31, isA33, isA40, isA42, isA43, rOkB0, rOkB1, rOkB, Ret_v, Ret_n, cmp_eq, cmp_lt, cmp_gt, nI_1, eq_self, if_true, if_false, reduceIte]
    refine hQ _ _ (fr_mono hf (by omega)) ?_
    unfold aPutN
    rw [if_neg q]
    exact BkD_N hD hf hd
theorem c_O_removeName (hS : BkS R S B) (hD : BkD I J B a) (hI : BkI T a) {w : Int64} (hQ : ∀ I' J', fr B (B + 26) I J I' J' → BkD I' J' B (aDelN a w) → Q 0 (some (.int (bI (hasN a w)))) I' J' R S) : Wp 88 0 [.ref B, .long w, nov, nov] [] I J R S Q := by
  have h := fun Q' => c_O_hasName (Q := Q') hS hD hI (w := w)
  have s0 := hS.1
  have sN := hS.2.2.1
  have r1 := hS.2.2.2.2.2.2.2.2.2.2.2.2.1
  have iN := hI.2.1
  have f := fun Q' => c_R_fw (Q := Q') sN hD.2.1 iN (by omega) hI.2.2.2.2.2.2.2.1 (w := w)
  by_cases q : fw (bN a) w < (bN a).1
  · rw [frI_lt q] at f
    simp only [hasN, decide_eq_true q] at h hQ
    simp only [x_O_removeName_0, x_O_removeName_1, x_O_removeName_2, x_O_removeName_5, x_O_removeName_8, x_O_removeName_9, x_O_removeName_12, x_O_removeName_13, x_O_removeName_14, x_O_removeName_15, x_O_removeName_18, x_O_removeName_19, x_O_removeName_22, x_O_removeName_23, x_O_removeName_24, x_O_removeName_27, x_O_removeName_30, x_O_removeName_31, s0, r1, sN.1, h, f, bI_0, bI_t, bI_f, e10, isA30, isA31, isA33, isA40, isA42, isA43, rOkB0, rOkB1, rOkB, Ret_v, Ret_n, cmp_eq, cmp_lt, cmp_gt, nI_1, eq_self, if_true, if_false, reduceIte]
    refine c_R_remove sN hD.2.1 iN (by omega) q (fun I' J' hf hd => ?_)
    simp only [x_O_removeName_0, x_O_removeName_1, x_O_removeName_2, x_O_removeName_5, x_O_removeName_8, x_O_removeName_9, x_O_removeName_12, x_O_removeName_13, x_O_removeName_14, x_O_removeName_15, x_O_removeName_18, x_O_removeName_19, x_O_removeName_22, x_O_removeName_23, x_O_removeName_24, x_O_removeName_27, x_O_removeName_30, x_O_removeName_31, bI_0, bI_t, bI_f, e10, isA30, isA31, isA33, isA40, isA42, isA43, rOkB0, rOkB1, rOkB, Ret_v, Ret_n, cmp_eq, cmp_lt, cmp_gt, nI_1, eq_self, if_true, if_false, reduceIte]
    refine hQ _ _ (fr_mono hf (by omega)) ?_
    unfold aDelN
    rw [if_pos q]
    exact BkD_N hD hf hd
  · rw [frI_ge q] at f
    simp only [hasN, decide_eq_false q] at h hQ
    simp only [x_O_removeName_0, x_O_removeName_1, x_O_removeName_2, x_O_removeName_5, x_O_removeName_8, x_O_removeName_9, x_O_removeName_12, x_O_removeName_13, x_O_removeName_14, x_O_removeName_15, x_O_removeName_18, x_O_removeName_19, x_O_removeName_22, x_O_removeName_23, x_O_removeName_24, x_O_removeName_27, x_O_removeName_30, x_O_removeName_31, s0, r1, sN.1, h, f, bI_0, bI_t, bI_f, e10, isA30, isA31, isA33, isA40, isA42, isA43, rOkB0, rOkB1, rOkB, Ret_v, Ret_n, cmp_eq, cmp_lt, cmp_gt, nI_1, eq_self, if_true, if_false, reduceIte, c_R_remove_no sN hD.2.1 iN (by omega) inb_m1]
    refine hQ _ _ fr_rfl ?_
    unfold aDelN
    rw [if_neg q]
    exact hD
theorem c_O_putStick (hS : BkS R S B) (hD : BkD I J B a) {k : Nat} (hk : k < 26) {v : Int32} (hQ : ∀ I' J', fr B (B + 26) I J I' J' → BkD I' J' B (aStk a k v) → Q 0 (some (.int (bK a k))) I' J' R S) : Wp 91 0 [.ref B, .int (nI k), .int v, nov] [] I J R S Q := by
  have h := fun Q' => c_O_stickOf (Q := Q') hS hD (i := nI k)
  unfold stk at h
  rw [inb_nI hk (by omega), if_pos (by simp), ix_nI (by omega)] at h
  obtain ⟨s0, sW, sN, sP, sB, sS, sL, sK, sT, nK, nT, r0, r1, r2, r3, r4, r5, r6, r7⟩ := hS
  have e1 : ¬ nI k < 0 := nI_pos (by omega)
  have e2 : nI k < nI 26 := nI_lt hk (by omega)
  have e3 := inb_nI hk (by omega)
  have e4 : ix (nI k) = k := ix_nI (by omega)
  simp only [x_O_putStick_0, x_O_putStick_1, x_O_putStick_2, x_O_putStick_5, x_O_putStick_6, x_O_putStick_7, x_O_putStick_10, x_O_putStick_11, x_O_putStick_12, x_O_putStick_15, x_O_putStick_16, x_O_putStick_19, x_O_putStick_20, x_O_putStick_23, x_O_putStick_24, x_O_putStick_25, x_O_putStick_26, x_O_putStick_27, s0, r6, sK, nK, h, e1, e2, e3, e4, bI_0, bI_t, bI_f, e10, isA30, isA31, isA33, isA40, isA42, isA43, rOkB0, rOkB1, rOkB, Ret_v, Ret_n, cmp_eq, cmp_lt, cmp_gt, nI_1, eq_self, if_true, if_false, reduceIte]
  exact hQ _ _ (fr_I fr_rfl (by omega)) (BkD_K hD k v)
theorem c_O_putSetting (hS : BkS R S B) (hD : BkD I J B a) {k : Nat} (hk : k < 3) {v : Int32} (hQ : ∀ I' J', fr B (B + 26) I J I' J' → BkD I' J' B (aSet a k v) → Q 0 (some (.int (bT a k))) I' J' R S) : Wp 93 0 [.ref B, .int (nI k), .int v, nov] [] I J R S Q := by
  have h := fun Q' => c_O_settingOf (Q := Q') hS hD (i := nI k)
  unfold stg at h
  rw [inb_nI hk (by omega), if_pos (by simp), ix_nI (by omega)] at h
  obtain ⟨s0, sW, sN, sP, sB, sS, sL, sK, sT, nK, nT, r0, r1, r2, r3, r4, r5, r6, r7⟩ := hS
  have e1 : ¬ nI k < 0 := nI_pos (by omega)
  have e2 : nI k < nI 3 := nI_lt hk (by omega)
  have e3 := inb_nI hk (by omega)
  have e4 : ix (nI k) = k := ix_nI (by omega)
  simp only [x_O_putSetting_0, x_O_putSetting_1, x_O_putSetting_2, x_O_putSetting_5, x_O_putSetting_6, x_O_putSetting_7, x_O_putSetting_10, x_O_putSetting_11, x_O_putSetting_12, x_O_putSetting_15, x_O_putSetting_16, x_O_putSetting_19, x_O_putSetting_20, x_O_putSetting_23, x_O_putSetting_24, x_O_putSetting_25, x_O_putSetting_26, x_O_putSetting_27, s0, r7, sT, nT, h, e1, e2, e3, e4, bI_0, bI_t, bI_f, e10, isA30, isA31, isA33, isA40, isA42, isA43, rOkB0, rOkB1, rOkB, Ret_v, Ret_n, cmp_eq, cmp_lt, cmp_gt, nI_1, eq_self, if_true, if_false, reduceIte]
  exact hQ _ _ (fr_I fr_rfl (by omega)) (BkD_T hD k v)
theorem c_O_raiseCount (hS : BkS R S B) (hD : BkD I J B a) (hI : BkI T a) {w : Int64} (q : fw (bW a) w < (bW a).1) (hQ : ∀ I' J', fr B (B + 26) I J I' J' → BkD I' J' B (aRaise a w) → Q 0 none I' J' R S) : Wp 94 0 [.ref B, .long w, nov, nov] [] I J R S Q := by
  have s0 := hS.1
  have sW := hS.2.1
  have r0 := hS.2.2.2.2.2.2.2.2.2.2.2.1
  have iW := hI.1
  have f := fun Q' => c_R_fw (Q := Q') sW hD.1 iW (by omega) hI.2.2.2.2.2.2.1 (w := w)
  have g := fun Q' => c_R_numberAt (Q := Q') sW hD.1 iW (by omega) (i := nI (fw (bW a) w))
  rw [frI_lt q] at f
  rw [inb_nI q (by omega), if_pos (by simp), ix_nI (by omega)] at g
  simp only [x_O_raiseCount_0, x_O_raiseCount_1, x_O_raiseCount_4, x_O_raiseCount_5, x_O_raiseCount_6, x_O_raiseCount_9, x_O_raiseCount_10, x_O_raiseCount_11, x_O_raiseCount_14, x_O_raiseCount_15, x_O_raiseCount_16, x_O_raiseCount_19, x_O_raiseCount_20, x_O_raiseCount_23, x_O_raiseCount_24, x_O_raiseCount_25, x_O_raiseCount_28, x_O_raiseCount_31, x_O_raiseCount_34, s0, r0, sW.1, f, g, bI_0, bI_t, bI_f, e10, isA30, isA31, isA33, isA40, isA42, isA43, rOkB0, rOkB1, rOkB, Ret_v, Ret_n, cmp_eq, cmp_lt, cmp_gt, nI_1, eq_self, if_true, if_false, reduceIte]
  refine c_R_putNumber sW hD.1 iW (by omega) (inb_nI q (by omega)) (fun I' hf hd => ?_)
  rw [ix_nI (by omega)] at hd
  simp only [x_O_raiseCount_0, x_O_raiseCount_1, x_O_raiseCount_4, x_O_raiseCount_5, x_O_raiseCount_6, x_O_raiseCount_9, x_O_raiseCount_10, x_O_raiseCount_11, x_O_raiseCount_14, x_O_raiseCount_15, x_O_raiseCount_16, x_O_raiseCount_19, x_O_raiseCount_20, x_O_raiseCount_23, x_O_raiseCount_24, x_O_raiseCount_25, x_O_raiseCount_28, x_O_raiseCount_31, x_O_raiseCount_34, bI_0, bI_t, bI_f, e10, isA30, isA31, isA33, isA40, isA42, isA43, rOkB0, rOkB1, rOkB, Ret_v, Ret_n, cmp_eq, cmp_lt, cmp_gt, nI_1, eq_self, if_true, if_false, reduceIte]
  exact hQ _ _ (fr_mono hf (by omega)) (BkD_W hD hf hd)
end OW

