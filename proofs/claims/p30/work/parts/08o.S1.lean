/-! the speller: lateness at sp + 1, the distances at sp + 2 .. sp + 7 -/
def SpS (R : MR) (S : Sh) (sp kb B : Nat) : Prop := S.1 sp = 6 ∧ S.1 (sp + 1) = 30 ∧ S.2.1 (sp + 1) = 20 ∧ R sp 0 = .ref B ∧ R sp 1 = .ref (sp + 2) ∧ R sp 2 = .ref (sp + 1) ∧ DsS R S (sp + 2) kb B
def Env (R : MR) (S : Sh) (I : MI) (J : MJ) (sp kb B T : Nat) (a : Bk) : Prop := SpS R S sp kb B ∧ KbS R S kb ∧ KbD I kb ∧ BkS R S B ∧ BkD I J B a ∧ BkI T a ∧ kb + 3 < B ∧ B + 26 < sp
def dsW (a : Bk) (dr : Int32) (t w : Int64) : Int32 := dst a dr t.toInt.toNat w.toInt.toNat
def nearW (a : Bk) (t w : Int64) : Bool := !decide (bT a 0 < dsW a (-1) t w)
def rskN (a : Bk) (w : Int64) : Nat := cnt (fun i => !decide ((bW a).2.1 i = w) && nearW a w ((bW a).2.1 i)) 0 (bW a).1
def rsn (a : Bk) (t w : Int64) : Int32 := if hasW a w = true then (if isB a t w = true then 2 else if nearW a t w = true then 0 else 3) else 1
/-- the first of the words with the greatest number -/
def grk (f : Nat → Int32) (g : Nat → Int64) (most : Int32) (w : Int64) (i : Nat) : Nat → Int64
  | 0 => w
  | k + 1 => if most < f i then grk f g (f i) (g i) (i + 1) k else grk f g most w (i + 1) k
def rskW (a : Bk) : Int64 := grk (fun i => nI (rskN a ((bW a).2.1 i))) (bW a).2.1 (-1) (-1) 0 (bW a).1
def bdk (f : Nat → Int32) (best : Nat) (least : Int32) (i : Nat) : Nat → Int32
  | 0 => 100 * nI best + least
  | k + 1 => if f i < least then bdk f i (f i) (i + 1) k else bdk f best least (i + 1) k
def bstK (a : Bk) (t w : Int64) : Int32 := bdk (fun i => dsW a (nI i) t w) 0 (dsW a 0 t w) 1 25
section SS
variable {I I' : MI} {J : MJ} {R : MR} {S : Sh} {Q : SkQ} {sp kb B T : Nat} {a : Bk} {dr : Int32} {t w : Int64}
theorem Env_fr (E : Env R S I J sp kb B T a) (hf : fr (sp + 1) (sp + 7) I J I' J) : Env R S I' J sp kb B T a := by
  obtain ⟨h1, h2, h3, h4, h5, h6, h7, h8⟩ := E
  exact ⟨h1, h2, KbD_fr h3 hf (by omega), h4, BkD_fr h5 hf (by omega), h6, h7, h8⟩
theorem s_between (E : Env R S I J sp kb B T a) (wt : isW t = true) (ww : isW w = true) (hQ : ∀ I', fr (sp + 1) (sp + 7) I J I' J → Q 0 (some (.int (dsW a dr t w))) I' J R S) : Wp 135 0 [.ref (sp + 2), .long t, nov, .long w, nov, .int dr, nov, nov, nov, nov] [] I J R S Q := by
  obtain ⟨h1, h2, h3, h4, h5, h6, h7, h8⟩ := E
  obtain ⟨n, e, _, n2, n3⟩ := isW_of wt
  obtain ⟨m, e', _, m2, m3⟩ := isW_of ww
  unfold dsW at hQ
  subst e e'
  rw [lW_toInt (by omega), lW_toInt (by omega), Int.toNat_natCast, Int.toNat_natCast] at hQ
  exact c_D_between h1.2.2.2.2.2.2 h2 (by omega) h4 (by omega) h3 h5 n3 m3 n2 m2 (fun I' hf => hQ I' (fr_mono hf (by omega)))
theorem c_S_isNear (E : Env R S I J sp kb B T a) (wt : isW t = true) (ww : isW w = true) (hQ : ∀ I', fr (sp + 1) (sp + 7) I J I' J → Q 0 (some (.int (bI (nearW a t w)))) I' J R S) : Wp 130 0 [.ref sp, .long t, nov, .long w, nov] [] I J R S Q := by
  have E0 := E
  obtain ⟨⟨s0, s1, n1, r0, r1, r2, sd⟩, h2, h3, h4, h5, h6, h7, h8⟩ := E
  simp only [x_S_isNear_0, x_S_isNear_1, x_S_isNear_4, x_S_isNear_5, x_S_isNear_6, x_S_isNear_7, x_S_isNear_10, x_S_isNear_11, x_S_isNear_14, x_S_isNear_15, x_S_isNear_18, x_S_isNear_21, x_S_isNear_22, x_S_isNear_25, x_S_isNear_26, s0, r1, sd.1, bI_0, bI_t, bI_f, e10, isA30, isA31, isA33, isA40, isA42, isA43, rOkB0, rOkB1, rOkB, Ret_v, Ret_n, cmp_eq, cmp_lt, cmp_gt, nI_1, eq_self, if_true, if_false, reduceIte]
  refine s_between E0 wt ww (fun I' hf => ?_)
  have E1 := Env_fr E0 hf
  have st := fun Q' => c_O_settingOf (Q := Q') h4 E1.2.2.2.2.1 (i := 0)
  rw [show stg a 0 = bT a 0 by unfold stg; rw [if_pos (by decide)]; rfl] at st
  have hq := hQ I' hf
  unfold nearW at hq
  by_cases q : bT a 0 < dsW a (-1) t w
  · rw [decide_eq_true q] at hq
    simp only [x_S_isNear_0, x_S_isNear_1, x_S_isNear_4, x_S_isNear_5, x_S_isNear_6, x_S_isNear_7, x_S_isNear_10, x_S_isNear_11, x_S_isNear_14, x_S_isNear_15, x_S_isNear_18, x_S_isNear_21, x_S_isNear_22, x_S_isNear_25, x_S_isNear_26, s0, r0, h4.1, st, q, bI_0, bI_t, bI_f, e10, isA30, isA31, isA33, isA40, isA42, isA43, rOkB0, rOkB1, rOkB, Ret_v, Ret_n, cmp_eq, cmp_lt, cmp_gt, nI_1, eq_self, if_true, if_false, reduceIte]
    exact hq
  · rw [decide_eq_false q] at hq
    simp only [x_S_isNear_0, x_S_isNear_1, x_S_isNear_4, x_S_isNear_5, x_S_isNear_6, x_S_isNear_7, x_S_isNear_10, x_S_isNear_11, x_S_isNear_14, x_S_isNear_15, x_S_isNear_18, x_S_isNear_21, x_S_isNear_22, x_S_isNear_25, x_S_isNear_26, s0, r0, h4.1, st, q, bI_0, bI_t, bI_f, e10, isA30, isA31, isA33, isA40, isA42, isA43, rOkB0, rOkB1, rOkB, Ret_v, Ret_n, cmp_eq, cmp_lt, cmp_gt, nI_1, eq_self, if_true, if_false, reduceIte]
    exact hq
theorem l_S_riskOf (ww : isW w = true) : ∀ (k i c : Nat) (I : MI) (l5 : Value), i + k = (bW a).1 → Env R S I J sp kb B T a → (∀ I', fr (sp + 1) (sp + 7) I J I' J → Q 0 (some (.int (nI (c + cnt (fun i => !decide ((bW a).2.1 i = w) && nearW a w ((bW a).2.1 i)) i k)))) I' J R S) → Wp 131 5 [.ref sp, .long w, nov, .int (nI c), .int (nI i), l5, nov] [] I J R S Q := by
  intro k
  induction k with
  | zero =>
    intro i c I l5 hi E hQ
    have E0 := E
    obtain ⟨⟨s0, s1, n1, r0, r1, r2, sd⟩, h2, h3, h4, h5, h6, h7, h8⟩ := E
    have iW := h6.1
    have hlt : ¬ nI i < nI (bW a).1 := nI_nlt (by omega) (by omega)
    have sz := fun Q' => c_R_size (Q := Q') h4.2.1 (I := I) (J := J)
    rw [h5.1.1] at sz
    rw [x_S_riskOf_5]
    simp only [x_S_riskOf_0, x_S_riskOf_1, x_S_riskOf_2, x_S_riskOf_3, x_S_riskOf_7, x_S_riskOf_8, x_S_riskOf_11, x_S_riskOf_14, x_S_riskOf_17, x_S_riskOf_20, x_S_riskOf_21, x_S_riskOf_24, x_S_riskOf_27, x_S_riskOf_29, x_S_riskOf_32, x_S_riskOf_34, x_S_riskOf_36, x_S_riskOf_37, x_S_riskOf_38, x_S_riskOf_41, x_S_riskOf_42, x_S_riskOf_43, x_S_riskOf_45, x_S_riskOf_48, x_S_riskOf_51, x_S_riskOf_54, x_S_riskOf_57, x_S_riskOf_60, x_S_riskOf_61, s0, r0, h4.1, h4.2.1.1, h4.2.2.2.2.2.2.2.2.2.2.2.1, sz, hlt, bI_0, bI_t, bI_f, e10, isA30, isA31, isA33, isA40, isA42, isA43, rOkB0, rOkB1, rOkB, Ret_v, Ret_n, cmp_eq, cmp_lt, cmp_gt, nI_1, eq_self, if_true, if_false, reduceIte]
    exact hQ I fr_rfl
  | succ k ih =>
    intro i c I l5 hi E hQ
    have E0 := E
    obtain ⟨⟨s0, s1, n1, r0, r1, r2, sd⟩, h2, h3, h4, h5, h6, h7, h8⟩ := E
    have iW := h6.1
    have hlt : nI i < nI (bW a).1 := nI_lt (by omega) (by omega)
    have sz := fun Q' => c_R_size (Q := Q') h4.2.1 (I := I) (J := J)
    rw [h5.1.1] at sz
    have fa := fun Q' => c_R_firstAt (Q := Q') h4.2.1 h5.1 iW (by omega) (i := nI i)
    rw [inb_nI (by omega) (by omega), if_pos (by simp), ix_nI (by omega)] at fa
    have wi := h6.2.2.2.2.2.2.2.2.2.1 i (by omega)
    simp only [cnt] at hQ
    rw [x_S_riskOf_5]
    by_cases q : (bW a).2.1 i = w
    · rw [if_neg (by rw [q]; simp), Nat.zero_add] at hQ
      have l := fun l5 => ih (i + 1) c I l5 (by omega) E0 hQ
      simp only [x_S_riskOf_0, x_S_riskOf_1, x_S_riskOf_2, x_S_riskOf_3, x_S_riskOf_7, x_S_riskOf_8, x_S_riskOf_11, x_S_riskOf_14, x_S_riskOf_17, x_S_riskOf_20, x_S_riskOf_21, x_S_riskOf_24, x_S_riskOf_27, x_S_riskOf_29, x_S_riskOf_32, x_S_riskOf_34, x_S_riskOf_36, x_S_riskOf_37, x_S_riskOf_38, x_S_riskOf_41, x_S_riskOf_42, x_S_riskOf_43, x_S_riskOf_45, x_S_riskOf_48, x_S_riskOf_51, x_S_riskOf_54, x_S_riskOf_57, x_S_riskOf_60, x_S_riskOf_61, s0, r0, h4.1, h4.2.1.1, h4.2.2.2.2.2.2.2.2.2.2.2.1, sz, hlt, fa, q, nI_1', l, bI_0, bI_t, bI_f, e10, isA30, isA31, isA33, isA40, isA42, isA43, rOkB0, rOkB1, rOkB, Ret_v, Ret_n, cmp_eq, cmp_lt, cmp_gt, nI_1, eq_self, if_true, if_false, reduceIte]
    · simp only [x_S_riskOf_0, x_S_riskOf_1, x_S_riskOf_2, x_S_riskOf_3, x_S_riskOf_7, x_S_riskOf_8, x_S_riskOf_11, x_S_riskOf_14, x_S_riskOf_17, x_S_riskOf_20, x_S_riskOf_21, x_S_riskOf_24, x_S_riskOf_27, x_S_riskOf_29, x_S_riskOf_32, x_S_riskOf_34, x_S_riskOf_36, x_S_riskOf_37, x_S_riskOf_38, x_S_riskOf_41, x_S_riskOf_42, x_S_riskOf_43, x_S_riskOf_45, x_S_riskOf_48, x_S_riskOf_51, x_S_riskOf_54, x_S_riskOf_57, x_S_riskOf_60, x_S_riskOf_61, s0, r0, h4.1, h4.2.1.1, h4.2.2.2.2.2.2.2.2.2.2.2.1, sz, hlt, fa, q, nI_1', bI_0, bI_t, bI_f, e10, isA30, isA31, isA33, isA40, isA42, isA43, rOkB0, rOkB1, rOkB, Ret_v, Ret_n, cmp_eq, cmp_lt, cmp_gt, nI_1, eq_self, if_true, if_false, reduceIte]
      refine c_S_isNear E0 ww wi (fun I1 hf => ?_)
      have E1 := Env_fr E0 hf
      cases e : nearW a w ((bW a).2.1 i) with
      | false =>
        rw [if_neg (by rw [e]; simp), Nat.zero_add] at hQ
        have l := fun l5 => ih (i + 1) c I1 l5 (by omega) E1 (fun I2 hf2 => hQ I2 (fr_trans (lo := sp + 1) (hi := sp + 7) hf hf2 (by omega) (by omega)))
        simp only [x_S_riskOf_0, x_S_riskOf_1, x_S_riskOf_2, x_S_riskOf_3, x_S_riskOf_7, x_S_riskOf_8, x_S_riskOf_11, x_S_riskOf_14, x_S_riskOf_17, x_S_riskOf_20, x_S_riskOf_21, x_S_riskOf_24, x_S_riskOf_27, x_S_riskOf_29, x_S_riskOf_32, x_S_riskOf_34, x_S_riskOf_36, x_S_riskOf_37, x_S_riskOf_38, x_S_riskOf_41, x_S_riskOf_42, x_S_riskOf_43, x_S_riskOf_45, x_S_riskOf_48, x_S_riskOf_51, x_S_riskOf_54, x_S_riskOf_57, x_S_riskOf_60, x_S_riskOf_61, nI_1', l, bI_0, bI_t, bI_f, e10, isA30, isA31, isA33, isA40, isA42, isA43, rOkB0, rOkB1, rOkB, Ret_v, Ret_n, cmp_eq, cmp_lt, cmp_gt, nI_1, eq_self, if_true, if_false, reduceIte]
      | true =>
        rw [if_pos (by rw [e, decide_eq_false q]; simp), ← Nat.add_assoc] at hQ
        have l := fun l5 => ih (i + 1) (c + 1) I1 l5 (by omega) E1 (fun I2 hf2 => hQ I2 (fr_trans (lo := sp + 1) (hi := sp + 7) hf hf2 (by omega) (by omega)))
        simp only [x_S_riskOf_0, x_S_riskOf_1, x_S_riskOf_2, x_S_riskOf_3, x_S_riskOf_7, x_S_riskOf_8, x_S_riskOf_11, x_S_riskOf_14, x_S_riskOf_17, x_S_riskOf_20, x_S_riskOf_21, x_S_riskOf_24, x_S_riskOf_27, x_S_riskOf_29, x_S_riskOf_32, x_S_riskOf_34, x_S_riskOf_36, x_S_riskOf_37, x_S_riskOf_38, x_S_riskOf_41, x_S_riskOf_42, x_S_riskOf_43, x_S_riskOf_45, x_S_riskOf_48, x_S_riskOf_51, x_S_riskOf_54, x_S_riskOf_57, x_S_riskOf_60, x_S_riskOf_61, nI_1', l, bI_0, bI_t, bI_f, e10, isA30, isA31, isA33, isA40, isA42, isA43, rOkB0, rOkB1, rOkB, Ret_v, Ret_n, cmp_eq, cmp_lt, cmp_gt, nI_1, eq_self, if_true, if_false, reduceIte]
theorem c_S_riskOf (E : Env R S I J sp kb B T a) (ww : isW w = true) (hQ : ∀ I', fr (sp + 1) (sp + 7) I J I' J → Q 0 (some (.int (nI (rskN a w)))) I' J R S) : Wp 131 0 [.ref sp, .long w, nov, nov, nov, nov, nov] [] I J R S Q := by
  rw [x_S_riskOf_0, x_S_riskOf_1, x_S_riskOf_2, x_S_riskOf_3, ← nI_0]
  exact l_S_riskOf ww (bW a).1 0 0 I nov (by omega) E (fun I' hf => by rw [Nat.zero_add]; exact hQ I' hf)
end SS

