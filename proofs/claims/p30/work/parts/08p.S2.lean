def usb (a : Bk) (t : Int64) (i : Nat) : Bool := decide ((bP a).2.1 i = t) && !isB a t ((bP a).2.2.1 i) && (hasW a ((bP a).2.2.1 i) || hasN a ((bP a).2.2.1 i))
/-- the other word of the best row that may be used -/
def trs (f : Nat → Int32) (u : Nat → Bool) (s : Nat → Int64) (most : Int32) (w : Int64) (i : Nat) : Nat → Int64
  | 0 => w
  | k + 1 => if most < f i ∧ u i = true then trs f u s (f i) (s i) (i + 1) k else trs f u s most w (i + 1) k
def trW (a : Bk) (t : Int64) : Int64 := trs (bP a).2.2.2 (usb a t) (bP a).2.2.1 (bT a 1 - 1) (-1) 0 (bP a).1
section ST
variable {I I' : MI} {J : MJ} {R : MR} {S : Sh} {Q : SkQ} {sp kb B T : Nat} {a : Bk} {dr : Int32} {t w : Int64}
theorem c_S_isUsable (E : Env R S I J sp kb B T a) {i : Nat} (hi : i < (bP a).1) : Wp 126 0 [.ref sp, .long t, nov, .int (nI i), nov, nov] [] I J R S Q = Q 0 (some (.int (bI (usb a t i)))) I J R S := by
  obtain ⟨⟨s0, s1, n1, r0, r1, r2, sd⟩, h2, h3, h4, h5, h6, h7, h8⟩ := E
  have iP := h6.2.2.1
  have f1 := fun Q' => c_R_firstAt (Q := Q') h4.2.2.2.1 h5.2.2.1 iP (by omega) (i := nI i)
  have f2 := fun Q' => c_R_secondAt (Q := Q') h4.2.2.2.1 h5.2.2.1 iP (by omega) (i := nI i)
  rw [inb_nI (by omega) (by omega), if_pos (by simp), ix_nI (by omega)] at f1 f2
  have g1 := fun Q' => c_O_isBanned (Q := Q') h4 h5 h6 (t := t) (w := (bP a).2.2.1 i)
  have g2 := fun Q' => c_O_hasWord (Q := Q') h4 h5 h6 (w := (bP a).2.2.1 i)
  have g3 := fun Q' => c_O_hasName (Q := Q') h4 h5 h6 (w := (bP a).2.2.1 i)
  unfold usb
  by_cases q : (bP a).2.1 i = t
  · rw [decide_eq_true q, Bool.true_and]
    cases e1 : isB a t ((bP a).2.2.1 i) <;> cases e2 : hasW a ((bP a).2.2.1 i) <;> cases e3 : hasN a ((bP a).2.2.1 i) <;> rw [e1] at g1 <;> rw [e2] at g2 <;> rw [e3] at g3 <;> simp only [x_S_isUsable_0, x_S_isUsable_1, x_S_isUsable_4, x_S_isUsable_7, x_S_isUsable_8, x_S_isUsable_11, x_S_isUsable_13, x_S_isUsable_14, x_S_isUsable_17, x_S_isUsable_20, x_S_isUsable_21, x_S_isUsable_24, x_S_isUsable_25, x_S_isUsable_26, x_S_isUsable_29, x_S_isUsable_30, x_S_isUsable_33, x_S_isUsable_34, x_S_isUsable_36, x_S_isUsable_39, x_S_isUsable_42, x_S_isUsable_43, x_S_isUsable_46, x_S_isUsable_48, x_S_isUsable_51, x_S_isUsable_54, x_S_isUsable_55, x_S_isUsable_58, x_S_isUsable_60, x_S_isUsable_63, x_S_isUsable_66, x_S_isUsable_67, x_S_isUsable_70, x_S_isUsable_71, s0, r0, h4.1, h4.2.2.2.1.1, h4.2.2.2.2.2.2.2.2.2.2.2.2.2.1, f1, f2, g1, g2, g3, q, Bool.not_true, Bool.not_false, Bool.true_and, Bool.false_and, Bool.true_or, Bool.or_true, Bool.or_false, bI_0, bI_t, bI_f, e10, isA30, isA31, isA33, isA40, isA42, isA43, rOkB0, rOkB1, rOkB, Ret_v, Ret_n, cmp_eq, cmp_lt, cmp_gt, nI_1, eq_self, if_true, if_false, reduceIte]
  · rw [decide_eq_false q, Bool.false_and, Bool.false_and]
    simp only [x_S_isUsable_0, x_S_isUsable_1, x_S_isUsable_4, x_S_isUsable_7, x_S_isUsable_8, x_S_isUsable_11, x_S_isUsable_13, x_S_isUsable_14, x_S_isUsable_17, x_S_isUsable_20, x_S_isUsable_21, x_S_isUsable_24, x_S_isUsable_25, x_S_isUsable_26, x_S_isUsable_29, x_S_isUsable_30, x_S_isUsable_33, x_S_isUsable_34, x_S_isUsable_36, x_S_isUsable_39, x_S_isUsable_42, x_S_isUsable_43, x_S_isUsable_46, x_S_isUsable_48, x_S_isUsable_51, x_S_isUsable_54, x_S_isUsable_55, x_S_isUsable_58, x_S_isUsable_60, x_S_isUsable_63, x_S_isUsable_66, x_S_isUsable_67, x_S_isUsable_70, x_S_isUsable_71, s0, r0, h4.1, h4.2.2.2.1.1, h4.2.2.2.2.2.2.2.2.2.2.2.2.2.1, f1, f2, q, bI_0, bI_t, bI_f, e10, isA30, isA31, isA33, isA40, isA42, isA43, rOkB0, rOkB1, rOkB, Ret_v, Ret_n, cmp_eq, cmp_lt, cmp_gt, nI_1, eq_self, if_true, if_false, reduceIte]
theorem l_S_trusted (E : Env R S I J sp kb B T a) : ∀ (k i : Nat) (most : Int32) (wd : Int64), i + k = (bP a).1 → Wp 125 19 [.ref sp, .long t, nov, .int most, .long wd, nov, .int (nI i)] [] I J R S Q = Q 0 (some (.long (trs (bP a).2.2.2 (usb a t) (bP a).2.2.1 most wd i k))) I J R S := by
  have E0 := E
  obtain ⟨⟨s0, s1, n1, r0, r1, r2, sd⟩, h2, h3, h4, h5, h6, h7, h8⟩ := E
  have iP := h6.2.2.1
  have sz := fun Q' => c_R_size (Q := Q') h4.2.2.2.1 (I := I) (J := J)
  rw [h5.2.2.1.1] at sz
  intro k
  induction k with
  | zero =>
    intro i most wd hi
    have hlt : ¬ nI i < nI (bP a).1 := nI_nlt (by omega) (by omega)
    rw [x_S_trustedWord_19]
    simp only [x_S_trustedWord_0, x_S_trustedWord_1, x_S_trustedWord_4, x_S_trustedWord_5, x_S_trustedWord_8, x_S_trustedWord_9, x_S_trustedWord_10, x_S_trustedWord_11, x_S_trustedWord_14, x_S_trustedWord_16, x_S_trustedWord_17, x_S_trustedWord_21, x_S_trustedWord_22, x_S_trustedWord_25, x_S_trustedWord_28, x_S_trustedWord_31, x_S_trustedWord_34, x_S_trustedWord_35, x_S_trustedWord_38, x_S_trustedWord_41, x_S_trustedWord_43, x_S_trustedWord_46, x_S_trustedWord_47, x_S_trustedWord_50, x_S_trustedWord_51, x_S_trustedWord_52, x_S_trustedWord_54, x_S_trustedWord_57, x_S_trustedWord_60, x_S_trustedWord_61, x_S_trustedWord_64, x_S_trustedWord_67, x_S_trustedWord_69, x_S_trustedWord_72, x_S_trustedWord_73, x_S_trustedWord_74, x_S_trustedWord_77, x_S_trustedWord_80, x_S_trustedWord_82, x_S_trustedWord_85, x_S_trustedWord_87, x_S_trustedWord_90, x_S_trustedWord_93, x_S_trustedWord_95, s0, r0, h4.1, h4.2.2.2.1.1, h4.2.2.2.2.2.2.2.2.2.2.2.2.2.1, sz, hlt, trs, bI_0, bI_t, bI_f, e10, isA30, isA31, isA33, isA40, isA42, isA43, rOkB0, rOkB1, rOkB, Ret_v, Ret_n, cmp_eq, cmp_lt, cmp_gt, nI_1, eq_self, if_true, if_false, reduceIte]
  | succ k ih =>
    intro i most wd hi
    have hlt : nI i < nI (bP a).1 := nI_lt (by omega) (by omega)
    have f2 := fun Q' => c_R_secondAt (Q := Q') h4.2.2.2.1 h5.2.2.1 iP (by omega) (i := nI i)
    have f3 := fun Q' => c_R_numberAt (Q := Q') h4.2.2.2.1 h5.2.2.1 iP (by omega) (i := nI i)
    rw [inb_nI (by omega) (by omega), if_pos (by simp), ix_nI (by omega)] at f2 f3
    have us := fun Q' => c_S_isUsable (Q := Q') E0 (t := t) (show i < (bP a).1 by omega)
    simp only [trs]
    rw [x_S_trustedWord_19]
    by_cases q1 : most < (bP a).2.2.2 i
    · cases e : usb a t i with
      | true =>
        rw [e] at us
        rw [if_pos ⟨q1, by simp⟩]
        simp only [x_S_trustedWord_0, x_S_trustedWord_1, x_S_trustedWord_4, x_S_trustedWord_5, x_S_trustedWord_8, x_S_trustedWord_9, x_S_trustedWord_10, x_S_trustedWord_11, x_S_trustedWord_14, x_S_trustedWord_16, x_S_trustedWord_17, x_S_trustedWord_21, x_S_trustedWord_22, x_S_trustedWord_25, x_S_trustedWord_28, x_S_trustedWord_31, x_S_trustedWord_34, x_S_trustedWord_35, x_S_trustedWord_38, x_S_trustedWord_41, x_S_trustedWord_43, x_S_trustedWord_46, x_S_trustedWord_47, x_S_trustedWord_50, x_S_trustedWord_51, x_S_trustedWord_52, x_S_trustedWord_54, x_S_trustedWord_57, x_S_trustedWord_60, x_S_trustedWord_61, x_S_trustedWord_64, x_S_trustedWord_67, x_S_trustedWord_69, x_S_trustedWord_72, x_S_trustedWord_73, x_S_trustedWord_74, x_S_trustedWord_77, x_S_trustedWord_80, x_S_trustedWord_82, x_S_trustedWord_85, x_S_trustedWord_87, x_S_trustedWord_90, x_S_trustedWord_93, x_S_trustedWord_95, s0, r0, h4.1, h4.2.2.2.1.1, h4.2.2.2.2.2.2.2.2.2.2.2.2.2.1, sz, hlt, f2, f3, us, q1, nI_1', ih (i + 1) _ _ (by omega), bI_0, bI_t, bI_f, e10, isA30, isA31, isA33, isA40, isA42, isA43, rOkB0, rOkB1, rOkB, Ret_v, Ret_n, cmp_eq, cmp_lt, cmp_gt, nI_1, eq_self, if_true, if_false, reduceIte]
      | false =>
        rw [e] at us
        rw [if_neg (by simp)]
        simp only [x_S_trustedWord_0, x_S_trustedWord_1, x_S_trustedWord_4, x_S_trustedWord_5, x_S_trustedWord_8, x_S_trustedWord_9, x_S_trustedWord_10, x_S_trustedWord_11, x_S_trustedWord_14, x_S_trustedWord_16, x_S_trustedWord_17, x_S_trustedWord_21, x_S_trustedWord_22, x_S_trustedWord_25, x_S_trustedWord_28, x_S_trustedWord_31, x_S_trustedWord_34, x_S_trustedWord_35, x_S_trustedWord_38, x_S_trustedWord_41, x_S_trustedWord_43, x_S_trustedWord_46, x_S_trustedWord_47, x_S_trustedWord_50, x_S_trustedWord_51, x_S_trustedWord_52, x_S_trustedWord_54, x_S_trustedWord_57, x_S_trustedWord_60, x_S_trustedWord_61, x_S_trustedWord_64, x_S_trustedWord_67, x_S_trustedWord_69, x_S_trustedWord_72, x_S_trustedWord_73, x_S_trustedWord_74, x_S_trustedWord_77, x_S_trustedWord_80, x_S_trustedWord_82, x_S_trustedWord_85, x_S_trustedWord_87, x_S_trustedWord_90, x_S_trustedWord_93, x_S_trustedWord_95, s0, r0, h4.1, h4.2.2.2.1.1, h4.2.2.2.2.2.2.2.2.2.2.2.2.2.1, sz, hlt, f2, f3, us, q1, nI_1', ih (i + 1) _ _ (by omega), bI_0, bI_t, bI_f, e10, isA30, isA31, isA33, isA40, isA42, isA43, rOkB0, rOkB1, rOkB, Ret_v, Ret_n, cmp_eq, cmp_lt, cmp_gt, nI_1, eq_self, if_true, if_false, reduceIte]
    · rw [if_neg (fun h => q1 h.1)]
      simp only [x_S_trustedWord_0, x_S_trustedWord_1, x_S_trustedWord_4, x_S_trustedWord_5, x_S_trustedWord_8, x_S_trustedWord_9, x_S_trustedWord_10, x_S_trustedWord_11, x_S_trustedWord_14, x_S_trustedWord_16, x_S_trustedWord_17, x_S_trustedWord_21, x_S_trustedWord_22, x_S_trustedWord_25, x_S_trustedWord_28, x_S_trustedWord_31, x_S_trustedWord_34, x_S_trustedWord_35, x_S_trustedWord_38, x_S_trustedWord_41, x_S_trustedWord_43, x_S_trustedWord_46, x_S_trustedWord_47, x_S_trustedWord_50, x_S_trustedWord_51, x_S_trustedWord_52, x_S_trustedWord_54, x_S_trustedWord_57, x_S_trustedWord_60, x_S_trustedWord_61, x_S_trustedWord_64, x_S_trustedWord_67, x_S_trustedWord_69, x_S_trustedWord_72, x_S_trustedWord_73, x_S_trustedWord_74, x_S_trustedWord_77, x_S_trustedWord_80, x_S_trustedWord_82, x_S_trustedWord_85, x_S_trustedWord_87, x_S_trustedWord_90, x_S_trustedWord_93, x_S_trustedWord_95, s0, r0, h4.1, h4.2.2.2.1.1, h4.2.2.2.2.2.2.2.2.2.2.2.2.2.1, sz, hlt, f2, f3, q1, nI_1', ih (i + 1) _ _ (by omega), bI_0, bI_t, bI_f, e10, isA30, isA31, isA33, isA40, isA42, isA43, rOkB0, rOkB1, rOkB, Ret_v, Ret_n, cmp_eq, cmp_lt, cmp_gt, nI_1, eq_self, if_true, if_false, reduceIte]
theorem c_S_trusted (E : Env R S I J sp kb B T a) : Wp 125 0 [.ref sp, .long t, nov, nov, nov, nov, nov] [] I J R S Q = Q 0 (some (.long (trW a t))) I J R S := by
  have l := l_S_trusted (Q := Q) (t := t) E (bP a).1 0 (bT a 1 - 1) (-1) (by omega)
  rw [nI_0] at l
  obtain ⟨⟨s0, s1, n1, r0, r1, r2, sd⟩, h2, h3, h4, h5, h6, h7, h8⟩ := E
  have st := fun Q' => c_O_settingOf (Q := Q') h4 h5 (i := 1)
  rw [show stg a 1 = bT a 1 by unfold stg; rw [if_pos (by decide)]; rfl] at st
  simp only [x_S_trustedWord_0, x_S_trustedWord_1, x_S_trustedWord_4, x_S_trustedWord_5, x_S_trustedWord_8, x_S_trustedWord_9, x_S_trustedWord_10, x_S_trustedWord_11, x_S_trustedWord_14, x_S_trustedWord_16, x_S_trustedWord_17, s0, r0, h4.1, st, bI_0, bI_t, bI_f, e10, isA30, isA31, isA33, isA40, isA42, isA43, rOkB0, rOkB1, rOkB, Ret_v, Ret_n, cmp_eq, cmp_lt, cmp_gt, nI_1, eq_self, if_true, if_false, reduceIte]
  exact l
end ST

