/-! the digest -/
def fld (g : Int64 → Nat → Int64) (h : Int64) (i : Nat) : Nat → Int64
  | 0 => h
  | k + 1 => fld g (g h i) (i + 1) k
def mxH (f : Nat → Int64) (h : Int64) (i : Nat) : Int64 := 31 * h + f i
def mxR (p : Rw) (h : Int64) (i : Nat) : Int64 := 31 * (31 * (31 * h + p.2.1 i) + p.2.2.1 i) + (p.2.2.2 i).toInt64
def mxW (a : Bk) (h : Int64) (i : Nat) : Int64 := 31 * fld (mxH (fun k => (vW a ((bW a).2.1 i) k).toInt64)) (31 * h + (bW a).2.1 i) 0 7 + (nI (rskN a ((bW a).2.1 i))).toInt64
def dgA (a : Bk) (n l : Nat) : Int64 :=
  fld (fun h i => mxR (bL a) h ((bL a).1 - 1 - i)) (fld (mxR (bP a)) (fld (mxH (bN a).2.1) (fld (mxW a) (fld (mxH (fun i => (bK a i).toInt64)) (fld (mxH (fun k => (whV a l k).toInt64)) (31 * 43304 + (nI n).toInt64) 0 12) 0 26) 0 (bW a).1) 0 (bN a).1) 0 (bP a).1) 0 (bL a).1
section KG
variable {I I' : MI} {J J' : MJ} {R R' : MR} {S : Sh} {Q : SkQ} {T n l b cap : Nat} {a : Bk} {s : Nat → Bk} {x : Nat → Int32} {p : Rw}
theorem c_K_mix {h v : Int64} : Wp 54 0 [.long h, nov, .long v, nov] [] I J R S Q = Q 0 (some (.long (31 * h + v))) I J R S := by
  simp only [x_K_mix_0, x_K_mix_3, x_K_mix_4, x_K_mix_5, x_K_mix_6, x_K_mix_7]
theorem c_K_mixRow (hS : RwS R S b cap) (hD : RwD I J b p) (hc : p.1 ≤ cap) (hc2 : cap < 2 ^ 31) {i : Nat} (hi : i < p.1) {h : Int64} : Wp 53 0 [.long h, nov, .ref b, .int (nI i), nov, nov, nov] [] I J R S Q = Q 0 (some (.long (mxR p h i))) I J R S := by
  have f0 := fun Q' => c_R_valueAt0 (Q := Q') hS hD hc hc2 (i := nI i)
  have f1 := fun Q' => c_R_valueAt1 (Q := Q') hS hD hc hc2 (i := nI i)
  have f2 := fun Q' => c_R_valueAt2 (Q := Q') hS hD hc hc2 (i := nI i)
  have e1 := inb_nI hi (by omega)
  have e2 : ix (nI i) = i := ix_nI (by omega)
  rw [e1, e2] at f0 f1 f2
  have g : ∀ h0 h (k : Int32), Wp 53 6 [.long h0, nov, .ref b, .int (nI i), .long h, nov, .int k] [] I J R S Q = Wp 53 8 [.long h0, nov, .ref b, .int (nI i), .long h, nov, .int k] [.int k] I J R S Q := fun _ _ _ => x_K_mixRow_6
  have c0 : ¬ (2 : Int32) < 0 := by decide
  have c1 : ¬ (2 : Int32) < 1 := by decide
  have c2 : ¬ (2 : Int32) < 2 := by decide
  have c3 : (2 : Int32) < 3 := by decide
  have d0 : (0 : Int32) + 1 = 1 := by decide
  have d1 : (1 : Int32) + 1 = 2 := by decide
  have d2 : (2 : Int32) + 1 = 3 := by decide
  simp only [x_K_mixRow_0, x_K_mixRow_1, x_K_mixRow_3, x_K_mixRow_4, x_K_mixRow_8, x_K_mixRow_9, x_K_mixRow_12, x_K_mixRow_14, x_K_mixRow_15, x_K_mixRow_16, x_K_mixRow_18, x_K_mixRow_21, x_K_mixRow_24, x_K_mixRow_26, x_K_mixRow_29, x_K_mixRow_32, x_K_mixRow_34, bI_0, bI_t, bI_f, e10, isA30, isA31, isA33, isA40, isA42, isA43, rOkB0, rOkB1, rOkB, Ret_v, Ret_n, cmp_eq, cmp_lt, cmp_gt, nI_1, eq_self, if_true, if_false, reduceIte]
  rw [g]
  simp only [x_K_mixRow_0, x_K_mixRow_1, x_K_mixRow_3, x_K_mixRow_4, x_K_mixRow_8, x_K_mixRow_9, x_K_mixRow_12, x_K_mixRow_14, x_K_mixRow_15, x_K_mixRow_16, x_K_mixRow_18, x_K_mixRow_21, x_K_mixRow_24, x_K_mixRow_26, x_K_mixRow_29, x_K_mixRow_32, x_K_mixRow_34, hS.1, c0, d0, f0, c_K_mix, bI_0, bI_t, bI_f, e10, isA30, isA31, isA33, isA40, isA42, isA43, rOkB0, rOkB1, rOkB, Ret_v, Ret_n, cmp_eq, cmp_lt, cmp_gt, nI_1, eq_self, if_true, if_false, reduceIte]
  rw [g]
  simp only [x_K_mixRow_0, x_K_mixRow_1, x_K_mixRow_3, x_K_mixRow_4, x_K_mixRow_8, x_K_mixRow_9, x_K_mixRow_12, x_K_mixRow_14, x_K_mixRow_15, x_K_mixRow_16, x_K_mixRow_18, x_K_mixRow_21, x_K_mixRow_24, x_K_mixRow_26, x_K_mixRow_29, x_K_mixRow_32, x_K_mixRow_34, hS.1, c1, d1, f1, c_K_mix, bI_0, bI_t, bI_f, e10, isA30, isA31, isA33, isA40, isA42, isA43, rOkB0, rOkB1, rOkB, Ret_v, Ret_n, cmp_eq, cmp_lt, cmp_gt, nI_1, eq_self, if_true, if_false, reduceIte]
  rw [g]
  simp only [x_K_mixRow_0, x_K_mixRow_1, x_K_mixRow_3, x_K_mixRow_4, x_K_mixRow_8, x_K_mixRow_9, x_K_mixRow_12, x_K_mixRow_14, x_K_mixRow_15, x_K_mixRow_16, x_K_mixRow_18, x_K_mixRow_21, x_K_mixRow_24, x_K_mixRow_26, x_K_mixRow_29, x_K_mixRow_32, x_K_mixRow_34, hS.1, c2, d2, f2, c_K_mix, bI_0, bI_t, bI_f, e10, isA30, isA31, isA33, isA40, isA42, isA43, rOkB0, rOkB1, rOkB, Ret_v, Ret_n, cmp_eq, cmp_lt, cmp_gt, nI_1, eq_self, if_true, if_false, reduceIte]
  rw [g]
  simp only [x_K_mixRow_0, x_K_mixRow_1, x_K_mixRow_3, x_K_mixRow_4, x_K_mixRow_8, x_K_mixRow_9, x_K_mixRow_12, x_K_mixRow_14, x_K_mixRow_15, x_K_mixRow_16, x_K_mixRow_18, x_K_mixRow_21, x_K_mixRow_24, x_K_mixRow_26, x_K_mixRow_29, x_K_mixRow_32, x_K_mixRow_34, c3, bI_0, bI_t, bI_f, e10, isA30, isA31, isA33, isA40, isA42, isA43, rOkB0, rOkB1, rOkB, Ret_v, Ret_n, cmp_eq, cmp_lt, cmp_gt, nI_1, eq_self, if_true, if_false, reduceIte]
  rfl
theorem l_K_mw7 (h : KOk I J R S T a n s x l) {w : Int64} (ww : isW w = true) {l1 : Int64} {l5 : Int32} : ∀ (k i : Nat) (g : Int64), i + k = 7 → Wp 52 44 [.ref 35, .long l1, nov, .long g, nov, .int l5, .long w, nov, .int (nI i)] [] I J R S Q = Wp 52 74 [.ref 35, .long l1, nov, .long (fld (mxH (fun k => (vW a w k).toInt64)) g i k), nov, .int l5, .long w, nov, .int (nI 7)] [] I J R S Q := by
  obtain ⟨k0, r0, r1, r2, r3, r4⟩ := h.1
  have hb := h.2.1.2.2.2.1
  have f := fun Q' => c_O_valueOfWord (Q := Q') hb h.2.1.2.2.2.2.1 h.2.1.2.2.2.2.2.1 ww
  intro k
  induction k with
  | zero =>
    intro i g hi
    have : i = 7 := by omega
    subst this
    rw [x_K_mixWords_44]
    simp only [x_K_mixWords_0, x_K_mixWords_1, x_K_mixWords_2, x_K_mixWords_3, x_K_mixWords_5, x_K_mixWords_7, x_K_mixWords_8, x_K_mixWords_11, x_K_mixWords_14, x_K_mixWords_17, x_K_mixWords_20, x_K_mixWords_21, x_K_mixWords_24, x_K_mixWords_27, x_K_mixWords_29, x_K_mixWords_32, x_K_mixWords_34, x_K_mixWords_35, x_K_mixWords_37, x_K_mixWords_40, x_K_mixWords_41, x_K_mixWords_42, x_K_mixWords_46, x_K_mixWords_48, x_K_mixWords_51, x_K_mixWords_52, x_K_mixWords_53, x_K_mixWords_56, x_K_mixWords_58, x_K_mixWords_60, x_K_mixWords_63, x_K_mixWords_64, x_K_mixWords_67, x_K_mixWords_68, x_K_mixWords_71, x_K_mixWords_75, x_K_mixWords_76, x_K_mixWords_79, x_K_mixWords_81, x_K_mixWords_84, x_K_mixWords_85, x_K_mixWords_88, x_K_mixWords_89, x_K_mixWords_92, x_K_mixWords_95, x_K_mixWords_96, show (6 : Int32) < nI 7 by decide, fld, bI_0, bI_t, bI_f, e10, isA30, isA31, isA33, isA40, isA42, isA43, rOkB0, rOkB1, rOkB, Ret_v, Ret_n, cmp_eq, cmp_lt, cmp_gt, nI_1, eq_self, if_true, if_false, reduceIte]
  | succ k ih =>
    intro i g hi
    have e : ¬ (6 : Int32) < nI i := by rw [show (6 : Int32) = nI 6 by decide]; exact nI_nlt (by omega) (by omega)
    have f1 := fun Q' => f Q' i (by omega)
    rw [x_K_mixWords_44]
    simp only [x_K_mixWords_0, x_K_mixWords_1, x_K_mixWords_2, x_K_mixWords_3, x_K_mixWords_5, x_K_mixWords_7, x_K_mixWords_8, x_K_mixWords_11, x_K_mixWords_14, x_K_mixWords_17, x_K_mixWords_20, x_K_mixWords_21, x_K_mixWords_24, x_K_mixWords_27, x_K_mixWords_29, x_K_mixWords_32, x_K_mixWords_34, x_K_mixWords_35, x_K_mixWords_37, x_K_mixWords_40, x_K_mixWords_41, x_K_mixWords_42, x_K_mixWords_46, x_K_mixWords_48, x_K_mixWords_51, x_K_mixWords_52, x_K_mixWords_53, x_K_mixWords_56, x_K_mixWords_58, x_K_mixWords_60, x_K_mixWords_63, x_K_mixWords_64, x_K_mixWords_67, x_K_mixWords_68, x_K_mixWords_71, x_K_mixWords_75, x_K_mixWords_76, x_K_mixWords_79, x_K_mixWords_81, x_K_mixWords_84, x_K_mixWords_85, x_K_mixWords_88, x_K_mixWords_89, x_K_mixWords_92, x_K_mixWords_95, x_K_mixWords_96, e, k0, r1, hb.1, f1, c_K_mix, nI_1', fld, mxH, bI_0, bI_t, bI_f, e10, isA30, isA31, isA33, isA40, isA42, isA43, rOkB0, rOkB1, rOkB, Ret_v, Ret_n, cmp_eq, cmp_lt, cmp_gt, nI_1, eq_self, if_true, if_false, reduceIte]
    exact ih (i + 1) _ (by omega)
theorem l_K_mixWords {l1 : Int64} : ∀ (k i : Nat) (g : Int64) (l6 l8 : Value) (l7 : Value) (I : MI), i + k = (bW a).1 → KOk I J R S T a n s x l → (∀ I', kF 35 186 I J R I' J R → KOk I' J R S T a n s x l → Q 0 (some (.long (fld (mxW a) g i k))) I' J R S) → Wp 52 5 [.ref 35, .long l1, nov, .long g, nov, .int (nI i), l6, nov, l8] [] I J R S Q := by
  intro k
  induction k with
  | zero =>
    intro i g l6 l8 _ I hi h hQ
    obtain ⟨k0, r0, r1, r2, r3, r4⟩ := h.1
    obtain ⟨b0, bW', -, -, -, -, -, -, -, -, -, b1, -⟩ := h.2.1.2.2.2.1
    have hd := h.2.1.2.2.2.2.1
    have hI := h.2.1.2.2.2.2.2.1
    have iW := hI.1
    have e : ¬ nI i < nI (bW a).1 := nI_nlt (by omega) (by omega)
    rw [x_K_mixWords_5]
    simp only [x_K_mixWords_0, x_K_mixWords_1, x_K_mixWords_2, x_K_mixWords_3, x_K_mixWords_7, x_K_mixWords_8, x_K_mixWords_11, x_K_mixWords_14, x_K_mixWords_17, x_K_mixWords_20, x_K_mixWords_21, x_K_mixWords_24, x_K_mixWords_27, x_K_mixWords_29, x_K_mixWords_32, x_K_mixWords_34, x_K_mixWords_35, x_K_mixWords_37, x_K_mixWords_40, x_K_mixWords_41, x_K_mixWords_42, x_K_mixWords_44, x_K_mixWords_46, x_K_mixWords_48, x_K_mixWords_51, x_K_mixWords_52, x_K_mixWords_53, x_K_mixWords_56, x_K_mixWords_58, x_K_mixWords_60, x_K_mixWords_63, x_K_mixWords_64, x_K_mixWords_67, x_K_mixWords_68, x_K_mixWords_71, x_K_mixWords_74, x_K_mixWords_75, x_K_mixWords_76, x_K_mixWords_79, x_K_mixWords_81, x_K_mixWords_84, x_K_mixWords_85, x_K_mixWords_88, x_K_mixWords_89, x_K_mixWords_92, x_K_mixWords_95, x_K_mixWords_96, k0, r1, b0, b1, bW'.1, c_R_size bW', hd.1.1, e, bI_0, bI_t, bI_f, e10, isA30, isA31, isA33, isA40, isA42, isA43, rOkB0, rOkB1, rOkB, Ret_v, Ret_n, cmp_eq, cmp_lt, cmp_gt, nI_1, eq_self, if_true, if_false, reduceIte]
    exact hQ _ kF_rfl h
  | succ k ih =>
    intro i g l6 l8 _ I hi h hQ
    obtain ⟨k0, r0, r1, r2, r3, r4⟩ := h.1
    have hb := h.2.1.2.2.2.1
    have b0 := hb.1
    have bW' := hb.2.1
    have b1 := hb.2.2.2.2.2.2.2.2.2.2.2.1
    have hd := h.2.1.2.2.2.2.1
    have hI := h.2.1.2.2.2.2.2.1
    have iW := hI.1
    have hs := h.2.1.1.1
    have ww : isW ((bW a).2.1 i) = true := hI.2.2.2.2.2.2.2.2.2.1 i (by omega)
    have e : nI i < nI (bW a).1 := nI_lt (by omega) (by omega)
    have f := fun Q' => c_R_firstAt (Q := Q') bW' hd.1 iW (by omega) (i := nI i)
    rw [inb_nI (by omega) (by omega), if_pos (by simp), ix_nI (by omega)] at f
    have m7 := fun g l5 => l_K_mw7 (Q := Q) h ww (l1 := l1) (l5 := l5) 7 0 g (by omega)
    rw [nI_0] at m7
    simp only [fld] at hQ
    rw [x_K_mixWords_5]
    simp only [x_K_mixWords_0, x_K_mixWords_1, x_K_mixWords_2, x_K_mixWords_3, x_K_mixWords_7, x_K_mixWords_8, x_K_mixWords_11, x_K_mixWords_14, x_K_mixWords_17, x_K_mixWords_20, x_K_mixWords_21, x_K_mixWords_24, x_K_mixWords_27, x_K_mixWords_29, x_K_mixWords_32, x_K_mixWords_34, x_K_mixWords_35, x_K_mixWords_37, x_K_mixWords_40, x_K_mixWords_41, x_K_mixWords_42, x_K_mixWords_46, x_K_mixWords_48, x_K_mixWords_51, x_K_mixWords_52, x_K_mixWords_53, x_K_mixWords_56, x_K_mixWords_58, x_K_mixWords_60, x_K_mixWords_63, x_K_mixWords_64, x_K_mixWords_67, x_K_mixWords_68, x_K_mixWords_71, x_K_mixWords_74, x_K_mixWords_75, x_K_mixWords_76, x_K_mixWords_79, x_K_mixWords_81, x_K_mixWords_84, x_K_mixWords_85, x_K_mixWords_88, x_K_mixWords_89, x_K_mixWords_92, x_K_mixWords_95, x_K_mixWords_96, k0, r1, r2, b0, b1, bW'.1, c_R_size bW', hd.1.1, e, f, c_K_mix, m7, hs, bI_0, bI_t, bI_f, e10, isA30, isA31, isA33, isA40, isA42, isA43, rOkB0, rOkB1, rOkB, Ret_v, Ret_n, cmp_eq, cmp_lt, cmp_gt, nI_1, eq_self, if_true, if_false, reduceIte]
    refine c_S_riskOf h.2.1 ww (fun I1 f1 => ?_)
    simp only [x_K_mixWords_0, x_K_mixWords_1, x_K_mixWords_2, x_K_mixWords_3, x_K_mixWords_7, x_K_mixWords_8, x_K_mixWords_11, x_K_mixWords_14, x_K_mixWords_17, x_K_mixWords_20, x_K_mixWords_21, x_K_mixWords_24, x_K_mixWords_27, x_K_mixWords_29, x_K_mixWords_32, x_K_mixWords_34, x_K_mixWords_35, x_K_mixWords_37, x_K_mixWords_40, x_K_mixWords_41, x_K_mixWords_42, x_K_mixWords_46, x_K_mixWords_48, x_K_mixWords_51, x_K_mixWords_52, x_K_mixWords_53, x_K_mixWords_56, x_K_mixWords_58, x_K_mixWords_60, x_K_mixWords_63, x_K_mixWords_64, x_K_mixWords_67, x_K_mixWords_68, x_K_mixWords_71, x_K_mixWords_74, x_K_mixWords_75, x_K_mixWords_76, x_K_mixWords_79, x_K_mixWords_81, x_K_mixWords_84, x_K_mixWords_85, x_K_mixWords_88, x_K_mixWords_89, x_K_mixWords_92, x_K_mixWords_95, x_K_mixWords_96, c_K_mix, nI_1', bI_0, bI_t, bI_f, e10, isA30, isA31, isA33, isA40, isA42, isA43, rOkB0, rOkB1, rOkB, Ret_v, Ret_n, cmp_eq, cmp_lt, cmp_gt, nI_1, eq_self, if_true, if_false, reduceIte]
    exact ih (i + 1) _ _ _ nov _ (by omega) (KOk_sp h f1) (fun I2 f2 h2 => hQ _ (kF_trans (kF_of f1 (by omega)) f2) h2)
theorem c_K_mixWords (h : KOk I J R S T a n s x l) {g : Int64} (hQ : ∀ I', kF 35 186 I J R I' J R → KOk I' J R S T a n s x l → Q 0 (some (.long (fld (mxW a) g 0 (bW a).1))) I' J R S) : Wp 52 0 [.ref 35, .long g, nov, nov, nov, nov, nov, nov, nov] [] I J R S Q := by
  have lp := l_K_mixWords (l1 := g) (bW a).1 0 g nov nov nov I (by omega) h hQ
  rw [nI_0] at lp
  simp only [x_K_mixWords_0, x_K_mixWords_1, x_K_mixWords_2, x_K_mixWords_3, x_K_mixWords_7, x_K_mixWords_8, x_K_mixWords_11, x_K_mixWords_14, x_K_mixWords_17, x_K_mixWords_20, x_K_mixWords_21, x_K_mixWords_24, x_K_mixWords_27, x_K_mixWords_29, x_K_mixWords_32, x_K_mixWords_34, x_K_mixWords_35, x_K_mixWords_37, x_K_mixWords_40, x_K_mixWords_41, x_K_mixWords_42, x_K_mixWords_44, x_K_mixWords_46, x_K_mixWords_48, x_K_mixWords_51, x_K_mixWords_52, x_K_mixWords_53, x_K_mixWords_56, x_K_mixWords_58, x_K_mixWords_60, x_K_mixWords_63, x_K_mixWords_64, x_K_mixWords_67, x_K_mixWords_68, x_K_mixWords_71, x_K_mixWords_74, x_K_mixWords_75, x_K_mixWords_76, x_K_mixWords_79, x_K_mixWords_81, x_K_mixWords_84, x_K_mixWords_85, x_K_mixWords_88, x_K_mixWords_89, x_K_mixWords_92, x_K_mixWords_95, x_K_mixWords_96, bI_0, bI_t, bI_f, e10, isA30, isA31, isA33, isA40, isA42, isA43, rOkB0, rOkB1, rOkB, Ret_v, Ret_n, cmp_eq, cmp_lt, cmp_gt, nI_1, eq_self, if_true, if_false, reduceIte]
  exact lp
theorem l_K_dgL (h : KOk I J R S T a n s x l) : ∀ (k : Nat) (g : Int64), k ≤ (bL a).1 → Wp 51 160 [.ref 35, .long g, nov, .int (nI k - 1)] [] I J R S Q = Q 0 (some (.long (fld (fun h i => mxR (bL a) h ((bL a).1 - 1 - i)) g ((bL a).1 - k) k))) I J R S := by
  obtain ⟨k0, r0, r1, r2, r3, r4⟩ := h.1
  obtain ⟨b0, -, -, -, -, -, bL', -, -, -, -, -, -, -, -, -, b5, -⟩ := h.2.1.2.2.2.1
  have hd := h.2.1.2.2.2.2.1
  have hI := h.2.1.2.2.2.2.2.1
  have iL := hI.2.2.2.2.2.1
  intro k
  induction k with
  | zero =>
    intro g hk
    have e : nI 0 - 1 = -1 := by decide
    have e2 : ((-1 : Int32) < 0) := by decide
    rw [x_K_digest_160]
    simp only [x_K_digest_0, x_K_digest_3, x_K_digest_4, x_K_digest_7, x_K_digest_10, x_K_digest_11, x_K_digest_14, x_K_digest_15, x_K_digest_16, x_K_digest_17, x_K_digest_18, x_K_digest_20, x_K_digest_23, x_K_digest_24, x_K_digest_25, x_K_digest_26, x_K_digest_29, x_K_digest_30, x_K_digest_33, x_K_digest_34, x_K_digest_37, x_K_digest_40, x_K_digest_41, x_K_digest_42, x_K_digest_43, x_K_digest_45, x_K_digest_48, x_K_digest_49, x_K_digest_50, x_K_digest_53, x_K_digest_54, x_K_digest_57, x_K_digest_58, x_K_digest_61, x_K_digest_62, x_K_digest_65, x_K_digest_68, x_K_digest_69, x_K_digest_70, x_K_digest_73, x_K_digest_74, x_K_digest_75, x_K_digest_76, x_K_digest_77, x_K_digest_78, x_K_digest_81, x_K_digest_84, x_K_digest_87, x_K_digest_90, x_K_digest_91, x_K_digest_92, x_K_digest_95, x_K_digest_98, x_K_digest_99, x_K_digest_102, x_K_digest_105, x_K_digest_106, x_K_digest_109, x_K_digest_112, x_K_digest_113, x_K_digest_114, x_K_digest_115, x_K_digest_116, x_K_digest_119, x_K_digest_122, x_K_digest_125, x_K_digest_128, x_K_digest_129, x_K_digest_130, x_K_digest_133, x_K_digest_136, x_K_digest_137, x_K_digest_140, x_K_digest_141, x_K_digest_144, x_K_digest_147, x_K_digest_148, x_K_digest_151, x_K_digest_154, x_K_digest_157, x_K_digest_158, x_K_digest_159, x_K_digest_161, x_K_digest_164, x_K_digest_165, x_K_digest_166, x_K_digest_169, x_K_digest_172, x_K_digest_173, x_K_digest_176, x_K_digest_177, x_K_digest_180, x_K_digest_183, x_K_digest_184, e, e2, fld, bI_0, bI_t, bI_f, e10, isA30, isA31, isA33, isA40, isA42, isA43, rOkB0, rOkB1, rOkB, Ret_v, Ret_n, cmp_eq, cmp_lt, cmp_gt, nI_1, eq_self, if_true, if_false, reduceIte]
  | succ k ih =>
    intro g hk
    have e : nI (k + 1) - 1 = nI k := nI_s k
    have e2 : ¬ nI k < 0 := nI_pos (by omega)
    have e3 : nI k + -1 = nI k - 1 := (Int32.sub_eq_add_neg _ _).symm
    have f := fun Q' => c_K_mixRow (Q := Q') bL' hd.2.2.2.2.2.1 iL (by omega) (i := k) (by omega) (h := g)
    rw [x_K_digest_160]
    simp only [x_K_digest_0, x_K_digest_3, x_K_digest_4, x_K_digest_7, x_K_digest_10, x_K_digest_11, x_K_digest_14, x_K_digest_15, x_K_digest_16, x_K_digest_17, x_K_digest_18, x_K_digest_20, x_K_digest_23, x_K_digest_24, x_K_digest_25, x_K_digest_26, x_K_digest_29, x_K_digest_30, x_K_digest_33, x_K_digest_34, x_K_digest_37, x_K_digest_40, x_K_digest_41, x_K_digest_42, x_K_digest_43, x_K_digest_45, x_K_digest_48, x_K_digest_49, x_K_digest_50, x_K_digest_53, x_K_digest_54, x_K_digest_57, x_K_digest_58, x_K_digest_61, x_K_digest_62, x_K_digest_65, x_K_digest_68, x_K_digest_69, x_K_digest_70, x_K_digest_73, x_K_digest_74, x_K_digest_75, x_K_digest_76, x_K_digest_77, x_K_digest_78, x_K_digest_81, x_K_digest_84, x_K_digest_87, x_K_digest_90, x_K_digest_91, x_K_digest_92, x_K_digest_95, x_K_digest_98, x_K_digest_99, x_K_digest_102, x_K_digest_105, x_K_digest_106, x_K_digest_109, x_K_digest_112, x_K_digest_113, x_K_digest_114, x_K_digest_115, x_K_digest_116, x_K_digest_119, x_K_digest_122, x_K_digest_125, x_K_digest_128, x_K_digest_129, x_K_digest_130, x_K_digest_133, x_K_digest_136, x_K_digest_137, x_K_digest_140, x_K_digest_141, x_K_digest_144, x_K_digest_147, x_K_digest_148, x_K_digest_151, x_K_digest_154, x_K_digest_157, x_K_digest_158, x_K_digest_159, x_K_digest_161, x_K_digest_164, x_K_digest_165, x_K_digest_166, x_K_digest_169, x_K_digest_172, x_K_digest_173, x_K_digest_176, x_K_digest_177, x_K_digest_180, x_K_digest_183, x_K_digest_184, k0, r1, b0, b5, bL'.1, e, e2, e3, f, fld, bI_0, bI_t, bI_f, e10, isA30, isA31, isA33, isA40, isA42, isA43, rOkB0, rOkB1, rOkB, Ret_v, Ret_n, cmp_eq, cmp_lt, cmp_gt, nI_1, eq_self, if_true, if_false, reduceIte]
    rw [ih _ (by omega), show (bL a).1 - (k + 1) + 1 = (bL a).1 - k by omega, show (bL a).1 - 1 - ((bL a).1 - (k + 1)) = k by omega]
theorem l_K_dgP (h : KOk I J R S T a n s x l) : ∀ (k i : Nat) (g : Int64), i + k = (bP a).1 → Wp 51 114 [.ref 35, .long g, nov, .int (nI i)] [] I J R S Q = Wp 51 147 [.ref 35, .long (fld (mxR (bP a)) g i k), nov, .int (nI (bP a).1)] [] I J R S Q := by
  obtain ⟨k0, r0, r1, r2, r3, r4⟩ := h.1
  obtain ⟨b0, -, -, bP', -, -, -, -, -, -, -, -, -, b3, -⟩ := h.2.1.2.2.2.1
  have hd := h.2.1.2.2.2.2.1
  have hI := h.2.1.2.2.2.2.2.1
  have iP := hI.2.2.1
  intro k
  induction k with
  | zero =>
    intro i g hi
    have e : ¬ nI i < nI (bP a).1 := nI_nlt (by omega) (by omega)
    have e4 : i = (bP a).1 := by omega
    rw [x_K_digest_114]
    simp only [x_K_digest_0, x_K_digest_3, x_K_digest_4, x_K_digest_7, x_K_digest_10, x_K_digest_11, x_K_digest_14, x_K_digest_15, x_K_digest_16, x_K_digest_17, x_K_digest_18, x_K_digest_20, x_K_digest_23, x_K_digest_24, x_K_digest_25, x_K_digest_26, x_K_digest_29, x_K_digest_30, x_K_digest_33, x_K_digest_34, x_K_digest_37, x_K_digest_40, x_K_digest_41, x_K_digest_42, x_K_digest_43, x_K_digest_45, x_K_digest_48, x_K_digest_49, x_K_digest_50, x_K_digest_53, x_K_digest_54, x_K_digest_57, x_K_digest_58, x_K_digest_61, x_K_digest_62, x_K_digest_65, x_K_digest_68, x_K_digest_69, x_K_digest_70, x_K_digest_73, x_K_digest_74, x_K_digest_75, x_K_digest_76, x_K_digest_77, x_K_digest_78, x_K_digest_81, x_K_digest_84, x_K_digest_87, x_K_digest_90, x_K_digest_91, x_K_digest_92, x_K_digest_95, x_K_digest_98, x_K_digest_99, x_K_digest_102, x_K_digest_105, x_K_digest_106, x_K_digest_109, x_K_digest_112, x_K_digest_113, x_K_digest_115, x_K_digest_116, x_K_digest_119, x_K_digest_122, x_K_digest_125, x_K_digest_128, x_K_digest_129, x_K_digest_130, x_K_digest_133, x_K_digest_136, x_K_digest_137, x_K_digest_140, x_K_digest_141, x_K_digest_144, x_K_digest_148, x_K_digest_151, x_K_digest_154, x_K_digest_157, x_K_digest_158, x_K_digest_159, x_K_digest_160, x_K_digest_161, x_K_digest_164, x_K_digest_165, x_K_digest_166, x_K_digest_169, x_K_digest_172, x_K_digest_173, x_K_digest_176, x_K_digest_177, x_K_digest_180, x_K_digest_183, x_K_digest_184, k0, r1, b0, b3, bP'.1, c_R_size bP', hd.2.2.1.1, e, fld, bI_0, bI_t, bI_f, e10, isA30, isA31, isA33, isA40, isA42, isA43, rOkB0, rOkB1, rOkB, Ret_v, Ret_n, cmp_eq, cmp_lt, cmp_gt, nI_1, eq_self, if_true, if_false, reduceIte]
    rw [e4]
  | succ k ih =>
    intro i g hi
    have e : nI i < nI (bP a).1 := nI_lt (by omega) (by omega)
    have f := fun Q' => c_K_mixRow (Q := Q') bP' hd.2.2.1 iP (by omega) (i := i) (by omega) (h := g)
    rw [x_K_digest_114]
    simp only [x_K_digest_0, x_K_digest_3, x_K_digest_4, x_K_digest_7, x_K_digest_10, x_K_digest_11, x_K_digest_14, x_K_digest_15, x_K_digest_16, x_K_digest_17, x_K_digest_18, x_K_digest_20, x_K_digest_23, x_K_digest_24, x_K_digest_25, x_K_digest_26, x_K_digest_29, x_K_digest_30, x_K_digest_33, x_K_digest_34, x_K_digest_37, x_K_digest_40, x_K_digest_41, x_K_digest_42, x_K_digest_43, x_K_digest_45, x_K_digest_48, x_K_digest_49, x_K_digest_50, x_K_digest_53, x_K_digest_54, x_K_digest_57, x_K_digest_58, x_K_digest_61, x_K_digest_62, x_K_digest_65, x_K_digest_68, x_K_digest_69, x_K_digest_70, x_K_digest_73, x_K_digest_74, x_K_digest_75, x_K_digest_76, x_K_digest_77, x_K_digest_78, x_K_digest_81, x_K_digest_84, x_K_digest_87, x_K_digest_90, x_K_digest_91, x_K_digest_92, x_K_digest_95, x_K_digest_98, x_K_digest_99, x_K_digest_102, x_K_digest_105, x_K_digest_106, x_K_digest_109, x_K_digest_112, x_K_digest_113, x_K_digest_115, x_K_digest_116, x_K_digest_119, x_K_digest_122, x_K_digest_125, x_K_digest_128, x_K_digest_129, x_K_digest_130, x_K_digest_133, x_K_digest_136, x_K_digest_137, x_K_digest_140, x_K_digest_141, x_K_digest_144, x_K_digest_148, x_K_digest_151, x_K_digest_154, x_K_digest_157, x_K_digest_158, x_K_digest_159, x_K_digest_160, x_K_digest_161, x_K_digest_164, x_K_digest_165, x_K_digest_166, x_K_digest_169, x_K_digest_172, x_K_digest_173, x_K_digest_176, x_K_digest_177, x_K_digest_180, x_K_digest_183, x_K_digest_184, k0, r1, b0, b3, bP'.1, c_R_size bP', hd.2.2.1.1, e, f, nI_1', fld, bI_0, bI_t, bI_f, e10, isA30, isA31, isA33, isA40, isA42, isA43, rOkB0, rOkB1, rOkB, Ret_v, Ret_n, cmp_eq, cmp_lt, cmp_gt, nI_1, eq_self, if_true, if_false, reduceIte]
    exact ih (i + 1) _ (by omega)
theorem l_K_dgN (h : KOk I J R S T a n s x l) : ∀ (k i : Nat) (g : Int64), i + k = (bN a).1 → Wp 51 76 [.ref 35, .long g, nov, .int (nI i)] [] I J R S Q = Wp 51 112 [.ref 35, .long (fld (mxH (bN a).2.1) g i k), nov, .int (nI (bN a).1)] [] I J R S Q := by
  obtain ⟨k0, r0, r1, r2, r3, r4⟩ := h.1
  obtain ⟨b0, -, bN', -, -, -, -, -, -, -, -, -, b2, -⟩ := h.2.1.2.2.2.1
  have hd := h.2.1.2.2.2.2.1
  have hI := h.2.1.2.2.2.2.2.1
  have iN := hI.2.1
  intro k
  induction k with
  | zero =>
    intro i g hi
    have e : ¬ nI i < nI (bN a).1 := nI_nlt (by omega) (by omega)
    have e4 : i = (bN a).1 := by omega
    rw [x_K_digest_76]
    simp only [x_K_digest_0, x_K_digest_3, x_K_digest_4, x_K_digest_7, x_K_digest_10, x_K_digest_11, x_K_digest_14, x_K_digest_15, x_K_digest_16, x_K_digest_17, x_K_digest_18, x_K_digest_20, x_K_digest_23, x_K_digest_24, x_K_digest_25, x_K_digest_26, x_K_digest_29, x_K_digest_30, x_K_digest_33, x_K_digest_34, x_K_digest_37, x_K_digest_40, x_K_digest_41, x_K_digest_42, x_K_digest_43, x_K_digest_45, x_K_digest_48, x_K_digest_49, x_K_digest_50, x_K_digest_53, x_K_digest_54, x_K_digest_57, x_K_digest_58, x_K_digest_61, x_K_digest_62, x_K_digest_65, x_K_digest_68, x_K_digest_69, x_K_digest_70, x_K_digest_73, x_K_digest_74, x_K_digest_75, x_K_digest_77, x_K_digest_78, x_K_digest_81, x_K_digest_84, x_K_digest_87, x_K_digest_90, x_K_digest_91, x_K_digest_92, x_K_digest_95, x_K_digest_98, x_K_digest_99, x_K_digest_102, x_K_digest_105, x_K_digest_106, x_K_digest_109, x_K_digest_113, x_K_digest_114, x_K_digest_115, x_K_digest_116, x_K_digest_119, x_K_digest_122, x_K_digest_125, x_K_digest_128, x_K_digest_129, x_K_digest_130, x_K_digest_133, x_K_digest_136, x_K_digest_137, x_K_digest_140, x_K_digest_141, x_K_digest_144, x_K_digest_147, x_K_digest_148, x_K_digest_151, x_K_digest_154, x_K_digest_157, x_K_digest_158, x_K_digest_159, x_K_digest_160, x_K_digest_161, x_K_digest_164, x_K_digest_165, x_K_digest_166, x_K_digest_169, x_K_digest_172, x_K_digest_173, x_K_digest_176, x_K_digest_177, x_K_digest_180, x_K_digest_183, x_K_digest_184, k0, r1, b0, b2, bN'.1, c_R_size bN', hd.2.1.1, e, fld, bI_0, bI_t, bI_f, e10, isA30, isA31, isA33, isA40, isA42, isA43, rOkB0, rOkB1, rOkB, Ret_v, Ret_n, cmp_eq, cmp_lt, cmp_gt, nI_1, eq_self, if_true, if_false, reduceIte]
    rw [e4]
  | succ k ih =>
    intro i g hi
    have e : nI i < nI (bN a).1 := nI_lt (by omega) (by omega)
    have f := fun Q' => c_R_firstAt (Q := Q') bN' hd.2.1 iN (by omega) (i := nI i)
    rw [inb_nI (by omega) (by omega), if_pos (by simp), ix_nI (by omega)] at f
    rw [x_K_digest_76]
    simp only [x_K_digest_0, x_K_digest_3, x_K_digest_4, x_K_digest_7, x_K_digest_10, x_K_digest_11, x_K_digest_14, x_K_digest_15, x_K_digest_16, x_K_digest_17, x_K_digest_18, x_K_digest_20, x_K_digest_23, x_K_digest_24, x_K_digest_25, x_K_digest_26, x_K_digest_29, x_K_digest_30, x_K_digest_33, x_K_digest_34, x_K_digest_37, x_K_digest_40, x_K_digest_41, x_K_digest_42, x_K_digest_43, x_K_digest_45, x_K_digest_48, x_K_digest_49, x_K_digest_50, x_K_digest_53, x_K_digest_54, x_K_digest_57, x_K_digest_58, x_K_digest_61, x_K_digest_62, x_K_digest_65, x_K_digest_68, x_K_digest_69, x_K_digest_70, x_K_digest_73, x_K_digest_74, x_K_digest_75, x_K_digest_77, x_K_digest_78, x_K_digest_81, x_K_digest_84, x_K_digest_87, x_K_digest_90, x_K_digest_91, x_K_digest_92, x_K_digest_95, x_K_digest_98, x_K_digest_99, x_K_digest_102, x_K_digest_105, x_K_digest_106, x_K_digest_109, x_K_digest_113, x_K_digest_114, x_K_digest_115, x_K_digest_116, x_K_digest_119, x_K_digest_122, x_K_digest_125, x_K_digest_128, x_K_digest_129, x_K_digest_130, x_K_digest_133, x_K_digest_136, x_K_digest_137, x_K_digest_140, x_K_digest_141, x_K_digest_144, x_K_digest_147, x_K_digest_148, x_K_digest_151, x_K_digest_154, x_K_digest_157, x_K_digest_158, x_K_digest_159, x_K_digest_160, x_K_digest_161, x_K_digest_164, x_K_digest_165, x_K_digest_166, x_K_digest_169, x_K_digest_172, x_K_digest_173, x_K_digest_176, x_K_digest_177, x_K_digest_180, x_K_digest_183, x_K_digest_184, k0, r1, b0, b2, bN'.1, c_R_size bN', hd.2.1.1, e, f, c_K_mix, nI_1', fld, mxH, bI_0, bI_t, bI_f, e10, isA30, isA31, isA33, isA40, isA42, isA43, rOkB0, rOkB1, rOkB, Ret_v, Ret_n, cmp_eq, cmp_lt, cmp_gt, nI_1, eq_self, if_true, if_false, reduceIte]
    exact ih (i + 1) _ (by omega)
theorem l_K_dgK (h : KOk I J R S T a n s x l) : ∀ (k i : Nat) (g : Int64), i + k = 26 → Wp 51 42 [.ref 35, .long g, nov, .int (nI i)] [] I J R S Q = Wp 51 68 [.ref 35, .long (fld (mxH (fun i => (bK a i).toInt64)) g i k), nov, .int (nI 26)] [] I J R S Q := by
  obtain ⟨k0, r0, r1, r2, r3, r4⟩ := h.1
  have hb := h.2.1.2.2.2.1
  intro k
  induction k with
  | zero =>
    intro i g hi
    have e4 : i = 26 := by omega
    subst e4
    rw [x_K_digest_42]
    simp only [x_K_digest_0, x_K_digest_3, x_K_digest_4, x_K_digest_7, x_K_digest_10, x_K_digest_11, x_K_digest_14, x_K_digest_15, x_K_digest_16, x_K_digest_17, x_K_digest_18, x_K_digest_20, x_K_digest_23, x_K_digest_24, x_K_digest_25, x_K_digest_26, x_K_digest_29, x_K_digest_30, x_K_digest_33, x_K_digest_34, x_K_digest_37, x_K_digest_40, x_K_digest_41, x_K_digest_43, x_K_digest_45, x_K_digest_48, x_K_digest_49, x_K_digest_50, x_K_digest_53, x_K_digest_54, x_K_digest_57, x_K_digest_58, x_K_digest_61, x_K_digest_62, x_K_digest_65, x_K_digest_69, x_K_digest_70, x_K_digest_73, x_K_digest_74, x_K_digest_75, x_K_digest_76, x_K_digest_77, x_K_digest_78, x_K_digest_81, x_K_digest_84, x_K_digest_87, x_K_digest_90, x_K_digest_91, x_K_digest_92, x_K_digest_95, x_K_digest_98, x_K_digest_99, x_K_digest_102, x_K_digest_105, x_K_digest_106, x_K_digest_109, x_K_digest_112, x_K_digest_113, x_K_digest_114, x_K_digest_115, x_K_digest_116, x_K_digest_119, x_K_digest_122, x_K_digest_125, x_K_digest_128, x_K_digest_129, x_K_digest_130, x_K_digest_133, x_K_digest_136, x_K_digest_137, x_K_digest_140, x_K_digest_141, x_K_digest_144, x_K_digest_147, x_K_digest_148, x_K_digest_151, x_K_digest_154, x_K_digest_157, x_K_digest_158, x_K_digest_159, x_K_digest_160, x_K_digest_161, x_K_digest_164, x_K_digest_165, x_K_digest_166, x_K_digest_169, x_K_digest_172, x_K_digest_173, x_K_digest_176, x_K_digest_177, x_K_digest_180, x_K_digest_183, x_K_digest_184, show ¬ nI 26 < 26 by decide, fld, bI_0, bI_t, bI_f, e10, isA30, isA31, isA33, isA40, isA42, isA43, rOkB0, rOkB1, rOkB, Ret_v, Ret_n, cmp_eq, cmp_lt, cmp_gt, nI_1, eq_self, if_true, if_false, reduceIte]
  | succ k ih =>
    intro i g hi
    have e : nI i < 26 := by rw [show (26 : Int32) = nI 26 by decide]; exact nI_lt (by omega) (by omega)
    have f := fun Q' => c_O_stickOf (Q := Q') hb h.2.1.2.2.2.2.1 (i := nI i)
    unfold stk at f
    rw [inb_nI (by omega) (by omega), if_pos (by simp), ix_nI (by omega)] at f
    rw [x_K_digest_42]
    simp only [x_K_digest_0, x_K_digest_3, x_K_digest_4, x_K_digest_7, x_K_digest_10, x_K_digest_11, x_K_digest_14, x_K_digest_15, x_K_digest_16, x_K_digest_17, x_K_digest_18, x_K_digest_20, x_K_digest_23, x_K_digest_24, x_K_digest_25, x_K_digest_26, x_K_digest_29, x_K_digest_30, x_K_digest_33, x_K_digest_34, x_K_digest_37, x_K_digest_40, x_K_digest_41, x_K_digest_43, x_K_digest_45, x_K_digest_48, x_K_digest_49, x_K_digest_50, x_K_digest_53, x_K_digest_54, x_K_digest_57, x_K_digest_58, x_K_digest_61, x_K_digest_62, x_K_digest_65, x_K_digest_69, x_K_digest_70, x_K_digest_73, x_K_digest_74, x_K_digest_75, x_K_digest_76, x_K_digest_77, x_K_digest_78, x_K_digest_81, x_K_digest_84, x_K_digest_87, x_K_digest_90, x_K_digest_91, x_K_digest_92, x_K_digest_95, x_K_digest_98, x_K_digest_99, x_K_digest_102, x_K_digest_105, x_K_digest_106, x_K_digest_109, x_K_digest_112, x_K_digest_113, x_K_digest_114, x_K_digest_115, x_K_digest_116, x_K_digest_119, x_K_digest_122, x_K_digest_125, x_K_digest_128, x_K_digest_129, x_K_digest_130, x_K_digest_133, x_K_digest_136, x_K_digest_137, x_K_digest_140, x_K_digest_141, x_K_digest_144, x_K_digest_147, x_K_digest_148, x_K_digest_151, x_K_digest_154, x_K_digest_157, x_K_digest_158, x_K_digest_159, x_K_digest_160, x_K_digest_161, x_K_digest_164, x_K_digest_165, x_K_digest_166, x_K_digest_169, x_K_digest_172, x_K_digest_173, x_K_digest_176, x_K_digest_177, x_K_digest_180, x_K_digest_183, x_K_digest_184, k0, r1, hb.1, e, f, c_K_mix, nI_1', fld, mxH, bI_0, bI_t, bI_f, e10, isA30, isA31, isA33, isA40, isA42, isA43, rOkB0, rOkB1, rOkB, Ret_v, Ret_n, cmp_eq, cmp_lt, cmp_gt, nI_1, eq_self, if_true, if_false, reduceIte]
    exact ih (i + 1) _ (by omega)
theorem l_K_dg0 (h : KOk I J R S T a n s x l) : ∀ (k i : Nat) (g : Int64), i + k = 12 → Wp 51 17 [.ref 35, .long g, nov, .int (nI i)] [] I J R S Q = Wp 51 40 [.ref 35, .long (fld (mxH (fun k => (whV a l k).toInt64)) g i k), nov, .int (nI 12)] [] I J R S Q := by
  obtain ⟨k0, r0, r1, r2, r3, r4⟩ := h.1
  intro k
  induction k with
  | zero =>
    intro i g hi
    have e4 : i = 12 := by omega
    subst e4
    rw [x_K_digest_17]
    simp only [x_K_digest_0, x_K_digest_3, x_K_digest_4, x_K_digest_7, x_K_digest_10, x_K_digest_11, x_K_digest_14, x_K_digest_15, x_K_digest_16, x_K_digest_18, x_K_digest_20, x_K_digest_23, x_K_digest_24, x_K_digest_25, x_K_digest_26, x_K_digest_29, x_K_digest_30, x_K_digest_33, x_K_digest_34, x_K_digest_37, x_K_digest_41, x_K_digest_42, x_K_digest_43, x_K_digest_45, x_K_digest_48, x_K_digest_49, x_K_digest_50, x_K_digest_53, x_K_digest_54, x_K_digest_57, x_K_digest_58, x_K_digest_61, x_K_digest_62, x_K_digest_65, x_K_digest_68, x_K_digest_69, x_K_digest_70, x_K_digest_73, x_K_digest_74, x_K_digest_75, x_K_digest_76, x_K_digest_77, x_K_digest_78, x_K_digest_81, x_K_digest_84, x_K_digest_87, x_K_digest_90, x_K_digest_91, x_K_digest_92, x_K_digest_95, x_K_digest_98, x_K_digest_99, x_K_digest_102, x_K_digest_105, x_K_digest_106, x_K_digest_109, x_K_digest_112, x_K_digest_113, x_K_digest_114, x_K_digest_115, x_K_digest_116, x_K_digest_119, x_K_digest_122, x_K_digest_125, x_K_digest_128, x_K_digest_129, x_K_digest_130, x_K_digest_133, x_K_digest_136, x_K_digest_137, x_K_digest_140, x_K_digest_141, x_K_digest_144, x_K_digest_147, x_K_digest_148, x_K_digest_151, x_K_digest_154, x_K_digest_157, x_K_digest_158, x_K_digest_159, x_K_digest_160, x_K_digest_161, x_K_digest_164, x_K_digest_165, x_K_digest_166, x_K_digest_169, x_K_digest_172, x_K_digest_173, x_K_digest_176, x_K_digest_177, x_K_digest_180, x_K_digest_183, x_K_digest_184, show (11 : Int32) < nI 12 by decide, fld, bI_0, bI_t, bI_f, e10, isA30, isA31, isA33, isA40, isA42, isA43, rOkB0, rOkB1, rOkB, Ret_v, Ret_n, cmp_eq, cmp_lt, cmp_gt, nI_1, eq_self, if_true, if_false, reduceIte]
  | succ k ih =>
    intro i g hi
    have e : ¬ (11 : Int32) < nI i := by rw [show (11 : Int32) = nI 11 by decide]; exact nI_nlt (by omega) (by omega)
    have f := fun Q' => c_K_valueOfWhole (Q := Q') h (m := i) (by omega)
    rw [x_K_digest_17]
    simp only [x_K_digest_0, x_K_digest_3, x_K_digest_4, x_K_digest_7, x_K_digest_10, x_K_digest_11, x_K_digest_14, x_K_digest_15, x_K_digest_16, x_K_digest_18, x_K_digest_20, x_K_digest_23, x_K_digest_24, x_K_digest_25, x_K_digest_26, x_K_digest_29, x_K_digest_30, x_K_digest_33, x_K_digest_34, x_K_digest_37, x_K_digest_41, x_K_digest_42, x_K_digest_43, x_K_digest_45, x_K_digest_48, x_K_digest_49, x_K_digest_50, x_K_digest_53, x_K_digest_54, x_K_digest_57, x_K_digest_58, x_K_digest_61, x_K_digest_62, x_K_digest_65, x_K_digest_68, x_K_digest_69, x_K_digest_70, x_K_digest_73, x_K_digest_74, x_K_digest_75, x_K_digest_76, x_K_digest_77, x_K_digest_78, x_K_digest_81, x_K_digest_84, x_K_digest_87, x_K_digest_90, x_K_digest_91, x_K_digest_92, x_K_digest_95, x_K_digest_98, x_K_digest_99, x_K_digest_102, x_K_digest_105, x_K_digest_106, x_K_digest_109, x_K_digest_112, x_K_digest_113, x_K_digest_114, x_K_digest_115, x_K_digest_116, x_K_digest_119, x_K_digest_122, x_K_digest_125, x_K_digest_128, x_K_digest_129, x_K_digest_130, x_K_digest_133, x_K_digest_136, x_K_digest_137, x_K_digest_140, x_K_digest_141, x_K_digest_144, x_K_digest_147, x_K_digest_148, x_K_digest_151, x_K_digest_154, x_K_digest_157, x_K_digest_158, x_K_digest_159, x_K_digest_160, x_K_digest_161, x_K_digest_164, x_K_digest_165, x_K_digest_166, x_K_digest_169, x_K_digest_172, x_K_digest_173, x_K_digest_176, x_K_digest_177, x_K_digest_180, x_K_digest_183, x_K_digest_184, k0, e, f, c_K_mix, nI_1', fld, mxH, bI_0, bI_t, bI_f, e10, isA30, isA31, isA33, isA40, isA42, isA43, rOkB0, rOkB1, rOkB, Ret_v, Ret_n, cmp_eq, cmp_lt, cmp_gt, nI_1, eq_self, if_true, if_false, reduceIte]
    exact ih (i + 1) _ (by omega)
theorem c_K_digest (h : KOk I J R S T a n s x l) (hQ : ∀ I', kF 35 186 I J R I' J R → KOk I' J R S T a n s x l → Q 0 (some (.long (dgA a n l))) I' J R S) : Wp 51 0 [.ref 35, nov, nov, nov] [] I J R S Q := by
  obtain ⟨k0, r0, r1, r2, r3, r4⟩ := h.1
  obtain ⟨π, p1, p2⟩ := h.2.2.1
  have f := fun Q' => c_H_size (Q := Q') (I := I) (J := J) (R := R) p1.1
  rw [p2.1] at f
  have m0 := fun g => l_K_dg0 (Q := Q) h 12 0 g (by omega)
  have m1 := fun g => l_K_dgK (Q := Q) h 26 0 g (by omega)
  rw [nI_0] at m0 m1
  simp only [x_K_digest_0, x_K_digest_3, x_K_digest_4, x_K_digest_7, x_K_digest_10, x_K_digest_11, x_K_digest_14, x_K_digest_15, x_K_digest_16, x_K_digest_18, x_K_digest_20, x_K_digest_23, x_K_digest_24, x_K_digest_25, x_K_digest_26, x_K_digest_29, x_K_digest_30, x_K_digest_33, x_K_digest_34, x_K_digest_37, x_K_digest_40, x_K_digest_41, x_K_digest_43, x_K_digest_45, x_K_digest_48, x_K_digest_49, x_K_digest_50, x_K_digest_53, x_K_digest_54, x_K_digest_57, x_K_digest_58, x_K_digest_61, x_K_digest_62, x_K_digest_65, x_K_digest_68, x_K_digest_69, x_K_digest_70, x_K_digest_73, x_K_digest_74, x_K_digest_75, x_K_digest_77, x_K_digest_78, x_K_digest_81, x_K_digest_84, x_K_digest_87, x_K_digest_90, x_K_digest_91, x_K_digest_92, x_K_digest_95, x_K_digest_98, x_K_digest_99, x_K_digest_102, x_K_digest_105, x_K_digest_106, x_K_digest_109, x_K_digest_112, x_K_digest_113, x_K_digest_115, x_K_digest_116, x_K_digest_119, x_K_digest_122, x_K_digest_125, x_K_digest_128, x_K_digest_129, x_K_digest_130, x_K_digest_133, x_K_digest_136, x_K_digest_137, x_K_digest_140, x_K_digest_141, x_K_digest_144, x_K_digest_147, x_K_digest_148, x_K_digest_151, x_K_digest_154, x_K_digest_157, x_K_digest_158, x_K_digest_159, x_K_digest_161, x_K_digest_164, x_K_digest_165, x_K_digest_166, x_K_digest_169, x_K_digest_172, x_K_digest_173, x_K_digest_176, x_K_digest_177, x_K_digest_180, x_K_digest_183, x_K_digest_184, k0, r3, p1.1, f, c_K_mix, m0, m1, bI_0, bI_t, bI_f, e10, isA30, isA31, isA33, isA40, isA42, isA43, rOkB0, rOkB1, rOkB, Ret_v, Ret_n, cmp_eq, cmp_lt, cmp_gt, nI_1, eq_self, if_true, if_false, reduceIte]
  refine c_K_mixWords h (fun I1 f1 h1 => ?_)
  have m2 := fun g => l_K_dgN (Q := Q) h1 (bN a).1 0 g (by omega)
  have m3 := fun g => l_K_dgP (Q := Q) h1 (bP a).1 0 g (by omega)
  have m4 := fun g => l_K_dgL (Q := Q) h1 (bL a).1 g (Nat.le_refl _)
  rw [nI_0] at m2 m3
  obtain ⟨k0, r0, r1, r2, r3, r4⟩ := h1.1
  obtain ⟨b0, -, -, -, -, -, bL', -, -, -, -, -, -, -, -, -, b5, -⟩ := h1.2.1.2.2.2.1
  have hd := h1.2.1.2.2.2.2.1
  simp only [x_K_digest_0, x_K_digest_3, x_K_digest_4, x_K_digest_7, x_K_digest_10, x_K_digest_11, x_K_digest_14, x_K_digest_15, x_K_digest_16, x_K_digest_18, x_K_digest_20, x_K_digest_23, x_K_digest_24, x_K_digest_25, x_K_digest_26, x_K_digest_29, x_K_digest_30, x_K_digest_33, x_K_digest_34, x_K_digest_37, x_K_digest_40, x_K_digest_41, x_K_digest_43, x_K_digest_45, x_K_digest_48, x_K_digest_49, x_K_digest_50, x_K_digest_53, x_K_digest_54, x_K_digest_57, x_K_digest_58, x_K_digest_61, x_K_digest_62, x_K_digest_65, x_K_digest_68, x_K_digest_69, x_K_digest_70, x_K_digest_73, x_K_digest_74, x_K_digest_75, x_K_digest_77, x_K_digest_78, x_K_digest_81, x_K_digest_84, x_K_digest_87, x_K_digest_90, x_K_digest_91, x_K_digest_92, x_K_digest_95, x_K_digest_98, x_K_digest_99, x_K_digest_102, x_K_digest_105, x_K_digest_106, x_K_digest_109, x_K_digest_112, x_K_digest_113, x_K_digest_115, x_K_digest_116, x_K_digest_119, x_K_digest_122, x_K_digest_125, x_K_digest_128, x_K_digest_129, x_K_digest_130, x_K_digest_133, x_K_digest_136, x_K_digest_137, x_K_digest_140, x_K_digest_141, x_K_digest_144, x_K_digest_147, x_K_digest_148, x_K_digest_151, x_K_digest_154, x_K_digest_157, x_K_digest_158, x_K_digest_159, x_K_digest_161, x_K_digest_164, x_K_digest_165, x_K_digest_166, x_K_digest_169, x_K_digest_172, x_K_digest_173, x_K_digest_176, x_K_digest_177, x_K_digest_180, x_K_digest_183, x_K_digest_184, k0, r1, b0, b5, bL'.1, c_R_size bL', hd.2.2.2.2.2.1.1, m2, m3, m4, Nat.sub_self, bI_0, bI_t, bI_f, e10, isA30, isA31, isA33, isA40, isA42, isA43, rOkB0, rOkB1, rOkB, Ret_v, Ret_n, cmp_eq, cmp_lt, cmp_gt, nI_1, eq_self, if_true, if_false, reduceIte]
  exact hQ _ f1 h1
end KG
