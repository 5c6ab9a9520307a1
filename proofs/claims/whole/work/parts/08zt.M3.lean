/-! the model: how its row holds the book -/
theorem kI_0 : nI 0 = 0 := by decide
theorem kI_1 : nI 1 = 1 := by decide
theorem kI_2 : nI 2 = 2 := by decide
theorem kI_3 : nI 3 = 3 := by decide
theorem kI_4 : nI 4 = 4 := by decide
theorem kI_5 : nI 5 = 5 := by decide
theorem kI_6 : nI 6 = 6 := by decide
theorem kI_7 : nI 7 = 7 := by decide
theorem kI_8 : nI 8 = 8 := by decide
theorem kI_9 : nI 9 = 9 := by decide
theorem kI_10 : nI 10 = 10 := by decide
theorem kI_11 : nI 11 = 11 := by decide
theorem kI_20 : nI 20 = 20 := by decide
theorem kI_24 : nI 24 = 24 := by decide
theorem kI_26 : nI 26 = 26 := by decide
theorem kI_35 : nI 35 = 35 := by decide
theorem kI_55 : nI 55 = 55 := by decide
theorem kI_75 : nI 75 = 75 := by decide
theorem kI_85 : nI 85 = 85 := by decide
theorem kI_109 : nI 109 = 109 := by decide
theorem kI_133 : nI 133 = 133 := by decide
theorem kI_157 : nI 157 = 157 := by decide
theorem kI_181 : nI 181 = 181 := by decide
theorem kI_205 : nI 205 = 205 := by decide
theorem kI_225 : nI 225 = 225 := by decide
theorem kI_245 : nI 245 = 245 := by decide
theorem kI_265 : nI 265 = 265 := by decide
theorem kI_285 : nI 285 = 285 := by decide
theorem kI_305 : nI 305 = 305 := by decide
def nmC (p : Rw) : Nat → Int64 := fun i => (p.2.2.2 i).toInt64
def NoW (f : Nat → Int64) (p : Rw) : Prop := f 0 = lW p.1 ∧ col f 35 p.1 p.2.1 ∧ col f 55 p.1 (nmC p)
def NoN (f : Nat → Int64) (p : Rw) : Prop := f 1 = lW p.1 ∧ col f 75 p.1 p.2.1
def NoP (f : Nat → Int64) (p : Rw) : Prop := f 2 = lW p.1 ∧ col f 85 p.1 p.2.1 ∧ col f 109 p.1 p.2.2.1 ∧ col f 133 p.1 (nmC p)
def NoB (f : Nat → Int64) (p : Rw) : Prop := f 3 = lW p.1 ∧ col f 157 p.1 p.2.1 ∧ col f 181 p.1 p.2.2.1
def NoS (f : Nat → Int64) (p : Rw) : Prop := f 4 = lW p.1 ∧ col f 205 p.1 p.2.1 ∧ col f 225 p.1 (nmC p)
def NoL (f : Nat → Int64) (p : Rw) : Prop := f 5 = lW p.1 ∧ col f 245 p.1 p.2.1 ∧ col f 265 p.1 p.2.2.1 ∧ col f 285 p.1 (nmC p)
def NoT (f : Nat → Int64) (t : Nat → Int32) : Prop := ∀ i, i < 3 → f (6 + i) = (t i).toInt64
def NoK (f : Nat → Int64) (t : Nat → Int32) : Prop := ∀ i, i < 26 → f (9 + i) = (t i).toInt64
def NoD (f : Nat → Int64) (a : Bk) : Prop := NoW f (bW a) ∧ NoN f (bN a) ∧ NoP f (bP a) ∧ NoB f (bB a) ∧ NoS f (bS a) ∧ NoL f (bL a) ∧ NoT f (bT a) ∧ NoK f (bK a)
section MC
variable {I : MI} {J : MJ} {R : MR} {S : Sh} {Q : SkQ} {f g : Nat → Int64} {b n k j T : Nat} {w u v t : Int64} {a : Bk} {p r : Rw} {c : Int32}
theorem NoW_c (h : NoW f p) (hp : p.1 ≤ 20) (e : ∀ i, i < 305 → (i = 0 ∨ (35 ≤ i ∧ i < 75)) → g i = f i) : NoW g p := ⟨by rw [e 0 (by omega) (by omega)]; exact h.1, col_of h.2.1 (fun i hi => e _ (by omega) (by omega)), col_of h.2.2 (fun i hi => e _ (by omega) (by omega))⟩
theorem NoN_c (h : NoN f p) (hp : p.1 ≤ 10) (e : ∀ i, i < 305 → (i = 1 ∨ (75 ≤ i ∧ i < 85)) → g i = f i) : NoN g p := ⟨by rw [e 1 (by omega) (by omega)]; exact h.1, col_of h.2 (fun i hi => e _ (by omega) (by omega))⟩
theorem NoP_c (h : NoP f p) (hp : p.1 ≤ 24) (e : ∀ i, i < 305 → (i = 2 ∨ (85 ≤ i ∧ i < 157)) → g i = f i) : NoP g p := ⟨by rw [e 2 (by omega) (by omega)]; exact h.1, col_of h.2.1 (fun i hi => e _ (by omega) (by omega)), col_of h.2.2.1 (fun i hi => e _ (by omega) (by omega)), col_of h.2.2.2 (fun i hi => e _ (by omega) (by omega))⟩
theorem NoB_c (h : NoB f p) (hp : p.1 ≤ 24) (e : ∀ i, i < 305 → (i = 3 ∨ (157 ≤ i ∧ i < 205)) → g i = f i) : NoB g p := ⟨by rw [e 3 (by omega) (by omega)]; exact h.1, col_of h.2.1 (fun i hi => e _ (by omega) (by omega)), col_of h.2.2 (fun i hi => e _ (by omega) (by omega))⟩
theorem NoS_c (h : NoS f p) (hp : p.1 ≤ 20) (e : ∀ i, i < 305 → (i = 4 ∨ (205 ≤ i ∧ i < 245)) → g i = f i) : NoS g p := ⟨by rw [e 4 (by omega) (by omega)]; exact h.1, col_of h.2.1 (fun i hi => e _ (by omega) (by omega)), col_of h.2.2 (fun i hi => e _ (by omega) (by omega))⟩
theorem NoL_c (h : NoL f p) (hp : p.1 ≤ 20) (e : ∀ i, i < 305 → (i = 5 ∨ (245 ≤ i ∧ i < 305)) → g i = f i) : NoL g p := ⟨by rw [e 5 (by omega) (by omega)]; exact h.1, col_of h.2.1 (fun i hi => e _ (by omega) (by omega)), col_of h.2.2.1 (fun i hi => e _ (by omega) (by omega)), col_of h.2.2.2 (fun i hi => e _ (by omega) (by omega))⟩
theorem NoT_c {q : Nat → Int32} (h : NoT f q) (e : ∀ i, i < 305 → (6 ≤ i ∧ i < 9) → g i = f i) : NoT g q := fun i hi => by rw [e _ (by omega) (by omega)]; exact h i hi
theorem NoK_c {q : Nat → Int32} (h : NoK f q) (e : ∀ i, i < 305 → (9 ≤ i ∧ i < 35) → g i = f i) : NoK g q := fun i hi => by rw [e _ (by omega) (by omega)]; exact h i hi
theorem NoD_W (h : NoD f a) (hF : BkF a) (e : ∀ i, i < 305 → ¬ (i = 0 ∨ (35 ≤ i ∧ i < 75)) → g i = f i) (hr : NoW g r) : NoD g (bkW a r) := by
  obtain ⟨h1, h2, h3, h4, h5, h6, h7, h8⟩ := h
  obtain ⟨f1, f2, f3, f4, f5, f6⟩ := hF
  exact ⟨hr, NoN_c h2 f2 (fun i l q => e i l (by omega)), NoP_c h3 f3 (fun i l q => e i l (by omega)), NoB_c h4 f4 (fun i l q => e i l (by omega)), NoS_c h5 f5 (fun i l q => e i l (by omega)), NoL_c h6 f6 (fun i l q => e i l (by omega)), NoT_c h7 (fun i l q => e i l (by omega)), NoK_c h8 (fun i l q => e i l (by omega))⟩
theorem NoD_N (h : NoD f a) (hF : BkF a) (e : ∀ i, i < 305 → ¬ (i = 1 ∨ (75 ≤ i ∧ i < 85)) → g i = f i) (hr : NoN g r) : NoD g (bkN a r) := by
  obtain ⟨h1, h2, h3, h4, h5, h6, h7, h8⟩ := h
  obtain ⟨f1, f2, f3, f4, f5, f6⟩ := hF
  exact ⟨NoW_c h1 f1 (fun i l q => e i l (by omega)), hr, NoP_c h3 f3 (fun i l q => e i l (by omega)), NoB_c h4 f4 (fun i l q => e i l (by omega)), NoS_c h5 f5 (fun i l q => e i l (by omega)), NoL_c h6 f6 (fun i l q => e i l (by omega)), NoT_c h7 (fun i l q => e i l (by omega)), NoK_c h8 (fun i l q => e i l (by omega))⟩
theorem NoD_P (h : NoD f a) (hF : BkF a) (e : ∀ i, i < 305 → ¬ (i = 2 ∨ (85 ≤ i ∧ i < 157)) → g i = f i) (hr : NoP g r) : NoD g (bkP a r) := by
  obtain ⟨h1, h2, h3, h4, h5, h6, h7, h8⟩ := h
  obtain ⟨f1, f2, f3, f4, f5, f6⟩ := hF
  exact ⟨NoW_c h1 f1 (fun i l q => e i l (by omega)), NoN_c h2 f2 (fun i l q => e i l (by omega)), hr, NoB_c h4 f4 (fun i l q => e i l (by omega)), NoS_c h5 f5 (fun i l q => e i l (by omega)), NoL_c h6 f6 (fun i l q => e i l (by omega)), NoT_c h7 (fun i l q => e i l (by omega)), NoK_c h8 (fun i l q => e i l (by omega))⟩
theorem NoD_B (h : NoD f a) (hF : BkF a) (e : ∀ i, i < 305 → ¬ (i = 3 ∨ (157 ≤ i ∧ i < 205)) → g i = f i) (hr : NoB g r) : NoD g (bkB a r) := by
  obtain ⟨h1, h2, h3, h4, h5, h6, h7, h8⟩ := h
  obtain ⟨f1, f2, f3, f4, f5, f6⟩ := hF
  exact ⟨NoW_c h1 f1 (fun i l q => e i l (by omega)), NoN_c h2 f2 (fun i l q => e i l (by omega)), NoP_c h3 f3 (fun i l q => e i l (by omega)), hr, NoS_c h5 f5 (fun i l q => e i l (by omega)), NoL_c h6 f6 (fun i l q => e i l (by omega)), NoT_c h7 (fun i l q => e i l (by omega)), NoK_c h8 (fun i l q => e i l (by omega))⟩
theorem NoD_S (h : NoD f a) (hF : BkF a) (e : ∀ i, i < 305 → ¬ (i = 4 ∨ (205 ≤ i ∧ i < 245)) → g i = f i) (hr : NoS g r) : NoD g (bkS a r) := by
  obtain ⟨h1, h2, h3, h4, h5, h6, h7, h8⟩ := h
  obtain ⟨f1, f2, f3, f4, f5, f6⟩ := hF
  exact ⟨NoW_c h1 f1 (fun i l q => e i l (by omega)), NoN_c h2 f2 (fun i l q => e i l (by omega)), NoP_c h3 f3 (fun i l q => e i l (by omega)), NoB_c h4 f4 (fun i l q => e i l (by omega)), hr, NoL_c h6 f6 (fun i l q => e i l (by omega)), NoT_c h7 (fun i l q => e i l (by omega)), NoK_c h8 (fun i l q => e i l (by omega))⟩
theorem NoD_L (h : NoD f a) (hF : BkF a) (e : ∀ i, i < 305 → ¬ (i = 5 ∨ (245 ≤ i ∧ i < 305)) → g i = f i) (hr : NoL g r) : NoD g (bkL a r) := by
  obtain ⟨h1, h2, h3, h4, h5, h6, h7, h8⟩ := h
  obtain ⟨f1, f2, f3, f4, f5, f6⟩ := hF
  exact ⟨NoW_c h1 f1 (fun i l q => e i l (by omega)), NoN_c h2 f2 (fun i l q => e i l (by omega)), NoP_c h3 f3 (fun i l q => e i l (by omega)), NoB_c h4 f4 (fun i l q => e i l (by omega)), NoS_c h5 f5 (fun i l q => e i l (by omega)), hr, NoT_c h7 (fun i l q => e i l (by omega)), NoK_c h8 (fun i l q => e i l (by omega))⟩
theorem NoD_T (h : NoD f a) (hF : BkF a) (hk : k < 3) : NoD (ju f (6 + k) c.toInt64) (aSet a k c) := by
  obtain ⟨h1, h2, h3, h4, h5, h6, h7, h8⟩ := h
  obtain ⟨f1, f2, f3, f4, f5, f6⟩ := hF
  refine ⟨NoW_c h1 f1 (fun i l q => ju_of (by omega)), NoN_c h2 f2 (fun i l q => ju_of (by omega)), NoP_c h3 f3 (fun i l q => ju_of (by omega)), NoB_c h4 f4 (fun i l q => ju_of (by omega)), NoS_c h5 f5 (fun i l q => ju_of (by omega)), NoL_c h6 f6 (fun i l q => ju_of (by omega)), fun i hi => ?_, NoK_c h8 (fun i l q => ju_of (by omega))⟩
  show ju f (6 + k) c.toInt64 (6 + i) = (if i = k then c else bT a i).toInt64
  by_cases q : i = k
  · rw [if_pos q, q, ju_eq]
  · rw [if_neg q, ju_of (by omega)]; exact h7 i hi
theorem NoD_K (h : NoD f a) (hF : BkF a) (hk : k < 26) : NoD (ju f (9 + k) c.toInt64) (aStk a k c) := by
  obtain ⟨h1, h2, h3, h4, h5, h6, h7, h8⟩ := h
  obtain ⟨f1, f2, f3, f4, f5, f6⟩ := hF
  refine ⟨NoW_c h1 f1 (fun i l q => ju_of (by omega)), NoN_c h2 f2 (fun i l q => ju_of (by omega)), NoP_c h3 f3 (fun i l q => ju_of (by omega)), NoB_c h4 f4 (fun i l q => ju_of (by omega)), NoS_c h5 f5 (fun i l q => ju_of (by omega)), NoL_c h6 f6 (fun i l q => ju_of (by omega)), NoT_c h7 (fun i l q => ju_of (by omega)), fun i hi => ?_⟩
  show ju f (9 + k) c.toInt64 (9 + i) = (if i = k then c else bK a i).toInt64
  by_cases q : i = k
  · rw [if_pos q, q, ju_eq]
  · rw [if_neg q, ju_of (by omega)]; exact h8 i hi
theorem NoD_c (h : NoD f a) (hF : BkF a) (e : ∀ i, i < 305 → g i = f i) : NoD g a := by
  obtain ⟨h1, h2, h3, h4, h5, h6, h7, h8⟩ := h
  obtain ⟨f1, f2, f3, f4, f5, f6⟩ := hF
  exact ⟨NoW_c h1 f1 (fun i l q => e i l), NoN_c h2 f2 (fun i l q => e i l), NoP_c h3 f3 (fun i l q => e i l), NoB_c h4 f4 (fun i l q => e i l), NoS_c h5 f5 (fun i l q => e i l), NoL_c h6 f6 (fun i l q => e i l), NoT_c h7 (fun i l q => e i l), NoK_c h8 (fun i l q => e i l)⟩
theorem lW_succ {n : Nat} : lW n + 1 = lW (n + 1) := (Int64.ofNat_add n 1).symm
theorem lW_pred {n : Nat} (h : 0 < n) : lW n - 1 = lW (n - 1) := by
  have := lW_succ (n := n - 1)
  rw [show n - 1 + 1 = n by omega] at this
  rw [← this, Int64.sub_eq_add_neg, Int64.add_assoc, show (1 : Int64) + -1 = 0 by decide, Int64.add_zero]
theorem col_ju {cc : Nat → Int64} (h : col f b n cc) (hk : k < n) : col (ju f (b + k) v) b n (fun i => if i = k then v else cc i) := fun i hi => by
  dsimp only
  by_cases q : i = k
  · rw [if_pos q, q, ju_eq]
  · rw [if_neg q, ju_of (by omega)]; exact h i hi
theorem col_app {cc : Nat → Int64} (h : col f b n cc) : col (ju f (b + n) v) b (n + 1) (fun i => if i < n then cc i else if i = n then v else cc (i - 1)) := fun i hi => by
  dsimp only
  by_cases q : i < n
  · rw [if_pos q, ju_of (by omega)]; exact h i q
  · rw [if_neg q, if_pos (by omega), show i = n by omega, ju_eq]
theorem col_ext {cc dd : Nat → Int64} (h : col f b n cc) (e : ∀ i, i < n → dd i = cc i) : col f b n dd := fun i hi => (h i hi).trans (e i hi).symm
theorem nm_ins (i : Nat) : nmC (rIns p k w u c) i = if i < k then nmC p i else if i = k then c.toInt64 else nmC p (i - 1) := by
  show (if i < k then p.2.2.2 i else if i = k then c else p.2.2.2 (i - 1)).toInt64 = _
  unfold nmC
  by_cases q : i < k
  · rw [if_pos q, if_pos q]
  · rw [if_neg q, if_neg q]
    by_cases q2 : i = k
    · rw [if_pos q2, if_pos q2]
    · rw [if_neg q2, if_neg q2]
theorem nm_del (i : Nat) : nmC (rDel p k) i = if i < k then nmC p i else nmC p (i + 1) := by
  show (if i < k then p.2.2.2 i else p.2.2.2 (i + 1)).toInt64 = _
  unfold nmC
  by_cases q : i < k
  · rw [if_pos q, if_pos q]
  · rw [if_neg q, if_neg q]
theorem nm_put (i : Nat) : nmC (rPut p k c) i = if i = k then c.toInt64 else nmC p i := by
  show (if i = k then c else p.2.2.2 i).toInt64 = _
  unfold nmC
  by_cases q : i = k
  · rw [if_pos q, if_pos q]
  · rw [if_neg q, if_neg q]
/-! what is read -/
theorem m_n (h : f k = lW n) (hn : n < 2 ^ 31) : (f k).toInt32 = nI n := by rw [h, lW_i hn]
theorem c_M_place (hS : MxS R S) (hD : NoD f a) (hI : BkI T a) : Wp 184 0 [.ref 187, .long w, nov] [] I (jn J f) R S Q = Q 0 (some (.int (frI (fw (bW a) w) (bW a).1))) I (jn J f) R S := by
  have iW := hI.1
  have m := fun Q' => c_M_many (Q := Q') (I := I) (J := J) (f := f) (k := 0) hS (by omega)
  have g := fun Q' => c_M_find (Q := Q') (I := I) (J := J) (f := f) (w := w) (b := 35) (n := (bW a).1) hS (by omega)
  rw [m_n hD.1.1 (by omega)] at m
  rw [fd_congr (q := fun i => decide ((bW a).2.1 i = w)) _ _ (fun j h1 h2 => by rw [hD.1.2.1 j (by omega)])] at g
  simp only [kI_0, kI_1, kI_2, kI_3, kI_4, kI_5, kI_6, kI_7, kI_8, kI_9, kI_10, kI_11, kI_20, kI_24, kI_26, kI_35, kI_55, kI_75, kI_85, kI_109, kI_133, kI_157, kI_181, kI_205, kI_225, kI_245, kI_265, kI_285, kI_305] at m g
  simp only [x_M_place_0, x_M_place_1, x_M_place_3, x_M_place_4, x_M_place_5, x_M_place_8, x_M_place_9, x_M_place_12, hS.1, m, g, bI_0, bI_t, bI_f, e10, isA30, isA31, isA33, isA40, isA42, isA43, rOkB0, rOkB1, rOkB, Ret_v, Ret_n, cmp_eq, cmp_lt, cmp_gt, nI_1, eq_self, if_true, if_false, reduceIte]
  rfl
theorem c_M_isName (hS : MxS R S) (hD : NoD f a) (hI : BkI T a) : Wp 185 0 [.ref 187, .long w, nov] [] I (jn J f) R S Q = Q 0 (some (.int (bI (hasN a w)))) I (jn J f) R S := by
  have iN := hI.2.1
  have m := fun Q' => c_M_many (Q := Q') (I := I) (J := J) (f := f) (k := 1) hS (by omega)
  have g := fun Q' => c_M_find (Q := Q') (I := I) (J := J) (f := f) (w := w) (b := 75) (n := (bN a).1) hS (by omega)
  rw [m_n hD.2.1.1 (by omega)] at m
  rw [fd_congr (q := fun i => decide ((bN a).2.1 i = w)) _ _ (fun j h1 h2 => by rw [hD.2.1.2 j (by omega)])] at g
  simp only [kI_0, kI_1, kI_2, kI_3, kI_4, kI_5, kI_6, kI_7, kI_8, kI_9, kI_10, kI_11, kI_20, kI_24, kI_26, kI_35, kI_55, kI_75, kI_85, kI_109, kI_133, kI_157, kI_181, kI_205, kI_225, kI_245, kI_265, kI_285, kI_305] at m g
  unfold hasN
  have e : fd (fun i => decide ((bN a).2.1 i = w)) 0 (bN a).1 = fw (bN a) w := rfl
  rw [e] at g
  by_cases q : fw (bN a) w < (bN a).1
  · simp only [x_M_isName_0, x_M_isName_1, x_M_isName_3, x_M_isName_4, x_M_isName_5, x_M_isName_8, x_M_isName_9, x_M_isName_12, x_M_isName_13, x_M_isName_16, x_M_isName_17, x_M_isName_20, x_M_isName_21, hS.1, m, g, frI_t q (by omega), decide_eq_true q, bI_0, bI_t, bI_f, e10, isA30, isA31, isA33, isA40, isA42, isA43, rOkB0, rOkB1, rOkB, Ret_v, Ret_n, cmp_eq, cmp_lt, cmp_gt, nI_1, eq_self, if_true, if_false, reduceIte]
  · simp only [x_M_isName_0, x_M_isName_1, x_M_isName_3, x_M_isName_4, x_M_isName_5, x_M_isName_8, x_M_isName_9, x_M_isName_12, x_M_isName_13, x_M_isName_16, x_M_isName_17, x_M_isName_20, x_M_isName_21, hS.1, m, g, frI_ge q, decide_eq_false q, bI_0, bI_t, bI_f, e10, isA30, isA31, isA33, isA40, isA42, isA43, rOkB0, rOkB1, rOkB, Ret_v, Ret_n, cmp_eq, cmp_lt, cmp_gt, nI_1, eq_self, if_true, if_false, reduceIte]
theorem c_M_isBanned (hS : MxS R S) (hD : NoD f a) (hI : BkI T a) : Wp 186 0 [.ref 187, .long t, nov, .long w, nov] [] I (jn J f) R S Q = Q 0 (some (.int (bI (isB a t w)))) I (jn J f) R S := by
  have iB := hI.2.2.2.1
  have m := fun Q' => c_M_many (Q := Q') (I := I) (J := J) (f := f) (k := 3) hS (by omega)
  have g := fun Q' => c_M_findBoth (Q := Q') (I := I) (J := J) (f := f) (w := t) (u := w) (b := 157) (b2 := 181) (n := (bB a).1) hS (by omega) (by omega)
  rw [m_n hD.2.2.2.1.1 (by omega)] at m
  rw [fd_congr (q := fun i => decide ((bB a).2.1 i = t) && decide ((bB a).2.2.1 i = w)) _ _ (fun j h1 h2 => by rw [hD.2.2.2.1.2.1 j (by omega), hD.2.2.2.1.2.2 j (by omega)])] at g
  simp only [kI_0, kI_1, kI_2, kI_3, kI_4, kI_5, kI_6, kI_7, kI_8, kI_9, kI_10, kI_11, kI_20, kI_24, kI_26, kI_35, kI_55, kI_75, kI_85, kI_109, kI_133, kI_157, kI_181, kI_205, kI_225, kI_245, kI_265, kI_285, kI_305] at m g
  unfold isB
  have e : fd (fun i => decide ((bB a).2.1 i = t) && decide ((bB a).2.2.1 i = w)) 0 (bB a).1 = fp (bB a) t w := rfl
  rw [e] at g
  by_cases q : fp (bB a) t w < (bB a).1
  · simp only [x_M_isBanned_0, x_M_isBanned_1, x_M_isBanned_4, x_M_isBanned_7, x_M_isBanned_8, x_M_isBanned_9, x_M_isBanned_12, x_M_isBanned_13, x_M_isBanned_14, x_M_isBanned_17, x_M_isBanned_18, x_M_isBanned_21, x_M_isBanned_22, x_M_isBanned_25, x_M_isBanned_26, hS.1, m, g, frI_t q (by omega), decide_eq_true q, bI_0, bI_t, bI_f, e10, isA30, isA31, isA33, isA40, isA42, isA43, rOkB0, rOkB1, rOkB, Ret_v, Ret_n, cmp_eq, cmp_lt, cmp_gt, nI_1, eq_self, if_true, if_false, reduceIte]
  · simp only [x_M_isBanned_0, x_M_isBanned_1, x_M_isBanned_4, x_M_isBanned_7, x_M_isBanned_8, x_M_isBanned_9, x_M_isBanned_12, x_M_isBanned_13, x_M_isBanned_14, x_M_isBanned_17, x_M_isBanned_18, x_M_isBanned_21, x_M_isBanned_22, x_M_isBanned_25, x_M_isBanned_26, hS.1, m, g, frI_ge q, decide_eq_false q, bI_0, bI_t, bI_f, e10, isA30, isA31, isA33, isA40, isA42, isA43, rOkB0, rOkB1, rOkB, Ret_v, Ret_n, cmp_eq, cmp_lt, cmp_gt, nI_1, eq_self, if_true, if_false, reduceIte]
end MC
