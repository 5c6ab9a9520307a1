/-! the model: strange words, pairs, the log -/
theorem pK_6 {k : Nat} : (6 : Int32) + nI k = nI (6 + k) := by rw [show (6 : Int32) = nI 6 by decide, nI_plus]
theorem pK_9 {k : Nat} : (9 : Int32) + nI k = nI (9 + k) := by rw [show (9 : Int32) = nI 9 by decide, nI_plus]
theorem pK_35 {k : Nat} : (35 : Int32) + nI k = nI (35 + k) := by rw [show (35 : Int32) = nI 35 by decide, nI_plus]
theorem pK_55 {k : Nat} : (55 : Int32) + nI k = nI (55 + k) := by rw [show (55 : Int32) = nI 55 by decide, nI_plus]
theorem pK_75 {k : Nat} : (75 : Int32) + nI k = nI (75 + k) := by rw [show (75 : Int32) = nI 75 by decide, nI_plus]
theorem pK_85 {k : Nat} : (85 : Int32) + nI k = nI (85 + k) := by rw [show (85 : Int32) = nI 85 by decide, nI_plus]
theorem pK_109 {k : Nat} : (109 : Int32) + nI k = nI (109 + k) := by rw [show (109 : Int32) = nI 109 by decide, nI_plus]
theorem pK_133 {k : Nat} : (133 : Int32) + nI k = nI (133 + k) := by rw [show (133 : Int32) = nI 133 by decide, nI_plus]
theorem pK_157 {k : Nat} : (157 : Int32) + nI k = nI (157 + k) := by rw [show (157 : Int32) = nI 157 by decide, nI_plus]
theorem pK_181 {k : Nat} : (181 : Int32) + nI k = nI (181 + k) := by rw [show (181 : Int32) = nI 181 by decide, nI_plus]
theorem pK_205 {k : Nat} : (205 : Int32) + nI k = nI (205 + k) := by rw [show (205 : Int32) = nI 205 by decide, nI_plus]
theorem pK_225 {k : Nat} : (225 : Int32) + nI k = nI (225 + k) := by rw [show (225 : Int32) = nI 225 by decide, nI_plus]
theorem pK_245 {k : Nat} : (245 : Int32) + nI k = nI (245 + k) := by rw [show (245 : Int32) = nI 245 by decide, nI_plus]
theorem pK_265 {k : Nat} : (265 : Int32) + nI k = nI (265 + k) := by rw [show (265 : Int32) = nI 265 by decide, nI_plus]
theorem pK_285 {k : Nat} : (285 : Int32) + nI k = nI (285 + k) := by rw [show (285 : Int32) = nI 285 by decide, nI_plus]
theorem inK_0 : inb 0 305 = true := by decide
theorem ixK_0 : ix 0 = 0 := by decide
theorem inK_1 : inb 1 305 = true := by decide
theorem ixK_1 : ix 1 = 1 := by decide
theorem inK_2 : inb 2 305 = true := by decide
theorem ixK_2 : ix 2 = 2 := by decide
theorem inK_3 : inb 3 305 = true := by decide
theorem ixK_3 : ix 3 = 3 := by decide
theorem inK_4 : inb 4 305 = true := by decide
theorem ixK_4 : ix 4 = 4 := by decide
theorem inK_5 : inb 5 305 = true := by decide
theorem ixK_5 : ix 5 = 5 := by decide
theorem inK_6 : inb 6 305 = true := by decide
theorem ixK_6 : ix 6 = 6 := by decide
theorem inK_7 : inb 7 305 = true := by decide
theorem ixK_7 : ix 7 = 7 := by decide
theorem inK_8 : inb 8 305 = true := by decide
theorem ixK_8 : ix 8 = 8 := by decide
section ME
variable {I : MI} {J : MJ} {R : MR} {S : Sh} {Q : SkQ} {f g : Nat → Int64} {b n k j T : Nat} {w u v t : Int64} {a : Bk} {p r : Rw} {c : Int32}
theorem mmany (hS : MxS R S) (hk : k < 305) (h : f k = lW n) (hn : n < 2 ^ 31) : Wp 177 0 [.ref 187, .int (nI k)] [] I (jn J f) R S Q = Q 0 (some (.int (nI n))) I (jn J f) R S := by
  rw [c_M_many hS hk, m_n h hn]
theorem ahF_ahd (h : srt p) (hc : col f b p.1 p.2.1) : ahF f b p.1 w = ahd p w := by
  unfold ahF
  rw [fd_congr (q := fun i => !decide (alg (p.2.1 i) < alg w)) _ _ (fun j h1 h2 => by rw [hc j (by omega)])]
  have l := fd_le (p := fun i => !decide (alg (p.2.1 i) < alg w)) p.1 0
  have hit := fd_hit (p := fun i => !decide (alg (p.2.1 i) < alg w)) p.1 0
  have no := fd_no (p := fun i => !decide (alg (p.2.1 i) < alg w)) p.1 0
  generalize fd (fun i => !decide (alg (p.2.1 i) < alg w)) 0 p.1 = d at l hit no
  have al := ahd_le (p := p) (w := w)
  have up : ahd p w ≤ d := by
    by_cases q : d < p.1
    · have h1 := hit (by omega)
      rw [Bool.not_eq_true', decide_eq_false_iff_not, ahd_iff h q] at h1
      omega
    · omega
  have dn : d ≤ ahd p w := by
    by_cases q : d = 0
    · omega
    · have h1 := no (d - 1) (by omega) (by omega)
      rw [Bool.not_eq_false', decide_eq_true_eq, ahd_iff h (by omega)] at h1
      omega
  omega
theorem c_M_forgets (hS : MxS R S) (hD : NoS f p) (hp : p.1 ≤ 20) (hk : k < p.1) : Wp 210 0 [.ref 187, .int (nI k)] [] I (jn J f) R S Q = Q 0 none I (jn J (mSdel f p k)) R S := by
  have z2 : clsF f 205 p.1 k 4 = lW p.1 := by rw [cls_out (by omega) hk]; exact hD.1
  have z3 : clsF (clsF f 205 p.1 k) 225 p.1 k 4 = lW p.1 := by rw [cls_out (by omega) hk]; exact z2
  have m1 := fun Q' => mmany (Q := Q') (I := I) (J := J) (k := 4) hS (by omega) hD.1 (by omega)
  have m2 := fun Q' => mmany (Q := Q') (I := I) (J := J) (k := 4) hS (by omega) z2 (by omega)
  have c1 := fun Q' => c_M_closes (Q := Q') (I := I) (J := J) (f := f) (b := 205) hS (by omega) hk
  have c2 := fun Q' => c_M_closes (Q := Q') (I := I) (J := J) (f := clsF f 205 p.1 k) (b := 225) hS (by omega) hk
  simp only [kI_0, kI_1, kI_2, kI_3, kI_4, kI_5, kI_6, kI_7, kI_8, kI_9, kI_10, kI_11, kI_20, kI_24, kI_26, kI_35, kI_55, kI_75, kI_85, kI_109, kI_133, kI_157, kI_181, kI_205, kI_225, kI_245, kI_265, kI_285, kI_305] at m1 m2 c1 c2
  obtain ⟨k0, k1, n1, r0⟩ := hS
  simp only [x_M_forgets_0, x_M_forgets_1, x_M_forgets_4, x_M_forgets_5, x_M_forgets_6, x_M_forgets_9, x_M_forgets_10, x_M_forgets_13, x_M_forgets_14, x_M_forgets_17, x_M_forgets_18, x_M_forgets_19, x_M_forgets_22, x_M_forgets_23, x_M_forgets_26, x_M_forgets_27, x_M_forgets_30, x_M_forgets_31, x_M_forgets_32, x_M_forgets_33, x_M_forgets_34, x_M_forgets_35, x_M_forgets_36, k0, k1, n1, r0, m1, m2, c1, c2, z3, jn_a, u2_jn, lW_pred (show 0 < p.1 by omega), pK_6, pK_9, pK_35, pK_55, pK_75, pK_85, pK_109, pK_133, pK_157, pK_181, pK_205, pK_225, pK_245, pK_265, pK_285, inK_0, inK_1, inK_2, inK_3, inK_4, inK_5, inK_6, inK_7, inK_8, ixK_0, ixK_1, ixK_2, ixK_3, ixK_4, ixK_5, ixK_6, ixK_7, ixK_8, bI_0, bI_t, bI_f, e10, isA30, isA31, isA33, isA40, isA42, isA43, rOkB0, rOkB1, rOkB, Ret_v, Ret_n, cmp_eq, cmp_lt, cmp_gt, nI_1, eq_self, if_true, if_false, reduceIte]
  rfl
theorem c_M_unlearns (hS : MxS R S) (hD : NoP f p) (hp : p.1 ≤ 24) (hk : k < p.1) : Wp 211 0 [.ref 187, .int (nI k)] [] I (jn J f) R S Q = Q 0 none I (jn J (mPdel f p k)) R S := by
  have z2 : clsF f 85 p.1 k 2 = lW p.1 := by rw [cls_out (by omega) hk]; exact hD.1
  have z3 : clsF (clsF f 85 p.1 k) 109 p.1 k 2 = lW p.1 := by rw [cls_out (by omega) hk]; exact z2
  have z4 : clsF (clsF (clsF f 85 p.1 k) 109 p.1 k) 133 p.1 k 2 = lW p.1 := by rw [cls_out (by omega) hk]; exact z3
  have m1 := fun Q' => mmany (Q := Q') (I := I) (J := J) (k := 2) hS (by omega) hD.1 (by omega)
  have m2 := fun Q' => mmany (Q := Q') (I := I) (J := J) (k := 2) hS (by omega) z2 (by omega)
  have m3 := fun Q' => mmany (Q := Q') (I := I) (J := J) (k := 2) hS (by omega) z3 (by omega)
  have c1 := fun Q' => c_M_closes (Q := Q') (I := I) (J := J) (f := f) (b := 85) hS (by omega) hk
  have c2 := fun Q' => c_M_closes (Q := Q') (I := I) (J := J) (f := clsF f 85 p.1 k) (b := 109) hS (by omega) hk
  have c3 := fun Q' => c_M_closes (Q := Q') (I := I) (J := J) (f := clsF (clsF f 85 p.1 k) 109 p.1 k) (b := 133) hS (by omega) hk
  simp only [kI_0, kI_1, kI_2, kI_3, kI_4, kI_5, kI_6, kI_7, kI_8, kI_9, kI_10, kI_11, kI_20, kI_24, kI_26, kI_35, kI_55, kI_75, kI_85, kI_109, kI_133, kI_157, kI_181, kI_205, kI_225, kI_245, kI_265, kI_285, kI_305] at m1 m2 m3 c1 c2 c3
  obtain ⟨k0, k1, n1, r0⟩ := hS
  simp only [x_M_unlearns_0, x_M_unlearns_1, x_M_unlearns_3, x_M_unlearns_4, x_M_unlearns_5, x_M_unlearns_8, x_M_unlearns_9, x_M_unlearns_12, x_M_unlearns_13, x_M_unlearns_15, x_M_unlearns_16, x_M_unlearns_17, x_M_unlearns_20, x_M_unlearns_21, x_M_unlearns_24, x_M_unlearns_25, x_M_unlearns_28, x_M_unlearns_29, x_M_unlearns_30, x_M_unlearns_33, x_M_unlearns_34, x_M_unlearns_37, x_M_unlearns_38, x_M_unlearns_41, x_M_unlearns_42, x_M_unlearns_43, x_M_unlearns_44, x_M_unlearns_45, x_M_unlearns_46, x_M_unlearns_47, k0, k1, n1, r0, m1, m2, m3, c1, c2, c3, z4, jn_a, u2_jn, lW_pred (show 0 < p.1 by omega), pK_6, pK_9, pK_35, pK_55, pK_75, pK_85, pK_109, pK_133, pK_157, pK_181, pK_205, pK_225, pK_245, pK_265, pK_285, inK_0, inK_1, inK_2, inK_3, inK_4, inK_5, inK_6, inK_7, inK_8, ixK_0, ixK_1, ixK_2, ixK_3, ixK_4, ixK_5, ixK_6, ixK_7, ixK_8, bI_0, bI_t, bI_f, e10, isA30, isA31, isA33, isA40, isA42, isA43, rOkB0, rOkB1, rOkB, Ret_v, Ret_n, cmp_eq, cmp_lt, cmp_gt, nI_1, eq_self, if_true, if_false, reduceIte]
  rfl
theorem c_M_names0 (hS : MxS R S) (hD : NoD f a) (hI : BkI T a) (h : hasN a w = true) : Wp 190 0 [.ref 187, .long w, nov] [] I (jn J f) R S Q = Q 0 none I (jn J f) R S := by
  have m := fun Q' => c_M_isName (Q := Q') (I := I) (J := J) (w := w) hS hD hI
  simp only [x_M_names_0, x_M_names_1, x_M_names_2, x_M_names_5, x_M_names_8, x_M_names_9, x_M_names_11, x_M_names_12, x_M_names_13, x_M_names_16, x_M_names_17, x_M_names_19, x_M_names_20, x_M_names_21, x_M_names_24, x_M_names_25, x_M_names_28, x_M_names_29, x_M_names_32, x_M_names_33, x_M_names_36, x_M_names_37, x_M_names_38, x_M_names_39, x_M_names_40, x_M_names_41, x_M_names_42, hS.1, m, h, e10, bI_0, bI_t, bI_f, e10, isA30, isA31, isA33, isA40, isA42, isA43, rOkB0, rOkB1, rOkB, Ret_v, Ret_n, cmp_eq, cmp_lt, cmp_gt, nI_1, eq_self, if_true, if_false, reduceIte]
theorem c_M_names1 (hS : MxS R S) (hD : NoD f a) (hI : BkI T a) (h : hasN a w = false) (hn : (bN a).1 < 10) (ww : isW w = true) : Wp 190 0 [.ref 187, .long w, nov] [] I (jn J f) R S Q = Q 0 none I (jn J (mNins f (bN a) (ahd (bN a) w) w)) R S := by
  have al := ahd_le (p := bN a) (w := w)
  have hN := hD.2.1
  have wN := hI.2.2.2.2.2.2.2.2.2.2.1
  have m := fun Q' => c_M_isName (Q := Q') (I := I) (J := J) (w := w) hS hD hI
  have m1 := fun Q' => mmany (Q := Q') (I := I) (J := J) (k := 1) hS (by omega) hN.1 (by omega)
  have ah := fun Q' => c_M_ahead (Q := Q') (I := I) (J := J) (f := f) (b := 75) (n := (bN a).1) hS (by omega) ww (fun i hi => by rw [hN.2 i hi]; exact wN i hi)
  rw [ahF_ahd hI.2.2.2.2.2.2.2.2.2.2.2.2.2.1 hN.2] at ah
  have c1 := fun Q' => c_M_opens (Q := Q') (I := I) (J := J) (f := f) (b := 75) (v := w) hS (show 75 + (bN a).1 < 305 by omega) al
  have z : opnF f 75 (bN a).1 (ahd (bN a) w) w 1 = lW (bN a).1 := by rw [opn_out (by omega) al]; exact hN.1
  simp only [kI_0, kI_1, kI_2, kI_3, kI_4, kI_5, kI_6, kI_7, kI_8, kI_9, kI_10, kI_11, kI_20, kI_24, kI_26, kI_35, kI_55, kI_75, kI_85, kI_109, kI_133, kI_157, kI_181, kI_205, kI_225, kI_245, kI_265, kI_285, kI_305] at m1 ah c1
  obtain ⟨k0, k1, n1, r0⟩ := hS
  simp only [x_M_names_0, x_M_names_1, x_M_names_2, x_M_names_5, x_M_names_8, x_M_names_9, x_M_names_11, x_M_names_12, x_M_names_13, x_M_names_16, x_M_names_17, x_M_names_19, x_M_names_20, x_M_names_21, x_M_names_24, x_M_names_25, x_M_names_28, x_M_names_29, x_M_names_32, x_M_names_33, x_M_names_36, x_M_names_37, x_M_names_38, x_M_names_39, x_M_names_40, x_M_names_41, x_M_names_42, k0, k1, n1, r0, m, h, m1, ah, c1, z, jn_a, u2_jn, lW_succ, pK_6, pK_9, pK_35, pK_55, pK_75, pK_85, pK_109, pK_133, pK_157, pK_181, pK_205, pK_225, pK_245, pK_265, pK_285, inK_0, inK_1, inK_2, inK_3, inK_4, inK_5, inK_6, inK_7, inK_8, ixK_0, ixK_1, ixK_2, ixK_3, ixK_4, ixK_5, ixK_6, ixK_7, ixK_8, bI_0, bI_t, bI_f, e10, isA30, isA31, isA33, isA40, isA42, isA43, rOkB0, rOkB1, rOkB, Ret_v, Ret_n, cmp_eq, cmp_lt, cmp_gt, nI_1, eq_self, if_true, if_false, reduceIte]
  rfl
/-- the model's names, as the book's -/
def mNams (f : Nat → Int64) (a : Bk) (w : Int64) : Nat → Int64 := if hasN a w = true then f else mNins f (bN a) (ahd (bN a) w) w
theorem c_M_names (hS : MxS R S) (hD : NoD f a) (hI : BkI T a) (hr : roomN a w = true) (ww : isW w = true) : Wp 190 0 [.ref 187, .long w, nov] [] I (jn J f) R S Q = Q 0 none I (jn J (mNams f a w)) R S := by
  unfold mNams
  cases h : hasN a w
  · rw [if_neg (by simp)]
    refine c_M_names1 hS hD hI h ?_ ww
    unfold roomN at hr
    rw [h, Bool.or_false] at hr
    exact of_decide_eq_true hr
  · rw [if_pos (by simp)]
    exact c_M_names0 hS hD hI h
theorem mNams_D (hD : NoD f a) (hF : BkF a) (hr : roomN a w = true) : NoD (mNams f a w) (aPutN a w) := by
  unfold mNams aPutN
  by_cases q : fw (bN a) w < (bN a).1
  · rw [if_pos q, if_pos (show hasN a w = true from decide_eq_true q)]; exact hD
  · have hn : hasN a w = false := decide_eq_false q
    have h10 : (bN a).1 < 10 := by
      unfold roomN at hr
      rw [hn, Bool.or_false] at hr
      exact of_decide_eq_true hr
    rw [if_neg q, hn, if_neg (by simp)]
    exact NoD_N hD hF (fun i _ q => mNins_o ahd_le h10 q) (NoN_ins hD.2.1 ahd_le h10)
end ME
