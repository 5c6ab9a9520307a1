/-! the calls: those that only read -/
def ok6 (k : Int32) (m : Nat) : Bool := !decide (k < 0) && !decide (nI m < k)
def prV (p : Rw) (i : Int32) (k : Nat) : Int64 := match k with
  | 0 => if inb i p.1 = true then p.2.1 (ix i) else -1
  | 1 => if inb i p.1 = true then p.2.2.1 (ix i) else -1
  | _ => (if inb i p.1 = true then p.2.2.2 (ix i) else -1).toInt64
def kyV (a : Bk) (i k : Nat) : Int32 := match k with
  | 0 => kbR i
  | 1 => kbC i
  | 2 => hnd1 i
  | 3 => bK a i
  | _ => nI (cnt (tch i) 0 26)
def whV (a : Bk) (l k : Nat) : Int32 := if k = 11 then nI l else vB a k
section KE
variable {I I' : MI} {J J' : MJ} {R R' : MR} {S : Sh} {Q : SkQ} {T n l : Nat} {a : Bk} {s : Nat → Bk} {x : Nat → Int32} {w t : Int64} {c v k : Int32} {m : Nat}
theorem ok6_n (hm : m < 2 ^ 31) (h : ok6 k m = true) : ∃ i, i ≤ m ∧ k = nI i ∧ ix k = i := by
  unfold ok6 at h
  simp only [Bool.and_eq_true, Bool.not_eq_true', decide_eq_false_iff_not, Int32.lt_iff_toInt_lt, nI_toInt hm] at h
  have e1 : (0 : Int32).toInt = 0 := by decide
  have e : k = nI k.toInt.toNat := by
    rw [← Int32.toInt_inj, nI_toInt (by omega)]
    omega
  exact ⟨k.toInt.toNat, by omega, e, rfl⟩
theorem ok6_t (h1 : ¬ k < 0) (h2 : ¬ nI m < k) : ok6 k m = true := by unfold ok6; rw [decide_eq_false h1, decide_eq_false h2]; rfl
theorem ok6_f1 (h1 : k < 0) : ok6 k m = false := by unfold ok6; rw [decide_eq_true h1]; rfl
theorem ok6_f2 (h1 : nI m < k) : ok6 k m = false := by unfold ok6; rw [decide_eq_true h1]; simp
theorem c_R_vAt {b cap : Nat} {p : Rw} (h : RwS R S b cap) (hd : RwD I J b p) (hc : p.1 ≤ cap) (hc2 : cap < 2 ^ 31) {i : Int32} (hm : m ≤ 2) : Wp 110 0 [.ref b, .int i, .int (nI m)] [] I J R S Q = Q 0 (some (.long (prV p i m))) I J R S := by
  rcases (show m = 0 ∨ m = 1 ∨ m = 2 by omega) with e | e | e <;> subst e
  · exact c_R_valueAt0 h hd hc hc2
  · exact c_R_valueAt1 h hd hc hc2
  · exact c_R_valueAt2 h hd hc hc2
theorem c_K_word (h : KOk I J R S T a n s x l) (hQ1 : (isW w && ok6 k 6) = false → Q 1 none I J R (sh_thr S)) (hQ : (isW w && ok6 k 6) = true → Q 0 (some (.int (vW a w (ix k)))) I J R S) : Wp 34 0 [.ref 35, .long w, nov, .int k] [] I J R S Q := by
  obtain ⟨k0, r0, r1, r2, r3, r4⟩ := h.1
  have hb := h.2.1.2.2.2.1
  have z : nI 6 = 6 := by decide
  cases q1 : isW w
  · simp only [x_K_word_0, x_K_word_1, x_K_word_4, x_K_word_5, x_K_word_8, x_K_word_9, x_K_word_11, x_K_word_14, x_K_word_15, x_K_word_18, x_K_word_19, x_K_word_22, x_K_word_23, x_K_word_26, x_K_word_27, x_K_word_28, x_K_word_31, c_K_requireWord, q1, Ret_t1 (m := 34) tO62 (by decide), Bool.false_eq_true, bI_0, bI_t, bI_f, e10, isA30, isA31, isA33, isA40, isA42, isA43, rOkB0, rOkB1, rOkB, Ret_v, Ret_n, cmp_eq, cmp_lt, cmp_gt, nI_1, eq_self, if_true, if_false, reduceIte]
    exact hQ1 (by rw [q1]; rfl)
  · by_cases q2 : k < 0
    · simp only [x_K_word_0, x_K_word_1, x_K_word_4, x_K_word_5, x_K_word_8, x_K_word_9, x_K_word_11, x_K_word_14, x_K_word_15, x_K_word_18, x_K_word_19, x_K_word_22, x_K_word_23, x_K_word_26, x_K_word_27, x_K_word_28, x_K_word_31, c_K_requireWord, c_K_req0, q1, q2, Ret_t1 (m := 34) tO63 (by decide), bI_0, bI_t, bI_f, e10, isA30, isA31, isA33, isA40, isA42, isA43, rOkB0, rOkB1, rOkB, Ret_v, Ret_n, cmp_eq, cmp_lt, cmp_gt, nI_1, eq_self, if_true, if_false, reduceIte]
      exact hQ1 (by rw [ok6_f1 q2]; simp)
    · by_cases q3 : 6 < k
      · simp only [x_K_word_0, x_K_word_1, x_K_word_4, x_K_word_5, x_K_word_8, x_K_word_9, x_K_word_11, x_K_word_14, x_K_word_15, x_K_word_18, x_K_word_19, x_K_word_22, x_K_word_23, x_K_word_26, x_K_word_27, x_K_word_28, x_K_word_31, c_K_requireWord, c_K_req0, q1, q2, q3, Ret_t1 (m := 34) tO63 (by decide), bI_0, bI_t, bI_f, e10, isA30, isA31, isA33, isA40, isA42, isA43, rOkB0, rOkB1, rOkB, Ret_v, Ret_n, cmp_eq, cmp_lt, cmp_gt, nI_1, eq_self, if_true, if_false, reduceIte]
        exact hQ1 (by rw [ok6_f2 (m := 6) (by rw [z]; exact q3)]; simp)
      · have o : ok6 k 6 = true := ok6_t q2 (by rw [z]; exact q3)
        obtain ⟨i, hi, e1, e2⟩ := ok6_n (by omega) o
        have f := fun Q' => c_O_valueOfWord (Q := Q') hb h.2.1.2.2.2.2.1 h.2.1.2.2.2.2.2.1 q1 i (by omega)
        rw [← e1] at f
        simp only [x_K_word_0, x_K_word_1, x_K_word_4, x_K_word_5, x_K_word_8, x_K_word_9, x_K_word_11, x_K_word_14, x_K_word_15, x_K_word_18, x_K_word_19, x_K_word_22, x_K_word_23, x_K_word_26, x_K_word_27, x_K_word_28, x_K_word_31, c_K_requireWord, c_K_req1, q1, q2, q3, k0, r1, hb.1, f, bI_0, bI_t, bI_f, e10, isA30, isA31, isA33, isA40, isA42, isA43, rOkB0, rOkB1, rOkB, Ret_v, Ret_n, cmp_eq, cmp_lt, cmp_gt, nI_1, eq_self, if_true, if_false, reduceIte]
        rw [← e2]
        exact hQ (by rw [q1, o]; rfl)
theorem c_K_listed {nm : Bool} (h : KOk I J R S T a n s x l) (hQ1 : k < 0 → Q 1 none I J R (sh_thr S)) (hQ : ¬ k < 0 → Q 0 (some (.long (if nm = true then prV (bN a) k 0 else prV (bW a) k 0))) I J R S) : Wp 35 0 [.ref 35, .int (bI nm), .int k] [] I J R S Q := by
  obtain ⟨k0, r0, r1, r2, r3, r4⟩ := h.1
  obtain ⟨b0, bW', bN', -, -, -, -, -, -, -, -, b1, b2, -⟩ := h.2.1.2.2.2.1
  have hd := h.2.1.2.2.2.2.1
  have hi := h.2.1.2.2.2.2.2.1
  by_cases q1 : k < 0
  · simp only [x_K_listed_0, x_K_listed_1, x_K_listed_4, x_K_listed_5, x_K_listed_8, x_K_listed_9, x_K_listed_12, x_K_listed_13, x_K_listed_16, x_K_listed_17, x_K_listed_20, x_K_listed_23, x_K_listed_24, x_K_listed_27, x_K_listed_30, x_K_listed_31, x_K_listed_34, x_K_listed_37, x_K_listed_38, x_K_listed_41, c_K_req0, q1, Ret_t1 (m := 35) tO63 (by decide), bI_0, bI_t, bI_f, e10, isA30, isA31, isA33, isA40, isA42, isA43, rOkB0, rOkB1, rOkB, Ret_v, Ret_n, cmp_eq, cmp_lt, cmp_gt, nI_1, eq_self, if_true, if_false, reduceIte]
    exact hQ1 q1
  · cases nm
    · have f := fun Q' => c_R_firstAt (Q := Q') bW' hd.1 hi.1 (by omega) (i := k)
      simp only [x_K_listed_0, x_K_listed_1, x_K_listed_4, x_K_listed_5, x_K_listed_8, x_K_listed_9, x_K_listed_12, x_K_listed_13, x_K_listed_16, x_K_listed_17, x_K_listed_20, x_K_listed_23, x_K_listed_24, x_K_listed_27, x_K_listed_30, x_K_listed_31, x_K_listed_34, x_K_listed_37, x_K_listed_38, x_K_listed_41, c_K_req1, q1, k0, r1, b0, b1, bW'.1, f, bI_0, bI_t, bI_f, e10, isA30, isA31, isA33, isA40, isA42, isA43, rOkB0, rOkB1, rOkB, Ret_v, Ret_n, cmp_eq, cmp_lt, cmp_gt, nI_1, eq_self, if_true, if_false, reduceIte]
      exact hQ q1
    · have f := fun Q' => c_R_firstAt (Q := Q') bN' hd.2.1 hi.2.1 (by omega) (i := k)
      simp only [x_K_listed_0, x_K_listed_1, x_K_listed_4, x_K_listed_5, x_K_listed_8, x_K_listed_9, x_K_listed_12, x_K_listed_13, x_K_listed_16, x_K_listed_17, x_K_listed_20, x_K_listed_23, x_K_listed_24, x_K_listed_27, x_K_listed_30, x_K_listed_31, x_K_listed_34, x_K_listed_37, x_K_listed_38, x_K_listed_41, c_K_req1, q1, k0, r1, b0, b2, bN'.1, f, bI_0, bI_t, bI_f, e10, isA30, isA31, isA33, isA40, isA42, isA43, rOkB0, rOkB1, rOkB, Ret_v, Ret_n, cmp_eq, cmp_lt, cmp_gt, nI_1, eq_self, if_true, if_false, reduceIte, Bool.true_eq_false]
      exact hQ q1
theorem c_K_pair (h : KOk I J R S T a n s x l) (hQ1 : (!decide (k < 0) && ok6 v 2) = false → Q 1 none I J R (sh_thr S)) (hQ : (!decide (k < 0) && ok6 v 2) = true → Q 0 (some (.long (prV (bP a) k (ix v)))) I J R S) : Wp 36 0 [.ref 35, .int k, .int v] [] I J R S Q := by
  obtain ⟨k0, r0, r1, r2, r3, r4⟩ := h.1
  obtain ⟨b0, -, -, bP', -, -, -, -, -, -, -, -, -, b3, -⟩ := h.2.1.2.2.2.1
  have hd := h.2.1.2.2.2.2.1
  have hi := h.2.1.2.2.2.2.2.1
  have z : nI 2 = 2 := by decide
  by_cases q1 : k < 0
  · simp only [x_K_pair_0, x_K_pair_1, x_K_pair_4, x_K_pair_5, x_K_pair_8, x_K_pair_9, x_K_pair_10, x_K_pair_13, x_K_pair_14, x_K_pair_17, x_K_pair_18, x_K_pair_21, x_K_pair_22, x_K_pair_25, x_K_pair_28, x_K_pair_29, x_K_pair_30, x_K_pair_33, c_K_req0, q1, Ret_t1 (m := 36) tO63 (by decide), bI_0, bI_t, bI_f, e10, isA30, isA31, isA33, isA40, isA42, isA43, rOkB0, rOkB1, rOkB, Ret_v, Ret_n, cmp_eq, cmp_lt, cmp_gt, nI_1, eq_self, if_true, if_false, reduceIte]
    exact hQ1 (by rw [decide_eq_true q1]; rfl)
  · by_cases q2 : v < 0
    · simp only [x_K_pair_0, x_K_pair_1, x_K_pair_4, x_K_pair_5, x_K_pair_8, x_K_pair_9, x_K_pair_10, x_K_pair_13, x_K_pair_14, x_K_pair_17, x_K_pair_18, x_K_pair_21, x_K_pair_22, x_K_pair_25, x_K_pair_28, x_K_pair_29, x_K_pair_30, x_K_pair_33, c_K_req0, q1, q2, Ret_t1 (m := 36) tO63 (by decide), bI_0, bI_t, bI_f, e10, isA30, isA31, isA33, isA40, isA42, isA43, rOkB0, rOkB1, rOkB, Ret_v, Ret_n, cmp_eq, cmp_lt, cmp_gt, nI_1, eq_self, if_true, if_false, reduceIte]
      exact hQ1 (by rw [ok6_f1 q2]; simp)
    · by_cases q3 : 2 < v
      · simp only [x_K_pair_0, x_K_pair_1, x_K_pair_4, x_K_pair_5, x_K_pair_8, x_K_pair_9, x_K_pair_10, x_K_pair_13, x_K_pair_14, x_K_pair_17, x_K_pair_18, x_K_pair_21, x_K_pair_22, x_K_pair_25, x_K_pair_28, x_K_pair_29, x_K_pair_30, x_K_pair_33, c_K_req0, q1, q2, q3, Ret_t1 (m := 36) tO63 (by decide), bI_0, bI_t, bI_f, e10, isA30, isA31, isA33, isA40, isA42, isA43, rOkB0, rOkB1, rOkB, Ret_v, Ret_n, cmp_eq, cmp_lt, cmp_gt, nI_1, eq_self, if_true, if_false, reduceIte]
        exact hQ1 (by rw [ok6_f2 (m := 2) (by rw [z]; exact q3)]; simp)
      · have o : ok6 v 2 = true := ok6_t q2 (by rw [z]; exact q3)
        obtain ⟨i, hi', e1, e2⟩ := ok6_n (by omega) o
        have f := fun Q' => c_R_vAt (Q := Q') bP' hd.2.2.1 hi.2.2.1 (by omega) (i := k) hi'
        rw [← e1] at f
        simp only [x_K_pair_0, x_K_pair_1, x_K_pair_4, x_K_pair_5, x_K_pair_8, x_K_pair_9, x_K_pair_10, x_K_pair_13, x_K_pair_14, x_K_pair_17, x_K_pair_18, x_K_pair_21, x_K_pair_22, x_K_pair_25, x_K_pair_28, x_K_pair_29, x_K_pair_30, x_K_pair_33, c_K_req1, q1, q2, q3, k0, r1, b0, b3, bP'.1, f, bI_0, bI_t, bI_f, e10, isA30, isA31, isA33, isA40, isA42, isA43, rOkB0, rOkB1, rOkB, Ret_v, Ret_n, cmp_eq, cmp_lt, cmp_gt, nI_1, eq_self, if_true, if_false, reduceIte]
        rw [← e2]
        exact hQ (by rw [decide_eq_false q1, o]; rfl)
theorem c_K_logged (h : KOk I J R S T a n s x l) (hQ1 : (!decide (k < 0) && ok6 v 2) = false → Q 1 none I J R (sh_thr S)) (hQ : (!decide (k < 0) && ok6 v 2) = true → Q 0 (some (.long (prV (bL a) (nI (bL a).1 - 1 - k) (ix v)))) I J R S) : Wp 37 0 [.ref 35, .int k, .int v] [] I J R S Q := by
  obtain ⟨k0, r0, r1, r2, r3, r4⟩ := h.1
  obtain ⟨b0, -, -, -, -, -, bL', -, -, -, -, -, -, -, -, -, b5, -⟩ := h.2.1.2.2.2.1
  have hd := h.2.1.2.2.2.2.1
  have hi := h.2.1.2.2.2.2.2.1
  have z : nI 2 = 2 := by decide
  by_cases q1 : k < 0
  · simp only [x_K_logged_0, x_K_logged_1, x_K_logged_4, x_K_logged_5, x_K_logged_8, x_K_logged_9, x_K_logged_10, x_K_logged_13, x_K_logged_14, x_K_logged_17, x_K_logged_18, x_K_logged_21, x_K_logged_22, x_K_logged_25, x_K_logged_28, x_K_logged_29, x_K_logged_32, x_K_logged_35, x_K_logged_38, x_K_logged_39, x_K_logged_40, x_K_logged_41, x_K_logged_42, x_K_logged_43, x_K_logged_46, c_K_req0, q1, Ret_t1 (m := 37) tO63 (by decide), bI_0, bI_t, bI_f, e10, isA30, isA31, isA33, isA40, isA42, isA43, rOkB0, rOkB1, rOkB, Ret_v, Ret_n, cmp_eq, cmp_lt, cmp_gt, nI_1, eq_self, if_true, if_false, reduceIte]
    exact hQ1 (by rw [decide_eq_true q1]; rfl)
  · by_cases q2 : v < 0
    · simp only [x_K_logged_0, x_K_logged_1, x_K_logged_4, x_K_logged_5, x_K_logged_8, x_K_logged_9, x_K_logged_10, x_K_logged_13, x_K_logged_14, x_K_logged_17, x_K_logged_18, x_K_logged_21, x_K_logged_22, x_K_logged_25, x_K_logged_28, x_K_logged_29, x_K_logged_32, x_K_logged_35, x_K_logged_38, x_K_logged_39, x_K_logged_40, x_K_logged_41, x_K_logged_42, x_K_logged_43, x_K_logged_46, c_K_req0, q1, q2, Ret_t1 (m := 37) tO63 (by decide), bI_0, bI_t, bI_f, e10, isA30, isA31, isA33, isA40, isA42, isA43, rOkB0, rOkB1, rOkB, Ret_v, Ret_n, cmp_eq, cmp_lt, cmp_gt, nI_1, eq_self, if_true, if_false, reduceIte]
      exact hQ1 (by rw [ok6_f1 q2]; simp)
    · by_cases q3 : 2 < v
      · simp only [x_K_logged_0, x_K_logged_1, x_K_logged_4, x_K_logged_5, x_K_logged_8, x_K_logged_9, x_K_logged_10, x_K_logged_13, x_K_logged_14, x_K_logged_17, x_K_logged_18, x_K_logged_21, x_K_logged_22, x_K_logged_25, x_K_logged_28, x_K_logged_29, x_K_logged_32, x_K_logged_35, x_K_logged_38, x_K_logged_39, x_K_logged_40, x_K_logged_41, x_K_logged_42, x_K_logged_43, x_K_logged_46, c_K_req0, q1, q2, q3, Ret_t1 (m := 37) tO63 (by decide), bI_0, bI_t, bI_f, e10, isA30, isA31, isA33, isA40, isA42, isA43, rOkB0, rOkB1, rOkB, Ret_v, Ret_n, cmp_eq, cmp_lt, cmp_gt, nI_1, eq_self, if_true, if_false, reduceIte]
        exact hQ1 (by rw [ok6_f2 (m := 2) (by rw [z]; exact q3)]; simp)
      · have o : ok6 v 2 = true := ok6_t q2 (by rw [z]; exact q3)
        obtain ⟨i, hi', e1, e2⟩ := ok6_n (by omega) o
        have f := fun Q' => c_R_vAt (Q := Q') bL' hd.2.2.2.2.2.1 hi.2.2.2.2.2.1 (by omega) (i := nI (bL a).1 - 1 - k) hi'
        have g := fun Q' => c_R_size (Q := Q') (I := I) (J := J) bL'
        rw [hd.2.2.2.2.2.1.1] at g
        rw [← e1] at f
        simp only [x_K_logged_0, x_K_logged_1, x_K_logged_4, x_K_logged_5, x_K_logged_8, x_K_logged_9, x_K_logged_10, x_K_logged_13, x_K_logged_14, x_K_logged_17, x_K_logged_18, x_K_logged_21, x_K_logged_22, x_K_logged_25, x_K_logged_28, x_K_logged_29, x_K_logged_32, x_K_logged_35, x_K_logged_38, x_K_logged_39, x_K_logged_40, x_K_logged_41, x_K_logged_42, x_K_logged_43, x_K_logged_46, c_K_req1, q1, q2, q3, k0, r1, b0, b5, bL'.1, f, g, bI_0, bI_t, bI_f, e10, isA30, isA31, isA33, isA40, isA42, isA43, rOkB0, rOkB1, rOkB, Ret_v, Ret_n, cmp_eq, cmp_lt, cmp_gt, nI_1, eq_self, if_true, if_false, reduceIte]
        rw [← e2]
        exact hQ (by rw [decide_eq_false q1, o]; rfl)
theorem c_K_valueOfWhole (h : KOk I J R S T a n s x l) (hm : m ≤ 11) : Wp 55 0 [.ref 35, .int (nI m)] [] I J R S Q = Q 0 (some (.int (whV a l m))) I J R S := by
  obtain ⟨k0, r0, r1, r2, r3, r4⟩ := h.1
  have hb := h.2.1.2.2.2.1
  have hs := h.2.2.2.1
  unfold whV
  by_cases q : m = 11
  · subst q
    have f := fun Q' => c_C_length (Q := Q') (I := I) (J := J) hs
    rw [h.2.2.2.2.1.1] at f
    simp only [x_K_valueOfWhole_0, x_K_valueOfWhole_1, x_K_valueOfWhole_3, x_K_valueOfWhole_6, x_K_valueOfWhole_7, x_K_valueOfWhole_10, x_K_valueOfWhole_13, x_K_valueOfWhole_16, x_K_valueOfWhole_17, x_K_valueOfWhole_20, x_K_valueOfWhole_21, x_K_valueOfWhole_24, show nI 11 = 11 by decide, k0, r4, hs.1, f, bI_0, bI_t, bI_f, e10, isA30, isA31, isA33, isA40, isA42, isA43, rOkB0, rOkB1, rOkB, Ret_v, Ret_n, cmp_eq, cmp_lt, cmp_gt, nI_1, eq_self, if_true, if_false, reduceIte]
  · have f := fun Q' => c_O_valueOfBook (Q := Q') hb h.2.1.2.2.2.2.1 h.2.1.2.2.2.2.2.1 m (by omega)
    have e : ¬ nI m = 11 := by
      rw [show (11 : Int32) = nI 11 by decide, nI_inj (by omega) (by omega)]; exact q
    simp only [x_K_valueOfWhole_0, x_K_valueOfWhole_1, x_K_valueOfWhole_3, x_K_valueOfWhole_6, x_K_valueOfWhole_7, x_K_valueOfWhole_10, x_K_valueOfWhole_13, x_K_valueOfWhole_16, x_K_valueOfWhole_17, x_K_valueOfWhole_20, x_K_valueOfWhole_21, x_K_valueOfWhole_24, e, q, k0, r1, hb.1, f, bI_0, bI_t, bI_f, e10, isA30, isA31, isA33, isA40, isA42, isA43, rOkB0, rOkB1, rOkB, Ret_v, Ret_n, cmp_eq, cmp_lt, cmp_gt, nI_1, eq_self, if_true, if_false, reduceIte]
theorem c_K_whole (h : KOk I J R S T a n s x l) (hQ1 : ok6 k 11 = false → Q 1 none I J R (sh_thr S)) (hQ : ok6 k 11 = true → Q 0 (some (.int (whV a l (ix k)))) I J R S) : Wp 39 0 [.ref 35, .int k] [] I J R S Q := by
  obtain ⟨k0, r0, r1, r2, r3, r4⟩ := h.1
  have z : nI 11 = 11 := by decide
  by_cases q2 : k < 0
  · simp only [x_K_whole_0, x_K_whole_1, x_K_whole_4, x_K_whole_5, x_K_whole_7, x_K_whole_10, x_K_whole_11, x_K_whole_14, x_K_whole_15, x_K_whole_18, x_K_whole_19, x_K_whole_20, x_K_whole_23, c_K_req0, q2, Ret_t1 (m := 39) tO63 (by decide), bI_0, bI_t, bI_f, e10, isA30, isA31, isA33, isA40, isA42, isA43, rOkB0, rOkB1, rOkB, Ret_v, Ret_n, cmp_eq, cmp_lt, cmp_gt, nI_1, eq_self, if_true, if_false, reduceIte]
    exact hQ1 (ok6_f1 q2)
  · by_cases q3 : 11 < k
    · simp only [x_K_whole_0, x_K_whole_1, x_K_whole_4, x_K_whole_5, x_K_whole_7, x_K_whole_10, x_K_whole_11, x_K_whole_14, x_K_whole_15, x_K_whole_18, x_K_whole_19, x_K_whole_20, x_K_whole_23, c_K_req0, q2, q3, Ret_t1 (m := 39) tO63 (by decide), bI_0, bI_t, bI_f, e10, isA30, isA31, isA33, isA40, isA42, isA43, rOkB0, rOkB1, rOkB, Ret_v, Ret_n, cmp_eq, cmp_lt, cmp_gt, nI_1, eq_self, if_true, if_false, reduceIte]
      exact hQ1 (ok6_f2 (m := 11) (by rw [z]; exact q3))
    · have o : ok6 k 11 = true := ok6_t q2 (by rw [z]; exact q3)
      obtain ⟨i, hi', e1, e2⟩ := ok6_n (by omega) o
      have f := fun Q' => c_K_valueOfWhole (Q := Q') h hi'
      rw [← e1] at f
      simp only [x_K_whole_0, x_K_whole_1, x_K_whole_4, x_K_whole_5, x_K_whole_7, x_K_whole_10, x_K_whole_11, x_K_whole_14, x_K_whole_15, x_K_whole_18, x_K_whole_19, x_K_whole_20, x_K_whole_23, c_K_req1, q2, q3, k0, f, bI_0, bI_t, bI_f, e10, isA30, isA31, isA33, isA40, isA42, isA43, rOkB0, rOkB1, rOkB, Ret_v, Ret_n, cmp_eq, cmp_lt, cmp_gt, nI_1, eq_self, if_true, if_false, reduceIte]
      rw [← e2]
      exact hQ o




theorem c_K_caseOf (h : KOk I J R S T a n s x l) (hQ1 : isW w = false → Q 1 none I J R (sh_thr S)) (hQ : isW w = true → ∀ I', kF 35 186 I J R I' J R → KOk I' J R S T a n s x l → Q 0 (some (.int (csF a w))) I' J R S) : Wp 41 0 [.ref 35, .long w, nov] [] I J R S Q := by
  obtain ⟨k0, r0, r1, r2, r3, r4⟩ := h.1
  have hs := h.2.1.1.1
  cases q1 : isW w
  · simp only [x_K_caseOf_0, x_K_caseOf_1, x_K_caseOf_4, x_K_caseOf_5, x_K_caseOf_8, x_K_caseOf_9, x_K_caseOf_12, c_K_requireWord, q1, Ret_t1 (m := 41) tO62 (by decide), Bool.false_eq_true, bI_0, bI_t, bI_f, e10, isA30, isA31, isA33, isA40, isA42, isA43, rOkB0, rOkB1, rOkB, Ret_v, Ret_n, cmp_eq, cmp_lt, cmp_gt, nI_1, eq_self, if_true, if_false, reduceIte]
    exact hQ1 q1
  · simp only [x_K_caseOf_0, x_K_caseOf_1, x_K_caseOf_4, x_K_caseOf_5, x_K_caseOf_8, x_K_caseOf_9, x_K_caseOf_12, c_K_requireWord, q1, k0, r2, hs, bI_0, bI_t, bI_f, e10, isA30, isA31, isA33, isA40, isA42, isA43, rOkB0, rOkB1, rOkB, Ret_v, Ret_n, cmp_eq, cmp_lt, cmp_gt, nI_1, eq_self, if_true, if_false, reduceIte]
    refine c_S_caseFor h.2.1 q1 (fun I1 f1 => ?_)
    simp only [x_K_caseOf_0, x_K_caseOf_1, x_K_caseOf_4, x_K_caseOf_5, x_K_caseOf_8, x_K_caseOf_9, x_K_caseOf_12, bI_0, bI_t, bI_f, e10, isA30, isA31, isA33, isA40, isA42, isA43, rOkB0, rOkB1, rOkB, Ret_v, Ret_n, cmp_eq, cmp_lt, cmp_gt, nI_1, eq_self, if_true, if_false, reduceIte]
    exact hQ q1 _ (kF_of f1 (by omega)) (KOk_sp h f1)

theorem c_K_risk (h : KOk I J R S T a n s x l) (hQ1 : isW w = false → Q 1 none I J R (sh_thr S)) (hQ : isW w = true → ∀ I', kF 35 186 I J R I' J R → KOk I' J R S T a n s x l → Q 0 (some (.int (nI (rskN a w)))) I' J R S) : Wp 44 0 [.ref 35, .long w, nov] [] I J R S Q := by
  obtain ⟨k0, r0, r1, r2, r3, r4⟩ := h.1
  have hs := h.2.1.1.1
  cases q1 : isW w
  · simp only [x_K_risk_0, x_K_risk_1, x_K_risk_4, x_K_risk_5, x_K_risk_8, x_K_risk_9, x_K_risk_12, c_K_requireWord, q1, Ret_t1 (m := 44) tO62 (by decide), Bool.false_eq_true, bI_0, bI_t, bI_f, e10, isA30, isA31, isA33, isA40, isA42, isA43, rOkB0, rOkB1, rOkB, Ret_v, Ret_n, cmp_eq, cmp_lt, cmp_gt, nI_1, eq_self, if_true, if_false, reduceIte]
    exact hQ1 q1
  · simp only [x_K_risk_0, x_K_risk_1, x_K_risk_4, x_K_risk_5, x_K_risk_8, x_K_risk_9, x_K_risk_12, c_K_requireWord, q1, k0, r2, hs, bI_0, bI_t, bI_f, e10, isA30, isA31, isA33, isA40, isA42, isA43, rOkB0, rOkB1, rOkB, Ret_v, Ret_n, cmp_eq, cmp_lt, cmp_gt, nI_1, eq_self, if_true, if_false, reduceIte]
    refine c_S_riskOf h.2.1 q1 (fun I1 f1 => ?_)
    simp only [x_K_risk_0, x_K_risk_1, x_K_risk_4, x_K_risk_5, x_K_risk_8, x_K_risk_9, x_K_risk_12, bI_0, bI_t, bI_f, e10, isA30, isA31, isA33, isA40, isA42, isA43, rOkB0, rOkB1, rOkB, Ret_v, Ret_n, cmp_eq, cmp_lt, cmp_gt, nI_1, eq_self, if_true, if_false, reduceIte]
    exact hQ q1 _ (kF_of f1 (by omega)) (KOk_sp h f1)

theorem c_K_suggestion (h : KOk I J R S T a n s x l) (hQ1 : (isW w && !decide (k < 0)) = false → Q 1 none I J R (sh_thr S)) (hQ : (isW w && !decide (k < 0)) = true → ∀ I', kF 35 186 I J R I' J R → KOk I' J R S T a n s x l → Q 0 (some (.long (sug a w k))) I' J R S) : Wp 42 0 [.ref 35, .long w, nov, .int k] [] I J R S Q := by
  obtain ⟨k0, r0, r1, r2, r3, r4⟩ := h.1
  have hs := h.2.1.1.1
  cases q1 : isW w
  · simp only [x_K_suggestion_0, x_K_suggestion_1, x_K_suggestion_4, x_K_suggestion_5, x_K_suggestion_8, x_K_suggestion_9, x_K_suggestion_12, x_K_suggestion_13, x_K_suggestion_16, x_K_suggestion_17, x_K_suggestion_20, x_K_suggestion_21, x_K_suggestion_22, x_K_suggestion_25, c_K_requireWord, q1, Ret_t1 (m := 42) tO62 (by decide), Bool.false_eq_true, bI_0, bI_t, bI_f, e10, isA30, isA31, isA33, isA40, isA42, isA43, rOkB0, rOkB1, rOkB, Ret_v, Ret_n, cmp_eq, cmp_lt, cmp_gt, nI_1, eq_self, if_true, if_false, reduceIte]
    exact hQ1 (by rw [q1]; rfl)
  · by_cases q2 : k < 0
    · simp only [x_K_suggestion_0, x_K_suggestion_1, x_K_suggestion_4, x_K_suggestion_5, x_K_suggestion_8, x_K_suggestion_9, x_K_suggestion_12, x_K_suggestion_13, x_K_suggestion_16, x_K_suggestion_17, x_K_suggestion_20, x_K_suggestion_21, x_K_suggestion_22, x_K_suggestion_25, c_K_requireWord, c_K_req0, q1, q2, Ret_t1 (m := 42) tO63 (by decide), bI_0, bI_t, bI_f, e10, isA30, isA31, isA33, isA40, isA42, isA43, rOkB0, rOkB1, rOkB, Ret_v, Ret_n, cmp_eq, cmp_lt, cmp_gt, nI_1, eq_self, if_true, if_false, reduceIte]
      exact hQ1 (by rw [decide_eq_true q2]; simp)
    · simp only [x_K_suggestion_0, x_K_suggestion_1, x_K_suggestion_4, x_K_suggestion_5, x_K_suggestion_8, x_K_suggestion_9, x_K_suggestion_12, x_K_suggestion_13, x_K_suggestion_16, x_K_suggestion_17, x_K_suggestion_20, x_K_suggestion_21, x_K_suggestion_22, x_K_suggestion_25, c_K_requireWord, c_K_req1, q1, q2, k0, r2, hs, bI_0, bI_t, bI_f, e10, isA30, isA31, isA33, isA40, isA42, isA43, rOkB0, rOkB1, rOkB, Ret_v, Ret_n, cmp_eq, cmp_lt, cmp_gt, nI_1, eq_self, if_true, if_false, reduceIte]
      refine c_S_suggestionAt h.2.1 q1 (fun I1 f1 => ?_)
      simp only [x_K_suggestion_0, x_K_suggestion_1, x_K_suggestion_4, x_K_suggestion_5, x_K_suggestion_8, x_K_suggestion_9, x_K_suggestion_12, x_K_suggestion_13, x_K_suggestion_16, x_K_suggestion_17, x_K_suggestion_20, x_K_suggestion_21, x_K_suggestion_22, x_K_suggestion_25, bI_0, bI_t, bI_f, e10, isA30, isA31, isA33, isA40, isA42, isA43, rOkB0, rOkB1, rOkB, Ret_v, Ret_n, cmp_eq, cmp_lt, cmp_gt, nI_1, eq_self, if_true, if_false, reduceIte]
      exact hQ (by rw [q1, decide_eq_false q2]; rfl) _ (kF_of f1 (by omega)) (KOk_sp h f1)
end KE

