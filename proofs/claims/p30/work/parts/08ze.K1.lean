def okCnt (v : Int32) : Bool := !decide (v < 1) && !decide (999 < v)
def okLet (v : Int32) : Bool := !decide (v < 0) && decide (v < 26)
def okStk (v : Int32) : Bool := !decide (v < 0) && !decide (2 < v)
section KA
variable {I : MI} {J : MJ} {R : MR} {S : Sh} {Q : SkQ} {w : Int64} {v : Int32} {b : Bool}
theorem c_K_isCount : Wp 65 0 [.int v] [] I J R S Q = Q 0 (some (.int (bI (okCnt v)))) I J R S := by
  unfold okCnt
  by_cases q1 : v < 1
  · simp only [x_K_isCount_0, x_K_isCount_1, x_K_isCount_2, x_K_isCount_5, x_K_isCount_6, x_K_isCount_9, x_K_isCount_12, x_K_isCount_13, x_K_isCount_16, x_K_isCount_17, q1, decide_true, Bool.not_true, Bool.false_and, bI_0, bI_t, bI_f, e10, isA30, isA31, isA33, isA40, isA42, isA43, rOkB0, rOkB1, rOkB, Ret_v, Ret_n, cmp_eq, cmp_lt, cmp_gt, nI_1, eq_self, if_true, if_false, reduceIte]
  · by_cases q2 : 999 < v
    · simp only [x_K_isCount_0, x_K_isCount_1, x_K_isCount_2, x_K_isCount_5, x_K_isCount_6, x_K_isCount_9, x_K_isCount_12, x_K_isCount_13, x_K_isCount_16, x_K_isCount_17, q1, q2, decide_true, decide_false, Bool.not_true, Bool.not_false, Bool.and_false, bI_0, bI_t, bI_f, e10, isA30, isA31, isA33, isA40, isA42, isA43, rOkB0, rOkB1, rOkB, Ret_v, Ret_n, cmp_eq, cmp_lt, cmp_gt, nI_1, eq_self, if_true, if_false, reduceIte]
    · simp only [x_K_isCount_0, x_K_isCount_1, x_K_isCount_2, x_K_isCount_5, x_K_isCount_6, x_K_isCount_9, x_K_isCount_12, x_K_isCount_13, x_K_isCount_16, x_K_isCount_17, q1, q2, decide_false, Bool.not_false, Bool.and_true, bI_0, bI_t, bI_f, e10, isA30, isA31, isA33, isA40, isA42, isA43, rOkB0, rOkB1, rOkB, Ret_v, Ret_n, cmp_eq, cmp_lt, cmp_gt, nI_1, eq_self, if_true, if_false, reduceIte]
theorem c_K_isLetter : Wp 66 0 [.int v] [] I J R S Q = Q 0 (some (.int (bI (okLet v)))) I J R S := by
  unfold okLet
  by_cases q1 : v < 0
  · simp only [x_K_isLetter_0, x_K_isLetter_1, x_K_isLetter_4, x_K_isLetter_5, x_K_isLetter_7, x_K_isLetter_10, x_K_isLetter_11, x_K_isLetter_14, x_K_isLetter_15, q1, decide_true, Bool.not_true, Bool.false_and, bI_0, bI_t, bI_f, e10, isA30, isA31, isA33, isA40, isA42, isA43, rOkB0, rOkB1, rOkB, Ret_v, Ret_n, cmp_eq, cmp_lt, cmp_gt, nI_1, eq_self, if_true, if_false, reduceIte]
  · by_cases q2 : v < 26
    · simp only [x_K_isLetter_0, x_K_isLetter_1, x_K_isLetter_4, x_K_isLetter_5, x_K_isLetter_7, x_K_isLetter_10, x_K_isLetter_11, x_K_isLetter_14, x_K_isLetter_15, q1, q2, decide_true, decide_false, Bool.not_false, Bool.and_true, bI_0, bI_t, bI_f, e10, isA30, isA31, isA33, isA40, isA42, isA43, rOkB0, rOkB1, rOkB, Ret_v, Ret_n, cmp_eq, cmp_lt, cmp_gt, nI_1, eq_self, if_true, if_false, reduceIte]
    · simp only [x_K_isLetter_0, x_K_isLetter_1, x_K_isLetter_4, x_K_isLetter_5, x_K_isLetter_7, x_K_isLetter_10, x_K_isLetter_11, x_K_isLetter_14, x_K_isLetter_15, q1, q2, decide_false, Bool.not_false, Bool.and_false, bI_0, bI_t, bI_f, e10, isA30, isA31, isA33, isA40, isA42, isA43, rOkB0, rOkB1, rOkB, Ret_v, Ret_n, cmp_eq, cmp_lt, cmp_gt, nI_1, eq_self, if_true, if_false, reduceIte]
theorem c_K_isStick : Wp 67 0 [.int v] [] I J R S Q = Q 0 (some (.int (bI (okStk v)))) I J R S := by
  unfold okStk
  by_cases q1 : v < 0
  · simp only [x_K_isStick_0, x_K_isStick_1, x_K_isStick_4, x_K_isStick_5, x_K_isStick_6, x_K_isStick_9, x_K_isStick_10, x_K_isStick_13, x_K_isStick_14, q1, decide_true, Bool.not_true, Bool.false_and, bI_0, bI_t, bI_f, e10, isA30, isA31, isA33, isA40, isA42, isA43, rOkB0, rOkB1, rOkB, Ret_v, Ret_n, cmp_eq, cmp_lt, cmp_gt, nI_1, eq_self, if_true, if_false, reduceIte]
  · by_cases q2 : 2 < v
    · simp only [x_K_isStick_0, x_K_isStick_1, x_K_isStick_4, x_K_isStick_5, x_K_isStick_6, x_K_isStick_9, x_K_isStick_10, x_K_isStick_13, x_K_isStick_14, q1, q2, decide_true, decide_false, Bool.not_true, Bool.not_false, Bool.and_false, bI_0, bI_t, bI_f, e10, isA30, isA31, isA33, isA40, isA42, isA43, rOkB0, rOkB1, rOkB, Ret_v, Ret_n, cmp_eq, cmp_lt, cmp_gt, nI_1, eq_self, if_true, if_false, reduceIte]
    · simp only [x_K_isStick_0, x_K_isStick_1, x_K_isStick_4, x_K_isStick_5, x_K_isStick_6, x_K_isStick_9, x_K_isStick_10, x_K_isStick_13, x_K_isStick_14, q1, q2, decide_false, Bool.not_false, Bool.and_true, bI_0, bI_t, bI_f, e10, isA30, isA31, isA33, isA40, isA42, isA43, rOkB0, rOkB1, rOkB, Ret_v, Ret_n, cmp_eq, cmp_lt, cmp_gt, nI_1, eq_self, if_true, if_false, reduceIte]
theorem c_K_requireWord : Wp 62 0 [.long w, nov] [] I J R S Q = if isW w = true then Q 0 none I J R S else Q 1 none I J R (sh_thr S) := by
  cases e : isW w <;> simp only [x_K_requireWord_0, x_K_requireWord_1, x_K_requireWord_4, x_K_requireWord_7, x_K_requireWord_18, c_W_isWord, e, bI_0, bI_t, bI_f, e10, isA30, isA31, isA33, isA40, isA42, isA43, rOkB0, rOkB1, rOkB, Ret_v, Ret_n, cmp_eq, cmp_lt, cmp_gt, nI_1, eq_self, if_true, if_false, reduceIte, Bool.false_eq_true]
theorem c_K_require : Wp 63 0 [.int (bI b)] [] I J R S Q = if b = true then Q 0 none I J R S else Q 1 none I J R (sh_thr S) := by
  cases b <;> simp only [x_K_require_0, x_K_require_1, x_K_require_4, x_K_require_15, bI_0, bI_t, bI_f, e10, isA30, isA31, isA33, isA40, isA42, isA43, rOkB0, rOkB1, rOkB, Ret_v, Ret_n, cmp_eq, cmp_lt, cmp_gt, nI_1, eq_self, if_true, if_false, reduceIte, Bool.false_eq_true]
theorem c_K_requireState : Wp 64 0 [.int (bI b)] [] I J R S Q = if b = true then Q 0 none I J R S else Q 2 none I J R (sh_thr S) := by
  cases b <;> simp only [x_K_requireState_0, x_K_requireState_1, x_K_requireState_4, x_K_requireState_15, bI_0, bI_t, bI_f, e10, isA30, isA31, isA33, isA40, isA42, isA43, rOkB0, rOkB1, rOkB, Ret_v, Ret_n, cmp_eq, cmp_lt, cmp_gt, nI_1, eq_self, if_true, if_false, reduceIte, Bool.false_eq_true]
end KA

