/-! texts: a String constant s over the bytes at b -/
def StS (R : MR) (S : Sh) (I : MI) (s b len : Nat) (c : Nat → Nat) : Prop := S.1 s = 21 ∧ S.1 b = 42 ∧ S.2.1 b = len ∧ len < 2 ^ 31 ∧ R s 0 = .ref b ∧ I s 1 = 0 ∧ ∀ i, i < len → I b i = nI (c i) ∧ c i < 128
theorem chr_ok : ∀ c, c < 128 → ((nI c &&& 255).toUInt32 % 65536).toInt32 = nI c := by decide +kernel
theorem chr_rk : ∀ c, c < 128 → rOk (some .char) (nI c) = true := by decide +kernel
theorem rOkY0 : rOk (some .byte) 0 = true := by decide
section CJ
variable {I : MI} {J : MJ} {R : MR} {S : Sh} {Q : SkQ} {s b len k : Nat} {c : Nat → Nat} {x l1 : Int32} {st : List Value}
theorem y_Jp_0 : Wp 260 0 [.int x, .int l1, .retAddr 7] st I J R S Q = Wp 260 1 [.int x, .int l1, .retAddr 7] (.int x :: st) I J R S Q := o_iload_n rfl k_Jp_checkIndex_0
theorem y_Jp_4 : Wp 260 4 [.int x, .int l1, .retAddr 7] st I J R S Q = Wp 260 5 [.int x, .int l1, .retAddr 7] (.int x :: st) I J R S Q := o_iload_n rfl k_Jp_checkIndex_4
theorem y_Jp_5 : Wp 260 5 [.int x, .int l1, .retAddr 7] st I J R S Q = Wp 260 6 [.int x, .int l1, .retAddr 7] (.int l1 :: st) I J R S Q := o_iload_n rfl k_Jp_checkIndex_5
theorem y_Jp_16 : Wp 260 16 [.int x, .int l1, .retAddr 7] st I J R S Q = Wp 260 17 [.int x, .int l1, .retAddr 7] (.int x :: st) I J R S Q := o_iload_n rfl k_Jp_checkIndex_16
theorem c_Jp_checkIndex (hk : k < len) (hl : len < 2 ^ 31) : Wp 260 0 [.int (nI k), .int (nI len), .retAddr 7] [] I J R S Q = Q 0 (some (.int (nI k))) I J R S := by
  have e1 : ¬ nI k < 0 := nI_pos (by omega)
  have e2 : nI k < nI len := nI_lt hk hl
  simp only [y_Jp_0, y_Jp_4, y_Jp_5, y_Jp_16, x_Jp_checkIndex_1, x_Jp_checkIndex_6, x_Jp_checkIndex_17, e1, e2, bI_0, bI_t, bI_f, e10, isA30, isA31, isA33, isA40, isA42, isA43, rOkB0, rOkB1, rOkB, Ret_v, Ret_n, cmp_eq, cmp_lt, cmp_gt, nI_1, eq_self, if_true, if_false, reduceIte]
theorem c_Js_checkIndex (hk : k < len) (hl : len < 2 ^ 31) : Wp 258 0 [.int (nI k), .int (nI len)] [] I J R S Q = Q 0 none I J R S := by
  simp only [x_Js_checkIndex_0, x_Js_checkIndex_1, x_Js_checkIndex_2, x_Js_checkIndex_5, x_Js_checkIndex_8, x_Js_checkIndex_9, c_Jp_checkIndex hk hl, bI_0, bI_t, bI_f, e10, isA30, isA31, isA33, isA40, isA42, isA43, rOkB0, rOkB1, rOkB, Ret_v, Ret_n, cmp_eq, cmp_lt, cmp_gt, nI_1, eq_self, if_true, if_false, reduceIte]
theorem c_Js_coder (hS : StS R S I s b len c) : Wp 256 0 [.ref s] [] I J R S Q = Q 0 (some (.int 0)) I J R S := by
  simp only [x_Js_coder_0, x_Js_coder_3, x_Js_coder_6, x_Js_coder_7, x_Js_coder_10, x_Js_coder_13, x_Js_coder_14, hS.1, hS.2.2.2.2.2.1, rOkY0, e10, bI_0, bI_t, bI_f, e10, isA30, isA31, isA33, isA40, isA42, isA43, rOkB0, rOkB1, rOkB, Ret_v, Ret_n, cmp_eq, cmp_lt, cmp_gt, nI_1, eq_self, if_true, if_false, reduceIte]
theorem c_Js_length (hS : StS R S I s b len c) : Wp 254 0 [.ref s] [] I J R S Q = Q 0 (some (.int (nI len))) I J R S := by
  have e : nI len >>> ((0 : Int32) &&& 31) = nI len := by rw [show ((0 : Int32) &&& 31) = 0 by decide, Int32.shiftRight_zero]
  have e42 : isArr (S.1 b) = true := by rw [hS.2.1]; decide
  simp only [x_Js_length_0, x_Js_length_1, x_Js_length_4, x_Js_length_5, x_Js_length_6, x_Js_length_9, x_Js_length_10, hS.1, hS.2.2.2.2.1, e42, hS.2.2.1, c_Js_coder hS, e, bI_0, bI_t, bI_f, e10, isA30, isA31, isA33, isA40, isA42, isA43, rOkB0, rOkB1, rOkB, Ret_v, Ret_n, cmp_eq, cmp_lt, cmp_gt, nI_1, eq_self, if_true, if_false, reduceIte]
theorem c_Js_charAt (hS : StS R S I s b len c) (hk : k < len) : Wp 255 0 [.ref s, .int (nI k)] [] I J R S Q = Q 0 (some (.int (nI (c k)))) I J R S := by
  obtain ⟨s0, s1, n1, hl, r0, i0, hc⟩ := hS
  have e42 : isArr (S.1 b) = true := by rw [s1]; decide
  have e3 := inb_nI hk hl
  have e4 : ix (nI k) = k := ix_nI (by omega)
  obtain ⟨c1, c2⟩ := hc k hk
  simp only [x_Js_charAt_0, x_Js_charAt_1, x_Js_charAt_4, x_Js_charAt_7, x_Js_charAt_8, x_Js_charAt_11, x_Js_charAt_12, x_Js_charAt_15, x_Js_charAt_16, x_Js_charAt_17, x_Js_charAt_20, x_Js_isLatin1_0, x_Js_isLatin1_3, x_Js_isLatin1_6, x_Js_isLatin1_7, x_Js_isLatin1_10, x_Js_isLatin1_13, x_Js_isLatin1_14, x_Js_isLatin1_17, x_Js_isLatin1_18, x_Jl_charAt_0, x_Jl_charAt_1, x_Jl_charAt_2, x_Jl_charAt_3, x_Jl_charAt_6, x_Jl_charAt_7, x_Jl_charAt_8, x_Jl_charAt_9, x_Jl_charAt_12, x_Jl_charAt_13, x_Jl_charAt_14, s0, s1, n1, r0, i0, e42, c_Js_checkIndex hk hl, e3, e4, c1, chr_ok _ c2, chr_rk _ c2, e10, bI_0, bI_t, bI_f, e10, isA30, isA31, isA33, isA40, isA42, isA43, rOkB0, rOkB1, rOkB, Ret_v, Ret_n, cmp_eq, cmp_lt, cmp_gt, nI_1, eq_self, if_true, if_false, reduceIte]
end CJ

