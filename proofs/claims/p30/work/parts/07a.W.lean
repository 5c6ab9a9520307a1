theorem k_W_isWord_0 : decode (sk_by 167) 0 = .ok (.lload_n 0, 1) := by decide +kernel
theorem x_W_isWord_0 {st : List Value} {x : Int64} {I : MI} {J : MJ} {R : MR} {S : Sh} {Q : SkQ} : Wp 167 0 [.long x, nov, nov, nov, nov, nov] st I J R S Q = Wp 167 1 [.long x, nov, nov, nov, nov, nov] (.long x :: st) I J R S Q := o_lload_n rfl k_W_isWord_0
theorem k_W_isWord_1 : decode (sk_by 167) 1 = .ok (.lconst 0, 1) := by decide +kernel
theorem x_W_isWord_1 {ls st : List Value} {I : MI} {J : MJ} {R : MR} {S : Sh} {Q : SkQ} : Wp 167 1 ls st I J R S Q = Wp 167 2 ls (.long 0 :: st) I J R S Q := o_lc (by decide) k_W_isWord_1
theorem k_W_isWord_2 : decode (sk_by 167) 2 = .ok (.lcmp, 1) := by decide +kernel
theorem x_W_isWord_2 {ls st : List Value} {x y : Int64} {I : MI} {J : MJ} {R : MR} {S : Sh} {Q : SkQ} : Wp 167 2 ls (.long y :: .long x :: st) I J R S Q = Wp 167 3 ls (.int (lg_cmp x y) :: st) I J R S Q := o_lcmp k_W_isWord_2
theorem k_W_isWord_3 : decode (sk_by 167) 3 = .ok (.ifCond .le 12, 3) := by decide +kernel
theorem x_W_isWord_3 {ls st : List Value} {x : Int32} {I : MI} {J : MJ} {R : MR} {S : Sh} {Q : SkQ} : Wp 167 3 ls (.int x :: st) I J R S Q = if 0 < x then Wp 167 6 ls st I J R S Q else Wp 167 15 ls st I J R S Q := o_if_le rfl rfl k_W_isWord_3
theorem k_W_isWord_6 : decode (sk_by 167) 6 = .ok (.lload_n 0, 1) := by decide +kernel
theorem x_W_isWord_6 {st : List Value} {x : Int64} {I : MI} {J : MJ} {R : MR} {S : Sh} {Q : SkQ} : Wp 167 6 [.long x, nov, nov, nov, nov, nov] st I J R S Q = Wp 167 7 [.long x, nov, nov, nov, nov, nov] (.long x :: st) I J R S Q := o_lload_n rfl k_W_isWord_6
theorem k_W_isWord_7 : decode (sk_by 167) 7 = .ok (.bipush 40, 2) := by decide +kernel
theorem x_W_isWord_7 {ls st : List Value} {I : MI} {J : MJ} {R : MR} {S : Sh} {Q : SkQ} : Wp 167 7 ls st I J R S Q = Wp 167 9 ls (.int 40 :: st) I J R S Q := o_bi (by decide) k_W_isWord_7
theorem k_W_isWord_9 : decode (sk_by 167) 9 = .ok (.lshr, 1) := by decide +kernel
theorem x_W_isWord_9 {ls st : List Value} {x : Int64} {y : Int32} {I : MI} {J : MJ} {R : MR} {S : Sh} {Q : SkQ} : Wp 167 9 ls (.int y :: .long x :: st) I J R S Q = Wp 167 10 ls (.long (x >>> (y.toInt64 &&& 63)) :: st) I J R S Q := o_lshr k_W_isWord_9
theorem k_W_isWord_10 : decode (sk_by 167) 10 = .ok (.lconst 0, 1) := by decide +kernel
theorem x_W_isWord_10 {ls st : List Value} {I : MI} {J : MJ} {R : MR} {S : Sh} {Q : SkQ} : Wp 167 10 ls st I J R S Q = Wp 167 11 ls (.long 0 :: st) I J R S Q := o_lc (by decide) k_W_isWord_10
theorem k_W_isWord_11 : decode (sk_by 167) 11 = .ok (.lcmp, 1) := by decide +kernel
theorem x_W_isWord_11 {ls st : List Value} {x y : Int64} {I : MI} {J : MJ} {R : MR} {S : Sh} {Q : SkQ} : Wp 167 11 ls (.long y :: .long x :: st) I J R S Q = Wp 167 12 ls (.int (lg_cmp x y) :: st) I J R S Q := o_lcmp k_W_isWord_11
theorem k_W_isWord_12 : decode (sk_by 167) 12 = .ok (.ifCond .eq 5, 3) := by decide +kernel
theorem x_W_isWord_12 {ls st : List Value} {x : Int32} {I : MI} {J : MJ} {R : MR} {S : Sh} {Q : SkQ} : Wp 167 12 ls (.int x :: st) I J R S Q = if x = 0 then Wp 167 17 ls st I J R S Q else Wp 167 15 ls st I J R S Q := o_if_eq rfl rfl k_W_isWord_12
theorem k_W_isWord_15 : decode (sk_by 167) 15 = .ok (.iconst 0, 1) := by decide +kernel
theorem x_W_isWord_15 {ls st : List Value} {I : MI} {J : MJ} {R : MR} {S : Sh} {Q : SkQ} : Wp 167 15 ls st I J R S Q = Wp 167 16 ls (.int 0 :: st) I J R S Q := o_const (by decide) k_W_isWord_15
theorem k_W_isWord_16 : decode (sk_by 167) 16 = .ok (.ireturn, 1) := by decide +kernel
theorem x_W_isWord_16 {ls : List Value} {v : Int32} {I : MI} {J : MJ} {R : MR} {S : Sh} {Q : SkQ} (h : rOk (some .boolean) v = true) : Wp 167 16 ls [.int v] I J R S Q = Q 0 (some (.int v)) I J R S := o_ireturn k_W_isWord_16 (by rw [show sk_rt 167 = some .boolean from rfl]; exact h)
theorem k_W_isWord_17 : decode (sk_by 167) 17 = .ok (.lload_n 0, 1) := by decide +kernel
theorem x_W_isWord_17 {st : List Value} {x : Int64} {I : MI} {J : MJ} {R : MR} {S : Sh} {Q : SkQ} : Wp 167 17 [.long x, nov, nov, nov, nov, nov] st I J R S Q = Wp 167 18 [.long x, nov, nov, nov, nov, nov] (.long x :: st) I J R S Q := o_lload_n rfl k_W_isWord_17
theorem k_W_isWord_18 : decode (sk_by 167) 18 = .ok (.invokestatic 11, 3) := by decide +kernel
theorem x_W_isWord_18 {ls : List Value} {a0 : Int64} {I : MI} {J : MJ} {R : MR} {S : Sh} {Q : SkQ} : Wp 167 18 ls (.long a0 :: []) I J R S Q = Wp 168 0 [.long a0, nov, nov] [] I J R S (Ret 167 18 21 168 ls [] Q) := o_call (as := [.long a0]) (rest := []) (show sk_lkM (sk_cl 167) 11 = some 168 by decide +kernel) (by decide) (by decide) (by (decide +kernel)) (ins := .invokestatic 11) (by (decide +kernel)) k_W_isWord_18 rfl (show 1 = sk_na 168 by (decide +kernel)) (Nat.le_of_ble_eq_true rfl) (Nat.le_trans (show (argL [.long a0]).length ≤ 3 from Nat.le_of_ble_eq_true rfl) (by (decide +kernel))) rfl
theorem k_W_isWord_21 : decode (sk_by 167) 21 = .ok (.istore_n 2, 1) := by decide +kernel
theorem x_W_isWord_21 {st : List Value} {l0 : Int64} {x : Int32} {I : MI} {J : MJ} {R : MR} {S : Sh} {Q : SkQ} : Wp 167 21 [.long l0, nov, nov, nov, nov, nov] (.int x :: st) I J R S Q = Wp 167 22 [.long l0, nov, .int x, nov, nov, nov] st I J R S Q := o_istore_n (Nat.le_of_ble_eq_true rfl) rfl k_W_isWord_21
theorem k_W_isWord_22 : decode (sk_by 167) 22 = .ok (.iconst 0, 1) := by decide +kernel
theorem x_W_isWord_22 {ls st : List Value} {I : MI} {J : MJ} {R : MR} {S : Sh} {Q : SkQ} : Wp 167 22 ls st I J R S Q = Wp 167 23 ls (.int 0 :: st) I J R S Q := o_const (by decide) k_W_isWord_22
theorem k_W_isWord_23 : decode (sk_by 167) 23 = .ok (.istore_n 3, 1) := by decide +kernel
theorem x_W_isWord_23 {st : List Value} {l0 : Int64} {l2 : Int32} {x : Int32} {I : MI} {J : MJ} {R : MR} {S : Sh} {Q : SkQ} : Wp 167 23 [.long l0, nov, .int l2, nov, nov, nov] (.int x :: st) I J R S Q = Wp 167 24 [.long l0, nov, .int l2, .int x, nov, nov] st I J R S Q := o_istore_n (Nat.le_of_ble_eq_true rfl) rfl k_W_isWord_23
theorem k_W_isWord_24 : decode (sk_by 167) 24 = .ok (.iload_n 3, 1) := by decide +kernel
theorem x_W_isWord_24 {st : List Value} {l0 : Int64} {l2 : Int32} {l4 : Value} {x : Int32} {I : MI} {J : MJ} {R : MR} {S : Sh} {Q : SkQ} : Wp 167 24 [.long l0, nov, .int l2, .int x, l4, nov] st I J R S Q = Wp 167 25 [.long l0, nov, .int l2, .int x, l4, nov] (.int x :: st) I J R S Q := o_iload_n rfl k_W_isWord_24
theorem k_W_isWord_25 : decode (sk_by 167) 25 = .ok (.iload_n 2, 1) := by decide +kernel
theorem x_W_isWord_25 {st : List Value} {l0 : Int64} {l3 : Int32} {l4 : Value} {x : Int32} {I : MI} {J : MJ} {R : MR} {S : Sh} {Q : SkQ} : Wp 167 25 [.long l0, nov, .int x, .int l3, l4, nov] st I J R S Q = Wp 167 26 [.long l0, nov, .int x, .int l3, l4, nov] (.int x :: st) I J R S Q := o_iload_n rfl k_W_isWord_25
theorem k_W_isWord_26 : decode (sk_by 167) 26 = .ok (.if_icmp .ge 38, 3) := by decide +kernel
theorem x_W_isWord_26 {ls st : List Value} {x y : Int32} {I : MI} {J : MJ} {R : MR} {S : Sh} {Q : SkQ} : Wp 167 26 ls (.int y :: .int x :: st) I J R S Q = if x < y then Wp 167 29 ls st I J R S Q else Wp 167 64 ls st I J R S Q := o_ic_ge rfl rfl k_W_isWord_26
theorem k_W_isWord_29 : decode (sk_by 167) 29 = .ok (.lload_n 0, 1) := by decide +kernel
theorem x_W_isWord_29 {st : List Value} {l2 : Int32} {l3 : Int32} {l4 : Value} {x : Int64} {I : MI} {J : MJ} {R : MR} {S : Sh} {Q : SkQ} : Wp 167 29 [.long x, nov, .int l2, .int l3, l4, nov] st I J R S Q = Wp 167 30 [.long x, nov, .int l2, .int l3, l4, nov] (.long x :: st) I J R S Q := o_lload_n rfl k_W_isWord_29
theorem k_W_isWord_30 : decode (sk_by 167) 30 = .ok (.iconst 5, 1) := by decide +kernel
theorem x_W_isWord_30 {ls st : List Value} {I : MI} {J : MJ} {R : MR} {S : Sh} {Q : SkQ} : Wp 167 30 ls st I J R S Q = Wp 167 31 ls (.int 5 :: st) I J R S Q := o_const (by decide) k_W_isWord_30
theorem k_W_isWord_31 : decode (sk_by 167) 31 = .ok (.iload_n 3, 1) := by decide +kernel
theorem x_W_isWord_31 {st : List Value} {l0 : Int64} {l2 : Int32} {l4 : Value} {x : Int32} {I : MI} {J : MJ} {R : MR} {S : Sh} {Q : SkQ} : Wp 167 31 [.long l0, nov, .int l2, .int x, l4, nov] st I J R S Q = Wp 167 32 [.long l0, nov, .int l2, .int x, l4, nov] (.int x :: st) I J R S Q := o_iload_n rfl k_W_isWord_31
theorem k_W_isWord_32 : decode (sk_by 167) 32 = .ok (.imul, 1) := by decide +kernel
theorem x_W_isWord_32 {ls st : List Value} {x y : Int32} {I : MI} {J : MJ} {R : MR} {S : Sh} {Q : SkQ} : Wp 167 32 ls (.int y :: .int x :: st) I J R S Q = Wp 167 33 ls (.int (x * y) :: st) I J R S Q := o_imul k_W_isWord_32
theorem k_W_isWord_33 : decode (sk_by 167) 33 = .ok (.lshr, 1) := by decide +kernel
theorem x_W_isWord_33 {ls st : List Value} {x : Int64} {y : Int32} {I : MI} {J : MJ} {R : MR} {S : Sh} {Q : SkQ} : Wp 167 33 ls (.int y :: .long x :: st) I J R S Q = Wp 167 34 ls (.long (x >>> (y.toInt64 &&& 63)) :: st) I J R S Q := o_lshr k_W_isWord_33
theorem k_W_isWord_34 : decode (sk_by 167) 34 = .ok (.ldc2_w 15, 3) := by decide +kernel
theorem x_W_isWord_34 {ls st : List Value} {I : MI} {J : MJ} {R : MR} {S : Sh} {Q : SkQ} : Wp 167 34 ls st I J R S Q = Wp 167 37 ls (.long 31 :: st) I J R S Q := o_ldc2_w (show sk_lkK (sk_cl 167) 15 = some 31 by decide +kernel) k_W_isWord_34
theorem k_W_isWord_37 : decode (sk_by 167) 37 = .ok (.land, 1) := by decide +kernel
theorem x_W_isWord_37 {ls st : List Value} {x y : Int64} {I : MI} {J : MJ} {R : MR} {S : Sh} {Q : SkQ} : Wp 167 37 ls (.long y :: .long x :: st) I J R S Q = Wp 167 38 ls (.long (x &&& y) :: st) I J R S Q := o_land k_W_isWord_37
theorem k_W_isWord_38 : decode (sk_by 167) 38 = .ok (.lstore 4, 2) := by decide +kernel
theorem x_W_isWord_38 {st : List Value} {l0 : Int64} {l2 : Int32} {l3 : Int32} {l4 : Value} {x : Int64} {I : MI} {J : MJ} {R : MR} {S : Sh} {Q : SkQ} : Wp 167 38 [.long l0, nov, .int l2, .int l3, l4, nov] (.long x :: st) I J R S Q = Wp 167 40 [.long l0, nov, .int l2, .int l3, .long x, nov] st I J R S Q := o_lstore (Nat.le_of_ble_eq_true rfl) rfl k_W_isWord_38
theorem k_W_isWord_40 : decode (sk_by 167) 40 = .ok (.lload 4, 2) := by decide +kernel
theorem x_W_isWord_40 {st : List Value} {l0 : Int64} {l2 : Int32} {l3 : Int32} {x : Int64} {I : MI} {J : MJ} {R : MR} {S : Sh} {Q : SkQ} : Wp 167 40 [.long l0, nov, .int l2, .int l3, .long x, nov] st I J R S Q = Wp 167 42 [.long l0, nov, .int l2, .int l3, .long x, nov] (.long x :: st) I J R S Q := o_lload rfl k_W_isWord_40
theorem k_W_isWord_42 : decode (sk_by 167) 42 = .ok (.lconst 1, 1) := by decide +kernel
theorem x_W_isWord_42 {ls st : List Value} {I : MI} {J : MJ} {R : MR} {S : Sh} {Q : SkQ} : Wp 167 42 ls st I J R S Q = Wp 167 43 ls (.long 1 :: st) I J R S Q := o_lc (by decide) k_W_isWord_42
theorem k_W_isWord_43 : decode (sk_by 167) 43 = .ok (.lcmp, 1) := by decide +kernel
theorem x_W_isWord_43 {ls st : List Value} {x y : Int64} {I : MI} {J : MJ} {R : MR} {S : Sh} {Q : SkQ} : Wp 167 43 ls (.long y :: .long x :: st) I J R S Q = Wp 167 44 ls (.int (lg_cmp x y) :: st) I J R S Q := o_lcmp k_W_isWord_43
theorem k_W_isWord_44 : decode (sk_by 167) 44 = .ok (.ifCond .lt 12, 3) := by decide +kernel
theorem x_W_isWord_44 {ls st : List Value} {x : Int32} {I : MI} {J : MJ} {R : MR} {S : Sh} {Q : SkQ} : Wp 167 44 ls (.int x :: st) I J R S Q = if x < 0 then Wp 167 56 ls st I J R S Q else Wp 167 47 ls st I J R S Q := o_if_lt rfl rfl k_W_isWord_44
theorem k_W_isWord_47 : decode (sk_by 167) 47 = .ok (.lload 4, 2) := by decide +kernel
theorem x_W_isWord_47 {st : List Value} {l0 : Int64} {l2 : Int32} {l3 : Int32} {x : Int64} {I : MI} {J : MJ} {R : MR} {S : Sh} {Q : SkQ} : Wp 167 47 [.long l0, nov, .int l2, .int l3, .long x, nov] st I J R S Q = Wp 167 49 [.long l0, nov, .int l2, .int l3, .long x, nov] (.long x :: st) I J R S Q := o_lload rfl k_W_isWord_47
theorem k_W_isWord_49 : decode (sk_by 167) 49 = .ok (.ldc2_w 17, 3) := by decide +kernel
theorem x_W_isWord_49 {ls st : List Value} {I : MI} {J : MJ} {R : MR} {S : Sh} {Q : SkQ} : Wp 167 49 ls st I J R S Q = Wp 167 52 ls (.long 26 :: st) I J R S Q := o_ldc2_w (show sk_lkK (sk_cl 167) 17 = some 26 by decide +kernel) k_W_isWord_49
theorem k_W_isWord_52 : decode (sk_by 167) 52 = .ok (.lcmp, 1) := by decide +kernel
theorem x_W_isWord_52 {ls st : List Value} {x y : Int64} {I : MI} {J : MJ} {R : MR} {S : Sh} {Q : SkQ} : Wp 167 52 ls (.long y :: .long x :: st) I J R S Q = Wp 167 53 ls (.int (lg_cmp x y) :: st) I J R S Q := o_lcmp k_W_isWord_52
theorem k_W_isWord_53 : decode (sk_by 167) 53 = .ok (.ifCond .le 5, 3) := by decide +kernel
theorem x_W_isWord_53 {ls st : List Value} {x : Int32} {I : MI} {J : MJ} {R : MR} {S : Sh} {Q : SkQ} : Wp 167 53 ls (.int x :: st) I J R S Q = if 0 < x then Wp 167 56 ls st I J R S Q else Wp 167 58 ls st I J R S Q := o_if_le rfl rfl k_W_isWord_53
theorem k_W_isWord_56 : decode (sk_by 167) 56 = .ok (.iconst 0, 1) := by decide +kernel
theorem x_W_isWord_56 {ls st : List Value} {I : MI} {J : MJ} {R : MR} {S : Sh} {Q : SkQ} : Wp 167 56 ls st I J R S Q = Wp 167 57 ls (.int 0 :: st) I J R S Q := o_const (by decide) k_W_isWord_56
theorem k_W_isWord_57 : decode (sk_by 167) 57 = .ok (.ireturn, 1) := by decide +kernel
theorem x_W_isWord_57 {ls : List Value} {v : Int32} {I : MI} {J : MJ} {R : MR} {S : Sh} {Q : SkQ} (h : rOk (some .boolean) v = true) : Wp 167 57 ls [.int v] I J R S Q = Q 0 (some (.int v)) I J R S := o_ireturn k_W_isWord_57 (by rw [show sk_rt 167 = some .boolean from rfl]; exact h)
theorem k_W_isWord_58 : decode (sk_by 167) 58 = .ok (.iinc 3 1, 3) := by decide +kernel
theorem x_W_isWord_58 {st : List Value} {l0 : Int64} {l2 : Int32} {l4 : Int64} {x : Int32} {I : MI} {J : MJ} {R : MR} {S : Sh} {Q : SkQ} : Wp 167 58 [.long l0, nov, .int l2, .int x, .long l4, nov] st I J R S Q = Wp 167 61 [.long l0, nov, .int l2, .int (x + 1), .long l4, nov] st I J R S Q := o_inc (by decide) rfl (Nat.le_of_ble_eq_true rfl) rfl k_W_isWord_58
theorem k_W_isWord_61 : decode (sk_by 167) 61 = .ok (.goto (-37), 3) := by decide +kernel
theorem x_W_isWord_61 {ls st : List Value} {I : MI} {J : MJ} {R : MR} {S : Sh} {Q : SkQ} : Wp 167 61 ls st I J R S Q = Wp 167 24 ls st I J R S Q := o_goto rfl rfl k_W_isWord_61
theorem k_W_isWord_64 : decode (sk_by 167) 64 = .ok (.iconst 1, 1) := by decide +kernel
theorem x_W_isWord_64 {ls st : List Value} {I : MI} {J : MJ} {R : MR} {S : Sh} {Q : SkQ} : Wp 167 64 ls st I J R S Q = Wp 167 65 ls (.int 1 :: st) I J R S Q := o_const (by decide) k_W_isWord_64
theorem k_W_isWord_65 : decode (sk_by 167) 65 = .ok (.ireturn, 1) := by decide +kernel
theorem x_W_isWord_65 {ls : List Value} {v : Int32} {I : MI} {J : MJ} {R : MR} {S : Sh} {Q : SkQ} (h : rOk (some .boolean) v = true) : Wp 167 65 ls [.int v] I J R S Q = Q 0 (some (.int v)) I J R S := o_ireturn k_W_isWord_65 (by rw [show sk_rt 167 = some .boolean from rfl]; exact h)
theorem k_W_lengthOf_0 : decode (sk_by 168) 0 = .ok (.iconst 0, 1) := by decide +kernel
theorem x_W_lengthOf_0 {ls st : List Value} {I : MI} {J : MJ} {R : MR} {S : Sh} {Q : SkQ} : Wp 168 0 ls st I J R S Q = Wp 168 1 ls (.int 0 :: st) I J R S Q := o_const (by decide) k_W_lengthOf_0
theorem k_W_lengthOf_1 : decode (sk_by 168) 1 = .ok (.istore_n 2, 1) := by decide +kernel
theorem x_W_lengthOf_1 {st : List Value} {l0 : Int64} {x : Int32} {I : MI} {J : MJ} {R : MR} {S : Sh} {Q : SkQ} : Wp 168 1 [.long l0, nov, nov] (.int x :: st) I J R S Q = Wp 168 2 [.long l0, nov, .int x] st I J R S Q := o_istore_n (Nat.le_of_ble_eq_true rfl) rfl k_W_lengthOf_1
theorem k_W_lengthOf_2 : decode (sk_by 168) 2 = .ok (.iload_n 2, 1) := by decide +kernel
theorem x_W_lengthOf_2 {st : List Value} {l0 : Int64} {x : Int32} {I : MI} {J : MJ} {R : MR} {S : Sh} {Q : SkQ} : Wp 168 2 [.long l0, nov, .int x] st I J R S Q = Wp 168 3 [.long l0, nov, .int x] (.int x :: st) I J R S Q := o_iload_n rfl k_W_lengthOf_2
theorem k_W_lengthOf_3 : decode (sk_by 168) 3 = .ok (.bipush 8, 2) := by decide +kernel
theorem x_W_lengthOf_3 {ls st : List Value} {I : MI} {J : MJ} {R : MR} {S : Sh} {Q : SkQ} : Wp 168 3 ls st I J R S Q = Wp 168 5 ls (.int 8 :: st) I J R S Q := o_bi (by decide) k_W_lengthOf_3
theorem k_W_lengthOf_5 : decode (sk_by 168) 5 = .ok (.if_icmp .ge 21, 3) := by decide +kernel
theorem x_W_lengthOf_5 {ls st : List Value} {x y : Int32} {I : MI} {J : MJ} {R : MR} {S : Sh} {Q : SkQ} : Wp 168 5 ls (.int y :: .int x :: st) I J R S Q = if x < y then Wp 168 8 ls st I J R S Q else Wp 168 26 ls st I J R S Q := o_ic_ge rfl rfl k_W_lengthOf_5
theorem k_W_lengthOf_8 : decode (sk_by 168) 8 = .ok (.lload_n 0, 1) := by decide +kernel
theorem x_W_lengthOf_8 {st : List Value} {l2 : Int32} {x : Int64} {I : MI} {J : MJ} {R : MR} {S : Sh} {Q : SkQ} : Wp 168 8 [.long x, nov, .int l2] st I J R S Q = Wp 168 9 [.long x, nov, .int l2] (.long x :: st) I J R S Q := o_lload_n rfl k_W_lengthOf_8
theorem k_W_lengthOf_9 : decode (sk_by 168) 9 = .ok (.iconst 5, 1) := by decide +kernel
theorem x_W_lengthOf_9 {ls st : List Value} {I : MI} {J : MJ} {R : MR} {S : Sh} {Q : SkQ} : Wp 168 9 ls st I J R S Q = Wp 168 10 ls (.int 5 :: st) I J R S Q := o_const (by decide) k_W_lengthOf_9
theorem k_W_lengthOf_10 : decode (sk_by 168) 10 = .ok (.iload_n 2, 1) := by decide +kernel
theorem x_W_lengthOf_10 {st : List Value} {l0 : Int64} {x : Int32} {I : MI} {J : MJ} {R : MR} {S : Sh} {Q : SkQ} : Wp 168 10 [.long l0, nov, .int x] st I J R S Q = Wp 168 11 [.long l0, nov, .int x] (.int x :: st) I J R S Q := o_iload_n rfl k_W_lengthOf_10
theorem k_W_lengthOf_11 : decode (sk_by 168) 11 = .ok (.imul, 1) := by decide +kernel
theorem x_W_lengthOf_11 {ls st : List Value} {x y : Int32} {I : MI} {J : MJ} {R : MR} {S : Sh} {Q : SkQ} : Wp 168 11 ls (.int y :: .int x :: st) I J R S Q = Wp 168 12 ls (.int (x * y) :: st) I J R S Q := o_imul k_W_lengthOf_11
theorem k_W_lengthOf_12 : decode (sk_by 168) 12 = .ok (.lshr, 1) := by decide +kernel
theorem x_W_lengthOf_12 {ls st : List Value} {x : Int64} {y : Int32} {I : MI} {J : MJ} {R : MR} {S : Sh} {Q : SkQ} : Wp 168 12 ls (.int y :: .long x :: st) I J R S Q = Wp 168 13 ls (.long (x >>> (y.toInt64 &&& 63)) :: st) I J R S Q := o_lshr k_W_lengthOf_12
theorem k_W_lengthOf_13 : decode (sk_by 168) 13 = .ok (.lconst 0, 1) := by decide +kernel
theorem x_W_lengthOf_13 {ls st : List Value} {I : MI} {J : MJ} {R : MR} {S : Sh} {Q : SkQ} : Wp 168 13 ls st I J R S Q = Wp 168 14 ls (.long 0 :: st) I J R S Q := o_lc (by decide) k_W_lengthOf_13
theorem k_W_lengthOf_14 : decode (sk_by 168) 14 = .ok (.lcmp, 1) := by decide +kernel
theorem x_W_lengthOf_14 {ls st : List Value} {x y : Int64} {I : MI} {J : MJ} {R : MR} {S : Sh} {Q : SkQ} : Wp 168 14 ls (.long y :: .long x :: st) I J R S Q = Wp 168 15 ls (.int (lg_cmp x y) :: st) I J R S Q := o_lcmp k_W_lengthOf_14
theorem k_W_lengthOf_15 : decode (sk_by 168) 15 = .ok (.ifCond .ne 5, 3) := by decide +kernel
theorem x_W_lengthOf_15 {ls st : List Value} {x : Int32} {I : MI} {J : MJ} {R : MR} {S : Sh} {Q : SkQ} : Wp 168 15 ls (.int x :: st) I J R S Q = if x = 0 then Wp 168 18 ls st I J R S Q else Wp 168 20 ls st I J R S Q := o_if_ne rfl rfl k_W_lengthOf_15
theorem k_W_lengthOf_18 : decode (sk_by 168) 18 = .ok (.iload_n 2, 1) := by decide +kernel
theorem x_W_lengthOf_18 {st : List Value} {l0 : Int64} {x : Int32} {I : MI} {J : MJ} {R : MR} {S : Sh} {Q : SkQ} : Wp 168 18 [.long l0, nov, .int x] st I J R S Q = Wp 168 19 [.long l0, nov, .int x] (.int x :: st) I J R S Q := o_iload_n rfl k_W_lengthOf_18
theorem k_W_lengthOf_19 : decode (sk_by 168) 19 = .ok (.ireturn, 1) := by decide +kernel
theorem x_W_lengthOf_19 {ls : List Value} {v : Int32} {I : MI} {J : MJ} {R : MR} {S : Sh} {Q : SkQ} : Wp 168 19 ls [.int v] I J R S Q = Q 0 (some (.int v)) I J R S := o_ireturn k_W_lengthOf_19 rfl
theorem k_W_lengthOf_20 : decode (sk_by 168) 20 = .ok (.iinc 2 1, 3) := by decide +kernel
theorem x_W_lengthOf_20 {st : List Value} {l0 : Int64} {x : Int32} {I : MI} {J : MJ} {R : MR} {S : Sh} {Q : SkQ} : Wp 168 20 [.long l0, nov, .int x] st I J R S Q = Wp 168 23 [.long l0, nov, .int (x + 1)] st I J R S Q := o_inc (by decide) rfl (Nat.le_of_ble_eq_true rfl) rfl k_W_lengthOf_20
theorem k_W_lengthOf_23 : decode (sk_by 168) 23 = .ok (.goto (-21), 3) := by decide +kernel
theorem x_W_lengthOf_23 {ls st : List Value} {I : MI} {J : MJ} {R : MR} {S : Sh} {Q : SkQ} : Wp 168 23 ls st I J R S Q = Wp 168 2 ls st I J R S Q := o_goto rfl rfl k_W_lengthOf_23
theorem k_W_lengthOf_26 : decode (sk_by 168) 26 = .ok (.bipush 8, 2) := by decide +kernel
theorem x_W_lengthOf_26 {ls st : List Value} {I : MI} {J : MJ} {R : MR} {S : Sh} {Q : SkQ} : Wp 168 26 ls st I J R S Q = Wp 168 28 ls (.int 8 :: st) I J R S Q := o_bi (by decide) k_W_lengthOf_26
theorem k_W_lengthOf_28 : decode (sk_by 168) 28 = .ok (.ireturn, 1) := by decide +kernel
theorem x_W_lengthOf_28 {ls : List Value} {v : Int32} {I : MI} {J : MJ} {R : MR} {S : Sh} {Q : SkQ} : Wp 168 28 ls [.int v] I J R S Q = Q 0 (some (.int v)) I J R S := o_ireturn k_W_lengthOf_28 rfl
theorem k_W_letterFromEnd_0 : decode (sk_by 170) 0 = .ok (.lload_n 0, 1) := by decide +kernel
theorem x_W_letterFromEnd_0 {st : List Value} {l2 : Int32} {x : Int64} {I : MI} {J : MJ} {R : MR} {S : Sh} {Q : SkQ} : Wp 170 0 [.long x, nov, .int l2] st I J R S Q = Wp 170 1 [.long x, nov, .int l2] (.long x :: st) I J R S Q := o_lload_n rfl k_W_letterFromEnd_0
theorem k_W_letterFromEnd_1 : decode (sk_by 170) 1 = .ok (.iconst 5, 1) := by decide +kernel
theorem x_W_letterFromEnd_1 {ls st : List Value} {I : MI} {J : MJ} {R : MR} {S : Sh} {Q : SkQ} : Wp 170 1 ls st I J R S Q = Wp 170 2 ls (.int 5 :: st) I J R S Q := o_const (by decide) k_W_letterFromEnd_1
theorem k_W_letterFromEnd_2 : decode (sk_by 170) 2 = .ok (.iload_n 2, 1) := by decide +kernel
theorem x_W_letterFromEnd_2 {st : List Value} {l0 : Int64} {x : Int32} {I : MI} {J : MJ} {R : MR} {S : Sh} {Q : SkQ} : Wp 170 2 [.long l0, nov, .int x] st I J R S Q = Wp 170 3 [.long l0, nov, .int x] (.int x :: st) I J R S Q := o_iload_n rfl k_W_letterFromEnd_2
theorem k_W_letterFromEnd_3 : decode (sk_by 170) 3 = .ok (.imul, 1) := by decide +kernel
theorem x_W_letterFromEnd_3 {ls st : List Value} {x y : Int32} {I : MI} {J : MJ} {R : MR} {S : Sh} {Q : SkQ} : Wp 170 3 ls (.int y :: .int x :: st) I J R S Q = Wp 170 4 ls (.int (x * y) :: st) I J R S Q := o_imul k_W_letterFromEnd_3
theorem k_W_letterFromEnd_4 : decode (sk_by 170) 4 = .ok (.lshr, 1) := by decide +kernel
theorem x_W_letterFromEnd_4 {ls st : List Value} {x : Int64} {y : Int32} {I : MI} {J : MJ} {R : MR} {S : Sh} {Q : SkQ} : Wp 170 4 ls (.int y :: .long x :: st) I J R S Q = Wp 170 5 ls (.long (x >>> (y.toInt64 &&& 63)) :: st) I J R S Q := o_lshr k_W_letterFromEnd_4
theorem k_W_letterFromEnd_5 : decode (sk_by 170) 5 = .ok (.ldc2_w 15, 3) := by decide +kernel
theorem x_W_letterFromEnd_5 {ls st : List Value} {I : MI} {J : MJ} {R : MR} {S : Sh} {Q : SkQ} : Wp 170 5 ls st I J R S Q = Wp 170 8 ls (.long 31 :: st) I J R S Q := o_ldc2_w (show sk_lkK (sk_cl 170) 15 = some 31 by decide +kernel) k_W_letterFromEnd_5
theorem k_W_letterFromEnd_8 : decode (sk_by 170) 8 = .ok (.land, 1) := by decide +kernel
theorem x_W_letterFromEnd_8 {ls st : List Value} {x y : Int64} {I : MI} {J : MJ} {R : MR} {S : Sh} {Q : SkQ} : Wp 170 8 ls (.long y :: .long x :: st) I J R S Q = Wp 170 9 ls (.long (x &&& y) :: st) I J R S Q := o_land k_W_letterFromEnd_8
theorem k_W_letterFromEnd_9 : decode (sk_by 170) 9 = .ok (.l2i, 1) := by decide +kernel
theorem x_W_letterFromEnd_9 {ls st : List Value} {x : Int64} {I : MI} {J : MJ} {R : MR} {S : Sh} {Q : SkQ} : Wp 170 9 ls (.long x :: st) I J R S Q = Wp 170 10 ls (.int x.toInt32 :: st) I J R S Q := o_l2i k_W_letterFromEnd_9
theorem k_W_letterFromEnd_10 : decode (sk_by 170) 10 = .ok (.iconst 1, 1) := by decide +kernel
theorem x_W_letterFromEnd_10 {ls st : List Value} {I : MI} {J : MJ} {R : MR} {S : Sh} {Q : SkQ} : Wp 170 10 ls st I J R S Q = Wp 170 11 ls (.int 1 :: st) I J R S Q := o_const (by decide) k_W_letterFromEnd_10
theorem k_W_letterFromEnd_11 : decode (sk_by 170) 11 = .ok (.isub, 1) := by decide +kernel
theorem x_W_letterFromEnd_11 {ls st : List Value} {x y : Int32} {I : MI} {J : MJ} {R : MR} {S : Sh} {Q : SkQ} : Wp 170 11 ls (.int y :: .int x :: st) I J R S Q = Wp 170 12 ls (.int (x - y) :: st) I J R S Q := o_isub k_W_letterFromEnd_11
theorem k_W_letterFromEnd_12 : decode (sk_by 170) 12 = .ok (.ireturn, 1) := by decide +kernel
theorem x_W_letterFromEnd_12 {ls : List Value} {v : Int32} {I : MI} {J : MJ} {R : MR} {S : Sh} {Q : SkQ} : Wp 170 12 ls [.int v] I J R S Q = Q 0 (some (.int v)) I J R S := o_ireturn k_W_letterFromEnd_12 rfl
theorem k_W_aligned_0 : decode (sk_by 172) 0 = .ok (.lload_n 0, 1) := by decide +kernel
theorem x_W_aligned_0 {st : List Value} {x : Int64} {I : MI} {J : MJ} {R : MR} {S : Sh} {Q : SkQ} : Wp 172 0 [.long x, nov, nov, nov, nov] st I J R S Q = Wp 172 1 [.long x, nov, nov, nov, nov] (.long x :: st) I J R S Q := o_lload_n rfl k_W_aligned_0
theorem k_W_aligned_1 : decode (sk_by 172) 1 = .ok (.lstore_n 2, 1) := by decide +kernel
theorem x_W_aligned_1 {st : List Value} {l0 : Int64} {x : Int64} {I : MI} {J : MJ} {R : MR} {S : Sh} {Q : SkQ} : Wp 172 1 [.long l0, nov, nov, nov, nov] (.long x :: st) I J R S Q = Wp 172 2 [.long l0, nov, .long x, nov, nov] st I J R S Q := o_lstore_n (Nat.le_of_ble_eq_true rfl) rfl k_W_aligned_1
theorem k_W_aligned_2 : decode (sk_by 172) 2 = .ok (.iconst 1, 1) := by decide +kernel
theorem x_W_aligned_2 {ls st : List Value} {I : MI} {J : MJ} {R : MR} {S : Sh} {Q : SkQ} : Wp 172 2 ls st I J R S Q = Wp 172 3 ls (.int 1 :: st) I J R S Q := o_const (by decide) k_W_aligned_2
theorem k_W_aligned_3 : decode (sk_by 172) 3 = .ok (.istore 4, 2) := by decide +kernel
theorem x_W_aligned_3 {st : List Value} {l0 : Int64} {l2 : Int64} {x : Int32} {I : MI} {J : MJ} {R : MR} {S : Sh} {Q : SkQ} : Wp 172 3 [.long l0, nov, .long l2, nov, nov] (.int x :: st) I J R S Q = Wp 172 5 [.long l0, nov, .long l2, nov, .int x] st I J R S Q := o_istore (Nat.le_of_ble_eq_true rfl) rfl k_W_aligned_3
theorem k_W_aligned_5 : decode (sk_by 172) 5 = .ok (.iload 4, 2) := by decide +kernel
theorem x_W_aligned_5 {st : List Value} {l0 : Int64} {l2 : Int64} {x : Int32} {I : MI} {J : MJ} {R : MR} {S : Sh} {Q : SkQ} : Wp 172 5 [.long l0, nov, .long l2, nov, .int x] st I J R S Q = Wp 172 7 [.long l0, nov, .long l2, nov, .int x] (.int x :: st) I J R S Q := o_iload rfl k_W_aligned_5
theorem k_W_aligned_7 : decode (sk_by 172) 7 = .ok (.bipush 8, 2) := by decide +kernel
theorem x_W_aligned_7 {ls st : List Value} {I : MI} {J : MJ} {R : MR} {S : Sh} {Q : SkQ} : Wp 172 7 ls st I J R S Q = Wp 172 9 ls (.int 8 :: st) I J R S Q := o_bi (by decide) k_W_aligned_7
theorem k_W_aligned_9 : decode (sk_by 172) 9 = .ok (.if_icmp .ge 22, 3) := by decide +kernel
theorem x_W_aligned_9 {ls st : List Value} {x y : Int32} {I : MI} {J : MJ} {R : MR} {S : Sh} {Q : SkQ} : Wp 172 9 ls (.int y :: .int x :: st) I J R S Q = if x < y then Wp 172 12 ls st I J R S Q else Wp 172 31 ls st I J R S Q := o_ic_ge rfl rfl k_W_aligned_9
theorem k_W_aligned_12 : decode (sk_by 172) 12 = .ok (.lload_n 2, 1) := by decide +kernel
theorem x_W_aligned_12 {st : List Value} {l0 : Int64} {l4 : Int32} {x : Int64} {I : MI} {J : MJ} {R : MR} {S : Sh} {Q : SkQ} : Wp 172 12 [.long l0, nov, .long x, nov, .int l4] st I J R S Q = Wp 172 13 [.long l0, nov, .long x, nov, .int l4] (.long x :: st) I J R S Q := o_lload_n rfl k_W_aligned_12
theorem k_W_aligned_13 : decode (sk_by 172) 13 = .ok (.bipush 35, 2) := by decide +kernel
theorem x_W_aligned_13 {ls st : List Value} {I : MI} {J : MJ} {R : MR} {S : Sh} {Q : SkQ} : Wp 172 13 ls st I J R S Q = Wp 172 15 ls (.int 35 :: st) I J R S Q := o_bi (by decide) k_W_aligned_13
theorem k_W_aligned_15 : decode (sk_by 172) 15 = .ok (.lshr, 1) := by decide +kernel
theorem x_W_aligned_15 {ls st : List Value} {x : Int64} {y : Int32} {I : MI} {J : MJ} {R : MR} {S : Sh} {Q : SkQ} : Wp 172 15 ls (.int y :: .long x :: st) I J R S Q = Wp 172 16 ls (.long (x >>> (y.toInt64 &&& 63)) :: st) I J R S Q := o_lshr k_W_aligned_15
theorem k_W_aligned_16 : decode (sk_by 172) 16 = .ok (.lconst 0, 1) := by decide +kernel
theorem x_W_aligned_16 {ls st : List Value} {I : MI} {J : MJ} {R : MR} {S : Sh} {Q : SkQ} : Wp 172 16 ls st I J R S Q = Wp 172 17 ls (.long 0 :: st) I J R S Q := o_lc (by decide) k_W_aligned_16
theorem k_W_aligned_17 : decode (sk_by 172) 17 = .ok (.lcmp, 1) := by decide +kernel
theorem x_W_aligned_17 {ls st : List Value} {x y : Int64} {I : MI} {J : MJ} {R : MR} {S : Sh} {Q : SkQ} : Wp 172 17 ls (.long y :: .long x :: st) I J R S Q = Wp 172 18 ls (.int (lg_cmp x y) :: st) I J R S Q := o_lcmp k_W_aligned_17
theorem k_W_aligned_18 : decode (sk_by 172) 18 = .ok (.ifCond .ne 13, 3) := by decide +kernel
theorem x_W_aligned_18 {ls st : List Value} {x : Int32} {I : MI} {J : MJ} {R : MR} {S : Sh} {Q : SkQ} : Wp 172 18 ls (.int x :: st) I J R S Q = if x = 0 then Wp 172 21 ls st I J R S Q else Wp 172 31 ls st I J R S Q := o_if_ne rfl rfl k_W_aligned_18
theorem k_W_aligned_21 : decode (sk_by 172) 21 = .ok (.lload_n 2, 1) := by decide +kernel
theorem x_W_aligned_21 {st : List Value} {l0 : Int64} {l4 : Int32} {x : Int64} {I : MI} {J : MJ} {R : MR} {S : Sh} {Q : SkQ} : Wp 172 21 [.long l0, nov, .long x, nov, .int l4] st I J R S Q = Wp 172 22 [.long l0, nov, .long x, nov, .int l4] (.long x :: st) I J R S Q := o_lload_n rfl k_W_aligned_21
theorem k_W_aligned_22 : decode (sk_by 172) 22 = .ok (.iconst 5, 1) := by decide +kernel
theorem x_W_aligned_22 {ls st : List Value} {I : MI} {J : MJ} {R : MR} {S : Sh} {Q : SkQ} : Wp 172 22 ls st I J R S Q = Wp 172 23 ls (.int 5 :: st) I J R S Q := o_const (by decide) k_W_aligned_22
theorem k_W_aligned_23 : decode (sk_by 172) 23 = .ok (.lshl, 1) := by decide +kernel
theorem x_W_aligned_23 {ls st : List Value} {x : Int64} {y : Int32} {I : MI} {J : MJ} {R : MR} {S : Sh} {Q : SkQ} : Wp 172 23 ls (.int y :: .long x :: st) I J R S Q = Wp 172 24 ls (.long (x <<< (y.toInt64 &&& 63)) :: st) I J R S Q := o_lshl k_W_aligned_23
theorem k_W_aligned_24 : decode (sk_by 172) 24 = .ok (.lstore_n 2, 1) := by decide +kernel
theorem x_W_aligned_24 {st : List Value} {l0 : Int64} {l2 : Int64} {l4 : Int32} {x : Int64} {I : MI} {J : MJ} {R : MR} {S : Sh} {Q : SkQ} : Wp 172 24 [.long l0, nov, .long l2, nov, .int l4] (.long x :: st) I J R S Q = Wp 172 25 [.long l0, nov, .long x, nov, .int l4] st I J R S Q := o_lstore_n (Nat.le_of_ble_eq_true rfl) rfl k_W_aligned_24
theorem k_W_aligned_25 : decode (sk_by 172) 25 = .ok (.iinc 4 1, 3) := by decide +kernel
theorem x_W_aligned_25 {st : List Value} {l0 : Int64} {l2 : Int64} {x : Int32} {I : MI} {J : MJ} {R : MR} {S : Sh} {Q : SkQ} : Wp 172 25 [.long l0, nov, .long l2, nov, .int x] st I J R S Q = Wp 172 28 [.long l0, nov, .long l2, nov, .int (x + 1)] st I J R S Q := o_inc (by decide) rfl (Nat.le_of_ble_eq_true rfl) rfl k_W_aligned_25
theorem k_W_aligned_28 : decode (sk_by 172) 28 = .ok (.goto (-23), 3) := by decide +kernel
theorem x_W_aligned_28 {ls st : List Value} {I : MI} {J : MJ} {R : MR} {S : Sh} {Q : SkQ} : Wp 172 28 ls st I J R S Q = Wp 172 5 ls st I J R S Q := o_goto rfl rfl k_W_aligned_28
theorem k_W_aligned_31 : decode (sk_by 172) 31 = .ok (.lload_n 2, 1) := by decide +kernel
theorem x_W_aligned_31 {st : List Value} {l0 : Int64} {l4 : Int32} {x : Int64} {I : MI} {J : MJ} {R : MR} {S : Sh} {Q : SkQ} : Wp 172 31 [.long l0, nov, .long x, nov, .int l4] st I J R S Q = Wp 172 32 [.long l0, nov, .long x, nov, .int l4] (.long x :: st) I J R S Q := o_lload_n rfl k_W_aligned_31
theorem k_W_aligned_32 : decode (sk_by 172) 32 = .ok (.lreturn, 1) := by decide +kernel
theorem x_W_aligned_32 {ls : List Value} {v : Int64} {I : MI} {J : MJ} {R : MR} {S : Sh} {Q : SkQ} : Wp 172 32 ls [.long v] I J R S Q = Q 0 (some (.long v)) I J R S := o_lreturn (by (decide +kernel)) k_W_aligned_32
