theorem k_C_init_0 : decode (sk_by 148) 0 = .ok (.aload_n 0, 1) := by decide +kernel
theorem x_C_init_0 {st : List Value} {x : Nat} {I : MI} {J : MJ} {R : MR} {S : Sh} {Q : SkQ} : Wp 148 0 [.ref x] st I J R S Q = Wp 148 1 [.ref x] (.ref x :: st) I J R S Q := o_aload_n rfl k_C_init_0
theorem k_C_init_1 : decode (sk_by 148) 1 = .ok (.invokespecial 3, 3) := by decide +kernel
theorem x_C_init_1 {ls : List Value} {a : Nat} {I : MI} {J : MJ} {R : MR} {S : Sh} {Q : SkQ} : Wp 148 1 ls (.ref a :: []) I J R S Q = Wp 148 4 ls [] I J R S Q := o_objInit (show sk_lkM (sk_cl 148) 3 = some 999 by decide +kernel) (by (decide +kernel)) k_C_init_1
theorem k_C_init_4 : decode (sk_by 148) 4 = .ok (.aload_n 0, 1) := by decide +kernel
theorem x_C_init_4 {st : List Value} {x : Nat} {I : MI} {J : MJ} {R : MR} {S : Sh} {Q : SkQ} : Wp 148 4 [.ref x] st I J R S Q = Wp 148 5 [.ref x] (.ref x :: st) I J R S Q := o_aload_n rfl k_C_init_4
theorem k_C_init_5 : decode (sk_by 148) 5 = .ok (.sipush 150, 3) := by decide +kernel
theorem x_C_init_5 {ls st : List Value} {I : MI} {J : MJ} {R : MR} {S : Sh} {Q : SkQ} : Wp 148 5 ls st I J R S Q = Wp 148 8 ls (.int 150 :: st) I J R S Q := o_si (by decide) k_C_init_5
theorem k_C_init_8 : decode (sk_by 148) 8 = .ok (.newarray .int, 2) := by decide +kernel
theorem x_C_init_8 {ls st : List Value} {n : Int32} {I : MI} {J : MJ} {R : MR} {S : Sh} {Q : SkQ} (h0 : S.2.2.2.1 = 0) (hn : 0 ≤ n.toInt ∧ n.toInt ≤ 100000) : Wp 148 8 ls (.int n :: st) I J R S Q = Wp 148 10 ls (.ref S.2.2.1 :: st) (u1 I S.2.2.1 0) J R (sh_new S 30 (ix n) (ix n)) Q := o_newI k_C_init_8 h0 hn
theorem k_C_init_10 : decode (sk_by 148) 10 = .ok (.putfield 11, 3) := by decide +kernel
theorem x_C_init_10 {ls st : List Value} {a : Nat} {x : Nat} {I : MI} {J : MJ} {R : MR} {S : Sh} {Q : SkQ} (ha : S.1 a = 5) : Wp 148 10 ls (.ref x :: .ref a :: st) I J R S Q = Wp 148 13 ls st I J (u2 R a 0 (.ref x)) S Q := o_putfieldR (show sk_lkF (sk_cl 148) 11 = some (5, 0, 2, 1, 0) by decide +kernel) (by decide) (by (decide +kernel)) k_C_init_10 ha
theorem k_C_init_13 : decode (sk_by 148) 13 = .ok (.aload_n 0, 1) := by decide +kernel
theorem x_C_init_13 {st : List Value} {x : Nat} {I : MI} {J : MJ} {R : MR} {S : Sh} {Q : SkQ} : Wp 148 13 [.ref x] st I J R S Q = Wp 148 14 [.ref x] (.ref x :: st) I J R S Q := o_aload_n rfl k_C_init_13
theorem k_C_init_14 : decode (sk_by 148) 14 = .ok (.iconst (-1), 1) := by decide +kernel
theorem x_C_init_14 {ls st : List Value} {I : MI} {J : MJ} {R : MR} {S : Sh} {Q : SkQ} : Wp 148 14 ls st I J R S Q = Wp 148 15 ls (.int (-1) :: st) I J R S Q := o_const (by decide) k_C_init_14
theorem k_C_init_15 : decode (sk_by 148) 15 = .ok (.putfield 15, 3) := by decide +kernel
theorem x_C_init_15 {ls st : List Value} {a : Nat} {x : Int32} {I : MI} {J : MJ} {R : MR} {S : Sh} {Q : SkQ} (ha : S.1 a = 5) : Wp 148 15 ls (.int x :: .ref a :: st) I J R S Q = Wp 148 18 ls st (u2 I a 3 x) J R S Q := o_putfieldI (show sk_lkF (sk_cl 148) 15 = some (5, 3, 0, 0, 0) by decide +kernel) (by decide) (by (decide +kernel)) k_C_init_15 ha
theorem k_C_init_18 : decode (sk_by 148) 18 = .ok (.return_, 1) := by decide +kernel
theorem x_C_init_18 {ls : List Value} {I : MI} {J : MJ} {R : MR} {S : Sh} {Q : SkQ} : Wp 148 18 ls [] I J R S Q = Q 0 none I J R S := o_return (by (decide +kernel)) k_C_init_18
theorem k_C_length_0 : decode (sk_by 149) 0 = .ok (.aload_n 0, 1) := by decide +kernel
theorem x_C_length_0 {st : List Value} {x : Nat} {I : MI} {J : MJ} {R : MR} {S : Sh} {Q : SkQ} : Wp 149 0 [.ref x] st I J R S Q = Wp 149 1 [.ref x] (.ref x :: st) I J R S Q := o_aload_n rfl k_C_length_0
theorem k_C_length_1 : decode (sk_by 149) 1 = .ok (.getfield 19, 3) := by decide +kernel
theorem x_C_length_1 {ls st : List Value} {a : Nat} {I : MI} {J : MJ} {R : MR} {S : Sh} {Q : SkQ} (ha : S.1 a = 5) : Wp 149 1 ls (.ref a :: st) I J R S Q = Wp 149 4 ls (.int (I a 1) :: st) I J R S Q := o_getfieldI (show sk_lkF (sk_cl 149) 19 = some (5, 1, 0, 0, 0) by decide +kernel) k_C_length_1 ha
theorem k_C_length_4 : decode (sk_by 149) 4 = .ok (.ireturn, 1) := by decide +kernel
theorem x_C_length_4 {ls : List Value} {v : Int32} {I : MI} {J : MJ} {R : MR} {S : Sh} {Q : SkQ} : Wp 149 4 ls [.int v] I J R S Q = Q 0 (some (.int v)) I J R S := o_ireturn k_C_length_4 rfl
theorem k_C_isFull_0 : decode (sk_by 150) 0 = .ok (.aload_n 0, 1) := by decide +kernel
theorem x_C_isFull_0 {st : List Value} {x : Nat} {I : MI} {J : MJ} {R : MR} {S : Sh} {Q : SkQ} : Wp 150 0 [.ref x] st I J R S Q = Wp 150 1 [.ref x] (.ref x :: st) I J R S Q := o_aload_n rfl k_C_isFull_0
theorem k_C_isFull_1 : decode (sk_by 150) 1 = .ok (.getfield 19, 3) := by decide +kernel
theorem x_C_isFull_1 {ls st : List Value} {a : Nat} {I : MI} {J : MJ} {R : MR} {S : Sh} {Q : SkQ} (ha : S.1 a = 5) : Wp 150 1 ls (.ref a :: st) I J R S Q = Wp 150 4 ls (.int (I a 1) :: st) I J R S Q := o_getfieldI (show sk_lkF (sk_cl 150) 19 = some (5, 1, 0, 0, 0) by decide +kernel) k_C_isFull_1 ha
theorem k_C_isFull_4 : decode (sk_by 150) 4 = .ok (.sipush 150, 3) := by decide +kernel
theorem x_C_isFull_4 {ls st : List Value} {I : MI} {J : MJ} {R : MR} {S : Sh} {Q : SkQ} : Wp 150 4 ls st I J R S Q = Wp 150 7 ls (.int 150 :: st) I J R S Q := o_si (by decide) k_C_isFull_4
theorem k_C_isFull_7 : decode (sk_by 150) 7 = .ok (.if_icmp .lt 7, 3) := by decide +kernel
theorem x_C_isFull_7 {ls st : List Value} {x y : Int32} {I : MI} {J : MJ} {R : MR} {S : Sh} {Q : SkQ} : Wp 150 7 ls (.int y :: .int x :: st) I J R S Q = if x < y then Wp 150 14 ls st I J R S Q else Wp 150 10 ls st I J R S Q := o_ic_lt rfl rfl k_C_isFull_7
theorem k_C_isFull_10 : decode (sk_by 150) 10 = .ok (.iconst 1, 1) := by decide +kernel
theorem x_C_isFull_10 {ls st : List Value} {I : MI} {J : MJ} {R : MR} {S : Sh} {Q : SkQ} : Wp 150 10 ls st I J R S Q = Wp 150 11 ls (.int 1 :: st) I J R S Q := o_const (by decide) k_C_isFull_10
theorem k_C_isFull_11 : decode (sk_by 150) 11 = .ok (.goto 4, 3) := by decide +kernel
theorem x_C_isFull_11 {ls st : List Value} {I : MI} {J : MJ} {R : MR} {S : Sh} {Q : SkQ} : Wp 150 11 ls st I J R S Q = Wp 150 15 ls st I J R S Q := o_goto rfl rfl k_C_isFull_11
theorem k_C_isFull_14 : decode (sk_by 150) 14 = .ok (.iconst 0, 1) := by decide +kernel
theorem x_C_isFull_14 {ls st : List Value} {I : MI} {J : MJ} {R : MR} {S : Sh} {Q : SkQ} : Wp 150 14 ls st I J R S Q = Wp 150 15 ls (.int 0 :: st) I J R S Q := o_const (by decide) k_C_isFull_14
theorem k_C_isFull_15 : decode (sk_by 150) 15 = .ok (.ireturn, 1) := by decide +kernel
theorem x_C_isFull_15 {ls : List Value} {v : Int32} {I : MI} {J : MJ} {R : MR} {S : Sh} {Q : SkQ} (h : rOk (some .boolean) v = true) : Wp 150 15 ls [.int v] I J R S Q = Q 0 (some (.int v)) I J R S := o_ireturn k_C_isFull_15 (by rw [show sk_rt 150 = some .boolean from rfl]; exact h)
theorem k_C_append_0 : decode (sk_by 151) 0 = .ok (.aload_n 0, 1) := by decide +kernel
theorem x_C_append_0 {st : List Value} {l1 : Int32} {x : Nat} {I : MI} {J : MJ} {R : MR} {S : Sh} {Q : SkQ} : Wp 151 0 [.ref x, .int l1] st I J R S Q = Wp 151 1 [.ref x, .int l1] (.ref x :: st) I J R S Q := o_aload_n rfl k_C_append_0
theorem k_C_append_1 : decode (sk_by 151) 1 = .ok (.getfield 19, 3) := by decide +kernel
theorem x_C_append_1 {ls st : List Value} {a : Nat} {I : MI} {J : MJ} {R : MR} {S : Sh} {Q : SkQ} (ha : S.1 a = 5) : Wp 151 1 ls (.ref a :: st) I J R S Q = Wp 151 4 ls (.int (I a 1) :: st) I J R S Q := o_getfieldI (show sk_lkF (sk_cl 151) 19 = some (5, 1, 0, 0, 0) by decide +kernel) k_C_append_1 ha
theorem k_C_append_4 : decode (sk_by 151) 4 = .ok (.ifCond .lt 33, 3) := by decide +kernel
theorem x_C_append_4 {ls st : List Value} {x : Int32} {I : MI} {J : MJ} {R : MR} {S : Sh} {Q : SkQ} : Wp 151 4 ls (.int x :: st) I J R S Q = if x < 0 then Wp 151 37 ls st I J R S Q else Wp 151 7 ls st I J R S Q := o_if_lt rfl rfl k_C_append_4
theorem k_C_append_7 : decode (sk_by 151) 7 = .ok (.aload_n 0, 1) := by decide +kernel
theorem x_C_append_7 {st : List Value} {l1 : Int32} {x : Nat} {I : MI} {J : MJ} {R : MR} {S : Sh} {Q : SkQ} : Wp 151 7 [.ref x, .int l1] st I J R S Q = Wp 151 8 [.ref x, .int l1] (.ref x :: st) I J R S Q := o_aload_n rfl k_C_append_7
theorem k_C_append_8 : decode (sk_by 151) 8 = .ok (.getfield 19, 3) := by decide +kernel
theorem x_C_append_8 {ls st : List Value} {a : Nat} {I : MI} {J : MJ} {R : MR} {S : Sh} {Q : SkQ} (ha : S.1 a = 5) : Wp 151 8 ls (.ref a :: st) I J R S Q = Wp 151 11 ls (.int (I a 1) :: st) I J R S Q := o_getfieldI (show sk_lkF (sk_cl 151) 19 = some (5, 1, 0, 0, 0) by decide +kernel) k_C_append_8 ha
theorem k_C_append_11 : decode (sk_by 151) 11 = .ok (.sipush 150, 3) := by decide +kernel
theorem x_C_append_11 {ls st : List Value} {I : MI} {J : MJ} {R : MR} {S : Sh} {Q : SkQ} : Wp 151 11 ls st I J R S Q = Wp 151 14 ls (.int 150 :: st) I J R S Q := o_si (by decide) k_C_append_11
theorem k_C_append_14 : decode (sk_by 151) 14 = .ok (.if_icmp .ge 23, 3) := by decide +kernel
theorem x_C_append_14 {ls st : List Value} {x y : Int32} {I : MI} {J : MJ} {R : MR} {S : Sh} {Q : SkQ} : Wp 151 14 ls (.int y :: .int x :: st) I J R S Q = if x < y then Wp 151 17 ls st I J R S Q else Wp 151 37 ls st I J R S Q := o_ic_ge rfl rfl k_C_append_14
theorem k_C_append_17 : decode (sk_by 151) 17 = .ok (.aload_n 0, 1) := by decide +kernel
theorem x_C_append_17 {st : List Value} {l1 : Int32} {x : Nat} {I : MI} {J : MJ} {R : MR} {S : Sh} {Q : SkQ} : Wp 151 17 [.ref x, .int l1] st I J R S Q = Wp 151 18 [.ref x, .int l1] (.ref x :: st) I J R S Q := o_aload_n rfl k_C_append_17
theorem k_C_append_18 : decode (sk_by 151) 18 = .ok (.getfield 11, 3) := by decide +kernel
theorem x_C_append_18 {ls st : List Value} {a : Nat} {I : MI} {J : MJ} {R : MR} {S : Sh} {Q : SkQ} (ha : S.1 a = 5) : Wp 151 18 ls (.ref a :: st) I J R S Q = Wp 151 21 ls (R a 0 :: st) I J R S Q := o_getfieldR (show sk_lkF (sk_cl 151) 11 = some (5, 0, 2, 1, 0) by decide +kernel) k_C_append_18 ha
theorem k_C_append_21 : decode (sk_by 151) 21 = .ok (.aload_n 0, 1) := by decide +kernel
theorem x_C_append_21 {st : List Value} {l1 : Int32} {x : Nat} {I : MI} {J : MJ} {R : MR} {S : Sh} {Q : SkQ} : Wp 151 21 [.ref x, .int l1] st I J R S Q = Wp 151 22 [.ref x, .int l1] (.ref x :: st) I J R S Q := o_aload_n rfl k_C_append_21
theorem k_C_append_22 : decode (sk_by 151) 22 = .ok (.getfield 19, 3) := by decide +kernel
theorem x_C_append_22 {ls st : List Value} {a : Nat} {I : MI} {J : MJ} {R : MR} {S : Sh} {Q : SkQ} (ha : S.1 a = 5) : Wp 151 22 ls (.ref a :: st) I J R S Q = Wp 151 25 ls (.int (I a 1) :: st) I J R S Q := o_getfieldI (show sk_lkF (sk_cl 151) 19 = some (5, 1, 0, 0, 0) by decide +kernel) k_C_append_22 ha
theorem k_C_append_25 : decode (sk_by 151) 25 = .ok (.iload_n 1, 1) := by decide +kernel
theorem x_C_append_25 {st : List Value} {l0 : Nat} {x : Int32} {I : MI} {J : MJ} {R : MR} {S : Sh} {Q : SkQ} : Wp 151 25 [.ref l0, .int x] st I J R S Q = Wp 151 26 [.ref l0, .int x] (.int x :: st) I J R S Q := o_iload_n rfl k_C_append_25
theorem k_C_append_26 : decode (sk_by 151) 26 = .ok (.iastore, 1) := by decide +kernel
theorem x_C_append_26 {ls st : List Value} {a : Nat} {i x : Int32} {I : MI} {J : MJ} {R : MR} {S : Sh} {Q : SkQ} (ha : S.1 a = 30) (hi : inb i (S.2.1 a) = true) : Wp 151 26 ls (.int x :: .int i :: .ref a :: st) I J R S Q = Wp 151 27 ls st (u2 I a (ix i) x) J R S Q := o_iastore k_C_append_26 ha hi
theorem k_C_append_27 : decode (sk_by 151) 27 = .ok (.aload_n 0, 1) := by decide +kernel
theorem x_C_append_27 {st : List Value} {l1 : Int32} {x : Nat} {I : MI} {J : MJ} {R : MR} {S : Sh} {Q : SkQ} : Wp 151 27 [.ref x, .int l1] st I J R S Q = Wp 151 28 [.ref x, .int l1] (.ref x :: st) I J R S Q := o_aload_n rfl k_C_append_27
theorem k_C_append_28 : decode (sk_by 151) 28 = .ok (.dup, 1) := by decide +kernel
theorem x_C_append_28 {ls st : List Value} {x : Nat} {I : MI} {J : MJ} {R : MR} {S : Sh} {Q : SkQ} : Wp 151 28 ls (.ref x :: st) I J R S Q = Wp 151 29 ls (.ref x :: .ref x :: st) I J R S Q := o_dupR k_C_append_28
theorem k_C_append_29 : decode (sk_by 151) 29 = .ok (.getfield 19, 3) := by decide +kernel
theorem x_C_append_29 {ls st : List Value} {a : Nat} {I : MI} {J : MJ} {R : MR} {S : Sh} {Q : SkQ} (ha : S.1 a = 5) : Wp 151 29 ls (.ref a :: st) I J R S Q = Wp 151 32 ls (.int (I a 1) :: st) I J R S Q := o_getfieldI (show sk_lkF (sk_cl 151) 19 = some (5, 1, 0, 0, 0) by decide +kernel) k_C_append_29 ha
theorem k_C_append_32 : decode (sk_by 151) 32 = .ok (.iconst 1, 1) := by decide +kernel
theorem x_C_append_32 {ls st : List Value} {I : MI} {J : MJ} {R : MR} {S : Sh} {Q : SkQ} : Wp 151 32 ls st I J R S Q = Wp 151 33 ls (.int 1 :: st) I J R S Q := o_const (by decide) k_C_append_32
theorem k_C_append_33 : decode (sk_by 151) 33 = .ok (.iadd, 1) := by decide +kernel
theorem x_C_append_33 {ls st : List Value} {x y : Int32} {I : MI} {J : MJ} {R : MR} {S : Sh} {Q : SkQ} : Wp 151 33 ls (.int y :: .int x :: st) I J R S Q = Wp 151 34 ls (.int (x + y) :: st) I J R S Q := o_iadd k_C_append_33
theorem k_C_append_34 : decode (sk_by 151) 34 = .ok (.putfield 19, 3) := by decide +kernel
theorem x_C_append_34 {ls st : List Value} {a : Nat} {x : Int32} {I : MI} {J : MJ} {R : MR} {S : Sh} {Q : SkQ} (ha : S.1 a = 5) : Wp 151 34 ls (.int x :: .ref a :: st) I J R S Q = Wp 151 37 ls st (u2 I a 1 x) J R S Q := o_putfieldI (show sk_lkF (sk_cl 151) 19 = some (5, 1, 0, 0, 0) by decide +kernel) (by decide) (by (decide +kernel)) k_C_append_34 ha
theorem k_C_append_37 : decode (sk_by 151) 37 = .ok (.aload_n 0, 1) := by decide +kernel
theorem x_C_append_37 {st : List Value} {l1 : Int32} {x : Nat} {I : MI} {J : MJ} {R : MR} {S : Sh} {Q : SkQ} : Wp 151 37 [.ref x, .int l1] st I J R S Q = Wp 151 38 [.ref x, .int l1] (.ref x :: st) I J R S Q := o_aload_n rfl k_C_append_37
theorem k_C_append_38 : decode (sk_by 151) 38 = .ok (.getfield 19, 3) := by decide +kernel
theorem x_C_append_38 {ls st : List Value} {a : Nat} {I : MI} {J : MJ} {R : MR} {S : Sh} {Q : SkQ} (ha : S.1 a = 5) : Wp 151 38 ls (.ref a :: st) I J R S Q = Wp 151 41 ls (.int (I a 1) :: st) I J R S Q := o_getfieldI (show sk_lkF (sk_cl 151) 19 = some (5, 1, 0, 0, 0) by decide +kernel) k_C_append_38 ha
theorem k_C_append_41 : decode (sk_by 151) 41 = .ok (.ireturn, 1) := by decide +kernel
theorem x_C_append_41 {ls : List Value} {v : Int32} {I : MI} {J : MJ} {R : MR} {S : Sh} {Q : SkQ} : Wp 151 41 ls [.int v] I J R S Q = Q 0 (some (.int v)) I J R S := o_ireturn k_C_append_41 rfl
theorem k_C_makeEmpty_0 : decode (sk_by 152) 0 = .ok (.aload_n 0, 1) := by decide +kernel
theorem x_C_makeEmpty_0 {st : List Value} {x : Nat} {I : MI} {J : MJ} {R : MR} {S : Sh} {Q : SkQ} : Wp 152 0 [.ref x, nov] st I J R S Q = Wp 152 1 [.ref x, nov] (.ref x :: st) I J R S Q := o_aload_n rfl k_C_makeEmpty_0
theorem k_C_makeEmpty_1 : decode (sk_by 152) 1 = .ok (.getfield 19, 3) := by decide +kernel
theorem x_C_makeEmpty_1 {ls st : List Value} {a : Nat} {I : MI} {J : MJ} {R : MR} {S : Sh} {Q : SkQ} (ha : S.1 a = 5) : Wp 152 1 ls (.ref a :: st) I J R S Q = Wp 152 4 ls (.int (I a 1) :: st) I J R S Q := o_getfieldI (show sk_lkF (sk_cl 152) 19 = some (5, 1, 0, 0, 0) by decide +kernel) k_C_makeEmpty_1 ha
theorem k_C_makeEmpty_4 : decode (sk_by 152) 4 = .ok (.istore_n 1, 1) := by decide +kernel
theorem x_C_makeEmpty_4 {st : List Value} {l0 : Nat} {x : Int32} {I : MI} {J : MJ} {R : MR} {S : Sh} {Q : SkQ} : Wp 152 4 [.ref l0, nov] (.int x :: st) I J R S Q = Wp 152 5 [.ref l0, .int x] st I J R S Q := o_istore_n (Nat.le_of_ble_eq_true rfl) rfl k_C_makeEmpty_4
theorem k_C_makeEmpty_5 : decode (sk_by 152) 5 = .ok (.aload_n 0, 1) := by decide +kernel
theorem x_C_makeEmpty_5 {st : List Value} {l1 : Int32} {x : Nat} {I : MI} {J : MJ} {R : MR} {S : Sh} {Q : SkQ} : Wp 152 5 [.ref x, .int l1] st I J R S Q = Wp 152 6 [.ref x, .int l1] (.ref x :: st) I J R S Q := o_aload_n rfl k_C_makeEmpty_5
theorem k_C_makeEmpty_6 : decode (sk_by 152) 6 = .ok (.iconst 0, 1) := by decide +kernel
theorem x_C_makeEmpty_6 {ls st : List Value} {I : MI} {J : MJ} {R : MR} {S : Sh} {Q : SkQ} : Wp 152 6 ls st I J R S Q = Wp 152 7 ls (.int 0 :: st) I J R S Q := o_const (by decide) k_C_makeEmpty_6
theorem k_C_makeEmpty_7 : decode (sk_by 152) 7 = .ok (.putfield 19, 3) := by decide +kernel
theorem x_C_makeEmpty_7 {ls st : List Value} {a : Nat} {x : Int32} {I : MI} {J : MJ} {R : MR} {S : Sh} {Q : SkQ} (ha : S.1 a = 5) : Wp 152 7 ls (.int x :: .ref a :: st) I J R S Q = Wp 152 10 ls st (u2 I a 1 x) J R S Q := o_putfieldI (show sk_lkF (sk_cl 152) 19 = some (5, 1, 0, 0, 0) by decide +kernel) (by decide) (by (decide +kernel)) k_C_makeEmpty_7 ha
theorem k_C_makeEmpty_10 : decode (sk_by 152) 10 = .ok (.iload_n 1, 1) := by decide +kernel
theorem x_C_makeEmpty_10 {st : List Value} {l0 : Nat} {x : Int32} {I : MI} {J : MJ} {R : MR} {S : Sh} {Q : SkQ} : Wp 152 10 [.ref l0, .int x] st I J R S Q = Wp 152 11 [.ref l0, .int x] (.int x :: st) I J R S Q := o_iload_n rfl k_C_makeEmpty_10
theorem k_C_makeEmpty_11 : decode (sk_by 152) 11 = .ok (.ireturn, 1) := by decide +kernel
theorem x_C_makeEmpty_11 {ls : List Value} {v : Int32} {I : MI} {J : MJ} {R : MR} {S : Sh} {Q : SkQ} : Wp 152 11 ls [.int v] I J R S Q = Q 0 (some (.int v)) I J R S := o_ireturn k_C_makeEmpty_11 rfl
theorem k_C_rewind_0 : decode (sk_by 153) 0 = .ok (.aload_n 0, 1) := by decide +kernel
theorem x_C_rewind_0 {st : List Value} {x : Nat} {I : MI} {J : MJ} {R : MR} {S : Sh} {Q : SkQ} : Wp 153 0 [.ref x] st I J R S Q = Wp 153 1 [.ref x] (.ref x :: st) I J R S Q := o_aload_n rfl k_C_rewind_0
theorem k_C_rewind_1 : decode (sk_by 153) 1 = .ok (.iconst 0, 1) := by decide +kernel
theorem x_C_rewind_1 {ls st : List Value} {I : MI} {J : MJ} {R : MR} {S : Sh} {Q : SkQ} : Wp 153 1 ls st I J R S Q = Wp 153 2 ls (.int 0 :: st) I J R S Q := o_const (by decide) k_C_rewind_1
theorem k_C_rewind_2 : decode (sk_by 153) 2 = .ok (.putfield 22, 3) := by decide +kernel
theorem x_C_rewind_2 {ls st : List Value} {a : Nat} {x : Int32} {I : MI} {J : MJ} {R : MR} {S : Sh} {Q : SkQ} (ha : S.1 a = 5) : Wp 153 2 ls (.int x :: .ref a :: st) I J R S Q = Wp 153 5 ls st (u2 I a 2 x) J R S Q := o_putfieldI (show sk_lkF (sk_cl 153) 22 = some (5, 2, 0, 0, 0) by decide +kernel) (by decide) (by (decide +kernel)) k_C_rewind_2 ha
theorem k_C_rewind_5 : decode (sk_by 153) 5 = .ok (.aload_n 0, 1) := by decide +kernel
theorem x_C_rewind_5 {st : List Value} {x : Nat} {I : MI} {J : MJ} {R : MR} {S : Sh} {Q : SkQ} : Wp 153 5 [.ref x] st I J R S Q = Wp 153 6 [.ref x] (.ref x :: st) I J R S Q := o_aload_n rfl k_C_rewind_5
theorem k_C_rewind_6 : decode (sk_by 153) 6 = .ok (.iconst (-1), 1) := by decide +kernel
theorem x_C_rewind_6 {ls st : List Value} {I : MI} {J : MJ} {R : MR} {S : Sh} {Q : SkQ} : Wp 153 6 ls st I J R S Q = Wp 153 7 ls (.int (-1) :: st) I J R S Q := o_const (by decide) k_C_rewind_6
theorem k_C_rewind_7 : decode (sk_by 153) 7 = .ok (.putfield 15, 3) := by decide +kernel
theorem x_C_rewind_7 {ls st : List Value} {a : Nat} {x : Int32} {I : MI} {J : MJ} {R : MR} {S : Sh} {Q : SkQ} (ha : S.1 a = 5) : Wp 153 7 ls (.int x :: .ref a :: st) I J R S Q = Wp 153 10 ls st (u2 I a 3 x) J R S Q := o_putfieldI (show sk_lkF (sk_cl 153) 15 = some (5, 3, 0, 0, 0) by decide +kernel) (by decide) (by (decide +kernel)) k_C_rewind_7 ha
theorem k_C_rewind_10 : decode (sk_by 153) 10 = .ok (.return_, 1) := by decide +kernel
theorem x_C_rewind_10 {ls : List Value} {I : MI} {J : MJ} {R : MR} {S : Sh} {Q : SkQ} : Wp 153 10 ls [] I J R S Q = Q 0 none I J R S := o_return (by (decide +kernel)) k_C_rewind_10
theorem k_C_faultOfText_0 : decode (sk_by 154) 0 = .ok (.aload_n 0, 1) := by decide +kernel
theorem x_C_faultOfText_0 {st : List Value} {x : Nat} {I : MI} {J : MJ} {R : MR} {S : Sh} {Q : SkQ} : Wp 154 0 [.ref x, nov] st I J R S Q = Wp 154 1 [.ref x, nov] (.ref x :: st) I J R S Q := o_aload_n rfl k_C_faultOfText_0
theorem k_C_faultOfText_1 : decode (sk_by 154) 1 = .ok (.invokevirtual 25, 3) := by decide +kernel
theorem x_C_faultOfText_1 {ls : List Value} {a0 : Nat} {I : MI} {J : MJ} {R : MR} {S : Sh} {Q : SkQ} (ha : S.1 a0 = 5) : Wp 154 1 ls (.ref a0 :: []) I J R S Q = Wp 153 0 [.ref a0] [] I J R S (Ret 154 1 4 153 ls [] Q) := o_call (as := [.ref a0]) (rest := []) (show sk_lkM (sk_cl 154) 25 = some 153 by decide +kernel) (by decide) (by decide) (by (decide +kernel)) (ins := .invokevirtual 25) (by (decide +kernel)) k_C_faultOfText_1 rfl (show 1 = sk_na 153 by (decide +kernel)) (Nat.le_of_ble_eq_true rfl) (Nat.le_trans (show (argL [.ref a0]).length ≤ 1 from Nat.le_of_ble_eq_true rfl) (by (decide +kernel))) (rcv_of (by (decide +kernel)) (by decide) ha)
theorem k_C_faultOfText_4 : decode (sk_by 154) 4 = .ok (.iconst 0, 1) := by decide +kernel
theorem x_C_faultOfText_4 {ls st : List Value} {I : MI} {J : MJ} {R : MR} {S : Sh} {Q : SkQ} : Wp 154 4 ls st I J R S Q = Wp 154 5 ls (.int 0 :: st) I J R S Q := o_const (by decide) k_C_faultOfText_4
theorem k_C_faultOfText_5 : decode (sk_by 154) 5 = .ok (.istore_n 1, 1) := by decide +kernel
theorem x_C_faultOfText_5 {st : List Value} {l0 : Nat} {x : Int32} {I : MI} {J : MJ} {R : MR} {S : Sh} {Q : SkQ} : Wp 154 5 [.ref l0, nov] (.int x :: st) I J R S Q = Wp 154 6 [.ref l0, .int x] st I J R S Q := o_istore_n (Nat.le_of_ble_eq_true rfl) rfl k_C_faultOfText_5
theorem k_C_faultOfText_6 : decode (sk_by 154) 6 = .ok (.iload_n 1, 1) := by decide +kernel
theorem x_C_faultOfText_6 {st : List Value} {l0 : Nat} {x : Int32} {I : MI} {J : MJ} {R : MR} {S : Sh} {Q : SkQ} : Wp 154 6 [.ref l0, .int x] st I J R S Q = Wp 154 7 [.ref l0, .int x] (.int x :: st) I J R S Q := o_iload_n rfl k_C_faultOfText_6
theorem k_C_faultOfText_7 : decode (sk_by 154) 7 = .ok (.sipush 150, 3) := by decide +kernel
theorem x_C_faultOfText_7 {ls st : List Value} {I : MI} {J : MJ} {R : MR} {S : Sh} {Q : SkQ} : Wp 154 7 ls st I J R S Q = Wp 154 10 ls (.int 150 :: st) I J R S Q := o_si (by decide) k_C_faultOfText_7
theorem k_C_faultOfText_10 : decode (sk_by 154) 10 = .ok (.if_icmp .ge 19, 3) := by decide +kernel
theorem x_C_faultOfText_10 {ls st : List Value} {x y : Int32} {I : MI} {J : MJ} {R : MR} {S : Sh} {Q : SkQ} : Wp 154 10 ls (.int y :: .int x :: st) I J R S Q = if x < y then Wp 154 13 ls st I J R S Q else Wp 154 29 ls st I J R S Q := o_ic_ge rfl rfl k_C_faultOfText_10
theorem k_C_faultOfText_13 : decode (sk_by 154) 13 = .ok (.aload_n 0, 1) := by decide +kernel
theorem x_C_faultOfText_13 {st : List Value} {l1 : Int32} {x : Nat} {I : MI} {J : MJ} {R : MR} {S : Sh} {Q : SkQ} : Wp 154 13 [.ref x, .int l1] st I J R S Q = Wp 154 14 [.ref x, .int l1] (.ref x :: st) I J R S Q := o_aload_n rfl k_C_faultOfText_13
theorem k_C_faultOfText_14 : decode (sk_by 154) 14 = .ok (.invokevirtual 28, 3) := by decide +kernel
theorem x_C_faultOfText_14 {ls : List Value} {a0 : Nat} {I : MI} {J : MJ} {R : MR} {S : Sh} {Q : SkQ} (ha : S.1 a0 = 5) : Wp 154 14 ls (.ref a0 :: []) I J R S Q = Wp 155 0 [.ref a0] [] I J R S (Ret 154 14 17 155 ls [] Q) := o_call (as := [.ref a0]) (rest := []) (show sk_lkM (sk_cl 154) 28 = some 155 by decide +kernel) (by decide) (by decide) (by (decide +kernel)) (ins := .invokevirtual 28) (by (decide +kernel)) k_C_faultOfText_14 rfl (show 1 = sk_na 155 by (decide +kernel)) (Nat.le_of_ble_eq_true rfl) (Nat.le_trans (show (argL [.ref a0]).length ≤ 1 from Nat.le_of_ble_eq_true rfl) (by (decide +kernel))) (rcv_of (by (decide +kernel)) (by decide) ha)
theorem k_C_faultOfText_17 : decode (sk_by 154) 17 = .ok (.ifCond .ne 6, 3) := by decide +kernel
theorem x_C_faultOfText_17 {ls st : List Value} {x : Int32} {I : MI} {J : MJ} {R : MR} {S : Sh} {Q : SkQ} : Wp 154 17 ls (.int x :: st) I J R S Q = if x = 0 then Wp 154 20 ls st I J R S Q else Wp 154 23 ls st I J R S Q := o_if_ne rfl rfl k_C_faultOfText_17
theorem k_C_faultOfText_20 : decode (sk_by 154) 20 = .ok (.goto 9, 3) := by decide +kernel
theorem x_C_faultOfText_20 {ls st : List Value} {I : MI} {J : MJ} {R : MR} {S : Sh} {Q : SkQ} : Wp 154 20 ls st I J R S Q = Wp 154 29 ls st I J R S Q := o_goto rfl rfl k_C_faultOfText_20
theorem k_C_faultOfText_23 : decode (sk_by 154) 23 = .ok (.iinc 1 1, 3) := by decide +kernel
theorem x_C_faultOfText_23 {st : List Value} {l0 : Nat} {x : Int32} {I : MI} {J : MJ} {R : MR} {S : Sh} {Q : SkQ} : Wp 154 23 [.ref l0, .int x] st I J R S Q = Wp 154 26 [.ref l0, .int (x + 1)] st I J R S Q := o_inc (by decide) rfl (Nat.le_of_ble_eq_true rfl) rfl k_C_faultOfText_23
theorem k_C_faultOfText_26 : decode (sk_by 154) 26 = .ok (.goto (-20), 3) := by decide +kernel
theorem x_C_faultOfText_26 {ls st : List Value} {I : MI} {J : MJ} {R : MR} {S : Sh} {Q : SkQ} : Wp 154 26 ls st I J R S Q = Wp 154 6 ls st I J R S Q := o_goto rfl rfl k_C_faultOfText_26
theorem k_C_faultOfText_29 : decode (sk_by 154) 29 = .ok (.aload_n 0, 1) := by decide +kernel
theorem x_C_faultOfText_29 {st : List Value} {l1 : Int32} {x : Nat} {I : MI} {J : MJ} {R : MR} {S : Sh} {Q : SkQ} : Wp 154 29 [.ref x, .int l1] st I J R S Q = Wp 154 30 [.ref x, .int l1] (.ref x :: st) I J R S Q := o_aload_n rfl k_C_faultOfText_29
theorem k_C_faultOfText_30 : decode (sk_by 154) 30 = .ok (.getfield 15, 3) := by decide +kernel
theorem x_C_faultOfText_30 {ls st : List Value} {a : Nat} {I : MI} {J : MJ} {R : MR} {S : Sh} {Q : SkQ} (ha : S.1 a = 5) : Wp 154 30 ls (.ref a :: st) I J R S Q = Wp 154 33 ls (.int (I a 3) :: st) I J R S Q := o_getfieldI (show sk_lkF (sk_cl 154) 15 = some (5, 3, 0, 0, 0) by decide +kernel) k_C_faultOfText_30 ha
theorem k_C_faultOfText_33 : decode (sk_by 154) 33 = .ok (.ireturn, 1) := by decide +kernel
theorem x_C_faultOfText_33 {ls : List Value} {v : Int32} {I : MI} {J : MJ} {R : MR} {S : Sh} {Q : SkQ} : Wp 154 33 ls [.int v] I J R S Q = Q 0 (some (.int v)) I J R S := o_ireturn k_C_faultOfText_33 rfl
theorem k_C_readCommand_0 : decode (sk_by 155) 0 = .ok (.aload_n 0, 1) := by decide +kernel
theorem x_C_readCommand_0 {st : List Value} {x : Nat} {I : MI} {J : MJ} {R : MR} {S : Sh} {Q : SkQ} : Wp 155 0 [.ref x] st I J R S Q = Wp 155 1 [.ref x] (.ref x :: st) I J R S Q := o_aload_n rfl k_C_readCommand_0
theorem k_C_readCommand_1 : decode (sk_by 155) 1 = .ok (.invokevirtual 32, 3) := by decide +kernel
theorem x_C_readCommand_1 {ls : List Value} {a0 : Nat} {I : MI} {J : MJ} {R : MR} {S : Sh} {Q : SkQ} (ha : S.1 a0 = 5) : Wp 155 1 ls (.ref a0 :: []) I J R S Q = Wp 163 0 [.ref a0, nov] [] I J R S (Ret 155 1 4 163 ls [] Q) := o_call (as := [.ref a0]) (rest := []) (show sk_lkM (sk_cl 155) 32 = some 163 by decide +kernel) (by decide) (by decide) (by (decide +kernel)) (ins := .invokevirtual 32) (by (decide +kernel)) k_C_readCommand_1 rfl (show 1 = sk_na 163 by (decide +kernel)) (Nat.le_of_ble_eq_true rfl) (Nat.le_trans (show (argL [.ref a0]).length ≤ 2 from Nat.le_of_ble_eq_true rfl) (by (decide +kernel))) (rcv_of (by (decide +kernel)) (by decide) ha)
theorem k_C_readCommand_4 : decode (sk_by 155) 4 = .ok (.aload_n 0, 1) := by decide +kernel
theorem x_C_readCommand_4 {st : List Value} {x : Nat} {I : MI} {J : MJ} {R : MR} {S : Sh} {Q : SkQ} : Wp 155 4 [.ref x] st I J R S Q = Wp 155 5 [.ref x] (.ref x :: st) I J R S Q := o_aload_n rfl k_C_readCommand_4
theorem k_C_readCommand_5 : decode (sk_by 155) 5 = .ok (.getfield 22, 3) := by decide +kernel
theorem x_C_readCommand_5 {ls st : List Value} {a : Nat} {I : MI} {J : MJ} {R : MR} {S : Sh} {Q : SkQ} (ha : S.1 a = 5) : Wp 155 5 ls (.ref a :: st) I J R S Q = Wp 155 8 ls (.int (I a 2) :: st) I J R S Q := o_getfieldI (show sk_lkF (sk_cl 155) 22 = some (5, 2, 0, 0, 0) by decide +kernel) k_C_readCommand_5 ha
theorem k_C_readCommand_8 : decode (sk_by 155) 8 = .ok (.aload_n 0, 1) := by decide +kernel
theorem x_C_readCommand_8 {st : List Value} {x : Nat} {I : MI} {J : MJ} {R : MR} {S : Sh} {Q : SkQ} : Wp 155 8 [.ref x] st I J R S Q = Wp 155 9 [.ref x] (.ref x :: st) I J R S Q := o_aload_n rfl k_C_readCommand_8
theorem k_C_readCommand_9 : decode (sk_by 155) 9 = .ok (.getfield 19, 3) := by decide +kernel
theorem x_C_readCommand_9 {ls st : List Value} {a : Nat} {I : MI} {J : MJ} {R : MR} {S : Sh} {Q : SkQ} (ha : S.1 a = 5) : Wp 155 9 ls (.ref a :: st) I J R S Q = Wp 155 12 ls (.int (I a 1) :: st) I J R S Q := o_getfieldI (show sk_lkF (sk_cl 155) 19 = some (5, 1, 0, 0, 0) by decide +kernel) k_C_readCommand_9 ha
theorem k_C_readCommand_12 : decode (sk_by 155) 12 = .ok (.if_icmp .lt 5, 3) := by decide +kernel
theorem x_C_readCommand_12 {ls st : List Value} {x y : Int32} {I : MI} {J : MJ} {R : MR} {S : Sh} {Q : SkQ} : Wp 155 12 ls (.int y :: .int x :: st) I J R S Q = if x < y then Wp 155 17 ls st I J R S Q else Wp 155 15 ls st I J R S Q := o_ic_lt rfl rfl k_C_readCommand_12
theorem k_C_readCommand_15 : decode (sk_by 155) 15 = .ok (.iconst 0, 1) := by decide +kernel
theorem x_C_readCommand_15 {ls st : List Value} {I : MI} {J : MJ} {R : MR} {S : Sh} {Q : SkQ} : Wp 155 15 ls st I J R S Q = Wp 155 16 ls (.int 0 :: st) I J R S Q := o_const (by decide) k_C_readCommand_15
theorem k_C_readCommand_16 : decode (sk_by 155) 16 = .ok (.ireturn, 1) := by decide +kernel
theorem x_C_readCommand_16 {ls : List Value} {v : Int32} {I : MI} {J : MJ} {R : MR} {S : Sh} {Q : SkQ} (h : rOk (some .boolean) v = true) : Wp 155 16 ls [.int v] I J R S Q = Q 0 (some (.int v)) I J R S := o_ireturn k_C_readCommand_16 (by rw [show sk_rt 155 = some .boolean from rfl]; exact h)
theorem k_C_readCommand_17 : decode (sk_by 155) 17 = .ok (.aload_n 0, 1) := by decide +kernel
theorem x_C_readCommand_17 {st : List Value} {x : Nat} {I : MI} {J : MJ} {R : MR} {S : Sh} {Q : SkQ} : Wp 155 17 [.ref x] st I J R S Q = Wp 155 18 [.ref x] (.ref x :: st) I J R S Q := o_aload_n rfl k_C_readCommand_17
theorem k_C_readCommand_18 : decode (sk_by 155) 18 = .ok (.aload_n 0, 1) := by decide +kernel
theorem x_C_readCommand_18 {st : List Value} {x : Nat} {I : MI} {J : MJ} {R : MR} {S : Sh} {Q : SkQ} : Wp 155 18 [.ref x] st I J R S Q = Wp 155 19 [.ref x] (.ref x :: st) I J R S Q := o_aload_n rfl k_C_readCommand_18
theorem k_C_readCommand_19 : decode (sk_by 155) 19 = .ok (.invokevirtual 35, 3) := by decide +kernel
theorem x_C_readCommand_19 {ls : List Value} {a0 : Nat} {s0 : Nat} {I : MI} {J : MJ} {R : MR} {S : Sh} {Q : SkQ} (ha : S.1 a0 = 5) : Wp 155 19 ls (.ref a0 :: [.ref s0]) I J R S Q = Wp 156 0 [.ref a0, nov, nov] [] I J R S (Ret 155 19 22 156 ls [.ref s0] Q) := o_call (as := [.ref a0]) (rest := [.ref s0]) (show sk_lkM (sk_cl 155) 35 = some 156 by decide +kernel) (by decide) (by decide) (by (decide +kernel)) (ins := .invokevirtual 35) (by (decide +kernel)) k_C_readCommand_19 rfl (show 1 = sk_na 156 by (decide +kernel)) (Nat.le_of_ble_eq_true rfl) (Nat.le_trans (show (argL [.ref a0]).length ≤ 3 from Nat.le_of_ble_eq_true rfl) (by (decide +kernel))) (rcv_of (by (decide +kernel)) (by decide) ha)
theorem k_C_readCommand_22 : decode (sk_by 155) 22 = .ok (.putfield 39, 3) := by decide +kernel
theorem x_C_readCommand_22 {ls st : List Value} {a : Nat} {x : Nat} {I : MI} {J : MJ} {R : MR} {S : Sh} {Q : SkQ} (ha : S.1 a = 5) : Wp 155 22 ls (.ref x :: .ref a :: st) I J R S Q = Wp 155 25 ls st I J (u2 R a 4 (.ref x)) S Q := o_putfieldR (show sk_lkF (sk_cl 155) 39 = some (5, 4, 2, 0, 0) by decide +kernel) (by decide) (by (decide +kernel)) k_C_readCommand_22 ha
theorem x_C_readCommand_22N {ls st : List Value} {a : Nat} {I : MI} {J : MJ} {R : MR} {S : Sh} {Q : SkQ} (ha : S.1 a = 5) : Wp 155 22 ls (.null :: .ref a :: st) I J R S Q = Wp 155 25 ls st I J (u2 R a 4 .null) S Q := o_putfieldN (show sk_lkF (sk_cl 155) 39 = some (5, 4, 2, 0, 0) by decide +kernel) (by decide) (by (decide +kernel)) k_C_readCommand_22 ha
theorem k_C_readCommand_25 : decode (sk_by 155) 25 = .ok (.aload_n 0, 1) := by decide +kernel
theorem x_C_readCommand_25 {st : List Value} {x : Nat} {I : MI} {J : MJ} {R : MR} {S : Sh} {Q : SkQ} : Wp 155 25 [.ref x] st I J R S Q = Wp 155 26 [.ref x] (.ref x :: st) I J R S Q := o_aload_n rfl k_C_readCommand_25
theorem k_C_readCommand_26 : decode (sk_by 155) 26 = .ok (.getfield 39, 3) := by decide +kernel
theorem x_C_readCommand_26 {ls st : List Value} {a : Nat} {I : MI} {J : MJ} {R : MR} {S : Sh} {Q : SkQ} (ha : S.1 a = 5) : Wp 155 26 ls (.ref a :: st) I J R S Q = Wp 155 29 ls (R a 4 :: st) I J R S Q := o_getfieldR (show sk_lkF (sk_cl 155) 39 = some (5, 4, 2, 0, 0) by decide +kernel) k_C_readCommand_26 ha
theorem k_C_readCommand_29 : decode (sk_by 155) 29 = .ok (.ifnonnull 5, 3) := by decide +kernel
theorem x_C_readCommand_29 {ls st : List Value} {x : Nat} {I : MI} {J : MJ} {R : MR} {S : Sh} {Q : SkQ} : Wp 155 29 ls (.ref x :: st) I J R S Q = Wp 155 34 ls st I J R S Q := o_ifnonnullR rfl rfl k_C_readCommand_29
theorem x_C_readCommand_29N {ls st : List Value} {I : MI} {J : MJ} {R : MR} {S : Sh} {Q : SkQ} : Wp 155 29 ls (.null :: st) I J R S Q = Wp 155 32 ls st I J R S Q := o_ifnonnullN k_C_readCommand_29
theorem k_C_readCommand_32 : decode (sk_by 155) 32 = .ok (.iconst 0, 1) := by decide +kernel
theorem x_C_readCommand_32 {ls st : List Value} {I : MI} {J : MJ} {R : MR} {S : Sh} {Q : SkQ} : Wp 155 32 ls st I J R S Q = Wp 155 33 ls (.int 0 :: st) I J R S Q := o_const (by decide) k_C_readCommand_32
theorem k_C_readCommand_33 : decode (sk_by 155) 33 = .ok (.ireturn, 1) := by decide +kernel
theorem x_C_readCommand_33 {ls : List Value} {v : Int32} {I : MI} {J : MJ} {R : MR} {S : Sh} {Q : SkQ} (h : rOk (some .boolean) v = true) : Wp 155 33 ls [.int v] I J R S Q = Q 0 (some (.int v)) I J R S := o_ireturn k_C_readCommand_33 (by rw [show sk_rt 155 = some .boolean from rfl]; exact h)
theorem k_C_readCommand_34 : decode (sk_by 155) 34 = .ok (.aload_n 0, 1) := by decide +kernel
theorem x_C_readCommand_34 {st : List Value} {x : Nat} {I : MI} {J : MJ} {R : MR} {S : Sh} {Q : SkQ} : Wp 155 34 [.ref x] st I J R S Q = Wp 155 35 [.ref x] (.ref x :: st) I J R S Q := o_aload_n rfl k_C_readCommand_34
theorem k_C_readCommand_35 : decode (sk_by 155) 35 = .ok (.aload_n 0, 1) := by decide +kernel
theorem x_C_readCommand_35 {st : List Value} {x : Nat} {I : MI} {J : MJ} {R : MR} {S : Sh} {Q : SkQ} : Wp 155 35 [.ref x] st I J R S Q = Wp 155 36 [.ref x] (.ref x :: st) I J R S Q := o_aload_n rfl k_C_readCommand_35
theorem k_C_readCommand_36 : decode (sk_by 155) 36 = .ok (.getfield 39, 3) := by decide +kernel
theorem x_C_readCommand_36 {ls st : List Value} {a : Nat} {I : MI} {J : MJ} {R : MR} {S : Sh} {Q : SkQ} (ha : S.1 a = 5) : Wp 155 36 ls (.ref a :: st) I J R S Q = Wp 155 39 ls (R a 4 :: st) I J R S Q := o_getfieldR (show sk_lkF (sk_cl 155) 39 = some (5, 4, 2, 0, 0) by decide +kernel) k_C_readCommand_36 ha
theorem k_C_readCommand_39 : decode (sk_by 155) 39 = .ok (.getfield 43, 3) := by decide +kernel
theorem x_C_readCommand_39 {ls st : List Value} {a : Nat} {I : MI} {J : MJ} {R : MR} {S : Sh} {Q : SkQ} (ha : S.1 a = 20) : Wp 155 39 ls (.ref a :: st) I J R S Q = Wp 155 42 ls (.int (I a 2) :: st) I J R S Q := o_getfieldI (show sk_lkF (sk_cl 155) 43 = some (20, 2, 0, 1, 1) by decide +kernel) k_C_readCommand_39 ha
theorem k_C_readCommand_42 : decode (sk_by 155) 42 = .ok (.ifCond .le 10, 3) := by decide +kernel
theorem x_C_readCommand_42 {ls st : List Value} {x : Int32} {I : MI} {J : MJ} {R : MR} {S : Sh} {Q : SkQ} : Wp 155 42 ls (.int x :: st) I J R S Q = if 0 < x then Wp 155 45 ls st I J R S Q else Wp 155 52 ls st I J R S Q := o_if_le rfl rfl k_C_readCommand_42
theorem k_C_readCommand_45 : decode (sk_by 155) 45 = .ok (.aload_n 0, 1) := by decide +kernel
theorem x_C_readCommand_45 {st : List Value} {x : Nat} {I : MI} {J : MJ} {R : MR} {S : Sh} {Q : SkQ} : Wp 155 45 [.ref x] st I J R S Q = Wp 155 46 [.ref x] (.ref x :: st) I J R S Q := o_aload_n rfl k_C_readCommand_45
theorem k_C_readCommand_46 : decode (sk_by 155) 46 = .ok (.invokevirtual 48, 3) := by decide +kernel
theorem x_C_readCommand_46 {ls : List Value} {a0 : Nat} {s0 : Nat} {I : MI} {J : MJ} {R : MR} {S : Sh} {Q : SkQ} (ha : S.1 a0 = 5) : Wp 155 46 ls (.ref a0 :: [.ref s0]) I J R S Q = Wp 158 0 [.ref a0, nov, nov, nov] [] I J R S (Ret 155 46 49 158 ls [.ref s0] Q) := o_call (as := [.ref a0]) (rest := [.ref s0]) (show sk_lkM (sk_cl 155) 48 = some 158 by decide +kernel) (by decide) (by decide) (by (decide +kernel)) (ins := .invokevirtual 48) (by (decide +kernel)) k_C_readCommand_46 rfl (show 1 = sk_na 158 by (decide +kernel)) (Nat.le_of_ble_eq_true rfl) (Nat.le_trans (show (argL [.ref a0]).length ≤ 4 from Nat.le_of_ble_eq_true rfl) (by (decide +kernel))) (rcv_of (by (decide +kernel)) (by decide) ha)
theorem k_C_readCommand_49 : decode (sk_by 155) 49 = .ok (.goto 6, 3) := by decide +kernel
theorem x_C_readCommand_49 {ls st : List Value} {I : MI} {J : MJ} {R : MR} {S : Sh} {Q : SkQ} : Wp 155 49 ls st I J R S Q = Wp 155 55 ls st I J R S Q := o_goto rfl rfl k_C_readCommand_49
theorem k_C_readCommand_52 : decode (sk_by 155) 52 = .ok (.ldc2_w 52, 3) := by decide +kernel
theorem x_C_readCommand_52 {ls st : List Value} {I : MI} {J : MJ} {R : MR} {S : Sh} {Q : SkQ} : Wp 155 52 ls st I J R S Q = Wp 155 55 ls (.long (-1) :: st) I J R S Q := o_ldc2_w (show sk_lkK (sk_cl 155) 52 = some (-1) by decide +kernel) k_C_readCommand_52
theorem k_C_readCommand_55 : decode (sk_by 155) 55 = .ok (.putfield 54, 3) := by decide +kernel
theorem x_C_readCommand_55 {ls st : List Value} {a : Nat} {x : Int64} {I : MI} {J : MJ} {R : MR} {S : Sh} {Q : SkQ} (ha : S.1 a = 5) : Wp 155 55 ls (.long x :: .ref a :: st) I J R S Q = Wp 155 58 ls st I (u2 J a 5 x) R S Q := o_putfieldJ (show sk_lkF (sk_cl 155) 54 = some (5, 5, 1, 0, 0) by decide +kernel) (by decide) (by (decide +kernel)) k_C_readCommand_55 ha
theorem k_C_readCommand_58 : decode (sk_by 155) 58 = .ok (.aload_n 0, 1) := by decide +kernel
theorem x_C_readCommand_58 {st : List Value} {x : Nat} {I : MI} {J : MJ} {R : MR} {S : Sh} {Q : SkQ} : Wp 155 58 [.ref x] st I J R S Q = Wp 155 59 [.ref x] (.ref x :: st) I J R S Q := o_aload_n rfl k_C_readCommand_58
theorem k_C_readCommand_59 : decode (sk_by 155) 59 = .ok (.aload_n 0, 1) := by decide +kernel
theorem x_C_readCommand_59 {st : List Value} {x : Nat} {I : MI} {J : MJ} {R : MR} {S : Sh} {Q : SkQ} : Wp 155 59 [.ref x] st I J R S Q = Wp 155 60 [.ref x] (.ref x :: st) I J R S Q := o_aload_n rfl k_C_readCommand_59
theorem k_C_readCommand_60 : decode (sk_by 155) 60 = .ok (.getfield 39, 3) := by decide +kernel
theorem x_C_readCommand_60 {ls st : List Value} {a : Nat} {I : MI} {J : MJ} {R : MR} {S : Sh} {Q : SkQ} (ha : S.1 a = 5) : Wp 155 60 ls (.ref a :: st) I J R S Q = Wp 155 63 ls (R a 4 :: st) I J R S Q := o_getfieldR (show sk_lkF (sk_cl 155) 39 = some (5, 4, 2, 0, 0) by decide +kernel) k_C_readCommand_60 ha
theorem k_C_readCommand_63 : decode (sk_by 155) 63 = .ok (.getfield 43, 3) := by decide +kernel
theorem x_C_readCommand_63 {ls st : List Value} {a : Nat} {I : MI} {J : MJ} {R : MR} {S : Sh} {Q : SkQ} (ha : S.1 a = 20) : Wp 155 63 ls (.ref a :: st) I J R S Q = Wp 155 66 ls (.int (I a 2) :: st) I J R S Q := o_getfieldI (show sk_lkF (sk_cl 155) 43 = some (20, 2, 0, 1, 1) by decide +kernel) k_C_readCommand_63 ha
theorem k_C_readCommand_66 : decode (sk_by 155) 66 = .ok (.iconst 1, 1) := by decide +kernel
theorem x_C_readCommand_66 {ls st : List Value} {I : MI} {J : MJ} {R : MR} {S : Sh} {Q : SkQ} : Wp 155 66 ls st I J R S Q = Wp 155 67 ls (.int 1 :: st) I J R S Q := o_const (by decide) k_C_readCommand_66
theorem k_C_readCommand_67 : decode (sk_by 155) 67 = .ok (.if_icmp .le 10, 3) := by decide +kernel
theorem x_C_readCommand_67 {ls st : List Value} {x y : Int32} {I : MI} {J : MJ} {R : MR} {S : Sh} {Q : SkQ} : Wp 155 67 ls (.int y :: .int x :: st) I J R S Q = if y < x then Wp 155 70 ls st I J R S Q else Wp 155 77 ls st I J R S Q := o_ic_le rfl rfl k_C_readCommand_67
theorem k_C_readCommand_70 : decode (sk_by 155) 70 = .ok (.aload_n 0, 1) := by decide +kernel
theorem x_C_readCommand_70 {st : List Value} {x : Nat} {I : MI} {J : MJ} {R : MR} {S : Sh} {Q : SkQ} : Wp 155 70 [.ref x] st I J R S Q = Wp 155 71 [.ref x] (.ref x :: st) I J R S Q := o_aload_n rfl k_C_readCommand_70
theorem k_C_readCommand_71 : decode (sk_by 155) 71 = .ok (.invokevirtual 48, 3) := by decide +kernel
theorem x_C_readCommand_71 {ls : List Value} {a0 : Nat} {s0 : Nat} {I : MI} {J : MJ} {R : MR} {S : Sh} {Q : SkQ} (ha : S.1 a0 = 5) : Wp 155 71 ls (.ref a0 :: [.ref s0]) I J R S Q = Wp 158 0 [.ref a0, nov, nov, nov] [] I J R S (Ret 155 71 74 158 ls [.ref s0] Q) := o_call (as := [.ref a0]) (rest := [.ref s0]) (show sk_lkM (sk_cl 155) 48 = some 158 by decide +kernel) (by decide) (by decide) (by (decide +kernel)) (ins := .invokevirtual 48) (by (decide +kernel)) k_C_readCommand_71 rfl (show 1 = sk_na 158 by (decide +kernel)) (Nat.le_of_ble_eq_true rfl) (Nat.le_trans (show (argL [.ref a0]).length ≤ 4 from Nat.le_of_ble_eq_true rfl) (by (decide +kernel))) (rcv_of (by (decide +kernel)) (by decide) ha)
theorem k_C_readCommand_74 : decode (sk_by 155) 74 = .ok (.goto 6, 3) := by decide +kernel
theorem x_C_readCommand_74 {ls st : List Value} {I : MI} {J : MJ} {R : MR} {S : Sh} {Q : SkQ} : Wp 155 74 ls st I J R S Q = Wp 155 80 ls st I J R S Q := o_goto rfl rfl k_C_readCommand_74
theorem k_C_readCommand_77 : decode (sk_by 155) 77 = .ok (.ldc2_w 52, 3) := by decide +kernel
theorem x_C_readCommand_77 {ls st : List Value} {I : MI} {J : MJ} {R : MR} {S : Sh} {Q : SkQ} : Wp 155 77 ls st I J R S Q = Wp 155 80 ls (.long (-1) :: st) I J R S Q := o_ldc2_w (show sk_lkK (sk_cl 155) 52 = some (-1) by decide +kernel) k_C_readCommand_77
theorem k_C_readCommand_80 : decode (sk_by 155) 80 = .ok (.putfield 58, 3) := by decide +kernel
theorem x_C_readCommand_80 {ls st : List Value} {a : Nat} {x : Int64} {I : MI} {J : MJ} {R : MR} {S : Sh} {Q : SkQ} (ha : S.1 a = 5) : Wp 155 80 ls (.long x :: .ref a :: st) I J R S Q = Wp 155 83 ls st I (u2 J a 6 x) R S Q := o_putfieldJ (show sk_lkF (sk_cl 155) 58 = some (5, 6, 1, 0, 0) by decide +kernel) (by decide) (by (decide +kernel)) k_C_readCommand_80 ha
theorem k_C_readCommand_83 : decode (sk_by 155) 83 = .ok (.aload_n 0, 1) := by decide +kernel
theorem x_C_readCommand_83 {st : List Value} {x : Nat} {I : MI} {J : MJ} {R : MR} {S : Sh} {Q : SkQ} : Wp 155 83 [.ref x] st I J R S Q = Wp 155 84 [.ref x] (.ref x :: st) I J R S Q := o_aload_n rfl k_C_readCommand_83
theorem k_C_readCommand_84 : decode (sk_by 155) 84 = .ok (.aload_n 0, 1) := by decide +kernel
theorem x_C_readCommand_84 {st : List Value} {x : Nat} {I : MI} {J : MJ} {R : MR} {S : Sh} {Q : SkQ} : Wp 155 84 [.ref x] st I J R S Q = Wp 155 85 [.ref x] (.ref x :: st) I J R S Q := o_aload_n rfl k_C_readCommand_84
theorem k_C_readCommand_85 : decode (sk_by 155) 85 = .ok (.getfield 39, 3) := by decide +kernel
theorem x_C_readCommand_85 {ls st : List Value} {a : Nat} {I : MI} {J : MJ} {R : MR} {S : Sh} {Q : SkQ} (ha : S.1 a = 5) : Wp 155 85 ls (.ref a :: st) I J R S Q = Wp 155 88 ls (R a 4 :: st) I J R S Q := o_getfieldR (show sk_lkF (sk_cl 155) 39 = some (5, 4, 2, 0, 0) by decide +kernel) k_C_readCommand_85 ha
theorem k_C_readCommand_88 : decode (sk_by 155) 88 = .ok (.getfield 61, 3) := by decide +kernel
theorem x_C_readCommand_88 {ls st : List Value} {a : Nat} {I : MI} {J : MJ} {R : MR} {S : Sh} {Q : SkQ} (ha : S.1 a = 20) : Wp 155 88 ls (.ref a :: st) I J R S Q = Wp 155 91 ls (.int (I a 3) :: st) I J R S Q := o_getfieldI (show sk_lkF (sk_cl 155) 61 = some (20, 3, 0, 1, 1) by decide +kernel) k_C_readCommand_88 ha
theorem k_C_readCommand_91 : decode (sk_by 155) 91 = .ok (.ifCond .le 10, 3) := by decide +kernel
theorem x_C_readCommand_91 {ls st : List Value} {x : Int32} {I : MI} {J : MJ} {R : MR} {S : Sh} {Q : SkQ} : Wp 155 91 ls (.int x :: st) I J R S Q = if 0 < x then Wp 155 94 ls st I J R S Q else Wp 155 101 ls st I J R S Q := o_if_le rfl rfl k_C_readCommand_91
theorem k_C_readCommand_94 : decode (sk_by 155) 94 = .ok (.aload_n 0, 1) := by decide +kernel
theorem x_C_readCommand_94 {st : List Value} {x : Nat} {I : MI} {J : MJ} {R : MR} {S : Sh} {Q : SkQ} : Wp 155 94 [.ref x] st I J R S Q = Wp 155 95 [.ref x] (.ref x :: st) I J R S Q := o_aload_n rfl k_C_readCommand_94
theorem k_C_readCommand_95 : decode (sk_by 155) 95 = .ok (.invokevirtual 64, 3) := by decide +kernel
theorem x_C_readCommand_95 {ls : List Value} {a0 : Nat} {s0 : Nat} {I : MI} {J : MJ} {R : MR} {S : Sh} {Q : SkQ} (ha : S.1 a0 = 5) : Wp 155 95 ls (.ref a0 :: [.ref s0]) I J R S Q = Wp 159 0 [.ref a0, nov, nov, nov] [] I J R S (Ret 155 95 98 159 ls [.ref s0] Q) := o_call (as := [.ref a0]) (rest := [.ref s0]) (show sk_lkM (sk_cl 155) 64 = some 159 by decide +kernel) (by decide) (by decide) (by (decide +kernel)) (ins := .invokevirtual 64) (by (decide +kernel)) k_C_readCommand_95 rfl (show 1 = sk_na 159 by (decide +kernel)) (Nat.le_of_ble_eq_true rfl) (Nat.le_trans (show (argL [.ref a0]).length ≤ 4 from Nat.le_of_ble_eq_true rfl) (by (decide +kernel))) (rcv_of (by (decide +kernel)) (by decide) ha)
theorem k_C_readCommand_98 : decode (sk_by 155) 98 = .ok (.goto 4, 3) := by decide +kernel
theorem x_C_readCommand_98 {ls st : List Value} {I : MI} {J : MJ} {R : MR} {S : Sh} {Q : SkQ} : Wp 155 98 ls st I J R S Q = Wp 155 102 ls st I J R S Q := o_goto rfl rfl k_C_readCommand_98
theorem k_C_readCommand_101 : decode (sk_by 155) 101 = .ok (.iconst (-1), 1) := by decide +kernel
theorem x_C_readCommand_101 {ls st : List Value} {I : MI} {J : MJ} {R : MR} {S : Sh} {Q : SkQ} : Wp 155 101 ls st I J R S Q = Wp 155 102 ls (.int (-1) :: st) I J R S Q := o_const (by decide) k_C_readCommand_101
theorem k_C_readCommand_102 : decode (sk_by 155) 102 = .ok (.putfield 68, 3) := by decide +kernel
theorem x_C_readCommand_102 {ls st : List Value} {a : Nat} {x : Int32} {I : MI} {J : MJ} {R : MR} {S : Sh} {Q : SkQ} (ha : S.1 a = 5) : Wp 155 102 ls (.int x :: .ref a :: st) I J R S Q = Wp 155 105 ls st (u2 I a 7 x) J R S Q := o_putfieldI (show sk_lkF (sk_cl 155) 68 = some (5, 7, 0, 0, 0) by decide +kernel) (by decide) (by (decide +kernel)) k_C_readCommand_102 ha
theorem k_C_readCommand_105 : decode (sk_by 155) 105 = .ok (.aload_n 0, 1) := by decide +kernel
theorem x_C_readCommand_105 {st : List Value} {x : Nat} {I : MI} {J : MJ} {R : MR} {S : Sh} {Q : SkQ} : Wp 155 105 [.ref x] st I J R S Q = Wp 155 106 [.ref x] (.ref x :: st) I J R S Q := o_aload_n rfl k_C_readCommand_105
theorem k_C_readCommand_106 : decode (sk_by 155) 106 = .ok (.aload_n 0, 1) := by decide +kernel
theorem x_C_readCommand_106 {st : List Value} {x : Nat} {I : MI} {J : MJ} {R : MR} {S : Sh} {Q : SkQ} : Wp 155 106 [.ref x] st I J R S Q = Wp 155 107 [.ref x] (.ref x :: st) I J R S Q := o_aload_n rfl k_C_readCommand_106
theorem k_C_readCommand_107 : decode (sk_by 155) 107 = .ok (.getfield 39, 3) := by decide +kernel
theorem x_C_readCommand_107 {ls st : List Value} {a : Nat} {I : MI} {J : MJ} {R : MR} {S : Sh} {Q : SkQ} (ha : S.1 a = 5) : Wp 155 107 ls (.ref a :: st) I J R S Q = Wp 155 110 ls (R a 4 :: st) I J R S Q := o_getfieldR (show sk_lkF (sk_cl 155) 39 = some (5, 4, 2, 0, 0) by decide +kernel) k_C_readCommand_107 ha
theorem k_C_readCommand_110 : decode (sk_by 155) 110 = .ok (.getfield 61, 3) := by decide +kernel
theorem x_C_readCommand_110 {ls st : List Value} {a : Nat} {I : MI} {J : MJ} {R : MR} {S : Sh} {Q : SkQ} (ha : S.1 a = 20) : Wp 155 110 ls (.ref a :: st) I J R S Q = Wp 155 113 ls (.int (I a 3) :: st) I J R S Q := o_getfieldI (show sk_lkF (sk_cl 155) 61 = some (20, 3, 0, 1, 1) by decide +kernel) k_C_readCommand_110 ha
theorem k_C_readCommand_113 : decode (sk_by 155) 113 = .ok (.iconst 1, 1) := by decide +kernel
theorem x_C_readCommand_113 {ls st : List Value} {I : MI} {J : MJ} {R : MR} {S : Sh} {Q : SkQ} : Wp 155 113 ls st I J R S Q = Wp 155 114 ls (.int 1 :: st) I J R S Q := o_const (by decide) k_C_readCommand_113
theorem k_C_readCommand_114 : decode (sk_by 155) 114 = .ok (.if_icmp .le 10, 3) := by decide +kernel
theorem x_C_readCommand_114 {ls st : List Value} {x y : Int32} {I : MI} {J : MJ} {R : MR} {S : Sh} {Q : SkQ} : Wp 155 114 ls (.int y :: .int x :: st) I J R S Q = if y < x then Wp 155 117 ls st I J R S Q else Wp 155 124 ls st I J R S Q := o_ic_le rfl rfl k_C_readCommand_114
theorem k_C_readCommand_117 : decode (sk_by 155) 117 = .ok (.aload_n 0, 1) := by decide +kernel
theorem x_C_readCommand_117 {st : List Value} {x : Nat} {I : MI} {J : MJ} {R : MR} {S : Sh} {Q : SkQ} : Wp 155 117 [.ref x] st I J R S Q = Wp 155 118 [.ref x] (.ref x :: st) I J R S Q := o_aload_n rfl k_C_readCommand_117
theorem k_C_readCommand_118 : decode (sk_by 155) 118 = .ok (.invokevirtual 64, 3) := by decide +kernel
theorem x_C_readCommand_118 {ls : List Value} {a0 : Nat} {s0 : Nat} {I : MI} {J : MJ} {R : MR} {S : Sh} {Q : SkQ} (ha : S.1 a0 = 5) : Wp 155 118 ls (.ref a0 :: [.ref s0]) I J R S Q = Wp 159 0 [.ref a0, nov, nov, nov] [] I J R S (Ret 155 118 121 159 ls [.ref s0] Q) := o_call (as := [.ref a0]) (rest := [.ref s0]) (show sk_lkM (sk_cl 155) 64 = some 159 by decide +kernel) (by decide) (by decide) (by (decide +kernel)) (ins := .invokevirtual 64) (by (decide +kernel)) k_C_readCommand_118 rfl (show 1 = sk_na 159 by (decide +kernel)) (Nat.le_of_ble_eq_true rfl) (Nat.le_trans (show (argL [.ref a0]).length ≤ 4 from Nat.le_of_ble_eq_true rfl) (by (decide +kernel))) (rcv_of (by (decide +kernel)) (by decide) ha)
theorem k_C_readCommand_121 : decode (sk_by 155) 121 = .ok (.goto 4, 3) := by decide +kernel
theorem x_C_readCommand_121 {ls st : List Value} {I : MI} {J : MJ} {R : MR} {S : Sh} {Q : SkQ} : Wp 155 121 ls st I J R S Q = Wp 155 125 ls st I J R S Q := o_goto rfl rfl k_C_readCommand_121
theorem k_C_readCommand_124 : decode (sk_by 155) 124 = .ok (.iconst (-1), 1) := by decide +kernel
theorem x_C_readCommand_124 {ls st : List Value} {I : MI} {J : MJ} {R : MR} {S : Sh} {Q : SkQ} : Wp 155 124 ls st I J R S Q = Wp 155 125 ls (.int (-1) :: st) I J R S Q := o_const (by decide) k_C_readCommand_124
theorem k_C_readCommand_125 : decode (sk_by 155) 125 = .ok (.putfield 71, 3) := by decide +kernel
theorem x_C_readCommand_125 {ls st : List Value} {a : Nat} {x : Int32} {I : MI} {J : MJ} {R : MR} {S : Sh} {Q : SkQ} (ha : S.1 a = 5) : Wp 155 125 ls (.int x :: .ref a :: st) I J R S Q = Wp 155 128 ls st (u2 I a 8 x) J R S Q := o_putfieldI (show sk_lkF (sk_cl 155) 71 = some (5, 8, 0, 0, 0) by decide +kernel) (by decide) (by (decide +kernel)) k_C_readCommand_125 ha
theorem k_C_readCommand_128 : decode (sk_by 155) 128 = .ok (.aload_n 0, 1) := by decide +kernel
theorem x_C_readCommand_128 {st : List Value} {x : Nat} {I : MI} {J : MJ} {R : MR} {S : Sh} {Q : SkQ} : Wp 155 128 [.ref x] st I J R S Q = Wp 155 129 [.ref x] (.ref x :: st) I J R S Q := o_aload_n rfl k_C_readCommand_128
theorem k_C_readCommand_129 : decode (sk_by 155) 129 = .ok (.invokevirtual 74, 3) := by decide +kernel
theorem x_C_readCommand_129 {ls : List Value} {a0 : Nat} {I : MI} {J : MJ} {R : MR} {S : Sh} {Q : SkQ} (ha : S.1 a0 = 5) : Wp 155 129 ls (.ref a0 :: []) I J R S Q = Wp 161 0 [.ref a0] [] I J R S (Ret 155 129 132 161 ls [] Q) := o_call (as := [.ref a0]) (rest := []) (show sk_lkM (sk_cl 155) 74 = some 161 by decide +kernel) (by decide) (by decide) (by (decide +kernel)) (ins := .invokevirtual 74) (by (decide +kernel)) k_C_readCommand_129 rfl (show 1 = sk_na 161 by (decide +kernel)) (Nat.le_of_ble_eq_true rfl) (Nat.le_trans (show (argL [.ref a0]).length ≤ 1 from Nat.le_of_ble_eq_true rfl) (by (decide +kernel))) (rcv_of (by (decide +kernel)) (by decide) ha)
theorem k_C_readCommand_132 : decode (sk_by 155) 132 = .ok (.aload_n 0, 1) := by decide +kernel
theorem x_C_readCommand_132 {st : List Value} {x : Nat} {I : MI} {J : MJ} {R : MR} {S : Sh} {Q : SkQ} : Wp 155 132 [.ref x] st I J R S Q = Wp 155 133 [.ref x] (.ref x :: st) I J R S Q := o_aload_n rfl k_C_readCommand_132
theorem k_C_readCommand_133 : decode (sk_by 155) 133 = .ok (.getfield 15, 3) := by decide +kernel
theorem x_C_readCommand_133 {ls st : List Value} {a : Nat} {I : MI} {J : MJ} {R : MR} {S : Sh} {Q : SkQ} (ha : S.1 a = 5) : Wp 155 133 ls (.ref a :: st) I J R S Q = Wp 155 136 ls (.int (I a 3) :: st) I J R S Q := o_getfieldI (show sk_lkF (sk_cl 155) 15 = some (5, 3, 0, 0, 0) by decide +kernel) k_C_readCommand_133 ha
theorem k_C_readCommand_136 : decode (sk_by 155) 136 = .ok (.iconst (-1), 1) := by decide +kernel
theorem x_C_readCommand_136 {ls st : List Value} {I : MI} {J : MJ} {R : MR} {S : Sh} {Q : SkQ} : Wp 155 136 ls st I J R S Q = Wp 155 137 ls (.int (-1) :: st) I J R S Q := o_const (by decide) k_C_readCommand_136
theorem k_C_readCommand_137 : decode (sk_by 155) 137 = .ok (.if_icmp .ne 7, 3) := by decide +kernel
theorem x_C_readCommand_137 {ls st : List Value} {x y : Int32} {I : MI} {J : MJ} {R : MR} {S : Sh} {Q : SkQ} : Wp 155 137 ls (.int y :: .int x :: st) I J R S Q = if x = y then Wp 155 140 ls st I J R S Q else Wp 155 144 ls st I J R S Q := o_ic_ne rfl rfl k_C_readCommand_137
theorem k_C_readCommand_140 : decode (sk_by 155) 140 = .ok (.iconst 1, 1) := by decide +kernel
theorem x_C_readCommand_140 {ls st : List Value} {I : MI} {J : MJ} {R : MR} {S : Sh} {Q : SkQ} : Wp 155 140 ls st I J R S Q = Wp 155 141 ls (.int 1 :: st) I J R S Q := o_const (by decide) k_C_readCommand_140
theorem k_C_readCommand_141 : decode (sk_by 155) 141 = .ok (.goto 4, 3) := by decide +kernel
theorem x_C_readCommand_141 {ls st : List Value} {I : MI} {J : MJ} {R : MR} {S : Sh} {Q : SkQ} : Wp 155 141 ls st I J R S Q = Wp 155 145 ls st I J R S Q := o_goto rfl rfl k_C_readCommand_141
theorem k_C_readCommand_144 : decode (sk_by 155) 144 = .ok (.iconst 0, 1) := by decide +kernel
theorem x_C_readCommand_144 {ls st : List Value} {I : MI} {J : MJ} {R : MR} {S : Sh} {Q : SkQ} : Wp 155 144 ls st I J R S Q = Wp 155 145 ls (.int 0 :: st) I J R S Q := o_const (by decide) k_C_readCommand_144
theorem k_C_readCommand_145 : decode (sk_by 155) 145 = .ok (.ireturn, 1) := by decide +kernel
theorem x_C_readCommand_145 {ls : List Value} {v : Int32} {I : MI} {J : MJ} {R : MR} {S : Sh} {Q : SkQ} (h : rOk (some .boolean) v = true) : Wp 155 145 ls [.int v] I J R S Q = Q 0 (some (.int v)) I J R S := o_ireturn k_C_readCommand_145 (by rw [show sk_rt 155 = some .boolean from rfl]; exact h)
theorem k_C_readCommandWord_0 : decode (sk_by 156) 0 = .ok (.aload_n 0, 1) := by decide +kernel
theorem x_C_readCommandWord_0 {st : List Value} {x : Nat} {I : MI} {J : MJ} {R : MR} {S : Sh} {Q : SkQ} : Wp 156 0 [.ref x, nov, nov] st I J R S Q = Wp 156 1 [.ref x, nov, nov] (.ref x :: st) I J R S Q := o_aload_n rfl k_C_readCommandWord_0
theorem k_C_readCommandWord_1 : decode (sk_by 156) 1 = .ok (.getfield 22, 3) := by decide +kernel
theorem x_C_readCommandWord_1 {ls st : List Value} {a : Nat} {I : MI} {J : MJ} {R : MR} {S : Sh} {Q : SkQ} (ha : S.1 a = 5) : Wp 156 1 ls (.ref a :: st) I J R S Q = Wp 156 4 ls (.int (I a 2) :: st) I J R S Q := o_getfieldI (show sk_lkF (sk_cl 156) 22 = some (5, 2, 0, 0, 0) by decide +kernel) k_C_readCommandWord_1 ha
theorem k_C_readCommandWord_4 : decode (sk_by 156) 4 = .ok (.istore_n 1, 1) := by decide +kernel
theorem x_C_readCommandWord_4 {st : List Value} {l0 : Nat} {x : Int32} {I : MI} {J : MJ} {R : MR} {S : Sh} {Q : SkQ} : Wp 156 4 [.ref l0, nov, nov] (.int x :: st) I J R S Q = Wp 156 5 [.ref l0, .int x, nov] st I J R S Q := o_istore_n (Nat.le_of_ble_eq_true rfl) rfl k_C_readCommandWord_4
theorem k_C_readCommandWord_5 : decode (sk_by 156) 5 = .ok (.iconst 0, 1) := by decide +kernel
theorem x_C_readCommandWord_5 {ls st : List Value} {I : MI} {J : MJ} {R : MR} {S : Sh} {Q : SkQ} : Wp 156 5 ls st I J R S Q = Wp 156 6 ls (.int 0 :: st) I J R S Q := o_const (by decide) k_C_readCommandWord_5
theorem k_C_readCommandWord_6 : decode (sk_by 156) 6 = .ok (.istore_n 2, 1) := by decide +kernel
theorem x_C_readCommandWord_6 {st : List Value} {l0 : Nat} {l1 : Int32} {x : Int32} {I : MI} {J : MJ} {R : MR} {S : Sh} {Q : SkQ} : Wp 156 6 [.ref l0, .int l1, nov] (.int x :: st) I J R S Q = Wp 156 7 [.ref l0, .int l1, .int x] st I J R S Q := o_istore_n (Nat.le_of_ble_eq_true rfl) rfl k_C_readCommandWord_6
theorem k_C_readCommandWord_7 : decode (sk_by 156) 7 = .ok (.iload_n 2, 1) := by decide +kernel
theorem x_C_readCommandWord_7 {st : List Value} {l0 : Nat} {l1 : Int32} {x : Int32} {I : MI} {J : MJ} {R : MR} {S : Sh} {Q : SkQ} : Wp 156 7 [.ref l0, .int l1, .int x] st I J R S Q = Wp 156 8 [.ref l0, .int l1, .int x] (.int x :: st) I J R S Q := o_iload_n rfl k_C_readCommandWord_7
theorem k_C_readCommandWord_8 : decode (sk_by 156) 8 = .ok (.sipush 150, 3) := by decide +kernel
theorem x_C_readCommandWord_8 {ls st : List Value} {I : MI} {J : MJ} {R : MR} {S : Sh} {Q : SkQ} : Wp 156 8 ls st I J R S Q = Wp 156 11 ls (.int 150 :: st) I J R S Q := o_si (by decide) k_C_readCommandWord_8
theorem k_C_readCommandWord_11 : decode (sk_by 156) 11 = .ok (.if_icmp .ge 26, 3) := by decide +kernel
theorem x_C_readCommandWord_11 {ls st : List Value} {x y : Int32} {I : MI} {J : MJ} {R : MR} {S : Sh} {Q : SkQ} : Wp 156 11 ls (.int y :: .int x :: st) I J R S Q = if x < y then Wp 156 14 ls st I J R S Q else Wp 156 37 ls st I J R S Q := o_ic_ge rfl rfl k_C_readCommandWord_11
theorem k_C_readCommandWord_14 : decode (sk_by 156) 14 = .ok (.aload_n 0, 1) := by decide +kernel
theorem x_C_readCommandWord_14 {st : List Value} {l1 : Int32} {l2 : Int32} {x : Nat} {I : MI} {J : MJ} {R : MR} {S : Sh} {Q : SkQ} : Wp 156 14 [.ref x, .int l1, .int l2] st I J R S Q = Wp 156 15 [.ref x, .int l1, .int l2] (.ref x :: st) I J R S Q := o_aload_n rfl k_C_readCommandWord_14
theorem k_C_readCommandWord_15 : decode (sk_by 156) 15 = .ok (.invokevirtual 77, 3) := by decide +kernel
theorem x_C_readCommandWord_15 {ls : List Value} {a0 : Nat} {I : MI} {J : MJ} {R : MR} {S : Sh} {Q : SkQ} (ha : S.1 a0 = 5) : Wp 156 15 ls (.ref a0 :: []) I J R S Q = Wp 164 0 [.ref a0] [] I J R S (Ret 156 15 18 164 ls [] Q) := o_call (as := [.ref a0]) (rest := []) (show sk_lkM (sk_cl 156) 77 = some 164 by decide +kernel) (by decide) (by decide) (by (decide +kernel)) (ins := .invokevirtual 77) (by (decide +kernel)) k_C_readCommandWord_15 rfl (show 1 = sk_na 164 by (decide +kernel)) (Nat.le_of_ble_eq_true rfl) (Nat.le_trans (show (argL [.ref a0]).length ≤ 1 from Nat.le_of_ble_eq_true rfl) (by (decide +kernel))) (rcv_of (by (decide +kernel)) (by decide) ha)
theorem k_C_readCommandWord_18 : decode (sk_by 156) 18 = .ok (.ifCond .eq 19, 3) := by decide +kernel
theorem x_C_readCommandWord_18 {ls st : List Value} {x : Int32} {I : MI} {J : MJ} {R : MR} {S : Sh} {Q : SkQ} : Wp 156 18 ls (.int x :: st) I J R S Q = if x = 0 then Wp 156 37 ls st I J R S Q else Wp 156 21 ls st I J R S Q := o_if_eq rfl rfl k_C_readCommandWord_18
theorem k_C_readCommandWord_21 : decode (sk_by 156) 21 = .ok (.aload_n 0, 1) := by decide +kernel
theorem x_C_readCommandWord_21 {st : List Value} {l1 : Int32} {l2 : Int32} {x : Nat} {I : MI} {J : MJ} {R : MR} {S : Sh} {Q : SkQ} : Wp 156 21 [.ref x, .int l1, .int l2] st I J R S Q = Wp 156 22 [.ref x, .int l1, .int l2] (.ref x :: st) I J R S Q := o_aload_n rfl k_C_readCommandWord_21
theorem k_C_readCommandWord_22 : decode (sk_by 156) 22 = .ok (.dup, 1) := by decide +kernel
theorem x_C_readCommandWord_22 {ls st : List Value} {x : Nat} {I : MI} {J : MJ} {R : MR} {S : Sh} {Q : SkQ} : Wp 156 22 ls (.ref x :: st) I J R S Q = Wp 156 23 ls (.ref x :: .ref x :: st) I J R S Q := o_dupR k_C_readCommandWord_22
theorem k_C_readCommandWord_23 : decode (sk_by 156) 23 = .ok (.getfield 22, 3) := by decide +kernel
theorem x_C_readCommandWord_23 {ls st : List Value} {a : Nat} {I : MI} {J : MJ} {R : MR} {S : Sh} {Q : SkQ} (ha : S.1 a = 5) : Wp 156 23 ls (.ref a :: st) I J R S Q = Wp 156 26 ls (.int (I a 2) :: st) I J R S Q := o_getfieldI (show sk_lkF (sk_cl 156) 22 = some (5, 2, 0, 0, 0) by decide +kernel) k_C_readCommandWord_23 ha
theorem k_C_readCommandWord_26 : decode (sk_by 156) 26 = .ok (.iconst 1, 1) := by decide +kernel
theorem x_C_readCommandWord_26 {ls st : List Value} {I : MI} {J : MJ} {R : MR} {S : Sh} {Q : SkQ} : Wp 156 26 ls st I J R S Q = Wp 156 27 ls (.int 1 :: st) I J R S Q := o_const (by decide) k_C_readCommandWord_26
theorem k_C_readCommandWord_27 : decode (sk_by 156) 27 = .ok (.iadd, 1) := by decide +kernel
theorem x_C_readCommandWord_27 {ls st : List Value} {x y : Int32} {I : MI} {J : MJ} {R : MR} {S : Sh} {Q : SkQ} : Wp 156 27 ls (.int y :: .int x :: st) I J R S Q = Wp 156 28 ls (.int (x + y) :: st) I J R S Q := o_iadd k_C_readCommandWord_27
theorem k_C_readCommandWord_28 : decode (sk_by 156) 28 = .ok (.putfield 22, 3) := by decide +kernel
theorem x_C_readCommandWord_28 {ls st : List Value} {a : Nat} {x : Int32} {I : MI} {J : MJ} {R : MR} {S : Sh} {Q : SkQ} (ha : S.1 a = 5) : Wp 156 28 ls (.int x :: .ref a :: st) I J R S Q = Wp 156 31 ls st (u2 I a 2 x) J R S Q := o_putfieldI (show sk_lkF (sk_cl 156) 22 = some (5, 2, 0, 0, 0) by decide +kernel) (by decide) (by (decide +kernel)) k_C_readCommandWord_28 ha
theorem k_C_readCommandWord_31 : decode (sk_by 156) 31 = .ok (.iinc 2 1, 3) := by decide +kernel
theorem x_C_readCommandWord_31 {st : List Value} {l0 : Nat} {l1 : Int32} {x : Int32} {I : MI} {J : MJ} {R : MR} {S : Sh} {Q : SkQ} : Wp 156 31 [.ref l0, .int l1, .int x] st I J R S Q = Wp 156 34 [.ref l0, .int l1, .int (x + 1)] st I J R S Q := o_inc (by decide) rfl (Nat.le_of_ble_eq_true rfl) rfl k_C_readCommandWord_31
theorem k_C_readCommandWord_34 : decode (sk_by 156) 34 = .ok (.goto (-27), 3) := by decide +kernel
theorem x_C_readCommandWord_34 {ls st : List Value} {I : MI} {J : MJ} {R : MR} {S : Sh} {Q : SkQ} : Wp 156 34 ls st I J R S Q = Wp 156 7 ls st I J R S Q := o_goto rfl rfl k_C_readCommandWord_34
theorem k_C_readCommandWord_37 : decode (sk_by 156) 37 = .ok (.iconst 0, 1) := by decide +kernel
theorem x_C_readCommandWord_37 {ls st : List Value} {I : MI} {J : MJ} {R : MR} {S : Sh} {Q : SkQ} : Wp 156 37 ls st I J R S Q = Wp 156 38 ls (.int 0 :: st) I J R S Q := o_const (by decide) k_C_readCommandWord_37
theorem k_C_readCommandWord_38 : decode (sk_by 156) 38 = .ok (.istore_n 2, 1) := by decide +kernel
theorem x_C_readCommandWord_38 {st : List Value} {l0 : Nat} {l1 : Int32} {l2 : Int32} {x : Int32} {I : MI} {J : MJ} {R : MR} {S : Sh} {Q : SkQ} : Wp 156 38 [.ref l0, .int l1, .int l2] (.int x :: st) I J R S Q = Wp 156 39 [.ref l0, .int l1, .int x] st I J R S Q := o_istore_n (Nat.le_of_ble_eq_true rfl) rfl k_C_readCommandWord_38
theorem k_C_readCommandWord_39 : decode (sk_by 156) 39 = .ok (.iload_n 2, 1) := by decide +kernel
theorem x_C_readCommandWord_39 {st : List Value} {l0 : Nat} {l1 : Int32} {x : Int32} {I : MI} {J : MJ} {R : MR} {S : Sh} {Q : SkQ} : Wp 156 39 [.ref l0, .int l1, .int x] st I J R S Q = Wp 156 40 [.ref l0, .int l1, .int x] (.int x :: st) I J R S Q := o_iload_n rfl k_C_readCommandWord_39
theorem k_C_readCommandWord_40 : decode (sk_by 156) 40 = .ok (.getstatic 80, 3) := by decide +kernel
theorem x_C_readCommandWord_40 {ls st : List Value} {I : MI} {J : MJ} {R : MR} {S : Sh} {Q : SkQ} : Wp 156 40 ls st I J R S Q = Wp 156 43 ls (.ref 2 :: st) I J R S Q := o_getstatic (show sk_lkS (sk_cl 156) 80 = some 2 by decide +kernel) rfl k_C_readCommandWord_40
theorem k_C_readCommandWord_43 : decode (sk_by 156) 43 = .ok (.arraylength, 1) := by decide +kernel
theorem x_C_readCommandWord_43 {ls st : List Value} {a : Nat} {I : MI} {J : MJ} {R : MR} {S : Sh} {Q : SkQ} (ha : isArr (S.1 a) = true) : Wp 156 43 ls (.ref a :: st) I J R S Q = Wp 156 44 ls (.int (nI (S.2.1 a)) :: st) I J R S Q := o_arraylength k_C_readCommandWord_43 ha
theorem k_C_readCommandWord_44 : decode (sk_by 156) 44 = .ok (.if_icmp .ge 35, 3) := by decide +kernel
theorem x_C_readCommandWord_44 {ls st : List Value} {x y : Int32} {I : MI} {J : MJ} {R : MR} {S : Sh} {Q : SkQ} : Wp 156 44 ls (.int y :: .int x :: st) I J R S Q = if x < y then Wp 156 47 ls st I J R S Q else Wp 156 79 ls st I J R S Q := o_ic_ge rfl rfl k_C_readCommandWord_44
theorem k_C_readCommandWord_47 : decode (sk_by 156) 47 = .ok (.aload_n 0, 1) := by decide +kernel
theorem x_C_readCommandWord_47 {st : List Value} {l1 : Int32} {l2 : Int32} {x : Nat} {I : MI} {J : MJ} {R : MR} {S : Sh} {Q : SkQ} : Wp 156 47 [.ref x, .int l1, .int l2] st I J R S Q = Wp 156 48 [.ref x, .int l1, .int l2] (.ref x :: st) I J R S Q := o_aload_n rfl k_C_readCommandWord_47
theorem k_C_readCommandWord_48 : decode (sk_by 156) 48 = .ok (.getstatic 80, 3) := by decide +kernel
theorem x_C_readCommandWord_48 {ls st : List Value} {I : MI} {J : MJ} {R : MR} {S : Sh} {Q : SkQ} : Wp 156 48 ls st I J R S Q = Wp 156 51 ls (.ref 2 :: st) I J R S Q := o_getstatic (show sk_lkS (sk_cl 156) 80 = some 2 by decide +kernel) rfl k_C_readCommandWord_48
theorem k_C_readCommandWord_51 : decode (sk_by 156) 51 = .ok (.iload_n 2, 1) := by decide +kernel
theorem x_C_readCommandWord_51 {st : List Value} {l0 : Nat} {l1 : Int32} {x : Int32} {I : MI} {J : MJ} {R : MR} {S : Sh} {Q : SkQ} : Wp 156 51 [.ref l0, .int l1, .int x] st I J R S Q = Wp 156 52 [.ref l0, .int l1, .int x] (.int x :: st) I J R S Q := o_iload_n rfl k_C_readCommandWord_51
theorem k_C_readCommandWord_52 : decode (sk_by 156) 52 = .ok (.aaload, 1) := by decide +kernel
theorem x_C_readCommandWord_52 {ls st : List Value} {a : Nat} {i : Int32} {I : MI} {J : MJ} {R : MR} {S : Sh} {Q : SkQ} (ha : S.1 a = 33 ∨ S.1 a = 43) (hi : inb i (S.2.1 a) = true) : Wp 156 52 ls (.int i :: .ref a :: st) I J R S Q = Wp 156 53 ls (R a (ix i) :: st) I J R S Q := o_aaload k_C_readCommandWord_52 ha hi
theorem k_C_readCommandWord_53 : decode (sk_by 156) 53 = .ok (.getfield 84, 3) := by decide +kernel
theorem x_C_readCommandWord_53 {ls st : List Value} {a : Nat} {I : MI} {J : MJ} {R : MR} {S : Sh} {Q : SkQ} (ha : S.1 a = 20) : Wp 156 53 ls (.ref a :: st) I J R S Q = Wp 156 56 ls (R a 1 :: st) I J R S Q := o_getfieldR (show sk_lkF (sk_cl 156) 84 = some (20, 1, 2, 1, 1) by decide +kernel) k_C_readCommandWord_53 ha
theorem k_C_readCommandWord_56 : decode (sk_by 156) 56 = .ok (.iload_n 1, 1) := by decide +kernel
theorem x_C_readCommandWord_56 {st : List Value} {l0 : Nat} {l2 : Int32} {x : Int32} {I : MI} {J : MJ} {R : MR} {S : Sh} {Q : SkQ} : Wp 156 56 [.ref l0, .int x, .int l2] st I J R S Q = Wp 156 57 [.ref l0, .int x, .int l2] (.int x :: st) I J R S Q := o_iload_n rfl k_C_readCommandWord_56
theorem k_C_readCommandWord_57 : decode (sk_by 156) 57 = .ok (.aload_n 0, 1) := by decide +kernel
theorem x_C_readCommandWord_57 {st : List Value} {l1 : Int32} {l2 : Int32} {x : Nat} {I : MI} {J : MJ} {R : MR} {S : Sh} {Q : SkQ} : Wp 156 57 [.ref x, .int l1, .int l2] st I J R S Q = Wp 156 58 [.ref x, .int l1, .int l2] (.ref x :: st) I J R S Q := o_aload_n rfl k_C_readCommandWord_57
theorem k_C_readCommandWord_58 : decode (sk_by 156) 58 = .ok (.getfield 22, 3) := by decide +kernel
theorem x_C_readCommandWord_58 {ls st : List Value} {a : Nat} {I : MI} {J : MJ} {R : MR} {S : Sh} {Q : SkQ} (ha : S.1 a = 5) : Wp 156 58 ls (.ref a :: st) I J R S Q = Wp 156 61 ls (.int (I a 2) :: st) I J R S Q := o_getfieldI (show sk_lkF (sk_cl 156) 22 = some (5, 2, 0, 0, 0) by decide +kernel) k_C_readCommandWord_58 ha
theorem k_C_readCommandWord_61 : decode (sk_by 156) 61 = .ok (.invokevirtual 88, 3) := by decide +kernel
theorem x_C_readCommandWord_61 {ls : List Value} {a0 : Nat} {a1 : Nat} {a2 : Int32} {a3 : Int32} {I : MI} {J : MJ} {R : MR} {S : Sh} {Q : SkQ} (ha : S.1 a0 = 5) : Wp 156 61 ls (.int a3 :: .int a2 :: .ref a1 :: .ref a0 :: []) I J R S Q = Wp 157 0 [.ref a0, .ref a1, .int a2, .int a3, nov] [] I J R S (Ret 156 61 64 157 ls [] Q) := o_call (as := [.ref a0, .ref a1, .int a2, .int a3]) (rest := []) (show sk_lkM (sk_cl 156) 88 = some 157 by decide +kernel) (by decide) (by decide) (by (decide +kernel)) (ins := .invokevirtual 88) (by (decide +kernel)) k_C_readCommandWord_61 rfl (show 4 = sk_na 157 by (decide +kernel)) (Nat.le_of_ble_eq_true rfl) (Nat.le_trans (show (argL [.ref a0, .ref a1, .int a2, .int a3]).length ≤ 5 from Nat.le_of_ble_eq_true rfl) (by (decide +kernel))) (rcv_of (by (decide +kernel)) (by decide) ha)
theorem k_C_readCommandWord_64 : decode (sk_by 156) 64 = .ok (.ifCond .eq 9, 3) := by decide +kernel
theorem x_C_readCommandWord_64 {ls st : List Value} {x : Int32} {I : MI} {J : MJ} {R : MR} {S : Sh} {Q : SkQ} : Wp 156 64 ls (.int x :: st) I J R S Q = if x = 0 then Wp 156 73 ls st I J R S Q else Wp 156 67 ls st I J R S Q := o_if_eq rfl rfl k_C_readCommandWord_64
theorem k_C_readCommandWord_67 : decode (sk_by 156) 67 = .ok (.getstatic 80, 3) := by decide +kernel
theorem x_C_readCommandWord_67 {ls st : List Value} {I : MI} {J : MJ} {R : MR} {S : Sh} {Q : SkQ} : Wp 156 67 ls st I J R S Q = Wp 156 70 ls (.ref 2 :: st) I J R S Q := o_getstatic (show sk_lkS (sk_cl 156) 80 = some 2 by decide +kernel) rfl k_C_readCommandWord_67
theorem k_C_readCommandWord_70 : decode (sk_by 156) 70 = .ok (.iload_n 2, 1) := by decide +kernel
theorem x_C_readCommandWord_70 {st : List Value} {l0 : Nat} {l1 : Int32} {x : Int32} {I : MI} {J : MJ} {R : MR} {S : Sh} {Q : SkQ} : Wp 156 70 [.ref l0, .int l1, .int x] st I J R S Q = Wp 156 71 [.ref l0, .int l1, .int x] (.int x :: st) I J R S Q := o_iload_n rfl k_C_readCommandWord_70
theorem k_C_readCommandWord_71 : decode (sk_by 156) 71 = .ok (.aaload, 1) := by decide +kernel
theorem x_C_readCommandWord_71 {ls st : List Value} {a : Nat} {i : Int32} {I : MI} {J : MJ} {R : MR} {S : Sh} {Q : SkQ} (ha : S.1 a = 33 ∨ S.1 a = 43) (hi : inb i (S.2.1 a) = true) : Wp 156 71 ls (.int i :: .ref a :: st) I J R S Q = Wp 156 72 ls (R a (ix i) :: st) I J R S Q := o_aaload k_C_readCommandWord_71 ha hi
theorem k_C_readCommandWord_72 : decode (sk_by 156) 72 = .ok (.areturn, 1) := by decide +kernel
theorem x_C_readCommandWord_72 {ls : List Value} {v : Nat} {I : MI} {J : MJ} {R : MR} {S : Sh} {Q : SkQ} : Wp 156 72 ls [.ref v] I J R S Q = Q 0 (some (.ref v)) I J R S := o_areturnR (by (decide +kernel)) k_C_readCommandWord_72
theorem x_C_readCommandWord_72N {ls : List Value} {I : MI} {J : MJ} {R : MR} {S : Sh} {Q : SkQ} : Wp 156 72 ls [.null] I J R S Q = Q 0 (some .null) I J R S := o_areturnN (by (decide +kernel)) k_C_readCommandWord_72
theorem k_C_readCommandWord_73 : decode (sk_by 156) 73 = .ok (.iinc 2 1, 3) := by decide +kernel
theorem x_C_readCommandWord_73 {st : List Value} {l0 : Nat} {l1 : Int32} {x : Int32} {I : MI} {J : MJ} {R : MR} {S : Sh} {Q : SkQ} : Wp 156 73 [.ref l0, .int l1, .int x] st I J R S Q = Wp 156 76 [.ref l0, .int l1, .int (x + 1)] st I J R S Q := o_inc (by decide) rfl (Nat.le_of_ble_eq_true rfl) rfl k_C_readCommandWord_73
theorem k_C_readCommandWord_76 : decode (sk_by 156) 76 = .ok (.goto (-37), 3) := by decide +kernel
theorem x_C_readCommandWord_76 {ls st : List Value} {I : MI} {J : MJ} {R : MR} {S : Sh} {Q : SkQ} : Wp 156 76 ls st I J R S Q = Wp 156 39 ls st I J R S Q := o_goto rfl rfl k_C_readCommandWord_76
theorem k_C_readCommandWord_79 : decode (sk_by 156) 79 = .ok (.aload_n 0, 1) := by decide +kernel
theorem x_C_readCommandWord_79 {st : List Value} {l1 : Int32} {l2 : Int32} {x : Nat} {I : MI} {J : MJ} {R : MR} {S : Sh} {Q : SkQ} : Wp 156 79 [.ref x, .int l1, .int l2] st I J R S Q = Wp 156 80 [.ref x, .int l1, .int l2] (.ref x :: st) I J R S Q := o_aload_n rfl k_C_readCommandWord_79
theorem k_C_readCommandWord_80 : decode (sk_by 156) 80 = .ok (.iload_n 1, 1) := by decide +kernel
theorem x_C_readCommandWord_80 {st : List Value} {l0 : Nat} {l2 : Int32} {x : Int32} {I : MI} {J : MJ} {R : MR} {S : Sh} {Q : SkQ} : Wp 156 80 [.ref l0, .int x, .int l2] st I J R S Q = Wp 156 81 [.ref l0, .int x, .int l2] (.int x :: st) I J R S Q := o_iload_n rfl k_C_readCommandWord_80
theorem k_C_readCommandWord_81 : decode (sk_by 156) 81 = .ok (.putfield 15, 3) := by decide +kernel
theorem x_C_readCommandWord_81 {ls st : List Value} {a : Nat} {x : Int32} {I : MI} {J : MJ} {R : MR} {S : Sh} {Q : SkQ} (ha : S.1 a = 5) : Wp 156 81 ls (.int x :: .ref a :: st) I J R S Q = Wp 156 84 ls st (u2 I a 3 x) J R S Q := o_putfieldI (show sk_lkF (sk_cl 156) 15 = some (5, 3, 0, 0, 0) by decide +kernel) (by decide) (by (decide +kernel)) k_C_readCommandWord_81 ha
theorem k_C_readCommandWord_84 : decode (sk_by 156) 84 = .ok (.aconst_null, 1) := by decide +kernel
theorem x_C_readCommandWord_84 {ls st : List Value} {I : MI} {J : MJ} {R : MR} {S : Sh} {Q : SkQ} : Wp 156 84 ls st I J R S Q = Wp 156 85 ls (.null :: st) I J R S Q := o_aconst_null k_C_readCommandWord_84
theorem k_C_readCommandWord_85 : decode (sk_by 156) 85 = .ok (.areturn, 1) := by decide +kernel
theorem x_C_readCommandWord_85 {ls : List Value} {v : Nat} {I : MI} {J : MJ} {R : MR} {S : Sh} {Q : SkQ} : Wp 156 85 ls [.ref v] I J R S Q = Q 0 (some (.ref v)) I J R S := o_areturnR (by (decide +kernel)) k_C_readCommandWord_85
theorem x_C_readCommandWord_85N {ls : List Value} {I : MI} {J : MJ} {R : MR} {S : Sh} {Q : SkQ} : Wp 156 85 ls [.null] I J R S Q = Q 0 (some .null) I J R S := o_areturnN (by (decide +kernel)) k_C_readCommandWord_85
theorem k_C_isWritten_0 : decode (sk_by 157) 0 = .ok (.aload_n 1, 1) := by decide +kernel
theorem x_C_isWritten_0 {st : List Value} {l0 : Nat} {l2 : Int32} {l3 : Int32} {x : Nat} {I : MI} {J : MJ} {R : MR} {S : Sh} {Q : SkQ} : Wp 157 0 [.ref l0, .ref x, .int l2, .int l3, nov] st I J R S Q = Wp 157 1 [.ref l0, .ref x, .int l2, .int l3, nov] (.ref x :: st) I J R S Q := o_aload_n rfl k_C_isWritten_0
theorem k_C_isWritten_1 : decode (sk_by 157) 1 = .ok (.invokevirtual 92, 3) := by decide +kernel
theorem x_C_isWritten_1 {ls : List Value} {a0 : Nat} {I : MI} {J : MJ} {R : MR} {S : Sh} {Q : SkQ} (ha : S.1 a0 = 21) : Wp 157 1 ls (.ref a0 :: []) I J R S Q = Wp 254 0 [.ref a0] [] I J R S (Ret 157 1 4 254 ls [] Q) := o_call (as := [.ref a0]) (rest := []) (show sk_lkM (sk_cl 157) 92 = some 254 by decide +kernel) (by decide) (by decide) (by (decide +kernel)) (ins := .invokevirtual 92) (by (decide +kernel)) k_C_isWritten_1 rfl (show 1 = sk_na 254 by (decide +kernel)) (Nat.le_of_ble_eq_true rfl) (Nat.le_trans (show (argL [.ref a0]).length ≤ 1 from Nat.le_of_ble_eq_true rfl) (by (decide +kernel))) (rcv_of (by (decide +kernel)) (by decide) ha)
theorem k_C_isWritten_4 : decode (sk_by 157) 4 = .ok (.iload_n 3, 1) := by decide +kernel
theorem x_C_isWritten_4 {st : List Value} {l0 : Nat} {l1 : Nat} {l2 : Int32} {x : Int32} {I : MI} {J : MJ} {R : MR} {S : Sh} {Q : SkQ} : Wp 157 4 [.ref l0, .ref l1, .int l2, .int x, nov] st I J R S Q = Wp 157 5 [.ref l0, .ref l1, .int l2, .int x, nov] (.int x :: st) I J R S Q := o_iload_n rfl k_C_isWritten_4
theorem k_C_isWritten_5 : decode (sk_by 157) 5 = .ok (.iload_n 2, 1) := by decide +kernel
theorem x_C_isWritten_5 {st : List Value} {l0 : Nat} {l1 : Nat} {l3 : Int32} {x : Int32} {I : MI} {J : MJ} {R : MR} {S : Sh} {Q : SkQ} : Wp 157 5 [.ref l0, .ref l1, .int x, .int l3, nov] st I J R S Q = Wp 157 6 [.ref l0, .ref l1, .int x, .int l3, nov] (.int x :: st) I J R S Q := o_iload_n rfl k_C_isWritten_5
theorem k_C_isWritten_6 : decode (sk_by 157) 6 = .ok (.isub, 1) := by decide +kernel
theorem x_C_isWritten_6 {ls st : List Value} {x y : Int32} {I : MI} {J : MJ} {R : MR} {S : Sh} {Q : SkQ} : Wp 157 6 ls (.int y :: .int x :: st) I J R S Q = Wp 157 7 ls (.int (x - y) :: st) I J R S Q := o_isub k_C_isWritten_6
theorem k_C_isWritten_7 : decode (sk_by 157) 7 = .ok (.if_icmp .eq 5, 3) := by decide +kernel
theorem x_C_isWritten_7 {ls st : List Value} {x y : Int32} {I : MI} {J : MJ} {R : MR} {S : Sh} {Q : SkQ} : Wp 157 7 ls (.int y :: .int x :: st) I J R S Q = if x = y then Wp 157 12 ls st I J R S Q else Wp 157 10 ls st I J R S Q := o_ic_eq rfl rfl k_C_isWritten_7
theorem k_C_isWritten_10 : decode (sk_by 157) 10 = .ok (.iconst 0, 1) := by decide +kernel
theorem x_C_isWritten_10 {ls st : List Value} {I : MI} {J : MJ} {R : MR} {S : Sh} {Q : SkQ} : Wp 157 10 ls st I J R S Q = Wp 157 11 ls (.int 0 :: st) I J R S Q := o_const (by decide) k_C_isWritten_10
theorem k_C_isWritten_11 : decode (sk_by 157) 11 = .ok (.ireturn, 1) := by decide +kernel
theorem x_C_isWritten_11 {ls : List Value} {v : Int32} {I : MI} {J : MJ} {R : MR} {S : Sh} {Q : SkQ} (h : rOk (some .boolean) v = true) : Wp 157 11 ls [.int v] I J R S Q = Q 0 (some (.int v)) I J R S := o_ireturn k_C_isWritten_11 (by rw [show sk_rt 157 = some .boolean from rfl]; exact h)
theorem k_C_isWritten_12 : decode (sk_by 157) 12 = .ok (.iconst 0, 1) := by decide +kernel
theorem x_C_isWritten_12 {ls st : List Value} {I : MI} {J : MJ} {R : MR} {S : Sh} {Q : SkQ} : Wp 157 12 ls st I J R S Q = Wp 157 13 ls (.int 0 :: st) I J R S Q := o_const (by decide) k_C_isWritten_12
theorem k_C_isWritten_13 : decode (sk_by 157) 13 = .ok (.istore 4, 2) := by decide +kernel
theorem x_C_isWritten_13 {st : List Value} {l0 : Nat} {l1 : Nat} {l2 : Int32} {l3 : Int32} {x : Int32} {I : MI} {J : MJ} {R : MR} {S : Sh} {Q : SkQ} : Wp 157 13 [.ref l0, .ref l1, .int l2, .int l3, nov] (.int x :: st) I J R S Q = Wp 157 15 [.ref l0, .ref l1, .int l2, .int l3, .int x] st I J R S Q := o_istore (Nat.le_of_ble_eq_true rfl) rfl k_C_isWritten_13
theorem k_C_isWritten_15 : decode (sk_by 157) 15 = .ok (.iload 4, 2) := by decide +kernel
theorem x_C_isWritten_15 {st : List Value} {l0 : Nat} {l1 : Nat} {l2 : Int32} {l3 : Int32} {x : Int32} {I : MI} {J : MJ} {R : MR} {S : Sh} {Q : SkQ} : Wp 157 15 [.ref l0, .ref l1, .int l2, .int l3, .int x] st I J R S Q = Wp 157 17 [.ref l0, .ref l1, .int l2, .int l3, .int x] (.int x :: st) I J R S Q := o_iload rfl k_C_isWritten_15
theorem k_C_isWritten_17 : decode (sk_by 157) 17 = .ok (.aload_n 1, 1) := by decide +kernel
theorem x_C_isWritten_17 {st : List Value} {l0 : Nat} {l2 : Int32} {l3 : Int32} {l4 : Int32} {x : Nat} {I : MI} {J : MJ} {R : MR} {S : Sh} {Q : SkQ} : Wp 157 17 [.ref l0, .ref x, .int l2, .int l3, .int l4] st I J R S Q = Wp 157 18 [.ref l0, .ref x, .int l2, .int l3, .int l4] (.ref x :: st) I J R S Q := o_aload_n rfl k_C_isWritten_17
theorem k_C_isWritten_18 : decode (sk_by 157) 18 = .ok (.invokevirtual 92, 3) := by decide +kernel
theorem x_C_isWritten_18 {ls : List Value} {a0 : Nat} {s0 : Int32} {I : MI} {J : MJ} {R : MR} {S : Sh} {Q : SkQ} (ha : S.1 a0 = 21) : Wp 157 18 ls (.ref a0 :: [.int s0]) I J R S Q = Wp 254 0 [.ref a0] [] I J R S (Ret 157 18 21 254 ls [.int s0] Q) := o_call (as := [.ref a0]) (rest := [.int s0]) (show sk_lkM (sk_cl 157) 92 = some 254 by decide +kernel) (by decide) (by decide) (by (decide +kernel)) (ins := .invokevirtual 92) (by (decide +kernel)) k_C_isWritten_18 rfl (show 1 = sk_na 254 by (decide +kernel)) (Nat.le_of_ble_eq_true rfl) (Nat.le_trans (show (argL [.ref a0]).length ≤ 1 from Nat.le_of_ble_eq_true rfl) (by (decide +kernel))) (rcv_of (by (decide +kernel)) (by decide) ha)
theorem k_C_isWritten_21 : decode (sk_by 157) 21 = .ok (.if_icmp .ge 28, 3) := by decide +kernel
theorem x_C_isWritten_21 {ls st : List Value} {x y : Int32} {I : MI} {J : MJ} {R : MR} {S : Sh} {Q : SkQ} : Wp 157 21 ls (.int y :: .int x :: st) I J R S Q = if x < y then Wp 157 24 ls st I J R S Q else Wp 157 49 ls st I J R S Q := o_ic_ge rfl rfl k_C_isWritten_21
theorem k_C_isWritten_24 : decode (sk_by 157) 24 = .ok (.aload_n 1, 1) := by decide +kernel
theorem x_C_isWritten_24 {st : List Value} {l0 : Nat} {l2 : Int32} {l3 : Int32} {l4 : Int32} {x : Nat} {I : MI} {J : MJ} {R : MR} {S : Sh} {Q : SkQ} : Wp 157 24 [.ref l0, .ref x, .int l2, .int l3, .int l4] st I J R S Q = Wp 157 25 [.ref l0, .ref x, .int l2, .int l3, .int l4] (.ref x :: st) I J R S Q := o_aload_n rfl k_C_isWritten_24
theorem k_C_isWritten_25 : decode (sk_by 157) 25 = .ok (.iload 4, 2) := by decide +kernel
theorem x_C_isWritten_25 {st : List Value} {l0 : Nat} {l1 : Nat} {l2 : Int32} {l3 : Int32} {x : Int32} {I : MI} {J : MJ} {R : MR} {S : Sh} {Q : SkQ} : Wp 157 25 [.ref l0, .ref l1, .int l2, .int l3, .int x] st I J R S Q = Wp 157 27 [.ref l0, .ref l1, .int l2, .int l3, .int x] (.int x :: st) I J R S Q := o_iload rfl k_C_isWritten_25
theorem k_C_isWritten_27 : decode (sk_by 157) 27 = .ok (.invokevirtual 96, 3) := by decide +kernel
theorem x_C_isWritten_27 {ls : List Value} {a0 : Nat} {a1 : Int32} {I : MI} {J : MJ} {R : MR} {S : Sh} {Q : SkQ} (ha : S.1 a0 = 21) : Wp 157 27 ls (.int a1 :: .ref a0 :: []) I J R S Q = Wp 255 0 [.ref a0, .int a1] [] I J R S (Ret 157 27 30 255 ls [] Q) := o_call (as := [.ref a0, .int a1]) (rest := []) (show sk_lkM (sk_cl 157) 96 = some 255 by decide +kernel) (by decide) (by decide) (by (decide +kernel)) (ins := .invokevirtual 96) (by (decide +kernel)) k_C_isWritten_27 rfl (show 2 = sk_na 255 by (decide +kernel)) (Nat.le_of_ble_eq_true rfl) (Nat.le_trans (show (argL [.ref a0, .int a1]).length ≤ 2 from Nat.le_of_ble_eq_true rfl) (by (decide +kernel))) (rcv_of (by (decide +kernel)) (by decide) ha)
theorem k_C_isWritten_30 : decode (sk_by 157) 30 = .ok (.aload_n 0, 1) := by decide +kernel
theorem x_C_isWritten_30 {st : List Value} {l1 : Nat} {l2 : Int32} {l3 : Int32} {l4 : Int32} {x : Nat} {I : MI} {J : MJ} {R : MR} {S : Sh} {Q : SkQ} : Wp 157 30 [.ref x, .ref l1, .int l2, .int l3, .int l4] st I J R S Q = Wp 157 31 [.ref x, .ref l1, .int l2, .int l3, .int l4] (.ref x :: st) I J R S Q := o_aload_n rfl k_C_isWritten_30
theorem k_C_isWritten_31 : decode (sk_by 157) 31 = .ok (.iload_n 2, 1) := by decide +kernel
theorem x_C_isWritten_31 {st : List Value} {l0 : Nat} {l1 : Nat} {l3 : Int32} {l4 : Int32} {x : Int32} {I : MI} {J : MJ} {R : MR} {S : Sh} {Q : SkQ} : Wp 157 31 [.ref l0, .ref l1, .int x, .int l3, .int l4] st I J R S Q = Wp 157 32 [.ref l0, .ref l1, .int x, .int l3, .int l4] (.int x :: st) I J R S Q := o_iload_n rfl k_C_isWritten_31
theorem k_C_isWritten_32 : decode (sk_by 157) 32 = .ok (.iload 4, 2) := by decide +kernel
theorem x_C_isWritten_32 {st : List Value} {l0 : Nat} {l1 : Nat} {l2 : Int32} {l3 : Int32} {x : Int32} {I : MI} {J : MJ} {R : MR} {S : Sh} {Q : SkQ} : Wp 157 32 [.ref l0, .ref l1, .int l2, .int l3, .int x] st I J R S Q = Wp 157 34 [.ref l0, .ref l1, .int l2, .int l3, .int x] (.int x :: st) I J R S Q := o_iload rfl k_C_isWritten_32
theorem k_C_isWritten_34 : decode (sk_by 157) 34 = .ok (.iadd, 1) := by decide +kernel
theorem x_C_isWritten_34 {ls st : List Value} {x y : Int32} {I : MI} {J : MJ} {R : MR} {S : Sh} {Q : SkQ} : Wp 157 34 ls (.int y :: .int x :: st) I J R S Q = Wp 157 35 ls (.int (x + y) :: st) I J R S Q := o_iadd k_C_isWritten_34
theorem k_C_isWritten_35 : decode (sk_by 157) 35 = .ok (.invokevirtual 100, 3) := by decide +kernel
theorem x_C_isWritten_35 {ls : List Value} {a0 : Nat} {a1 : Int32} {s0 : Int32} {I : MI} {J : MJ} {R : MR} {S : Sh} {Q : SkQ} (ha : S.1 a0 = 5) : Wp 157 35 ls (.int a1 :: .ref a0 :: [.int s0]) I J R S Q = Wp 166 0 [.ref a0, .int a1] [] I J R S (Ret 157 35 38 166 ls [.int s0] Q) := o_call (as := [.ref a0, .int a1]) (rest := [.int s0]) (show sk_lkM (sk_cl 157) 100 = some 166 by decide +kernel) (by decide) (by decide) (by (decide +kernel)) (ins := .invokevirtual 100) (by (decide +kernel)) k_C_isWritten_35 rfl (show 2 = sk_na 166 by (decide +kernel)) (Nat.le_of_ble_eq_true rfl) (Nat.le_trans (show (argL [.ref a0, .int a1]).length ≤ 2 from Nat.le_of_ble_eq_true rfl) (by (decide +kernel))) (rcv_of (by (decide +kernel)) (by decide) ha)
theorem k_C_isWritten_38 : decode (sk_by 157) 38 = .ok (.if_icmp .eq 5, 3) := by decide +kernel
theorem x_C_isWritten_38 {ls st : List Value} {x y : Int32} {I : MI} {J : MJ} {R : MR} {S : Sh} {Q : SkQ} : Wp 157 38 ls (.int y :: .int x :: st) I J R S Q = if x = y then Wp 157 43 ls st I J R S Q else Wp 157 41 ls st I J R S Q := o_ic_eq rfl rfl k_C_isWritten_38
theorem k_C_isWritten_41 : decode (sk_by 157) 41 = .ok (.iconst 0, 1) := by decide +kernel
theorem x_C_isWritten_41 {ls st : List Value} {I : MI} {J : MJ} {R : MR} {S : Sh} {Q : SkQ} : Wp 157 41 ls st I J R S Q = Wp 157 42 ls (.int 0 :: st) I J R S Q := o_const (by decide) k_C_isWritten_41
theorem k_C_isWritten_42 : decode (sk_by 157) 42 = .ok (.ireturn, 1) := by decide +kernel
theorem x_C_isWritten_42 {ls : List Value} {v : Int32} {I : MI} {J : MJ} {R : MR} {S : Sh} {Q : SkQ} (h : rOk (some .boolean) v = true) : Wp 157 42 ls [.int v] I J R S Q = Q 0 (some (.int v)) I J R S := o_ireturn k_C_isWritten_42 (by rw [show sk_rt 157 = some .boolean from rfl]; exact h)
theorem k_C_isWritten_43 : decode (sk_by 157) 43 = .ok (.iinc 4 1, 3) := by decide +kernel
theorem x_C_isWritten_43 {st : List Value} {l0 : Nat} {l1 : Nat} {l2 : Int32} {l3 : Int32} {x : Int32} {I : MI} {J : MJ} {R : MR} {S : Sh} {Q : SkQ} : Wp 157 43 [.ref l0, .ref l1, .int l2, .int l3, .int x] st I J R S Q = Wp 157 46 [.ref l0, .ref l1, .int l2, .int l3, .int (x + 1)] st I J R S Q := o_inc (by decide) rfl (Nat.le_of_ble_eq_true rfl) rfl k_C_isWritten_43
theorem k_C_isWritten_46 : decode (sk_by 157) 46 = .ok (.goto (-31), 3) := by decide +kernel
theorem x_C_isWritten_46 {ls st : List Value} {I : MI} {J : MJ} {R : MR} {S : Sh} {Q : SkQ} : Wp 157 46 ls st I J R S Q = Wp 157 15 ls st I J R S Q := o_goto rfl rfl k_C_isWritten_46
theorem k_C_isWritten_49 : decode (sk_by 157) 49 = .ok (.iconst 1, 1) := by decide +kernel
theorem x_C_isWritten_49 {ls st : List Value} {I : MI} {J : MJ} {R : MR} {S : Sh} {Q : SkQ} : Wp 157 49 ls st I J R S Q = Wp 157 50 ls (.int 1 :: st) I J R S Q := o_const (by decide) k_C_isWritten_49
theorem k_C_isWritten_50 : decode (sk_by 157) 50 = .ok (.ireturn, 1) := by decide +kernel
theorem x_C_isWritten_50 {ls : List Value} {v : Int32} {I : MI} {J : MJ} {R : MR} {S : Sh} {Q : SkQ} (h : rOk (some .boolean) v = true) : Wp 157 50 ls [.int v] I J R S Q = Q 0 (some (.int v)) I J R S := o_ireturn k_C_isWritten_50 (by rw [show sk_rt 157 = some .boolean from rfl]; exact h)
theorem k_C_readWord_0 : decode (sk_by 158) 0 = .ok (.aload_n 0, 1) := by decide +kernel
theorem x_C_readWord_0 {st : List Value} {x : Nat} {I : MI} {J : MJ} {R : MR} {S : Sh} {Q : SkQ} : Wp 158 0 [.ref x, nov, nov, nov] st I J R S Q = Wp 158 1 [.ref x, nov, nov, nov] (.ref x :: st) I J R S Q := o_aload_n rfl k_C_readWord_0
theorem k_C_readWord_1 : decode (sk_by 158) 1 = .ok (.invokevirtual 104, 3) := by decide +kernel
theorem x_C_readWord_1 {ls : List Value} {a0 : Nat} {I : MI} {J : MJ} {R : MR} {S : Sh} {Q : SkQ} (ha : S.1 a0 = 5) : Wp 158 1 ls (.ref a0 :: []) I J R S Q = Wp 160 0 [.ref a0] [] I J R S (Ret 158 1 4 160 ls [] Q) := o_call (as := [.ref a0]) (rest := []) (show sk_lkM (sk_cl 158) 104 = some 160 by decide +kernel) (by decide) (by decide) (by (decide +kernel)) (ins := .invokevirtual 104) (by (decide +kernel)) k_C_readWord_1 rfl (show 1 = sk_na 160 by (decide +kernel)) (Nat.le_of_ble_eq_true rfl) (Nat.le_trans (show (argL [.ref a0]).length ≤ 1 from Nat.le_of_ble_eq_true rfl) (by (decide +kernel))) (rcv_of (by (decide +kernel)) (by decide) ha)
theorem k_C_readWord_4 : decode (sk_by 158) 4 = .ok (.lconst 0, 1) := by decide +kernel
theorem x_C_readWord_4 {ls st : List Value} {I : MI} {J : MJ} {R : MR} {S : Sh} {Q : SkQ} : Wp 158 4 ls st I J R S Q = Wp 158 5 ls (.long 0 :: st) I J R S Q := o_lc (by decide) k_C_readWord_4
theorem k_C_readWord_5 : decode (sk_by 158) 5 = .ok (.lstore_n 1, 1) := by decide +kernel
theorem x_C_readWord_5 {st : List Value} {l0 : Nat} {x : Int64} {I : MI} {J : MJ} {R : MR} {S : Sh} {Q : SkQ} : Wp 158 5 [.ref l0, nov, nov, nov] (.long x :: st) I J R S Q = Wp 158 6 [.ref l0, .long x, nov, nov] st I J R S Q := o_lstore_n (Nat.le_of_ble_eq_true rfl) rfl k_C_readWord_5
theorem k_C_readWord_6 : decode (sk_by 158) 6 = .ok (.iconst 0, 1) := by decide +kernel
theorem x_C_readWord_6 {ls st : List Value} {I : MI} {J : MJ} {R : MR} {S : Sh} {Q : SkQ} : Wp 158 6 ls st I J R S Q = Wp 158 7 ls (.int 0 :: st) I J R S Q := o_const (by decide) k_C_readWord_6
theorem k_C_readWord_7 : decode (sk_by 158) 7 = .ok (.istore_n 3, 1) := by decide +kernel
theorem x_C_readWord_7 {st : List Value} {l0 : Nat} {l1 : Int64} {x : Int32} {I : MI} {J : MJ} {R : MR} {S : Sh} {Q : SkQ} : Wp 158 7 [.ref l0, .long l1, nov, nov] (.int x :: st) I J R S Q = Wp 158 8 [.ref l0, .long l1, nov, .int x] st I J R S Q := o_istore_n (Nat.le_of_ble_eq_true rfl) rfl k_C_readWord_7
theorem k_C_readWord_8 : decode (sk_by 158) 8 = .ok (.iload_n 3, 1) := by decide +kernel
theorem x_C_readWord_8 {st : List Value} {l0 : Nat} {l1 : Int64} {x : Int32} {I : MI} {J : MJ} {R : MR} {S : Sh} {Q : SkQ} : Wp 158 8 [.ref l0, .long l1, nov, .int x] st I J R S Q = Wp 158 9 [.ref l0, .long l1, nov, .int x] (.int x :: st) I J R S Q := o_iload_n rfl k_C_readWord_8
theorem k_C_readWord_9 : decode (sk_by 158) 9 = .ok (.bipush 8, 2) := by decide +kernel
theorem x_C_readWord_9 {ls st : List Value} {I : MI} {J : MJ} {R : MR} {S : Sh} {Q : SkQ} : Wp 158 9 ls st I J R S Q = Wp 158 11 ls (.int 8 :: st) I J R S Q := o_bi (by decide) k_C_readWord_9
theorem k_C_readWord_11 : decode (sk_by 158) 11 = .ok (.if_icmp .ge 42, 3) := by decide +kernel
theorem x_C_readWord_11 {ls st : List Value} {x y : Int32} {I : MI} {J : MJ} {R : MR} {S : Sh} {Q : SkQ} : Wp 158 11 ls (.int y :: .int x :: st) I J R S Q = if x < y then Wp 158 14 ls st I J R S Q else Wp 158 53 ls st I J R S Q := o_ic_ge rfl rfl k_C_readWord_11
theorem k_C_readWord_14 : decode (sk_by 158) 14 = .ok (.aload_n 0, 1) := by decide +kernel
theorem x_C_readWord_14 {st : List Value} {l1 : Int64} {l3 : Int32} {x : Nat} {I : MI} {J : MJ} {R : MR} {S : Sh} {Q : SkQ} : Wp 158 14 [.ref x, .long l1, nov, .int l3] st I J R S Q = Wp 158 15 [.ref x, .long l1, nov, .int l3] (.ref x :: st) I J R S Q := o_aload_n rfl k_C_readWord_14
theorem k_C_readWord_15 : decode (sk_by 158) 15 = .ok (.invokevirtual 77, 3) := by decide +kernel
theorem x_C_readWord_15 {ls : List Value} {a0 : Nat} {I : MI} {J : MJ} {R : MR} {S : Sh} {Q : SkQ} (ha : S.1 a0 = 5) : Wp 158 15 ls (.ref a0 :: []) I J R S Q = Wp 164 0 [.ref a0] [] I J R S (Ret 158 15 18 164 ls [] Q) := o_call (as := [.ref a0]) (rest := []) (show sk_lkM (sk_cl 158) 77 = some 164 by decide +kernel) (by decide) (by decide) (by (decide +kernel)) (ins := .invokevirtual 77) (by (decide +kernel)) k_C_readWord_15 rfl (show 1 = sk_na 164 by (decide +kernel)) (Nat.le_of_ble_eq_true rfl) (Nat.le_trans (show (argL [.ref a0]).length ≤ 1 from Nat.le_of_ble_eq_true rfl) (by (decide +kernel))) (rcv_of (by (decide +kernel)) (by decide) ha)
theorem k_C_readWord_18 : decode (sk_by 158) 18 = .ok (.ifCond .eq 35, 3) := by decide +kernel
theorem x_C_readWord_18 {ls st : List Value} {x : Int32} {I : MI} {J : MJ} {R : MR} {S : Sh} {Q : SkQ} : Wp 158 18 ls (.int x :: st) I J R S Q = if x = 0 then Wp 158 53 ls st I J R S Q else Wp 158 21 ls st I J R S Q := o_if_eq rfl rfl k_C_readWord_18
theorem k_C_readWord_21 : decode (sk_by 158) 21 = .ok (.lload_n 1, 1) := by decide +kernel
theorem x_C_readWord_21 {st : List Value} {l0 : Nat} {l3 : Int32} {x : Int64} {I : MI} {J : MJ} {R : MR} {S : Sh} {Q : SkQ} : Wp 158 21 [.ref l0, .long x, nov, .int l3] st I J R S Q = Wp 158 22 [.ref l0, .long x, nov, .int l3] (.long x :: st) I J R S Q := o_lload_n rfl k_C_readWord_21
theorem k_C_readWord_22 : decode (sk_by 158) 22 = .ok (.aload_n 0, 1) := by decide +kernel
theorem x_C_readWord_22 {st : List Value} {l1 : Int64} {l3 : Int32} {x : Nat} {I : MI} {J : MJ} {R : MR} {S : Sh} {Q : SkQ} : Wp 158 22 [.ref x, .long l1, nov, .int l3] st I J R S Q = Wp 158 23 [.ref x, .long l1, nov, .int l3] (.ref x :: st) I J R S Q := o_aload_n rfl k_C_readWord_22
theorem k_C_readWord_23 : decode (sk_by 158) 23 = .ok (.aload_n 0, 1) := by decide +kernel
theorem x_C_readWord_23 {st : List Value} {l1 : Int64} {l3 : Int32} {x : Nat} {I : MI} {J : MJ} {R : MR} {S : Sh} {Q : SkQ} : Wp 158 23 [.ref x, .long l1, nov, .int l3] st I J R S Q = Wp 158 24 [.ref x, .long l1, nov, .int l3] (.ref x :: st) I J R S Q := o_aload_n rfl k_C_readWord_23
theorem k_C_readWord_24 : decode (sk_by 158) 24 = .ok (.getfield 22, 3) := by decide +kernel
theorem x_C_readWord_24 {ls st : List Value} {a : Nat} {I : MI} {J : MJ} {R : MR} {S : Sh} {Q : SkQ} (ha : S.1 a = 5) : Wp 158 24 ls (.ref a :: st) I J R S Q = Wp 158 27 ls (.int (I a 2) :: st) I J R S Q := o_getfieldI (show sk_lkF (sk_cl 158) 22 = some (5, 2, 0, 0, 0) by decide +kernel) k_C_readWord_24 ha
theorem k_C_readWord_27 : decode (sk_by 158) 27 = .ok (.invokevirtual 100, 3) := by decide +kernel
theorem x_C_readWord_27 {ls : List Value} {a0 : Nat} {a1 : Int32} {s0 : Int64} {I : MI} {J : MJ} {R : MR} {S : Sh} {Q : SkQ} (ha : S.1 a0 = 5) : Wp 158 27 ls (.int a1 :: .ref a0 :: [.long s0]) I J R S Q = Wp 166 0 [.ref a0, .int a1] [] I J R S (Ret 158 27 30 166 ls [.long s0] Q) := o_call (as := [.ref a0, .int a1]) (rest := [.long s0]) (show sk_lkM (sk_cl 158) 100 = some 166 by decide +kernel) (by decide) (by decide) (by (decide +kernel)) (ins := .invokevirtual 100) (by (decide +kernel)) k_C_readWord_27 rfl (show 2 = sk_na 166 by (decide +kernel)) (Nat.le_of_ble_eq_true rfl) (Nat.le_trans (show (argL [.ref a0, .int a1]).length ≤ 2 from Nat.le_of_ble_eq_true rfl) (by (decide +kernel))) (rcv_of (by (decide +kernel)) (by decide) ha)
theorem k_C_readWord_30 : decode (sk_by 158) 30 = .ok (.bipush 97, 2) := by decide +kernel
theorem x_C_readWord_30 {ls st : List Value} {I : MI} {J : MJ} {R : MR} {S : Sh} {Q : SkQ} : Wp 158 30 ls st I J R S Q = Wp 158 32 ls (.int 97 :: st) I J R S Q := o_bi (by decide) k_C_readWord_30
theorem k_C_readWord_32 : decode (sk_by 158) 32 = .ok (.isub, 1) := by decide +kernel
theorem x_C_readWord_32 {ls st : List Value} {x y : Int32} {I : MI} {J : MJ} {R : MR} {S : Sh} {Q : SkQ} : Wp 158 32 ls (.int y :: .int x :: st) I J R S Q = Wp 158 33 ls (.int (x - y) :: st) I J R S Q := o_isub k_C_readWord_32
theorem k_C_readWord_33 : decode (sk_by 158) 33 = .ok (.invokestatic 107, 3) := by decide +kernel
theorem x_C_readWord_33 {ls : List Value} {a0 : Int64} {a1 : Int32} {I : MI} {J : MJ} {R : MR} {S : Sh} {Q : SkQ} : Wp 158 33 ls (.int a1 :: .long a0 :: []) I J R S Q = Wp 171 0 [.long a0, nov, .int a1] [] I J R S (Ret 158 33 36 171 ls [] Q) := o_call (as := [.long a0, .int a1]) (rest := []) (show sk_lkM (sk_cl 158) 107 = some 171 by decide +kernel) (by decide) (by decide) (by (decide +kernel)) (ins := .invokestatic 107) (by (decide +kernel)) k_C_readWord_33 rfl (show 2 = sk_na 171 by (decide +kernel)) (Nat.le_of_ble_eq_true rfl) (Nat.le_trans (show (argL [.long a0, .int a1]).length ≤ 3 from Nat.le_of_ble_eq_true rfl) (by (decide +kernel))) rfl
theorem k_C_readWord_36 : decode (sk_by 158) 36 = .ok (.lstore_n 1, 1) := by decide +kernel
theorem x_C_readWord_36 {st : List Value} {l0 : Nat} {l1 : Int64} {l3 : Int32} {x : Int64} {I : MI} {J : MJ} {R : MR} {S : Sh} {Q : SkQ} : Wp 158 36 [.ref l0, .long l1, nov, .int l3] (.long x :: st) I J R S Q = Wp 158 37 [.ref l0, .long x, nov, .int l3] st I J R S Q := o_lstore_n (Nat.le_of_ble_eq_true rfl) rfl k_C_readWord_36
theorem k_C_readWord_37 : decode (sk_by 158) 37 = .ok (.aload_n 0, 1) := by decide +kernel
theorem x_C_readWord_37 {st : List Value} {l1 : Int64} {l3 : Int32} {x : Nat} {I : MI} {J : MJ} {R : MR} {S : Sh} {Q : SkQ} : Wp 158 37 [.ref x, .long l1, nov, .int l3] st I J R S Q = Wp 158 38 [.ref x, .long l1, nov, .int l3] (.ref x :: st) I J R S Q := o_aload_n rfl k_C_readWord_37
theorem k_C_readWord_38 : decode (sk_by 158) 38 = .ok (.dup, 1) := by decide +kernel
theorem x_C_readWord_38 {ls st : List Value} {x : Nat} {I : MI} {J : MJ} {R : MR} {S : Sh} {Q : SkQ} : Wp 158 38 ls (.ref x :: st) I J R S Q = Wp 158 39 ls (.ref x :: .ref x :: st) I J R S Q := o_dupR k_C_readWord_38
theorem k_C_readWord_39 : decode (sk_by 158) 39 = .ok (.getfield 22, 3) := by decide +kernel
theorem x_C_readWord_39 {ls st : List Value} {a : Nat} {I : MI} {J : MJ} {R : MR} {S : Sh} {Q : SkQ} (ha : S.1 a = 5) : Wp 158 39 ls (.ref a :: st) I J R S Q = Wp 158 42 ls (.int (I a 2) :: st) I J R S Q := o_getfieldI (show sk_lkF (sk_cl 158) 22 = some (5, 2, 0, 0, 0) by decide +kernel) k_C_readWord_39 ha
theorem k_C_readWord_42 : decode (sk_by 158) 42 = .ok (.iconst 1, 1) := by decide +kernel
theorem x_C_readWord_42 {ls st : List Value} {I : MI} {J : MJ} {R : MR} {S : Sh} {Q : SkQ} : Wp 158 42 ls st I J R S Q = Wp 158 43 ls (.int 1 :: st) I J R S Q := o_const (by decide) k_C_readWord_42
theorem k_C_readWord_43 : decode (sk_by 158) 43 = .ok (.iadd, 1) := by decide +kernel
theorem x_C_readWord_43 {ls st : List Value} {x y : Int32} {I : MI} {J : MJ} {R : MR} {S : Sh} {Q : SkQ} : Wp 158 43 ls (.int y :: .int x :: st) I J R S Q = Wp 158 44 ls (.int (x + y) :: st) I J R S Q := o_iadd k_C_readWord_43
theorem k_C_readWord_44 : decode (sk_by 158) 44 = .ok (.putfield 22, 3) := by decide +kernel
theorem x_C_readWord_44 {ls st : List Value} {a : Nat} {x : Int32} {I : MI} {J : MJ} {R : MR} {S : Sh} {Q : SkQ} (ha : S.1 a = 5) : Wp 158 44 ls (.int x :: .ref a :: st) I J R S Q = Wp 158 47 ls st (u2 I a 2 x) J R S Q := o_putfieldI (show sk_lkF (sk_cl 158) 22 = some (5, 2, 0, 0, 0) by decide +kernel) (by decide) (by (decide +kernel)) k_C_readWord_44 ha
theorem k_C_readWord_47 : decode (sk_by 158) 47 = .ok (.iinc 3 1, 3) := by decide +kernel
theorem x_C_readWord_47 {st : List Value} {l0 : Nat} {l1 : Int64} {x : Int32} {I : MI} {J : MJ} {R : MR} {S : Sh} {Q : SkQ} : Wp 158 47 [.ref l0, .long l1, nov, .int x] st I J R S Q = Wp 158 50 [.ref l0, .long l1, nov, .int (x + 1)] st I J R S Q := o_inc (by decide) rfl (Nat.le_of_ble_eq_true rfl) rfl k_C_readWord_47
theorem k_C_readWord_50 : decode (sk_by 158) 50 = .ok (.goto (-42), 3) := by decide +kernel
theorem x_C_readWord_50 {ls st : List Value} {I : MI} {J : MJ} {R : MR} {S : Sh} {Q : SkQ} : Wp 158 50 ls st I J R S Q = Wp 158 8 ls st I J R S Q := o_goto rfl rfl k_C_readWord_50
theorem k_C_readWord_53 : decode (sk_by 158) 53 = .ok (.lload_n 1, 1) := by decide +kernel
theorem x_C_readWord_53 {st : List Value} {l0 : Nat} {l3 : Int32} {x : Int64} {I : MI} {J : MJ} {R : MR} {S : Sh} {Q : SkQ} : Wp 158 53 [.ref l0, .long x, nov, .int l3] st I J R S Q = Wp 158 54 [.ref l0, .long x, nov, .int l3] (.long x :: st) I J R S Q := o_lload_n rfl k_C_readWord_53
theorem k_C_readWord_54 : decode (sk_by 158) 54 = .ok (.lconst 0, 1) := by decide +kernel
theorem x_C_readWord_54 {ls st : List Value} {I : MI} {J : MJ} {R : MR} {S : Sh} {Q : SkQ} : Wp 158 54 ls st I J R S Q = Wp 158 55 ls (.long 0 :: st) I J R S Q := o_lc (by decide) k_C_readWord_54
theorem k_C_readWord_55 : decode (sk_by 158) 55 = .ok (.lcmp, 1) := by decide +kernel
theorem x_C_readWord_55 {ls st : List Value} {x y : Int64} {I : MI} {J : MJ} {R : MR} {S : Sh} {Q : SkQ} : Wp 158 55 ls (.long y :: .long x :: st) I J R S Q = Wp 158 56 ls (.int (lg_cmp x y) :: st) I J R S Q := o_lcmp k_C_readWord_55
theorem k_C_readWord_56 : decode (sk_by 158) 56 = .ok (.ifCond .eq 10, 3) := by decide +kernel
theorem x_C_readWord_56 {ls st : List Value} {x : Int32} {I : MI} {J : MJ} {R : MR} {S : Sh} {Q : SkQ} : Wp 158 56 ls (.int x :: st) I J R S Q = if x = 0 then Wp 158 66 ls st I J R S Q else Wp 158 59 ls st I J R S Q := o_if_eq rfl rfl k_C_readWord_56
theorem k_C_readWord_59 : decode (sk_by 158) 59 = .ok (.aload_n 0, 1) := by decide +kernel
theorem x_C_readWord_59 {st : List Value} {l1 : Int64} {l3 : Int32} {x : Nat} {I : MI} {J : MJ} {R : MR} {S : Sh} {Q : SkQ} : Wp 158 59 [.ref x, .long l1, nov, .int l3] st I J R S Q = Wp 158 60 [.ref x, .long l1, nov, .int l3] (.ref x :: st) I J R S Q := o_aload_n rfl k_C_readWord_59
theorem k_C_readWord_60 : decode (sk_by 158) 60 = .ok (.invokevirtual 77, 3) := by decide +kernel
theorem x_C_readWord_60 {ls : List Value} {a0 : Nat} {I : MI} {J : MJ} {R : MR} {S : Sh} {Q : SkQ} (ha : S.1 a0 = 5) : Wp 158 60 ls (.ref a0 :: []) I J R S Q = Wp 164 0 [.ref a0] [] I J R S (Ret 158 60 63 164 ls [] Q) := o_call (as := [.ref a0]) (rest := []) (show sk_lkM (sk_cl 158) 77 = some 164 by decide +kernel) (by decide) (by decide) (by (decide +kernel)) (ins := .invokevirtual 77) (by (decide +kernel)) k_C_readWord_60 rfl (show 1 = sk_na 164 by (decide +kernel)) (Nat.le_of_ble_eq_true rfl) (Nat.le_trans (show (argL [.ref a0]).length ≤ 1 from Nat.le_of_ble_eq_true rfl) (by (decide +kernel))) (rcv_of (by (decide +kernel)) (by decide) ha)
theorem k_C_readWord_63 : decode (sk_by 158) 63 = .ok (.ifCond .eq 7, 3) := by decide +kernel
theorem x_C_readWord_63 {ls st : List Value} {x : Int32} {I : MI} {J : MJ} {R : MR} {S : Sh} {Q : SkQ} : Wp 158 63 ls (.int x :: st) I J R S Q = if x = 0 then Wp 158 70 ls st I J R S Q else Wp 158 66 ls st I J R S Q := o_if_eq rfl rfl k_C_readWord_63
theorem k_C_readWord_66 : decode (sk_by 158) 66 = .ok (.aload_n 0, 1) := by decide +kernel
theorem x_C_readWord_66 {st : List Value} {l1 : Int64} {l3 : Int32} {x : Nat} {I : MI} {J : MJ} {R : MR} {S : Sh} {Q : SkQ} : Wp 158 66 [.ref x, .long l1, nov, .int l3] st I J R S Q = Wp 158 67 [.ref x, .long l1, nov, .int l3] (.ref x :: st) I J R S Q := o_aload_n rfl k_C_readWord_66
theorem k_C_readWord_67 : decode (sk_by 158) 67 = .ok (.invokevirtual 113, 3) := by decide +kernel
theorem x_C_readWord_67 {ls : List Value} {a0 : Nat} {I : MI} {J : MJ} {R : MR} {S : Sh} {Q : SkQ} (ha : S.1 a0 = 5) : Wp 158 67 ls (.ref a0 :: []) I J R S Q = Wp 162 0 [.ref a0] [] I J R S (Ret 158 67 70 162 ls [] Q) := o_call (as := [.ref a0]) (rest := []) (show sk_lkM (sk_cl 158) 113 = some 162 by decide +kernel) (by decide) (by decide) (by (decide +kernel)) (ins := .invokevirtual 113) (by (decide +kernel)) k_C_readWord_67 rfl (show 1 = sk_na 162 by (decide +kernel)) (Nat.le_of_ble_eq_true rfl) (Nat.le_trans (show (argL [.ref a0]).length ≤ 1 from Nat.le_of_ble_eq_true rfl) (by (decide +kernel))) (rcv_of (by (decide +kernel)) (by decide) ha)
theorem k_C_readWord_70 : decode (sk_by 158) 70 = .ok (.lload_n 1, 1) := by decide +kernel
theorem x_C_readWord_70 {st : List Value} {l0 : Nat} {l3 : Int32} {x : Int64} {I : MI} {J : MJ} {R : MR} {S : Sh} {Q : SkQ} : Wp 158 70 [.ref l0, .long x, nov, .int l3] st I J R S Q = Wp 158 71 [.ref l0, .long x, nov, .int l3] (.long x :: st) I J R S Q := o_lload_n rfl k_C_readWord_70
theorem k_C_readWord_71 : decode (sk_by 158) 71 = .ok (.lreturn, 1) := by decide +kernel
theorem x_C_readWord_71 {ls : List Value} {v : Int64} {I : MI} {J : MJ} {R : MR} {S : Sh} {Q : SkQ} : Wp 158 71 ls [.long v] I J R S Q = Q 0 (some (.long v)) I J R S := o_lreturn (by (decide +kernel)) k_C_readWord_71
theorem k_C_readNumber_0 : decode (sk_by 159) 0 = .ok (.aload_n 0, 1) := by decide +kernel
theorem x_C_readNumber_0 {st : List Value} {x : Nat} {I : MI} {J : MJ} {R : MR} {S : Sh} {Q : SkQ} : Wp 159 0 [.ref x, nov, nov, nov] st I J R S Q = Wp 159 1 [.ref x, nov, nov, nov] (.ref x :: st) I J R S Q := o_aload_n rfl k_C_readNumber_0
theorem k_C_readNumber_1 : decode (sk_by 159) 1 = .ok (.invokevirtual 104, 3) := by decide +kernel
theorem x_C_readNumber_1 {ls : List Value} {a0 : Nat} {I : MI} {J : MJ} {R : MR} {S : Sh} {Q : SkQ} (ha : S.1 a0 = 5) : Wp 159 1 ls (.ref a0 :: []) I J R S Q = Wp 160 0 [.ref a0] [] I J R S (Ret 159 1 4 160 ls [] Q) := o_call (as := [.ref a0]) (rest := []) (show sk_lkM (sk_cl 159) 104 = some 160 by decide +kernel) (by decide) (by decide) (by (decide +kernel)) (ins := .invokevirtual 104) (by (decide +kernel)) k_C_readNumber_1 rfl (show 1 = sk_na 160 by (decide +kernel)) (Nat.le_of_ble_eq_true rfl) (Nat.le_trans (show (argL [.ref a0]).length ≤ 1 from Nat.le_of_ble_eq_true rfl) (by (decide +kernel))) (rcv_of (by (decide +kernel)) (by decide) ha)
theorem k_C_readNumber_4 : decode (sk_by 159) 4 = .ok (.aload_n 0, 1) := by decide +kernel
theorem x_C_readNumber_4 {st : List Value} {x : Nat} {I : MI} {J : MJ} {R : MR} {S : Sh} {Q : SkQ} : Wp 159 4 [.ref x, nov, nov, nov] st I J R S Q = Wp 159 5 [.ref x, nov, nov, nov] (.ref x :: st) I J R S Q := o_aload_n rfl k_C_readNumber_4
theorem k_C_readNumber_5 : decode (sk_by 159) 5 = .ok (.getfield 22, 3) := by decide +kernel
theorem x_C_readNumber_5 {ls st : List Value} {a : Nat} {I : MI} {J : MJ} {R : MR} {S : Sh} {Q : SkQ} (ha : S.1 a = 5) : Wp 159 5 ls (.ref a :: st) I J R S Q = Wp 159 8 ls (.int (I a 2) :: st) I J R S Q := o_getfieldI (show sk_lkF (sk_cl 159) 22 = some (5, 2, 0, 0, 0) by decide +kernel) k_C_readNumber_5 ha
theorem k_C_readNumber_8 : decode (sk_by 159) 8 = .ok (.istore_n 1, 1) := by decide +kernel
theorem x_C_readNumber_8 {st : List Value} {l0 : Nat} {x : Int32} {I : MI} {J : MJ} {R : MR} {S : Sh} {Q : SkQ} : Wp 159 8 [.ref l0, nov, nov, nov] (.int x :: st) I J R S Q = Wp 159 9 [.ref l0, .int x, nov, nov] st I J R S Q := o_istore_n (Nat.le_of_ble_eq_true rfl) rfl k_C_readNumber_8
theorem k_C_readNumber_9 : decode (sk_by 159) 9 = .ok (.iconst 0, 1) := by decide +kernel
theorem x_C_readNumber_9 {ls st : List Value} {I : MI} {J : MJ} {R : MR} {S : Sh} {Q : SkQ} : Wp 159 9 ls st I J R S Q = Wp 159 10 ls (.int 0 :: st) I J R S Q := o_const (by decide) k_C_readNumber_9
theorem k_C_readNumber_10 : decode (sk_by 159) 10 = .ok (.istore_n 2, 1) := by decide +kernel
theorem x_C_readNumber_10 {st : List Value} {l0 : Nat} {l1 : Int32} {x : Int32} {I : MI} {J : MJ} {R : MR} {S : Sh} {Q : SkQ} : Wp 159 10 [.ref l0, .int l1, nov, nov] (.int x :: st) I J R S Q = Wp 159 11 [.ref l0, .int l1, .int x, nov] st I J R S Q := o_istore_n (Nat.le_of_ble_eq_true rfl) rfl k_C_readNumber_10
theorem k_C_readNumber_11 : decode (sk_by 159) 11 = .ok (.iconst 0, 1) := by decide +kernel
theorem x_C_readNumber_11 {ls st : List Value} {I : MI} {J : MJ} {R : MR} {S : Sh} {Q : SkQ} : Wp 159 11 ls st I J R S Q = Wp 159 12 ls (.int 0 :: st) I J R S Q := o_const (by decide) k_C_readNumber_11
theorem k_C_readNumber_12 : decode (sk_by 159) 12 = .ok (.istore_n 3, 1) := by decide +kernel
theorem x_C_readNumber_12 {st : List Value} {l0 : Nat} {l1 : Int32} {l2 : Int32} {x : Int32} {I : MI} {J : MJ} {R : MR} {S : Sh} {Q : SkQ} : Wp 159 12 [.ref l0, .int l1, .int l2, nov] (.int x :: st) I J R S Q = Wp 159 13 [.ref l0, .int l1, .int l2, .int x] st I J R S Q := o_istore_n (Nat.le_of_ble_eq_true rfl) rfl k_C_readNumber_12
theorem k_C_readNumber_13 : decode (sk_by 159) 13 = .ok (.iload_n 3, 1) := by decide +kernel
theorem x_C_readNumber_13 {st : List Value} {l0 : Nat} {l1 : Int32} {l2 : Int32} {x : Int32} {I : MI} {J : MJ} {R : MR} {S : Sh} {Q : SkQ} : Wp 159 13 [.ref l0, .int l1, .int l2, .int x] st I J R S Q = Wp 159 14 [.ref l0, .int l1, .int l2, .int x] (.int x :: st) I J R S Q := o_iload_n rfl k_C_readNumber_13
theorem k_C_readNumber_14 : decode (sk_by 159) 14 = .ok (.iconst 3, 1) := by decide +kernel
theorem x_C_readNumber_14 {ls st : List Value} {I : MI} {J : MJ} {R : MR} {S : Sh} {Q : SkQ} : Wp 159 14 ls st I J R S Q = Wp 159 15 ls (.int 3 :: st) I J R S Q := o_const (by decide) k_C_readNumber_14
theorem k_C_readNumber_15 : decode (sk_by 159) 15 = .ok (.if_icmp .ge 43, 3) := by decide +kernel
theorem x_C_readNumber_15 {ls st : List Value} {x y : Int32} {I : MI} {J : MJ} {R : MR} {S : Sh} {Q : SkQ} : Wp 159 15 ls (.int y :: .int x :: st) I J R S Q = if x < y then Wp 159 18 ls st I J R S Q else Wp 159 58 ls st I J R S Q := o_ic_ge rfl rfl k_C_readNumber_15
theorem k_C_readNumber_18 : decode (sk_by 159) 18 = .ok (.aload_n 0, 1) := by decide +kernel
theorem x_C_readNumber_18 {st : List Value} {l1 : Int32} {l2 : Int32} {l3 : Int32} {x : Nat} {I : MI} {J : MJ} {R : MR} {S : Sh} {Q : SkQ} : Wp 159 18 [.ref x, .int l1, .int l2, .int l3] st I J R S Q = Wp 159 19 [.ref x, .int l1, .int l2, .int l3] (.ref x :: st) I J R S Q := o_aload_n rfl k_C_readNumber_18
theorem k_C_readNumber_19 : decode (sk_by 159) 19 = .ok (.invokevirtual 116, 3) := by decide +kernel
theorem x_C_readNumber_19 {ls : List Value} {a0 : Nat} {I : MI} {J : MJ} {R : MR} {S : Sh} {Q : SkQ} (ha : S.1 a0 = 5) : Wp 159 19 ls (.ref a0 :: []) I J R S Q = Wp 165 0 [.ref a0] [] I J R S (Ret 159 19 22 165 ls [] Q) := o_call (as := [.ref a0]) (rest := []) (show sk_lkM (sk_cl 159) 116 = some 165 by decide +kernel) (by decide) (by decide) (by (decide +kernel)) (ins := .invokevirtual 116) (by (decide +kernel)) k_C_readNumber_19 rfl (show 1 = sk_na 165 by (decide +kernel)) (Nat.le_of_ble_eq_true rfl) (Nat.le_trans (show (argL [.ref a0]).length ≤ 1 from Nat.le_of_ble_eq_true rfl) (by (decide +kernel))) (rcv_of (by (decide +kernel)) (by decide) ha)
theorem k_C_readNumber_22 : decode (sk_by 159) 22 = .ok (.ifCond .eq 36, 3) := by decide +kernel
theorem x_C_readNumber_22 {ls st : List Value} {x : Int32} {I : MI} {J : MJ} {R : MR} {S : Sh} {Q : SkQ} : Wp 159 22 ls (.int x :: st) I J R S Q = if x = 0 then Wp 159 58 ls st I J R S Q else Wp 159 25 ls st I J R S Q := o_if_eq rfl rfl k_C_readNumber_22
theorem k_C_readNumber_25 : decode (sk_by 159) 25 = .ok (.bipush 10, 2) := by decide +kernel
theorem x_C_readNumber_25 {ls st : List Value} {I : MI} {J : MJ} {R : MR} {S : Sh} {Q : SkQ} : Wp 159 25 ls st I J R S Q = Wp 159 27 ls (.int 10 :: st) I J R S Q := o_bi (by decide) k_C_readNumber_25
theorem k_C_readNumber_27 : decode (sk_by 159) 27 = .ok (.iload_n 2, 1) := by decide +kernel
theorem x_C_readNumber_27 {st : List Value} {l0 : Nat} {l1 : Int32} {l3 : Int32} {x : Int32} {I : MI} {J : MJ} {R : MR} {S : Sh} {Q : SkQ} : Wp 159 27 [.ref l0, .int l1, .int x, .int l3] st I J R S Q = Wp 159 28 [.ref l0, .int l1, .int x, .int l3] (.int x :: st) I J R S Q := o_iload_n rfl k_C_readNumber_27
theorem k_C_readNumber_28 : decode (sk_by 159) 28 = .ok (.imul, 1) := by decide +kernel
theorem x_C_readNumber_28 {ls st : List Value} {x y : Int32} {I : MI} {J : MJ} {R : MR} {S : Sh} {Q : SkQ} : Wp 159 28 ls (.int y :: .int x :: st) I J R S Q = Wp 159 29 ls (.int (x * y) :: st) I J R S Q := o_imul k_C_readNumber_28
theorem k_C_readNumber_29 : decode (sk_by 159) 29 = .ok (.aload_n 0, 1) := by decide +kernel
theorem x_C_readNumber_29 {st : List Value} {l1 : Int32} {l2 : Int32} {l3 : Int32} {x : Nat} {I : MI} {J : MJ} {R : MR} {S : Sh} {Q : SkQ} : Wp 159 29 [.ref x, .int l1, .int l2, .int l3] st I J R S Q = Wp 159 30 [.ref x, .int l1, .int l2, .int l3] (.ref x :: st) I J R S Q := o_aload_n rfl k_C_readNumber_29
theorem k_C_readNumber_30 : decode (sk_by 159) 30 = .ok (.aload_n 0, 1) := by decide +kernel
theorem x_C_readNumber_30 {st : List Value} {l1 : Int32} {l2 : Int32} {l3 : Int32} {x : Nat} {I : MI} {J : MJ} {R : MR} {S : Sh} {Q : SkQ} : Wp 159 30 [.ref x, .int l1, .int l2, .int l3] st I J R S Q = Wp 159 31 [.ref x, .int l1, .int l2, .int l3] (.ref x :: st) I J R S Q := o_aload_n rfl k_C_readNumber_30
theorem k_C_readNumber_31 : decode (sk_by 159) 31 = .ok (.getfield 22, 3) := by decide +kernel
theorem x_C_readNumber_31 {ls st : List Value} {a : Nat} {I : MI} {J : MJ} {R : MR} {S : Sh} {Q : SkQ} (ha : S.1 a = 5) : Wp 159 31 ls (.ref a :: st) I J R S Q = Wp 159 34 ls (.int (I a 2) :: st) I J R S Q := o_getfieldI (show sk_lkF (sk_cl 159) 22 = some (5, 2, 0, 0, 0) by decide +kernel) k_C_readNumber_31 ha
theorem k_C_readNumber_34 : decode (sk_by 159) 34 = .ok (.invokevirtual 100, 3) := by decide +kernel
theorem x_C_readNumber_34 {ls : List Value} {a0 : Nat} {a1 : Int32} {s0 : Int32} {I : MI} {J : MJ} {R : MR} {S : Sh} {Q : SkQ} (ha : S.1 a0 = 5) : Wp 159 34 ls (.int a1 :: .ref a0 :: [.int s0]) I J R S Q = Wp 166 0 [.ref a0, .int a1] [] I J R S (Ret 159 34 37 166 ls [.int s0] Q) := o_call (as := [.ref a0, .int a1]) (rest := [.int s0]) (show sk_lkM (sk_cl 159) 100 = some 166 by decide +kernel) (by decide) (by decide) (by (decide +kernel)) (ins := .invokevirtual 100) (by (decide +kernel)) k_C_readNumber_34 rfl (show 2 = sk_na 166 by (decide +kernel)) (Nat.le_of_ble_eq_true rfl) (Nat.le_trans (show (argL [.ref a0, .int a1]).length ≤ 2 from Nat.le_of_ble_eq_true rfl) (by (decide +kernel))) (rcv_of (by (decide +kernel)) (by decide) ha)
theorem k_C_readNumber_37 : decode (sk_by 159) 37 = .ok (.iadd, 1) := by decide +kernel
theorem x_C_readNumber_37 {ls st : List Value} {x y : Int32} {I : MI} {J : MJ} {R : MR} {S : Sh} {Q : SkQ} : Wp 159 37 ls (.int y :: .int x :: st) I J R S Q = Wp 159 38 ls (.int (x + y) :: st) I J R S Q := o_iadd k_C_readNumber_37
theorem k_C_readNumber_38 : decode (sk_by 159) 38 = .ok (.bipush 48, 2) := by decide +kernel
theorem x_C_readNumber_38 {ls st : List Value} {I : MI} {J : MJ} {R : MR} {S : Sh} {Q : SkQ} : Wp 159 38 ls st I J R S Q = Wp 159 40 ls (.int 48 :: st) I J R S Q := o_bi (by decide) k_C_readNumber_38
theorem k_C_readNumber_40 : decode (sk_by 159) 40 = .ok (.isub, 1) := by decide +kernel
theorem x_C_readNumber_40 {ls st : List Value} {x y : Int32} {I : MI} {J : MJ} {R : MR} {S : Sh} {Q : SkQ} : Wp 159 40 ls (.int y :: .int x :: st) I J R S Q = Wp 159 41 ls (.int (x - y) :: st) I J R S Q := o_isub k_C_readNumber_40
theorem k_C_readNumber_41 : decode (sk_by 159) 41 = .ok (.istore_n 2, 1) := by decide +kernel
theorem x_C_readNumber_41 {st : List Value} {l0 : Nat} {l1 : Int32} {l2 : Int32} {l3 : Int32} {x : Int32} {I : MI} {J : MJ} {R : MR} {S : Sh} {Q : SkQ} : Wp 159 41 [.ref l0, .int l1, .int l2, .int l3] (.int x :: st) I J R S Q = Wp 159 42 [.ref l0, .int l1, .int x, .int l3] st I J R S Q := o_istore_n (Nat.le_of_ble_eq_true rfl) rfl k_C_readNumber_41
theorem k_C_readNumber_42 : decode (sk_by 159) 42 = .ok (.aload_n 0, 1) := by decide +kernel
theorem x_C_readNumber_42 {st : List Value} {l1 : Int32} {l2 : Int32} {l3 : Int32} {x : Nat} {I : MI} {J : MJ} {R : MR} {S : Sh} {Q : SkQ} : Wp 159 42 [.ref x, .int l1, .int l2, .int l3] st I J R S Q = Wp 159 43 [.ref x, .int l1, .int l2, .int l3] (.ref x :: st) I J R S Q := o_aload_n rfl k_C_readNumber_42
theorem k_C_readNumber_43 : decode (sk_by 159) 43 = .ok (.dup, 1) := by decide +kernel
theorem x_C_readNumber_43 {ls st : List Value} {x : Nat} {I : MI} {J : MJ} {R : MR} {S : Sh} {Q : SkQ} : Wp 159 43 ls (.ref x :: st) I J R S Q = Wp 159 44 ls (.ref x :: .ref x :: st) I J R S Q := o_dupR k_C_readNumber_43
theorem k_C_readNumber_44 : decode (sk_by 159) 44 = .ok (.getfield 22, 3) := by decide +kernel
theorem x_C_readNumber_44 {ls st : List Value} {a : Nat} {I : MI} {J : MJ} {R : MR} {S : Sh} {Q : SkQ} (ha : S.1 a = 5) : Wp 159 44 ls (.ref a :: st) I J R S Q = Wp 159 47 ls (.int (I a 2) :: st) I J R S Q := o_getfieldI (show sk_lkF (sk_cl 159) 22 = some (5, 2, 0, 0, 0) by decide +kernel) k_C_readNumber_44 ha
theorem k_C_readNumber_47 : decode (sk_by 159) 47 = .ok (.iconst 1, 1) := by decide +kernel
theorem x_C_readNumber_47 {ls st : List Value} {I : MI} {J : MJ} {R : MR} {S : Sh} {Q : SkQ} : Wp 159 47 ls st I J R S Q = Wp 159 48 ls (.int 1 :: st) I J R S Q := o_const (by decide) k_C_readNumber_47
theorem k_C_readNumber_48 : decode (sk_by 159) 48 = .ok (.iadd, 1) := by decide +kernel
theorem x_C_readNumber_48 {ls st : List Value} {x y : Int32} {I : MI} {J : MJ} {R : MR} {S : Sh} {Q : SkQ} : Wp 159 48 ls (.int y :: .int x :: st) I J R S Q = Wp 159 49 ls (.int (x + y) :: st) I J R S Q := o_iadd k_C_readNumber_48
theorem k_C_readNumber_49 : decode (sk_by 159) 49 = .ok (.putfield 22, 3) := by decide +kernel
theorem x_C_readNumber_49 {ls st : List Value} {a : Nat} {x : Int32} {I : MI} {J : MJ} {R : MR} {S : Sh} {Q : SkQ} (ha : S.1 a = 5) : Wp 159 49 ls (.int x :: .ref a :: st) I J R S Q = Wp 159 52 ls st (u2 I a 2 x) J R S Q := o_putfieldI (show sk_lkF (sk_cl 159) 22 = some (5, 2, 0, 0, 0) by decide +kernel) (by decide) (by (decide +kernel)) k_C_readNumber_49 ha
theorem k_C_readNumber_52 : decode (sk_by 159) 52 = .ok (.iinc 3 1, 3) := by decide +kernel
theorem x_C_readNumber_52 {st : List Value} {l0 : Nat} {l1 : Int32} {l2 : Int32} {x : Int32} {I : MI} {J : MJ} {R : MR} {S : Sh} {Q : SkQ} : Wp 159 52 [.ref l0, .int l1, .int l2, .int x] st I J R S Q = Wp 159 55 [.ref l0, .int l1, .int l2, .int (x + 1)] st I J R S Q := o_inc (by decide) rfl (Nat.le_of_ble_eq_true rfl) rfl k_C_readNumber_52
theorem k_C_readNumber_55 : decode (sk_by 159) 55 = .ok (.goto (-42), 3) := by decide +kernel
theorem x_C_readNumber_55 {ls st : List Value} {I : MI} {J : MJ} {R : MR} {S : Sh} {Q : SkQ} : Wp 159 55 ls st I J R S Q = Wp 159 13 ls st I J R S Q := o_goto rfl rfl k_C_readNumber_55
theorem k_C_readNumber_58 : decode (sk_by 159) 58 = .ok (.aload_n 0, 1) := by decide +kernel
theorem x_C_readNumber_58 {st : List Value} {l1 : Int32} {l2 : Int32} {l3 : Int32} {x : Nat} {I : MI} {J : MJ} {R : MR} {S : Sh} {Q : SkQ} : Wp 159 58 [.ref x, .int l1, .int l2, .int l3] st I J R S Q = Wp 159 59 [.ref x, .int l1, .int l2, .int l3] (.ref x :: st) I J R S Q := o_aload_n rfl k_C_readNumber_58
theorem k_C_readNumber_59 : decode (sk_by 159) 59 = .ok (.getfield 22, 3) := by decide +kernel
theorem x_C_readNumber_59 {ls st : List Value} {a : Nat} {I : MI} {J : MJ} {R : MR} {S : Sh} {Q : SkQ} (ha : S.1 a = 5) : Wp 159 59 ls (.ref a :: st) I J R S Q = Wp 159 62 ls (.int (I a 2) :: st) I J R S Q := o_getfieldI (show sk_lkF (sk_cl 159) 22 = some (5, 2, 0, 0, 0) by decide +kernel) k_C_readNumber_59 ha
theorem k_C_readNumber_62 : decode (sk_by 159) 62 = .ok (.iload_n 1, 1) := by decide +kernel
theorem x_C_readNumber_62 {st : List Value} {l0 : Nat} {l2 : Int32} {l3 : Int32} {x : Int32} {I : MI} {J : MJ} {R : MR} {S : Sh} {Q : SkQ} : Wp 159 62 [.ref l0, .int x, .int l2, .int l3] st I J R S Q = Wp 159 63 [.ref l0, .int x, .int l2, .int l3] (.int x :: st) I J R S Q := o_iload_n rfl k_C_readNumber_62
theorem k_C_readNumber_63 : decode (sk_by 159) 63 = .ok (.if_icmp .eq 10, 3) := by decide +kernel
theorem x_C_readNumber_63 {ls st : List Value} {x y : Int32} {I : MI} {J : MJ} {R : MR} {S : Sh} {Q : SkQ} : Wp 159 63 ls (.int y :: .int x :: st) I J R S Q = if x = y then Wp 159 73 ls st I J R S Q else Wp 159 66 ls st I J R S Q := o_ic_eq rfl rfl k_C_readNumber_63
theorem k_C_readNumber_66 : decode (sk_by 159) 66 = .ok (.aload_n 0, 1) := by decide +kernel
theorem x_C_readNumber_66 {st : List Value} {l1 : Int32} {l2 : Int32} {l3 : Int32} {x : Nat} {I : MI} {J : MJ} {R : MR} {S : Sh} {Q : SkQ} : Wp 159 66 [.ref x, .int l1, .int l2, .int l3] st I J R S Q = Wp 159 67 [.ref x, .int l1, .int l2, .int l3] (.ref x :: st) I J R S Q := o_aload_n rfl k_C_readNumber_66
theorem k_C_readNumber_67 : decode (sk_by 159) 67 = .ok (.invokevirtual 116, 3) := by decide +kernel
theorem x_C_readNumber_67 {ls : List Value} {a0 : Nat} {I : MI} {J : MJ} {R : MR} {S : Sh} {Q : SkQ} (ha : S.1 a0 = 5) : Wp 159 67 ls (.ref a0 :: []) I J R S Q = Wp 165 0 [.ref a0] [] I J R S (Ret 159 67 70 165 ls [] Q) := o_call (as := [.ref a0]) (rest := []) (show sk_lkM (sk_cl 159) 116 = some 165 by decide +kernel) (by decide) (by decide) (by (decide +kernel)) (ins := .invokevirtual 116) (by (decide +kernel)) k_C_readNumber_67 rfl (show 1 = sk_na 165 by (decide +kernel)) (Nat.le_of_ble_eq_true rfl) (Nat.le_trans (show (argL [.ref a0]).length ≤ 1 from Nat.le_of_ble_eq_true rfl) (by (decide +kernel))) (rcv_of (by (decide +kernel)) (by decide) ha)
theorem k_C_readNumber_70 : decode (sk_by 159) 70 = .ok (.ifCond .eq 7, 3) := by decide +kernel
theorem x_C_readNumber_70 {ls st : List Value} {x : Int32} {I : MI} {J : MJ} {R : MR} {S : Sh} {Q : SkQ} : Wp 159 70 ls (.int x :: st) I J R S Q = if x = 0 then Wp 159 77 ls st I J R S Q else Wp 159 73 ls st I J R S Q := o_if_eq rfl rfl k_C_readNumber_70
theorem k_C_readNumber_73 : decode (sk_by 159) 73 = .ok (.aload_n 0, 1) := by decide +kernel
theorem x_C_readNumber_73 {st : List Value} {l1 : Int32} {l2 : Int32} {l3 : Int32} {x : Nat} {I : MI} {J : MJ} {R : MR} {S : Sh} {Q : SkQ} : Wp 159 73 [.ref x, .int l1, .int l2, .int l3] st I J R S Q = Wp 159 74 [.ref x, .int l1, .int l2, .int l3] (.ref x :: st) I J R S Q := o_aload_n rfl k_C_readNumber_73
theorem k_C_readNumber_74 : decode (sk_by 159) 74 = .ok (.invokevirtual 113, 3) := by decide +kernel
theorem x_C_readNumber_74 {ls : List Value} {a0 : Nat} {I : MI} {J : MJ} {R : MR} {S : Sh} {Q : SkQ} (ha : S.1 a0 = 5) : Wp 159 74 ls (.ref a0 :: []) I J R S Q = Wp 162 0 [.ref a0] [] I J R S (Ret 159 74 77 162 ls [] Q) := o_call (as := [.ref a0]) (rest := []) (show sk_lkM (sk_cl 159) 113 = some 162 by decide +kernel) (by decide) (by decide) (by (decide +kernel)) (ins := .invokevirtual 113) (by (decide +kernel)) k_C_readNumber_74 rfl (show 1 = sk_na 162 by (decide +kernel)) (Nat.le_of_ble_eq_true rfl) (Nat.le_trans (show (argL [.ref a0]).length ≤ 1 from Nat.le_of_ble_eq_true rfl) (by (decide +kernel))) (rcv_of (by (decide +kernel)) (by decide) ha)
theorem k_C_readNumber_77 : decode (sk_by 159) 77 = .ok (.iload_n 2, 1) := by decide +kernel
theorem x_C_readNumber_77 {st : List Value} {l0 : Nat} {l1 : Int32} {l3 : Int32} {x : Int32} {I : MI} {J : MJ} {R : MR} {S : Sh} {Q : SkQ} : Wp 159 77 [.ref l0, .int l1, .int x, .int l3] st I J R S Q = Wp 159 78 [.ref l0, .int l1, .int x, .int l3] (.int x :: st) I J R S Q := o_iload_n rfl k_C_readNumber_77
theorem k_C_readNumber_78 : decode (sk_by 159) 78 = .ok (.ireturn, 1) := by decide +kernel
theorem x_C_readNumber_78 {ls : List Value} {v : Int32} {I : MI} {J : MJ} {R : MR} {S : Sh} {Q : SkQ} : Wp 159 78 ls [.int v] I J R S Q = Q 0 (some (.int v)) I J R S := o_ireturn k_C_readNumber_78 rfl
theorem k_C_readGap_0 : decode (sk_by 160) 0 = .ok (.aload_n 0, 1) := by decide +kernel
theorem x_C_readGap_0 {st : List Value} {x : Nat} {I : MI} {J : MJ} {R : MR} {S : Sh} {Q : SkQ} : Wp 160 0 [.ref x] st I J R S Q = Wp 160 1 [.ref x] (.ref x :: st) I J R S Q := o_aload_n rfl k_C_readGap_0
theorem k_C_readGap_1 : decode (sk_by 160) 1 = .ok (.aload_n 0, 1) := by decide +kernel
theorem x_C_readGap_1 {st : List Value} {x : Nat} {I : MI} {J : MJ} {R : MR} {S : Sh} {Q : SkQ} : Wp 160 1 [.ref x] st I J R S Q = Wp 160 2 [.ref x] (.ref x :: st) I J R S Q := o_aload_n rfl k_C_readGap_1
theorem k_C_readGap_2 : decode (sk_by 160) 2 = .ok (.getfield 22, 3) := by decide +kernel
theorem x_C_readGap_2 {ls st : List Value} {a : Nat} {I : MI} {J : MJ} {R : MR} {S : Sh} {Q : SkQ} (ha : S.1 a = 5) : Wp 160 2 ls (.ref a :: st) I J R S Q = Wp 160 5 ls (.int (I a 2) :: st) I J R S Q := o_getfieldI (show sk_lkF (sk_cl 160) 22 = some (5, 2, 0, 0, 0) by decide +kernel) k_C_readGap_2 ha
theorem k_C_readGap_5 : decode (sk_by 160) 5 = .ok (.invokevirtual 100, 3) := by decide +kernel
theorem x_C_readGap_5 {ls : List Value} {a0 : Nat} {a1 : Int32} {I : MI} {J : MJ} {R : MR} {S : Sh} {Q : SkQ} (ha : S.1 a0 = 5) : Wp 160 5 ls (.int a1 :: .ref a0 :: []) I J R S Q = Wp 166 0 [.ref a0, .int a1] [] I J R S (Ret 160 5 8 166 ls [] Q) := o_call (as := [.ref a0, .int a1]) (rest := []) (show sk_lkM (sk_cl 160) 100 = some 166 by decide +kernel) (by decide) (by decide) (by (decide +kernel)) (ins := .invokevirtual 100) (by (decide +kernel)) k_C_readGap_5 rfl (show 2 = sk_na 166 by (decide +kernel)) (Nat.le_of_ble_eq_true rfl) (Nat.le_trans (show (argL [.ref a0, .int a1]).length ≤ 2 from Nat.le_of_ble_eq_true rfl) (by (decide +kernel))) (rcv_of (by (decide +kernel)) (by decide) ha)
theorem k_C_readGap_8 : decode (sk_by 160) 8 = .ok (.bipush 32, 2) := by decide +kernel
theorem x_C_readGap_8 {ls st : List Value} {I : MI} {J : MJ} {R : MR} {S : Sh} {Q : SkQ} : Wp 160 8 ls st I J R S Q = Wp 160 10 ls (.int 32 :: st) I J R S Q := o_bi (by decide) k_C_readGap_8
theorem k_C_readGap_10 : decode (sk_by 160) 10 = .ok (.if_icmp .eq 7, 3) := by decide +kernel
theorem x_C_readGap_10 {ls st : List Value} {x y : Int32} {I : MI} {J : MJ} {R : MR} {S : Sh} {Q : SkQ} : Wp 160 10 ls (.int y :: .int x :: st) I J R S Q = if x = y then Wp 160 17 ls st I J R S Q else Wp 160 13 ls st I J R S Q := o_ic_eq rfl rfl k_C_readGap_10
theorem k_C_readGap_13 : decode (sk_by 160) 13 = .ok (.aload_n 0, 1) := by decide +kernel
theorem x_C_readGap_13 {st : List Value} {x : Nat} {I : MI} {J : MJ} {R : MR} {S : Sh} {Q : SkQ} : Wp 160 13 [.ref x] st I J R S Q = Wp 160 14 [.ref x] (.ref x :: st) I J R S Q := o_aload_n rfl k_C_readGap_13
theorem k_C_readGap_14 : decode (sk_by 160) 14 = .ok (.invokevirtual 113, 3) := by decide +kernel
theorem x_C_readGap_14 {ls : List Value} {a0 : Nat} {I : MI} {J : MJ} {R : MR} {S : Sh} {Q : SkQ} (ha : S.1 a0 = 5) : Wp 160 14 ls (.ref a0 :: []) I J R S Q = Wp 162 0 [.ref a0] [] I J R S (Ret 160 14 17 162 ls [] Q) := o_call (as := [.ref a0]) (rest := []) (show sk_lkM (sk_cl 160) 113 = some 162 by decide +kernel) (by decide) (by decide) (by (decide +kernel)) (ins := .invokevirtual 113) (by (decide +kernel)) k_C_readGap_14 rfl (show 1 = sk_na 162 by (decide +kernel)) (Nat.le_of_ble_eq_true rfl) (Nat.le_trans (show (argL [.ref a0]).length ≤ 1 from Nat.le_of_ble_eq_true rfl) (by (decide +kernel))) (rcv_of (by (decide +kernel)) (by decide) ha)
theorem k_C_readGap_17 : decode (sk_by 160) 17 = .ok (.aload_n 0, 1) := by decide +kernel
theorem x_C_readGap_17 {st : List Value} {x : Nat} {I : MI} {J : MJ} {R : MR} {S : Sh} {Q : SkQ} : Wp 160 17 [.ref x] st I J R S Q = Wp 160 18 [.ref x] (.ref x :: st) I J R S Q := o_aload_n rfl k_C_readGap_17
theorem k_C_readGap_18 : decode (sk_by 160) 18 = .ok (.invokevirtual 32, 3) := by decide +kernel
theorem x_C_readGap_18 {ls : List Value} {a0 : Nat} {I : MI} {J : MJ} {R : MR} {S : Sh} {Q : SkQ} (ha : S.1 a0 = 5) : Wp 160 18 ls (.ref a0 :: []) I J R S Q = Wp 163 0 [.ref a0, nov] [] I J R S (Ret 160 18 21 163 ls [] Q) := o_call (as := [.ref a0]) (rest := []) (show sk_lkM (sk_cl 160) 32 = some 163 by decide +kernel) (by decide) (by decide) (by (decide +kernel)) (ins := .invokevirtual 32) (by (decide +kernel)) k_C_readGap_18 rfl (show 1 = sk_na 163 by (decide +kernel)) (Nat.le_of_ble_eq_true rfl) (Nat.le_trans (show (argL [.ref a0]).length ≤ 2 from Nat.le_of_ble_eq_true rfl) (by (decide +kernel))) (rcv_of (by (decide +kernel)) (by decide) ha)
theorem k_C_readGap_21 : decode (sk_by 160) 21 = .ok (.return_, 1) := by decide +kernel
theorem x_C_readGap_21 {ls : List Value} {I : MI} {J : MJ} {R : MR} {S : Sh} {Q : SkQ} : Wp 160 21 ls [] I J R S Q = Q 0 none I J R S := o_return (by (decide +kernel)) k_C_readGap_21
theorem k_C_readSemicolon_0 : decode (sk_by 161) 0 = .ok (.aload_n 0, 1) := by decide +kernel
theorem x_C_readSemicolon_0 {st : List Value} {x : Nat} {I : MI} {J : MJ} {R : MR} {S : Sh} {Q : SkQ} : Wp 161 0 [.ref x] st I J R S Q = Wp 161 1 [.ref x] (.ref x :: st) I J R S Q := o_aload_n rfl k_C_readSemicolon_0
theorem k_C_readSemicolon_1 : decode (sk_by 161) 1 = .ok (.invokevirtual 32, 3) := by decide +kernel
theorem x_C_readSemicolon_1 {ls : List Value} {a0 : Nat} {I : MI} {J : MJ} {R : MR} {S : Sh} {Q : SkQ} (ha : S.1 a0 = 5) : Wp 161 1 ls (.ref a0 :: []) I J R S Q = Wp 163 0 [.ref a0, nov] [] I J R S (Ret 161 1 4 163 ls [] Q) := o_call (as := [.ref a0]) (rest := []) (show sk_lkM (sk_cl 161) 32 = some 163 by decide +kernel) (by decide) (by decide) (by (decide +kernel)) (ins := .invokevirtual 32) (by (decide +kernel)) k_C_readSemicolon_1 rfl (show 1 = sk_na 163 by (decide +kernel)) (Nat.le_of_ble_eq_true rfl) (Nat.le_trans (show (argL [.ref a0]).length ≤ 2 from Nat.le_of_ble_eq_true rfl) (by (decide +kernel))) (rcv_of (by (decide +kernel)) (by decide) ha)
theorem k_C_readSemicolon_4 : decode (sk_by 161) 4 = .ok (.aload_n 0, 1) := by decide +kernel
theorem x_C_readSemicolon_4 {st : List Value} {x : Nat} {I : MI} {J : MJ} {R : MR} {S : Sh} {Q : SkQ} : Wp 161 4 [.ref x] st I J R S Q = Wp 161 5 [.ref x] (.ref x :: st) I J R S Q := o_aload_n rfl k_C_readSemicolon_4
theorem k_C_readSemicolon_5 : decode (sk_by 161) 5 = .ok (.aload_n 0, 1) := by decide +kernel
theorem x_C_readSemicolon_5 {st : List Value} {x : Nat} {I : MI} {J : MJ} {R : MR} {S : Sh} {Q : SkQ} : Wp 161 5 [.ref x] st I J R S Q = Wp 161 6 [.ref x] (.ref x :: st) I J R S Q := o_aload_n rfl k_C_readSemicolon_5
theorem k_C_readSemicolon_6 : decode (sk_by 161) 6 = .ok (.getfield 22, 3) := by decide +kernel
theorem x_C_readSemicolon_6 {ls st : List Value} {a : Nat} {I : MI} {J : MJ} {R : MR} {S : Sh} {Q : SkQ} (ha : S.1 a = 5) : Wp 161 6 ls (.ref a :: st) I J R S Q = Wp 161 9 ls (.int (I a 2) :: st) I J R S Q := o_getfieldI (show sk_lkF (sk_cl 161) 22 = some (5, 2, 0, 0, 0) by decide +kernel) k_C_readSemicolon_6 ha
theorem k_C_readSemicolon_9 : decode (sk_by 161) 9 = .ok (.invokevirtual 100, 3) := by decide +kernel
theorem x_C_readSemicolon_9 {ls : List Value} {a0 : Nat} {a1 : Int32} {I : MI} {J : MJ} {R : MR} {S : Sh} {Q : SkQ} (ha : S.1 a0 = 5) : Wp 161 9 ls (.int a1 :: .ref a0 :: []) I J R S Q = Wp 166 0 [.ref a0, .int a1] [] I J R S (Ret 161 9 12 166 ls [] Q) := o_call (as := [.ref a0, .int a1]) (rest := []) (show sk_lkM (sk_cl 161) 100 = some 166 by decide +kernel) (by decide) (by decide) (by (decide +kernel)) (ins := .invokevirtual 100) (by (decide +kernel)) k_C_readSemicolon_9 rfl (show 2 = sk_na 166 by (decide +kernel)) (Nat.le_of_ble_eq_true rfl) (Nat.le_trans (show (argL [.ref a0, .int a1]).length ≤ 2 from Nat.le_of_ble_eq_true rfl) (by (decide +kernel))) (rcv_of (by (decide +kernel)) (by decide) ha)
theorem k_C_readSemicolon_12 : decode (sk_by 161) 12 = .ok (.bipush 59, 2) := by decide +kernel
theorem x_C_readSemicolon_12 {ls st : List Value} {I : MI} {J : MJ} {R : MR} {S : Sh} {Q : SkQ} : Wp 161 12 ls st I J R S Q = Wp 161 14 ls (.int 59 :: st) I J R S Q := o_bi (by decide) k_C_readSemicolon_12
theorem k_C_readSemicolon_14 : decode (sk_by 161) 14 = .ok (.if_icmp .eq 7, 3) := by decide +kernel
theorem x_C_readSemicolon_14 {ls st : List Value} {x y : Int32} {I : MI} {J : MJ} {R : MR} {S : Sh} {Q : SkQ} : Wp 161 14 ls (.int y :: .int x :: st) I J R S Q = if x = y then Wp 161 21 ls st I J R S Q else Wp 161 17 ls st I J R S Q := o_ic_eq rfl rfl k_C_readSemicolon_14
theorem k_C_readSemicolon_17 : decode (sk_by 161) 17 = .ok (.aload_n 0, 1) := by decide +kernel
theorem x_C_readSemicolon_17 {st : List Value} {x : Nat} {I : MI} {J : MJ} {R : MR} {S : Sh} {Q : SkQ} : Wp 161 17 [.ref x] st I J R S Q = Wp 161 18 [.ref x] (.ref x :: st) I J R S Q := o_aload_n rfl k_C_readSemicolon_17
theorem k_C_readSemicolon_18 : decode (sk_by 161) 18 = .ok (.invokevirtual 113, 3) := by decide +kernel
theorem x_C_readSemicolon_18 {ls : List Value} {a0 : Nat} {I : MI} {J : MJ} {R : MR} {S : Sh} {Q : SkQ} (ha : S.1 a0 = 5) : Wp 161 18 ls (.ref a0 :: []) I J R S Q = Wp 162 0 [.ref a0] [] I J R S (Ret 161 18 21 162 ls [] Q) := o_call (as := [.ref a0]) (rest := []) (show sk_lkM (sk_cl 161) 113 = some 162 by decide +kernel) (by decide) (by decide) (by (decide +kernel)) (ins := .invokevirtual 113) (by (decide +kernel)) k_C_readSemicolon_18 rfl (show 1 = sk_na 162 by (decide +kernel)) (Nat.le_of_ble_eq_true rfl) (Nat.le_trans (show (argL [.ref a0]).length ≤ 1 from Nat.le_of_ble_eq_true rfl) (by (decide +kernel))) (rcv_of (by (decide +kernel)) (by decide) ha)
theorem k_C_readSemicolon_21 : decode (sk_by 161) 21 = .ok (.aload_n 0, 1) := by decide +kernel
theorem x_C_readSemicolon_21 {st : List Value} {x : Nat} {I : MI} {J : MJ} {R : MR} {S : Sh} {Q : SkQ} : Wp 161 21 [.ref x] st I J R S Q = Wp 161 22 [.ref x] (.ref x :: st) I J R S Q := o_aload_n rfl k_C_readSemicolon_21
theorem k_C_readSemicolon_22 : decode (sk_by 161) 22 = .ok (.dup, 1) := by decide +kernel
theorem x_C_readSemicolon_22 {ls st : List Value} {x : Nat} {I : MI} {J : MJ} {R : MR} {S : Sh} {Q : SkQ} : Wp 161 22 ls (.ref x :: st) I J R S Q = Wp 161 23 ls (.ref x :: .ref x :: st) I J R S Q := o_dupR k_C_readSemicolon_22
theorem k_C_readSemicolon_23 : decode (sk_by 161) 23 = .ok (.getfield 22, 3) := by decide +kernel
theorem x_C_readSemicolon_23 {ls st : List Value} {a : Nat} {I : MI} {J : MJ} {R : MR} {S : Sh} {Q : SkQ} (ha : S.1 a = 5) : Wp 161 23 ls (.ref a :: st) I J R S Q = Wp 161 26 ls (.int (I a 2) :: st) I J R S Q := o_getfieldI (show sk_lkF (sk_cl 161) 22 = some (5, 2, 0, 0, 0) by decide +kernel) k_C_readSemicolon_23 ha
theorem k_C_readSemicolon_26 : decode (sk_by 161) 26 = .ok (.iconst 1, 1) := by decide +kernel
theorem x_C_readSemicolon_26 {ls st : List Value} {I : MI} {J : MJ} {R : MR} {S : Sh} {Q : SkQ} : Wp 161 26 ls st I J R S Q = Wp 161 27 ls (.int 1 :: st) I J R S Q := o_const (by decide) k_C_readSemicolon_26
theorem k_C_readSemicolon_27 : decode (sk_by 161) 27 = .ok (.iadd, 1) := by decide +kernel
theorem x_C_readSemicolon_27 {ls st : List Value} {x y : Int32} {I : MI} {J : MJ} {R : MR} {S : Sh} {Q : SkQ} : Wp 161 27 ls (.int y :: .int x :: st) I J R S Q = Wp 161 28 ls (.int (x + y) :: st) I J R S Q := o_iadd k_C_readSemicolon_27
theorem k_C_readSemicolon_28 : decode (sk_by 161) 28 = .ok (.putfield 22, 3) := by decide +kernel
theorem x_C_readSemicolon_28 {ls st : List Value} {a : Nat} {x : Int32} {I : MI} {J : MJ} {R : MR} {S : Sh} {Q : SkQ} (ha : S.1 a = 5) : Wp 161 28 ls (.int x :: .ref a :: st) I J R S Q = Wp 161 31 ls st (u2 I a 2 x) J R S Q := o_putfieldI (show sk_lkF (sk_cl 161) 22 = some (5, 2, 0, 0, 0) by decide +kernel) (by decide) (by (decide +kernel)) k_C_readSemicolon_28 ha
theorem k_C_readSemicolon_31 : decode (sk_by 161) 31 = .ok (.return_, 1) := by decide +kernel
theorem x_C_readSemicolon_31 {ls : List Value} {I : MI} {J : MJ} {R : MR} {S : Sh} {Q : SkQ} : Wp 161 31 ls [] I J R S Q = Q 0 none I J R S := o_return (by (decide +kernel)) k_C_readSemicolon_31
theorem k_C_failHere_0 : decode (sk_by 162) 0 = .ok (.aload_n 0, 1) := by decide +kernel
theorem x_C_failHere_0 {st : List Value} {x : Nat} {I : MI} {J : MJ} {R : MR} {S : Sh} {Q : SkQ} : Wp 162 0 [.ref x] st I J R S Q = Wp 162 1 [.ref x] (.ref x :: st) I J R S Q := o_aload_n rfl k_C_failHere_0
theorem k_C_failHere_1 : decode (sk_by 162) 1 = .ok (.getfield 15, 3) := by decide +kernel
theorem x_C_failHere_1 {ls st : List Value} {a : Nat} {I : MI} {J : MJ} {R : MR} {S : Sh} {Q : SkQ} (ha : S.1 a = 5) : Wp 162 1 ls (.ref a :: st) I J R S Q = Wp 162 4 ls (.int (I a 3) :: st) I J R S Q := o_getfieldI (show sk_lkF (sk_cl 162) 15 = some (5, 3, 0, 0, 0) by decide +kernel) k_C_failHere_1 ha
theorem k_C_failHere_4 : decode (sk_by 162) 4 = .ok (.iconst (-1), 1) := by decide +kernel
theorem x_C_failHere_4 {ls st : List Value} {I : MI} {J : MJ} {R : MR} {S : Sh} {Q : SkQ} : Wp 162 4 ls st I J R S Q = Wp 162 5 ls (.int (-1) :: st) I J R S Q := o_const (by decide) k_C_failHere_4
theorem k_C_failHere_5 : decode (sk_by 162) 5 = .ok (.if_icmp .ne 11, 3) := by decide +kernel
theorem x_C_failHere_5 {ls st : List Value} {x y : Int32} {I : MI} {J : MJ} {R : MR} {S : Sh} {Q : SkQ} : Wp 162 5 ls (.int y :: .int x :: st) I J R S Q = if x = y then Wp 162 8 ls st I J R S Q else Wp 162 16 ls st I J R S Q := o_ic_ne rfl rfl k_C_failHere_5
theorem k_C_failHere_8 : decode (sk_by 162) 8 = .ok (.aload_n 0, 1) := by decide +kernel
theorem x_C_failHere_8 {st : List Value} {x : Nat} {I : MI} {J : MJ} {R : MR} {S : Sh} {Q : SkQ} : Wp 162 8 [.ref x] st I J R S Q = Wp 162 9 [.ref x] (.ref x :: st) I J R S Q := o_aload_n rfl k_C_failHere_8
theorem k_C_failHere_9 : decode (sk_by 162) 9 = .ok (.aload_n 0, 1) := by decide +kernel
theorem x_C_failHere_9 {st : List Value} {x : Nat} {I : MI} {J : MJ} {R : MR} {S : Sh} {Q : SkQ} : Wp 162 9 [.ref x] st I J R S Q = Wp 162 10 [.ref x] (.ref x :: st) I J R S Q := o_aload_n rfl k_C_failHere_9
theorem k_C_failHere_10 : decode (sk_by 162) 10 = .ok (.getfield 22, 3) := by decide +kernel
theorem x_C_failHere_10 {ls st : List Value} {a : Nat} {I : MI} {J : MJ} {R : MR} {S : Sh} {Q : SkQ} (ha : S.1 a = 5) : Wp 162 10 ls (.ref a :: st) I J R S Q = Wp 162 13 ls (.int (I a 2) :: st) I J R S Q := o_getfieldI (show sk_lkF (sk_cl 162) 22 = some (5, 2, 0, 0, 0) by decide +kernel) k_C_failHere_10 ha
theorem k_C_failHere_13 : decode (sk_by 162) 13 = .ok (.putfield 15, 3) := by decide +kernel
theorem x_C_failHere_13 {ls st : List Value} {a : Nat} {x : Int32} {I : MI} {J : MJ} {R : MR} {S : Sh} {Q : SkQ} (ha : S.1 a = 5) : Wp 162 13 ls (.int x :: .ref a :: st) I J R S Q = Wp 162 16 ls st (u2 I a 3 x) J R S Q := o_putfieldI (show sk_lkF (sk_cl 162) 15 = some (5, 3, 0, 0, 0) by decide +kernel) (by decide) (by (decide +kernel)) k_C_failHere_13 ha
theorem k_C_failHere_16 : decode (sk_by 162) 16 = .ok (.return_, 1) := by decide +kernel
theorem x_C_failHere_16 {ls : List Value} {I : MI} {J : MJ} {R : MR} {S : Sh} {Q : SkQ} : Wp 162 16 ls [] I J R S Q = Q 0 none I J R S := o_return (by (decide +kernel)) k_C_failHere_16
theorem k_C_skipSpaces_0 : decode (sk_by 163) 0 = .ok (.iconst 0, 1) := by decide +kernel
theorem x_C_skipSpaces_0 {ls st : List Value} {I : MI} {J : MJ} {R : MR} {S : Sh} {Q : SkQ} : Wp 163 0 ls st I J R S Q = Wp 163 1 ls (.int 0 :: st) I J R S Q := o_const (by decide) k_C_skipSpaces_0
theorem k_C_skipSpaces_1 : decode (sk_by 163) 1 = .ok (.istore_n 1, 1) := by decide +kernel
theorem x_C_skipSpaces_1 {st : List Value} {l0 : Nat} {x : Int32} {I : MI} {J : MJ} {R : MR} {S : Sh} {Q : SkQ} : Wp 163 1 [.ref l0, nov] (.int x :: st) I J R S Q = Wp 163 2 [.ref l0, .int x] st I J R S Q := o_istore_n (Nat.le_of_ble_eq_true rfl) rfl k_C_skipSpaces_1
theorem k_C_skipSpaces_2 : decode (sk_by 163) 2 = .ok (.iload_n 1, 1) := by decide +kernel
theorem x_C_skipSpaces_2 {st : List Value} {l0 : Nat} {x : Int32} {I : MI} {J : MJ} {R : MR} {S : Sh} {Q : SkQ} : Wp 163 2 [.ref l0, .int x] st I J R S Q = Wp 163 3 [.ref l0, .int x] (.int x :: st) I J R S Q := o_iload_n rfl k_C_skipSpaces_2
theorem k_C_skipSpaces_3 : decode (sk_by 163) 3 = .ok (.sipush 150, 3) := by decide +kernel
theorem x_C_skipSpaces_3 {ls st : List Value} {I : MI} {J : MJ} {R : MR} {S : Sh} {Q : SkQ} : Wp 163 3 ls st I J R S Q = Wp 163 6 ls (.int 150 :: st) I J R S Q := o_si (by decide) k_C_skipSpaces_3
theorem k_C_skipSpaces_6 : decode (sk_by 163) 6 = .ok (.if_icmp .ge 32, 3) := by decide +kernel
theorem x_C_skipSpaces_6 {ls st : List Value} {x y : Int32} {I : MI} {J : MJ} {R : MR} {S : Sh} {Q : SkQ} : Wp 163 6 ls (.int y :: .int x :: st) I J R S Q = if x < y then Wp 163 9 ls st I J R S Q else Wp 163 38 ls st I J R S Q := o_ic_ge rfl rfl k_C_skipSpaces_6
theorem k_C_skipSpaces_9 : decode (sk_by 163) 9 = .ok (.aload_n 0, 1) := by decide +kernel
theorem x_C_skipSpaces_9 {st : List Value} {l1 : Int32} {x : Nat} {I : MI} {J : MJ} {R : MR} {S : Sh} {Q : SkQ} : Wp 163 9 [.ref x, .int l1] st I J R S Q = Wp 163 10 [.ref x, .int l1] (.ref x :: st) I J R S Q := o_aload_n rfl k_C_skipSpaces_9
theorem k_C_skipSpaces_10 : decode (sk_by 163) 10 = .ok (.aload_n 0, 1) := by decide +kernel
theorem x_C_skipSpaces_10 {st : List Value} {l1 : Int32} {x : Nat} {I : MI} {J : MJ} {R : MR} {S : Sh} {Q : SkQ} : Wp 163 10 [.ref x, .int l1] st I J R S Q = Wp 163 11 [.ref x, .int l1] (.ref x :: st) I J R S Q := o_aload_n rfl k_C_skipSpaces_10
theorem k_C_skipSpaces_11 : decode (sk_by 163) 11 = .ok (.getfield 22, 3) := by decide +kernel
theorem x_C_skipSpaces_11 {ls st : List Value} {a : Nat} {I : MI} {J : MJ} {R : MR} {S : Sh} {Q : SkQ} (ha : S.1 a = 5) : Wp 163 11 ls (.ref a :: st) I J R S Q = Wp 163 14 ls (.int (I a 2) :: st) I J R S Q := o_getfieldI (show sk_lkF (sk_cl 163) 22 = some (5, 2, 0, 0, 0) by decide +kernel) k_C_skipSpaces_11 ha
theorem k_C_skipSpaces_14 : decode (sk_by 163) 14 = .ok (.invokevirtual 100, 3) := by decide +kernel
theorem x_C_skipSpaces_14 {ls : List Value} {a0 : Nat} {a1 : Int32} {I : MI} {J : MJ} {R : MR} {S : Sh} {Q : SkQ} (ha : S.1 a0 = 5) : Wp 163 14 ls (.int a1 :: .ref a0 :: []) I J R S Q = Wp 166 0 [.ref a0, .int a1] [] I J R S (Ret 163 14 17 166 ls [] Q) := o_call (as := [.ref a0, .int a1]) (rest := []) (show sk_lkM (sk_cl 163) 100 = some 166 by decide +kernel) (by decide) (by decide) (by (decide +kernel)) (ins := .invokevirtual 100) (by (decide +kernel)) k_C_skipSpaces_14 rfl (show 2 = sk_na 166 by (decide +kernel)) (Nat.le_of_ble_eq_true rfl) (Nat.le_trans (show (argL [.ref a0, .int a1]).length ≤ 2 from Nat.le_of_ble_eq_true rfl) (by (decide +kernel))) (rcv_of (by (decide +kernel)) (by decide) ha)
theorem k_C_skipSpaces_17 : decode (sk_by 163) 17 = .ok (.bipush 32, 2) := by decide +kernel
theorem x_C_skipSpaces_17 {ls st : List Value} {I : MI} {J : MJ} {R : MR} {S : Sh} {Q : SkQ} : Wp 163 17 ls st I J R S Q = Wp 163 19 ls (.int 32 :: st) I J R S Q := o_bi (by decide) k_C_skipSpaces_17
theorem k_C_skipSpaces_19 : decode (sk_by 163) 19 = .ok (.if_icmp .ne 19, 3) := by decide +kernel
theorem x_C_skipSpaces_19 {ls st : List Value} {x y : Int32} {I : MI} {J : MJ} {R : MR} {S : Sh} {Q : SkQ} : Wp 163 19 ls (.int y :: .int x :: st) I J R S Q = if x = y then Wp 163 22 ls st I J R S Q else Wp 163 38 ls st I J R S Q := o_ic_ne rfl rfl k_C_skipSpaces_19
theorem k_C_skipSpaces_22 : decode (sk_by 163) 22 = .ok (.aload_n 0, 1) := by decide +kernel
theorem x_C_skipSpaces_22 {st : List Value} {l1 : Int32} {x : Nat} {I : MI} {J : MJ} {R : MR} {S : Sh} {Q : SkQ} : Wp 163 22 [.ref x, .int l1] st I J R S Q = Wp 163 23 [.ref x, .int l1] (.ref x :: st) I J R S Q := o_aload_n rfl k_C_skipSpaces_22
theorem k_C_skipSpaces_23 : decode (sk_by 163) 23 = .ok (.dup, 1) := by decide +kernel
theorem x_C_skipSpaces_23 {ls st : List Value} {x : Nat} {I : MI} {J : MJ} {R : MR} {S : Sh} {Q : SkQ} : Wp 163 23 ls (.ref x :: st) I J R S Q = Wp 163 24 ls (.ref x :: .ref x :: st) I J R S Q := o_dupR k_C_skipSpaces_23
theorem k_C_skipSpaces_24 : decode (sk_by 163) 24 = .ok (.getfield 22, 3) := by decide +kernel
theorem x_C_skipSpaces_24 {ls st : List Value} {a : Nat} {I : MI} {J : MJ} {R : MR} {S : Sh} {Q : SkQ} (ha : S.1 a = 5) : Wp 163 24 ls (.ref a :: st) I J R S Q = Wp 163 27 ls (.int (I a 2) :: st) I J R S Q := o_getfieldI (show sk_lkF (sk_cl 163) 22 = some (5, 2, 0, 0, 0) by decide +kernel) k_C_skipSpaces_24 ha
theorem k_C_skipSpaces_27 : decode (sk_by 163) 27 = .ok (.iconst 1, 1) := by decide +kernel
theorem x_C_skipSpaces_27 {ls st : List Value} {I : MI} {J : MJ} {R : MR} {S : Sh} {Q : SkQ} : Wp 163 27 ls st I J R S Q = Wp 163 28 ls (.int 1 :: st) I J R S Q := o_const (by decide) k_C_skipSpaces_27
theorem k_C_skipSpaces_28 : decode (sk_by 163) 28 = .ok (.iadd, 1) := by decide +kernel
theorem x_C_skipSpaces_28 {ls st : List Value} {x y : Int32} {I : MI} {J : MJ} {R : MR} {S : Sh} {Q : SkQ} : Wp 163 28 ls (.int y :: .int x :: st) I J R S Q = Wp 163 29 ls (.int (x + y) :: st) I J R S Q := o_iadd k_C_skipSpaces_28
theorem k_C_skipSpaces_29 : decode (sk_by 163) 29 = .ok (.putfield 22, 3) := by decide +kernel
theorem x_C_skipSpaces_29 {ls st : List Value} {a : Nat} {x : Int32} {I : MI} {J : MJ} {R : MR} {S : Sh} {Q : SkQ} (ha : S.1 a = 5) : Wp 163 29 ls (.int x :: .ref a :: st) I J R S Q = Wp 163 32 ls st (u2 I a 2 x) J R S Q := o_putfieldI (show sk_lkF (sk_cl 163) 22 = some (5, 2, 0, 0, 0) by decide +kernel) (by decide) (by (decide +kernel)) k_C_skipSpaces_29 ha
theorem k_C_skipSpaces_32 : decode (sk_by 163) 32 = .ok (.iinc 1 1, 3) := by decide +kernel
theorem x_C_skipSpaces_32 {st : List Value} {l0 : Nat} {x : Int32} {I : MI} {J : MJ} {R : MR} {S : Sh} {Q : SkQ} : Wp 163 32 [.ref l0, .int x] st I J R S Q = Wp 163 35 [.ref l0, .int (x + 1)] st I J R S Q := o_inc (by decide) rfl (Nat.le_of_ble_eq_true rfl) rfl k_C_skipSpaces_32
theorem k_C_skipSpaces_35 : decode (sk_by 163) 35 = .ok (.goto (-33), 3) := by decide +kernel
theorem x_C_skipSpaces_35 {ls st : List Value} {I : MI} {J : MJ} {R : MR} {S : Sh} {Q : SkQ} : Wp 163 35 ls st I J R S Q = Wp 163 2 ls st I J R S Q := o_goto rfl rfl k_C_skipSpaces_35
theorem k_C_skipSpaces_38 : decode (sk_by 163) 38 = .ok (.return_, 1) := by decide +kernel
theorem x_C_skipSpaces_38 {ls : List Value} {I : MI} {J : MJ} {R : MR} {S : Sh} {Q : SkQ} : Wp 163 38 ls [] I J R S Q = Q 0 none I J R S := o_return (by (decide +kernel)) k_C_skipSpaces_38
theorem k_C_isLetterNext_0 : decode (sk_by 164) 0 = .ok (.aload_n 0, 1) := by decide +kernel
theorem x_C_isLetterNext_0 {st : List Value} {x : Nat} {I : MI} {J : MJ} {R : MR} {S : Sh} {Q : SkQ} : Wp 164 0 [.ref x] st I J R S Q = Wp 164 1 [.ref x] (.ref x :: st) I J R S Q := o_aload_n rfl k_C_isLetterNext_0
theorem k_C_isLetterNext_1 : decode (sk_by 164) 1 = .ok (.aload_n 0, 1) := by decide +kernel
theorem x_C_isLetterNext_1 {st : List Value} {x : Nat} {I : MI} {J : MJ} {R : MR} {S : Sh} {Q : SkQ} : Wp 164 1 [.ref x] st I J R S Q = Wp 164 2 [.ref x] (.ref x :: st) I J R S Q := o_aload_n rfl k_C_isLetterNext_1
theorem k_C_isLetterNext_2 : decode (sk_by 164) 2 = .ok (.getfield 22, 3) := by decide +kernel
theorem x_C_isLetterNext_2 {ls st : List Value} {a : Nat} {I : MI} {J : MJ} {R : MR} {S : Sh} {Q : SkQ} (ha : S.1 a = 5) : Wp 164 2 ls (.ref a :: st) I J R S Q = Wp 164 5 ls (.int (I a 2) :: st) I J R S Q := o_getfieldI (show sk_lkF (sk_cl 164) 22 = some (5, 2, 0, 0, 0) by decide +kernel) k_C_isLetterNext_2 ha
theorem k_C_isLetterNext_5 : decode (sk_by 164) 5 = .ok (.invokevirtual 100, 3) := by decide +kernel
theorem x_C_isLetterNext_5 {ls : List Value} {a0 : Nat} {a1 : Int32} {I : MI} {J : MJ} {R : MR} {S : Sh} {Q : SkQ} (ha : S.1 a0 = 5) : Wp 164 5 ls (.int a1 :: .ref a0 :: []) I J R S Q = Wp 166 0 [.ref a0, .int a1] [] I J R S (Ret 164 5 8 166 ls [] Q) := o_call (as := [.ref a0, .int a1]) (rest := []) (show sk_lkM (sk_cl 164) 100 = some 166 by decide +kernel) (by decide) (by decide) (by (decide +kernel)) (ins := .invokevirtual 100) (by (decide +kernel)) k_C_isLetterNext_5 rfl (show 2 = sk_na 166 by (decide +kernel)) (Nat.le_of_ble_eq_true rfl) (Nat.le_trans (show (argL [.ref a0, .int a1]).length ≤ 2 from Nat.le_of_ble_eq_true rfl) (by (decide +kernel))) (rcv_of (by (decide +kernel)) (by decide) ha)
theorem k_C_isLetterNext_8 : decode (sk_by 164) 8 = .ok (.bipush 97, 2) := by decide +kernel
theorem x_C_isLetterNext_8 {ls st : List Value} {I : MI} {J : MJ} {R : MR} {S : Sh} {Q : SkQ} : Wp 164 8 ls st I J R S Q = Wp 164 10 ls (.int 97 :: st) I J R S Q := o_bi (by decide) k_C_isLetterNext_8
theorem k_C_isLetterNext_10 : decode (sk_by 164) 10 = .ok (.if_icmp .lt 20, 3) := by decide +kernel
theorem x_C_isLetterNext_10 {ls st : List Value} {x y : Int32} {I : MI} {J : MJ} {R : MR} {S : Sh} {Q : SkQ} : Wp 164 10 ls (.int y :: .int x :: st) I J R S Q = if x < y then Wp 164 30 ls st I J R S Q else Wp 164 13 ls st I J R S Q := o_ic_lt rfl rfl k_C_isLetterNext_10
theorem k_C_isLetterNext_13 : decode (sk_by 164) 13 = .ok (.aload_n 0, 1) := by decide +kernel
theorem x_C_isLetterNext_13 {st : List Value} {x : Nat} {I : MI} {J : MJ} {R : MR} {S : Sh} {Q : SkQ} : Wp 164 13 [.ref x] st I J R S Q = Wp 164 14 [.ref x] (.ref x :: st) I J R S Q := o_aload_n rfl k_C_isLetterNext_13
theorem k_C_isLetterNext_14 : decode (sk_by 164) 14 = .ok (.aload_n 0, 1) := by decide +kernel
theorem x_C_isLetterNext_14 {st : List Value} {x : Nat} {I : MI} {J : MJ} {R : MR} {S : Sh} {Q : SkQ} : Wp 164 14 [.ref x] st I J R S Q = Wp 164 15 [.ref x] (.ref x :: st) I J R S Q := o_aload_n rfl k_C_isLetterNext_14
theorem k_C_isLetterNext_15 : decode (sk_by 164) 15 = .ok (.getfield 22, 3) := by decide +kernel
theorem x_C_isLetterNext_15 {ls st : List Value} {a : Nat} {I : MI} {J : MJ} {R : MR} {S : Sh} {Q : SkQ} (ha : S.1 a = 5) : Wp 164 15 ls (.ref a :: st) I J R S Q = Wp 164 18 ls (.int (I a 2) :: st) I J R S Q := o_getfieldI (show sk_lkF (sk_cl 164) 22 = some (5, 2, 0, 0, 0) by decide +kernel) k_C_isLetterNext_15 ha
theorem k_C_isLetterNext_18 : decode (sk_by 164) 18 = .ok (.invokevirtual 100, 3) := by decide +kernel
theorem x_C_isLetterNext_18 {ls : List Value} {a0 : Nat} {a1 : Int32} {I : MI} {J : MJ} {R : MR} {S : Sh} {Q : SkQ} (ha : S.1 a0 = 5) : Wp 164 18 ls (.int a1 :: .ref a0 :: []) I J R S Q = Wp 166 0 [.ref a0, .int a1] [] I J R S (Ret 164 18 21 166 ls [] Q) := o_call (as := [.ref a0, .int a1]) (rest := []) (show sk_lkM (sk_cl 164) 100 = some 166 by decide +kernel) (by decide) (by decide) (by (decide +kernel)) (ins := .invokevirtual 100) (by (decide +kernel)) k_C_isLetterNext_18 rfl (show 2 = sk_na 166 by (decide +kernel)) (Nat.le_of_ble_eq_true rfl) (Nat.le_trans (show (argL [.ref a0, .int a1]).length ≤ 2 from Nat.le_of_ble_eq_true rfl) (by (decide +kernel))) (rcv_of (by (decide +kernel)) (by decide) ha)
theorem k_C_isLetterNext_21 : decode (sk_by 164) 21 = .ok (.bipush 122, 2) := by decide +kernel
theorem x_C_isLetterNext_21 {ls st : List Value} {I : MI} {J : MJ} {R : MR} {S : Sh} {Q : SkQ} : Wp 164 21 ls st I J R S Q = Wp 164 23 ls (.int 122 :: st) I J R S Q := o_bi (by decide) k_C_isLetterNext_21
theorem k_C_isLetterNext_23 : decode (sk_by 164) 23 = .ok (.if_icmp .gt 7, 3) := by decide +kernel
theorem x_C_isLetterNext_23 {ls st : List Value} {x y : Int32} {I : MI} {J : MJ} {R : MR} {S : Sh} {Q : SkQ} : Wp 164 23 ls (.int y :: .int x :: st) I J R S Q = if y < x then Wp 164 30 ls st I J R S Q else Wp 164 26 ls st I J R S Q := o_ic_gt rfl rfl k_C_isLetterNext_23
theorem k_C_isLetterNext_26 : decode (sk_by 164) 26 = .ok (.iconst 1, 1) := by decide +kernel
theorem x_C_isLetterNext_26 {ls st : List Value} {I : MI} {J : MJ} {R : MR} {S : Sh} {Q : SkQ} : Wp 164 26 ls st I J R S Q = Wp 164 27 ls (.int 1 :: st) I J R S Q := o_const (by decide) k_C_isLetterNext_26
theorem k_C_isLetterNext_27 : decode (sk_by 164) 27 = .ok (.goto 4, 3) := by decide +kernel
theorem x_C_isLetterNext_27 {ls st : List Value} {I : MI} {J : MJ} {R : MR} {S : Sh} {Q : SkQ} : Wp 164 27 ls st I J R S Q = Wp 164 31 ls st I J R S Q := o_goto rfl rfl k_C_isLetterNext_27
theorem k_C_isLetterNext_30 : decode (sk_by 164) 30 = .ok (.iconst 0, 1) := by decide +kernel
theorem x_C_isLetterNext_30 {ls st : List Value} {I : MI} {J : MJ} {R : MR} {S : Sh} {Q : SkQ} : Wp 164 30 ls st I J R S Q = Wp 164 31 ls (.int 0 :: st) I J R S Q := o_const (by decide) k_C_isLetterNext_30
theorem k_C_isLetterNext_31 : decode (sk_by 164) 31 = .ok (.ireturn, 1) := by decide +kernel
theorem x_C_isLetterNext_31 {ls : List Value} {v : Int32} {I : MI} {J : MJ} {R : MR} {S : Sh} {Q : SkQ} (h : rOk (some .boolean) v = true) : Wp 164 31 ls [.int v] I J R S Q = Q 0 (some (.int v)) I J R S := o_ireturn k_C_isLetterNext_31 (by rw [show sk_rt 164 = some .boolean from rfl]; exact h)
theorem k_C_isDigitNext_0 : decode (sk_by 165) 0 = .ok (.aload_n 0, 1) := by decide +kernel
theorem x_C_isDigitNext_0 {st : List Value} {x : Nat} {I : MI} {J : MJ} {R : MR} {S : Sh} {Q : SkQ} : Wp 165 0 [.ref x] st I J R S Q = Wp 165 1 [.ref x] (.ref x :: st) I J R S Q := o_aload_n rfl k_C_isDigitNext_0
theorem k_C_isDigitNext_1 : decode (sk_by 165) 1 = .ok (.aload_n 0, 1) := by decide +kernel
theorem x_C_isDigitNext_1 {st : List Value} {x : Nat} {I : MI} {J : MJ} {R : MR} {S : Sh} {Q : SkQ} : Wp 165 1 [.ref x] st I J R S Q = Wp 165 2 [.ref x] (.ref x :: st) I J R S Q := o_aload_n rfl k_C_isDigitNext_1
theorem k_C_isDigitNext_2 : decode (sk_by 165) 2 = .ok (.getfield 22, 3) := by decide +kernel
theorem x_C_isDigitNext_2 {ls st : List Value} {a : Nat} {I : MI} {J : MJ} {R : MR} {S : Sh} {Q : SkQ} (ha : S.1 a = 5) : Wp 165 2 ls (.ref a :: st) I J R S Q = Wp 165 5 ls (.int (I a 2) :: st) I J R S Q := o_getfieldI (show sk_lkF (sk_cl 165) 22 = some (5, 2, 0, 0, 0) by decide +kernel) k_C_isDigitNext_2 ha
theorem k_C_isDigitNext_5 : decode (sk_by 165) 5 = .ok (.invokevirtual 100, 3) := by decide +kernel
theorem x_C_isDigitNext_5 {ls : List Value} {a0 : Nat} {a1 : Int32} {I : MI} {J : MJ} {R : MR} {S : Sh} {Q : SkQ} (ha : S.1 a0 = 5) : Wp 165 5 ls (.int a1 :: .ref a0 :: []) I J R S Q = Wp 166 0 [.ref a0, .int a1] [] I J R S (Ret 165 5 8 166 ls [] Q) := o_call (as := [.ref a0, .int a1]) (rest := []) (show sk_lkM (sk_cl 165) 100 = some 166 by decide +kernel) (by decide) (by decide) (by (decide +kernel)) (ins := .invokevirtual 100) (by (decide +kernel)) k_C_isDigitNext_5 rfl (show 2 = sk_na 166 by (decide +kernel)) (Nat.le_of_ble_eq_true rfl) (Nat.le_trans (show (argL [.ref a0, .int a1]).length ≤ 2 from Nat.le_of_ble_eq_true rfl) (by (decide +kernel))) (rcv_of (by (decide +kernel)) (by decide) ha)
theorem k_C_isDigitNext_8 : decode (sk_by 165) 8 = .ok (.bipush 48, 2) := by decide +kernel
theorem x_C_isDigitNext_8 {ls st : List Value} {I : MI} {J : MJ} {R : MR} {S : Sh} {Q : SkQ} : Wp 165 8 ls st I J R S Q = Wp 165 10 ls (.int 48 :: st) I J R S Q := o_bi (by decide) k_C_isDigitNext_8
theorem k_C_isDigitNext_10 : decode (sk_by 165) 10 = .ok (.if_icmp .lt 20, 3) := by decide +kernel
theorem x_C_isDigitNext_10 {ls st : List Value} {x y : Int32} {I : MI} {J : MJ} {R : MR} {S : Sh} {Q : SkQ} : Wp 165 10 ls (.int y :: .int x :: st) I J R S Q = if x < y then Wp 165 30 ls st I J R S Q else Wp 165 13 ls st I J R S Q := o_ic_lt rfl rfl k_C_isDigitNext_10
theorem k_C_isDigitNext_13 : decode (sk_by 165) 13 = .ok (.aload_n 0, 1) := by decide +kernel
theorem x_C_isDigitNext_13 {st : List Value} {x : Nat} {I : MI} {J : MJ} {R : MR} {S : Sh} {Q : SkQ} : Wp 165 13 [.ref x] st I J R S Q = Wp 165 14 [.ref x] (.ref x :: st) I J R S Q := o_aload_n rfl k_C_isDigitNext_13
theorem k_C_isDigitNext_14 : decode (sk_by 165) 14 = .ok (.aload_n 0, 1) := by decide +kernel
theorem x_C_isDigitNext_14 {st : List Value} {x : Nat} {I : MI} {J : MJ} {R : MR} {S : Sh} {Q : SkQ} : Wp 165 14 [.ref x] st I J R S Q = Wp 165 15 [.ref x] (.ref x :: st) I J R S Q := o_aload_n rfl k_C_isDigitNext_14
theorem k_C_isDigitNext_15 : decode (sk_by 165) 15 = .ok (.getfield 22, 3) := by decide +kernel
theorem x_C_isDigitNext_15 {ls st : List Value} {a : Nat} {I : MI} {J : MJ} {R : MR} {S : Sh} {Q : SkQ} (ha : S.1 a = 5) : Wp 165 15 ls (.ref a :: st) I J R S Q = Wp 165 18 ls (.int (I a 2) :: st) I J R S Q := o_getfieldI (show sk_lkF (sk_cl 165) 22 = some (5, 2, 0, 0, 0) by decide +kernel) k_C_isDigitNext_15 ha
theorem k_C_isDigitNext_18 : decode (sk_by 165) 18 = .ok (.invokevirtual 100, 3) := by decide +kernel
theorem x_C_isDigitNext_18 {ls : List Value} {a0 : Nat} {a1 : Int32} {I : MI} {J : MJ} {R : MR} {S : Sh} {Q : SkQ} (ha : S.1 a0 = 5) : Wp 165 18 ls (.int a1 :: .ref a0 :: []) I J R S Q = Wp 166 0 [.ref a0, .int a1] [] I J R S (Ret 165 18 21 166 ls [] Q) := o_call (as := [.ref a0, .int a1]) (rest := []) (show sk_lkM (sk_cl 165) 100 = some 166 by decide +kernel) (by decide) (by decide) (by (decide +kernel)) (ins := .invokevirtual 100) (by (decide +kernel)) k_C_isDigitNext_18 rfl (show 2 = sk_na 166 by (decide +kernel)) (Nat.le_of_ble_eq_true rfl) (Nat.le_trans (show (argL [.ref a0, .int a1]).length ≤ 2 from Nat.le_of_ble_eq_true rfl) (by (decide +kernel))) (rcv_of (by (decide +kernel)) (by decide) ha)
theorem k_C_isDigitNext_21 : decode (sk_by 165) 21 = .ok (.bipush 57, 2) := by decide +kernel
theorem x_C_isDigitNext_21 {ls st : List Value} {I : MI} {J : MJ} {R : MR} {S : Sh} {Q : SkQ} : Wp 165 21 ls st I J R S Q = Wp 165 23 ls (.int 57 :: st) I J R S Q := o_bi (by decide) k_C_isDigitNext_21
theorem k_C_isDigitNext_23 : decode (sk_by 165) 23 = .ok (.if_icmp .gt 7, 3) := by decide +kernel
theorem x_C_isDigitNext_23 {ls st : List Value} {x y : Int32} {I : MI} {J : MJ} {R : MR} {S : Sh} {Q : SkQ} : Wp 165 23 ls (.int y :: .int x :: st) I J R S Q = if y < x then Wp 165 30 ls st I J R S Q else Wp 165 26 ls st I J R S Q := o_ic_gt rfl rfl k_C_isDigitNext_23
theorem k_C_isDigitNext_26 : decode (sk_by 165) 26 = .ok (.iconst 1, 1) := by decide +kernel
theorem x_C_isDigitNext_26 {ls st : List Value} {I : MI} {J : MJ} {R : MR} {S : Sh} {Q : SkQ} : Wp 165 26 ls st I J R S Q = Wp 165 27 ls (.int 1 :: st) I J R S Q := o_const (by decide) k_C_isDigitNext_26
theorem k_C_isDigitNext_27 : decode (sk_by 165) 27 = .ok (.goto 4, 3) := by decide +kernel
theorem x_C_isDigitNext_27 {ls st : List Value} {I : MI} {J : MJ} {R : MR} {S : Sh} {Q : SkQ} : Wp 165 27 ls st I J R S Q = Wp 165 31 ls st I J R S Q := o_goto rfl rfl k_C_isDigitNext_27
theorem k_C_isDigitNext_30 : decode (sk_by 165) 30 = .ok (.iconst 0, 1) := by decide +kernel
theorem x_C_isDigitNext_30 {ls st : List Value} {I : MI} {J : MJ} {R : MR} {S : Sh} {Q : SkQ} : Wp 165 30 ls st I J R S Q = Wp 165 31 ls (.int 0 :: st) I J R S Q := o_const (by decide) k_C_isDigitNext_30
theorem k_C_isDigitNext_31 : decode (sk_by 165) 31 = .ok (.ireturn, 1) := by decide +kernel
theorem x_C_isDigitNext_31 {ls : List Value} {v : Int32} {I : MI} {J : MJ} {R : MR} {S : Sh} {Q : SkQ} (h : rOk (some .boolean) v = true) : Wp 165 31 ls [.int v] I J R S Q = Q 0 (some (.int v)) I J R S := o_ireturn k_C_isDigitNext_31 (by rw [show sk_rt 165 = some .boolean from rfl]; exact h)
theorem k_C_byteAt_0 : decode (sk_by 166) 0 = .ok (.iload_n 1, 1) := by decide +kernel
theorem x_C_byteAt_0 {st : List Value} {l0 : Nat} {x : Int32} {I : MI} {J : MJ} {R : MR} {S : Sh} {Q : SkQ} : Wp 166 0 [.ref l0, .int x] st I J R S Q = Wp 166 1 [.ref l0, .int x] (.int x :: st) I J R S Q := o_iload_n rfl k_C_byteAt_0
theorem k_C_byteAt_1 : decode (sk_by 166) 1 = .ok (.ifCond .lt 27, 3) := by decide +kernel
theorem x_C_byteAt_1 {ls st : List Value} {x : Int32} {I : MI} {J : MJ} {R : MR} {S : Sh} {Q : SkQ} : Wp 166 1 ls (.int x :: st) I J R S Q = if x < 0 then Wp 166 28 ls st I J R S Q else Wp 166 4 ls st I J R S Q := o_if_lt rfl rfl k_C_byteAt_1
theorem k_C_byteAt_4 : decode (sk_by 166) 4 = .ok (.iload_n 1, 1) := by decide +kernel
theorem x_C_byteAt_4 {st : List Value} {l0 : Nat} {x : Int32} {I : MI} {J : MJ} {R : MR} {S : Sh} {Q : SkQ} : Wp 166 4 [.ref l0, .int x] st I J R S Q = Wp 166 5 [.ref l0, .int x] (.int x :: st) I J R S Q := o_iload_n rfl k_C_byteAt_4
theorem k_C_byteAt_5 : decode (sk_by 166) 5 = .ok (.aload_n 0, 1) := by decide +kernel
theorem x_C_byteAt_5 {st : List Value} {l1 : Int32} {x : Nat} {I : MI} {J : MJ} {R : MR} {S : Sh} {Q : SkQ} : Wp 166 5 [.ref x, .int l1] st I J R S Q = Wp 166 6 [.ref x, .int l1] (.ref x :: st) I J R S Q := o_aload_n rfl k_C_byteAt_5
theorem k_C_byteAt_6 : decode (sk_by 166) 6 = .ok (.getfield 19, 3) := by decide +kernel
theorem x_C_byteAt_6 {ls st : List Value} {a : Nat} {I : MI} {J : MJ} {R : MR} {S : Sh} {Q : SkQ} (ha : S.1 a = 5) : Wp 166 6 ls (.ref a :: st) I J R S Q = Wp 166 9 ls (.int (I a 1) :: st) I J R S Q := o_getfieldI (show sk_lkF (sk_cl 166) 19 = some (5, 1, 0, 0, 0) by decide +kernel) k_C_byteAt_6 ha
theorem k_C_byteAt_9 : decode (sk_by 166) 9 = .ok (.if_icmp .ge 19, 3) := by decide +kernel
theorem x_C_byteAt_9 {ls st : List Value} {x y : Int32} {I : MI} {J : MJ} {R : MR} {S : Sh} {Q : SkQ} : Wp 166 9 ls (.int y :: .int x :: st) I J R S Q = if x < y then Wp 166 12 ls st I J R S Q else Wp 166 28 ls st I J R S Q := o_ic_ge rfl rfl k_C_byteAt_9
theorem k_C_byteAt_12 : decode (sk_by 166) 12 = .ok (.iload_n 1, 1) := by decide +kernel
theorem x_C_byteAt_12 {st : List Value} {l0 : Nat} {x : Int32} {I : MI} {J : MJ} {R : MR} {S : Sh} {Q : SkQ} : Wp 166 12 [.ref l0, .int x] st I J R S Q = Wp 166 13 [.ref l0, .int x] (.int x :: st) I J R S Q := o_iload_n rfl k_C_byteAt_12
theorem k_C_byteAt_13 : decode (sk_by 166) 13 = .ok (.sipush 150, 3) := by decide +kernel
theorem x_C_byteAt_13 {ls st : List Value} {I : MI} {J : MJ} {R : MR} {S : Sh} {Q : SkQ} : Wp 166 13 ls st I J R S Q = Wp 166 16 ls (.int 150 :: st) I J R S Q := o_si (by decide) k_C_byteAt_13
theorem k_C_byteAt_16 : decode (sk_by 166) 16 = .ok (.if_icmp .ge 12, 3) := by decide +kernel
theorem x_C_byteAt_16 {ls st : List Value} {x y : Int32} {I : MI} {J : MJ} {R : MR} {S : Sh} {Q : SkQ} : Wp 166 16 ls (.int y :: .int x :: st) I J R S Q = if x < y then Wp 166 19 ls st I J R S Q else Wp 166 28 ls st I J R S Q := o_ic_ge rfl rfl k_C_byteAt_16
theorem k_C_byteAt_19 : decode (sk_by 166) 19 = .ok (.aload_n 0, 1) := by decide +kernel
theorem x_C_byteAt_19 {st : List Value} {l1 : Int32} {x : Nat} {I : MI} {J : MJ} {R : MR} {S : Sh} {Q : SkQ} : Wp 166 19 [.ref x, .int l1] st I J R S Q = Wp 166 20 [.ref x, .int l1] (.ref x :: st) I J R S Q := o_aload_n rfl k_C_byteAt_19
theorem k_C_byteAt_20 : decode (sk_by 166) 20 = .ok (.getfield 11, 3) := by decide +kernel
theorem x_C_byteAt_20 {ls st : List Value} {a : Nat} {I : MI} {J : MJ} {R : MR} {S : Sh} {Q : SkQ} (ha : S.1 a = 5) : Wp 166 20 ls (.ref a :: st) I J R S Q = Wp 166 23 ls (R a 0 :: st) I J R S Q := o_getfieldR (show sk_lkF (sk_cl 166) 11 = some (5, 0, 2, 1, 0) by decide +kernel) k_C_byteAt_20 ha
theorem k_C_byteAt_23 : decode (sk_by 166) 23 = .ok (.iload_n 1, 1) := by decide +kernel
theorem x_C_byteAt_23 {st : List Value} {l0 : Nat} {x : Int32} {I : MI} {J : MJ} {R : MR} {S : Sh} {Q : SkQ} : Wp 166 23 [.ref l0, .int x] st I J R S Q = Wp 166 24 [.ref l0, .int x] (.int x :: st) I J R S Q := o_iload_n rfl k_C_byteAt_23
theorem k_C_byteAt_24 : decode (sk_by 166) 24 = .ok (.iaload, 1) := by decide +kernel
theorem x_C_byteAt_24 {ls st : List Value} {a : Nat} {i : Int32} {I : MI} {J : MJ} {R : MR} {S : Sh} {Q : SkQ} (ha : S.1 a = 30) (hi : inb i (S.2.1 a) = true) : Wp 166 24 ls (.int i :: .ref a :: st) I J R S Q = Wp 166 25 ls (.int (I a (ix i)) :: st) I J R S Q := o_iaload k_C_byteAt_24 ha hi
theorem k_C_byteAt_25 : decode (sk_by 166) 25 = .ok (.goto 4, 3) := by decide +kernel
theorem x_C_byteAt_25 {ls st : List Value} {I : MI} {J : MJ} {R : MR} {S : Sh} {Q : SkQ} : Wp 166 25 ls st I J R S Q = Wp 166 29 ls st I J R S Q := o_goto rfl rfl k_C_byteAt_25
theorem k_C_byteAt_28 : decode (sk_by 166) 28 = .ok (.iconst (-1), 1) := by decide +kernel
theorem x_C_byteAt_28 {ls st : List Value} {I : MI} {J : MJ} {R : MR} {S : Sh} {Q : SkQ} : Wp 166 28 ls st I J R S Q = Wp 166 29 ls (.int (-1) :: st) I J R S Q := o_const (by decide) k_C_byteAt_28
theorem k_C_byteAt_29 : decode (sk_by 166) 29 = .ok (.ireturn, 1) := by decide +kernel
theorem x_C_byteAt_29 {ls : List Value} {v : Int32} {I : MI} {J : MJ} {R : MR} {S : Sh} {Q : SkQ} : Wp 166 29 ls [.int v] I J R S Q = Q 0 (some (.int v)) I J R S := o_ireturn k_C_byteAt_29 rfl
