theorem k_H_init_0 : decode (sk_by 142) 0 = .ok (.aload_n 0, 1) := by decide +kernel
theorem x_H_init_0 {st : List Value} {x : Nat} {I : MI} {J : MJ} {R : MR} {S : Sh} {Q : SkQ} : Wp 142 0 [.ref x, nov] st I J R S Q = Wp 142 1 [.ref x, nov] (.ref x :: st) I J R S Q := o_aload_n rfl k_H_init_0
theorem k_H_init_1 : decode (sk_by 142) 1 = .ok (.invokespecial 1, 3) := by decide +kernel
theorem x_H_init_1 {ls : List Value} {a : Nat} {I : MI} {J : MJ} {R : MR} {S : Sh} {Q : SkQ} : Wp 142 1 ls (.ref a :: []) I J R S Q = Wp 142 4 ls [] I J R S Q := o_objInit (show sk_lkM (sk_cl 142) 1 = some 999 by decide +kernel) (by (decide +kernel)) k_H_init_1
theorem k_H_init_4 : decode (sk_by 142) 4 = .ok (.aload_n 0, 1) := by decide +kernel
theorem x_H_init_4 {st : List Value} {x : Nat} {I : MI} {J : MJ} {R : MR} {S : Sh} {Q : SkQ} : Wp 142 4 [.ref x, nov] st I J R S Q = Wp 142 5 [.ref x, nov] (.ref x :: st) I J R S Q := o_aload_n rfl k_H_init_4
theorem k_H_init_5 : decode (sk_by 142) 5 = .ok (.iconst 4, 1) := by decide +kernel
theorem x_H_init_5 {ls st : List Value} {I : MI} {J : MJ} {R : MR} {S : Sh} {Q : SkQ} : Wp 142 5 ls st I J R S Q = Wp 142 6 ls (.int 4 :: st) I J R S Q := o_const (by decide) k_H_init_5
theorem k_H_init_6 : decode (sk_by 142) 6 = .ok (.anewarray 9, 3) := by decide +kernel
theorem x_H_init_6 {ls st : List Value} {n : Int32} {I : MI} {J : MJ} {R : MR} {S : Sh} {Q : SkQ} (h0 : S.2.2.2.1 = 0) (hn : 0 ≤ n.toInt ∧ n.toInt ≤ 100000) : Wp 142 6 ls (.int n :: st) I J R S Q = Wp 142 9 ls (.ref S.2.2.1 :: st) I J (u1 R S.2.2.1 .null) (sh_new S 33 (ix n) (ix n)) Q := o_anewarray (show sk_lkN (sk_cl 142) 9 = some 0 by decide +kernel) k_H_init_6 h0 hn
theorem k_H_init_9 : decode (sk_by 142) 9 = .ok (.putfield 11, 3) := by decide +kernel
theorem x_H_init_9 {ls st : List Value} {a : Nat} {x : Nat} {I : MI} {J : MJ} {R : MR} {S : Sh} {Q : SkQ} (ha : S.1 a = 2) : Wp 142 9 ls (.ref x :: .ref a :: st) I J R S Q = Wp 142 12 ls st I J (u2 R a 0 (.ref x)) S Q := o_putfieldR (show sk_lkF (sk_cl 142) 11 = some (2, 0, 2, 1, 0) by decide +kernel) (by decide) (by (decide +kernel)) k_H_init_9 ha
theorem k_H_init_12 : decode (sk_by 142) 12 = .ok (.iconst 0, 1) := by decide +kernel
theorem x_H_init_12 {ls st : List Value} {I : MI} {J : MJ} {R : MR} {S : Sh} {Q : SkQ} : Wp 142 12 ls st I J R S Q = Wp 142 13 ls (.int 0 :: st) I J R S Q := o_const (by decide) k_H_init_12
theorem k_H_init_13 : decode (sk_by 142) 13 = .ok (.istore_n 1, 1) := by decide +kernel
theorem x_H_init_13 {st : List Value} {l0 : Nat} {x : Int32} {I : MI} {J : MJ} {R : MR} {S : Sh} {Q : SkQ} : Wp 142 13 [.ref l0, nov] (.int x :: st) I J R S Q = Wp 142 14 [.ref l0, .int x] st I J R S Q := o_istore_n (Nat.le_of_ble_eq_true rfl) rfl k_H_init_13
theorem k_H_init_14 : decode (sk_by 142) 14 = .ok (.iload_n 1, 1) := by decide +kernel
theorem x_H_init_14 {st : List Value} {l0 : Nat} {x : Int32} {I : MI} {J : MJ} {R : MR} {S : Sh} {Q : SkQ} : Wp 142 14 [.ref l0, .int x] st I J R S Q = Wp 142 15 [.ref l0, .int x] (.int x :: st) I J R S Q := o_iload_n rfl k_H_init_14
theorem k_H_init_15 : decode (sk_by 142) 15 = .ok (.iconst 4, 1) := by decide +kernel
theorem x_H_init_15 {ls st : List Value} {I : MI} {J : MJ} {R : MR} {S : Sh} {Q : SkQ} : Wp 142 15 ls st I J R S Q = Wp 142 16 ls (.int 4 :: st) I J R S Q := o_const (by decide) k_H_init_15
theorem k_H_init_16 : decode (sk_by 142) 16 = .ok (.if_icmp .ge 22, 3) := by decide +kernel
theorem x_H_init_16 {ls st : List Value} {x y : Int32} {I : MI} {J : MJ} {R : MR} {S : Sh} {Q : SkQ} : Wp 142 16 ls (.int y :: .int x :: st) I J R S Q = if x < y then Wp 142 19 ls st I J R S Q else Wp 142 38 ls st I J R S Q := o_ic_ge rfl rfl k_H_init_16
theorem k_H_init_19 : decode (sk_by 142) 19 = .ok (.aload_n 0, 1) := by decide +kernel
theorem x_H_init_19 {st : List Value} {l1 : Int32} {x : Nat} {I : MI} {J : MJ} {R : MR} {S : Sh} {Q : SkQ} : Wp 142 19 [.ref x, .int l1] st I J R S Q = Wp 142 20 [.ref x, .int l1] (.ref x :: st) I J R S Q := o_aload_n rfl k_H_init_19
theorem k_H_init_20 : decode (sk_by 142) 20 = .ok (.getfield 11, 3) := by decide +kernel
theorem x_H_init_20 {ls st : List Value} {a : Nat} {I : MI} {J : MJ} {R : MR} {S : Sh} {Q : SkQ} (ha : S.1 a = 2) : Wp 142 20 ls (.ref a :: st) I J R S Q = Wp 142 23 ls (R a 0 :: st) I J R S Q := o_getfieldR (show sk_lkF (sk_cl 142) 11 = some (2, 0, 2, 1, 0) by decide +kernel) k_H_init_20 ha
theorem k_H_init_23 : decode (sk_by 142) 23 = .ok (.iload_n 1, 1) := by decide +kernel
theorem x_H_init_23 {st : List Value} {l0 : Nat} {x : Int32} {I : MI} {J : MJ} {R : MR} {S : Sh} {Q : SkQ} : Wp 142 23 [.ref l0, .int x] st I J R S Q = Wp 142 24 [.ref l0, .int x] (.int x :: st) I J R S Q := o_iload_n rfl k_H_init_23
theorem k_H_init_24 : decode (sk_by 142) 24 = .ok (.new 9, 3) := by decide +kernel
theorem x_H_init_24 {ls st : List Value} {I : MI} {J : MJ} {R : MR} {S : Sh} {Q : SkQ} (h0 : S.2.2.2.1 = 0) : Wp 142 24 ls st I J R S Q = Wp 142 27 ls (.ref S.2.2.1 :: st) (u1 I S.2.2.1 0) (u1 J S.2.2.1 0) (u1 R S.2.2.1 .null) (sh_new S 0 0 8) Q := o_new (show sk_th 142 24 = none by decide +kernel) (show sk_lkN (sk_cl 142) 9 = some 0 by decide +kernel) (by decide) (by (decide +kernel)) k_H_init_24 h0
theorem k_H_init_27 : decode (sk_by 142) 27 = .ok (.dup, 1) := by decide +kernel
theorem x_H_init_27 {ls st : List Value} {x : Nat} {I : MI} {J : MJ} {R : MR} {S : Sh} {Q : SkQ} : Wp 142 27 ls (.ref x :: st) I J R S Q = Wp 142 28 ls (.ref x :: .ref x :: st) I J R S Q := o_dupR k_H_init_27
theorem k_H_init_28 : decode (sk_by 142) 28 = .ok (.invokespecial 15, 3) := by decide +kernel
theorem x_H_init_28 {ls : List Value} {a0 : Nat} {s0 : Nat} {s1 : Int32} {s2 : Nat} {I : MI} {J : MJ} {R : MR} {S : Sh} {Q : SkQ} (ha : S.1 a0 = 0) : Wp 142 28 ls (.ref a0 :: [.ref s0, .int s1, .ref s2]) I J R S Q = Wp 77 0 [.ref a0] [] I J R S (Ret 142 28 31 77 ls [.ref s0, .int s1, .ref s2] Q) := o_call (as := [.ref a0]) (rest := [.ref s0, .int s1, .ref s2]) (show sk_lkM (sk_cl 142) 15 = some 77 by decide +kernel) (by decide) (by decide) (by (decide +kernel)) (ins := .invokespecial 15) (by (decide +kernel)) k_H_init_28 rfl (show 1 = sk_na 77 by (decide +kernel)) (Nat.le_of_ble_eq_true rfl) (Nat.le_trans (show (argL [.ref a0]).length ≤ 1 from Nat.le_of_ble_eq_true rfl) (by (decide +kernel))) (rcv_of (by (decide +kernel)) (by decide) ha)
theorem k_H_init_31 : decode (sk_by 142) 31 = .ok (.aastore, 1) := by decide +kernel
theorem x_H_init_31 {ls st : List Value} {a b : Nat} {i : Int32} {I : MI} {J : MJ} {R : MR} {S : Sh} {Q : SkQ} (ha : S.1 a = 33) (hi : inb i (S.2.1 a) = true) (hb : S.1 b = 0) : Wp 142 31 ls (.ref b :: .int i :: .ref a :: st) I J R S Q = Wp 142 32 ls st I J (u2 R a (ix i) (.ref b)) S Q := o_aastore k_H_init_31 ha hi hb
theorem k_H_init_32 : decode (sk_by 142) 32 = .ok (.iinc 1 1, 3) := by decide +kernel
theorem x_H_init_32 {st : List Value} {l0 : Nat} {x : Int32} {I : MI} {J : MJ} {R : MR} {S : Sh} {Q : SkQ} : Wp 142 32 [.ref l0, .int x] st I J R S Q = Wp 142 35 [.ref l0, .int (x + 1)] st I J R S Q := o_inc (by decide) rfl (Nat.le_of_ble_eq_true rfl) rfl k_H_init_32
theorem k_H_init_35 : decode (sk_by 142) 35 = .ok (.goto (-21), 3) := by decide +kernel
theorem x_H_init_35 {ls st : List Value} {I : MI} {J : MJ} {R : MR} {S : Sh} {Q : SkQ} : Wp 142 35 ls st I J R S Q = Wp 142 14 ls st I J R S Q := o_goto rfl rfl k_H_init_35
theorem k_H_init_38 : decode (sk_by 142) 38 = .ok (.return_, 1) := by decide +kernel
theorem x_H_init_38 {ls : List Value} {I : MI} {J : MJ} {R : MR} {S : Sh} {Q : SkQ} : Wp 142 38 ls [] I J R S Q = Q 0 none I J R S := o_return (by (decide +kernel)) k_H_init_38
theorem k_H_size_0 : decode (sk_by 143) 0 = .ok (.aload_n 0, 1) := by decide +kernel
theorem x_H_size_0 {st : List Value} {x : Nat} {I : MI} {J : MJ} {R : MR} {S : Sh} {Q : SkQ} : Wp 143 0 [.ref x] st I J R S Q = Wp 143 1 [.ref x] (.ref x :: st) I J R S Q := o_aload_n rfl k_H_size_0
theorem k_H_size_1 : decode (sk_by 143) 1 = .ok (.getfield 16, 3) := by decide +kernel
theorem x_H_size_1 {ls st : List Value} {a : Nat} {I : MI} {J : MJ} {R : MR} {S : Sh} {Q : SkQ} (ha : S.1 a = 2) : Wp 143 1 ls (.ref a :: st) I J R S Q = Wp 143 4 ls (.int (I a 1) :: st) I J R S Q := o_getfieldI (show sk_lkF (sk_cl 143) 16 = some (2, 1, 0, 0, 0) by decide +kernel) k_H_size_1 ha
theorem k_H_size_4 : decode (sk_by 143) 4 = .ok (.ireturn, 1) := by decide +kernel
theorem x_H_size_4 {ls : List Value} {v : Int32} {I : MI} {J : MJ} {R : MR} {S : Sh} {Q : SkQ} : Wp 143 4 ls [.int v] I J R S Q = Q 0 (some (.int v)) I J R S := o_ireturn k_H_size_4 rfl
theorem k_H_save_0 : decode (sk_by 144) 0 = .ok (.aload_n 0, 1) := by decide +kernel
theorem x_H_save_0 {st : List Value} {l1 : Nat} {x : Nat} {I : MI} {J : MJ} {R : MR} {S : Sh} {Q : SkQ} : Wp 144 0 [.ref x, .ref l1, nov] st I J R S Q = Wp 144 1 [.ref x, .ref l1, nov] (.ref x :: st) I J R S Q := o_aload_n rfl k_H_save_0
theorem k_H_save_1 : decode (sk_by 144) 1 = .ok (.getfield 16, 3) := by decide +kernel
theorem x_H_save_1 {ls st : List Value} {a : Nat} {I : MI} {J : MJ} {R : MR} {S : Sh} {Q : SkQ} (ha : S.1 a = 2) : Wp 144 1 ls (.ref a :: st) I J R S Q = Wp 144 4 ls (.int (I a 1) :: st) I J R S Q := o_getfieldI (show sk_lkF (sk_cl 144) 16 = some (2, 1, 0, 0, 0) by decide +kernel) k_H_save_1 ha
theorem k_H_save_4 : decode (sk_by 144) 4 = .ok (.iconst 4, 1) := by decide +kernel
theorem x_H_save_4 {ls st : List Value} {I : MI} {J : MJ} {R : MR} {S : Sh} {Q : SkQ} : Wp 144 4 ls st I J R S Q = Wp 144 5 ls (.int 4 :: st) I J R S Q := o_const (by decide) k_H_save_4
theorem k_H_save_5 : decode (sk_by 144) 5 = .ok (.if_icmp .lt 7, 3) := by decide +kernel
theorem x_H_save_5 {ls st : List Value} {x y : Int32} {I : MI} {J : MJ} {R : MR} {S : Sh} {Q : SkQ} : Wp 144 5 ls (.int y :: .int x :: st) I J R S Q = if x < y then Wp 144 12 ls st I J R S Q else Wp 144 8 ls st I J R S Q := o_ic_lt rfl rfl k_H_save_5
theorem k_H_save_8 : decode (sk_by 144) 8 = .ok (.aload_n 0, 1) := by decide +kernel
theorem x_H_save_8 {st : List Value} {l1 : Nat} {x : Nat} {I : MI} {J : MJ} {R : MR} {S : Sh} {Q : SkQ} : Wp 144 8 [.ref x, .ref l1, nov] st I J R S Q = Wp 144 9 [.ref x, .ref l1, nov] (.ref x :: st) I J R S Q := o_aload_n rfl k_H_save_8
theorem k_H_save_9 : decode (sk_by 144) 9 = .ok (.invokevirtual 20, 3) := by decide +kernel
theorem x_H_save_9 {ls : List Value} {a0 : Nat} {I : MI} {J : MJ} {R : MR} {S : Sh} {Q : SkQ} (ha : S.1 a0 = 2) : Wp 144 9 ls (.ref a0 :: []) I J R S Q = Wp 145 0 [.ref a0, nov, nov] [] I J R S (Ret 144 9 12 145 ls [] Q) := o_call (as := [.ref a0]) (rest := []) (show sk_lkM (sk_cl 144) 20 = some 145 by decide +kernel) (by decide) (by decide) (by (decide +kernel)) (ins := .invokevirtual 20) (by (decide +kernel)) k_H_save_9 rfl (show 1 = sk_na 145 by (decide +kernel)) (Nat.le_of_ble_eq_true rfl) (Nat.le_trans (show (argL [.ref a0]).length ≤ 3 from Nat.le_of_ble_eq_true rfl) (by (decide +kernel))) (rcv_of (by (decide +kernel)) (by decide) ha)
theorem k_H_save_12 : decode (sk_by 144) 12 = .ok (.aload_n 0, 1) := by decide +kernel
theorem x_H_save_12 {st : List Value} {l1 : Nat} {x : Nat} {I : MI} {J : MJ} {R : MR} {S : Sh} {Q : SkQ} : Wp 144 12 [.ref x, .ref l1, nov] st I J R S Q = Wp 144 13 [.ref x, .ref l1, nov] (.ref x :: st) I J R S Q := o_aload_n rfl k_H_save_12
theorem k_H_save_13 : decode (sk_by 144) 13 = .ok (.aload_n 0, 1) := by decide +kernel
theorem x_H_save_13 {st : List Value} {l1 : Nat} {x : Nat} {I : MI} {J : MJ} {R : MR} {S : Sh} {Q : SkQ} : Wp 144 13 [.ref x, .ref l1, nov] st I J R S Q = Wp 144 14 [.ref x, .ref l1, nov] (.ref x :: st) I J R S Q := o_aload_n rfl k_H_save_13
theorem k_H_save_14 : decode (sk_by 144) 14 = .ok (.getfield 16, 3) := by decide +kernel
theorem x_H_save_14 {ls st : List Value} {a : Nat} {I : MI} {J : MJ} {R : MR} {S : Sh} {Q : SkQ} (ha : S.1 a = 2) : Wp 144 14 ls (.ref a :: st) I J R S Q = Wp 144 17 ls (.int (I a 1) :: st) I J R S Q := o_getfieldI (show sk_lkF (sk_cl 144) 16 = some (2, 1, 0, 0, 0) by decide +kernel) k_H_save_14 ha
theorem k_H_save_17 : decode (sk_by 144) 17 = .ok (.invokevirtual 23, 3) := by decide +kernel
theorem x_H_save_17 {ls : List Value} {a0 : Nat} {a1 : Int32} {I : MI} {J : MJ} {R : MR} {S : Sh} {Q : SkQ} (ha : S.1 a0 = 2) : Wp 144 17 ls (.int a1 :: .ref a0 :: []) I J R S Q = Wp 147 0 [.ref a0, .int a1] [] I J R S (Ret 144 17 20 147 ls [] Q) := o_call (as := [.ref a0, .int a1]) (rest := []) (show sk_lkM (sk_cl 144) 23 = some 147 by decide +kernel) (by decide) (by decide) (by (decide +kernel)) (ins := .invokevirtual 23) (by (decide +kernel)) k_H_save_17 rfl (show 2 = sk_na 147 by (decide +kernel)) (Nat.le_of_ble_eq_true rfl) (Nat.le_trans (show (argL [.ref a0, .int a1]).length ≤ 2 from Nat.le_of_ble_eq_true rfl) (by (decide +kernel))) (rcv_of (by (decide +kernel)) (by decide) ha)
theorem k_H_save_20 : decode (sk_by 144) 20 = .ok (.astore_n 2, 1) := by decide +kernel
theorem x_H_save_20 {st : List Value} {l0 : Nat} {l1 : Nat} {x : Nat} {I : MI} {J : MJ} {R : MR} {S : Sh} {Q : SkQ} : Wp 144 20 [.ref l0, .ref l1, nov] (.ref x :: st) I J R S Q = Wp 144 21 [.ref l0, .ref l1, .ref x] st I J R S Q := o_astore_n (Nat.le_of_ble_eq_true rfl) rfl k_H_save_20
theorem x_H_save_20N {st : List Value} {l0 : Nat} {l1 : Nat} {I : MI} {J : MJ} {R : MR} {S : Sh} {Q : SkQ} : Wp 144 20 [.ref l0, .ref l1, nov] (.null :: st) I J R S Q = Wp 144 21 [.ref l0, .ref l1, .null] st I J R S Q := o_astore_nN (Nat.le_of_ble_eq_true rfl) rfl k_H_save_20
theorem k_H_save_21 : decode (sk_by 144) 21 = .ok (.aload_n 2, 1) := by decide +kernel
theorem x_H_save_21 {st : List Value} {l0 : Nat} {l1 : Nat} {x : Nat} {I : MI} {J : MJ} {R : MR} {S : Sh} {Q : SkQ} : Wp 144 21 [.ref l0, .ref l1, .ref x] st I J R S Q = Wp 144 22 [.ref l0, .ref l1, .ref x] (.ref x :: st) I J R S Q := o_aload_n rfl k_H_save_21
theorem x_H_save_21N {st : List Value} {l0 : Nat} {l1 : Nat} {I : MI} {J : MJ} {R : MR} {S : Sh} {Q : SkQ} : Wp 144 21 [.ref l0, .ref l1, .null] st I J R S Q = Wp 144 22 [.ref l0, .ref l1, .null] (.null :: st) I J R S Q := o_aload_nN rfl k_H_save_21
theorem k_H_save_22 : decode (sk_by 144) 22 = .ok (.ifnull 18, 3) := by decide +kernel
theorem x_H_save_22 {ls st : List Value} {x : Nat} {I : MI} {J : MJ} {R : MR} {S : Sh} {Q : SkQ} : Wp 144 22 ls (.ref x :: st) I J R S Q = Wp 144 25 ls st I J R S Q := o_ifnullR k_H_save_22
theorem x_H_save_22N {ls st : List Value} {I : MI} {J : MJ} {R : MR} {S : Sh} {Q : SkQ} : Wp 144 22 ls (.null :: st) I J R S Q = Wp 144 40 ls st I J R S Q := o_ifnullN rfl rfl k_H_save_22
theorem k_H_save_25 : decode (sk_by 144) 25 = .ok (.aload_n 2, 1) := by decide +kernel
theorem x_H_save_25 {st : List Value} {l0 : Nat} {l1 : Nat} {x : Nat} {I : MI} {J : MJ} {R : MR} {S : Sh} {Q : SkQ} : Wp 144 25 [.ref l0, .ref l1, .ref x] st I J R S Q = Wp 144 26 [.ref l0, .ref l1, .ref x] (.ref x :: st) I J R S Q := o_aload_n rfl k_H_save_25
theorem x_H_save_25N {st : List Value} {l0 : Nat} {l1 : Nat} {I : MI} {J : MJ} {R : MR} {S : Sh} {Q : SkQ} : Wp 144 25 [.ref l0, .ref l1, .null] st I J R S Q = Wp 144 26 [.ref l0, .ref l1, .null] (.null :: st) I J R S Q := o_aload_nN rfl k_H_save_25
theorem k_H_save_26 : decode (sk_by 144) 26 = .ok (.aload_n 1, 1) := by decide +kernel
theorem x_H_save_26 {st : List Value} {l0 : Nat} {l2 : Value} {x : Nat} {I : MI} {J : MJ} {R : MR} {S : Sh} {Q : SkQ} : Wp 144 26 [.ref l0, .ref x, l2] st I J R S Q = Wp 144 27 [.ref l0, .ref x, l2] (.ref x :: st) I J R S Q := o_aload_n rfl k_H_save_26
theorem k_H_save_27 : decode (sk_by 144) 27 = .ok (.invokevirtual 27, 3) := by decide +kernel
theorem x_H_save_27 {ls : List Value} {a0 : Nat} {a1 : Nat} {I : MI} {J : MJ} {R : MR} {S : Sh} {Q : SkQ} (ha : S.1 a0 = 0) : Wp 144 27 ls (.ref a1 :: .ref a0 :: []) I J R S Q = Wp 78 0 [.ref a0, .ref a1, nov] [] I J R S (Ret 144 27 30 78 ls [] Q) := o_call (as := [.ref a0, .ref a1]) (rest := []) (show sk_lkM (sk_cl 144) 27 = some 78 by decide +kernel) (by decide) (by decide) (by (decide +kernel)) (ins := .invokevirtual 27) (by (decide +kernel)) k_H_save_27 rfl (show 2 = sk_na 78 by (decide +kernel)) (Nat.le_of_ble_eq_true rfl) (Nat.le_trans (show (argL [.ref a0, .ref a1]).length ≤ 3 from Nat.le_of_ble_eq_true rfl) (by (decide +kernel))) (rcv_of (by (decide +kernel)) (by decide) ha)
theorem k_H_save_30 : decode (sk_by 144) 30 = .ok (.aload_n 0, 1) := by decide +kernel
theorem x_H_save_30 {st : List Value} {l1 : Nat} {l2 : Value} {x : Nat} {I : MI} {J : MJ} {R : MR} {S : Sh} {Q : SkQ} : Wp 144 30 [.ref x, .ref l1, l2] st I J R S Q = Wp 144 31 [.ref x, .ref l1, l2] (.ref x :: st) I J R S Q := o_aload_n rfl k_H_save_30
theorem k_H_save_31 : decode (sk_by 144) 31 = .ok (.dup, 1) := by decide +kernel
theorem x_H_save_31 {ls st : List Value} {x : Nat} {I : MI} {J : MJ} {R : MR} {S : Sh} {Q : SkQ} : Wp 144 31 ls (.ref x :: st) I J R S Q = Wp 144 32 ls (.ref x :: .ref x :: st) I J R S Q := o_dupR k_H_save_31
theorem k_H_save_32 : decode (sk_by 144) 32 = .ok (.getfield 16, 3) := by decide +kernel
theorem x_H_save_32 {ls st : List Value} {a : Nat} {I : MI} {J : MJ} {R : MR} {S : Sh} {Q : SkQ} (ha : S.1 a = 2) : Wp 144 32 ls (.ref a :: st) I J R S Q = Wp 144 35 ls (.int (I a 1) :: st) I J R S Q := o_getfieldI (show sk_lkF (sk_cl 144) 16 = some (2, 1, 0, 0, 0) by decide +kernel) k_H_save_32 ha
theorem k_H_save_35 : decode (sk_by 144) 35 = .ok (.iconst 1, 1) := by decide +kernel
theorem x_H_save_35 {ls st : List Value} {I : MI} {J : MJ} {R : MR} {S : Sh} {Q : SkQ} : Wp 144 35 ls st I J R S Q = Wp 144 36 ls (.int 1 :: st) I J R S Q := o_const (by decide) k_H_save_35
theorem k_H_save_36 : decode (sk_by 144) 36 = .ok (.iadd, 1) := by decide +kernel
theorem x_H_save_36 {ls st : List Value} {x y : Int32} {I : MI} {J : MJ} {R : MR} {S : Sh} {Q : SkQ} : Wp 144 36 ls (.int y :: .int x :: st) I J R S Q = Wp 144 37 ls (.int (x + y) :: st) I J R S Q := o_iadd k_H_save_36
theorem k_H_save_37 : decode (sk_by 144) 37 = .ok (.putfield 16, 3) := by decide +kernel
theorem x_H_save_37 {ls st : List Value} {a : Nat} {x : Int32} {I : MI} {J : MJ} {R : MR} {S : Sh} {Q : SkQ} (ha : S.1 a = 2) : Wp 144 37 ls (.int x :: .ref a :: st) I J R S Q = Wp 144 40 ls st (u2 I a 1 x) J R S Q := o_putfieldI (show sk_lkF (sk_cl 144) 16 = some (2, 1, 0, 0, 0) by decide +kernel) (by decide) (by (decide +kernel)) k_H_save_37 ha
theorem k_H_save_40 : decode (sk_by 144) 40 = .ok (.return_, 1) := by decide +kernel
theorem x_H_save_40 {ls : List Value} {I : MI} {J : MJ} {R : MR} {S : Sh} {Q : SkQ} : Wp 144 40 ls [] I J R S Q = Q 0 none I J R S := o_return (by (decide +kernel)) k_H_save_40
theorem k_H_forgetOldest_0 : decode (sk_by 145) 0 = .ok (.aload_n 0, 1) := by decide +kernel
theorem x_H_forgetOldest_0 {st : List Value} {x : Nat} {I : MI} {J : MJ} {R : MR} {S : Sh} {Q : SkQ} : Wp 145 0 [.ref x, nov, nov] st I J R S Q = Wp 145 1 [.ref x, nov, nov] (.ref x :: st) I J R S Q := o_aload_n rfl k_H_forgetOldest_0
theorem k_H_forgetOldest_1 : decode (sk_by 145) 1 = .ok (.getfield 11, 3) := by decide +kernel
theorem x_H_forgetOldest_1 {ls st : List Value} {a : Nat} {I : MI} {J : MJ} {R : MR} {S : Sh} {Q : SkQ} (ha : S.1 a = 2) : Wp 145 1 ls (.ref a :: st) I J R S Q = Wp 145 4 ls (R a 0 :: st) I J R S Q := o_getfieldR (show sk_lkF (sk_cl 145) 11 = some (2, 0, 2, 1, 0) by decide +kernel) k_H_forgetOldest_1 ha
theorem k_H_forgetOldest_4 : decode (sk_by 145) 4 = .ok (.iconst 0, 1) := by decide +kernel
theorem x_H_forgetOldest_4 {ls st : List Value} {I : MI} {J : MJ} {R : MR} {S : Sh} {Q : SkQ} : Wp 145 4 ls st I J R S Q = Wp 145 5 ls (.int 0 :: st) I J R S Q := o_const (by decide) k_H_forgetOldest_4
theorem k_H_forgetOldest_5 : decode (sk_by 145) 5 = .ok (.aaload, 1) := by decide +kernel
theorem x_H_forgetOldest_5 {ls st : List Value} {a : Nat} {i : Int32} {I : MI} {J : MJ} {R : MR} {S : Sh} {Q : SkQ} (ha : S.1 a = 33 ∨ S.1 a = 43) (hi : inb i (S.2.1 a) = true) : Wp 145 5 ls (.int i :: .ref a :: st) I J R S Q = Wp 145 6 ls (R a (ix i) :: st) I J R S Q := o_aaload k_H_forgetOldest_5 ha hi
theorem k_H_forgetOldest_6 : decode (sk_by 145) 6 = .ok (.astore_n 1, 1) := by decide +kernel
theorem x_H_forgetOldest_6 {st : List Value} {l0 : Nat} {x : Nat} {I : MI} {J : MJ} {R : MR} {S : Sh} {Q : SkQ} : Wp 145 6 [.ref l0, nov, nov] (.ref x :: st) I J R S Q = Wp 145 7 [.ref l0, .ref x, nov] st I J R S Q := o_astore_n (Nat.le_of_ble_eq_true rfl) rfl k_H_forgetOldest_6
theorem k_H_forgetOldest_7 : decode (sk_by 145) 7 = .ok (.iconst 1, 1) := by decide +kernel
theorem x_H_forgetOldest_7 {ls st : List Value} {I : MI} {J : MJ} {R : MR} {S : Sh} {Q : SkQ} : Wp 145 7 ls st I J R S Q = Wp 145 8 ls (.int 1 :: st) I J R S Q := o_const (by decide) k_H_forgetOldest_7
theorem k_H_forgetOldest_8 : decode (sk_by 145) 8 = .ok (.istore_n 2, 1) := by decide +kernel
theorem x_H_forgetOldest_8 {st : List Value} {l0 : Nat} {l1 : Nat} {x : Int32} {I : MI} {J : MJ} {R : MR} {S : Sh} {Q : SkQ} : Wp 145 8 [.ref l0, .ref l1, nov] (.int x :: st) I J R S Q = Wp 145 9 [.ref l0, .ref l1, .int x] st I J R S Q := o_istore_n (Nat.le_of_ble_eq_true rfl) rfl k_H_forgetOldest_8
theorem k_H_forgetOldest_9 : decode (sk_by 145) 9 = .ok (.iload_n 2, 1) := by decide +kernel
theorem x_H_forgetOldest_9 {st : List Value} {l0 : Nat} {l1 : Nat} {x : Int32} {I : MI} {J : MJ} {R : MR} {S : Sh} {Q : SkQ} : Wp 145 9 [.ref l0, .ref l1, .int x] st I J R S Q = Wp 145 10 [.ref l0, .ref l1, .int x] (.int x :: st) I J R S Q := o_iload_n rfl k_H_forgetOldest_9
theorem k_H_forgetOldest_10 : decode (sk_by 145) 10 = .ok (.iconst 4, 1) := by decide +kernel
theorem x_H_forgetOldest_10 {ls st : List Value} {I : MI} {J : MJ} {R : MR} {S : Sh} {Q : SkQ} : Wp 145 10 ls st I J R S Q = Wp 145 11 ls (.int 4 :: st) I J R S Q := o_const (by decide) k_H_forgetOldest_10
theorem k_H_forgetOldest_11 : decode (sk_by 145) 11 = .ok (.if_icmp .ge 23, 3) := by decide +kernel
theorem x_H_forgetOldest_11 {ls st : List Value} {x y : Int32} {I : MI} {J : MJ} {R : MR} {S : Sh} {Q : SkQ} : Wp 145 11 ls (.int y :: .int x :: st) I J R S Q = if x < y then Wp 145 14 ls st I J R S Q else Wp 145 34 ls st I J R S Q := o_ic_ge rfl rfl k_H_forgetOldest_11
theorem k_H_forgetOldest_14 : decode (sk_by 145) 14 = .ok (.aload_n 0, 1) := by decide +kernel
theorem x_H_forgetOldest_14 {st : List Value} {l1 : Nat} {l2 : Int32} {x : Nat} {I : MI} {J : MJ} {R : MR} {S : Sh} {Q : SkQ} : Wp 145 14 [.ref x, .ref l1, .int l2] st I J R S Q = Wp 145 15 [.ref x, .ref l1, .int l2] (.ref x :: st) I J R S Q := o_aload_n rfl k_H_forgetOldest_14
theorem k_H_forgetOldest_15 : decode (sk_by 145) 15 = .ok (.getfield 11, 3) := by decide +kernel
theorem x_H_forgetOldest_15 {ls st : List Value} {a : Nat} {I : MI} {J : MJ} {R : MR} {S : Sh} {Q : SkQ} (ha : S.1 a = 2) : Wp 145 15 ls (.ref a :: st) I J R S Q = Wp 145 18 ls (R a 0 :: st) I J R S Q := o_getfieldR (show sk_lkF (sk_cl 145) 11 = some (2, 0, 2, 1, 0) by decide +kernel) k_H_forgetOldest_15 ha
theorem k_H_forgetOldest_18 : decode (sk_by 145) 18 = .ok (.iload_n 2, 1) := by decide +kernel
theorem x_H_forgetOldest_18 {st : List Value} {l0 : Nat} {l1 : Nat} {x : Int32} {I : MI} {J : MJ} {R : MR} {S : Sh} {Q : SkQ} : Wp 145 18 [.ref l0, .ref l1, .int x] st I J R S Q = Wp 145 19 [.ref l0, .ref l1, .int x] (.int x :: st) I J R S Q := o_iload_n rfl k_H_forgetOldest_18
theorem k_H_forgetOldest_19 : decode (sk_by 145) 19 = .ok (.iconst 1, 1) := by decide +kernel
theorem x_H_forgetOldest_19 {ls st : List Value} {I : MI} {J : MJ} {R : MR} {S : Sh} {Q : SkQ} : Wp 145 19 ls st I J R S Q = Wp 145 20 ls (.int 1 :: st) I J R S Q := o_const (by decide) k_H_forgetOldest_19
theorem k_H_forgetOldest_20 : decode (sk_by 145) 20 = .ok (.isub, 1) := by decide +kernel
theorem x_H_forgetOldest_20 {ls st : List Value} {x y : Int32} {I : MI} {J : MJ} {R : MR} {S : Sh} {Q : SkQ} : Wp 145 20 ls (.int y :: .int x :: st) I J R S Q = Wp 145 21 ls (.int (x - y) :: st) I J R S Q := o_isub k_H_forgetOldest_20
theorem k_H_forgetOldest_21 : decode (sk_by 145) 21 = .ok (.aload_n 0, 1) := by decide +kernel
theorem x_H_forgetOldest_21 {st : List Value} {l1 : Nat} {l2 : Int32} {x : Nat} {I : MI} {J : MJ} {R : MR} {S : Sh} {Q : SkQ} : Wp 145 21 [.ref x, .ref l1, .int l2] st I J R S Q = Wp 145 22 [.ref x, .ref l1, .int l2] (.ref x :: st) I J R S Q := o_aload_n rfl k_H_forgetOldest_21
theorem k_H_forgetOldest_22 : decode (sk_by 145) 22 = .ok (.getfield 11, 3) := by decide +kernel
theorem x_H_forgetOldest_22 {ls st : List Value} {a : Nat} {I : MI} {J : MJ} {R : MR} {S : Sh} {Q : SkQ} (ha : S.1 a = 2) : Wp 145 22 ls (.ref a :: st) I J R S Q = Wp 145 25 ls (R a 0 :: st) I J R S Q := o_getfieldR (show sk_lkF (sk_cl 145) 11 = some (2, 0, 2, 1, 0) by decide +kernel) k_H_forgetOldest_22 ha
theorem k_H_forgetOldest_25 : decode (sk_by 145) 25 = .ok (.iload_n 2, 1) := by decide +kernel
theorem x_H_forgetOldest_25 {st : List Value} {l0 : Nat} {l1 : Nat} {x : Int32} {I : MI} {J : MJ} {R : MR} {S : Sh} {Q : SkQ} : Wp 145 25 [.ref l0, .ref l1, .int x] st I J R S Q = Wp 145 26 [.ref l0, .ref l1, .int x] (.int x :: st) I J R S Q := o_iload_n rfl k_H_forgetOldest_25
theorem k_H_forgetOldest_26 : decode (sk_by 145) 26 = .ok (.aaload, 1) := by decide +kernel
theorem x_H_forgetOldest_26 {ls st : List Value} {a : Nat} {i : Int32} {I : MI} {J : MJ} {R : MR} {S : Sh} {Q : SkQ} (ha : S.1 a = 33 ∨ S.1 a = 43) (hi : inb i (S.2.1 a) = true) : Wp 145 26 ls (.int i :: .ref a :: st) I J R S Q = Wp 145 27 ls (R a (ix i) :: st) I J R S Q := o_aaload k_H_forgetOldest_26 ha hi
theorem k_H_forgetOldest_27 : decode (sk_by 145) 27 = .ok (.aastore, 1) := by decide +kernel
theorem x_H_forgetOldest_27 {ls st : List Value} {a b : Nat} {i : Int32} {I : MI} {J : MJ} {R : MR} {S : Sh} {Q : SkQ} (ha : S.1 a = 33) (hi : inb i (S.2.1 a) = true) (hb : S.1 b = 0) : Wp 145 27 ls (.ref b :: .int i :: .ref a :: st) I J R S Q = Wp 145 28 ls st I J (u2 R a (ix i) (.ref b)) S Q := o_aastore k_H_forgetOldest_27 ha hi hb
theorem k_H_forgetOldest_28 : decode (sk_by 145) 28 = .ok (.iinc 2 1, 3) := by decide +kernel
theorem x_H_forgetOldest_28 {st : List Value} {l0 : Nat} {l1 : Nat} {x : Int32} {I : MI} {J : MJ} {R : MR} {S : Sh} {Q : SkQ} : Wp 145 28 [.ref l0, .ref l1, .int x] st I J R S Q = Wp 145 31 [.ref l0, .ref l1, .int (x + 1)] st I J R S Q := o_inc (by decide) rfl (Nat.le_of_ble_eq_true rfl) rfl k_H_forgetOldest_28
theorem k_H_forgetOldest_31 : decode (sk_by 145) 31 = .ok (.goto (-22), 3) := by decide +kernel
theorem x_H_forgetOldest_31 {ls st : List Value} {I : MI} {J : MJ} {R : MR} {S : Sh} {Q : SkQ} : Wp 145 31 ls st I J R S Q = Wp 145 9 ls st I J R S Q := o_goto rfl rfl k_H_forgetOldest_31
theorem k_H_forgetOldest_34 : decode (sk_by 145) 34 = .ok (.aload_n 0, 1) := by decide +kernel
theorem x_H_forgetOldest_34 {st : List Value} {l1 : Nat} {l2 : Int32} {x : Nat} {I : MI} {J : MJ} {R : MR} {S : Sh} {Q : SkQ} : Wp 145 34 [.ref x, .ref l1, .int l2] st I J R S Q = Wp 145 35 [.ref x, .ref l1, .int l2] (.ref x :: st) I J R S Q := o_aload_n rfl k_H_forgetOldest_34
theorem k_H_forgetOldest_35 : decode (sk_by 145) 35 = .ok (.getfield 11, 3) := by decide +kernel
theorem x_H_forgetOldest_35 {ls st : List Value} {a : Nat} {I : MI} {J : MJ} {R : MR} {S : Sh} {Q : SkQ} (ha : S.1 a = 2) : Wp 145 35 ls (.ref a :: st) I J R S Q = Wp 145 38 ls (R a 0 :: st) I J R S Q := o_getfieldR (show sk_lkF (sk_cl 145) 11 = some (2, 0, 2, 1, 0) by decide +kernel) k_H_forgetOldest_35 ha
theorem k_H_forgetOldest_38 : decode (sk_by 145) 38 = .ok (.iconst 3, 1) := by decide +kernel
theorem x_H_forgetOldest_38 {ls st : List Value} {I : MI} {J : MJ} {R : MR} {S : Sh} {Q : SkQ} : Wp 145 38 ls st I J R S Q = Wp 145 39 ls (.int 3 :: st) I J R S Q := o_const (by decide) k_H_forgetOldest_38
theorem k_H_forgetOldest_39 : decode (sk_by 145) 39 = .ok (.aload_n 1, 1) := by decide +kernel
theorem x_H_forgetOldest_39 {st : List Value} {l0 : Nat} {l2 : Int32} {x : Nat} {I : MI} {J : MJ} {R : MR} {S : Sh} {Q : SkQ} : Wp 145 39 [.ref l0, .ref x, .int l2] st I J R S Q = Wp 145 40 [.ref l0, .ref x, .int l2] (.ref x :: st) I J R S Q := o_aload_n rfl k_H_forgetOldest_39
theorem k_H_forgetOldest_40 : decode (sk_by 145) 40 = .ok (.aastore, 1) := by decide +kernel
theorem x_H_forgetOldest_40 {ls st : List Value} {a b : Nat} {i : Int32} {I : MI} {J : MJ} {R : MR} {S : Sh} {Q : SkQ} (ha : S.1 a = 33) (hi : inb i (S.2.1 a) = true) (hb : S.1 b = 0) : Wp 145 40 ls (.ref b :: .int i :: .ref a :: st) I J R S Q = Wp 145 41 ls st I J (u2 R a (ix i) (.ref b)) S Q := o_aastore k_H_forgetOldest_40 ha hi hb
theorem k_H_forgetOldest_41 : decode (sk_by 145) 41 = .ok (.aload_n 0, 1) := by decide +kernel
theorem x_H_forgetOldest_41 {st : List Value} {l1 : Nat} {l2 : Int32} {x : Nat} {I : MI} {J : MJ} {R : MR} {S : Sh} {Q : SkQ} : Wp 145 41 [.ref x, .ref l1, .int l2] st I J R S Q = Wp 145 42 [.ref x, .ref l1, .int l2] (.ref x :: st) I J R S Q := o_aload_n rfl k_H_forgetOldest_41
theorem k_H_forgetOldest_42 : decode (sk_by 145) 42 = .ok (.iconst 3, 1) := by decide +kernel
theorem x_H_forgetOldest_42 {ls st : List Value} {I : MI} {J : MJ} {R : MR} {S : Sh} {Q : SkQ} : Wp 145 42 ls st I J R S Q = Wp 145 43 ls (.int 3 :: st) I J R S Q := o_const (by decide) k_H_forgetOldest_42
theorem k_H_forgetOldest_43 : decode (sk_by 145) 43 = .ok (.putfield 16, 3) := by decide +kernel
theorem x_H_forgetOldest_43 {ls st : List Value} {a : Nat} {x : Int32} {I : MI} {J : MJ} {R : MR} {S : Sh} {Q : SkQ} (ha : S.1 a = 2) : Wp 145 43 ls (.int x :: .ref a :: st) I J R S Q = Wp 145 46 ls st (u2 I a 1 x) J R S Q := o_putfieldI (show sk_lkF (sk_cl 145) 16 = some (2, 1, 0, 0, 0) by decide +kernel) (by decide) (by (decide +kernel)) k_H_forgetOldest_43 ha
theorem k_H_forgetOldest_46 : decode (sk_by 145) 46 = .ok (.return_, 1) := by decide +kernel
theorem x_H_forgetOldest_46 {ls : List Value} {I : MI} {J : MJ} {R : MR} {S : Sh} {Q : SkQ} : Wp 145 46 ls [] I J R S Q = Q 0 none I J R S := o_return (by (decide +kernel)) k_H_forgetOldest_46
theorem k_H_restore_0 : decode (sk_by 146) 0 = .ok (.aload_n 0, 1) := by decide +kernel
theorem x_H_restore_0 {st : List Value} {l1 : Nat} {x : Nat} {I : MI} {J : MJ} {R : MR} {S : Sh} {Q : SkQ} : Wp 146 0 [.ref x, .ref l1, nov] st I J R S Q = Wp 146 1 [.ref x, .ref l1, nov] (.ref x :: st) I J R S Q := o_aload_n rfl k_H_restore_0
theorem k_H_restore_1 : decode (sk_by 146) 1 = .ok (.aload_n 0, 1) := by decide +kernel
theorem x_H_restore_1 {st : List Value} {l1 : Nat} {x : Nat} {I : MI} {J : MJ} {R : MR} {S : Sh} {Q : SkQ} : Wp 146 1 [.ref x, .ref l1, nov] st I J R S Q = Wp 146 2 [.ref x, .ref l1, nov] (.ref x :: st) I J R S Q := o_aload_n rfl k_H_restore_1
theorem k_H_restore_2 : decode (sk_by 146) 2 = .ok (.getfield 16, 3) := by decide +kernel
theorem x_H_restore_2 {ls st : List Value} {a : Nat} {I : MI} {J : MJ} {R : MR} {S : Sh} {Q : SkQ} (ha : S.1 a = 2) : Wp 146 2 ls (.ref a :: st) I J R S Q = Wp 146 5 ls (.int (I a 1) :: st) I J R S Q := o_getfieldI (show sk_lkF (sk_cl 146) 16 = some (2, 1, 0, 0, 0) by decide +kernel) k_H_restore_2 ha
theorem k_H_restore_5 : decode (sk_by 146) 5 = .ok (.iconst 1, 1) := by decide +kernel
theorem x_H_restore_5 {ls st : List Value} {I : MI} {J : MJ} {R : MR} {S : Sh} {Q : SkQ} : Wp 146 5 ls st I J R S Q = Wp 146 6 ls (.int 1 :: st) I J R S Q := o_const (by decide) k_H_restore_5
theorem k_H_restore_6 : decode (sk_by 146) 6 = .ok (.isub, 1) := by decide +kernel
theorem x_H_restore_6 {ls st : List Value} {x y : Int32} {I : MI} {J : MJ} {R : MR} {S : Sh} {Q : SkQ} : Wp 146 6 ls (.int y :: .int x :: st) I J R S Q = Wp 146 7 ls (.int (x - y) :: st) I J R S Q := o_isub k_H_restore_6
theorem k_H_restore_7 : decode (sk_by 146) 7 = .ok (.invokevirtual 23, 3) := by decide +kernel
theorem x_H_restore_7 {ls : List Value} {a0 : Nat} {a1 : Int32} {I : MI} {J : MJ} {R : MR} {S : Sh} {Q : SkQ} (ha : S.1 a0 = 2) : Wp 146 7 ls (.int a1 :: .ref a0 :: []) I J R S Q = Wp 147 0 [.ref a0, .int a1] [] I J R S (Ret 146 7 10 147 ls [] Q) := o_call (as := [.ref a0, .int a1]) (rest := []) (show sk_lkM (sk_cl 146) 23 = some 147 by decide +kernel) (by decide) (by decide) (by (decide +kernel)) (ins := .invokevirtual 23) (by (decide +kernel)) k_H_restore_7 rfl (show 2 = sk_na 147 by (decide +kernel)) (Nat.le_of_ble_eq_true rfl) (Nat.le_trans (show (argL [.ref a0, .int a1]).length ≤ 2 from Nat.le_of_ble_eq_true rfl) (by (decide +kernel))) (rcv_of (by (decide +kernel)) (by decide) ha)
theorem k_H_restore_10 : decode (sk_by 146) 10 = .ok (.astore_n 2, 1) := by decide +kernel
theorem x_H_restore_10 {st : List Value} {l0 : Nat} {l1 : Nat} {x : Nat} {I : MI} {J : MJ} {R : MR} {S : Sh} {Q : SkQ} : Wp 146 10 [.ref l0, .ref l1, nov] (.ref x :: st) I J R S Q = Wp 146 11 [.ref l0, .ref l1, .ref x] st I J R S Q := o_astore_n (Nat.le_of_ble_eq_true rfl) rfl k_H_restore_10
theorem x_H_restore_10N {st : List Value} {l0 : Nat} {l1 : Nat} {I : MI} {J : MJ} {R : MR} {S : Sh} {Q : SkQ} : Wp 146 10 [.ref l0, .ref l1, nov] (.null :: st) I J R S Q = Wp 146 11 [.ref l0, .ref l1, .null] st I J R S Q := o_astore_nN (Nat.le_of_ble_eq_true rfl) rfl k_H_restore_10
theorem k_H_restore_11 : decode (sk_by 146) 11 = .ok (.aload_n 2, 1) := by decide +kernel
theorem x_H_restore_11 {st : List Value} {l0 : Nat} {l1 : Nat} {x : Nat} {I : MI} {J : MJ} {R : MR} {S : Sh} {Q : SkQ} : Wp 146 11 [.ref l0, .ref l1, .ref x] st I J R S Q = Wp 146 12 [.ref l0, .ref l1, .ref x] (.ref x :: st) I J R S Q := o_aload_n rfl k_H_restore_11
theorem x_H_restore_11N {st : List Value} {l0 : Nat} {l1 : Nat} {I : MI} {J : MJ} {R : MR} {S : Sh} {Q : SkQ} : Wp 146 11 [.ref l0, .ref l1, .null] st I J R S Q = Wp 146 12 [.ref l0, .ref l1, .null] (.null :: st) I J R S Q := o_aload_nN rfl k_H_restore_11
theorem k_H_restore_12 : decode (sk_by 146) 12 = .ok (.ifnull 18, 3) := by decide +kernel
theorem x_H_restore_12 {ls st : List Value} {x : Nat} {I : MI} {J : MJ} {R : MR} {S : Sh} {Q : SkQ} : Wp 146 12 ls (.ref x :: st) I J R S Q = Wp 146 15 ls st I J R S Q := o_ifnullR k_H_restore_12
theorem x_H_restore_12N {ls st : List Value} {I : MI} {J : MJ} {R : MR} {S : Sh} {Q : SkQ} : Wp 146 12 ls (.null :: st) I J R S Q = Wp 146 30 ls st I J R S Q := o_ifnullN rfl rfl k_H_restore_12
theorem k_H_restore_15 : decode (sk_by 146) 15 = .ok (.aload_n 1, 1) := by decide +kernel
theorem x_H_restore_15 {st : List Value} {l0 : Nat} {l2 : Value} {x : Nat} {I : MI} {J : MJ} {R : MR} {S : Sh} {Q : SkQ} : Wp 146 15 [.ref l0, .ref x, l2] st I J R S Q = Wp 146 16 [.ref l0, .ref x, l2] (.ref x :: st) I J R S Q := o_aload_n rfl k_H_restore_15
theorem k_H_restore_16 : decode (sk_by 146) 16 = .ok (.aload_n 2, 1) := by decide +kernel
theorem x_H_restore_16 {st : List Value} {l0 : Nat} {l1 : Nat} {x : Nat} {I : MI} {J : MJ} {R : MR} {S : Sh} {Q : SkQ} : Wp 146 16 [.ref l0, .ref l1, .ref x] st I J R S Q = Wp 146 17 [.ref l0, .ref l1, .ref x] (.ref x :: st) I J R S Q := o_aload_n rfl k_H_restore_16
theorem x_H_restore_16N {st : List Value} {l0 : Nat} {l1 : Nat} {I : MI} {J : MJ} {R : MR} {S : Sh} {Q : SkQ} : Wp 146 16 [.ref l0, .ref l1, .null] st I J R S Q = Wp 146 17 [.ref l0, .ref l1, .null] (.null :: st) I J R S Q := o_aload_nN rfl k_H_restore_16
theorem k_H_restore_17 : decode (sk_by 146) 17 = .ok (.invokevirtual 27, 3) := by decide +kernel
theorem x_H_restore_17 {ls : List Value} {a0 : Nat} {a1 : Nat} {I : MI} {J : MJ} {R : MR} {S : Sh} {Q : SkQ} (ha : S.1 a0 = 0) : Wp 146 17 ls (.ref a1 :: .ref a0 :: []) I J R S Q = Wp 78 0 [.ref a0, .ref a1, nov] [] I J R S (Ret 146 17 20 78 ls [] Q) := o_call (as := [.ref a0, .ref a1]) (rest := []) (show sk_lkM (sk_cl 146) 27 = some 78 by decide +kernel) (by decide) (by decide) (by (decide +kernel)) (ins := .invokevirtual 27) (by (decide +kernel)) k_H_restore_17 rfl (show 2 = sk_na 78 by (decide +kernel)) (Nat.le_of_ble_eq_true rfl) (Nat.le_trans (show (argL [.ref a0, .ref a1]).length ≤ 3 from Nat.le_of_ble_eq_true rfl) (by (decide +kernel))) (rcv_of (by (decide +kernel)) (by decide) ha)
theorem k_H_restore_20 : decode (sk_by 146) 20 = .ok (.aload_n 0, 1) := by decide +kernel
theorem x_H_restore_20 {st : List Value} {l1 : Nat} {l2 : Value} {x : Nat} {I : MI} {J : MJ} {R : MR} {S : Sh} {Q : SkQ} : Wp 146 20 [.ref x, .ref l1, l2] st I J R S Q = Wp 146 21 [.ref x, .ref l1, l2] (.ref x :: st) I J R S Q := o_aload_n rfl k_H_restore_20
theorem k_H_restore_21 : decode (sk_by 146) 21 = .ok (.dup, 1) := by decide +kernel
theorem x_H_restore_21 {ls st : List Value} {x : Nat} {I : MI} {J : MJ} {R : MR} {S : Sh} {Q : SkQ} : Wp 146 21 ls (.ref x :: st) I J R S Q = Wp 146 22 ls (.ref x :: .ref x :: st) I J R S Q := o_dupR k_H_restore_21
theorem k_H_restore_22 : decode (sk_by 146) 22 = .ok (.getfield 16, 3) := by decide +kernel
theorem x_H_restore_22 {ls st : List Value} {a : Nat} {I : MI} {J : MJ} {R : MR} {S : Sh} {Q : SkQ} (ha : S.1 a = 2) : Wp 146 22 ls (.ref a :: st) I J R S Q = Wp 146 25 ls (.int (I a 1) :: st) I J R S Q := o_getfieldI (show sk_lkF (sk_cl 146) 16 = some (2, 1, 0, 0, 0) by decide +kernel) k_H_restore_22 ha
theorem k_H_restore_25 : decode (sk_by 146) 25 = .ok (.iconst 1, 1) := by decide +kernel
theorem x_H_restore_25 {ls st : List Value} {I : MI} {J : MJ} {R : MR} {S : Sh} {Q : SkQ} : Wp 146 25 ls st I J R S Q = Wp 146 26 ls (.int 1 :: st) I J R S Q := o_const (by decide) k_H_restore_25
theorem k_H_restore_26 : decode (sk_by 146) 26 = .ok (.isub, 1) := by decide +kernel
theorem x_H_restore_26 {ls st : List Value} {x y : Int32} {I : MI} {J : MJ} {R : MR} {S : Sh} {Q : SkQ} : Wp 146 26 ls (.int y :: .int x :: st) I J R S Q = Wp 146 27 ls (.int (x - y) :: st) I J R S Q := o_isub k_H_restore_26
theorem k_H_restore_27 : decode (sk_by 146) 27 = .ok (.putfield 16, 3) := by decide +kernel
theorem x_H_restore_27 {ls st : List Value} {a : Nat} {x : Int32} {I : MI} {J : MJ} {R : MR} {S : Sh} {Q : SkQ} (ha : S.1 a = 2) : Wp 146 27 ls (.int x :: .ref a :: st) I J R S Q = Wp 146 30 ls st (u2 I a 1 x) J R S Q := o_putfieldI (show sk_lkF (sk_cl 146) 16 = some (2, 1, 0, 0, 0) by decide +kernel) (by decide) (by (decide +kernel)) k_H_restore_27 ha
theorem k_H_restore_30 : decode (sk_by 146) 30 = .ok (.aload_n 0, 1) := by decide +kernel
theorem x_H_restore_30 {st : List Value} {l1 : Nat} {l2 : Value} {x : Nat} {I : MI} {J : MJ} {R : MR} {S : Sh} {Q : SkQ} : Wp 146 30 [.ref x, .ref l1, l2] st I J R S Q = Wp 146 31 [.ref x, .ref l1, l2] (.ref x :: st) I J R S Q := o_aload_n rfl k_H_restore_30
theorem k_H_restore_31 : decode (sk_by 146) 31 = .ok (.getfield 16, 3) := by decide +kernel
theorem x_H_restore_31 {ls st : List Value} {a : Nat} {I : MI} {J : MJ} {R : MR} {S : Sh} {Q : SkQ} (ha : S.1 a = 2) : Wp 146 31 ls (.ref a :: st) I J R S Q = Wp 146 34 ls (.int (I a 1) :: st) I J R S Q := o_getfieldI (show sk_lkF (sk_cl 146) 16 = some (2, 1, 0, 0, 0) by decide +kernel) k_H_restore_31 ha
theorem k_H_restore_34 : decode (sk_by 146) 34 = .ok (.ireturn, 1) := by decide +kernel
theorem x_H_restore_34 {ls : List Value} {v : Int32} {I : MI} {J : MJ} {R : MR} {S : Sh} {Q : SkQ} : Wp 146 34 ls [.int v] I J R S Q = Q 0 (some (.int v)) I J R S := o_ireturn k_H_restore_34 rfl
theorem k_H_savedAt_0 : decode (sk_by 147) 0 = .ok (.iload_n 1, 1) := by decide +kernel
theorem x_H_savedAt_0 {st : List Value} {l0 : Nat} {x : Int32} {I : MI} {J : MJ} {R : MR} {S : Sh} {Q : SkQ} : Wp 147 0 [.ref l0, .int x] st I J R S Q = Wp 147 1 [.ref l0, .int x] (.int x :: st) I J R S Q := o_iload_n rfl k_H_savedAt_0
theorem k_H_savedAt_1 : decode (sk_by 147) 1 = .ok (.ifCond .lt 17, 3) := by decide +kernel
theorem x_H_savedAt_1 {ls st : List Value} {x : Int32} {I : MI} {J : MJ} {R : MR} {S : Sh} {Q : SkQ} : Wp 147 1 ls (.int x :: st) I J R S Q = if x < 0 then Wp 147 18 ls st I J R S Q else Wp 147 4 ls st I J R S Q := o_if_lt rfl rfl k_H_savedAt_1
theorem k_H_savedAt_4 : decode (sk_by 147) 4 = .ok (.iload_n 1, 1) := by decide +kernel
theorem x_H_savedAt_4 {st : List Value} {l0 : Nat} {x : Int32} {I : MI} {J : MJ} {R : MR} {S : Sh} {Q : SkQ} : Wp 147 4 [.ref l0, .int x] st I J R S Q = Wp 147 5 [.ref l0, .int x] (.int x :: st) I J R S Q := o_iload_n rfl k_H_savedAt_4
theorem k_H_savedAt_5 : decode (sk_by 147) 5 = .ok (.iconst 4, 1) := by decide +kernel
theorem x_H_savedAt_5 {ls st : List Value} {I : MI} {J : MJ} {R : MR} {S : Sh} {Q : SkQ} : Wp 147 5 ls st I J R S Q = Wp 147 6 ls (.int 4 :: st) I J R S Q := o_const (by decide) k_H_savedAt_5
theorem k_H_savedAt_6 : decode (sk_by 147) 6 = .ok (.if_icmp .ge 12, 3) := by decide +kernel
theorem x_H_savedAt_6 {ls st : List Value} {x y : Int32} {I : MI} {J : MJ} {R : MR} {S : Sh} {Q : SkQ} : Wp 147 6 ls (.int y :: .int x :: st) I J R S Q = if x < y then Wp 147 9 ls st I J R S Q else Wp 147 18 ls st I J R S Q := o_ic_ge rfl rfl k_H_savedAt_6
theorem k_H_savedAt_9 : decode (sk_by 147) 9 = .ok (.aload_n 0, 1) := by decide +kernel
theorem x_H_savedAt_9 {st : List Value} {l1 : Int32} {x : Nat} {I : MI} {J : MJ} {R : MR} {S : Sh} {Q : SkQ} : Wp 147 9 [.ref x, .int l1] st I J R S Q = Wp 147 10 [.ref x, .int l1] (.ref x :: st) I J R S Q := o_aload_n rfl k_H_savedAt_9
theorem k_H_savedAt_10 : decode (sk_by 147) 10 = .ok (.getfield 11, 3) := by decide +kernel
theorem x_H_savedAt_10 {ls st : List Value} {a : Nat} {I : MI} {J : MJ} {R : MR} {S : Sh} {Q : SkQ} (ha : S.1 a = 2) : Wp 147 10 ls (.ref a :: st) I J R S Q = Wp 147 13 ls (R a 0 :: st) I J R S Q := o_getfieldR (show sk_lkF (sk_cl 147) 11 = some (2, 0, 2, 1, 0) by decide +kernel) k_H_savedAt_10 ha
theorem k_H_savedAt_13 : decode (sk_by 147) 13 = .ok (.iload_n 1, 1) := by decide +kernel
theorem x_H_savedAt_13 {st : List Value} {l0 : Nat} {x : Int32} {I : MI} {J : MJ} {R : MR} {S : Sh} {Q : SkQ} : Wp 147 13 [.ref l0, .int x] st I J R S Q = Wp 147 14 [.ref l0, .int x] (.int x :: st) I J R S Q := o_iload_n rfl k_H_savedAt_13
theorem k_H_savedAt_14 : decode (sk_by 147) 14 = .ok (.aaload, 1) := by decide +kernel
theorem x_H_savedAt_14 {ls st : List Value} {a : Nat} {i : Int32} {I : MI} {J : MJ} {R : MR} {S : Sh} {Q : SkQ} (ha : S.1 a = 33 ∨ S.1 a = 43) (hi : inb i (S.2.1 a) = true) : Wp 147 14 ls (.int i :: .ref a :: st) I J R S Q = Wp 147 15 ls (R a (ix i) :: st) I J R S Q := o_aaload k_H_savedAt_14 ha hi
theorem k_H_savedAt_15 : decode (sk_by 147) 15 = .ok (.goto 4, 3) := by decide +kernel
theorem x_H_savedAt_15 {ls st : List Value} {I : MI} {J : MJ} {R : MR} {S : Sh} {Q : SkQ} : Wp 147 15 ls st I J R S Q = Wp 147 19 ls st I J R S Q := o_goto rfl rfl k_H_savedAt_15
theorem k_H_savedAt_18 : decode (sk_by 147) 18 = .ok (.aconst_null, 1) := by decide +kernel
theorem x_H_savedAt_18 {ls st : List Value} {I : MI} {J : MJ} {R : MR} {S : Sh} {Q : SkQ} : Wp 147 18 ls st I J R S Q = Wp 147 19 ls (.null :: st) I J R S Q := o_aconst_null k_H_savedAt_18
theorem k_H_savedAt_19 : decode (sk_by 147) 19 = .ok (.areturn, 1) := by decide +kernel
theorem x_H_savedAt_19 {ls : List Value} {v : Nat} {I : MI} {J : MJ} {R : MR} {S : Sh} {Q : SkQ} : Wp 147 19 ls [.ref v] I J R S Q = Q 0 (some (.ref v)) I J R S := o_areturnR (by (decide +kernel)) k_H_savedAt_19
theorem x_H_savedAt_19N {ls : List Value} {I : MI} {J : MJ} {R : MR} {S : Sh} {Q : SkQ} : Wp 147 19 ls [.null] I J R S Q = Q 0 (some .null) I J R S := o_areturnN (by (decide +kernel)) k_H_savedAt_19
