theorem k_L_addWord_0 : decode (sk_by 0) 0 = .ok (.aload 4, 2) := by decide +kernel
theorem x_L_addWord_0 {st : List Value} {l0 : Nat} {l1 : Int64} {l3 : Int32} {x : Nat} {I : MI} {J : MJ} {R : MR} {S : Sh} {Q : SkQ} : Wp 0 0 [.ref l0, .long l1, nov, .int l3, .ref x, nov] st I J R S Q = Wp 0 2 [.ref l0, .long l1, nov, .int l3, .ref x, nov] (.ref x :: st) I J R S Q := o_aload rfl k_L_addWord_0
theorem k_L_addWord_2 : decode (sk_by 0) 2 = .ok (.iconst 0, 1) := by decide +kernel
theorem x_L_addWord_2 {ls st : List Value} {I : MI} {J : MJ} {R : MR} {S : Sh} {Q : SkQ} : Wp 0 2 ls st I J R S Q = Wp 0 3 ls (.int 0 :: st) I J R S Q := o_const (by decide) k_L_addWord_2
theorem k_L_addWord_3 : decode (sk_by 0) 3 = .ok (.aload_n 0, 1) := by decide +kernel
theorem x_L_addWord_3 {st : List Value} {l1 : Int64} {l3 : Int32} {l4 : Nat} {x : Nat} {I : MI} {J : MJ} {R : MR} {S : Sh} {Q : SkQ} : Wp 0 3 [.ref x, .long l1, nov, .int l3, .ref l4, nov] st I J R S Q = Wp 0 4 [.ref x, .long l1, nov, .int l3, .ref l4, nov] (.ref x :: st) I J R S Q := o_aload_n rfl k_L_addWord_3
theorem k_L_addWord_4 : decode (sk_by 0) 4 = .ok (.lload_n 1, 1) := by decide +kernel
theorem x_L_addWord_4 {st : List Value} {l0 : Nat} {l3 : Int32} {l4 : Nat} {x : Int64} {I : MI} {J : MJ} {R : MR} {S : Sh} {Q : SkQ} : Wp 0 4 [.ref l0, .long x, nov, .int l3, .ref l4, nov] st I J R S Q = Wp 0 5 [.ref l0, .long x, nov, .int l3, .ref l4, nov] (.long x :: st) I J R S Q := o_lload_n rfl k_L_addWord_4
theorem k_L_addWord_5 : decode (sk_by 0) 5 = .ok (.iload_n 3, 1) := by decide +kernel
theorem x_L_addWord_5 {st : List Value} {l0 : Nat} {l1 : Int64} {l4 : Nat} {x : Int32} {I : MI} {J : MJ} {R : MR} {S : Sh} {Q : SkQ} : Wp 0 5 [.ref l0, .long l1, nov, .int x, .ref l4, nov] st I J R S Q = Wp 0 6 [.ref l0, .long l1, nov, .int x, .ref l4, nov] (.int x :: st) I J R S Q := o_iload_n rfl k_L_addWord_5
theorem k_L_addWord_6 : decode (sk_by 0) 6 = .ok (.invokevirtual 7, 3) := by decide +kernel
theorem x_L_addWord_6 {ls : List Value} {a0 : Nat} {a1 : Int64} {a2 : Int32} {s0 : Int32} {s1 : Nat} {I : MI} {J : MJ} {R : MR} {S : Sh} {Q : SkQ} (ha : S.1 a0 = 7) : Wp 0 6 ls (.int a2 :: .long a1 :: .ref a0 :: [.int s0, .ref s1]) I J R S Q = Wp 25 0 [.ref a0, .long a1, nov, .int a2] [] I J R S (Ret 0 6 9 25 ls [.int s0, .ref s1] Q) := o_call (as := [.ref a0, .long a1, .int a2]) (rest := [.int s0, .ref s1]) (show sk_lkM (sk_cl 0) 7 = some 25 by decide +kernel) (by decide) (by decide) (by (decide +kernel)) (ins := .invokevirtual 7) (by (decide +kernel)) k_L_addWord_6 rfl (show 3 = sk_na 25 by (decide +kernel)) (Nat.le_of_ble_eq_true rfl) (Nat.le_trans (show (argL [.ref a0, .long a1, .int a2]).length ≤ 4 from Nat.le_of_ble_eq_true rfl) (by (decide +kernel))) (rcv_of (by (decide +kernel)) (by decide) ha)
theorem k_L_addWord_9 : decode (sk_by 0) 9 = .ok (.i2l, 1) := by decide +kernel
theorem x_L_addWord_9 {ls st : List Value} {x : Int32} {I : MI} {J : MJ} {R : MR} {S : Sh} {Q : SkQ} : Wp 0 9 ls (.int x :: st) I J R S Q = Wp 0 10 ls (.long x.toInt64 :: st) I J R S Q := o_i2l k_L_addWord_9
theorem k_L_addWord_10 : decode (sk_by 0) 10 = .ok (.lastore, 1) := by decide +kernel
theorem x_L_addWord_10 {ls st : List Value} {a : Nat} {i : Int32} {x : Int64} {I : MI} {J : MJ} {R : MR} {S : Sh} {Q : SkQ} (ha : S.1 a = 31) (hi : inb i (S.2.1 a) = true) : Wp 0 10 ls (.long x :: .int i :: .ref a :: st) I J R S Q = Wp 0 11 ls st I (u2 J a (ix i) x) R S Q := o_lastore k_L_addWord_10 ha hi
theorem k_L_addWord_11 : decode (sk_by 0) 11 = .ok (.goto 11, 3) := by decide +kernel
theorem x_L_addWord_11 {ls st : List Value} {I : MI} {J : MJ} {R : MR} {S : Sh} {Q : SkQ} : Wp 0 11 ls st I J R S Q = Wp 0 22 ls st I J R S Q := o_goto rfl rfl k_L_addWord_11
theorem k_L_addWord_16 : decode (sk_by 0) 16 = .ok (.iconst 1, 1) := by decide +kernel
theorem x_L_addWord_16 {ls st : List Value} {I : MI} {J : MJ} {R : MR} {S : Sh} {Q : SkQ} : Wp 0 16 ls st I J R S Q = Wp 0 17 ls (.int 1 :: st) I J R S Q := o_const (by decide) k_L_addWord_16
theorem k_L_addWord_17 : decode (sk_by 0) 17 = .ok (.ireturn, 1) := by decide +kernel
theorem x_L_addWord_17 {ls : List Value} {v : Int32} {I : MI} {J : MJ} {R : MR} {S : Sh} {Q : SkQ} : Wp 0 17 ls [.int v] I J R S Q = Q 0 (some (.int v)) I J R S := o_ireturn k_L_addWord_17 rfl
theorem k_L_addWord_20 : decode (sk_by 0) 20 = .ok (.iconst 2, 1) := by decide +kernel
theorem x_L_addWord_20 {ls st : List Value} {I : MI} {J : MJ} {R : MR} {S : Sh} {Q : SkQ} : Wp 0 20 ls st I J R S Q = Wp 0 21 ls (.int 2 :: st) I J R S Q := o_const (by decide) k_L_addWord_20
theorem k_L_addWord_21 : decode (sk_by 0) 21 = .ok (.ireturn, 1) := by decide +kernel
theorem x_L_addWord_21 {ls : List Value} {v : Int32} {I : MI} {J : MJ} {R : MR} {S : Sh} {Q : SkQ} : Wp 0 21 ls [.int v] I J R S Q = Q 0 (some (.int v)) I J R S := o_ireturn k_L_addWord_21 rfl
theorem k_L_addWord_22 : decode (sk_by 0) 22 = .ok (.iconst 0, 1) := by decide +kernel
theorem x_L_addWord_22 {ls st : List Value} {I : MI} {J : MJ} {R : MR} {S : Sh} {Q : SkQ} : Wp 0 22 ls st I J R S Q = Wp 0 23 ls (.int 0 :: st) I J R S Q := o_const (by decide) k_L_addWord_22
theorem k_L_addWord_23 : decode (sk_by 0) 23 = .ok (.ireturn, 1) := by decide +kernel
theorem x_L_addWord_23 {ls : List Value} {v : Int32} {I : MI} {J : MJ} {R : MR} {S : Sh} {Q : SkQ} : Wp 0 23 ls [.int v] I J R S Q = Q 0 (some (.int v)) I J R S := o_ireturn k_L_addWord_23 rfl
theorem k_L_dropWord_0 : decode (sk_by 1) 0 = .ok (.aload_n 3, 1) := by decide +kernel
theorem x_L_dropWord_0 {st : List Value} {l0 : Nat} {l1 : Int64} {x : Nat} {I : MI} {J : MJ} {R : MR} {S : Sh} {Q : SkQ} : Wp 1 0 [.ref l0, .long l1, nov, .ref x, nov] st I J R S Q = Wp 1 1 [.ref l0, .long l1, nov, .ref x, nov] (.ref x :: st) I J R S Q := o_aload_n rfl k_L_dropWord_0
theorem k_L_dropWord_1 : decode (sk_by 1) 1 = .ok (.iconst 0, 1) := by decide +kernel
theorem x_L_dropWord_1 {ls st : List Value} {I : MI} {J : MJ} {R : MR} {S : Sh} {Q : SkQ} : Wp 1 1 ls st I J R S Q = Wp 1 2 ls (.int 0 :: st) I J R S Q := o_const (by decide) k_L_dropWord_1
theorem k_L_dropWord_2 : decode (sk_by 1) 2 = .ok (.aload_n 0, 1) := by decide +kernel
theorem x_L_dropWord_2 {st : List Value} {l1 : Int64} {l3 : Nat} {x : Nat} {I : MI} {J : MJ} {R : MR} {S : Sh} {Q : SkQ} : Wp 1 2 [.ref x, .long l1, nov, .ref l3, nov] st I J R S Q = Wp 1 3 [.ref x, .long l1, nov, .ref l3, nov] (.ref x :: st) I J R S Q := o_aload_n rfl k_L_dropWord_2
theorem k_L_dropWord_3 : decode (sk_by 1) 3 = .ok (.lload_n 1, 1) := by decide +kernel
theorem x_L_dropWord_3 {st : List Value} {l0 : Nat} {l3 : Nat} {x : Int64} {I : MI} {J : MJ} {R : MR} {S : Sh} {Q : SkQ} : Wp 1 3 [.ref l0, .long x, nov, .ref l3, nov] st I J R S Q = Wp 1 4 [.ref l0, .long x, nov, .ref l3, nov] (.long x :: st) I J R S Q := o_lload_n rfl k_L_dropWord_3
theorem k_L_dropWord_4 : decode (sk_by 1) 4 = .ok (.invokevirtual 17, 3) := by decide +kernel
theorem x_L_dropWord_4 {ls : List Value} {a0 : Nat} {a1 : Int64} {s0 : Int32} {s1 : Nat} {I : MI} {J : MJ} {R : MR} {S : Sh} {Q : SkQ} (ha : S.1 a0 = 7) : Wp 1 4 ls (.long a1 :: .ref a0 :: [.int s0, .ref s1]) I J R S Q = Wp 26 0 [.ref a0, .long a1, nov] [] I J R S (Ret 1 4 7 26 ls [.int s0, .ref s1] Q) := o_call (as := [.ref a0, .long a1]) (rest := [.int s0, .ref s1]) (show sk_lkM (sk_cl 1) 17 = some 26 by decide +kernel) (by decide) (by decide) (by (decide +kernel)) (ins := .invokevirtual 17) (by (decide +kernel)) k_L_dropWord_4 rfl (show 2 = sk_na 26 by (decide +kernel)) (Nat.le_of_ble_eq_true rfl) (Nat.le_trans (show (argL [.ref a0, .long a1]).length ≤ 3 from Nat.le_of_ble_eq_true rfl) (by (decide +kernel))) (rcv_of (by (decide +kernel)) (by decide) ha)
theorem k_L_dropWord_7 : decode (sk_by 1) 7 = .ok (.i2l, 1) := by decide +kernel
theorem x_L_dropWord_7 {ls st : List Value} {x : Int32} {I : MI} {J : MJ} {R : MR} {S : Sh} {Q : SkQ} : Wp 1 7 ls (.int x :: st) I J R S Q = Wp 1 8 ls (.long x.toInt64 :: st) I J R S Q := o_i2l k_L_dropWord_7
theorem k_L_dropWord_8 : decode (sk_by 1) 8 = .ok (.lastore, 1) := by decide +kernel
theorem x_L_dropWord_8 {ls st : List Value} {a : Nat} {i : Int32} {x : Int64} {I : MI} {J : MJ} {R : MR} {S : Sh} {Q : SkQ} (ha : S.1 a = 31) (hi : inb i (S.2.1 a) = true) : Wp 1 8 ls (.long x :: .int i :: .ref a :: st) I J R S Q = Wp 1 9 ls st I (u2 J a (ix i) x) R S Q := o_lastore k_L_dropWord_8 ha hi
theorem k_L_dropWord_9 : decode (sk_by 1) 9 = .ok (.goto 7, 3) := by decide +kernel
theorem x_L_dropWord_9 {ls st : List Value} {I : MI} {J : MJ} {R : MR} {S : Sh} {Q : SkQ} : Wp 1 9 ls st I J R S Q = Wp 1 16 ls st I J R S Q := o_goto rfl rfl k_L_dropWord_9
theorem k_L_dropWord_14 : decode (sk_by 1) 14 = .ok (.iconst 1, 1) := by decide +kernel
theorem x_L_dropWord_14 {ls st : List Value} {I : MI} {J : MJ} {R : MR} {S : Sh} {Q : SkQ} : Wp 1 14 ls st I J R S Q = Wp 1 15 ls (.int 1 :: st) I J R S Q := o_const (by decide) k_L_dropWord_14
theorem k_L_dropWord_15 : decode (sk_by 1) 15 = .ok (.ireturn, 1) := by decide +kernel
theorem x_L_dropWord_15 {ls : List Value} {v : Int32} {I : MI} {J : MJ} {R : MR} {S : Sh} {Q : SkQ} : Wp 1 15 ls [.int v] I J R S Q = Q 0 (some (.int v)) I J R S := o_ireturn k_L_dropWord_15 rfl
theorem k_L_dropWord_16 : decode (sk_by 1) 16 = .ok (.iconst 0, 1) := by decide +kernel
theorem x_L_dropWord_16 {ls st : List Value} {I : MI} {J : MJ} {R : MR} {S : Sh} {Q : SkQ} : Wp 1 16 ls st I J R S Q = Wp 1 17 ls (.int 0 :: st) I J R S Q := o_const (by decide) k_L_dropWord_16
theorem k_L_dropWord_17 : decode (sk_by 1) 17 = .ok (.ireturn, 1) := by decide +kernel
theorem x_L_dropWord_17 {ls : List Value} {v : Int32} {I : MI} {J : MJ} {R : MR} {S : Sh} {Q : SkQ} : Wp 1 17 ls [.int v] I J R S Q = Q 0 (some (.int v)) I J R S := o_ireturn k_L_dropWord_17 rfl
theorem k_L_addName_0 : decode (sk_by 2) 0 = .ok (.aload_n 3, 1) := by decide +kernel
theorem x_L_addName_0 {st : List Value} {l0 : Nat} {l1 : Int64} {x : Nat} {I : MI} {J : MJ} {R : MR} {S : Sh} {Q : SkQ} : Wp 2 0 [.ref l0, .long l1, nov, .ref x, nov] st I J R S Q = Wp 2 1 [.ref l0, .long l1, nov, .ref x, nov] (.ref x :: st) I J R S Q := o_aload_n rfl k_L_addName_0
theorem k_L_addName_1 : decode (sk_by 2) 1 = .ok (.iconst 0, 1) := by decide +kernel
theorem x_L_addName_1 {ls st : List Value} {I : MI} {J : MJ} {R : MR} {S : Sh} {Q : SkQ} : Wp 2 1 ls st I J R S Q = Wp 2 2 ls (.int 0 :: st) I J R S Q := o_const (by decide) k_L_addName_1
theorem k_L_addName_2 : decode (sk_by 2) 2 = .ok (.aload_n 0, 1) := by decide +kernel
theorem x_L_addName_2 {st : List Value} {l1 : Int64} {l3 : Nat} {x : Nat} {I : MI} {J : MJ} {R : MR} {S : Sh} {Q : SkQ} : Wp 2 2 [.ref x, .long l1, nov, .ref l3, nov] st I J R S Q = Wp 2 3 [.ref x, .long l1, nov, .ref l3, nov] (.ref x :: st) I J R S Q := o_aload_n rfl k_L_addName_2
theorem k_L_addName_3 : decode (sk_by 2) 3 = .ok (.lload_n 1, 1) := by decide +kernel
theorem x_L_addName_3 {st : List Value} {l0 : Nat} {l3 : Nat} {x : Int64} {I : MI} {J : MJ} {R : MR} {S : Sh} {Q : SkQ} : Wp 2 3 [.ref l0, .long x, nov, .ref l3, nov] st I J R S Q = Wp 2 4 [.ref l0, .long x, nov, .ref l3, nov] (.long x :: st) I J R S Q := o_lload_n rfl k_L_addName_3
theorem k_L_addName_4 : decode (sk_by 2) 4 = .ok (.invokevirtual 21, 3) := by decide +kernel
theorem x_L_addName_4 {ls : List Value} {a0 : Nat} {a1 : Int64} {s0 : Int32} {s1 : Nat} {I : MI} {J : MJ} {R : MR} {S : Sh} {Q : SkQ} (ha : S.1 a0 = 7) : Wp 2 4 ls (.long a1 :: .ref a0 :: [.int s0, .ref s1]) I J R S Q = Wp 27 0 [.ref a0, .long a1, nov] [] I J R S (Ret 2 4 7 27 ls [.int s0, .ref s1] Q) := o_call (as := [.ref a0, .long a1]) (rest := [.int s0, .ref s1]) (show sk_lkM (sk_cl 2) 21 = some 27 by decide +kernel) (by decide) (by decide) (by (decide +kernel)) (ins := .invokevirtual 21) (by (decide +kernel)) k_L_addName_4 rfl (show 2 = sk_na 27 by (decide +kernel)) (Nat.le_of_ble_eq_true rfl) (Nat.le_trans (show (argL [.ref a0, .long a1]).length ≤ 3 from Nat.le_of_ble_eq_true rfl) (by (decide +kernel))) (rcv_of (by (decide +kernel)) (by decide) ha)
theorem k_L_addName_7 : decode (sk_by 2) 7 = .ok (.i2l, 1) := by decide +kernel
theorem x_L_addName_7 {ls st : List Value} {x : Int32} {I : MI} {J : MJ} {R : MR} {S : Sh} {Q : SkQ} : Wp 2 7 ls (.int x :: st) I J R S Q = Wp 2 8 ls (.long x.toInt64 :: st) I J R S Q := o_i2l k_L_addName_7
theorem k_L_addName_8 : decode (sk_by 2) 8 = .ok (.lastore, 1) := by decide +kernel
theorem x_L_addName_8 {ls st : List Value} {a : Nat} {i : Int32} {x : Int64} {I : MI} {J : MJ} {R : MR} {S : Sh} {Q : SkQ} (ha : S.1 a = 31) (hi : inb i (S.2.1 a) = true) : Wp 2 8 ls (.long x :: .int i :: .ref a :: st) I J R S Q = Wp 2 9 ls st I (u2 J a (ix i) x) R S Q := o_lastore k_L_addName_8 ha hi
theorem k_L_addName_9 : decode (sk_by 2) 9 = .ok (.goto 11, 3) := by decide +kernel
theorem x_L_addName_9 {ls st : List Value} {I : MI} {J : MJ} {R : MR} {S : Sh} {Q : SkQ} : Wp 2 9 ls st I J R S Q = Wp 2 20 ls st I J R S Q := o_goto rfl rfl k_L_addName_9
theorem k_L_addName_14 : decode (sk_by 2) 14 = .ok (.iconst 1, 1) := by decide +kernel
theorem x_L_addName_14 {ls st : List Value} {I : MI} {J : MJ} {R : MR} {S : Sh} {Q : SkQ} : Wp 2 14 ls st I J R S Q = Wp 2 15 ls (.int 1 :: st) I J R S Q := o_const (by decide) k_L_addName_14
theorem k_L_addName_15 : decode (sk_by 2) 15 = .ok (.ireturn, 1) := by decide +kernel
theorem x_L_addName_15 {ls : List Value} {v : Int32} {I : MI} {J : MJ} {R : MR} {S : Sh} {Q : SkQ} : Wp 2 15 ls [.int v] I J R S Q = Q 0 (some (.int v)) I J R S := o_ireturn k_L_addName_15 rfl
theorem k_L_addName_18 : decode (sk_by 2) 18 = .ok (.iconst 2, 1) := by decide +kernel
theorem x_L_addName_18 {ls st : List Value} {I : MI} {J : MJ} {R : MR} {S : Sh} {Q : SkQ} : Wp 2 18 ls st I J R S Q = Wp 2 19 ls (.int 2 :: st) I J R S Q := o_const (by decide) k_L_addName_18
theorem k_L_addName_19 : decode (sk_by 2) 19 = .ok (.ireturn, 1) := by decide +kernel
theorem x_L_addName_19 {ls : List Value} {v : Int32} {I : MI} {J : MJ} {R : MR} {S : Sh} {Q : SkQ} : Wp 2 19 ls [.int v] I J R S Q = Q 0 (some (.int v)) I J R S := o_ireturn k_L_addName_19 rfl
theorem k_L_addName_20 : decode (sk_by 2) 20 = .ok (.iconst 0, 1) := by decide +kernel
theorem x_L_addName_20 {ls st : List Value} {I : MI} {J : MJ} {R : MR} {S : Sh} {Q : SkQ} : Wp 2 20 ls st I J R S Q = Wp 2 21 ls (.int 0 :: st) I J R S Q := o_const (by decide) k_L_addName_20
theorem k_L_addName_21 : decode (sk_by 2) 21 = .ok (.ireturn, 1) := by decide +kernel
theorem x_L_addName_21 {ls : List Value} {v : Int32} {I : MI} {J : MJ} {R : MR} {S : Sh} {Q : SkQ} : Wp 2 21 ls [.int v] I J R S Q = Q 0 (some (.int v)) I J R S := o_ireturn k_L_addName_21 rfl
theorem k_L_dropName_0 : decode (sk_by 3) 0 = .ok (.aload_n 3, 1) := by decide +kernel
theorem x_L_dropName_0 {st : List Value} {l0 : Nat} {l1 : Int64} {x : Nat} {I : MI} {J : MJ} {R : MR} {S : Sh} {Q : SkQ} : Wp 3 0 [.ref l0, .long l1, nov, .ref x, nov] st I J R S Q = Wp 3 1 [.ref l0, .long l1, nov, .ref x, nov] (.ref x :: st) I J R S Q := o_aload_n rfl k_L_dropName_0
theorem k_L_dropName_1 : decode (sk_by 3) 1 = .ok (.iconst 0, 1) := by decide +kernel
theorem x_L_dropName_1 {ls st : List Value} {I : MI} {J : MJ} {R : MR} {S : Sh} {Q : SkQ} : Wp 3 1 ls st I J R S Q = Wp 3 2 ls (.int 0 :: st) I J R S Q := o_const (by decide) k_L_dropName_1
theorem k_L_dropName_2 : decode (sk_by 3) 2 = .ok (.aload_n 0, 1) := by decide +kernel
theorem x_L_dropName_2 {st : List Value} {l1 : Int64} {l3 : Nat} {x : Nat} {I : MI} {J : MJ} {R : MR} {S : Sh} {Q : SkQ} : Wp 3 2 [.ref x, .long l1, nov, .ref l3, nov] st I J R S Q = Wp 3 3 [.ref x, .long l1, nov, .ref l3, nov] (.ref x :: st) I J R S Q := o_aload_n rfl k_L_dropName_2
theorem k_L_dropName_3 : decode (sk_by 3) 3 = .ok (.lload_n 1, 1) := by decide +kernel
theorem x_L_dropName_3 {st : List Value} {l0 : Nat} {l3 : Nat} {x : Int64} {I : MI} {J : MJ} {R : MR} {S : Sh} {Q : SkQ} : Wp 3 3 [.ref l0, .long x, nov, .ref l3, nov] st I J R S Q = Wp 3 4 [.ref l0, .long x, nov, .ref l3, nov] (.long x :: st) I J R S Q := o_lload_n rfl k_L_dropName_3
theorem k_L_dropName_4 : decode (sk_by 3) 4 = .ok (.invokevirtual 24, 3) := by decide +kernel
theorem x_L_dropName_4 {ls : List Value} {a0 : Nat} {a1 : Int64} {s0 : Int32} {s1 : Nat} {I : MI} {J : MJ} {R : MR} {S : Sh} {Q : SkQ} (ha : S.1 a0 = 7) : Wp 3 4 ls (.long a1 :: .ref a0 :: [.int s0, .ref s1]) I J R S Q = Wp 28 0 [.ref a0, .long a1, nov] [] I J R S (Ret 3 4 7 28 ls [.int s0, .ref s1] Q) := o_call (as := [.ref a0, .long a1]) (rest := [.int s0, .ref s1]) (show sk_lkM (sk_cl 3) 24 = some 28 by decide +kernel) (by decide) (by decide) (by (decide +kernel)) (ins := .invokevirtual 24) (by (decide +kernel)) k_L_dropName_4 rfl (show 2 = sk_na 28 by (decide +kernel)) (Nat.le_of_ble_eq_true rfl) (Nat.le_trans (show (argL [.ref a0, .long a1]).length ≤ 3 from Nat.le_of_ble_eq_true rfl) (by (decide +kernel))) (rcv_of (by (decide +kernel)) (by decide) ha)
theorem k_L_dropName_7 : decode (sk_by 3) 7 = .ok (.i2l, 1) := by decide +kernel
theorem x_L_dropName_7 {ls st : List Value} {x : Int32} {I : MI} {J : MJ} {R : MR} {S : Sh} {Q : SkQ} : Wp 3 7 ls (.int x :: st) I J R S Q = Wp 3 8 ls (.long x.toInt64 :: st) I J R S Q := o_i2l k_L_dropName_7
theorem k_L_dropName_8 : decode (sk_by 3) 8 = .ok (.lastore, 1) := by decide +kernel
theorem x_L_dropName_8 {ls st : List Value} {a : Nat} {i : Int32} {x : Int64} {I : MI} {J : MJ} {R : MR} {S : Sh} {Q : SkQ} (ha : S.1 a = 31) (hi : inb i (S.2.1 a) = true) : Wp 3 8 ls (.long x :: .int i :: .ref a :: st) I J R S Q = Wp 3 9 ls st I (u2 J a (ix i) x) R S Q := o_lastore k_L_dropName_8 ha hi
theorem k_L_dropName_9 : decode (sk_by 3) 9 = .ok (.goto 7, 3) := by decide +kernel
theorem x_L_dropName_9 {ls st : List Value} {I : MI} {J : MJ} {R : MR} {S : Sh} {Q : SkQ} : Wp 3 9 ls st I J R S Q = Wp 3 16 ls st I J R S Q := o_goto rfl rfl k_L_dropName_9
theorem k_L_dropName_14 : decode (sk_by 3) 14 = .ok (.iconst 1, 1) := by decide +kernel
theorem x_L_dropName_14 {ls st : List Value} {I : MI} {J : MJ} {R : MR} {S : Sh} {Q : SkQ} : Wp 3 14 ls st I J R S Q = Wp 3 15 ls (.int 1 :: st) I J R S Q := o_const (by decide) k_L_dropName_14
theorem k_L_dropName_15 : decode (sk_by 3) 15 = .ok (.ireturn, 1) := by decide +kernel
theorem x_L_dropName_15 {ls : List Value} {v : Int32} {I : MI} {J : MJ} {R : MR} {S : Sh} {Q : SkQ} : Wp 3 15 ls [.int v] I J R S Q = Q 0 (some (.int v)) I J R S := o_ireturn k_L_dropName_15 rfl
theorem k_L_dropName_16 : decode (sk_by 3) 16 = .ok (.iconst 0, 1) := by decide +kernel
theorem x_L_dropName_16 {ls st : List Value} {I : MI} {J : MJ} {R : MR} {S : Sh} {Q : SkQ} : Wp 3 16 ls st I J R S Q = Wp 3 17 ls (.int 0 :: st) I J R S Q := o_const (by decide) k_L_dropName_16
theorem k_L_dropName_17 : decode (sk_by 3) 17 = .ok (.ireturn, 1) := by decide +kernel
theorem x_L_dropName_17 {ls : List Value} {v : Int32} {I : MI} {J : MJ} {R : MR} {S : Sh} {Q : SkQ} : Wp 3 17 ls [.int v] I J R S Q = Q 0 (some (.int v)) I J R S := o_ireturn k_L_dropName_17 rfl
theorem k_L_setStick_0 : decode (sk_by 4) 0 = .ok (.aload_n 3, 1) := by decide +kernel
theorem x_L_setStick_0 {st : List Value} {l0 : Nat} {l1 : Int32} {l2 : Int32} {x : Nat} {I : MI} {J : MJ} {R : MR} {S : Sh} {Q : SkQ} : Wp 4 0 [.ref l0, .int l1, .int l2, .ref x, nov] st I J R S Q = Wp 4 1 [.ref l0, .int l1, .int l2, .ref x, nov] (.ref x :: st) I J R S Q := o_aload_n rfl k_L_setStick_0
theorem k_L_setStick_1 : decode (sk_by 4) 1 = .ok (.iconst 0, 1) := by decide +kernel
theorem x_L_setStick_1 {ls st : List Value} {I : MI} {J : MJ} {R : MR} {S : Sh} {Q : SkQ} : Wp 4 1 ls st I J R S Q = Wp 4 2 ls (.int 0 :: st) I J R S Q := o_const (by decide) k_L_setStick_1
theorem k_L_setStick_2 : decode (sk_by 4) 2 = .ok (.aload_n 0, 1) := by decide +kernel
theorem x_L_setStick_2 {st : List Value} {l1 : Int32} {l2 : Int32} {l3 : Nat} {x : Nat} {I : MI} {J : MJ} {R : MR} {S : Sh} {Q : SkQ} : Wp 4 2 [.ref x, .int l1, .int l2, .ref l3, nov] st I J R S Q = Wp 4 3 [.ref x, .int l1, .int l2, .ref l3, nov] (.ref x :: st) I J R S Q := o_aload_n rfl k_L_setStick_2
theorem k_L_setStick_3 : decode (sk_by 4) 3 = .ok (.iload_n 1, 1) := by decide +kernel
theorem x_L_setStick_3 {st : List Value} {l0 : Nat} {l2 : Int32} {l3 : Nat} {x : Int32} {I : MI} {J : MJ} {R : MR} {S : Sh} {Q : SkQ} : Wp 4 3 [.ref l0, .int x, .int l2, .ref l3, nov] st I J R S Q = Wp 4 4 [.ref l0, .int x, .int l2, .ref l3, nov] (.int x :: st) I J R S Q := o_iload_n rfl k_L_setStick_3
theorem k_L_setStick_4 : decode (sk_by 4) 4 = .ok (.iload_n 2, 1) := by decide +kernel
theorem x_L_setStick_4 {st : List Value} {l0 : Nat} {l1 : Int32} {l3 : Nat} {x : Int32} {I : MI} {J : MJ} {R : MR} {S : Sh} {Q : SkQ} : Wp 4 4 [.ref l0, .int l1, .int x, .ref l3, nov] st I J R S Q = Wp 4 5 [.ref l0, .int l1, .int x, .ref l3, nov] (.int x :: st) I J R S Q := o_iload_n rfl k_L_setStick_4
theorem k_L_setStick_5 : decode (sk_by 4) 5 = .ok (.invokevirtual 27, 3) := by decide +kernel
theorem x_L_setStick_5 {ls : List Value} {a0 : Nat} {a1 : Int32} {a2 : Int32} {s0 : Int32} {s1 : Nat} {I : MI} {J : MJ} {R : MR} {S : Sh} {Q : SkQ} (ha : S.1 a0 = 7) : Wp 4 5 ls (.int a2 :: .int a1 :: .ref a0 :: [.int s0, .ref s1]) I J R S Q = Wp 29 0 [.ref a0, .int a1, .int a2] [] I J R S (Ret 4 5 8 29 ls [.int s0, .ref s1] Q) := o_call (as := [.ref a0, .int a1, .int a2]) (rest := [.int s0, .ref s1]) (show sk_lkM (sk_cl 4) 27 = some 29 by decide +kernel) (by decide) (by decide) (by (decide +kernel)) (ins := .invokevirtual 27) (by (decide +kernel)) k_L_setStick_5 rfl (show 3 = sk_na 29 by (decide +kernel)) (Nat.le_of_ble_eq_true rfl) (Nat.le_trans (show (argL [.ref a0, .int a1, .int a2]).length ≤ 3 from Nat.le_of_ble_eq_true rfl) (by (decide +kernel))) (rcv_of (by (decide +kernel)) (by decide) ha)
theorem k_L_setStick_8 : decode (sk_by 4) 8 = .ok (.i2l, 1) := by decide +kernel
theorem x_L_setStick_8 {ls st : List Value} {x : Int32} {I : MI} {J : MJ} {R : MR} {S : Sh} {Q : SkQ} : Wp 4 8 ls (.int x :: st) I J R S Q = Wp 4 9 ls (.long x.toInt64 :: st) I J R S Q := o_i2l k_L_setStick_8
theorem k_L_setStick_9 : decode (sk_by 4) 9 = .ok (.lastore, 1) := by decide +kernel
theorem x_L_setStick_9 {ls st : List Value} {a : Nat} {i : Int32} {x : Int64} {I : MI} {J : MJ} {R : MR} {S : Sh} {Q : SkQ} (ha : S.1 a = 31) (hi : inb i (S.2.1 a) = true) : Wp 4 9 ls (.long x :: .int i :: .ref a :: st) I J R S Q = Wp 4 10 ls st I (u2 J a (ix i) x) R S Q := o_lastore k_L_setStick_9 ha hi
theorem k_L_setStick_10 : decode (sk_by 4) 10 = .ok (.goto 7, 3) := by decide +kernel
theorem x_L_setStick_10 {ls st : List Value} {I : MI} {J : MJ} {R : MR} {S : Sh} {Q : SkQ} : Wp 4 10 ls st I J R S Q = Wp 4 17 ls st I J R S Q := o_goto rfl rfl k_L_setStick_10
theorem k_L_setStick_15 : decode (sk_by 4) 15 = .ok (.iconst 1, 1) := by decide +kernel
theorem x_L_setStick_15 {ls st : List Value} {I : MI} {J : MJ} {R : MR} {S : Sh} {Q : SkQ} : Wp 4 15 ls st I J R S Q = Wp 4 16 ls (.int 1 :: st) I J R S Q := o_const (by decide) k_L_setStick_15
theorem k_L_setStick_16 : decode (sk_by 4) 16 = .ok (.ireturn, 1) := by decide +kernel
theorem x_L_setStick_16 {ls : List Value} {v : Int32} {I : MI} {J : MJ} {R : MR} {S : Sh} {Q : SkQ} : Wp 4 16 ls [.int v] I J R S Q = Q 0 (some (.int v)) I J R S := o_ireturn k_L_setStick_16 rfl
theorem k_L_setStick_17 : decode (sk_by 4) 17 = .ok (.iconst 0, 1) := by decide +kernel
theorem x_L_setStick_17 {ls st : List Value} {I : MI} {J : MJ} {R : MR} {S : Sh} {Q : SkQ} : Wp 4 17 ls st I J R S Q = Wp 4 18 ls (.int 0 :: st) I J R S Q := o_const (by decide) k_L_setStick_17
theorem k_L_setStick_18 : decode (sk_by 4) 18 = .ok (.ireturn, 1) := by decide +kernel
theorem x_L_setStick_18 {ls : List Value} {v : Int32} {I : MI} {J : MJ} {R : MR} {S : Sh} {Q : SkQ} : Wp 4 18 ls [.int v] I J R S Q = Q 0 (some (.int v)) I J R S := o_ireturn k_L_setStick_18 rfl
theorem k_L_set_0 : decode (sk_by 5) 0 = .ok (.aload_n 3, 1) := by decide +kernel
theorem x_L_set_0 {st : List Value} {l0 : Nat} {l1 : Int32} {l2 : Int32} {x : Nat} {I : MI} {J : MJ} {R : MR} {S : Sh} {Q : SkQ} : Wp 5 0 [.ref l0, .int l1, .int l2, .ref x, nov] st I J R S Q = Wp 5 1 [.ref l0, .int l1, .int l2, .ref x, nov] (.ref x :: st) I J R S Q := o_aload_n rfl k_L_set_0
theorem k_L_set_1 : decode (sk_by 5) 1 = .ok (.iconst 0, 1) := by decide +kernel
theorem x_L_set_1 {ls st : List Value} {I : MI} {J : MJ} {R : MR} {S : Sh} {Q : SkQ} : Wp 5 1 ls st I J R S Q = Wp 5 2 ls (.int 0 :: st) I J R S Q := o_const (by decide) k_L_set_1
theorem k_L_set_2 : decode (sk_by 5) 2 = .ok (.aload_n 0, 1) := by decide +kernel
theorem x_L_set_2 {st : List Value} {l1 : Int32} {l2 : Int32} {l3 : Nat} {x : Nat} {I : MI} {J : MJ} {R : MR} {S : Sh} {Q : SkQ} : Wp 5 2 [.ref x, .int l1, .int l2, .ref l3, nov] st I J R S Q = Wp 5 3 [.ref x, .int l1, .int l2, .ref l3, nov] (.ref x :: st) I J R S Q := o_aload_n rfl k_L_set_2
theorem k_L_set_3 : decode (sk_by 5) 3 = .ok (.iload_n 1, 1) := by decide +kernel
theorem x_L_set_3 {st : List Value} {l0 : Nat} {l2 : Int32} {l3 : Nat} {x : Int32} {I : MI} {J : MJ} {R : MR} {S : Sh} {Q : SkQ} : Wp 5 3 [.ref l0, .int x, .int l2, .ref l3, nov] st I J R S Q = Wp 5 4 [.ref l0, .int x, .int l2, .ref l3, nov] (.int x :: st) I J R S Q := o_iload_n rfl k_L_set_3
theorem k_L_set_4 : decode (sk_by 5) 4 = .ok (.iload_n 2, 1) := by decide +kernel
theorem x_L_set_4 {st : List Value} {l0 : Nat} {l1 : Int32} {l3 : Nat} {x : Int32} {I : MI} {J : MJ} {R : MR} {S : Sh} {Q : SkQ} : Wp 5 4 [.ref l0, .int l1, .int x, .ref l3, nov] st I J R S Q = Wp 5 5 [.ref l0, .int l1, .int x, .ref l3, nov] (.int x :: st) I J R S Q := o_iload_n rfl k_L_set_4
theorem k_L_set_5 : decode (sk_by 5) 5 = .ok (.invokevirtual 31, 3) := by decide +kernel
theorem x_L_set_5 {ls : List Value} {a0 : Nat} {a1 : Int32} {a2 : Int32} {s0 : Int32} {s1 : Nat} {I : MI} {J : MJ} {R : MR} {S : Sh} {Q : SkQ} (ha : S.1 a0 = 7) : Wp 5 5 ls (.int a2 :: .int a1 :: .ref a0 :: [.int s0, .ref s1]) I J R S Q = Wp 30 0 [.ref a0, .int a1, .int a2] [] I J R S (Ret 5 5 8 30 ls [.int s0, .ref s1] Q) := o_call (as := [.ref a0, .int a1, .int a2]) (rest := [.int s0, .ref s1]) (show sk_lkM (sk_cl 5) 31 = some 30 by decide +kernel) (by decide) (by decide) (by (decide +kernel)) (ins := .invokevirtual 31) (by (decide +kernel)) k_L_set_5 rfl (show 3 = sk_na 30 by (decide +kernel)) (Nat.le_of_ble_eq_true rfl) (Nat.le_trans (show (argL [.ref a0, .int a1, .int a2]).length ≤ 3 from Nat.le_of_ble_eq_true rfl) (by (decide +kernel))) (rcv_of (by (decide +kernel)) (by decide) ha)
theorem k_L_set_8 : decode (sk_by 5) 8 = .ok (.i2l, 1) := by decide +kernel
theorem x_L_set_8 {ls st : List Value} {x : Int32} {I : MI} {J : MJ} {R : MR} {S : Sh} {Q : SkQ} : Wp 5 8 ls (.int x :: st) I J R S Q = Wp 5 9 ls (.long x.toInt64 :: st) I J R S Q := o_i2l k_L_set_8
theorem k_L_set_9 : decode (sk_by 5) 9 = .ok (.lastore, 1) := by decide +kernel
theorem x_L_set_9 {ls st : List Value} {a : Nat} {i : Int32} {x : Int64} {I : MI} {J : MJ} {R : MR} {S : Sh} {Q : SkQ} (ha : S.1 a = 31) (hi : inb i (S.2.1 a) = true) : Wp 5 9 ls (.long x :: .int i :: .ref a :: st) I J R S Q = Wp 5 10 ls st I (u2 J a (ix i) x) R S Q := o_lastore k_L_set_9 ha hi
theorem k_L_set_10 : decode (sk_by 5) 10 = .ok (.goto 7, 3) := by decide +kernel
theorem x_L_set_10 {ls st : List Value} {I : MI} {J : MJ} {R : MR} {S : Sh} {Q : SkQ} : Wp 5 10 ls st I J R S Q = Wp 5 17 ls st I J R S Q := o_goto rfl rfl k_L_set_10
theorem k_L_set_15 : decode (sk_by 5) 15 = .ok (.iconst 1, 1) := by decide +kernel
theorem x_L_set_15 {ls st : List Value} {I : MI} {J : MJ} {R : MR} {S : Sh} {Q : SkQ} : Wp 5 15 ls st I J R S Q = Wp 5 16 ls (.int 1 :: st) I J R S Q := o_const (by decide) k_L_set_15
theorem k_L_set_16 : decode (sk_by 5) 16 = .ok (.ireturn, 1) := by decide +kernel
theorem x_L_set_16 {ls : List Value} {v : Int32} {I : MI} {J : MJ} {R : MR} {S : Sh} {Q : SkQ} : Wp 5 16 ls [.int v] I J R S Q = Q 0 (some (.int v)) I J R S := o_ireturn k_L_set_16 rfl
theorem k_L_set_17 : decode (sk_by 5) 17 = .ok (.iconst 0, 1) := by decide +kernel
theorem x_L_set_17 {ls st : List Value} {I : MI} {J : MJ} {R : MR} {S : Sh} {Q : SkQ} : Wp 5 17 ls st I J R S Q = Wp 5 18 ls (.int 0 :: st) I J R S Q := o_const (by decide) k_L_set_17
theorem k_L_set_18 : decode (sk_by 5) 18 = .ok (.ireturn, 1) := by decide +kernel
theorem x_L_set_18 {ls : List Value} {v : Int32} {I : MI} {J : MJ} {R : MR} {S : Sh} {Q : SkQ} : Wp 5 18 ls [.int v] I J R S Q = Q 0 (some (.int v)) I J R S := o_ireturn k_L_set_18 rfl
theorem k_L_correct_0 : decode (sk_by 6) 0 = .ok (.aload_n 3, 1) := by decide +kernel
theorem x_L_correct_0 {st : List Value} {l0 : Nat} {l1 : Int64} {x : Nat} {I : MI} {J : MJ} {R : MR} {S : Sh} {Q : SkQ} : Wp 6 0 [.ref l0, .long l1, nov, .ref x, nov] st I J R S Q = Wp 6 1 [.ref l0, .long l1, nov, .ref x, nov] (.ref x :: st) I J R S Q := o_aload_n rfl k_L_correct_0
theorem k_L_correct_1 : decode (sk_by 6) 1 = .ok (.iconst 0, 1) := by decide +kernel
theorem x_L_correct_1 {ls st : List Value} {I : MI} {J : MJ} {R : MR} {S : Sh} {Q : SkQ} : Wp 6 1 ls st I J R S Q = Wp 6 2 ls (.int 0 :: st) I J R S Q := o_const (by decide) k_L_correct_1
theorem k_L_correct_2 : decode (sk_by 6) 2 = .ok (.aload_n 0, 1) := by decide +kernel
theorem x_L_correct_2 {st : List Value} {l1 : Int64} {l3 : Nat} {x : Nat} {I : MI} {J : MJ} {R : MR} {S : Sh} {Q : SkQ} : Wp 6 2 [.ref x, .long l1, nov, .ref l3, nov] st I J R S Q = Wp 6 3 [.ref x, .long l1, nov, .ref l3, nov] (.ref x :: st) I J R S Q := o_aload_n rfl k_L_correct_2
theorem k_L_correct_3 : decode (sk_by 6) 3 = .ok (.lload_n 1, 1) := by decide +kernel
theorem x_L_correct_3 {st : List Value} {l0 : Nat} {l3 : Nat} {x : Int64} {I : MI} {J : MJ} {R : MR} {S : Sh} {Q : SkQ} : Wp 6 3 [.ref l0, .long x, nov, .ref l3, nov] st I J R S Q = Wp 6 4 [.ref l0, .long x, nov, .ref l3, nov] (.long x :: st) I J R S Q := o_lload_n rfl k_L_correct_3
theorem k_L_correct_4 : decode (sk_by 6) 4 = .ok (.invokevirtual 34, 3) := by decide +kernel
theorem x_L_correct_4 {ls : List Value} {a0 : Nat} {a1 : Int64} {s0 : Int32} {s1 : Nat} {I : MI} {J : MJ} {R : MR} {S : Sh} {Q : SkQ} (ha : S.1 a0 = 7) : Wp 6 4 ls (.long a1 :: .ref a0 :: [.int s0, .ref s1]) I J R S Q = Wp 31 0 [.ref a0, .long a1, nov] [] I J R S (Ret 6 4 7 31 ls [.int s0, .ref s1] Q) := o_call (as := [.ref a0, .long a1]) (rest := [.int s0, .ref s1]) (show sk_lkM (sk_cl 6) 34 = some 31 by decide +kernel) (by decide) (by decide) (by (decide +kernel)) (ins := .invokevirtual 34) (by (decide +kernel)) k_L_correct_4 rfl (show 2 = sk_na 31 by (decide +kernel)) (Nat.le_of_ble_eq_true rfl) (Nat.le_trans (show (argL [.ref a0, .long a1]).length ≤ 3 from Nat.le_of_ble_eq_true rfl) (by (decide +kernel))) (rcv_of (by (decide +kernel)) (by decide) ha)
theorem k_L_correct_7 : decode (sk_by 6) 7 = .ok (.lastore, 1) := by decide +kernel
theorem x_L_correct_7 {ls st : List Value} {a : Nat} {i : Int32} {x : Int64} {I : MI} {J : MJ} {R : MR} {S : Sh} {Q : SkQ} (ha : S.1 a = 31) (hi : inb i (S.2.1 a) = true) : Wp 6 7 ls (.long x :: .int i :: .ref a :: st) I J R S Q = Wp 6 8 ls st I (u2 J a (ix i) x) R S Q := o_lastore k_L_correct_7 ha hi
theorem k_L_correct_8 : decode (sk_by 6) 8 = .ok (.goto 7, 3) := by decide +kernel
theorem x_L_correct_8 {ls st : List Value} {I : MI} {J : MJ} {R : MR} {S : Sh} {Q : SkQ} : Wp 6 8 ls st I J R S Q = Wp 6 15 ls st I J R S Q := o_goto rfl rfl k_L_correct_8
theorem k_L_correct_13 : decode (sk_by 6) 13 = .ok (.iconst 1, 1) := by decide +kernel
theorem x_L_correct_13 {ls st : List Value} {I : MI} {J : MJ} {R : MR} {S : Sh} {Q : SkQ} : Wp 6 13 ls st I J R S Q = Wp 6 14 ls (.int 1 :: st) I J R S Q := o_const (by decide) k_L_correct_13
theorem k_L_correct_14 : decode (sk_by 6) 14 = .ok (.ireturn, 1) := by decide +kernel
theorem x_L_correct_14 {ls : List Value} {v : Int32} {I : MI} {J : MJ} {R : MR} {S : Sh} {Q : SkQ} : Wp 6 14 ls [.int v] I J R S Q = Q 0 (some (.int v)) I J R S := o_ireturn k_L_correct_14 rfl
theorem k_L_correct_15 : decode (sk_by 6) 15 = .ok (.iconst 0, 1) := by decide +kernel
theorem x_L_correct_15 {ls st : List Value} {I : MI} {J : MJ} {R : MR} {S : Sh} {Q : SkQ} : Wp 6 15 ls st I J R S Q = Wp 6 16 ls (.int 0 :: st) I J R S Q := o_const (by decide) k_L_correct_15
theorem k_L_correct_16 : decode (sk_by 6) 16 = .ok (.ireturn, 1) := by decide +kernel
theorem x_L_correct_16 {ls : List Value} {v : Int32} {I : MI} {J : MJ} {R : MR} {S : Sh} {Q : SkQ} : Wp 6 16 ls [.int v] I J R S Q = Q 0 (some (.int v)) I J R S := o_ireturn k_L_correct_16 rfl
theorem k_L_takeBack_0 : decode (sk_by 7) 0 = .ok (.aload_n 1, 1) := by decide +kernel
theorem x_L_takeBack_0 {st : List Value} {l0 : Nat} {x : Nat} {I : MI} {J : MJ} {R : MR} {S : Sh} {Q : SkQ} : Wp 7 0 [.ref l0, .ref x, nov] st I J R S Q = Wp 7 1 [.ref l0, .ref x, nov] (.ref x :: st) I J R S Q := o_aload_n rfl k_L_takeBack_0
theorem k_L_takeBack_1 : decode (sk_by 7) 1 = .ok (.iconst 0, 1) := by decide +kernel
theorem x_L_takeBack_1 {ls st : List Value} {I : MI} {J : MJ} {R : MR} {S : Sh} {Q : SkQ} : Wp 7 1 ls st I J R S Q = Wp 7 2 ls (.int 0 :: st) I J R S Q := o_const (by decide) k_L_takeBack_1
theorem k_L_takeBack_2 : decode (sk_by 7) 2 = .ok (.aload_n 0, 1) := by decide +kernel
theorem x_L_takeBack_2 {st : List Value} {l1 : Nat} {x : Nat} {I : MI} {J : MJ} {R : MR} {S : Sh} {Q : SkQ} : Wp 7 2 [.ref x, .ref l1, nov] st I J R S Q = Wp 7 3 [.ref x, .ref l1, nov] (.ref x :: st) I J R S Q := o_aload_n rfl k_L_takeBack_2
theorem k_L_takeBack_3 : decode (sk_by 7) 3 = .ok (.invokevirtual 38, 3) := by decide +kernel
theorem x_L_takeBack_3 {ls : List Value} {a0 : Nat} {s0 : Int32} {s1 : Nat} {I : MI} {J : MJ} {R : MR} {S : Sh} {Q : SkQ} (ha : S.1 a0 = 7) : Wp 7 3 ls (.ref a0 :: [.int s0, .ref s1]) I J R S Q = Wp 32 0 [.ref a0] [] I J R S (Ret 7 3 6 32 ls [.int s0, .ref s1] Q) := o_call (as := [.ref a0]) (rest := [.int s0, .ref s1]) (show sk_lkM (sk_cl 7) 38 = some 32 by decide +kernel) (by decide) (by decide) (by (decide +kernel)) (ins := .invokevirtual 38) (by (decide +kernel)) k_L_takeBack_3 rfl (show 1 = sk_na 32 by (decide +kernel)) (Nat.le_of_ble_eq_true rfl) (Nat.le_trans (show (argL [.ref a0]).length ≤ 1 from Nat.le_of_ble_eq_true rfl) (by (decide +kernel))) (rcv_of (by (decide +kernel)) (by decide) ha)
theorem k_L_takeBack_6 : decode (sk_by 7) 6 = .ok (.lastore, 1) := by decide +kernel
theorem x_L_takeBack_6 {ls st : List Value} {a : Nat} {i : Int32} {x : Int64} {I : MI} {J : MJ} {R : MR} {S : Sh} {Q : SkQ} (ha : S.1 a = 31) (hi : inb i (S.2.1 a) = true) : Wp 7 6 ls (.long x :: .int i :: .ref a :: st) I J R S Q = Wp 7 7 ls st I (u2 J a (ix i) x) R S Q := o_lastore k_L_takeBack_6 ha hi
theorem k_L_takeBack_7 : decode (sk_by 7) 7 = .ok (.goto 6, 3) := by decide +kernel
theorem x_L_takeBack_7 {ls st : List Value} {I : MI} {J : MJ} {R : MR} {S : Sh} {Q : SkQ} : Wp 7 7 ls st I J R S Q = Wp 7 13 ls st I J R S Q := o_goto rfl rfl k_L_takeBack_7
theorem k_L_takeBack_11 : decode (sk_by 7) 11 = .ok (.iconst 1, 1) := by decide +kernel
theorem x_L_takeBack_11 {ls st : List Value} {I : MI} {J : MJ} {R : MR} {S : Sh} {Q : SkQ} : Wp 7 11 ls st I J R S Q = Wp 7 12 ls (.int 1 :: st) I J R S Q := o_const (by decide) k_L_takeBack_11
theorem k_L_takeBack_12 : decode (sk_by 7) 12 = .ok (.ireturn, 1) := by decide +kernel
theorem x_L_takeBack_12 {ls : List Value} {v : Int32} {I : MI} {J : MJ} {R : MR} {S : Sh} {Q : SkQ} : Wp 7 12 ls [.int v] I J R S Q = Q 0 (some (.int v)) I J R S := o_ireturn k_L_takeBack_12 rfl
theorem k_L_takeBack_13 : decode (sk_by 7) 13 = .ok (.iconst 0, 1) := by decide +kernel
theorem x_L_takeBack_13 {ls st : List Value} {I : MI} {J : MJ} {R : MR} {S : Sh} {Q : SkQ} : Wp 7 13 ls st I J R S Q = Wp 7 14 ls (.int 0 :: st) I J R S Q := o_const (by decide) k_L_takeBack_13
theorem k_L_takeBack_14 : decode (sk_by 7) 14 = .ok (.ireturn, 1) := by decide +kernel
theorem x_L_takeBack_14 {ls : List Value} {v : Int32} {I : MI} {J : MJ} {R : MR} {S : Sh} {Q : SkQ} : Wp 7 14 ls [.int v] I J R S Q = Q 0 (some (.int v)) I J R S := o_ireturn k_L_takeBack_14 rfl
theorem k_L_allow_0 : decode (sk_by 8) 0 = .ok (.aload 5, 2) := by decide +kernel
theorem x_L_allow_0 {st : List Value} {l0 : Nat} {l1 : Int64} {l3 : Int64} {x : Nat} {I : MI} {J : MJ} {R : MR} {S : Sh} {Q : SkQ} : Wp 8 0 [.ref l0, .long l1, nov, .long l3, nov, .ref x, nov] st I J R S Q = Wp 8 2 [.ref l0, .long l1, nov, .long l3, nov, .ref x, nov] (.ref x :: st) I J R S Q := o_aload rfl k_L_allow_0
theorem k_L_allow_2 : decode (sk_by 8) 2 = .ok (.iconst 0, 1) := by decide +kernel
theorem x_L_allow_2 {ls st : List Value} {I : MI} {J : MJ} {R : MR} {S : Sh} {Q : SkQ} : Wp 8 2 ls st I J R S Q = Wp 8 3 ls (.int 0 :: st) I J R S Q := o_const (by decide) k_L_allow_2
theorem k_L_allow_3 : decode (sk_by 8) 3 = .ok (.aload_n 0, 1) := by decide +kernel
theorem x_L_allow_3 {st : List Value} {l1 : Int64} {l3 : Int64} {l5 : Nat} {x : Nat} {I : MI} {J : MJ} {R : MR} {S : Sh} {Q : SkQ} : Wp 8 3 [.ref x, .long l1, nov, .long l3, nov, .ref l5, nov] st I J R S Q = Wp 8 4 [.ref x, .long l1, nov, .long l3, nov, .ref l5, nov] (.ref x :: st) I J R S Q := o_aload_n rfl k_L_allow_3
theorem k_L_allow_4 : decode (sk_by 8) 4 = .ok (.lload_n 1, 1) := by decide +kernel
theorem x_L_allow_4 {st : List Value} {l0 : Nat} {l3 : Int64} {l5 : Nat} {x : Int64} {I : MI} {J : MJ} {R : MR} {S : Sh} {Q : SkQ} : Wp 8 4 [.ref l0, .long x, nov, .long l3, nov, .ref l5, nov] st I J R S Q = Wp 8 5 [.ref l0, .long x, nov, .long l3, nov, .ref l5, nov] (.long x :: st) I J R S Q := o_lload_n rfl k_L_allow_4
theorem k_L_allow_5 : decode (sk_by 8) 5 = .ok (.lload_n 3, 1) := by decide +kernel
theorem x_L_allow_5 {st : List Value} {l0 : Nat} {l1 : Int64} {l5 : Nat} {x : Int64} {I : MI} {J : MJ} {R : MR} {S : Sh} {Q : SkQ} : Wp 8 5 [.ref l0, .long l1, nov, .long x, nov, .ref l5, nov] st I J R S Q = Wp 8 6 [.ref l0, .long l1, nov, .long x, nov, .ref l5, nov] (.long x :: st) I J R S Q := o_lload_n rfl k_L_allow_5
theorem k_L_allow_6 : decode (sk_by 8) 6 = .ok (.invokevirtual 42, 3) := by decide +kernel
theorem x_L_allow_6 {ls : List Value} {a0 : Nat} {a1 : Int64} {a2 : Int64} {s0 : Int32} {s1 : Nat} {I : MI} {J : MJ} {R : MR} {S : Sh} {Q : SkQ} (ha : S.1 a0 = 7) : Wp 8 6 ls (.long a2 :: .long a1 :: .ref a0 :: [.int s0, .ref s1]) I J R S Q = Wp 33 0 [.ref a0, .long a1, nov, .long a2, nov] [] I J R S (Ret 8 6 9 33 ls [.int s0, .ref s1] Q) := o_call (as := [.ref a0, .long a1, .long a2]) (rest := [.int s0, .ref s1]) (show sk_lkM (sk_cl 8) 42 = some 33 by decide +kernel) (by decide) (by decide) (by (decide +kernel)) (ins := .invokevirtual 42) (by (decide +kernel)) k_L_allow_6 rfl (show 3 = sk_na 33 by (decide +kernel)) (Nat.le_of_ble_eq_true rfl) (Nat.le_trans (show (argL [.ref a0, .long a1, .long a2]).length ≤ 5 from Nat.le_of_ble_eq_true rfl) (by (decide +kernel))) (rcv_of (by (decide +kernel)) (by decide) ha)
theorem k_L_allow_9 : decode (sk_by 8) 9 = .ok (.i2l, 1) := by decide +kernel
theorem x_L_allow_9 {ls st : List Value} {x : Int32} {I : MI} {J : MJ} {R : MR} {S : Sh} {Q : SkQ} : Wp 8 9 ls (.int x :: st) I J R S Q = Wp 8 10 ls (.long x.toInt64 :: st) I J R S Q := o_i2l k_L_allow_9
theorem k_L_allow_10 : decode (sk_by 8) 10 = .ok (.lastore, 1) := by decide +kernel
theorem x_L_allow_10 {ls st : List Value} {a : Nat} {i : Int32} {x : Int64} {I : MI} {J : MJ} {R : MR} {S : Sh} {Q : SkQ} (ha : S.1 a = 31) (hi : inb i (S.2.1 a) = true) : Wp 8 10 ls (.long x :: .int i :: .ref a :: st) I J R S Q = Wp 8 11 ls st I (u2 J a (ix i) x) R S Q := o_lastore k_L_allow_10 ha hi
theorem k_L_allow_11 : decode (sk_by 8) 11 = .ok (.goto 7, 3) := by decide +kernel
theorem x_L_allow_11 {ls st : List Value} {I : MI} {J : MJ} {R : MR} {S : Sh} {Q : SkQ} : Wp 8 11 ls st I J R S Q = Wp 8 18 ls st I J R S Q := o_goto rfl rfl k_L_allow_11
theorem k_L_allow_16 : decode (sk_by 8) 16 = .ok (.iconst 1, 1) := by decide +kernel
theorem x_L_allow_16 {ls st : List Value} {I : MI} {J : MJ} {R : MR} {S : Sh} {Q : SkQ} : Wp 8 16 ls st I J R S Q = Wp 8 17 ls (.int 1 :: st) I J R S Q := o_const (by decide) k_L_allow_16
theorem k_L_allow_17 : decode (sk_by 8) 17 = .ok (.ireturn, 1) := by decide +kernel
theorem x_L_allow_17 {ls : List Value} {v : Int32} {I : MI} {J : MJ} {R : MR} {S : Sh} {Q : SkQ} : Wp 8 17 ls [.int v] I J R S Q = Q 0 (some (.int v)) I J R S := o_ireturn k_L_allow_17 rfl
theorem k_L_allow_18 : decode (sk_by 8) 18 = .ok (.iconst 0, 1) := by decide +kernel
theorem x_L_allow_18 {ls st : List Value} {I : MI} {J : MJ} {R : MR} {S : Sh} {Q : SkQ} : Wp 8 18 ls st I J R S Q = Wp 8 19 ls (.int 0 :: st) I J R S Q := o_const (by decide) k_L_allow_18
theorem k_L_allow_19 : decode (sk_by 8) 19 = .ok (.ireturn, 1) := by decide +kernel
theorem x_L_allow_19 {ls : List Value} {v : Int32} {I : MI} {J : MJ} {R : MR} {S : Sh} {Q : SkQ} : Wp 8 19 ls [.int v] I J R S Q = Q 0 (some (.int v)) I J R S := o_ireturn k_L_allow_19 rfl
theorem k_L_word_0 : decode (sk_by 9) 0 = .ok (.aload 4, 2) := by decide +kernel
theorem x_L_word_0 {st : List Value} {l0 : Nat} {l1 : Int64} {l3 : Int32} {x : Nat} {I : MI} {J : MJ} {R : MR} {S : Sh} {Q : SkQ} : Wp 9 0 [.ref l0, .long l1, nov, .int l3, .ref x, nov] st I J R S Q = Wp 9 2 [.ref l0, .long l1, nov, .int l3, .ref x, nov] (.ref x :: st) I J R S Q := o_aload rfl k_L_word_0
theorem k_L_word_2 : decode (sk_by 9) 2 = .ok (.iconst 0, 1) := by decide +kernel
theorem x_L_word_2 {ls st : List Value} {I : MI} {J : MJ} {R : MR} {S : Sh} {Q : SkQ} : Wp 9 2 ls st I J R S Q = Wp 9 3 ls (.int 0 :: st) I J R S Q := o_const (by decide) k_L_word_2
theorem k_L_word_3 : decode (sk_by 9) 3 = .ok (.aload_n 0, 1) := by decide +kernel
theorem x_L_word_3 {st : List Value} {l1 : Int64} {l3 : Int32} {l4 : Nat} {x : Nat} {I : MI} {J : MJ} {R : MR} {S : Sh} {Q : SkQ} : Wp 9 3 [.ref x, .long l1, nov, .int l3, .ref l4, nov] st I J R S Q = Wp 9 4 [.ref x, .long l1, nov, .int l3, .ref l4, nov] (.ref x :: st) I J R S Q := o_aload_n rfl k_L_word_3
theorem k_L_word_4 : decode (sk_by 9) 4 = .ok (.lload_n 1, 1) := by decide +kernel
theorem x_L_word_4 {st : List Value} {l0 : Nat} {l3 : Int32} {l4 : Nat} {x : Int64} {I : MI} {J : MJ} {R : MR} {S : Sh} {Q : SkQ} : Wp 9 4 [.ref l0, .long x, nov, .int l3, .ref l4, nov] st I J R S Q = Wp 9 5 [.ref l0, .long x, nov, .int l3, .ref l4, nov] (.long x :: st) I J R S Q := o_lload_n rfl k_L_word_4
theorem k_L_word_5 : decode (sk_by 9) 5 = .ok (.iload_n 3, 1) := by decide +kernel
theorem x_L_word_5 {st : List Value} {l0 : Nat} {l1 : Int64} {l4 : Nat} {x : Int32} {I : MI} {J : MJ} {R : MR} {S : Sh} {Q : SkQ} : Wp 9 5 [.ref l0, .long l1, nov, .int x, .ref l4, nov] st I J R S Q = Wp 9 6 [.ref l0, .long l1, nov, .int x, .ref l4, nov] (.int x :: st) I J R S Q := o_iload_n rfl k_L_word_5
theorem k_L_word_6 : decode (sk_by 9) 6 = .ok (.invokevirtual 46, 3) := by decide +kernel
theorem x_L_word_6 {ls : List Value} {a0 : Nat} {a1 : Int64} {a2 : Int32} {s0 : Int32} {s1 : Nat} {I : MI} {J : MJ} {R : MR} {S : Sh} {Q : SkQ} (ha : S.1 a0 = 7) : Wp 9 6 ls (.int a2 :: .long a1 :: .ref a0 :: [.int s0, .ref s1]) I J R S Q = Wp 34 0 [.ref a0, .long a1, nov, .int a2] [] I J R S (Ret 9 6 9 34 ls [.int s0, .ref s1] Q) := o_call (as := [.ref a0, .long a1, .int a2]) (rest := [.int s0, .ref s1]) (show sk_lkM (sk_cl 9) 46 = some 34 by decide +kernel) (by decide) (by decide) (by (decide +kernel)) (ins := .invokevirtual 46) (by (decide +kernel)) k_L_word_6 rfl (show 3 = sk_na 34 by (decide +kernel)) (Nat.le_of_ble_eq_true rfl) (Nat.le_trans (show (argL [.ref a0, .long a1, .int a2]).length ≤ 4 from Nat.le_of_ble_eq_true rfl) (by (decide +kernel))) (rcv_of (by (decide +kernel)) (by decide) ha)
theorem k_L_word_9 : decode (sk_by 9) 9 = .ok (.i2l, 1) := by decide +kernel
theorem x_L_word_9 {ls st : List Value} {x : Int32} {I : MI} {J : MJ} {R : MR} {S : Sh} {Q : SkQ} : Wp 9 9 ls (.int x :: st) I J R S Q = Wp 9 10 ls (.long x.toInt64 :: st) I J R S Q := o_i2l k_L_word_9
theorem k_L_word_10 : decode (sk_by 9) 10 = .ok (.lastore, 1) := by decide +kernel
theorem x_L_word_10 {ls st : List Value} {a : Nat} {i : Int32} {x : Int64} {I : MI} {J : MJ} {R : MR} {S : Sh} {Q : SkQ} (ha : S.1 a = 31) (hi : inb i (S.2.1 a) = true) : Wp 9 10 ls (.long x :: .int i :: .ref a :: st) I J R S Q = Wp 9 11 ls st I (u2 J a (ix i) x) R S Q := o_lastore k_L_word_10 ha hi
theorem k_L_word_11 : decode (sk_by 9) 11 = .ok (.goto 7, 3) := by decide +kernel
theorem x_L_word_11 {ls st : List Value} {I : MI} {J : MJ} {R : MR} {S : Sh} {Q : SkQ} : Wp 9 11 ls st I J R S Q = Wp 9 18 ls st I J R S Q := o_goto rfl rfl k_L_word_11
theorem k_L_word_16 : decode (sk_by 9) 16 = .ok (.iconst 1, 1) := by decide +kernel
theorem x_L_word_16 {ls st : List Value} {I : MI} {J : MJ} {R : MR} {S : Sh} {Q : SkQ} : Wp 9 16 ls st I J R S Q = Wp 9 17 ls (.int 1 :: st) I J R S Q := o_const (by decide) k_L_word_16
theorem k_L_word_17 : decode (sk_by 9) 17 = .ok (.ireturn, 1) := by decide +kernel
theorem x_L_word_17 {ls : List Value} {v : Int32} {I : MI} {J : MJ} {R : MR} {S : Sh} {Q : SkQ} : Wp 9 17 ls [.int v] I J R S Q = Q 0 (some (.int v)) I J R S := o_ireturn k_L_word_17 rfl
theorem k_L_word_18 : decode (sk_by 9) 18 = .ok (.iconst 0, 1) := by decide +kernel
theorem x_L_word_18 {ls st : List Value} {I : MI} {J : MJ} {R : MR} {S : Sh} {Q : SkQ} : Wp 9 18 ls st I J R S Q = Wp 9 19 ls (.int 0 :: st) I J R S Q := o_const (by decide) k_L_word_18
theorem k_L_word_19 : decode (sk_by 9) 19 = .ok (.ireturn, 1) := by decide +kernel
theorem x_L_word_19 {ls : List Value} {v : Int32} {I : MI} {J : MJ} {R : MR} {S : Sh} {Q : SkQ} : Wp 9 19 ls [.int v] I J R S Q = Q 0 (some (.int v)) I J R S := o_ireturn k_L_word_19 rfl
theorem k_L_listed_0 : decode (sk_by 10) 0 = .ok (.aload_n 3, 1) := by decide +kernel
theorem x_L_listed_0 {st : List Value} {l0 : Nat} {l1 : Int32} {l2 : Int32} {x : Nat} {I : MI} {J : MJ} {R : MR} {S : Sh} {Q : SkQ} : Wp 10 0 [.ref l0, .int l1, .int l2, .ref x, nov] st I J R S Q = Wp 10 1 [.ref l0, .int l1, .int l2, .ref x, nov] (.ref x :: st) I J R S Q := o_aload_n rfl k_L_listed_0
theorem k_L_listed_1 : decode (sk_by 10) 1 = .ok (.iconst 0, 1) := by decide +kernel
theorem x_L_listed_1 {ls st : List Value} {I : MI} {J : MJ} {R : MR} {S : Sh} {Q : SkQ} : Wp 10 1 ls st I J R S Q = Wp 10 2 ls (.int 0 :: st) I J R S Q := o_const (by decide) k_L_listed_1
theorem k_L_listed_2 : decode (sk_by 10) 2 = .ok (.aload_n 0, 1) := by decide +kernel
theorem x_L_listed_2 {st : List Value} {l1 : Int32} {l2 : Int32} {l3 : Nat} {x : Nat} {I : MI} {J : MJ} {R : MR} {S : Sh} {Q : SkQ} : Wp 10 2 [.ref x, .int l1, .int l2, .ref l3, nov] st I J R S Q = Wp 10 3 [.ref x, .int l1, .int l2, .ref l3, nov] (.ref x :: st) I J R S Q := o_aload_n rfl k_L_listed_2
theorem k_L_listed_3 : decode (sk_by 10) 3 = .ok (.iload_n 1, 1) := by decide +kernel
theorem x_L_listed_3 {st : List Value} {l0 : Nat} {l2 : Int32} {l3 : Nat} {x : Int32} {I : MI} {J : MJ} {R : MR} {S : Sh} {Q : SkQ} : Wp 10 3 [.ref l0, .int x, .int l2, .ref l3, nov] st I J R S Q = Wp 10 4 [.ref l0, .int x, .int l2, .ref l3, nov] (.int x :: st) I J R S Q := o_iload_n rfl k_L_listed_3
theorem k_L_listed_4 : decode (sk_by 10) 4 = .ok (.iload_n 2, 1) := by decide +kernel
theorem x_L_listed_4 {st : List Value} {l0 : Nat} {l1 : Int32} {l3 : Nat} {x : Int32} {I : MI} {J : MJ} {R : MR} {S : Sh} {Q : SkQ} : Wp 10 4 [.ref l0, .int l1, .int x, .ref l3, nov] st I J R S Q = Wp 10 5 [.ref l0, .int l1, .int x, .ref l3, nov] (.int x :: st) I J R S Q := o_iload_n rfl k_L_listed_4
theorem k_L_listed_5 : decode (sk_by 10) 5 = .ok (.invokevirtual 49, 3) := by decide +kernel
theorem x_L_listed_5 {ls : List Value} {a0 : Nat} {a1 : Int32} {a2 : Int32} {s0 : Int32} {s1 : Nat} {I : MI} {J : MJ} {R : MR} {S : Sh} {Q : SkQ} (ha : S.1 a0 = 7) : Wp 10 5 ls (.int a2 :: .int a1 :: .ref a0 :: [.int s0, .ref s1]) I J R S Q = Wp 35 0 [.ref a0, .int a1, .int a2] [] I J R S (Ret 10 5 8 35 ls [.int s0, .ref s1] Q) := o_call (as := [.ref a0, .int a1, .int a2]) (rest := [.int s0, .ref s1]) (show sk_lkM (sk_cl 10) 49 = some 35 by decide +kernel) (by decide) (by decide) (by (decide +kernel)) (ins := .invokevirtual 49) (by (decide +kernel)) k_L_listed_5 rfl (show 3 = sk_na 35 by (decide +kernel)) (Nat.le_of_ble_eq_true rfl) (Nat.le_trans (show (argL [.ref a0, .int a1, .int a2]).length ≤ 3 from Nat.le_of_ble_eq_true rfl) (by (decide +kernel))) (rcv_of (by (decide +kernel)) (by decide) ha)
theorem k_L_listed_8 : decode (sk_by 10) 8 = .ok (.lastore, 1) := by decide +kernel
theorem x_L_listed_8 {ls st : List Value} {a : Nat} {i : Int32} {x : Int64} {I : MI} {J : MJ} {R : MR} {S : Sh} {Q : SkQ} (ha : S.1 a = 31) (hi : inb i (S.2.1 a) = true) : Wp 10 8 ls (.long x :: .int i :: .ref a :: st) I J R S Q = Wp 10 9 ls st I (u2 J a (ix i) x) R S Q := o_lastore k_L_listed_8 ha hi
theorem k_L_listed_9 : decode (sk_by 10) 9 = .ok (.goto 7, 3) := by decide +kernel
theorem x_L_listed_9 {ls st : List Value} {I : MI} {J : MJ} {R : MR} {S : Sh} {Q : SkQ} : Wp 10 9 ls st I J R S Q = Wp 10 16 ls st I J R S Q := o_goto rfl rfl k_L_listed_9
theorem k_L_listed_14 : decode (sk_by 10) 14 = .ok (.iconst 1, 1) := by decide +kernel
theorem x_L_listed_14 {ls st : List Value} {I : MI} {J : MJ} {R : MR} {S : Sh} {Q : SkQ} : Wp 10 14 ls st I J R S Q = Wp 10 15 ls (.int 1 :: st) I J R S Q := o_const (by decide) k_L_listed_14
theorem k_L_listed_15 : decode (sk_by 10) 15 = .ok (.ireturn, 1) := by decide +kernel
theorem x_L_listed_15 {ls : List Value} {v : Int32} {I : MI} {J : MJ} {R : MR} {S : Sh} {Q : SkQ} : Wp 10 15 ls [.int v] I J R S Q = Q 0 (some (.int v)) I J R S := o_ireturn k_L_listed_15 rfl
theorem k_L_listed_16 : decode (sk_by 10) 16 = .ok (.iconst 0, 1) := by decide +kernel
theorem x_L_listed_16 {ls st : List Value} {I : MI} {J : MJ} {R : MR} {S : Sh} {Q : SkQ} : Wp 10 16 ls st I J R S Q = Wp 10 17 ls (.int 0 :: st) I J R S Q := o_const (by decide) k_L_listed_16
theorem k_L_listed_17 : decode (sk_by 10) 17 = .ok (.ireturn, 1) := by decide +kernel
theorem x_L_listed_17 {ls : List Value} {v : Int32} {I : MI} {J : MJ} {R : MR} {S : Sh} {Q : SkQ} : Wp 10 17 ls [.int v] I J R S Q = Q 0 (some (.int v)) I J R S := o_ireturn k_L_listed_17 rfl
theorem k_L_pair_0 : decode (sk_by 11) 0 = .ok (.aload_n 3, 1) := by decide +kernel
theorem x_L_pair_0 {st : List Value} {l0 : Nat} {l1 : Int32} {l2 : Int32} {x : Nat} {I : MI} {J : MJ} {R : MR} {S : Sh} {Q : SkQ} : Wp 11 0 [.ref l0, .int l1, .int l2, .ref x, nov] st I J R S Q = Wp 11 1 [.ref l0, .int l1, .int l2, .ref x, nov] (.ref x :: st) I J R S Q := o_aload_n rfl k_L_pair_0
theorem k_L_pair_1 : decode (sk_by 11) 1 = .ok (.iconst 0, 1) := by decide +kernel
theorem x_L_pair_1 {ls st : List Value} {I : MI} {J : MJ} {R : MR} {S : Sh} {Q : SkQ} : Wp 11 1 ls st I J R S Q = Wp 11 2 ls (.int 0 :: st) I J R S Q := o_const (by decide) k_L_pair_1
theorem k_L_pair_2 : decode (sk_by 11) 2 = .ok (.aload_n 0, 1) := by decide +kernel
theorem x_L_pair_2 {st : List Value} {l1 : Int32} {l2 : Int32} {l3 : Nat} {x : Nat} {I : MI} {J : MJ} {R : MR} {S : Sh} {Q : SkQ} : Wp 11 2 [.ref x, .int l1, .int l2, .ref l3, nov] st I J R S Q = Wp 11 3 [.ref x, .int l1, .int l2, .ref l3, nov] (.ref x :: st) I J R S Q := o_aload_n rfl k_L_pair_2
theorem k_L_pair_3 : decode (sk_by 11) 3 = .ok (.iload_n 1, 1) := by decide +kernel
theorem x_L_pair_3 {st : List Value} {l0 : Nat} {l2 : Int32} {l3 : Nat} {x : Int32} {I : MI} {J : MJ} {R : MR} {S : Sh} {Q : SkQ} : Wp 11 3 [.ref l0, .int x, .int l2, .ref l3, nov] st I J R S Q = Wp 11 4 [.ref l0, .int x, .int l2, .ref l3, nov] (.int x :: st) I J R S Q := o_iload_n rfl k_L_pair_3
theorem k_L_pair_4 : decode (sk_by 11) 4 = .ok (.iload_n 2, 1) := by decide +kernel
theorem x_L_pair_4 {st : List Value} {l0 : Nat} {l1 : Int32} {l3 : Nat} {x : Int32} {I : MI} {J : MJ} {R : MR} {S : Sh} {Q : SkQ} : Wp 11 4 [.ref l0, .int l1, .int x, .ref l3, nov] st I J R S Q = Wp 11 5 [.ref l0, .int l1, .int x, .ref l3, nov] (.int x :: st) I J R S Q := o_iload_n rfl k_L_pair_4
theorem k_L_pair_5 : decode (sk_by 11) 5 = .ok (.invokevirtual 53, 3) := by decide +kernel
theorem x_L_pair_5 {ls : List Value} {a0 : Nat} {a1 : Int32} {a2 : Int32} {s0 : Int32} {s1 : Nat} {I : MI} {J : MJ} {R : MR} {S : Sh} {Q : SkQ} (ha : S.1 a0 = 7) : Wp 11 5 ls (.int a2 :: .int a1 :: .ref a0 :: [.int s0, .ref s1]) I J R S Q = Wp 36 0 [.ref a0, .int a1, .int a2] [] I J R S (Ret 11 5 8 36 ls [.int s0, .ref s1] Q) := o_call (as := [.ref a0, .int a1, .int a2]) (rest := [.int s0, .ref s1]) (show sk_lkM (sk_cl 11) 53 = some 36 by decide +kernel) (by decide) (by decide) (by (decide +kernel)) (ins := .invokevirtual 53) (by (decide +kernel)) k_L_pair_5 rfl (show 3 = sk_na 36 by (decide +kernel)) (Nat.le_of_ble_eq_true rfl) (Nat.le_trans (show (argL [.ref a0, .int a1, .int a2]).length ≤ 3 from Nat.le_of_ble_eq_true rfl) (by (decide +kernel))) (rcv_of (by (decide +kernel)) (by decide) ha)
theorem k_L_pair_8 : decode (sk_by 11) 8 = .ok (.lastore, 1) := by decide +kernel
theorem x_L_pair_8 {ls st : List Value} {a : Nat} {i : Int32} {x : Int64} {I : MI} {J : MJ} {R : MR} {S : Sh} {Q : SkQ} (ha : S.1 a = 31) (hi : inb i (S.2.1 a) = true) : Wp 11 8 ls (.long x :: .int i :: .ref a :: st) I J R S Q = Wp 11 9 ls st I (u2 J a (ix i) x) R S Q := o_lastore k_L_pair_8 ha hi
theorem k_L_pair_9 : decode (sk_by 11) 9 = .ok (.goto 7, 3) := by decide +kernel
theorem x_L_pair_9 {ls st : List Value} {I : MI} {J : MJ} {R : MR} {S : Sh} {Q : SkQ} : Wp 11 9 ls st I J R S Q = Wp 11 16 ls st I J R S Q := o_goto rfl rfl k_L_pair_9
theorem k_L_pair_14 : decode (sk_by 11) 14 = .ok (.iconst 1, 1) := by decide +kernel
theorem x_L_pair_14 {ls st : List Value} {I : MI} {J : MJ} {R : MR} {S : Sh} {Q : SkQ} : Wp 11 14 ls st I J R S Q = Wp 11 15 ls (.int 1 :: st) I J R S Q := o_const (by decide) k_L_pair_14
theorem k_L_pair_15 : decode (sk_by 11) 15 = .ok (.ireturn, 1) := by decide +kernel
theorem x_L_pair_15 {ls : List Value} {v : Int32} {I : MI} {J : MJ} {R : MR} {S : Sh} {Q : SkQ} : Wp 11 15 ls [.int v] I J R S Q = Q 0 (some (.int v)) I J R S := o_ireturn k_L_pair_15 rfl
theorem k_L_pair_16 : decode (sk_by 11) 16 = .ok (.iconst 0, 1) := by decide +kernel
theorem x_L_pair_16 {ls st : List Value} {I : MI} {J : MJ} {R : MR} {S : Sh} {Q : SkQ} : Wp 11 16 ls st I J R S Q = Wp 11 17 ls (.int 0 :: st) I J R S Q := o_const (by decide) k_L_pair_16
theorem k_L_pair_17 : decode (sk_by 11) 17 = .ok (.ireturn, 1) := by decide +kernel
theorem x_L_pair_17 {ls : List Value} {v : Int32} {I : MI} {J : MJ} {R : MR} {S : Sh} {Q : SkQ} : Wp 11 17 ls [.int v] I J R S Q = Q 0 (some (.int v)) I J R S := o_ireturn k_L_pair_17 rfl
theorem k_L_logged_0 : decode (sk_by 12) 0 = .ok (.aload_n 3, 1) := by decide +kernel
theorem x_L_logged_0 {st : List Value} {l0 : Nat} {l1 : Int32} {l2 : Int32} {x : Nat} {I : MI} {J : MJ} {R : MR} {S : Sh} {Q : SkQ} : Wp 12 0 [.ref l0, .int l1, .int l2, .ref x, nov] st I J R S Q = Wp 12 1 [.ref l0, .int l1, .int l2, .ref x, nov] (.ref x :: st) I J R S Q := o_aload_n rfl k_L_logged_0
theorem k_L_logged_1 : decode (sk_by 12) 1 = .ok (.iconst 0, 1) := by decide +kernel
theorem x_L_logged_1 {ls st : List Value} {I : MI} {J : MJ} {R : MR} {S : Sh} {Q : SkQ} : Wp 12 1 ls st I J R S Q = Wp 12 2 ls (.int 0 :: st) I J R S Q := o_const (by decide) k_L_logged_1
theorem k_L_logged_2 : decode (sk_by 12) 2 = .ok (.aload_n 0, 1) := by decide +kernel
theorem x_L_logged_2 {st : List Value} {l1 : Int32} {l2 : Int32} {l3 : Nat} {x : Nat} {I : MI} {J : MJ} {R : MR} {S : Sh} {Q : SkQ} : Wp 12 2 [.ref x, .int l1, .int l2, .ref l3, nov] st I J R S Q = Wp 12 3 [.ref x, .int l1, .int l2, .ref l3, nov] (.ref x :: st) I J R S Q := o_aload_n rfl k_L_logged_2
theorem k_L_logged_3 : decode (sk_by 12) 3 = .ok (.iload_n 1, 1) := by decide +kernel
theorem x_L_logged_3 {st : List Value} {l0 : Nat} {l2 : Int32} {l3 : Nat} {x : Int32} {I : MI} {J : MJ} {R : MR} {S : Sh} {Q : SkQ} : Wp 12 3 [.ref l0, .int x, .int l2, .ref l3, nov] st I J R S Q = Wp 12 4 [.ref l0, .int x, .int l2, .ref l3, nov] (.int x :: st) I J R S Q := o_iload_n rfl k_L_logged_3
theorem k_L_logged_4 : decode (sk_by 12) 4 = .ok (.iload_n 2, 1) := by decide +kernel
theorem x_L_logged_4 {st : List Value} {l0 : Nat} {l1 : Int32} {l3 : Nat} {x : Int32} {I : MI} {J : MJ} {R : MR} {S : Sh} {Q : SkQ} : Wp 12 4 [.ref l0, .int l1, .int x, .ref l3, nov] st I J R S Q = Wp 12 5 [.ref l0, .int l1, .int x, .ref l3, nov] (.int x :: st) I J R S Q := o_iload_n rfl k_L_logged_4
theorem k_L_logged_5 : decode (sk_by 12) 5 = .ok (.invokevirtual 57, 3) := by decide +kernel
theorem x_L_logged_5 {ls : List Value} {a0 : Nat} {a1 : Int32} {a2 : Int32} {s0 : Int32} {s1 : Nat} {I : MI} {J : MJ} {R : MR} {S : Sh} {Q : SkQ} (ha : S.1 a0 = 7) : Wp 12 5 ls (.int a2 :: .int a1 :: .ref a0 :: [.int s0, .ref s1]) I J R S Q = Wp 37 0 [.ref a0, .int a1, .int a2] [] I J R S (Ret 12 5 8 37 ls [.int s0, .ref s1] Q) := o_call (as := [.ref a0, .int a1, .int a2]) (rest := [.int s0, .ref s1]) (show sk_lkM (sk_cl 12) 57 = some 37 by decide +kernel) (by decide) (by decide) (by (decide +kernel)) (ins := .invokevirtual 57) (by (decide +kernel)) k_L_logged_5 rfl (show 3 = sk_na 37 by (decide +kernel)) (Nat.le_of_ble_eq_true rfl) (Nat.le_trans (show (argL [.ref a0, .int a1, .int a2]).length ≤ 3 from Nat.le_of_ble_eq_true rfl) (by (decide +kernel))) (rcv_of (by (decide +kernel)) (by decide) ha)
theorem k_L_logged_8 : decode (sk_by 12) 8 = .ok (.lastore, 1) := by decide +kernel
theorem x_L_logged_8 {ls st : List Value} {a : Nat} {i : Int32} {x : Int64} {I : MI} {J : MJ} {R : MR} {S : Sh} {Q : SkQ} (ha : S.1 a = 31) (hi : inb i (S.2.1 a) = true) : Wp 12 8 ls (.long x :: .int i :: .ref a :: st) I J R S Q = Wp 12 9 ls st I (u2 J a (ix i) x) R S Q := o_lastore k_L_logged_8 ha hi
theorem k_L_logged_9 : decode (sk_by 12) 9 = .ok (.goto 7, 3) := by decide +kernel
theorem x_L_logged_9 {ls st : List Value} {I : MI} {J : MJ} {R : MR} {S : Sh} {Q : SkQ} : Wp 12 9 ls st I J R S Q = Wp 12 16 ls st I J R S Q := o_goto rfl rfl k_L_logged_9
theorem k_L_logged_14 : decode (sk_by 12) 14 = .ok (.iconst 1, 1) := by decide +kernel
theorem x_L_logged_14 {ls st : List Value} {I : MI} {J : MJ} {R : MR} {S : Sh} {Q : SkQ} : Wp 12 14 ls st I J R S Q = Wp 12 15 ls (.int 1 :: st) I J R S Q := o_const (by decide) k_L_logged_14
theorem k_L_logged_15 : decode (sk_by 12) 15 = .ok (.ireturn, 1) := by decide +kernel
theorem x_L_logged_15 {ls : List Value} {v : Int32} {I : MI} {J : MJ} {R : MR} {S : Sh} {Q : SkQ} : Wp 12 15 ls [.int v] I J R S Q = Q 0 (some (.int v)) I J R S := o_ireturn k_L_logged_15 rfl
theorem k_L_logged_16 : decode (sk_by 12) 16 = .ok (.iconst 0, 1) := by decide +kernel
theorem x_L_logged_16 {ls st : List Value} {I : MI} {J : MJ} {R : MR} {S : Sh} {Q : SkQ} : Wp 12 16 ls st I J R S Q = Wp 12 17 ls (.int 0 :: st) I J R S Q := o_const (by decide) k_L_logged_16
theorem k_L_logged_17 : decode (sk_by 12) 17 = .ok (.ireturn, 1) := by decide +kernel
theorem x_L_logged_17 {ls : List Value} {v : Int32} {I : MI} {J : MJ} {R : MR} {S : Sh} {Q : SkQ} : Wp 12 17 ls [.int v] I J R S Q = Q 0 (some (.int v)) I J R S := o_ireturn k_L_logged_17 rfl
theorem k_L_key_0 : decode (sk_by 13) 0 = .ok (.aload_n 3, 1) := by decide +kernel
theorem x_L_key_0 {st : List Value} {l0 : Nat} {l1 : Int32} {l2 : Int32} {x : Nat} {I : MI} {J : MJ} {R : MR} {S : Sh} {Q : SkQ} : Wp 13 0 [.ref l0, .int l1, .int l2, .ref x, nov] st I J R S Q = Wp 13 1 [.ref l0, .int l1, .int l2, .ref x, nov] (.ref x :: st) I J R S Q := o_aload_n rfl k_L_key_0
theorem k_L_key_1 : decode (sk_by 13) 1 = .ok (.iconst 0, 1) := by decide +kernel
theorem x_L_key_1 {ls st : List Value} {I : MI} {J : MJ} {R : MR} {S : Sh} {Q : SkQ} : Wp 13 1 ls st I J R S Q = Wp 13 2 ls (.int 0 :: st) I J R S Q := o_const (by decide) k_L_key_1
theorem k_L_key_2 : decode (sk_by 13) 2 = .ok (.aload_n 0, 1) := by decide +kernel
theorem x_L_key_2 {st : List Value} {l1 : Int32} {l2 : Int32} {l3 : Nat} {x : Nat} {I : MI} {J : MJ} {R : MR} {S : Sh} {Q : SkQ} : Wp 13 2 [.ref x, .int l1, .int l2, .ref l3, nov] st I J R S Q = Wp 13 3 [.ref x, .int l1, .int l2, .ref l3, nov] (.ref x :: st) I J R S Q := o_aload_n rfl k_L_key_2
theorem k_L_key_3 : decode (sk_by 13) 3 = .ok (.iload_n 1, 1) := by decide +kernel
theorem x_L_key_3 {st : List Value} {l0 : Nat} {l2 : Int32} {l3 : Nat} {x : Int32} {I : MI} {J : MJ} {R : MR} {S : Sh} {Q : SkQ} : Wp 13 3 [.ref l0, .int x, .int l2, .ref l3, nov] st I J R S Q = Wp 13 4 [.ref l0, .int x, .int l2, .ref l3, nov] (.int x :: st) I J R S Q := o_iload_n rfl k_L_key_3
theorem k_L_key_4 : decode (sk_by 13) 4 = .ok (.iload_n 2, 1) := by decide +kernel
theorem x_L_key_4 {st : List Value} {l0 : Nat} {l1 : Int32} {l3 : Nat} {x : Int32} {I : MI} {J : MJ} {R : MR} {S : Sh} {Q : SkQ} : Wp 13 4 [.ref l0, .int l1, .int x, .ref l3, nov] st I J R S Q = Wp 13 5 [.ref l0, .int l1, .int x, .ref l3, nov] (.int x :: st) I J R S Q := o_iload_n rfl k_L_key_4
theorem k_L_key_5 : decode (sk_by 13) 5 = .ok (.invokevirtual 60, 3) := by decide +kernel
theorem x_L_key_5 {ls : List Value} {a0 : Nat} {a1 : Int32} {a2 : Int32} {s0 : Int32} {s1 : Nat} {I : MI} {J : MJ} {R : MR} {S : Sh} {Q : SkQ} (ha : S.1 a0 = 7) : Wp 13 5 ls (.int a2 :: .int a1 :: .ref a0 :: [.int s0, .ref s1]) I J R S Q = Wp 38 0 [.ref a0, .int a1, .int a2] [] I J R S (Ret 13 5 8 38 ls [.int s0, .ref s1] Q) := o_call (as := [.ref a0, .int a1, .int a2]) (rest := [.int s0, .ref s1]) (show sk_lkM (sk_cl 13) 60 = some 38 by decide +kernel) (by decide) (by decide) (by (decide +kernel)) (ins := .invokevirtual 60) (by (decide +kernel)) k_L_key_5 rfl (show 3 = sk_na 38 by (decide +kernel)) (Nat.le_of_ble_eq_true rfl) (Nat.le_trans (show (argL [.ref a0, .int a1, .int a2]).length ≤ 3 from Nat.le_of_ble_eq_true rfl) (by (decide +kernel))) (rcv_of (by (decide +kernel)) (by decide) ha)
theorem k_L_key_8 : decode (sk_by 13) 8 = .ok (.i2l, 1) := by decide +kernel
theorem x_L_key_8 {ls st : List Value} {x : Int32} {I : MI} {J : MJ} {R : MR} {S : Sh} {Q : SkQ} : Wp 13 8 ls (.int x :: st) I J R S Q = Wp 13 9 ls (.long x.toInt64 :: st) I J R S Q := o_i2l k_L_key_8
theorem k_L_key_9 : decode (sk_by 13) 9 = .ok (.lastore, 1) := by decide +kernel
theorem x_L_key_9 {ls st : List Value} {a : Nat} {i : Int32} {x : Int64} {I : MI} {J : MJ} {R : MR} {S : Sh} {Q : SkQ} (ha : S.1 a = 31) (hi : inb i (S.2.1 a) = true) : Wp 13 9 ls (.long x :: .int i :: .ref a :: st) I J R S Q = Wp 13 10 ls st I (u2 J a (ix i) x) R S Q := o_lastore k_L_key_9 ha hi
theorem k_L_key_10 : decode (sk_by 13) 10 = .ok (.goto 7, 3) := by decide +kernel
theorem x_L_key_10 {ls st : List Value} {I : MI} {J : MJ} {R : MR} {S : Sh} {Q : SkQ} : Wp 13 10 ls st I J R S Q = Wp 13 17 ls st I J R S Q := o_goto rfl rfl k_L_key_10
theorem k_L_key_15 : decode (sk_by 13) 15 = .ok (.iconst 1, 1) := by decide +kernel
theorem x_L_key_15 {ls st : List Value} {I : MI} {J : MJ} {R : MR} {S : Sh} {Q : SkQ} : Wp 13 15 ls st I J R S Q = Wp 13 16 ls (.int 1 :: st) I J R S Q := o_const (by decide) k_L_key_15
theorem k_L_key_16 : decode (sk_by 13) 16 = .ok (.ireturn, 1) := by decide +kernel
theorem x_L_key_16 {ls : List Value} {v : Int32} {I : MI} {J : MJ} {R : MR} {S : Sh} {Q : SkQ} : Wp 13 16 ls [.int v] I J R S Q = Q 0 (some (.int v)) I J R S := o_ireturn k_L_key_16 rfl
theorem k_L_key_17 : decode (sk_by 13) 17 = .ok (.iconst 0, 1) := by decide +kernel
theorem x_L_key_17 {ls st : List Value} {I : MI} {J : MJ} {R : MR} {S : Sh} {Q : SkQ} : Wp 13 17 ls st I J R S Q = Wp 13 18 ls (.int 0 :: st) I J R S Q := o_const (by decide) k_L_key_17
theorem k_L_key_18 : decode (sk_by 13) 18 = .ok (.ireturn, 1) := by decide +kernel
theorem x_L_key_18 {ls : List Value} {v : Int32} {I : MI} {J : MJ} {R : MR} {S : Sh} {Q : SkQ} : Wp 13 18 ls [.int v] I J R S Q = Q 0 (some (.int v)) I J R S := o_ireturn k_L_key_18 rfl
theorem k_L_whole_0 : decode (sk_by 14) 0 = .ok (.aload_n 2, 1) := by decide +kernel
theorem x_L_whole_0 {st : List Value} {l0 : Nat} {l1 : Int32} {x : Nat} {I : MI} {J : MJ} {R : MR} {S : Sh} {Q : SkQ} : Wp 14 0 [.ref l0, .int l1, .ref x, nov] st I J R S Q = Wp 14 1 [.ref l0, .int l1, .ref x, nov] (.ref x :: st) I J R S Q := o_aload_n rfl k_L_whole_0
theorem k_L_whole_1 : decode (sk_by 14) 1 = .ok (.iconst 0, 1) := by decide +kernel
theorem x_L_whole_1 {ls st : List Value} {I : MI} {J : MJ} {R : MR} {S : Sh} {Q : SkQ} : Wp 14 1 ls st I J R S Q = Wp 14 2 ls (.int 0 :: st) I J R S Q := o_const (by decide) k_L_whole_1
theorem k_L_whole_2 : decode (sk_by 14) 2 = .ok (.aload_n 0, 1) := by decide +kernel
theorem x_L_whole_2 {st : List Value} {l1 : Int32} {l2 : Nat} {x : Nat} {I : MI} {J : MJ} {R : MR} {S : Sh} {Q : SkQ} : Wp 14 2 [.ref x, .int l1, .ref l2, nov] st I J R S Q = Wp 14 3 [.ref x, .int l1, .ref l2, nov] (.ref x :: st) I J R S Q := o_aload_n rfl k_L_whole_2
theorem k_L_whole_3 : decode (sk_by 14) 3 = .ok (.iload_n 1, 1) := by decide +kernel
theorem x_L_whole_3 {st : List Value} {l0 : Nat} {l2 : Nat} {x : Int32} {I : MI} {J : MJ} {R : MR} {S : Sh} {Q : SkQ} : Wp 14 3 [.ref l0, .int x, .ref l2, nov] st I J R S Q = Wp 14 4 [.ref l0, .int x, .ref l2, nov] (.int x :: st) I J R S Q := o_iload_n rfl k_L_whole_3
theorem k_L_whole_4 : decode (sk_by 14) 4 = .ok (.invokevirtual 63, 3) := by decide +kernel
theorem x_L_whole_4 {ls : List Value} {a0 : Nat} {a1 : Int32} {s0 : Int32} {s1 : Nat} {I : MI} {J : MJ} {R : MR} {S : Sh} {Q : SkQ} (ha : S.1 a0 = 7) : Wp 14 4 ls (.int a1 :: .ref a0 :: [.int s0, .ref s1]) I J R S Q = Wp 39 0 [.ref a0, .int a1] [] I J R S (Ret 14 4 7 39 ls [.int s0, .ref s1] Q) := o_call (as := [.ref a0, .int a1]) (rest := [.int s0, .ref s1]) (show sk_lkM (sk_cl 14) 63 = some 39 by decide +kernel) (by decide) (by decide) (by (decide +kernel)) (ins := .invokevirtual 63) (by (decide +kernel)) k_L_whole_4 rfl (show 2 = sk_na 39 by (decide +kernel)) (Nat.le_of_ble_eq_true rfl) (Nat.le_trans (show (argL [.ref a0, .int a1]).length ≤ 2 from Nat.le_of_ble_eq_true rfl) (by (decide +kernel))) (rcv_of (by (decide +kernel)) (by decide) ha)
theorem k_L_whole_7 : decode (sk_by 14) 7 = .ok (.i2l, 1) := by decide +kernel
theorem x_L_whole_7 {ls st : List Value} {x : Int32} {I : MI} {J : MJ} {R : MR} {S : Sh} {Q : SkQ} : Wp 14 7 ls (.int x :: st) I J R S Q = Wp 14 8 ls (.long x.toInt64 :: st) I J R S Q := o_i2l k_L_whole_7
theorem k_L_whole_8 : decode (sk_by 14) 8 = .ok (.lastore, 1) := by decide +kernel
theorem x_L_whole_8 {ls st : List Value} {a : Nat} {i : Int32} {x : Int64} {I : MI} {J : MJ} {R : MR} {S : Sh} {Q : SkQ} (ha : S.1 a = 31) (hi : inb i (S.2.1 a) = true) : Wp 14 8 ls (.long x :: .int i :: .ref a :: st) I J R S Q = Wp 14 9 ls st I (u2 J a (ix i) x) R S Q := o_lastore k_L_whole_8 ha hi
theorem k_L_whole_9 : decode (sk_by 14) 9 = .ok (.goto 6, 3) := by decide +kernel
theorem x_L_whole_9 {ls st : List Value} {I : MI} {J : MJ} {R : MR} {S : Sh} {Q : SkQ} : Wp 14 9 ls st I J R S Q = Wp 14 15 ls st I J R S Q := o_goto rfl rfl k_L_whole_9
theorem k_L_whole_13 : decode (sk_by 14) 13 = .ok (.iconst 1, 1) := by decide +kernel
theorem x_L_whole_13 {ls st : List Value} {I : MI} {J : MJ} {R : MR} {S : Sh} {Q : SkQ} : Wp 14 13 ls st I J R S Q = Wp 14 14 ls (.int 1 :: st) I J R S Q := o_const (by decide) k_L_whole_13
theorem k_L_whole_14 : decode (sk_by 14) 14 = .ok (.ireturn, 1) := by decide +kernel
theorem x_L_whole_14 {ls : List Value} {v : Int32} {I : MI} {J : MJ} {R : MR} {S : Sh} {Q : SkQ} : Wp 14 14 ls [.int v] I J R S Q = Q 0 (some (.int v)) I J R S := o_ireturn k_L_whole_14 rfl
theorem k_L_whole_15 : decode (sk_by 14) 15 = .ok (.iconst 0, 1) := by decide +kernel
theorem x_L_whole_15 {ls st : List Value} {I : MI} {J : MJ} {R : MR} {S : Sh} {Q : SkQ} : Wp 14 15 ls st I J R S Q = Wp 14 16 ls (.int 0 :: st) I J R S Q := o_const (by decide) k_L_whole_15
theorem k_L_whole_16 : decode (sk_by 14) 16 = .ok (.ireturn, 1) := by decide +kernel
theorem x_L_whole_16 {ls : List Value} {v : Int32} {I : MI} {J : MJ} {R : MR} {S : Sh} {Q : SkQ} : Wp 14 16 ls [.int v] I J R S Q = Q 0 (some (.int v)) I J R S := o_ireturn k_L_whole_16 rfl
theorem k_L_distance_0 : decode (sk_by 15) 0 = .ok (.aload 5, 2) := by decide +kernel
theorem x_L_distance_0 {st : List Value} {l0 : Nat} {l1 : Int64} {l3 : Int64} {x : Nat} {I : MI} {J : MJ} {R : MR} {S : Sh} {Q : SkQ} : Wp 15 0 [.ref l0, .long l1, nov, .long l3, nov, .ref x, nov] st I J R S Q = Wp 15 2 [.ref l0, .long l1, nov, .long l3, nov, .ref x, nov] (.ref x :: st) I J R S Q := o_aload rfl k_L_distance_0
theorem k_L_distance_2 : decode (sk_by 15) 2 = .ok (.iconst 0, 1) := by decide +kernel
theorem x_L_distance_2 {ls st : List Value} {I : MI} {J : MJ} {R : MR} {S : Sh} {Q : SkQ} : Wp 15 2 ls st I J R S Q = Wp 15 3 ls (.int 0 :: st) I J R S Q := o_const (by decide) k_L_distance_2
theorem k_L_distance_3 : decode (sk_by 15) 3 = .ok (.aload_n 0, 1) := by decide +kernel
theorem x_L_distance_3 {st : List Value} {l1 : Int64} {l3 : Int64} {l5 : Nat} {x : Nat} {I : MI} {J : MJ} {R : MR} {S : Sh} {Q : SkQ} : Wp 15 3 [.ref x, .long l1, nov, .long l3, nov, .ref l5, nov] st I J R S Q = Wp 15 4 [.ref x, .long l1, nov, .long l3, nov, .ref l5, nov] (.ref x :: st) I J R S Q := o_aload_n rfl k_L_distance_3
theorem k_L_distance_4 : decode (sk_by 15) 4 = .ok (.lload_n 1, 1) := by decide +kernel
theorem x_L_distance_4 {st : List Value} {l0 : Nat} {l3 : Int64} {l5 : Nat} {x : Int64} {I : MI} {J : MJ} {R : MR} {S : Sh} {Q : SkQ} : Wp 15 4 [.ref l0, .long x, nov, .long l3, nov, .ref l5, nov] st I J R S Q = Wp 15 5 [.ref l0, .long x, nov, .long l3, nov, .ref l5, nov] (.long x :: st) I J R S Q := o_lload_n rfl k_L_distance_4
theorem k_L_distance_5 : decode (sk_by 15) 5 = .ok (.lload_n 3, 1) := by decide +kernel
theorem x_L_distance_5 {st : List Value} {l0 : Nat} {l1 : Int64} {l5 : Nat} {x : Int64} {I : MI} {J : MJ} {R : MR} {S : Sh} {Q : SkQ} : Wp 15 5 [.ref l0, .long l1, nov, .long x, nov, .ref l5, nov] st I J R S Q = Wp 15 6 [.ref l0, .long l1, nov, .long x, nov, .ref l5, nov] (.long x :: st) I J R S Q := o_lload_n rfl k_L_distance_5
theorem k_L_distance_6 : decode (sk_by 15) 6 = .ok (.invokevirtual 67, 3) := by decide +kernel
theorem x_L_distance_6 {ls : List Value} {a0 : Nat} {a1 : Int64} {a2 : Int64} {s0 : Int32} {s1 : Nat} {I : MI} {J : MJ} {R : MR} {S : Sh} {Q : SkQ} (ha : S.1 a0 = 7) : Wp 15 6 ls (.long a2 :: .long a1 :: .ref a0 :: [.int s0, .ref s1]) I J R S Q = Wp 40 0 [.ref a0, .long a1, nov, .long a2, nov] [] I J R S (Ret 15 6 9 40 ls [.int s0, .ref s1] Q) := o_call (as := [.ref a0, .long a1, .long a2]) (rest := [.int s0, .ref s1]) (show sk_lkM (sk_cl 15) 67 = some 40 by decide +kernel) (by decide) (by decide) (by (decide +kernel)) (ins := .invokevirtual 67) (by (decide +kernel)) k_L_distance_6 rfl (show 3 = sk_na 40 by (decide +kernel)) (Nat.le_of_ble_eq_true rfl) (Nat.le_trans (show (argL [.ref a0, .long a1, .long a2]).length ≤ 5 from Nat.le_of_ble_eq_true rfl) (by (decide +kernel))) (rcv_of (by (decide +kernel)) (by decide) ha)
theorem k_L_distance_9 : decode (sk_by 15) 9 = .ok (.i2l, 1) := by decide +kernel
theorem x_L_distance_9 {ls st : List Value} {x : Int32} {I : MI} {J : MJ} {R : MR} {S : Sh} {Q : SkQ} : Wp 15 9 ls (.int x :: st) I J R S Q = Wp 15 10 ls (.long x.toInt64 :: st) I J R S Q := o_i2l k_L_distance_9
theorem k_L_distance_10 : decode (sk_by 15) 10 = .ok (.lastore, 1) := by decide +kernel
theorem x_L_distance_10 {ls st : List Value} {a : Nat} {i : Int32} {x : Int64} {I : MI} {J : MJ} {R : MR} {S : Sh} {Q : SkQ} (ha : S.1 a = 31) (hi : inb i (S.2.1 a) = true) : Wp 15 10 ls (.long x :: .int i :: .ref a :: st) I J R S Q = Wp 15 11 ls st I (u2 J a (ix i) x) R S Q := o_lastore k_L_distance_10 ha hi
theorem k_L_distance_11 : decode (sk_by 15) 11 = .ok (.goto 7, 3) := by decide +kernel
theorem x_L_distance_11 {ls st : List Value} {I : MI} {J : MJ} {R : MR} {S : Sh} {Q : SkQ} : Wp 15 11 ls st I J R S Q = Wp 15 18 ls st I J R S Q := o_goto rfl rfl k_L_distance_11
theorem k_L_distance_16 : decode (sk_by 15) 16 = .ok (.iconst 1, 1) := by decide +kernel
theorem x_L_distance_16 {ls st : List Value} {I : MI} {J : MJ} {R : MR} {S : Sh} {Q : SkQ} : Wp 15 16 ls st I J R S Q = Wp 15 17 ls (.int 1 :: st) I J R S Q := o_const (by decide) k_L_distance_16
theorem k_L_distance_17 : decode (sk_by 15) 17 = .ok (.ireturn, 1) := by decide +kernel
theorem x_L_distance_17 {ls : List Value} {v : Int32} {I : MI} {J : MJ} {R : MR} {S : Sh} {Q : SkQ} : Wp 15 17 ls [.int v] I J R S Q = Q 0 (some (.int v)) I J R S := o_ireturn k_L_distance_17 rfl
theorem k_L_distance_18 : decode (sk_by 15) 18 = .ok (.iconst 0, 1) := by decide +kernel
theorem x_L_distance_18 {ls st : List Value} {I : MI} {J : MJ} {R : MR} {S : Sh} {Q : SkQ} : Wp 15 18 ls st I J R S Q = Wp 15 19 ls (.int 0 :: st) I J R S Q := o_const (by decide) k_L_distance_18
theorem k_L_distance_19 : decode (sk_by 15) 19 = .ok (.ireturn, 1) := by decide +kernel
theorem x_L_distance_19 {ls : List Value} {v : Int32} {I : MI} {J : MJ} {R : MR} {S : Sh} {Q : SkQ} : Wp 15 19 ls [.int v] I J R S Q = Q 0 (some (.int v)) I J R S := o_ireturn k_L_distance_19 rfl
theorem k_L_caseOf_0 : decode (sk_by 16) 0 = .ok (.aload_n 3, 1) := by decide +kernel
theorem x_L_caseOf_0 {st : List Value} {l0 : Nat} {l1 : Int64} {x : Nat} {I : MI} {J : MJ} {R : MR} {S : Sh} {Q : SkQ} : Wp 16 0 [.ref l0, .long l1, nov, .ref x, nov] st I J R S Q = Wp 16 1 [.ref l0, .long l1, nov, .ref x, nov] (.ref x :: st) I J R S Q := o_aload_n rfl k_L_caseOf_0
theorem k_L_caseOf_1 : decode (sk_by 16) 1 = .ok (.iconst 0, 1) := by decide +kernel
theorem x_L_caseOf_1 {ls st : List Value} {I : MI} {J : MJ} {R : MR} {S : Sh} {Q : SkQ} : Wp 16 1 ls st I J R S Q = Wp 16 2 ls (.int 0 :: st) I J R S Q := o_const (by decide) k_L_caseOf_1
theorem k_L_caseOf_2 : decode (sk_by 16) 2 = .ok (.aload_n 0, 1) := by decide +kernel
theorem x_L_caseOf_2 {st : List Value} {l1 : Int64} {l3 : Nat} {x : Nat} {I : MI} {J : MJ} {R : MR} {S : Sh} {Q : SkQ} : Wp 16 2 [.ref x, .long l1, nov, .ref l3, nov] st I J R S Q = Wp 16 3 [.ref x, .long l1, nov, .ref l3, nov] (.ref x :: st) I J R S Q := o_aload_n rfl k_L_caseOf_2
theorem k_L_caseOf_3 : decode (sk_by 16) 3 = .ok (.lload_n 1, 1) := by decide +kernel
theorem x_L_caseOf_3 {st : List Value} {l0 : Nat} {l3 : Nat} {x : Int64} {I : MI} {J : MJ} {R : MR} {S : Sh} {Q : SkQ} : Wp 16 3 [.ref l0, .long x, nov, .ref l3, nov] st I J R S Q = Wp 16 4 [.ref l0, .long x, nov, .ref l3, nov] (.long x :: st) I J R S Q := o_lload_n rfl k_L_caseOf_3
theorem k_L_caseOf_4 : decode (sk_by 16) 4 = .ok (.invokevirtual 70, 3) := by decide +kernel
theorem x_L_caseOf_4 {ls : List Value} {a0 : Nat} {a1 : Int64} {s0 : Int32} {s1 : Nat} {I : MI} {J : MJ} {R : MR} {S : Sh} {Q : SkQ} (ha : S.1 a0 = 7) : Wp 16 4 ls (.long a1 :: .ref a0 :: [.int s0, .ref s1]) I J R S Q = Wp 41 0 [.ref a0, .long a1, nov] [] I J R S (Ret 16 4 7 41 ls [.int s0, .ref s1] Q) := o_call (as := [.ref a0, .long a1]) (rest := [.int s0, .ref s1]) (show sk_lkM (sk_cl 16) 70 = some 41 by decide +kernel) (by decide) (by decide) (by (decide +kernel)) (ins := .invokevirtual 70) (by (decide +kernel)) k_L_caseOf_4 rfl (show 2 = sk_na 41 by (decide +kernel)) (Nat.le_of_ble_eq_true rfl) (Nat.le_trans (show (argL [.ref a0, .long a1]).length ≤ 3 from Nat.le_of_ble_eq_true rfl) (by (decide +kernel))) (rcv_of (by (decide +kernel)) (by decide) ha)
theorem k_L_caseOf_7 : decode (sk_by 16) 7 = .ok (.i2l, 1) := by decide +kernel
theorem x_L_caseOf_7 {ls st : List Value} {x : Int32} {I : MI} {J : MJ} {R : MR} {S : Sh} {Q : SkQ} : Wp 16 7 ls (.int x :: st) I J R S Q = Wp 16 8 ls (.long x.toInt64 :: st) I J R S Q := o_i2l k_L_caseOf_7
theorem k_L_caseOf_8 : decode (sk_by 16) 8 = .ok (.lastore, 1) := by decide +kernel
theorem x_L_caseOf_8 {ls st : List Value} {a : Nat} {i : Int32} {x : Int64} {I : MI} {J : MJ} {R : MR} {S : Sh} {Q : SkQ} (ha : S.1 a = 31) (hi : inb i (S.2.1 a) = true) : Wp 16 8 ls (.long x :: .int i :: .ref a :: st) I J R S Q = Wp 16 9 ls st I (u2 J a (ix i) x) R S Q := o_lastore k_L_caseOf_8 ha hi
theorem k_L_caseOf_9 : decode (sk_by 16) 9 = .ok (.goto 7, 3) := by decide +kernel
theorem x_L_caseOf_9 {ls st : List Value} {I : MI} {J : MJ} {R : MR} {S : Sh} {Q : SkQ} : Wp 16 9 ls st I J R S Q = Wp 16 16 ls st I J R S Q := o_goto rfl rfl k_L_caseOf_9
theorem k_L_caseOf_14 : decode (sk_by 16) 14 = .ok (.iconst 1, 1) := by decide +kernel
theorem x_L_caseOf_14 {ls st : List Value} {I : MI} {J : MJ} {R : MR} {S : Sh} {Q : SkQ} : Wp 16 14 ls st I J R S Q = Wp 16 15 ls (.int 1 :: st) I J R S Q := o_const (by decide) k_L_caseOf_14
theorem k_L_caseOf_15 : decode (sk_by 16) 15 = .ok (.ireturn, 1) := by decide +kernel
theorem x_L_caseOf_15 {ls : List Value} {v : Int32} {I : MI} {J : MJ} {R : MR} {S : Sh} {Q : SkQ} : Wp 16 15 ls [.int v] I J R S Q = Q 0 (some (.int v)) I J R S := o_ireturn k_L_caseOf_15 rfl
theorem k_L_caseOf_16 : decode (sk_by 16) 16 = .ok (.iconst 0, 1) := by decide +kernel
theorem x_L_caseOf_16 {ls st : List Value} {I : MI} {J : MJ} {R : MR} {S : Sh} {Q : SkQ} : Wp 16 16 ls st I J R S Q = Wp 16 17 ls (.int 0 :: st) I J R S Q := o_const (by decide) k_L_caseOf_16
theorem k_L_caseOf_17 : decode (sk_by 16) 17 = .ok (.ireturn, 1) := by decide +kernel
theorem x_L_caseOf_17 {ls : List Value} {v : Int32} {I : MI} {J : MJ} {R : MR} {S : Sh} {Q : SkQ} : Wp 16 17 ls [.int v] I J R S Q = Q 0 (some (.int v)) I J R S := o_ireturn k_L_caseOf_17 rfl
theorem k_L_suggestion_0 : decode (sk_by 17) 0 = .ok (.aload 4, 2) := by decide +kernel
theorem x_L_suggestion_0 {st : List Value} {l0 : Nat} {l1 : Int64} {l3 : Int32} {x : Nat} {I : MI} {J : MJ} {R : MR} {S : Sh} {Q : SkQ} : Wp 17 0 [.ref l0, .long l1, nov, .int l3, .ref x, nov] st I J R S Q = Wp 17 2 [.ref l0, .long l1, nov, .int l3, .ref x, nov] (.ref x :: st) I J R S Q := o_aload rfl k_L_suggestion_0
theorem k_L_suggestion_2 : decode (sk_by 17) 2 = .ok (.iconst 0, 1) := by decide +kernel
theorem x_L_suggestion_2 {ls st : List Value} {I : MI} {J : MJ} {R : MR} {S : Sh} {Q : SkQ} : Wp 17 2 ls st I J R S Q = Wp 17 3 ls (.int 0 :: st) I J R S Q := o_const (by decide) k_L_suggestion_2
theorem k_L_suggestion_3 : decode (sk_by 17) 3 = .ok (.aload_n 0, 1) := by decide +kernel
theorem x_L_suggestion_3 {st : List Value} {l1 : Int64} {l3 : Int32} {l4 : Nat} {x : Nat} {I : MI} {J : MJ} {R : MR} {S : Sh} {Q : SkQ} : Wp 17 3 [.ref x, .long l1, nov, .int l3, .ref l4, nov] st I J R S Q = Wp 17 4 [.ref x, .long l1, nov, .int l3, .ref l4, nov] (.ref x :: st) I J R S Q := o_aload_n rfl k_L_suggestion_3
theorem k_L_suggestion_4 : decode (sk_by 17) 4 = .ok (.lload_n 1, 1) := by decide +kernel
theorem x_L_suggestion_4 {st : List Value} {l0 : Nat} {l3 : Int32} {l4 : Nat} {x : Int64} {I : MI} {J : MJ} {R : MR} {S : Sh} {Q : SkQ} : Wp 17 4 [.ref l0, .long x, nov, .int l3, .ref l4, nov] st I J R S Q = Wp 17 5 [.ref l0, .long x, nov, .int l3, .ref l4, nov] (.long x :: st) I J R S Q := o_lload_n rfl k_L_suggestion_4
theorem k_L_suggestion_5 : decode (sk_by 17) 5 = .ok (.iload_n 3, 1) := by decide +kernel
theorem x_L_suggestion_5 {st : List Value} {l0 : Nat} {l1 : Int64} {l4 : Nat} {x : Int32} {I : MI} {J : MJ} {R : MR} {S : Sh} {Q : SkQ} : Wp 17 5 [.ref l0, .long l1, nov, .int x, .ref l4, nov] st I J R S Q = Wp 17 6 [.ref l0, .long l1, nov, .int x, .ref l4, nov] (.int x :: st) I J R S Q := o_iload_n rfl k_L_suggestion_5
theorem k_L_suggestion_6 : decode (sk_by 17) 6 = .ok (.invokevirtual 73, 3) := by decide +kernel
theorem x_L_suggestion_6 {ls : List Value} {a0 : Nat} {a1 : Int64} {a2 : Int32} {s0 : Int32} {s1 : Nat} {I : MI} {J : MJ} {R : MR} {S : Sh} {Q : SkQ} (ha : S.1 a0 = 7) : Wp 17 6 ls (.int a2 :: .long a1 :: .ref a0 :: [.int s0, .ref s1]) I J R S Q = Wp 42 0 [.ref a0, .long a1, nov, .int a2] [] I J R S (Ret 17 6 9 42 ls [.int s0, .ref s1] Q) := o_call (as := [.ref a0, .long a1, .int a2]) (rest := [.int s0, .ref s1]) (show sk_lkM (sk_cl 17) 73 = some 42 by decide +kernel) (by decide) (by decide) (by (decide +kernel)) (ins := .invokevirtual 73) (by (decide +kernel)) k_L_suggestion_6 rfl (show 3 = sk_na 42 by (decide +kernel)) (Nat.le_of_ble_eq_true rfl) (Nat.le_trans (show (argL [.ref a0, .long a1, .int a2]).length ≤ 4 from Nat.le_of_ble_eq_true rfl) (by (decide +kernel))) (rcv_of (by (decide +kernel)) (by decide) ha)
theorem k_L_suggestion_9 : decode (sk_by 17) 9 = .ok (.lastore, 1) := by decide +kernel
theorem x_L_suggestion_9 {ls st : List Value} {a : Nat} {i : Int32} {x : Int64} {I : MI} {J : MJ} {R : MR} {S : Sh} {Q : SkQ} (ha : S.1 a = 31) (hi : inb i (S.2.1 a) = true) : Wp 17 9 ls (.long x :: .int i :: .ref a :: st) I J R S Q = Wp 17 10 ls st I (u2 J a (ix i) x) R S Q := o_lastore k_L_suggestion_9 ha hi
theorem k_L_suggestion_10 : decode (sk_by 17) 10 = .ok (.goto 7, 3) := by decide +kernel
theorem x_L_suggestion_10 {ls st : List Value} {I : MI} {J : MJ} {R : MR} {S : Sh} {Q : SkQ} : Wp 17 10 ls st I J R S Q = Wp 17 17 ls st I J R S Q := o_goto rfl rfl k_L_suggestion_10
theorem k_L_suggestion_15 : decode (sk_by 17) 15 = .ok (.iconst 1, 1) := by decide +kernel
theorem x_L_suggestion_15 {ls st : List Value} {I : MI} {J : MJ} {R : MR} {S : Sh} {Q : SkQ} : Wp 17 15 ls st I J R S Q = Wp 17 16 ls (.int 1 :: st) I J R S Q := o_const (by decide) k_L_suggestion_15
theorem k_L_suggestion_16 : decode (sk_by 17) 16 = .ok (.ireturn, 1) := by decide +kernel
theorem x_L_suggestion_16 {ls : List Value} {v : Int32} {I : MI} {J : MJ} {R : MR} {S : Sh} {Q : SkQ} : Wp 17 16 ls [.int v] I J R S Q = Q 0 (some (.int v)) I J R S := o_ireturn k_L_suggestion_16 rfl
theorem k_L_suggestion_17 : decode (sk_by 17) 17 = .ok (.iconst 0, 1) := by decide +kernel
theorem x_L_suggestion_17 {ls st : List Value} {I : MI} {J : MJ} {R : MR} {S : Sh} {Q : SkQ} : Wp 17 17 ls st I J R S Q = Wp 17 18 ls (.int 0 :: st) I J R S Q := o_const (by decide) k_L_suggestion_17
theorem k_L_suggestion_18 : decode (sk_by 17) 18 = .ok (.ireturn, 1) := by decide +kernel
theorem x_L_suggestion_18 {ls : List Value} {v : Int32} {I : MI} {J : MJ} {R : MR} {S : Sh} {Q : SkQ} : Wp 17 18 ls [.int v] I J R S Q = Q 0 (some (.int v)) I J R S := o_ireturn k_L_suggestion_18 rfl
theorem k_L_reason_0 : decode (sk_by 18) 0 = .ok (.aload 5, 2) := by decide +kernel
theorem x_L_reason_0 {st : List Value} {l0 : Nat} {l1 : Int64} {l3 : Int64} {x : Nat} {I : MI} {J : MJ} {R : MR} {S : Sh} {Q : SkQ} : Wp 18 0 [.ref l0, .long l1, nov, .long l3, nov, .ref x, nov] st I J R S Q = Wp 18 2 [.ref l0, .long l1, nov, .long l3, nov, .ref x, nov] (.ref x :: st) I J R S Q := o_aload rfl k_L_reason_0
theorem k_L_reason_2 : decode (sk_by 18) 2 = .ok (.iconst 0, 1) := by decide +kernel
theorem x_L_reason_2 {ls st : List Value} {I : MI} {J : MJ} {R : MR} {S : Sh} {Q : SkQ} : Wp 18 2 ls st I J R S Q = Wp 18 3 ls (.int 0 :: st) I J R S Q := o_const (by decide) k_L_reason_2
theorem k_L_reason_3 : decode (sk_by 18) 3 = .ok (.aload_n 0, 1) := by decide +kernel
theorem x_L_reason_3 {st : List Value} {l1 : Int64} {l3 : Int64} {l5 : Nat} {x : Nat} {I : MI} {J : MJ} {R : MR} {S : Sh} {Q : SkQ} : Wp 18 3 [.ref x, .long l1, nov, .long l3, nov, .ref l5, nov] st I J R S Q = Wp 18 4 [.ref x, .long l1, nov, .long l3, nov, .ref l5, nov] (.ref x :: st) I J R S Q := o_aload_n rfl k_L_reason_3
theorem k_L_reason_4 : decode (sk_by 18) 4 = .ok (.lload_n 1, 1) := by decide +kernel
theorem x_L_reason_4 {st : List Value} {l0 : Nat} {l3 : Int64} {l5 : Nat} {x : Int64} {I : MI} {J : MJ} {R : MR} {S : Sh} {Q : SkQ} : Wp 18 4 [.ref l0, .long x, nov, .long l3, nov, .ref l5, nov] st I J R S Q = Wp 18 5 [.ref l0, .long x, nov, .long l3, nov, .ref l5, nov] (.long x :: st) I J R S Q := o_lload_n rfl k_L_reason_4
theorem k_L_reason_5 : decode (sk_by 18) 5 = .ok (.lload_n 3, 1) := by decide +kernel
theorem x_L_reason_5 {st : List Value} {l0 : Nat} {l1 : Int64} {l5 : Nat} {x : Int64} {I : MI} {J : MJ} {R : MR} {S : Sh} {Q : SkQ} : Wp 18 5 [.ref l0, .long l1, nov, .long x, nov, .ref l5, nov] st I J R S Q = Wp 18 6 [.ref l0, .long l1, nov, .long x, nov, .ref l5, nov] (.long x :: st) I J R S Q := o_lload_n rfl k_L_reason_5
theorem k_L_reason_6 : decode (sk_by 18) 6 = .ok (.invokevirtual 77, 3) := by decide +kernel
theorem x_L_reason_6 {ls : List Value} {a0 : Nat} {a1 : Int64} {a2 : Int64} {s0 : Int32} {s1 : Nat} {I : MI} {J : MJ} {R : MR} {S : Sh} {Q : SkQ} (ha : S.1 a0 = 7) : Wp 18 6 ls (.long a2 :: .long a1 :: .ref a0 :: [.int s0, .ref s1]) I J R S Q = Wp 43 0 [.ref a0, .long a1, nov, .long a2, nov] [] I J R S (Ret 18 6 9 43 ls [.int s0, .ref s1] Q) := o_call (as := [.ref a0, .long a1, .long a2]) (rest := [.int s0, .ref s1]) (show sk_lkM (sk_cl 18) 77 = some 43 by decide +kernel) (by decide) (by decide) (by (decide +kernel)) (ins := .invokevirtual 77) (by (decide +kernel)) k_L_reason_6 rfl (show 3 = sk_na 43 by (decide +kernel)) (Nat.le_of_ble_eq_true rfl) (Nat.le_trans (show (argL [.ref a0, .long a1, .long a2]).length ≤ 5 from Nat.le_of_ble_eq_true rfl) (by (decide +kernel))) (rcv_of (by (decide +kernel)) (by decide) ha)
theorem k_L_reason_9 : decode (sk_by 18) 9 = .ok (.i2l, 1) := by decide +kernel
theorem x_L_reason_9 {ls st : List Value} {x : Int32} {I : MI} {J : MJ} {R : MR} {S : Sh} {Q : SkQ} : Wp 18 9 ls (.int x :: st) I J R S Q = Wp 18 10 ls (.long x.toInt64 :: st) I J R S Q := o_i2l k_L_reason_9
theorem k_L_reason_10 : decode (sk_by 18) 10 = .ok (.lastore, 1) := by decide +kernel
theorem x_L_reason_10 {ls st : List Value} {a : Nat} {i : Int32} {x : Int64} {I : MI} {J : MJ} {R : MR} {S : Sh} {Q : SkQ} (ha : S.1 a = 31) (hi : inb i (S.2.1 a) = true) : Wp 18 10 ls (.long x :: .int i :: .ref a :: st) I J R S Q = Wp 18 11 ls st I (u2 J a (ix i) x) R S Q := o_lastore k_L_reason_10 ha hi
theorem k_L_reason_11 : decode (sk_by 18) 11 = .ok (.goto 7, 3) := by decide +kernel
theorem x_L_reason_11 {ls st : List Value} {I : MI} {J : MJ} {R : MR} {S : Sh} {Q : SkQ} : Wp 18 11 ls st I J R S Q = Wp 18 18 ls st I J R S Q := o_goto rfl rfl k_L_reason_11
theorem k_L_reason_16 : decode (sk_by 18) 16 = .ok (.iconst 1, 1) := by decide +kernel
theorem x_L_reason_16 {ls st : List Value} {I : MI} {J : MJ} {R : MR} {S : Sh} {Q : SkQ} : Wp 18 16 ls st I J R S Q = Wp 18 17 ls (.int 1 :: st) I J R S Q := o_const (by decide) k_L_reason_16
theorem k_L_reason_17 : decode (sk_by 18) 17 = .ok (.ireturn, 1) := by decide +kernel
theorem x_L_reason_17 {ls : List Value} {v : Int32} {I : MI} {J : MJ} {R : MR} {S : Sh} {Q : SkQ} : Wp 18 17 ls [.int v] I J R S Q = Q 0 (some (.int v)) I J R S := o_ireturn k_L_reason_17 rfl
theorem k_L_reason_18 : decode (sk_by 18) 18 = .ok (.iconst 0, 1) := by decide +kernel
theorem x_L_reason_18 {ls st : List Value} {I : MI} {J : MJ} {R : MR} {S : Sh} {Q : SkQ} : Wp 18 18 ls st I J R S Q = Wp 18 19 ls (.int 0 :: st) I J R S Q := o_const (by decide) k_L_reason_18
theorem k_L_reason_19 : decode (sk_by 18) 19 = .ok (.ireturn, 1) := by decide +kernel
theorem x_L_reason_19 {ls : List Value} {v : Int32} {I : MI} {J : MJ} {R : MR} {S : Sh} {Q : SkQ} : Wp 18 19 ls [.int v] I J R S Q = Q 0 (some (.int v)) I J R S := o_ireturn k_L_reason_19 rfl
theorem k_L_risk_0 : decode (sk_by 19) 0 = .ok (.aload_n 3, 1) := by decide +kernel
theorem x_L_risk_0 {st : List Value} {l0 : Nat} {l1 : Int64} {x : Nat} {I : MI} {J : MJ} {R : MR} {S : Sh} {Q : SkQ} : Wp 19 0 [.ref l0, .long l1, nov, .ref x, nov] st I J R S Q = Wp 19 1 [.ref l0, .long l1, nov, .ref x, nov] (.ref x :: st) I J R S Q := o_aload_n rfl k_L_risk_0
theorem k_L_risk_1 : decode (sk_by 19) 1 = .ok (.iconst 0, 1) := by decide +kernel
theorem x_L_risk_1 {ls st : List Value} {I : MI} {J : MJ} {R : MR} {S : Sh} {Q : SkQ} : Wp 19 1 ls st I J R S Q = Wp 19 2 ls (.int 0 :: st) I J R S Q := o_const (by decide) k_L_risk_1
theorem k_L_risk_2 : decode (sk_by 19) 2 = .ok (.aload_n 0, 1) := by decide +kernel
theorem x_L_risk_2 {st : List Value} {l1 : Int64} {l3 : Nat} {x : Nat} {I : MI} {J : MJ} {R : MR} {S : Sh} {Q : SkQ} : Wp 19 2 [.ref x, .long l1, nov, .ref l3, nov] st I J R S Q = Wp 19 3 [.ref x, .long l1, nov, .ref l3, nov] (.ref x :: st) I J R S Q := o_aload_n rfl k_L_risk_2
theorem k_L_risk_3 : decode (sk_by 19) 3 = .ok (.lload_n 1, 1) := by decide +kernel
theorem x_L_risk_3 {st : List Value} {l0 : Nat} {l3 : Nat} {x : Int64} {I : MI} {J : MJ} {R : MR} {S : Sh} {Q : SkQ} : Wp 19 3 [.ref l0, .long x, nov, .ref l3, nov] st I J R S Q = Wp 19 4 [.ref l0, .long x, nov, .ref l3, nov] (.long x :: st) I J R S Q := o_lload_n rfl k_L_risk_3
theorem k_L_risk_4 : decode (sk_by 19) 4 = .ok (.invokevirtual 80, 3) := by decide +kernel
theorem x_L_risk_4 {ls : List Value} {a0 : Nat} {a1 : Int64} {s0 : Int32} {s1 : Nat} {I : MI} {J : MJ} {R : MR} {S : Sh} {Q : SkQ} (ha : S.1 a0 = 7) : Wp 19 4 ls (.long a1 :: .ref a0 :: [.int s0, .ref s1]) I J R S Q = Wp 44 0 [.ref a0, .long a1, nov] [] I J R S (Ret 19 4 7 44 ls [.int s0, .ref s1] Q) := o_call (as := [.ref a0, .long a1]) (rest := [.int s0, .ref s1]) (show sk_lkM (sk_cl 19) 80 = some 44 by decide +kernel) (by decide) (by decide) (by (decide +kernel)) (ins := .invokevirtual 80) (by (decide +kernel)) k_L_risk_4 rfl (show 2 = sk_na 44 by (decide +kernel)) (Nat.le_of_ble_eq_true rfl) (Nat.le_trans (show (argL [.ref a0, .long a1]).length ≤ 3 from Nat.le_of_ble_eq_true rfl) (by (decide +kernel))) (rcv_of (by (decide +kernel)) (by decide) ha)
theorem k_L_risk_7 : decode (sk_by 19) 7 = .ok (.i2l, 1) := by decide +kernel
theorem x_L_risk_7 {ls st : List Value} {x : Int32} {I : MI} {J : MJ} {R : MR} {S : Sh} {Q : SkQ} : Wp 19 7 ls (.int x :: st) I J R S Q = Wp 19 8 ls (.long x.toInt64 :: st) I J R S Q := o_i2l k_L_risk_7
theorem k_L_risk_8 : decode (sk_by 19) 8 = .ok (.lastore, 1) := by decide +kernel
theorem x_L_risk_8 {ls st : List Value} {a : Nat} {i : Int32} {x : Int64} {I : MI} {J : MJ} {R : MR} {S : Sh} {Q : SkQ} (ha : S.1 a = 31) (hi : inb i (S.2.1 a) = true) : Wp 19 8 ls (.long x :: .int i :: .ref a :: st) I J R S Q = Wp 19 9 ls st I (u2 J a (ix i) x) R S Q := o_lastore k_L_risk_8 ha hi
theorem k_L_risk_9 : decode (sk_by 19) 9 = .ok (.goto 7, 3) := by decide +kernel
theorem x_L_risk_9 {ls st : List Value} {I : MI} {J : MJ} {R : MR} {S : Sh} {Q : SkQ} : Wp 19 9 ls st I J R S Q = Wp 19 16 ls st I J R S Q := o_goto rfl rfl k_L_risk_9
theorem k_L_risk_14 : decode (sk_by 19) 14 = .ok (.iconst 1, 1) := by decide +kernel
theorem x_L_risk_14 {ls st : List Value} {I : MI} {J : MJ} {R : MR} {S : Sh} {Q : SkQ} : Wp 19 14 ls st I J R S Q = Wp 19 15 ls (.int 1 :: st) I J R S Q := o_const (by decide) k_L_risk_14
theorem k_L_risk_15 : decode (sk_by 19) 15 = .ok (.ireturn, 1) := by decide +kernel
theorem x_L_risk_15 {ls : List Value} {v : Int32} {I : MI} {J : MJ} {R : MR} {S : Sh} {Q : SkQ} : Wp 19 15 ls [.int v] I J R S Q = Q 0 (some (.int v)) I J R S := o_ireturn k_L_risk_15 rfl
theorem k_L_risk_16 : decode (sk_by 19) 16 = .ok (.iconst 0, 1) := by decide +kernel
theorem x_L_risk_16 {ls st : List Value} {I : MI} {J : MJ} {R : MR} {S : Sh} {Q : SkQ} : Wp 19 16 ls st I J R S Q = Wp 19 17 ls (.int 0 :: st) I J R S Q := o_const (by decide) k_L_risk_16
theorem k_L_risk_17 : decode (sk_by 19) 17 = .ok (.ireturn, 1) := by decide +kernel
theorem x_L_risk_17 {ls : List Value} {v : Int32} {I : MI} {J : MJ} {R : MR} {S : Sh} {Q : SkQ} : Wp 19 17 ls [.int v] I J R S Q = Q 0 (some (.int v)) I J R S := o_ireturn k_L_risk_17 rfl
theorem k_L_bestDropping_0 : decode (sk_by 20) 0 = .ok (.aload 5, 2) := by decide +kernel
theorem x_L_bestDropping_0 {st : List Value} {l0 : Nat} {l1 : Int64} {l3 : Int64} {x : Nat} {I : MI} {J : MJ} {R : MR} {S : Sh} {Q : SkQ} : Wp 20 0 [.ref l0, .long l1, nov, .long l3, nov, .ref x, nov] st I J R S Q = Wp 20 2 [.ref l0, .long l1, nov, .long l3, nov, .ref x, nov] (.ref x :: st) I J R S Q := o_aload rfl k_L_bestDropping_0
theorem k_L_bestDropping_2 : decode (sk_by 20) 2 = .ok (.iconst 0, 1) := by decide +kernel
theorem x_L_bestDropping_2 {ls st : List Value} {I : MI} {J : MJ} {R : MR} {S : Sh} {Q : SkQ} : Wp 20 2 ls st I J R S Q = Wp 20 3 ls (.int 0 :: st) I J R S Q := o_const (by decide) k_L_bestDropping_2
theorem k_L_bestDropping_3 : decode (sk_by 20) 3 = .ok (.aload_n 0, 1) := by decide +kernel
theorem x_L_bestDropping_3 {st : List Value} {l1 : Int64} {l3 : Int64} {l5 : Nat} {x : Nat} {I : MI} {J : MJ} {R : MR} {S : Sh} {Q : SkQ} : Wp 20 3 [.ref x, .long l1, nov, .long l3, nov, .ref l5, nov] st I J R S Q = Wp 20 4 [.ref x, .long l1, nov, .long l3, nov, .ref l5, nov] (.ref x :: st) I J R S Q := o_aload_n rfl k_L_bestDropping_3
theorem k_L_bestDropping_4 : decode (sk_by 20) 4 = .ok (.lload_n 1, 1) := by decide +kernel
theorem x_L_bestDropping_4 {st : List Value} {l0 : Nat} {l3 : Int64} {l5 : Nat} {x : Int64} {I : MI} {J : MJ} {R : MR} {S : Sh} {Q : SkQ} : Wp 20 4 [.ref l0, .long x, nov, .long l3, nov, .ref l5, nov] st I J R S Q = Wp 20 5 [.ref l0, .long x, nov, .long l3, nov, .ref l5, nov] (.long x :: st) I J R S Q := o_lload_n rfl k_L_bestDropping_4
theorem k_L_bestDropping_5 : decode (sk_by 20) 5 = .ok (.lload_n 3, 1) := by decide +kernel
theorem x_L_bestDropping_5 {st : List Value} {l0 : Nat} {l1 : Int64} {l5 : Nat} {x : Int64} {I : MI} {J : MJ} {R : MR} {S : Sh} {Q : SkQ} : Wp 20 5 [.ref l0, .long l1, nov, .long x, nov, .ref l5, nov] st I J R S Q = Wp 20 6 [.ref l0, .long l1, nov, .long x, nov, .ref l5, nov] (.long x :: st) I J R S Q := o_lload_n rfl k_L_bestDropping_5
theorem k_L_bestDropping_6 : decode (sk_by 20) 6 = .ok (.invokevirtual 83, 3) := by decide +kernel
theorem x_L_bestDropping_6 {ls : List Value} {a0 : Nat} {a1 : Int64} {a2 : Int64} {s0 : Int32} {s1 : Nat} {I : MI} {J : MJ} {R : MR} {S : Sh} {Q : SkQ} (ha : S.1 a0 = 7) : Wp 20 6 ls (.long a2 :: .long a1 :: .ref a0 :: [.int s0, .ref s1]) I J R S Q = Wp 46 0 [.ref a0, .long a1, nov, .long a2, nov] [] I J R S (Ret 20 6 9 46 ls [.int s0, .ref s1] Q) := o_call (as := [.ref a0, .long a1, .long a2]) (rest := [.int s0, .ref s1]) (show sk_lkM (sk_cl 20) 83 = some 46 by decide +kernel) (by decide) (by decide) (by (decide +kernel)) (ins := .invokevirtual 83) (by (decide +kernel)) k_L_bestDropping_6 rfl (show 3 = sk_na 46 by (decide +kernel)) (Nat.le_of_ble_eq_true rfl) (Nat.le_trans (show (argL [.ref a0, .long a1, .long a2]).length ≤ 5 from Nat.le_of_ble_eq_true rfl) (by (decide +kernel))) (rcv_of (by (decide +kernel)) (by decide) ha)
theorem k_L_bestDropping_9 : decode (sk_by 20) 9 = .ok (.i2l, 1) := by decide +kernel
theorem x_L_bestDropping_9 {ls st : List Value} {x : Int32} {I : MI} {J : MJ} {R : MR} {S : Sh} {Q : SkQ} : Wp 20 9 ls (.int x :: st) I J R S Q = Wp 20 10 ls (.long x.toInt64 :: st) I J R S Q := o_i2l k_L_bestDropping_9
theorem k_L_bestDropping_10 : decode (sk_by 20) 10 = .ok (.lastore, 1) := by decide +kernel
theorem x_L_bestDropping_10 {ls st : List Value} {a : Nat} {i : Int32} {x : Int64} {I : MI} {J : MJ} {R : MR} {S : Sh} {Q : SkQ} (ha : S.1 a = 31) (hi : inb i (S.2.1 a) = true) : Wp 20 10 ls (.long x :: .int i :: .ref a :: st) I J R S Q = Wp 20 11 ls st I (u2 J a (ix i) x) R S Q := o_lastore k_L_bestDropping_10 ha hi
theorem k_L_bestDropping_11 : decode (sk_by 20) 11 = .ok (.goto 7, 3) := by decide +kernel
theorem x_L_bestDropping_11 {ls st : List Value} {I : MI} {J : MJ} {R : MR} {S : Sh} {Q : SkQ} : Wp 20 11 ls st I J R S Q = Wp 20 18 ls st I J R S Q := o_goto rfl rfl k_L_bestDropping_11
theorem k_L_bestDropping_16 : decode (sk_by 20) 16 = .ok (.iconst 1, 1) := by decide +kernel
theorem x_L_bestDropping_16 {ls st : List Value} {I : MI} {J : MJ} {R : MR} {S : Sh} {Q : SkQ} : Wp 20 16 ls st I J R S Q = Wp 20 17 ls (.int 1 :: st) I J R S Q := o_const (by decide) k_L_bestDropping_16
theorem k_L_bestDropping_17 : decode (sk_by 20) 17 = .ok (.ireturn, 1) := by decide +kernel
theorem x_L_bestDropping_17 {ls : List Value} {v : Int32} {I : MI} {J : MJ} {R : MR} {S : Sh} {Q : SkQ} : Wp 20 17 ls [.int v] I J R S Q = Q 0 (some (.int v)) I J R S := o_ireturn k_L_bestDropping_17 rfl
theorem k_L_bestDropping_18 : decode (sk_by 20) 18 = .ok (.iconst 0, 1) := by decide +kernel
theorem x_L_bestDropping_18 {ls st : List Value} {I : MI} {J : MJ} {R : MR} {S : Sh} {Q : SkQ} : Wp 20 18 ls st I J R S Q = Wp 20 19 ls (.int 0 :: st) I J R S Q := o_const (by decide) k_L_bestDropping_18
theorem k_L_bestDropping_19 : decode (sk_by 20) 19 = .ok (.ireturn, 1) := by decide +kernel
theorem x_L_bestDropping_19 {ls : List Value} {v : Int32} {I : MI} {J : MJ} {R : MR} {S : Sh} {Q : SkQ} : Wp 20 19 ls [.int v] I J R S Q = Q 0 (some (.int v)) I J R S := o_ireturn k_L_bestDropping_19 rfl
theorem k_L_type_0 : decode (sk_by 21) 0 = .ok (.aload_n 2, 1) := by decide +kernel
theorem x_L_type_0 {st : List Value} {l0 : Nat} {l1 : Int32} {x : Nat} {I : MI} {J : MJ} {R : MR} {S : Sh} {Q : SkQ} : Wp 21 0 [.ref l0, .int l1, .ref x, nov] st I J R S Q = Wp 21 1 [.ref l0, .int l1, .ref x, nov] (.ref x :: st) I J R S Q := o_aload_n rfl k_L_type_0
theorem k_L_type_1 : decode (sk_by 21) 1 = .ok (.iconst 0, 1) := by decide +kernel
theorem x_L_type_1 {ls st : List Value} {I : MI} {J : MJ} {R : MR} {S : Sh} {Q : SkQ} : Wp 21 1 ls st I J R S Q = Wp 21 2 ls (.int 0 :: st) I J R S Q := o_const (by decide) k_L_type_1
theorem k_L_type_2 : decode (sk_by 21) 2 = .ok (.aload_n 0, 1) := by decide +kernel
theorem x_L_type_2 {st : List Value} {l1 : Int32} {l2 : Nat} {x : Nat} {I : MI} {J : MJ} {R : MR} {S : Sh} {Q : SkQ} : Wp 21 2 [.ref x, .int l1, .ref l2, nov] st I J R S Q = Wp 21 3 [.ref x, .int l1, .ref l2, nov] (.ref x :: st) I J R S Q := o_aload_n rfl k_L_type_2
theorem k_L_type_3 : decode (sk_by 21) 3 = .ok (.iload_n 1, 1) := by decide +kernel
theorem x_L_type_3 {st : List Value} {l0 : Nat} {l2 : Nat} {x : Int32} {I : MI} {J : MJ} {R : MR} {S : Sh} {Q : SkQ} : Wp 21 3 [.ref l0, .int x, .ref l2, nov] st I J R S Q = Wp 21 4 [.ref l0, .int x, .ref l2, nov] (.int x :: st) I J R S Q := o_iload_n rfl k_L_type_3
theorem k_L_type_4 : decode (sk_by 21) 4 = .ok (.invokevirtual 86, 3) := by decide +kernel
theorem x_L_type_4 {ls : List Value} {a0 : Nat} {a1 : Int32} {s0 : Int32} {s1 : Nat} {I : MI} {J : MJ} {R : MR} {S : Sh} {Q : SkQ} (ha : S.1 a0 = 7) : Wp 21 4 ls (.int a1 :: .ref a0 :: [.int s0, .ref s1]) I J R S Q = Wp 47 0 [.ref a0, .int a1] [] I J R S (Ret 21 4 7 47 ls [.int s0, .ref s1] Q) := o_call (as := [.ref a0, .int a1]) (rest := [.int s0, .ref s1]) (show sk_lkM (sk_cl 21) 86 = some 47 by decide +kernel) (by decide) (by decide) (by (decide +kernel)) (ins := .invokevirtual 86) (by (decide +kernel)) k_L_type_4 rfl (show 2 = sk_na 47 by (decide +kernel)) (Nat.le_of_ble_eq_true rfl) (Nat.le_trans (show (argL [.ref a0, .int a1]).length ≤ 2 from Nat.le_of_ble_eq_true rfl) (by (decide +kernel))) (rcv_of (by (decide +kernel)) (by decide) ha)
theorem k_L_type_7 : decode (sk_by 21) 7 = .ok (.i2l, 1) := by decide +kernel
theorem x_L_type_7 {ls st : List Value} {x : Int32} {I : MI} {J : MJ} {R : MR} {S : Sh} {Q : SkQ} : Wp 21 7 ls (.int x :: st) I J R S Q = Wp 21 8 ls (.long x.toInt64 :: st) I J R S Q := o_i2l k_L_type_7
theorem k_L_type_8 : decode (sk_by 21) 8 = .ok (.lastore, 1) := by decide +kernel
theorem x_L_type_8 {ls st : List Value} {a : Nat} {i : Int32} {x : Int64} {I : MI} {J : MJ} {R : MR} {S : Sh} {Q : SkQ} (ha : S.1 a = 31) (hi : inb i (S.2.1 a) = true) : Wp 21 8 ls (.long x :: .int i :: .ref a :: st) I J R S Q = Wp 21 9 ls st I (u2 J a (ix i) x) R S Q := o_lastore k_L_type_8 ha hi
theorem k_L_type_9 : decode (sk_by 21) 9 = .ok (.goto 9, 3) := by decide +kernel
theorem x_L_type_9 {ls st : List Value} {I : MI} {J : MJ} {R : MR} {S : Sh} {Q : SkQ} : Wp 21 9 ls st I J R S Q = Wp 21 18 ls st I J R S Q := o_goto rfl rfl k_L_type_9
theorem k_L_type_13 : decode (sk_by 21) 13 = .ok (.iconst 1, 1) := by decide +kernel
theorem x_L_type_13 {ls st : List Value} {I : MI} {J : MJ} {R : MR} {S : Sh} {Q : SkQ} : Wp 21 13 ls st I J R S Q = Wp 21 14 ls (.int 1 :: st) I J R S Q := o_const (by decide) k_L_type_13
theorem k_L_type_14 : decode (sk_by 21) 14 = .ok (.ireturn, 1) := by decide +kernel
theorem x_L_type_14 {ls : List Value} {v : Int32} {I : MI} {J : MJ} {R : MR} {S : Sh} {Q : SkQ} : Wp 21 14 ls [.int v] I J R S Q = Q 0 (some (.int v)) I J R S := o_ireturn k_L_type_14 rfl
theorem k_L_type_16 : decode (sk_by 21) 16 = .ok (.iconst 2, 1) := by decide +kernel
theorem x_L_type_16 {ls st : List Value} {I : MI} {J : MJ} {R : MR} {S : Sh} {Q : SkQ} : Wp 21 16 ls st I J R S Q = Wp 21 17 ls (.int 2 :: st) I J R S Q := o_const (by decide) k_L_type_16
theorem k_L_type_17 : decode (sk_by 21) 17 = .ok (.ireturn, 1) := by decide +kernel
theorem x_L_type_17 {ls : List Value} {v : Int32} {I : MI} {J : MJ} {R : MR} {S : Sh} {Q : SkQ} : Wp 21 17 ls [.int v] I J R S Q = Q 0 (some (.int v)) I J R S := o_ireturn k_L_type_17 rfl
theorem k_L_type_18 : decode (sk_by 21) 18 = .ok (.iconst 0, 1) := by decide +kernel
theorem x_L_type_18 {ls st : List Value} {I : MI} {J : MJ} {R : MR} {S : Sh} {Q : SkQ} : Wp 21 18 ls st I J R S Q = Wp 21 19 ls (.int 0 :: st) I J R S Q := o_const (by decide) k_L_type_18
theorem k_L_type_19 : decode (sk_by 21) 19 = .ok (.ireturn, 1) := by decide +kernel
theorem x_L_type_19 {ls : List Value} {v : Int32} {I : MI} {J : MJ} {R : MR} {S : Sh} {Q : SkQ} : Wp 21 19 ls [.int v] I J R S Q = Q 0 (some (.int v)) I J R S := o_ireturn k_L_type_19 rfl
theorem k_L_undo_0 : decode (sk_by 22) 0 = .ok (.aload_n 1, 1) := by decide +kernel
theorem x_L_undo_0 {st : List Value} {l0 : Nat} {x : Nat} {I : MI} {J : MJ} {R : MR} {S : Sh} {Q : SkQ} : Wp 22 0 [.ref l0, .ref x, nov] st I J R S Q = Wp 22 1 [.ref l0, .ref x, nov] (.ref x :: st) I J R S Q := o_aload_n rfl k_L_undo_0
theorem k_L_undo_1 : decode (sk_by 22) 1 = .ok (.iconst 0, 1) := by decide +kernel
theorem x_L_undo_1 {ls st : List Value} {I : MI} {J : MJ} {R : MR} {S : Sh} {Q : SkQ} : Wp 22 1 ls st I J R S Q = Wp 22 2 ls (.int 0 :: st) I J R S Q := o_const (by decide) k_L_undo_1
theorem k_L_undo_2 : decode (sk_by 22) 2 = .ok (.aload_n 0, 1) := by decide +kernel
theorem x_L_undo_2 {st : List Value} {l1 : Nat} {x : Nat} {I : MI} {J : MJ} {R : MR} {S : Sh} {Q : SkQ} : Wp 22 2 [.ref x, .ref l1, nov] st I J R S Q = Wp 22 3 [.ref x, .ref l1, nov] (.ref x :: st) I J R S Q := o_aload_n rfl k_L_undo_2
theorem k_L_undo_3 : decode (sk_by 22) 3 = .ok (.invokevirtual 89, 3) := by decide +kernel
theorem x_L_undo_3 {ls : List Value} {a0 : Nat} {s0 : Int32} {s1 : Nat} {I : MI} {J : MJ} {R : MR} {S : Sh} {Q : SkQ} (ha : S.1 a0 = 7) : Wp 22 3 ls (.ref a0 :: [.int s0, .ref s1]) I J R S Q = Wp 50 0 [.ref a0] [] I J R S (Ret 22 3 6 50 ls [.int s0, .ref s1] Q) := o_call (as := [.ref a0]) (rest := [.int s0, .ref s1]) (show sk_lkM (sk_cl 22) 89 = some 50 by decide +kernel) (by decide) (by decide) (by (decide +kernel)) (ins := .invokevirtual 89) (by (decide +kernel)) k_L_undo_3 rfl (show 1 = sk_na 50 by (decide +kernel)) (Nat.le_of_ble_eq_true rfl) (Nat.le_trans (show (argL [.ref a0]).length ≤ 1 from Nat.le_of_ble_eq_true rfl) (by (decide +kernel))) (rcv_of (by (decide +kernel)) (by decide) ha)
theorem k_L_undo_6 : decode (sk_by 22) 6 = .ok (.i2l, 1) := by decide +kernel
theorem x_L_undo_6 {ls st : List Value} {x : Int32} {I : MI} {J : MJ} {R : MR} {S : Sh} {Q : SkQ} : Wp 22 6 ls (.int x :: st) I J R S Q = Wp 22 7 ls (.long x.toInt64 :: st) I J R S Q := o_i2l k_L_undo_6
theorem k_L_undo_7 : decode (sk_by 22) 7 = .ok (.lastore, 1) := by decide +kernel
theorem x_L_undo_7 {ls st : List Value} {a : Nat} {i : Int32} {x : Int64} {I : MI} {J : MJ} {R : MR} {S : Sh} {Q : SkQ} (ha : S.1 a = 31) (hi : inb i (S.2.1 a) = true) : Wp 22 7 ls (.long x :: .int i :: .ref a :: st) I J R S Q = Wp 22 8 ls st I (u2 J a (ix i) x) R S Q := o_lastore k_L_undo_7 ha hi
theorem k_L_undo_8 : decode (sk_by 22) 8 = .ok (.goto 6, 3) := by decide +kernel
theorem x_L_undo_8 {ls st : List Value} {I : MI} {J : MJ} {R : MR} {S : Sh} {Q : SkQ} : Wp 22 8 ls st I J R S Q = Wp 22 14 ls st I J R S Q := o_goto rfl rfl k_L_undo_8
theorem k_L_undo_12 : decode (sk_by 22) 12 = .ok (.iconst 1, 1) := by decide +kernel
theorem x_L_undo_12 {ls st : List Value} {I : MI} {J : MJ} {R : MR} {S : Sh} {Q : SkQ} : Wp 22 12 ls st I J R S Q = Wp 22 13 ls (.int 1 :: st) I J R S Q := o_const (by decide) k_L_undo_12
theorem k_L_undo_13 : decode (sk_by 22) 13 = .ok (.ireturn, 1) := by decide +kernel
theorem x_L_undo_13 {ls : List Value} {v : Int32} {I : MI} {J : MJ} {R : MR} {S : Sh} {Q : SkQ} : Wp 22 13 ls [.int v] I J R S Q = Q 0 (some (.int v)) I J R S := o_ireturn k_L_undo_13 rfl
theorem k_L_undo_14 : decode (sk_by 22) 14 = .ok (.iconst 0, 1) := by decide +kernel
theorem x_L_undo_14 {ls st : List Value} {I : MI} {J : MJ} {R : MR} {S : Sh} {Q : SkQ} : Wp 22 14 ls st I J R S Q = Wp 22 15 ls (.int 0 :: st) I J R S Q := o_const (by decide) k_L_undo_14
theorem k_L_undo_15 : decode (sk_by 22) 15 = .ok (.ireturn, 1) := by decide +kernel
theorem x_L_undo_15 {ls : List Value} {v : Int32} {I : MI} {J : MJ} {R : MR} {S : Sh} {Q : SkQ} : Wp 22 15 ls [.int v] I J R S Q = Q 0 (some (.int v)) I J R S := o_ireturn k_L_undo_15 rfl
theorem k_L_law_0 : decode (sk_by 23) 0 = .ok (.new 8, 3) := by decide +kernel
theorem x_L_law_0 {ls st : List Value} {I : MI} {J : MJ} {R : MR} {S : Sh} {Q : SkQ} (h0 : S.2.2.2.1 = 0) : Wp 23 0 ls st I J R S Q = Wp 23 3 ls (.ref S.2.2.1 :: st) (u1 I S.2.2.1 0) (u1 J S.2.2.1 0) (u1 R S.2.2.1 .null) (sh_new S 7 0 5) Q := o_new (show sk_th 23 0 = none by decide +kernel) (show sk_lkN (sk_cl 23) 8 = some 7 by decide +kernel) (by decide) (by (decide +kernel)) k_L_law_0 h0
theorem k_L_law_3 : decode (sk_by 23) 3 = .ok (.dup, 1) := by decide +kernel
theorem x_L_law_3 {ls st : List Value} {x : Nat} {I : MI} {J : MJ} {R : MR} {S : Sh} {Q : SkQ} : Wp 23 3 ls (.ref x :: st) I J R S Q = Wp 23 4 ls (.ref x :: .ref x :: st) I J R S Q := o_dupR k_L_law_3
theorem k_L_law_4 : decode (sk_by 23) 4 = .ok (.invokespecial 93, 3) := by decide +kernel
theorem x_L_law_4 {ls : List Value} {a0 : Nat} {s0 : Nat} {I : MI} {J : MJ} {R : MR} {S : Sh} {Q : SkQ} (ha : S.1 a0 = 7) : Wp 23 4 ls (.ref a0 :: [.ref s0]) I J R S Q = Wp 24 0 [.ref a0] [] I J R S (Ret 23 4 7 24 ls [.ref s0] Q) := o_call (as := [.ref a0]) (rest := [.ref s0]) (show sk_lkM (sk_cl 23) 93 = some 24 by decide +kernel) (by decide) (by decide) (by (decide +kernel)) (ins := .invokespecial 93) (by (decide +kernel)) k_L_law_4 rfl (show 1 = sk_na 24 by (decide +kernel)) (Nat.le_of_ble_eq_true rfl) (Nat.le_trans (show (argL [.ref a0]).length ≤ 1 from Nat.le_of_ble_eq_true rfl) (by (decide +kernel))) (rcv_of (by (decide +kernel)) (by decide) ha)
theorem k_L_law_7 : decode (sk_by 23) 7 = .ok (.astore_n 1, 1) := by decide +kernel
theorem x_L_law_7 {st : List Value} {l0 : Nat} {x : Nat} {I : MI} {J : MJ} {R : MR} {S : Sh} {Q : SkQ} : Wp 23 7 [.ref l0, nov, nov, nov, nov, nov, nov, nov] (.ref x :: st) I J R S Q = Wp 23 8 [.ref l0, .ref x, nov, nov, nov, nov, nov, nov] st I J R S Q := o_astore_n (Nat.le_of_ble_eq_true rfl) rfl k_L_law_7
theorem k_L_law_8 : decode (sk_by 23) 8 = .ok (.new 94, 3) := by decide +kernel
theorem x_L_law_8 {ls st : List Value} {I : MI} {J : MJ} {R : MR} {S : Sh} {Q : SkQ} (h0 : S.2.2.2.1 = 0) : Wp 23 8 ls st I J R S Q = Wp 23 11 ls (.ref S.2.2.1 :: st) (u1 I S.2.2.1 0) (u1 J S.2.2.1 0) (u1 R S.2.2.1 .null) (sh_new S 8 0 18) Q := o_new (show sk_th 23 8 = none by decide +kernel) (show sk_lkN (sk_cl 23) 94 = some 8 by decide +kernel) (by decide) (by (decide +kernel)) k_L_law_8 h0
theorem k_L_law_11 : decode (sk_by 23) 11 = .ok (.dup, 1) := by decide +kernel
theorem x_L_law_11 {ls st : List Value} {x : Nat} {I : MI} {J : MJ} {R : MR} {S : Sh} {Q : SkQ} : Wp 23 11 ls (.ref x :: st) I J R S Q = Wp 23 12 ls (.ref x :: .ref x :: st) I J R S Q := o_dupR k_L_law_11
theorem k_L_law_12 : decode (sk_by 23) 12 = .ok (.invokespecial 96, 3) := by decide +kernel
theorem x_L_law_12 {ls : List Value} {a0 : Nat} {s0 : Nat} {I : MI} {J : MJ} {R : MR} {S : Sh} {Q : SkQ} (ha : S.1 a0 = 8) : Wp 23 12 ls (.ref a0 :: [.ref s0]) I J R S Q = Wp 173 0 [.ref a0] [] I J R S (Ret 23 12 15 173 ls [.ref s0] Q) := o_call (as := [.ref a0]) (rest := [.ref s0]) (show sk_lkM (sk_cl 23) 96 = some 173 by decide +kernel) (by decide) (by decide) (by (decide +kernel)) (ins := .invokespecial 96) (by (decide +kernel)) k_L_law_12 rfl (show 1 = sk_na 173 by (decide +kernel)) (Nat.le_of_ble_eq_true rfl) (Nat.le_trans (show (argL [.ref a0]).length ≤ 1 from Nat.le_of_ble_eq_true rfl) (by (decide +kernel))) (rcv_of (by (decide +kernel)) (by decide) ha)
theorem k_L_law_15 : decode (sk_by 23) 15 = .ok (.astore_n 2, 1) := by decide +kernel
theorem x_L_law_15 {st : List Value} {l0 : Nat} {l1 : Nat} {x : Nat} {I : MI} {J : MJ} {R : MR} {S : Sh} {Q : SkQ} : Wp 23 15 [.ref l0, .ref l1, nov, nov, nov, nov, nov, nov] (.ref x :: st) I J R S Q = Wp 23 16 [.ref l0, .ref l1, .ref x, nov, nov, nov, nov, nov] st I J R S Q := o_astore_n (Nat.le_of_ble_eq_true rfl) rfl k_L_law_15
theorem k_L_law_16 : decode (sk_by 23) 16 = .ok (.iconst 1, 1) := by decide +kernel
theorem x_L_law_16 {ls st : List Value} {I : MI} {J : MJ} {R : MR} {S : Sh} {Q : SkQ} : Wp 23 16 ls st I J R S Q = Wp 23 17 ls (.int 1 :: st) I J R S Q := o_const (by decide) k_L_law_16
theorem k_L_law_17 : decode (sk_by 23) 17 = .ok (.newarray .long, 2) := by decide +kernel
theorem x_L_law_17 {ls st : List Value} {n : Int32} {I : MI} {J : MJ} {R : MR} {S : Sh} {Q : SkQ} (h0 : S.2.2.2.1 = 0) (hn : 0 ≤ n.toInt ∧ n.toInt ≤ 100000) : Wp 23 17 ls (.int n :: st) I J R S Q = Wp 23 19 ls (.ref S.2.2.1 :: st) I (u1 J S.2.2.1 0) R (sh_new S 31 (ix n) (ix n)) Q := o_newL k_L_law_17 h0 hn
theorem k_L_law_19 : decode (sk_by 23) 19 = .ok (.astore_n 3, 1) := by decide +kernel
theorem x_L_law_19 {st : List Value} {l0 : Nat} {l1 : Nat} {l2 : Nat} {x : Nat} {I : MI} {J : MJ} {R : MR} {S : Sh} {Q : SkQ} : Wp 23 19 [.ref l0, .ref l1, .ref l2, nov, nov, nov, nov, nov] (.ref x :: st) I J R S Q = Wp 23 20 [.ref l0, .ref l1, .ref l2, .ref x, nov, nov, nov, nov] st I J R S Q := o_astore_n (Nat.le_of_ble_eq_true rfl) rfl k_L_law_19
theorem k_L_law_20 : decode (sk_by 23) 20 = .ok (.iconst 0, 1) := by decide +kernel
theorem x_L_law_20 {ls st : List Value} {I : MI} {J : MJ} {R : MR} {S : Sh} {Q : SkQ} : Wp 23 20 ls st I J R S Q = Wp 23 21 ls (.int 0 :: st) I J R S Q := o_const (by decide) k_L_law_20
theorem k_L_law_21 : decode (sk_by 23) 21 = .ok (.istore 4, 2) := by decide +kernel
theorem x_L_law_21 {st : List Value} {l0 : Nat} {l1 : Nat} {l2 : Nat} {l3 : Nat} {x : Int32} {I : MI} {J : MJ} {R : MR} {S : Sh} {Q : SkQ} : Wp 23 21 [.ref l0, .ref l1, .ref l2, .ref l3, nov, nov, nov, nov] (.int x :: st) I J R S Q = Wp 23 23 [.ref l0, .ref l1, .ref l2, .ref l3, .int x, nov, nov, nov] st I J R S Q := o_istore (Nat.le_of_ble_eq_true rfl) rfl k_L_law_21
theorem k_L_law_23 : decode (sk_by 23) 23 = .ok (.iload 4, 2) := by decide +kernel
theorem x_L_law_23 {st : List Value} {l0 : Nat} {l1 : Nat} {l2 : Nat} {l3 : Nat} {l5 : Value} {l6 : Value} {x : Int32} {I : MI} {J : MJ} {R : MR} {S : Sh} {Q : SkQ} : Wp 23 23 [.ref l0, .ref l1, .ref l2, .ref l3, .int x, l5, l6, nov] st I J R S Q = Wp 23 25 [.ref l0, .ref l1, .ref l2, .ref l3, .int x, l5, l6, nov] (.int x :: st) I J R S Q := o_iload rfl k_L_law_23
theorem k_L_law_25 : decode (sk_by 23) 25 = .ok (.aload_n 0, 1) := by decide +kernel
theorem x_L_law_25 {st : List Value} {l1 : Nat} {l2 : Nat} {l3 : Nat} {l4 : Int32} {l5 : Value} {l6 : Value} {x : Nat} {I : MI} {J : MJ} {R : MR} {S : Sh} {Q : SkQ} : Wp 23 25 [.ref x, .ref l1, .ref l2, .ref l3, .int l4, l5, l6, nov] st I J R S Q = Wp 23 26 [.ref x, .ref l1, .ref l2, .ref l3, .int l4, l5, l6, nov] (.ref x :: st) I J R S Q := o_aload_n rfl k_L_law_25
theorem k_L_law_26 : decode (sk_by 23) 26 = .ok (.arraylength, 1) := by decide +kernel
theorem x_L_law_26 {ls st : List Value} {a : Nat} {I : MI} {J : MJ} {R : MR} {S : Sh} {Q : SkQ} (ha : isArr (S.1 a) = true) : Wp 23 26 ls (.ref a :: st) I J R S Q = Wp 23 27 ls (.int (nI (S.2.1 a)) :: st) I J R S Q := o_arraylength k_L_law_26 ha
theorem k_L_law_27 : decode (sk_by 23) 27 = .ok (.iconst 5, 1) := by decide +kernel
theorem x_L_law_27 {ls st : List Value} {I : MI} {J : MJ} {R : MR} {S : Sh} {Q : SkQ} : Wp 23 27 ls st I J R S Q = Wp 23 28 ls (.int 5 :: st) I J R S Q := o_const (by decide) k_L_law_27
theorem k_L_law_28 : decode (sk_by 23) 28 = .ok (.isub, 1) := by decide +kernel
theorem x_L_law_28 {ls st : List Value} {x y : Int32} {I : MI} {J : MJ} {R : MR} {S : Sh} {Q : SkQ} : Wp 23 28 ls (.int y :: .int x :: st) I J R S Q = Wp 23 29 ls (.int (x - y) :: st) I J R S Q := o_isub k_L_law_28
theorem k_L_law_29 : decode (sk_by 23) 29 = .ok (.if_icmp .gt 2165, 3) := by decide +kernel
theorem x_L_law_29 {ls st : List Value} {x y : Int32} {I : MI} {J : MJ} {R : MR} {S : Sh} {Q : SkQ} : Wp 23 29 ls (.int y :: .int x :: st) I J R S Q = if y < x then Wp 23 2194 ls st I J R S Q else Wp 23 32 ls st I J R S Q := o_ic_gt rfl rfl k_L_law_29
theorem k_L_law_32 : decode (sk_by 23) 32 = .ok (.aload_n 0, 1) := by decide +kernel
theorem x_L_law_32 {st : List Value} {l1 : Nat} {l2 : Nat} {l3 : Nat} {l4 : Int32} {l5 : Value} {l6 : Value} {x : Nat} {I : MI} {J : MJ} {R : MR} {S : Sh} {Q : SkQ} : Wp 23 32 [.ref x, .ref l1, .ref l2, .ref l3, .int l4, l5, l6, nov] st I J R S Q = Wp 23 33 [.ref x, .ref l1, .ref l2, .ref l3, .int l4, l5, l6, nov] (.ref x :: st) I J R S Q := o_aload_n rfl k_L_law_32
theorem k_L_law_33 : decode (sk_by 23) 33 = .ok (.iload 4, 2) := by decide +kernel
theorem x_L_law_33 {st : List Value} {l0 : Nat} {l1 : Nat} {l2 : Nat} {l3 : Nat} {l5 : Value} {l6 : Value} {x : Int32} {I : MI} {J : MJ} {R : MR} {S : Sh} {Q : SkQ} : Wp 23 33 [.ref l0, .ref l1, .ref l2, .ref l3, .int x, l5, l6, nov] st I J R S Q = Wp 23 35 [.ref l0, .ref l1, .ref l2, .ref l3, .int x, l5, l6, nov] (.int x :: st) I J R S Q := o_iload rfl k_L_law_33
theorem k_L_law_35 : decode (sk_by 23) 35 = .ok (.iaload, 1) := by decide +kernel
theorem x_L_law_35 {ls st : List Value} {a : Nat} {i : Int32} {I : MI} {J : MJ} {R : MR} {S : Sh} {Q : SkQ} (ha : S.1 a = 30) (hi : inb i (S.2.1 a) = true) : Wp 23 35 ls (.int i :: .ref a :: st) I J R S Q = Wp 23 36 ls (.int (I a (ix i)) :: st) I J R S Q := o_iaload k_L_law_35 ha hi
theorem x_L_law_35C {ls st : List Value} {a : Nat} {i : Int32} {I : MI} {J : MJ} {R : MR} {S : Sh} {Q : SkQ} (ha : S.1 a = 40) (hi : inb i (S.2.1 a) = true) : Wp 23 35 ls (.int i :: .ref a :: st) I J R S Q = Wp 23 36 ls (.int (I a (ix i)) :: st) I J R S Q := o_ialoadC k_L_law_35 ha hi
theorem k_L_law_36 : decode (sk_by 23) 36 = .ok (.bipush 31, 2) := by decide +kernel
theorem x_L_law_36 {ls st : List Value} {I : MI} {J : MJ} {R : MR} {S : Sh} {Q : SkQ} : Wp 23 36 ls st I J R S Q = Wp 23 38 ls (.int 31 :: st) I J R S Q := o_bi (by decide) k_L_law_36
theorem k_L_law_38 : decode (sk_by 23) 38 = .ok (.iand, 1) := by decide +kernel
theorem x_L_law_38 {ls st : List Value} {x y : Int32} {I : MI} {J : MJ} {R : MR} {S : Sh} {Q : SkQ} : Wp 23 38 ls (.int y :: .int x :: st) I J R S Q = Wp 23 39 ls (.int (x &&& y) :: st) I J R S Q := o_iand k_L_law_38
theorem k_L_law_39 : decode (sk_by 23) 39 = .ok (.tableswitch 2149 0 26 #[121, 221, 309, 397, 485, 553, 621, 708, 751, 883, 983, 1066, 1133, 1200, 1268, 1324, 1456, 1544, 1643, 1775, 1863, 1877, 2009, 2065, 2078, 2091, 2135], 121) := by decide +kernel
theorem k_L_law_160 : decode (sk_by 23) 160 = .ok (.aload_n 1, 1) := by decide +kernel
theorem x_L_law_160 {st : List Value} {l0 : Nat} {l2 : Nat} {l3 : Nat} {l4 : Int32} {l5 : Value} {l6 : Value} {x : Nat} {I : MI} {J : MJ} {R : MR} {S : Sh} {Q : SkQ} : Wp 23 160 [.ref l0, .ref x, .ref l2, .ref l3, .int l4, l5, l6, nov] st I J R S Q = Wp 23 161 [.ref l0, .ref x, .ref l2, .ref l3, .int l4, l5, l6, nov] (.ref x :: st) I J R S Q := o_aload_n rfl k_L_law_160
theorem k_L_law_161 : decode (sk_by 23) 161 = .ok (.aload_n 0, 1) := by decide +kernel
theorem x_L_law_161 {st : List Value} {l1 : Nat} {l2 : Nat} {l3 : Nat} {l4 : Int32} {l5 : Value} {l6 : Value} {x : Nat} {I : MI} {J : MJ} {R : MR} {S : Sh} {Q : SkQ} : Wp 23 161 [.ref x, .ref l1, .ref l2, .ref l3, .int l4, l5, l6, nov] st I J R S Q = Wp 23 162 [.ref x, .ref l1, .ref l2, .ref l3, .int l4, l5, l6, nov] (.ref x :: st) I J R S Q := o_aload_n rfl k_L_law_161
theorem k_L_law_162 : decode (sk_by 23) 162 = .ok (.iload 4, 2) := by decide +kernel
theorem x_L_law_162 {st : List Value} {l0 : Nat} {l1 : Nat} {l2 : Nat} {l3 : Nat} {l5 : Value} {l6 : Value} {x : Int32} {I : MI} {J : MJ} {R : MR} {S : Sh} {Q : SkQ} : Wp 23 162 [.ref l0, .ref l1, .ref l2, .ref l3, .int x, l5, l6, nov] st I J R S Q = Wp 23 164 [.ref l0, .ref l1, .ref l2, .ref l3, .int x, l5, l6, nov] (.int x :: st) I J R S Q := o_iload rfl k_L_law_162
theorem k_L_law_164 : decode (sk_by 23) 164 = .ok (.iconst 1, 1) := by decide +kernel
theorem x_L_law_164 {ls st : List Value} {I : MI} {J : MJ} {R : MR} {S : Sh} {Q : SkQ} : Wp 23 164 ls st I J R S Q = Wp 23 165 ls (.int 1 :: st) I J R S Q := o_const (by decide) k_L_law_164
theorem k_L_law_165 : decode (sk_by 23) 165 = .ok (.iadd, 1) := by decide +kernel
theorem x_L_law_165 {ls st : List Value} {x y : Int32} {I : MI} {J : MJ} {R : MR} {S : Sh} {Q : SkQ} : Wp 23 165 ls (.int y :: .int x :: st) I J R S Q = Wp 23 166 ls (.int (x + y) :: st) I J R S Q := o_iadd k_L_law_165
theorem k_L_law_166 : decode (sk_by 23) 166 = .ok (.iaload, 1) := by decide +kernel
theorem x_L_law_166 {ls st : List Value} {a : Nat} {i : Int32} {I : MI} {J : MJ} {R : MR} {S : Sh} {Q : SkQ} (ha : S.1 a = 30) (hi : inb i (S.2.1 a) = true) : Wp 23 166 ls (.int i :: .ref a :: st) I J R S Q = Wp 23 167 ls (.int (I a (ix i)) :: st) I J R S Q := o_iaload k_L_law_166 ha hi
theorem x_L_law_166C {ls st : List Value} {a : Nat} {i : Int32} {I : MI} {J : MJ} {R : MR} {S : Sh} {Q : SkQ} (ha : S.1 a = 40) (hi : inb i (S.2.1 a) = true) : Wp 23 166 ls (.int i :: .ref a :: st) I J R S Q = Wp 23 167 ls (.int (I a (ix i)) :: st) I J R S Q := o_ialoadC k_L_law_166 ha hi
theorem k_L_law_167 : decode (sk_by 23) 167 = .ok (.i2l, 1) := by decide +kernel
theorem x_L_law_167 {ls st : List Value} {x : Int32} {I : MI} {J : MJ} {R : MR} {S : Sh} {Q : SkQ} : Wp 23 167 ls (.int x :: st) I J R S Q = Wp 23 168 ls (.long x.toInt64 :: st) I J R S Q := o_i2l k_L_law_167
theorem k_L_law_168 : decode (sk_by 23) 168 = .ok (.bipush 32, 2) := by decide +kernel
theorem x_L_law_168 {ls st : List Value} {I : MI} {J : MJ} {R : MR} {S : Sh} {Q : SkQ} : Wp 23 168 ls st I J R S Q = Wp 23 170 ls (.int 32 :: st) I J R S Q := o_bi (by decide) k_L_law_168
theorem k_L_law_170 : decode (sk_by 23) 170 = .ok (.lshl, 1) := by decide +kernel
theorem x_L_law_170 {ls st : List Value} {x : Int64} {y : Int32} {I : MI} {J : MJ} {R : MR} {S : Sh} {Q : SkQ} : Wp 23 170 ls (.int y :: .long x :: st) I J R S Q = Wp 23 171 ls (.long (x <<< (y.toInt64 &&& 63)) :: st) I J R S Q := o_lshl k_L_law_170
theorem k_L_law_171 : decode (sk_by 23) 171 = .ok (.aload_n 0, 1) := by decide +kernel
theorem x_L_law_171 {st : List Value} {l1 : Nat} {l2 : Nat} {l3 : Nat} {l4 : Int32} {l5 : Value} {l6 : Value} {x : Nat} {I : MI} {J : MJ} {R : MR} {S : Sh} {Q : SkQ} : Wp 23 171 [.ref x, .ref l1, .ref l2, .ref l3, .int l4, l5, l6, nov] st I J R S Q = Wp 23 172 [.ref x, .ref l1, .ref l2, .ref l3, .int l4, l5, l6, nov] (.ref x :: st) I J R S Q := o_aload_n rfl k_L_law_171
theorem k_L_law_172 : decode (sk_by 23) 172 = .ok (.iload 4, 2) := by decide +kernel
theorem x_L_law_172 {st : List Value} {l0 : Nat} {l1 : Nat} {l2 : Nat} {l3 : Nat} {l5 : Value} {l6 : Value} {x : Int32} {I : MI} {J : MJ} {R : MR} {S : Sh} {Q : SkQ} : Wp 23 172 [.ref l0, .ref l1, .ref l2, .ref l3, .int x, l5, l6, nov] st I J R S Q = Wp 23 174 [.ref l0, .ref l1, .ref l2, .ref l3, .int x, l5, l6, nov] (.int x :: st) I J R S Q := o_iload rfl k_L_law_172
theorem k_L_law_174 : decode (sk_by 23) 174 = .ok (.iconst 2, 1) := by decide +kernel
theorem x_L_law_174 {ls st : List Value} {I : MI} {J : MJ} {R : MR} {S : Sh} {Q : SkQ} : Wp 23 174 ls st I J R S Q = Wp 23 175 ls (.int 2 :: st) I J R S Q := o_const (by decide) k_L_law_174
theorem k_L_law_175 : decode (sk_by 23) 175 = .ok (.iadd, 1) := by decide +kernel
theorem x_L_law_175 {ls st : List Value} {x y : Int32} {I : MI} {J : MJ} {R : MR} {S : Sh} {Q : SkQ} : Wp 23 175 ls (.int y :: .int x :: st) I J R S Q = Wp 23 176 ls (.int (x + y) :: st) I J R S Q := o_iadd k_L_law_175
theorem k_L_law_176 : decode (sk_by 23) 176 = .ok (.iaload, 1) := by decide +kernel
theorem x_L_law_176 {ls st : List Value} {a : Nat} {i : Int32} {I : MI} {J : MJ} {R : MR} {S : Sh} {Q : SkQ} (ha : S.1 a = 30) (hi : inb i (S.2.1 a) = true) : Wp 23 176 ls (.int i :: .ref a :: st) I J R S Q = Wp 23 177 ls (.int (I a (ix i)) :: st) I J R S Q := o_iaload k_L_law_176 ha hi
theorem x_L_law_176C {ls st : List Value} {a : Nat} {i : Int32} {I : MI} {J : MJ} {R : MR} {S : Sh} {Q : SkQ} (ha : S.1 a = 40) (hi : inb i (S.2.1 a) = true) : Wp 23 176 ls (.int i :: .ref a :: st) I J R S Q = Wp 23 177 ls (.int (I a (ix i)) :: st) I J R S Q := o_ialoadC k_L_law_176 ha hi
theorem k_L_law_177 : decode (sk_by 23) 177 = .ok (.i2l, 1) := by decide +kernel
theorem x_L_law_177 {ls st : List Value} {x : Int32} {I : MI} {J : MJ} {R : MR} {S : Sh} {Q : SkQ} : Wp 23 177 ls (.int x :: st) I J R S Q = Wp 23 178 ls (.long x.toInt64 :: st) I J R S Q := o_i2l k_L_law_177
theorem k_L_law_178 : decode (sk_by 23) 178 = .ok (.ldc2_w 97, 3) := by decide +kernel
theorem x_L_law_178 {ls st : List Value} {I : MI} {J : MJ} {R : MR} {S : Sh} {Q : SkQ} : Wp 23 178 ls st I J R S Q = Wp 23 181 ls (.long 4294967295 :: st) I J R S Q := o_ldc2_w (show sk_lkK (sk_cl 23) 97 = some 4294967295 by decide +kernel) k_L_law_178
theorem k_L_law_181 : decode (sk_by 23) 181 = .ok (.land, 1) := by decide +kernel
theorem x_L_law_181 {ls st : List Value} {x y : Int64} {I : MI} {J : MJ} {R : MR} {S : Sh} {Q : SkQ} : Wp 23 181 ls (.long y :: .long x :: st) I J R S Q = Wp 23 182 ls (.long (x &&& y) :: st) I J R S Q := o_land k_L_law_181
theorem k_L_law_182 : decode (sk_by 23) 182 = .ok (.lor, 1) := by decide +kernel
theorem x_L_law_182 {ls st : List Value} {x y : Int64} {I : MI} {J : MJ} {R : MR} {S : Sh} {Q : SkQ} : Wp 23 182 ls (.long y :: .long x :: st) I J R S Q = Wp 23 183 ls (.long (x ||| y) :: st) I J R S Q := o_lor k_L_law_182
theorem k_L_law_183 : decode (sk_by 23) 183 = .ok (.aload_n 0, 1) := by decide +kernel
theorem x_L_law_183 {st : List Value} {l1 : Nat} {l2 : Nat} {l3 : Nat} {l4 : Int32} {l5 : Value} {l6 : Value} {x : Nat} {I : MI} {J : MJ} {R : MR} {S : Sh} {Q : SkQ} : Wp 23 183 [.ref x, .ref l1, .ref l2, .ref l3, .int l4, l5, l6, nov] st I J R S Q = Wp 23 184 [.ref x, .ref l1, .ref l2, .ref l3, .int l4, l5, l6, nov] (.ref x :: st) I J R S Q := o_aload_n rfl k_L_law_183
theorem k_L_law_184 : decode (sk_by 23) 184 = .ok (.iload 4, 2) := by decide +kernel
theorem x_L_law_184 {st : List Value} {l0 : Nat} {l1 : Nat} {l2 : Nat} {l3 : Nat} {l5 : Value} {l6 : Value} {x : Int32} {I : MI} {J : MJ} {R : MR} {S : Sh} {Q : SkQ} : Wp 23 184 [.ref l0, .ref l1, .ref l2, .ref l3, .int x, l5, l6, nov] st I J R S Q = Wp 23 186 [.ref l0, .ref l1, .ref l2, .ref l3, .int x, l5, l6, nov] (.int x :: st) I J R S Q := o_iload rfl k_L_law_184
theorem k_L_law_186 : decode (sk_by 23) 186 = .ok (.iconst 3, 1) := by decide +kernel
theorem x_L_law_186 {ls st : List Value} {I : MI} {J : MJ} {R : MR} {S : Sh} {Q : SkQ} : Wp 23 186 ls st I J R S Q = Wp 23 187 ls (.int 3 :: st) I J R S Q := o_const (by decide) k_L_law_186
theorem k_L_law_187 : decode (sk_by 23) 187 = .ok (.iadd, 1) := by decide +kernel
theorem x_L_law_187 {ls st : List Value} {x y : Int32} {I : MI} {J : MJ} {R : MR} {S : Sh} {Q : SkQ} : Wp 23 187 ls (.int y :: .int x :: st) I J R S Q = Wp 23 188 ls (.int (x + y) :: st) I J R S Q := o_iadd k_L_law_187
theorem k_L_law_188 : decode (sk_by 23) 188 = .ok (.iaload, 1) := by decide +kernel
theorem x_L_law_188 {ls st : List Value} {a : Nat} {i : Int32} {I : MI} {J : MJ} {R : MR} {S : Sh} {Q : SkQ} (ha : S.1 a = 30) (hi : inb i (S.2.1 a) = true) : Wp 23 188 ls (.int i :: .ref a :: st) I J R S Q = Wp 23 189 ls (.int (I a (ix i)) :: st) I J R S Q := o_iaload k_L_law_188 ha hi
theorem x_L_law_188C {ls st : List Value} {a : Nat} {i : Int32} {I : MI} {J : MJ} {R : MR} {S : Sh} {Q : SkQ} (ha : S.1 a = 40) (hi : inb i (S.2.1 a) = true) : Wp 23 188 ls (.int i :: .ref a :: st) I J R S Q = Wp 23 189 ls (.int (I a (ix i)) :: st) I J R S Q := o_ialoadC k_L_law_188 ha hi
theorem k_L_law_189 : decode (sk_by 23) 189 = .ok (.aload_n 3, 1) := by decide +kernel
theorem x_L_law_189 {st : List Value} {l0 : Nat} {l1 : Nat} {l2 : Nat} {l4 : Int32} {l5 : Value} {l6 : Value} {x : Nat} {I : MI} {J : MJ} {R : MR} {S : Sh} {Q : SkQ} : Wp 23 189 [.ref l0, .ref l1, .ref l2, .ref x, .int l4, l5, l6, nov] st I J R S Q = Wp 23 190 [.ref l0, .ref l1, .ref l2, .ref x, .int l4, l5, l6, nov] (.ref x :: st) I J R S Q := o_aload_n rfl k_L_law_189
theorem k_L_law_190 : decode (sk_by 23) 190 = .ok (.invokestatic 99, 3) := by decide +kernel
theorem x_L_law_190 {ls : List Value} {a0 : Nat} {a1 : Int64} {a2 : Int32} {a3 : Nat} {I : MI} {J : MJ} {R : MR} {S : Sh} {Q : SkQ} : Wp 23 190 ls (.ref a3 :: .int a2 :: .long a1 :: .ref a0 :: []) I J R S Q = Wp 0 0 [.ref a0, .long a1, nov, .int a2, .ref a3, nov] [] I J R S (Ret 23 190 193 0 ls [] Q) := o_call (as := [.ref a0, .long a1, .int a2, .ref a3]) (rest := []) (show sk_lkM (sk_cl 23) 99 = some 0 by decide +kernel) (by decide) (by decide) (by (decide +kernel)) (ins := .invokestatic 99) (by (decide +kernel)) k_L_law_190 rfl (show 4 = sk_na 0 by (decide +kernel)) (Nat.le_of_ble_eq_true rfl) (Nat.le_trans (show (argL [.ref a0, .long a1, .int a2, .ref a3]).length ≤ 6 from Nat.le_of_ble_eq_true rfl) (by (decide +kernel))) rfl
theorem k_L_law_193 : decode (sk_by 23) 193 = .ok (.istore 5, 2) := by decide +kernel
theorem x_L_law_193 {st : List Value} {l0 : Nat} {l1 : Nat} {l2 : Nat} {l3 : Nat} {l4 : Int32} {l5 : Value} {l6 : Value} {x : Int32} {I : MI} {J : MJ} {R : MR} {S : Sh} {Q : SkQ} : Wp 23 193 [.ref l0, .ref l1, .ref l2, .ref l3, .int l4, l5, l6, nov] (.int x :: st) I J R S Q = Wp 23 195 [.ref l0, .ref l1, .ref l2, .ref l3, .int l4, .int x, l6, nov] st I J R S Q := o_istore (Nat.le_of_ble_eq_true rfl) rfl k_L_law_193
theorem k_L_law_195 : decode (sk_by 23) 195 = .ok (.aload_n 2, 1) := by decide +kernel
theorem x_L_law_195 {st : List Value} {l0 : Nat} {l1 : Nat} {l3 : Nat} {l4 : Int32} {l5 : Int32} {l6 : Value} {x : Nat} {I : MI} {J : MJ} {R : MR} {S : Sh} {Q : SkQ} : Wp 23 195 [.ref l0, .ref l1, .ref x, .ref l3, .int l4, .int l5, l6, nov] st I J R S Q = Wp 23 196 [.ref l0, .ref l1, .ref x, .ref l3, .int l4, .int l5, l6, nov] (.ref x :: st) I J R S Q := o_aload_n rfl k_L_law_195
theorem k_L_law_196 : decode (sk_by 23) 196 = .ok (.aload_n 0, 1) := by decide +kernel
theorem x_L_law_196 {st : List Value} {l1 : Nat} {l2 : Nat} {l3 : Nat} {l4 : Int32} {l5 : Int32} {l6 : Value} {x : Nat} {I : MI} {J : MJ} {R : MR} {S : Sh} {Q : SkQ} : Wp 23 196 [.ref x, .ref l1, .ref l2, .ref l3, .int l4, .int l5, l6, nov] st I J R S Q = Wp 23 197 [.ref x, .ref l1, .ref l2, .ref l3, .int l4, .int l5, l6, nov] (.ref x :: st) I J R S Q := o_aload_n rfl k_L_law_196
theorem k_L_law_197 : decode (sk_by 23) 197 = .ok (.iload 4, 2) := by decide +kernel
theorem x_L_law_197 {st : List Value} {l0 : Nat} {l1 : Nat} {l2 : Nat} {l3 : Nat} {l5 : Int32} {l6 : Value} {x : Int32} {I : MI} {J : MJ} {R : MR} {S : Sh} {Q : SkQ} : Wp 23 197 [.ref l0, .ref l1, .ref l2, .ref l3, .int x, .int l5, l6, nov] st I J R S Q = Wp 23 199 [.ref l0, .ref l1, .ref l2, .ref l3, .int x, .int l5, l6, nov] (.int x :: st) I J R S Q := o_iload rfl k_L_law_197
theorem k_L_law_199 : decode (sk_by 23) 199 = .ok (.iconst 1, 1) := by decide +kernel
theorem x_L_law_199 {ls st : List Value} {I : MI} {J : MJ} {R : MR} {S : Sh} {Q : SkQ} : Wp 23 199 ls st I J R S Q = Wp 23 200 ls (.int 1 :: st) I J R S Q := o_const (by decide) k_L_law_199
theorem k_L_law_200 : decode (sk_by 23) 200 = .ok (.iadd, 1) := by decide +kernel
theorem x_L_law_200 {ls st : List Value} {x y : Int32} {I : MI} {J : MJ} {R : MR} {S : Sh} {Q : SkQ} : Wp 23 200 ls (.int y :: .int x :: st) I J R S Q = Wp 23 201 ls (.int (x + y) :: st) I J R S Q := o_iadd k_L_law_200
theorem k_L_law_201 : decode (sk_by 23) 201 = .ok (.iaload, 1) := by decide +kernel
theorem x_L_law_201 {ls st : List Value} {a : Nat} {i : Int32} {I : MI} {J : MJ} {R : MR} {S : Sh} {Q : SkQ} (ha : S.1 a = 30) (hi : inb i (S.2.1 a) = true) : Wp 23 201 ls (.int i :: .ref a :: st) I J R S Q = Wp 23 202 ls (.int (I a (ix i)) :: st) I J R S Q := o_iaload k_L_law_201 ha hi
theorem x_L_law_201C {ls st : List Value} {a : Nat} {i : Int32} {I : MI} {J : MJ} {R : MR} {S : Sh} {Q : SkQ} (ha : S.1 a = 40) (hi : inb i (S.2.1 a) = true) : Wp 23 201 ls (.int i :: .ref a :: st) I J R S Q = Wp 23 202 ls (.int (I a (ix i)) :: st) I J R S Q := o_ialoadC k_L_law_201 ha hi
theorem k_L_law_202 : decode (sk_by 23) 202 = .ok (.i2l, 1) := by decide +kernel
theorem x_L_law_202 {ls st : List Value} {x : Int32} {I : MI} {J : MJ} {R : MR} {S : Sh} {Q : SkQ} : Wp 23 202 ls (.int x :: st) I J R S Q = Wp 23 203 ls (.long x.toInt64 :: st) I J R S Q := o_i2l k_L_law_202
theorem k_L_law_203 : decode (sk_by 23) 203 = .ok (.bipush 32, 2) := by decide +kernel
theorem x_L_law_203 {ls st : List Value} {I : MI} {J : MJ} {R : MR} {S : Sh} {Q : SkQ} : Wp 23 203 ls st I J R S Q = Wp 23 205 ls (.int 32 :: st) I J R S Q := o_bi (by decide) k_L_law_203
theorem k_L_law_205 : decode (sk_by 23) 205 = .ok (.lshl, 1) := by decide +kernel
theorem x_L_law_205 {ls st : List Value} {x : Int64} {y : Int32} {I : MI} {J : MJ} {R : MR} {S : Sh} {Q : SkQ} : Wp 23 205 ls (.int y :: .long x :: st) I J R S Q = Wp 23 206 ls (.long (x <<< (y.toInt64 &&& 63)) :: st) I J R S Q := o_lshl k_L_law_205
theorem k_L_law_206 : decode (sk_by 23) 206 = .ok (.aload_n 0, 1) := by decide +kernel
theorem x_L_law_206 {st : List Value} {l1 : Nat} {l2 : Nat} {l3 : Nat} {l4 : Int32} {l5 : Int32} {l6 : Value} {x : Nat} {I : MI} {J : MJ} {R : MR} {S : Sh} {Q : SkQ} : Wp 23 206 [.ref x, .ref l1, .ref l2, .ref l3, .int l4, .int l5, l6, nov] st I J R S Q = Wp 23 207 [.ref x, .ref l1, .ref l2, .ref l3, .int l4, .int l5, l6, nov] (.ref x :: st) I J R S Q := o_aload_n rfl k_L_law_206
theorem k_L_law_207 : decode (sk_by 23) 207 = .ok (.iload 4, 2) := by decide +kernel
theorem x_L_law_207 {st : List Value} {l0 : Nat} {l1 : Nat} {l2 : Nat} {l3 : Nat} {l5 : Int32} {l6 : Value} {x : Int32} {I : MI} {J : MJ} {R : MR} {S : Sh} {Q : SkQ} : Wp 23 207 [.ref l0, .ref l1, .ref l2, .ref l3, .int x, .int l5, l6, nov] st I J R S Q = Wp 23 209 [.ref l0, .ref l1, .ref l2, .ref l3, .int x, .int l5, l6, nov] (.int x :: st) I J R S Q := o_iload rfl k_L_law_207
theorem k_L_law_209 : decode (sk_by 23) 209 = .ok (.iconst 2, 1) := by decide +kernel
theorem x_L_law_209 {ls st : List Value} {I : MI} {J : MJ} {R : MR} {S : Sh} {Q : SkQ} : Wp 23 209 ls st I J R S Q = Wp 23 210 ls (.int 2 :: st) I J R S Q := o_const (by decide) k_L_law_209
theorem k_L_law_210 : decode (sk_by 23) 210 = .ok (.iadd, 1) := by decide +kernel
theorem x_L_law_210 {ls st : List Value} {x y : Int32} {I : MI} {J : MJ} {R : MR} {S : Sh} {Q : SkQ} : Wp 23 210 ls (.int y :: .int x :: st) I J R S Q = Wp 23 211 ls (.int (x + y) :: st) I J R S Q := o_iadd k_L_law_210
theorem k_L_law_211 : decode (sk_by 23) 211 = .ok (.iaload, 1) := by decide +kernel
theorem x_L_law_211 {ls st : List Value} {a : Nat} {i : Int32} {I : MI} {J : MJ} {R : MR} {S : Sh} {Q : SkQ} (ha : S.1 a = 30) (hi : inb i (S.2.1 a) = true) : Wp 23 211 ls (.int i :: .ref a :: st) I J R S Q = Wp 23 212 ls (.int (I a (ix i)) :: st) I J R S Q := o_iaload k_L_law_211 ha hi
theorem x_L_law_211C {ls st : List Value} {a : Nat} {i : Int32} {I : MI} {J : MJ} {R : MR} {S : Sh} {Q : SkQ} (ha : S.1 a = 40) (hi : inb i (S.2.1 a) = true) : Wp 23 211 ls (.int i :: .ref a :: st) I J R S Q = Wp 23 212 ls (.int (I a (ix i)) :: st) I J R S Q := o_ialoadC k_L_law_211 ha hi
theorem k_L_law_212 : decode (sk_by 23) 212 = .ok (.i2l, 1) := by decide +kernel
theorem x_L_law_212 {ls st : List Value} {x : Int32} {I : MI} {J : MJ} {R : MR} {S : Sh} {Q : SkQ} : Wp 23 212 ls (.int x :: st) I J R S Q = Wp 23 213 ls (.long x.toInt64 :: st) I J R S Q := o_i2l k_L_law_212
theorem k_L_law_213 : decode (sk_by 23) 213 = .ok (.ldc2_w 97, 3) := by decide +kernel
theorem x_L_law_213 {ls st : List Value} {I : MI} {J : MJ} {R : MR} {S : Sh} {Q : SkQ} : Wp 23 213 ls st I J R S Q = Wp 23 216 ls (.long 4294967295 :: st) I J R S Q := o_ldc2_w (show sk_lkK (sk_cl 23) 97 = some 4294967295 by decide +kernel) k_L_law_213
theorem k_L_law_216 : decode (sk_by 23) 216 = .ok (.land, 1) := by decide +kernel
theorem x_L_law_216 {ls st : List Value} {x y : Int64} {I : MI} {J : MJ} {R : MR} {S : Sh} {Q : SkQ} : Wp 23 216 ls (.long y :: .long x :: st) I J R S Q = Wp 23 217 ls (.long (x &&& y) :: st) I J R S Q := o_land k_L_law_216
theorem k_L_law_217 : decode (sk_by 23) 217 = .ok (.lor, 1) := by decide +kernel
theorem x_L_law_217 {ls st : List Value} {x y : Int64} {I : MI} {J : MJ} {R : MR} {S : Sh} {Q : SkQ} : Wp 23 217 ls (.long y :: .long x :: st) I J R S Q = Wp 23 218 ls (.long (x ||| y) :: st) I J R S Q := o_lor k_L_law_217
theorem k_L_law_218 : decode (sk_by 23) 218 = .ok (.aload_n 0, 1) := by decide +kernel
theorem x_L_law_218 {st : List Value} {l1 : Nat} {l2 : Nat} {l3 : Nat} {l4 : Int32} {l5 : Int32} {l6 : Value} {x : Nat} {I : MI} {J : MJ} {R : MR} {S : Sh} {Q : SkQ} : Wp 23 218 [.ref x, .ref l1, .ref l2, .ref l3, .int l4, .int l5, l6, nov] st I J R S Q = Wp 23 219 [.ref x, .ref l1, .ref l2, .ref l3, .int l4, .int l5, l6, nov] (.ref x :: st) I J R S Q := o_aload_n rfl k_L_law_218
theorem k_L_law_219 : decode (sk_by 23) 219 = .ok (.iload 4, 2) := by decide +kernel
theorem x_L_law_219 {st : List Value} {l0 : Nat} {l1 : Nat} {l2 : Nat} {l3 : Nat} {l5 : Int32} {l6 : Value} {x : Int32} {I : MI} {J : MJ} {R : MR} {S : Sh} {Q : SkQ} : Wp 23 219 [.ref l0, .ref l1, .ref l2, .ref l3, .int x, .int l5, l6, nov] st I J R S Q = Wp 23 221 [.ref l0, .ref l1, .ref l2, .ref l3, .int x, .int l5, l6, nov] (.int x :: st) I J R S Q := o_iload rfl k_L_law_219
theorem k_L_law_221 : decode (sk_by 23) 221 = .ok (.iconst 3, 1) := by decide +kernel
theorem x_L_law_221 {ls st : List Value} {I : MI} {J : MJ} {R : MR} {S : Sh} {Q : SkQ} : Wp 23 221 ls st I J R S Q = Wp 23 222 ls (.int 3 :: st) I J R S Q := o_const (by decide) k_L_law_221
theorem k_L_law_222 : decode (sk_by 23) 222 = .ok (.iadd, 1) := by decide +kernel
theorem x_L_law_222 {ls st : List Value} {x y : Int32} {I : MI} {J : MJ} {R : MR} {S : Sh} {Q : SkQ} : Wp 23 222 ls (.int y :: .int x :: st) I J R S Q = Wp 23 223 ls (.int (x + y) :: st) I J R S Q := o_iadd k_L_law_222
theorem k_L_law_223 : decode (sk_by 23) 223 = .ok (.iaload, 1) := by decide +kernel
theorem x_L_law_223 {ls st : List Value} {a : Nat} {i : Int32} {I : MI} {J : MJ} {R : MR} {S : Sh} {Q : SkQ} (ha : S.1 a = 30) (hi : inb i (S.2.1 a) = true) : Wp 23 223 ls (.int i :: .ref a :: st) I J R S Q = Wp 23 224 ls (.int (I a (ix i)) :: st) I J R S Q := o_iaload k_L_law_223 ha hi
theorem x_L_law_223C {ls st : List Value} {a : Nat} {i : Int32} {I : MI} {J : MJ} {R : MR} {S : Sh} {Q : SkQ} (ha : S.1 a = 40) (hi : inb i (S.2.1 a) = true) : Wp 23 223 ls (.int i :: .ref a :: st) I J R S Q = Wp 23 224 ls (.int (I a (ix i)) :: st) I J R S Q := o_ialoadC k_L_law_223 ha hi
theorem k_L_law_224 : decode (sk_by 23) 224 = .ok (.invokevirtual 104, 3) := by decide +kernel
theorem x_L_law_224 {ls : List Value} {a0 : Nat} {a1 : Int64} {a2 : Int32} {I : MI} {J : MJ} {R : MR} {S : Sh} {Q : SkQ} (ha : S.1 a0 = 8) : Wp 23 224 ls (.int a2 :: .long a1 :: .ref a0 :: []) I J R S Q = Wp 192 0 [.ref a0, .long a1, nov, .int a2, nov, nov] [] I J R S (Ret 23 224 227 192 ls [] Q) := o_call (as := [.ref a0, .long a1, .int a2]) (rest := []) (show sk_lkM (sk_cl 23) 104 = some 192 by decide +kernel) (by decide) (by decide) (by (decide +kernel)) (ins := .invokevirtual 104) (by (decide +kernel)) k_L_law_224 rfl (show 3 = sk_na 192 by (decide +kernel)) (Nat.le_of_ble_eq_true rfl) (Nat.le_trans (show (argL [.ref a0, .long a1, .int a2]).length ≤ 6 from Nat.le_of_ble_eq_true rfl) (by (decide +kernel))) (rcv_of (by (decide +kernel)) (by decide) ha)
theorem k_L_law_227 : decode (sk_by 23) 227 = .ok (.istore 6, 2) := by decide +kernel
theorem x_L_law_227 {st : List Value} {l0 : Nat} {l1 : Nat} {l2 : Nat} {l3 : Nat} {l4 : Int32} {l5 : Int32} {l6 : Value} {x : Int32} {I : MI} {J : MJ} {R : MR} {S : Sh} {Q : SkQ} : Wp 23 227 [.ref l0, .ref l1, .ref l2, .ref l3, .int l4, .int l5, l6, nov] (.int x :: st) I J R S Q = Wp 23 229 [.ref l0, .ref l1, .ref l2, .ref l3, .int l4, .int l5, .int x, nov] st I J R S Q := o_istore (Nat.le_of_ble_eq_true rfl) rfl k_L_law_227
theorem k_L_law_229 : decode (sk_by 23) 229 = .ok (.aload_n 2, 1) := by decide +kernel
theorem x_L_law_229 {st : List Value} {l0 : Nat} {l1 : Nat} {l3 : Nat} {l4 : Int32} {l5 : Int32} {l6 : Int32} {x : Nat} {I : MI} {J : MJ} {R : MR} {S : Sh} {Q : SkQ} : Wp 23 229 [.ref l0, .ref l1, .ref x, .ref l3, .int l4, .int l5, .int l6, nov] st I J R S Q = Wp 23 230 [.ref l0, .ref l1, .ref x, .ref l3, .int l4, .int l5, .int l6, nov] (.ref x :: st) I J R S Q := o_aload_n rfl k_L_law_229
theorem k_L_law_230 : decode (sk_by 23) 230 = .ok (.invokevirtual 105, 3) := by decide +kernel
theorem x_L_law_230 {ls : List Value} {a0 : Nat} {I : MI} {J : MJ} {R : MR} {S : Sh} {Q : SkQ} (ha : S.1 a0 = 8) : Wp 23 230 ls (.ref a0 :: []) I J R S Q = Wp 174 0 [.ref a0] [] I J R S (Ret 23 230 233 174 ls [] Q) := o_call (as := [.ref a0]) (rest := []) (show sk_lkM (sk_cl 23) 105 = some 174 by decide +kernel) (by decide) (by decide) (by (decide +kernel)) (ins := .invokevirtual 105) (by (decide +kernel)) k_L_law_230 rfl (show 1 = sk_na 174 by (decide +kernel)) (Nat.le_of_ble_eq_true rfl) (Nat.le_trans (show (argL [.ref a0]).length ≤ 1 from Nat.le_of_ble_eq_true rfl) (by (decide +kernel))) (rcv_of (by (decide +kernel)) (by decide) ha)
theorem k_L_law_233 : decode (sk_by 23) 233 = .ok (.iload 5, 2) := by decide +kernel
theorem x_L_law_233 {st : List Value} {l0 : Nat} {l1 : Nat} {l2 : Nat} {l3 : Nat} {l4 : Int32} {l6 : Int32} {x : Int32} {I : MI} {J : MJ} {R : MR} {S : Sh} {Q : SkQ} : Wp 23 233 [.ref l0, .ref l1, .ref l2, .ref l3, .int l4, .int x, .int l6, nov] st I J R S Q = Wp 23 235 [.ref l0, .ref l1, .ref l2, .ref l3, .int l4, .int x, .int l6, nov] (.int x :: st) I J R S Q := o_iload rfl k_L_law_233
theorem k_L_law_235 : decode (sk_by 23) 235 = .ok (.if_icmp .eq 5, 3) := by decide +kernel
theorem x_L_law_235 {ls st : List Value} {x y : Int32} {I : MI} {J : MJ} {R : MR} {S : Sh} {Q : SkQ} : Wp 23 235 ls (.int y :: .int x :: st) I J R S Q = if x = y then Wp 23 240 ls st I J R S Q else Wp 23 238 ls st I J R S Q := o_ic_eq rfl rfl k_L_law_235
theorem k_L_law_238 : decode (sk_by 23) 238 = .ok (.iconst 0, 1) := by decide +kernel
theorem x_L_law_238 {ls st : List Value} {I : MI} {J : MJ} {R : MR} {S : Sh} {Q : SkQ} : Wp 23 238 ls st I J R S Q = Wp 23 239 ls (.int 0 :: st) I J R S Q := o_const (by decide) k_L_law_238
theorem k_L_law_239 : decode (sk_by 23) 239 = .ok (.ireturn, 1) := by decide +kernel
theorem x_L_law_239 {ls : List Value} {v : Int32} {I : MI} {J : MJ} {R : MR} {S : Sh} {Q : SkQ} (h : rOk (some .boolean) v = true) : Wp 23 239 ls [.int v] I J R S Q = Q 0 (some (.int v)) I J R S := o_ireturn k_L_law_239 (by rw [show sk_rt 23 = some .boolean from rfl]; exact h)
theorem k_L_law_240 : decode (sk_by 23) 240 = .ok (.iload 5, 2) := by decide +kernel
theorem x_L_law_240 {st : List Value} {l0 : Nat} {l1 : Nat} {l2 : Nat} {l3 : Nat} {l4 : Int32} {l6 : Int32} {x : Int32} {I : MI} {J : MJ} {R : MR} {S : Sh} {Q : SkQ} : Wp 23 240 [.ref l0, .ref l1, .ref l2, .ref l3, .int l4, .int x, .int l6, nov] st I J R S Q = Wp 23 242 [.ref l0, .ref l1, .ref l2, .ref l3, .int l4, .int x, .int l6, nov] (.int x :: st) I J R S Q := o_iload rfl k_L_law_240
theorem k_L_law_242 : decode (sk_by 23) 242 = .ok (.ifCond .ne 15, 3) := by decide +kernel
theorem x_L_law_242 {ls st : List Value} {x : Int32} {I : MI} {J : MJ} {R : MR} {S : Sh} {Q : SkQ} : Wp 23 242 ls (.int x :: st) I J R S Q = if x = 0 then Wp 23 245 ls st I J R S Q else Wp 23 257 ls st I J R S Q := o_if_ne rfl rfl k_L_law_242
theorem k_L_law_245 : decode (sk_by 23) 245 = .ok (.aload_n 3, 1) := by decide +kernel
theorem x_L_law_245 {st : List Value} {l0 : Nat} {l1 : Nat} {l2 : Nat} {l4 : Int32} {l5 : Int32} {l6 : Int32} {x : Nat} {I : MI} {J : MJ} {R : MR} {S : Sh} {Q : SkQ} : Wp 23 245 [.ref l0, .ref l1, .ref l2, .ref x, .int l4, .int l5, .int l6, nov] st I J R S Q = Wp 23 246 [.ref l0, .ref l1, .ref l2, .ref x, .int l4, .int l5, .int l6, nov] (.ref x :: st) I J R S Q := o_aload_n rfl k_L_law_245
theorem k_L_law_246 : decode (sk_by 23) 246 = .ok (.iconst 0, 1) := by decide +kernel
theorem x_L_law_246 {ls st : List Value} {I : MI} {J : MJ} {R : MR} {S : Sh} {Q : SkQ} : Wp 23 246 ls st I J R S Q = Wp 23 247 ls (.int 0 :: st) I J R S Q := o_const (by decide) k_L_law_246
theorem k_L_law_247 : decode (sk_by 23) 247 = .ok (.laload, 1) := by decide +kernel
theorem x_L_law_247 {ls st : List Value} {a : Nat} {i : Int32} {I : MI} {J : MJ} {R : MR} {S : Sh} {Q : SkQ} (ha : S.1 a = 31) (hi : inb i (S.2.1 a) = true) : Wp 23 247 ls (.int i :: .ref a :: st) I J R S Q = Wp 23 248 ls (.long (J a (ix i)) :: st) I J R S Q := o_laload k_L_law_247 ha hi
theorem k_L_law_248 : decode (sk_by 23) 248 = .ok (.iload 6, 2) := by decide +kernel
theorem x_L_law_248 {st : List Value} {l0 : Nat} {l1 : Nat} {l2 : Nat} {l3 : Nat} {l4 : Int32} {l5 : Int32} {x : Int32} {I : MI} {J : MJ} {R : MR} {S : Sh} {Q : SkQ} : Wp 23 248 [.ref l0, .ref l1, .ref l2, .ref l3, .int l4, .int l5, .int x, nov] st I J R S Q = Wp 23 250 [.ref l0, .ref l1, .ref l2, .ref l3, .int l4, .int l5, .int x, nov] (.int x :: st) I J R S Q := o_iload rfl k_L_law_248
theorem k_L_law_250 : decode (sk_by 23) 250 = .ok (.i2l, 1) := by decide +kernel
theorem x_L_law_250 {ls st : List Value} {x : Int32} {I : MI} {J : MJ} {R : MR} {S : Sh} {Q : SkQ} : Wp 23 250 ls (.int x :: st) I J R S Q = Wp 23 251 ls (.long x.toInt64 :: st) I J R S Q := o_i2l k_L_law_250
theorem k_L_law_251 : decode (sk_by 23) 251 = .ok (.lcmp, 1) := by decide +kernel
theorem x_L_law_251 {ls st : List Value} {x y : Int64} {I : MI} {J : MJ} {R : MR} {S : Sh} {Q : SkQ} : Wp 23 251 ls (.long y :: .long x :: st) I J R S Q = Wp 23 252 ls (.int (lg_cmp x y) :: st) I J R S Q := o_lcmp k_L_law_251
theorem k_L_law_252 : decode (sk_by 23) 252 = .ok (.ifCond .eq 5, 3) := by decide +kernel
theorem x_L_law_252 {ls st : List Value} {x : Int32} {I : MI} {J : MJ} {R : MR} {S : Sh} {Q : SkQ} : Wp 23 252 ls (.int x :: st) I J R S Q = if x = 0 then Wp 23 257 ls st I J R S Q else Wp 23 255 ls st I J R S Q := o_if_eq rfl rfl k_L_law_252
theorem k_L_law_255 : decode (sk_by 23) 255 = .ok (.iconst 0, 1) := by decide +kernel
theorem x_L_law_255 {ls st : List Value} {I : MI} {J : MJ} {R : MR} {S : Sh} {Q : SkQ} : Wp 23 255 ls st I J R S Q = Wp 23 256 ls (.int 0 :: st) I J R S Q := o_const (by decide) k_L_law_255
theorem k_L_law_256 : decode (sk_by 23) 256 = .ok (.ireturn, 1) := by decide +kernel
theorem x_L_law_256 {ls : List Value} {v : Int32} {I : MI} {J : MJ} {R : MR} {S : Sh} {Q : SkQ} (h : rOk (some .boolean) v = true) : Wp 23 256 ls [.int v] I J R S Q = Q 0 (some (.int v)) I J R S := o_ireturn k_L_law_256 (by rw [show sk_rt 23 = some .boolean from rfl]; exact h)
theorem k_L_law_257 : decode (sk_by 23) 257 = .ok (.goto 1931, 3) := by decide +kernel
theorem x_L_law_257 {ls st : List Value} {I : MI} {J : MJ} {R : MR} {S : Sh} {Q : SkQ} : Wp 23 257 ls st I J R S Q = Wp 23 2188 ls st I J R S Q := o_goto rfl rfl k_L_law_257
theorem k_L_law_260 : decode (sk_by 23) 260 = .ok (.aload_n 1, 1) := by decide +kernel
theorem x_L_law_260 {st : List Value} {l0 : Nat} {l2 : Nat} {l3 : Nat} {l4 : Int32} {l5 : Value} {l6 : Value} {x : Nat} {I : MI} {J : MJ} {R : MR} {S : Sh} {Q : SkQ} : Wp 23 260 [.ref l0, .ref x, .ref l2, .ref l3, .int l4, l5, l6, nov] st I J R S Q = Wp 23 261 [.ref l0, .ref x, .ref l2, .ref l3, .int l4, l5, l6, nov] (.ref x :: st) I J R S Q := o_aload_n rfl k_L_law_260
theorem k_L_law_261 : decode (sk_by 23) 261 = .ok (.aload_n 0, 1) := by decide +kernel
theorem x_L_law_261 {st : List Value} {l1 : Nat} {l2 : Nat} {l3 : Nat} {l4 : Int32} {l5 : Value} {l6 : Value} {x : Nat} {I : MI} {J : MJ} {R : MR} {S : Sh} {Q : SkQ} : Wp 23 261 [.ref x, .ref l1, .ref l2, .ref l3, .int l4, l5, l6, nov] st I J R S Q = Wp 23 262 [.ref x, .ref l1, .ref l2, .ref l3, .int l4, l5, l6, nov] (.ref x :: st) I J R S Q := o_aload_n rfl k_L_law_261
theorem k_L_law_262 : decode (sk_by 23) 262 = .ok (.iload 4, 2) := by decide +kernel
theorem x_L_law_262 {st : List Value} {l0 : Nat} {l1 : Nat} {l2 : Nat} {l3 : Nat} {l5 : Value} {l6 : Value} {x : Int32} {I : MI} {J : MJ} {R : MR} {S : Sh} {Q : SkQ} : Wp 23 262 [.ref l0, .ref l1, .ref l2, .ref l3, .int x, l5, l6, nov] st I J R S Q = Wp 23 264 [.ref l0, .ref l1, .ref l2, .ref l3, .int x, l5, l6, nov] (.int x :: st) I J R S Q := o_iload rfl k_L_law_262
theorem k_L_law_264 : decode (sk_by 23) 264 = .ok (.iconst 1, 1) := by decide +kernel
theorem x_L_law_264 {ls st : List Value} {I : MI} {J : MJ} {R : MR} {S : Sh} {Q : SkQ} : Wp 23 264 ls st I J R S Q = Wp 23 265 ls (.int 1 :: st) I J R S Q := o_const (by decide) k_L_law_264
theorem k_L_law_265 : decode (sk_by 23) 265 = .ok (.iadd, 1) := by decide +kernel
theorem x_L_law_265 {ls st : List Value} {x y : Int32} {I : MI} {J : MJ} {R : MR} {S : Sh} {Q : SkQ} : Wp 23 265 ls (.int y :: .int x :: st) I J R S Q = Wp 23 266 ls (.int (x + y) :: st) I J R S Q := o_iadd k_L_law_265
theorem k_L_law_266 : decode (sk_by 23) 266 = .ok (.iaload, 1) := by decide +kernel
theorem x_L_law_266 {ls st : List Value} {a : Nat} {i : Int32} {I : MI} {J : MJ} {R : MR} {S : Sh} {Q : SkQ} (ha : S.1 a = 30) (hi : inb i (S.2.1 a) = true) : Wp 23 266 ls (.int i :: .ref a :: st) I J R S Q = Wp 23 267 ls (.int (I a (ix i)) :: st) I J R S Q := o_iaload k_L_law_266 ha hi
theorem x_L_law_266C {ls st : List Value} {a : Nat} {i : Int32} {I : MI} {J : MJ} {R : MR} {S : Sh} {Q : SkQ} (ha : S.1 a = 40) (hi : inb i (S.2.1 a) = true) : Wp 23 266 ls (.int i :: .ref a :: st) I J R S Q = Wp 23 267 ls (.int (I a (ix i)) :: st) I J R S Q := o_ialoadC k_L_law_266 ha hi
theorem k_L_law_267 : decode (sk_by 23) 267 = .ok (.i2l, 1) := by decide +kernel
theorem x_L_law_267 {ls st : List Value} {x : Int32} {I : MI} {J : MJ} {R : MR} {S : Sh} {Q : SkQ} : Wp 23 267 ls (.int x :: st) I J R S Q = Wp 23 268 ls (.long x.toInt64 :: st) I J R S Q := o_i2l k_L_law_267
theorem k_L_law_268 : decode (sk_by 23) 268 = .ok (.bipush 32, 2) := by decide +kernel
theorem x_L_law_268 {ls st : List Value} {I : MI} {J : MJ} {R : MR} {S : Sh} {Q : SkQ} : Wp 23 268 ls st I J R S Q = Wp 23 270 ls (.int 32 :: st) I J R S Q := o_bi (by decide) k_L_law_268
theorem k_L_law_270 : decode (sk_by 23) 270 = .ok (.lshl, 1) := by decide +kernel
theorem x_L_law_270 {ls st : List Value} {x : Int64} {y : Int32} {I : MI} {J : MJ} {R : MR} {S : Sh} {Q : SkQ} : Wp 23 270 ls (.int y :: .long x :: st) I J R S Q = Wp 23 271 ls (.long (x <<< (y.toInt64 &&& 63)) :: st) I J R S Q := o_lshl k_L_law_270
theorem k_L_law_271 : decode (sk_by 23) 271 = .ok (.aload_n 0, 1) := by decide +kernel
theorem x_L_law_271 {st : List Value} {l1 : Nat} {l2 : Nat} {l3 : Nat} {l4 : Int32} {l5 : Value} {l6 : Value} {x : Nat} {I : MI} {J : MJ} {R : MR} {S : Sh} {Q : SkQ} : Wp 23 271 [.ref x, .ref l1, .ref l2, .ref l3, .int l4, l5, l6, nov] st I J R S Q = Wp 23 272 [.ref x, .ref l1, .ref l2, .ref l3, .int l4, l5, l6, nov] (.ref x :: st) I J R S Q := o_aload_n rfl k_L_law_271
theorem k_L_law_272 : decode (sk_by 23) 272 = .ok (.iload 4, 2) := by decide +kernel
theorem x_L_law_272 {st : List Value} {l0 : Nat} {l1 : Nat} {l2 : Nat} {l3 : Nat} {l5 : Value} {l6 : Value} {x : Int32} {I : MI} {J : MJ} {R : MR} {S : Sh} {Q : SkQ} : Wp 23 272 [.ref l0, .ref l1, .ref l2, .ref l3, .int x, l5, l6, nov] st I J R S Q = Wp 23 274 [.ref l0, .ref l1, .ref l2, .ref l3, .int x, l5, l6, nov] (.int x :: st) I J R S Q := o_iload rfl k_L_law_272
theorem k_L_law_274 : decode (sk_by 23) 274 = .ok (.iconst 2, 1) := by decide +kernel
theorem x_L_law_274 {ls st : List Value} {I : MI} {J : MJ} {R : MR} {S : Sh} {Q : SkQ} : Wp 23 274 ls st I J R S Q = Wp 23 275 ls (.int 2 :: st) I J R S Q := o_const (by decide) k_L_law_274
theorem k_L_law_275 : decode (sk_by 23) 275 = .ok (.iadd, 1) := by decide +kernel
theorem x_L_law_275 {ls st : List Value} {x y : Int32} {I : MI} {J : MJ} {R : MR} {S : Sh} {Q : SkQ} : Wp 23 275 ls (.int y :: .int x :: st) I J R S Q = Wp 23 276 ls (.int (x + y) :: st) I J R S Q := o_iadd k_L_law_275
theorem k_L_law_276 : decode (sk_by 23) 276 = .ok (.iaload, 1) := by decide +kernel
theorem x_L_law_276 {ls st : List Value} {a : Nat} {i : Int32} {I : MI} {J : MJ} {R : MR} {S : Sh} {Q : SkQ} (ha : S.1 a = 30) (hi : inb i (S.2.1 a) = true) : Wp 23 276 ls (.int i :: .ref a :: st) I J R S Q = Wp 23 277 ls (.int (I a (ix i)) :: st) I J R S Q := o_iaload k_L_law_276 ha hi
theorem x_L_law_276C {ls st : List Value} {a : Nat} {i : Int32} {I : MI} {J : MJ} {R : MR} {S : Sh} {Q : SkQ} (ha : S.1 a = 40) (hi : inb i (S.2.1 a) = true) : Wp 23 276 ls (.int i :: .ref a :: st) I J R S Q = Wp 23 277 ls (.int (I a (ix i)) :: st) I J R S Q := o_ialoadC k_L_law_276 ha hi
theorem k_L_law_277 : decode (sk_by 23) 277 = .ok (.i2l, 1) := by decide +kernel
theorem x_L_law_277 {ls st : List Value} {x : Int32} {I : MI} {J : MJ} {R : MR} {S : Sh} {Q : SkQ} : Wp 23 277 ls (.int x :: st) I J R S Q = Wp 23 278 ls (.long x.toInt64 :: st) I J R S Q := o_i2l k_L_law_277
theorem k_L_law_278 : decode (sk_by 23) 278 = .ok (.ldc2_w 97, 3) := by decide +kernel
theorem x_L_law_278 {ls st : List Value} {I : MI} {J : MJ} {R : MR} {S : Sh} {Q : SkQ} : Wp 23 278 ls st I J R S Q = Wp 23 281 ls (.long 4294967295 :: st) I J R S Q := o_ldc2_w (show sk_lkK (sk_cl 23) 97 = some 4294967295 by decide +kernel) k_L_law_278
theorem k_L_law_281 : decode (sk_by 23) 281 = .ok (.land, 1) := by decide +kernel
theorem x_L_law_281 {ls st : List Value} {x y : Int64} {I : MI} {J : MJ} {R : MR} {S : Sh} {Q : SkQ} : Wp 23 281 ls (.long y :: .long x :: st) I J R S Q = Wp 23 282 ls (.long (x &&& y) :: st) I J R S Q := o_land k_L_law_281
theorem k_L_law_282 : decode (sk_by 23) 282 = .ok (.lor, 1) := by decide +kernel
theorem x_L_law_282 {ls st : List Value} {x y : Int64} {I : MI} {J : MJ} {R : MR} {S : Sh} {Q : SkQ} : Wp 23 282 ls (.long y :: .long x :: st) I J R S Q = Wp 23 283 ls (.long (x ||| y) :: st) I J R S Q := o_lor k_L_law_282
theorem k_L_law_283 : decode (sk_by 23) 283 = .ok (.aload_n 3, 1) := by decide +kernel
theorem x_L_law_283 {st : List Value} {l0 : Nat} {l1 : Nat} {l2 : Nat} {l4 : Int32} {l5 : Value} {l6 : Value} {x : Nat} {I : MI} {J : MJ} {R : MR} {S : Sh} {Q : SkQ} : Wp 23 283 [.ref l0, .ref l1, .ref l2, .ref x, .int l4, l5, l6, nov] st I J R S Q = Wp 23 284 [.ref l0, .ref l1, .ref l2, .ref x, .int l4, l5, l6, nov] (.ref x :: st) I J R S Q := o_aload_n rfl k_L_law_283
theorem k_L_law_284 : decode (sk_by 23) 284 = .ok (.invokestatic 108, 3) := by decide +kernel
theorem x_L_law_284 {ls : List Value} {a0 : Nat} {a1 : Int64} {a2 : Nat} {I : MI} {J : MJ} {R : MR} {S : Sh} {Q : SkQ} : Wp 23 284 ls (.ref a2 :: .long a1 :: .ref a0 :: []) I J R S Q = Wp 1 0 [.ref a0, .long a1, nov, .ref a2, nov] [] I J R S (Ret 23 284 287 1 ls [] Q) := o_call (as := [.ref a0, .long a1, .ref a2]) (rest := []) (show sk_lkM (sk_cl 23) 108 = some 1 by decide +kernel) (by decide) (by decide) (by (decide +kernel)) (ins := .invokestatic 108) (by (decide +kernel)) k_L_law_284 rfl (show 3 = sk_na 1 by (decide +kernel)) (Nat.le_of_ble_eq_true rfl) (Nat.le_trans (show (argL [.ref a0, .long a1, .ref a2]).length ≤ 5 from Nat.le_of_ble_eq_true rfl) (by (decide +kernel))) rfl
theorem k_L_law_287 : decode (sk_by 23) 287 = .ok (.istore 5, 2) := by decide +kernel
theorem x_L_law_287 {st : List Value} {l0 : Nat} {l1 : Nat} {l2 : Nat} {l3 : Nat} {l4 : Int32} {l5 : Value} {l6 : Value} {x : Int32} {I : MI} {J : MJ} {R : MR} {S : Sh} {Q : SkQ} : Wp 23 287 [.ref l0, .ref l1, .ref l2, .ref l3, .int l4, l5, l6, nov] (.int x :: st) I J R S Q = Wp 23 289 [.ref l0, .ref l1, .ref l2, .ref l3, .int l4, .int x, l6, nov] st I J R S Q := o_istore (Nat.le_of_ble_eq_true rfl) rfl k_L_law_287
theorem k_L_law_289 : decode (sk_by 23) 289 = .ok (.aload_n 2, 1) := by decide +kernel
theorem x_L_law_289 {st : List Value} {l0 : Nat} {l1 : Nat} {l3 : Nat} {l4 : Int32} {l5 : Int32} {l6 : Value} {x : Nat} {I : MI} {J : MJ} {R : MR} {S : Sh} {Q : SkQ} : Wp 23 289 [.ref l0, .ref l1, .ref x, .ref l3, .int l4, .int l5, l6, nov] st I J R S Q = Wp 23 290 [.ref l0, .ref l1, .ref x, .ref l3, .int l4, .int l5, l6, nov] (.ref x :: st) I J R S Q := o_aload_n rfl k_L_law_289
theorem k_L_law_290 : decode (sk_by 23) 290 = .ok (.aload_n 0, 1) := by decide +kernel
theorem x_L_law_290 {st : List Value} {l1 : Nat} {l2 : Nat} {l3 : Nat} {l4 : Int32} {l5 : Int32} {l6 : Value} {x : Nat} {I : MI} {J : MJ} {R : MR} {S : Sh} {Q : SkQ} : Wp 23 290 [.ref x, .ref l1, .ref l2, .ref l3, .int l4, .int l5, l6, nov] st I J R S Q = Wp 23 291 [.ref x, .ref l1, .ref l2, .ref l3, .int l4, .int l5, l6, nov] (.ref x :: st) I J R S Q := o_aload_n rfl k_L_law_290
theorem k_L_law_291 : decode (sk_by 23) 291 = .ok (.iload 4, 2) := by decide +kernel
theorem x_L_law_291 {st : List Value} {l0 : Nat} {l1 : Nat} {l2 : Nat} {l3 : Nat} {l5 : Int32} {l6 : Value} {x : Int32} {I : MI} {J : MJ} {R : MR} {S : Sh} {Q : SkQ} : Wp 23 291 [.ref l0, .ref l1, .ref l2, .ref l3, .int x, .int l5, l6, nov] st I J R S Q = Wp 23 293 [.ref l0, .ref l1, .ref l2, .ref l3, .int x, .int l5, l6, nov] (.int x :: st) I J R S Q := o_iload rfl k_L_law_291
theorem k_L_law_293 : decode (sk_by 23) 293 = .ok (.iconst 1, 1) := by decide +kernel
theorem x_L_law_293 {ls st : List Value} {I : MI} {J : MJ} {R : MR} {S : Sh} {Q : SkQ} : Wp 23 293 ls st I J R S Q = Wp 23 294 ls (.int 1 :: st) I J R S Q := o_const (by decide) k_L_law_293
theorem k_L_law_294 : decode (sk_by 23) 294 = .ok (.iadd, 1) := by decide +kernel
theorem x_L_law_294 {ls st : List Value} {x y : Int32} {I : MI} {J : MJ} {R : MR} {S : Sh} {Q : SkQ} : Wp 23 294 ls (.int y :: .int x :: st) I J R S Q = Wp 23 295 ls (.int (x + y) :: st) I J R S Q := o_iadd k_L_law_294
theorem k_L_law_295 : decode (sk_by 23) 295 = .ok (.iaload, 1) := by decide +kernel
theorem x_L_law_295 {ls st : List Value} {a : Nat} {i : Int32} {I : MI} {J : MJ} {R : MR} {S : Sh} {Q : SkQ} (ha : S.1 a = 30) (hi : inb i (S.2.1 a) = true) : Wp 23 295 ls (.int i :: .ref a :: st) I J R S Q = Wp 23 296 ls (.int (I a (ix i)) :: st) I J R S Q := o_iaload k_L_law_295 ha hi
theorem x_L_law_295C {ls st : List Value} {a : Nat} {i : Int32} {I : MI} {J : MJ} {R : MR} {S : Sh} {Q : SkQ} (ha : S.1 a = 40) (hi : inb i (S.2.1 a) = true) : Wp 23 295 ls (.int i :: .ref a :: st) I J R S Q = Wp 23 296 ls (.int (I a (ix i)) :: st) I J R S Q := o_ialoadC k_L_law_295 ha hi
theorem k_L_law_296 : decode (sk_by 23) 296 = .ok (.i2l, 1) := by decide +kernel
theorem x_L_law_296 {ls st : List Value} {x : Int32} {I : MI} {J : MJ} {R : MR} {S : Sh} {Q : SkQ} : Wp 23 296 ls (.int x :: st) I J R S Q = Wp 23 297 ls (.long x.toInt64 :: st) I J R S Q := o_i2l k_L_law_296
theorem k_L_law_297 : decode (sk_by 23) 297 = .ok (.bipush 32, 2) := by decide +kernel
theorem x_L_law_297 {ls st : List Value} {I : MI} {J : MJ} {R : MR} {S : Sh} {Q : SkQ} : Wp 23 297 ls st I J R S Q = Wp 23 299 ls (.int 32 :: st) I J R S Q := o_bi (by decide) k_L_law_297
theorem k_L_law_299 : decode (sk_by 23) 299 = .ok (.lshl, 1) := by decide +kernel
theorem x_L_law_299 {ls st : List Value} {x : Int64} {y : Int32} {I : MI} {J : MJ} {R : MR} {S : Sh} {Q : SkQ} : Wp 23 299 ls (.int y :: .long x :: st) I J R S Q = Wp 23 300 ls (.long (x <<< (y.toInt64 &&& 63)) :: st) I J R S Q := o_lshl k_L_law_299
theorem k_L_law_300 : decode (sk_by 23) 300 = .ok (.aload_n 0, 1) := by decide +kernel
theorem x_L_law_300 {st : List Value} {l1 : Nat} {l2 : Nat} {l3 : Nat} {l4 : Int32} {l5 : Int32} {l6 : Value} {x : Nat} {I : MI} {J : MJ} {R : MR} {S : Sh} {Q : SkQ} : Wp 23 300 [.ref x, .ref l1, .ref l2, .ref l3, .int l4, .int l5, l6, nov] st I J R S Q = Wp 23 301 [.ref x, .ref l1, .ref l2, .ref l3, .int l4, .int l5, l6, nov] (.ref x :: st) I J R S Q := o_aload_n rfl k_L_law_300
theorem k_L_law_301 : decode (sk_by 23) 301 = .ok (.iload 4, 2) := by decide +kernel
theorem x_L_law_301 {st : List Value} {l0 : Nat} {l1 : Nat} {l2 : Nat} {l3 : Nat} {l5 : Int32} {l6 : Value} {x : Int32} {I : MI} {J : MJ} {R : MR} {S : Sh} {Q : SkQ} : Wp 23 301 [.ref l0, .ref l1, .ref l2, .ref l3, .int x, .int l5, l6, nov] st I J R S Q = Wp 23 303 [.ref l0, .ref l1, .ref l2, .ref l3, .int x, .int l5, l6, nov] (.int x :: st) I J R S Q := o_iload rfl k_L_law_301
theorem k_L_law_303 : decode (sk_by 23) 303 = .ok (.iconst 2, 1) := by decide +kernel
theorem x_L_law_303 {ls st : List Value} {I : MI} {J : MJ} {R : MR} {S : Sh} {Q : SkQ} : Wp 23 303 ls st I J R S Q = Wp 23 304 ls (.int 2 :: st) I J R S Q := o_const (by decide) k_L_law_303
theorem k_L_law_304 : decode (sk_by 23) 304 = .ok (.iadd, 1) := by decide +kernel
theorem x_L_law_304 {ls st : List Value} {x y : Int32} {I : MI} {J : MJ} {R : MR} {S : Sh} {Q : SkQ} : Wp 23 304 ls (.int y :: .int x :: st) I J R S Q = Wp 23 305 ls (.int (x + y) :: st) I J R S Q := o_iadd k_L_law_304
theorem k_L_law_305 : decode (sk_by 23) 305 = .ok (.iaload, 1) := by decide +kernel
theorem x_L_law_305 {ls st : List Value} {a : Nat} {i : Int32} {I : MI} {J : MJ} {R : MR} {S : Sh} {Q : SkQ} (ha : S.1 a = 30) (hi : inb i (S.2.1 a) = true) : Wp 23 305 ls (.int i :: .ref a :: st) I J R S Q = Wp 23 306 ls (.int (I a (ix i)) :: st) I J R S Q := o_iaload k_L_law_305 ha hi
theorem x_L_law_305C {ls st : List Value} {a : Nat} {i : Int32} {I : MI} {J : MJ} {R : MR} {S : Sh} {Q : SkQ} (ha : S.1 a = 40) (hi : inb i (S.2.1 a) = true) : Wp 23 305 ls (.int i :: .ref a :: st) I J R S Q = Wp 23 306 ls (.int (I a (ix i)) :: st) I J R S Q := o_ialoadC k_L_law_305 ha hi
theorem k_L_law_306 : decode (sk_by 23) 306 = .ok (.i2l, 1) := by decide +kernel
theorem x_L_law_306 {ls st : List Value} {x : Int32} {I : MI} {J : MJ} {R : MR} {S : Sh} {Q : SkQ} : Wp 23 306 ls (.int x :: st) I J R S Q = Wp 23 307 ls (.long x.toInt64 :: st) I J R S Q := o_i2l k_L_law_306
theorem k_L_law_307 : decode (sk_by 23) 307 = .ok (.ldc2_w 97, 3) := by decide +kernel
theorem x_L_law_307 {ls st : List Value} {I : MI} {J : MJ} {R : MR} {S : Sh} {Q : SkQ} : Wp 23 307 ls st I J R S Q = Wp 23 310 ls (.long 4294967295 :: st) I J R S Q := o_ldc2_w (show sk_lkK (sk_cl 23) 97 = some 4294967295 by decide +kernel) k_L_law_307
theorem k_L_law_310 : decode (sk_by 23) 310 = .ok (.land, 1) := by decide +kernel
theorem x_L_law_310 {ls st : List Value} {x y : Int64} {I : MI} {J : MJ} {R : MR} {S : Sh} {Q : SkQ} : Wp 23 310 ls (.long y :: .long x :: st) I J R S Q = Wp 23 311 ls (.long (x &&& y) :: st) I J R S Q := o_land k_L_law_310
theorem k_L_law_311 : decode (sk_by 23) 311 = .ok (.lor, 1) := by decide +kernel
theorem x_L_law_311 {ls st : List Value} {x y : Int64} {I : MI} {J : MJ} {R : MR} {S : Sh} {Q : SkQ} : Wp 23 311 ls (.long y :: .long x :: st) I J R S Q = Wp 23 312 ls (.long (x ||| y) :: st) I J R S Q := o_lor k_L_law_311
theorem k_L_law_312 : decode (sk_by 23) 312 = .ok (.invokevirtual 111, 3) := by decide +kernel
theorem x_L_law_312 {ls : List Value} {a0 : Nat} {a1 : Int64} {I : MI} {J : MJ} {R : MR} {S : Sh} {Q : SkQ} (ha : S.1 a0 = 8) : Wp 23 312 ls (.long a1 :: .ref a0 :: []) I J R S Q = Wp 193 0 [.ref a0, .long a1, nov, nov, nov] [] I J R S (Ret 23 312 315 193 ls [] Q) := o_call (as := [.ref a0, .long a1]) (rest := []) (show sk_lkM (sk_cl 23) 111 = some 193 by decide +kernel) (by decide) (by decide) (by (decide +kernel)) (ins := .invokevirtual 111) (by (decide +kernel)) k_L_law_312 rfl (show 2 = sk_na 193 by (decide +kernel)) (Nat.le_of_ble_eq_true rfl) (Nat.le_trans (show (argL [.ref a0, .long a1]).length ≤ 5 from Nat.le_of_ble_eq_true rfl) (by (decide +kernel))) (rcv_of (by (decide +kernel)) (by decide) ha)
theorem k_L_law_315 : decode (sk_by 23) 315 = .ok (.istore 6, 2) := by decide +kernel
theorem x_L_law_315 {st : List Value} {l0 : Nat} {l1 : Nat} {l2 : Nat} {l3 : Nat} {l4 : Int32} {l5 : Int32} {l6 : Value} {x : Int32} {I : MI} {J : MJ} {R : MR} {S : Sh} {Q : SkQ} : Wp 23 315 [.ref l0, .ref l1, .ref l2, .ref l3, .int l4, .int l5, l6, nov] (.int x :: st) I J R S Q = Wp 23 317 [.ref l0, .ref l1, .ref l2, .ref l3, .int l4, .int l5, .int x, nov] st I J R S Q := o_istore (Nat.le_of_ble_eq_true rfl) rfl k_L_law_315
theorem k_L_law_317 : decode (sk_by 23) 317 = .ok (.aload_n 2, 1) := by decide +kernel
theorem x_L_law_317 {st : List Value} {l0 : Nat} {l1 : Nat} {l3 : Nat} {l4 : Int32} {l5 : Int32} {l6 : Int32} {x : Nat} {I : MI} {J : MJ} {R : MR} {S : Sh} {Q : SkQ} : Wp 23 317 [.ref l0, .ref l1, .ref x, .ref l3, .int l4, .int l5, .int l6, nov] st I J R S Q = Wp 23 318 [.ref l0, .ref l1, .ref x, .ref l3, .int l4, .int l5, .int l6, nov] (.ref x :: st) I J R S Q := o_aload_n rfl k_L_law_317
theorem k_L_law_318 : decode (sk_by 23) 318 = .ok (.invokevirtual 105, 3) := by decide +kernel
theorem x_L_law_318 {ls : List Value} {a0 : Nat} {I : MI} {J : MJ} {R : MR} {S : Sh} {Q : SkQ} (ha : S.1 a0 = 8) : Wp 23 318 ls (.ref a0 :: []) I J R S Q = Wp 174 0 [.ref a0] [] I J R S (Ret 23 318 321 174 ls [] Q) := o_call (as := [.ref a0]) (rest := []) (show sk_lkM (sk_cl 23) 105 = some 174 by decide +kernel) (by decide) (by decide) (by (decide +kernel)) (ins := .invokevirtual 105) (by (decide +kernel)) k_L_law_318 rfl (show 1 = sk_na 174 by (decide +kernel)) (Nat.le_of_ble_eq_true rfl) (Nat.le_trans (show (argL [.ref a0]).length ≤ 1 from Nat.le_of_ble_eq_true rfl) (by (decide +kernel))) (rcv_of (by (decide +kernel)) (by decide) ha)
theorem k_L_law_321 : decode (sk_by 23) 321 = .ok (.iload 5, 2) := by decide +kernel
theorem x_L_law_321 {st : List Value} {l0 : Nat} {l1 : Nat} {l2 : Nat} {l3 : Nat} {l4 : Int32} {l6 : Int32} {x : Int32} {I : MI} {J : MJ} {R : MR} {S : Sh} {Q : SkQ} : Wp 23 321 [.ref l0, .ref l1, .ref l2, .ref l3, .int l4, .int x, .int l6, nov] st I J R S Q = Wp 23 323 [.ref l0, .ref l1, .ref l2, .ref l3, .int l4, .int x, .int l6, nov] (.int x :: st) I J R S Q := o_iload rfl k_L_law_321
theorem k_L_law_323 : decode (sk_by 23) 323 = .ok (.if_icmp .eq 5, 3) := by decide +kernel
theorem x_L_law_323 {ls st : List Value} {x y : Int32} {I : MI} {J : MJ} {R : MR} {S : Sh} {Q : SkQ} : Wp 23 323 ls (.int y :: .int x :: st) I J R S Q = if x = y then Wp 23 328 ls st I J R S Q else Wp 23 326 ls st I J R S Q := o_ic_eq rfl rfl k_L_law_323
theorem k_L_law_326 : decode (sk_by 23) 326 = .ok (.iconst 0, 1) := by decide +kernel
theorem x_L_law_326 {ls st : List Value} {I : MI} {J : MJ} {R : MR} {S : Sh} {Q : SkQ} : Wp 23 326 ls st I J R S Q = Wp 23 327 ls (.int 0 :: st) I J R S Q := o_const (by decide) k_L_law_326
theorem k_L_law_327 : decode (sk_by 23) 327 = .ok (.ireturn, 1) := by decide +kernel
theorem x_L_law_327 {ls : List Value} {v : Int32} {I : MI} {J : MJ} {R : MR} {S : Sh} {Q : SkQ} (h : rOk (some .boolean) v = true) : Wp 23 327 ls [.int v] I J R S Q = Q 0 (some (.int v)) I J R S := o_ireturn k_L_law_327 (by rw [show sk_rt 23 = some .boolean from rfl]; exact h)
theorem k_L_law_328 : decode (sk_by 23) 328 = .ok (.iload 5, 2) := by decide +kernel
theorem x_L_law_328 {st : List Value} {l0 : Nat} {l1 : Nat} {l2 : Nat} {l3 : Nat} {l4 : Int32} {l6 : Int32} {x : Int32} {I : MI} {J : MJ} {R : MR} {S : Sh} {Q : SkQ} : Wp 23 328 [.ref l0, .ref l1, .ref l2, .ref l3, .int l4, .int x, .int l6, nov] st I J R S Q = Wp 23 330 [.ref l0, .ref l1, .ref l2, .ref l3, .int l4, .int x, .int l6, nov] (.int x :: st) I J R S Q := o_iload rfl k_L_law_328
theorem k_L_law_330 : decode (sk_by 23) 330 = .ok (.ifCond .ne 15, 3) := by decide +kernel
theorem x_L_law_330 {ls st : List Value} {x : Int32} {I : MI} {J : MJ} {R : MR} {S : Sh} {Q : SkQ} : Wp 23 330 ls (.int x :: st) I J R S Q = if x = 0 then Wp 23 333 ls st I J R S Q else Wp 23 345 ls st I J R S Q := o_if_ne rfl rfl k_L_law_330
theorem k_L_law_333 : decode (sk_by 23) 333 = .ok (.aload_n 3, 1) := by decide +kernel
theorem x_L_law_333 {st : List Value} {l0 : Nat} {l1 : Nat} {l2 : Nat} {l4 : Int32} {l5 : Int32} {l6 : Int32} {x : Nat} {I : MI} {J : MJ} {R : MR} {S : Sh} {Q : SkQ} : Wp 23 333 [.ref l0, .ref l1, .ref l2, .ref x, .int l4, .int l5, .int l6, nov] st I J R S Q = Wp 23 334 [.ref l0, .ref l1, .ref l2, .ref x, .int l4, .int l5, .int l6, nov] (.ref x :: st) I J R S Q := o_aload_n rfl k_L_law_333
theorem k_L_law_334 : decode (sk_by 23) 334 = .ok (.iconst 0, 1) := by decide +kernel
theorem x_L_law_334 {ls st : List Value} {I : MI} {J : MJ} {R : MR} {S : Sh} {Q : SkQ} : Wp 23 334 ls st I J R S Q = Wp 23 335 ls (.int 0 :: st) I J R S Q := o_const (by decide) k_L_law_334
theorem k_L_law_335 : decode (sk_by 23) 335 = .ok (.laload, 1) := by decide +kernel
theorem x_L_law_335 {ls st : List Value} {a : Nat} {i : Int32} {I : MI} {J : MJ} {R : MR} {S : Sh} {Q : SkQ} (ha : S.1 a = 31) (hi : inb i (S.2.1 a) = true) : Wp 23 335 ls (.int i :: .ref a :: st) I J R S Q = Wp 23 336 ls (.long (J a (ix i)) :: st) I J R S Q := o_laload k_L_law_335 ha hi
theorem k_L_law_336 : decode (sk_by 23) 336 = .ok (.iload 6, 2) := by decide +kernel
theorem x_L_law_336 {st : List Value} {l0 : Nat} {l1 : Nat} {l2 : Nat} {l3 : Nat} {l4 : Int32} {l5 : Int32} {x : Int32} {I : MI} {J : MJ} {R : MR} {S : Sh} {Q : SkQ} : Wp 23 336 [.ref l0, .ref l1, .ref l2, .ref l3, .int l4, .int l5, .int x, nov] st I J R S Q = Wp 23 338 [.ref l0, .ref l1, .ref l2, .ref l3, .int l4, .int l5, .int x, nov] (.int x :: st) I J R S Q := o_iload rfl k_L_law_336
theorem k_L_law_338 : decode (sk_by 23) 338 = .ok (.i2l, 1) := by decide +kernel
theorem x_L_law_338 {ls st : List Value} {x : Int32} {I : MI} {J : MJ} {R : MR} {S : Sh} {Q : SkQ} : Wp 23 338 ls (.int x :: st) I J R S Q = Wp 23 339 ls (.long x.toInt64 :: st) I J R S Q := o_i2l k_L_law_338
theorem k_L_law_339 : decode (sk_by 23) 339 = .ok (.lcmp, 1) := by decide +kernel
theorem x_L_law_339 {ls st : List Value} {x y : Int64} {I : MI} {J : MJ} {R : MR} {S : Sh} {Q : SkQ} : Wp 23 339 ls (.long y :: .long x :: st) I J R S Q = Wp 23 340 ls (.int (lg_cmp x y) :: st) I J R S Q := o_lcmp k_L_law_339
theorem k_L_law_340 : decode (sk_by 23) 340 = .ok (.ifCond .eq 5, 3) := by decide +kernel
theorem x_L_law_340 {ls st : List Value} {x : Int32} {I : MI} {J : MJ} {R : MR} {S : Sh} {Q : SkQ} : Wp 23 340 ls (.int x :: st) I J R S Q = if x = 0 then Wp 23 345 ls st I J R S Q else Wp 23 343 ls st I J R S Q := o_if_eq rfl rfl k_L_law_340
theorem k_L_law_343 : decode (sk_by 23) 343 = .ok (.iconst 0, 1) := by decide +kernel
theorem x_L_law_343 {ls st : List Value} {I : MI} {J : MJ} {R : MR} {S : Sh} {Q : SkQ} : Wp 23 343 ls st I J R S Q = Wp 23 344 ls (.int 0 :: st) I J R S Q := o_const (by decide) k_L_law_343
theorem k_L_law_344 : decode (sk_by 23) 344 = .ok (.ireturn, 1) := by decide +kernel
theorem x_L_law_344 {ls : List Value} {v : Int32} {I : MI} {J : MJ} {R : MR} {S : Sh} {Q : SkQ} (h : rOk (some .boolean) v = true) : Wp 23 344 ls [.int v] I J R S Q = Q 0 (some (.int v)) I J R S := o_ireturn k_L_law_344 (by rw [show sk_rt 23 = some .boolean from rfl]; exact h)
theorem k_L_law_345 : decode (sk_by 23) 345 = .ok (.goto 1843, 3) := by decide +kernel
theorem x_L_law_345 {ls st : List Value} {I : MI} {J : MJ} {R : MR} {S : Sh} {Q : SkQ} : Wp 23 345 ls st I J R S Q = Wp 23 2188 ls st I J R S Q := o_goto rfl rfl k_L_law_345
theorem k_L_law_348 : decode (sk_by 23) 348 = .ok (.aload_n 1, 1) := by decide +kernel
theorem x_L_law_348 {st : List Value} {l0 : Nat} {l2 : Nat} {l3 : Nat} {l4 : Int32} {l5 : Value} {l6 : Value} {x : Nat} {I : MI} {J : MJ} {R : MR} {S : Sh} {Q : SkQ} : Wp 23 348 [.ref l0, .ref x, .ref l2, .ref l3, .int l4, l5, l6, nov] st I J R S Q = Wp 23 349 [.ref l0, .ref x, .ref l2, .ref l3, .int l4, l5, l6, nov] (.ref x :: st) I J R S Q := o_aload_n rfl k_L_law_348
theorem k_L_law_349 : decode (sk_by 23) 349 = .ok (.aload_n 0, 1) := by decide +kernel
theorem x_L_law_349 {st : List Value} {l1 : Nat} {l2 : Nat} {l3 : Nat} {l4 : Int32} {l5 : Value} {l6 : Value} {x : Nat} {I : MI} {J : MJ} {R : MR} {S : Sh} {Q : SkQ} : Wp 23 349 [.ref x, .ref l1, .ref l2, .ref l3, .int l4, l5, l6, nov] st I J R S Q = Wp 23 350 [.ref x, .ref l1, .ref l2, .ref l3, .int l4, l5, l6, nov] (.ref x :: st) I J R S Q := o_aload_n rfl k_L_law_349
theorem k_L_law_350 : decode (sk_by 23) 350 = .ok (.iload 4, 2) := by decide +kernel
theorem x_L_law_350 {st : List Value} {l0 : Nat} {l1 : Nat} {l2 : Nat} {l3 : Nat} {l5 : Value} {l6 : Value} {x : Int32} {I : MI} {J : MJ} {R : MR} {S : Sh} {Q : SkQ} : Wp 23 350 [.ref l0, .ref l1, .ref l2, .ref l3, .int x, l5, l6, nov] st I J R S Q = Wp 23 352 [.ref l0, .ref l1, .ref l2, .ref l3, .int x, l5, l6, nov] (.int x :: st) I J R S Q := o_iload rfl k_L_law_350
theorem k_L_law_352 : decode (sk_by 23) 352 = .ok (.iconst 1, 1) := by decide +kernel
theorem x_L_law_352 {ls st : List Value} {I : MI} {J : MJ} {R : MR} {S : Sh} {Q : SkQ} : Wp 23 352 ls st I J R S Q = Wp 23 353 ls (.int 1 :: st) I J R S Q := o_const (by decide) k_L_law_352
theorem k_L_law_353 : decode (sk_by 23) 353 = .ok (.iadd, 1) := by decide +kernel
theorem x_L_law_353 {ls st : List Value} {x y : Int32} {I : MI} {J : MJ} {R : MR} {S : Sh} {Q : SkQ} : Wp 23 353 ls (.int y :: .int x :: st) I J R S Q = Wp 23 354 ls (.int (x + y) :: st) I J R S Q := o_iadd k_L_law_353
theorem k_L_law_354 : decode (sk_by 23) 354 = .ok (.iaload, 1) := by decide +kernel
theorem x_L_law_354 {ls st : List Value} {a : Nat} {i : Int32} {I : MI} {J : MJ} {R : MR} {S : Sh} {Q : SkQ} (ha : S.1 a = 30) (hi : inb i (S.2.1 a) = true) : Wp 23 354 ls (.int i :: .ref a :: st) I J R S Q = Wp 23 355 ls (.int (I a (ix i)) :: st) I J R S Q := o_iaload k_L_law_354 ha hi
theorem x_L_law_354C {ls st : List Value} {a : Nat} {i : Int32} {I : MI} {J : MJ} {R : MR} {S : Sh} {Q : SkQ} (ha : S.1 a = 40) (hi : inb i (S.2.1 a) = true) : Wp 23 354 ls (.int i :: .ref a :: st) I J R S Q = Wp 23 355 ls (.int (I a (ix i)) :: st) I J R S Q := o_ialoadC k_L_law_354 ha hi
theorem k_L_law_355 : decode (sk_by 23) 355 = .ok (.i2l, 1) := by decide +kernel
theorem x_L_law_355 {ls st : List Value} {x : Int32} {I : MI} {J : MJ} {R : MR} {S : Sh} {Q : SkQ} : Wp 23 355 ls (.int x :: st) I J R S Q = Wp 23 356 ls (.long x.toInt64 :: st) I J R S Q := o_i2l k_L_law_355
theorem k_L_law_356 : decode (sk_by 23) 356 = .ok (.bipush 32, 2) := by decide +kernel
theorem x_L_law_356 {ls st : List Value} {I : MI} {J : MJ} {R : MR} {S : Sh} {Q : SkQ} : Wp 23 356 ls st I J R S Q = Wp 23 358 ls (.int 32 :: st) I J R S Q := o_bi (by decide) k_L_law_356
theorem k_L_law_358 : decode (sk_by 23) 358 = .ok (.lshl, 1) := by decide +kernel
theorem x_L_law_358 {ls st : List Value} {x : Int64} {y : Int32} {I : MI} {J : MJ} {R : MR} {S : Sh} {Q : SkQ} : Wp 23 358 ls (.int y :: .long x :: st) I J R S Q = Wp 23 359 ls (.long (x <<< (y.toInt64 &&& 63)) :: st) I J R S Q := o_lshl k_L_law_358
theorem k_L_law_359 : decode (sk_by 23) 359 = .ok (.aload_n 0, 1) := by decide +kernel
theorem x_L_law_359 {st : List Value} {l1 : Nat} {l2 : Nat} {l3 : Nat} {l4 : Int32} {l5 : Value} {l6 : Value} {x : Nat} {I : MI} {J : MJ} {R : MR} {S : Sh} {Q : SkQ} : Wp 23 359 [.ref x, .ref l1, .ref l2, .ref l3, .int l4, l5, l6, nov] st I J R S Q = Wp 23 360 [.ref x, .ref l1, .ref l2, .ref l3, .int l4, l5, l6, nov] (.ref x :: st) I J R S Q := o_aload_n rfl k_L_law_359
theorem k_L_law_360 : decode (sk_by 23) 360 = .ok (.iload 4, 2) := by decide +kernel
theorem x_L_law_360 {st : List Value} {l0 : Nat} {l1 : Nat} {l2 : Nat} {l3 : Nat} {l5 : Value} {l6 : Value} {x : Int32} {I : MI} {J : MJ} {R : MR} {S : Sh} {Q : SkQ} : Wp 23 360 [.ref l0, .ref l1, .ref l2, .ref l3, .int x, l5, l6, nov] st I J R S Q = Wp 23 362 [.ref l0, .ref l1, .ref l2, .ref l3, .int x, l5, l6, nov] (.int x :: st) I J R S Q := o_iload rfl k_L_law_360
theorem k_L_law_362 : decode (sk_by 23) 362 = .ok (.iconst 2, 1) := by decide +kernel
theorem x_L_law_362 {ls st : List Value} {I : MI} {J : MJ} {R : MR} {S : Sh} {Q : SkQ} : Wp 23 362 ls st I J R S Q = Wp 23 363 ls (.int 2 :: st) I J R S Q := o_const (by decide) k_L_law_362
theorem k_L_law_363 : decode (sk_by 23) 363 = .ok (.iadd, 1) := by decide +kernel
theorem x_L_law_363 {ls st : List Value} {x y : Int32} {I : MI} {J : MJ} {R : MR} {S : Sh} {Q : SkQ} : Wp 23 363 ls (.int y :: .int x :: st) I J R S Q = Wp 23 364 ls (.int (x + y) :: st) I J R S Q := o_iadd k_L_law_363
theorem k_L_law_364 : decode (sk_by 23) 364 = .ok (.iaload, 1) := by decide +kernel
theorem x_L_law_364 {ls st : List Value} {a : Nat} {i : Int32} {I : MI} {J : MJ} {R : MR} {S : Sh} {Q : SkQ} (ha : S.1 a = 30) (hi : inb i (S.2.1 a) = true) : Wp 23 364 ls (.int i :: .ref a :: st) I J R S Q = Wp 23 365 ls (.int (I a (ix i)) :: st) I J R S Q := o_iaload k_L_law_364 ha hi
theorem x_L_law_364C {ls st : List Value} {a : Nat} {i : Int32} {I : MI} {J : MJ} {R : MR} {S : Sh} {Q : SkQ} (ha : S.1 a = 40) (hi : inb i (S.2.1 a) = true) : Wp 23 364 ls (.int i :: .ref a :: st) I J R S Q = Wp 23 365 ls (.int (I a (ix i)) :: st) I J R S Q := o_ialoadC k_L_law_364 ha hi
theorem k_L_law_365 : decode (sk_by 23) 365 = .ok (.i2l, 1) := by decide +kernel
theorem x_L_law_365 {ls st : List Value} {x : Int32} {I : MI} {J : MJ} {R : MR} {S : Sh} {Q : SkQ} : Wp 23 365 ls (.int x :: st) I J R S Q = Wp 23 366 ls (.long x.toInt64 :: st) I J R S Q := o_i2l k_L_law_365
theorem k_L_law_366 : decode (sk_by 23) 366 = .ok (.ldc2_w 97, 3) := by decide +kernel
theorem x_L_law_366 {ls st : List Value} {I : MI} {J : MJ} {R : MR} {S : Sh} {Q : SkQ} : Wp 23 366 ls st I J R S Q = Wp 23 369 ls (.long 4294967295 :: st) I J R S Q := o_ldc2_w (show sk_lkK (sk_cl 23) 97 = some 4294967295 by decide +kernel) k_L_law_366
theorem k_L_law_369 : decode (sk_by 23) 369 = .ok (.land, 1) := by decide +kernel
theorem x_L_law_369 {ls st : List Value} {x y : Int64} {I : MI} {J : MJ} {R : MR} {S : Sh} {Q : SkQ} : Wp 23 369 ls (.long y :: .long x :: st) I J R S Q = Wp 23 370 ls (.long (x &&& y) :: st) I J R S Q := o_land k_L_law_369
theorem k_L_law_370 : decode (sk_by 23) 370 = .ok (.lor, 1) := by decide +kernel
theorem x_L_law_370 {ls st : List Value} {x y : Int64} {I : MI} {J : MJ} {R : MR} {S : Sh} {Q : SkQ} : Wp 23 370 ls (.long y :: .long x :: st) I J R S Q = Wp 23 371 ls (.long (x ||| y) :: st) I J R S Q := o_lor k_L_law_370
theorem k_L_law_371 : decode (sk_by 23) 371 = .ok (.aload_n 3, 1) := by decide +kernel
theorem x_L_law_371 {st : List Value} {l0 : Nat} {l1 : Nat} {l2 : Nat} {l4 : Int32} {l5 : Value} {l6 : Value} {x : Nat} {I : MI} {J : MJ} {R : MR} {S : Sh} {Q : SkQ} : Wp 23 371 [.ref l0, .ref l1, .ref l2, .ref x, .int l4, l5, l6, nov] st I J R S Q = Wp 23 372 [.ref l0, .ref l1, .ref l2, .ref x, .int l4, l5, l6, nov] (.ref x :: st) I J R S Q := o_aload_n rfl k_L_law_371
theorem k_L_law_372 : decode (sk_by 23) 372 = .ok (.invokestatic 112, 3) := by decide +kernel
theorem x_L_law_372 {ls : List Value} {a0 : Nat} {a1 : Int64} {a2 : Nat} {I : MI} {J : MJ} {R : MR} {S : Sh} {Q : SkQ} : Wp 23 372 ls (.ref a2 :: .long a1 :: .ref a0 :: []) I J R S Q = Wp 2 0 [.ref a0, .long a1, nov, .ref a2, nov] [] I J R S (Ret 23 372 375 2 ls [] Q) := o_call (as := [.ref a0, .long a1, .ref a2]) (rest := []) (show sk_lkM (sk_cl 23) 112 = some 2 by decide +kernel) (by decide) (by decide) (by (decide +kernel)) (ins := .invokestatic 112) (by (decide +kernel)) k_L_law_372 rfl (show 3 = sk_na 2 by (decide +kernel)) (Nat.le_of_ble_eq_true rfl) (Nat.le_trans (show (argL [.ref a0, .long a1, .ref a2]).length ≤ 5 from Nat.le_of_ble_eq_true rfl) (by (decide +kernel))) rfl
theorem k_L_law_375 : decode (sk_by 23) 375 = .ok (.istore 5, 2) := by decide +kernel
theorem x_L_law_375 {st : List Value} {l0 : Nat} {l1 : Nat} {l2 : Nat} {l3 : Nat} {l4 : Int32} {l5 : Value} {l6 : Value} {x : Int32} {I : MI} {J : MJ} {R : MR} {S : Sh} {Q : SkQ} : Wp 23 375 [.ref l0, .ref l1, .ref l2, .ref l3, .int l4, l5, l6, nov] (.int x :: st) I J R S Q = Wp 23 377 [.ref l0, .ref l1, .ref l2, .ref l3, .int l4, .int x, l6, nov] st I J R S Q := o_istore (Nat.le_of_ble_eq_true rfl) rfl k_L_law_375
theorem k_L_law_377 : decode (sk_by 23) 377 = .ok (.aload_n 2, 1) := by decide +kernel
theorem x_L_law_377 {st : List Value} {l0 : Nat} {l1 : Nat} {l3 : Nat} {l4 : Int32} {l5 : Int32} {l6 : Value} {x : Nat} {I : MI} {J : MJ} {R : MR} {S : Sh} {Q : SkQ} : Wp 23 377 [.ref l0, .ref l1, .ref x, .ref l3, .int l4, .int l5, l6, nov] st I J R S Q = Wp 23 378 [.ref l0, .ref l1, .ref x, .ref l3, .int l4, .int l5, l6, nov] (.ref x :: st) I J R S Q := o_aload_n rfl k_L_law_377
theorem k_L_law_378 : decode (sk_by 23) 378 = .ok (.aload_n 0, 1) := by decide +kernel
theorem x_L_law_378 {st : List Value} {l1 : Nat} {l2 : Nat} {l3 : Nat} {l4 : Int32} {l5 : Int32} {l6 : Value} {x : Nat} {I : MI} {J : MJ} {R : MR} {S : Sh} {Q : SkQ} : Wp 23 378 [.ref x, .ref l1, .ref l2, .ref l3, .int l4, .int l5, l6, nov] st I J R S Q = Wp 23 379 [.ref x, .ref l1, .ref l2, .ref l3, .int l4, .int l5, l6, nov] (.ref x :: st) I J R S Q := o_aload_n rfl k_L_law_378
theorem k_L_law_379 : decode (sk_by 23) 379 = .ok (.iload 4, 2) := by decide +kernel
theorem x_L_law_379 {st : List Value} {l0 : Nat} {l1 : Nat} {l2 : Nat} {l3 : Nat} {l5 : Int32} {l6 : Value} {x : Int32} {I : MI} {J : MJ} {R : MR} {S : Sh} {Q : SkQ} : Wp 23 379 [.ref l0, .ref l1, .ref l2, .ref l3, .int x, .int l5, l6, nov] st I J R S Q = Wp 23 381 [.ref l0, .ref l1, .ref l2, .ref l3, .int x, .int l5, l6, nov] (.int x :: st) I J R S Q := o_iload rfl k_L_law_379
theorem k_L_law_381 : decode (sk_by 23) 381 = .ok (.iconst 1, 1) := by decide +kernel
theorem x_L_law_381 {ls st : List Value} {I : MI} {J : MJ} {R : MR} {S : Sh} {Q : SkQ} : Wp 23 381 ls st I J R S Q = Wp 23 382 ls (.int 1 :: st) I J R S Q := o_const (by decide) k_L_law_381
theorem k_L_law_382 : decode (sk_by 23) 382 = .ok (.iadd, 1) := by decide +kernel
theorem x_L_law_382 {ls st : List Value} {x y : Int32} {I : MI} {J : MJ} {R : MR} {S : Sh} {Q : SkQ} : Wp 23 382 ls (.int y :: .int x :: st) I J R S Q = Wp 23 383 ls (.int (x + y) :: st) I J R S Q := o_iadd k_L_law_382
theorem k_L_law_383 : decode (sk_by 23) 383 = .ok (.iaload, 1) := by decide +kernel
theorem x_L_law_383 {ls st : List Value} {a : Nat} {i : Int32} {I : MI} {J : MJ} {R : MR} {S : Sh} {Q : SkQ} (ha : S.1 a = 30) (hi : inb i (S.2.1 a) = true) : Wp 23 383 ls (.int i :: .ref a :: st) I J R S Q = Wp 23 384 ls (.int (I a (ix i)) :: st) I J R S Q := o_iaload k_L_law_383 ha hi
theorem x_L_law_383C {ls st : List Value} {a : Nat} {i : Int32} {I : MI} {J : MJ} {R : MR} {S : Sh} {Q : SkQ} (ha : S.1 a = 40) (hi : inb i (S.2.1 a) = true) : Wp 23 383 ls (.int i :: .ref a :: st) I J R S Q = Wp 23 384 ls (.int (I a (ix i)) :: st) I J R S Q := o_ialoadC k_L_law_383 ha hi
theorem k_L_law_384 : decode (sk_by 23) 384 = .ok (.i2l, 1) := by decide +kernel
theorem x_L_law_384 {ls st : List Value} {x : Int32} {I : MI} {J : MJ} {R : MR} {S : Sh} {Q : SkQ} : Wp 23 384 ls (.int x :: st) I J R S Q = Wp 23 385 ls (.long x.toInt64 :: st) I J R S Q := o_i2l k_L_law_384
theorem k_L_law_385 : decode (sk_by 23) 385 = .ok (.bipush 32, 2) := by decide +kernel
theorem x_L_law_385 {ls st : List Value} {I : MI} {J : MJ} {R : MR} {S : Sh} {Q : SkQ} : Wp 23 385 ls st I J R S Q = Wp 23 387 ls (.int 32 :: st) I J R S Q := o_bi (by decide) k_L_law_385
theorem k_L_law_387 : decode (sk_by 23) 387 = .ok (.lshl, 1) := by decide +kernel
theorem x_L_law_387 {ls st : List Value} {x : Int64} {y : Int32} {I : MI} {J : MJ} {R : MR} {S : Sh} {Q : SkQ} : Wp 23 387 ls (.int y :: .long x :: st) I J R S Q = Wp 23 388 ls (.long (x <<< (y.toInt64 &&& 63)) :: st) I J R S Q := o_lshl k_L_law_387
theorem k_L_law_388 : decode (sk_by 23) 388 = .ok (.aload_n 0, 1) := by decide +kernel
theorem x_L_law_388 {st : List Value} {l1 : Nat} {l2 : Nat} {l3 : Nat} {l4 : Int32} {l5 : Int32} {l6 : Value} {x : Nat} {I : MI} {J : MJ} {R : MR} {S : Sh} {Q : SkQ} : Wp 23 388 [.ref x, .ref l1, .ref l2, .ref l3, .int l4, .int l5, l6, nov] st I J R S Q = Wp 23 389 [.ref x, .ref l1, .ref l2, .ref l3, .int l4, .int l5, l6, nov] (.ref x :: st) I J R S Q := o_aload_n rfl k_L_law_388
theorem k_L_law_389 : decode (sk_by 23) 389 = .ok (.iload 4, 2) := by decide +kernel
theorem x_L_law_389 {st : List Value} {l0 : Nat} {l1 : Nat} {l2 : Nat} {l3 : Nat} {l5 : Int32} {l6 : Value} {x : Int32} {I : MI} {J : MJ} {R : MR} {S : Sh} {Q : SkQ} : Wp 23 389 [.ref l0, .ref l1, .ref l2, .ref l3, .int x, .int l5, l6, nov] st I J R S Q = Wp 23 391 [.ref l0, .ref l1, .ref l2, .ref l3, .int x, .int l5, l6, nov] (.int x :: st) I J R S Q := o_iload rfl k_L_law_389
theorem k_L_law_391 : decode (sk_by 23) 391 = .ok (.iconst 2, 1) := by decide +kernel
theorem x_L_law_391 {ls st : List Value} {I : MI} {J : MJ} {R : MR} {S : Sh} {Q : SkQ} : Wp 23 391 ls st I J R S Q = Wp 23 392 ls (.int 2 :: st) I J R S Q := o_const (by decide) k_L_law_391
theorem k_L_law_392 : decode (sk_by 23) 392 = .ok (.iadd, 1) := by decide +kernel
theorem x_L_law_392 {ls st : List Value} {x y : Int32} {I : MI} {J : MJ} {R : MR} {S : Sh} {Q : SkQ} : Wp 23 392 ls (.int y :: .int x :: st) I J R S Q = Wp 23 393 ls (.int (x + y) :: st) I J R S Q := o_iadd k_L_law_392
theorem k_L_law_393 : decode (sk_by 23) 393 = .ok (.iaload, 1) := by decide +kernel
theorem x_L_law_393 {ls st : List Value} {a : Nat} {i : Int32} {I : MI} {J : MJ} {R : MR} {S : Sh} {Q : SkQ} (ha : S.1 a = 30) (hi : inb i (S.2.1 a) = true) : Wp 23 393 ls (.int i :: .ref a :: st) I J R S Q = Wp 23 394 ls (.int (I a (ix i)) :: st) I J R S Q := o_iaload k_L_law_393 ha hi
theorem x_L_law_393C {ls st : List Value} {a : Nat} {i : Int32} {I : MI} {J : MJ} {R : MR} {S : Sh} {Q : SkQ} (ha : S.1 a = 40) (hi : inb i (S.2.1 a) = true) : Wp 23 393 ls (.int i :: .ref a :: st) I J R S Q = Wp 23 394 ls (.int (I a (ix i)) :: st) I J R S Q := o_ialoadC k_L_law_393 ha hi
theorem k_L_law_394 : decode (sk_by 23) 394 = .ok (.i2l, 1) := by decide +kernel
theorem x_L_law_394 {ls st : List Value} {x : Int32} {I : MI} {J : MJ} {R : MR} {S : Sh} {Q : SkQ} : Wp 23 394 ls (.int x :: st) I J R S Q = Wp 23 395 ls (.long x.toInt64 :: st) I J R S Q := o_i2l k_L_law_394
theorem k_L_law_395 : decode (sk_by 23) 395 = .ok (.ldc2_w 97, 3) := by decide +kernel
theorem x_L_law_395 {ls st : List Value} {I : MI} {J : MJ} {R : MR} {S : Sh} {Q : SkQ} : Wp 23 395 ls st I J R S Q = Wp 23 398 ls (.long 4294967295 :: st) I J R S Q := o_ldc2_w (show sk_lkK (sk_cl 23) 97 = some 4294967295 by decide +kernel) k_L_law_395
theorem k_L_law_398 : decode (sk_by 23) 398 = .ok (.land, 1) := by decide +kernel
theorem x_L_law_398 {ls st : List Value} {x y : Int64} {I : MI} {J : MJ} {R : MR} {S : Sh} {Q : SkQ} : Wp 23 398 ls (.long y :: .long x :: st) I J R S Q = Wp 23 399 ls (.long (x &&& y) :: st) I J R S Q := o_land k_L_law_398
theorem k_L_law_399 : decode (sk_by 23) 399 = .ok (.lor, 1) := by decide +kernel
theorem x_L_law_399 {ls st : List Value} {x y : Int64} {I : MI} {J : MJ} {R : MR} {S : Sh} {Q : SkQ} : Wp 23 399 ls (.long y :: .long x :: st) I J R S Q = Wp 23 400 ls (.long (x ||| y) :: st) I J R S Q := o_lor k_L_law_399
theorem k_L_law_400 : decode (sk_by 23) 400 = .ok (.invokevirtual 114, 3) := by decide +kernel
theorem x_L_law_400 {ls : List Value} {a0 : Nat} {a1 : Int64} {I : MI} {J : MJ} {R : MR} {S : Sh} {Q : SkQ} (ha : S.1 a0 = 8) : Wp 23 400 ls (.long a1 :: .ref a0 :: []) I J R S Q = Wp 194 0 [.ref a0, .long a1, nov, nov] [] I J R S (Ret 23 400 403 194 ls [] Q) := o_call (as := [.ref a0, .long a1]) (rest := []) (show sk_lkM (sk_cl 23) 114 = some 194 by decide +kernel) (by decide) (by decide) (by (decide +kernel)) (ins := .invokevirtual 114) (by (decide +kernel)) k_L_law_400 rfl (show 2 = sk_na 194 by (decide +kernel)) (Nat.le_of_ble_eq_true rfl) (Nat.le_trans (show (argL [.ref a0, .long a1]).length ≤ 4 from Nat.le_of_ble_eq_true rfl) (by (decide +kernel))) (rcv_of (by (decide +kernel)) (by decide) ha)
theorem k_L_law_403 : decode (sk_by 23) 403 = .ok (.istore 6, 2) := by decide +kernel
theorem x_L_law_403 {st : List Value} {l0 : Nat} {l1 : Nat} {l2 : Nat} {l3 : Nat} {l4 : Int32} {l5 : Int32} {l6 : Value} {x : Int32} {I : MI} {J : MJ} {R : MR} {S : Sh} {Q : SkQ} : Wp 23 403 [.ref l0, .ref l1, .ref l2, .ref l3, .int l4, .int l5, l6, nov] (.int x :: st) I J R S Q = Wp 23 405 [.ref l0, .ref l1, .ref l2, .ref l3, .int l4, .int l5, .int x, nov] st I J R S Q := o_istore (Nat.le_of_ble_eq_true rfl) rfl k_L_law_403
theorem k_L_law_405 : decode (sk_by 23) 405 = .ok (.aload_n 2, 1) := by decide +kernel
theorem x_L_law_405 {st : List Value} {l0 : Nat} {l1 : Nat} {l3 : Nat} {l4 : Int32} {l5 : Int32} {l6 : Int32} {x : Nat} {I : MI} {J : MJ} {R : MR} {S : Sh} {Q : SkQ} : Wp 23 405 [.ref l0, .ref l1, .ref x, .ref l3, .int l4, .int l5, .int l6, nov] st I J R S Q = Wp 23 406 [.ref l0, .ref l1, .ref x, .ref l3, .int l4, .int l5, .int l6, nov] (.ref x :: st) I J R S Q := o_aload_n rfl k_L_law_405
theorem k_L_law_406 : decode (sk_by 23) 406 = .ok (.invokevirtual 105, 3) := by decide +kernel
theorem x_L_law_406 {ls : List Value} {a0 : Nat} {I : MI} {J : MJ} {R : MR} {S : Sh} {Q : SkQ} (ha : S.1 a0 = 8) : Wp 23 406 ls (.ref a0 :: []) I J R S Q = Wp 174 0 [.ref a0] [] I J R S (Ret 23 406 409 174 ls [] Q) := o_call (as := [.ref a0]) (rest := []) (show sk_lkM (sk_cl 23) 105 = some 174 by decide +kernel) (by decide) (by decide) (by (decide +kernel)) (ins := .invokevirtual 105) (by (decide +kernel)) k_L_law_406 rfl (show 1 = sk_na 174 by (decide +kernel)) (Nat.le_of_ble_eq_true rfl) (Nat.le_trans (show (argL [.ref a0]).length ≤ 1 from Nat.le_of_ble_eq_true rfl) (by (decide +kernel))) (rcv_of (by (decide +kernel)) (by decide) ha)
theorem k_L_law_409 : decode (sk_by 23) 409 = .ok (.iload 5, 2) := by decide +kernel
theorem x_L_law_409 {st : List Value} {l0 : Nat} {l1 : Nat} {l2 : Nat} {l3 : Nat} {l4 : Int32} {l6 : Int32} {x : Int32} {I : MI} {J : MJ} {R : MR} {S : Sh} {Q : SkQ} : Wp 23 409 [.ref l0, .ref l1, .ref l2, .ref l3, .int l4, .int x, .int l6, nov] st I J R S Q = Wp 23 411 [.ref l0, .ref l1, .ref l2, .ref l3, .int l4, .int x, .int l6, nov] (.int x :: st) I J R S Q := o_iload rfl k_L_law_409
theorem k_L_law_411 : decode (sk_by 23) 411 = .ok (.if_icmp .eq 5, 3) := by decide +kernel
theorem x_L_law_411 {ls st : List Value} {x y : Int32} {I : MI} {J : MJ} {R : MR} {S : Sh} {Q : SkQ} : Wp 23 411 ls (.int y :: .int x :: st) I J R S Q = if x = y then Wp 23 416 ls st I J R S Q else Wp 23 414 ls st I J R S Q := o_ic_eq rfl rfl k_L_law_411
theorem k_L_law_414 : decode (sk_by 23) 414 = .ok (.iconst 0, 1) := by decide +kernel
theorem x_L_law_414 {ls st : List Value} {I : MI} {J : MJ} {R : MR} {S : Sh} {Q : SkQ} : Wp 23 414 ls st I J R S Q = Wp 23 415 ls (.int 0 :: st) I J R S Q := o_const (by decide) k_L_law_414
theorem k_L_law_415 : decode (sk_by 23) 415 = .ok (.ireturn, 1) := by decide +kernel
theorem x_L_law_415 {ls : List Value} {v : Int32} {I : MI} {J : MJ} {R : MR} {S : Sh} {Q : SkQ} (h : rOk (some .boolean) v = true) : Wp 23 415 ls [.int v] I J R S Q = Q 0 (some (.int v)) I J R S := o_ireturn k_L_law_415 (by rw [show sk_rt 23 = some .boolean from rfl]; exact h)
theorem k_L_law_416 : decode (sk_by 23) 416 = .ok (.iload 5, 2) := by decide +kernel
theorem x_L_law_416 {st : List Value} {l0 : Nat} {l1 : Nat} {l2 : Nat} {l3 : Nat} {l4 : Int32} {l6 : Int32} {x : Int32} {I : MI} {J : MJ} {R : MR} {S : Sh} {Q : SkQ} : Wp 23 416 [.ref l0, .ref l1, .ref l2, .ref l3, .int l4, .int x, .int l6, nov] st I J R S Q = Wp 23 418 [.ref l0, .ref l1, .ref l2, .ref l3, .int l4, .int x, .int l6, nov] (.int x :: st) I J R S Q := o_iload rfl k_L_law_416
theorem k_L_law_418 : decode (sk_by 23) 418 = .ok (.ifCond .ne 15, 3) := by decide +kernel
theorem x_L_law_418 {ls st : List Value} {x : Int32} {I : MI} {J : MJ} {R : MR} {S : Sh} {Q : SkQ} : Wp 23 418 ls (.int x :: st) I J R S Q = if x = 0 then Wp 23 421 ls st I J R S Q else Wp 23 433 ls st I J R S Q := o_if_ne rfl rfl k_L_law_418
theorem k_L_law_421 : decode (sk_by 23) 421 = .ok (.aload_n 3, 1) := by decide +kernel
theorem x_L_law_421 {st : List Value} {l0 : Nat} {l1 : Nat} {l2 : Nat} {l4 : Int32} {l5 : Int32} {l6 : Int32} {x : Nat} {I : MI} {J : MJ} {R : MR} {S : Sh} {Q : SkQ} : Wp 23 421 [.ref l0, .ref l1, .ref l2, .ref x, .int l4, .int l5, .int l6, nov] st I J R S Q = Wp 23 422 [.ref l0, .ref l1, .ref l2, .ref x, .int l4, .int l5, .int l6, nov] (.ref x :: st) I J R S Q := o_aload_n rfl k_L_law_421
theorem k_L_law_422 : decode (sk_by 23) 422 = .ok (.iconst 0, 1) := by decide +kernel
theorem x_L_law_422 {ls st : List Value} {I : MI} {J : MJ} {R : MR} {S : Sh} {Q : SkQ} : Wp 23 422 ls st I J R S Q = Wp 23 423 ls (.int 0 :: st) I J R S Q := o_const (by decide) k_L_law_422
theorem k_L_law_423 : decode (sk_by 23) 423 = .ok (.laload, 1) := by decide +kernel
theorem x_L_law_423 {ls st : List Value} {a : Nat} {i : Int32} {I : MI} {J : MJ} {R : MR} {S : Sh} {Q : SkQ} (ha : S.1 a = 31) (hi : inb i (S.2.1 a) = true) : Wp 23 423 ls (.int i :: .ref a :: st) I J R S Q = Wp 23 424 ls (.long (J a (ix i)) :: st) I J R S Q := o_laload k_L_law_423 ha hi
theorem k_L_law_424 : decode (sk_by 23) 424 = .ok (.iload 6, 2) := by decide +kernel
theorem x_L_law_424 {st : List Value} {l0 : Nat} {l1 : Nat} {l2 : Nat} {l3 : Nat} {l4 : Int32} {l5 : Int32} {x : Int32} {I : MI} {J : MJ} {R : MR} {S : Sh} {Q : SkQ} : Wp 23 424 [.ref l0, .ref l1, .ref l2, .ref l3, .int l4, .int l5, .int x, nov] st I J R S Q = Wp 23 426 [.ref l0, .ref l1, .ref l2, .ref l3, .int l4, .int l5, .int x, nov] (.int x :: st) I J R S Q := o_iload rfl k_L_law_424
theorem k_L_law_426 : decode (sk_by 23) 426 = .ok (.i2l, 1) := by decide +kernel
theorem x_L_law_426 {ls st : List Value} {x : Int32} {I : MI} {J : MJ} {R : MR} {S : Sh} {Q : SkQ} : Wp 23 426 ls (.int x :: st) I J R S Q = Wp 23 427 ls (.long x.toInt64 :: st) I J R S Q := o_i2l k_L_law_426
theorem k_L_law_427 : decode (sk_by 23) 427 = .ok (.lcmp, 1) := by decide +kernel
theorem x_L_law_427 {ls st : List Value} {x y : Int64} {I : MI} {J : MJ} {R : MR} {S : Sh} {Q : SkQ} : Wp 23 427 ls (.long y :: .long x :: st) I J R S Q = Wp 23 428 ls (.int (lg_cmp x y) :: st) I J R S Q := o_lcmp k_L_law_427
theorem k_L_law_428 : decode (sk_by 23) 428 = .ok (.ifCond .eq 5, 3) := by decide +kernel
theorem x_L_law_428 {ls st : List Value} {x : Int32} {I : MI} {J : MJ} {R : MR} {S : Sh} {Q : SkQ} : Wp 23 428 ls (.int x :: st) I J R S Q = if x = 0 then Wp 23 433 ls st I J R S Q else Wp 23 431 ls st I J R S Q := o_if_eq rfl rfl k_L_law_428
theorem k_L_law_431 : decode (sk_by 23) 431 = .ok (.iconst 0, 1) := by decide +kernel
theorem x_L_law_431 {ls st : List Value} {I : MI} {J : MJ} {R : MR} {S : Sh} {Q : SkQ} : Wp 23 431 ls st I J R S Q = Wp 23 432 ls (.int 0 :: st) I J R S Q := o_const (by decide) k_L_law_431
theorem k_L_law_432 : decode (sk_by 23) 432 = .ok (.ireturn, 1) := by decide +kernel
theorem x_L_law_432 {ls : List Value} {v : Int32} {I : MI} {J : MJ} {R : MR} {S : Sh} {Q : SkQ} (h : rOk (some .boolean) v = true) : Wp 23 432 ls [.int v] I J R S Q = Q 0 (some (.int v)) I J R S := o_ireturn k_L_law_432 (by rw [show sk_rt 23 = some .boolean from rfl]; exact h)
theorem k_L_law_433 : decode (sk_by 23) 433 = .ok (.goto 1755, 3) := by decide +kernel
theorem x_L_law_433 {ls st : List Value} {I : MI} {J : MJ} {R : MR} {S : Sh} {Q : SkQ} : Wp 23 433 ls st I J R S Q = Wp 23 2188 ls st I J R S Q := o_goto rfl rfl k_L_law_433
theorem k_L_law_436 : decode (sk_by 23) 436 = .ok (.aload_n 1, 1) := by decide +kernel
theorem x_L_law_436 {st : List Value} {l0 : Nat} {l2 : Nat} {l3 : Nat} {l4 : Int32} {l5 : Value} {l6 : Value} {x : Nat} {I : MI} {J : MJ} {R : MR} {S : Sh} {Q : SkQ} : Wp 23 436 [.ref l0, .ref x, .ref l2, .ref l3, .int l4, l5, l6, nov] st I J R S Q = Wp 23 437 [.ref l0, .ref x, .ref l2, .ref l3, .int l4, l5, l6, nov] (.ref x :: st) I J R S Q := o_aload_n rfl k_L_law_436
theorem k_L_law_437 : decode (sk_by 23) 437 = .ok (.aload_n 0, 1) := by decide +kernel
theorem x_L_law_437 {st : List Value} {l1 : Nat} {l2 : Nat} {l3 : Nat} {l4 : Int32} {l5 : Value} {l6 : Value} {x : Nat} {I : MI} {J : MJ} {R : MR} {S : Sh} {Q : SkQ} : Wp 23 437 [.ref x, .ref l1, .ref l2, .ref l3, .int l4, l5, l6, nov] st I J R S Q = Wp 23 438 [.ref x, .ref l1, .ref l2, .ref l3, .int l4, l5, l6, nov] (.ref x :: st) I J R S Q := o_aload_n rfl k_L_law_437
theorem k_L_law_438 : decode (sk_by 23) 438 = .ok (.iload 4, 2) := by decide +kernel
theorem x_L_law_438 {st : List Value} {l0 : Nat} {l1 : Nat} {l2 : Nat} {l3 : Nat} {l5 : Value} {l6 : Value} {x : Int32} {I : MI} {J : MJ} {R : MR} {S : Sh} {Q : SkQ} : Wp 23 438 [.ref l0, .ref l1, .ref l2, .ref l3, .int x, l5, l6, nov] st I J R S Q = Wp 23 440 [.ref l0, .ref l1, .ref l2, .ref l3, .int x, l5, l6, nov] (.int x :: st) I J R S Q := o_iload rfl k_L_law_438
theorem k_L_law_440 : decode (sk_by 23) 440 = .ok (.iconst 1, 1) := by decide +kernel
theorem x_L_law_440 {ls st : List Value} {I : MI} {J : MJ} {R : MR} {S : Sh} {Q : SkQ} : Wp 23 440 ls st I J R S Q = Wp 23 441 ls (.int 1 :: st) I J R S Q := o_const (by decide) k_L_law_440
theorem k_L_law_441 : decode (sk_by 23) 441 = .ok (.iadd, 1) := by decide +kernel
theorem x_L_law_441 {ls st : List Value} {x y : Int32} {I : MI} {J : MJ} {R : MR} {S : Sh} {Q : SkQ} : Wp 23 441 ls (.int y :: .int x :: st) I J R S Q = Wp 23 442 ls (.int (x + y) :: st) I J R S Q := o_iadd k_L_law_441
theorem k_L_law_442 : decode (sk_by 23) 442 = .ok (.iaload, 1) := by decide +kernel
theorem x_L_law_442 {ls st : List Value} {a : Nat} {i : Int32} {I : MI} {J : MJ} {R : MR} {S : Sh} {Q : SkQ} (ha : S.1 a = 30) (hi : inb i (S.2.1 a) = true) : Wp 23 442 ls (.int i :: .ref a :: st) I J R S Q = Wp 23 443 ls (.int (I a (ix i)) :: st) I J R S Q := o_iaload k_L_law_442 ha hi
theorem x_L_law_442C {ls st : List Value} {a : Nat} {i : Int32} {I : MI} {J : MJ} {R : MR} {S : Sh} {Q : SkQ} (ha : S.1 a = 40) (hi : inb i (S.2.1 a) = true) : Wp 23 442 ls (.int i :: .ref a :: st) I J R S Q = Wp 23 443 ls (.int (I a (ix i)) :: st) I J R S Q := o_ialoadC k_L_law_442 ha hi
theorem k_L_law_443 : decode (sk_by 23) 443 = .ok (.i2l, 1) := by decide +kernel
theorem x_L_law_443 {ls st : List Value} {x : Int32} {I : MI} {J : MJ} {R : MR} {S : Sh} {Q : SkQ} : Wp 23 443 ls (.int x :: st) I J R S Q = Wp 23 444 ls (.long x.toInt64 :: st) I J R S Q := o_i2l k_L_law_443
theorem k_L_law_444 : decode (sk_by 23) 444 = .ok (.bipush 32, 2) := by decide +kernel
theorem x_L_law_444 {ls st : List Value} {I : MI} {J : MJ} {R : MR} {S : Sh} {Q : SkQ} : Wp 23 444 ls st I J R S Q = Wp 23 446 ls (.int 32 :: st) I J R S Q := o_bi (by decide) k_L_law_444
theorem k_L_law_446 : decode (sk_by 23) 446 = .ok (.lshl, 1) := by decide +kernel
theorem x_L_law_446 {ls st : List Value} {x : Int64} {y : Int32} {I : MI} {J : MJ} {R : MR} {S : Sh} {Q : SkQ} : Wp 23 446 ls (.int y :: .long x :: st) I J R S Q = Wp 23 447 ls (.long (x <<< (y.toInt64 &&& 63)) :: st) I J R S Q := o_lshl k_L_law_446
theorem k_L_law_447 : decode (sk_by 23) 447 = .ok (.aload_n 0, 1) := by decide +kernel
theorem x_L_law_447 {st : List Value} {l1 : Nat} {l2 : Nat} {l3 : Nat} {l4 : Int32} {l5 : Value} {l6 : Value} {x : Nat} {I : MI} {J : MJ} {R : MR} {S : Sh} {Q : SkQ} : Wp 23 447 [.ref x, .ref l1, .ref l2, .ref l3, .int l4, l5, l6, nov] st I J R S Q = Wp 23 448 [.ref x, .ref l1, .ref l2, .ref l3, .int l4, l5, l6, nov] (.ref x :: st) I J R S Q := o_aload_n rfl k_L_law_447
theorem k_L_law_448 : decode (sk_by 23) 448 = .ok (.iload 4, 2) := by decide +kernel
theorem x_L_law_448 {st : List Value} {l0 : Nat} {l1 : Nat} {l2 : Nat} {l3 : Nat} {l5 : Value} {l6 : Value} {x : Int32} {I : MI} {J : MJ} {R : MR} {S : Sh} {Q : SkQ} : Wp 23 448 [.ref l0, .ref l1, .ref l2, .ref l3, .int x, l5, l6, nov] st I J R S Q = Wp 23 450 [.ref l0, .ref l1, .ref l2, .ref l3, .int x, l5, l6, nov] (.int x :: st) I J R S Q := o_iload rfl k_L_law_448
theorem k_L_law_450 : decode (sk_by 23) 450 = .ok (.iconst 2, 1) := by decide +kernel
theorem x_L_law_450 {ls st : List Value} {I : MI} {J : MJ} {R : MR} {S : Sh} {Q : SkQ} : Wp 23 450 ls st I J R S Q = Wp 23 451 ls (.int 2 :: st) I J R S Q := o_const (by decide) k_L_law_450
theorem k_L_law_451 : decode (sk_by 23) 451 = .ok (.iadd, 1) := by decide +kernel
theorem x_L_law_451 {ls st : List Value} {x y : Int32} {I : MI} {J : MJ} {R : MR} {S : Sh} {Q : SkQ} : Wp 23 451 ls (.int y :: .int x :: st) I J R S Q = Wp 23 452 ls (.int (x + y) :: st) I J R S Q := o_iadd k_L_law_451
theorem k_L_law_452 : decode (sk_by 23) 452 = .ok (.iaload, 1) := by decide +kernel
theorem x_L_law_452 {ls st : List Value} {a : Nat} {i : Int32} {I : MI} {J : MJ} {R : MR} {S : Sh} {Q : SkQ} (ha : S.1 a = 30) (hi : inb i (S.2.1 a) = true) : Wp 23 452 ls (.int i :: .ref a :: st) I J R S Q = Wp 23 453 ls (.int (I a (ix i)) :: st) I J R S Q := o_iaload k_L_law_452 ha hi
theorem x_L_law_452C {ls st : List Value} {a : Nat} {i : Int32} {I : MI} {J : MJ} {R : MR} {S : Sh} {Q : SkQ} (ha : S.1 a = 40) (hi : inb i (S.2.1 a) = true) : Wp 23 452 ls (.int i :: .ref a :: st) I J R S Q = Wp 23 453 ls (.int (I a (ix i)) :: st) I J R S Q := o_ialoadC k_L_law_452 ha hi
theorem k_L_law_453 : decode (sk_by 23) 453 = .ok (.i2l, 1) := by decide +kernel
theorem x_L_law_453 {ls st : List Value} {x : Int32} {I : MI} {J : MJ} {R : MR} {S : Sh} {Q : SkQ} : Wp 23 453 ls (.int x :: st) I J R S Q = Wp 23 454 ls (.long x.toInt64 :: st) I J R S Q := o_i2l k_L_law_453
theorem k_L_law_454 : decode (sk_by 23) 454 = .ok (.ldc2_w 97, 3) := by decide +kernel
theorem x_L_law_454 {ls st : List Value} {I : MI} {J : MJ} {R : MR} {S : Sh} {Q : SkQ} : Wp 23 454 ls st I J R S Q = Wp 23 457 ls (.long 4294967295 :: st) I J R S Q := o_ldc2_w (show sk_lkK (sk_cl 23) 97 = some 4294967295 by decide +kernel) k_L_law_454
theorem k_L_law_457 : decode (sk_by 23) 457 = .ok (.land, 1) := by decide +kernel
theorem x_L_law_457 {ls st : List Value} {x y : Int64} {I : MI} {J : MJ} {R : MR} {S : Sh} {Q : SkQ} : Wp 23 457 ls (.long y :: .long x :: st) I J R S Q = Wp 23 458 ls (.long (x &&& y) :: st) I J R S Q := o_land k_L_law_457
theorem k_L_law_458 : decode (sk_by 23) 458 = .ok (.lor, 1) := by decide +kernel
theorem x_L_law_458 {ls st : List Value} {x y : Int64} {I : MI} {J : MJ} {R : MR} {S : Sh} {Q : SkQ} : Wp 23 458 ls (.long y :: .long x :: st) I J R S Q = Wp 23 459 ls (.long (x ||| y) :: st) I J R S Q := o_lor k_L_law_458
theorem k_L_law_459 : decode (sk_by 23) 459 = .ok (.aload_n 3, 1) := by decide +kernel
theorem x_L_law_459 {st : List Value} {l0 : Nat} {l1 : Nat} {l2 : Nat} {l4 : Int32} {l5 : Value} {l6 : Value} {x : Nat} {I : MI} {J : MJ} {R : MR} {S : Sh} {Q : SkQ} : Wp 23 459 [.ref l0, .ref l1, .ref l2, .ref x, .int l4, l5, l6, nov] st I J R S Q = Wp 23 460 [.ref l0, .ref l1, .ref l2, .ref x, .int l4, l5, l6, nov] (.ref x :: st) I J R S Q := o_aload_n rfl k_L_law_459
theorem k_L_law_460 : decode (sk_by 23) 460 = .ok (.invokestatic 115, 3) := by decide +kernel
theorem x_L_law_460 {ls : List Value} {a0 : Nat} {a1 : Int64} {a2 : Nat} {I : MI} {J : MJ} {R : MR} {S : Sh} {Q : SkQ} : Wp 23 460 ls (.ref a2 :: .long a1 :: .ref a0 :: []) I J R S Q = Wp 3 0 [.ref a0, .long a1, nov, .ref a2, nov] [] I J R S (Ret 23 460 463 3 ls [] Q) := o_call (as := [.ref a0, .long a1, .ref a2]) (rest := []) (show sk_lkM (sk_cl 23) 115 = some 3 by decide +kernel) (by decide) (by decide) (by (decide +kernel)) (ins := .invokestatic 115) (by (decide +kernel)) k_L_law_460 rfl (show 3 = sk_na 3 by (decide +kernel)) (Nat.le_of_ble_eq_true rfl) (Nat.le_trans (show (argL [.ref a0, .long a1, .ref a2]).length ≤ 5 from Nat.le_of_ble_eq_true rfl) (by (decide +kernel))) rfl
theorem k_L_law_463 : decode (sk_by 23) 463 = .ok (.istore 5, 2) := by decide +kernel
theorem x_L_law_463 {st : List Value} {l0 : Nat} {l1 : Nat} {l2 : Nat} {l3 : Nat} {l4 : Int32} {l5 : Value} {l6 : Value} {x : Int32} {I : MI} {J : MJ} {R : MR} {S : Sh} {Q : SkQ} : Wp 23 463 [.ref l0, .ref l1, .ref l2, .ref l3, .int l4, l5, l6, nov] (.int x :: st) I J R S Q = Wp 23 465 [.ref l0, .ref l1, .ref l2, .ref l3, .int l4, .int x, l6, nov] st I J R S Q := o_istore (Nat.le_of_ble_eq_true rfl) rfl k_L_law_463
theorem k_L_law_465 : decode (sk_by 23) 465 = .ok (.aload_n 2, 1) := by decide +kernel
theorem x_L_law_465 {st : List Value} {l0 : Nat} {l1 : Nat} {l3 : Nat} {l4 : Int32} {l5 : Int32} {l6 : Value} {x : Nat} {I : MI} {J : MJ} {R : MR} {S : Sh} {Q : SkQ} : Wp 23 465 [.ref l0, .ref l1, .ref x, .ref l3, .int l4, .int l5, l6, nov] st I J R S Q = Wp 23 466 [.ref l0, .ref l1, .ref x, .ref l3, .int l4, .int l5, l6, nov] (.ref x :: st) I J R S Q := o_aload_n rfl k_L_law_465
theorem k_L_law_466 : decode (sk_by 23) 466 = .ok (.aload_n 0, 1) := by decide +kernel
theorem x_L_law_466 {st : List Value} {l1 : Nat} {l2 : Nat} {l3 : Nat} {l4 : Int32} {l5 : Int32} {l6 : Value} {x : Nat} {I : MI} {J : MJ} {R : MR} {S : Sh} {Q : SkQ} : Wp 23 466 [.ref x, .ref l1, .ref l2, .ref l3, .int l4, .int l5, l6, nov] st I J R S Q = Wp 23 467 [.ref x, .ref l1, .ref l2, .ref l3, .int l4, .int l5, l6, nov] (.ref x :: st) I J R S Q := o_aload_n rfl k_L_law_466
theorem k_L_law_467 : decode (sk_by 23) 467 = .ok (.iload 4, 2) := by decide +kernel
theorem x_L_law_467 {st : List Value} {l0 : Nat} {l1 : Nat} {l2 : Nat} {l3 : Nat} {l5 : Int32} {l6 : Value} {x : Int32} {I : MI} {J : MJ} {R : MR} {S : Sh} {Q : SkQ} : Wp 23 467 [.ref l0, .ref l1, .ref l2, .ref l3, .int x, .int l5, l6, nov] st I J R S Q = Wp 23 469 [.ref l0, .ref l1, .ref l2, .ref l3, .int x, .int l5, l6, nov] (.int x :: st) I J R S Q := o_iload rfl k_L_law_467
theorem k_L_law_469 : decode (sk_by 23) 469 = .ok (.iconst 1, 1) := by decide +kernel
theorem x_L_law_469 {ls st : List Value} {I : MI} {J : MJ} {R : MR} {S : Sh} {Q : SkQ} : Wp 23 469 ls st I J R S Q = Wp 23 470 ls (.int 1 :: st) I J R S Q := o_const (by decide) k_L_law_469
theorem k_L_law_470 : decode (sk_by 23) 470 = .ok (.iadd, 1) := by decide +kernel
theorem x_L_law_470 {ls st : List Value} {x y : Int32} {I : MI} {J : MJ} {R : MR} {S : Sh} {Q : SkQ} : Wp 23 470 ls (.int y :: .int x :: st) I J R S Q = Wp 23 471 ls (.int (x + y) :: st) I J R S Q := o_iadd k_L_law_470
theorem k_L_law_471 : decode (sk_by 23) 471 = .ok (.iaload, 1) := by decide +kernel
theorem x_L_law_471 {ls st : List Value} {a : Nat} {i : Int32} {I : MI} {J : MJ} {R : MR} {S : Sh} {Q : SkQ} (ha : S.1 a = 30) (hi : inb i (S.2.1 a) = true) : Wp 23 471 ls (.int i :: .ref a :: st) I J R S Q = Wp 23 472 ls (.int (I a (ix i)) :: st) I J R S Q := o_iaload k_L_law_471 ha hi
theorem x_L_law_471C {ls st : List Value} {a : Nat} {i : Int32} {I : MI} {J : MJ} {R : MR} {S : Sh} {Q : SkQ} (ha : S.1 a = 40) (hi : inb i (S.2.1 a) = true) : Wp 23 471 ls (.int i :: .ref a :: st) I J R S Q = Wp 23 472 ls (.int (I a (ix i)) :: st) I J R S Q := o_ialoadC k_L_law_471 ha hi
theorem k_L_law_472 : decode (sk_by 23) 472 = .ok (.i2l, 1) := by decide +kernel
theorem x_L_law_472 {ls st : List Value} {x : Int32} {I : MI} {J : MJ} {R : MR} {S : Sh} {Q : SkQ} : Wp 23 472 ls (.int x :: st) I J R S Q = Wp 23 473 ls (.long x.toInt64 :: st) I J R S Q := o_i2l k_L_law_472
theorem k_L_law_473 : decode (sk_by 23) 473 = .ok (.bipush 32, 2) := by decide +kernel
theorem x_L_law_473 {ls st : List Value} {I : MI} {J : MJ} {R : MR} {S : Sh} {Q : SkQ} : Wp 23 473 ls st I J R S Q = Wp 23 475 ls (.int 32 :: st) I J R S Q := o_bi (by decide) k_L_law_473
theorem k_L_law_475 : decode (sk_by 23) 475 = .ok (.lshl, 1) := by decide +kernel
theorem x_L_law_475 {ls st : List Value} {x : Int64} {y : Int32} {I : MI} {J : MJ} {R : MR} {S : Sh} {Q : SkQ} : Wp 23 475 ls (.int y :: .long x :: st) I J R S Q = Wp 23 476 ls (.long (x <<< (y.toInt64 &&& 63)) :: st) I J R S Q := o_lshl k_L_law_475
theorem k_L_law_476 : decode (sk_by 23) 476 = .ok (.aload_n 0, 1) := by decide +kernel
theorem x_L_law_476 {st : List Value} {l1 : Nat} {l2 : Nat} {l3 : Nat} {l4 : Int32} {l5 : Int32} {l6 : Value} {x : Nat} {I : MI} {J : MJ} {R : MR} {S : Sh} {Q : SkQ} : Wp 23 476 [.ref x, .ref l1, .ref l2, .ref l3, .int l4, .int l5, l6, nov] st I J R S Q = Wp 23 477 [.ref x, .ref l1, .ref l2, .ref l3, .int l4, .int l5, l6, nov] (.ref x :: st) I J R S Q := o_aload_n rfl k_L_law_476
theorem k_L_law_477 : decode (sk_by 23) 477 = .ok (.iload 4, 2) := by decide +kernel
theorem x_L_law_477 {st : List Value} {l0 : Nat} {l1 : Nat} {l2 : Nat} {l3 : Nat} {l5 : Int32} {l6 : Value} {x : Int32} {I : MI} {J : MJ} {R : MR} {S : Sh} {Q : SkQ} : Wp 23 477 [.ref l0, .ref l1, .ref l2, .ref l3, .int x, .int l5, l6, nov] st I J R S Q = Wp 23 479 [.ref l0, .ref l1, .ref l2, .ref l3, .int x, .int l5, l6, nov] (.int x :: st) I J R S Q := o_iload rfl k_L_law_477
theorem k_L_law_479 : decode (sk_by 23) 479 = .ok (.iconst 2, 1) := by decide +kernel
theorem x_L_law_479 {ls st : List Value} {I : MI} {J : MJ} {R : MR} {S : Sh} {Q : SkQ} : Wp 23 479 ls st I J R S Q = Wp 23 480 ls (.int 2 :: st) I J R S Q := o_const (by decide) k_L_law_479
theorem k_L_law_480 : decode (sk_by 23) 480 = .ok (.iadd, 1) := by decide +kernel
theorem x_L_law_480 {ls st : List Value} {x y : Int32} {I : MI} {J : MJ} {R : MR} {S : Sh} {Q : SkQ} : Wp 23 480 ls (.int y :: .int x :: st) I J R S Q = Wp 23 481 ls (.int (x + y) :: st) I J R S Q := o_iadd k_L_law_480
theorem k_L_law_481 : decode (sk_by 23) 481 = .ok (.iaload, 1) := by decide +kernel
theorem x_L_law_481 {ls st : List Value} {a : Nat} {i : Int32} {I : MI} {J : MJ} {R : MR} {S : Sh} {Q : SkQ} (ha : S.1 a = 30) (hi : inb i (S.2.1 a) = true) : Wp 23 481 ls (.int i :: .ref a :: st) I J R S Q = Wp 23 482 ls (.int (I a (ix i)) :: st) I J R S Q := o_iaload k_L_law_481 ha hi
theorem x_L_law_481C {ls st : List Value} {a : Nat} {i : Int32} {I : MI} {J : MJ} {R : MR} {S : Sh} {Q : SkQ} (ha : S.1 a = 40) (hi : inb i (S.2.1 a) = true) : Wp 23 481 ls (.int i :: .ref a :: st) I J R S Q = Wp 23 482 ls (.int (I a (ix i)) :: st) I J R S Q := o_ialoadC k_L_law_481 ha hi
theorem k_L_law_482 : decode (sk_by 23) 482 = .ok (.i2l, 1) := by decide +kernel
theorem x_L_law_482 {ls st : List Value} {x : Int32} {I : MI} {J : MJ} {R : MR} {S : Sh} {Q : SkQ} : Wp 23 482 ls (.int x :: st) I J R S Q = Wp 23 483 ls (.long x.toInt64 :: st) I J R S Q := o_i2l k_L_law_482
theorem k_L_law_483 : decode (sk_by 23) 483 = .ok (.ldc2_w 97, 3) := by decide +kernel
theorem x_L_law_483 {ls st : List Value} {I : MI} {J : MJ} {R : MR} {S : Sh} {Q : SkQ} : Wp 23 483 ls st I J R S Q = Wp 23 486 ls (.long 4294967295 :: st) I J R S Q := o_ldc2_w (show sk_lkK (sk_cl 23) 97 = some 4294967295 by decide +kernel) k_L_law_483
theorem k_L_law_486 : decode (sk_by 23) 486 = .ok (.land, 1) := by decide +kernel
theorem x_L_law_486 {ls st : List Value} {x y : Int64} {I : MI} {J : MJ} {R : MR} {S : Sh} {Q : SkQ} : Wp 23 486 ls (.long y :: .long x :: st) I J R S Q = Wp 23 487 ls (.long (x &&& y) :: st) I J R S Q := o_land k_L_law_486
theorem k_L_law_487 : decode (sk_by 23) 487 = .ok (.lor, 1) := by decide +kernel
theorem x_L_law_487 {ls st : List Value} {x y : Int64} {I : MI} {J : MJ} {R : MR} {S : Sh} {Q : SkQ} : Wp 23 487 ls (.long y :: .long x :: st) I J R S Q = Wp 23 488 ls (.long (x ||| y) :: st) I J R S Q := o_lor k_L_law_487
theorem k_L_law_488 : decode (sk_by 23) 488 = .ok (.invokevirtual 117, 3) := by decide +kernel
theorem x_L_law_488 {ls : List Value} {a0 : Nat} {a1 : Int64} {I : MI} {J : MJ} {R : MR} {S : Sh} {Q : SkQ} (ha : S.1 a0 = 8) : Wp 23 488 ls (.long a1 :: .ref a0 :: []) I J R S Q = Wp 195 0 [.ref a0, .long a1, nov, nov] [] I J R S (Ret 23 488 491 195 ls [] Q) := o_call (as := [.ref a0, .long a1]) (rest := []) (show sk_lkM (sk_cl 23) 117 = some 195 by decide +kernel) (by decide) (by decide) (by (decide +kernel)) (ins := .invokevirtual 117) (by (decide +kernel)) k_L_law_488 rfl (show 2 = sk_na 195 by (decide +kernel)) (Nat.le_of_ble_eq_true rfl) (Nat.le_trans (show (argL [.ref a0, .long a1]).length ≤ 4 from Nat.le_of_ble_eq_true rfl) (by (decide +kernel))) (rcv_of (by (decide +kernel)) (by decide) ha)
theorem k_L_law_491 : decode (sk_by 23) 491 = .ok (.istore 6, 2) := by decide +kernel
theorem x_L_law_491 {st : List Value} {l0 : Nat} {l1 : Nat} {l2 : Nat} {l3 : Nat} {l4 : Int32} {l5 : Int32} {l6 : Value} {x : Int32} {I : MI} {J : MJ} {R : MR} {S : Sh} {Q : SkQ} : Wp 23 491 [.ref l0, .ref l1, .ref l2, .ref l3, .int l4, .int l5, l6, nov] (.int x :: st) I J R S Q = Wp 23 493 [.ref l0, .ref l1, .ref l2, .ref l3, .int l4, .int l5, .int x, nov] st I J R S Q := o_istore (Nat.le_of_ble_eq_true rfl) rfl k_L_law_491
theorem k_L_law_493 : decode (sk_by 23) 493 = .ok (.aload_n 2, 1) := by decide +kernel
theorem x_L_law_493 {st : List Value} {l0 : Nat} {l1 : Nat} {l3 : Nat} {l4 : Int32} {l5 : Int32} {l6 : Int32} {x : Nat} {I : MI} {J : MJ} {R : MR} {S : Sh} {Q : SkQ} : Wp 23 493 [.ref l0, .ref l1, .ref x, .ref l3, .int l4, .int l5, .int l6, nov] st I J R S Q = Wp 23 494 [.ref l0, .ref l1, .ref x, .ref l3, .int l4, .int l5, .int l6, nov] (.ref x :: st) I J R S Q := o_aload_n rfl k_L_law_493
theorem k_L_law_494 : decode (sk_by 23) 494 = .ok (.invokevirtual 105, 3) := by decide +kernel
theorem x_L_law_494 {ls : List Value} {a0 : Nat} {I : MI} {J : MJ} {R : MR} {S : Sh} {Q : SkQ} (ha : S.1 a0 = 8) : Wp 23 494 ls (.ref a0 :: []) I J R S Q = Wp 174 0 [.ref a0] [] I J R S (Ret 23 494 497 174 ls [] Q) := o_call (as := [.ref a0]) (rest := []) (show sk_lkM (sk_cl 23) 105 = some 174 by decide +kernel) (by decide) (by decide) (by (decide +kernel)) (ins := .invokevirtual 105) (by (decide +kernel)) k_L_law_494 rfl (show 1 = sk_na 174 by (decide +kernel)) (Nat.le_of_ble_eq_true rfl) (Nat.le_trans (show (argL [.ref a0]).length ≤ 1 from Nat.le_of_ble_eq_true rfl) (by (decide +kernel))) (rcv_of (by (decide +kernel)) (by decide) ha)
theorem k_L_law_497 : decode (sk_by 23) 497 = .ok (.iload 5, 2) := by decide +kernel
theorem x_L_law_497 {st : List Value} {l0 : Nat} {l1 : Nat} {l2 : Nat} {l3 : Nat} {l4 : Int32} {l6 : Int32} {x : Int32} {I : MI} {J : MJ} {R : MR} {S : Sh} {Q : SkQ} : Wp 23 497 [.ref l0, .ref l1, .ref l2, .ref l3, .int l4, .int x, .int l6, nov] st I J R S Q = Wp 23 499 [.ref l0, .ref l1, .ref l2, .ref l3, .int l4, .int x, .int l6, nov] (.int x :: st) I J R S Q := o_iload rfl k_L_law_497
theorem k_L_law_499 : decode (sk_by 23) 499 = .ok (.if_icmp .eq 5, 3) := by decide +kernel
theorem x_L_law_499 {ls st : List Value} {x y : Int32} {I : MI} {J : MJ} {R : MR} {S : Sh} {Q : SkQ} : Wp 23 499 ls (.int y :: .int x :: st) I J R S Q = if x = y then Wp 23 504 ls st I J R S Q else Wp 23 502 ls st I J R S Q := o_ic_eq rfl rfl k_L_law_499
theorem k_L_law_502 : decode (sk_by 23) 502 = .ok (.iconst 0, 1) := by decide +kernel
theorem x_L_law_502 {ls st : List Value} {I : MI} {J : MJ} {R : MR} {S : Sh} {Q : SkQ} : Wp 23 502 ls st I J R S Q = Wp 23 503 ls (.int 0 :: st) I J R S Q := o_const (by decide) k_L_law_502
theorem k_L_law_503 : decode (sk_by 23) 503 = .ok (.ireturn, 1) := by decide +kernel
theorem x_L_law_503 {ls : List Value} {v : Int32} {I : MI} {J : MJ} {R : MR} {S : Sh} {Q : SkQ} (h : rOk (some .boolean) v = true) : Wp 23 503 ls [.int v] I J R S Q = Q 0 (some (.int v)) I J R S := o_ireturn k_L_law_503 (by rw [show sk_rt 23 = some .boolean from rfl]; exact h)
theorem k_L_law_504 : decode (sk_by 23) 504 = .ok (.iload 5, 2) := by decide +kernel
theorem x_L_law_504 {st : List Value} {l0 : Nat} {l1 : Nat} {l2 : Nat} {l3 : Nat} {l4 : Int32} {l6 : Int32} {x : Int32} {I : MI} {J : MJ} {R : MR} {S : Sh} {Q : SkQ} : Wp 23 504 [.ref l0, .ref l1, .ref l2, .ref l3, .int l4, .int x, .int l6, nov] st I J R S Q = Wp 23 506 [.ref l0, .ref l1, .ref l2, .ref l3, .int l4, .int x, .int l6, nov] (.int x :: st) I J R S Q := o_iload rfl k_L_law_504
theorem k_L_law_506 : decode (sk_by 23) 506 = .ok (.ifCond .ne 15, 3) := by decide +kernel
theorem x_L_law_506 {ls st : List Value} {x : Int32} {I : MI} {J : MJ} {R : MR} {S : Sh} {Q : SkQ} : Wp 23 506 ls (.int x :: st) I J R S Q = if x = 0 then Wp 23 509 ls st I J R S Q else Wp 23 521 ls st I J R S Q := o_if_ne rfl rfl k_L_law_506
theorem k_L_law_509 : decode (sk_by 23) 509 = .ok (.aload_n 3, 1) := by decide +kernel
theorem x_L_law_509 {st : List Value} {l0 : Nat} {l1 : Nat} {l2 : Nat} {l4 : Int32} {l5 : Int32} {l6 : Int32} {x : Nat} {I : MI} {J : MJ} {R : MR} {S : Sh} {Q : SkQ} : Wp 23 509 [.ref l0, .ref l1, .ref l2, .ref x, .int l4, .int l5, .int l6, nov] st I J R S Q = Wp 23 510 [.ref l0, .ref l1, .ref l2, .ref x, .int l4, .int l5, .int l6, nov] (.ref x :: st) I J R S Q := o_aload_n rfl k_L_law_509
theorem k_L_law_510 : decode (sk_by 23) 510 = .ok (.iconst 0, 1) := by decide +kernel
theorem x_L_law_510 {ls st : List Value} {I : MI} {J : MJ} {R : MR} {S : Sh} {Q : SkQ} : Wp 23 510 ls st I J R S Q = Wp 23 511 ls (.int 0 :: st) I J R S Q := o_const (by decide) k_L_law_510
theorem k_L_law_511 : decode (sk_by 23) 511 = .ok (.laload, 1) := by decide +kernel
theorem x_L_law_511 {ls st : List Value} {a : Nat} {i : Int32} {I : MI} {J : MJ} {R : MR} {S : Sh} {Q : SkQ} (ha : S.1 a = 31) (hi : inb i (S.2.1 a) = true) : Wp 23 511 ls (.int i :: .ref a :: st) I J R S Q = Wp 23 512 ls (.long (J a (ix i)) :: st) I J R S Q := o_laload k_L_law_511 ha hi
theorem k_L_law_512 : decode (sk_by 23) 512 = .ok (.iload 6, 2) := by decide +kernel
theorem x_L_law_512 {st : List Value} {l0 : Nat} {l1 : Nat} {l2 : Nat} {l3 : Nat} {l4 : Int32} {l5 : Int32} {x : Int32} {I : MI} {J : MJ} {R : MR} {S : Sh} {Q : SkQ} : Wp 23 512 [.ref l0, .ref l1, .ref l2, .ref l3, .int l4, .int l5, .int x, nov] st I J R S Q = Wp 23 514 [.ref l0, .ref l1, .ref l2, .ref l3, .int l4, .int l5, .int x, nov] (.int x :: st) I J R S Q := o_iload rfl k_L_law_512
theorem k_L_law_514 : decode (sk_by 23) 514 = .ok (.i2l, 1) := by decide +kernel
theorem x_L_law_514 {ls st : List Value} {x : Int32} {I : MI} {J : MJ} {R : MR} {S : Sh} {Q : SkQ} : Wp 23 514 ls (.int x :: st) I J R S Q = Wp 23 515 ls (.long x.toInt64 :: st) I J R S Q := o_i2l k_L_law_514
theorem k_L_law_515 : decode (sk_by 23) 515 = .ok (.lcmp, 1) := by decide +kernel
theorem x_L_law_515 {ls st : List Value} {x y : Int64} {I : MI} {J : MJ} {R : MR} {S : Sh} {Q : SkQ} : Wp 23 515 ls (.long y :: .long x :: st) I J R S Q = Wp 23 516 ls (.int (lg_cmp x y) :: st) I J R S Q := o_lcmp k_L_law_515
theorem k_L_law_516 : decode (sk_by 23) 516 = .ok (.ifCond .eq 5, 3) := by decide +kernel
theorem x_L_law_516 {ls st : List Value} {x : Int32} {I : MI} {J : MJ} {R : MR} {S : Sh} {Q : SkQ} : Wp 23 516 ls (.int x :: st) I J R S Q = if x = 0 then Wp 23 521 ls st I J R S Q else Wp 23 519 ls st I J R S Q := o_if_eq rfl rfl k_L_law_516
theorem k_L_law_519 : decode (sk_by 23) 519 = .ok (.iconst 0, 1) := by decide +kernel
theorem x_L_law_519 {ls st : List Value} {I : MI} {J : MJ} {R : MR} {S : Sh} {Q : SkQ} : Wp 23 519 ls st I J R S Q = Wp 23 520 ls (.int 0 :: st) I J R S Q := o_const (by decide) k_L_law_519
theorem k_L_law_520 : decode (sk_by 23) 520 = .ok (.ireturn, 1) := by decide +kernel
theorem x_L_law_520 {ls : List Value} {v : Int32} {I : MI} {J : MJ} {R : MR} {S : Sh} {Q : SkQ} (h : rOk (some .boolean) v = true) : Wp 23 520 ls [.int v] I J R S Q = Q 0 (some (.int v)) I J R S := o_ireturn k_L_law_520 (by rw [show sk_rt 23 = some .boolean from rfl]; exact h)
theorem k_L_law_521 : decode (sk_by 23) 521 = .ok (.goto 1667, 3) := by decide +kernel
theorem x_L_law_521 {ls st : List Value} {I : MI} {J : MJ} {R : MR} {S : Sh} {Q : SkQ} : Wp 23 521 ls st I J R S Q = Wp 23 2188 ls st I J R S Q := o_goto rfl rfl k_L_law_521
theorem k_L_law_524 : decode (sk_by 23) 524 = .ok (.aload_n 1, 1) := by decide +kernel
theorem x_L_law_524 {st : List Value} {l0 : Nat} {l2 : Nat} {l3 : Nat} {l4 : Int32} {l5 : Value} {l6 : Value} {x : Nat} {I : MI} {J : MJ} {R : MR} {S : Sh} {Q : SkQ} : Wp 23 524 [.ref l0, .ref x, .ref l2, .ref l3, .int l4, l5, l6, nov] st I J R S Q = Wp 23 525 [.ref l0, .ref x, .ref l2, .ref l3, .int l4, l5, l6, nov] (.ref x :: st) I J R S Q := o_aload_n rfl k_L_law_524
theorem k_L_law_525 : decode (sk_by 23) 525 = .ok (.aload_n 0, 1) := by decide +kernel
theorem x_L_law_525 {st : List Value} {l1 : Nat} {l2 : Nat} {l3 : Nat} {l4 : Int32} {l5 : Value} {l6 : Value} {x : Nat} {I : MI} {J : MJ} {R : MR} {S : Sh} {Q : SkQ} : Wp 23 525 [.ref x, .ref l1, .ref l2, .ref l3, .int l4, l5, l6, nov] st I J R S Q = Wp 23 526 [.ref x, .ref l1, .ref l2, .ref l3, .int l4, l5, l6, nov] (.ref x :: st) I J R S Q := o_aload_n rfl k_L_law_525
theorem k_L_law_526 : decode (sk_by 23) 526 = .ok (.iload 4, 2) := by decide +kernel
theorem x_L_law_526 {st : List Value} {l0 : Nat} {l1 : Nat} {l2 : Nat} {l3 : Nat} {l5 : Value} {l6 : Value} {x : Int32} {I : MI} {J : MJ} {R : MR} {S : Sh} {Q : SkQ} : Wp 23 526 [.ref l0, .ref l1, .ref l2, .ref l3, .int x, l5, l6, nov] st I J R S Q = Wp 23 528 [.ref l0, .ref l1, .ref l2, .ref l3, .int x, l5, l6, nov] (.int x :: st) I J R S Q := o_iload rfl k_L_law_526
theorem k_L_law_528 : decode (sk_by 23) 528 = .ok (.iconst 1, 1) := by decide +kernel
theorem x_L_law_528 {ls st : List Value} {I : MI} {J : MJ} {R : MR} {S : Sh} {Q : SkQ} : Wp 23 528 ls st I J R S Q = Wp 23 529 ls (.int 1 :: st) I J R S Q := o_const (by decide) k_L_law_528
theorem k_L_law_529 : decode (sk_by 23) 529 = .ok (.iadd, 1) := by decide +kernel
theorem x_L_law_529 {ls st : List Value} {x y : Int32} {I : MI} {J : MJ} {R : MR} {S : Sh} {Q : SkQ} : Wp 23 529 ls (.int y :: .int x :: st) I J R S Q = Wp 23 530 ls (.int (x + y) :: st) I J R S Q := o_iadd k_L_law_529
theorem k_L_law_530 : decode (sk_by 23) 530 = .ok (.iaload, 1) := by decide +kernel
theorem x_L_law_530 {ls st : List Value} {a : Nat} {i : Int32} {I : MI} {J : MJ} {R : MR} {S : Sh} {Q : SkQ} (ha : S.1 a = 30) (hi : inb i (S.2.1 a) = true) : Wp 23 530 ls (.int i :: .ref a :: st) I J R S Q = Wp 23 531 ls (.int (I a (ix i)) :: st) I J R S Q := o_iaload k_L_law_530 ha hi
theorem x_L_law_530C {ls st : List Value} {a : Nat} {i : Int32} {I : MI} {J : MJ} {R : MR} {S : Sh} {Q : SkQ} (ha : S.1 a = 40) (hi : inb i (S.2.1 a) = true) : Wp 23 530 ls (.int i :: .ref a :: st) I J R S Q = Wp 23 531 ls (.int (I a (ix i)) :: st) I J R S Q := o_ialoadC k_L_law_530 ha hi
theorem k_L_law_531 : decode (sk_by 23) 531 = .ok (.aload_n 0, 1) := by decide +kernel
theorem x_L_law_531 {st : List Value} {l1 : Nat} {l2 : Nat} {l3 : Nat} {l4 : Int32} {l5 : Value} {l6 : Value} {x : Nat} {I : MI} {J : MJ} {R : MR} {S : Sh} {Q : SkQ} : Wp 23 531 [.ref x, .ref l1, .ref l2, .ref l3, .int l4, l5, l6, nov] st I J R S Q = Wp 23 532 [.ref x, .ref l1, .ref l2, .ref l3, .int l4, l5, l6, nov] (.ref x :: st) I J R S Q := o_aload_n rfl k_L_law_531
theorem k_L_law_532 : decode (sk_by 23) 532 = .ok (.iload 4, 2) := by decide +kernel
theorem x_L_law_532 {st : List Value} {l0 : Nat} {l1 : Nat} {l2 : Nat} {l3 : Nat} {l5 : Value} {l6 : Value} {x : Int32} {I : MI} {J : MJ} {R : MR} {S : Sh} {Q : SkQ} : Wp 23 532 [.ref l0, .ref l1, .ref l2, .ref l3, .int x, l5, l6, nov] st I J R S Q = Wp 23 534 [.ref l0, .ref l1, .ref l2, .ref l3, .int x, l5, l6, nov] (.int x :: st) I J R S Q := o_iload rfl k_L_law_532
theorem k_L_law_534 : decode (sk_by 23) 534 = .ok (.iconst 2, 1) := by decide +kernel
theorem x_L_law_534 {ls st : List Value} {I : MI} {J : MJ} {R : MR} {S : Sh} {Q : SkQ} : Wp 23 534 ls st I J R S Q = Wp 23 535 ls (.int 2 :: st) I J R S Q := o_const (by decide) k_L_law_534
theorem k_L_law_535 : decode (sk_by 23) 535 = .ok (.iadd, 1) := by decide +kernel
theorem x_L_law_535 {ls st : List Value} {x y : Int32} {I : MI} {J : MJ} {R : MR} {S : Sh} {Q : SkQ} : Wp 23 535 ls (.int y :: .int x :: st) I J R S Q = Wp 23 536 ls (.int (x + y) :: st) I J R S Q := o_iadd k_L_law_535
theorem k_L_law_536 : decode (sk_by 23) 536 = .ok (.iaload, 1) := by decide +kernel
theorem x_L_law_536 {ls st : List Value} {a : Nat} {i : Int32} {I : MI} {J : MJ} {R : MR} {S : Sh} {Q : SkQ} (ha : S.1 a = 30) (hi : inb i (S.2.1 a) = true) : Wp 23 536 ls (.int i :: .ref a :: st) I J R S Q = Wp 23 537 ls (.int (I a (ix i)) :: st) I J R S Q := o_iaload k_L_law_536 ha hi
theorem x_L_law_536C {ls st : List Value} {a : Nat} {i : Int32} {I : MI} {J : MJ} {R : MR} {S : Sh} {Q : SkQ} (ha : S.1 a = 40) (hi : inb i (S.2.1 a) = true) : Wp 23 536 ls (.int i :: .ref a :: st) I J R S Q = Wp 23 537 ls (.int (I a (ix i)) :: st) I J R S Q := o_ialoadC k_L_law_536 ha hi
theorem k_L_law_537 : decode (sk_by 23) 537 = .ok (.aload_n 3, 1) := by decide +kernel
theorem x_L_law_537 {st : List Value} {l0 : Nat} {l1 : Nat} {l2 : Nat} {l4 : Int32} {l5 : Value} {l6 : Value} {x : Nat} {I : MI} {J : MJ} {R : MR} {S : Sh} {Q : SkQ} : Wp 23 537 [.ref l0, .ref l1, .ref l2, .ref x, .int l4, l5, l6, nov] st I J R S Q = Wp 23 538 [.ref l0, .ref l1, .ref l2, .ref x, .int l4, l5, l6, nov] (.ref x :: st) I J R S Q := o_aload_n rfl k_L_law_537
theorem k_L_law_538 : decode (sk_by 23) 538 = .ok (.invokestatic 118, 3) := by decide +kernel
theorem x_L_law_538 {ls : List Value} {a0 : Nat} {a1 : Int32} {a2 : Int32} {a3 : Nat} {I : MI} {J : MJ} {R : MR} {S : Sh} {Q : SkQ} : Wp 23 538 ls (.ref a3 :: .int a2 :: .int a1 :: .ref a0 :: []) I J R S Q = Wp 4 0 [.ref a0, .int a1, .int a2, .ref a3, nov] [] I J R S (Ret 23 538 541 4 ls [] Q) := o_call (as := [.ref a0, .int a1, .int a2, .ref a3]) (rest := []) (show sk_lkM (sk_cl 23) 118 = some 4 by decide +kernel) (by decide) (by decide) (by (decide +kernel)) (ins := .invokestatic 118) (by (decide +kernel)) k_L_law_538 rfl (show 4 = sk_na 4 by (decide +kernel)) (Nat.le_of_ble_eq_true rfl) (Nat.le_trans (show (argL [.ref a0, .int a1, .int a2, .ref a3]).length ≤ 5 from Nat.le_of_ble_eq_true rfl) (by (decide +kernel))) rfl
theorem k_L_law_541 : decode (sk_by 23) 541 = .ok (.istore 5, 2) := by decide +kernel
theorem x_L_law_541 {st : List Value} {l0 : Nat} {l1 : Nat} {l2 : Nat} {l3 : Nat} {l4 : Int32} {l5 : Value} {l6 : Value} {x : Int32} {I : MI} {J : MJ} {R : MR} {S : Sh} {Q : SkQ} : Wp 23 541 [.ref l0, .ref l1, .ref l2, .ref l3, .int l4, l5, l6, nov] (.int x :: st) I J R S Q = Wp 23 543 [.ref l0, .ref l1, .ref l2, .ref l3, .int l4, .int x, l6, nov] st I J R S Q := o_istore (Nat.le_of_ble_eq_true rfl) rfl k_L_law_541
theorem k_L_law_543 : decode (sk_by 23) 543 = .ok (.aload_n 2, 1) := by decide +kernel
theorem x_L_law_543 {st : List Value} {l0 : Nat} {l1 : Nat} {l3 : Nat} {l4 : Int32} {l5 : Int32} {l6 : Value} {x : Nat} {I : MI} {J : MJ} {R : MR} {S : Sh} {Q : SkQ} : Wp 23 543 [.ref l0, .ref l1, .ref x, .ref l3, .int l4, .int l5, l6, nov] st I J R S Q = Wp 23 544 [.ref l0, .ref l1, .ref x, .ref l3, .int l4, .int l5, l6, nov] (.ref x :: st) I J R S Q := o_aload_n rfl k_L_law_543
theorem k_L_law_544 : decode (sk_by 23) 544 = .ok (.aload_n 0, 1) := by decide +kernel
theorem x_L_law_544 {st : List Value} {l1 : Nat} {l2 : Nat} {l3 : Nat} {l4 : Int32} {l5 : Int32} {l6 : Value} {x : Nat} {I : MI} {J : MJ} {R : MR} {S : Sh} {Q : SkQ} : Wp 23 544 [.ref x, .ref l1, .ref l2, .ref l3, .int l4, .int l5, l6, nov] st I J R S Q = Wp 23 545 [.ref x, .ref l1, .ref l2, .ref l3, .int l4, .int l5, l6, nov] (.ref x :: st) I J R S Q := o_aload_n rfl k_L_law_544
theorem k_L_law_545 : decode (sk_by 23) 545 = .ok (.iload 4, 2) := by decide +kernel
theorem x_L_law_545 {st : List Value} {l0 : Nat} {l1 : Nat} {l2 : Nat} {l3 : Nat} {l5 : Int32} {l6 : Value} {x : Int32} {I : MI} {J : MJ} {R : MR} {S : Sh} {Q : SkQ} : Wp 23 545 [.ref l0, .ref l1, .ref l2, .ref l3, .int x, .int l5, l6, nov] st I J R S Q = Wp 23 547 [.ref l0, .ref l1, .ref l2, .ref l3, .int x, .int l5, l6, nov] (.int x :: st) I J R S Q := o_iload rfl k_L_law_545
theorem k_L_law_547 : decode (sk_by 23) 547 = .ok (.iconst 1, 1) := by decide +kernel
theorem x_L_law_547 {ls st : List Value} {I : MI} {J : MJ} {R : MR} {S : Sh} {Q : SkQ} : Wp 23 547 ls st I J R S Q = Wp 23 548 ls (.int 1 :: st) I J R S Q := o_const (by decide) k_L_law_547
theorem k_L_law_548 : decode (sk_by 23) 548 = .ok (.iadd, 1) := by decide +kernel
theorem x_L_law_548 {ls st : List Value} {x y : Int32} {I : MI} {J : MJ} {R : MR} {S : Sh} {Q : SkQ} : Wp 23 548 ls (.int y :: .int x :: st) I J R S Q = Wp 23 549 ls (.int (x + y) :: st) I J R S Q := o_iadd k_L_law_548
theorem k_L_law_549 : decode (sk_by 23) 549 = .ok (.iaload, 1) := by decide +kernel
theorem x_L_law_549 {ls st : List Value} {a : Nat} {i : Int32} {I : MI} {J : MJ} {R : MR} {S : Sh} {Q : SkQ} (ha : S.1 a = 30) (hi : inb i (S.2.1 a) = true) : Wp 23 549 ls (.int i :: .ref a :: st) I J R S Q = Wp 23 550 ls (.int (I a (ix i)) :: st) I J R S Q := o_iaload k_L_law_549 ha hi
theorem x_L_law_549C {ls st : List Value} {a : Nat} {i : Int32} {I : MI} {J : MJ} {R : MR} {S : Sh} {Q : SkQ} (ha : S.1 a = 40) (hi : inb i (S.2.1 a) = true) : Wp 23 549 ls (.int i :: .ref a :: st) I J R S Q = Wp 23 550 ls (.int (I a (ix i)) :: st) I J R S Q := o_ialoadC k_L_law_549 ha hi
theorem k_L_law_550 : decode (sk_by 23) 550 = .ok (.aload_n 0, 1) := by decide +kernel
theorem x_L_law_550 {st : List Value} {l1 : Nat} {l2 : Nat} {l3 : Nat} {l4 : Int32} {l5 : Int32} {l6 : Value} {x : Nat} {I : MI} {J : MJ} {R : MR} {S : Sh} {Q : SkQ} : Wp 23 550 [.ref x, .ref l1, .ref l2, .ref l3, .int l4, .int l5, l6, nov] st I J R S Q = Wp 23 551 [.ref x, .ref l1, .ref l2, .ref l3, .int l4, .int l5, l6, nov] (.ref x :: st) I J R S Q := o_aload_n rfl k_L_law_550
theorem k_L_law_551 : decode (sk_by 23) 551 = .ok (.iload 4, 2) := by decide +kernel
theorem x_L_law_551 {st : List Value} {l0 : Nat} {l1 : Nat} {l2 : Nat} {l3 : Nat} {l5 : Int32} {l6 : Value} {x : Int32} {I : MI} {J : MJ} {R : MR} {S : Sh} {Q : SkQ} : Wp 23 551 [.ref l0, .ref l1, .ref l2, .ref l3, .int x, .int l5, l6, nov] st I J R S Q = Wp 23 553 [.ref l0, .ref l1, .ref l2, .ref l3, .int x, .int l5, l6, nov] (.int x :: st) I J R S Q := o_iload rfl k_L_law_551
theorem k_L_law_553 : decode (sk_by 23) 553 = .ok (.iconst 2, 1) := by decide +kernel
theorem x_L_law_553 {ls st : List Value} {I : MI} {J : MJ} {R : MR} {S : Sh} {Q : SkQ} : Wp 23 553 ls st I J R S Q = Wp 23 554 ls (.int 2 :: st) I J R S Q := o_const (by decide) k_L_law_553
theorem k_L_law_554 : decode (sk_by 23) 554 = .ok (.iadd, 1) := by decide +kernel
theorem x_L_law_554 {ls st : List Value} {x y : Int32} {I : MI} {J : MJ} {R : MR} {S : Sh} {Q : SkQ} : Wp 23 554 ls (.int y :: .int x :: st) I J R S Q = Wp 23 555 ls (.int (x + y) :: st) I J R S Q := o_iadd k_L_law_554
theorem k_L_law_555 : decode (sk_by 23) 555 = .ok (.iaload, 1) := by decide +kernel
theorem x_L_law_555 {ls st : List Value} {a : Nat} {i : Int32} {I : MI} {J : MJ} {R : MR} {S : Sh} {Q : SkQ} (ha : S.1 a = 30) (hi : inb i (S.2.1 a) = true) : Wp 23 555 ls (.int i :: .ref a :: st) I J R S Q = Wp 23 556 ls (.int (I a (ix i)) :: st) I J R S Q := o_iaload k_L_law_555 ha hi
theorem x_L_law_555C {ls st : List Value} {a : Nat} {i : Int32} {I : MI} {J : MJ} {R : MR} {S : Sh} {Q : SkQ} (ha : S.1 a = 40) (hi : inb i (S.2.1 a) = true) : Wp 23 555 ls (.int i :: .ref a :: st) I J R S Q = Wp 23 556 ls (.int (I a (ix i)) :: st) I J R S Q := o_ialoadC k_L_law_555 ha hi
theorem k_L_law_556 : decode (sk_by 23) 556 = .ok (.invokevirtual 121, 3) := by decide +kernel
theorem x_L_law_556 {ls : List Value} {a0 : Nat} {a1 : Int32} {a2 : Int32} {I : MI} {J : MJ} {R : MR} {S : Sh} {Q : SkQ} (ha : S.1 a0 = 8) : Wp 23 556 ls (.int a2 :: .int a1 :: .ref a0 :: []) I J R S Q = Wp 196 0 [.ref a0, .int a1, .int a2, nov] [] I J R S (Ret 23 556 559 196 ls [] Q) := o_call (as := [.ref a0, .int a1, .int a2]) (rest := []) (show sk_lkM (sk_cl 23) 121 = some 196 by decide +kernel) (by decide) (by decide) (by (decide +kernel)) (ins := .invokevirtual 121) (by (decide +kernel)) k_L_law_556 rfl (show 3 = sk_na 196 by (decide +kernel)) (Nat.le_of_ble_eq_true rfl) (Nat.le_trans (show (argL [.ref a0, .int a1, .int a2]).length ≤ 4 from Nat.le_of_ble_eq_true rfl) (by (decide +kernel))) (rcv_of (by (decide +kernel)) (by decide) ha)
theorem k_L_law_559 : decode (sk_by 23) 559 = .ok (.istore 6, 2) := by decide +kernel
theorem x_L_law_559 {st : List Value} {l0 : Nat} {l1 : Nat} {l2 : Nat} {l3 : Nat} {l4 : Int32} {l5 : Int32} {l6 : Value} {x : Int32} {I : MI} {J : MJ} {R : MR} {S : Sh} {Q : SkQ} : Wp 23 559 [.ref l0, .ref l1, .ref l2, .ref l3, .int l4, .int l5, l6, nov] (.int x :: st) I J R S Q = Wp 23 561 [.ref l0, .ref l1, .ref l2, .ref l3, .int l4, .int l5, .int x, nov] st I J R S Q := o_istore (Nat.le_of_ble_eq_true rfl) rfl k_L_law_559
theorem k_L_law_561 : decode (sk_by 23) 561 = .ok (.aload_n 2, 1) := by decide +kernel
theorem x_L_law_561 {st : List Value} {l0 : Nat} {l1 : Nat} {l3 : Nat} {l4 : Int32} {l5 : Int32} {l6 : Int32} {x : Nat} {I : MI} {J : MJ} {R : MR} {S : Sh} {Q : SkQ} : Wp 23 561 [.ref l0, .ref l1, .ref x, .ref l3, .int l4, .int l5, .int l6, nov] st I J R S Q = Wp 23 562 [.ref l0, .ref l1, .ref x, .ref l3, .int l4, .int l5, .int l6, nov] (.ref x :: st) I J R S Q := o_aload_n rfl k_L_law_561
theorem k_L_law_562 : decode (sk_by 23) 562 = .ok (.invokevirtual 105, 3) := by decide +kernel
theorem x_L_law_562 {ls : List Value} {a0 : Nat} {I : MI} {J : MJ} {R : MR} {S : Sh} {Q : SkQ} (ha : S.1 a0 = 8) : Wp 23 562 ls (.ref a0 :: []) I J R S Q = Wp 174 0 [.ref a0] [] I J R S (Ret 23 562 565 174 ls [] Q) := o_call (as := [.ref a0]) (rest := []) (show sk_lkM (sk_cl 23) 105 = some 174 by decide +kernel) (by decide) (by decide) (by (decide +kernel)) (ins := .invokevirtual 105) (by (decide +kernel)) k_L_law_562 rfl (show 1 = sk_na 174 by (decide +kernel)) (Nat.le_of_ble_eq_true rfl) (Nat.le_trans (show (argL [.ref a0]).length ≤ 1 from Nat.le_of_ble_eq_true rfl) (by (decide +kernel))) (rcv_of (by (decide +kernel)) (by decide) ha)
theorem k_L_law_565 : decode (sk_by 23) 565 = .ok (.iload 5, 2) := by decide +kernel
theorem x_L_law_565 {st : List Value} {l0 : Nat} {l1 : Nat} {l2 : Nat} {l3 : Nat} {l4 : Int32} {l6 : Int32} {x : Int32} {I : MI} {J : MJ} {R : MR} {S : Sh} {Q : SkQ} : Wp 23 565 [.ref l0, .ref l1, .ref l2, .ref l3, .int l4, .int x, .int l6, nov] st I J R S Q = Wp 23 567 [.ref l0, .ref l1, .ref l2, .ref l3, .int l4, .int x, .int l6, nov] (.int x :: st) I J R S Q := o_iload rfl k_L_law_565
theorem k_L_law_567 : decode (sk_by 23) 567 = .ok (.if_icmp .eq 5, 3) := by decide +kernel
theorem x_L_law_567 {ls st : List Value} {x y : Int32} {I : MI} {J : MJ} {R : MR} {S : Sh} {Q : SkQ} : Wp 23 567 ls (.int y :: .int x :: st) I J R S Q = if x = y then Wp 23 572 ls st I J R S Q else Wp 23 570 ls st I J R S Q := o_ic_eq rfl rfl k_L_law_567
theorem k_L_law_570 : decode (sk_by 23) 570 = .ok (.iconst 0, 1) := by decide +kernel
theorem x_L_law_570 {ls st : List Value} {I : MI} {J : MJ} {R : MR} {S : Sh} {Q : SkQ} : Wp 23 570 ls st I J R S Q = Wp 23 571 ls (.int 0 :: st) I J R S Q := o_const (by decide) k_L_law_570
theorem k_L_law_571 : decode (sk_by 23) 571 = .ok (.ireturn, 1) := by decide +kernel
theorem x_L_law_571 {ls : List Value} {v : Int32} {I : MI} {J : MJ} {R : MR} {S : Sh} {Q : SkQ} (h : rOk (some .boolean) v = true) : Wp 23 571 ls [.int v] I J R S Q = Q 0 (some (.int v)) I J R S := o_ireturn k_L_law_571 (by rw [show sk_rt 23 = some .boolean from rfl]; exact h)
theorem k_L_law_572 : decode (sk_by 23) 572 = .ok (.iload 5, 2) := by decide +kernel
theorem x_L_law_572 {st : List Value} {l0 : Nat} {l1 : Nat} {l2 : Nat} {l3 : Nat} {l4 : Int32} {l6 : Int32} {x : Int32} {I : MI} {J : MJ} {R : MR} {S : Sh} {Q : SkQ} : Wp 23 572 [.ref l0, .ref l1, .ref l2, .ref l3, .int l4, .int x, .int l6, nov] st I J R S Q = Wp 23 574 [.ref l0, .ref l1, .ref l2, .ref l3, .int l4, .int x, .int l6, nov] (.int x :: st) I J R S Q := o_iload rfl k_L_law_572
theorem k_L_law_574 : decode (sk_by 23) 574 = .ok (.ifCond .ne 15, 3) := by decide +kernel
theorem x_L_law_574 {ls st : List Value} {x : Int32} {I : MI} {J : MJ} {R : MR} {S : Sh} {Q : SkQ} : Wp 23 574 ls (.int x :: st) I J R S Q = if x = 0 then Wp 23 577 ls st I J R S Q else Wp 23 589 ls st I J R S Q := o_if_ne rfl rfl k_L_law_574
theorem k_L_law_577 : decode (sk_by 23) 577 = .ok (.aload_n 3, 1) := by decide +kernel
theorem x_L_law_577 {st : List Value} {l0 : Nat} {l1 : Nat} {l2 : Nat} {l4 : Int32} {l5 : Int32} {l6 : Int32} {x : Nat} {I : MI} {J : MJ} {R : MR} {S : Sh} {Q : SkQ} : Wp 23 577 [.ref l0, .ref l1, .ref l2, .ref x, .int l4, .int l5, .int l6, nov] st I J R S Q = Wp 23 578 [.ref l0, .ref l1, .ref l2, .ref x, .int l4, .int l5, .int l6, nov] (.ref x :: st) I J R S Q := o_aload_n rfl k_L_law_577
theorem k_L_law_578 : decode (sk_by 23) 578 = .ok (.iconst 0, 1) := by decide +kernel
theorem x_L_law_578 {ls st : List Value} {I : MI} {J : MJ} {R : MR} {S : Sh} {Q : SkQ} : Wp 23 578 ls st I J R S Q = Wp 23 579 ls (.int 0 :: st) I J R S Q := o_const (by decide) k_L_law_578
theorem k_L_law_579 : decode (sk_by 23) 579 = .ok (.laload, 1) := by decide +kernel
theorem x_L_law_579 {ls st : List Value} {a : Nat} {i : Int32} {I : MI} {J : MJ} {R : MR} {S : Sh} {Q : SkQ} (ha : S.1 a = 31) (hi : inb i (S.2.1 a) = true) : Wp 23 579 ls (.int i :: .ref a :: st) I J R S Q = Wp 23 580 ls (.long (J a (ix i)) :: st) I J R S Q := o_laload k_L_law_579 ha hi
theorem k_L_law_580 : decode (sk_by 23) 580 = .ok (.iload 6, 2) := by decide +kernel
theorem x_L_law_580 {st : List Value} {l0 : Nat} {l1 : Nat} {l2 : Nat} {l3 : Nat} {l4 : Int32} {l5 : Int32} {x : Int32} {I : MI} {J : MJ} {R : MR} {S : Sh} {Q : SkQ} : Wp 23 580 [.ref l0, .ref l1, .ref l2, .ref l3, .int l4, .int l5, .int x, nov] st I J R S Q = Wp 23 582 [.ref l0, .ref l1, .ref l2, .ref l3, .int l4, .int l5, .int x, nov] (.int x :: st) I J R S Q := o_iload rfl k_L_law_580
theorem k_L_law_582 : decode (sk_by 23) 582 = .ok (.i2l, 1) := by decide +kernel
theorem x_L_law_582 {ls st : List Value} {x : Int32} {I : MI} {J : MJ} {R : MR} {S : Sh} {Q : SkQ} : Wp 23 582 ls (.int x :: st) I J R S Q = Wp 23 583 ls (.long x.toInt64 :: st) I J R S Q := o_i2l k_L_law_582
theorem k_L_law_583 : decode (sk_by 23) 583 = .ok (.lcmp, 1) := by decide +kernel
theorem x_L_law_583 {ls st : List Value} {x y : Int64} {I : MI} {J : MJ} {R : MR} {S : Sh} {Q : SkQ} : Wp 23 583 ls (.long y :: .long x :: st) I J R S Q = Wp 23 584 ls (.int (lg_cmp x y) :: st) I J R S Q := o_lcmp k_L_law_583
theorem k_L_law_584 : decode (sk_by 23) 584 = .ok (.ifCond .eq 5, 3) := by decide +kernel
theorem x_L_law_584 {ls st : List Value} {x : Int32} {I : MI} {J : MJ} {R : MR} {S : Sh} {Q : SkQ} : Wp 23 584 ls (.int x :: st) I J R S Q = if x = 0 then Wp 23 589 ls st I J R S Q else Wp 23 587 ls st I J R S Q := o_if_eq rfl rfl k_L_law_584
theorem k_L_law_587 : decode (sk_by 23) 587 = .ok (.iconst 0, 1) := by decide +kernel
theorem x_L_law_587 {ls st : List Value} {I : MI} {J : MJ} {R : MR} {S : Sh} {Q : SkQ} : Wp 23 587 ls st I J R S Q = Wp 23 588 ls (.int 0 :: st) I J R S Q := o_const (by decide) k_L_law_587
theorem k_L_law_588 : decode (sk_by 23) 588 = .ok (.ireturn, 1) := by decide +kernel
theorem x_L_law_588 {ls : List Value} {v : Int32} {I : MI} {J : MJ} {R : MR} {S : Sh} {Q : SkQ} (h : rOk (some .boolean) v = true) : Wp 23 588 ls [.int v] I J R S Q = Q 0 (some (.int v)) I J R S := o_ireturn k_L_law_588 (by rw [show sk_rt 23 = some .boolean from rfl]; exact h)
theorem k_L_law_589 : decode (sk_by 23) 589 = .ok (.goto 1599, 3) := by decide +kernel
theorem x_L_law_589 {ls st : List Value} {I : MI} {J : MJ} {R : MR} {S : Sh} {Q : SkQ} : Wp 23 589 ls st I J R S Q = Wp 23 2188 ls st I J R S Q := o_goto rfl rfl k_L_law_589
theorem k_L_law_592 : decode (sk_by 23) 592 = .ok (.aload_n 1, 1) := by decide +kernel
theorem x_L_law_592 {st : List Value} {l0 : Nat} {l2 : Nat} {l3 : Nat} {l4 : Int32} {l5 : Value} {l6 : Value} {x : Nat} {I : MI} {J : MJ} {R : MR} {S : Sh} {Q : SkQ} : Wp 23 592 [.ref l0, .ref x, .ref l2, .ref l3, .int l4, l5, l6, nov] st I J R S Q = Wp 23 593 [.ref l0, .ref x, .ref l2, .ref l3, .int l4, l5, l6, nov] (.ref x :: st) I J R S Q := o_aload_n rfl k_L_law_592
theorem k_L_law_593 : decode (sk_by 23) 593 = .ok (.aload_n 0, 1) := by decide +kernel
theorem x_L_law_593 {st : List Value} {l1 : Nat} {l2 : Nat} {l3 : Nat} {l4 : Int32} {l5 : Value} {l6 : Value} {x : Nat} {I : MI} {J : MJ} {R : MR} {S : Sh} {Q : SkQ} : Wp 23 593 [.ref x, .ref l1, .ref l2, .ref l3, .int l4, l5, l6, nov] st I J R S Q = Wp 23 594 [.ref x, .ref l1, .ref l2, .ref l3, .int l4, l5, l6, nov] (.ref x :: st) I J R S Q := o_aload_n rfl k_L_law_593
theorem k_L_law_594 : decode (sk_by 23) 594 = .ok (.iload 4, 2) := by decide +kernel
theorem x_L_law_594 {st : List Value} {l0 : Nat} {l1 : Nat} {l2 : Nat} {l3 : Nat} {l5 : Value} {l6 : Value} {x : Int32} {I : MI} {J : MJ} {R : MR} {S : Sh} {Q : SkQ} : Wp 23 594 [.ref l0, .ref l1, .ref l2, .ref l3, .int x, l5, l6, nov] st I J R S Q = Wp 23 596 [.ref l0, .ref l1, .ref l2, .ref l3, .int x, l5, l6, nov] (.int x :: st) I J R S Q := o_iload rfl k_L_law_594
theorem k_L_law_596 : decode (sk_by 23) 596 = .ok (.iconst 1, 1) := by decide +kernel
theorem x_L_law_596 {ls st : List Value} {I : MI} {J : MJ} {R : MR} {S : Sh} {Q : SkQ} : Wp 23 596 ls st I J R S Q = Wp 23 597 ls (.int 1 :: st) I J R S Q := o_const (by decide) k_L_law_596
theorem k_L_law_597 : decode (sk_by 23) 597 = .ok (.iadd, 1) := by decide +kernel
theorem x_L_law_597 {ls st : List Value} {x y : Int32} {I : MI} {J : MJ} {R : MR} {S : Sh} {Q : SkQ} : Wp 23 597 ls (.int y :: .int x :: st) I J R S Q = Wp 23 598 ls (.int (x + y) :: st) I J R S Q := o_iadd k_L_law_597
theorem k_L_law_598 : decode (sk_by 23) 598 = .ok (.iaload, 1) := by decide +kernel
theorem x_L_law_598 {ls st : List Value} {a : Nat} {i : Int32} {I : MI} {J : MJ} {R : MR} {S : Sh} {Q : SkQ} (ha : S.1 a = 30) (hi : inb i (S.2.1 a) = true) : Wp 23 598 ls (.int i :: .ref a :: st) I J R S Q = Wp 23 599 ls (.int (I a (ix i)) :: st) I J R S Q := o_iaload k_L_law_598 ha hi
theorem x_L_law_598C {ls st : List Value} {a : Nat} {i : Int32} {I : MI} {J : MJ} {R : MR} {S : Sh} {Q : SkQ} (ha : S.1 a = 40) (hi : inb i (S.2.1 a) = true) : Wp 23 598 ls (.int i :: .ref a :: st) I J R S Q = Wp 23 599 ls (.int (I a (ix i)) :: st) I J R S Q := o_ialoadC k_L_law_598 ha hi
theorem k_L_law_599 : decode (sk_by 23) 599 = .ok (.aload_n 0, 1) := by decide +kernel
theorem x_L_law_599 {st : List Value} {l1 : Nat} {l2 : Nat} {l3 : Nat} {l4 : Int32} {l5 : Value} {l6 : Value} {x : Nat} {I : MI} {J : MJ} {R : MR} {S : Sh} {Q : SkQ} : Wp 23 599 [.ref x, .ref l1, .ref l2, .ref l3, .int l4, l5, l6, nov] st I J R S Q = Wp 23 600 [.ref x, .ref l1, .ref l2, .ref l3, .int l4, l5, l6, nov] (.ref x :: st) I J R S Q := o_aload_n rfl k_L_law_599
theorem k_L_law_600 : decode (sk_by 23) 600 = .ok (.iload 4, 2) := by decide +kernel
theorem x_L_law_600 {st : List Value} {l0 : Nat} {l1 : Nat} {l2 : Nat} {l3 : Nat} {l5 : Value} {l6 : Value} {x : Int32} {I : MI} {J : MJ} {R : MR} {S : Sh} {Q : SkQ} : Wp 23 600 [.ref l0, .ref l1, .ref l2, .ref l3, .int x, l5, l6, nov] st I J R S Q = Wp 23 602 [.ref l0, .ref l1, .ref l2, .ref l3, .int x, l5, l6, nov] (.int x :: st) I J R S Q := o_iload rfl k_L_law_600
theorem k_L_law_602 : decode (sk_by 23) 602 = .ok (.iconst 2, 1) := by decide +kernel
theorem x_L_law_602 {ls st : List Value} {I : MI} {J : MJ} {R : MR} {S : Sh} {Q : SkQ} : Wp 23 602 ls st I J R S Q = Wp 23 603 ls (.int 2 :: st) I J R S Q := o_const (by decide) k_L_law_602
theorem k_L_law_603 : decode (sk_by 23) 603 = .ok (.iadd, 1) := by decide +kernel
theorem x_L_law_603 {ls st : List Value} {x y : Int32} {I : MI} {J : MJ} {R : MR} {S : Sh} {Q : SkQ} : Wp 23 603 ls (.int y :: .int x :: st) I J R S Q = Wp 23 604 ls (.int (x + y) :: st) I J R S Q := o_iadd k_L_law_603
theorem k_L_law_604 : decode (sk_by 23) 604 = .ok (.iaload, 1) := by decide +kernel
theorem x_L_law_604 {ls st : List Value} {a : Nat} {i : Int32} {I : MI} {J : MJ} {R : MR} {S : Sh} {Q : SkQ} (ha : S.1 a = 30) (hi : inb i (S.2.1 a) = true) : Wp 23 604 ls (.int i :: .ref a :: st) I J R S Q = Wp 23 605 ls (.int (I a (ix i)) :: st) I J R S Q := o_iaload k_L_law_604 ha hi
theorem x_L_law_604C {ls st : List Value} {a : Nat} {i : Int32} {I : MI} {J : MJ} {R : MR} {S : Sh} {Q : SkQ} (ha : S.1 a = 40) (hi : inb i (S.2.1 a) = true) : Wp 23 604 ls (.int i :: .ref a :: st) I J R S Q = Wp 23 605 ls (.int (I a (ix i)) :: st) I J R S Q := o_ialoadC k_L_law_604 ha hi
theorem k_L_law_605 : decode (sk_by 23) 605 = .ok (.aload_n 3, 1) := by decide +kernel
theorem x_L_law_605 {st : List Value} {l0 : Nat} {l1 : Nat} {l2 : Nat} {l4 : Int32} {l5 : Value} {l6 : Value} {x : Nat} {I : MI} {J : MJ} {R : MR} {S : Sh} {Q : SkQ} : Wp 23 605 [.ref l0, .ref l1, .ref l2, .ref x, .int l4, l5, l6, nov] st I J R S Q = Wp 23 606 [.ref l0, .ref l1, .ref l2, .ref x, .int l4, l5, l6, nov] (.ref x :: st) I J R S Q := o_aload_n rfl k_L_law_605
theorem k_L_law_606 : decode (sk_by 23) 606 = .ok (.invokestatic 122, 3) := by decide +kernel
theorem x_L_law_606 {ls : List Value} {a0 : Nat} {a1 : Int32} {a2 : Int32} {a3 : Nat} {I : MI} {J : MJ} {R : MR} {S : Sh} {Q : SkQ} : Wp 23 606 ls (.ref a3 :: .int a2 :: .int a1 :: .ref a0 :: []) I J R S Q = Wp 5 0 [.ref a0, .int a1, .int a2, .ref a3, nov] [] I J R S (Ret 23 606 609 5 ls [] Q) := o_call (as := [.ref a0, .int a1, .int a2, .ref a3]) (rest := []) (show sk_lkM (sk_cl 23) 122 = some 5 by decide +kernel) (by decide) (by decide) (by (decide +kernel)) (ins := .invokestatic 122) (by (decide +kernel)) k_L_law_606 rfl (show 4 = sk_na 5 by (decide +kernel)) (Nat.le_of_ble_eq_true rfl) (Nat.le_trans (show (argL [.ref a0, .int a1, .int a2, .ref a3]).length ≤ 5 from Nat.le_of_ble_eq_true rfl) (by (decide +kernel))) rfl
theorem k_L_law_609 : decode (sk_by 23) 609 = .ok (.istore 5, 2) := by decide +kernel
theorem x_L_law_609 {st : List Value} {l0 : Nat} {l1 : Nat} {l2 : Nat} {l3 : Nat} {l4 : Int32} {l5 : Value} {l6 : Value} {x : Int32} {I : MI} {J : MJ} {R : MR} {S : Sh} {Q : SkQ} : Wp 23 609 [.ref l0, .ref l1, .ref l2, .ref l3, .int l4, l5, l6, nov] (.int x :: st) I J R S Q = Wp 23 611 [.ref l0, .ref l1, .ref l2, .ref l3, .int l4, .int x, l6, nov] st I J R S Q := o_istore (Nat.le_of_ble_eq_true rfl) rfl k_L_law_609
theorem k_L_law_611 : decode (sk_by 23) 611 = .ok (.aload_n 2, 1) := by decide +kernel
theorem x_L_law_611 {st : List Value} {l0 : Nat} {l1 : Nat} {l3 : Nat} {l4 : Int32} {l5 : Int32} {l6 : Value} {x : Nat} {I : MI} {J : MJ} {R : MR} {S : Sh} {Q : SkQ} : Wp 23 611 [.ref l0, .ref l1, .ref x, .ref l3, .int l4, .int l5, l6, nov] st I J R S Q = Wp 23 612 [.ref l0, .ref l1, .ref x, .ref l3, .int l4, .int l5, l6, nov] (.ref x :: st) I J R S Q := o_aload_n rfl k_L_law_611
theorem k_L_law_612 : decode (sk_by 23) 612 = .ok (.aload_n 0, 1) := by decide +kernel
theorem x_L_law_612 {st : List Value} {l1 : Nat} {l2 : Nat} {l3 : Nat} {l4 : Int32} {l5 : Int32} {l6 : Value} {x : Nat} {I : MI} {J : MJ} {R : MR} {S : Sh} {Q : SkQ} : Wp 23 612 [.ref x, .ref l1, .ref l2, .ref l3, .int l4, .int l5, l6, nov] st I J R S Q = Wp 23 613 [.ref x, .ref l1, .ref l2, .ref l3, .int l4, .int l5, l6, nov] (.ref x :: st) I J R S Q := o_aload_n rfl k_L_law_612
theorem k_L_law_613 : decode (sk_by 23) 613 = .ok (.iload 4, 2) := by decide +kernel
theorem x_L_law_613 {st : List Value} {l0 : Nat} {l1 : Nat} {l2 : Nat} {l3 : Nat} {l5 : Int32} {l6 : Value} {x : Int32} {I : MI} {J : MJ} {R : MR} {S : Sh} {Q : SkQ} : Wp 23 613 [.ref l0, .ref l1, .ref l2, .ref l3, .int x, .int l5, l6, nov] st I J R S Q = Wp 23 615 [.ref l0, .ref l1, .ref l2, .ref l3, .int x, .int l5, l6, nov] (.int x :: st) I J R S Q := o_iload rfl k_L_law_613
theorem k_L_law_615 : decode (sk_by 23) 615 = .ok (.iconst 1, 1) := by decide +kernel
theorem x_L_law_615 {ls st : List Value} {I : MI} {J : MJ} {R : MR} {S : Sh} {Q : SkQ} : Wp 23 615 ls st I J R S Q = Wp 23 616 ls (.int 1 :: st) I J R S Q := o_const (by decide) k_L_law_615
theorem k_L_law_616 : decode (sk_by 23) 616 = .ok (.iadd, 1) := by decide +kernel
theorem x_L_law_616 {ls st : List Value} {x y : Int32} {I : MI} {J : MJ} {R : MR} {S : Sh} {Q : SkQ} : Wp 23 616 ls (.int y :: .int x :: st) I J R S Q = Wp 23 617 ls (.int (x + y) :: st) I J R S Q := o_iadd k_L_law_616
theorem k_L_law_617 : decode (sk_by 23) 617 = .ok (.iaload, 1) := by decide +kernel
theorem x_L_law_617 {ls st : List Value} {a : Nat} {i : Int32} {I : MI} {J : MJ} {R : MR} {S : Sh} {Q : SkQ} (ha : S.1 a = 30) (hi : inb i (S.2.1 a) = true) : Wp 23 617 ls (.int i :: .ref a :: st) I J R S Q = Wp 23 618 ls (.int (I a (ix i)) :: st) I J R S Q := o_iaload k_L_law_617 ha hi
theorem x_L_law_617C {ls st : List Value} {a : Nat} {i : Int32} {I : MI} {J : MJ} {R : MR} {S : Sh} {Q : SkQ} (ha : S.1 a = 40) (hi : inb i (S.2.1 a) = true) : Wp 23 617 ls (.int i :: .ref a :: st) I J R S Q = Wp 23 618 ls (.int (I a (ix i)) :: st) I J R S Q := o_ialoadC k_L_law_617 ha hi
theorem k_L_law_618 : decode (sk_by 23) 618 = .ok (.aload_n 0, 1) := by decide +kernel
theorem x_L_law_618 {st : List Value} {l1 : Nat} {l2 : Nat} {l3 : Nat} {l4 : Int32} {l5 : Int32} {l6 : Value} {x : Nat} {I : MI} {J : MJ} {R : MR} {S : Sh} {Q : SkQ} : Wp 23 618 [.ref x, .ref l1, .ref l2, .ref l3, .int l4, .int l5, l6, nov] st I J R S Q = Wp 23 619 [.ref x, .ref l1, .ref l2, .ref l3, .int l4, .int l5, l6, nov] (.ref x :: st) I J R S Q := o_aload_n rfl k_L_law_618
theorem k_L_law_619 : decode (sk_by 23) 619 = .ok (.iload 4, 2) := by decide +kernel
theorem x_L_law_619 {st : List Value} {l0 : Nat} {l1 : Nat} {l2 : Nat} {l3 : Nat} {l5 : Int32} {l6 : Value} {x : Int32} {I : MI} {J : MJ} {R : MR} {S : Sh} {Q : SkQ} : Wp 23 619 [.ref l0, .ref l1, .ref l2, .ref l3, .int x, .int l5, l6, nov] st I J R S Q = Wp 23 621 [.ref l0, .ref l1, .ref l2, .ref l3, .int x, .int l5, l6, nov] (.int x :: st) I J R S Q := o_iload rfl k_L_law_619
theorem k_L_law_621 : decode (sk_by 23) 621 = .ok (.iconst 2, 1) := by decide +kernel
theorem x_L_law_621 {ls st : List Value} {I : MI} {J : MJ} {R : MR} {S : Sh} {Q : SkQ} : Wp 23 621 ls st I J R S Q = Wp 23 622 ls (.int 2 :: st) I J R S Q := o_const (by decide) k_L_law_621
theorem k_L_law_622 : decode (sk_by 23) 622 = .ok (.iadd, 1) := by decide +kernel
theorem x_L_law_622 {ls st : List Value} {x y : Int32} {I : MI} {J : MJ} {R : MR} {S : Sh} {Q : SkQ} : Wp 23 622 ls (.int y :: .int x :: st) I J R S Q = Wp 23 623 ls (.int (x + y) :: st) I J R S Q := o_iadd k_L_law_622
theorem k_L_law_623 : decode (sk_by 23) 623 = .ok (.iaload, 1) := by decide +kernel
theorem x_L_law_623 {ls st : List Value} {a : Nat} {i : Int32} {I : MI} {J : MJ} {R : MR} {S : Sh} {Q : SkQ} (ha : S.1 a = 30) (hi : inb i (S.2.1 a) = true) : Wp 23 623 ls (.int i :: .ref a :: st) I J R S Q = Wp 23 624 ls (.int (I a (ix i)) :: st) I J R S Q := o_iaload k_L_law_623 ha hi
theorem x_L_law_623C {ls st : List Value} {a : Nat} {i : Int32} {I : MI} {J : MJ} {R : MR} {S : Sh} {Q : SkQ} (ha : S.1 a = 40) (hi : inb i (S.2.1 a) = true) : Wp 23 623 ls (.int i :: .ref a :: st) I J R S Q = Wp 23 624 ls (.int (I a (ix i)) :: st) I J R S Q := o_ialoadC k_L_law_623 ha hi
theorem k_L_law_624 : decode (sk_by 23) 624 = .ok (.invokevirtual 124, 3) := by decide +kernel
theorem x_L_law_624 {ls : List Value} {a0 : Nat} {a1 : Int32} {a2 : Int32} {I : MI} {J : MJ} {R : MR} {S : Sh} {Q : SkQ} (ha : S.1 a0 = 8) : Wp 23 624 ls (.int a2 :: .int a1 :: .ref a0 :: []) I J R S Q = Wp 197 0 [.ref a0, .int a1, .int a2, nov, nov] [] I J R S (Ret 23 624 627 197 ls [] Q) := o_call (as := [.ref a0, .int a1, .int a2]) (rest := []) (show sk_lkM (sk_cl 23) 124 = some 197 by decide +kernel) (by decide) (by decide) (by (decide +kernel)) (ins := .invokevirtual 124) (by (decide +kernel)) k_L_law_624 rfl (show 3 = sk_na 197 by (decide +kernel)) (Nat.le_of_ble_eq_true rfl) (Nat.le_trans (show (argL [.ref a0, .int a1, .int a2]).length ≤ 5 from Nat.le_of_ble_eq_true rfl) (by (decide +kernel))) (rcv_of (by (decide +kernel)) (by decide) ha)
theorem k_L_law_627 : decode (sk_by 23) 627 = .ok (.istore 6, 2) := by decide +kernel
theorem x_L_law_627 {st : List Value} {l0 : Nat} {l1 : Nat} {l2 : Nat} {l3 : Nat} {l4 : Int32} {l5 : Int32} {l6 : Value} {x : Int32} {I : MI} {J : MJ} {R : MR} {S : Sh} {Q : SkQ} : Wp 23 627 [.ref l0, .ref l1, .ref l2, .ref l3, .int l4, .int l5, l6, nov] (.int x :: st) I J R S Q = Wp 23 629 [.ref l0, .ref l1, .ref l2, .ref l3, .int l4, .int l5, .int x, nov] st I J R S Q := o_istore (Nat.le_of_ble_eq_true rfl) rfl k_L_law_627
theorem k_L_law_629 : decode (sk_by 23) 629 = .ok (.aload_n 2, 1) := by decide +kernel
theorem x_L_law_629 {st : List Value} {l0 : Nat} {l1 : Nat} {l3 : Nat} {l4 : Int32} {l5 : Int32} {l6 : Int32} {x : Nat} {I : MI} {J : MJ} {R : MR} {S : Sh} {Q : SkQ} : Wp 23 629 [.ref l0, .ref l1, .ref x, .ref l3, .int l4, .int l5, .int l6, nov] st I J R S Q = Wp 23 630 [.ref l0, .ref l1, .ref x, .ref l3, .int l4, .int l5, .int l6, nov] (.ref x :: st) I J R S Q := o_aload_n rfl k_L_law_629
theorem k_L_law_630 : decode (sk_by 23) 630 = .ok (.invokevirtual 105, 3) := by decide +kernel
theorem x_L_law_630 {ls : List Value} {a0 : Nat} {I : MI} {J : MJ} {R : MR} {S : Sh} {Q : SkQ} (ha : S.1 a0 = 8) : Wp 23 630 ls (.ref a0 :: []) I J R S Q = Wp 174 0 [.ref a0] [] I J R S (Ret 23 630 633 174 ls [] Q) := o_call (as := [.ref a0]) (rest := []) (show sk_lkM (sk_cl 23) 105 = some 174 by decide +kernel) (by decide) (by decide) (by (decide +kernel)) (ins := .invokevirtual 105) (by (decide +kernel)) k_L_law_630 rfl (show 1 = sk_na 174 by (decide +kernel)) (Nat.le_of_ble_eq_true rfl) (Nat.le_trans (show (argL [.ref a0]).length ≤ 1 from Nat.le_of_ble_eq_true rfl) (by (decide +kernel))) (rcv_of (by (decide +kernel)) (by decide) ha)
theorem k_L_law_633 : decode (sk_by 23) 633 = .ok (.iload 5, 2) := by decide +kernel
theorem x_L_law_633 {st : List Value} {l0 : Nat} {l1 : Nat} {l2 : Nat} {l3 : Nat} {l4 : Int32} {l6 : Int32} {x : Int32} {I : MI} {J : MJ} {R : MR} {S : Sh} {Q : SkQ} : Wp 23 633 [.ref l0, .ref l1, .ref l2, .ref l3, .int l4, .int x, .int l6, nov] st I J R S Q = Wp 23 635 [.ref l0, .ref l1, .ref l2, .ref l3, .int l4, .int x, .int l6, nov] (.int x :: st) I J R S Q := o_iload rfl k_L_law_633
theorem k_L_law_635 : decode (sk_by 23) 635 = .ok (.if_icmp .eq 5, 3) := by decide +kernel
theorem x_L_law_635 {ls st : List Value} {x y : Int32} {I : MI} {J : MJ} {R : MR} {S : Sh} {Q : SkQ} : Wp 23 635 ls (.int y :: .int x :: st) I J R S Q = if x = y then Wp 23 640 ls st I J R S Q else Wp 23 638 ls st I J R S Q := o_ic_eq rfl rfl k_L_law_635
theorem k_L_law_638 : decode (sk_by 23) 638 = .ok (.iconst 0, 1) := by decide +kernel
theorem x_L_law_638 {ls st : List Value} {I : MI} {J : MJ} {R : MR} {S : Sh} {Q : SkQ} : Wp 23 638 ls st I J R S Q = Wp 23 639 ls (.int 0 :: st) I J R S Q := o_const (by decide) k_L_law_638
theorem k_L_law_639 : decode (sk_by 23) 639 = .ok (.ireturn, 1) := by decide +kernel
theorem x_L_law_639 {ls : List Value} {v : Int32} {I : MI} {J : MJ} {R : MR} {S : Sh} {Q : SkQ} (h : rOk (some .boolean) v = true) : Wp 23 639 ls [.int v] I J R S Q = Q 0 (some (.int v)) I J R S := o_ireturn k_L_law_639 (by rw [show sk_rt 23 = some .boolean from rfl]; exact h)
theorem k_L_law_640 : decode (sk_by 23) 640 = .ok (.iload 5, 2) := by decide +kernel
theorem x_L_law_640 {st : List Value} {l0 : Nat} {l1 : Nat} {l2 : Nat} {l3 : Nat} {l4 : Int32} {l6 : Int32} {x : Int32} {I : MI} {J : MJ} {R : MR} {S : Sh} {Q : SkQ} : Wp 23 640 [.ref l0, .ref l1, .ref l2, .ref l3, .int l4, .int x, .int l6, nov] st I J R S Q = Wp 23 642 [.ref l0, .ref l1, .ref l2, .ref l3, .int l4, .int x, .int l6, nov] (.int x :: st) I J R S Q := o_iload rfl k_L_law_640
theorem k_L_law_642 : decode (sk_by 23) 642 = .ok (.ifCond .ne 15, 3) := by decide +kernel
theorem x_L_law_642 {ls st : List Value} {x : Int32} {I : MI} {J : MJ} {R : MR} {S : Sh} {Q : SkQ} : Wp 23 642 ls (.int x :: st) I J R S Q = if x = 0 then Wp 23 645 ls st I J R S Q else Wp 23 657 ls st I J R S Q := o_if_ne rfl rfl k_L_law_642
theorem k_L_law_645 : decode (sk_by 23) 645 = .ok (.aload_n 3, 1) := by decide +kernel
theorem x_L_law_645 {st : List Value} {l0 : Nat} {l1 : Nat} {l2 : Nat} {l4 : Int32} {l5 : Int32} {l6 : Int32} {x : Nat} {I : MI} {J : MJ} {R : MR} {S : Sh} {Q : SkQ} : Wp 23 645 [.ref l0, .ref l1, .ref l2, .ref x, .int l4, .int l5, .int l6, nov] st I J R S Q = Wp 23 646 [.ref l0, .ref l1, .ref l2, .ref x, .int l4, .int l5, .int l6, nov] (.ref x :: st) I J R S Q := o_aload_n rfl k_L_law_645
theorem k_L_law_646 : decode (sk_by 23) 646 = .ok (.iconst 0, 1) := by decide +kernel
theorem x_L_law_646 {ls st : List Value} {I : MI} {J : MJ} {R : MR} {S : Sh} {Q : SkQ} : Wp 23 646 ls st I J R S Q = Wp 23 647 ls (.int 0 :: st) I J R S Q := o_const (by decide) k_L_law_646
theorem k_L_law_647 : decode (sk_by 23) 647 = .ok (.laload, 1) := by decide +kernel
theorem x_L_law_647 {ls st : List Value} {a : Nat} {i : Int32} {I : MI} {J : MJ} {R : MR} {S : Sh} {Q : SkQ} (ha : S.1 a = 31) (hi : inb i (S.2.1 a) = true) : Wp 23 647 ls (.int i :: .ref a :: st) I J R S Q = Wp 23 648 ls (.long (J a (ix i)) :: st) I J R S Q := o_laload k_L_law_647 ha hi
theorem k_L_law_648 : decode (sk_by 23) 648 = .ok (.iload 6, 2) := by decide +kernel
theorem x_L_law_648 {st : List Value} {l0 : Nat} {l1 : Nat} {l2 : Nat} {l3 : Nat} {l4 : Int32} {l5 : Int32} {x : Int32} {I : MI} {J : MJ} {R : MR} {S : Sh} {Q : SkQ} : Wp 23 648 [.ref l0, .ref l1, .ref l2, .ref l3, .int l4, .int l5, .int x, nov] st I J R S Q = Wp 23 650 [.ref l0, .ref l1, .ref l2, .ref l3, .int l4, .int l5, .int x, nov] (.int x :: st) I J R S Q := o_iload rfl k_L_law_648
theorem k_L_law_650 : decode (sk_by 23) 650 = .ok (.i2l, 1) := by decide +kernel
theorem x_L_law_650 {ls st : List Value} {x : Int32} {I : MI} {J : MJ} {R : MR} {S : Sh} {Q : SkQ} : Wp 23 650 ls (.int x :: st) I J R S Q = Wp 23 651 ls (.long x.toInt64 :: st) I J R S Q := o_i2l k_L_law_650
theorem k_L_law_651 : decode (sk_by 23) 651 = .ok (.lcmp, 1) := by decide +kernel
theorem x_L_law_651 {ls st : List Value} {x y : Int64} {I : MI} {J : MJ} {R : MR} {S : Sh} {Q : SkQ} : Wp 23 651 ls (.long y :: .long x :: st) I J R S Q = Wp 23 652 ls (.int (lg_cmp x y) :: st) I J R S Q := o_lcmp k_L_law_651
theorem k_L_law_652 : decode (sk_by 23) 652 = .ok (.ifCond .eq 5, 3) := by decide +kernel
theorem x_L_law_652 {ls st : List Value} {x : Int32} {I : MI} {J : MJ} {R : MR} {S : Sh} {Q : SkQ} : Wp 23 652 ls (.int x :: st) I J R S Q = if x = 0 then Wp 23 657 ls st I J R S Q else Wp 23 655 ls st I J R S Q := o_if_eq rfl rfl k_L_law_652
theorem k_L_law_655 : decode (sk_by 23) 655 = .ok (.iconst 0, 1) := by decide +kernel
theorem x_L_law_655 {ls st : List Value} {I : MI} {J : MJ} {R : MR} {S : Sh} {Q : SkQ} : Wp 23 655 ls st I J R S Q = Wp 23 656 ls (.int 0 :: st) I J R S Q := o_const (by decide) k_L_law_655
theorem k_L_law_656 : decode (sk_by 23) 656 = .ok (.ireturn, 1) := by decide +kernel
theorem x_L_law_656 {ls : List Value} {v : Int32} {I : MI} {J : MJ} {R : MR} {S : Sh} {Q : SkQ} (h : rOk (some .boolean) v = true) : Wp 23 656 ls [.int v] I J R S Q = Q 0 (some (.int v)) I J R S := o_ireturn k_L_law_656 (by rw [show sk_rt 23 = some .boolean from rfl]; exact h)
theorem k_L_law_657 : decode (sk_by 23) 657 = .ok (.goto 1531, 3) := by decide +kernel
theorem x_L_law_657 {ls st : List Value} {I : MI} {J : MJ} {R : MR} {S : Sh} {Q : SkQ} : Wp 23 657 ls st I J R S Q = Wp 23 2188 ls st I J R S Q := o_goto rfl rfl k_L_law_657
theorem k_L_law_660 : decode (sk_by 23) 660 = .ok (.aload_n 1, 1) := by decide +kernel
theorem x_L_law_660 {st : List Value} {l0 : Nat} {l2 : Nat} {l3 : Nat} {l4 : Int32} {l5 : Value} {l6 : Value} {x : Nat} {I : MI} {J : MJ} {R : MR} {S : Sh} {Q : SkQ} : Wp 23 660 [.ref l0, .ref x, .ref l2, .ref l3, .int l4, l5, l6, nov] st I J R S Q = Wp 23 661 [.ref l0, .ref x, .ref l2, .ref l3, .int l4, l5, l6, nov] (.ref x :: st) I J R S Q := o_aload_n rfl k_L_law_660
theorem k_L_law_661 : decode (sk_by 23) 661 = .ok (.aload_n 0, 1) := by decide +kernel
theorem x_L_law_661 {st : List Value} {l1 : Nat} {l2 : Nat} {l3 : Nat} {l4 : Int32} {l5 : Value} {l6 : Value} {x : Nat} {I : MI} {J : MJ} {R : MR} {S : Sh} {Q : SkQ} : Wp 23 661 [.ref x, .ref l1, .ref l2, .ref l3, .int l4, l5, l6, nov] st I J R S Q = Wp 23 662 [.ref x, .ref l1, .ref l2, .ref l3, .int l4, l5, l6, nov] (.ref x :: st) I J R S Q := o_aload_n rfl k_L_law_661
theorem k_L_law_662 : decode (sk_by 23) 662 = .ok (.iload 4, 2) := by decide +kernel
theorem x_L_law_662 {st : List Value} {l0 : Nat} {l1 : Nat} {l2 : Nat} {l3 : Nat} {l5 : Value} {l6 : Value} {x : Int32} {I : MI} {J : MJ} {R : MR} {S : Sh} {Q : SkQ} : Wp 23 662 [.ref l0, .ref l1, .ref l2, .ref l3, .int x, l5, l6, nov] st I J R S Q = Wp 23 664 [.ref l0, .ref l1, .ref l2, .ref l3, .int x, l5, l6, nov] (.int x :: st) I J R S Q := o_iload rfl k_L_law_662
theorem k_L_law_664 : decode (sk_by 23) 664 = .ok (.iconst 1, 1) := by decide +kernel
theorem x_L_law_664 {ls st : List Value} {I : MI} {J : MJ} {R : MR} {S : Sh} {Q : SkQ} : Wp 23 664 ls st I J R S Q = Wp 23 665 ls (.int 1 :: st) I J R S Q := o_const (by decide) k_L_law_664
theorem k_L_law_665 : decode (sk_by 23) 665 = .ok (.iadd, 1) := by decide +kernel
theorem x_L_law_665 {ls st : List Value} {x y : Int32} {I : MI} {J : MJ} {R : MR} {S : Sh} {Q : SkQ} : Wp 23 665 ls (.int y :: .int x :: st) I J R S Q = Wp 23 666 ls (.int (x + y) :: st) I J R S Q := o_iadd k_L_law_665
theorem k_L_law_666 : decode (sk_by 23) 666 = .ok (.iaload, 1) := by decide +kernel
theorem x_L_law_666 {ls st : List Value} {a : Nat} {i : Int32} {I : MI} {J : MJ} {R : MR} {S : Sh} {Q : SkQ} (ha : S.1 a = 30) (hi : inb i (S.2.1 a) = true) : Wp 23 666 ls (.int i :: .ref a :: st) I J R S Q = Wp 23 667 ls (.int (I a (ix i)) :: st) I J R S Q := o_iaload k_L_law_666 ha hi
theorem x_L_law_666C {ls st : List Value} {a : Nat} {i : Int32} {I : MI} {J : MJ} {R : MR} {S : Sh} {Q : SkQ} (ha : S.1 a = 40) (hi : inb i (S.2.1 a) = true) : Wp 23 666 ls (.int i :: .ref a :: st) I J R S Q = Wp 23 667 ls (.int (I a (ix i)) :: st) I J R S Q := o_ialoadC k_L_law_666 ha hi
theorem k_L_law_667 : decode (sk_by 23) 667 = .ok (.i2l, 1) := by decide +kernel
theorem x_L_law_667 {ls st : List Value} {x : Int32} {I : MI} {J : MJ} {R : MR} {S : Sh} {Q : SkQ} : Wp 23 667 ls (.int x :: st) I J R S Q = Wp 23 668 ls (.long x.toInt64 :: st) I J R S Q := o_i2l k_L_law_667
theorem k_L_law_668 : decode (sk_by 23) 668 = .ok (.bipush 32, 2) := by decide +kernel
theorem x_L_law_668 {ls st : List Value} {I : MI} {J : MJ} {R : MR} {S : Sh} {Q : SkQ} : Wp 23 668 ls st I J R S Q = Wp 23 670 ls (.int 32 :: st) I J R S Q := o_bi (by decide) k_L_law_668
theorem k_L_law_670 : decode (sk_by 23) 670 = .ok (.lshl, 1) := by decide +kernel
theorem x_L_law_670 {ls st : List Value} {x : Int64} {y : Int32} {I : MI} {J : MJ} {R : MR} {S : Sh} {Q : SkQ} : Wp 23 670 ls (.int y :: .long x :: st) I J R S Q = Wp 23 671 ls (.long (x <<< (y.toInt64 &&& 63)) :: st) I J R S Q := o_lshl k_L_law_670
theorem k_L_law_671 : decode (sk_by 23) 671 = .ok (.aload_n 0, 1) := by decide +kernel
theorem x_L_law_671 {st : List Value} {l1 : Nat} {l2 : Nat} {l3 : Nat} {l4 : Int32} {l5 : Value} {l6 : Value} {x : Nat} {I : MI} {J : MJ} {R : MR} {S : Sh} {Q : SkQ} : Wp 23 671 [.ref x, .ref l1, .ref l2, .ref l3, .int l4, l5, l6, nov] st I J R S Q = Wp 23 672 [.ref x, .ref l1, .ref l2, .ref l3, .int l4, l5, l6, nov] (.ref x :: st) I J R S Q := o_aload_n rfl k_L_law_671
theorem k_L_law_672 : decode (sk_by 23) 672 = .ok (.iload 4, 2) := by decide +kernel
theorem x_L_law_672 {st : List Value} {l0 : Nat} {l1 : Nat} {l2 : Nat} {l3 : Nat} {l5 : Value} {l6 : Value} {x : Int32} {I : MI} {J : MJ} {R : MR} {S : Sh} {Q : SkQ} : Wp 23 672 [.ref l0, .ref l1, .ref l2, .ref l3, .int x, l5, l6, nov] st I J R S Q = Wp 23 674 [.ref l0, .ref l1, .ref l2, .ref l3, .int x, l5, l6, nov] (.int x :: st) I J R S Q := o_iload rfl k_L_law_672
theorem k_L_law_674 : decode (sk_by 23) 674 = .ok (.iconst 2, 1) := by decide +kernel
theorem x_L_law_674 {ls st : List Value} {I : MI} {J : MJ} {R : MR} {S : Sh} {Q : SkQ} : Wp 23 674 ls st I J R S Q = Wp 23 675 ls (.int 2 :: st) I J R S Q := o_const (by decide) k_L_law_674
theorem k_L_law_675 : decode (sk_by 23) 675 = .ok (.iadd, 1) := by decide +kernel
theorem x_L_law_675 {ls st : List Value} {x y : Int32} {I : MI} {J : MJ} {R : MR} {S : Sh} {Q : SkQ} : Wp 23 675 ls (.int y :: .int x :: st) I J R S Q = Wp 23 676 ls (.int (x + y) :: st) I J R S Q := o_iadd k_L_law_675
theorem k_L_law_676 : decode (sk_by 23) 676 = .ok (.iaload, 1) := by decide +kernel
theorem x_L_law_676 {ls st : List Value} {a : Nat} {i : Int32} {I : MI} {J : MJ} {R : MR} {S : Sh} {Q : SkQ} (ha : S.1 a = 30) (hi : inb i (S.2.1 a) = true) : Wp 23 676 ls (.int i :: .ref a :: st) I J R S Q = Wp 23 677 ls (.int (I a (ix i)) :: st) I J R S Q := o_iaload k_L_law_676 ha hi
theorem x_L_law_676C {ls st : List Value} {a : Nat} {i : Int32} {I : MI} {J : MJ} {R : MR} {S : Sh} {Q : SkQ} (ha : S.1 a = 40) (hi : inb i (S.2.1 a) = true) : Wp 23 676 ls (.int i :: .ref a :: st) I J R S Q = Wp 23 677 ls (.int (I a (ix i)) :: st) I J R S Q := o_ialoadC k_L_law_676 ha hi
theorem k_L_law_677 : decode (sk_by 23) 677 = .ok (.i2l, 1) := by decide +kernel
theorem x_L_law_677 {ls st : List Value} {x : Int32} {I : MI} {J : MJ} {R : MR} {S : Sh} {Q : SkQ} : Wp 23 677 ls (.int x :: st) I J R S Q = Wp 23 678 ls (.long x.toInt64 :: st) I J R S Q := o_i2l k_L_law_677
theorem k_L_law_678 : decode (sk_by 23) 678 = .ok (.ldc2_w 97, 3) := by decide +kernel
theorem x_L_law_678 {ls st : List Value} {I : MI} {J : MJ} {R : MR} {S : Sh} {Q : SkQ} : Wp 23 678 ls st I J R S Q = Wp 23 681 ls (.long 4294967295 :: st) I J R S Q := o_ldc2_w (show sk_lkK (sk_cl 23) 97 = some 4294967295 by decide +kernel) k_L_law_678
theorem k_L_law_681 : decode (sk_by 23) 681 = .ok (.land, 1) := by decide +kernel
theorem x_L_law_681 {ls st : List Value} {x y : Int64} {I : MI} {J : MJ} {R : MR} {S : Sh} {Q : SkQ} : Wp 23 681 ls (.long y :: .long x :: st) I J R S Q = Wp 23 682 ls (.long (x &&& y) :: st) I J R S Q := o_land k_L_law_681
theorem k_L_law_682 : decode (sk_by 23) 682 = .ok (.lor, 1) := by decide +kernel
theorem x_L_law_682 {ls st : List Value} {x y : Int64} {I : MI} {J : MJ} {R : MR} {S : Sh} {Q : SkQ} : Wp 23 682 ls (.long y :: .long x :: st) I J R S Q = Wp 23 683 ls (.long (x ||| y) :: st) I J R S Q := o_lor k_L_law_682
theorem k_L_law_683 : decode (sk_by 23) 683 = .ok (.aload_n 3, 1) := by decide +kernel
theorem x_L_law_683 {st : List Value} {l0 : Nat} {l1 : Nat} {l2 : Nat} {l4 : Int32} {l5 : Value} {l6 : Value} {x : Nat} {I : MI} {J : MJ} {R : MR} {S : Sh} {Q : SkQ} : Wp 23 683 [.ref l0, .ref l1, .ref l2, .ref x, .int l4, l5, l6, nov] st I J R S Q = Wp 23 684 [.ref l0, .ref l1, .ref l2, .ref x, .int l4, l5, l6, nov] (.ref x :: st) I J R S Q := o_aload_n rfl k_L_law_683
theorem k_L_law_684 : decode (sk_by 23) 684 = .ok (.invokestatic 125, 3) := by decide +kernel
theorem x_L_law_684 {ls : List Value} {a0 : Nat} {a1 : Int64} {a2 : Nat} {I : MI} {J : MJ} {R : MR} {S : Sh} {Q : SkQ} : Wp 23 684 ls (.ref a2 :: .long a1 :: .ref a0 :: []) I J R S Q = Wp 6 0 [.ref a0, .long a1, nov, .ref a2, nov] [] I J R S (Ret 23 684 687 6 ls [] Q) := o_call (as := [.ref a0, .long a1, .ref a2]) (rest := []) (show sk_lkM (sk_cl 23) 125 = some 6 by decide +kernel) (by decide) (by decide) (by (decide +kernel)) (ins := .invokestatic 125) (by (decide +kernel)) k_L_law_684 rfl (show 3 = sk_na 6 by (decide +kernel)) (Nat.le_of_ble_eq_true rfl) (Nat.le_trans (show (argL [.ref a0, .long a1, .ref a2]).length ≤ 5 from Nat.le_of_ble_eq_true rfl) (by (decide +kernel))) rfl
theorem k_L_law_687 : decode (sk_by 23) 687 = .ok (.istore 5, 2) := by decide +kernel
theorem x_L_law_687 {st : List Value} {l0 : Nat} {l1 : Nat} {l2 : Nat} {l3 : Nat} {l4 : Int32} {l5 : Value} {l6 : Value} {x : Int32} {I : MI} {J : MJ} {R : MR} {S : Sh} {Q : SkQ} : Wp 23 687 [.ref l0, .ref l1, .ref l2, .ref l3, .int l4, l5, l6, nov] (.int x :: st) I J R S Q = Wp 23 689 [.ref l0, .ref l1, .ref l2, .ref l3, .int l4, .int x, l6, nov] st I J R S Q := o_istore (Nat.le_of_ble_eq_true rfl) rfl k_L_law_687
theorem k_L_law_689 : decode (sk_by 23) 689 = .ok (.aload_n 2, 1) := by decide +kernel
theorem x_L_law_689 {st : List Value} {l0 : Nat} {l1 : Nat} {l3 : Nat} {l4 : Int32} {l5 : Int32} {l6 : Value} {x : Nat} {I : MI} {J : MJ} {R : MR} {S : Sh} {Q : SkQ} : Wp 23 689 [.ref l0, .ref l1, .ref x, .ref l3, .int l4, .int l5, l6, nov] st I J R S Q = Wp 23 690 [.ref l0, .ref l1, .ref x, .ref l3, .int l4, .int l5, l6, nov] (.ref x :: st) I J R S Q := o_aload_n rfl k_L_law_689
theorem k_L_law_690 : decode (sk_by 23) 690 = .ok (.aload_n 0, 1) := by decide +kernel
theorem x_L_law_690 {st : List Value} {l1 : Nat} {l2 : Nat} {l3 : Nat} {l4 : Int32} {l5 : Int32} {l6 : Value} {x : Nat} {I : MI} {J : MJ} {R : MR} {S : Sh} {Q : SkQ} : Wp 23 690 [.ref x, .ref l1, .ref l2, .ref l3, .int l4, .int l5, l6, nov] st I J R S Q = Wp 23 691 [.ref x, .ref l1, .ref l2, .ref l3, .int l4, .int l5, l6, nov] (.ref x :: st) I J R S Q := o_aload_n rfl k_L_law_690
theorem k_L_law_691 : decode (sk_by 23) 691 = .ok (.iload 4, 2) := by decide +kernel
theorem x_L_law_691 {st : List Value} {l0 : Nat} {l1 : Nat} {l2 : Nat} {l3 : Nat} {l5 : Int32} {l6 : Value} {x : Int32} {I : MI} {J : MJ} {R : MR} {S : Sh} {Q : SkQ} : Wp 23 691 [.ref l0, .ref l1, .ref l2, .ref l3, .int x, .int l5, l6, nov] st I J R S Q = Wp 23 693 [.ref l0, .ref l1, .ref l2, .ref l3, .int x, .int l5, l6, nov] (.int x :: st) I J R S Q := o_iload rfl k_L_law_691
theorem k_L_law_693 : decode (sk_by 23) 693 = .ok (.iconst 1, 1) := by decide +kernel
theorem x_L_law_693 {ls st : List Value} {I : MI} {J : MJ} {R : MR} {S : Sh} {Q : SkQ} : Wp 23 693 ls st I J R S Q = Wp 23 694 ls (.int 1 :: st) I J R S Q := o_const (by decide) k_L_law_693
theorem k_L_law_694 : decode (sk_by 23) 694 = .ok (.iadd, 1) := by decide +kernel
theorem x_L_law_694 {ls st : List Value} {x y : Int32} {I : MI} {J : MJ} {R : MR} {S : Sh} {Q : SkQ} : Wp 23 694 ls (.int y :: .int x :: st) I J R S Q = Wp 23 695 ls (.int (x + y) :: st) I J R S Q := o_iadd k_L_law_694
theorem k_L_law_695 : decode (sk_by 23) 695 = .ok (.iaload, 1) := by decide +kernel
theorem x_L_law_695 {ls st : List Value} {a : Nat} {i : Int32} {I : MI} {J : MJ} {R : MR} {S : Sh} {Q : SkQ} (ha : S.1 a = 30) (hi : inb i (S.2.1 a) = true) : Wp 23 695 ls (.int i :: .ref a :: st) I J R S Q = Wp 23 696 ls (.int (I a (ix i)) :: st) I J R S Q := o_iaload k_L_law_695 ha hi
theorem x_L_law_695C {ls st : List Value} {a : Nat} {i : Int32} {I : MI} {J : MJ} {R : MR} {S : Sh} {Q : SkQ} (ha : S.1 a = 40) (hi : inb i (S.2.1 a) = true) : Wp 23 695 ls (.int i :: .ref a :: st) I J R S Q = Wp 23 696 ls (.int (I a (ix i)) :: st) I J R S Q := o_ialoadC k_L_law_695 ha hi
theorem k_L_law_696 : decode (sk_by 23) 696 = .ok (.i2l, 1) := by decide +kernel
theorem x_L_law_696 {ls st : List Value} {x : Int32} {I : MI} {J : MJ} {R : MR} {S : Sh} {Q : SkQ} : Wp 23 696 ls (.int x :: st) I J R S Q = Wp 23 697 ls (.long x.toInt64 :: st) I J R S Q := o_i2l k_L_law_696
theorem k_L_law_697 : decode (sk_by 23) 697 = .ok (.bipush 32, 2) := by decide +kernel
theorem x_L_law_697 {ls st : List Value} {I : MI} {J : MJ} {R : MR} {S : Sh} {Q : SkQ} : Wp 23 697 ls st I J R S Q = Wp 23 699 ls (.int 32 :: st) I J R S Q := o_bi (by decide) k_L_law_697
theorem k_L_law_699 : decode (sk_by 23) 699 = .ok (.lshl, 1) := by decide +kernel
theorem x_L_law_699 {ls st : List Value} {x : Int64} {y : Int32} {I : MI} {J : MJ} {R : MR} {S : Sh} {Q : SkQ} : Wp 23 699 ls (.int y :: .long x :: st) I J R S Q = Wp 23 700 ls (.long (x <<< (y.toInt64 &&& 63)) :: st) I J R S Q := o_lshl k_L_law_699
theorem k_L_law_700 : decode (sk_by 23) 700 = .ok (.aload_n 0, 1) := by decide +kernel
theorem x_L_law_700 {st : List Value} {l1 : Nat} {l2 : Nat} {l3 : Nat} {l4 : Int32} {l5 : Int32} {l6 : Value} {x : Nat} {I : MI} {J : MJ} {R : MR} {S : Sh} {Q : SkQ} : Wp 23 700 [.ref x, .ref l1, .ref l2, .ref l3, .int l4, .int l5, l6, nov] st I J R S Q = Wp 23 701 [.ref x, .ref l1, .ref l2, .ref l3, .int l4, .int l5, l6, nov] (.ref x :: st) I J R S Q := o_aload_n rfl k_L_law_700
theorem k_L_law_701 : decode (sk_by 23) 701 = .ok (.iload 4, 2) := by decide +kernel
theorem x_L_law_701 {st : List Value} {l0 : Nat} {l1 : Nat} {l2 : Nat} {l3 : Nat} {l5 : Int32} {l6 : Value} {x : Int32} {I : MI} {J : MJ} {R : MR} {S : Sh} {Q : SkQ} : Wp 23 701 [.ref l0, .ref l1, .ref l2, .ref l3, .int x, .int l5, l6, nov] st I J R S Q = Wp 23 703 [.ref l0, .ref l1, .ref l2, .ref l3, .int x, .int l5, l6, nov] (.int x :: st) I J R S Q := o_iload rfl k_L_law_701
theorem k_L_law_703 : decode (sk_by 23) 703 = .ok (.iconst 2, 1) := by decide +kernel
theorem x_L_law_703 {ls st : List Value} {I : MI} {J : MJ} {R : MR} {S : Sh} {Q : SkQ} : Wp 23 703 ls st I J R S Q = Wp 23 704 ls (.int 2 :: st) I J R S Q := o_const (by decide) k_L_law_703
theorem k_L_law_704 : decode (sk_by 23) 704 = .ok (.iadd, 1) := by decide +kernel
theorem x_L_law_704 {ls st : List Value} {x y : Int32} {I : MI} {J : MJ} {R : MR} {S : Sh} {Q : SkQ} : Wp 23 704 ls (.int y :: .int x :: st) I J R S Q = Wp 23 705 ls (.int (x + y) :: st) I J R S Q := o_iadd k_L_law_704
theorem k_L_law_705 : decode (sk_by 23) 705 = .ok (.iaload, 1) := by decide +kernel
theorem x_L_law_705 {ls st : List Value} {a : Nat} {i : Int32} {I : MI} {J : MJ} {R : MR} {S : Sh} {Q : SkQ} (ha : S.1 a = 30) (hi : inb i (S.2.1 a) = true) : Wp 23 705 ls (.int i :: .ref a :: st) I J R S Q = Wp 23 706 ls (.int (I a (ix i)) :: st) I J R S Q := o_iaload k_L_law_705 ha hi
theorem x_L_law_705C {ls st : List Value} {a : Nat} {i : Int32} {I : MI} {J : MJ} {R : MR} {S : Sh} {Q : SkQ} (ha : S.1 a = 40) (hi : inb i (S.2.1 a) = true) : Wp 23 705 ls (.int i :: .ref a :: st) I J R S Q = Wp 23 706 ls (.int (I a (ix i)) :: st) I J R S Q := o_ialoadC k_L_law_705 ha hi
theorem k_L_law_706 : decode (sk_by 23) 706 = .ok (.i2l, 1) := by decide +kernel
theorem x_L_law_706 {ls st : List Value} {x : Int32} {I : MI} {J : MJ} {R : MR} {S : Sh} {Q : SkQ} : Wp 23 706 ls (.int x :: st) I J R S Q = Wp 23 707 ls (.long x.toInt64 :: st) I J R S Q := o_i2l k_L_law_706
theorem k_L_law_707 : decode (sk_by 23) 707 = .ok (.ldc2_w 97, 3) := by decide +kernel
theorem x_L_law_707 {ls st : List Value} {I : MI} {J : MJ} {R : MR} {S : Sh} {Q : SkQ} : Wp 23 707 ls st I J R S Q = Wp 23 710 ls (.long 4294967295 :: st) I J R S Q := o_ldc2_w (show sk_lkK (sk_cl 23) 97 = some 4294967295 by decide +kernel) k_L_law_707
theorem k_L_law_710 : decode (sk_by 23) 710 = .ok (.land, 1) := by decide +kernel
theorem x_L_law_710 {ls st : List Value} {x y : Int64} {I : MI} {J : MJ} {R : MR} {S : Sh} {Q : SkQ} : Wp 23 710 ls (.long y :: .long x :: st) I J R S Q = Wp 23 711 ls (.long (x &&& y) :: st) I J R S Q := o_land k_L_law_710
theorem k_L_law_711 : decode (sk_by 23) 711 = .ok (.lor, 1) := by decide +kernel
theorem x_L_law_711 {ls st : List Value} {x y : Int64} {I : MI} {J : MJ} {R : MR} {S : Sh} {Q : SkQ} : Wp 23 711 ls (.long y :: .long x :: st) I J R S Q = Wp 23 712 ls (.long (x ||| y) :: st) I J R S Q := o_lor k_L_law_711
theorem k_L_law_712 : decode (sk_by 23) 712 = .ok (.invokevirtual 127, 3) := by decide +kernel
theorem x_L_law_712 {ls : List Value} {a0 : Nat} {a1 : Int64} {I : MI} {J : MJ} {R : MR} {S : Sh} {Q : SkQ} (ha : S.1 a0 = 8) : Wp 23 712 ls (.long a1 :: .ref a0 :: []) I J R S Q = Wp 214 0 [.ref a0, .long a1, nov, nov, nov, nov, nov] [] I J R S (Ret 23 712 715 214 ls [] Q) := o_call (as := [.ref a0, .long a1]) (rest := []) (show sk_lkM (sk_cl 23) 127 = some 214 by decide +kernel) (by decide) (by decide) (by (decide +kernel)) (ins := .invokevirtual 127) (by (decide +kernel)) k_L_law_712 rfl (show 2 = sk_na 214 by (decide +kernel)) (Nat.le_of_ble_eq_true rfl) (Nat.le_trans (show (argL [.ref a0, .long a1]).length ≤ 7 from Nat.le_of_ble_eq_true rfl) (by (decide +kernel))) (rcv_of (by (decide +kernel)) (by decide) ha)
theorem k_L_law_715 : decode (sk_by 23) 715 = .ok (.lstore 6, 2) := by decide +kernel
theorem x_L_law_715 {st : List Value} {l0 : Nat} {l1 : Nat} {l2 : Nat} {l3 : Nat} {l4 : Int32} {l5 : Int32} {l6 : Value} {x : Int64} {I : MI} {J : MJ} {R : MR} {S : Sh} {Q : SkQ} : Wp 23 715 [.ref l0, .ref l1, .ref l2, .ref l3, .int l4, .int l5, l6, nov] (.long x :: st) I J R S Q = Wp 23 717 [.ref l0, .ref l1, .ref l2, .ref l3, .int l4, .int l5, .long x, nov] st I J R S Q := o_lstore (Nat.le_of_ble_eq_true rfl) rfl k_L_law_715
theorem k_L_law_717 : decode (sk_by 23) 717 = .ok (.aload_n 2, 1) := by decide +kernel
theorem x_L_law_717 {st : List Value} {l0 : Nat} {l1 : Nat} {l3 : Nat} {l4 : Int32} {l5 : Int32} {l6 : Int64} {x : Nat} {I : MI} {J : MJ} {R : MR} {S : Sh} {Q : SkQ} : Wp 23 717 [.ref l0, .ref l1, .ref x, .ref l3, .int l4, .int l5, .long l6, nov] st I J R S Q = Wp 23 718 [.ref l0, .ref l1, .ref x, .ref l3, .int l4, .int l5, .long l6, nov] (.ref x :: st) I J R S Q := o_aload_n rfl k_L_law_717
theorem k_L_law_718 : decode (sk_by 23) 718 = .ok (.invokevirtual 105, 3) := by decide +kernel
theorem x_L_law_718 {ls : List Value} {a0 : Nat} {I : MI} {J : MJ} {R : MR} {S : Sh} {Q : SkQ} (ha : S.1 a0 = 8) : Wp 23 718 ls (.ref a0 :: []) I J R S Q = Wp 174 0 [.ref a0] [] I J R S (Ret 23 718 721 174 ls [] Q) := o_call (as := [.ref a0]) (rest := []) (show sk_lkM (sk_cl 23) 105 = some 174 by decide +kernel) (by decide) (by decide) (by (decide +kernel)) (ins := .invokevirtual 105) (by (decide +kernel)) k_L_law_718 rfl (show 1 = sk_na 174 by (decide +kernel)) (Nat.le_of_ble_eq_true rfl) (Nat.le_trans (show (argL [.ref a0]).length ≤ 1 from Nat.le_of_ble_eq_true rfl) (by (decide +kernel))) (rcv_of (by (decide +kernel)) (by decide) ha)
theorem k_L_law_721 : decode (sk_by 23) 721 = .ok (.iload 5, 2) := by decide +kernel
theorem x_L_law_721 {st : List Value} {l0 : Nat} {l1 : Nat} {l2 : Nat} {l3 : Nat} {l4 : Int32} {l6 : Int64} {x : Int32} {I : MI} {J : MJ} {R : MR} {S : Sh} {Q : SkQ} : Wp 23 721 [.ref l0, .ref l1, .ref l2, .ref l3, .int l4, .int x, .long l6, nov] st I J R S Q = Wp 23 723 [.ref l0, .ref l1, .ref l2, .ref l3, .int l4, .int x, .long l6, nov] (.int x :: st) I J R S Q := o_iload rfl k_L_law_721
theorem k_L_law_723 : decode (sk_by 23) 723 = .ok (.if_icmp .eq 5, 3) := by decide +kernel
theorem x_L_law_723 {ls st : List Value} {x y : Int32} {I : MI} {J : MJ} {R : MR} {S : Sh} {Q : SkQ} : Wp 23 723 ls (.int y :: .int x :: st) I J R S Q = if x = y then Wp 23 728 ls st I J R S Q else Wp 23 726 ls st I J R S Q := o_ic_eq rfl rfl k_L_law_723
theorem k_L_law_726 : decode (sk_by 23) 726 = .ok (.iconst 0, 1) := by decide +kernel
theorem x_L_law_726 {ls st : List Value} {I : MI} {J : MJ} {R : MR} {S : Sh} {Q : SkQ} : Wp 23 726 ls st I J R S Q = Wp 23 727 ls (.int 0 :: st) I J R S Q := o_const (by decide) k_L_law_726
theorem k_L_law_727 : decode (sk_by 23) 727 = .ok (.ireturn, 1) := by decide +kernel
theorem x_L_law_727 {ls : List Value} {v : Int32} {I : MI} {J : MJ} {R : MR} {S : Sh} {Q : SkQ} (h : rOk (some .boolean) v = true) : Wp 23 727 ls [.int v] I J R S Q = Q 0 (some (.int v)) I J R S := o_ireturn k_L_law_727 (by rw [show sk_rt 23 = some .boolean from rfl]; exact h)
theorem k_L_law_728 : decode (sk_by 23) 728 = .ok (.iload 5, 2) := by decide +kernel
theorem x_L_law_728 {st : List Value} {l0 : Nat} {l1 : Nat} {l2 : Nat} {l3 : Nat} {l4 : Int32} {l6 : Int64} {x : Int32} {I : MI} {J : MJ} {R : MR} {S : Sh} {Q : SkQ} : Wp 23 728 [.ref l0, .ref l1, .ref l2, .ref l3, .int l4, .int x, .long l6, nov] st I J R S Q = Wp 23 730 [.ref l0, .ref l1, .ref l2, .ref l3, .int l4, .int x, .long l6, nov] (.int x :: st) I J R S Q := o_iload rfl k_L_law_728
theorem k_L_law_730 : decode (sk_by 23) 730 = .ok (.ifCond .ne 14, 3) := by decide +kernel
theorem x_L_law_730 {ls st : List Value} {x : Int32} {I : MI} {J : MJ} {R : MR} {S : Sh} {Q : SkQ} : Wp 23 730 ls (.int x :: st) I J R S Q = if x = 0 then Wp 23 733 ls st I J R S Q else Wp 23 744 ls st I J R S Q := o_if_ne rfl rfl k_L_law_730
theorem k_L_law_733 : decode (sk_by 23) 733 = .ok (.aload_n 3, 1) := by decide +kernel
theorem x_L_law_733 {st : List Value} {l0 : Nat} {l1 : Nat} {l2 : Nat} {l4 : Int32} {l5 : Int32} {l6 : Int64} {x : Nat} {I : MI} {J : MJ} {R : MR} {S : Sh} {Q : SkQ} : Wp 23 733 [.ref l0, .ref l1, .ref l2, .ref x, .int l4, .int l5, .long l6, nov] st I J R S Q = Wp 23 734 [.ref l0, .ref l1, .ref l2, .ref x, .int l4, .int l5, .long l6, nov] (.ref x :: st) I J R S Q := o_aload_n rfl k_L_law_733
theorem k_L_law_734 : decode (sk_by 23) 734 = .ok (.iconst 0, 1) := by decide +kernel
theorem x_L_law_734 {ls st : List Value} {I : MI} {J : MJ} {R : MR} {S : Sh} {Q : SkQ} : Wp 23 734 ls st I J R S Q = Wp 23 735 ls (.int 0 :: st) I J R S Q := o_const (by decide) k_L_law_734
theorem k_L_law_735 : decode (sk_by 23) 735 = .ok (.laload, 1) := by decide +kernel
theorem x_L_law_735 {ls st : List Value} {a : Nat} {i : Int32} {I : MI} {J : MJ} {R : MR} {S : Sh} {Q : SkQ} (ha : S.1 a = 31) (hi : inb i (S.2.1 a) = true) : Wp 23 735 ls (.int i :: .ref a :: st) I J R S Q = Wp 23 736 ls (.long (J a (ix i)) :: st) I J R S Q := o_laload k_L_law_735 ha hi
theorem k_L_law_736 : decode (sk_by 23) 736 = .ok (.lload 6, 2) := by decide +kernel
theorem x_L_law_736 {st : List Value} {l0 : Nat} {l1 : Nat} {l2 : Nat} {l3 : Nat} {l4 : Int32} {l5 : Int32} {x : Int64} {I : MI} {J : MJ} {R : MR} {S : Sh} {Q : SkQ} : Wp 23 736 [.ref l0, .ref l1, .ref l2, .ref l3, .int l4, .int l5, .long x, nov] st I J R S Q = Wp 23 738 [.ref l0, .ref l1, .ref l2, .ref l3, .int l4, .int l5, .long x, nov] (.long x :: st) I J R S Q := o_lload rfl k_L_law_736
theorem k_L_law_738 : decode (sk_by 23) 738 = .ok (.lcmp, 1) := by decide +kernel
theorem x_L_law_738 {ls st : List Value} {x y : Int64} {I : MI} {J : MJ} {R : MR} {S : Sh} {Q : SkQ} : Wp 23 738 ls (.long y :: .long x :: st) I J R S Q = Wp 23 739 ls (.int (lg_cmp x y) :: st) I J R S Q := o_lcmp k_L_law_738
theorem k_L_law_739 : decode (sk_by 23) 739 = .ok (.ifCond .eq 5, 3) := by decide +kernel
theorem x_L_law_739 {ls st : List Value} {x : Int32} {I : MI} {J : MJ} {R : MR} {S : Sh} {Q : SkQ} : Wp 23 739 ls (.int x :: st) I J R S Q = if x = 0 then Wp 23 744 ls st I J R S Q else Wp 23 742 ls st I J R S Q := o_if_eq rfl rfl k_L_law_739
theorem k_L_law_742 : decode (sk_by 23) 742 = .ok (.iconst 0, 1) := by decide +kernel
theorem x_L_law_742 {ls st : List Value} {I : MI} {J : MJ} {R : MR} {S : Sh} {Q : SkQ} : Wp 23 742 ls st I J R S Q = Wp 23 743 ls (.int 0 :: st) I J R S Q := o_const (by decide) k_L_law_742
theorem k_L_law_743 : decode (sk_by 23) 743 = .ok (.ireturn, 1) := by decide +kernel
theorem x_L_law_743 {ls : List Value} {v : Int32} {I : MI} {J : MJ} {R : MR} {S : Sh} {Q : SkQ} (h : rOk (some .boolean) v = true) : Wp 23 743 ls [.int v] I J R S Q = Q 0 (some (.int v)) I J R S := o_ireturn k_L_law_743 (by rw [show sk_rt 23 = some .boolean from rfl]; exact h)
theorem k_L_law_744 : decode (sk_by 23) 744 = .ok (.goto 1444, 3) := by decide +kernel
theorem x_L_law_744 {ls st : List Value} {I : MI} {J : MJ} {R : MR} {S : Sh} {Q : SkQ} : Wp 23 744 ls st I J R S Q = Wp 23 2188 ls st I J R S Q := o_goto rfl rfl k_L_law_744
theorem k_L_law_747 : decode (sk_by 23) 747 = .ok (.aload_n 1, 1) := by decide +kernel
theorem x_L_law_747 {st : List Value} {l0 : Nat} {l2 : Nat} {l3 : Nat} {l4 : Int32} {l5 : Value} {l6 : Value} {x : Nat} {I : MI} {J : MJ} {R : MR} {S : Sh} {Q : SkQ} : Wp 23 747 [.ref l0, .ref x, .ref l2, .ref l3, .int l4, l5, l6, nov] st I J R S Q = Wp 23 748 [.ref l0, .ref x, .ref l2, .ref l3, .int l4, l5, l6, nov] (.ref x :: st) I J R S Q := o_aload_n rfl k_L_law_747
theorem k_L_law_748 : decode (sk_by 23) 748 = .ok (.aload_n 3, 1) := by decide +kernel
theorem x_L_law_748 {st : List Value} {l0 : Nat} {l1 : Nat} {l2 : Nat} {l4 : Int32} {l5 : Value} {l6 : Value} {x : Nat} {I : MI} {J : MJ} {R : MR} {S : Sh} {Q : SkQ} : Wp 23 748 [.ref l0, .ref l1, .ref l2, .ref x, .int l4, l5, l6, nov] st I J R S Q = Wp 23 749 [.ref l0, .ref l1, .ref l2, .ref x, .int l4, l5, l6, nov] (.ref x :: st) I J R S Q := o_aload_n rfl k_L_law_748
theorem k_L_law_749 : decode (sk_by 23) 749 = .ok (.invokestatic 128, 3) := by decide +kernel
theorem x_L_law_749 {ls : List Value} {a0 : Nat} {a1 : Nat} {I : MI} {J : MJ} {R : MR} {S : Sh} {Q : SkQ} : Wp 23 749 ls (.ref a1 :: .ref a0 :: []) I J R S Q = Wp 7 0 [.ref a0, .ref a1, nov] [] I J R S (Ret 23 749 752 7 ls [] Q) := o_call (as := [.ref a0, .ref a1]) (rest := []) (show sk_lkM (sk_cl 23) 128 = some 7 by decide +kernel) (by decide) (by decide) (by (decide +kernel)) (ins := .invokestatic 128) (by (decide +kernel)) k_L_law_749 rfl (show 2 = sk_na 7 by (decide +kernel)) (Nat.le_of_ble_eq_true rfl) (Nat.le_trans (show (argL [.ref a0, .ref a1]).length ≤ 3 from Nat.le_of_ble_eq_true rfl) (by (decide +kernel))) rfl
theorem k_L_law_752 : decode (sk_by 23) 752 = .ok (.istore 5, 2) := by decide +kernel
theorem x_L_law_752 {st : List Value} {l0 : Nat} {l1 : Nat} {l2 : Nat} {l3 : Nat} {l4 : Int32} {l5 : Value} {l6 : Value} {x : Int32} {I : MI} {J : MJ} {R : MR} {S : Sh} {Q : SkQ} : Wp 23 752 [.ref l0, .ref l1, .ref l2, .ref l3, .int l4, l5, l6, nov] (.int x :: st) I J R S Q = Wp 23 754 [.ref l0, .ref l1, .ref l2, .ref l3, .int l4, .int x, l6, nov] st I J R S Q := o_istore (Nat.le_of_ble_eq_true rfl) rfl k_L_law_752
theorem k_L_law_754 : decode (sk_by 23) 754 = .ok (.aload_n 2, 1) := by decide +kernel
theorem x_L_law_754 {st : List Value} {l0 : Nat} {l1 : Nat} {l3 : Nat} {l4 : Int32} {l5 : Int32} {l6 : Value} {x : Nat} {I : MI} {J : MJ} {R : MR} {S : Sh} {Q : SkQ} : Wp 23 754 [.ref l0, .ref l1, .ref x, .ref l3, .int l4, .int l5, l6, nov] st I J R S Q = Wp 23 755 [.ref l0, .ref l1, .ref x, .ref l3, .int l4, .int l5, l6, nov] (.ref x :: st) I J R S Q := o_aload_n rfl k_L_law_754
theorem k_L_law_755 : decode (sk_by 23) 755 = .ok (.invokevirtual 131, 3) := by decide +kernel
theorem x_L_law_755 {ls : List Value} {a0 : Nat} {I : MI} {J : MJ} {R : MR} {S : Sh} {Q : SkQ} (ha : S.1 a0 = 8) : Wp 23 755 ls (.ref a0 :: []) I J R S Q = Wp 215 0 [.ref a0, nov, nov, nov, nov, nov, nov, nov] [] I J R S (Ret 23 755 758 215 ls [] Q) := o_call (as := [.ref a0]) (rest := []) (show sk_lkM (sk_cl 23) 131 = some 215 by decide +kernel) (by decide) (by decide) (by (decide +kernel)) (ins := .invokevirtual 131) (by (decide +kernel)) k_L_law_755 rfl (show 1 = sk_na 215 by (decide +kernel)) (Nat.le_of_ble_eq_true rfl) (Nat.le_trans (show (argL [.ref a0]).length ≤ 8 from Nat.le_of_ble_eq_true rfl) (by (decide +kernel))) (rcv_of (by (decide +kernel)) (by decide) ha)
theorem k_L_law_758 : decode (sk_by 23) 758 = .ok (.lstore 6, 2) := by decide +kernel
theorem x_L_law_758 {st : List Value} {l0 : Nat} {l1 : Nat} {l2 : Nat} {l3 : Nat} {l4 : Int32} {l5 : Int32} {l6 : Value} {x : Int64} {I : MI} {J : MJ} {R : MR} {S : Sh} {Q : SkQ} : Wp 23 758 [.ref l0, .ref l1, .ref l2, .ref l3, .int l4, .int l5, l6, nov] (.long x :: st) I J R S Q = Wp 23 760 [.ref l0, .ref l1, .ref l2, .ref l3, .int l4, .int l5, .long x, nov] st I J R S Q := o_lstore (Nat.le_of_ble_eq_true rfl) rfl k_L_law_758
theorem k_L_law_760 : decode (sk_by 23) 760 = .ok (.aload_n 2, 1) := by decide +kernel
theorem x_L_law_760 {st : List Value} {l0 : Nat} {l1 : Nat} {l3 : Nat} {l4 : Int32} {l5 : Int32} {l6 : Int64} {x : Nat} {I : MI} {J : MJ} {R : MR} {S : Sh} {Q : SkQ} : Wp 23 760 [.ref l0, .ref l1, .ref x, .ref l3, .int l4, .int l5, .long l6, nov] st I J R S Q = Wp 23 761 [.ref l0, .ref l1, .ref x, .ref l3, .int l4, .int l5, .long l6, nov] (.ref x :: st) I J R S Q := o_aload_n rfl k_L_law_760
theorem k_L_law_761 : decode (sk_by 23) 761 = .ok (.invokevirtual 105, 3) := by decide +kernel
theorem x_L_law_761 {ls : List Value} {a0 : Nat} {I : MI} {J : MJ} {R : MR} {S : Sh} {Q : SkQ} (ha : S.1 a0 = 8) : Wp 23 761 ls (.ref a0 :: []) I J R S Q = Wp 174 0 [.ref a0] [] I J R S (Ret 23 761 764 174 ls [] Q) := o_call (as := [.ref a0]) (rest := []) (show sk_lkM (sk_cl 23) 105 = some 174 by decide +kernel) (by decide) (by decide) (by (decide +kernel)) (ins := .invokevirtual 105) (by (decide +kernel)) k_L_law_761 rfl (show 1 = sk_na 174 by (decide +kernel)) (Nat.le_of_ble_eq_true rfl) (Nat.le_trans (show (argL [.ref a0]).length ≤ 1 from Nat.le_of_ble_eq_true rfl) (by (decide +kernel))) (rcv_of (by (decide +kernel)) (by decide) ha)
theorem k_L_law_764 : decode (sk_by 23) 764 = .ok (.iload 5, 2) := by decide +kernel
theorem x_L_law_764 {st : List Value} {l0 : Nat} {l1 : Nat} {l2 : Nat} {l3 : Nat} {l4 : Int32} {l6 : Int64} {x : Int32} {I : MI} {J : MJ} {R : MR} {S : Sh} {Q : SkQ} : Wp 23 764 [.ref l0, .ref l1, .ref l2, .ref l3, .int l4, .int x, .long l6, nov] st I J R S Q = Wp 23 766 [.ref l0, .ref l1, .ref l2, .ref l3, .int l4, .int x, .long l6, nov] (.int x :: st) I J R S Q := o_iload rfl k_L_law_764
theorem k_L_law_766 : decode (sk_by 23) 766 = .ok (.if_icmp .eq 5, 3) := by decide +kernel
theorem x_L_law_766 {ls st : List Value} {x y : Int32} {I : MI} {J : MJ} {R : MR} {S : Sh} {Q : SkQ} : Wp 23 766 ls (.int y :: .int x :: st) I J R S Q = if x = y then Wp 23 771 ls st I J R S Q else Wp 23 769 ls st I J R S Q := o_ic_eq rfl rfl k_L_law_766
theorem k_L_law_769 : decode (sk_by 23) 769 = .ok (.iconst 0, 1) := by decide +kernel
theorem x_L_law_769 {ls st : List Value} {I : MI} {J : MJ} {R : MR} {S : Sh} {Q : SkQ} : Wp 23 769 ls st I J R S Q = Wp 23 770 ls (.int 0 :: st) I J R S Q := o_const (by decide) k_L_law_769
theorem k_L_law_770 : decode (sk_by 23) 770 = .ok (.ireturn, 1) := by decide +kernel
theorem x_L_law_770 {ls : List Value} {v : Int32} {I : MI} {J : MJ} {R : MR} {S : Sh} {Q : SkQ} (h : rOk (some .boolean) v = true) : Wp 23 770 ls [.int v] I J R S Q = Q 0 (some (.int v)) I J R S := o_ireturn k_L_law_770 (by rw [show sk_rt 23 = some .boolean from rfl]; exact h)
theorem k_L_law_771 : decode (sk_by 23) 771 = .ok (.iload 5, 2) := by decide +kernel
theorem x_L_law_771 {st : List Value} {l0 : Nat} {l1 : Nat} {l2 : Nat} {l3 : Nat} {l4 : Int32} {l6 : Int64} {x : Int32} {I : MI} {J : MJ} {R : MR} {S : Sh} {Q : SkQ} : Wp 23 771 [.ref l0, .ref l1, .ref l2, .ref l3, .int l4, .int x, .long l6, nov] st I J R S Q = Wp 23 773 [.ref l0, .ref l1, .ref l2, .ref l3, .int l4, .int x, .long l6, nov] (.int x :: st) I J R S Q := o_iload rfl k_L_law_771
theorem k_L_law_773 : decode (sk_by 23) 773 = .ok (.ifCond .ne 14, 3) := by decide +kernel
theorem x_L_law_773 {ls st : List Value} {x : Int32} {I : MI} {J : MJ} {R : MR} {S : Sh} {Q : SkQ} : Wp 23 773 ls (.int x :: st) I J R S Q = if x = 0 then Wp 23 776 ls st I J R S Q else Wp 23 787 ls st I J R S Q := o_if_ne rfl rfl k_L_law_773
theorem k_L_law_776 : decode (sk_by 23) 776 = .ok (.aload_n 3, 1) := by decide +kernel
theorem x_L_law_776 {st : List Value} {l0 : Nat} {l1 : Nat} {l2 : Nat} {l4 : Int32} {l5 : Int32} {l6 : Int64} {x : Nat} {I : MI} {J : MJ} {R : MR} {S : Sh} {Q : SkQ} : Wp 23 776 [.ref l0, .ref l1, .ref l2, .ref x, .int l4, .int l5, .long l6, nov] st I J R S Q = Wp 23 777 [.ref l0, .ref l1, .ref l2, .ref x, .int l4, .int l5, .long l6, nov] (.ref x :: st) I J R S Q := o_aload_n rfl k_L_law_776
theorem k_L_law_777 : decode (sk_by 23) 777 = .ok (.iconst 0, 1) := by decide +kernel
theorem x_L_law_777 {ls st : List Value} {I : MI} {J : MJ} {R : MR} {S : Sh} {Q : SkQ} : Wp 23 777 ls st I J R S Q = Wp 23 778 ls (.int 0 :: st) I J R S Q := o_const (by decide) k_L_law_777
theorem k_L_law_778 : decode (sk_by 23) 778 = .ok (.laload, 1) := by decide +kernel
theorem x_L_law_778 {ls st : List Value} {a : Nat} {i : Int32} {I : MI} {J : MJ} {R : MR} {S : Sh} {Q : SkQ} (ha : S.1 a = 31) (hi : inb i (S.2.1 a) = true) : Wp 23 778 ls (.int i :: .ref a :: st) I J R S Q = Wp 23 779 ls (.long (J a (ix i)) :: st) I J R S Q := o_laload k_L_law_778 ha hi
theorem k_L_law_779 : decode (sk_by 23) 779 = .ok (.lload 6, 2) := by decide +kernel
theorem x_L_law_779 {st : List Value} {l0 : Nat} {l1 : Nat} {l2 : Nat} {l3 : Nat} {l4 : Int32} {l5 : Int32} {x : Int64} {I : MI} {J : MJ} {R : MR} {S : Sh} {Q : SkQ} : Wp 23 779 [.ref l0, .ref l1, .ref l2, .ref l3, .int l4, .int l5, .long x, nov] st I J R S Q = Wp 23 781 [.ref l0, .ref l1, .ref l2, .ref l3, .int l4, .int l5, .long x, nov] (.long x :: st) I J R S Q := o_lload rfl k_L_law_779
theorem k_L_law_781 : decode (sk_by 23) 781 = .ok (.lcmp, 1) := by decide +kernel
theorem x_L_law_781 {ls st : List Value} {x y : Int64} {I : MI} {J : MJ} {R : MR} {S : Sh} {Q : SkQ} : Wp 23 781 ls (.long y :: .long x :: st) I J R S Q = Wp 23 782 ls (.int (lg_cmp x y) :: st) I J R S Q := o_lcmp k_L_law_781
theorem k_L_law_782 : decode (sk_by 23) 782 = .ok (.ifCond .eq 5, 3) := by decide +kernel
theorem x_L_law_782 {ls st : List Value} {x : Int32} {I : MI} {J : MJ} {R : MR} {S : Sh} {Q : SkQ} : Wp 23 782 ls (.int x :: st) I J R S Q = if x = 0 then Wp 23 787 ls st I J R S Q else Wp 23 785 ls st I J R S Q := o_if_eq rfl rfl k_L_law_782
theorem k_L_law_785 : decode (sk_by 23) 785 = .ok (.iconst 0, 1) := by decide +kernel
theorem x_L_law_785 {ls st : List Value} {I : MI} {J : MJ} {R : MR} {S : Sh} {Q : SkQ} : Wp 23 785 ls st I J R S Q = Wp 23 786 ls (.int 0 :: st) I J R S Q := o_const (by decide) k_L_law_785
theorem k_L_law_786 : decode (sk_by 23) 786 = .ok (.ireturn, 1) := by decide +kernel
theorem x_L_law_786 {ls : List Value} {v : Int32} {I : MI} {J : MJ} {R : MR} {S : Sh} {Q : SkQ} (h : rOk (some .boolean) v = true) : Wp 23 786 ls [.int v] I J R S Q = Q 0 (some (.int v)) I J R S := o_ireturn k_L_law_786 (by rw [show sk_rt 23 = some .boolean from rfl]; exact h)
theorem k_L_law_787 : decode (sk_by 23) 787 = .ok (.goto 1401, 3) := by decide +kernel
theorem x_L_law_787 {ls st : List Value} {I : MI} {J : MJ} {R : MR} {S : Sh} {Q : SkQ} : Wp 23 787 ls st I J R S Q = Wp 23 2188 ls st I J R S Q := o_goto rfl rfl k_L_law_787
theorem k_L_law_790 : decode (sk_by 23) 790 = .ok (.aload_n 1, 1) := by decide +kernel
theorem x_L_law_790 {st : List Value} {l0 : Nat} {l2 : Nat} {l3 : Nat} {l4 : Int32} {l5 : Value} {l6 : Value} {x : Nat} {I : MI} {J : MJ} {R : MR} {S : Sh} {Q : SkQ} : Wp 23 790 [.ref l0, .ref x, .ref l2, .ref l3, .int l4, l5, l6, nov] st I J R S Q = Wp 23 791 [.ref l0, .ref x, .ref l2, .ref l3, .int l4, l5, l6, nov] (.ref x :: st) I J R S Q := o_aload_n rfl k_L_law_790
theorem k_L_law_791 : decode (sk_by 23) 791 = .ok (.aload_n 0, 1) := by decide +kernel
theorem x_L_law_791 {st : List Value} {l1 : Nat} {l2 : Nat} {l3 : Nat} {l4 : Int32} {l5 : Value} {l6 : Value} {x : Nat} {I : MI} {J : MJ} {R : MR} {S : Sh} {Q : SkQ} : Wp 23 791 [.ref x, .ref l1, .ref l2, .ref l3, .int l4, l5, l6, nov] st I J R S Q = Wp 23 792 [.ref x, .ref l1, .ref l2, .ref l3, .int l4, l5, l6, nov] (.ref x :: st) I J R S Q := o_aload_n rfl k_L_law_791
theorem k_L_law_792 : decode (sk_by 23) 792 = .ok (.iload 4, 2) := by decide +kernel
theorem x_L_law_792 {st : List Value} {l0 : Nat} {l1 : Nat} {l2 : Nat} {l3 : Nat} {l5 : Value} {l6 : Value} {x : Int32} {I : MI} {J : MJ} {R : MR} {S : Sh} {Q : SkQ} : Wp 23 792 [.ref l0, .ref l1, .ref l2, .ref l3, .int x, l5, l6, nov] st I J R S Q = Wp 23 794 [.ref l0, .ref l1, .ref l2, .ref l3, .int x, l5, l6, nov] (.int x :: st) I J R S Q := o_iload rfl k_L_law_792
theorem k_L_law_794 : decode (sk_by 23) 794 = .ok (.iconst 1, 1) := by decide +kernel
theorem x_L_law_794 {ls st : List Value} {I : MI} {J : MJ} {R : MR} {S : Sh} {Q : SkQ} : Wp 23 794 ls st I J R S Q = Wp 23 795 ls (.int 1 :: st) I J R S Q := o_const (by decide) k_L_law_794
theorem k_L_law_795 : decode (sk_by 23) 795 = .ok (.iadd, 1) := by decide +kernel
theorem x_L_law_795 {ls st : List Value} {x y : Int32} {I : MI} {J : MJ} {R : MR} {S : Sh} {Q : SkQ} : Wp 23 795 ls (.int y :: .int x :: st) I J R S Q = Wp 23 796 ls (.int (x + y) :: st) I J R S Q := o_iadd k_L_law_795
theorem k_L_law_796 : decode (sk_by 23) 796 = .ok (.iaload, 1) := by decide +kernel
theorem x_L_law_796 {ls st : List Value} {a : Nat} {i : Int32} {I : MI} {J : MJ} {R : MR} {S : Sh} {Q : SkQ} (ha : S.1 a = 30) (hi : inb i (S.2.1 a) = true) : Wp 23 796 ls (.int i :: .ref a :: st) I J R S Q = Wp 23 797 ls (.int (I a (ix i)) :: st) I J R S Q := o_iaload k_L_law_796 ha hi
theorem x_L_law_796C {ls st : List Value} {a : Nat} {i : Int32} {I : MI} {J : MJ} {R : MR} {S : Sh} {Q : SkQ} (ha : S.1 a = 40) (hi : inb i (S.2.1 a) = true) : Wp 23 796 ls (.int i :: .ref a :: st) I J R S Q = Wp 23 797 ls (.int (I a (ix i)) :: st) I J R S Q := o_ialoadC k_L_law_796 ha hi
theorem k_L_law_797 : decode (sk_by 23) 797 = .ok (.i2l, 1) := by decide +kernel
theorem x_L_law_797 {ls st : List Value} {x : Int32} {I : MI} {J : MJ} {R : MR} {S : Sh} {Q : SkQ} : Wp 23 797 ls (.int x :: st) I J R S Q = Wp 23 798 ls (.long x.toInt64 :: st) I J R S Q := o_i2l k_L_law_797
theorem k_L_law_798 : decode (sk_by 23) 798 = .ok (.bipush 32, 2) := by decide +kernel
theorem x_L_law_798 {ls st : List Value} {I : MI} {J : MJ} {R : MR} {S : Sh} {Q : SkQ} : Wp 23 798 ls st I J R S Q = Wp 23 800 ls (.int 32 :: st) I J R S Q := o_bi (by decide) k_L_law_798
theorem k_L_law_800 : decode (sk_by 23) 800 = .ok (.lshl, 1) := by decide +kernel
theorem x_L_law_800 {ls st : List Value} {x : Int64} {y : Int32} {I : MI} {J : MJ} {R : MR} {S : Sh} {Q : SkQ} : Wp 23 800 ls (.int y :: .long x :: st) I J R S Q = Wp 23 801 ls (.long (x <<< (y.toInt64 &&& 63)) :: st) I J R S Q := o_lshl k_L_law_800
theorem k_L_law_801 : decode (sk_by 23) 801 = .ok (.aload_n 0, 1) := by decide +kernel
theorem x_L_law_801 {st : List Value} {l1 : Nat} {l2 : Nat} {l3 : Nat} {l4 : Int32} {l5 : Value} {l6 : Value} {x : Nat} {I : MI} {J : MJ} {R : MR} {S : Sh} {Q : SkQ} : Wp 23 801 [.ref x, .ref l1, .ref l2, .ref l3, .int l4, l5, l6, nov] st I J R S Q = Wp 23 802 [.ref x, .ref l1, .ref l2, .ref l3, .int l4, l5, l6, nov] (.ref x :: st) I J R S Q := o_aload_n rfl k_L_law_801
theorem k_L_law_802 : decode (sk_by 23) 802 = .ok (.iload 4, 2) := by decide +kernel
theorem x_L_law_802 {st : List Value} {l0 : Nat} {l1 : Nat} {l2 : Nat} {l3 : Nat} {l5 : Value} {l6 : Value} {x : Int32} {I : MI} {J : MJ} {R : MR} {S : Sh} {Q : SkQ} : Wp 23 802 [.ref l0, .ref l1, .ref l2, .ref l3, .int x, l5, l6, nov] st I J R S Q = Wp 23 804 [.ref l0, .ref l1, .ref l2, .ref l3, .int x, l5, l6, nov] (.int x :: st) I J R S Q := o_iload rfl k_L_law_802
theorem k_L_law_804 : decode (sk_by 23) 804 = .ok (.iconst 2, 1) := by decide +kernel
theorem x_L_law_804 {ls st : List Value} {I : MI} {J : MJ} {R : MR} {S : Sh} {Q : SkQ} : Wp 23 804 ls st I J R S Q = Wp 23 805 ls (.int 2 :: st) I J R S Q := o_const (by decide) k_L_law_804
theorem k_L_law_805 : decode (sk_by 23) 805 = .ok (.iadd, 1) := by decide +kernel
theorem x_L_law_805 {ls st : List Value} {x y : Int32} {I : MI} {J : MJ} {R : MR} {S : Sh} {Q : SkQ} : Wp 23 805 ls (.int y :: .int x :: st) I J R S Q = Wp 23 806 ls (.int (x + y) :: st) I J R S Q := o_iadd k_L_law_805
theorem k_L_law_806 : decode (sk_by 23) 806 = .ok (.iaload, 1) := by decide +kernel
theorem x_L_law_806 {ls st : List Value} {a : Nat} {i : Int32} {I : MI} {J : MJ} {R : MR} {S : Sh} {Q : SkQ} (ha : S.1 a = 30) (hi : inb i (S.2.1 a) = true) : Wp 23 806 ls (.int i :: .ref a :: st) I J R S Q = Wp 23 807 ls (.int (I a (ix i)) :: st) I J R S Q := o_iaload k_L_law_806 ha hi
theorem x_L_law_806C {ls st : List Value} {a : Nat} {i : Int32} {I : MI} {J : MJ} {R : MR} {S : Sh} {Q : SkQ} (ha : S.1 a = 40) (hi : inb i (S.2.1 a) = true) : Wp 23 806 ls (.int i :: .ref a :: st) I J R S Q = Wp 23 807 ls (.int (I a (ix i)) :: st) I J R S Q := o_ialoadC k_L_law_806 ha hi
theorem k_L_law_807 : decode (sk_by 23) 807 = .ok (.i2l, 1) := by decide +kernel
theorem x_L_law_807 {ls st : List Value} {x : Int32} {I : MI} {J : MJ} {R : MR} {S : Sh} {Q : SkQ} : Wp 23 807 ls (.int x :: st) I J R S Q = Wp 23 808 ls (.long x.toInt64 :: st) I J R S Q := o_i2l k_L_law_807
theorem k_L_law_808 : decode (sk_by 23) 808 = .ok (.ldc2_w 97, 3) := by decide +kernel
theorem x_L_law_808 {ls st : List Value} {I : MI} {J : MJ} {R : MR} {S : Sh} {Q : SkQ} : Wp 23 808 ls st I J R S Q = Wp 23 811 ls (.long 4294967295 :: st) I J R S Q := o_ldc2_w (show sk_lkK (sk_cl 23) 97 = some 4294967295 by decide +kernel) k_L_law_808
theorem k_L_law_811 : decode (sk_by 23) 811 = .ok (.land, 1) := by decide +kernel
theorem x_L_law_811 {ls st : List Value} {x y : Int64} {I : MI} {J : MJ} {R : MR} {S : Sh} {Q : SkQ} : Wp 23 811 ls (.long y :: .long x :: st) I J R S Q = Wp 23 812 ls (.long (x &&& y) :: st) I J R S Q := o_land k_L_law_811
theorem k_L_law_812 : decode (sk_by 23) 812 = .ok (.lor, 1) := by decide +kernel
theorem x_L_law_812 {ls st : List Value} {x y : Int64} {I : MI} {J : MJ} {R : MR} {S : Sh} {Q : SkQ} : Wp 23 812 ls (.long y :: .long x :: st) I J R S Q = Wp 23 813 ls (.long (x ||| y) :: st) I J R S Q := o_lor k_L_law_812
theorem k_L_law_813 : decode (sk_by 23) 813 = .ok (.aload_n 0, 1) := by decide +kernel
theorem x_L_law_813 {st : List Value} {l1 : Nat} {l2 : Nat} {l3 : Nat} {l4 : Int32} {l5 : Value} {l6 : Value} {x : Nat} {I : MI} {J : MJ} {R : MR} {S : Sh} {Q : SkQ} : Wp 23 813 [.ref x, .ref l1, .ref l2, .ref l3, .int l4, l5, l6, nov] st I J R S Q = Wp 23 814 [.ref x, .ref l1, .ref l2, .ref l3, .int l4, l5, l6, nov] (.ref x :: st) I J R S Q := o_aload_n rfl k_L_law_813
theorem k_L_law_814 : decode (sk_by 23) 814 = .ok (.iload 4, 2) := by decide +kernel
theorem x_L_law_814 {st : List Value} {l0 : Nat} {l1 : Nat} {l2 : Nat} {l3 : Nat} {l5 : Value} {l6 : Value} {x : Int32} {I : MI} {J : MJ} {R : MR} {S : Sh} {Q : SkQ} : Wp 23 814 [.ref l0, .ref l1, .ref l2, .ref l3, .int x, l5, l6, nov] st I J R S Q = Wp 23 816 [.ref l0, .ref l1, .ref l2, .ref l3, .int x, l5, l6, nov] (.int x :: st) I J R S Q := o_iload rfl k_L_law_814
theorem k_L_law_816 : decode (sk_by 23) 816 = .ok (.iconst 3, 1) := by decide +kernel
theorem x_L_law_816 {ls st : List Value} {I : MI} {J : MJ} {R : MR} {S : Sh} {Q : SkQ} : Wp 23 816 ls st I J R S Q = Wp 23 817 ls (.int 3 :: st) I J R S Q := o_const (by decide) k_L_law_816
theorem k_L_law_817 : decode (sk_by 23) 817 = .ok (.iadd, 1) := by decide +kernel
theorem x_L_law_817 {ls st : List Value} {x y : Int32} {I : MI} {J : MJ} {R : MR} {S : Sh} {Q : SkQ} : Wp 23 817 ls (.int y :: .int x :: st) I J R S Q = Wp 23 818 ls (.int (x + y) :: st) I J R S Q := o_iadd k_L_law_817
theorem k_L_law_818 : decode (sk_by 23) 818 = .ok (.iaload, 1) := by decide +kernel
theorem x_L_law_818 {ls st : List Value} {a : Nat} {i : Int32} {I : MI} {J : MJ} {R : MR} {S : Sh} {Q : SkQ} (ha : S.1 a = 30) (hi : inb i (S.2.1 a) = true) : Wp 23 818 ls (.int i :: .ref a :: st) I J R S Q = Wp 23 819 ls (.int (I a (ix i)) :: st) I J R S Q := o_iaload k_L_law_818 ha hi
theorem x_L_law_818C {ls st : List Value} {a : Nat} {i : Int32} {I : MI} {J : MJ} {R : MR} {S : Sh} {Q : SkQ} (ha : S.1 a = 40) (hi : inb i (S.2.1 a) = true) : Wp 23 818 ls (.int i :: .ref a :: st) I J R S Q = Wp 23 819 ls (.int (I a (ix i)) :: st) I J R S Q := o_ialoadC k_L_law_818 ha hi
theorem k_L_law_819 : decode (sk_by 23) 819 = .ok (.i2l, 1) := by decide +kernel
theorem x_L_law_819 {ls st : List Value} {x : Int32} {I : MI} {J : MJ} {R : MR} {S : Sh} {Q : SkQ} : Wp 23 819 ls (.int x :: st) I J R S Q = Wp 23 820 ls (.long x.toInt64 :: st) I J R S Q := o_i2l k_L_law_819
theorem k_L_law_820 : decode (sk_by 23) 820 = .ok (.bipush 32, 2) := by decide +kernel
theorem x_L_law_820 {ls st : List Value} {I : MI} {J : MJ} {R : MR} {S : Sh} {Q : SkQ} : Wp 23 820 ls st I J R S Q = Wp 23 822 ls (.int 32 :: st) I J R S Q := o_bi (by decide) k_L_law_820
theorem k_L_law_822 : decode (sk_by 23) 822 = .ok (.lshl, 1) := by decide +kernel
theorem x_L_law_822 {ls st : List Value} {x : Int64} {y : Int32} {I : MI} {J : MJ} {R : MR} {S : Sh} {Q : SkQ} : Wp 23 822 ls (.int y :: .long x :: st) I J R S Q = Wp 23 823 ls (.long (x <<< (y.toInt64 &&& 63)) :: st) I J R S Q := o_lshl k_L_law_822
theorem k_L_law_823 : decode (sk_by 23) 823 = .ok (.aload_n 0, 1) := by decide +kernel
theorem x_L_law_823 {st : List Value} {l1 : Nat} {l2 : Nat} {l3 : Nat} {l4 : Int32} {l5 : Value} {l6 : Value} {x : Nat} {I : MI} {J : MJ} {R : MR} {S : Sh} {Q : SkQ} : Wp 23 823 [.ref x, .ref l1, .ref l2, .ref l3, .int l4, l5, l6, nov] st I J R S Q = Wp 23 824 [.ref x, .ref l1, .ref l2, .ref l3, .int l4, l5, l6, nov] (.ref x :: st) I J R S Q := o_aload_n rfl k_L_law_823
theorem k_L_law_824 : decode (sk_by 23) 824 = .ok (.iload 4, 2) := by decide +kernel
theorem x_L_law_824 {st : List Value} {l0 : Nat} {l1 : Nat} {l2 : Nat} {l3 : Nat} {l5 : Value} {l6 : Value} {x : Int32} {I : MI} {J : MJ} {R : MR} {S : Sh} {Q : SkQ} : Wp 23 824 [.ref l0, .ref l1, .ref l2, .ref l3, .int x, l5, l6, nov] st I J R S Q = Wp 23 826 [.ref l0, .ref l1, .ref l2, .ref l3, .int x, l5, l6, nov] (.int x :: st) I J R S Q := o_iload rfl k_L_law_824
theorem k_L_law_826 : decode (sk_by 23) 826 = .ok (.iconst 4, 1) := by decide +kernel
theorem x_L_law_826 {ls st : List Value} {I : MI} {J : MJ} {R : MR} {S : Sh} {Q : SkQ} : Wp 23 826 ls st I J R S Q = Wp 23 827 ls (.int 4 :: st) I J R S Q := o_const (by decide) k_L_law_826
theorem k_L_law_827 : decode (sk_by 23) 827 = .ok (.iadd, 1) := by decide +kernel
theorem x_L_law_827 {ls st : List Value} {x y : Int32} {I : MI} {J : MJ} {R : MR} {S : Sh} {Q : SkQ} : Wp 23 827 ls (.int y :: .int x :: st) I J R S Q = Wp 23 828 ls (.int (x + y) :: st) I J R S Q := o_iadd k_L_law_827
theorem k_L_law_828 : decode (sk_by 23) 828 = .ok (.iaload, 1) := by decide +kernel
theorem x_L_law_828 {ls st : List Value} {a : Nat} {i : Int32} {I : MI} {J : MJ} {R : MR} {S : Sh} {Q : SkQ} (ha : S.1 a = 30) (hi : inb i (S.2.1 a) = true) : Wp 23 828 ls (.int i :: .ref a :: st) I J R S Q = Wp 23 829 ls (.int (I a (ix i)) :: st) I J R S Q := o_iaload k_L_law_828 ha hi
theorem x_L_law_828C {ls st : List Value} {a : Nat} {i : Int32} {I : MI} {J : MJ} {R : MR} {S : Sh} {Q : SkQ} (ha : S.1 a = 40) (hi : inb i (S.2.1 a) = true) : Wp 23 828 ls (.int i :: .ref a :: st) I J R S Q = Wp 23 829 ls (.int (I a (ix i)) :: st) I J R S Q := o_ialoadC k_L_law_828 ha hi
theorem k_L_law_829 : decode (sk_by 23) 829 = .ok (.i2l, 1) := by decide +kernel
theorem x_L_law_829 {ls st : List Value} {x : Int32} {I : MI} {J : MJ} {R : MR} {S : Sh} {Q : SkQ} : Wp 23 829 ls (.int x :: st) I J R S Q = Wp 23 830 ls (.long x.toInt64 :: st) I J R S Q := o_i2l k_L_law_829
theorem k_L_law_830 : decode (sk_by 23) 830 = .ok (.ldc2_w 97, 3) := by decide +kernel
theorem x_L_law_830 {ls st : List Value} {I : MI} {J : MJ} {R : MR} {S : Sh} {Q : SkQ} : Wp 23 830 ls st I J R S Q = Wp 23 833 ls (.long 4294967295 :: st) I J R S Q := o_ldc2_w (show sk_lkK (sk_cl 23) 97 = some 4294967295 by decide +kernel) k_L_law_830
theorem k_L_law_833 : decode (sk_by 23) 833 = .ok (.land, 1) := by decide +kernel
theorem x_L_law_833 {ls st : List Value} {x y : Int64} {I : MI} {J : MJ} {R : MR} {S : Sh} {Q : SkQ} : Wp 23 833 ls (.long y :: .long x :: st) I J R S Q = Wp 23 834 ls (.long (x &&& y) :: st) I J R S Q := o_land k_L_law_833
theorem k_L_law_834 : decode (sk_by 23) 834 = .ok (.lor, 1) := by decide +kernel
theorem x_L_law_834 {ls st : List Value} {x y : Int64} {I : MI} {J : MJ} {R : MR} {S : Sh} {Q : SkQ} : Wp 23 834 ls (.long y :: .long x :: st) I J R S Q = Wp 23 835 ls (.long (x ||| y) :: st) I J R S Q := o_lor k_L_law_834
theorem k_L_law_835 : decode (sk_by 23) 835 = .ok (.aload_n 3, 1) := by decide +kernel
theorem x_L_law_835 {st : List Value} {l0 : Nat} {l1 : Nat} {l2 : Nat} {l4 : Int32} {l5 : Value} {l6 : Value} {x : Nat} {I : MI} {J : MJ} {R : MR} {S : Sh} {Q : SkQ} : Wp 23 835 [.ref l0, .ref l1, .ref l2, .ref x, .int l4, l5, l6, nov] st I J R S Q = Wp 23 836 [.ref l0, .ref l1, .ref l2, .ref x, .int l4, l5, l6, nov] (.ref x :: st) I J R S Q := o_aload_n rfl k_L_law_835
theorem k_L_law_836 : decode (sk_by 23) 836 = .ok (.invokestatic 132, 3) := by decide +kernel
theorem x_L_law_836 {ls : List Value} {a0 : Nat} {a1 : Int64} {a2 : Int64} {a3 : Nat} {I : MI} {J : MJ} {R : MR} {S : Sh} {Q : SkQ} : Wp 23 836 ls (.ref a3 :: .long a2 :: .long a1 :: .ref a0 :: []) I J R S Q = Wp 8 0 [.ref a0, .long a1, nov, .long a2, nov, .ref a3, nov] [] I J R S (Ret 23 836 839 8 ls [] Q) := o_call (as := [.ref a0, .long a1, .long a2, .ref a3]) (rest := []) (show sk_lkM (sk_cl 23) 132 = some 8 by decide +kernel) (by decide) (by decide) (by (decide +kernel)) (ins := .invokestatic 132) (by (decide +kernel)) k_L_law_836 rfl (show 4 = sk_na 8 by (decide +kernel)) (Nat.le_of_ble_eq_true rfl) (Nat.le_trans (show (argL [.ref a0, .long a1, .long a2, .ref a3]).length ≤ 7 from Nat.le_of_ble_eq_true rfl) (by (decide +kernel))) rfl
theorem k_L_law_839 : decode (sk_by 23) 839 = .ok (.istore 5, 2) := by decide +kernel
theorem x_L_law_839 {st : List Value} {l0 : Nat} {l1 : Nat} {l2 : Nat} {l3 : Nat} {l4 : Int32} {l5 : Value} {l6 : Value} {x : Int32} {I : MI} {J : MJ} {R : MR} {S : Sh} {Q : SkQ} : Wp 23 839 [.ref l0, .ref l1, .ref l2, .ref l3, .int l4, l5, l6, nov] (.int x :: st) I J R S Q = Wp 23 841 [.ref l0, .ref l1, .ref l2, .ref l3, .int l4, .int x, l6, nov] st I J R S Q := o_istore (Nat.le_of_ble_eq_true rfl) rfl k_L_law_839
theorem k_L_law_841 : decode (sk_by 23) 841 = .ok (.aload_n 2, 1) := by decide +kernel
theorem x_L_law_841 {st : List Value} {l0 : Nat} {l1 : Nat} {l3 : Nat} {l4 : Int32} {l5 : Int32} {l6 : Value} {x : Nat} {I : MI} {J : MJ} {R : MR} {S : Sh} {Q : SkQ} : Wp 23 841 [.ref l0, .ref l1, .ref x, .ref l3, .int l4, .int l5, l6, nov] st I J R S Q = Wp 23 842 [.ref l0, .ref l1, .ref x, .ref l3, .int l4, .int l5, l6, nov] (.ref x :: st) I J R S Q := o_aload_n rfl k_L_law_841
theorem k_L_law_842 : decode (sk_by 23) 842 = .ok (.aload_n 0, 1) := by decide +kernel
theorem x_L_law_842 {st : List Value} {l1 : Nat} {l2 : Nat} {l3 : Nat} {l4 : Int32} {l5 : Int32} {l6 : Value} {x : Nat} {I : MI} {J : MJ} {R : MR} {S : Sh} {Q : SkQ} : Wp 23 842 [.ref x, .ref l1, .ref l2, .ref l3, .int l4, .int l5, l6, nov] st I J R S Q = Wp 23 843 [.ref x, .ref l1, .ref l2, .ref l3, .int l4, .int l5, l6, nov] (.ref x :: st) I J R S Q := o_aload_n rfl k_L_law_842
theorem k_L_law_843 : decode (sk_by 23) 843 = .ok (.iload 4, 2) := by decide +kernel
theorem x_L_law_843 {st : List Value} {l0 : Nat} {l1 : Nat} {l2 : Nat} {l3 : Nat} {l5 : Int32} {l6 : Value} {x : Int32} {I : MI} {J : MJ} {R : MR} {S : Sh} {Q : SkQ} : Wp 23 843 [.ref l0, .ref l1, .ref l2, .ref l3, .int x, .int l5, l6, nov] st I J R S Q = Wp 23 845 [.ref l0, .ref l1, .ref l2, .ref l3, .int x, .int l5, l6, nov] (.int x :: st) I J R S Q := o_iload rfl k_L_law_843
theorem k_L_law_845 : decode (sk_by 23) 845 = .ok (.iconst 1, 1) := by decide +kernel
theorem x_L_law_845 {ls st : List Value} {I : MI} {J : MJ} {R : MR} {S : Sh} {Q : SkQ} : Wp 23 845 ls st I J R S Q = Wp 23 846 ls (.int 1 :: st) I J R S Q := o_const (by decide) k_L_law_845
theorem k_L_law_846 : decode (sk_by 23) 846 = .ok (.iadd, 1) := by decide +kernel
theorem x_L_law_846 {ls st : List Value} {x y : Int32} {I : MI} {J : MJ} {R : MR} {S : Sh} {Q : SkQ} : Wp 23 846 ls (.int y :: .int x :: st) I J R S Q = Wp 23 847 ls (.int (x + y) :: st) I J R S Q := o_iadd k_L_law_846
theorem k_L_law_847 : decode (sk_by 23) 847 = .ok (.iaload, 1) := by decide +kernel
theorem x_L_law_847 {ls st : List Value} {a : Nat} {i : Int32} {I : MI} {J : MJ} {R : MR} {S : Sh} {Q : SkQ} (ha : S.1 a = 30) (hi : inb i (S.2.1 a) = true) : Wp 23 847 ls (.int i :: .ref a :: st) I J R S Q = Wp 23 848 ls (.int (I a (ix i)) :: st) I J R S Q := o_iaload k_L_law_847 ha hi
theorem x_L_law_847C {ls st : List Value} {a : Nat} {i : Int32} {I : MI} {J : MJ} {R : MR} {S : Sh} {Q : SkQ} (ha : S.1 a = 40) (hi : inb i (S.2.1 a) = true) : Wp 23 847 ls (.int i :: .ref a :: st) I J R S Q = Wp 23 848 ls (.int (I a (ix i)) :: st) I J R S Q := o_ialoadC k_L_law_847 ha hi
theorem k_L_law_848 : decode (sk_by 23) 848 = .ok (.i2l, 1) := by decide +kernel
theorem x_L_law_848 {ls st : List Value} {x : Int32} {I : MI} {J : MJ} {R : MR} {S : Sh} {Q : SkQ} : Wp 23 848 ls (.int x :: st) I J R S Q = Wp 23 849 ls (.long x.toInt64 :: st) I J R S Q := o_i2l k_L_law_848
theorem k_L_law_849 : decode (sk_by 23) 849 = .ok (.bipush 32, 2) := by decide +kernel
theorem x_L_law_849 {ls st : List Value} {I : MI} {J : MJ} {R : MR} {S : Sh} {Q : SkQ} : Wp 23 849 ls st I J R S Q = Wp 23 851 ls (.int 32 :: st) I J R S Q := o_bi (by decide) k_L_law_849
theorem k_L_law_851 : decode (sk_by 23) 851 = .ok (.lshl, 1) := by decide +kernel
theorem x_L_law_851 {ls st : List Value} {x : Int64} {y : Int32} {I : MI} {J : MJ} {R : MR} {S : Sh} {Q : SkQ} : Wp 23 851 ls (.int y :: .long x :: st) I J R S Q = Wp 23 852 ls (.long (x <<< (y.toInt64 &&& 63)) :: st) I J R S Q := o_lshl k_L_law_851
theorem k_L_law_852 : decode (sk_by 23) 852 = .ok (.aload_n 0, 1) := by decide +kernel
theorem x_L_law_852 {st : List Value} {l1 : Nat} {l2 : Nat} {l3 : Nat} {l4 : Int32} {l5 : Int32} {l6 : Value} {x : Nat} {I : MI} {J : MJ} {R : MR} {S : Sh} {Q : SkQ} : Wp 23 852 [.ref x, .ref l1, .ref l2, .ref l3, .int l4, .int l5, l6, nov] st I J R S Q = Wp 23 853 [.ref x, .ref l1, .ref l2, .ref l3, .int l4, .int l5, l6, nov] (.ref x :: st) I J R S Q := o_aload_n rfl k_L_law_852
theorem k_L_law_853 : decode (sk_by 23) 853 = .ok (.iload 4, 2) := by decide +kernel
theorem x_L_law_853 {st : List Value} {l0 : Nat} {l1 : Nat} {l2 : Nat} {l3 : Nat} {l5 : Int32} {l6 : Value} {x : Int32} {I : MI} {J : MJ} {R : MR} {S : Sh} {Q : SkQ} : Wp 23 853 [.ref l0, .ref l1, .ref l2, .ref l3, .int x, .int l5, l6, nov] st I J R S Q = Wp 23 855 [.ref l0, .ref l1, .ref l2, .ref l3, .int x, .int l5, l6, nov] (.int x :: st) I J R S Q := o_iload rfl k_L_law_853
theorem k_L_law_855 : decode (sk_by 23) 855 = .ok (.iconst 2, 1) := by decide +kernel
theorem x_L_law_855 {ls st : List Value} {I : MI} {J : MJ} {R : MR} {S : Sh} {Q : SkQ} : Wp 23 855 ls st I J R S Q = Wp 23 856 ls (.int 2 :: st) I J R S Q := o_const (by decide) k_L_law_855
theorem k_L_law_856 : decode (sk_by 23) 856 = .ok (.iadd, 1) := by decide +kernel
theorem x_L_law_856 {ls st : List Value} {x y : Int32} {I : MI} {J : MJ} {R : MR} {S : Sh} {Q : SkQ} : Wp 23 856 ls (.int y :: .int x :: st) I J R S Q = Wp 23 857 ls (.int (x + y) :: st) I J R S Q := o_iadd k_L_law_856
theorem k_L_law_857 : decode (sk_by 23) 857 = .ok (.iaload, 1) := by decide +kernel
theorem x_L_law_857 {ls st : List Value} {a : Nat} {i : Int32} {I : MI} {J : MJ} {R : MR} {S : Sh} {Q : SkQ} (ha : S.1 a = 30) (hi : inb i (S.2.1 a) = true) : Wp 23 857 ls (.int i :: .ref a :: st) I J R S Q = Wp 23 858 ls (.int (I a (ix i)) :: st) I J R S Q := o_iaload k_L_law_857 ha hi
theorem x_L_law_857C {ls st : List Value} {a : Nat} {i : Int32} {I : MI} {J : MJ} {R : MR} {S : Sh} {Q : SkQ} (ha : S.1 a = 40) (hi : inb i (S.2.1 a) = true) : Wp 23 857 ls (.int i :: .ref a :: st) I J R S Q = Wp 23 858 ls (.int (I a (ix i)) :: st) I J R S Q := o_ialoadC k_L_law_857 ha hi
theorem k_L_law_858 : decode (sk_by 23) 858 = .ok (.i2l, 1) := by decide +kernel
theorem x_L_law_858 {ls st : List Value} {x : Int32} {I : MI} {J : MJ} {R : MR} {S : Sh} {Q : SkQ} : Wp 23 858 ls (.int x :: st) I J R S Q = Wp 23 859 ls (.long x.toInt64 :: st) I J R S Q := o_i2l k_L_law_858
theorem k_L_law_859 : decode (sk_by 23) 859 = .ok (.ldc2_w 97, 3) := by decide +kernel
theorem x_L_law_859 {ls st : List Value} {I : MI} {J : MJ} {R : MR} {S : Sh} {Q : SkQ} : Wp 23 859 ls st I J R S Q = Wp 23 862 ls (.long 4294967295 :: st) I J R S Q := o_ldc2_w (show sk_lkK (sk_cl 23) 97 = some 4294967295 by decide +kernel) k_L_law_859
theorem k_L_law_862 : decode (sk_by 23) 862 = .ok (.land, 1) := by decide +kernel
theorem x_L_law_862 {ls st : List Value} {x y : Int64} {I : MI} {J : MJ} {R : MR} {S : Sh} {Q : SkQ} : Wp 23 862 ls (.long y :: .long x :: st) I J R S Q = Wp 23 863 ls (.long (x &&& y) :: st) I J R S Q := o_land k_L_law_862
theorem k_L_law_863 : decode (sk_by 23) 863 = .ok (.lor, 1) := by decide +kernel
theorem x_L_law_863 {ls st : List Value} {x y : Int64} {I : MI} {J : MJ} {R : MR} {S : Sh} {Q : SkQ} : Wp 23 863 ls (.long y :: .long x :: st) I J R S Q = Wp 23 864 ls (.long (x ||| y) :: st) I J R S Q := o_lor k_L_law_863
theorem k_L_law_864 : decode (sk_by 23) 864 = .ok (.aload_n 0, 1) := by decide +kernel
theorem x_L_law_864 {st : List Value} {l1 : Nat} {l2 : Nat} {l3 : Nat} {l4 : Int32} {l5 : Int32} {l6 : Value} {x : Nat} {I : MI} {J : MJ} {R : MR} {S : Sh} {Q : SkQ} : Wp 23 864 [.ref x, .ref l1, .ref l2, .ref l3, .int l4, .int l5, l6, nov] st I J R S Q = Wp 23 865 [.ref x, .ref l1, .ref l2, .ref l3, .int l4, .int l5, l6, nov] (.ref x :: st) I J R S Q := o_aload_n rfl k_L_law_864
theorem k_L_law_865 : decode (sk_by 23) 865 = .ok (.iload 4, 2) := by decide +kernel
theorem x_L_law_865 {st : List Value} {l0 : Nat} {l1 : Nat} {l2 : Nat} {l3 : Nat} {l5 : Int32} {l6 : Value} {x : Int32} {I : MI} {J : MJ} {R : MR} {S : Sh} {Q : SkQ} : Wp 23 865 [.ref l0, .ref l1, .ref l2, .ref l3, .int x, .int l5, l6, nov] st I J R S Q = Wp 23 867 [.ref l0, .ref l1, .ref l2, .ref l3, .int x, .int l5, l6, nov] (.int x :: st) I J R S Q := o_iload rfl k_L_law_865
theorem k_L_law_867 : decode (sk_by 23) 867 = .ok (.iconst 3, 1) := by decide +kernel
theorem x_L_law_867 {ls st : List Value} {I : MI} {J : MJ} {R : MR} {S : Sh} {Q : SkQ} : Wp 23 867 ls st I J R S Q = Wp 23 868 ls (.int 3 :: st) I J R S Q := o_const (by decide) k_L_law_867
theorem k_L_law_868 : decode (sk_by 23) 868 = .ok (.iadd, 1) := by decide +kernel
theorem x_L_law_868 {ls st : List Value} {x y : Int32} {I : MI} {J : MJ} {R : MR} {S : Sh} {Q : SkQ} : Wp 23 868 ls (.int y :: .int x :: st) I J R S Q = Wp 23 869 ls (.int (x + y) :: st) I J R S Q := o_iadd k_L_law_868
theorem k_L_law_869 : decode (sk_by 23) 869 = .ok (.iaload, 1) := by decide +kernel
theorem x_L_law_869 {ls st : List Value} {a : Nat} {i : Int32} {I : MI} {J : MJ} {R : MR} {S : Sh} {Q : SkQ} (ha : S.1 a = 30) (hi : inb i (S.2.1 a) = true) : Wp 23 869 ls (.int i :: .ref a :: st) I J R S Q = Wp 23 870 ls (.int (I a (ix i)) :: st) I J R S Q := o_iaload k_L_law_869 ha hi
theorem x_L_law_869C {ls st : List Value} {a : Nat} {i : Int32} {I : MI} {J : MJ} {R : MR} {S : Sh} {Q : SkQ} (ha : S.1 a = 40) (hi : inb i (S.2.1 a) = true) : Wp 23 869 ls (.int i :: .ref a :: st) I J R S Q = Wp 23 870 ls (.int (I a (ix i)) :: st) I J R S Q := o_ialoadC k_L_law_869 ha hi
theorem k_L_law_870 : decode (sk_by 23) 870 = .ok (.i2l, 1) := by decide +kernel
theorem x_L_law_870 {ls st : List Value} {x : Int32} {I : MI} {J : MJ} {R : MR} {S : Sh} {Q : SkQ} : Wp 23 870 ls (.int x :: st) I J R S Q = Wp 23 871 ls (.long x.toInt64 :: st) I J R S Q := o_i2l k_L_law_870
theorem k_L_law_871 : decode (sk_by 23) 871 = .ok (.bipush 32, 2) := by decide +kernel
theorem x_L_law_871 {ls st : List Value} {I : MI} {J : MJ} {R : MR} {S : Sh} {Q : SkQ} : Wp 23 871 ls st I J R S Q = Wp 23 873 ls (.int 32 :: st) I J R S Q := o_bi (by decide) k_L_law_871
theorem k_L_law_873 : decode (sk_by 23) 873 = .ok (.lshl, 1) := by decide +kernel
theorem x_L_law_873 {ls st : List Value} {x : Int64} {y : Int32} {I : MI} {J : MJ} {R : MR} {S : Sh} {Q : SkQ} : Wp 23 873 ls (.int y :: .long x :: st) I J R S Q = Wp 23 874 ls (.long (x <<< (y.toInt64 &&& 63)) :: st) I J R S Q := o_lshl k_L_law_873
theorem k_L_law_874 : decode (sk_by 23) 874 = .ok (.aload_n 0, 1) := by decide +kernel
theorem x_L_law_874 {st : List Value} {l1 : Nat} {l2 : Nat} {l3 : Nat} {l4 : Int32} {l5 : Int32} {l6 : Value} {x : Nat} {I : MI} {J : MJ} {R : MR} {S : Sh} {Q : SkQ} : Wp 23 874 [.ref x, .ref l1, .ref l2, .ref l3, .int l4, .int l5, l6, nov] st I J R S Q = Wp 23 875 [.ref x, .ref l1, .ref l2, .ref l3, .int l4, .int l5, l6, nov] (.ref x :: st) I J R S Q := o_aload_n rfl k_L_law_874
theorem k_L_law_875 : decode (sk_by 23) 875 = .ok (.iload 4, 2) := by decide +kernel
theorem x_L_law_875 {st : List Value} {l0 : Nat} {l1 : Nat} {l2 : Nat} {l3 : Nat} {l5 : Int32} {l6 : Value} {x : Int32} {I : MI} {J : MJ} {R : MR} {S : Sh} {Q : SkQ} : Wp 23 875 [.ref l0, .ref l1, .ref l2, .ref l3, .int x, .int l5, l6, nov] st I J R S Q = Wp 23 877 [.ref l0, .ref l1, .ref l2, .ref l3, .int x, .int l5, l6, nov] (.int x :: st) I J R S Q := o_iload rfl k_L_law_875
theorem k_L_law_877 : decode (sk_by 23) 877 = .ok (.iconst 4, 1) := by decide +kernel
theorem x_L_law_877 {ls st : List Value} {I : MI} {J : MJ} {R : MR} {S : Sh} {Q : SkQ} : Wp 23 877 ls st I J R S Q = Wp 23 878 ls (.int 4 :: st) I J R S Q := o_const (by decide) k_L_law_877
theorem k_L_law_878 : decode (sk_by 23) 878 = .ok (.iadd, 1) := by decide +kernel
theorem x_L_law_878 {ls st : List Value} {x y : Int32} {I : MI} {J : MJ} {R : MR} {S : Sh} {Q : SkQ} : Wp 23 878 ls (.int y :: .int x :: st) I J R S Q = Wp 23 879 ls (.int (x + y) :: st) I J R S Q := o_iadd k_L_law_878
theorem k_L_law_879 : decode (sk_by 23) 879 = .ok (.iaload, 1) := by decide +kernel
theorem x_L_law_879 {ls st : List Value} {a : Nat} {i : Int32} {I : MI} {J : MJ} {R : MR} {S : Sh} {Q : SkQ} (ha : S.1 a = 30) (hi : inb i (S.2.1 a) = true) : Wp 23 879 ls (.int i :: .ref a :: st) I J R S Q = Wp 23 880 ls (.int (I a (ix i)) :: st) I J R S Q := o_iaload k_L_law_879 ha hi
theorem x_L_law_879C {ls st : List Value} {a : Nat} {i : Int32} {I : MI} {J : MJ} {R : MR} {S : Sh} {Q : SkQ} (ha : S.1 a = 40) (hi : inb i (S.2.1 a) = true) : Wp 23 879 ls (.int i :: .ref a :: st) I J R S Q = Wp 23 880 ls (.int (I a (ix i)) :: st) I J R S Q := o_ialoadC k_L_law_879 ha hi
theorem k_L_law_880 : decode (sk_by 23) 880 = .ok (.i2l, 1) := by decide +kernel
theorem x_L_law_880 {ls st : List Value} {x : Int32} {I : MI} {J : MJ} {R : MR} {S : Sh} {Q : SkQ} : Wp 23 880 ls (.int x :: st) I J R S Q = Wp 23 881 ls (.long x.toInt64 :: st) I J R S Q := o_i2l k_L_law_880
theorem k_L_law_881 : decode (sk_by 23) 881 = .ok (.ldc2_w 97, 3) := by decide +kernel
theorem x_L_law_881 {ls st : List Value} {I : MI} {J : MJ} {R : MR} {S : Sh} {Q : SkQ} : Wp 23 881 ls st I J R S Q = Wp 23 884 ls (.long 4294967295 :: st) I J R S Q := o_ldc2_w (show sk_lkK (sk_cl 23) 97 = some 4294967295 by decide +kernel) k_L_law_881
theorem k_L_law_884 : decode (sk_by 23) 884 = .ok (.land, 1) := by decide +kernel
theorem x_L_law_884 {ls st : List Value} {x y : Int64} {I : MI} {J : MJ} {R : MR} {S : Sh} {Q : SkQ} : Wp 23 884 ls (.long y :: .long x :: st) I J R S Q = Wp 23 885 ls (.long (x &&& y) :: st) I J R S Q := o_land k_L_law_884
theorem k_L_law_885 : decode (sk_by 23) 885 = .ok (.lor, 1) := by decide +kernel
theorem x_L_law_885 {ls st : List Value} {x y : Int64} {I : MI} {J : MJ} {R : MR} {S : Sh} {Q : SkQ} : Wp 23 885 ls (.long y :: .long x :: st) I J R S Q = Wp 23 886 ls (.long (x ||| y) :: st) I J R S Q := o_lor k_L_law_885
theorem k_L_law_886 : decode (sk_by 23) 886 = .ok (.invokevirtual 135, 3) := by decide +kernel
theorem x_L_law_886 {ls : List Value} {a0 : Nat} {a1 : Int64} {a2 : Int64} {I : MI} {J : MJ} {R : MR} {S : Sh} {Q : SkQ} (ha : S.1 a0 = 8) : Wp 23 886 ls (.long a2 :: .long a1 :: .ref a0 :: []) I J R S Q = Wp 216 0 [.ref a0, .long a1, nov, .long a2, nov, nov] [] I J R S (Ret 23 886 889 216 ls [] Q) := o_call (as := [.ref a0, .long a1, .long a2]) (rest := []) (show sk_lkM (sk_cl 23) 135 = some 216 by decide +kernel) (by decide) (by decide) (by (decide +kernel)) (ins := .invokevirtual 135) (by (decide +kernel)) k_L_law_886 rfl (show 3 = sk_na 216 by (decide +kernel)) (Nat.le_of_ble_eq_true rfl) (Nat.le_trans (show (argL [.ref a0, .long a1, .long a2]).length ≤ 6 from Nat.le_of_ble_eq_true rfl) (by (decide +kernel))) (rcv_of (by (decide +kernel)) (by decide) ha)
theorem k_L_law_889 : decode (sk_by 23) 889 = .ok (.istore 6, 2) := by decide +kernel
theorem x_L_law_889 {st : List Value} {l0 : Nat} {l1 : Nat} {l2 : Nat} {l3 : Nat} {l4 : Int32} {l5 : Int32} {l6 : Value} {x : Int32} {I : MI} {J : MJ} {R : MR} {S : Sh} {Q : SkQ} : Wp 23 889 [.ref l0, .ref l1, .ref l2, .ref l3, .int l4, .int l5, l6, nov] (.int x :: st) I J R S Q = Wp 23 891 [.ref l0, .ref l1, .ref l2, .ref l3, .int l4, .int l5, .int x, nov] st I J R S Q := o_istore (Nat.le_of_ble_eq_true rfl) rfl k_L_law_889
theorem k_L_law_891 : decode (sk_by 23) 891 = .ok (.aload_n 2, 1) := by decide +kernel
theorem x_L_law_891 {st : List Value} {l0 : Nat} {l1 : Nat} {l3 : Nat} {l4 : Int32} {l5 : Int32} {l6 : Int32} {x : Nat} {I : MI} {J : MJ} {R : MR} {S : Sh} {Q : SkQ} : Wp 23 891 [.ref l0, .ref l1, .ref x, .ref l3, .int l4, .int l5, .int l6, nov] st I J R S Q = Wp 23 892 [.ref l0, .ref l1, .ref x, .ref l3, .int l4, .int l5, .int l6, nov] (.ref x :: st) I J R S Q := o_aload_n rfl k_L_law_891
theorem k_L_law_892 : decode (sk_by 23) 892 = .ok (.invokevirtual 105, 3) := by decide +kernel
theorem x_L_law_892 {ls : List Value} {a0 : Nat} {I : MI} {J : MJ} {R : MR} {S : Sh} {Q : SkQ} (ha : S.1 a0 = 8) : Wp 23 892 ls (.ref a0 :: []) I J R S Q = Wp 174 0 [.ref a0] [] I J R S (Ret 23 892 895 174 ls [] Q) := o_call (as := [.ref a0]) (rest := []) (show sk_lkM (sk_cl 23) 105 = some 174 by decide +kernel) (by decide) (by decide) (by (decide +kernel)) (ins := .invokevirtual 105) (by (decide +kernel)) k_L_law_892 rfl (show 1 = sk_na 174 by (decide +kernel)) (Nat.le_of_ble_eq_true rfl) (Nat.le_trans (show (argL [.ref a0]).length ≤ 1 from Nat.le_of_ble_eq_true rfl) (by (decide +kernel))) (rcv_of (by (decide +kernel)) (by decide) ha)
theorem k_L_law_895 : decode (sk_by 23) 895 = .ok (.iload 5, 2) := by decide +kernel
theorem x_L_law_895 {st : List Value} {l0 : Nat} {l1 : Nat} {l2 : Nat} {l3 : Nat} {l4 : Int32} {l6 : Int32} {x : Int32} {I : MI} {J : MJ} {R : MR} {S : Sh} {Q : SkQ} : Wp 23 895 [.ref l0, .ref l1, .ref l2, .ref l3, .int l4, .int x, .int l6, nov] st I J R S Q = Wp 23 897 [.ref l0, .ref l1, .ref l2, .ref l3, .int l4, .int x, .int l6, nov] (.int x :: st) I J R S Q := o_iload rfl k_L_law_895
theorem k_L_law_897 : decode (sk_by 23) 897 = .ok (.if_icmp .eq 5, 3) := by decide +kernel
theorem x_L_law_897 {ls st : List Value} {x y : Int32} {I : MI} {J : MJ} {R : MR} {S : Sh} {Q : SkQ} : Wp 23 897 ls (.int y :: .int x :: st) I J R S Q = if x = y then Wp 23 902 ls st I J R S Q else Wp 23 900 ls st I J R S Q := o_ic_eq rfl rfl k_L_law_897
theorem k_L_law_900 : decode (sk_by 23) 900 = .ok (.iconst 0, 1) := by decide +kernel
theorem x_L_law_900 {ls st : List Value} {I : MI} {J : MJ} {R : MR} {S : Sh} {Q : SkQ} : Wp 23 900 ls st I J R S Q = Wp 23 901 ls (.int 0 :: st) I J R S Q := o_const (by decide) k_L_law_900
theorem k_L_law_901 : decode (sk_by 23) 901 = .ok (.ireturn, 1) := by decide +kernel
theorem x_L_law_901 {ls : List Value} {v : Int32} {I : MI} {J : MJ} {R : MR} {S : Sh} {Q : SkQ} (h : rOk (some .boolean) v = true) : Wp 23 901 ls [.int v] I J R S Q = Q 0 (some (.int v)) I J R S := o_ireturn k_L_law_901 (by rw [show sk_rt 23 = some .boolean from rfl]; exact h)
theorem k_L_law_902 : decode (sk_by 23) 902 = .ok (.iload 5, 2) := by decide +kernel
theorem x_L_law_902 {st : List Value} {l0 : Nat} {l1 : Nat} {l2 : Nat} {l3 : Nat} {l4 : Int32} {l6 : Int32} {x : Int32} {I : MI} {J : MJ} {R : MR} {S : Sh} {Q : SkQ} : Wp 23 902 [.ref l0, .ref l1, .ref l2, .ref l3, .int l4, .int x, .int l6, nov] st I J R S Q = Wp 23 904 [.ref l0, .ref l1, .ref l2, .ref l3, .int l4, .int x, .int l6, nov] (.int x :: st) I J R S Q := o_iload rfl k_L_law_902
theorem k_L_law_904 : decode (sk_by 23) 904 = .ok (.ifCond .ne 15, 3) := by decide +kernel
theorem x_L_law_904 {ls st : List Value} {x : Int32} {I : MI} {J : MJ} {R : MR} {S : Sh} {Q : SkQ} : Wp 23 904 ls (.int x :: st) I J R S Q = if x = 0 then Wp 23 907 ls st I J R S Q else Wp 23 919 ls st I J R S Q := o_if_ne rfl rfl k_L_law_904
theorem k_L_law_907 : decode (sk_by 23) 907 = .ok (.aload_n 3, 1) := by decide +kernel
theorem x_L_law_907 {st : List Value} {l0 : Nat} {l1 : Nat} {l2 : Nat} {l4 : Int32} {l5 : Int32} {l6 : Int32} {x : Nat} {I : MI} {J : MJ} {R : MR} {S : Sh} {Q : SkQ} : Wp 23 907 [.ref l0, .ref l1, .ref l2, .ref x, .int l4, .int l5, .int l6, nov] st I J R S Q = Wp 23 908 [.ref l0, .ref l1, .ref l2, .ref x, .int l4, .int l5, .int l6, nov] (.ref x :: st) I J R S Q := o_aload_n rfl k_L_law_907
theorem k_L_law_908 : decode (sk_by 23) 908 = .ok (.iconst 0, 1) := by decide +kernel
theorem x_L_law_908 {ls st : List Value} {I : MI} {J : MJ} {R : MR} {S : Sh} {Q : SkQ} : Wp 23 908 ls st I J R S Q = Wp 23 909 ls (.int 0 :: st) I J R S Q := o_const (by decide) k_L_law_908
theorem k_L_law_909 : decode (sk_by 23) 909 = .ok (.laload, 1) := by decide +kernel
theorem x_L_law_909 {ls st : List Value} {a : Nat} {i : Int32} {I : MI} {J : MJ} {R : MR} {S : Sh} {Q : SkQ} (ha : S.1 a = 31) (hi : inb i (S.2.1 a) = true) : Wp 23 909 ls (.int i :: .ref a :: st) I J R S Q = Wp 23 910 ls (.long (J a (ix i)) :: st) I J R S Q := o_laload k_L_law_909 ha hi
theorem k_L_law_910 : decode (sk_by 23) 910 = .ok (.iload 6, 2) := by decide +kernel
theorem x_L_law_910 {st : List Value} {l0 : Nat} {l1 : Nat} {l2 : Nat} {l3 : Nat} {l4 : Int32} {l5 : Int32} {x : Int32} {I : MI} {J : MJ} {R : MR} {S : Sh} {Q : SkQ} : Wp 23 910 [.ref l0, .ref l1, .ref l2, .ref l3, .int l4, .int l5, .int x, nov] st I J R S Q = Wp 23 912 [.ref l0, .ref l1, .ref l2, .ref l3, .int l4, .int l5, .int x, nov] (.int x :: st) I J R S Q := o_iload rfl k_L_law_910
theorem k_L_law_912 : decode (sk_by 23) 912 = .ok (.i2l, 1) := by decide +kernel
theorem x_L_law_912 {ls st : List Value} {x : Int32} {I : MI} {J : MJ} {R : MR} {S : Sh} {Q : SkQ} : Wp 23 912 ls (.int x :: st) I J R S Q = Wp 23 913 ls (.long x.toInt64 :: st) I J R S Q := o_i2l k_L_law_912
theorem k_L_law_913 : decode (sk_by 23) 913 = .ok (.lcmp, 1) := by decide +kernel
theorem x_L_law_913 {ls st : List Value} {x y : Int64} {I : MI} {J : MJ} {R : MR} {S : Sh} {Q : SkQ} : Wp 23 913 ls (.long y :: .long x :: st) I J R S Q = Wp 23 914 ls (.int (lg_cmp x y) :: st) I J R S Q := o_lcmp k_L_law_913
theorem k_L_law_914 : decode (sk_by 23) 914 = .ok (.ifCond .eq 5, 3) := by decide +kernel
theorem x_L_law_914 {ls st : List Value} {x : Int32} {I : MI} {J : MJ} {R : MR} {S : Sh} {Q : SkQ} : Wp 23 914 ls (.int x :: st) I J R S Q = if x = 0 then Wp 23 919 ls st I J R S Q else Wp 23 917 ls st I J R S Q := o_if_eq rfl rfl k_L_law_914
theorem k_L_law_917 : decode (sk_by 23) 917 = .ok (.iconst 0, 1) := by decide +kernel
theorem x_L_law_917 {ls st : List Value} {I : MI} {J : MJ} {R : MR} {S : Sh} {Q : SkQ} : Wp 23 917 ls st I J R S Q = Wp 23 918 ls (.int 0 :: st) I J R S Q := o_const (by decide) k_L_law_917
theorem k_L_law_918 : decode (sk_by 23) 918 = .ok (.ireturn, 1) := by decide +kernel
theorem x_L_law_918 {ls : List Value} {v : Int32} {I : MI} {J : MJ} {R : MR} {S : Sh} {Q : SkQ} (h : rOk (some .boolean) v = true) : Wp 23 918 ls [.int v] I J R S Q = Q 0 (some (.int v)) I J R S := o_ireturn k_L_law_918 (by rw [show sk_rt 23 = some .boolean from rfl]; exact h)
theorem k_L_law_919 : decode (sk_by 23) 919 = .ok (.goto 1269, 3) := by decide +kernel
theorem x_L_law_919 {ls st : List Value} {I : MI} {J : MJ} {R : MR} {S : Sh} {Q : SkQ} : Wp 23 919 ls st I J R S Q = Wp 23 2188 ls st I J R S Q := o_goto rfl rfl k_L_law_919
theorem k_L_law_922 : decode (sk_by 23) 922 = .ok (.aload_n 1, 1) := by decide +kernel
theorem x_L_law_922 {st : List Value} {l0 : Nat} {l2 : Nat} {l3 : Nat} {l4 : Int32} {l5 : Value} {l6 : Value} {x : Nat} {I : MI} {J : MJ} {R : MR} {S : Sh} {Q : SkQ} : Wp 23 922 [.ref l0, .ref x, .ref l2, .ref l3, .int l4, l5, l6, nov] st I J R S Q = Wp 23 923 [.ref l0, .ref x, .ref l2, .ref l3, .int l4, l5, l6, nov] (.ref x :: st) I J R S Q := o_aload_n rfl k_L_law_922
theorem k_L_law_923 : decode (sk_by 23) 923 = .ok (.aload_n 0, 1) := by decide +kernel
theorem x_L_law_923 {st : List Value} {l1 : Nat} {l2 : Nat} {l3 : Nat} {l4 : Int32} {l5 : Value} {l6 : Value} {x : Nat} {I : MI} {J : MJ} {R : MR} {S : Sh} {Q : SkQ} : Wp 23 923 [.ref x, .ref l1, .ref l2, .ref l3, .int l4, l5, l6, nov] st I J R S Q = Wp 23 924 [.ref x, .ref l1, .ref l2, .ref l3, .int l4, l5, l6, nov] (.ref x :: st) I J R S Q := o_aload_n rfl k_L_law_923
theorem k_L_law_924 : decode (sk_by 23) 924 = .ok (.iload 4, 2) := by decide +kernel
theorem x_L_law_924 {st : List Value} {l0 : Nat} {l1 : Nat} {l2 : Nat} {l3 : Nat} {l5 : Value} {l6 : Value} {x : Int32} {I : MI} {J : MJ} {R : MR} {S : Sh} {Q : SkQ} : Wp 23 924 [.ref l0, .ref l1, .ref l2, .ref l3, .int x, l5, l6, nov] st I J R S Q = Wp 23 926 [.ref l0, .ref l1, .ref l2, .ref l3, .int x, l5, l6, nov] (.int x :: st) I J R S Q := o_iload rfl k_L_law_924
theorem k_L_law_926 : decode (sk_by 23) 926 = .ok (.iconst 1, 1) := by decide +kernel
theorem x_L_law_926 {ls st : List Value} {I : MI} {J : MJ} {R : MR} {S : Sh} {Q : SkQ} : Wp 23 926 ls st I J R S Q = Wp 23 927 ls (.int 1 :: st) I J R S Q := o_const (by decide) k_L_law_926
theorem k_L_law_927 : decode (sk_by 23) 927 = .ok (.iadd, 1) := by decide +kernel
theorem x_L_law_927 {ls st : List Value} {x y : Int32} {I : MI} {J : MJ} {R : MR} {S : Sh} {Q : SkQ} : Wp 23 927 ls (.int y :: .int x :: st) I J R S Q = Wp 23 928 ls (.int (x + y) :: st) I J R S Q := o_iadd k_L_law_927
theorem k_L_law_928 : decode (sk_by 23) 928 = .ok (.iaload, 1) := by decide +kernel
theorem x_L_law_928 {ls st : List Value} {a : Nat} {i : Int32} {I : MI} {J : MJ} {R : MR} {S : Sh} {Q : SkQ} (ha : S.1 a = 30) (hi : inb i (S.2.1 a) = true) : Wp 23 928 ls (.int i :: .ref a :: st) I J R S Q = Wp 23 929 ls (.int (I a (ix i)) :: st) I J R S Q := o_iaload k_L_law_928 ha hi
theorem x_L_law_928C {ls st : List Value} {a : Nat} {i : Int32} {I : MI} {J : MJ} {R : MR} {S : Sh} {Q : SkQ} (ha : S.1 a = 40) (hi : inb i (S.2.1 a) = true) : Wp 23 928 ls (.int i :: .ref a :: st) I J R S Q = Wp 23 929 ls (.int (I a (ix i)) :: st) I J R S Q := o_ialoadC k_L_law_928 ha hi
theorem k_L_law_929 : decode (sk_by 23) 929 = .ok (.i2l, 1) := by decide +kernel
theorem x_L_law_929 {ls st : List Value} {x : Int32} {I : MI} {J : MJ} {R : MR} {S : Sh} {Q : SkQ} : Wp 23 929 ls (.int x :: st) I J R S Q = Wp 23 930 ls (.long x.toInt64 :: st) I J R S Q := o_i2l k_L_law_929
theorem k_L_law_930 : decode (sk_by 23) 930 = .ok (.bipush 32, 2) := by decide +kernel
theorem x_L_law_930 {ls st : List Value} {I : MI} {J : MJ} {R : MR} {S : Sh} {Q : SkQ} : Wp 23 930 ls st I J R S Q = Wp 23 932 ls (.int 32 :: st) I J R S Q := o_bi (by decide) k_L_law_930
theorem k_L_law_932 : decode (sk_by 23) 932 = .ok (.lshl, 1) := by decide +kernel
theorem x_L_law_932 {ls st : List Value} {x : Int64} {y : Int32} {I : MI} {J : MJ} {R : MR} {S : Sh} {Q : SkQ} : Wp 23 932 ls (.int y :: .long x :: st) I J R S Q = Wp 23 933 ls (.long (x <<< (y.toInt64 &&& 63)) :: st) I J R S Q := o_lshl k_L_law_932
theorem k_L_law_933 : decode (sk_by 23) 933 = .ok (.aload_n 0, 1) := by decide +kernel
theorem x_L_law_933 {st : List Value} {l1 : Nat} {l2 : Nat} {l3 : Nat} {l4 : Int32} {l5 : Value} {l6 : Value} {x : Nat} {I : MI} {J : MJ} {R : MR} {S : Sh} {Q : SkQ} : Wp 23 933 [.ref x, .ref l1, .ref l2, .ref l3, .int l4, l5, l6, nov] st I J R S Q = Wp 23 934 [.ref x, .ref l1, .ref l2, .ref l3, .int l4, l5, l6, nov] (.ref x :: st) I J R S Q := o_aload_n rfl k_L_law_933
theorem k_L_law_934 : decode (sk_by 23) 934 = .ok (.iload 4, 2) := by decide +kernel
theorem x_L_law_934 {st : List Value} {l0 : Nat} {l1 : Nat} {l2 : Nat} {l3 : Nat} {l5 : Value} {l6 : Value} {x : Int32} {I : MI} {J : MJ} {R : MR} {S : Sh} {Q : SkQ} : Wp 23 934 [.ref l0, .ref l1, .ref l2, .ref l3, .int x, l5, l6, nov] st I J R S Q = Wp 23 936 [.ref l0, .ref l1, .ref l2, .ref l3, .int x, l5, l6, nov] (.int x :: st) I J R S Q := o_iload rfl k_L_law_934
theorem k_L_law_936 : decode (sk_by 23) 936 = .ok (.iconst 2, 1) := by decide +kernel
theorem x_L_law_936 {ls st : List Value} {I : MI} {J : MJ} {R : MR} {S : Sh} {Q : SkQ} : Wp 23 936 ls st I J R S Q = Wp 23 937 ls (.int 2 :: st) I J R S Q := o_const (by decide) k_L_law_936
theorem k_L_law_937 : decode (sk_by 23) 937 = .ok (.iadd, 1) := by decide +kernel
theorem x_L_law_937 {ls st : List Value} {x y : Int32} {I : MI} {J : MJ} {R : MR} {S : Sh} {Q : SkQ} : Wp 23 937 ls (.int y :: .int x :: st) I J R S Q = Wp 23 938 ls (.int (x + y) :: st) I J R S Q := o_iadd k_L_law_937
theorem k_L_law_938 : decode (sk_by 23) 938 = .ok (.iaload, 1) := by decide +kernel
theorem x_L_law_938 {ls st : List Value} {a : Nat} {i : Int32} {I : MI} {J : MJ} {R : MR} {S : Sh} {Q : SkQ} (ha : S.1 a = 30) (hi : inb i (S.2.1 a) = true) : Wp 23 938 ls (.int i :: .ref a :: st) I J R S Q = Wp 23 939 ls (.int (I a (ix i)) :: st) I J R S Q := o_iaload k_L_law_938 ha hi
theorem x_L_law_938C {ls st : List Value} {a : Nat} {i : Int32} {I : MI} {J : MJ} {R : MR} {S : Sh} {Q : SkQ} (ha : S.1 a = 40) (hi : inb i (S.2.1 a) = true) : Wp 23 938 ls (.int i :: .ref a :: st) I J R S Q = Wp 23 939 ls (.int (I a (ix i)) :: st) I J R S Q := o_ialoadC k_L_law_938 ha hi
theorem k_L_law_939 : decode (sk_by 23) 939 = .ok (.i2l, 1) := by decide +kernel
theorem x_L_law_939 {ls st : List Value} {x : Int32} {I : MI} {J : MJ} {R : MR} {S : Sh} {Q : SkQ} : Wp 23 939 ls (.int x :: st) I J R S Q = Wp 23 940 ls (.long x.toInt64 :: st) I J R S Q := o_i2l k_L_law_939
theorem k_L_law_940 : decode (sk_by 23) 940 = .ok (.ldc2_w 97, 3) := by decide +kernel
theorem x_L_law_940 {ls st : List Value} {I : MI} {J : MJ} {R : MR} {S : Sh} {Q : SkQ} : Wp 23 940 ls st I J R S Q = Wp 23 943 ls (.long 4294967295 :: st) I J R S Q := o_ldc2_w (show sk_lkK (sk_cl 23) 97 = some 4294967295 by decide +kernel) k_L_law_940
theorem k_L_law_943 : decode (sk_by 23) 943 = .ok (.land, 1) := by decide +kernel
theorem x_L_law_943 {ls st : List Value} {x y : Int64} {I : MI} {J : MJ} {R : MR} {S : Sh} {Q : SkQ} : Wp 23 943 ls (.long y :: .long x :: st) I J R S Q = Wp 23 944 ls (.long (x &&& y) :: st) I J R S Q := o_land k_L_law_943
theorem k_L_law_944 : decode (sk_by 23) 944 = .ok (.lor, 1) := by decide +kernel
theorem x_L_law_944 {ls st : List Value} {x y : Int64} {I : MI} {J : MJ} {R : MR} {S : Sh} {Q : SkQ} : Wp 23 944 ls (.long y :: .long x :: st) I J R S Q = Wp 23 945 ls (.long (x ||| y) :: st) I J R S Q := o_lor k_L_law_944
theorem k_L_law_945 : decode (sk_by 23) 945 = .ok (.aload_n 0, 1) := by decide +kernel
theorem x_L_law_945 {st : List Value} {l1 : Nat} {l2 : Nat} {l3 : Nat} {l4 : Int32} {l5 : Value} {l6 : Value} {x : Nat} {I : MI} {J : MJ} {R : MR} {S : Sh} {Q : SkQ} : Wp 23 945 [.ref x, .ref l1, .ref l2, .ref l3, .int l4, l5, l6, nov] st I J R S Q = Wp 23 946 [.ref x, .ref l1, .ref l2, .ref l3, .int l4, l5, l6, nov] (.ref x :: st) I J R S Q := o_aload_n rfl k_L_law_945
theorem k_L_law_946 : decode (sk_by 23) 946 = .ok (.iload 4, 2) := by decide +kernel
theorem x_L_law_946 {st : List Value} {l0 : Nat} {l1 : Nat} {l2 : Nat} {l3 : Nat} {l5 : Value} {l6 : Value} {x : Int32} {I : MI} {J : MJ} {R : MR} {S : Sh} {Q : SkQ} : Wp 23 946 [.ref l0, .ref l1, .ref l2, .ref l3, .int x, l5, l6, nov] st I J R S Q = Wp 23 948 [.ref l0, .ref l1, .ref l2, .ref l3, .int x, l5, l6, nov] (.int x :: st) I J R S Q := o_iload rfl k_L_law_946
theorem k_L_law_948 : decode (sk_by 23) 948 = .ok (.iconst 3, 1) := by decide +kernel
theorem x_L_law_948 {ls st : List Value} {I : MI} {J : MJ} {R : MR} {S : Sh} {Q : SkQ} : Wp 23 948 ls st I J R S Q = Wp 23 949 ls (.int 3 :: st) I J R S Q := o_const (by decide) k_L_law_948
theorem k_L_law_949 : decode (sk_by 23) 949 = .ok (.iadd, 1) := by decide +kernel
theorem x_L_law_949 {ls st : List Value} {x y : Int32} {I : MI} {J : MJ} {R : MR} {S : Sh} {Q : SkQ} : Wp 23 949 ls (.int y :: .int x :: st) I J R S Q = Wp 23 950 ls (.int (x + y) :: st) I J R S Q := o_iadd k_L_law_949
theorem k_L_law_950 : decode (sk_by 23) 950 = .ok (.iaload, 1) := by decide +kernel
theorem x_L_law_950 {ls st : List Value} {a : Nat} {i : Int32} {I : MI} {J : MJ} {R : MR} {S : Sh} {Q : SkQ} (ha : S.1 a = 30) (hi : inb i (S.2.1 a) = true) : Wp 23 950 ls (.int i :: .ref a :: st) I J R S Q = Wp 23 951 ls (.int (I a (ix i)) :: st) I J R S Q := o_iaload k_L_law_950 ha hi
theorem x_L_law_950C {ls st : List Value} {a : Nat} {i : Int32} {I : MI} {J : MJ} {R : MR} {S : Sh} {Q : SkQ} (ha : S.1 a = 40) (hi : inb i (S.2.1 a) = true) : Wp 23 950 ls (.int i :: .ref a :: st) I J R S Q = Wp 23 951 ls (.int (I a (ix i)) :: st) I J R S Q := o_ialoadC k_L_law_950 ha hi
theorem k_L_law_951 : decode (sk_by 23) 951 = .ok (.aload_n 3, 1) := by decide +kernel
theorem x_L_law_951 {st : List Value} {l0 : Nat} {l1 : Nat} {l2 : Nat} {l4 : Int32} {l5 : Value} {l6 : Value} {x : Nat} {I : MI} {J : MJ} {R : MR} {S : Sh} {Q : SkQ} : Wp 23 951 [.ref l0, .ref l1, .ref l2, .ref x, .int l4, l5, l6, nov] st I J R S Q = Wp 23 952 [.ref l0, .ref l1, .ref l2, .ref x, .int l4, l5, l6, nov] (.ref x :: st) I J R S Q := o_aload_n rfl k_L_law_951
theorem k_L_law_952 : decode (sk_by 23) 952 = .ok (.invokestatic 136, 3) := by decide +kernel
theorem x_L_law_952 {ls : List Value} {a0 : Nat} {a1 : Int64} {a2 : Int32} {a3 : Nat} {I : MI} {J : MJ} {R : MR} {S : Sh} {Q : SkQ} : Wp 23 952 ls (.ref a3 :: .int a2 :: .long a1 :: .ref a0 :: []) I J R S Q = Wp 9 0 [.ref a0, .long a1, nov, .int a2, .ref a3, nov] [] I J R S (Ret 23 952 955 9 ls [] Q) := o_call (as := [.ref a0, .long a1, .int a2, .ref a3]) (rest := []) (show sk_lkM (sk_cl 23) 136 = some 9 by decide +kernel) (by decide) (by decide) (by (decide +kernel)) (ins := .invokestatic 136) (by (decide +kernel)) k_L_law_952 rfl (show 4 = sk_na 9 by (decide +kernel)) (Nat.le_of_ble_eq_true rfl) (Nat.le_trans (show (argL [.ref a0, .long a1, .int a2, .ref a3]).length ≤ 6 from Nat.le_of_ble_eq_true rfl) (by (decide +kernel))) rfl
theorem k_L_law_955 : decode (sk_by 23) 955 = .ok (.istore 5, 2) := by decide +kernel
theorem x_L_law_955 {st : List Value} {l0 : Nat} {l1 : Nat} {l2 : Nat} {l3 : Nat} {l4 : Int32} {l5 : Value} {l6 : Value} {x : Int32} {I : MI} {J : MJ} {R : MR} {S : Sh} {Q : SkQ} : Wp 23 955 [.ref l0, .ref l1, .ref l2, .ref l3, .int l4, l5, l6, nov] (.int x :: st) I J R S Q = Wp 23 957 [.ref l0, .ref l1, .ref l2, .ref l3, .int l4, .int x, l6, nov] st I J R S Q := o_istore (Nat.le_of_ble_eq_true rfl) rfl k_L_law_955
theorem k_L_law_957 : decode (sk_by 23) 957 = .ok (.aload_n 2, 1) := by decide +kernel
theorem x_L_law_957 {st : List Value} {l0 : Nat} {l1 : Nat} {l3 : Nat} {l4 : Int32} {l5 : Int32} {l6 : Value} {x : Nat} {I : MI} {J : MJ} {R : MR} {S : Sh} {Q : SkQ} : Wp 23 957 [.ref l0, .ref l1, .ref x, .ref l3, .int l4, .int l5, l6, nov] st I J R S Q = Wp 23 958 [.ref l0, .ref l1, .ref x, .ref l3, .int l4, .int l5, l6, nov] (.ref x :: st) I J R S Q := o_aload_n rfl k_L_law_957
theorem k_L_law_958 : decode (sk_by 23) 958 = .ok (.aload_n 0, 1) := by decide +kernel
theorem x_L_law_958 {st : List Value} {l1 : Nat} {l2 : Nat} {l3 : Nat} {l4 : Int32} {l5 : Int32} {l6 : Value} {x : Nat} {I : MI} {J : MJ} {R : MR} {S : Sh} {Q : SkQ} : Wp 23 958 [.ref x, .ref l1, .ref l2, .ref l3, .int l4, .int l5, l6, nov] st I J R S Q = Wp 23 959 [.ref x, .ref l1, .ref l2, .ref l3, .int l4, .int l5, l6, nov] (.ref x :: st) I J R S Q := o_aload_n rfl k_L_law_958
theorem k_L_law_959 : decode (sk_by 23) 959 = .ok (.iload 4, 2) := by decide +kernel
theorem x_L_law_959 {st : List Value} {l0 : Nat} {l1 : Nat} {l2 : Nat} {l3 : Nat} {l5 : Int32} {l6 : Value} {x : Int32} {I : MI} {J : MJ} {R : MR} {S : Sh} {Q : SkQ} : Wp 23 959 [.ref l0, .ref l1, .ref l2, .ref l3, .int x, .int l5, l6, nov] st I J R S Q = Wp 23 961 [.ref l0, .ref l1, .ref l2, .ref l3, .int x, .int l5, l6, nov] (.int x :: st) I J R S Q := o_iload rfl k_L_law_959
theorem k_L_law_961 : decode (sk_by 23) 961 = .ok (.iconst 1, 1) := by decide +kernel
theorem x_L_law_961 {ls st : List Value} {I : MI} {J : MJ} {R : MR} {S : Sh} {Q : SkQ} : Wp 23 961 ls st I J R S Q = Wp 23 962 ls (.int 1 :: st) I J R S Q := o_const (by decide) k_L_law_961
theorem k_L_law_962 : decode (sk_by 23) 962 = .ok (.iadd, 1) := by decide +kernel
theorem x_L_law_962 {ls st : List Value} {x y : Int32} {I : MI} {J : MJ} {R : MR} {S : Sh} {Q : SkQ} : Wp 23 962 ls (.int y :: .int x :: st) I J R S Q = Wp 23 963 ls (.int (x + y) :: st) I J R S Q := o_iadd k_L_law_962
theorem k_L_law_963 : decode (sk_by 23) 963 = .ok (.iaload, 1) := by decide +kernel
theorem x_L_law_963 {ls st : List Value} {a : Nat} {i : Int32} {I : MI} {J : MJ} {R : MR} {S : Sh} {Q : SkQ} (ha : S.1 a = 30) (hi : inb i (S.2.1 a) = true) : Wp 23 963 ls (.int i :: .ref a :: st) I J R S Q = Wp 23 964 ls (.int (I a (ix i)) :: st) I J R S Q := o_iaload k_L_law_963 ha hi
theorem x_L_law_963C {ls st : List Value} {a : Nat} {i : Int32} {I : MI} {J : MJ} {R : MR} {S : Sh} {Q : SkQ} (ha : S.1 a = 40) (hi : inb i (S.2.1 a) = true) : Wp 23 963 ls (.int i :: .ref a :: st) I J R S Q = Wp 23 964 ls (.int (I a (ix i)) :: st) I J R S Q := o_ialoadC k_L_law_963 ha hi
theorem k_L_law_964 : decode (sk_by 23) 964 = .ok (.i2l, 1) := by decide +kernel
theorem x_L_law_964 {ls st : List Value} {x : Int32} {I : MI} {J : MJ} {R : MR} {S : Sh} {Q : SkQ} : Wp 23 964 ls (.int x :: st) I J R S Q = Wp 23 965 ls (.long x.toInt64 :: st) I J R S Q := o_i2l k_L_law_964
theorem k_L_law_965 : decode (sk_by 23) 965 = .ok (.bipush 32, 2) := by decide +kernel
theorem x_L_law_965 {ls st : List Value} {I : MI} {J : MJ} {R : MR} {S : Sh} {Q : SkQ} : Wp 23 965 ls st I J R S Q = Wp 23 967 ls (.int 32 :: st) I J R S Q := o_bi (by decide) k_L_law_965
theorem k_L_law_967 : decode (sk_by 23) 967 = .ok (.lshl, 1) := by decide +kernel
theorem x_L_law_967 {ls st : List Value} {x : Int64} {y : Int32} {I : MI} {J : MJ} {R : MR} {S : Sh} {Q : SkQ} : Wp 23 967 ls (.int y :: .long x :: st) I J R S Q = Wp 23 968 ls (.long (x <<< (y.toInt64 &&& 63)) :: st) I J R S Q := o_lshl k_L_law_967
theorem k_L_law_968 : decode (sk_by 23) 968 = .ok (.aload_n 0, 1) := by decide +kernel
theorem x_L_law_968 {st : List Value} {l1 : Nat} {l2 : Nat} {l3 : Nat} {l4 : Int32} {l5 : Int32} {l6 : Value} {x : Nat} {I : MI} {J : MJ} {R : MR} {S : Sh} {Q : SkQ} : Wp 23 968 [.ref x, .ref l1, .ref l2, .ref l3, .int l4, .int l5, l6, nov] st I J R S Q = Wp 23 969 [.ref x, .ref l1, .ref l2, .ref l3, .int l4, .int l5, l6, nov] (.ref x :: st) I J R S Q := o_aload_n rfl k_L_law_968
theorem k_L_law_969 : decode (sk_by 23) 969 = .ok (.iload 4, 2) := by decide +kernel
theorem x_L_law_969 {st : List Value} {l0 : Nat} {l1 : Nat} {l2 : Nat} {l3 : Nat} {l5 : Int32} {l6 : Value} {x : Int32} {I : MI} {J : MJ} {R : MR} {S : Sh} {Q : SkQ} : Wp 23 969 [.ref l0, .ref l1, .ref l2, .ref l3, .int x, .int l5, l6, nov] st I J R S Q = Wp 23 971 [.ref l0, .ref l1, .ref l2, .ref l3, .int x, .int l5, l6, nov] (.int x :: st) I J R S Q := o_iload rfl k_L_law_969
theorem k_L_law_971 : decode (sk_by 23) 971 = .ok (.iconst 2, 1) := by decide +kernel
theorem x_L_law_971 {ls st : List Value} {I : MI} {J : MJ} {R : MR} {S : Sh} {Q : SkQ} : Wp 23 971 ls st I J R S Q = Wp 23 972 ls (.int 2 :: st) I J R S Q := o_const (by decide) k_L_law_971
theorem k_L_law_972 : decode (sk_by 23) 972 = .ok (.iadd, 1) := by decide +kernel
theorem x_L_law_972 {ls st : List Value} {x y : Int32} {I : MI} {J : MJ} {R : MR} {S : Sh} {Q : SkQ} : Wp 23 972 ls (.int y :: .int x :: st) I J R S Q = Wp 23 973 ls (.int (x + y) :: st) I J R S Q := o_iadd k_L_law_972
theorem k_L_law_973 : decode (sk_by 23) 973 = .ok (.iaload, 1) := by decide +kernel
theorem x_L_law_973 {ls st : List Value} {a : Nat} {i : Int32} {I : MI} {J : MJ} {R : MR} {S : Sh} {Q : SkQ} (ha : S.1 a = 30) (hi : inb i (S.2.1 a) = true) : Wp 23 973 ls (.int i :: .ref a :: st) I J R S Q = Wp 23 974 ls (.int (I a (ix i)) :: st) I J R S Q := o_iaload k_L_law_973 ha hi
theorem x_L_law_973C {ls st : List Value} {a : Nat} {i : Int32} {I : MI} {J : MJ} {R : MR} {S : Sh} {Q : SkQ} (ha : S.1 a = 40) (hi : inb i (S.2.1 a) = true) : Wp 23 973 ls (.int i :: .ref a :: st) I J R S Q = Wp 23 974 ls (.int (I a (ix i)) :: st) I J R S Q := o_ialoadC k_L_law_973 ha hi
theorem k_L_law_974 : decode (sk_by 23) 974 = .ok (.i2l, 1) := by decide +kernel
theorem x_L_law_974 {ls st : List Value} {x : Int32} {I : MI} {J : MJ} {R : MR} {S : Sh} {Q : SkQ} : Wp 23 974 ls (.int x :: st) I J R S Q = Wp 23 975 ls (.long x.toInt64 :: st) I J R S Q := o_i2l k_L_law_974
theorem k_L_law_975 : decode (sk_by 23) 975 = .ok (.ldc2_w 97, 3) := by decide +kernel
theorem x_L_law_975 {ls st : List Value} {I : MI} {J : MJ} {R : MR} {S : Sh} {Q : SkQ} : Wp 23 975 ls st I J R S Q = Wp 23 978 ls (.long 4294967295 :: st) I J R S Q := o_ldc2_w (show sk_lkK (sk_cl 23) 97 = some 4294967295 by decide +kernel) k_L_law_975
theorem k_L_law_978 : decode (sk_by 23) 978 = .ok (.land, 1) := by decide +kernel
theorem x_L_law_978 {ls st : List Value} {x y : Int64} {I : MI} {J : MJ} {R : MR} {S : Sh} {Q : SkQ} : Wp 23 978 ls (.long y :: .long x :: st) I J R S Q = Wp 23 979 ls (.long (x &&& y) :: st) I J R S Q := o_land k_L_law_978
theorem k_L_law_979 : decode (sk_by 23) 979 = .ok (.lor, 1) := by decide +kernel
theorem x_L_law_979 {ls st : List Value} {x y : Int64} {I : MI} {J : MJ} {R : MR} {S : Sh} {Q : SkQ} : Wp 23 979 ls (.long y :: .long x :: st) I J R S Q = Wp 23 980 ls (.long (x ||| y) :: st) I J R S Q := o_lor k_L_law_979
theorem k_L_law_980 : decode (sk_by 23) 980 = .ok (.aload_n 0, 1) := by decide +kernel
theorem x_L_law_980 {st : List Value} {l1 : Nat} {l2 : Nat} {l3 : Nat} {l4 : Int32} {l5 : Int32} {l6 : Value} {x : Nat} {I : MI} {J : MJ} {R : MR} {S : Sh} {Q : SkQ} : Wp 23 980 [.ref x, .ref l1, .ref l2, .ref l3, .int l4, .int l5, l6, nov] st I J R S Q = Wp 23 981 [.ref x, .ref l1, .ref l2, .ref l3, .int l4, .int l5, l6, nov] (.ref x :: st) I J R S Q := o_aload_n rfl k_L_law_980
theorem k_L_law_981 : decode (sk_by 23) 981 = .ok (.iload 4, 2) := by decide +kernel
theorem x_L_law_981 {st : List Value} {l0 : Nat} {l1 : Nat} {l2 : Nat} {l3 : Nat} {l5 : Int32} {l6 : Value} {x : Int32} {I : MI} {J : MJ} {R : MR} {S : Sh} {Q : SkQ} : Wp 23 981 [.ref l0, .ref l1, .ref l2, .ref l3, .int x, .int l5, l6, nov] st I J R S Q = Wp 23 983 [.ref l0, .ref l1, .ref l2, .ref l3, .int x, .int l5, l6, nov] (.int x :: st) I J R S Q := o_iload rfl k_L_law_981
theorem k_L_law_983 : decode (sk_by 23) 983 = .ok (.iconst 3, 1) := by decide +kernel
theorem x_L_law_983 {ls st : List Value} {I : MI} {J : MJ} {R : MR} {S : Sh} {Q : SkQ} : Wp 23 983 ls st I J R S Q = Wp 23 984 ls (.int 3 :: st) I J R S Q := o_const (by decide) k_L_law_983
theorem k_L_law_984 : decode (sk_by 23) 984 = .ok (.iadd, 1) := by decide +kernel
theorem x_L_law_984 {ls st : List Value} {x y : Int32} {I : MI} {J : MJ} {R : MR} {S : Sh} {Q : SkQ} : Wp 23 984 ls (.int y :: .int x :: st) I J R S Q = Wp 23 985 ls (.int (x + y) :: st) I J R S Q := o_iadd k_L_law_984
theorem k_L_law_985 : decode (sk_by 23) 985 = .ok (.iaload, 1) := by decide +kernel
theorem x_L_law_985 {ls st : List Value} {a : Nat} {i : Int32} {I : MI} {J : MJ} {R : MR} {S : Sh} {Q : SkQ} (ha : S.1 a = 30) (hi : inb i (S.2.1 a) = true) : Wp 23 985 ls (.int i :: .ref a :: st) I J R S Q = Wp 23 986 ls (.int (I a (ix i)) :: st) I J R S Q := o_iaload k_L_law_985 ha hi
theorem x_L_law_985C {ls st : List Value} {a : Nat} {i : Int32} {I : MI} {J : MJ} {R : MR} {S : Sh} {Q : SkQ} (ha : S.1 a = 40) (hi : inb i (S.2.1 a) = true) : Wp 23 985 ls (.int i :: .ref a :: st) I J R S Q = Wp 23 986 ls (.int (I a (ix i)) :: st) I J R S Q := o_ialoadC k_L_law_985 ha hi
theorem k_L_law_986 : decode (sk_by 23) 986 = .ok (.invokevirtual 138, 3) := by decide +kernel
theorem x_L_law_986 {ls : List Value} {a0 : Nat} {a1 : Int64} {a2 : Int32} {I : MI} {J : MJ} {R : MR} {S : Sh} {Q : SkQ} (ha : S.1 a0 = 8) : Wp 23 986 ls (.int a2 :: .long a1 :: .ref a0 :: []) I J R S Q = Wp 219 0 [.ref a0, .long a1, nov, .int a2] [] I J R S (Ret 23 986 989 219 ls [] Q) := o_call (as := [.ref a0, .long a1, .int a2]) (rest := []) (show sk_lkM (sk_cl 23) 138 = some 219 by decide +kernel) (by decide) (by decide) (by (decide +kernel)) (ins := .invokevirtual 138) (by (decide +kernel)) k_L_law_986 rfl (show 3 = sk_na 219 by (decide +kernel)) (Nat.le_of_ble_eq_true rfl) (Nat.le_trans (show (argL [.ref a0, .long a1, .int a2]).length ≤ 4 from Nat.le_of_ble_eq_true rfl) (by (decide +kernel))) (rcv_of (by (decide +kernel)) (by decide) ha)
theorem k_L_law_989 : decode (sk_by 23) 989 = .ok (.istore 6, 2) := by decide +kernel
theorem x_L_law_989 {st : List Value} {l0 : Nat} {l1 : Nat} {l2 : Nat} {l3 : Nat} {l4 : Int32} {l5 : Int32} {l6 : Value} {x : Int32} {I : MI} {J : MJ} {R : MR} {S : Sh} {Q : SkQ} : Wp 23 989 [.ref l0, .ref l1, .ref l2, .ref l3, .int l4, .int l5, l6, nov] (.int x :: st) I J R S Q = Wp 23 991 [.ref l0, .ref l1, .ref l2, .ref l3, .int l4, .int l5, .int x, nov] st I J R S Q := o_istore (Nat.le_of_ble_eq_true rfl) rfl k_L_law_989
theorem k_L_law_991 : decode (sk_by 23) 991 = .ok (.aload_n 2, 1) := by decide +kernel
theorem x_L_law_991 {st : List Value} {l0 : Nat} {l1 : Nat} {l3 : Nat} {l4 : Int32} {l5 : Int32} {l6 : Int32} {x : Nat} {I : MI} {J : MJ} {R : MR} {S : Sh} {Q : SkQ} : Wp 23 991 [.ref l0, .ref l1, .ref x, .ref l3, .int l4, .int l5, .int l6, nov] st I J R S Q = Wp 23 992 [.ref l0, .ref l1, .ref x, .ref l3, .int l4, .int l5, .int l6, nov] (.ref x :: st) I J R S Q := o_aload_n rfl k_L_law_991
theorem k_L_law_992 : decode (sk_by 23) 992 = .ok (.invokevirtual 105, 3) := by decide +kernel
theorem x_L_law_992 {ls : List Value} {a0 : Nat} {I : MI} {J : MJ} {R : MR} {S : Sh} {Q : SkQ} (ha : S.1 a0 = 8) : Wp 23 992 ls (.ref a0 :: []) I J R S Q = Wp 174 0 [.ref a0] [] I J R S (Ret 23 992 995 174 ls [] Q) := o_call (as := [.ref a0]) (rest := []) (show sk_lkM (sk_cl 23) 105 = some 174 by decide +kernel) (by decide) (by decide) (by (decide +kernel)) (ins := .invokevirtual 105) (by (decide +kernel)) k_L_law_992 rfl (show 1 = sk_na 174 by (decide +kernel)) (Nat.le_of_ble_eq_true rfl) (Nat.le_trans (show (argL [.ref a0]).length ≤ 1 from Nat.le_of_ble_eq_true rfl) (by (decide +kernel))) (rcv_of (by (decide +kernel)) (by decide) ha)
theorem k_L_law_995 : decode (sk_by 23) 995 = .ok (.iload 5, 2) := by decide +kernel
theorem x_L_law_995 {st : List Value} {l0 : Nat} {l1 : Nat} {l2 : Nat} {l3 : Nat} {l4 : Int32} {l6 : Int32} {x : Int32} {I : MI} {J : MJ} {R : MR} {S : Sh} {Q : SkQ} : Wp 23 995 [.ref l0, .ref l1, .ref l2, .ref l3, .int l4, .int x, .int l6, nov] st I J R S Q = Wp 23 997 [.ref l0, .ref l1, .ref l2, .ref l3, .int l4, .int x, .int l6, nov] (.int x :: st) I J R S Q := o_iload rfl k_L_law_995
theorem k_L_law_997 : decode (sk_by 23) 997 = .ok (.if_icmp .eq 5, 3) := by decide +kernel
theorem x_L_law_997 {ls st : List Value} {x y : Int32} {I : MI} {J : MJ} {R : MR} {S : Sh} {Q : SkQ} : Wp 23 997 ls (.int y :: .int x :: st) I J R S Q = if x = y then Wp 23 1002 ls st I J R S Q else Wp 23 1000 ls st I J R S Q := o_ic_eq rfl rfl k_L_law_997
theorem k_L_law_1000 : decode (sk_by 23) 1000 = .ok (.iconst 0, 1) := by decide +kernel
theorem x_L_law_1000 {ls st : List Value} {I : MI} {J : MJ} {R : MR} {S : Sh} {Q : SkQ} : Wp 23 1000 ls st I J R S Q = Wp 23 1001 ls (.int 0 :: st) I J R S Q := o_const (by decide) k_L_law_1000
theorem k_L_law_1001 : decode (sk_by 23) 1001 = .ok (.ireturn, 1) := by decide +kernel
theorem x_L_law_1001 {ls : List Value} {v : Int32} {I : MI} {J : MJ} {R : MR} {S : Sh} {Q : SkQ} (h : rOk (some .boolean) v = true) : Wp 23 1001 ls [.int v] I J R S Q = Q 0 (some (.int v)) I J R S := o_ireturn k_L_law_1001 (by rw [show sk_rt 23 = some .boolean from rfl]; exact h)
theorem k_L_law_1002 : decode (sk_by 23) 1002 = .ok (.iload 5, 2) := by decide +kernel
theorem x_L_law_1002 {st : List Value} {l0 : Nat} {l1 : Nat} {l2 : Nat} {l3 : Nat} {l4 : Int32} {l6 : Int32} {x : Int32} {I : MI} {J : MJ} {R : MR} {S : Sh} {Q : SkQ} : Wp 23 1002 [.ref l0, .ref l1, .ref l2, .ref l3, .int l4, .int x, .int l6, nov] st I J R S Q = Wp 23 1004 [.ref l0, .ref l1, .ref l2, .ref l3, .int l4, .int x, .int l6, nov] (.int x :: st) I J R S Q := o_iload rfl k_L_law_1002
theorem k_L_law_1004 : decode (sk_by 23) 1004 = .ok (.ifCond .ne 15, 3) := by decide +kernel
theorem x_L_law_1004 {ls st : List Value} {x : Int32} {I : MI} {J : MJ} {R : MR} {S : Sh} {Q : SkQ} : Wp 23 1004 ls (.int x :: st) I J R S Q = if x = 0 then Wp 23 1007 ls st I J R S Q else Wp 23 1019 ls st I J R S Q := o_if_ne rfl rfl k_L_law_1004
theorem k_L_law_1007 : decode (sk_by 23) 1007 = .ok (.aload_n 3, 1) := by decide +kernel
theorem x_L_law_1007 {st : List Value} {l0 : Nat} {l1 : Nat} {l2 : Nat} {l4 : Int32} {l5 : Int32} {l6 : Int32} {x : Nat} {I : MI} {J : MJ} {R : MR} {S : Sh} {Q : SkQ} : Wp 23 1007 [.ref l0, .ref l1, .ref l2, .ref x, .int l4, .int l5, .int l6, nov] st I J R S Q = Wp 23 1008 [.ref l0, .ref l1, .ref l2, .ref x, .int l4, .int l5, .int l6, nov] (.ref x :: st) I J R S Q := o_aload_n rfl k_L_law_1007
theorem k_L_law_1008 : decode (sk_by 23) 1008 = .ok (.iconst 0, 1) := by decide +kernel
theorem x_L_law_1008 {ls st : List Value} {I : MI} {J : MJ} {R : MR} {S : Sh} {Q : SkQ} : Wp 23 1008 ls st I J R S Q = Wp 23 1009 ls (.int 0 :: st) I J R S Q := o_const (by decide) k_L_law_1008
theorem k_L_law_1009 : decode (sk_by 23) 1009 = .ok (.laload, 1) := by decide +kernel
theorem x_L_law_1009 {ls st : List Value} {a : Nat} {i : Int32} {I : MI} {J : MJ} {R : MR} {S : Sh} {Q : SkQ} (ha : S.1 a = 31) (hi : inb i (S.2.1 a) = true) : Wp 23 1009 ls (.int i :: .ref a :: st) I J R S Q = Wp 23 1010 ls (.long (J a (ix i)) :: st) I J R S Q := o_laload k_L_law_1009 ha hi
theorem k_L_law_1010 : decode (sk_by 23) 1010 = .ok (.iload 6, 2) := by decide +kernel
theorem x_L_law_1010 {st : List Value} {l0 : Nat} {l1 : Nat} {l2 : Nat} {l3 : Nat} {l4 : Int32} {l5 : Int32} {x : Int32} {I : MI} {J : MJ} {R : MR} {S : Sh} {Q : SkQ} : Wp 23 1010 [.ref l0, .ref l1, .ref l2, .ref l3, .int l4, .int l5, .int x, nov] st I J R S Q = Wp 23 1012 [.ref l0, .ref l1, .ref l2, .ref l3, .int l4, .int l5, .int x, nov] (.int x :: st) I J R S Q := o_iload rfl k_L_law_1010
theorem k_L_law_1012 : decode (sk_by 23) 1012 = .ok (.i2l, 1) := by decide +kernel
theorem x_L_law_1012 {ls st : List Value} {x : Int32} {I : MI} {J : MJ} {R : MR} {S : Sh} {Q : SkQ} : Wp 23 1012 ls (.int x :: st) I J R S Q = Wp 23 1013 ls (.long x.toInt64 :: st) I J R S Q := o_i2l k_L_law_1012
theorem k_L_law_1013 : decode (sk_by 23) 1013 = .ok (.lcmp, 1) := by decide +kernel
theorem x_L_law_1013 {ls st : List Value} {x y : Int64} {I : MI} {J : MJ} {R : MR} {S : Sh} {Q : SkQ} : Wp 23 1013 ls (.long y :: .long x :: st) I J R S Q = Wp 23 1014 ls (.int (lg_cmp x y) :: st) I J R S Q := o_lcmp k_L_law_1013
theorem k_L_law_1014 : decode (sk_by 23) 1014 = .ok (.ifCond .eq 5, 3) := by decide +kernel
theorem x_L_law_1014 {ls st : List Value} {x : Int32} {I : MI} {J : MJ} {R : MR} {S : Sh} {Q : SkQ} : Wp 23 1014 ls (.int x :: st) I J R S Q = if x = 0 then Wp 23 1019 ls st I J R S Q else Wp 23 1017 ls st I J R S Q := o_if_eq rfl rfl k_L_law_1014
theorem k_L_law_1017 : decode (sk_by 23) 1017 = .ok (.iconst 0, 1) := by decide +kernel
theorem x_L_law_1017 {ls st : List Value} {I : MI} {J : MJ} {R : MR} {S : Sh} {Q : SkQ} : Wp 23 1017 ls st I J R S Q = Wp 23 1018 ls (.int 0 :: st) I J R S Q := o_const (by decide) k_L_law_1017
theorem k_L_law_1018 : decode (sk_by 23) 1018 = .ok (.ireturn, 1) := by decide +kernel
theorem x_L_law_1018 {ls : List Value} {v : Int32} {I : MI} {J : MJ} {R : MR} {S : Sh} {Q : SkQ} (h : rOk (some .boolean) v = true) : Wp 23 1018 ls [.int v] I J R S Q = Q 0 (some (.int v)) I J R S := o_ireturn k_L_law_1018 (by rw [show sk_rt 23 = some .boolean from rfl]; exact h)
theorem k_L_law_1019 : decode (sk_by 23) 1019 = .ok (.goto 1169, 3) := by decide +kernel
theorem x_L_law_1019 {ls st : List Value} {I : MI} {J : MJ} {R : MR} {S : Sh} {Q : SkQ} : Wp 23 1019 ls st I J R S Q = Wp 23 2188 ls st I J R S Q := o_goto rfl rfl k_L_law_1019
theorem k_L_law_1022 : decode (sk_by 23) 1022 = .ok (.aload_n 1, 1) := by decide +kernel
theorem x_L_law_1022 {st : List Value} {l0 : Nat} {l2 : Nat} {l3 : Nat} {l4 : Int32} {l5 : Value} {l6 : Value} {x : Nat} {I : MI} {J : MJ} {R : MR} {S : Sh} {Q : SkQ} : Wp 23 1022 [.ref l0, .ref x, .ref l2, .ref l3, .int l4, l5, l6, nov] st I J R S Q = Wp 23 1023 [.ref l0, .ref x, .ref l2, .ref l3, .int l4, l5, l6, nov] (.ref x :: st) I J R S Q := o_aload_n rfl k_L_law_1022
theorem k_L_law_1023 : decode (sk_by 23) 1023 = .ok (.aload_n 0, 1) := by decide +kernel
theorem x_L_law_1023 {st : List Value} {l1 : Nat} {l2 : Nat} {l3 : Nat} {l4 : Int32} {l5 : Value} {l6 : Value} {x : Nat} {I : MI} {J : MJ} {R : MR} {S : Sh} {Q : SkQ} : Wp 23 1023 [.ref x, .ref l1, .ref l2, .ref l3, .int l4, l5, l6, nov] st I J R S Q = Wp 23 1024 [.ref x, .ref l1, .ref l2, .ref l3, .int l4, l5, l6, nov] (.ref x :: st) I J R S Q := o_aload_n rfl k_L_law_1023
theorem k_L_law_1024 : decode (sk_by 23) 1024 = .ok (.iload 4, 2) := by decide +kernel
theorem x_L_law_1024 {st : List Value} {l0 : Nat} {l1 : Nat} {l2 : Nat} {l3 : Nat} {l5 : Value} {l6 : Value} {x : Int32} {I : MI} {J : MJ} {R : MR} {S : Sh} {Q : SkQ} : Wp 23 1024 [.ref l0, .ref l1, .ref l2, .ref l3, .int x, l5, l6, nov] st I J R S Q = Wp 23 1026 [.ref l0, .ref l1, .ref l2, .ref l3, .int x, l5, l6, nov] (.int x :: st) I J R S Q := o_iload rfl k_L_law_1024
theorem k_L_law_1026 : decode (sk_by 23) 1026 = .ok (.iconst 1, 1) := by decide +kernel
theorem x_L_law_1026 {ls st : List Value} {I : MI} {J : MJ} {R : MR} {S : Sh} {Q : SkQ} : Wp 23 1026 ls st I J R S Q = Wp 23 1027 ls (.int 1 :: st) I J R S Q := o_const (by decide) k_L_law_1026
theorem k_L_law_1027 : decode (sk_by 23) 1027 = .ok (.iadd, 1) := by decide +kernel
theorem x_L_law_1027 {ls st : List Value} {x y : Int32} {I : MI} {J : MJ} {R : MR} {S : Sh} {Q : SkQ} : Wp 23 1027 ls (.int y :: .int x :: st) I J R S Q = Wp 23 1028 ls (.int (x + y) :: st) I J R S Q := o_iadd k_L_law_1027
theorem k_L_law_1028 : decode (sk_by 23) 1028 = .ok (.iaload, 1) := by decide +kernel
theorem x_L_law_1028 {ls st : List Value} {a : Nat} {i : Int32} {I : MI} {J : MJ} {R : MR} {S : Sh} {Q : SkQ} (ha : S.1 a = 30) (hi : inb i (S.2.1 a) = true) : Wp 23 1028 ls (.int i :: .ref a :: st) I J R S Q = Wp 23 1029 ls (.int (I a (ix i)) :: st) I J R S Q := o_iaload k_L_law_1028 ha hi
theorem x_L_law_1028C {ls st : List Value} {a : Nat} {i : Int32} {I : MI} {J : MJ} {R : MR} {S : Sh} {Q : SkQ} (ha : S.1 a = 40) (hi : inb i (S.2.1 a) = true) : Wp 23 1028 ls (.int i :: .ref a :: st) I J R S Q = Wp 23 1029 ls (.int (I a (ix i)) :: st) I J R S Q := o_ialoadC k_L_law_1028 ha hi
theorem k_L_law_1029 : decode (sk_by 23) 1029 = .ok (.ifCond .eq 7, 3) := by decide +kernel
theorem x_L_law_1029 {ls st : List Value} {x : Int32} {I : MI} {J : MJ} {R : MR} {S : Sh} {Q : SkQ} : Wp 23 1029 ls (.int x :: st) I J R S Q = if x = 0 then Wp 23 1036 ls st I J R S Q else Wp 23 1032 ls st I J R S Q := o_if_eq rfl rfl k_L_law_1029
theorem k_L_law_1032 : decode (sk_by 23) 1032 = .ok (.iconst 1, 1) := by decide +kernel
theorem x_L_law_1032 {ls st : List Value} {I : MI} {J : MJ} {R : MR} {S : Sh} {Q : SkQ} : Wp 23 1032 ls st I J R S Q = Wp 23 1033 ls (.int 1 :: st) I J R S Q := o_const (by decide) k_L_law_1032
theorem k_L_law_1033 : decode (sk_by 23) 1033 = .ok (.goto 4, 3) := by decide +kernel
theorem x_L_law_1033 {ls st : List Value} {I : MI} {J : MJ} {R : MR} {S : Sh} {Q : SkQ} : Wp 23 1033 ls st I J R S Q = Wp 23 1037 ls st I J R S Q := o_goto rfl rfl k_L_law_1033
theorem k_L_law_1036 : decode (sk_by 23) 1036 = .ok (.iconst 0, 1) := by decide +kernel
theorem x_L_law_1036 {ls st : List Value} {I : MI} {J : MJ} {R : MR} {S : Sh} {Q : SkQ} : Wp 23 1036 ls st I J R S Q = Wp 23 1037 ls (.int 0 :: st) I J R S Q := o_const (by decide) k_L_law_1036
theorem k_L_law_1037 : decode (sk_by 23) 1037 = .ok (.aload_n 0, 1) := by decide +kernel
theorem x_L_law_1037 {st : List Value} {l1 : Nat} {l2 : Nat} {l3 : Nat} {l4 : Int32} {l5 : Value} {l6 : Value} {x : Nat} {I : MI} {J : MJ} {R : MR} {S : Sh} {Q : SkQ} : Wp 23 1037 [.ref x, .ref l1, .ref l2, .ref l3, .int l4, l5, l6, nov] st I J R S Q = Wp 23 1038 [.ref x, .ref l1, .ref l2, .ref l3, .int l4, l5, l6, nov] (.ref x :: st) I J R S Q := o_aload_n rfl k_L_law_1037
theorem k_L_law_1038 : decode (sk_by 23) 1038 = .ok (.iload 4, 2) := by decide +kernel
theorem x_L_law_1038 {st : List Value} {l0 : Nat} {l1 : Nat} {l2 : Nat} {l3 : Nat} {l5 : Value} {l6 : Value} {x : Int32} {I : MI} {J : MJ} {R : MR} {S : Sh} {Q : SkQ} : Wp 23 1038 [.ref l0, .ref l1, .ref l2, .ref l3, .int x, l5, l6, nov] st I J R S Q = Wp 23 1040 [.ref l0, .ref l1, .ref l2, .ref l3, .int x, l5, l6, nov] (.int x :: st) I J R S Q := o_iload rfl k_L_law_1038
theorem k_L_law_1040 : decode (sk_by 23) 1040 = .ok (.iconst 2, 1) := by decide +kernel
theorem x_L_law_1040 {ls st : List Value} {I : MI} {J : MJ} {R : MR} {S : Sh} {Q : SkQ} : Wp 23 1040 ls st I J R S Q = Wp 23 1041 ls (.int 2 :: st) I J R S Q := o_const (by decide) k_L_law_1040
theorem k_L_law_1041 : decode (sk_by 23) 1041 = .ok (.iadd, 1) := by decide +kernel
theorem x_L_law_1041 {ls st : List Value} {x y : Int32} {I : MI} {J : MJ} {R : MR} {S : Sh} {Q : SkQ} : Wp 23 1041 ls (.int y :: .int x :: st) I J R S Q = Wp 23 1042 ls (.int (x + y) :: st) I J R S Q := o_iadd k_L_law_1041
theorem k_L_law_1042 : decode (sk_by 23) 1042 = .ok (.iaload, 1) := by decide +kernel
theorem x_L_law_1042 {ls st : List Value} {a : Nat} {i : Int32} {I : MI} {J : MJ} {R : MR} {S : Sh} {Q : SkQ} (ha : S.1 a = 30) (hi : inb i (S.2.1 a) = true) : Wp 23 1042 ls (.int i :: .ref a :: st) I J R S Q = Wp 23 1043 ls (.int (I a (ix i)) :: st) I J R S Q := o_iaload k_L_law_1042 ha hi
theorem x_L_law_1042C {ls st : List Value} {a : Nat} {i : Int32} {I : MI} {J : MJ} {R : MR} {S : Sh} {Q : SkQ} (ha : S.1 a = 40) (hi : inb i (S.2.1 a) = true) : Wp 23 1042 ls (.int i :: .ref a :: st) I J R S Q = Wp 23 1043 ls (.int (I a (ix i)) :: st) I J R S Q := o_ialoadC k_L_law_1042 ha hi
theorem k_L_law_1043 : decode (sk_by 23) 1043 = .ok (.aload_n 3, 1) := by decide +kernel
theorem x_L_law_1043 {st : List Value} {l0 : Nat} {l1 : Nat} {l2 : Nat} {l4 : Int32} {l5 : Value} {l6 : Value} {x : Nat} {I : MI} {J : MJ} {R : MR} {S : Sh} {Q : SkQ} : Wp 23 1043 [.ref l0, .ref l1, .ref l2, .ref x, .int l4, l5, l6, nov] st I J R S Q = Wp 23 1044 [.ref l0, .ref l1, .ref l2, .ref x, .int l4, l5, l6, nov] (.ref x :: st) I J R S Q := o_aload_n rfl k_L_law_1043
theorem k_L_law_1044 : decode (sk_by 23) 1044 = .ok (.invokestatic 139, 3) := by decide +kernel
theorem x_L_law_1044 {ls : List Value} {a0 : Nat} {a1 : Int32} {a2 : Int32} {a3 : Nat} {I : MI} {J : MJ} {R : MR} {S : Sh} {Q : SkQ} : Wp 23 1044 ls (.ref a3 :: .int a2 :: .int a1 :: .ref a0 :: []) I J R S Q = Wp 10 0 [.ref a0, .int a1, .int a2, .ref a3, nov] [] I J R S (Ret 23 1044 1047 10 ls [] Q) := o_call (as := [.ref a0, .int a1, .int a2, .ref a3]) (rest := []) (show sk_lkM (sk_cl 23) 139 = some 10 by decide +kernel) (by decide) (by decide) (by (decide +kernel)) (ins := .invokestatic 139) (by (decide +kernel)) k_L_law_1044 rfl (show 4 = sk_na 10 by (decide +kernel)) (Nat.le_of_ble_eq_true rfl) (Nat.le_trans (show (argL [.ref a0, .int a1, .int a2, .ref a3]).length ≤ 5 from Nat.le_of_ble_eq_true rfl) (by (decide +kernel))) rfl
theorem k_L_law_1047 : decode (sk_by 23) 1047 = .ok (.istore 5, 2) := by decide +kernel
theorem x_L_law_1047 {st : List Value} {l0 : Nat} {l1 : Nat} {l2 : Nat} {l3 : Nat} {l4 : Int32} {l5 : Value} {l6 : Value} {x : Int32} {I : MI} {J : MJ} {R : MR} {S : Sh} {Q : SkQ} : Wp 23 1047 [.ref l0, .ref l1, .ref l2, .ref l3, .int l4, l5, l6, nov] (.int x :: st) I J R S Q = Wp 23 1049 [.ref l0, .ref l1, .ref l2, .ref l3, .int l4, .int x, l6, nov] st I J R S Q := o_istore (Nat.le_of_ble_eq_true rfl) rfl k_L_law_1047
theorem k_L_law_1049 : decode (sk_by 23) 1049 = .ok (.aload_n 2, 1) := by decide +kernel
theorem x_L_law_1049 {st : List Value} {l0 : Nat} {l1 : Nat} {l3 : Nat} {l4 : Int32} {l5 : Int32} {l6 : Value} {x : Nat} {I : MI} {J : MJ} {R : MR} {S : Sh} {Q : SkQ} : Wp 23 1049 [.ref l0, .ref l1, .ref x, .ref l3, .int l4, .int l5, l6, nov] st I J R S Q = Wp 23 1050 [.ref l0, .ref l1, .ref x, .ref l3, .int l4, .int l5, l6, nov] (.ref x :: st) I J R S Q := o_aload_n rfl k_L_law_1049
theorem k_L_law_1050 : decode (sk_by 23) 1050 = .ok (.aload_n 0, 1) := by decide +kernel
theorem x_L_law_1050 {st : List Value} {l1 : Nat} {l2 : Nat} {l3 : Nat} {l4 : Int32} {l5 : Int32} {l6 : Value} {x : Nat} {I : MI} {J : MJ} {R : MR} {S : Sh} {Q : SkQ} : Wp 23 1050 [.ref x, .ref l1, .ref l2, .ref l3, .int l4, .int l5, l6, nov] st I J R S Q = Wp 23 1051 [.ref x, .ref l1, .ref l2, .ref l3, .int l4, .int l5, l6, nov] (.ref x :: st) I J R S Q := o_aload_n rfl k_L_law_1050
theorem k_L_law_1051 : decode (sk_by 23) 1051 = .ok (.iload 4, 2) := by decide +kernel
theorem x_L_law_1051 {st : List Value} {l0 : Nat} {l1 : Nat} {l2 : Nat} {l3 : Nat} {l5 : Int32} {l6 : Value} {x : Int32} {I : MI} {J : MJ} {R : MR} {S : Sh} {Q : SkQ} : Wp 23 1051 [.ref l0, .ref l1, .ref l2, .ref l3, .int x, .int l5, l6, nov] st I J R S Q = Wp 23 1053 [.ref l0, .ref l1, .ref l2, .ref l3, .int x, .int l5, l6, nov] (.int x :: st) I J R S Q := o_iload rfl k_L_law_1051
theorem k_L_law_1053 : decode (sk_by 23) 1053 = .ok (.iconst 1, 1) := by decide +kernel
theorem x_L_law_1053 {ls st : List Value} {I : MI} {J : MJ} {R : MR} {S : Sh} {Q : SkQ} : Wp 23 1053 ls st I J R S Q = Wp 23 1054 ls (.int 1 :: st) I J R S Q := o_const (by decide) k_L_law_1053
theorem k_L_law_1054 : decode (sk_by 23) 1054 = .ok (.iadd, 1) := by decide +kernel
theorem x_L_law_1054 {ls st : List Value} {x y : Int32} {I : MI} {J : MJ} {R : MR} {S : Sh} {Q : SkQ} : Wp 23 1054 ls (.int y :: .int x :: st) I J R S Q = Wp 23 1055 ls (.int (x + y) :: st) I J R S Q := o_iadd k_L_law_1054
theorem k_L_law_1055 : decode (sk_by 23) 1055 = .ok (.iaload, 1) := by decide +kernel
theorem x_L_law_1055 {ls st : List Value} {a : Nat} {i : Int32} {I : MI} {J : MJ} {R : MR} {S : Sh} {Q : SkQ} (ha : S.1 a = 30) (hi : inb i (S.2.1 a) = true) : Wp 23 1055 ls (.int i :: .ref a :: st) I J R S Q = Wp 23 1056 ls (.int (I a (ix i)) :: st) I J R S Q := o_iaload k_L_law_1055 ha hi
theorem x_L_law_1055C {ls st : List Value} {a : Nat} {i : Int32} {I : MI} {J : MJ} {R : MR} {S : Sh} {Q : SkQ} (ha : S.1 a = 40) (hi : inb i (S.2.1 a) = true) : Wp 23 1055 ls (.int i :: .ref a :: st) I J R S Q = Wp 23 1056 ls (.int (I a (ix i)) :: st) I J R S Q := o_ialoadC k_L_law_1055 ha hi
theorem k_L_law_1056 : decode (sk_by 23) 1056 = .ok (.ifCond .eq 7, 3) := by decide +kernel
theorem x_L_law_1056 {ls st : List Value} {x : Int32} {I : MI} {J : MJ} {R : MR} {S : Sh} {Q : SkQ} : Wp 23 1056 ls (.int x :: st) I J R S Q = if x = 0 then Wp 23 1063 ls st I J R S Q else Wp 23 1059 ls st I J R S Q := o_if_eq rfl rfl k_L_law_1056
theorem k_L_law_1059 : decode (sk_by 23) 1059 = .ok (.iconst 1, 1) := by decide +kernel
theorem x_L_law_1059 {ls st : List Value} {I : MI} {J : MJ} {R : MR} {S : Sh} {Q : SkQ} : Wp 23 1059 ls st I J R S Q = Wp 23 1060 ls (.int 1 :: st) I J R S Q := o_const (by decide) k_L_law_1059
theorem k_L_law_1060 : decode (sk_by 23) 1060 = .ok (.goto 4, 3) := by decide +kernel
theorem x_L_law_1060 {ls st : List Value} {I : MI} {J : MJ} {R : MR} {S : Sh} {Q : SkQ} : Wp 23 1060 ls st I J R S Q = Wp 23 1064 ls st I J R S Q := o_goto rfl rfl k_L_law_1060
theorem k_L_law_1063 : decode (sk_by 23) 1063 = .ok (.iconst 0, 1) := by decide +kernel
theorem x_L_law_1063 {ls st : List Value} {I : MI} {J : MJ} {R : MR} {S : Sh} {Q : SkQ} : Wp 23 1063 ls st I J R S Q = Wp 23 1064 ls (.int 0 :: st) I J R S Q := o_const (by decide) k_L_law_1063
theorem k_L_law_1064 : decode (sk_by 23) 1064 = .ok (.aload_n 0, 1) := by decide +kernel
theorem x_L_law_1064 {st : List Value} {l1 : Nat} {l2 : Nat} {l3 : Nat} {l4 : Int32} {l5 : Int32} {l6 : Value} {x : Nat} {I : MI} {J : MJ} {R : MR} {S : Sh} {Q : SkQ} : Wp 23 1064 [.ref x, .ref l1, .ref l2, .ref l3, .int l4, .int l5, l6, nov] st I J R S Q = Wp 23 1065 [.ref x, .ref l1, .ref l2, .ref l3, .int l4, .int l5, l6, nov] (.ref x :: st) I J R S Q := o_aload_n rfl k_L_law_1064
theorem k_L_law_1065 : decode (sk_by 23) 1065 = .ok (.iload 4, 2) := by decide +kernel
theorem x_L_law_1065 {st : List Value} {l0 : Nat} {l1 : Nat} {l2 : Nat} {l3 : Nat} {l5 : Int32} {l6 : Value} {x : Int32} {I : MI} {J : MJ} {R : MR} {S : Sh} {Q : SkQ} : Wp 23 1065 [.ref l0, .ref l1, .ref l2, .ref l3, .int x, .int l5, l6, nov] st I J R S Q = Wp 23 1067 [.ref l0, .ref l1, .ref l2, .ref l3, .int x, .int l5, l6, nov] (.int x :: st) I J R S Q := o_iload rfl k_L_law_1065
theorem k_L_law_1067 : decode (sk_by 23) 1067 = .ok (.iconst 2, 1) := by decide +kernel
theorem x_L_law_1067 {ls st : List Value} {I : MI} {J : MJ} {R : MR} {S : Sh} {Q : SkQ} : Wp 23 1067 ls st I J R S Q = Wp 23 1068 ls (.int 2 :: st) I J R S Q := o_const (by decide) k_L_law_1067
theorem k_L_law_1068 : decode (sk_by 23) 1068 = .ok (.iadd, 1) := by decide +kernel
theorem x_L_law_1068 {ls st : List Value} {x y : Int32} {I : MI} {J : MJ} {R : MR} {S : Sh} {Q : SkQ} : Wp 23 1068 ls (.int y :: .int x :: st) I J R S Q = Wp 23 1069 ls (.int (x + y) :: st) I J R S Q := o_iadd k_L_law_1068
theorem k_L_law_1069 : decode (sk_by 23) 1069 = .ok (.iaload, 1) := by decide +kernel
theorem x_L_law_1069 {ls st : List Value} {a : Nat} {i : Int32} {I : MI} {J : MJ} {R : MR} {S : Sh} {Q : SkQ} (ha : S.1 a = 30) (hi : inb i (S.2.1 a) = true) : Wp 23 1069 ls (.int i :: .ref a :: st) I J R S Q = Wp 23 1070 ls (.int (I a (ix i)) :: st) I J R S Q := o_iaload k_L_law_1069 ha hi
theorem x_L_law_1069C {ls st : List Value} {a : Nat} {i : Int32} {I : MI} {J : MJ} {R : MR} {S : Sh} {Q : SkQ} (ha : S.1 a = 40) (hi : inb i (S.2.1 a) = true) : Wp 23 1069 ls (.int i :: .ref a :: st) I J R S Q = Wp 23 1070 ls (.int (I a (ix i)) :: st) I J R S Q := o_ialoadC k_L_law_1069 ha hi
theorem k_L_law_1070 : decode (sk_by 23) 1070 = .ok (.invokevirtual 142, 3) := by decide +kernel
theorem x_L_law_1070 {ls : List Value} {a0 : Nat} {a1 : Int32} {a2 : Int32} {I : MI} {J : MJ} {R : MR} {S : Sh} {Q : SkQ} (ha : S.1 a0 = 8) : Wp 23 1070 ls (.int a2 :: .int a1 :: .ref a0 :: []) I J R S Q = Wp 220 0 [.ref a0, .int a1, .int a2, nov] [] I J R S (Ret 23 1070 1073 220 ls [] Q) := o_call (as := [.ref a0, .int a1, .int a2]) (rest := []) (show sk_lkM (sk_cl 23) 142 = some 220 by decide +kernel) (by decide) (by decide) (by (decide +kernel)) (ins := .invokevirtual 142) (by (decide +kernel)) k_L_law_1070 rfl (show 3 = sk_na 220 by (decide +kernel)) (Nat.le_of_ble_eq_true rfl) (Nat.le_trans (show (argL [.ref a0, .int a1, .int a2]).length ≤ 4 from Nat.le_of_ble_eq_true rfl) (by (decide +kernel))) (rcv_of (by (decide +kernel)) (by decide) ha)
theorem k_L_law_1073 : decode (sk_by 23) 1073 = .ok (.lstore 6, 2) := by decide +kernel
theorem x_L_law_1073 {st : List Value} {l0 : Nat} {l1 : Nat} {l2 : Nat} {l3 : Nat} {l4 : Int32} {l5 : Int32} {l6 : Value} {x : Int64} {I : MI} {J : MJ} {R : MR} {S : Sh} {Q : SkQ} : Wp 23 1073 [.ref l0, .ref l1, .ref l2, .ref l3, .int l4, .int l5, l6, nov] (.long x :: st) I J R S Q = Wp 23 1075 [.ref l0, .ref l1, .ref l2, .ref l3, .int l4, .int l5, .long x, nov] st I J R S Q := o_lstore (Nat.le_of_ble_eq_true rfl) rfl k_L_law_1073
theorem k_L_law_1075 : decode (sk_by 23) 1075 = .ok (.aload_n 2, 1) := by decide +kernel
theorem x_L_law_1075 {st : List Value} {l0 : Nat} {l1 : Nat} {l3 : Nat} {l4 : Int32} {l5 : Int32} {l6 : Int64} {x : Nat} {I : MI} {J : MJ} {R : MR} {S : Sh} {Q : SkQ} : Wp 23 1075 [.ref l0, .ref l1, .ref x, .ref l3, .int l4, .int l5, .long l6, nov] st I J R S Q = Wp 23 1076 [.ref l0, .ref l1, .ref x, .ref l3, .int l4, .int l5, .long l6, nov] (.ref x :: st) I J R S Q := o_aload_n rfl k_L_law_1075
theorem k_L_law_1076 : decode (sk_by 23) 1076 = .ok (.invokevirtual 105, 3) := by decide +kernel
theorem x_L_law_1076 {ls : List Value} {a0 : Nat} {I : MI} {J : MJ} {R : MR} {S : Sh} {Q : SkQ} (ha : S.1 a0 = 8) : Wp 23 1076 ls (.ref a0 :: []) I J R S Q = Wp 174 0 [.ref a0] [] I J R S (Ret 23 1076 1079 174 ls [] Q) := o_call (as := [.ref a0]) (rest := []) (show sk_lkM (sk_cl 23) 105 = some 174 by decide +kernel) (by decide) (by decide) (by (decide +kernel)) (ins := .invokevirtual 105) (by (decide +kernel)) k_L_law_1076 rfl (show 1 = sk_na 174 by (decide +kernel)) (Nat.le_of_ble_eq_true rfl) (Nat.le_trans (show (argL [.ref a0]).length ≤ 1 from Nat.le_of_ble_eq_true rfl) (by (decide +kernel))) (rcv_of (by (decide +kernel)) (by decide) ha)
theorem k_L_law_1079 : decode (sk_by 23) 1079 = .ok (.iload 5, 2) := by decide +kernel
theorem x_L_law_1079 {st : List Value} {l0 : Nat} {l1 : Nat} {l2 : Nat} {l3 : Nat} {l4 : Int32} {l6 : Int64} {x : Int32} {I : MI} {J : MJ} {R : MR} {S : Sh} {Q : SkQ} : Wp 23 1079 [.ref l0, .ref l1, .ref l2, .ref l3, .int l4, .int x, .long l6, nov] st I J R S Q = Wp 23 1081 [.ref l0, .ref l1, .ref l2, .ref l3, .int l4, .int x, .long l6, nov] (.int x :: st) I J R S Q := o_iload rfl k_L_law_1079
theorem k_L_law_1081 : decode (sk_by 23) 1081 = .ok (.if_icmp .eq 5, 3) := by decide +kernel
theorem x_L_law_1081 {ls st : List Value} {x y : Int32} {I : MI} {J : MJ} {R : MR} {S : Sh} {Q : SkQ} : Wp 23 1081 ls (.int y :: .int x :: st) I J R S Q = if x = y then Wp 23 1086 ls st I J R S Q else Wp 23 1084 ls st I J R S Q := o_ic_eq rfl rfl k_L_law_1081
theorem k_L_law_1084 : decode (sk_by 23) 1084 = .ok (.iconst 0, 1) := by decide +kernel
theorem x_L_law_1084 {ls st : List Value} {I : MI} {J : MJ} {R : MR} {S : Sh} {Q : SkQ} : Wp 23 1084 ls st I J R S Q = Wp 23 1085 ls (.int 0 :: st) I J R S Q := o_const (by decide) k_L_law_1084
theorem k_L_law_1085 : decode (sk_by 23) 1085 = .ok (.ireturn, 1) := by decide +kernel
theorem x_L_law_1085 {ls : List Value} {v : Int32} {I : MI} {J : MJ} {R : MR} {S : Sh} {Q : SkQ} (h : rOk (some .boolean) v = true) : Wp 23 1085 ls [.int v] I J R S Q = Q 0 (some (.int v)) I J R S := o_ireturn k_L_law_1085 (by rw [show sk_rt 23 = some .boolean from rfl]; exact h)
theorem k_L_law_1086 : decode (sk_by 23) 1086 = .ok (.iload 5, 2) := by decide +kernel
theorem x_L_law_1086 {st : List Value} {l0 : Nat} {l1 : Nat} {l2 : Nat} {l3 : Nat} {l4 : Int32} {l6 : Int64} {x : Int32} {I : MI} {J : MJ} {R : MR} {S : Sh} {Q : SkQ} : Wp 23 1086 [.ref l0, .ref l1, .ref l2, .ref l3, .int l4, .int x, .long l6, nov] st I J R S Q = Wp 23 1088 [.ref l0, .ref l1, .ref l2, .ref l3, .int l4, .int x, .long l6, nov] (.int x :: st) I J R S Q := o_iload rfl k_L_law_1086
theorem k_L_law_1088 : decode (sk_by 23) 1088 = .ok (.ifCond .ne 14, 3) := by decide +kernel
theorem x_L_law_1088 {ls st : List Value} {x : Int32} {I : MI} {J : MJ} {R : MR} {S : Sh} {Q : SkQ} : Wp 23 1088 ls (.int x :: st) I J R S Q = if x = 0 then Wp 23 1091 ls st I J R S Q else Wp 23 1102 ls st I J R S Q := o_if_ne rfl rfl k_L_law_1088
theorem k_L_law_1091 : decode (sk_by 23) 1091 = .ok (.aload_n 3, 1) := by decide +kernel
theorem x_L_law_1091 {st : List Value} {l0 : Nat} {l1 : Nat} {l2 : Nat} {l4 : Int32} {l5 : Int32} {l6 : Int64} {x : Nat} {I : MI} {J : MJ} {R : MR} {S : Sh} {Q : SkQ} : Wp 23 1091 [.ref l0, .ref l1, .ref l2, .ref x, .int l4, .int l5, .long l6, nov] st I J R S Q = Wp 23 1092 [.ref l0, .ref l1, .ref l2, .ref x, .int l4, .int l5, .long l6, nov] (.ref x :: st) I J R S Q := o_aload_n rfl k_L_law_1091
theorem k_L_law_1092 : decode (sk_by 23) 1092 = .ok (.iconst 0, 1) := by decide +kernel
theorem x_L_law_1092 {ls st : List Value} {I : MI} {J : MJ} {R : MR} {S : Sh} {Q : SkQ} : Wp 23 1092 ls st I J R S Q = Wp 23 1093 ls (.int 0 :: st) I J R S Q := o_const (by decide) k_L_law_1092
theorem k_L_law_1093 : decode (sk_by 23) 1093 = .ok (.laload, 1) := by decide +kernel
theorem x_L_law_1093 {ls st : List Value} {a : Nat} {i : Int32} {I : MI} {J : MJ} {R : MR} {S : Sh} {Q : SkQ} (ha : S.1 a = 31) (hi : inb i (S.2.1 a) = true) : Wp 23 1093 ls (.int i :: .ref a :: st) I J R S Q = Wp 23 1094 ls (.long (J a (ix i)) :: st) I J R S Q := o_laload k_L_law_1093 ha hi
theorem k_L_law_1094 : decode (sk_by 23) 1094 = .ok (.lload 6, 2) := by decide +kernel
theorem x_L_law_1094 {st : List Value} {l0 : Nat} {l1 : Nat} {l2 : Nat} {l3 : Nat} {l4 : Int32} {l5 : Int32} {x : Int64} {I : MI} {J : MJ} {R : MR} {S : Sh} {Q : SkQ} : Wp 23 1094 [.ref l0, .ref l1, .ref l2, .ref l3, .int l4, .int l5, .long x, nov] st I J R S Q = Wp 23 1096 [.ref l0, .ref l1, .ref l2, .ref l3, .int l4, .int l5, .long x, nov] (.long x :: st) I J R S Q := o_lload rfl k_L_law_1094
theorem k_L_law_1096 : decode (sk_by 23) 1096 = .ok (.lcmp, 1) := by decide +kernel
theorem x_L_law_1096 {ls st : List Value} {x y : Int64} {I : MI} {J : MJ} {R : MR} {S : Sh} {Q : SkQ} : Wp 23 1096 ls (.long y :: .long x :: st) I J R S Q = Wp 23 1097 ls (.int (lg_cmp x y) :: st) I J R S Q := o_lcmp k_L_law_1096
theorem k_L_law_1097 : decode (sk_by 23) 1097 = .ok (.ifCond .eq 5, 3) := by decide +kernel
theorem x_L_law_1097 {ls st : List Value} {x : Int32} {I : MI} {J : MJ} {R : MR} {S : Sh} {Q : SkQ} : Wp 23 1097 ls (.int x :: st) I J R S Q = if x = 0 then Wp 23 1102 ls st I J R S Q else Wp 23 1100 ls st I J R S Q := o_if_eq rfl rfl k_L_law_1097
theorem k_L_law_1100 : decode (sk_by 23) 1100 = .ok (.iconst 0, 1) := by decide +kernel
theorem x_L_law_1100 {ls st : List Value} {I : MI} {J : MJ} {R : MR} {S : Sh} {Q : SkQ} : Wp 23 1100 ls st I J R S Q = Wp 23 1101 ls (.int 0 :: st) I J R S Q := o_const (by decide) k_L_law_1100
theorem k_L_law_1101 : decode (sk_by 23) 1101 = .ok (.ireturn, 1) := by decide +kernel
theorem x_L_law_1101 {ls : List Value} {v : Int32} {I : MI} {J : MJ} {R : MR} {S : Sh} {Q : SkQ} (h : rOk (some .boolean) v = true) : Wp 23 1101 ls [.int v] I J R S Q = Q 0 (some (.int v)) I J R S := o_ireturn k_L_law_1101 (by rw [show sk_rt 23 = some .boolean from rfl]; exact h)
theorem k_L_law_1102 : decode (sk_by 23) 1102 = .ok (.goto 1086, 3) := by decide +kernel
theorem x_L_law_1102 {ls st : List Value} {I : MI} {J : MJ} {R : MR} {S : Sh} {Q : SkQ} : Wp 23 1102 ls st I J R S Q = Wp 23 2188 ls st I J R S Q := o_goto rfl rfl k_L_law_1102
theorem k_L_law_1105 : decode (sk_by 23) 1105 = .ok (.aload_n 1, 1) := by decide +kernel
theorem x_L_law_1105 {st : List Value} {l0 : Nat} {l2 : Nat} {l3 : Nat} {l4 : Int32} {l5 : Value} {l6 : Value} {x : Nat} {I : MI} {J : MJ} {R : MR} {S : Sh} {Q : SkQ} : Wp 23 1105 [.ref l0, .ref x, .ref l2, .ref l3, .int l4, l5, l6, nov] st I J R S Q = Wp 23 1106 [.ref l0, .ref x, .ref l2, .ref l3, .int l4, l5, l6, nov] (.ref x :: st) I J R S Q := o_aload_n rfl k_L_law_1105
theorem k_L_law_1106 : decode (sk_by 23) 1106 = .ok (.aload_n 0, 1) := by decide +kernel
theorem x_L_law_1106 {st : List Value} {l1 : Nat} {l2 : Nat} {l3 : Nat} {l4 : Int32} {l5 : Value} {l6 : Value} {x : Nat} {I : MI} {J : MJ} {R : MR} {S : Sh} {Q : SkQ} : Wp 23 1106 [.ref x, .ref l1, .ref l2, .ref l3, .int l4, l5, l6, nov] st I J R S Q = Wp 23 1107 [.ref x, .ref l1, .ref l2, .ref l3, .int l4, l5, l6, nov] (.ref x :: st) I J R S Q := o_aload_n rfl k_L_law_1106
theorem k_L_law_1107 : decode (sk_by 23) 1107 = .ok (.iload 4, 2) := by decide +kernel
theorem x_L_law_1107 {st : List Value} {l0 : Nat} {l1 : Nat} {l2 : Nat} {l3 : Nat} {l5 : Value} {l6 : Value} {x : Int32} {I : MI} {J : MJ} {R : MR} {S : Sh} {Q : SkQ} : Wp 23 1107 [.ref l0, .ref l1, .ref l2, .ref l3, .int x, l5, l6, nov] st I J R S Q = Wp 23 1109 [.ref l0, .ref l1, .ref l2, .ref l3, .int x, l5, l6, nov] (.int x :: st) I J R S Q := o_iload rfl k_L_law_1107
theorem k_L_law_1109 : decode (sk_by 23) 1109 = .ok (.iconst 1, 1) := by decide +kernel
theorem x_L_law_1109 {ls st : List Value} {I : MI} {J : MJ} {R : MR} {S : Sh} {Q : SkQ} : Wp 23 1109 ls st I J R S Q = Wp 23 1110 ls (.int 1 :: st) I J R S Q := o_const (by decide) k_L_law_1109
theorem k_L_law_1110 : decode (sk_by 23) 1110 = .ok (.iadd, 1) := by decide +kernel
theorem x_L_law_1110 {ls st : List Value} {x y : Int32} {I : MI} {J : MJ} {R : MR} {S : Sh} {Q : SkQ} : Wp 23 1110 ls (.int y :: .int x :: st) I J R S Q = Wp 23 1111 ls (.int (x + y) :: st) I J R S Q := o_iadd k_L_law_1110
theorem k_L_law_1111 : decode (sk_by 23) 1111 = .ok (.iaload, 1) := by decide +kernel
theorem x_L_law_1111 {ls st : List Value} {a : Nat} {i : Int32} {I : MI} {J : MJ} {R : MR} {S : Sh} {Q : SkQ} (ha : S.1 a = 30) (hi : inb i (S.2.1 a) = true) : Wp 23 1111 ls (.int i :: .ref a :: st) I J R S Q = Wp 23 1112 ls (.int (I a (ix i)) :: st) I J R S Q := o_iaload k_L_law_1111 ha hi
theorem x_L_law_1111C {ls st : List Value} {a : Nat} {i : Int32} {I : MI} {J : MJ} {R : MR} {S : Sh} {Q : SkQ} (ha : S.1 a = 40) (hi : inb i (S.2.1 a) = true) : Wp 23 1111 ls (.int i :: .ref a :: st) I J R S Q = Wp 23 1112 ls (.int (I a (ix i)) :: st) I J R S Q := o_ialoadC k_L_law_1111 ha hi
theorem k_L_law_1112 : decode (sk_by 23) 1112 = .ok (.aload_n 0, 1) := by decide +kernel
theorem x_L_law_1112 {st : List Value} {l1 : Nat} {l2 : Nat} {l3 : Nat} {l4 : Int32} {l5 : Value} {l6 : Value} {x : Nat} {I : MI} {J : MJ} {R : MR} {S : Sh} {Q : SkQ} : Wp 23 1112 [.ref x, .ref l1, .ref l2, .ref l3, .int l4, l5, l6, nov] st I J R S Q = Wp 23 1113 [.ref x, .ref l1, .ref l2, .ref l3, .int l4, l5, l6, nov] (.ref x :: st) I J R S Q := o_aload_n rfl k_L_law_1112
theorem k_L_law_1113 : decode (sk_by 23) 1113 = .ok (.iload 4, 2) := by decide +kernel
theorem x_L_law_1113 {st : List Value} {l0 : Nat} {l1 : Nat} {l2 : Nat} {l3 : Nat} {l5 : Value} {l6 : Value} {x : Int32} {I : MI} {J : MJ} {R : MR} {S : Sh} {Q : SkQ} : Wp 23 1113 [.ref l0, .ref l1, .ref l2, .ref l3, .int x, l5, l6, nov] st I J R S Q = Wp 23 1115 [.ref l0, .ref l1, .ref l2, .ref l3, .int x, l5, l6, nov] (.int x :: st) I J R S Q := o_iload rfl k_L_law_1113
theorem k_L_law_1115 : decode (sk_by 23) 1115 = .ok (.iconst 2, 1) := by decide +kernel
theorem x_L_law_1115 {ls st : List Value} {I : MI} {J : MJ} {R : MR} {S : Sh} {Q : SkQ} : Wp 23 1115 ls st I J R S Q = Wp 23 1116 ls (.int 2 :: st) I J R S Q := o_const (by decide) k_L_law_1115
theorem k_L_law_1116 : decode (sk_by 23) 1116 = .ok (.iadd, 1) := by decide +kernel
theorem x_L_law_1116 {ls st : List Value} {x y : Int32} {I : MI} {J : MJ} {R : MR} {S : Sh} {Q : SkQ} : Wp 23 1116 ls (.int y :: .int x :: st) I J R S Q = Wp 23 1117 ls (.int (x + y) :: st) I J R S Q := o_iadd k_L_law_1116
theorem k_L_law_1117 : decode (sk_by 23) 1117 = .ok (.iaload, 1) := by decide +kernel
theorem x_L_law_1117 {ls st : List Value} {a : Nat} {i : Int32} {I : MI} {J : MJ} {R : MR} {S : Sh} {Q : SkQ} (ha : S.1 a = 30) (hi : inb i (S.2.1 a) = true) : Wp 23 1117 ls (.int i :: .ref a :: st) I J R S Q = Wp 23 1118 ls (.int (I a (ix i)) :: st) I J R S Q := o_iaload k_L_law_1117 ha hi
theorem x_L_law_1117C {ls st : List Value} {a : Nat} {i : Int32} {I : MI} {J : MJ} {R : MR} {S : Sh} {Q : SkQ} (ha : S.1 a = 40) (hi : inb i (S.2.1 a) = true) : Wp 23 1117 ls (.int i :: .ref a :: st) I J R S Q = Wp 23 1118 ls (.int (I a (ix i)) :: st) I J R S Q := o_ialoadC k_L_law_1117 ha hi
theorem k_L_law_1118 : decode (sk_by 23) 1118 = .ok (.aload_n 3, 1) := by decide +kernel
theorem x_L_law_1118 {st : List Value} {l0 : Nat} {l1 : Nat} {l2 : Nat} {l4 : Int32} {l5 : Value} {l6 : Value} {x : Nat} {I : MI} {J : MJ} {R : MR} {S : Sh} {Q : SkQ} : Wp 23 1118 [.ref l0, .ref l1, .ref l2, .ref x, .int l4, l5, l6, nov] st I J R S Q = Wp 23 1119 [.ref l0, .ref l1, .ref l2, .ref x, .int l4, l5, l6, nov] (.ref x :: st) I J R S Q := o_aload_n rfl k_L_law_1118
theorem k_L_law_1119 : decode (sk_by 23) 1119 = .ok (.invokestatic 143, 3) := by decide +kernel
theorem x_L_law_1119 {ls : List Value} {a0 : Nat} {a1 : Int32} {a2 : Int32} {a3 : Nat} {I : MI} {J : MJ} {R : MR} {S : Sh} {Q : SkQ} : Wp 23 1119 ls (.ref a3 :: .int a2 :: .int a1 :: .ref a0 :: []) I J R S Q = Wp 11 0 [.ref a0, .int a1, .int a2, .ref a3, nov] [] I J R S (Ret 23 1119 1122 11 ls [] Q) := o_call (as := [.ref a0, .int a1, .int a2, .ref a3]) (rest := []) (show sk_lkM (sk_cl 23) 143 = some 11 by decide +kernel) (by decide) (by decide) (by (decide +kernel)) (ins := .invokestatic 143) (by (decide +kernel)) k_L_law_1119 rfl (show 4 = sk_na 11 by (decide +kernel)) (Nat.le_of_ble_eq_true rfl) (Nat.le_trans (show (argL [.ref a0, .int a1, .int a2, .ref a3]).length ≤ 5 from Nat.le_of_ble_eq_true rfl) (by (decide +kernel))) rfl
theorem k_L_law_1122 : decode (sk_by 23) 1122 = .ok (.istore 5, 2) := by decide +kernel
theorem x_L_law_1122 {st : List Value} {l0 : Nat} {l1 : Nat} {l2 : Nat} {l3 : Nat} {l4 : Int32} {l5 : Value} {l6 : Value} {x : Int32} {I : MI} {J : MJ} {R : MR} {S : Sh} {Q : SkQ} : Wp 23 1122 [.ref l0, .ref l1, .ref l2, .ref l3, .int l4, l5, l6, nov] (.int x :: st) I J R S Q = Wp 23 1124 [.ref l0, .ref l1, .ref l2, .ref l3, .int l4, .int x, l6, nov] st I J R S Q := o_istore (Nat.le_of_ble_eq_true rfl) rfl k_L_law_1122
theorem k_L_law_1124 : decode (sk_by 23) 1124 = .ok (.aload_n 2, 1) := by decide +kernel
theorem x_L_law_1124 {st : List Value} {l0 : Nat} {l1 : Nat} {l3 : Nat} {l4 : Int32} {l5 : Int32} {l6 : Value} {x : Nat} {I : MI} {J : MJ} {R : MR} {S : Sh} {Q : SkQ} : Wp 23 1124 [.ref l0, .ref l1, .ref x, .ref l3, .int l4, .int l5, l6, nov] st I J R S Q = Wp 23 1125 [.ref l0, .ref l1, .ref x, .ref l3, .int l4, .int l5, l6, nov] (.ref x :: st) I J R S Q := o_aload_n rfl k_L_law_1124
theorem k_L_law_1125 : decode (sk_by 23) 1125 = .ok (.aload_n 0, 1) := by decide +kernel
theorem x_L_law_1125 {st : List Value} {l1 : Nat} {l2 : Nat} {l3 : Nat} {l4 : Int32} {l5 : Int32} {l6 : Value} {x : Nat} {I : MI} {J : MJ} {R : MR} {S : Sh} {Q : SkQ} : Wp 23 1125 [.ref x, .ref l1, .ref l2, .ref l3, .int l4, .int l5, l6, nov] st I J R S Q = Wp 23 1126 [.ref x, .ref l1, .ref l2, .ref l3, .int l4, .int l5, l6, nov] (.ref x :: st) I J R S Q := o_aload_n rfl k_L_law_1125
theorem k_L_law_1126 : decode (sk_by 23) 1126 = .ok (.iload 4, 2) := by decide +kernel
theorem x_L_law_1126 {st : List Value} {l0 : Nat} {l1 : Nat} {l2 : Nat} {l3 : Nat} {l5 : Int32} {l6 : Value} {x : Int32} {I : MI} {J : MJ} {R : MR} {S : Sh} {Q : SkQ} : Wp 23 1126 [.ref l0, .ref l1, .ref l2, .ref l3, .int x, .int l5, l6, nov] st I J R S Q = Wp 23 1128 [.ref l0, .ref l1, .ref l2, .ref l3, .int x, .int l5, l6, nov] (.int x :: st) I J R S Q := o_iload rfl k_L_law_1126
theorem k_L_law_1128 : decode (sk_by 23) 1128 = .ok (.iconst 1, 1) := by decide +kernel
theorem x_L_law_1128 {ls st : List Value} {I : MI} {J : MJ} {R : MR} {S : Sh} {Q : SkQ} : Wp 23 1128 ls st I J R S Q = Wp 23 1129 ls (.int 1 :: st) I J R S Q := o_const (by decide) k_L_law_1128
theorem k_L_law_1129 : decode (sk_by 23) 1129 = .ok (.iadd, 1) := by decide +kernel
theorem x_L_law_1129 {ls st : List Value} {x y : Int32} {I : MI} {J : MJ} {R : MR} {S : Sh} {Q : SkQ} : Wp 23 1129 ls (.int y :: .int x :: st) I J R S Q = Wp 23 1130 ls (.int (x + y) :: st) I J R S Q := o_iadd k_L_law_1129
theorem k_L_law_1130 : decode (sk_by 23) 1130 = .ok (.iaload, 1) := by decide +kernel
theorem x_L_law_1130 {ls st : List Value} {a : Nat} {i : Int32} {I : MI} {J : MJ} {R : MR} {S : Sh} {Q : SkQ} (ha : S.1 a = 30) (hi : inb i (S.2.1 a) = true) : Wp 23 1130 ls (.int i :: .ref a :: st) I J R S Q = Wp 23 1131 ls (.int (I a (ix i)) :: st) I J R S Q := o_iaload k_L_law_1130 ha hi
theorem x_L_law_1130C {ls st : List Value} {a : Nat} {i : Int32} {I : MI} {J : MJ} {R : MR} {S : Sh} {Q : SkQ} (ha : S.1 a = 40) (hi : inb i (S.2.1 a) = true) : Wp 23 1130 ls (.int i :: .ref a :: st) I J R S Q = Wp 23 1131 ls (.int (I a (ix i)) :: st) I J R S Q := o_ialoadC k_L_law_1130 ha hi
theorem k_L_law_1131 : decode (sk_by 23) 1131 = .ok (.aload_n 0, 1) := by decide +kernel
theorem x_L_law_1131 {st : List Value} {l1 : Nat} {l2 : Nat} {l3 : Nat} {l4 : Int32} {l5 : Int32} {l6 : Value} {x : Nat} {I : MI} {J : MJ} {R : MR} {S : Sh} {Q : SkQ} : Wp 23 1131 [.ref x, .ref l1, .ref l2, .ref l3, .int l4, .int l5, l6, nov] st I J R S Q = Wp 23 1132 [.ref x, .ref l1, .ref l2, .ref l3, .int l4, .int l5, l6, nov] (.ref x :: st) I J R S Q := o_aload_n rfl k_L_law_1131
theorem k_L_law_1132 : decode (sk_by 23) 1132 = .ok (.iload 4, 2) := by decide +kernel
theorem x_L_law_1132 {st : List Value} {l0 : Nat} {l1 : Nat} {l2 : Nat} {l3 : Nat} {l5 : Int32} {l6 : Value} {x : Int32} {I : MI} {J : MJ} {R : MR} {S : Sh} {Q : SkQ} : Wp 23 1132 [.ref l0, .ref l1, .ref l2, .ref l3, .int x, .int l5, l6, nov] st I J R S Q = Wp 23 1134 [.ref l0, .ref l1, .ref l2, .ref l3, .int x, .int l5, l6, nov] (.int x :: st) I J R S Q := o_iload rfl k_L_law_1132
theorem k_L_law_1134 : decode (sk_by 23) 1134 = .ok (.iconst 2, 1) := by decide +kernel
theorem x_L_law_1134 {ls st : List Value} {I : MI} {J : MJ} {R : MR} {S : Sh} {Q : SkQ} : Wp 23 1134 ls st I J R S Q = Wp 23 1135 ls (.int 2 :: st) I J R S Q := o_const (by decide) k_L_law_1134
theorem k_L_law_1135 : decode (sk_by 23) 1135 = .ok (.iadd, 1) := by decide +kernel
theorem x_L_law_1135 {ls st : List Value} {x y : Int32} {I : MI} {J : MJ} {R : MR} {S : Sh} {Q : SkQ} : Wp 23 1135 ls (.int y :: .int x :: st) I J R S Q = Wp 23 1136 ls (.int (x + y) :: st) I J R S Q := o_iadd k_L_law_1135
theorem k_L_law_1136 : decode (sk_by 23) 1136 = .ok (.iaload, 1) := by decide +kernel
theorem x_L_law_1136 {ls st : List Value} {a : Nat} {i : Int32} {I : MI} {J : MJ} {R : MR} {S : Sh} {Q : SkQ} (ha : S.1 a = 30) (hi : inb i (S.2.1 a) = true) : Wp 23 1136 ls (.int i :: .ref a :: st) I J R S Q = Wp 23 1137 ls (.int (I a (ix i)) :: st) I J R S Q := o_iaload k_L_law_1136 ha hi
theorem x_L_law_1136C {ls st : List Value} {a : Nat} {i : Int32} {I : MI} {J : MJ} {R : MR} {S : Sh} {Q : SkQ} (ha : S.1 a = 40) (hi : inb i (S.2.1 a) = true) : Wp 23 1136 ls (.int i :: .ref a :: st) I J R S Q = Wp 23 1137 ls (.int (I a (ix i)) :: st) I J R S Q := o_ialoadC k_L_law_1136 ha hi
theorem k_L_law_1137 : decode (sk_by 23) 1137 = .ok (.invokevirtual 145, 3) := by decide +kernel
theorem x_L_law_1137 {ls : List Value} {a0 : Nat} {a1 : Int32} {a2 : Int32} {I : MI} {J : MJ} {R : MR} {S : Sh} {Q : SkQ} (ha : S.1 a0 = 8) : Wp 23 1137 ls (.int a2 :: .int a1 :: .ref a0 :: []) I J R S Q = Wp 222 0 [.ref a0, .int a1, .int a2] [] I J R S (Ret 23 1137 1140 222 ls [] Q) := o_call (as := [.ref a0, .int a1, .int a2]) (rest := []) (show sk_lkM (sk_cl 23) 145 = some 222 by decide +kernel) (by decide) (by decide) (by (decide +kernel)) (ins := .invokevirtual 145) (by (decide +kernel)) k_L_law_1137 rfl (show 3 = sk_na 222 by (decide +kernel)) (Nat.le_of_ble_eq_true rfl) (Nat.le_trans (show (argL [.ref a0, .int a1, .int a2]).length ≤ 3 from Nat.le_of_ble_eq_true rfl) (by (decide +kernel))) (rcv_of (by (decide +kernel)) (by decide) ha)
theorem k_L_law_1140 : decode (sk_by 23) 1140 = .ok (.lstore 6, 2) := by decide +kernel
theorem x_L_law_1140 {st : List Value} {l0 : Nat} {l1 : Nat} {l2 : Nat} {l3 : Nat} {l4 : Int32} {l5 : Int32} {l6 : Value} {x : Int64} {I : MI} {J : MJ} {R : MR} {S : Sh} {Q : SkQ} : Wp 23 1140 [.ref l0, .ref l1, .ref l2, .ref l3, .int l4, .int l5, l6, nov] (.long x :: st) I J R S Q = Wp 23 1142 [.ref l0, .ref l1, .ref l2, .ref l3, .int l4, .int l5, .long x, nov] st I J R S Q := o_lstore (Nat.le_of_ble_eq_true rfl) rfl k_L_law_1140
theorem k_L_law_1142 : decode (sk_by 23) 1142 = .ok (.aload_n 2, 1) := by decide +kernel
theorem x_L_law_1142 {st : List Value} {l0 : Nat} {l1 : Nat} {l3 : Nat} {l4 : Int32} {l5 : Int32} {l6 : Int64} {x : Nat} {I : MI} {J : MJ} {R : MR} {S : Sh} {Q : SkQ} : Wp 23 1142 [.ref l0, .ref l1, .ref x, .ref l3, .int l4, .int l5, .long l6, nov] st I J R S Q = Wp 23 1143 [.ref l0, .ref l1, .ref x, .ref l3, .int l4, .int l5, .long l6, nov] (.ref x :: st) I J R S Q := o_aload_n rfl k_L_law_1142
theorem k_L_law_1143 : decode (sk_by 23) 1143 = .ok (.invokevirtual 105, 3) := by decide +kernel
theorem x_L_law_1143 {ls : List Value} {a0 : Nat} {I : MI} {J : MJ} {R : MR} {S : Sh} {Q : SkQ} (ha : S.1 a0 = 8) : Wp 23 1143 ls (.ref a0 :: []) I J R S Q = Wp 174 0 [.ref a0] [] I J R S (Ret 23 1143 1146 174 ls [] Q) := o_call (as := [.ref a0]) (rest := []) (show sk_lkM (sk_cl 23) 105 = some 174 by decide +kernel) (by decide) (by decide) (by (decide +kernel)) (ins := .invokevirtual 105) (by (decide +kernel)) k_L_law_1143 rfl (show 1 = sk_na 174 by (decide +kernel)) (Nat.le_of_ble_eq_true rfl) (Nat.le_trans (show (argL [.ref a0]).length ≤ 1 from Nat.le_of_ble_eq_true rfl) (by (decide +kernel))) (rcv_of (by (decide +kernel)) (by decide) ha)
theorem k_L_law_1146 : decode (sk_by 23) 1146 = .ok (.iload 5, 2) := by decide +kernel
theorem x_L_law_1146 {st : List Value} {l0 : Nat} {l1 : Nat} {l2 : Nat} {l3 : Nat} {l4 : Int32} {l6 : Int64} {x : Int32} {I : MI} {J : MJ} {R : MR} {S : Sh} {Q : SkQ} : Wp 23 1146 [.ref l0, .ref l1, .ref l2, .ref l3, .int l4, .int x, .long l6, nov] st I J R S Q = Wp 23 1148 [.ref l0, .ref l1, .ref l2, .ref l3, .int l4, .int x, .long l6, nov] (.int x :: st) I J R S Q := o_iload rfl k_L_law_1146
theorem k_L_law_1148 : decode (sk_by 23) 1148 = .ok (.if_icmp .eq 5, 3) := by decide +kernel
theorem x_L_law_1148 {ls st : List Value} {x y : Int32} {I : MI} {J : MJ} {R : MR} {S : Sh} {Q : SkQ} : Wp 23 1148 ls (.int y :: .int x :: st) I J R S Q = if x = y then Wp 23 1153 ls st I J R S Q else Wp 23 1151 ls st I J R S Q := o_ic_eq rfl rfl k_L_law_1148
theorem k_L_law_1151 : decode (sk_by 23) 1151 = .ok (.iconst 0, 1) := by decide +kernel
theorem x_L_law_1151 {ls st : List Value} {I : MI} {J : MJ} {R : MR} {S : Sh} {Q : SkQ} : Wp 23 1151 ls st I J R S Q = Wp 23 1152 ls (.int 0 :: st) I J R S Q := o_const (by decide) k_L_law_1151
theorem k_L_law_1152 : decode (sk_by 23) 1152 = .ok (.ireturn, 1) := by decide +kernel
theorem x_L_law_1152 {ls : List Value} {v : Int32} {I : MI} {J : MJ} {R : MR} {S : Sh} {Q : SkQ} (h : rOk (some .boolean) v = true) : Wp 23 1152 ls [.int v] I J R S Q = Q 0 (some (.int v)) I J R S := o_ireturn k_L_law_1152 (by rw [show sk_rt 23 = some .boolean from rfl]; exact h)
theorem k_L_law_1153 : decode (sk_by 23) 1153 = .ok (.iload 5, 2) := by decide +kernel
theorem x_L_law_1153 {st : List Value} {l0 : Nat} {l1 : Nat} {l2 : Nat} {l3 : Nat} {l4 : Int32} {l6 : Int64} {x : Int32} {I : MI} {J : MJ} {R : MR} {S : Sh} {Q : SkQ} : Wp 23 1153 [.ref l0, .ref l1, .ref l2, .ref l3, .int l4, .int x, .long l6, nov] st I J R S Q = Wp 23 1155 [.ref l0, .ref l1, .ref l2, .ref l3, .int l4, .int x, .long l6, nov] (.int x :: st) I J R S Q := o_iload rfl k_L_law_1153
theorem k_L_law_1155 : decode (sk_by 23) 1155 = .ok (.ifCond .ne 14, 3) := by decide +kernel
theorem x_L_law_1155 {ls st : List Value} {x : Int32} {I : MI} {J : MJ} {R : MR} {S : Sh} {Q : SkQ} : Wp 23 1155 ls (.int x :: st) I J R S Q = if x = 0 then Wp 23 1158 ls st I J R S Q else Wp 23 1169 ls st I J R S Q := o_if_ne rfl rfl k_L_law_1155
theorem k_L_law_1158 : decode (sk_by 23) 1158 = .ok (.aload_n 3, 1) := by decide +kernel
theorem x_L_law_1158 {st : List Value} {l0 : Nat} {l1 : Nat} {l2 : Nat} {l4 : Int32} {l5 : Int32} {l6 : Int64} {x : Nat} {I : MI} {J : MJ} {R : MR} {S : Sh} {Q : SkQ} : Wp 23 1158 [.ref l0, .ref l1, .ref l2, .ref x, .int l4, .int l5, .long l6, nov] st I J R S Q = Wp 23 1159 [.ref l0, .ref l1, .ref l2, .ref x, .int l4, .int l5, .long l6, nov] (.ref x :: st) I J R S Q := o_aload_n rfl k_L_law_1158
theorem k_L_law_1159 : decode (sk_by 23) 1159 = .ok (.iconst 0, 1) := by decide +kernel
theorem x_L_law_1159 {ls st : List Value} {I : MI} {J : MJ} {R : MR} {S : Sh} {Q : SkQ} : Wp 23 1159 ls st I J R S Q = Wp 23 1160 ls (.int 0 :: st) I J R S Q := o_const (by decide) k_L_law_1159
theorem k_L_law_1160 : decode (sk_by 23) 1160 = .ok (.laload, 1) := by decide +kernel
theorem x_L_law_1160 {ls st : List Value} {a : Nat} {i : Int32} {I : MI} {J : MJ} {R : MR} {S : Sh} {Q : SkQ} (ha : S.1 a = 31) (hi : inb i (S.2.1 a) = true) : Wp 23 1160 ls (.int i :: .ref a :: st) I J R S Q = Wp 23 1161 ls (.long (J a (ix i)) :: st) I J R S Q := o_laload k_L_law_1160 ha hi
theorem k_L_law_1161 : decode (sk_by 23) 1161 = .ok (.lload 6, 2) := by decide +kernel
theorem x_L_law_1161 {st : List Value} {l0 : Nat} {l1 : Nat} {l2 : Nat} {l3 : Nat} {l4 : Int32} {l5 : Int32} {x : Int64} {I : MI} {J : MJ} {R : MR} {S : Sh} {Q : SkQ} : Wp 23 1161 [.ref l0, .ref l1, .ref l2, .ref l3, .int l4, .int l5, .long x, nov] st I J R S Q = Wp 23 1163 [.ref l0, .ref l1, .ref l2, .ref l3, .int l4, .int l5, .long x, nov] (.long x :: st) I J R S Q := o_lload rfl k_L_law_1161
theorem k_L_law_1163 : decode (sk_by 23) 1163 = .ok (.lcmp, 1) := by decide +kernel
theorem x_L_law_1163 {ls st : List Value} {x y : Int64} {I : MI} {J : MJ} {R : MR} {S : Sh} {Q : SkQ} : Wp 23 1163 ls (.long y :: .long x :: st) I J R S Q = Wp 23 1164 ls (.int (lg_cmp x y) :: st) I J R S Q := o_lcmp k_L_law_1163
theorem k_L_law_1164 : decode (sk_by 23) 1164 = .ok (.ifCond .eq 5, 3) := by decide +kernel
theorem x_L_law_1164 {ls st : List Value} {x : Int32} {I : MI} {J : MJ} {R : MR} {S : Sh} {Q : SkQ} : Wp 23 1164 ls (.int x :: st) I J R S Q = if x = 0 then Wp 23 1169 ls st I J R S Q else Wp 23 1167 ls st I J R S Q := o_if_eq rfl rfl k_L_law_1164
theorem k_L_law_1167 : decode (sk_by 23) 1167 = .ok (.iconst 0, 1) := by decide +kernel
theorem x_L_law_1167 {ls st : List Value} {I : MI} {J : MJ} {R : MR} {S : Sh} {Q : SkQ} : Wp 23 1167 ls st I J R S Q = Wp 23 1168 ls (.int 0 :: st) I J R S Q := o_const (by decide) k_L_law_1167
theorem k_L_law_1168 : decode (sk_by 23) 1168 = .ok (.ireturn, 1) := by decide +kernel
theorem x_L_law_1168 {ls : List Value} {v : Int32} {I : MI} {J : MJ} {R : MR} {S : Sh} {Q : SkQ} (h : rOk (some .boolean) v = true) : Wp 23 1168 ls [.int v] I J R S Q = Q 0 (some (.int v)) I J R S := o_ireturn k_L_law_1168 (by rw [show sk_rt 23 = some .boolean from rfl]; exact h)
theorem k_L_law_1169 : decode (sk_by 23) 1169 = .ok (.goto 1019, 3) := by decide +kernel
theorem x_L_law_1169 {ls st : List Value} {I : MI} {J : MJ} {R : MR} {S : Sh} {Q : SkQ} : Wp 23 1169 ls st I J R S Q = Wp 23 2188 ls st I J R S Q := o_goto rfl rfl k_L_law_1169
theorem k_L_law_1172 : decode (sk_by 23) 1172 = .ok (.aload_n 1, 1) := by decide +kernel
theorem x_L_law_1172 {st : List Value} {l0 : Nat} {l2 : Nat} {l3 : Nat} {l4 : Int32} {l5 : Value} {l6 : Value} {x : Nat} {I : MI} {J : MJ} {R : MR} {S : Sh} {Q : SkQ} : Wp 23 1172 [.ref l0, .ref x, .ref l2, .ref l3, .int l4, l5, l6, nov] st I J R S Q = Wp 23 1173 [.ref l0, .ref x, .ref l2, .ref l3, .int l4, l5, l6, nov] (.ref x :: st) I J R S Q := o_aload_n rfl k_L_law_1172
theorem k_L_law_1173 : decode (sk_by 23) 1173 = .ok (.aload_n 0, 1) := by decide +kernel
theorem x_L_law_1173 {st : List Value} {l1 : Nat} {l2 : Nat} {l3 : Nat} {l4 : Int32} {l5 : Value} {l6 : Value} {x : Nat} {I : MI} {J : MJ} {R : MR} {S : Sh} {Q : SkQ} : Wp 23 1173 [.ref x, .ref l1, .ref l2, .ref l3, .int l4, l5, l6, nov] st I J R S Q = Wp 23 1174 [.ref x, .ref l1, .ref l2, .ref l3, .int l4, l5, l6, nov] (.ref x :: st) I J R S Q := o_aload_n rfl k_L_law_1173
theorem k_L_law_1174 : decode (sk_by 23) 1174 = .ok (.iload 4, 2) := by decide +kernel
theorem x_L_law_1174 {st : List Value} {l0 : Nat} {l1 : Nat} {l2 : Nat} {l3 : Nat} {l5 : Value} {l6 : Value} {x : Int32} {I : MI} {J : MJ} {R : MR} {S : Sh} {Q : SkQ} : Wp 23 1174 [.ref l0, .ref l1, .ref l2, .ref l3, .int x, l5, l6, nov] st I J R S Q = Wp 23 1176 [.ref l0, .ref l1, .ref l2, .ref l3, .int x, l5, l6, nov] (.int x :: st) I J R S Q := o_iload rfl k_L_law_1174
theorem k_L_law_1176 : decode (sk_by 23) 1176 = .ok (.iconst 1, 1) := by decide +kernel
theorem x_L_law_1176 {ls st : List Value} {I : MI} {J : MJ} {R : MR} {S : Sh} {Q : SkQ} : Wp 23 1176 ls st I J R S Q = Wp 23 1177 ls (.int 1 :: st) I J R S Q := o_const (by decide) k_L_law_1176
theorem k_L_law_1177 : decode (sk_by 23) 1177 = .ok (.iadd, 1) := by decide +kernel
theorem x_L_law_1177 {ls st : List Value} {x y : Int32} {I : MI} {J : MJ} {R : MR} {S : Sh} {Q : SkQ} : Wp 23 1177 ls (.int y :: .int x :: st) I J R S Q = Wp 23 1178 ls (.int (x + y) :: st) I J R S Q := o_iadd k_L_law_1177
theorem k_L_law_1178 : decode (sk_by 23) 1178 = .ok (.iaload, 1) := by decide +kernel
theorem x_L_law_1178 {ls st : List Value} {a : Nat} {i : Int32} {I : MI} {J : MJ} {R : MR} {S : Sh} {Q : SkQ} (ha : S.1 a = 30) (hi : inb i (S.2.1 a) = true) : Wp 23 1178 ls (.int i :: .ref a :: st) I J R S Q = Wp 23 1179 ls (.int (I a (ix i)) :: st) I J R S Q := o_iaload k_L_law_1178 ha hi
theorem x_L_law_1178C {ls st : List Value} {a : Nat} {i : Int32} {I : MI} {J : MJ} {R : MR} {S : Sh} {Q : SkQ} (ha : S.1 a = 40) (hi : inb i (S.2.1 a) = true) : Wp 23 1178 ls (.int i :: .ref a :: st) I J R S Q = Wp 23 1179 ls (.int (I a (ix i)) :: st) I J R S Q := o_ialoadC k_L_law_1178 ha hi
theorem k_L_law_1179 : decode (sk_by 23) 1179 = .ok (.aload_n 0, 1) := by decide +kernel
theorem x_L_law_1179 {st : List Value} {l1 : Nat} {l2 : Nat} {l3 : Nat} {l4 : Int32} {l5 : Value} {l6 : Value} {x : Nat} {I : MI} {J : MJ} {R : MR} {S : Sh} {Q : SkQ} : Wp 23 1179 [.ref x, .ref l1, .ref l2, .ref l3, .int l4, l5, l6, nov] st I J R S Q = Wp 23 1180 [.ref x, .ref l1, .ref l2, .ref l3, .int l4, l5, l6, nov] (.ref x :: st) I J R S Q := o_aload_n rfl k_L_law_1179
theorem k_L_law_1180 : decode (sk_by 23) 1180 = .ok (.iload 4, 2) := by decide +kernel
theorem x_L_law_1180 {st : List Value} {l0 : Nat} {l1 : Nat} {l2 : Nat} {l3 : Nat} {l5 : Value} {l6 : Value} {x : Int32} {I : MI} {J : MJ} {R : MR} {S : Sh} {Q : SkQ} : Wp 23 1180 [.ref l0, .ref l1, .ref l2, .ref l3, .int x, l5, l6, nov] st I J R S Q = Wp 23 1182 [.ref l0, .ref l1, .ref l2, .ref l3, .int x, l5, l6, nov] (.int x :: st) I J R S Q := o_iload rfl k_L_law_1180
theorem k_L_law_1182 : decode (sk_by 23) 1182 = .ok (.iconst 2, 1) := by decide +kernel
theorem x_L_law_1182 {ls st : List Value} {I : MI} {J : MJ} {R : MR} {S : Sh} {Q : SkQ} : Wp 23 1182 ls st I J R S Q = Wp 23 1183 ls (.int 2 :: st) I J R S Q := o_const (by decide) k_L_law_1182
theorem k_L_law_1183 : decode (sk_by 23) 1183 = .ok (.iadd, 1) := by decide +kernel
theorem x_L_law_1183 {ls st : List Value} {x y : Int32} {I : MI} {J : MJ} {R : MR} {S : Sh} {Q : SkQ} : Wp 23 1183 ls (.int y :: .int x :: st) I J R S Q = Wp 23 1184 ls (.int (x + y) :: st) I J R S Q := o_iadd k_L_law_1183
theorem k_L_law_1184 : decode (sk_by 23) 1184 = .ok (.iaload, 1) := by decide +kernel
theorem x_L_law_1184 {ls st : List Value} {a : Nat} {i : Int32} {I : MI} {J : MJ} {R : MR} {S : Sh} {Q : SkQ} (ha : S.1 a = 30) (hi : inb i (S.2.1 a) = true) : Wp 23 1184 ls (.int i :: .ref a :: st) I J R S Q = Wp 23 1185 ls (.int (I a (ix i)) :: st) I J R S Q := o_iaload k_L_law_1184 ha hi
theorem x_L_law_1184C {ls st : List Value} {a : Nat} {i : Int32} {I : MI} {J : MJ} {R : MR} {S : Sh} {Q : SkQ} (ha : S.1 a = 40) (hi : inb i (S.2.1 a) = true) : Wp 23 1184 ls (.int i :: .ref a :: st) I J R S Q = Wp 23 1185 ls (.int (I a (ix i)) :: st) I J R S Q := o_ialoadC k_L_law_1184 ha hi
theorem k_L_law_1185 : decode (sk_by 23) 1185 = .ok (.aload_n 3, 1) := by decide +kernel
theorem x_L_law_1185 {st : List Value} {l0 : Nat} {l1 : Nat} {l2 : Nat} {l4 : Int32} {l5 : Value} {l6 : Value} {x : Nat} {I : MI} {J : MJ} {R : MR} {S : Sh} {Q : SkQ} : Wp 23 1185 [.ref l0, .ref l1, .ref l2, .ref x, .int l4, l5, l6, nov] st I J R S Q = Wp 23 1186 [.ref l0, .ref l1, .ref l2, .ref x, .int l4, l5, l6, nov] (.ref x :: st) I J R S Q := o_aload_n rfl k_L_law_1185
theorem k_L_law_1186 : decode (sk_by 23) 1186 = .ok (.invokestatic 146, 3) := by decide +kernel
theorem x_L_law_1186 {ls : List Value} {a0 : Nat} {a1 : Int32} {a2 : Int32} {a3 : Nat} {I : MI} {J : MJ} {R : MR} {S : Sh} {Q : SkQ} : Wp 23 1186 ls (.ref a3 :: .int a2 :: .int a1 :: .ref a0 :: []) I J R S Q = Wp 12 0 [.ref a0, .int a1, .int a2, .ref a3, nov] [] I J R S (Ret 23 1186 1189 12 ls [] Q) := o_call (as := [.ref a0, .int a1, .int a2, .ref a3]) (rest := []) (show sk_lkM (sk_cl 23) 146 = some 12 by decide +kernel) (by decide) (by decide) (by (decide +kernel)) (ins := .invokestatic 146) (by (decide +kernel)) k_L_law_1186 rfl (show 4 = sk_na 12 by (decide +kernel)) (Nat.le_of_ble_eq_true rfl) (Nat.le_trans (show (argL [.ref a0, .int a1, .int a2, .ref a3]).length ≤ 5 from Nat.le_of_ble_eq_true rfl) (by (decide +kernel))) rfl
theorem k_L_law_1189 : decode (sk_by 23) 1189 = .ok (.istore 5, 2) := by decide +kernel
theorem x_L_law_1189 {st : List Value} {l0 : Nat} {l1 : Nat} {l2 : Nat} {l3 : Nat} {l4 : Int32} {l5 : Value} {l6 : Value} {x : Int32} {I : MI} {J : MJ} {R : MR} {S : Sh} {Q : SkQ} : Wp 23 1189 [.ref l0, .ref l1, .ref l2, .ref l3, .int l4, l5, l6, nov] (.int x :: st) I J R S Q = Wp 23 1191 [.ref l0, .ref l1, .ref l2, .ref l3, .int l4, .int x, l6, nov] st I J R S Q := o_istore (Nat.le_of_ble_eq_true rfl) rfl k_L_law_1189
theorem k_L_law_1191 : decode (sk_by 23) 1191 = .ok (.aload_n 2, 1) := by decide +kernel
theorem x_L_law_1191 {st : List Value} {l0 : Nat} {l1 : Nat} {l3 : Nat} {l4 : Int32} {l5 : Int32} {l6 : Value} {x : Nat} {I : MI} {J : MJ} {R : MR} {S : Sh} {Q : SkQ} : Wp 23 1191 [.ref l0, .ref l1, .ref x, .ref l3, .int l4, .int l5, l6, nov] st I J R S Q = Wp 23 1192 [.ref l0, .ref l1, .ref x, .ref l3, .int l4, .int l5, l6, nov] (.ref x :: st) I J R S Q := o_aload_n rfl k_L_law_1191
theorem k_L_law_1192 : decode (sk_by 23) 1192 = .ok (.aload_n 0, 1) := by decide +kernel
theorem x_L_law_1192 {st : List Value} {l1 : Nat} {l2 : Nat} {l3 : Nat} {l4 : Int32} {l5 : Int32} {l6 : Value} {x : Nat} {I : MI} {J : MJ} {R : MR} {S : Sh} {Q : SkQ} : Wp 23 1192 [.ref x, .ref l1, .ref l2, .ref l3, .int l4, .int l5, l6, nov] st I J R S Q = Wp 23 1193 [.ref x, .ref l1, .ref l2, .ref l3, .int l4, .int l5, l6, nov] (.ref x :: st) I J R S Q := o_aload_n rfl k_L_law_1192
theorem k_L_law_1193 : decode (sk_by 23) 1193 = .ok (.iload 4, 2) := by decide +kernel
theorem x_L_law_1193 {st : List Value} {l0 : Nat} {l1 : Nat} {l2 : Nat} {l3 : Nat} {l5 : Int32} {l6 : Value} {x : Int32} {I : MI} {J : MJ} {R : MR} {S : Sh} {Q : SkQ} : Wp 23 1193 [.ref l0, .ref l1, .ref l2, .ref l3, .int x, .int l5, l6, nov] st I J R S Q = Wp 23 1195 [.ref l0, .ref l1, .ref l2, .ref l3, .int x, .int l5, l6, nov] (.int x :: st) I J R S Q := o_iload rfl k_L_law_1193
theorem k_L_law_1195 : decode (sk_by 23) 1195 = .ok (.iconst 1, 1) := by decide +kernel
theorem x_L_law_1195 {ls st : List Value} {I : MI} {J : MJ} {R : MR} {S : Sh} {Q : SkQ} : Wp 23 1195 ls st I J R S Q = Wp 23 1196 ls (.int 1 :: st) I J R S Q := o_const (by decide) k_L_law_1195
theorem k_L_law_1196 : decode (sk_by 23) 1196 = .ok (.iadd, 1) := by decide +kernel
theorem x_L_law_1196 {ls st : List Value} {x y : Int32} {I : MI} {J : MJ} {R : MR} {S : Sh} {Q : SkQ} : Wp 23 1196 ls (.int y :: .int x :: st) I J R S Q = Wp 23 1197 ls (.int (x + y) :: st) I J R S Q := o_iadd k_L_law_1196
theorem k_L_law_1197 : decode (sk_by 23) 1197 = .ok (.iaload, 1) := by decide +kernel
theorem x_L_law_1197 {ls st : List Value} {a : Nat} {i : Int32} {I : MI} {J : MJ} {R : MR} {S : Sh} {Q : SkQ} (ha : S.1 a = 30) (hi : inb i (S.2.1 a) = true) : Wp 23 1197 ls (.int i :: .ref a :: st) I J R S Q = Wp 23 1198 ls (.int (I a (ix i)) :: st) I J R S Q := o_iaload k_L_law_1197 ha hi
theorem x_L_law_1197C {ls st : List Value} {a : Nat} {i : Int32} {I : MI} {J : MJ} {R : MR} {S : Sh} {Q : SkQ} (ha : S.1 a = 40) (hi : inb i (S.2.1 a) = true) : Wp 23 1197 ls (.int i :: .ref a :: st) I J R S Q = Wp 23 1198 ls (.int (I a (ix i)) :: st) I J R S Q := o_ialoadC k_L_law_1197 ha hi
theorem k_L_law_1198 : decode (sk_by 23) 1198 = .ok (.aload_n 0, 1) := by decide +kernel
theorem x_L_law_1198 {st : List Value} {l1 : Nat} {l2 : Nat} {l3 : Nat} {l4 : Int32} {l5 : Int32} {l6 : Value} {x : Nat} {I : MI} {J : MJ} {R : MR} {S : Sh} {Q : SkQ} : Wp 23 1198 [.ref x, .ref l1, .ref l2, .ref l3, .int l4, .int l5, l6, nov] st I J R S Q = Wp 23 1199 [.ref x, .ref l1, .ref l2, .ref l3, .int l4, .int l5, l6, nov] (.ref x :: st) I J R S Q := o_aload_n rfl k_L_law_1198
theorem k_L_law_1199 : decode (sk_by 23) 1199 = .ok (.iload 4, 2) := by decide +kernel
theorem x_L_law_1199 {st : List Value} {l0 : Nat} {l1 : Nat} {l2 : Nat} {l3 : Nat} {l5 : Int32} {l6 : Value} {x : Int32} {I : MI} {J : MJ} {R : MR} {S : Sh} {Q : SkQ} : Wp 23 1199 [.ref l0, .ref l1, .ref l2, .ref l3, .int x, .int l5, l6, nov] st I J R S Q = Wp 23 1201 [.ref l0, .ref l1, .ref l2, .ref l3, .int x, .int l5, l6, nov] (.int x :: st) I J R S Q := o_iload rfl k_L_law_1199
theorem k_L_law_1201 : decode (sk_by 23) 1201 = .ok (.iconst 2, 1) := by decide +kernel
theorem x_L_law_1201 {ls st : List Value} {I : MI} {J : MJ} {R : MR} {S : Sh} {Q : SkQ} : Wp 23 1201 ls st I J R S Q = Wp 23 1202 ls (.int 2 :: st) I J R S Q := o_const (by decide) k_L_law_1201
theorem k_L_law_1202 : decode (sk_by 23) 1202 = .ok (.iadd, 1) := by decide +kernel
theorem x_L_law_1202 {ls st : List Value} {x y : Int32} {I : MI} {J : MJ} {R : MR} {S : Sh} {Q : SkQ} : Wp 23 1202 ls (.int y :: .int x :: st) I J R S Q = Wp 23 1203 ls (.int (x + y) :: st) I J R S Q := o_iadd k_L_law_1202
theorem k_L_law_1203 : decode (sk_by 23) 1203 = .ok (.iaload, 1) := by decide +kernel
theorem x_L_law_1203 {ls st : List Value} {a : Nat} {i : Int32} {I : MI} {J : MJ} {R : MR} {S : Sh} {Q : SkQ} (ha : S.1 a = 30) (hi : inb i (S.2.1 a) = true) : Wp 23 1203 ls (.int i :: .ref a :: st) I J R S Q = Wp 23 1204 ls (.int (I a (ix i)) :: st) I J R S Q := o_iaload k_L_law_1203 ha hi
theorem x_L_law_1203C {ls st : List Value} {a : Nat} {i : Int32} {I : MI} {J : MJ} {R : MR} {S : Sh} {Q : SkQ} (ha : S.1 a = 40) (hi : inb i (S.2.1 a) = true) : Wp 23 1203 ls (.int i :: .ref a :: st) I J R S Q = Wp 23 1204 ls (.int (I a (ix i)) :: st) I J R S Q := o_ialoadC k_L_law_1203 ha hi
theorem k_L_law_1204 : decode (sk_by 23) 1204 = .ok (.invokevirtual 148, 3) := by decide +kernel
theorem x_L_law_1204 {ls : List Value} {a0 : Nat} {a1 : Int32} {a2 : Int32} {I : MI} {J : MJ} {R : MR} {S : Sh} {Q : SkQ} (ha : S.1 a0 = 8) : Wp 23 1204 ls (.int a2 :: .int a1 :: .ref a0 :: []) I J R S Q = Wp 224 0 [.ref a0, .int a1, .int a2] [] I J R S (Ret 23 1204 1207 224 ls [] Q) := o_call (as := [.ref a0, .int a1, .int a2]) (rest := []) (show sk_lkM (sk_cl 23) 148 = some 224 by decide +kernel) (by decide) (by decide) (by (decide +kernel)) (ins := .invokevirtual 148) (by (decide +kernel)) k_L_law_1204 rfl (show 3 = sk_na 224 by (decide +kernel)) (Nat.le_of_ble_eq_true rfl) (Nat.le_trans (show (argL [.ref a0, .int a1, .int a2]).length ≤ 3 from Nat.le_of_ble_eq_true rfl) (by (decide +kernel))) (rcv_of (by (decide +kernel)) (by decide) ha)
theorem k_L_law_1207 : decode (sk_by 23) 1207 = .ok (.lstore 6, 2) := by decide +kernel
theorem x_L_law_1207 {st : List Value} {l0 : Nat} {l1 : Nat} {l2 : Nat} {l3 : Nat} {l4 : Int32} {l5 : Int32} {l6 : Value} {x : Int64} {I : MI} {J : MJ} {R : MR} {S : Sh} {Q : SkQ} : Wp 23 1207 [.ref l0, .ref l1, .ref l2, .ref l3, .int l4, .int l5, l6, nov] (.long x :: st) I J R S Q = Wp 23 1209 [.ref l0, .ref l1, .ref l2, .ref l3, .int l4, .int l5, .long x, nov] st I J R S Q := o_lstore (Nat.le_of_ble_eq_true rfl) rfl k_L_law_1207
theorem k_L_law_1209 : decode (sk_by 23) 1209 = .ok (.aload_n 2, 1) := by decide +kernel
theorem x_L_law_1209 {st : List Value} {l0 : Nat} {l1 : Nat} {l3 : Nat} {l4 : Int32} {l5 : Int32} {l6 : Int64} {x : Nat} {I : MI} {J : MJ} {R : MR} {S : Sh} {Q : SkQ} : Wp 23 1209 [.ref l0, .ref l1, .ref x, .ref l3, .int l4, .int l5, .long l6, nov] st I J R S Q = Wp 23 1210 [.ref l0, .ref l1, .ref x, .ref l3, .int l4, .int l5, .long l6, nov] (.ref x :: st) I J R S Q := o_aload_n rfl k_L_law_1209
theorem k_L_law_1210 : decode (sk_by 23) 1210 = .ok (.invokevirtual 105, 3) := by decide +kernel
theorem x_L_law_1210 {ls : List Value} {a0 : Nat} {I : MI} {J : MJ} {R : MR} {S : Sh} {Q : SkQ} (ha : S.1 a0 = 8) : Wp 23 1210 ls (.ref a0 :: []) I J R S Q = Wp 174 0 [.ref a0] [] I J R S (Ret 23 1210 1213 174 ls [] Q) := o_call (as := [.ref a0]) (rest := []) (show sk_lkM (sk_cl 23) 105 = some 174 by decide +kernel) (by decide) (by decide) (by (decide +kernel)) (ins := .invokevirtual 105) (by (decide +kernel)) k_L_law_1210 rfl (show 1 = sk_na 174 by (decide +kernel)) (Nat.le_of_ble_eq_true rfl) (Nat.le_trans (show (argL [.ref a0]).length ≤ 1 from Nat.le_of_ble_eq_true rfl) (by (decide +kernel))) (rcv_of (by (decide +kernel)) (by decide) ha)
theorem k_L_law_1213 : decode (sk_by 23) 1213 = .ok (.iload 5, 2) := by decide +kernel
theorem x_L_law_1213 {st : List Value} {l0 : Nat} {l1 : Nat} {l2 : Nat} {l3 : Nat} {l4 : Int32} {l6 : Int64} {x : Int32} {I : MI} {J : MJ} {R : MR} {S : Sh} {Q : SkQ} : Wp 23 1213 [.ref l0, .ref l1, .ref l2, .ref l3, .int l4, .int x, .long l6, nov] st I J R S Q = Wp 23 1215 [.ref l0, .ref l1, .ref l2, .ref l3, .int l4, .int x, .long l6, nov] (.int x :: st) I J R S Q := o_iload rfl k_L_law_1213
theorem k_L_law_1215 : decode (sk_by 23) 1215 = .ok (.if_icmp .eq 5, 3) := by decide +kernel
theorem x_L_law_1215 {ls st : List Value} {x y : Int32} {I : MI} {J : MJ} {R : MR} {S : Sh} {Q : SkQ} : Wp 23 1215 ls (.int y :: .int x :: st) I J R S Q = if x = y then Wp 23 1220 ls st I J R S Q else Wp 23 1218 ls st I J R S Q := o_ic_eq rfl rfl k_L_law_1215
theorem k_L_law_1218 : decode (sk_by 23) 1218 = .ok (.iconst 0, 1) := by decide +kernel
theorem x_L_law_1218 {ls st : List Value} {I : MI} {J : MJ} {R : MR} {S : Sh} {Q : SkQ} : Wp 23 1218 ls st I J R S Q = Wp 23 1219 ls (.int 0 :: st) I J R S Q := o_const (by decide) k_L_law_1218
theorem k_L_law_1219 : decode (sk_by 23) 1219 = .ok (.ireturn, 1) := by decide +kernel
theorem x_L_law_1219 {ls : List Value} {v : Int32} {I : MI} {J : MJ} {R : MR} {S : Sh} {Q : SkQ} (h : rOk (some .boolean) v = true) : Wp 23 1219 ls [.int v] I J R S Q = Q 0 (some (.int v)) I J R S := o_ireturn k_L_law_1219 (by rw [show sk_rt 23 = some .boolean from rfl]; exact h)
theorem k_L_law_1220 : decode (sk_by 23) 1220 = .ok (.iload 5, 2) := by decide +kernel
theorem x_L_law_1220 {st : List Value} {l0 : Nat} {l1 : Nat} {l2 : Nat} {l3 : Nat} {l4 : Int32} {l6 : Int64} {x : Int32} {I : MI} {J : MJ} {R : MR} {S : Sh} {Q : SkQ} : Wp 23 1220 [.ref l0, .ref l1, .ref l2, .ref l3, .int l4, .int x, .long l6, nov] st I J R S Q = Wp 23 1222 [.ref l0, .ref l1, .ref l2, .ref l3, .int l4, .int x, .long l6, nov] (.int x :: st) I J R S Q := o_iload rfl k_L_law_1220
theorem k_L_law_1222 : decode (sk_by 23) 1222 = .ok (.ifCond .ne 14, 3) := by decide +kernel
theorem x_L_law_1222 {ls st : List Value} {x : Int32} {I : MI} {J : MJ} {R : MR} {S : Sh} {Q : SkQ} : Wp 23 1222 ls (.int x :: st) I J R S Q = if x = 0 then Wp 23 1225 ls st I J R S Q else Wp 23 1236 ls st I J R S Q := o_if_ne rfl rfl k_L_law_1222
theorem k_L_law_1225 : decode (sk_by 23) 1225 = .ok (.aload_n 3, 1) := by decide +kernel
theorem x_L_law_1225 {st : List Value} {l0 : Nat} {l1 : Nat} {l2 : Nat} {l4 : Int32} {l5 : Int32} {l6 : Int64} {x : Nat} {I : MI} {J : MJ} {R : MR} {S : Sh} {Q : SkQ} : Wp 23 1225 [.ref l0, .ref l1, .ref l2, .ref x, .int l4, .int l5, .long l6, nov] st I J R S Q = Wp 23 1226 [.ref l0, .ref l1, .ref l2, .ref x, .int l4, .int l5, .long l6, nov] (.ref x :: st) I J R S Q := o_aload_n rfl k_L_law_1225
theorem k_L_law_1226 : decode (sk_by 23) 1226 = .ok (.iconst 0, 1) := by decide +kernel
theorem x_L_law_1226 {ls st : List Value} {I : MI} {J : MJ} {R : MR} {S : Sh} {Q : SkQ} : Wp 23 1226 ls st I J R S Q = Wp 23 1227 ls (.int 0 :: st) I J R S Q := o_const (by decide) k_L_law_1226
theorem k_L_law_1227 : decode (sk_by 23) 1227 = .ok (.laload, 1) := by decide +kernel
theorem x_L_law_1227 {ls st : List Value} {a : Nat} {i : Int32} {I : MI} {J : MJ} {R : MR} {S : Sh} {Q : SkQ} (ha : S.1 a = 31) (hi : inb i (S.2.1 a) = true) : Wp 23 1227 ls (.int i :: .ref a :: st) I J R S Q = Wp 23 1228 ls (.long (J a (ix i)) :: st) I J R S Q := o_laload k_L_law_1227 ha hi
theorem k_L_law_1228 : decode (sk_by 23) 1228 = .ok (.lload 6, 2) := by decide +kernel
theorem x_L_law_1228 {st : List Value} {l0 : Nat} {l1 : Nat} {l2 : Nat} {l3 : Nat} {l4 : Int32} {l5 : Int32} {x : Int64} {I : MI} {J : MJ} {R : MR} {S : Sh} {Q : SkQ} : Wp 23 1228 [.ref l0, .ref l1, .ref l2, .ref l3, .int l4, .int l5, .long x, nov] st I J R S Q = Wp 23 1230 [.ref l0, .ref l1, .ref l2, .ref l3, .int l4, .int l5, .long x, nov] (.long x :: st) I J R S Q := o_lload rfl k_L_law_1228
theorem k_L_law_1230 : decode (sk_by 23) 1230 = .ok (.lcmp, 1) := by decide +kernel
theorem x_L_law_1230 {ls st : List Value} {x y : Int64} {I : MI} {J : MJ} {R : MR} {S : Sh} {Q : SkQ} : Wp 23 1230 ls (.long y :: .long x :: st) I J R S Q = Wp 23 1231 ls (.int (lg_cmp x y) :: st) I J R S Q := o_lcmp k_L_law_1230
theorem k_L_law_1231 : decode (sk_by 23) 1231 = .ok (.ifCond .eq 5, 3) := by decide +kernel
theorem x_L_law_1231 {ls st : List Value} {x : Int32} {I : MI} {J : MJ} {R : MR} {S : Sh} {Q : SkQ} : Wp 23 1231 ls (.int x :: st) I J R S Q = if x = 0 then Wp 23 1236 ls st I J R S Q else Wp 23 1234 ls st I J R S Q := o_if_eq rfl rfl k_L_law_1231
theorem k_L_law_1234 : decode (sk_by 23) 1234 = .ok (.iconst 0, 1) := by decide +kernel
theorem x_L_law_1234 {ls st : List Value} {I : MI} {J : MJ} {R : MR} {S : Sh} {Q : SkQ} : Wp 23 1234 ls st I J R S Q = Wp 23 1235 ls (.int 0 :: st) I J R S Q := o_const (by decide) k_L_law_1234
theorem k_L_law_1235 : decode (sk_by 23) 1235 = .ok (.ireturn, 1) := by decide +kernel
theorem x_L_law_1235 {ls : List Value} {v : Int32} {I : MI} {J : MJ} {R : MR} {S : Sh} {Q : SkQ} (h : rOk (some .boolean) v = true) : Wp 23 1235 ls [.int v] I J R S Q = Q 0 (some (.int v)) I J R S := o_ireturn k_L_law_1235 (by rw [show sk_rt 23 = some .boolean from rfl]; exact h)
theorem k_L_law_1236 : decode (sk_by 23) 1236 = .ok (.goto 952, 3) := by decide +kernel
theorem x_L_law_1236 {ls st : List Value} {I : MI} {J : MJ} {R : MR} {S : Sh} {Q : SkQ} : Wp 23 1236 ls st I J R S Q = Wp 23 2188 ls st I J R S Q := o_goto rfl rfl k_L_law_1236
theorem k_L_law_1239 : decode (sk_by 23) 1239 = .ok (.aload_n 1, 1) := by decide +kernel
theorem x_L_law_1239 {st : List Value} {l0 : Nat} {l2 : Nat} {l3 : Nat} {l4 : Int32} {l5 : Value} {l6 : Value} {x : Nat} {I : MI} {J : MJ} {R : MR} {S : Sh} {Q : SkQ} : Wp 23 1239 [.ref l0, .ref x, .ref l2, .ref l3, .int l4, l5, l6, nov] st I J R S Q = Wp 23 1240 [.ref l0, .ref x, .ref l2, .ref l3, .int l4, l5, l6, nov] (.ref x :: st) I J R S Q := o_aload_n rfl k_L_law_1239
theorem k_L_law_1240 : decode (sk_by 23) 1240 = .ok (.aload_n 0, 1) := by decide +kernel
theorem x_L_law_1240 {st : List Value} {l1 : Nat} {l2 : Nat} {l3 : Nat} {l4 : Int32} {l5 : Value} {l6 : Value} {x : Nat} {I : MI} {J : MJ} {R : MR} {S : Sh} {Q : SkQ} : Wp 23 1240 [.ref x, .ref l1, .ref l2, .ref l3, .int l4, l5, l6, nov] st I J R S Q = Wp 23 1241 [.ref x, .ref l1, .ref l2, .ref l3, .int l4, l5, l6, nov] (.ref x :: st) I J R S Q := o_aload_n rfl k_L_law_1240
theorem k_L_law_1241 : decode (sk_by 23) 1241 = .ok (.iload 4, 2) := by decide +kernel
theorem x_L_law_1241 {st : List Value} {l0 : Nat} {l1 : Nat} {l2 : Nat} {l3 : Nat} {l5 : Value} {l6 : Value} {x : Int32} {I : MI} {J : MJ} {R : MR} {S : Sh} {Q : SkQ} : Wp 23 1241 [.ref l0, .ref l1, .ref l2, .ref l3, .int x, l5, l6, nov] st I J R S Q = Wp 23 1243 [.ref l0, .ref l1, .ref l2, .ref l3, .int x, l5, l6, nov] (.int x :: st) I J R S Q := o_iload rfl k_L_law_1241
theorem k_L_law_1243 : decode (sk_by 23) 1243 = .ok (.iconst 1, 1) := by decide +kernel
theorem x_L_law_1243 {ls st : List Value} {I : MI} {J : MJ} {R : MR} {S : Sh} {Q : SkQ} : Wp 23 1243 ls st I J R S Q = Wp 23 1244 ls (.int 1 :: st) I J R S Q := o_const (by decide) k_L_law_1243
theorem k_L_law_1244 : decode (sk_by 23) 1244 = .ok (.iadd, 1) := by decide +kernel
theorem x_L_law_1244 {ls st : List Value} {x y : Int32} {I : MI} {J : MJ} {R : MR} {S : Sh} {Q : SkQ} : Wp 23 1244 ls (.int y :: .int x :: st) I J R S Q = Wp 23 1245 ls (.int (x + y) :: st) I J R S Q := o_iadd k_L_law_1244
theorem k_L_law_1245 : decode (sk_by 23) 1245 = .ok (.iaload, 1) := by decide +kernel
theorem x_L_law_1245 {ls st : List Value} {a : Nat} {i : Int32} {I : MI} {J : MJ} {R : MR} {S : Sh} {Q : SkQ} (ha : S.1 a = 30) (hi : inb i (S.2.1 a) = true) : Wp 23 1245 ls (.int i :: .ref a :: st) I J R S Q = Wp 23 1246 ls (.int (I a (ix i)) :: st) I J R S Q := o_iaload k_L_law_1245 ha hi
theorem x_L_law_1245C {ls st : List Value} {a : Nat} {i : Int32} {I : MI} {J : MJ} {R : MR} {S : Sh} {Q : SkQ} (ha : S.1 a = 40) (hi : inb i (S.2.1 a) = true) : Wp 23 1245 ls (.int i :: .ref a :: st) I J R S Q = Wp 23 1246 ls (.int (I a (ix i)) :: st) I J R S Q := o_ialoadC k_L_law_1245 ha hi
theorem k_L_law_1246 : decode (sk_by 23) 1246 = .ok (.aload_n 0, 1) := by decide +kernel
theorem x_L_law_1246 {st : List Value} {l1 : Nat} {l2 : Nat} {l3 : Nat} {l4 : Int32} {l5 : Value} {l6 : Value} {x : Nat} {I : MI} {J : MJ} {R : MR} {S : Sh} {Q : SkQ} : Wp 23 1246 [.ref x, .ref l1, .ref l2, .ref l3, .int l4, l5, l6, nov] st I J R S Q = Wp 23 1247 [.ref x, .ref l1, .ref l2, .ref l3, .int l4, l5, l6, nov] (.ref x :: st) I J R S Q := o_aload_n rfl k_L_law_1246
theorem k_L_law_1247 : decode (sk_by 23) 1247 = .ok (.iload 4, 2) := by decide +kernel
theorem x_L_law_1247 {st : List Value} {l0 : Nat} {l1 : Nat} {l2 : Nat} {l3 : Nat} {l5 : Value} {l6 : Value} {x : Int32} {I : MI} {J : MJ} {R : MR} {S : Sh} {Q : SkQ} : Wp 23 1247 [.ref l0, .ref l1, .ref l2, .ref l3, .int x, l5, l6, nov] st I J R S Q = Wp 23 1249 [.ref l0, .ref l1, .ref l2, .ref l3, .int x, l5, l6, nov] (.int x :: st) I J R S Q := o_iload rfl k_L_law_1247
theorem k_L_law_1249 : decode (sk_by 23) 1249 = .ok (.iconst 2, 1) := by decide +kernel
theorem x_L_law_1249 {ls st : List Value} {I : MI} {J : MJ} {R : MR} {S : Sh} {Q : SkQ} : Wp 23 1249 ls st I J R S Q = Wp 23 1250 ls (.int 2 :: st) I J R S Q := o_const (by decide) k_L_law_1249
theorem k_L_law_1250 : decode (sk_by 23) 1250 = .ok (.iadd, 1) := by decide +kernel
theorem x_L_law_1250 {ls st : List Value} {x y : Int32} {I : MI} {J : MJ} {R : MR} {S : Sh} {Q : SkQ} : Wp 23 1250 ls (.int y :: .int x :: st) I J R S Q = Wp 23 1251 ls (.int (x + y) :: st) I J R S Q := o_iadd k_L_law_1250
theorem k_L_law_1251 : decode (sk_by 23) 1251 = .ok (.iaload, 1) := by decide +kernel
theorem x_L_law_1251 {ls st : List Value} {a : Nat} {i : Int32} {I : MI} {J : MJ} {R : MR} {S : Sh} {Q : SkQ} (ha : S.1 a = 30) (hi : inb i (S.2.1 a) = true) : Wp 23 1251 ls (.int i :: .ref a :: st) I J R S Q = Wp 23 1252 ls (.int (I a (ix i)) :: st) I J R S Q := o_iaload k_L_law_1251 ha hi
theorem x_L_law_1251C {ls st : List Value} {a : Nat} {i : Int32} {I : MI} {J : MJ} {R : MR} {S : Sh} {Q : SkQ} (ha : S.1 a = 40) (hi : inb i (S.2.1 a) = true) : Wp 23 1251 ls (.int i :: .ref a :: st) I J R S Q = Wp 23 1252 ls (.int (I a (ix i)) :: st) I J R S Q := o_ialoadC k_L_law_1251 ha hi
theorem k_L_law_1252 : decode (sk_by 23) 1252 = .ok (.aload_n 3, 1) := by decide +kernel
theorem x_L_law_1252 {st : List Value} {l0 : Nat} {l1 : Nat} {l2 : Nat} {l4 : Int32} {l5 : Value} {l6 : Value} {x : Nat} {I : MI} {J : MJ} {R : MR} {S : Sh} {Q : SkQ} : Wp 23 1252 [.ref l0, .ref l1, .ref l2, .ref x, .int l4, l5, l6, nov] st I J R S Q = Wp 23 1253 [.ref l0, .ref l1, .ref l2, .ref x, .int l4, l5, l6, nov] (.ref x :: st) I J R S Q := o_aload_n rfl k_L_law_1252
theorem k_L_law_1253 : decode (sk_by 23) 1253 = .ok (.invokestatic 149, 3) := by decide +kernel
theorem x_L_law_1253 {ls : List Value} {a0 : Nat} {a1 : Int32} {a2 : Int32} {a3 : Nat} {I : MI} {J : MJ} {R : MR} {S : Sh} {Q : SkQ} : Wp 23 1253 ls (.ref a3 :: .int a2 :: .int a1 :: .ref a0 :: []) I J R S Q = Wp 13 0 [.ref a0, .int a1, .int a2, .ref a3, nov] [] I J R S (Ret 23 1253 1256 13 ls [] Q) := o_call (as := [.ref a0, .int a1, .int a2, .ref a3]) (rest := []) (show sk_lkM (sk_cl 23) 149 = some 13 by decide +kernel) (by decide) (by decide) (by (decide +kernel)) (ins := .invokestatic 149) (by (decide +kernel)) k_L_law_1253 rfl (show 4 = sk_na 13 by (decide +kernel)) (Nat.le_of_ble_eq_true rfl) (Nat.le_trans (show (argL [.ref a0, .int a1, .int a2, .ref a3]).length ≤ 5 from Nat.le_of_ble_eq_true rfl) (by (decide +kernel))) rfl
theorem k_L_law_1256 : decode (sk_by 23) 1256 = .ok (.istore 5, 2) := by decide +kernel
theorem x_L_law_1256 {st : List Value} {l0 : Nat} {l1 : Nat} {l2 : Nat} {l3 : Nat} {l4 : Int32} {l5 : Value} {l6 : Value} {x : Int32} {I : MI} {J : MJ} {R : MR} {S : Sh} {Q : SkQ} : Wp 23 1256 [.ref l0, .ref l1, .ref l2, .ref l3, .int l4, l5, l6, nov] (.int x :: st) I J R S Q = Wp 23 1258 [.ref l0, .ref l1, .ref l2, .ref l3, .int l4, .int x, l6, nov] st I J R S Q := o_istore (Nat.le_of_ble_eq_true rfl) rfl k_L_law_1256
theorem k_L_law_1258 : decode (sk_by 23) 1258 = .ok (.aload_n 2, 1) := by decide +kernel
theorem x_L_law_1258 {st : List Value} {l0 : Nat} {l1 : Nat} {l3 : Nat} {l4 : Int32} {l5 : Int32} {l6 : Value} {x : Nat} {I : MI} {J : MJ} {R : MR} {S : Sh} {Q : SkQ} : Wp 23 1258 [.ref l0, .ref l1, .ref x, .ref l3, .int l4, .int l5, l6, nov] st I J R S Q = Wp 23 1259 [.ref l0, .ref l1, .ref x, .ref l3, .int l4, .int l5, l6, nov] (.ref x :: st) I J R S Q := o_aload_n rfl k_L_law_1258
theorem k_L_law_1259 : decode (sk_by 23) 1259 = .ok (.aload_n 0, 1) := by decide +kernel
theorem x_L_law_1259 {st : List Value} {l1 : Nat} {l2 : Nat} {l3 : Nat} {l4 : Int32} {l5 : Int32} {l6 : Value} {x : Nat} {I : MI} {J : MJ} {R : MR} {S : Sh} {Q : SkQ} : Wp 23 1259 [.ref x, .ref l1, .ref l2, .ref l3, .int l4, .int l5, l6, nov] st I J R S Q = Wp 23 1260 [.ref x, .ref l1, .ref l2, .ref l3, .int l4, .int l5, l6, nov] (.ref x :: st) I J R S Q := o_aload_n rfl k_L_law_1259
theorem k_L_law_1260 : decode (sk_by 23) 1260 = .ok (.iload 4, 2) := by decide +kernel
theorem x_L_law_1260 {st : List Value} {l0 : Nat} {l1 : Nat} {l2 : Nat} {l3 : Nat} {l5 : Int32} {l6 : Value} {x : Int32} {I : MI} {J : MJ} {R : MR} {S : Sh} {Q : SkQ} : Wp 23 1260 [.ref l0, .ref l1, .ref l2, .ref l3, .int x, .int l5, l6, nov] st I J R S Q = Wp 23 1262 [.ref l0, .ref l1, .ref l2, .ref l3, .int x, .int l5, l6, nov] (.int x :: st) I J R S Q := o_iload rfl k_L_law_1260
theorem k_L_law_1262 : decode (sk_by 23) 1262 = .ok (.iconst 1, 1) := by decide +kernel
theorem x_L_law_1262 {ls st : List Value} {I : MI} {J : MJ} {R : MR} {S : Sh} {Q : SkQ} : Wp 23 1262 ls st I J R S Q = Wp 23 1263 ls (.int 1 :: st) I J R S Q := o_const (by decide) k_L_law_1262
theorem k_L_law_1263 : decode (sk_by 23) 1263 = .ok (.iadd, 1) := by decide +kernel
theorem x_L_law_1263 {ls st : List Value} {x y : Int32} {I : MI} {J : MJ} {R : MR} {S : Sh} {Q : SkQ} : Wp 23 1263 ls (.int y :: .int x :: st) I J R S Q = Wp 23 1264 ls (.int (x + y) :: st) I J R S Q := o_iadd k_L_law_1263
theorem k_L_law_1264 : decode (sk_by 23) 1264 = .ok (.iaload, 1) := by decide +kernel
theorem x_L_law_1264 {ls st : List Value} {a : Nat} {i : Int32} {I : MI} {J : MJ} {R : MR} {S : Sh} {Q : SkQ} (ha : S.1 a = 30) (hi : inb i (S.2.1 a) = true) : Wp 23 1264 ls (.int i :: .ref a :: st) I J R S Q = Wp 23 1265 ls (.int (I a (ix i)) :: st) I J R S Q := o_iaload k_L_law_1264 ha hi
theorem x_L_law_1264C {ls st : List Value} {a : Nat} {i : Int32} {I : MI} {J : MJ} {R : MR} {S : Sh} {Q : SkQ} (ha : S.1 a = 40) (hi : inb i (S.2.1 a) = true) : Wp 23 1264 ls (.int i :: .ref a :: st) I J R S Q = Wp 23 1265 ls (.int (I a (ix i)) :: st) I J R S Q := o_ialoadC k_L_law_1264 ha hi
theorem k_L_law_1265 : decode (sk_by 23) 1265 = .ok (.aload_n 0, 1) := by decide +kernel
theorem x_L_law_1265 {st : List Value} {l1 : Nat} {l2 : Nat} {l3 : Nat} {l4 : Int32} {l5 : Int32} {l6 : Value} {x : Nat} {I : MI} {J : MJ} {R : MR} {S : Sh} {Q : SkQ} : Wp 23 1265 [.ref x, .ref l1, .ref l2, .ref l3, .int l4, .int l5, l6, nov] st I J R S Q = Wp 23 1266 [.ref x, .ref l1, .ref l2, .ref l3, .int l4, .int l5, l6, nov] (.ref x :: st) I J R S Q := o_aload_n rfl k_L_law_1265
theorem k_L_law_1266 : decode (sk_by 23) 1266 = .ok (.iload 4, 2) := by decide +kernel
theorem x_L_law_1266 {st : List Value} {l0 : Nat} {l1 : Nat} {l2 : Nat} {l3 : Nat} {l5 : Int32} {l6 : Value} {x : Int32} {I : MI} {J : MJ} {R : MR} {S : Sh} {Q : SkQ} : Wp 23 1266 [.ref l0, .ref l1, .ref l2, .ref l3, .int x, .int l5, l6, nov] st I J R S Q = Wp 23 1268 [.ref l0, .ref l1, .ref l2, .ref l3, .int x, .int l5, l6, nov] (.int x :: st) I J R S Q := o_iload rfl k_L_law_1266
theorem k_L_law_1268 : decode (sk_by 23) 1268 = .ok (.iconst 2, 1) := by decide +kernel
theorem x_L_law_1268 {ls st : List Value} {I : MI} {J : MJ} {R : MR} {S : Sh} {Q : SkQ} : Wp 23 1268 ls st I J R S Q = Wp 23 1269 ls (.int 2 :: st) I J R S Q := o_const (by decide) k_L_law_1268
theorem k_L_law_1269 : decode (sk_by 23) 1269 = .ok (.iadd, 1) := by decide +kernel
theorem x_L_law_1269 {ls st : List Value} {x y : Int32} {I : MI} {J : MJ} {R : MR} {S : Sh} {Q : SkQ} : Wp 23 1269 ls (.int y :: .int x :: st) I J R S Q = Wp 23 1270 ls (.int (x + y) :: st) I J R S Q := o_iadd k_L_law_1269
theorem k_L_law_1270 : decode (sk_by 23) 1270 = .ok (.iaload, 1) := by decide +kernel
theorem x_L_law_1270 {ls st : List Value} {a : Nat} {i : Int32} {I : MI} {J : MJ} {R : MR} {S : Sh} {Q : SkQ} (ha : S.1 a = 30) (hi : inb i (S.2.1 a) = true) : Wp 23 1270 ls (.int i :: .ref a :: st) I J R S Q = Wp 23 1271 ls (.int (I a (ix i)) :: st) I J R S Q := o_iaload k_L_law_1270 ha hi
theorem x_L_law_1270C {ls st : List Value} {a : Nat} {i : Int32} {I : MI} {J : MJ} {R : MR} {S : Sh} {Q : SkQ} (ha : S.1 a = 40) (hi : inb i (S.2.1 a) = true) : Wp 23 1270 ls (.int i :: .ref a :: st) I J R S Q = Wp 23 1271 ls (.int (I a (ix i)) :: st) I J R S Q := o_ialoadC k_L_law_1270 ha hi
theorem k_L_law_1271 : decode (sk_by 23) 1271 = .ok (.invokevirtual 151, 3) := by decide +kernel
theorem x_L_law_1271 {ls : List Value} {a0 : Nat} {a1 : Int32} {a2 : Int32} {I : MI} {J : MJ} {R : MR} {S : Sh} {Q : SkQ} (ha : S.1 a0 = 8) : Wp 23 1271 ls (.int a2 :: .int a1 :: .ref a0 :: []) I J R S Q = Wp 226 0 [.ref a0, .int a1, .int a2] [] I J R S (Ret 23 1271 1274 226 ls [] Q) := o_call (as := [.ref a0, .int a1, .int a2]) (rest := []) (show sk_lkM (sk_cl 23) 151 = some 226 by decide +kernel) (by decide) (by decide) (by (decide +kernel)) (ins := .invokevirtual 151) (by (decide +kernel)) k_L_law_1271 rfl (show 3 = sk_na 226 by (decide +kernel)) (Nat.le_of_ble_eq_true rfl) (Nat.le_trans (show (argL [.ref a0, .int a1, .int a2]).length ≤ 3 from Nat.le_of_ble_eq_true rfl) (by (decide +kernel))) (rcv_of (by (decide +kernel)) (by decide) ha)
theorem k_L_law_1274 : decode (sk_by 23) 1274 = .ok (.istore 6, 2) := by decide +kernel
theorem x_L_law_1274 {st : List Value} {l0 : Nat} {l1 : Nat} {l2 : Nat} {l3 : Nat} {l4 : Int32} {l5 : Int32} {l6 : Value} {x : Int32} {I : MI} {J : MJ} {R : MR} {S : Sh} {Q : SkQ} : Wp 23 1274 [.ref l0, .ref l1, .ref l2, .ref l3, .int l4, .int l5, l6, nov] (.int x :: st) I J R S Q = Wp 23 1276 [.ref l0, .ref l1, .ref l2, .ref l3, .int l4, .int l5, .int x, nov] st I J R S Q := o_istore (Nat.le_of_ble_eq_true rfl) rfl k_L_law_1274
theorem k_L_law_1276 : decode (sk_by 23) 1276 = .ok (.aload_n 2, 1) := by decide +kernel
theorem x_L_law_1276 {st : List Value} {l0 : Nat} {l1 : Nat} {l3 : Nat} {l4 : Int32} {l5 : Int32} {l6 : Int32} {x : Nat} {I : MI} {J : MJ} {R : MR} {S : Sh} {Q : SkQ} : Wp 23 1276 [.ref l0, .ref l1, .ref x, .ref l3, .int l4, .int l5, .int l6, nov] st I J R S Q = Wp 23 1277 [.ref l0, .ref l1, .ref x, .ref l3, .int l4, .int l5, .int l6, nov] (.ref x :: st) I J R S Q := o_aload_n rfl k_L_law_1276
theorem k_L_law_1277 : decode (sk_by 23) 1277 = .ok (.invokevirtual 105, 3) := by decide +kernel
theorem x_L_law_1277 {ls : List Value} {a0 : Nat} {I : MI} {J : MJ} {R : MR} {S : Sh} {Q : SkQ} (ha : S.1 a0 = 8) : Wp 23 1277 ls (.ref a0 :: []) I J R S Q = Wp 174 0 [.ref a0] [] I J R S (Ret 23 1277 1280 174 ls [] Q) := o_call (as := [.ref a0]) (rest := []) (show sk_lkM (sk_cl 23) 105 = some 174 by decide +kernel) (by decide) (by decide) (by (decide +kernel)) (ins := .invokevirtual 105) (by (decide +kernel)) k_L_law_1277 rfl (show 1 = sk_na 174 by (decide +kernel)) (Nat.le_of_ble_eq_true rfl) (Nat.le_trans (show (argL [.ref a0]).length ≤ 1 from Nat.le_of_ble_eq_true rfl) (by (decide +kernel))) (rcv_of (by (decide +kernel)) (by decide) ha)
theorem k_L_law_1280 : decode (sk_by 23) 1280 = .ok (.iload 5, 2) := by decide +kernel
theorem x_L_law_1280 {st : List Value} {l0 : Nat} {l1 : Nat} {l2 : Nat} {l3 : Nat} {l4 : Int32} {l6 : Int32} {x : Int32} {I : MI} {J : MJ} {R : MR} {S : Sh} {Q : SkQ} : Wp 23 1280 [.ref l0, .ref l1, .ref l2, .ref l3, .int l4, .int x, .int l6, nov] st I J R S Q = Wp 23 1282 [.ref l0, .ref l1, .ref l2, .ref l3, .int l4, .int x, .int l6, nov] (.int x :: st) I J R S Q := o_iload rfl k_L_law_1280
theorem k_L_law_1282 : decode (sk_by 23) 1282 = .ok (.if_icmp .eq 5, 3) := by decide +kernel
theorem x_L_law_1282 {ls st : List Value} {x y : Int32} {I : MI} {J : MJ} {R : MR} {S : Sh} {Q : SkQ} : Wp 23 1282 ls (.int y :: .int x :: st) I J R S Q = if x = y then Wp 23 1287 ls st I J R S Q else Wp 23 1285 ls st I J R S Q := o_ic_eq rfl rfl k_L_law_1282
theorem k_L_law_1285 : decode (sk_by 23) 1285 = .ok (.iconst 0, 1) := by decide +kernel
theorem x_L_law_1285 {ls st : List Value} {I : MI} {J : MJ} {R : MR} {S : Sh} {Q : SkQ} : Wp 23 1285 ls st I J R S Q = Wp 23 1286 ls (.int 0 :: st) I J R S Q := o_const (by decide) k_L_law_1285
theorem k_L_law_1286 : decode (sk_by 23) 1286 = .ok (.ireturn, 1) := by decide +kernel
theorem x_L_law_1286 {ls : List Value} {v : Int32} {I : MI} {J : MJ} {R : MR} {S : Sh} {Q : SkQ} (h : rOk (some .boolean) v = true) : Wp 23 1286 ls [.int v] I J R S Q = Q 0 (some (.int v)) I J R S := o_ireturn k_L_law_1286 (by rw [show sk_rt 23 = some .boolean from rfl]; exact h)
theorem k_L_law_1287 : decode (sk_by 23) 1287 = .ok (.iload 5, 2) := by decide +kernel
theorem x_L_law_1287 {st : List Value} {l0 : Nat} {l1 : Nat} {l2 : Nat} {l3 : Nat} {l4 : Int32} {l6 : Int32} {x : Int32} {I : MI} {J : MJ} {R : MR} {S : Sh} {Q : SkQ} : Wp 23 1287 [.ref l0, .ref l1, .ref l2, .ref l3, .int l4, .int x, .int l6, nov] st I J R S Q = Wp 23 1289 [.ref l0, .ref l1, .ref l2, .ref l3, .int l4, .int x, .int l6, nov] (.int x :: st) I J R S Q := o_iload rfl k_L_law_1287
theorem k_L_law_1289 : decode (sk_by 23) 1289 = .ok (.ifCond .ne 15, 3) := by decide +kernel
theorem x_L_law_1289 {ls st : List Value} {x : Int32} {I : MI} {J : MJ} {R : MR} {S : Sh} {Q : SkQ} : Wp 23 1289 ls (.int x :: st) I J R S Q = if x = 0 then Wp 23 1292 ls st I J R S Q else Wp 23 1304 ls st I J R S Q := o_if_ne rfl rfl k_L_law_1289
theorem k_L_law_1292 : decode (sk_by 23) 1292 = .ok (.aload_n 3, 1) := by decide +kernel
theorem x_L_law_1292 {st : List Value} {l0 : Nat} {l1 : Nat} {l2 : Nat} {l4 : Int32} {l5 : Int32} {l6 : Int32} {x : Nat} {I : MI} {J : MJ} {R : MR} {S : Sh} {Q : SkQ} : Wp 23 1292 [.ref l0, .ref l1, .ref l2, .ref x, .int l4, .int l5, .int l6, nov] st I J R S Q = Wp 23 1293 [.ref l0, .ref l1, .ref l2, .ref x, .int l4, .int l5, .int l6, nov] (.ref x :: st) I J R S Q := o_aload_n rfl k_L_law_1292
theorem k_L_law_1293 : decode (sk_by 23) 1293 = .ok (.iconst 0, 1) := by decide +kernel
theorem x_L_law_1293 {ls st : List Value} {I : MI} {J : MJ} {R : MR} {S : Sh} {Q : SkQ} : Wp 23 1293 ls st I J R S Q = Wp 23 1294 ls (.int 0 :: st) I J R S Q := o_const (by decide) k_L_law_1293
theorem k_L_law_1294 : decode (sk_by 23) 1294 = .ok (.laload, 1) := by decide +kernel
theorem x_L_law_1294 {ls st : List Value} {a : Nat} {i : Int32} {I : MI} {J : MJ} {R : MR} {S : Sh} {Q : SkQ} (ha : S.1 a = 31) (hi : inb i (S.2.1 a) = true) : Wp 23 1294 ls (.int i :: .ref a :: st) I J R S Q = Wp 23 1295 ls (.long (J a (ix i)) :: st) I J R S Q := o_laload k_L_law_1294 ha hi
theorem k_L_law_1295 : decode (sk_by 23) 1295 = .ok (.iload 6, 2) := by decide +kernel
theorem x_L_law_1295 {st : List Value} {l0 : Nat} {l1 : Nat} {l2 : Nat} {l3 : Nat} {l4 : Int32} {l5 : Int32} {x : Int32} {I : MI} {J : MJ} {R : MR} {S : Sh} {Q : SkQ} : Wp 23 1295 [.ref l0, .ref l1, .ref l2, .ref l3, .int l4, .int l5, .int x, nov] st I J R S Q = Wp 23 1297 [.ref l0, .ref l1, .ref l2, .ref l3, .int l4, .int l5, .int x, nov] (.int x :: st) I J R S Q := o_iload rfl k_L_law_1295
theorem k_L_law_1297 : decode (sk_by 23) 1297 = .ok (.i2l, 1) := by decide +kernel
theorem x_L_law_1297 {ls st : List Value} {x : Int32} {I : MI} {J : MJ} {R : MR} {S : Sh} {Q : SkQ} : Wp 23 1297 ls (.int x :: st) I J R S Q = Wp 23 1298 ls (.long x.toInt64 :: st) I J R S Q := o_i2l k_L_law_1297
theorem k_L_law_1298 : decode (sk_by 23) 1298 = .ok (.lcmp, 1) := by decide +kernel
theorem x_L_law_1298 {ls st : List Value} {x y : Int64} {I : MI} {J : MJ} {R : MR} {S : Sh} {Q : SkQ} : Wp 23 1298 ls (.long y :: .long x :: st) I J R S Q = Wp 23 1299 ls (.int (lg_cmp x y) :: st) I J R S Q := o_lcmp k_L_law_1298
theorem k_L_law_1299 : decode (sk_by 23) 1299 = .ok (.ifCond .eq 5, 3) := by decide +kernel
theorem x_L_law_1299 {ls st : List Value} {x : Int32} {I : MI} {J : MJ} {R : MR} {S : Sh} {Q : SkQ} : Wp 23 1299 ls (.int x :: st) I J R S Q = if x = 0 then Wp 23 1304 ls st I J R S Q else Wp 23 1302 ls st I J R S Q := o_if_eq rfl rfl k_L_law_1299
theorem k_L_law_1302 : decode (sk_by 23) 1302 = .ok (.iconst 0, 1) := by decide +kernel
theorem x_L_law_1302 {ls st : List Value} {I : MI} {J : MJ} {R : MR} {S : Sh} {Q : SkQ} : Wp 23 1302 ls st I J R S Q = Wp 23 1303 ls (.int 0 :: st) I J R S Q := o_const (by decide) k_L_law_1302
theorem k_L_law_1303 : decode (sk_by 23) 1303 = .ok (.ireturn, 1) := by decide +kernel
theorem x_L_law_1303 {ls : List Value} {v : Int32} {I : MI} {J : MJ} {R : MR} {S : Sh} {Q : SkQ} (h : rOk (some .boolean) v = true) : Wp 23 1303 ls [.int v] I J R S Q = Q 0 (some (.int v)) I J R S := o_ireturn k_L_law_1303 (by rw [show sk_rt 23 = some .boolean from rfl]; exact h)
theorem k_L_law_1304 : decode (sk_by 23) 1304 = .ok (.goto 884, 3) := by decide +kernel
theorem x_L_law_1304 {ls st : List Value} {I : MI} {J : MJ} {R : MR} {S : Sh} {Q : SkQ} : Wp 23 1304 ls st I J R S Q = Wp 23 2188 ls st I J R S Q := o_goto rfl rfl k_L_law_1304
theorem k_L_law_1307 : decode (sk_by 23) 1307 = .ok (.aload_n 1, 1) := by decide +kernel
theorem x_L_law_1307 {st : List Value} {l0 : Nat} {l2 : Nat} {l3 : Nat} {l4 : Int32} {l5 : Value} {l6 : Value} {x : Nat} {I : MI} {J : MJ} {R : MR} {S : Sh} {Q : SkQ} : Wp 23 1307 [.ref l0, .ref x, .ref l2, .ref l3, .int l4, l5, l6, nov] st I J R S Q = Wp 23 1308 [.ref l0, .ref x, .ref l2, .ref l3, .int l4, l5, l6, nov] (.ref x :: st) I J R S Q := o_aload_n rfl k_L_law_1307
theorem k_L_law_1308 : decode (sk_by 23) 1308 = .ok (.aload_n 0, 1) := by decide +kernel
theorem x_L_law_1308 {st : List Value} {l1 : Nat} {l2 : Nat} {l3 : Nat} {l4 : Int32} {l5 : Value} {l6 : Value} {x : Nat} {I : MI} {J : MJ} {R : MR} {S : Sh} {Q : SkQ} : Wp 23 1308 [.ref x, .ref l1, .ref l2, .ref l3, .int l4, l5, l6, nov] st I J R S Q = Wp 23 1309 [.ref x, .ref l1, .ref l2, .ref l3, .int l4, l5, l6, nov] (.ref x :: st) I J R S Q := o_aload_n rfl k_L_law_1308
theorem k_L_law_1309 : decode (sk_by 23) 1309 = .ok (.iload 4, 2) := by decide +kernel
theorem x_L_law_1309 {st : List Value} {l0 : Nat} {l1 : Nat} {l2 : Nat} {l3 : Nat} {l5 : Value} {l6 : Value} {x : Int32} {I : MI} {J : MJ} {R : MR} {S : Sh} {Q : SkQ} : Wp 23 1309 [.ref l0, .ref l1, .ref l2, .ref l3, .int x, l5, l6, nov] st I J R S Q = Wp 23 1311 [.ref l0, .ref l1, .ref l2, .ref l3, .int x, l5, l6, nov] (.int x :: st) I J R S Q := o_iload rfl k_L_law_1309
theorem k_L_law_1311 : decode (sk_by 23) 1311 = .ok (.iconst 1, 1) := by decide +kernel
theorem x_L_law_1311 {ls st : List Value} {I : MI} {J : MJ} {R : MR} {S : Sh} {Q : SkQ} : Wp 23 1311 ls st I J R S Q = Wp 23 1312 ls (.int 1 :: st) I J R S Q := o_const (by decide) k_L_law_1311
theorem k_L_law_1312 : decode (sk_by 23) 1312 = .ok (.iadd, 1) := by decide +kernel
theorem x_L_law_1312 {ls st : List Value} {x y : Int32} {I : MI} {J : MJ} {R : MR} {S : Sh} {Q : SkQ} : Wp 23 1312 ls (.int y :: .int x :: st) I J R S Q = Wp 23 1313 ls (.int (x + y) :: st) I J R S Q := o_iadd k_L_law_1312
theorem k_L_law_1313 : decode (sk_by 23) 1313 = .ok (.iaload, 1) := by decide +kernel
theorem x_L_law_1313 {ls st : List Value} {a : Nat} {i : Int32} {I : MI} {J : MJ} {R : MR} {S : Sh} {Q : SkQ} (ha : S.1 a = 30) (hi : inb i (S.2.1 a) = true) : Wp 23 1313 ls (.int i :: .ref a :: st) I J R S Q = Wp 23 1314 ls (.int (I a (ix i)) :: st) I J R S Q := o_iaload k_L_law_1313 ha hi
theorem x_L_law_1313C {ls st : List Value} {a : Nat} {i : Int32} {I : MI} {J : MJ} {R : MR} {S : Sh} {Q : SkQ} (ha : S.1 a = 40) (hi : inb i (S.2.1 a) = true) : Wp 23 1313 ls (.int i :: .ref a :: st) I J R S Q = Wp 23 1314 ls (.int (I a (ix i)) :: st) I J R S Q := o_ialoadC k_L_law_1313 ha hi
theorem k_L_law_1314 : decode (sk_by 23) 1314 = .ok (.aload_n 3, 1) := by decide +kernel
theorem x_L_law_1314 {st : List Value} {l0 : Nat} {l1 : Nat} {l2 : Nat} {l4 : Int32} {l5 : Value} {l6 : Value} {x : Nat} {I : MI} {J : MJ} {R : MR} {S : Sh} {Q : SkQ} : Wp 23 1314 [.ref l0, .ref l1, .ref l2, .ref x, .int l4, l5, l6, nov] st I J R S Q = Wp 23 1315 [.ref l0, .ref l1, .ref l2, .ref x, .int l4, l5, l6, nov] (.ref x :: st) I J R S Q := o_aload_n rfl k_L_law_1314
theorem k_L_law_1315 : decode (sk_by 23) 1315 = .ok (.invokestatic 152, 3) := by decide +kernel
theorem x_L_law_1315 {ls : List Value} {a0 : Nat} {a1 : Int32} {a2 : Nat} {I : MI} {J : MJ} {R : MR} {S : Sh} {Q : SkQ} : Wp 23 1315 ls (.ref a2 :: .int a1 :: .ref a0 :: []) I J R S Q = Wp 14 0 [.ref a0, .int a1, .ref a2, nov] [] I J R S (Ret 23 1315 1318 14 ls [] Q) := o_call (as := [.ref a0, .int a1, .ref a2]) (rest := []) (show sk_lkM (sk_cl 23) 152 = some 14 by decide +kernel) (by decide) (by decide) (by (decide +kernel)) (ins := .invokestatic 152) (by (decide +kernel)) k_L_law_1315 rfl (show 3 = sk_na 14 by (decide +kernel)) (Nat.le_of_ble_eq_true rfl) (Nat.le_trans (show (argL [.ref a0, .int a1, .ref a2]).length ≤ 4 from Nat.le_of_ble_eq_true rfl) (by (decide +kernel))) rfl
theorem k_L_law_1318 : decode (sk_by 23) 1318 = .ok (.istore 5, 2) := by decide +kernel
theorem x_L_law_1318 {st : List Value} {l0 : Nat} {l1 : Nat} {l2 : Nat} {l3 : Nat} {l4 : Int32} {l5 : Value} {l6 : Value} {x : Int32} {I : MI} {J : MJ} {R : MR} {S : Sh} {Q : SkQ} : Wp 23 1318 [.ref l0, .ref l1, .ref l2, .ref l3, .int l4, l5, l6, nov] (.int x :: st) I J R S Q = Wp 23 1320 [.ref l0, .ref l1, .ref l2, .ref l3, .int l4, .int x, l6, nov] st I J R S Q := o_istore (Nat.le_of_ble_eq_true rfl) rfl k_L_law_1318
theorem k_L_law_1320 : decode (sk_by 23) 1320 = .ok (.aload_n 2, 1) := by decide +kernel
theorem x_L_law_1320 {st : List Value} {l0 : Nat} {l1 : Nat} {l3 : Nat} {l4 : Int32} {l5 : Int32} {l6 : Value} {x : Nat} {I : MI} {J : MJ} {R : MR} {S : Sh} {Q : SkQ} : Wp 23 1320 [.ref l0, .ref l1, .ref x, .ref l3, .int l4, .int l5, l6, nov] st I J R S Q = Wp 23 1321 [.ref l0, .ref l1, .ref x, .ref l3, .int l4, .int l5, l6, nov] (.ref x :: st) I J R S Q := o_aload_n rfl k_L_law_1320
theorem k_L_law_1321 : decode (sk_by 23) 1321 = .ok (.aload_n 0, 1) := by decide +kernel
theorem x_L_law_1321 {st : List Value} {l1 : Nat} {l2 : Nat} {l3 : Nat} {l4 : Int32} {l5 : Int32} {l6 : Value} {x : Nat} {I : MI} {J : MJ} {R : MR} {S : Sh} {Q : SkQ} : Wp 23 1321 [.ref x, .ref l1, .ref l2, .ref l3, .int l4, .int l5, l6, nov] st I J R S Q = Wp 23 1322 [.ref x, .ref l1, .ref l2, .ref l3, .int l4, .int l5, l6, nov] (.ref x :: st) I J R S Q := o_aload_n rfl k_L_law_1321
theorem k_L_law_1322 : decode (sk_by 23) 1322 = .ok (.iload 4, 2) := by decide +kernel
theorem x_L_law_1322 {st : List Value} {l0 : Nat} {l1 : Nat} {l2 : Nat} {l3 : Nat} {l5 : Int32} {l6 : Value} {x : Int32} {I : MI} {J : MJ} {R : MR} {S : Sh} {Q : SkQ} : Wp 23 1322 [.ref l0, .ref l1, .ref l2, .ref l3, .int x, .int l5, l6, nov] st I J R S Q = Wp 23 1324 [.ref l0, .ref l1, .ref l2, .ref l3, .int x, .int l5, l6, nov] (.int x :: st) I J R S Q := o_iload rfl k_L_law_1322
theorem k_L_law_1324 : decode (sk_by 23) 1324 = .ok (.iconst 1, 1) := by decide +kernel
theorem x_L_law_1324 {ls st : List Value} {I : MI} {J : MJ} {R : MR} {S : Sh} {Q : SkQ} : Wp 23 1324 ls st I J R S Q = Wp 23 1325 ls (.int 1 :: st) I J R S Q := o_const (by decide) k_L_law_1324
theorem k_L_law_1325 : decode (sk_by 23) 1325 = .ok (.iadd, 1) := by decide +kernel
theorem x_L_law_1325 {ls st : List Value} {x y : Int32} {I : MI} {J : MJ} {R : MR} {S : Sh} {Q : SkQ} : Wp 23 1325 ls (.int y :: .int x :: st) I J R S Q = Wp 23 1326 ls (.int (x + y) :: st) I J R S Q := o_iadd k_L_law_1325
theorem k_L_law_1326 : decode (sk_by 23) 1326 = .ok (.iaload, 1) := by decide +kernel
theorem x_L_law_1326 {ls st : List Value} {a : Nat} {i : Int32} {I : MI} {J : MJ} {R : MR} {S : Sh} {Q : SkQ} (ha : S.1 a = 30) (hi : inb i (S.2.1 a) = true) : Wp 23 1326 ls (.int i :: .ref a :: st) I J R S Q = Wp 23 1327 ls (.int (I a (ix i)) :: st) I J R S Q := o_iaload k_L_law_1326 ha hi
theorem x_L_law_1326C {ls st : List Value} {a : Nat} {i : Int32} {I : MI} {J : MJ} {R : MR} {S : Sh} {Q : SkQ} (ha : S.1 a = 40) (hi : inb i (S.2.1 a) = true) : Wp 23 1326 ls (.int i :: .ref a :: st) I J R S Q = Wp 23 1327 ls (.int (I a (ix i)) :: st) I J R S Q := o_ialoadC k_L_law_1326 ha hi
theorem k_L_law_1327 : decode (sk_by 23) 1327 = .ok (.invokevirtual 155, 3) := by decide +kernel
theorem x_L_law_1327 {ls : List Value} {a0 : Nat} {a1 : Int32} {I : MI} {J : MJ} {R : MR} {S : Sh} {Q : SkQ} (ha : S.1 a0 = 8) : Wp 23 1327 ls (.int a1 :: .ref a0 :: []) I J R S Q = Wp 228 0 [.ref a0, .int a1] [] I J R S (Ret 23 1327 1330 228 ls [] Q) := o_call (as := [.ref a0, .int a1]) (rest := []) (show sk_lkM (sk_cl 23) 155 = some 228 by decide +kernel) (by decide) (by decide) (by (decide +kernel)) (ins := .invokevirtual 155) (by (decide +kernel)) k_L_law_1327 rfl (show 2 = sk_na 228 by (decide +kernel)) (Nat.le_of_ble_eq_true rfl) (Nat.le_trans (show (argL [.ref a0, .int a1]).length ≤ 2 from Nat.le_of_ble_eq_true rfl) (by (decide +kernel))) (rcv_of (by (decide +kernel)) (by decide) ha)
theorem k_L_law_1330 : decode (sk_by 23) 1330 = .ok (.istore 6, 2) := by decide +kernel
theorem x_L_law_1330 {st : List Value} {l0 : Nat} {l1 : Nat} {l2 : Nat} {l3 : Nat} {l4 : Int32} {l5 : Int32} {l6 : Value} {x : Int32} {I : MI} {J : MJ} {R : MR} {S : Sh} {Q : SkQ} : Wp 23 1330 [.ref l0, .ref l1, .ref l2, .ref l3, .int l4, .int l5, l6, nov] (.int x :: st) I J R S Q = Wp 23 1332 [.ref l0, .ref l1, .ref l2, .ref l3, .int l4, .int l5, .int x, nov] st I J R S Q := o_istore (Nat.le_of_ble_eq_true rfl) rfl k_L_law_1330
theorem k_L_law_1332 : decode (sk_by 23) 1332 = .ok (.aload_n 2, 1) := by decide +kernel
theorem x_L_law_1332 {st : List Value} {l0 : Nat} {l1 : Nat} {l3 : Nat} {l4 : Int32} {l5 : Int32} {l6 : Int32} {x : Nat} {I : MI} {J : MJ} {R : MR} {S : Sh} {Q : SkQ} : Wp 23 1332 [.ref l0, .ref l1, .ref x, .ref l3, .int l4, .int l5, .int l6, nov] st I J R S Q = Wp 23 1333 [.ref l0, .ref l1, .ref x, .ref l3, .int l4, .int l5, .int l6, nov] (.ref x :: st) I J R S Q := o_aload_n rfl k_L_law_1332
theorem k_L_law_1333 : decode (sk_by 23) 1333 = .ok (.invokevirtual 105, 3) := by decide +kernel
theorem x_L_law_1333 {ls : List Value} {a0 : Nat} {I : MI} {J : MJ} {R : MR} {S : Sh} {Q : SkQ} (ha : S.1 a0 = 8) : Wp 23 1333 ls (.ref a0 :: []) I J R S Q = Wp 174 0 [.ref a0] [] I J R S (Ret 23 1333 1336 174 ls [] Q) := o_call (as := [.ref a0]) (rest := []) (show sk_lkM (sk_cl 23) 105 = some 174 by decide +kernel) (by decide) (by decide) (by (decide +kernel)) (ins := .invokevirtual 105) (by (decide +kernel)) k_L_law_1333 rfl (show 1 = sk_na 174 by (decide +kernel)) (Nat.le_of_ble_eq_true rfl) (Nat.le_trans (show (argL [.ref a0]).length ≤ 1 from Nat.le_of_ble_eq_true rfl) (by (decide +kernel))) (rcv_of (by (decide +kernel)) (by decide) ha)
theorem k_L_law_1336 : decode (sk_by 23) 1336 = .ok (.iload 5, 2) := by decide +kernel
theorem x_L_law_1336 {st : List Value} {l0 : Nat} {l1 : Nat} {l2 : Nat} {l3 : Nat} {l4 : Int32} {l6 : Int32} {x : Int32} {I : MI} {J : MJ} {R : MR} {S : Sh} {Q : SkQ} : Wp 23 1336 [.ref l0, .ref l1, .ref l2, .ref l3, .int l4, .int x, .int l6, nov] st I J R S Q = Wp 23 1338 [.ref l0, .ref l1, .ref l2, .ref l3, .int l4, .int x, .int l6, nov] (.int x :: st) I J R S Q := o_iload rfl k_L_law_1336
theorem k_L_law_1338 : decode (sk_by 23) 1338 = .ok (.if_icmp .eq 5, 3) := by decide +kernel
theorem x_L_law_1338 {ls st : List Value} {x y : Int32} {I : MI} {J : MJ} {R : MR} {S : Sh} {Q : SkQ} : Wp 23 1338 ls (.int y :: .int x :: st) I J R S Q = if x = y then Wp 23 1343 ls st I J R S Q else Wp 23 1341 ls st I J R S Q := o_ic_eq rfl rfl k_L_law_1338
theorem k_L_law_1341 : decode (sk_by 23) 1341 = .ok (.iconst 0, 1) := by decide +kernel
theorem x_L_law_1341 {ls st : List Value} {I : MI} {J : MJ} {R : MR} {S : Sh} {Q : SkQ} : Wp 23 1341 ls st I J R S Q = Wp 23 1342 ls (.int 0 :: st) I J R S Q := o_const (by decide) k_L_law_1341
theorem k_L_law_1342 : decode (sk_by 23) 1342 = .ok (.ireturn, 1) := by decide +kernel
theorem x_L_law_1342 {ls : List Value} {v : Int32} {I : MI} {J : MJ} {R : MR} {S : Sh} {Q : SkQ} (h : rOk (some .boolean) v = true) : Wp 23 1342 ls [.int v] I J R S Q = Q 0 (some (.int v)) I J R S := o_ireturn k_L_law_1342 (by rw [show sk_rt 23 = some .boolean from rfl]; exact h)
theorem k_L_law_1343 : decode (sk_by 23) 1343 = .ok (.iload 5, 2) := by decide +kernel
theorem x_L_law_1343 {st : List Value} {l0 : Nat} {l1 : Nat} {l2 : Nat} {l3 : Nat} {l4 : Int32} {l6 : Int32} {x : Int32} {I : MI} {J : MJ} {R : MR} {S : Sh} {Q : SkQ} : Wp 23 1343 [.ref l0, .ref l1, .ref l2, .ref l3, .int l4, .int x, .int l6, nov] st I J R S Q = Wp 23 1345 [.ref l0, .ref l1, .ref l2, .ref l3, .int l4, .int x, .int l6, nov] (.int x :: st) I J R S Q := o_iload rfl k_L_law_1343
theorem k_L_law_1345 : decode (sk_by 23) 1345 = .ok (.ifCond .ne 15, 3) := by decide +kernel
theorem x_L_law_1345 {ls st : List Value} {x : Int32} {I : MI} {J : MJ} {R : MR} {S : Sh} {Q : SkQ} : Wp 23 1345 ls (.int x :: st) I J R S Q = if x = 0 then Wp 23 1348 ls st I J R S Q else Wp 23 1360 ls st I J R S Q := o_if_ne rfl rfl k_L_law_1345
theorem k_L_law_1348 : decode (sk_by 23) 1348 = .ok (.aload_n 3, 1) := by decide +kernel
theorem x_L_law_1348 {st : List Value} {l0 : Nat} {l1 : Nat} {l2 : Nat} {l4 : Int32} {l5 : Int32} {l6 : Int32} {x : Nat} {I : MI} {J : MJ} {R : MR} {S : Sh} {Q : SkQ} : Wp 23 1348 [.ref l0, .ref l1, .ref l2, .ref x, .int l4, .int l5, .int l6, nov] st I J R S Q = Wp 23 1349 [.ref l0, .ref l1, .ref l2, .ref x, .int l4, .int l5, .int l6, nov] (.ref x :: st) I J R S Q := o_aload_n rfl k_L_law_1348
theorem k_L_law_1349 : decode (sk_by 23) 1349 = .ok (.iconst 0, 1) := by decide +kernel
theorem x_L_law_1349 {ls st : List Value} {I : MI} {J : MJ} {R : MR} {S : Sh} {Q : SkQ} : Wp 23 1349 ls st I J R S Q = Wp 23 1350 ls (.int 0 :: st) I J R S Q := o_const (by decide) k_L_law_1349
theorem k_L_law_1350 : decode (sk_by 23) 1350 = .ok (.laload, 1) := by decide +kernel
theorem x_L_law_1350 {ls st : List Value} {a : Nat} {i : Int32} {I : MI} {J : MJ} {R : MR} {S : Sh} {Q : SkQ} (ha : S.1 a = 31) (hi : inb i (S.2.1 a) = true) : Wp 23 1350 ls (.int i :: .ref a :: st) I J R S Q = Wp 23 1351 ls (.long (J a (ix i)) :: st) I J R S Q := o_laload k_L_law_1350 ha hi
theorem k_L_law_1351 : decode (sk_by 23) 1351 = .ok (.iload 6, 2) := by decide +kernel
theorem x_L_law_1351 {st : List Value} {l0 : Nat} {l1 : Nat} {l2 : Nat} {l3 : Nat} {l4 : Int32} {l5 : Int32} {x : Int32} {I : MI} {J : MJ} {R : MR} {S : Sh} {Q : SkQ} : Wp 23 1351 [.ref l0, .ref l1, .ref l2, .ref l3, .int l4, .int l5, .int x, nov] st I J R S Q = Wp 23 1353 [.ref l0, .ref l1, .ref l2, .ref l3, .int l4, .int l5, .int x, nov] (.int x :: st) I J R S Q := o_iload rfl k_L_law_1351
theorem k_L_law_1353 : decode (sk_by 23) 1353 = .ok (.i2l, 1) := by decide +kernel
theorem x_L_law_1353 {ls st : List Value} {x : Int32} {I : MI} {J : MJ} {R : MR} {S : Sh} {Q : SkQ} : Wp 23 1353 ls (.int x :: st) I J R S Q = Wp 23 1354 ls (.long x.toInt64 :: st) I J R S Q := o_i2l k_L_law_1353
theorem k_L_law_1354 : decode (sk_by 23) 1354 = .ok (.lcmp, 1) := by decide +kernel
theorem x_L_law_1354 {ls st : List Value} {x y : Int64} {I : MI} {J : MJ} {R : MR} {S : Sh} {Q : SkQ} : Wp 23 1354 ls (.long y :: .long x :: st) I J R S Q = Wp 23 1355 ls (.int (lg_cmp x y) :: st) I J R S Q := o_lcmp k_L_law_1354
theorem k_L_law_1355 : decode (sk_by 23) 1355 = .ok (.ifCond .eq 5, 3) := by decide +kernel
theorem x_L_law_1355 {ls st : List Value} {x : Int32} {I : MI} {J : MJ} {R : MR} {S : Sh} {Q : SkQ} : Wp 23 1355 ls (.int x :: st) I J R S Q = if x = 0 then Wp 23 1360 ls st I J R S Q else Wp 23 1358 ls st I J R S Q := o_if_eq rfl rfl k_L_law_1355
theorem k_L_law_1358 : decode (sk_by 23) 1358 = .ok (.iconst 0, 1) := by decide +kernel
theorem x_L_law_1358 {ls st : List Value} {I : MI} {J : MJ} {R : MR} {S : Sh} {Q : SkQ} : Wp 23 1358 ls st I J R S Q = Wp 23 1359 ls (.int 0 :: st) I J R S Q := o_const (by decide) k_L_law_1358
theorem k_L_law_1359 : decode (sk_by 23) 1359 = .ok (.ireturn, 1) := by decide +kernel
theorem x_L_law_1359 {ls : List Value} {v : Int32} {I : MI} {J : MJ} {R : MR} {S : Sh} {Q : SkQ} (h : rOk (some .boolean) v = true) : Wp 23 1359 ls [.int v] I J R S Q = Q 0 (some (.int v)) I J R S := o_ireturn k_L_law_1359 (by rw [show sk_rt 23 = some .boolean from rfl]; exact h)
theorem k_L_law_1360 : decode (sk_by 23) 1360 = .ok (.goto 828, 3) := by decide +kernel
theorem x_L_law_1360 {ls st : List Value} {I : MI} {J : MJ} {R : MR} {S : Sh} {Q : SkQ} : Wp 23 1360 ls st I J R S Q = Wp 23 2188 ls st I J R S Q := o_goto rfl rfl k_L_law_1360
theorem k_L_law_1363 : decode (sk_by 23) 1363 = .ok (.aload_n 1, 1) := by decide +kernel
theorem x_L_law_1363 {st : List Value} {l0 : Nat} {l2 : Nat} {l3 : Nat} {l4 : Int32} {l5 : Value} {l6 : Value} {x : Nat} {I : MI} {J : MJ} {R : MR} {S : Sh} {Q : SkQ} : Wp 23 1363 [.ref l0, .ref x, .ref l2, .ref l3, .int l4, l5, l6, nov] st I J R S Q = Wp 23 1364 [.ref l0, .ref x, .ref l2, .ref l3, .int l4, l5, l6, nov] (.ref x :: st) I J R S Q := o_aload_n rfl k_L_law_1363
theorem k_L_law_1364 : decode (sk_by 23) 1364 = .ok (.aload_n 0, 1) := by decide +kernel
theorem x_L_law_1364 {st : List Value} {l1 : Nat} {l2 : Nat} {l3 : Nat} {l4 : Int32} {l5 : Value} {l6 : Value} {x : Nat} {I : MI} {J : MJ} {R : MR} {S : Sh} {Q : SkQ} : Wp 23 1364 [.ref x, .ref l1, .ref l2, .ref l3, .int l4, l5, l6, nov] st I J R S Q = Wp 23 1365 [.ref x, .ref l1, .ref l2, .ref l3, .int l4, l5, l6, nov] (.ref x :: st) I J R S Q := o_aload_n rfl k_L_law_1364
theorem k_L_law_1365 : decode (sk_by 23) 1365 = .ok (.iload 4, 2) := by decide +kernel
theorem x_L_law_1365 {st : List Value} {l0 : Nat} {l1 : Nat} {l2 : Nat} {l3 : Nat} {l5 : Value} {l6 : Value} {x : Int32} {I : MI} {J : MJ} {R : MR} {S : Sh} {Q : SkQ} : Wp 23 1365 [.ref l0, .ref l1, .ref l2, .ref l3, .int x, l5, l6, nov] st I J R S Q = Wp 23 1367 [.ref l0, .ref l1, .ref l2, .ref l3, .int x, l5, l6, nov] (.int x :: st) I J R S Q := o_iload rfl k_L_law_1365
theorem k_L_law_1367 : decode (sk_by 23) 1367 = .ok (.iconst 1, 1) := by decide +kernel
theorem x_L_law_1367 {ls st : List Value} {I : MI} {J : MJ} {R : MR} {S : Sh} {Q : SkQ} : Wp 23 1367 ls st I J R S Q = Wp 23 1368 ls (.int 1 :: st) I J R S Q := o_const (by decide) k_L_law_1367
theorem k_L_law_1368 : decode (sk_by 23) 1368 = .ok (.iadd, 1) := by decide +kernel
theorem x_L_law_1368 {ls st : List Value} {x y : Int32} {I : MI} {J : MJ} {R : MR} {S : Sh} {Q : SkQ} : Wp 23 1368 ls (.int y :: .int x :: st) I J R S Q = Wp 23 1369 ls (.int (x + y) :: st) I J R S Q := o_iadd k_L_law_1368
theorem k_L_law_1369 : decode (sk_by 23) 1369 = .ok (.iaload, 1) := by decide +kernel
theorem x_L_law_1369 {ls st : List Value} {a : Nat} {i : Int32} {I : MI} {J : MJ} {R : MR} {S : Sh} {Q : SkQ} (ha : S.1 a = 30) (hi : inb i (S.2.1 a) = true) : Wp 23 1369 ls (.int i :: .ref a :: st) I J R S Q = Wp 23 1370 ls (.int (I a (ix i)) :: st) I J R S Q := o_iaload k_L_law_1369 ha hi
theorem x_L_law_1369C {ls st : List Value} {a : Nat} {i : Int32} {I : MI} {J : MJ} {R : MR} {S : Sh} {Q : SkQ} (ha : S.1 a = 40) (hi : inb i (S.2.1 a) = true) : Wp 23 1369 ls (.int i :: .ref a :: st) I J R S Q = Wp 23 1370 ls (.int (I a (ix i)) :: st) I J R S Q := o_ialoadC k_L_law_1369 ha hi
theorem k_L_law_1370 : decode (sk_by 23) 1370 = .ok (.i2l, 1) := by decide +kernel
theorem x_L_law_1370 {ls st : List Value} {x : Int32} {I : MI} {J : MJ} {R : MR} {S : Sh} {Q : SkQ} : Wp 23 1370 ls (.int x :: st) I J R S Q = Wp 23 1371 ls (.long x.toInt64 :: st) I J R S Q := o_i2l k_L_law_1370
theorem k_L_law_1371 : decode (sk_by 23) 1371 = .ok (.bipush 32, 2) := by decide +kernel
theorem x_L_law_1371 {ls st : List Value} {I : MI} {J : MJ} {R : MR} {S : Sh} {Q : SkQ} : Wp 23 1371 ls st I J R S Q = Wp 23 1373 ls (.int 32 :: st) I J R S Q := o_bi (by decide) k_L_law_1371
theorem k_L_law_1373 : decode (sk_by 23) 1373 = .ok (.lshl, 1) := by decide +kernel
theorem x_L_law_1373 {ls st : List Value} {x : Int64} {y : Int32} {I : MI} {J : MJ} {R : MR} {S : Sh} {Q : SkQ} : Wp 23 1373 ls (.int y :: .long x :: st) I J R S Q = Wp 23 1374 ls (.long (x <<< (y.toInt64 &&& 63)) :: st) I J R S Q := o_lshl k_L_law_1373
theorem k_L_law_1374 : decode (sk_by 23) 1374 = .ok (.aload_n 0, 1) := by decide +kernel
theorem x_L_law_1374 {st : List Value} {l1 : Nat} {l2 : Nat} {l3 : Nat} {l4 : Int32} {l5 : Value} {l6 : Value} {x : Nat} {I : MI} {J : MJ} {R : MR} {S : Sh} {Q : SkQ} : Wp 23 1374 [.ref x, .ref l1, .ref l2, .ref l3, .int l4, l5, l6, nov] st I J R S Q = Wp 23 1375 [.ref x, .ref l1, .ref l2, .ref l3, .int l4, l5, l6, nov] (.ref x :: st) I J R S Q := o_aload_n rfl k_L_law_1374
theorem k_L_law_1375 : decode (sk_by 23) 1375 = .ok (.iload 4, 2) := by decide +kernel
theorem x_L_law_1375 {st : List Value} {l0 : Nat} {l1 : Nat} {l2 : Nat} {l3 : Nat} {l5 : Value} {l6 : Value} {x : Int32} {I : MI} {J : MJ} {R : MR} {S : Sh} {Q : SkQ} : Wp 23 1375 [.ref l0, .ref l1, .ref l2, .ref l3, .int x, l5, l6, nov] st I J R S Q = Wp 23 1377 [.ref l0, .ref l1, .ref l2, .ref l3, .int x, l5, l6, nov] (.int x :: st) I J R S Q := o_iload rfl k_L_law_1375
theorem k_L_law_1377 : decode (sk_by 23) 1377 = .ok (.iconst 2, 1) := by decide +kernel
theorem x_L_law_1377 {ls st : List Value} {I : MI} {J : MJ} {R : MR} {S : Sh} {Q : SkQ} : Wp 23 1377 ls st I J R S Q = Wp 23 1378 ls (.int 2 :: st) I J R S Q := o_const (by decide) k_L_law_1377
theorem k_L_law_1378 : decode (sk_by 23) 1378 = .ok (.iadd, 1) := by decide +kernel
theorem x_L_law_1378 {ls st : List Value} {x y : Int32} {I : MI} {J : MJ} {R : MR} {S : Sh} {Q : SkQ} : Wp 23 1378 ls (.int y :: .int x :: st) I J R S Q = Wp 23 1379 ls (.int (x + y) :: st) I J R S Q := o_iadd k_L_law_1378
theorem k_L_law_1379 : decode (sk_by 23) 1379 = .ok (.iaload, 1) := by decide +kernel
theorem x_L_law_1379 {ls st : List Value} {a : Nat} {i : Int32} {I : MI} {J : MJ} {R : MR} {S : Sh} {Q : SkQ} (ha : S.1 a = 30) (hi : inb i (S.2.1 a) = true) : Wp 23 1379 ls (.int i :: .ref a :: st) I J R S Q = Wp 23 1380 ls (.int (I a (ix i)) :: st) I J R S Q := o_iaload k_L_law_1379 ha hi
theorem x_L_law_1379C {ls st : List Value} {a : Nat} {i : Int32} {I : MI} {J : MJ} {R : MR} {S : Sh} {Q : SkQ} (ha : S.1 a = 40) (hi : inb i (S.2.1 a) = true) : Wp 23 1379 ls (.int i :: .ref a :: st) I J R S Q = Wp 23 1380 ls (.int (I a (ix i)) :: st) I J R S Q := o_ialoadC k_L_law_1379 ha hi
theorem k_L_law_1380 : decode (sk_by 23) 1380 = .ok (.i2l, 1) := by decide +kernel
theorem x_L_law_1380 {ls st : List Value} {x : Int32} {I : MI} {J : MJ} {R : MR} {S : Sh} {Q : SkQ} : Wp 23 1380 ls (.int x :: st) I J R S Q = Wp 23 1381 ls (.long x.toInt64 :: st) I J R S Q := o_i2l k_L_law_1380
theorem k_L_law_1381 : decode (sk_by 23) 1381 = .ok (.ldc2_w 97, 3) := by decide +kernel
theorem x_L_law_1381 {ls st : List Value} {I : MI} {J : MJ} {R : MR} {S : Sh} {Q : SkQ} : Wp 23 1381 ls st I J R S Q = Wp 23 1384 ls (.long 4294967295 :: st) I J R S Q := o_ldc2_w (show sk_lkK (sk_cl 23) 97 = some 4294967295 by decide +kernel) k_L_law_1381
theorem k_L_law_1384 : decode (sk_by 23) 1384 = .ok (.land, 1) := by decide +kernel
theorem x_L_law_1384 {ls st : List Value} {x y : Int64} {I : MI} {J : MJ} {R : MR} {S : Sh} {Q : SkQ} : Wp 23 1384 ls (.long y :: .long x :: st) I J R S Q = Wp 23 1385 ls (.long (x &&& y) :: st) I J R S Q := o_land k_L_law_1384
theorem k_L_law_1385 : decode (sk_by 23) 1385 = .ok (.lor, 1) := by decide +kernel
theorem x_L_law_1385 {ls st : List Value} {x y : Int64} {I : MI} {J : MJ} {R : MR} {S : Sh} {Q : SkQ} : Wp 23 1385 ls (.long y :: .long x :: st) I J R S Q = Wp 23 1386 ls (.long (x ||| y) :: st) I J R S Q := o_lor k_L_law_1385
theorem k_L_law_1386 : decode (sk_by 23) 1386 = .ok (.aload_n 0, 1) := by decide +kernel
theorem x_L_law_1386 {st : List Value} {l1 : Nat} {l2 : Nat} {l3 : Nat} {l4 : Int32} {l5 : Value} {l6 : Value} {x : Nat} {I : MI} {J : MJ} {R : MR} {S : Sh} {Q : SkQ} : Wp 23 1386 [.ref x, .ref l1, .ref l2, .ref l3, .int l4, l5, l6, nov] st I J R S Q = Wp 23 1387 [.ref x, .ref l1, .ref l2, .ref l3, .int l4, l5, l6, nov] (.ref x :: st) I J R S Q := o_aload_n rfl k_L_law_1386
theorem k_L_law_1387 : decode (sk_by 23) 1387 = .ok (.iload 4, 2) := by decide +kernel
theorem x_L_law_1387 {st : List Value} {l0 : Nat} {l1 : Nat} {l2 : Nat} {l3 : Nat} {l5 : Value} {l6 : Value} {x : Int32} {I : MI} {J : MJ} {R : MR} {S : Sh} {Q : SkQ} : Wp 23 1387 [.ref l0, .ref l1, .ref l2, .ref l3, .int x, l5, l6, nov] st I J R S Q = Wp 23 1389 [.ref l0, .ref l1, .ref l2, .ref l3, .int x, l5, l6, nov] (.int x :: st) I J R S Q := o_iload rfl k_L_law_1387
theorem k_L_law_1389 : decode (sk_by 23) 1389 = .ok (.iconst 3, 1) := by decide +kernel
theorem x_L_law_1389 {ls st : List Value} {I : MI} {J : MJ} {R : MR} {S : Sh} {Q : SkQ} : Wp 23 1389 ls st I J R S Q = Wp 23 1390 ls (.int 3 :: st) I J R S Q := o_const (by decide) k_L_law_1389
theorem k_L_law_1390 : decode (sk_by 23) 1390 = .ok (.iadd, 1) := by decide +kernel
theorem x_L_law_1390 {ls st : List Value} {x y : Int32} {I : MI} {J : MJ} {R : MR} {S : Sh} {Q : SkQ} : Wp 23 1390 ls (.int y :: .int x :: st) I J R S Q = Wp 23 1391 ls (.int (x + y) :: st) I J R S Q := o_iadd k_L_law_1390
theorem k_L_law_1391 : decode (sk_by 23) 1391 = .ok (.iaload, 1) := by decide +kernel
theorem x_L_law_1391 {ls st : List Value} {a : Nat} {i : Int32} {I : MI} {J : MJ} {R : MR} {S : Sh} {Q : SkQ} (ha : S.1 a = 30) (hi : inb i (S.2.1 a) = true) : Wp 23 1391 ls (.int i :: .ref a :: st) I J R S Q = Wp 23 1392 ls (.int (I a (ix i)) :: st) I J R S Q := o_iaload k_L_law_1391 ha hi
theorem x_L_law_1391C {ls st : List Value} {a : Nat} {i : Int32} {I : MI} {J : MJ} {R : MR} {S : Sh} {Q : SkQ} (ha : S.1 a = 40) (hi : inb i (S.2.1 a) = true) : Wp 23 1391 ls (.int i :: .ref a :: st) I J R S Q = Wp 23 1392 ls (.int (I a (ix i)) :: st) I J R S Q := o_ialoadC k_L_law_1391 ha hi
theorem k_L_law_1392 : decode (sk_by 23) 1392 = .ok (.i2l, 1) := by decide +kernel
theorem x_L_law_1392 {ls st : List Value} {x : Int32} {I : MI} {J : MJ} {R : MR} {S : Sh} {Q : SkQ} : Wp 23 1392 ls (.int x :: st) I J R S Q = Wp 23 1393 ls (.long x.toInt64 :: st) I J R S Q := o_i2l k_L_law_1392
theorem k_L_law_1393 : decode (sk_by 23) 1393 = .ok (.bipush 32, 2) := by decide +kernel
theorem x_L_law_1393 {ls st : List Value} {I : MI} {J : MJ} {R : MR} {S : Sh} {Q : SkQ} : Wp 23 1393 ls st I J R S Q = Wp 23 1395 ls (.int 32 :: st) I J R S Q := o_bi (by decide) k_L_law_1393
theorem k_L_law_1395 : decode (sk_by 23) 1395 = .ok (.lshl, 1) := by decide +kernel
theorem x_L_law_1395 {ls st : List Value} {x : Int64} {y : Int32} {I : MI} {J : MJ} {R : MR} {S : Sh} {Q : SkQ} : Wp 23 1395 ls (.int y :: .long x :: st) I J R S Q = Wp 23 1396 ls (.long (x <<< (y.toInt64 &&& 63)) :: st) I J R S Q := o_lshl k_L_law_1395
theorem k_L_law_1396 : decode (sk_by 23) 1396 = .ok (.aload_n 0, 1) := by decide +kernel
theorem x_L_law_1396 {st : List Value} {l1 : Nat} {l2 : Nat} {l3 : Nat} {l4 : Int32} {l5 : Value} {l6 : Value} {x : Nat} {I : MI} {J : MJ} {R : MR} {S : Sh} {Q : SkQ} : Wp 23 1396 [.ref x, .ref l1, .ref l2, .ref l3, .int l4, l5, l6, nov] st I J R S Q = Wp 23 1397 [.ref x, .ref l1, .ref l2, .ref l3, .int l4, l5, l6, nov] (.ref x :: st) I J R S Q := o_aload_n rfl k_L_law_1396
theorem k_L_law_1397 : decode (sk_by 23) 1397 = .ok (.iload 4, 2) := by decide +kernel
theorem x_L_law_1397 {st : List Value} {l0 : Nat} {l1 : Nat} {l2 : Nat} {l3 : Nat} {l5 : Value} {l6 : Value} {x : Int32} {I : MI} {J : MJ} {R : MR} {S : Sh} {Q : SkQ} : Wp 23 1397 [.ref l0, .ref l1, .ref l2, .ref l3, .int x, l5, l6, nov] st I J R S Q = Wp 23 1399 [.ref l0, .ref l1, .ref l2, .ref l3, .int x, l5, l6, nov] (.int x :: st) I J R S Q := o_iload rfl k_L_law_1397
theorem k_L_law_1399 : decode (sk_by 23) 1399 = .ok (.iconst 4, 1) := by decide +kernel
theorem x_L_law_1399 {ls st : List Value} {I : MI} {J : MJ} {R : MR} {S : Sh} {Q : SkQ} : Wp 23 1399 ls st I J R S Q = Wp 23 1400 ls (.int 4 :: st) I J R S Q := o_const (by decide) k_L_law_1399
theorem k_L_law_1400 : decode (sk_by 23) 1400 = .ok (.iadd, 1) := by decide +kernel
theorem x_L_law_1400 {ls st : List Value} {x y : Int32} {I : MI} {J : MJ} {R : MR} {S : Sh} {Q : SkQ} : Wp 23 1400 ls (.int y :: .int x :: st) I J R S Q = Wp 23 1401 ls (.int (x + y) :: st) I J R S Q := o_iadd k_L_law_1400
theorem k_L_law_1401 : decode (sk_by 23) 1401 = .ok (.iaload, 1) := by decide +kernel
theorem x_L_law_1401 {ls st : List Value} {a : Nat} {i : Int32} {I : MI} {J : MJ} {R : MR} {S : Sh} {Q : SkQ} (ha : S.1 a = 30) (hi : inb i (S.2.1 a) = true) : Wp 23 1401 ls (.int i :: .ref a :: st) I J R S Q = Wp 23 1402 ls (.int (I a (ix i)) :: st) I J R S Q := o_iaload k_L_law_1401 ha hi
theorem x_L_law_1401C {ls st : List Value} {a : Nat} {i : Int32} {I : MI} {J : MJ} {R : MR} {S : Sh} {Q : SkQ} (ha : S.1 a = 40) (hi : inb i (S.2.1 a) = true) : Wp 23 1401 ls (.int i :: .ref a :: st) I J R S Q = Wp 23 1402 ls (.int (I a (ix i)) :: st) I J R S Q := o_ialoadC k_L_law_1401 ha hi
theorem k_L_law_1402 : decode (sk_by 23) 1402 = .ok (.i2l, 1) := by decide +kernel
theorem x_L_law_1402 {ls st : List Value} {x : Int32} {I : MI} {J : MJ} {R : MR} {S : Sh} {Q : SkQ} : Wp 23 1402 ls (.int x :: st) I J R S Q = Wp 23 1403 ls (.long x.toInt64 :: st) I J R S Q := o_i2l k_L_law_1402
theorem k_L_law_1403 : decode (sk_by 23) 1403 = .ok (.ldc2_w 97, 3) := by decide +kernel
theorem x_L_law_1403 {ls st : List Value} {I : MI} {J : MJ} {R : MR} {S : Sh} {Q : SkQ} : Wp 23 1403 ls st I J R S Q = Wp 23 1406 ls (.long 4294967295 :: st) I J R S Q := o_ldc2_w (show sk_lkK (sk_cl 23) 97 = some 4294967295 by decide +kernel) k_L_law_1403
theorem k_L_law_1406 : decode (sk_by 23) 1406 = .ok (.land, 1) := by decide +kernel
theorem x_L_law_1406 {ls st : List Value} {x y : Int64} {I : MI} {J : MJ} {R : MR} {S : Sh} {Q : SkQ} : Wp 23 1406 ls (.long y :: .long x :: st) I J R S Q = Wp 23 1407 ls (.long (x &&& y) :: st) I J R S Q := o_land k_L_law_1406
theorem k_L_law_1407 : decode (sk_by 23) 1407 = .ok (.lor, 1) := by decide +kernel
theorem x_L_law_1407 {ls st : List Value} {x y : Int64} {I : MI} {J : MJ} {R : MR} {S : Sh} {Q : SkQ} : Wp 23 1407 ls (.long y :: .long x :: st) I J R S Q = Wp 23 1408 ls (.long (x ||| y) :: st) I J R S Q := o_lor k_L_law_1407
theorem k_L_law_1408 : decode (sk_by 23) 1408 = .ok (.aload_n 3, 1) := by decide +kernel
theorem x_L_law_1408 {st : List Value} {l0 : Nat} {l1 : Nat} {l2 : Nat} {l4 : Int32} {l5 : Value} {l6 : Value} {x : Nat} {I : MI} {J : MJ} {R : MR} {S : Sh} {Q : SkQ} : Wp 23 1408 [.ref l0, .ref l1, .ref l2, .ref x, .int l4, l5, l6, nov] st I J R S Q = Wp 23 1409 [.ref l0, .ref l1, .ref l2, .ref x, .int l4, l5, l6, nov] (.ref x :: st) I J R S Q := o_aload_n rfl k_L_law_1408
theorem k_L_law_1409 : decode (sk_by 23) 1409 = .ok (.invokestatic 156, 3) := by decide +kernel
theorem x_L_law_1409 {ls : List Value} {a0 : Nat} {a1 : Int64} {a2 : Int64} {a3 : Nat} {I : MI} {J : MJ} {R : MR} {S : Sh} {Q : SkQ} : Wp 23 1409 ls (.ref a3 :: .long a2 :: .long a1 :: .ref a0 :: []) I J R S Q = Wp 15 0 [.ref a0, .long a1, nov, .long a2, nov, .ref a3, nov] [] I J R S (Ret 23 1409 1412 15 ls [] Q) := o_call (as := [.ref a0, .long a1, .long a2, .ref a3]) (rest := []) (show sk_lkM (sk_cl 23) 156 = some 15 by decide +kernel) (by decide) (by decide) (by (decide +kernel)) (ins := .invokestatic 156) (by (decide +kernel)) k_L_law_1409 rfl (show 4 = sk_na 15 by (decide +kernel)) (Nat.le_of_ble_eq_true rfl) (Nat.le_trans (show (argL [.ref a0, .long a1, .long a2, .ref a3]).length ≤ 7 from Nat.le_of_ble_eq_true rfl) (by (decide +kernel))) rfl
theorem k_L_law_1412 : decode (sk_by 23) 1412 = .ok (.istore 5, 2) := by decide +kernel
theorem x_L_law_1412 {st : List Value} {l0 : Nat} {l1 : Nat} {l2 : Nat} {l3 : Nat} {l4 : Int32} {l5 : Value} {l6 : Value} {x : Int32} {I : MI} {J : MJ} {R : MR} {S : Sh} {Q : SkQ} : Wp 23 1412 [.ref l0, .ref l1, .ref l2, .ref l3, .int l4, l5, l6, nov] (.int x :: st) I J R S Q = Wp 23 1414 [.ref l0, .ref l1, .ref l2, .ref l3, .int l4, .int x, l6, nov] st I J R S Q := o_istore (Nat.le_of_ble_eq_true rfl) rfl k_L_law_1412
theorem k_L_law_1414 : decode (sk_by 23) 1414 = .ok (.aload_n 2, 1) := by decide +kernel
theorem x_L_law_1414 {st : List Value} {l0 : Nat} {l1 : Nat} {l3 : Nat} {l4 : Int32} {l5 : Int32} {l6 : Value} {x : Nat} {I : MI} {J : MJ} {R : MR} {S : Sh} {Q : SkQ} : Wp 23 1414 [.ref l0, .ref l1, .ref x, .ref l3, .int l4, .int l5, l6, nov] st I J R S Q = Wp 23 1415 [.ref l0, .ref l1, .ref x, .ref l3, .int l4, .int l5, l6, nov] (.ref x :: st) I J R S Q := o_aload_n rfl k_L_law_1414
theorem k_L_law_1415 : decode (sk_by 23) 1415 = .ok (.aload_n 0, 1) := by decide +kernel
theorem x_L_law_1415 {st : List Value} {l1 : Nat} {l2 : Nat} {l3 : Nat} {l4 : Int32} {l5 : Int32} {l6 : Value} {x : Nat} {I : MI} {J : MJ} {R : MR} {S : Sh} {Q : SkQ} : Wp 23 1415 [.ref x, .ref l1, .ref l2, .ref l3, .int l4, .int l5, l6, nov] st I J R S Q = Wp 23 1416 [.ref x, .ref l1, .ref l2, .ref l3, .int l4, .int l5, l6, nov] (.ref x :: st) I J R S Q := o_aload_n rfl k_L_law_1415
theorem k_L_law_1416 : decode (sk_by 23) 1416 = .ok (.iload 4, 2) := by decide +kernel
theorem x_L_law_1416 {st : List Value} {l0 : Nat} {l1 : Nat} {l2 : Nat} {l3 : Nat} {l5 : Int32} {l6 : Value} {x : Int32} {I : MI} {J : MJ} {R : MR} {S : Sh} {Q : SkQ} : Wp 23 1416 [.ref l0, .ref l1, .ref l2, .ref l3, .int x, .int l5, l6, nov] st I J R S Q = Wp 23 1418 [.ref l0, .ref l1, .ref l2, .ref l3, .int x, .int l5, l6, nov] (.int x :: st) I J R S Q := o_iload rfl k_L_law_1416
theorem k_L_law_1418 : decode (sk_by 23) 1418 = .ok (.iconst 1, 1) := by decide +kernel
theorem x_L_law_1418 {ls st : List Value} {I : MI} {J : MJ} {R : MR} {S : Sh} {Q : SkQ} : Wp 23 1418 ls st I J R S Q = Wp 23 1419 ls (.int 1 :: st) I J R S Q := o_const (by decide) k_L_law_1418
theorem k_L_law_1419 : decode (sk_by 23) 1419 = .ok (.iadd, 1) := by decide +kernel
theorem x_L_law_1419 {ls st : List Value} {x y : Int32} {I : MI} {J : MJ} {R : MR} {S : Sh} {Q : SkQ} : Wp 23 1419 ls (.int y :: .int x :: st) I J R S Q = Wp 23 1420 ls (.int (x + y) :: st) I J R S Q := o_iadd k_L_law_1419
theorem k_L_law_1420 : decode (sk_by 23) 1420 = .ok (.iaload, 1) := by decide +kernel
theorem x_L_law_1420 {ls st : List Value} {a : Nat} {i : Int32} {I : MI} {J : MJ} {R : MR} {S : Sh} {Q : SkQ} (ha : S.1 a = 30) (hi : inb i (S.2.1 a) = true) : Wp 23 1420 ls (.int i :: .ref a :: st) I J R S Q = Wp 23 1421 ls (.int (I a (ix i)) :: st) I J R S Q := o_iaload k_L_law_1420 ha hi
theorem x_L_law_1420C {ls st : List Value} {a : Nat} {i : Int32} {I : MI} {J : MJ} {R : MR} {S : Sh} {Q : SkQ} (ha : S.1 a = 40) (hi : inb i (S.2.1 a) = true) : Wp 23 1420 ls (.int i :: .ref a :: st) I J R S Q = Wp 23 1421 ls (.int (I a (ix i)) :: st) I J R S Q := o_ialoadC k_L_law_1420 ha hi
theorem k_L_law_1421 : decode (sk_by 23) 1421 = .ok (.i2l, 1) := by decide +kernel
theorem x_L_law_1421 {ls st : List Value} {x : Int32} {I : MI} {J : MJ} {R : MR} {S : Sh} {Q : SkQ} : Wp 23 1421 ls (.int x :: st) I J R S Q = Wp 23 1422 ls (.long x.toInt64 :: st) I J R S Q := o_i2l k_L_law_1421
theorem k_L_law_1422 : decode (sk_by 23) 1422 = .ok (.bipush 32, 2) := by decide +kernel
theorem x_L_law_1422 {ls st : List Value} {I : MI} {J : MJ} {R : MR} {S : Sh} {Q : SkQ} : Wp 23 1422 ls st I J R S Q = Wp 23 1424 ls (.int 32 :: st) I J R S Q := o_bi (by decide) k_L_law_1422
theorem k_L_law_1424 : decode (sk_by 23) 1424 = .ok (.lshl, 1) := by decide +kernel
theorem x_L_law_1424 {ls st : List Value} {x : Int64} {y : Int32} {I : MI} {J : MJ} {R : MR} {S : Sh} {Q : SkQ} : Wp 23 1424 ls (.int y :: .long x :: st) I J R S Q = Wp 23 1425 ls (.long (x <<< (y.toInt64 &&& 63)) :: st) I J R S Q := o_lshl k_L_law_1424
theorem k_L_law_1425 : decode (sk_by 23) 1425 = .ok (.aload_n 0, 1) := by decide +kernel
theorem x_L_law_1425 {st : List Value} {l1 : Nat} {l2 : Nat} {l3 : Nat} {l4 : Int32} {l5 : Int32} {l6 : Value} {x : Nat} {I : MI} {J : MJ} {R : MR} {S : Sh} {Q : SkQ} : Wp 23 1425 [.ref x, .ref l1, .ref l2, .ref l3, .int l4, .int l5, l6, nov] st I J R S Q = Wp 23 1426 [.ref x, .ref l1, .ref l2, .ref l3, .int l4, .int l5, l6, nov] (.ref x :: st) I J R S Q := o_aload_n rfl k_L_law_1425
theorem k_L_law_1426 : decode (sk_by 23) 1426 = .ok (.iload 4, 2) := by decide +kernel
theorem x_L_law_1426 {st : List Value} {l0 : Nat} {l1 : Nat} {l2 : Nat} {l3 : Nat} {l5 : Int32} {l6 : Value} {x : Int32} {I : MI} {J : MJ} {R : MR} {S : Sh} {Q : SkQ} : Wp 23 1426 [.ref l0, .ref l1, .ref l2, .ref l3, .int x, .int l5, l6, nov] st I J R S Q = Wp 23 1428 [.ref l0, .ref l1, .ref l2, .ref l3, .int x, .int l5, l6, nov] (.int x :: st) I J R S Q := o_iload rfl k_L_law_1426
theorem k_L_law_1428 : decode (sk_by 23) 1428 = .ok (.iconst 2, 1) := by decide +kernel
theorem x_L_law_1428 {ls st : List Value} {I : MI} {J : MJ} {R : MR} {S : Sh} {Q : SkQ} : Wp 23 1428 ls st I J R S Q = Wp 23 1429 ls (.int 2 :: st) I J R S Q := o_const (by decide) k_L_law_1428
theorem k_L_law_1429 : decode (sk_by 23) 1429 = .ok (.iadd, 1) := by decide +kernel
theorem x_L_law_1429 {ls st : List Value} {x y : Int32} {I : MI} {J : MJ} {R : MR} {S : Sh} {Q : SkQ} : Wp 23 1429 ls (.int y :: .int x :: st) I J R S Q = Wp 23 1430 ls (.int (x + y) :: st) I J R S Q := o_iadd k_L_law_1429
theorem k_L_law_1430 : decode (sk_by 23) 1430 = .ok (.iaload, 1) := by decide +kernel
theorem x_L_law_1430 {ls st : List Value} {a : Nat} {i : Int32} {I : MI} {J : MJ} {R : MR} {S : Sh} {Q : SkQ} (ha : S.1 a = 30) (hi : inb i (S.2.1 a) = true) : Wp 23 1430 ls (.int i :: .ref a :: st) I J R S Q = Wp 23 1431 ls (.int (I a (ix i)) :: st) I J R S Q := o_iaload k_L_law_1430 ha hi
theorem x_L_law_1430C {ls st : List Value} {a : Nat} {i : Int32} {I : MI} {J : MJ} {R : MR} {S : Sh} {Q : SkQ} (ha : S.1 a = 40) (hi : inb i (S.2.1 a) = true) : Wp 23 1430 ls (.int i :: .ref a :: st) I J R S Q = Wp 23 1431 ls (.int (I a (ix i)) :: st) I J R S Q := o_ialoadC k_L_law_1430 ha hi
theorem k_L_law_1431 : decode (sk_by 23) 1431 = .ok (.i2l, 1) := by decide +kernel
theorem x_L_law_1431 {ls st : List Value} {x : Int32} {I : MI} {J : MJ} {R : MR} {S : Sh} {Q : SkQ} : Wp 23 1431 ls (.int x :: st) I J R S Q = Wp 23 1432 ls (.long x.toInt64 :: st) I J R S Q := o_i2l k_L_law_1431
theorem k_L_law_1432 : decode (sk_by 23) 1432 = .ok (.ldc2_w 97, 3) := by decide +kernel
theorem x_L_law_1432 {ls st : List Value} {I : MI} {J : MJ} {R : MR} {S : Sh} {Q : SkQ} : Wp 23 1432 ls st I J R S Q = Wp 23 1435 ls (.long 4294967295 :: st) I J R S Q := o_ldc2_w (show sk_lkK (sk_cl 23) 97 = some 4294967295 by decide +kernel) k_L_law_1432
theorem k_L_law_1435 : decode (sk_by 23) 1435 = .ok (.land, 1) := by decide +kernel
theorem x_L_law_1435 {ls st : List Value} {x y : Int64} {I : MI} {J : MJ} {R : MR} {S : Sh} {Q : SkQ} : Wp 23 1435 ls (.long y :: .long x :: st) I J R S Q = Wp 23 1436 ls (.long (x &&& y) :: st) I J R S Q := o_land k_L_law_1435
theorem k_L_law_1436 : decode (sk_by 23) 1436 = .ok (.lor, 1) := by decide +kernel
theorem x_L_law_1436 {ls st : List Value} {x y : Int64} {I : MI} {J : MJ} {R : MR} {S : Sh} {Q : SkQ} : Wp 23 1436 ls (.long y :: .long x :: st) I J R S Q = Wp 23 1437 ls (.long (x ||| y) :: st) I J R S Q := o_lor k_L_law_1436
theorem k_L_law_1437 : decode (sk_by 23) 1437 = .ok (.aload_n 0, 1) := by decide +kernel
theorem x_L_law_1437 {st : List Value} {l1 : Nat} {l2 : Nat} {l3 : Nat} {l4 : Int32} {l5 : Int32} {l6 : Value} {x : Nat} {I : MI} {J : MJ} {R : MR} {S : Sh} {Q : SkQ} : Wp 23 1437 [.ref x, .ref l1, .ref l2, .ref l3, .int l4, .int l5, l6, nov] st I J R S Q = Wp 23 1438 [.ref x, .ref l1, .ref l2, .ref l3, .int l4, .int l5, l6, nov] (.ref x :: st) I J R S Q := o_aload_n rfl k_L_law_1437
theorem k_L_law_1438 : decode (sk_by 23) 1438 = .ok (.iload 4, 2) := by decide +kernel
theorem x_L_law_1438 {st : List Value} {l0 : Nat} {l1 : Nat} {l2 : Nat} {l3 : Nat} {l5 : Int32} {l6 : Value} {x : Int32} {I : MI} {J : MJ} {R : MR} {S : Sh} {Q : SkQ} : Wp 23 1438 [.ref l0, .ref l1, .ref l2, .ref l3, .int x, .int l5, l6, nov] st I J R S Q = Wp 23 1440 [.ref l0, .ref l1, .ref l2, .ref l3, .int x, .int l5, l6, nov] (.int x :: st) I J R S Q := o_iload rfl k_L_law_1438
theorem k_L_law_1440 : decode (sk_by 23) 1440 = .ok (.iconst 3, 1) := by decide +kernel
theorem x_L_law_1440 {ls st : List Value} {I : MI} {J : MJ} {R : MR} {S : Sh} {Q : SkQ} : Wp 23 1440 ls st I J R S Q = Wp 23 1441 ls (.int 3 :: st) I J R S Q := o_const (by decide) k_L_law_1440
theorem k_L_law_1441 : decode (sk_by 23) 1441 = .ok (.iadd, 1) := by decide +kernel
theorem x_L_law_1441 {ls st : List Value} {x y : Int32} {I : MI} {J : MJ} {R : MR} {S : Sh} {Q : SkQ} : Wp 23 1441 ls (.int y :: .int x :: st) I J R S Q = Wp 23 1442 ls (.int (x + y) :: st) I J R S Q := o_iadd k_L_law_1441
theorem k_L_law_1442 : decode (sk_by 23) 1442 = .ok (.iaload, 1) := by decide +kernel
theorem x_L_law_1442 {ls st : List Value} {a : Nat} {i : Int32} {I : MI} {J : MJ} {R : MR} {S : Sh} {Q : SkQ} (ha : S.1 a = 30) (hi : inb i (S.2.1 a) = true) : Wp 23 1442 ls (.int i :: .ref a :: st) I J R S Q = Wp 23 1443 ls (.int (I a (ix i)) :: st) I J R S Q := o_iaload k_L_law_1442 ha hi
theorem x_L_law_1442C {ls st : List Value} {a : Nat} {i : Int32} {I : MI} {J : MJ} {R : MR} {S : Sh} {Q : SkQ} (ha : S.1 a = 40) (hi : inb i (S.2.1 a) = true) : Wp 23 1442 ls (.int i :: .ref a :: st) I J R S Q = Wp 23 1443 ls (.int (I a (ix i)) :: st) I J R S Q := o_ialoadC k_L_law_1442 ha hi
theorem k_L_law_1443 : decode (sk_by 23) 1443 = .ok (.i2l, 1) := by decide +kernel
theorem x_L_law_1443 {ls st : List Value} {x : Int32} {I : MI} {J : MJ} {R : MR} {S : Sh} {Q : SkQ} : Wp 23 1443 ls (.int x :: st) I J R S Q = Wp 23 1444 ls (.long x.toInt64 :: st) I J R S Q := o_i2l k_L_law_1443
theorem k_L_law_1444 : decode (sk_by 23) 1444 = .ok (.bipush 32, 2) := by decide +kernel
theorem x_L_law_1444 {ls st : List Value} {I : MI} {J : MJ} {R : MR} {S : Sh} {Q : SkQ} : Wp 23 1444 ls st I J R S Q = Wp 23 1446 ls (.int 32 :: st) I J R S Q := o_bi (by decide) k_L_law_1444
theorem k_L_law_1446 : decode (sk_by 23) 1446 = .ok (.lshl, 1) := by decide +kernel
theorem x_L_law_1446 {ls st : List Value} {x : Int64} {y : Int32} {I : MI} {J : MJ} {R : MR} {S : Sh} {Q : SkQ} : Wp 23 1446 ls (.int y :: .long x :: st) I J R S Q = Wp 23 1447 ls (.long (x <<< (y.toInt64 &&& 63)) :: st) I J R S Q := o_lshl k_L_law_1446
theorem k_L_law_1447 : decode (sk_by 23) 1447 = .ok (.aload_n 0, 1) := by decide +kernel
theorem x_L_law_1447 {st : List Value} {l1 : Nat} {l2 : Nat} {l3 : Nat} {l4 : Int32} {l5 : Int32} {l6 : Value} {x : Nat} {I : MI} {J : MJ} {R : MR} {S : Sh} {Q : SkQ} : Wp 23 1447 [.ref x, .ref l1, .ref l2, .ref l3, .int l4, .int l5, l6, nov] st I J R S Q = Wp 23 1448 [.ref x, .ref l1, .ref l2, .ref l3, .int l4, .int l5, l6, nov] (.ref x :: st) I J R S Q := o_aload_n rfl k_L_law_1447
theorem k_L_law_1448 : decode (sk_by 23) 1448 = .ok (.iload 4, 2) := by decide +kernel
theorem x_L_law_1448 {st : List Value} {l0 : Nat} {l1 : Nat} {l2 : Nat} {l3 : Nat} {l5 : Int32} {l6 : Value} {x : Int32} {I : MI} {J : MJ} {R : MR} {S : Sh} {Q : SkQ} : Wp 23 1448 [.ref l0, .ref l1, .ref l2, .ref l3, .int x, .int l5, l6, nov] st I J R S Q = Wp 23 1450 [.ref l0, .ref l1, .ref l2, .ref l3, .int x, .int l5, l6, nov] (.int x :: st) I J R S Q := o_iload rfl k_L_law_1448
theorem k_L_law_1450 : decode (sk_by 23) 1450 = .ok (.iconst 4, 1) := by decide +kernel
theorem x_L_law_1450 {ls st : List Value} {I : MI} {J : MJ} {R : MR} {S : Sh} {Q : SkQ} : Wp 23 1450 ls st I J R S Q = Wp 23 1451 ls (.int 4 :: st) I J R S Q := o_const (by decide) k_L_law_1450
theorem k_L_law_1451 : decode (sk_by 23) 1451 = .ok (.iadd, 1) := by decide +kernel
theorem x_L_law_1451 {ls st : List Value} {x y : Int32} {I : MI} {J : MJ} {R : MR} {S : Sh} {Q : SkQ} : Wp 23 1451 ls (.int y :: .int x :: st) I J R S Q = Wp 23 1452 ls (.int (x + y) :: st) I J R S Q := o_iadd k_L_law_1451
theorem k_L_law_1452 : decode (sk_by 23) 1452 = .ok (.iaload, 1) := by decide +kernel
theorem x_L_law_1452 {ls st : List Value} {a : Nat} {i : Int32} {I : MI} {J : MJ} {R : MR} {S : Sh} {Q : SkQ} (ha : S.1 a = 30) (hi : inb i (S.2.1 a) = true) : Wp 23 1452 ls (.int i :: .ref a :: st) I J R S Q = Wp 23 1453 ls (.int (I a (ix i)) :: st) I J R S Q := o_iaload k_L_law_1452 ha hi
theorem x_L_law_1452C {ls st : List Value} {a : Nat} {i : Int32} {I : MI} {J : MJ} {R : MR} {S : Sh} {Q : SkQ} (ha : S.1 a = 40) (hi : inb i (S.2.1 a) = true) : Wp 23 1452 ls (.int i :: .ref a :: st) I J R S Q = Wp 23 1453 ls (.int (I a (ix i)) :: st) I J R S Q := o_ialoadC k_L_law_1452 ha hi
theorem k_L_law_1453 : decode (sk_by 23) 1453 = .ok (.i2l, 1) := by decide +kernel
theorem x_L_law_1453 {ls st : List Value} {x : Int32} {I : MI} {J : MJ} {R : MR} {S : Sh} {Q : SkQ} : Wp 23 1453 ls (.int x :: st) I J R S Q = Wp 23 1454 ls (.long x.toInt64 :: st) I J R S Q := o_i2l k_L_law_1453
theorem k_L_law_1454 : decode (sk_by 23) 1454 = .ok (.ldc2_w 97, 3) := by decide +kernel
theorem x_L_law_1454 {ls st : List Value} {I : MI} {J : MJ} {R : MR} {S : Sh} {Q : SkQ} : Wp 23 1454 ls st I J R S Q = Wp 23 1457 ls (.long 4294967295 :: st) I J R S Q := o_ldc2_w (show sk_lkK (sk_cl 23) 97 = some 4294967295 by decide +kernel) k_L_law_1454
theorem k_L_law_1457 : decode (sk_by 23) 1457 = .ok (.land, 1) := by decide +kernel
theorem x_L_law_1457 {ls st : List Value} {x y : Int64} {I : MI} {J : MJ} {R : MR} {S : Sh} {Q : SkQ} : Wp 23 1457 ls (.long y :: .long x :: st) I J R S Q = Wp 23 1458 ls (.long (x &&& y) :: st) I J R S Q := o_land k_L_law_1457
theorem k_L_law_1458 : decode (sk_by 23) 1458 = .ok (.lor, 1) := by decide +kernel
theorem x_L_law_1458 {ls st : List Value} {x y : Int64} {I : MI} {J : MJ} {R : MR} {S : Sh} {Q : SkQ} : Wp 23 1458 ls (.long y :: .long x :: st) I J R S Q = Wp 23 1459 ls (.long (x ||| y) :: st) I J R S Q := o_lor k_L_law_1458
theorem k_L_law_1459 : decode (sk_by 23) 1459 = .ok (.invokevirtual 158, 3) := by decide +kernel
theorem x_L_law_1459 {ls : List Value} {a0 : Nat} {a1 : Int64} {a2 : Int64} {I : MI} {J : MJ} {R : MR} {S : Sh} {Q : SkQ} (ha : S.1 a0 = 8) : Wp 23 1459 ls (.long a2 :: .long a1 :: .ref a0 :: []) I J R S Q = Wp 229 0 [.ref a0, .long a1, nov, .long a2, nov] [] I J R S (Ret 23 1459 1462 229 ls [] Q) := o_call (as := [.ref a0, .long a1, .long a2]) (rest := []) (show sk_lkM (sk_cl 23) 158 = some 229 by decide +kernel) (by decide) (by decide) (by (decide +kernel)) (ins := .invokevirtual 158) (by (decide +kernel)) k_L_law_1459 rfl (show 3 = sk_na 229 by (decide +kernel)) (Nat.le_of_ble_eq_true rfl) (Nat.le_trans (show (argL [.ref a0, .long a1, .long a2]).length ≤ 5 from Nat.le_of_ble_eq_true rfl) (by (decide +kernel))) (rcv_of (by (decide +kernel)) (by decide) ha)
theorem k_L_law_1462 : decode (sk_by 23) 1462 = .ok (.istore 6, 2) := by decide +kernel
theorem x_L_law_1462 {st : List Value} {l0 : Nat} {l1 : Nat} {l2 : Nat} {l3 : Nat} {l4 : Int32} {l5 : Int32} {l6 : Value} {x : Int32} {I : MI} {J : MJ} {R : MR} {S : Sh} {Q : SkQ} : Wp 23 1462 [.ref l0, .ref l1, .ref l2, .ref l3, .int l4, .int l5, l6, nov] (.int x :: st) I J R S Q = Wp 23 1464 [.ref l0, .ref l1, .ref l2, .ref l3, .int l4, .int l5, .int x, nov] st I J R S Q := o_istore (Nat.le_of_ble_eq_true rfl) rfl k_L_law_1462
theorem k_L_law_1464 : decode (sk_by 23) 1464 = .ok (.aload_n 2, 1) := by decide +kernel
theorem x_L_law_1464 {st : List Value} {l0 : Nat} {l1 : Nat} {l3 : Nat} {l4 : Int32} {l5 : Int32} {l6 : Int32} {x : Nat} {I : MI} {J : MJ} {R : MR} {S : Sh} {Q : SkQ} : Wp 23 1464 [.ref l0, .ref l1, .ref x, .ref l3, .int l4, .int l5, .int l6, nov] st I J R S Q = Wp 23 1465 [.ref l0, .ref l1, .ref x, .ref l3, .int l4, .int l5, .int l6, nov] (.ref x :: st) I J R S Q := o_aload_n rfl k_L_law_1464
theorem k_L_law_1465 : decode (sk_by 23) 1465 = .ok (.invokevirtual 105, 3) := by decide +kernel
theorem x_L_law_1465 {ls : List Value} {a0 : Nat} {I : MI} {J : MJ} {R : MR} {S : Sh} {Q : SkQ} (ha : S.1 a0 = 8) : Wp 23 1465 ls (.ref a0 :: []) I J R S Q = Wp 174 0 [.ref a0] [] I J R S (Ret 23 1465 1468 174 ls [] Q) := o_call (as := [.ref a0]) (rest := []) (show sk_lkM (sk_cl 23) 105 = some 174 by decide +kernel) (by decide) (by decide) (by (decide +kernel)) (ins := .invokevirtual 105) (by (decide +kernel)) k_L_law_1465 rfl (show 1 = sk_na 174 by (decide +kernel)) (Nat.le_of_ble_eq_true rfl) (Nat.le_trans (show (argL [.ref a0]).length ≤ 1 from Nat.le_of_ble_eq_true rfl) (by (decide +kernel))) (rcv_of (by (decide +kernel)) (by decide) ha)
theorem k_L_law_1468 : decode (sk_by 23) 1468 = .ok (.iload 5, 2) := by decide +kernel
theorem x_L_law_1468 {st : List Value} {l0 : Nat} {l1 : Nat} {l2 : Nat} {l3 : Nat} {l4 : Int32} {l6 : Int32} {x : Int32} {I : MI} {J : MJ} {R : MR} {S : Sh} {Q : SkQ} : Wp 23 1468 [.ref l0, .ref l1, .ref l2, .ref l3, .int l4, .int x, .int l6, nov] st I J R S Q = Wp 23 1470 [.ref l0, .ref l1, .ref l2, .ref l3, .int l4, .int x, .int l6, nov] (.int x :: st) I J R S Q := o_iload rfl k_L_law_1468
theorem k_L_law_1470 : decode (sk_by 23) 1470 = .ok (.if_icmp .eq 5, 3) := by decide +kernel
theorem x_L_law_1470 {ls st : List Value} {x y : Int32} {I : MI} {J : MJ} {R : MR} {S : Sh} {Q : SkQ} : Wp 23 1470 ls (.int y :: .int x :: st) I J R S Q = if x = y then Wp 23 1475 ls st I J R S Q else Wp 23 1473 ls st I J R S Q := o_ic_eq rfl rfl k_L_law_1470
theorem k_L_law_1473 : decode (sk_by 23) 1473 = .ok (.iconst 0, 1) := by decide +kernel
theorem x_L_law_1473 {ls st : List Value} {I : MI} {J : MJ} {R : MR} {S : Sh} {Q : SkQ} : Wp 23 1473 ls st I J R S Q = Wp 23 1474 ls (.int 0 :: st) I J R S Q := o_const (by decide) k_L_law_1473
theorem k_L_law_1474 : decode (sk_by 23) 1474 = .ok (.ireturn, 1) := by decide +kernel
theorem x_L_law_1474 {ls : List Value} {v : Int32} {I : MI} {J : MJ} {R : MR} {S : Sh} {Q : SkQ} (h : rOk (some .boolean) v = true) : Wp 23 1474 ls [.int v] I J R S Q = Q 0 (some (.int v)) I J R S := o_ireturn k_L_law_1474 (by rw [show sk_rt 23 = some .boolean from rfl]; exact h)
theorem k_L_law_1475 : decode (sk_by 23) 1475 = .ok (.iload 5, 2) := by decide +kernel
theorem x_L_law_1475 {st : List Value} {l0 : Nat} {l1 : Nat} {l2 : Nat} {l3 : Nat} {l4 : Int32} {l6 : Int32} {x : Int32} {I : MI} {J : MJ} {R : MR} {S : Sh} {Q : SkQ} : Wp 23 1475 [.ref l0, .ref l1, .ref l2, .ref l3, .int l4, .int x, .int l6, nov] st I J R S Q = Wp 23 1477 [.ref l0, .ref l1, .ref l2, .ref l3, .int l4, .int x, .int l6, nov] (.int x :: st) I J R S Q := o_iload rfl k_L_law_1475
theorem k_L_law_1477 : decode (sk_by 23) 1477 = .ok (.ifCond .ne 15, 3) := by decide +kernel
theorem x_L_law_1477 {ls st : List Value} {x : Int32} {I : MI} {J : MJ} {R : MR} {S : Sh} {Q : SkQ} : Wp 23 1477 ls (.int x :: st) I J R S Q = if x = 0 then Wp 23 1480 ls st I J R S Q else Wp 23 1492 ls st I J R S Q := o_if_ne rfl rfl k_L_law_1477
theorem k_L_law_1480 : decode (sk_by 23) 1480 = .ok (.aload_n 3, 1) := by decide +kernel
theorem x_L_law_1480 {st : List Value} {l0 : Nat} {l1 : Nat} {l2 : Nat} {l4 : Int32} {l5 : Int32} {l6 : Int32} {x : Nat} {I : MI} {J : MJ} {R : MR} {S : Sh} {Q : SkQ} : Wp 23 1480 [.ref l0, .ref l1, .ref l2, .ref x, .int l4, .int l5, .int l6, nov] st I J R S Q = Wp 23 1481 [.ref l0, .ref l1, .ref l2, .ref x, .int l4, .int l5, .int l6, nov] (.ref x :: st) I J R S Q := o_aload_n rfl k_L_law_1480
theorem k_L_law_1481 : decode (sk_by 23) 1481 = .ok (.iconst 0, 1) := by decide +kernel
theorem x_L_law_1481 {ls st : List Value} {I : MI} {J : MJ} {R : MR} {S : Sh} {Q : SkQ} : Wp 23 1481 ls st I J R S Q = Wp 23 1482 ls (.int 0 :: st) I J R S Q := o_const (by decide) k_L_law_1481
theorem k_L_law_1482 : decode (sk_by 23) 1482 = .ok (.laload, 1) := by decide +kernel
theorem x_L_law_1482 {ls st : List Value} {a : Nat} {i : Int32} {I : MI} {J : MJ} {R : MR} {S : Sh} {Q : SkQ} (ha : S.1 a = 31) (hi : inb i (S.2.1 a) = true) : Wp 23 1482 ls (.int i :: .ref a :: st) I J R S Q = Wp 23 1483 ls (.long (J a (ix i)) :: st) I J R S Q := o_laload k_L_law_1482 ha hi
theorem k_L_law_1483 : decode (sk_by 23) 1483 = .ok (.iload 6, 2) := by decide +kernel
theorem x_L_law_1483 {st : List Value} {l0 : Nat} {l1 : Nat} {l2 : Nat} {l3 : Nat} {l4 : Int32} {l5 : Int32} {x : Int32} {I : MI} {J : MJ} {R : MR} {S : Sh} {Q : SkQ} : Wp 23 1483 [.ref l0, .ref l1, .ref l2, .ref l3, .int l4, .int l5, .int x, nov] st I J R S Q = Wp 23 1485 [.ref l0, .ref l1, .ref l2, .ref l3, .int l4, .int l5, .int x, nov] (.int x :: st) I J R S Q := o_iload rfl k_L_law_1483
theorem k_L_law_1485 : decode (sk_by 23) 1485 = .ok (.i2l, 1) := by decide +kernel
theorem x_L_law_1485 {ls st : List Value} {x : Int32} {I : MI} {J : MJ} {R : MR} {S : Sh} {Q : SkQ} : Wp 23 1485 ls (.int x :: st) I J R S Q = Wp 23 1486 ls (.long x.toInt64 :: st) I J R S Q := o_i2l k_L_law_1485
theorem k_L_law_1486 : decode (sk_by 23) 1486 = .ok (.lcmp, 1) := by decide +kernel
theorem x_L_law_1486 {ls st : List Value} {x y : Int64} {I : MI} {J : MJ} {R : MR} {S : Sh} {Q : SkQ} : Wp 23 1486 ls (.long y :: .long x :: st) I J R S Q = Wp 23 1487 ls (.int (lg_cmp x y) :: st) I J R S Q := o_lcmp k_L_law_1486
theorem k_L_law_1487 : decode (sk_by 23) 1487 = .ok (.ifCond .eq 5, 3) := by decide +kernel
theorem x_L_law_1487 {ls st : List Value} {x : Int32} {I : MI} {J : MJ} {R : MR} {S : Sh} {Q : SkQ} : Wp 23 1487 ls (.int x :: st) I J R S Q = if x = 0 then Wp 23 1492 ls st I J R S Q else Wp 23 1490 ls st I J R S Q := o_if_eq rfl rfl k_L_law_1487
theorem k_L_law_1490 : decode (sk_by 23) 1490 = .ok (.iconst 0, 1) := by decide +kernel
theorem x_L_law_1490 {ls st : List Value} {I : MI} {J : MJ} {R : MR} {S : Sh} {Q : SkQ} : Wp 23 1490 ls st I J R S Q = Wp 23 1491 ls (.int 0 :: st) I J R S Q := o_const (by decide) k_L_law_1490
theorem k_L_law_1491 : decode (sk_by 23) 1491 = .ok (.ireturn, 1) := by decide +kernel
theorem x_L_law_1491 {ls : List Value} {v : Int32} {I : MI} {J : MJ} {R : MR} {S : Sh} {Q : SkQ} (h : rOk (some .boolean) v = true) : Wp 23 1491 ls [.int v] I J R S Q = Q 0 (some (.int v)) I J R S := o_ireturn k_L_law_1491 (by rw [show sk_rt 23 = some .boolean from rfl]; exact h)
theorem k_L_law_1492 : decode (sk_by 23) 1492 = .ok (.goto 696, 3) := by decide +kernel
theorem x_L_law_1492 {ls st : List Value} {I : MI} {J : MJ} {R : MR} {S : Sh} {Q : SkQ} : Wp 23 1492 ls st I J R S Q = Wp 23 2188 ls st I J R S Q := o_goto rfl rfl k_L_law_1492
theorem k_L_law_1495 : decode (sk_by 23) 1495 = .ok (.aload_n 1, 1) := by decide +kernel
theorem x_L_law_1495 {st : List Value} {l0 : Nat} {l2 : Nat} {l3 : Nat} {l4 : Int32} {l5 : Value} {l6 : Value} {x : Nat} {I : MI} {J : MJ} {R : MR} {S : Sh} {Q : SkQ} : Wp 23 1495 [.ref l0, .ref x, .ref l2, .ref l3, .int l4, l5, l6, nov] st I J R S Q = Wp 23 1496 [.ref l0, .ref x, .ref l2, .ref l3, .int l4, l5, l6, nov] (.ref x :: st) I J R S Q := o_aload_n rfl k_L_law_1495
theorem k_L_law_1496 : decode (sk_by 23) 1496 = .ok (.aload_n 0, 1) := by decide +kernel
theorem x_L_law_1496 {st : List Value} {l1 : Nat} {l2 : Nat} {l3 : Nat} {l4 : Int32} {l5 : Value} {l6 : Value} {x : Nat} {I : MI} {J : MJ} {R : MR} {S : Sh} {Q : SkQ} : Wp 23 1496 [.ref x, .ref l1, .ref l2, .ref l3, .int l4, l5, l6, nov] st I J R S Q = Wp 23 1497 [.ref x, .ref l1, .ref l2, .ref l3, .int l4, l5, l6, nov] (.ref x :: st) I J R S Q := o_aload_n rfl k_L_law_1496
theorem k_L_law_1497 : decode (sk_by 23) 1497 = .ok (.iload 4, 2) := by decide +kernel
theorem x_L_law_1497 {st : List Value} {l0 : Nat} {l1 : Nat} {l2 : Nat} {l3 : Nat} {l5 : Value} {l6 : Value} {x : Int32} {I : MI} {J : MJ} {R : MR} {S : Sh} {Q : SkQ} : Wp 23 1497 [.ref l0, .ref l1, .ref l2, .ref l3, .int x, l5, l6, nov] st I J R S Q = Wp 23 1499 [.ref l0, .ref l1, .ref l2, .ref l3, .int x, l5, l6, nov] (.int x :: st) I J R S Q := o_iload rfl k_L_law_1497
theorem k_L_law_1499 : decode (sk_by 23) 1499 = .ok (.iconst 1, 1) := by decide +kernel
theorem x_L_law_1499 {ls st : List Value} {I : MI} {J : MJ} {R : MR} {S : Sh} {Q : SkQ} : Wp 23 1499 ls st I J R S Q = Wp 23 1500 ls (.int 1 :: st) I J R S Q := o_const (by decide) k_L_law_1499
theorem k_L_law_1500 : decode (sk_by 23) 1500 = .ok (.iadd, 1) := by decide +kernel
theorem x_L_law_1500 {ls st : List Value} {x y : Int32} {I : MI} {J : MJ} {R : MR} {S : Sh} {Q : SkQ} : Wp 23 1500 ls (.int y :: .int x :: st) I J R S Q = Wp 23 1501 ls (.int (x + y) :: st) I J R S Q := o_iadd k_L_law_1500
theorem k_L_law_1501 : decode (sk_by 23) 1501 = .ok (.iaload, 1) := by decide +kernel
theorem x_L_law_1501 {ls st : List Value} {a : Nat} {i : Int32} {I : MI} {J : MJ} {R : MR} {S : Sh} {Q : SkQ} (ha : S.1 a = 30) (hi : inb i (S.2.1 a) = true) : Wp 23 1501 ls (.int i :: .ref a :: st) I J R S Q = Wp 23 1502 ls (.int (I a (ix i)) :: st) I J R S Q := o_iaload k_L_law_1501 ha hi
theorem x_L_law_1501C {ls st : List Value} {a : Nat} {i : Int32} {I : MI} {J : MJ} {R : MR} {S : Sh} {Q : SkQ} (ha : S.1 a = 40) (hi : inb i (S.2.1 a) = true) : Wp 23 1501 ls (.int i :: .ref a :: st) I J R S Q = Wp 23 1502 ls (.int (I a (ix i)) :: st) I J R S Q := o_ialoadC k_L_law_1501 ha hi
theorem k_L_law_1502 : decode (sk_by 23) 1502 = .ok (.i2l, 1) := by decide +kernel
theorem x_L_law_1502 {ls st : List Value} {x : Int32} {I : MI} {J : MJ} {R : MR} {S : Sh} {Q : SkQ} : Wp 23 1502 ls (.int x :: st) I J R S Q = Wp 23 1503 ls (.long x.toInt64 :: st) I J R S Q := o_i2l k_L_law_1502
theorem k_L_law_1503 : decode (sk_by 23) 1503 = .ok (.bipush 32, 2) := by decide +kernel
theorem x_L_law_1503 {ls st : List Value} {I : MI} {J : MJ} {R : MR} {S : Sh} {Q : SkQ} : Wp 23 1503 ls st I J R S Q = Wp 23 1505 ls (.int 32 :: st) I J R S Q := o_bi (by decide) k_L_law_1503
theorem k_L_law_1505 : decode (sk_by 23) 1505 = .ok (.lshl, 1) := by decide +kernel
theorem x_L_law_1505 {ls st : List Value} {x : Int64} {y : Int32} {I : MI} {J : MJ} {R : MR} {S : Sh} {Q : SkQ} : Wp 23 1505 ls (.int y :: .long x :: st) I J R S Q = Wp 23 1506 ls (.long (x <<< (y.toInt64 &&& 63)) :: st) I J R S Q := o_lshl k_L_law_1505
theorem k_L_law_1506 : decode (sk_by 23) 1506 = .ok (.aload_n 0, 1) := by decide +kernel
theorem x_L_law_1506 {st : List Value} {l1 : Nat} {l2 : Nat} {l3 : Nat} {l4 : Int32} {l5 : Value} {l6 : Value} {x : Nat} {I : MI} {J : MJ} {R : MR} {S : Sh} {Q : SkQ} : Wp 23 1506 [.ref x, .ref l1, .ref l2, .ref l3, .int l4, l5, l6, nov] st I J R S Q = Wp 23 1507 [.ref x, .ref l1, .ref l2, .ref l3, .int l4, l5, l6, nov] (.ref x :: st) I J R S Q := o_aload_n rfl k_L_law_1506
theorem k_L_law_1507 : decode (sk_by 23) 1507 = .ok (.iload 4, 2) := by decide +kernel
theorem x_L_law_1507 {st : List Value} {l0 : Nat} {l1 : Nat} {l2 : Nat} {l3 : Nat} {l5 : Value} {l6 : Value} {x : Int32} {I : MI} {J : MJ} {R : MR} {S : Sh} {Q : SkQ} : Wp 23 1507 [.ref l0, .ref l1, .ref l2, .ref l3, .int x, l5, l6, nov] st I J R S Q = Wp 23 1509 [.ref l0, .ref l1, .ref l2, .ref l3, .int x, l5, l6, nov] (.int x :: st) I J R S Q := o_iload rfl k_L_law_1507
theorem k_L_law_1509 : decode (sk_by 23) 1509 = .ok (.iconst 2, 1) := by decide +kernel
theorem x_L_law_1509 {ls st : List Value} {I : MI} {J : MJ} {R : MR} {S : Sh} {Q : SkQ} : Wp 23 1509 ls st I J R S Q = Wp 23 1510 ls (.int 2 :: st) I J R S Q := o_const (by decide) k_L_law_1509
theorem k_L_law_1510 : decode (sk_by 23) 1510 = .ok (.iadd, 1) := by decide +kernel
theorem x_L_law_1510 {ls st : List Value} {x y : Int32} {I : MI} {J : MJ} {R : MR} {S : Sh} {Q : SkQ} : Wp 23 1510 ls (.int y :: .int x :: st) I J R S Q = Wp 23 1511 ls (.int (x + y) :: st) I J R S Q := o_iadd k_L_law_1510
theorem k_L_law_1511 : decode (sk_by 23) 1511 = .ok (.iaload, 1) := by decide +kernel
theorem x_L_law_1511 {ls st : List Value} {a : Nat} {i : Int32} {I : MI} {J : MJ} {R : MR} {S : Sh} {Q : SkQ} (ha : S.1 a = 30) (hi : inb i (S.2.1 a) = true) : Wp 23 1511 ls (.int i :: .ref a :: st) I J R S Q = Wp 23 1512 ls (.int (I a (ix i)) :: st) I J R S Q := o_iaload k_L_law_1511 ha hi
theorem x_L_law_1511C {ls st : List Value} {a : Nat} {i : Int32} {I : MI} {J : MJ} {R : MR} {S : Sh} {Q : SkQ} (ha : S.1 a = 40) (hi : inb i (S.2.1 a) = true) : Wp 23 1511 ls (.int i :: .ref a :: st) I J R S Q = Wp 23 1512 ls (.int (I a (ix i)) :: st) I J R S Q := o_ialoadC k_L_law_1511 ha hi
theorem k_L_law_1512 : decode (sk_by 23) 1512 = .ok (.i2l, 1) := by decide +kernel
theorem x_L_law_1512 {ls st : List Value} {x : Int32} {I : MI} {J : MJ} {R : MR} {S : Sh} {Q : SkQ} : Wp 23 1512 ls (.int x :: st) I J R S Q = Wp 23 1513 ls (.long x.toInt64 :: st) I J R S Q := o_i2l k_L_law_1512
theorem k_L_law_1513 : decode (sk_by 23) 1513 = .ok (.ldc2_w 97, 3) := by decide +kernel
theorem x_L_law_1513 {ls st : List Value} {I : MI} {J : MJ} {R : MR} {S : Sh} {Q : SkQ} : Wp 23 1513 ls st I J R S Q = Wp 23 1516 ls (.long 4294967295 :: st) I J R S Q := o_ldc2_w (show sk_lkK (sk_cl 23) 97 = some 4294967295 by decide +kernel) k_L_law_1513
theorem k_L_law_1516 : decode (sk_by 23) 1516 = .ok (.land, 1) := by decide +kernel
theorem x_L_law_1516 {ls st : List Value} {x y : Int64} {I : MI} {J : MJ} {R : MR} {S : Sh} {Q : SkQ} : Wp 23 1516 ls (.long y :: .long x :: st) I J R S Q = Wp 23 1517 ls (.long (x &&& y) :: st) I J R S Q := o_land k_L_law_1516
theorem k_L_law_1517 : decode (sk_by 23) 1517 = .ok (.lor, 1) := by decide +kernel
theorem x_L_law_1517 {ls st : List Value} {x y : Int64} {I : MI} {J : MJ} {R : MR} {S : Sh} {Q : SkQ} : Wp 23 1517 ls (.long y :: .long x :: st) I J R S Q = Wp 23 1518 ls (.long (x ||| y) :: st) I J R S Q := o_lor k_L_law_1517
theorem k_L_law_1518 : decode (sk_by 23) 1518 = .ok (.aload_n 3, 1) := by decide +kernel
theorem x_L_law_1518 {st : List Value} {l0 : Nat} {l1 : Nat} {l2 : Nat} {l4 : Int32} {l5 : Value} {l6 : Value} {x : Nat} {I : MI} {J : MJ} {R : MR} {S : Sh} {Q : SkQ} : Wp 23 1518 [.ref l0, .ref l1, .ref l2, .ref x, .int l4, l5, l6, nov] st I J R S Q = Wp 23 1519 [.ref l0, .ref l1, .ref l2, .ref x, .int l4, l5, l6, nov] (.ref x :: st) I J R S Q := o_aload_n rfl k_L_law_1518
theorem k_L_law_1519 : decode (sk_by 23) 1519 = .ok (.invokestatic 159, 3) := by decide +kernel
theorem x_L_law_1519 {ls : List Value} {a0 : Nat} {a1 : Int64} {a2 : Nat} {I : MI} {J : MJ} {R : MR} {S : Sh} {Q : SkQ} : Wp 23 1519 ls (.ref a2 :: .long a1 :: .ref a0 :: []) I J R S Q = Wp 16 0 [.ref a0, .long a1, nov, .ref a2, nov] [] I J R S (Ret 23 1519 1522 16 ls [] Q) := o_call (as := [.ref a0, .long a1, .ref a2]) (rest := []) (show sk_lkM (sk_cl 23) 159 = some 16 by decide +kernel) (by decide) (by decide) (by (decide +kernel)) (ins := .invokestatic 159) (by (decide +kernel)) k_L_law_1519 rfl (show 3 = sk_na 16 by (decide +kernel)) (Nat.le_of_ble_eq_true rfl) (Nat.le_trans (show (argL [.ref a0, .long a1, .ref a2]).length ≤ 5 from Nat.le_of_ble_eq_true rfl) (by (decide +kernel))) rfl
theorem k_L_law_1522 : decode (sk_by 23) 1522 = .ok (.istore 5, 2) := by decide +kernel
theorem x_L_law_1522 {st : List Value} {l0 : Nat} {l1 : Nat} {l2 : Nat} {l3 : Nat} {l4 : Int32} {l5 : Value} {l6 : Value} {x : Int32} {I : MI} {J : MJ} {R : MR} {S : Sh} {Q : SkQ} : Wp 23 1522 [.ref l0, .ref l1, .ref l2, .ref l3, .int l4, l5, l6, nov] (.int x :: st) I J R S Q = Wp 23 1524 [.ref l0, .ref l1, .ref l2, .ref l3, .int l4, .int x, l6, nov] st I J R S Q := o_istore (Nat.le_of_ble_eq_true rfl) rfl k_L_law_1522
theorem k_L_law_1524 : decode (sk_by 23) 1524 = .ok (.aload_n 2, 1) := by decide +kernel
theorem x_L_law_1524 {st : List Value} {l0 : Nat} {l1 : Nat} {l3 : Nat} {l4 : Int32} {l5 : Int32} {l6 : Value} {x : Nat} {I : MI} {J : MJ} {R : MR} {S : Sh} {Q : SkQ} : Wp 23 1524 [.ref l0, .ref l1, .ref x, .ref l3, .int l4, .int l5, l6, nov] st I J R S Q = Wp 23 1525 [.ref l0, .ref l1, .ref x, .ref l3, .int l4, .int l5, l6, nov] (.ref x :: st) I J R S Q := o_aload_n rfl k_L_law_1524
theorem k_L_law_1525 : decode (sk_by 23) 1525 = .ok (.aload_n 0, 1) := by decide +kernel
theorem x_L_law_1525 {st : List Value} {l1 : Nat} {l2 : Nat} {l3 : Nat} {l4 : Int32} {l5 : Int32} {l6 : Value} {x : Nat} {I : MI} {J : MJ} {R : MR} {S : Sh} {Q : SkQ} : Wp 23 1525 [.ref x, .ref l1, .ref l2, .ref l3, .int l4, .int l5, l6, nov] st I J R S Q = Wp 23 1526 [.ref x, .ref l1, .ref l2, .ref l3, .int l4, .int l5, l6, nov] (.ref x :: st) I J R S Q := o_aload_n rfl k_L_law_1525
theorem k_L_law_1526 : decode (sk_by 23) 1526 = .ok (.iload 4, 2) := by decide +kernel
theorem x_L_law_1526 {st : List Value} {l0 : Nat} {l1 : Nat} {l2 : Nat} {l3 : Nat} {l5 : Int32} {l6 : Value} {x : Int32} {I : MI} {J : MJ} {R : MR} {S : Sh} {Q : SkQ} : Wp 23 1526 [.ref l0, .ref l1, .ref l2, .ref l3, .int x, .int l5, l6, nov] st I J R S Q = Wp 23 1528 [.ref l0, .ref l1, .ref l2, .ref l3, .int x, .int l5, l6, nov] (.int x :: st) I J R S Q := o_iload rfl k_L_law_1526
theorem k_L_law_1528 : decode (sk_by 23) 1528 = .ok (.iconst 1, 1) := by decide +kernel
theorem x_L_law_1528 {ls st : List Value} {I : MI} {J : MJ} {R : MR} {S : Sh} {Q : SkQ} : Wp 23 1528 ls st I J R S Q = Wp 23 1529 ls (.int 1 :: st) I J R S Q := o_const (by decide) k_L_law_1528
theorem k_L_law_1529 : decode (sk_by 23) 1529 = .ok (.iadd, 1) := by decide +kernel
theorem x_L_law_1529 {ls st : List Value} {x y : Int32} {I : MI} {J : MJ} {R : MR} {S : Sh} {Q : SkQ} : Wp 23 1529 ls (.int y :: .int x :: st) I J R S Q = Wp 23 1530 ls (.int (x + y) :: st) I J R S Q := o_iadd k_L_law_1529
theorem k_L_law_1530 : decode (sk_by 23) 1530 = .ok (.iaload, 1) := by decide +kernel
theorem x_L_law_1530 {ls st : List Value} {a : Nat} {i : Int32} {I : MI} {J : MJ} {R : MR} {S : Sh} {Q : SkQ} (ha : S.1 a = 30) (hi : inb i (S.2.1 a) = true) : Wp 23 1530 ls (.int i :: .ref a :: st) I J R S Q = Wp 23 1531 ls (.int (I a (ix i)) :: st) I J R S Q := o_iaload k_L_law_1530 ha hi
theorem x_L_law_1530C {ls st : List Value} {a : Nat} {i : Int32} {I : MI} {J : MJ} {R : MR} {S : Sh} {Q : SkQ} (ha : S.1 a = 40) (hi : inb i (S.2.1 a) = true) : Wp 23 1530 ls (.int i :: .ref a :: st) I J R S Q = Wp 23 1531 ls (.int (I a (ix i)) :: st) I J R S Q := o_ialoadC k_L_law_1530 ha hi
theorem k_L_law_1531 : decode (sk_by 23) 1531 = .ok (.i2l, 1) := by decide +kernel
theorem x_L_law_1531 {ls st : List Value} {x : Int32} {I : MI} {J : MJ} {R : MR} {S : Sh} {Q : SkQ} : Wp 23 1531 ls (.int x :: st) I J R S Q = Wp 23 1532 ls (.long x.toInt64 :: st) I J R S Q := o_i2l k_L_law_1531
theorem k_L_law_1532 : decode (sk_by 23) 1532 = .ok (.bipush 32, 2) := by decide +kernel
theorem x_L_law_1532 {ls st : List Value} {I : MI} {J : MJ} {R : MR} {S : Sh} {Q : SkQ} : Wp 23 1532 ls st I J R S Q = Wp 23 1534 ls (.int 32 :: st) I J R S Q := o_bi (by decide) k_L_law_1532
theorem k_L_law_1534 : decode (sk_by 23) 1534 = .ok (.lshl, 1) := by decide +kernel
theorem x_L_law_1534 {ls st : List Value} {x : Int64} {y : Int32} {I : MI} {J : MJ} {R : MR} {S : Sh} {Q : SkQ} : Wp 23 1534 ls (.int y :: .long x :: st) I J R S Q = Wp 23 1535 ls (.long (x <<< (y.toInt64 &&& 63)) :: st) I J R S Q := o_lshl k_L_law_1534
theorem k_L_law_1535 : decode (sk_by 23) 1535 = .ok (.aload_n 0, 1) := by decide +kernel
theorem x_L_law_1535 {st : List Value} {l1 : Nat} {l2 : Nat} {l3 : Nat} {l4 : Int32} {l5 : Int32} {l6 : Value} {x : Nat} {I : MI} {J : MJ} {R : MR} {S : Sh} {Q : SkQ} : Wp 23 1535 [.ref x, .ref l1, .ref l2, .ref l3, .int l4, .int l5, l6, nov] st I J R S Q = Wp 23 1536 [.ref x, .ref l1, .ref l2, .ref l3, .int l4, .int l5, l6, nov] (.ref x :: st) I J R S Q := o_aload_n rfl k_L_law_1535
theorem k_L_law_1536 : decode (sk_by 23) 1536 = .ok (.iload 4, 2) := by decide +kernel
theorem x_L_law_1536 {st : List Value} {l0 : Nat} {l1 : Nat} {l2 : Nat} {l3 : Nat} {l5 : Int32} {l6 : Value} {x : Int32} {I : MI} {J : MJ} {R : MR} {S : Sh} {Q : SkQ} : Wp 23 1536 [.ref l0, .ref l1, .ref l2, .ref l3, .int x, .int l5, l6, nov] st I J R S Q = Wp 23 1538 [.ref l0, .ref l1, .ref l2, .ref l3, .int x, .int l5, l6, nov] (.int x :: st) I J R S Q := o_iload rfl k_L_law_1536
theorem k_L_law_1538 : decode (sk_by 23) 1538 = .ok (.iconst 2, 1) := by decide +kernel
theorem x_L_law_1538 {ls st : List Value} {I : MI} {J : MJ} {R : MR} {S : Sh} {Q : SkQ} : Wp 23 1538 ls st I J R S Q = Wp 23 1539 ls (.int 2 :: st) I J R S Q := o_const (by decide) k_L_law_1538
theorem k_L_law_1539 : decode (sk_by 23) 1539 = .ok (.iadd, 1) := by decide +kernel
theorem x_L_law_1539 {ls st : List Value} {x y : Int32} {I : MI} {J : MJ} {R : MR} {S : Sh} {Q : SkQ} : Wp 23 1539 ls (.int y :: .int x :: st) I J R S Q = Wp 23 1540 ls (.int (x + y) :: st) I J R S Q := o_iadd k_L_law_1539
theorem k_L_law_1540 : decode (sk_by 23) 1540 = .ok (.iaload, 1) := by decide +kernel
theorem x_L_law_1540 {ls st : List Value} {a : Nat} {i : Int32} {I : MI} {J : MJ} {R : MR} {S : Sh} {Q : SkQ} (ha : S.1 a = 30) (hi : inb i (S.2.1 a) = true) : Wp 23 1540 ls (.int i :: .ref a :: st) I J R S Q = Wp 23 1541 ls (.int (I a (ix i)) :: st) I J R S Q := o_iaload k_L_law_1540 ha hi
theorem x_L_law_1540C {ls st : List Value} {a : Nat} {i : Int32} {I : MI} {J : MJ} {R : MR} {S : Sh} {Q : SkQ} (ha : S.1 a = 40) (hi : inb i (S.2.1 a) = true) : Wp 23 1540 ls (.int i :: .ref a :: st) I J R S Q = Wp 23 1541 ls (.int (I a (ix i)) :: st) I J R S Q := o_ialoadC k_L_law_1540 ha hi
theorem k_L_law_1541 : decode (sk_by 23) 1541 = .ok (.i2l, 1) := by decide +kernel
theorem x_L_law_1541 {ls st : List Value} {x : Int32} {I : MI} {J : MJ} {R : MR} {S : Sh} {Q : SkQ} : Wp 23 1541 ls (.int x :: st) I J R S Q = Wp 23 1542 ls (.long x.toInt64 :: st) I J R S Q := o_i2l k_L_law_1541
theorem k_L_law_1542 : decode (sk_by 23) 1542 = .ok (.ldc2_w 97, 3) := by decide +kernel
theorem x_L_law_1542 {ls st : List Value} {I : MI} {J : MJ} {R : MR} {S : Sh} {Q : SkQ} : Wp 23 1542 ls st I J R S Q = Wp 23 1545 ls (.long 4294967295 :: st) I J R S Q := o_ldc2_w (show sk_lkK (sk_cl 23) 97 = some 4294967295 by decide +kernel) k_L_law_1542
theorem k_L_law_1545 : decode (sk_by 23) 1545 = .ok (.land, 1) := by decide +kernel
theorem x_L_law_1545 {ls st : List Value} {x y : Int64} {I : MI} {J : MJ} {R : MR} {S : Sh} {Q : SkQ} : Wp 23 1545 ls (.long y :: .long x :: st) I J R S Q = Wp 23 1546 ls (.long (x &&& y) :: st) I J R S Q := o_land k_L_law_1545
theorem k_L_law_1546 : decode (sk_by 23) 1546 = .ok (.lor, 1) := by decide +kernel
theorem x_L_law_1546 {ls st : List Value} {x y : Int64} {I : MI} {J : MJ} {R : MR} {S : Sh} {Q : SkQ} : Wp 23 1546 ls (.long y :: .long x :: st) I J R S Q = Wp 23 1547 ls (.long (x ||| y) :: st) I J R S Q := o_lor k_L_law_1546
theorem k_L_law_1547 : decode (sk_by 23) 1547 = .ok (.invokevirtual 161, 3) := by decide +kernel
theorem x_L_law_1547 {ls : List Value} {a0 : Nat} {a1 : Int64} {I : MI} {J : MJ} {R : MR} {S : Sh} {Q : SkQ} (ha : S.1 a0 = 8) : Wp 23 1547 ls (.long a1 :: .ref a0 :: []) I J R S Q = Wp 230 0 [.ref a0, .long a1, nov] [] I J R S (Ret 23 1547 1550 230 ls [] Q) := o_call (as := [.ref a0, .long a1]) (rest := []) (show sk_lkM (sk_cl 23) 161 = some 230 by decide +kernel) (by decide) (by decide) (by (decide +kernel)) (ins := .invokevirtual 161) (by (decide +kernel)) k_L_law_1547 rfl (show 2 = sk_na 230 by (decide +kernel)) (Nat.le_of_ble_eq_true rfl) (Nat.le_trans (show (argL [.ref a0, .long a1]).length ≤ 3 from Nat.le_of_ble_eq_true rfl) (by (decide +kernel))) (rcv_of (by (decide +kernel)) (by decide) ha)
theorem k_L_law_1550 : decode (sk_by 23) 1550 = .ok (.istore 6, 2) := by decide +kernel
theorem x_L_law_1550 {st : List Value} {l0 : Nat} {l1 : Nat} {l2 : Nat} {l3 : Nat} {l4 : Int32} {l5 : Int32} {l6 : Value} {x : Int32} {I : MI} {J : MJ} {R : MR} {S : Sh} {Q : SkQ} : Wp 23 1550 [.ref l0, .ref l1, .ref l2, .ref l3, .int l4, .int l5, l6, nov] (.int x :: st) I J R S Q = Wp 23 1552 [.ref l0, .ref l1, .ref l2, .ref l3, .int l4, .int l5, .int x, nov] st I J R S Q := o_istore (Nat.le_of_ble_eq_true rfl) rfl k_L_law_1550
theorem k_L_law_1552 : decode (sk_by 23) 1552 = .ok (.aload_n 2, 1) := by decide +kernel
theorem x_L_law_1552 {st : List Value} {l0 : Nat} {l1 : Nat} {l3 : Nat} {l4 : Int32} {l5 : Int32} {l6 : Int32} {x : Nat} {I : MI} {J : MJ} {R : MR} {S : Sh} {Q : SkQ} : Wp 23 1552 [.ref l0, .ref l1, .ref x, .ref l3, .int l4, .int l5, .int l6, nov] st I J R S Q = Wp 23 1553 [.ref l0, .ref l1, .ref x, .ref l3, .int l4, .int l5, .int l6, nov] (.ref x :: st) I J R S Q := o_aload_n rfl k_L_law_1552
theorem k_L_law_1553 : decode (sk_by 23) 1553 = .ok (.invokevirtual 105, 3) := by decide +kernel
theorem x_L_law_1553 {ls : List Value} {a0 : Nat} {I : MI} {J : MJ} {R : MR} {S : Sh} {Q : SkQ} (ha : S.1 a0 = 8) : Wp 23 1553 ls (.ref a0 :: []) I J R S Q = Wp 174 0 [.ref a0] [] I J R S (Ret 23 1553 1556 174 ls [] Q) := o_call (as := [.ref a0]) (rest := []) (show sk_lkM (sk_cl 23) 105 = some 174 by decide +kernel) (by decide) (by decide) (by (decide +kernel)) (ins := .invokevirtual 105) (by (decide +kernel)) k_L_law_1553 rfl (show 1 = sk_na 174 by (decide +kernel)) (Nat.le_of_ble_eq_true rfl) (Nat.le_trans (show (argL [.ref a0]).length ≤ 1 from Nat.le_of_ble_eq_true rfl) (by (decide +kernel))) (rcv_of (by (decide +kernel)) (by decide) ha)
theorem k_L_law_1556 : decode (sk_by 23) 1556 = .ok (.iload 5, 2) := by decide +kernel
theorem x_L_law_1556 {st : List Value} {l0 : Nat} {l1 : Nat} {l2 : Nat} {l3 : Nat} {l4 : Int32} {l6 : Int32} {x : Int32} {I : MI} {J : MJ} {R : MR} {S : Sh} {Q : SkQ} : Wp 23 1556 [.ref l0, .ref l1, .ref l2, .ref l3, .int l4, .int x, .int l6, nov] st I J R S Q = Wp 23 1558 [.ref l0, .ref l1, .ref l2, .ref l3, .int l4, .int x, .int l6, nov] (.int x :: st) I J R S Q := o_iload rfl k_L_law_1556
theorem k_L_law_1558 : decode (sk_by 23) 1558 = .ok (.if_icmp .eq 5, 3) := by decide +kernel
theorem x_L_law_1558 {ls st : List Value} {x y : Int32} {I : MI} {J : MJ} {R : MR} {S : Sh} {Q : SkQ} : Wp 23 1558 ls (.int y :: .int x :: st) I J R S Q = if x = y then Wp 23 1563 ls st I J R S Q else Wp 23 1561 ls st I J R S Q := o_ic_eq rfl rfl k_L_law_1558
theorem k_L_law_1561 : decode (sk_by 23) 1561 = .ok (.iconst 0, 1) := by decide +kernel
theorem x_L_law_1561 {ls st : List Value} {I : MI} {J : MJ} {R : MR} {S : Sh} {Q : SkQ} : Wp 23 1561 ls st I J R S Q = Wp 23 1562 ls (.int 0 :: st) I J R S Q := o_const (by decide) k_L_law_1561
theorem k_L_law_1562 : decode (sk_by 23) 1562 = .ok (.ireturn, 1) := by decide +kernel
theorem x_L_law_1562 {ls : List Value} {v : Int32} {I : MI} {J : MJ} {R : MR} {S : Sh} {Q : SkQ} (h : rOk (some .boolean) v = true) : Wp 23 1562 ls [.int v] I J R S Q = Q 0 (some (.int v)) I J R S := o_ireturn k_L_law_1562 (by rw [show sk_rt 23 = some .boolean from rfl]; exact h)
theorem k_L_law_1563 : decode (sk_by 23) 1563 = .ok (.iload 5, 2) := by decide +kernel
theorem x_L_law_1563 {st : List Value} {l0 : Nat} {l1 : Nat} {l2 : Nat} {l3 : Nat} {l4 : Int32} {l6 : Int32} {x : Int32} {I : MI} {J : MJ} {R : MR} {S : Sh} {Q : SkQ} : Wp 23 1563 [.ref l0, .ref l1, .ref l2, .ref l3, .int l4, .int x, .int l6, nov] st I J R S Q = Wp 23 1565 [.ref l0, .ref l1, .ref l2, .ref l3, .int l4, .int x, .int l6, nov] (.int x :: st) I J R S Q := o_iload rfl k_L_law_1563
theorem k_L_law_1565 : decode (sk_by 23) 1565 = .ok (.ifCond .ne 15, 3) := by decide +kernel
theorem x_L_law_1565 {ls st : List Value} {x : Int32} {I : MI} {J : MJ} {R : MR} {S : Sh} {Q : SkQ} : Wp 23 1565 ls (.int x :: st) I J R S Q = if x = 0 then Wp 23 1568 ls st I J R S Q else Wp 23 1580 ls st I J R S Q := o_if_ne rfl rfl k_L_law_1565
theorem k_L_law_1568 : decode (sk_by 23) 1568 = .ok (.aload_n 3, 1) := by decide +kernel
theorem x_L_law_1568 {st : List Value} {l0 : Nat} {l1 : Nat} {l2 : Nat} {l4 : Int32} {l5 : Int32} {l6 : Int32} {x : Nat} {I : MI} {J : MJ} {R : MR} {S : Sh} {Q : SkQ} : Wp 23 1568 [.ref l0, .ref l1, .ref l2, .ref x, .int l4, .int l5, .int l6, nov] st I J R S Q = Wp 23 1569 [.ref l0, .ref l1, .ref l2, .ref x, .int l4, .int l5, .int l6, nov] (.ref x :: st) I J R S Q := o_aload_n rfl k_L_law_1568
theorem k_L_law_1569 : decode (sk_by 23) 1569 = .ok (.iconst 0, 1) := by decide +kernel
theorem x_L_law_1569 {ls st : List Value} {I : MI} {J : MJ} {R : MR} {S : Sh} {Q : SkQ} : Wp 23 1569 ls st I J R S Q = Wp 23 1570 ls (.int 0 :: st) I J R S Q := o_const (by decide) k_L_law_1569
theorem k_L_law_1570 : decode (sk_by 23) 1570 = .ok (.laload, 1) := by decide +kernel
theorem x_L_law_1570 {ls st : List Value} {a : Nat} {i : Int32} {I : MI} {J : MJ} {R : MR} {S : Sh} {Q : SkQ} (ha : S.1 a = 31) (hi : inb i (S.2.1 a) = true) : Wp 23 1570 ls (.int i :: .ref a :: st) I J R S Q = Wp 23 1571 ls (.long (J a (ix i)) :: st) I J R S Q := o_laload k_L_law_1570 ha hi
theorem k_L_law_1571 : decode (sk_by 23) 1571 = .ok (.iload 6, 2) := by decide +kernel
theorem x_L_law_1571 {st : List Value} {l0 : Nat} {l1 : Nat} {l2 : Nat} {l3 : Nat} {l4 : Int32} {l5 : Int32} {x : Int32} {I : MI} {J : MJ} {R : MR} {S : Sh} {Q : SkQ} : Wp 23 1571 [.ref l0, .ref l1, .ref l2, .ref l3, .int l4, .int l5, .int x, nov] st I J R S Q = Wp 23 1573 [.ref l0, .ref l1, .ref l2, .ref l3, .int l4, .int l5, .int x, nov] (.int x :: st) I J R S Q := o_iload rfl k_L_law_1571
theorem k_L_law_1573 : decode (sk_by 23) 1573 = .ok (.i2l, 1) := by decide +kernel
theorem x_L_law_1573 {ls st : List Value} {x : Int32} {I : MI} {J : MJ} {R : MR} {S : Sh} {Q : SkQ} : Wp 23 1573 ls (.int x :: st) I J R S Q = Wp 23 1574 ls (.long x.toInt64 :: st) I J R S Q := o_i2l k_L_law_1573
theorem k_L_law_1574 : decode (sk_by 23) 1574 = .ok (.lcmp, 1) := by decide +kernel
theorem x_L_law_1574 {ls st : List Value} {x y : Int64} {I : MI} {J : MJ} {R : MR} {S : Sh} {Q : SkQ} : Wp 23 1574 ls (.long y :: .long x :: st) I J R S Q = Wp 23 1575 ls (.int (lg_cmp x y) :: st) I J R S Q := o_lcmp k_L_law_1574
theorem k_L_law_1575 : decode (sk_by 23) 1575 = .ok (.ifCond .eq 5, 3) := by decide +kernel
theorem x_L_law_1575 {ls st : List Value} {x : Int32} {I : MI} {J : MJ} {R : MR} {S : Sh} {Q : SkQ} : Wp 23 1575 ls (.int x :: st) I J R S Q = if x = 0 then Wp 23 1580 ls st I J R S Q else Wp 23 1578 ls st I J R S Q := o_if_eq rfl rfl k_L_law_1575
theorem k_L_law_1578 : decode (sk_by 23) 1578 = .ok (.iconst 0, 1) := by decide +kernel
theorem x_L_law_1578 {ls st : List Value} {I : MI} {J : MJ} {R : MR} {S : Sh} {Q : SkQ} : Wp 23 1578 ls st I J R S Q = Wp 23 1579 ls (.int 0 :: st) I J R S Q := o_const (by decide) k_L_law_1578
theorem k_L_law_1579 : decode (sk_by 23) 1579 = .ok (.ireturn, 1) := by decide +kernel
theorem x_L_law_1579 {ls : List Value} {v : Int32} {I : MI} {J : MJ} {R : MR} {S : Sh} {Q : SkQ} (h : rOk (some .boolean) v = true) : Wp 23 1579 ls [.int v] I J R S Q = Q 0 (some (.int v)) I J R S := o_ireturn k_L_law_1579 (by rw [show sk_rt 23 = some .boolean from rfl]; exact h)
theorem k_L_law_1580 : decode (sk_by 23) 1580 = .ok (.goto 608, 3) := by decide +kernel
theorem x_L_law_1580 {ls st : List Value} {I : MI} {J : MJ} {R : MR} {S : Sh} {Q : SkQ} : Wp 23 1580 ls st I J R S Q = Wp 23 2188 ls st I J R S Q := o_goto rfl rfl k_L_law_1580
theorem k_L_law_1583 : decode (sk_by 23) 1583 = .ok (.aload_n 1, 1) := by decide +kernel
theorem x_L_law_1583 {st : List Value} {l0 : Nat} {l2 : Nat} {l3 : Nat} {l4 : Int32} {l5 : Value} {l6 : Value} {x : Nat} {I : MI} {J : MJ} {R : MR} {S : Sh} {Q : SkQ} : Wp 23 1583 [.ref l0, .ref x, .ref l2, .ref l3, .int l4, l5, l6, nov] st I J R S Q = Wp 23 1584 [.ref l0, .ref x, .ref l2, .ref l3, .int l4, l5, l6, nov] (.ref x :: st) I J R S Q := o_aload_n rfl k_L_law_1583
theorem k_L_law_1584 : decode (sk_by 23) 1584 = .ok (.aload_n 0, 1) := by decide +kernel
theorem x_L_law_1584 {st : List Value} {l1 : Nat} {l2 : Nat} {l3 : Nat} {l4 : Int32} {l5 : Value} {l6 : Value} {x : Nat} {I : MI} {J : MJ} {R : MR} {S : Sh} {Q : SkQ} : Wp 23 1584 [.ref x, .ref l1, .ref l2, .ref l3, .int l4, l5, l6, nov] st I J R S Q = Wp 23 1585 [.ref x, .ref l1, .ref l2, .ref l3, .int l4, l5, l6, nov] (.ref x :: st) I J R S Q := o_aload_n rfl k_L_law_1584
theorem k_L_law_1585 : decode (sk_by 23) 1585 = .ok (.iload 4, 2) := by decide +kernel
theorem x_L_law_1585 {st : List Value} {l0 : Nat} {l1 : Nat} {l2 : Nat} {l3 : Nat} {l5 : Value} {l6 : Value} {x : Int32} {I : MI} {J : MJ} {R : MR} {S : Sh} {Q : SkQ} : Wp 23 1585 [.ref l0, .ref l1, .ref l2, .ref l3, .int x, l5, l6, nov] st I J R S Q = Wp 23 1587 [.ref l0, .ref l1, .ref l2, .ref l3, .int x, l5, l6, nov] (.int x :: st) I J R S Q := o_iload rfl k_L_law_1585
theorem k_L_law_1587 : decode (sk_by 23) 1587 = .ok (.iconst 1, 1) := by decide +kernel
theorem x_L_law_1587 {ls st : List Value} {I : MI} {J : MJ} {R : MR} {S : Sh} {Q : SkQ} : Wp 23 1587 ls st I J R S Q = Wp 23 1588 ls (.int 1 :: st) I J R S Q := o_const (by decide) k_L_law_1587
theorem k_L_law_1588 : decode (sk_by 23) 1588 = .ok (.iadd, 1) := by decide +kernel
theorem x_L_law_1588 {ls st : List Value} {x y : Int32} {I : MI} {J : MJ} {R : MR} {S : Sh} {Q : SkQ} : Wp 23 1588 ls (.int y :: .int x :: st) I J R S Q = Wp 23 1589 ls (.int (x + y) :: st) I J R S Q := o_iadd k_L_law_1588
theorem k_L_law_1589 : decode (sk_by 23) 1589 = .ok (.iaload, 1) := by decide +kernel
theorem x_L_law_1589 {ls st : List Value} {a : Nat} {i : Int32} {I : MI} {J : MJ} {R : MR} {S : Sh} {Q : SkQ} (ha : S.1 a = 30) (hi : inb i (S.2.1 a) = true) : Wp 23 1589 ls (.int i :: .ref a :: st) I J R S Q = Wp 23 1590 ls (.int (I a (ix i)) :: st) I J R S Q := o_iaload k_L_law_1589 ha hi
theorem x_L_law_1589C {ls st : List Value} {a : Nat} {i : Int32} {I : MI} {J : MJ} {R : MR} {S : Sh} {Q : SkQ} (ha : S.1 a = 40) (hi : inb i (S.2.1 a) = true) : Wp 23 1589 ls (.int i :: .ref a :: st) I J R S Q = Wp 23 1590 ls (.int (I a (ix i)) :: st) I J R S Q := o_ialoadC k_L_law_1589 ha hi
theorem k_L_law_1590 : decode (sk_by 23) 1590 = .ok (.i2l, 1) := by decide +kernel
theorem x_L_law_1590 {ls st : List Value} {x : Int32} {I : MI} {J : MJ} {R : MR} {S : Sh} {Q : SkQ} : Wp 23 1590 ls (.int x :: st) I J R S Q = Wp 23 1591 ls (.long x.toInt64 :: st) I J R S Q := o_i2l k_L_law_1590
theorem k_L_law_1591 : decode (sk_by 23) 1591 = .ok (.bipush 32, 2) := by decide +kernel
theorem x_L_law_1591 {ls st : List Value} {I : MI} {J : MJ} {R : MR} {S : Sh} {Q : SkQ} : Wp 23 1591 ls st I J R S Q = Wp 23 1593 ls (.int 32 :: st) I J R S Q := o_bi (by decide) k_L_law_1591
theorem k_L_law_1593 : decode (sk_by 23) 1593 = .ok (.lshl, 1) := by decide +kernel
theorem x_L_law_1593 {ls st : List Value} {x : Int64} {y : Int32} {I : MI} {J : MJ} {R : MR} {S : Sh} {Q : SkQ} : Wp 23 1593 ls (.int y :: .long x :: st) I J R S Q = Wp 23 1594 ls (.long (x <<< (y.toInt64 &&& 63)) :: st) I J R S Q := o_lshl k_L_law_1593
theorem k_L_law_1594 : decode (sk_by 23) 1594 = .ok (.aload_n 0, 1) := by decide +kernel
theorem x_L_law_1594 {st : List Value} {l1 : Nat} {l2 : Nat} {l3 : Nat} {l4 : Int32} {l5 : Value} {l6 : Value} {x : Nat} {I : MI} {J : MJ} {R : MR} {S : Sh} {Q : SkQ} : Wp 23 1594 [.ref x, .ref l1, .ref l2, .ref l3, .int l4, l5, l6, nov] st I J R S Q = Wp 23 1595 [.ref x, .ref l1, .ref l2, .ref l3, .int l4, l5, l6, nov] (.ref x :: st) I J R S Q := o_aload_n rfl k_L_law_1594
theorem k_L_law_1595 : decode (sk_by 23) 1595 = .ok (.iload 4, 2) := by decide +kernel
theorem x_L_law_1595 {st : List Value} {l0 : Nat} {l1 : Nat} {l2 : Nat} {l3 : Nat} {l5 : Value} {l6 : Value} {x : Int32} {I : MI} {J : MJ} {R : MR} {S : Sh} {Q : SkQ} : Wp 23 1595 [.ref l0, .ref l1, .ref l2, .ref l3, .int x, l5, l6, nov] st I J R S Q = Wp 23 1597 [.ref l0, .ref l1, .ref l2, .ref l3, .int x, l5, l6, nov] (.int x :: st) I J R S Q := o_iload rfl k_L_law_1595
theorem k_L_law_1597 : decode (sk_by 23) 1597 = .ok (.iconst 2, 1) := by decide +kernel
theorem x_L_law_1597 {ls st : List Value} {I : MI} {J : MJ} {R : MR} {S : Sh} {Q : SkQ} : Wp 23 1597 ls st I J R S Q = Wp 23 1598 ls (.int 2 :: st) I J R S Q := o_const (by decide) k_L_law_1597
theorem k_L_law_1598 : decode (sk_by 23) 1598 = .ok (.iadd, 1) := by decide +kernel
theorem x_L_law_1598 {ls st : List Value} {x y : Int32} {I : MI} {J : MJ} {R : MR} {S : Sh} {Q : SkQ} : Wp 23 1598 ls (.int y :: .int x :: st) I J R S Q = Wp 23 1599 ls (.int (x + y) :: st) I J R S Q := o_iadd k_L_law_1598
theorem k_L_law_1599 : decode (sk_by 23) 1599 = .ok (.iaload, 1) := by decide +kernel
theorem x_L_law_1599 {ls st : List Value} {a : Nat} {i : Int32} {I : MI} {J : MJ} {R : MR} {S : Sh} {Q : SkQ} (ha : S.1 a = 30) (hi : inb i (S.2.1 a) = true) : Wp 23 1599 ls (.int i :: .ref a :: st) I J R S Q = Wp 23 1600 ls (.int (I a (ix i)) :: st) I J R S Q := o_iaload k_L_law_1599 ha hi
theorem x_L_law_1599C {ls st : List Value} {a : Nat} {i : Int32} {I : MI} {J : MJ} {R : MR} {S : Sh} {Q : SkQ} (ha : S.1 a = 40) (hi : inb i (S.2.1 a) = true) : Wp 23 1599 ls (.int i :: .ref a :: st) I J R S Q = Wp 23 1600 ls (.int (I a (ix i)) :: st) I J R S Q := o_ialoadC k_L_law_1599 ha hi
theorem k_L_law_1600 : decode (sk_by 23) 1600 = .ok (.i2l, 1) := by decide +kernel
theorem x_L_law_1600 {ls st : List Value} {x : Int32} {I : MI} {J : MJ} {R : MR} {S : Sh} {Q : SkQ} : Wp 23 1600 ls (.int x :: st) I J R S Q = Wp 23 1601 ls (.long x.toInt64 :: st) I J R S Q := o_i2l k_L_law_1600
theorem k_L_law_1601 : decode (sk_by 23) 1601 = .ok (.ldc2_w 97, 3) := by decide +kernel
theorem x_L_law_1601 {ls st : List Value} {I : MI} {J : MJ} {R : MR} {S : Sh} {Q : SkQ} : Wp 23 1601 ls st I J R S Q = Wp 23 1604 ls (.long 4294967295 :: st) I J R S Q := o_ldc2_w (show sk_lkK (sk_cl 23) 97 = some 4294967295 by decide +kernel) k_L_law_1601
theorem k_L_law_1604 : decode (sk_by 23) 1604 = .ok (.land, 1) := by decide +kernel
theorem x_L_law_1604 {ls st : List Value} {x y : Int64} {I : MI} {J : MJ} {R : MR} {S : Sh} {Q : SkQ} : Wp 23 1604 ls (.long y :: .long x :: st) I J R S Q = Wp 23 1605 ls (.long (x &&& y) :: st) I J R S Q := o_land k_L_law_1604
theorem k_L_law_1605 : decode (sk_by 23) 1605 = .ok (.lor, 1) := by decide +kernel
theorem x_L_law_1605 {ls st : List Value} {x y : Int64} {I : MI} {J : MJ} {R : MR} {S : Sh} {Q : SkQ} : Wp 23 1605 ls (.long y :: .long x :: st) I J R S Q = Wp 23 1606 ls (.long (x ||| y) :: st) I J R S Q := o_lor k_L_law_1605
theorem k_L_law_1606 : decode (sk_by 23) 1606 = .ok (.aload_n 0, 1) := by decide +kernel
theorem x_L_law_1606 {st : List Value} {l1 : Nat} {l2 : Nat} {l3 : Nat} {l4 : Int32} {l5 : Value} {l6 : Value} {x : Nat} {I : MI} {J : MJ} {R : MR} {S : Sh} {Q : SkQ} : Wp 23 1606 [.ref x, .ref l1, .ref l2, .ref l3, .int l4, l5, l6, nov] st I J R S Q = Wp 23 1607 [.ref x, .ref l1, .ref l2, .ref l3, .int l4, l5, l6, nov] (.ref x :: st) I J R S Q := o_aload_n rfl k_L_law_1606
theorem k_L_law_1607 : decode (sk_by 23) 1607 = .ok (.iload 4, 2) := by decide +kernel
theorem x_L_law_1607 {st : List Value} {l0 : Nat} {l1 : Nat} {l2 : Nat} {l3 : Nat} {l5 : Value} {l6 : Value} {x : Int32} {I : MI} {J : MJ} {R : MR} {S : Sh} {Q : SkQ} : Wp 23 1607 [.ref l0, .ref l1, .ref l2, .ref l3, .int x, l5, l6, nov] st I J R S Q = Wp 23 1609 [.ref l0, .ref l1, .ref l2, .ref l3, .int x, l5, l6, nov] (.int x :: st) I J R S Q := o_iload rfl k_L_law_1607
theorem k_L_law_1609 : decode (sk_by 23) 1609 = .ok (.iconst 3, 1) := by decide +kernel
theorem x_L_law_1609 {ls st : List Value} {I : MI} {J : MJ} {R : MR} {S : Sh} {Q : SkQ} : Wp 23 1609 ls st I J R S Q = Wp 23 1610 ls (.int 3 :: st) I J R S Q := o_const (by decide) k_L_law_1609
theorem k_L_law_1610 : decode (sk_by 23) 1610 = .ok (.iadd, 1) := by decide +kernel
theorem x_L_law_1610 {ls st : List Value} {x y : Int32} {I : MI} {J : MJ} {R : MR} {S : Sh} {Q : SkQ} : Wp 23 1610 ls (.int y :: .int x :: st) I J R S Q = Wp 23 1611 ls (.int (x + y) :: st) I J R S Q := o_iadd k_L_law_1610
theorem k_L_law_1611 : decode (sk_by 23) 1611 = .ok (.iaload, 1) := by decide +kernel
theorem x_L_law_1611 {ls st : List Value} {a : Nat} {i : Int32} {I : MI} {J : MJ} {R : MR} {S : Sh} {Q : SkQ} (ha : S.1 a = 30) (hi : inb i (S.2.1 a) = true) : Wp 23 1611 ls (.int i :: .ref a :: st) I J R S Q = Wp 23 1612 ls (.int (I a (ix i)) :: st) I J R S Q := o_iaload k_L_law_1611 ha hi
theorem x_L_law_1611C {ls st : List Value} {a : Nat} {i : Int32} {I : MI} {J : MJ} {R : MR} {S : Sh} {Q : SkQ} (ha : S.1 a = 40) (hi : inb i (S.2.1 a) = true) : Wp 23 1611 ls (.int i :: .ref a :: st) I J R S Q = Wp 23 1612 ls (.int (I a (ix i)) :: st) I J R S Q := o_ialoadC k_L_law_1611 ha hi
theorem k_L_law_1612 : decode (sk_by 23) 1612 = .ok (.aload_n 3, 1) := by decide +kernel
theorem x_L_law_1612 {st : List Value} {l0 : Nat} {l1 : Nat} {l2 : Nat} {l4 : Int32} {l5 : Value} {l6 : Value} {x : Nat} {I : MI} {J : MJ} {R : MR} {S : Sh} {Q : SkQ} : Wp 23 1612 [.ref l0, .ref l1, .ref l2, .ref x, .int l4, l5, l6, nov] st I J R S Q = Wp 23 1613 [.ref l0, .ref l1, .ref l2, .ref x, .int l4, l5, l6, nov] (.ref x :: st) I J R S Q := o_aload_n rfl k_L_law_1612
theorem k_L_law_1613 : decode (sk_by 23) 1613 = .ok (.invokestatic 162, 3) := by decide +kernel
theorem x_L_law_1613 {ls : List Value} {a0 : Nat} {a1 : Int64} {a2 : Int32} {a3 : Nat} {I : MI} {J : MJ} {R : MR} {S : Sh} {Q : SkQ} : Wp 23 1613 ls (.ref a3 :: .int a2 :: .long a1 :: .ref a0 :: []) I J R S Q = Wp 17 0 [.ref a0, .long a1, nov, .int a2, .ref a3, nov] [] I J R S (Ret 23 1613 1616 17 ls [] Q) := o_call (as := [.ref a0, .long a1, .int a2, .ref a3]) (rest := []) (show sk_lkM (sk_cl 23) 162 = some 17 by decide +kernel) (by decide) (by decide) (by (decide +kernel)) (ins := .invokestatic 162) (by (decide +kernel)) k_L_law_1613 rfl (show 4 = sk_na 17 by (decide +kernel)) (Nat.le_of_ble_eq_true rfl) (Nat.le_trans (show (argL [.ref a0, .long a1, .int a2, .ref a3]).length ≤ 6 from Nat.le_of_ble_eq_true rfl) (by (decide +kernel))) rfl
theorem k_L_law_1616 : decode (sk_by 23) 1616 = .ok (.istore 5, 2) := by decide +kernel
theorem x_L_law_1616 {st : List Value} {l0 : Nat} {l1 : Nat} {l2 : Nat} {l3 : Nat} {l4 : Int32} {l5 : Value} {l6 : Value} {x : Int32} {I : MI} {J : MJ} {R : MR} {S : Sh} {Q : SkQ} : Wp 23 1616 [.ref l0, .ref l1, .ref l2, .ref l3, .int l4, l5, l6, nov] (.int x :: st) I J R S Q = Wp 23 1618 [.ref l0, .ref l1, .ref l2, .ref l3, .int l4, .int x, l6, nov] st I J R S Q := o_istore (Nat.le_of_ble_eq_true rfl) rfl k_L_law_1616
theorem k_L_law_1618 : decode (sk_by 23) 1618 = .ok (.aload_n 2, 1) := by decide +kernel
theorem x_L_law_1618 {st : List Value} {l0 : Nat} {l1 : Nat} {l3 : Nat} {l4 : Int32} {l5 : Int32} {l6 : Value} {x : Nat} {I : MI} {J : MJ} {R : MR} {S : Sh} {Q : SkQ} : Wp 23 1618 [.ref l0, .ref l1, .ref x, .ref l3, .int l4, .int l5, l6, nov] st I J R S Q = Wp 23 1619 [.ref l0, .ref l1, .ref x, .ref l3, .int l4, .int l5, l6, nov] (.ref x :: st) I J R S Q := o_aload_n rfl k_L_law_1618
theorem k_L_law_1619 : decode (sk_by 23) 1619 = .ok (.aload_n 0, 1) := by decide +kernel
theorem x_L_law_1619 {st : List Value} {l1 : Nat} {l2 : Nat} {l3 : Nat} {l4 : Int32} {l5 : Int32} {l6 : Value} {x : Nat} {I : MI} {J : MJ} {R : MR} {S : Sh} {Q : SkQ} : Wp 23 1619 [.ref x, .ref l1, .ref l2, .ref l3, .int l4, .int l5, l6, nov] st I J R S Q = Wp 23 1620 [.ref x, .ref l1, .ref l2, .ref l3, .int l4, .int l5, l6, nov] (.ref x :: st) I J R S Q := o_aload_n rfl k_L_law_1619
theorem k_L_law_1620 : decode (sk_by 23) 1620 = .ok (.iload 4, 2) := by decide +kernel
theorem x_L_law_1620 {st : List Value} {l0 : Nat} {l1 : Nat} {l2 : Nat} {l3 : Nat} {l5 : Int32} {l6 : Value} {x : Int32} {I : MI} {J : MJ} {R : MR} {S : Sh} {Q : SkQ} : Wp 23 1620 [.ref l0, .ref l1, .ref l2, .ref l3, .int x, .int l5, l6, nov] st I J R S Q = Wp 23 1622 [.ref l0, .ref l1, .ref l2, .ref l3, .int x, .int l5, l6, nov] (.int x :: st) I J R S Q := o_iload rfl k_L_law_1620
theorem k_L_law_1622 : decode (sk_by 23) 1622 = .ok (.iconst 1, 1) := by decide +kernel
theorem x_L_law_1622 {ls st : List Value} {I : MI} {J : MJ} {R : MR} {S : Sh} {Q : SkQ} : Wp 23 1622 ls st I J R S Q = Wp 23 1623 ls (.int 1 :: st) I J R S Q := o_const (by decide) k_L_law_1622
theorem k_L_law_1623 : decode (sk_by 23) 1623 = .ok (.iadd, 1) := by decide +kernel
theorem x_L_law_1623 {ls st : List Value} {x y : Int32} {I : MI} {J : MJ} {R : MR} {S : Sh} {Q : SkQ} : Wp 23 1623 ls (.int y :: .int x :: st) I J R S Q = Wp 23 1624 ls (.int (x + y) :: st) I J R S Q := o_iadd k_L_law_1623
theorem k_L_law_1624 : decode (sk_by 23) 1624 = .ok (.iaload, 1) := by decide +kernel
theorem x_L_law_1624 {ls st : List Value} {a : Nat} {i : Int32} {I : MI} {J : MJ} {R : MR} {S : Sh} {Q : SkQ} (ha : S.1 a = 30) (hi : inb i (S.2.1 a) = true) : Wp 23 1624 ls (.int i :: .ref a :: st) I J R S Q = Wp 23 1625 ls (.int (I a (ix i)) :: st) I J R S Q := o_iaload k_L_law_1624 ha hi
theorem x_L_law_1624C {ls st : List Value} {a : Nat} {i : Int32} {I : MI} {J : MJ} {R : MR} {S : Sh} {Q : SkQ} (ha : S.1 a = 40) (hi : inb i (S.2.1 a) = true) : Wp 23 1624 ls (.int i :: .ref a :: st) I J R S Q = Wp 23 1625 ls (.int (I a (ix i)) :: st) I J R S Q := o_ialoadC k_L_law_1624 ha hi
theorem k_L_law_1625 : decode (sk_by 23) 1625 = .ok (.i2l, 1) := by decide +kernel
theorem x_L_law_1625 {ls st : List Value} {x : Int32} {I : MI} {J : MJ} {R : MR} {S : Sh} {Q : SkQ} : Wp 23 1625 ls (.int x :: st) I J R S Q = Wp 23 1626 ls (.long x.toInt64 :: st) I J R S Q := o_i2l k_L_law_1625
theorem k_L_law_1626 : decode (sk_by 23) 1626 = .ok (.bipush 32, 2) := by decide +kernel
theorem x_L_law_1626 {ls st : List Value} {I : MI} {J : MJ} {R : MR} {S : Sh} {Q : SkQ} : Wp 23 1626 ls st I J R S Q = Wp 23 1628 ls (.int 32 :: st) I J R S Q := o_bi (by decide) k_L_law_1626
theorem k_L_law_1628 : decode (sk_by 23) 1628 = .ok (.lshl, 1) := by decide +kernel
theorem x_L_law_1628 {ls st : List Value} {x : Int64} {y : Int32} {I : MI} {J : MJ} {R : MR} {S : Sh} {Q : SkQ} : Wp 23 1628 ls (.int y :: .long x :: st) I J R S Q = Wp 23 1629 ls (.long (x <<< (y.toInt64 &&& 63)) :: st) I J R S Q := o_lshl k_L_law_1628
theorem k_L_law_1629 : decode (sk_by 23) 1629 = .ok (.aload_n 0, 1) := by decide +kernel
theorem x_L_law_1629 {st : List Value} {l1 : Nat} {l2 : Nat} {l3 : Nat} {l4 : Int32} {l5 : Int32} {l6 : Value} {x : Nat} {I : MI} {J : MJ} {R : MR} {S : Sh} {Q : SkQ} : Wp 23 1629 [.ref x, .ref l1, .ref l2, .ref l3, .int l4, .int l5, l6, nov] st I J R S Q = Wp 23 1630 [.ref x, .ref l1, .ref l2, .ref l3, .int l4, .int l5, l6, nov] (.ref x :: st) I J R S Q := o_aload_n rfl k_L_law_1629
theorem k_L_law_1630 : decode (sk_by 23) 1630 = .ok (.iload 4, 2) := by decide +kernel
theorem x_L_law_1630 {st : List Value} {l0 : Nat} {l1 : Nat} {l2 : Nat} {l3 : Nat} {l5 : Int32} {l6 : Value} {x : Int32} {I : MI} {J : MJ} {R : MR} {S : Sh} {Q : SkQ} : Wp 23 1630 [.ref l0, .ref l1, .ref l2, .ref l3, .int x, .int l5, l6, nov] st I J R S Q = Wp 23 1632 [.ref l0, .ref l1, .ref l2, .ref l3, .int x, .int l5, l6, nov] (.int x :: st) I J R S Q := o_iload rfl k_L_law_1630
theorem k_L_law_1632 : decode (sk_by 23) 1632 = .ok (.iconst 2, 1) := by decide +kernel
theorem x_L_law_1632 {ls st : List Value} {I : MI} {J : MJ} {R : MR} {S : Sh} {Q : SkQ} : Wp 23 1632 ls st I J R S Q = Wp 23 1633 ls (.int 2 :: st) I J R S Q := o_const (by decide) k_L_law_1632
theorem k_L_law_1633 : decode (sk_by 23) 1633 = .ok (.iadd, 1) := by decide +kernel
theorem x_L_law_1633 {ls st : List Value} {x y : Int32} {I : MI} {J : MJ} {R : MR} {S : Sh} {Q : SkQ} : Wp 23 1633 ls (.int y :: .int x :: st) I J R S Q = Wp 23 1634 ls (.int (x + y) :: st) I J R S Q := o_iadd k_L_law_1633
theorem k_L_law_1634 : decode (sk_by 23) 1634 = .ok (.iaload, 1) := by decide +kernel
theorem x_L_law_1634 {ls st : List Value} {a : Nat} {i : Int32} {I : MI} {J : MJ} {R : MR} {S : Sh} {Q : SkQ} (ha : S.1 a = 30) (hi : inb i (S.2.1 a) = true) : Wp 23 1634 ls (.int i :: .ref a :: st) I J R S Q = Wp 23 1635 ls (.int (I a (ix i)) :: st) I J R S Q := o_iaload k_L_law_1634 ha hi
theorem x_L_law_1634C {ls st : List Value} {a : Nat} {i : Int32} {I : MI} {J : MJ} {R : MR} {S : Sh} {Q : SkQ} (ha : S.1 a = 40) (hi : inb i (S.2.1 a) = true) : Wp 23 1634 ls (.int i :: .ref a :: st) I J R S Q = Wp 23 1635 ls (.int (I a (ix i)) :: st) I J R S Q := o_ialoadC k_L_law_1634 ha hi
theorem k_L_law_1635 : decode (sk_by 23) 1635 = .ok (.i2l, 1) := by decide +kernel
theorem x_L_law_1635 {ls st : List Value} {x : Int32} {I : MI} {J : MJ} {R : MR} {S : Sh} {Q : SkQ} : Wp 23 1635 ls (.int x :: st) I J R S Q = Wp 23 1636 ls (.long x.toInt64 :: st) I J R S Q := o_i2l k_L_law_1635
theorem k_L_law_1636 : decode (sk_by 23) 1636 = .ok (.ldc2_w 97, 3) := by decide +kernel
theorem x_L_law_1636 {ls st : List Value} {I : MI} {J : MJ} {R : MR} {S : Sh} {Q : SkQ} : Wp 23 1636 ls st I J R S Q = Wp 23 1639 ls (.long 4294967295 :: st) I J R S Q := o_ldc2_w (show sk_lkK (sk_cl 23) 97 = some 4294967295 by decide +kernel) k_L_law_1636
theorem k_L_law_1639 : decode (sk_by 23) 1639 = .ok (.land, 1) := by decide +kernel
theorem x_L_law_1639 {ls st : List Value} {x y : Int64} {I : MI} {J : MJ} {R : MR} {S : Sh} {Q : SkQ} : Wp 23 1639 ls (.long y :: .long x :: st) I J R S Q = Wp 23 1640 ls (.long (x &&& y) :: st) I J R S Q := o_land k_L_law_1639
theorem k_L_law_1640 : decode (sk_by 23) 1640 = .ok (.lor, 1) := by decide +kernel
theorem x_L_law_1640 {ls st : List Value} {x y : Int64} {I : MI} {J : MJ} {R : MR} {S : Sh} {Q : SkQ} : Wp 23 1640 ls (.long y :: .long x :: st) I J R S Q = Wp 23 1641 ls (.long (x ||| y) :: st) I J R S Q := o_lor k_L_law_1640
theorem k_L_law_1641 : decode (sk_by 23) 1641 = .ok (.aload_n 0, 1) := by decide +kernel
theorem x_L_law_1641 {st : List Value} {l1 : Nat} {l2 : Nat} {l3 : Nat} {l4 : Int32} {l5 : Int32} {l6 : Value} {x : Nat} {I : MI} {J : MJ} {R : MR} {S : Sh} {Q : SkQ} : Wp 23 1641 [.ref x, .ref l1, .ref l2, .ref l3, .int l4, .int l5, l6, nov] st I J R S Q = Wp 23 1642 [.ref x, .ref l1, .ref l2, .ref l3, .int l4, .int l5, l6, nov] (.ref x :: st) I J R S Q := o_aload_n rfl k_L_law_1641
theorem k_L_law_1642 : decode (sk_by 23) 1642 = .ok (.iload 4, 2) := by decide +kernel
theorem x_L_law_1642 {st : List Value} {l0 : Nat} {l1 : Nat} {l2 : Nat} {l3 : Nat} {l5 : Int32} {l6 : Value} {x : Int32} {I : MI} {J : MJ} {R : MR} {S : Sh} {Q : SkQ} : Wp 23 1642 [.ref l0, .ref l1, .ref l2, .ref l3, .int x, .int l5, l6, nov] st I J R S Q = Wp 23 1644 [.ref l0, .ref l1, .ref l2, .ref l3, .int x, .int l5, l6, nov] (.int x :: st) I J R S Q := o_iload rfl k_L_law_1642
theorem k_L_law_1644 : decode (sk_by 23) 1644 = .ok (.iconst 3, 1) := by decide +kernel
theorem x_L_law_1644 {ls st : List Value} {I : MI} {J : MJ} {R : MR} {S : Sh} {Q : SkQ} : Wp 23 1644 ls st I J R S Q = Wp 23 1645 ls (.int 3 :: st) I J R S Q := o_const (by decide) k_L_law_1644
theorem k_L_law_1645 : decode (sk_by 23) 1645 = .ok (.iadd, 1) := by decide +kernel
theorem x_L_law_1645 {ls st : List Value} {x y : Int32} {I : MI} {J : MJ} {R : MR} {S : Sh} {Q : SkQ} : Wp 23 1645 ls (.int y :: .int x :: st) I J R S Q = Wp 23 1646 ls (.int (x + y) :: st) I J R S Q := o_iadd k_L_law_1645
theorem k_L_law_1646 : decode (sk_by 23) 1646 = .ok (.iaload, 1) := by decide +kernel
theorem x_L_law_1646 {ls st : List Value} {a : Nat} {i : Int32} {I : MI} {J : MJ} {R : MR} {S : Sh} {Q : SkQ} (ha : S.1 a = 30) (hi : inb i (S.2.1 a) = true) : Wp 23 1646 ls (.int i :: .ref a :: st) I J R S Q = Wp 23 1647 ls (.int (I a (ix i)) :: st) I J R S Q := o_iaload k_L_law_1646 ha hi
theorem x_L_law_1646C {ls st : List Value} {a : Nat} {i : Int32} {I : MI} {J : MJ} {R : MR} {S : Sh} {Q : SkQ} (ha : S.1 a = 40) (hi : inb i (S.2.1 a) = true) : Wp 23 1646 ls (.int i :: .ref a :: st) I J R S Q = Wp 23 1647 ls (.int (I a (ix i)) :: st) I J R S Q := o_ialoadC k_L_law_1646 ha hi
theorem k_L_law_1647 : decode (sk_by 23) 1647 = .ok (.invokevirtual 164, 3) := by decide +kernel
theorem x_L_law_1647 {ls : List Value} {a0 : Nat} {a1 : Int64} {a2 : Int32} {I : MI} {J : MJ} {R : MR} {S : Sh} {Q : SkQ} (ha : S.1 a0 = 8) : Wp 23 1647 ls (.int a2 :: .long a1 :: .ref a0 :: []) I J R S Q = Wp 231 0 [.ref a0, .long a1, nov, .int a2, nov, nov, nov] [] I J R S (Ret 23 1647 1650 231 ls [] Q) := o_call (as := [.ref a0, .long a1, .int a2]) (rest := []) (show sk_lkM (sk_cl 23) 164 = some 231 by decide +kernel) (by decide) (by decide) (by (decide +kernel)) (ins := .invokevirtual 164) (by (decide +kernel)) k_L_law_1647 rfl (show 3 = sk_na 231 by (decide +kernel)) (Nat.le_of_ble_eq_true rfl) (Nat.le_trans (show (argL [.ref a0, .long a1, .int a2]).length ≤ 7 from Nat.le_of_ble_eq_true rfl) (by (decide +kernel))) (rcv_of (by (decide +kernel)) (by decide) ha)
theorem k_L_law_1650 : decode (sk_by 23) 1650 = .ok (.lstore 6, 2) := by decide +kernel
theorem x_L_law_1650 {st : List Value} {l0 : Nat} {l1 : Nat} {l2 : Nat} {l3 : Nat} {l4 : Int32} {l5 : Int32} {l6 : Value} {x : Int64} {I : MI} {J : MJ} {R : MR} {S : Sh} {Q : SkQ} : Wp 23 1650 [.ref l0, .ref l1, .ref l2, .ref l3, .int l4, .int l5, l6, nov] (.long x :: st) I J R S Q = Wp 23 1652 [.ref l0, .ref l1, .ref l2, .ref l3, .int l4, .int l5, .long x, nov] st I J R S Q := o_lstore (Nat.le_of_ble_eq_true rfl) rfl k_L_law_1650
theorem k_L_law_1652 : decode (sk_by 23) 1652 = .ok (.aload_n 2, 1) := by decide +kernel
theorem x_L_law_1652 {st : List Value} {l0 : Nat} {l1 : Nat} {l3 : Nat} {l4 : Int32} {l5 : Int32} {l6 : Int64} {x : Nat} {I : MI} {J : MJ} {R : MR} {S : Sh} {Q : SkQ} : Wp 23 1652 [.ref l0, .ref l1, .ref x, .ref l3, .int l4, .int l5, .long l6, nov] st I J R S Q = Wp 23 1653 [.ref l0, .ref l1, .ref x, .ref l3, .int l4, .int l5, .long l6, nov] (.ref x :: st) I J R S Q := o_aload_n rfl k_L_law_1652
theorem k_L_law_1653 : decode (sk_by 23) 1653 = .ok (.invokevirtual 105, 3) := by decide +kernel
theorem x_L_law_1653 {ls : List Value} {a0 : Nat} {I : MI} {J : MJ} {R : MR} {S : Sh} {Q : SkQ} (ha : S.1 a0 = 8) : Wp 23 1653 ls (.ref a0 :: []) I J R S Q = Wp 174 0 [.ref a0] [] I J R S (Ret 23 1653 1656 174 ls [] Q) := o_call (as := [.ref a0]) (rest := []) (show sk_lkM (sk_cl 23) 105 = some 174 by decide +kernel) (by decide) (by decide) (by (decide +kernel)) (ins := .invokevirtual 105) (by (decide +kernel)) k_L_law_1653 rfl (show 1 = sk_na 174 by (decide +kernel)) (Nat.le_of_ble_eq_true rfl) (Nat.le_trans (show (argL [.ref a0]).length ≤ 1 from Nat.le_of_ble_eq_true rfl) (by (decide +kernel))) (rcv_of (by (decide +kernel)) (by decide) ha)
theorem k_L_law_1656 : decode (sk_by 23) 1656 = .ok (.iload 5, 2) := by decide +kernel
theorem x_L_law_1656 {st : List Value} {l0 : Nat} {l1 : Nat} {l2 : Nat} {l3 : Nat} {l4 : Int32} {l6 : Int64} {x : Int32} {I : MI} {J : MJ} {R : MR} {S : Sh} {Q : SkQ} : Wp 23 1656 [.ref l0, .ref l1, .ref l2, .ref l3, .int l4, .int x, .long l6, nov] st I J R S Q = Wp 23 1658 [.ref l0, .ref l1, .ref l2, .ref l3, .int l4, .int x, .long l6, nov] (.int x :: st) I J R S Q := o_iload rfl k_L_law_1656
theorem k_L_law_1658 : decode (sk_by 23) 1658 = .ok (.if_icmp .eq 5, 3) := by decide +kernel
theorem x_L_law_1658 {ls st : List Value} {x y : Int32} {I : MI} {J : MJ} {R : MR} {S : Sh} {Q : SkQ} : Wp 23 1658 ls (.int y :: .int x :: st) I J R S Q = if x = y then Wp 23 1663 ls st I J R S Q else Wp 23 1661 ls st I J R S Q := o_ic_eq rfl rfl k_L_law_1658
theorem k_L_law_1661 : decode (sk_by 23) 1661 = .ok (.iconst 0, 1) := by decide +kernel
theorem x_L_law_1661 {ls st : List Value} {I : MI} {J : MJ} {R : MR} {S : Sh} {Q : SkQ} : Wp 23 1661 ls st I J R S Q = Wp 23 1662 ls (.int 0 :: st) I J R S Q := o_const (by decide) k_L_law_1661
theorem k_L_law_1662 : decode (sk_by 23) 1662 = .ok (.ireturn, 1) := by decide +kernel
theorem x_L_law_1662 {ls : List Value} {v : Int32} {I : MI} {J : MJ} {R : MR} {S : Sh} {Q : SkQ} (h : rOk (some .boolean) v = true) : Wp 23 1662 ls [.int v] I J R S Q = Q 0 (some (.int v)) I J R S := o_ireturn k_L_law_1662 (by rw [show sk_rt 23 = some .boolean from rfl]; exact h)
theorem k_L_law_1663 : decode (sk_by 23) 1663 = .ok (.iload 5, 2) := by decide +kernel
theorem x_L_law_1663 {st : List Value} {l0 : Nat} {l1 : Nat} {l2 : Nat} {l3 : Nat} {l4 : Int32} {l6 : Int64} {x : Int32} {I : MI} {J : MJ} {R : MR} {S : Sh} {Q : SkQ} : Wp 23 1663 [.ref l0, .ref l1, .ref l2, .ref l3, .int l4, .int x, .long l6, nov] st I J R S Q = Wp 23 1665 [.ref l0, .ref l1, .ref l2, .ref l3, .int l4, .int x, .long l6, nov] (.int x :: st) I J R S Q := o_iload rfl k_L_law_1663
theorem k_L_law_1665 : decode (sk_by 23) 1665 = .ok (.ifCond .ne 14, 3) := by decide +kernel
theorem x_L_law_1665 {ls st : List Value} {x : Int32} {I : MI} {J : MJ} {R : MR} {S : Sh} {Q : SkQ} : Wp 23 1665 ls (.int x :: st) I J R S Q = if x = 0 then Wp 23 1668 ls st I J R S Q else Wp 23 1679 ls st I J R S Q := o_if_ne rfl rfl k_L_law_1665
theorem k_L_law_1668 : decode (sk_by 23) 1668 = .ok (.aload_n 3, 1) := by decide +kernel
theorem x_L_law_1668 {st : List Value} {l0 : Nat} {l1 : Nat} {l2 : Nat} {l4 : Int32} {l5 : Int32} {l6 : Int64} {x : Nat} {I : MI} {J : MJ} {R : MR} {S : Sh} {Q : SkQ} : Wp 23 1668 [.ref l0, .ref l1, .ref l2, .ref x, .int l4, .int l5, .long l6, nov] st I J R S Q = Wp 23 1669 [.ref l0, .ref l1, .ref l2, .ref x, .int l4, .int l5, .long l6, nov] (.ref x :: st) I J R S Q := o_aload_n rfl k_L_law_1668
theorem k_L_law_1669 : decode (sk_by 23) 1669 = .ok (.iconst 0, 1) := by decide +kernel
theorem x_L_law_1669 {ls st : List Value} {I : MI} {J : MJ} {R : MR} {S : Sh} {Q : SkQ} : Wp 23 1669 ls st I J R S Q = Wp 23 1670 ls (.int 0 :: st) I J R S Q := o_const (by decide) k_L_law_1669
theorem k_L_law_1670 : decode (sk_by 23) 1670 = .ok (.laload, 1) := by decide +kernel
theorem x_L_law_1670 {ls st : List Value} {a : Nat} {i : Int32} {I : MI} {J : MJ} {R : MR} {S : Sh} {Q : SkQ} (ha : S.1 a = 31) (hi : inb i (S.2.1 a) = true) : Wp 23 1670 ls (.int i :: .ref a :: st) I J R S Q = Wp 23 1671 ls (.long (J a (ix i)) :: st) I J R S Q := o_laload k_L_law_1670 ha hi
theorem k_L_law_1671 : decode (sk_by 23) 1671 = .ok (.lload 6, 2) := by decide +kernel
theorem x_L_law_1671 {st : List Value} {l0 : Nat} {l1 : Nat} {l2 : Nat} {l3 : Nat} {l4 : Int32} {l5 : Int32} {x : Int64} {I : MI} {J : MJ} {R : MR} {S : Sh} {Q : SkQ} : Wp 23 1671 [.ref l0, .ref l1, .ref l2, .ref l3, .int l4, .int l5, .long x, nov] st I J R S Q = Wp 23 1673 [.ref l0, .ref l1, .ref l2, .ref l3, .int l4, .int l5, .long x, nov] (.long x :: st) I J R S Q := o_lload rfl k_L_law_1671
theorem k_L_law_1673 : decode (sk_by 23) 1673 = .ok (.lcmp, 1) := by decide +kernel
theorem x_L_law_1673 {ls st : List Value} {x y : Int64} {I : MI} {J : MJ} {R : MR} {S : Sh} {Q : SkQ} : Wp 23 1673 ls (.long y :: .long x :: st) I J R S Q = Wp 23 1674 ls (.int (lg_cmp x y) :: st) I J R S Q := o_lcmp k_L_law_1673
theorem k_L_law_1674 : decode (sk_by 23) 1674 = .ok (.ifCond .eq 5, 3) := by decide +kernel
theorem x_L_law_1674 {ls st : List Value} {x : Int32} {I : MI} {J : MJ} {R : MR} {S : Sh} {Q : SkQ} : Wp 23 1674 ls (.int x :: st) I J R S Q = if x = 0 then Wp 23 1679 ls st I J R S Q else Wp 23 1677 ls st I J R S Q := o_if_eq rfl rfl k_L_law_1674
theorem k_L_law_1677 : decode (sk_by 23) 1677 = .ok (.iconst 0, 1) := by decide +kernel
theorem x_L_law_1677 {ls st : List Value} {I : MI} {J : MJ} {R : MR} {S : Sh} {Q : SkQ} : Wp 23 1677 ls st I J R S Q = Wp 23 1678 ls (.int 0 :: st) I J R S Q := o_const (by decide) k_L_law_1677
theorem k_L_law_1678 : decode (sk_by 23) 1678 = .ok (.ireturn, 1) := by decide +kernel
theorem x_L_law_1678 {ls : List Value} {v : Int32} {I : MI} {J : MJ} {R : MR} {S : Sh} {Q : SkQ} (h : rOk (some .boolean) v = true) : Wp 23 1678 ls [.int v] I J R S Q = Q 0 (some (.int v)) I J R S := o_ireturn k_L_law_1678 (by rw [show sk_rt 23 = some .boolean from rfl]; exact h)
theorem k_L_law_1679 : decode (sk_by 23) 1679 = .ok (.goto 509, 3) := by decide +kernel
theorem x_L_law_1679 {ls st : List Value} {I : MI} {J : MJ} {R : MR} {S : Sh} {Q : SkQ} : Wp 23 1679 ls st I J R S Q = Wp 23 2188 ls st I J R S Q := o_goto rfl rfl k_L_law_1679
theorem k_L_law_1682 : decode (sk_by 23) 1682 = .ok (.aload_n 1, 1) := by decide +kernel
theorem x_L_law_1682 {st : List Value} {l0 : Nat} {l2 : Nat} {l3 : Nat} {l4 : Int32} {l5 : Value} {l6 : Value} {x : Nat} {I : MI} {J : MJ} {R : MR} {S : Sh} {Q : SkQ} : Wp 23 1682 [.ref l0, .ref x, .ref l2, .ref l3, .int l4, l5, l6, nov] st I J R S Q = Wp 23 1683 [.ref l0, .ref x, .ref l2, .ref l3, .int l4, l5, l6, nov] (.ref x :: st) I J R S Q := o_aload_n rfl k_L_law_1682
theorem k_L_law_1683 : decode (sk_by 23) 1683 = .ok (.aload_n 0, 1) := by decide +kernel
theorem x_L_law_1683 {st : List Value} {l1 : Nat} {l2 : Nat} {l3 : Nat} {l4 : Int32} {l5 : Value} {l6 : Value} {x : Nat} {I : MI} {J : MJ} {R : MR} {S : Sh} {Q : SkQ} : Wp 23 1683 [.ref x, .ref l1, .ref l2, .ref l3, .int l4, l5, l6, nov] st I J R S Q = Wp 23 1684 [.ref x, .ref l1, .ref l2, .ref l3, .int l4, l5, l6, nov] (.ref x :: st) I J R S Q := o_aload_n rfl k_L_law_1683
theorem k_L_law_1684 : decode (sk_by 23) 1684 = .ok (.iload 4, 2) := by decide +kernel
theorem x_L_law_1684 {st : List Value} {l0 : Nat} {l1 : Nat} {l2 : Nat} {l3 : Nat} {l5 : Value} {l6 : Value} {x : Int32} {I : MI} {J : MJ} {R : MR} {S : Sh} {Q : SkQ} : Wp 23 1684 [.ref l0, .ref l1, .ref l2, .ref l3, .int x, l5, l6, nov] st I J R S Q = Wp 23 1686 [.ref l0, .ref l1, .ref l2, .ref l3, .int x, l5, l6, nov] (.int x :: st) I J R S Q := o_iload rfl k_L_law_1684
theorem k_L_law_1686 : decode (sk_by 23) 1686 = .ok (.iconst 1, 1) := by decide +kernel
theorem x_L_law_1686 {ls st : List Value} {I : MI} {J : MJ} {R : MR} {S : Sh} {Q : SkQ} : Wp 23 1686 ls st I J R S Q = Wp 23 1687 ls (.int 1 :: st) I J R S Q := o_const (by decide) k_L_law_1686
theorem k_L_law_1687 : decode (sk_by 23) 1687 = .ok (.iadd, 1) := by decide +kernel
theorem x_L_law_1687 {ls st : List Value} {x y : Int32} {I : MI} {J : MJ} {R : MR} {S : Sh} {Q : SkQ} : Wp 23 1687 ls (.int y :: .int x :: st) I J R S Q = Wp 23 1688 ls (.int (x + y) :: st) I J R S Q := o_iadd k_L_law_1687
theorem k_L_law_1688 : decode (sk_by 23) 1688 = .ok (.iaload, 1) := by decide +kernel
theorem x_L_law_1688 {ls st : List Value} {a : Nat} {i : Int32} {I : MI} {J : MJ} {R : MR} {S : Sh} {Q : SkQ} (ha : S.1 a = 30) (hi : inb i (S.2.1 a) = true) : Wp 23 1688 ls (.int i :: .ref a :: st) I J R S Q = Wp 23 1689 ls (.int (I a (ix i)) :: st) I J R S Q := o_iaload k_L_law_1688 ha hi
theorem x_L_law_1688C {ls st : List Value} {a : Nat} {i : Int32} {I : MI} {J : MJ} {R : MR} {S : Sh} {Q : SkQ} (ha : S.1 a = 40) (hi : inb i (S.2.1 a) = true) : Wp 23 1688 ls (.int i :: .ref a :: st) I J R S Q = Wp 23 1689 ls (.int (I a (ix i)) :: st) I J R S Q := o_ialoadC k_L_law_1688 ha hi
theorem k_L_law_1689 : decode (sk_by 23) 1689 = .ok (.i2l, 1) := by decide +kernel
theorem x_L_law_1689 {ls st : List Value} {x : Int32} {I : MI} {J : MJ} {R : MR} {S : Sh} {Q : SkQ} : Wp 23 1689 ls (.int x :: st) I J R S Q = Wp 23 1690 ls (.long x.toInt64 :: st) I J R S Q := o_i2l k_L_law_1689
theorem k_L_law_1690 : decode (sk_by 23) 1690 = .ok (.bipush 32, 2) := by decide +kernel
theorem x_L_law_1690 {ls st : List Value} {I : MI} {J : MJ} {R : MR} {S : Sh} {Q : SkQ} : Wp 23 1690 ls st I J R S Q = Wp 23 1692 ls (.int 32 :: st) I J R S Q := o_bi (by decide) k_L_law_1690
theorem k_L_law_1692 : decode (sk_by 23) 1692 = .ok (.lshl, 1) := by decide +kernel
theorem x_L_law_1692 {ls st : List Value} {x : Int64} {y : Int32} {I : MI} {J : MJ} {R : MR} {S : Sh} {Q : SkQ} : Wp 23 1692 ls (.int y :: .long x :: st) I J R S Q = Wp 23 1693 ls (.long (x <<< (y.toInt64 &&& 63)) :: st) I J R S Q := o_lshl k_L_law_1692
theorem k_L_law_1693 : decode (sk_by 23) 1693 = .ok (.aload_n 0, 1) := by decide +kernel
theorem x_L_law_1693 {st : List Value} {l1 : Nat} {l2 : Nat} {l3 : Nat} {l4 : Int32} {l5 : Value} {l6 : Value} {x : Nat} {I : MI} {J : MJ} {R : MR} {S : Sh} {Q : SkQ} : Wp 23 1693 [.ref x, .ref l1, .ref l2, .ref l3, .int l4, l5, l6, nov] st I J R S Q = Wp 23 1694 [.ref x, .ref l1, .ref l2, .ref l3, .int l4, l5, l6, nov] (.ref x :: st) I J R S Q := o_aload_n rfl k_L_law_1693
theorem k_L_law_1694 : decode (sk_by 23) 1694 = .ok (.iload 4, 2) := by decide +kernel
theorem x_L_law_1694 {st : List Value} {l0 : Nat} {l1 : Nat} {l2 : Nat} {l3 : Nat} {l5 : Value} {l6 : Value} {x : Int32} {I : MI} {J : MJ} {R : MR} {S : Sh} {Q : SkQ} : Wp 23 1694 [.ref l0, .ref l1, .ref l2, .ref l3, .int x, l5, l6, nov] st I J R S Q = Wp 23 1696 [.ref l0, .ref l1, .ref l2, .ref l3, .int x, l5, l6, nov] (.int x :: st) I J R S Q := o_iload rfl k_L_law_1694
theorem k_L_law_1696 : decode (sk_by 23) 1696 = .ok (.iconst 2, 1) := by decide +kernel
theorem x_L_law_1696 {ls st : List Value} {I : MI} {J : MJ} {R : MR} {S : Sh} {Q : SkQ} : Wp 23 1696 ls st I J R S Q = Wp 23 1697 ls (.int 2 :: st) I J R S Q := o_const (by decide) k_L_law_1696
theorem k_L_law_1697 : decode (sk_by 23) 1697 = .ok (.iadd, 1) := by decide +kernel
theorem x_L_law_1697 {ls st : List Value} {x y : Int32} {I : MI} {J : MJ} {R : MR} {S : Sh} {Q : SkQ} : Wp 23 1697 ls (.int y :: .int x :: st) I J R S Q = Wp 23 1698 ls (.int (x + y) :: st) I J R S Q := o_iadd k_L_law_1697
theorem k_L_law_1698 : decode (sk_by 23) 1698 = .ok (.iaload, 1) := by decide +kernel
theorem x_L_law_1698 {ls st : List Value} {a : Nat} {i : Int32} {I : MI} {J : MJ} {R : MR} {S : Sh} {Q : SkQ} (ha : S.1 a = 30) (hi : inb i (S.2.1 a) = true) : Wp 23 1698 ls (.int i :: .ref a :: st) I J R S Q = Wp 23 1699 ls (.int (I a (ix i)) :: st) I J R S Q := o_iaload k_L_law_1698 ha hi
theorem x_L_law_1698C {ls st : List Value} {a : Nat} {i : Int32} {I : MI} {J : MJ} {R : MR} {S : Sh} {Q : SkQ} (ha : S.1 a = 40) (hi : inb i (S.2.1 a) = true) : Wp 23 1698 ls (.int i :: .ref a :: st) I J R S Q = Wp 23 1699 ls (.int (I a (ix i)) :: st) I J R S Q := o_ialoadC k_L_law_1698 ha hi
theorem k_L_law_1699 : decode (sk_by 23) 1699 = .ok (.i2l, 1) := by decide +kernel
theorem x_L_law_1699 {ls st : List Value} {x : Int32} {I : MI} {J : MJ} {R : MR} {S : Sh} {Q : SkQ} : Wp 23 1699 ls (.int x :: st) I J R S Q = Wp 23 1700 ls (.long x.toInt64 :: st) I J R S Q := o_i2l k_L_law_1699
theorem k_L_law_1700 : decode (sk_by 23) 1700 = .ok (.ldc2_w 97, 3) := by decide +kernel
theorem x_L_law_1700 {ls st : List Value} {I : MI} {J : MJ} {R : MR} {S : Sh} {Q : SkQ} : Wp 23 1700 ls st I J R S Q = Wp 23 1703 ls (.long 4294967295 :: st) I J R S Q := o_ldc2_w (show sk_lkK (sk_cl 23) 97 = some 4294967295 by decide +kernel) k_L_law_1700
theorem k_L_law_1703 : decode (sk_by 23) 1703 = .ok (.land, 1) := by decide +kernel
theorem x_L_law_1703 {ls st : List Value} {x y : Int64} {I : MI} {J : MJ} {R : MR} {S : Sh} {Q : SkQ} : Wp 23 1703 ls (.long y :: .long x :: st) I J R S Q = Wp 23 1704 ls (.long (x &&& y) :: st) I J R S Q := o_land k_L_law_1703
theorem k_L_law_1704 : decode (sk_by 23) 1704 = .ok (.lor, 1) := by decide +kernel
theorem x_L_law_1704 {ls st : List Value} {x y : Int64} {I : MI} {J : MJ} {R : MR} {S : Sh} {Q : SkQ} : Wp 23 1704 ls (.long y :: .long x :: st) I J R S Q = Wp 23 1705 ls (.long (x ||| y) :: st) I J R S Q := o_lor k_L_law_1704
theorem k_L_law_1705 : decode (sk_by 23) 1705 = .ok (.aload_n 0, 1) := by decide +kernel
theorem x_L_law_1705 {st : List Value} {l1 : Nat} {l2 : Nat} {l3 : Nat} {l4 : Int32} {l5 : Value} {l6 : Value} {x : Nat} {I : MI} {J : MJ} {R : MR} {S : Sh} {Q : SkQ} : Wp 23 1705 [.ref x, .ref l1, .ref l2, .ref l3, .int l4, l5, l6, nov] st I J R S Q = Wp 23 1706 [.ref x, .ref l1, .ref l2, .ref l3, .int l4, l5, l6, nov] (.ref x :: st) I J R S Q := o_aload_n rfl k_L_law_1705
theorem k_L_law_1706 : decode (sk_by 23) 1706 = .ok (.iload 4, 2) := by decide +kernel
theorem x_L_law_1706 {st : List Value} {l0 : Nat} {l1 : Nat} {l2 : Nat} {l3 : Nat} {l5 : Value} {l6 : Value} {x : Int32} {I : MI} {J : MJ} {R : MR} {S : Sh} {Q : SkQ} : Wp 23 1706 [.ref l0, .ref l1, .ref l2, .ref l3, .int x, l5, l6, nov] st I J R S Q = Wp 23 1708 [.ref l0, .ref l1, .ref l2, .ref l3, .int x, l5, l6, nov] (.int x :: st) I J R S Q := o_iload rfl k_L_law_1706
theorem k_L_law_1708 : decode (sk_by 23) 1708 = .ok (.iconst 3, 1) := by decide +kernel
theorem x_L_law_1708 {ls st : List Value} {I : MI} {J : MJ} {R : MR} {S : Sh} {Q : SkQ} : Wp 23 1708 ls st I J R S Q = Wp 23 1709 ls (.int 3 :: st) I J R S Q := o_const (by decide) k_L_law_1708
theorem k_L_law_1709 : decode (sk_by 23) 1709 = .ok (.iadd, 1) := by decide +kernel
theorem x_L_law_1709 {ls st : List Value} {x y : Int32} {I : MI} {J : MJ} {R : MR} {S : Sh} {Q : SkQ} : Wp 23 1709 ls (.int y :: .int x :: st) I J R S Q = Wp 23 1710 ls (.int (x + y) :: st) I J R S Q := o_iadd k_L_law_1709
theorem k_L_law_1710 : decode (sk_by 23) 1710 = .ok (.iaload, 1) := by decide +kernel
theorem x_L_law_1710 {ls st : List Value} {a : Nat} {i : Int32} {I : MI} {J : MJ} {R : MR} {S : Sh} {Q : SkQ} (ha : S.1 a = 30) (hi : inb i (S.2.1 a) = true) : Wp 23 1710 ls (.int i :: .ref a :: st) I J R S Q = Wp 23 1711 ls (.int (I a (ix i)) :: st) I J R S Q := o_iaload k_L_law_1710 ha hi
theorem x_L_law_1710C {ls st : List Value} {a : Nat} {i : Int32} {I : MI} {J : MJ} {R : MR} {S : Sh} {Q : SkQ} (ha : S.1 a = 40) (hi : inb i (S.2.1 a) = true) : Wp 23 1710 ls (.int i :: .ref a :: st) I J R S Q = Wp 23 1711 ls (.int (I a (ix i)) :: st) I J R S Q := o_ialoadC k_L_law_1710 ha hi
theorem k_L_law_1711 : decode (sk_by 23) 1711 = .ok (.i2l, 1) := by decide +kernel
theorem x_L_law_1711 {ls st : List Value} {x : Int32} {I : MI} {J : MJ} {R : MR} {S : Sh} {Q : SkQ} : Wp 23 1711 ls (.int x :: st) I J R S Q = Wp 23 1712 ls (.long x.toInt64 :: st) I J R S Q := o_i2l k_L_law_1711
theorem k_L_law_1712 : decode (sk_by 23) 1712 = .ok (.bipush 32, 2) := by decide +kernel
theorem x_L_law_1712 {ls st : List Value} {I : MI} {J : MJ} {R : MR} {S : Sh} {Q : SkQ} : Wp 23 1712 ls st I J R S Q = Wp 23 1714 ls (.int 32 :: st) I J R S Q := o_bi (by decide) k_L_law_1712
theorem k_L_law_1714 : decode (sk_by 23) 1714 = .ok (.lshl, 1) := by decide +kernel
theorem x_L_law_1714 {ls st : List Value} {x : Int64} {y : Int32} {I : MI} {J : MJ} {R : MR} {S : Sh} {Q : SkQ} : Wp 23 1714 ls (.int y :: .long x :: st) I J R S Q = Wp 23 1715 ls (.long (x <<< (y.toInt64 &&& 63)) :: st) I J R S Q := o_lshl k_L_law_1714
theorem k_L_law_1715 : decode (sk_by 23) 1715 = .ok (.aload_n 0, 1) := by decide +kernel
theorem x_L_law_1715 {st : List Value} {l1 : Nat} {l2 : Nat} {l3 : Nat} {l4 : Int32} {l5 : Value} {l6 : Value} {x : Nat} {I : MI} {J : MJ} {R : MR} {S : Sh} {Q : SkQ} : Wp 23 1715 [.ref x, .ref l1, .ref l2, .ref l3, .int l4, l5, l6, nov] st I J R S Q = Wp 23 1716 [.ref x, .ref l1, .ref l2, .ref l3, .int l4, l5, l6, nov] (.ref x :: st) I J R S Q := o_aload_n rfl k_L_law_1715
theorem k_L_law_1716 : decode (sk_by 23) 1716 = .ok (.iload 4, 2) := by decide +kernel
theorem x_L_law_1716 {st : List Value} {l0 : Nat} {l1 : Nat} {l2 : Nat} {l3 : Nat} {l5 : Value} {l6 : Value} {x : Int32} {I : MI} {J : MJ} {R : MR} {S : Sh} {Q : SkQ} : Wp 23 1716 [.ref l0, .ref l1, .ref l2, .ref l3, .int x, l5, l6, nov] st I J R S Q = Wp 23 1718 [.ref l0, .ref l1, .ref l2, .ref l3, .int x, l5, l6, nov] (.int x :: st) I J R S Q := o_iload rfl k_L_law_1716
theorem k_L_law_1718 : decode (sk_by 23) 1718 = .ok (.iconst 4, 1) := by decide +kernel
theorem x_L_law_1718 {ls st : List Value} {I : MI} {J : MJ} {R : MR} {S : Sh} {Q : SkQ} : Wp 23 1718 ls st I J R S Q = Wp 23 1719 ls (.int 4 :: st) I J R S Q := o_const (by decide) k_L_law_1718
theorem k_L_law_1719 : decode (sk_by 23) 1719 = .ok (.iadd, 1) := by decide +kernel
theorem x_L_law_1719 {ls st : List Value} {x y : Int32} {I : MI} {J : MJ} {R : MR} {S : Sh} {Q : SkQ} : Wp 23 1719 ls (.int y :: .int x :: st) I J R S Q = Wp 23 1720 ls (.int (x + y) :: st) I J R S Q := o_iadd k_L_law_1719
theorem k_L_law_1720 : decode (sk_by 23) 1720 = .ok (.iaload, 1) := by decide +kernel
theorem x_L_law_1720 {ls st : List Value} {a : Nat} {i : Int32} {I : MI} {J : MJ} {R : MR} {S : Sh} {Q : SkQ} (ha : S.1 a = 30) (hi : inb i (S.2.1 a) = true) : Wp 23 1720 ls (.int i :: .ref a :: st) I J R S Q = Wp 23 1721 ls (.int (I a (ix i)) :: st) I J R S Q := o_iaload k_L_law_1720 ha hi
theorem x_L_law_1720C {ls st : List Value} {a : Nat} {i : Int32} {I : MI} {J : MJ} {R : MR} {S : Sh} {Q : SkQ} (ha : S.1 a = 40) (hi : inb i (S.2.1 a) = true) : Wp 23 1720 ls (.int i :: .ref a :: st) I J R S Q = Wp 23 1721 ls (.int (I a (ix i)) :: st) I J R S Q := o_ialoadC k_L_law_1720 ha hi
theorem k_L_law_1721 : decode (sk_by 23) 1721 = .ok (.i2l, 1) := by decide +kernel
theorem x_L_law_1721 {ls st : List Value} {x : Int32} {I : MI} {J : MJ} {R : MR} {S : Sh} {Q : SkQ} : Wp 23 1721 ls (.int x :: st) I J R S Q = Wp 23 1722 ls (.long x.toInt64 :: st) I J R S Q := o_i2l k_L_law_1721
theorem k_L_law_1722 : decode (sk_by 23) 1722 = .ok (.ldc2_w 97, 3) := by decide +kernel
theorem x_L_law_1722 {ls st : List Value} {I : MI} {J : MJ} {R : MR} {S : Sh} {Q : SkQ} : Wp 23 1722 ls st I J R S Q = Wp 23 1725 ls (.long 4294967295 :: st) I J R S Q := o_ldc2_w (show sk_lkK (sk_cl 23) 97 = some 4294967295 by decide +kernel) k_L_law_1722
theorem k_L_law_1725 : decode (sk_by 23) 1725 = .ok (.land, 1) := by decide +kernel
theorem x_L_law_1725 {ls st : List Value} {x y : Int64} {I : MI} {J : MJ} {R : MR} {S : Sh} {Q : SkQ} : Wp 23 1725 ls (.long y :: .long x :: st) I J R S Q = Wp 23 1726 ls (.long (x &&& y) :: st) I J R S Q := o_land k_L_law_1725
theorem k_L_law_1726 : decode (sk_by 23) 1726 = .ok (.lor, 1) := by decide +kernel
theorem x_L_law_1726 {ls st : List Value} {x y : Int64} {I : MI} {J : MJ} {R : MR} {S : Sh} {Q : SkQ} : Wp 23 1726 ls (.long y :: .long x :: st) I J R S Q = Wp 23 1727 ls (.long (x ||| y) :: st) I J R S Q := o_lor k_L_law_1726
theorem k_L_law_1727 : decode (sk_by 23) 1727 = .ok (.aload_n 3, 1) := by decide +kernel
theorem x_L_law_1727 {st : List Value} {l0 : Nat} {l1 : Nat} {l2 : Nat} {l4 : Int32} {l5 : Value} {l6 : Value} {x : Nat} {I : MI} {J : MJ} {R : MR} {S : Sh} {Q : SkQ} : Wp 23 1727 [.ref l0, .ref l1, .ref l2, .ref x, .int l4, l5, l6, nov] st I J R S Q = Wp 23 1728 [.ref l0, .ref l1, .ref l2, .ref x, .int l4, l5, l6, nov] (.ref x :: st) I J R S Q := o_aload_n rfl k_L_law_1727
theorem k_L_law_1728 : decode (sk_by 23) 1728 = .ok (.invokestatic 165, 3) := by decide +kernel
theorem x_L_law_1728 {ls : List Value} {a0 : Nat} {a1 : Int64} {a2 : Int64} {a3 : Nat} {I : MI} {J : MJ} {R : MR} {S : Sh} {Q : SkQ} : Wp 23 1728 ls (.ref a3 :: .long a2 :: .long a1 :: .ref a0 :: []) I J R S Q = Wp 18 0 [.ref a0, .long a1, nov, .long a2, nov, .ref a3, nov] [] I J R S (Ret 23 1728 1731 18 ls [] Q) := o_call (as := [.ref a0, .long a1, .long a2, .ref a3]) (rest := []) (show sk_lkM (sk_cl 23) 165 = some 18 by decide +kernel) (by decide) (by decide) (by (decide +kernel)) (ins := .invokestatic 165) (by (decide +kernel)) k_L_law_1728 rfl (show 4 = sk_na 18 by (decide +kernel)) (Nat.le_of_ble_eq_true rfl) (Nat.le_trans (show (argL [.ref a0, .long a1, .long a2, .ref a3]).length ≤ 7 from Nat.le_of_ble_eq_true rfl) (by (decide +kernel))) rfl
theorem k_L_law_1731 : decode (sk_by 23) 1731 = .ok (.istore 5, 2) := by decide +kernel
theorem x_L_law_1731 {st : List Value} {l0 : Nat} {l1 : Nat} {l2 : Nat} {l3 : Nat} {l4 : Int32} {l5 : Value} {l6 : Value} {x : Int32} {I : MI} {J : MJ} {R : MR} {S : Sh} {Q : SkQ} : Wp 23 1731 [.ref l0, .ref l1, .ref l2, .ref l3, .int l4, l5, l6, nov] (.int x :: st) I J R S Q = Wp 23 1733 [.ref l0, .ref l1, .ref l2, .ref l3, .int l4, .int x, l6, nov] st I J R S Q := o_istore (Nat.le_of_ble_eq_true rfl) rfl k_L_law_1731
theorem k_L_law_1733 : decode (sk_by 23) 1733 = .ok (.aload_n 2, 1) := by decide +kernel
theorem x_L_law_1733 {st : List Value} {l0 : Nat} {l1 : Nat} {l3 : Nat} {l4 : Int32} {l5 : Int32} {l6 : Value} {x : Nat} {I : MI} {J : MJ} {R : MR} {S : Sh} {Q : SkQ} : Wp 23 1733 [.ref l0, .ref l1, .ref x, .ref l3, .int l4, .int l5, l6, nov] st I J R S Q = Wp 23 1734 [.ref l0, .ref l1, .ref x, .ref l3, .int l4, .int l5, l6, nov] (.ref x :: st) I J R S Q := o_aload_n rfl k_L_law_1733
theorem k_L_law_1734 : decode (sk_by 23) 1734 = .ok (.aload_n 0, 1) := by decide +kernel
theorem x_L_law_1734 {st : List Value} {l1 : Nat} {l2 : Nat} {l3 : Nat} {l4 : Int32} {l5 : Int32} {l6 : Value} {x : Nat} {I : MI} {J : MJ} {R : MR} {S : Sh} {Q : SkQ} : Wp 23 1734 [.ref x, .ref l1, .ref l2, .ref l3, .int l4, .int l5, l6, nov] st I J R S Q = Wp 23 1735 [.ref x, .ref l1, .ref l2, .ref l3, .int l4, .int l5, l6, nov] (.ref x :: st) I J R S Q := o_aload_n rfl k_L_law_1734
theorem k_L_law_1735 : decode (sk_by 23) 1735 = .ok (.iload 4, 2) := by decide +kernel
theorem x_L_law_1735 {st : List Value} {l0 : Nat} {l1 : Nat} {l2 : Nat} {l3 : Nat} {l5 : Int32} {l6 : Value} {x : Int32} {I : MI} {J : MJ} {R : MR} {S : Sh} {Q : SkQ} : Wp 23 1735 [.ref l0, .ref l1, .ref l2, .ref l3, .int x, .int l5, l6, nov] st I J R S Q = Wp 23 1737 [.ref l0, .ref l1, .ref l2, .ref l3, .int x, .int l5, l6, nov] (.int x :: st) I J R S Q := o_iload rfl k_L_law_1735
theorem k_L_law_1737 : decode (sk_by 23) 1737 = .ok (.iconst 1, 1) := by decide +kernel
theorem x_L_law_1737 {ls st : List Value} {I : MI} {J : MJ} {R : MR} {S : Sh} {Q : SkQ} : Wp 23 1737 ls st I J R S Q = Wp 23 1738 ls (.int 1 :: st) I J R S Q := o_const (by decide) k_L_law_1737
theorem k_L_law_1738 : decode (sk_by 23) 1738 = .ok (.iadd, 1) := by decide +kernel
theorem x_L_law_1738 {ls st : List Value} {x y : Int32} {I : MI} {J : MJ} {R : MR} {S : Sh} {Q : SkQ} : Wp 23 1738 ls (.int y :: .int x :: st) I J R S Q = Wp 23 1739 ls (.int (x + y) :: st) I J R S Q := o_iadd k_L_law_1738
theorem k_L_law_1739 : decode (sk_by 23) 1739 = .ok (.iaload, 1) := by decide +kernel
theorem x_L_law_1739 {ls st : List Value} {a : Nat} {i : Int32} {I : MI} {J : MJ} {R : MR} {S : Sh} {Q : SkQ} (ha : S.1 a = 30) (hi : inb i (S.2.1 a) = true) : Wp 23 1739 ls (.int i :: .ref a :: st) I J R S Q = Wp 23 1740 ls (.int (I a (ix i)) :: st) I J R S Q := o_iaload k_L_law_1739 ha hi
theorem x_L_law_1739C {ls st : List Value} {a : Nat} {i : Int32} {I : MI} {J : MJ} {R : MR} {S : Sh} {Q : SkQ} (ha : S.1 a = 40) (hi : inb i (S.2.1 a) = true) : Wp 23 1739 ls (.int i :: .ref a :: st) I J R S Q = Wp 23 1740 ls (.int (I a (ix i)) :: st) I J R S Q := o_ialoadC k_L_law_1739 ha hi
theorem k_L_law_1740 : decode (sk_by 23) 1740 = .ok (.i2l, 1) := by decide +kernel
theorem x_L_law_1740 {ls st : List Value} {x : Int32} {I : MI} {J : MJ} {R : MR} {S : Sh} {Q : SkQ} : Wp 23 1740 ls (.int x :: st) I J R S Q = Wp 23 1741 ls (.long x.toInt64 :: st) I J R S Q := o_i2l k_L_law_1740
theorem k_L_law_1741 : decode (sk_by 23) 1741 = .ok (.bipush 32, 2) := by decide +kernel
theorem x_L_law_1741 {ls st : List Value} {I : MI} {J : MJ} {R : MR} {S : Sh} {Q : SkQ} : Wp 23 1741 ls st I J R S Q = Wp 23 1743 ls (.int 32 :: st) I J R S Q := o_bi (by decide) k_L_law_1741
theorem k_L_law_1743 : decode (sk_by 23) 1743 = .ok (.lshl, 1) := by decide +kernel
theorem x_L_law_1743 {ls st : List Value} {x : Int64} {y : Int32} {I : MI} {J : MJ} {R : MR} {S : Sh} {Q : SkQ} : Wp 23 1743 ls (.int y :: .long x :: st) I J R S Q = Wp 23 1744 ls (.long (x <<< (y.toInt64 &&& 63)) :: st) I J R S Q := o_lshl k_L_law_1743
theorem k_L_law_1744 : decode (sk_by 23) 1744 = .ok (.aload_n 0, 1) := by decide +kernel
theorem x_L_law_1744 {st : List Value} {l1 : Nat} {l2 : Nat} {l3 : Nat} {l4 : Int32} {l5 : Int32} {l6 : Value} {x : Nat} {I : MI} {J : MJ} {R : MR} {S : Sh} {Q : SkQ} : Wp 23 1744 [.ref x, .ref l1, .ref l2, .ref l3, .int l4, .int l5, l6, nov] st I J R S Q = Wp 23 1745 [.ref x, .ref l1, .ref l2, .ref l3, .int l4, .int l5, l6, nov] (.ref x :: st) I J R S Q := o_aload_n rfl k_L_law_1744
theorem k_L_law_1745 : decode (sk_by 23) 1745 = .ok (.iload 4, 2) := by decide +kernel
theorem x_L_law_1745 {st : List Value} {l0 : Nat} {l1 : Nat} {l2 : Nat} {l3 : Nat} {l5 : Int32} {l6 : Value} {x : Int32} {I : MI} {J : MJ} {R : MR} {S : Sh} {Q : SkQ} : Wp 23 1745 [.ref l0, .ref l1, .ref l2, .ref l3, .int x, .int l5, l6, nov] st I J R S Q = Wp 23 1747 [.ref l0, .ref l1, .ref l2, .ref l3, .int x, .int l5, l6, nov] (.int x :: st) I J R S Q := o_iload rfl k_L_law_1745
theorem k_L_law_1747 : decode (sk_by 23) 1747 = .ok (.iconst 2, 1) := by decide +kernel
theorem x_L_law_1747 {ls st : List Value} {I : MI} {J : MJ} {R : MR} {S : Sh} {Q : SkQ} : Wp 23 1747 ls st I J R S Q = Wp 23 1748 ls (.int 2 :: st) I J R S Q := o_const (by decide) k_L_law_1747
theorem k_L_law_1748 : decode (sk_by 23) 1748 = .ok (.iadd, 1) := by decide +kernel
theorem x_L_law_1748 {ls st : List Value} {x y : Int32} {I : MI} {J : MJ} {R : MR} {S : Sh} {Q : SkQ} : Wp 23 1748 ls (.int y :: .int x :: st) I J R S Q = Wp 23 1749 ls (.int (x + y) :: st) I J R S Q := o_iadd k_L_law_1748
theorem k_L_law_1749 : decode (sk_by 23) 1749 = .ok (.iaload, 1) := by decide +kernel
theorem x_L_law_1749 {ls st : List Value} {a : Nat} {i : Int32} {I : MI} {J : MJ} {R : MR} {S : Sh} {Q : SkQ} (ha : S.1 a = 30) (hi : inb i (S.2.1 a) = true) : Wp 23 1749 ls (.int i :: .ref a :: st) I J R S Q = Wp 23 1750 ls (.int (I a (ix i)) :: st) I J R S Q := o_iaload k_L_law_1749 ha hi
theorem x_L_law_1749C {ls st : List Value} {a : Nat} {i : Int32} {I : MI} {J : MJ} {R : MR} {S : Sh} {Q : SkQ} (ha : S.1 a = 40) (hi : inb i (S.2.1 a) = true) : Wp 23 1749 ls (.int i :: .ref a :: st) I J R S Q = Wp 23 1750 ls (.int (I a (ix i)) :: st) I J R S Q := o_ialoadC k_L_law_1749 ha hi
theorem k_L_law_1750 : decode (sk_by 23) 1750 = .ok (.i2l, 1) := by decide +kernel
theorem x_L_law_1750 {ls st : List Value} {x : Int32} {I : MI} {J : MJ} {R : MR} {S : Sh} {Q : SkQ} : Wp 23 1750 ls (.int x :: st) I J R S Q = Wp 23 1751 ls (.long x.toInt64 :: st) I J R S Q := o_i2l k_L_law_1750
theorem k_L_law_1751 : decode (sk_by 23) 1751 = .ok (.ldc2_w 97, 3) := by decide +kernel
theorem x_L_law_1751 {ls st : List Value} {I : MI} {J : MJ} {R : MR} {S : Sh} {Q : SkQ} : Wp 23 1751 ls st I J R S Q = Wp 23 1754 ls (.long 4294967295 :: st) I J R S Q := o_ldc2_w (show sk_lkK (sk_cl 23) 97 = some 4294967295 by decide +kernel) k_L_law_1751
theorem k_L_law_1754 : decode (sk_by 23) 1754 = .ok (.land, 1) := by decide +kernel
theorem x_L_law_1754 {ls st : List Value} {x y : Int64} {I : MI} {J : MJ} {R : MR} {S : Sh} {Q : SkQ} : Wp 23 1754 ls (.long y :: .long x :: st) I J R S Q = Wp 23 1755 ls (.long (x &&& y) :: st) I J R S Q := o_land k_L_law_1754
theorem k_L_law_1755 : decode (sk_by 23) 1755 = .ok (.lor, 1) := by decide +kernel
theorem x_L_law_1755 {ls st : List Value} {x y : Int64} {I : MI} {J : MJ} {R : MR} {S : Sh} {Q : SkQ} : Wp 23 1755 ls (.long y :: .long x :: st) I J R S Q = Wp 23 1756 ls (.long (x ||| y) :: st) I J R S Q := o_lor k_L_law_1755
theorem k_L_law_1756 : decode (sk_by 23) 1756 = .ok (.aload_n 0, 1) := by decide +kernel
theorem x_L_law_1756 {st : List Value} {l1 : Nat} {l2 : Nat} {l3 : Nat} {l4 : Int32} {l5 : Int32} {l6 : Value} {x : Nat} {I : MI} {J : MJ} {R : MR} {S : Sh} {Q : SkQ} : Wp 23 1756 [.ref x, .ref l1, .ref l2, .ref l3, .int l4, .int l5, l6, nov] st I J R S Q = Wp 23 1757 [.ref x, .ref l1, .ref l2, .ref l3, .int l4, .int l5, l6, nov] (.ref x :: st) I J R S Q := o_aload_n rfl k_L_law_1756
theorem k_L_law_1757 : decode (sk_by 23) 1757 = .ok (.iload 4, 2) := by decide +kernel
theorem x_L_law_1757 {st : List Value} {l0 : Nat} {l1 : Nat} {l2 : Nat} {l3 : Nat} {l5 : Int32} {l6 : Value} {x : Int32} {I : MI} {J : MJ} {R : MR} {S : Sh} {Q : SkQ} : Wp 23 1757 [.ref l0, .ref l1, .ref l2, .ref l3, .int x, .int l5, l6, nov] st I J R S Q = Wp 23 1759 [.ref l0, .ref l1, .ref l2, .ref l3, .int x, .int l5, l6, nov] (.int x :: st) I J R S Q := o_iload rfl k_L_law_1757
theorem k_L_law_1759 : decode (sk_by 23) 1759 = .ok (.iconst 3, 1) := by decide +kernel
theorem x_L_law_1759 {ls st : List Value} {I : MI} {J : MJ} {R : MR} {S : Sh} {Q : SkQ} : Wp 23 1759 ls st I J R S Q = Wp 23 1760 ls (.int 3 :: st) I J R S Q := o_const (by decide) k_L_law_1759
theorem k_L_law_1760 : decode (sk_by 23) 1760 = .ok (.iadd, 1) := by decide +kernel
theorem x_L_law_1760 {ls st : List Value} {x y : Int32} {I : MI} {J : MJ} {R : MR} {S : Sh} {Q : SkQ} : Wp 23 1760 ls (.int y :: .int x :: st) I J R S Q = Wp 23 1761 ls (.int (x + y) :: st) I J R S Q := o_iadd k_L_law_1760
theorem k_L_law_1761 : decode (sk_by 23) 1761 = .ok (.iaload, 1) := by decide +kernel
theorem x_L_law_1761 {ls st : List Value} {a : Nat} {i : Int32} {I : MI} {J : MJ} {R : MR} {S : Sh} {Q : SkQ} (ha : S.1 a = 30) (hi : inb i (S.2.1 a) = true) : Wp 23 1761 ls (.int i :: .ref a :: st) I J R S Q = Wp 23 1762 ls (.int (I a (ix i)) :: st) I J R S Q := o_iaload k_L_law_1761 ha hi
theorem x_L_law_1761C {ls st : List Value} {a : Nat} {i : Int32} {I : MI} {J : MJ} {R : MR} {S : Sh} {Q : SkQ} (ha : S.1 a = 40) (hi : inb i (S.2.1 a) = true) : Wp 23 1761 ls (.int i :: .ref a :: st) I J R S Q = Wp 23 1762 ls (.int (I a (ix i)) :: st) I J R S Q := o_ialoadC k_L_law_1761 ha hi
theorem k_L_law_1762 : decode (sk_by 23) 1762 = .ok (.i2l, 1) := by decide +kernel
theorem x_L_law_1762 {ls st : List Value} {x : Int32} {I : MI} {J : MJ} {R : MR} {S : Sh} {Q : SkQ} : Wp 23 1762 ls (.int x :: st) I J R S Q = Wp 23 1763 ls (.long x.toInt64 :: st) I J R S Q := o_i2l k_L_law_1762
theorem k_L_law_1763 : decode (sk_by 23) 1763 = .ok (.bipush 32, 2) := by decide +kernel
theorem x_L_law_1763 {ls st : List Value} {I : MI} {J : MJ} {R : MR} {S : Sh} {Q : SkQ} : Wp 23 1763 ls st I J R S Q = Wp 23 1765 ls (.int 32 :: st) I J R S Q := o_bi (by decide) k_L_law_1763
theorem k_L_law_1765 : decode (sk_by 23) 1765 = .ok (.lshl, 1) := by decide +kernel
theorem x_L_law_1765 {ls st : List Value} {x : Int64} {y : Int32} {I : MI} {J : MJ} {R : MR} {S : Sh} {Q : SkQ} : Wp 23 1765 ls (.int y :: .long x :: st) I J R S Q = Wp 23 1766 ls (.long (x <<< (y.toInt64 &&& 63)) :: st) I J R S Q := o_lshl k_L_law_1765
theorem k_L_law_1766 : decode (sk_by 23) 1766 = .ok (.aload_n 0, 1) := by decide +kernel
theorem x_L_law_1766 {st : List Value} {l1 : Nat} {l2 : Nat} {l3 : Nat} {l4 : Int32} {l5 : Int32} {l6 : Value} {x : Nat} {I : MI} {J : MJ} {R : MR} {S : Sh} {Q : SkQ} : Wp 23 1766 [.ref x, .ref l1, .ref l2, .ref l3, .int l4, .int l5, l6, nov] st I J R S Q = Wp 23 1767 [.ref x, .ref l1, .ref l2, .ref l3, .int l4, .int l5, l6, nov] (.ref x :: st) I J R S Q := o_aload_n rfl k_L_law_1766
theorem k_L_law_1767 : decode (sk_by 23) 1767 = .ok (.iload 4, 2) := by decide +kernel
theorem x_L_law_1767 {st : List Value} {l0 : Nat} {l1 : Nat} {l2 : Nat} {l3 : Nat} {l5 : Int32} {l6 : Value} {x : Int32} {I : MI} {J : MJ} {R : MR} {S : Sh} {Q : SkQ} : Wp 23 1767 [.ref l0, .ref l1, .ref l2, .ref l3, .int x, .int l5, l6, nov] st I J R S Q = Wp 23 1769 [.ref l0, .ref l1, .ref l2, .ref l3, .int x, .int l5, l6, nov] (.int x :: st) I J R S Q := o_iload rfl k_L_law_1767
theorem k_L_law_1769 : decode (sk_by 23) 1769 = .ok (.iconst 4, 1) := by decide +kernel
theorem x_L_law_1769 {ls st : List Value} {I : MI} {J : MJ} {R : MR} {S : Sh} {Q : SkQ} : Wp 23 1769 ls st I J R S Q = Wp 23 1770 ls (.int 4 :: st) I J R S Q := o_const (by decide) k_L_law_1769
theorem k_L_law_1770 : decode (sk_by 23) 1770 = .ok (.iadd, 1) := by decide +kernel
theorem x_L_law_1770 {ls st : List Value} {x y : Int32} {I : MI} {J : MJ} {R : MR} {S : Sh} {Q : SkQ} : Wp 23 1770 ls (.int y :: .int x :: st) I J R S Q = Wp 23 1771 ls (.int (x + y) :: st) I J R S Q := o_iadd k_L_law_1770
theorem k_L_law_1771 : decode (sk_by 23) 1771 = .ok (.iaload, 1) := by decide +kernel
theorem x_L_law_1771 {ls st : List Value} {a : Nat} {i : Int32} {I : MI} {J : MJ} {R : MR} {S : Sh} {Q : SkQ} (ha : S.1 a = 30) (hi : inb i (S.2.1 a) = true) : Wp 23 1771 ls (.int i :: .ref a :: st) I J R S Q = Wp 23 1772 ls (.int (I a (ix i)) :: st) I J R S Q := o_iaload k_L_law_1771 ha hi
theorem x_L_law_1771C {ls st : List Value} {a : Nat} {i : Int32} {I : MI} {J : MJ} {R : MR} {S : Sh} {Q : SkQ} (ha : S.1 a = 40) (hi : inb i (S.2.1 a) = true) : Wp 23 1771 ls (.int i :: .ref a :: st) I J R S Q = Wp 23 1772 ls (.int (I a (ix i)) :: st) I J R S Q := o_ialoadC k_L_law_1771 ha hi
theorem k_L_law_1772 : decode (sk_by 23) 1772 = .ok (.i2l, 1) := by decide +kernel
theorem x_L_law_1772 {ls st : List Value} {x : Int32} {I : MI} {J : MJ} {R : MR} {S : Sh} {Q : SkQ} : Wp 23 1772 ls (.int x :: st) I J R S Q = Wp 23 1773 ls (.long x.toInt64 :: st) I J R S Q := o_i2l k_L_law_1772
theorem k_L_law_1773 : decode (sk_by 23) 1773 = .ok (.ldc2_w 97, 3) := by decide +kernel
theorem x_L_law_1773 {ls st : List Value} {I : MI} {J : MJ} {R : MR} {S : Sh} {Q : SkQ} : Wp 23 1773 ls st I J R S Q = Wp 23 1776 ls (.long 4294967295 :: st) I J R S Q := o_ldc2_w (show sk_lkK (sk_cl 23) 97 = some 4294967295 by decide +kernel) k_L_law_1773
theorem k_L_law_1776 : decode (sk_by 23) 1776 = .ok (.land, 1) := by decide +kernel
theorem x_L_law_1776 {ls st : List Value} {x y : Int64} {I : MI} {J : MJ} {R : MR} {S : Sh} {Q : SkQ} : Wp 23 1776 ls (.long y :: .long x :: st) I J R S Q = Wp 23 1777 ls (.long (x &&& y) :: st) I J R S Q := o_land k_L_law_1776
theorem k_L_law_1777 : decode (sk_by 23) 1777 = .ok (.lor, 1) := by decide +kernel
theorem x_L_law_1777 {ls st : List Value} {x y : Int64} {I : MI} {J : MJ} {R : MR} {S : Sh} {Q : SkQ} : Wp 23 1777 ls (.long y :: .long x :: st) I J R S Q = Wp 23 1778 ls (.long (x ||| y) :: st) I J R S Q := o_lor k_L_law_1777
theorem k_L_law_1778 : decode (sk_by 23) 1778 = .ok (.invokevirtual 167, 3) := by decide +kernel
theorem x_L_law_1778 {ls : List Value} {a0 : Nat} {a1 : Int64} {a2 : Int64} {I : MI} {J : MJ} {R : MR} {S : Sh} {Q : SkQ} (ha : S.1 a0 = 8) : Wp 23 1778 ls (.long a2 :: .long a1 :: .ref a0 :: []) I J R S Q = Wp 232 0 [.ref a0, .long a1, nov, .long a2, nov] [] I J R S (Ret 23 1778 1781 232 ls [] Q) := o_call (as := [.ref a0, .long a1, .long a2]) (rest := []) (show sk_lkM (sk_cl 23) 167 = some 232 by decide +kernel) (by decide) (by decide) (by (decide +kernel)) (ins := .invokevirtual 167) (by (decide +kernel)) k_L_law_1778 rfl (show 3 = sk_na 232 by (decide +kernel)) (Nat.le_of_ble_eq_true rfl) (Nat.le_trans (show (argL [.ref a0, .long a1, .long a2]).length ≤ 5 from Nat.le_of_ble_eq_true rfl) (by (decide +kernel))) (rcv_of (by (decide +kernel)) (by decide) ha)
theorem k_L_law_1781 : decode (sk_by 23) 1781 = .ok (.istore 6, 2) := by decide +kernel
theorem x_L_law_1781 {st : List Value} {l0 : Nat} {l1 : Nat} {l2 : Nat} {l3 : Nat} {l4 : Int32} {l5 : Int32} {l6 : Value} {x : Int32} {I : MI} {J : MJ} {R : MR} {S : Sh} {Q : SkQ} : Wp 23 1781 [.ref l0, .ref l1, .ref l2, .ref l3, .int l4, .int l5, l6, nov] (.int x :: st) I J R S Q = Wp 23 1783 [.ref l0, .ref l1, .ref l2, .ref l3, .int l4, .int l5, .int x, nov] st I J R S Q := o_istore (Nat.le_of_ble_eq_true rfl) rfl k_L_law_1781
theorem k_L_law_1783 : decode (sk_by 23) 1783 = .ok (.aload_n 2, 1) := by decide +kernel
theorem x_L_law_1783 {st : List Value} {l0 : Nat} {l1 : Nat} {l3 : Nat} {l4 : Int32} {l5 : Int32} {l6 : Int32} {x : Nat} {I : MI} {J : MJ} {R : MR} {S : Sh} {Q : SkQ} : Wp 23 1783 [.ref l0, .ref l1, .ref x, .ref l3, .int l4, .int l5, .int l6, nov] st I J R S Q = Wp 23 1784 [.ref l0, .ref l1, .ref x, .ref l3, .int l4, .int l5, .int l6, nov] (.ref x :: st) I J R S Q := o_aload_n rfl k_L_law_1783
theorem k_L_law_1784 : decode (sk_by 23) 1784 = .ok (.invokevirtual 105, 3) := by decide +kernel
theorem x_L_law_1784 {ls : List Value} {a0 : Nat} {I : MI} {J : MJ} {R : MR} {S : Sh} {Q : SkQ} (ha : S.1 a0 = 8) : Wp 23 1784 ls (.ref a0 :: []) I J R S Q = Wp 174 0 [.ref a0] [] I J R S (Ret 23 1784 1787 174 ls [] Q) := o_call (as := [.ref a0]) (rest := []) (show sk_lkM (sk_cl 23) 105 = some 174 by decide +kernel) (by decide) (by decide) (by (decide +kernel)) (ins := .invokevirtual 105) (by (decide +kernel)) k_L_law_1784 rfl (show 1 = sk_na 174 by (decide +kernel)) (Nat.le_of_ble_eq_true rfl) (Nat.le_trans (show (argL [.ref a0]).length ≤ 1 from Nat.le_of_ble_eq_true rfl) (by (decide +kernel))) (rcv_of (by (decide +kernel)) (by decide) ha)
theorem k_L_law_1787 : decode (sk_by 23) 1787 = .ok (.iload 5, 2) := by decide +kernel
theorem x_L_law_1787 {st : List Value} {l0 : Nat} {l1 : Nat} {l2 : Nat} {l3 : Nat} {l4 : Int32} {l6 : Int32} {x : Int32} {I : MI} {J : MJ} {R : MR} {S : Sh} {Q : SkQ} : Wp 23 1787 [.ref l0, .ref l1, .ref l2, .ref l3, .int l4, .int x, .int l6, nov] st I J R S Q = Wp 23 1789 [.ref l0, .ref l1, .ref l2, .ref l3, .int l4, .int x, .int l6, nov] (.int x :: st) I J R S Q := o_iload rfl k_L_law_1787
theorem k_L_law_1789 : decode (sk_by 23) 1789 = .ok (.if_icmp .eq 5, 3) := by decide +kernel
theorem x_L_law_1789 {ls st : List Value} {x y : Int32} {I : MI} {J : MJ} {R : MR} {S : Sh} {Q : SkQ} : Wp 23 1789 ls (.int y :: .int x :: st) I J R S Q = if x = y then Wp 23 1794 ls st I J R S Q else Wp 23 1792 ls st I J R S Q := o_ic_eq rfl rfl k_L_law_1789
theorem k_L_law_1792 : decode (sk_by 23) 1792 = .ok (.iconst 0, 1) := by decide +kernel
theorem x_L_law_1792 {ls st : List Value} {I : MI} {J : MJ} {R : MR} {S : Sh} {Q : SkQ} : Wp 23 1792 ls st I J R S Q = Wp 23 1793 ls (.int 0 :: st) I J R S Q := o_const (by decide) k_L_law_1792
theorem k_L_law_1793 : decode (sk_by 23) 1793 = .ok (.ireturn, 1) := by decide +kernel
theorem x_L_law_1793 {ls : List Value} {v : Int32} {I : MI} {J : MJ} {R : MR} {S : Sh} {Q : SkQ} (h : rOk (some .boolean) v = true) : Wp 23 1793 ls [.int v] I J R S Q = Q 0 (some (.int v)) I J R S := o_ireturn k_L_law_1793 (by rw [show sk_rt 23 = some .boolean from rfl]; exact h)
theorem k_L_law_1794 : decode (sk_by 23) 1794 = .ok (.iload 5, 2) := by decide +kernel
theorem x_L_law_1794 {st : List Value} {l0 : Nat} {l1 : Nat} {l2 : Nat} {l3 : Nat} {l4 : Int32} {l6 : Int32} {x : Int32} {I : MI} {J : MJ} {R : MR} {S : Sh} {Q : SkQ} : Wp 23 1794 [.ref l0, .ref l1, .ref l2, .ref l3, .int l4, .int x, .int l6, nov] st I J R S Q = Wp 23 1796 [.ref l0, .ref l1, .ref l2, .ref l3, .int l4, .int x, .int l6, nov] (.int x :: st) I J R S Q := o_iload rfl k_L_law_1794
theorem k_L_law_1796 : decode (sk_by 23) 1796 = .ok (.ifCond .ne 15, 3) := by decide +kernel
theorem x_L_law_1796 {ls st : List Value} {x : Int32} {I : MI} {J : MJ} {R : MR} {S : Sh} {Q : SkQ} : Wp 23 1796 ls (.int x :: st) I J R S Q = if x = 0 then Wp 23 1799 ls st I J R S Q else Wp 23 1811 ls st I J R S Q := o_if_ne rfl rfl k_L_law_1796
theorem k_L_law_1799 : decode (sk_by 23) 1799 = .ok (.aload_n 3, 1) := by decide +kernel
theorem x_L_law_1799 {st : List Value} {l0 : Nat} {l1 : Nat} {l2 : Nat} {l4 : Int32} {l5 : Int32} {l6 : Int32} {x : Nat} {I : MI} {J : MJ} {R : MR} {S : Sh} {Q : SkQ} : Wp 23 1799 [.ref l0, .ref l1, .ref l2, .ref x, .int l4, .int l5, .int l6, nov] st I J R S Q = Wp 23 1800 [.ref l0, .ref l1, .ref l2, .ref x, .int l4, .int l5, .int l6, nov] (.ref x :: st) I J R S Q := o_aload_n rfl k_L_law_1799
theorem k_L_law_1800 : decode (sk_by 23) 1800 = .ok (.iconst 0, 1) := by decide +kernel
theorem x_L_law_1800 {ls st : List Value} {I : MI} {J : MJ} {R : MR} {S : Sh} {Q : SkQ} : Wp 23 1800 ls st I J R S Q = Wp 23 1801 ls (.int 0 :: st) I J R S Q := o_const (by decide) k_L_law_1800
theorem k_L_law_1801 : decode (sk_by 23) 1801 = .ok (.laload, 1) := by decide +kernel
theorem x_L_law_1801 {ls st : List Value} {a : Nat} {i : Int32} {I : MI} {J : MJ} {R : MR} {S : Sh} {Q : SkQ} (ha : S.1 a = 31) (hi : inb i (S.2.1 a) = true) : Wp 23 1801 ls (.int i :: .ref a :: st) I J R S Q = Wp 23 1802 ls (.long (J a (ix i)) :: st) I J R S Q := o_laload k_L_law_1801 ha hi
theorem k_L_law_1802 : decode (sk_by 23) 1802 = .ok (.iload 6, 2) := by decide +kernel
theorem x_L_law_1802 {st : List Value} {l0 : Nat} {l1 : Nat} {l2 : Nat} {l3 : Nat} {l4 : Int32} {l5 : Int32} {x : Int32} {I : MI} {J : MJ} {R : MR} {S : Sh} {Q : SkQ} : Wp 23 1802 [.ref l0, .ref l1, .ref l2, .ref l3, .int l4, .int l5, .int x, nov] st I J R S Q = Wp 23 1804 [.ref l0, .ref l1, .ref l2, .ref l3, .int l4, .int l5, .int x, nov] (.int x :: st) I J R S Q := o_iload rfl k_L_law_1802
theorem k_L_law_1804 : decode (sk_by 23) 1804 = .ok (.i2l, 1) := by decide +kernel
theorem x_L_law_1804 {ls st : List Value} {x : Int32} {I : MI} {J : MJ} {R : MR} {S : Sh} {Q : SkQ} : Wp 23 1804 ls (.int x :: st) I J R S Q = Wp 23 1805 ls (.long x.toInt64 :: st) I J R S Q := o_i2l k_L_law_1804
theorem k_L_law_1805 : decode (sk_by 23) 1805 = .ok (.lcmp, 1) := by decide +kernel
theorem x_L_law_1805 {ls st : List Value} {x y : Int64} {I : MI} {J : MJ} {R : MR} {S : Sh} {Q : SkQ} : Wp 23 1805 ls (.long y :: .long x :: st) I J R S Q = Wp 23 1806 ls (.int (lg_cmp x y) :: st) I J R S Q := o_lcmp k_L_law_1805
theorem k_L_law_1806 : decode (sk_by 23) 1806 = .ok (.ifCond .eq 5, 3) := by decide +kernel
theorem x_L_law_1806 {ls st : List Value} {x : Int32} {I : MI} {J : MJ} {R : MR} {S : Sh} {Q : SkQ} : Wp 23 1806 ls (.int x :: st) I J R S Q = if x = 0 then Wp 23 1811 ls st I J R S Q else Wp 23 1809 ls st I J R S Q := o_if_eq rfl rfl k_L_law_1806
theorem k_L_law_1809 : decode (sk_by 23) 1809 = .ok (.iconst 0, 1) := by decide +kernel
theorem x_L_law_1809 {ls st : List Value} {I : MI} {J : MJ} {R : MR} {S : Sh} {Q : SkQ} : Wp 23 1809 ls st I J R S Q = Wp 23 1810 ls (.int 0 :: st) I J R S Q := o_const (by decide) k_L_law_1809
theorem k_L_law_1810 : decode (sk_by 23) 1810 = .ok (.ireturn, 1) := by decide +kernel
theorem x_L_law_1810 {ls : List Value} {v : Int32} {I : MI} {J : MJ} {R : MR} {S : Sh} {Q : SkQ} (h : rOk (some .boolean) v = true) : Wp 23 1810 ls [.int v] I J R S Q = Q 0 (some (.int v)) I J R S := o_ireturn k_L_law_1810 (by rw [show sk_rt 23 = some .boolean from rfl]; exact h)
theorem k_L_law_1811 : decode (sk_by 23) 1811 = .ok (.goto 377, 3) := by decide +kernel
theorem x_L_law_1811 {ls st : List Value} {I : MI} {J : MJ} {R : MR} {S : Sh} {Q : SkQ} : Wp 23 1811 ls st I J R S Q = Wp 23 2188 ls st I J R S Q := o_goto rfl rfl k_L_law_1811
theorem k_L_law_1814 : decode (sk_by 23) 1814 = .ok (.aload_n 1, 1) := by decide +kernel
theorem x_L_law_1814 {st : List Value} {l0 : Nat} {l2 : Nat} {l3 : Nat} {l4 : Int32} {l5 : Value} {l6 : Value} {x : Nat} {I : MI} {J : MJ} {R : MR} {S : Sh} {Q : SkQ} : Wp 23 1814 [.ref l0, .ref x, .ref l2, .ref l3, .int l4, l5, l6, nov] st I J R S Q = Wp 23 1815 [.ref l0, .ref x, .ref l2, .ref l3, .int l4, l5, l6, nov] (.ref x :: st) I J R S Q := o_aload_n rfl k_L_law_1814
theorem k_L_law_1815 : decode (sk_by 23) 1815 = .ok (.aload_n 0, 1) := by decide +kernel
theorem x_L_law_1815 {st : List Value} {l1 : Nat} {l2 : Nat} {l3 : Nat} {l4 : Int32} {l5 : Value} {l6 : Value} {x : Nat} {I : MI} {J : MJ} {R : MR} {S : Sh} {Q : SkQ} : Wp 23 1815 [.ref x, .ref l1, .ref l2, .ref l3, .int l4, l5, l6, nov] st I J R S Q = Wp 23 1816 [.ref x, .ref l1, .ref l2, .ref l3, .int l4, l5, l6, nov] (.ref x :: st) I J R S Q := o_aload_n rfl k_L_law_1815
theorem k_L_law_1816 : decode (sk_by 23) 1816 = .ok (.iload 4, 2) := by decide +kernel
theorem x_L_law_1816 {st : List Value} {l0 : Nat} {l1 : Nat} {l2 : Nat} {l3 : Nat} {l5 : Value} {l6 : Value} {x : Int32} {I : MI} {J : MJ} {R : MR} {S : Sh} {Q : SkQ} : Wp 23 1816 [.ref l0, .ref l1, .ref l2, .ref l3, .int x, l5, l6, nov] st I J R S Q = Wp 23 1818 [.ref l0, .ref l1, .ref l2, .ref l3, .int x, l5, l6, nov] (.int x :: st) I J R S Q := o_iload rfl k_L_law_1816
theorem k_L_law_1818 : decode (sk_by 23) 1818 = .ok (.iconst 1, 1) := by decide +kernel
theorem x_L_law_1818 {ls st : List Value} {I : MI} {J : MJ} {R : MR} {S : Sh} {Q : SkQ} : Wp 23 1818 ls st I J R S Q = Wp 23 1819 ls (.int 1 :: st) I J R S Q := o_const (by decide) k_L_law_1818
theorem k_L_law_1819 : decode (sk_by 23) 1819 = .ok (.iadd, 1) := by decide +kernel
theorem x_L_law_1819 {ls st : List Value} {x y : Int32} {I : MI} {J : MJ} {R : MR} {S : Sh} {Q : SkQ} : Wp 23 1819 ls (.int y :: .int x :: st) I J R S Q = Wp 23 1820 ls (.int (x + y) :: st) I J R S Q := o_iadd k_L_law_1819
theorem k_L_law_1820 : decode (sk_by 23) 1820 = .ok (.iaload, 1) := by decide +kernel
theorem x_L_law_1820 {ls st : List Value} {a : Nat} {i : Int32} {I : MI} {J : MJ} {R : MR} {S : Sh} {Q : SkQ} (ha : S.1 a = 30) (hi : inb i (S.2.1 a) = true) : Wp 23 1820 ls (.int i :: .ref a :: st) I J R S Q = Wp 23 1821 ls (.int (I a (ix i)) :: st) I J R S Q := o_iaload k_L_law_1820 ha hi
theorem x_L_law_1820C {ls st : List Value} {a : Nat} {i : Int32} {I : MI} {J : MJ} {R : MR} {S : Sh} {Q : SkQ} (ha : S.1 a = 40) (hi : inb i (S.2.1 a) = true) : Wp 23 1820 ls (.int i :: .ref a :: st) I J R S Q = Wp 23 1821 ls (.int (I a (ix i)) :: st) I J R S Q := o_ialoadC k_L_law_1820 ha hi
theorem k_L_law_1821 : decode (sk_by 23) 1821 = .ok (.i2l, 1) := by decide +kernel
theorem x_L_law_1821 {ls st : List Value} {x : Int32} {I : MI} {J : MJ} {R : MR} {S : Sh} {Q : SkQ} : Wp 23 1821 ls (.int x :: st) I J R S Q = Wp 23 1822 ls (.long x.toInt64 :: st) I J R S Q := o_i2l k_L_law_1821
theorem k_L_law_1822 : decode (sk_by 23) 1822 = .ok (.bipush 32, 2) := by decide +kernel
theorem x_L_law_1822 {ls st : List Value} {I : MI} {J : MJ} {R : MR} {S : Sh} {Q : SkQ} : Wp 23 1822 ls st I J R S Q = Wp 23 1824 ls (.int 32 :: st) I J R S Q := o_bi (by decide) k_L_law_1822
theorem k_L_law_1824 : decode (sk_by 23) 1824 = .ok (.lshl, 1) := by decide +kernel
theorem x_L_law_1824 {ls st : List Value} {x : Int64} {y : Int32} {I : MI} {J : MJ} {R : MR} {S : Sh} {Q : SkQ} : Wp 23 1824 ls (.int y :: .long x :: st) I J R S Q = Wp 23 1825 ls (.long (x <<< (y.toInt64 &&& 63)) :: st) I J R S Q := o_lshl k_L_law_1824
theorem k_L_law_1825 : decode (sk_by 23) 1825 = .ok (.aload_n 0, 1) := by decide +kernel
theorem x_L_law_1825 {st : List Value} {l1 : Nat} {l2 : Nat} {l3 : Nat} {l4 : Int32} {l5 : Value} {l6 : Value} {x : Nat} {I : MI} {J : MJ} {R : MR} {S : Sh} {Q : SkQ} : Wp 23 1825 [.ref x, .ref l1, .ref l2, .ref l3, .int l4, l5, l6, nov] st I J R S Q = Wp 23 1826 [.ref x, .ref l1, .ref l2, .ref l3, .int l4, l5, l6, nov] (.ref x :: st) I J R S Q := o_aload_n rfl k_L_law_1825
theorem k_L_law_1826 : decode (sk_by 23) 1826 = .ok (.iload 4, 2) := by decide +kernel
theorem x_L_law_1826 {st : List Value} {l0 : Nat} {l1 : Nat} {l2 : Nat} {l3 : Nat} {l5 : Value} {l6 : Value} {x : Int32} {I : MI} {J : MJ} {R : MR} {S : Sh} {Q : SkQ} : Wp 23 1826 [.ref l0, .ref l1, .ref l2, .ref l3, .int x, l5, l6, nov] st I J R S Q = Wp 23 1828 [.ref l0, .ref l1, .ref l2, .ref l3, .int x, l5, l6, nov] (.int x :: st) I J R S Q := o_iload rfl k_L_law_1826
theorem k_L_law_1828 : decode (sk_by 23) 1828 = .ok (.iconst 2, 1) := by decide +kernel
theorem x_L_law_1828 {ls st : List Value} {I : MI} {J : MJ} {R : MR} {S : Sh} {Q : SkQ} : Wp 23 1828 ls st I J R S Q = Wp 23 1829 ls (.int 2 :: st) I J R S Q := o_const (by decide) k_L_law_1828
theorem k_L_law_1829 : decode (sk_by 23) 1829 = .ok (.iadd, 1) := by decide +kernel
theorem x_L_law_1829 {ls st : List Value} {x y : Int32} {I : MI} {J : MJ} {R : MR} {S : Sh} {Q : SkQ} : Wp 23 1829 ls (.int y :: .int x :: st) I J R S Q = Wp 23 1830 ls (.int (x + y) :: st) I J R S Q := o_iadd k_L_law_1829
theorem k_L_law_1830 : decode (sk_by 23) 1830 = .ok (.iaload, 1) := by decide +kernel
theorem x_L_law_1830 {ls st : List Value} {a : Nat} {i : Int32} {I : MI} {J : MJ} {R : MR} {S : Sh} {Q : SkQ} (ha : S.1 a = 30) (hi : inb i (S.2.1 a) = true) : Wp 23 1830 ls (.int i :: .ref a :: st) I J R S Q = Wp 23 1831 ls (.int (I a (ix i)) :: st) I J R S Q := o_iaload k_L_law_1830 ha hi
theorem x_L_law_1830C {ls st : List Value} {a : Nat} {i : Int32} {I : MI} {J : MJ} {R : MR} {S : Sh} {Q : SkQ} (ha : S.1 a = 40) (hi : inb i (S.2.1 a) = true) : Wp 23 1830 ls (.int i :: .ref a :: st) I J R S Q = Wp 23 1831 ls (.int (I a (ix i)) :: st) I J R S Q := o_ialoadC k_L_law_1830 ha hi
theorem k_L_law_1831 : decode (sk_by 23) 1831 = .ok (.i2l, 1) := by decide +kernel
theorem x_L_law_1831 {ls st : List Value} {x : Int32} {I : MI} {J : MJ} {R : MR} {S : Sh} {Q : SkQ} : Wp 23 1831 ls (.int x :: st) I J R S Q = Wp 23 1832 ls (.long x.toInt64 :: st) I J R S Q := o_i2l k_L_law_1831
theorem k_L_law_1832 : decode (sk_by 23) 1832 = .ok (.ldc2_w 97, 3) := by decide +kernel
theorem x_L_law_1832 {ls st : List Value} {I : MI} {J : MJ} {R : MR} {S : Sh} {Q : SkQ} : Wp 23 1832 ls st I J R S Q = Wp 23 1835 ls (.long 4294967295 :: st) I J R S Q := o_ldc2_w (show sk_lkK (sk_cl 23) 97 = some 4294967295 by decide +kernel) k_L_law_1832
theorem k_L_law_1835 : decode (sk_by 23) 1835 = .ok (.land, 1) := by decide +kernel
theorem x_L_law_1835 {ls st : List Value} {x y : Int64} {I : MI} {J : MJ} {R : MR} {S : Sh} {Q : SkQ} : Wp 23 1835 ls (.long y :: .long x :: st) I J R S Q = Wp 23 1836 ls (.long (x &&& y) :: st) I J R S Q := o_land k_L_law_1835
theorem k_L_law_1836 : decode (sk_by 23) 1836 = .ok (.lor, 1) := by decide +kernel
theorem x_L_law_1836 {ls st : List Value} {x y : Int64} {I : MI} {J : MJ} {R : MR} {S : Sh} {Q : SkQ} : Wp 23 1836 ls (.long y :: .long x :: st) I J R S Q = Wp 23 1837 ls (.long (x ||| y) :: st) I J R S Q := o_lor k_L_law_1836
theorem k_L_law_1837 : decode (sk_by 23) 1837 = .ok (.aload_n 3, 1) := by decide +kernel
theorem x_L_law_1837 {st : List Value} {l0 : Nat} {l1 : Nat} {l2 : Nat} {l4 : Int32} {l5 : Value} {l6 : Value} {x : Nat} {I : MI} {J : MJ} {R : MR} {S : Sh} {Q : SkQ} : Wp 23 1837 [.ref l0, .ref l1, .ref l2, .ref x, .int l4, l5, l6, nov] st I J R S Q = Wp 23 1838 [.ref l0, .ref l1, .ref l2, .ref x, .int l4, l5, l6, nov] (.ref x :: st) I J R S Q := o_aload_n rfl k_L_law_1837
theorem k_L_law_1838 : decode (sk_by 23) 1838 = .ok (.invokestatic 168, 3) := by decide +kernel
theorem x_L_law_1838 {ls : List Value} {a0 : Nat} {a1 : Int64} {a2 : Nat} {I : MI} {J : MJ} {R : MR} {S : Sh} {Q : SkQ} : Wp 23 1838 ls (.ref a2 :: .long a1 :: .ref a0 :: []) I J R S Q = Wp 19 0 [.ref a0, .long a1, nov, .ref a2, nov] [] I J R S (Ret 23 1838 1841 19 ls [] Q) := o_call (as := [.ref a0, .long a1, .ref a2]) (rest := []) (show sk_lkM (sk_cl 23) 168 = some 19 by decide +kernel) (by decide) (by decide) (by (decide +kernel)) (ins := .invokestatic 168) (by (decide +kernel)) k_L_law_1838 rfl (show 3 = sk_na 19 by (decide +kernel)) (Nat.le_of_ble_eq_true rfl) (Nat.le_trans (show (argL [.ref a0, .long a1, .ref a2]).length ≤ 5 from Nat.le_of_ble_eq_true rfl) (by (decide +kernel))) rfl
theorem k_L_law_1841 : decode (sk_by 23) 1841 = .ok (.istore 5, 2) := by decide +kernel
theorem x_L_law_1841 {st : List Value} {l0 : Nat} {l1 : Nat} {l2 : Nat} {l3 : Nat} {l4 : Int32} {l5 : Value} {l6 : Value} {x : Int32} {I : MI} {J : MJ} {R : MR} {S : Sh} {Q : SkQ} : Wp 23 1841 [.ref l0, .ref l1, .ref l2, .ref l3, .int l4, l5, l6, nov] (.int x :: st) I J R S Q = Wp 23 1843 [.ref l0, .ref l1, .ref l2, .ref l3, .int l4, .int x, l6, nov] st I J R S Q := o_istore (Nat.le_of_ble_eq_true rfl) rfl k_L_law_1841
theorem k_L_law_1843 : decode (sk_by 23) 1843 = .ok (.aload_n 2, 1) := by decide +kernel
theorem x_L_law_1843 {st : List Value} {l0 : Nat} {l1 : Nat} {l3 : Nat} {l4 : Int32} {l5 : Int32} {l6 : Value} {x : Nat} {I : MI} {J : MJ} {R : MR} {S : Sh} {Q : SkQ} : Wp 23 1843 [.ref l0, .ref l1, .ref x, .ref l3, .int l4, .int l5, l6, nov] st I J R S Q = Wp 23 1844 [.ref l0, .ref l1, .ref x, .ref l3, .int l4, .int l5, l6, nov] (.ref x :: st) I J R S Q := o_aload_n rfl k_L_law_1843
theorem k_L_law_1844 : decode (sk_by 23) 1844 = .ok (.aload_n 0, 1) := by decide +kernel
theorem x_L_law_1844 {st : List Value} {l1 : Nat} {l2 : Nat} {l3 : Nat} {l4 : Int32} {l5 : Int32} {l6 : Value} {x : Nat} {I : MI} {J : MJ} {R : MR} {S : Sh} {Q : SkQ} : Wp 23 1844 [.ref x, .ref l1, .ref l2, .ref l3, .int l4, .int l5, l6, nov] st I J R S Q = Wp 23 1845 [.ref x, .ref l1, .ref l2, .ref l3, .int l4, .int l5, l6, nov] (.ref x :: st) I J R S Q := o_aload_n rfl k_L_law_1844
theorem k_L_law_1845 : decode (sk_by 23) 1845 = .ok (.iload 4, 2) := by decide +kernel
theorem x_L_law_1845 {st : List Value} {l0 : Nat} {l1 : Nat} {l2 : Nat} {l3 : Nat} {l5 : Int32} {l6 : Value} {x : Int32} {I : MI} {J : MJ} {R : MR} {S : Sh} {Q : SkQ} : Wp 23 1845 [.ref l0, .ref l1, .ref l2, .ref l3, .int x, .int l5, l6, nov] st I J R S Q = Wp 23 1847 [.ref l0, .ref l1, .ref l2, .ref l3, .int x, .int l5, l6, nov] (.int x :: st) I J R S Q := o_iload rfl k_L_law_1845
theorem k_L_law_1847 : decode (sk_by 23) 1847 = .ok (.iconst 1, 1) := by decide +kernel
theorem x_L_law_1847 {ls st : List Value} {I : MI} {J : MJ} {R : MR} {S : Sh} {Q : SkQ} : Wp 23 1847 ls st I J R S Q = Wp 23 1848 ls (.int 1 :: st) I J R S Q := o_const (by decide) k_L_law_1847
theorem k_L_law_1848 : decode (sk_by 23) 1848 = .ok (.iadd, 1) := by decide +kernel
theorem x_L_law_1848 {ls st : List Value} {x y : Int32} {I : MI} {J : MJ} {R : MR} {S : Sh} {Q : SkQ} : Wp 23 1848 ls (.int y :: .int x :: st) I J R S Q = Wp 23 1849 ls (.int (x + y) :: st) I J R S Q := o_iadd k_L_law_1848
theorem k_L_law_1849 : decode (sk_by 23) 1849 = .ok (.iaload, 1) := by decide +kernel
theorem x_L_law_1849 {ls st : List Value} {a : Nat} {i : Int32} {I : MI} {J : MJ} {R : MR} {S : Sh} {Q : SkQ} (ha : S.1 a = 30) (hi : inb i (S.2.1 a) = true) : Wp 23 1849 ls (.int i :: .ref a :: st) I J R S Q = Wp 23 1850 ls (.int (I a (ix i)) :: st) I J R S Q := o_iaload k_L_law_1849 ha hi
theorem x_L_law_1849C {ls st : List Value} {a : Nat} {i : Int32} {I : MI} {J : MJ} {R : MR} {S : Sh} {Q : SkQ} (ha : S.1 a = 40) (hi : inb i (S.2.1 a) = true) : Wp 23 1849 ls (.int i :: .ref a :: st) I J R S Q = Wp 23 1850 ls (.int (I a (ix i)) :: st) I J R S Q := o_ialoadC k_L_law_1849 ha hi
theorem k_L_law_1850 : decode (sk_by 23) 1850 = .ok (.i2l, 1) := by decide +kernel
theorem x_L_law_1850 {ls st : List Value} {x : Int32} {I : MI} {J : MJ} {R : MR} {S : Sh} {Q : SkQ} : Wp 23 1850 ls (.int x :: st) I J R S Q = Wp 23 1851 ls (.long x.toInt64 :: st) I J R S Q := o_i2l k_L_law_1850
theorem k_L_law_1851 : decode (sk_by 23) 1851 = .ok (.bipush 32, 2) := by decide +kernel
theorem x_L_law_1851 {ls st : List Value} {I : MI} {J : MJ} {R : MR} {S : Sh} {Q : SkQ} : Wp 23 1851 ls st I J R S Q = Wp 23 1853 ls (.int 32 :: st) I J R S Q := o_bi (by decide) k_L_law_1851
theorem k_L_law_1853 : decode (sk_by 23) 1853 = .ok (.lshl, 1) := by decide +kernel
theorem x_L_law_1853 {ls st : List Value} {x : Int64} {y : Int32} {I : MI} {J : MJ} {R : MR} {S : Sh} {Q : SkQ} : Wp 23 1853 ls (.int y :: .long x :: st) I J R S Q = Wp 23 1854 ls (.long (x <<< (y.toInt64 &&& 63)) :: st) I J R S Q := o_lshl k_L_law_1853
theorem k_L_law_1854 : decode (sk_by 23) 1854 = .ok (.aload_n 0, 1) := by decide +kernel
theorem x_L_law_1854 {st : List Value} {l1 : Nat} {l2 : Nat} {l3 : Nat} {l4 : Int32} {l5 : Int32} {l6 : Value} {x : Nat} {I : MI} {J : MJ} {R : MR} {S : Sh} {Q : SkQ} : Wp 23 1854 [.ref x, .ref l1, .ref l2, .ref l3, .int l4, .int l5, l6, nov] st I J R S Q = Wp 23 1855 [.ref x, .ref l1, .ref l2, .ref l3, .int l4, .int l5, l6, nov] (.ref x :: st) I J R S Q := o_aload_n rfl k_L_law_1854
theorem k_L_law_1855 : decode (sk_by 23) 1855 = .ok (.iload 4, 2) := by decide +kernel
theorem x_L_law_1855 {st : List Value} {l0 : Nat} {l1 : Nat} {l2 : Nat} {l3 : Nat} {l5 : Int32} {l6 : Value} {x : Int32} {I : MI} {J : MJ} {R : MR} {S : Sh} {Q : SkQ} : Wp 23 1855 [.ref l0, .ref l1, .ref l2, .ref l3, .int x, .int l5, l6, nov] st I J R S Q = Wp 23 1857 [.ref l0, .ref l1, .ref l2, .ref l3, .int x, .int l5, l6, nov] (.int x :: st) I J R S Q := o_iload rfl k_L_law_1855
theorem k_L_law_1857 : decode (sk_by 23) 1857 = .ok (.iconst 2, 1) := by decide +kernel
theorem x_L_law_1857 {ls st : List Value} {I : MI} {J : MJ} {R : MR} {S : Sh} {Q : SkQ} : Wp 23 1857 ls st I J R S Q = Wp 23 1858 ls (.int 2 :: st) I J R S Q := o_const (by decide) k_L_law_1857
theorem k_L_law_1858 : decode (sk_by 23) 1858 = .ok (.iadd, 1) := by decide +kernel
theorem x_L_law_1858 {ls st : List Value} {x y : Int32} {I : MI} {J : MJ} {R : MR} {S : Sh} {Q : SkQ} : Wp 23 1858 ls (.int y :: .int x :: st) I J R S Q = Wp 23 1859 ls (.int (x + y) :: st) I J R S Q := o_iadd k_L_law_1858
theorem k_L_law_1859 : decode (sk_by 23) 1859 = .ok (.iaload, 1) := by decide +kernel
theorem x_L_law_1859 {ls st : List Value} {a : Nat} {i : Int32} {I : MI} {J : MJ} {R : MR} {S : Sh} {Q : SkQ} (ha : S.1 a = 30) (hi : inb i (S.2.1 a) = true) : Wp 23 1859 ls (.int i :: .ref a :: st) I J R S Q = Wp 23 1860 ls (.int (I a (ix i)) :: st) I J R S Q := o_iaload k_L_law_1859 ha hi
theorem x_L_law_1859C {ls st : List Value} {a : Nat} {i : Int32} {I : MI} {J : MJ} {R : MR} {S : Sh} {Q : SkQ} (ha : S.1 a = 40) (hi : inb i (S.2.1 a) = true) : Wp 23 1859 ls (.int i :: .ref a :: st) I J R S Q = Wp 23 1860 ls (.int (I a (ix i)) :: st) I J R S Q := o_ialoadC k_L_law_1859 ha hi
theorem k_L_law_1860 : decode (sk_by 23) 1860 = .ok (.i2l, 1) := by decide +kernel
theorem x_L_law_1860 {ls st : List Value} {x : Int32} {I : MI} {J : MJ} {R : MR} {S : Sh} {Q : SkQ} : Wp 23 1860 ls (.int x :: st) I J R S Q = Wp 23 1861 ls (.long x.toInt64 :: st) I J R S Q := o_i2l k_L_law_1860
theorem k_L_law_1861 : decode (sk_by 23) 1861 = .ok (.ldc2_w 97, 3) := by decide +kernel
theorem x_L_law_1861 {ls st : List Value} {I : MI} {J : MJ} {R : MR} {S : Sh} {Q : SkQ} : Wp 23 1861 ls st I J R S Q = Wp 23 1864 ls (.long 4294967295 :: st) I J R S Q := o_ldc2_w (show sk_lkK (sk_cl 23) 97 = some 4294967295 by decide +kernel) k_L_law_1861
theorem k_L_law_1864 : decode (sk_by 23) 1864 = .ok (.land, 1) := by decide +kernel
theorem x_L_law_1864 {ls st : List Value} {x y : Int64} {I : MI} {J : MJ} {R : MR} {S : Sh} {Q : SkQ} : Wp 23 1864 ls (.long y :: .long x :: st) I J R S Q = Wp 23 1865 ls (.long (x &&& y) :: st) I J R S Q := o_land k_L_law_1864
theorem k_L_law_1865 : decode (sk_by 23) 1865 = .ok (.lor, 1) := by decide +kernel
theorem x_L_law_1865 {ls st : List Value} {x y : Int64} {I : MI} {J : MJ} {R : MR} {S : Sh} {Q : SkQ} : Wp 23 1865 ls (.long y :: .long x :: st) I J R S Q = Wp 23 1866 ls (.long (x ||| y) :: st) I J R S Q := o_lor k_L_law_1865
theorem k_L_law_1866 : decode (sk_by 23) 1866 = .ok (.invokevirtual 170, 3) := by decide +kernel
theorem x_L_law_1866 {ls : List Value} {a0 : Nat} {a1 : Int64} {I : MI} {J : MJ} {R : MR} {S : Sh} {Q : SkQ} (ha : S.1 a0 = 8) : Wp 23 1866 ls (.long a1 :: .ref a0 :: []) I J R S Q = Wp 234 0 [.ref a0, .long a1, nov] [] I J R S (Ret 23 1866 1869 234 ls [] Q) := o_call (as := [.ref a0, .long a1]) (rest := []) (show sk_lkM (sk_cl 23) 170 = some 234 by decide +kernel) (by decide) (by decide) (by (decide +kernel)) (ins := .invokevirtual 170) (by (decide +kernel)) k_L_law_1866 rfl (show 2 = sk_na 234 by (decide +kernel)) (Nat.le_of_ble_eq_true rfl) (Nat.le_trans (show (argL [.ref a0, .long a1]).length ≤ 3 from Nat.le_of_ble_eq_true rfl) (by (decide +kernel))) (rcv_of (by (decide +kernel)) (by decide) ha)
theorem k_L_law_1869 : decode (sk_by 23) 1869 = .ok (.istore 6, 2) := by decide +kernel
theorem x_L_law_1869 {st : List Value} {l0 : Nat} {l1 : Nat} {l2 : Nat} {l3 : Nat} {l4 : Int32} {l5 : Int32} {l6 : Value} {x : Int32} {I : MI} {J : MJ} {R : MR} {S : Sh} {Q : SkQ} : Wp 23 1869 [.ref l0, .ref l1, .ref l2, .ref l3, .int l4, .int l5, l6, nov] (.int x :: st) I J R S Q = Wp 23 1871 [.ref l0, .ref l1, .ref l2, .ref l3, .int l4, .int l5, .int x, nov] st I J R S Q := o_istore (Nat.le_of_ble_eq_true rfl) rfl k_L_law_1869
theorem k_L_law_1871 : decode (sk_by 23) 1871 = .ok (.aload_n 2, 1) := by decide +kernel
theorem x_L_law_1871 {st : List Value} {l0 : Nat} {l1 : Nat} {l3 : Nat} {l4 : Int32} {l5 : Int32} {l6 : Int32} {x : Nat} {I : MI} {J : MJ} {R : MR} {S : Sh} {Q : SkQ} : Wp 23 1871 [.ref l0, .ref l1, .ref x, .ref l3, .int l4, .int l5, .int l6, nov] st I J R S Q = Wp 23 1872 [.ref l0, .ref l1, .ref x, .ref l3, .int l4, .int l5, .int l6, nov] (.ref x :: st) I J R S Q := o_aload_n rfl k_L_law_1871
theorem k_L_law_1872 : decode (sk_by 23) 1872 = .ok (.invokevirtual 105, 3) := by decide +kernel
theorem x_L_law_1872 {ls : List Value} {a0 : Nat} {I : MI} {J : MJ} {R : MR} {S : Sh} {Q : SkQ} (ha : S.1 a0 = 8) : Wp 23 1872 ls (.ref a0 :: []) I J R S Q = Wp 174 0 [.ref a0] [] I J R S (Ret 23 1872 1875 174 ls [] Q) := o_call (as := [.ref a0]) (rest := []) (show sk_lkM (sk_cl 23) 105 = some 174 by decide +kernel) (by decide) (by decide) (by (decide +kernel)) (ins := .invokevirtual 105) (by (decide +kernel)) k_L_law_1872 rfl (show 1 = sk_na 174 by (decide +kernel)) (Nat.le_of_ble_eq_true rfl) (Nat.le_trans (show (argL [.ref a0]).length ≤ 1 from Nat.le_of_ble_eq_true rfl) (by (decide +kernel))) (rcv_of (by (decide +kernel)) (by decide) ha)
theorem k_L_law_1875 : decode (sk_by 23) 1875 = .ok (.iload 5, 2) := by decide +kernel
theorem x_L_law_1875 {st : List Value} {l0 : Nat} {l1 : Nat} {l2 : Nat} {l3 : Nat} {l4 : Int32} {l6 : Int32} {x : Int32} {I : MI} {J : MJ} {R : MR} {S : Sh} {Q : SkQ} : Wp 23 1875 [.ref l0, .ref l1, .ref l2, .ref l3, .int l4, .int x, .int l6, nov] st I J R S Q = Wp 23 1877 [.ref l0, .ref l1, .ref l2, .ref l3, .int l4, .int x, .int l6, nov] (.int x :: st) I J R S Q := o_iload rfl k_L_law_1875
theorem k_L_law_1877 : decode (sk_by 23) 1877 = .ok (.if_icmp .eq 5, 3) := by decide +kernel
theorem x_L_law_1877 {ls st : List Value} {x y : Int32} {I : MI} {J : MJ} {R : MR} {S : Sh} {Q : SkQ} : Wp 23 1877 ls (.int y :: .int x :: st) I J R S Q = if x = y then Wp 23 1882 ls st I J R S Q else Wp 23 1880 ls st I J R S Q := o_ic_eq rfl rfl k_L_law_1877
theorem k_L_law_1880 : decode (sk_by 23) 1880 = .ok (.iconst 0, 1) := by decide +kernel
theorem x_L_law_1880 {ls st : List Value} {I : MI} {J : MJ} {R : MR} {S : Sh} {Q : SkQ} : Wp 23 1880 ls st I J R S Q = Wp 23 1881 ls (.int 0 :: st) I J R S Q := o_const (by decide) k_L_law_1880
theorem k_L_law_1881 : decode (sk_by 23) 1881 = .ok (.ireturn, 1) := by decide +kernel
theorem x_L_law_1881 {ls : List Value} {v : Int32} {I : MI} {J : MJ} {R : MR} {S : Sh} {Q : SkQ} (h : rOk (some .boolean) v = true) : Wp 23 1881 ls [.int v] I J R S Q = Q 0 (some (.int v)) I J R S := o_ireturn k_L_law_1881 (by rw [show sk_rt 23 = some .boolean from rfl]; exact h)
theorem k_L_law_1882 : decode (sk_by 23) 1882 = .ok (.iload 5, 2) := by decide +kernel
theorem x_L_law_1882 {st : List Value} {l0 : Nat} {l1 : Nat} {l2 : Nat} {l3 : Nat} {l4 : Int32} {l6 : Int32} {x : Int32} {I : MI} {J : MJ} {R : MR} {S : Sh} {Q : SkQ} : Wp 23 1882 [.ref l0, .ref l1, .ref l2, .ref l3, .int l4, .int x, .int l6, nov] st I J R S Q = Wp 23 1884 [.ref l0, .ref l1, .ref l2, .ref l3, .int l4, .int x, .int l6, nov] (.int x :: st) I J R S Q := o_iload rfl k_L_law_1882
theorem k_L_law_1884 : decode (sk_by 23) 1884 = .ok (.ifCond .ne 15, 3) := by decide +kernel
theorem x_L_law_1884 {ls st : List Value} {x : Int32} {I : MI} {J : MJ} {R : MR} {S : Sh} {Q : SkQ} : Wp 23 1884 ls (.int x :: st) I J R S Q = if x = 0 then Wp 23 1887 ls st I J R S Q else Wp 23 1899 ls st I J R S Q := o_if_ne rfl rfl k_L_law_1884
theorem k_L_law_1887 : decode (sk_by 23) 1887 = .ok (.aload_n 3, 1) := by decide +kernel
theorem x_L_law_1887 {st : List Value} {l0 : Nat} {l1 : Nat} {l2 : Nat} {l4 : Int32} {l5 : Int32} {l6 : Int32} {x : Nat} {I : MI} {J : MJ} {R : MR} {S : Sh} {Q : SkQ} : Wp 23 1887 [.ref l0, .ref l1, .ref l2, .ref x, .int l4, .int l5, .int l6, nov] st I J R S Q = Wp 23 1888 [.ref l0, .ref l1, .ref l2, .ref x, .int l4, .int l5, .int l6, nov] (.ref x :: st) I J R S Q := o_aload_n rfl k_L_law_1887
theorem k_L_law_1888 : decode (sk_by 23) 1888 = .ok (.iconst 0, 1) := by decide +kernel
theorem x_L_law_1888 {ls st : List Value} {I : MI} {J : MJ} {R : MR} {S : Sh} {Q : SkQ} : Wp 23 1888 ls st I J R S Q = Wp 23 1889 ls (.int 0 :: st) I J R S Q := o_const (by decide) k_L_law_1888
theorem k_L_law_1889 : decode (sk_by 23) 1889 = .ok (.laload, 1) := by decide +kernel
theorem x_L_law_1889 {ls st : List Value} {a : Nat} {i : Int32} {I : MI} {J : MJ} {R : MR} {S : Sh} {Q : SkQ} (ha : S.1 a = 31) (hi : inb i (S.2.1 a) = true) : Wp 23 1889 ls (.int i :: .ref a :: st) I J R S Q = Wp 23 1890 ls (.long (J a (ix i)) :: st) I J R S Q := o_laload k_L_law_1889 ha hi
theorem k_L_law_1890 : decode (sk_by 23) 1890 = .ok (.iload 6, 2) := by decide +kernel
theorem x_L_law_1890 {st : List Value} {l0 : Nat} {l1 : Nat} {l2 : Nat} {l3 : Nat} {l4 : Int32} {l5 : Int32} {x : Int32} {I : MI} {J : MJ} {R : MR} {S : Sh} {Q : SkQ} : Wp 23 1890 [.ref l0, .ref l1, .ref l2, .ref l3, .int l4, .int l5, .int x, nov] st I J R S Q = Wp 23 1892 [.ref l0, .ref l1, .ref l2, .ref l3, .int l4, .int l5, .int x, nov] (.int x :: st) I J R S Q := o_iload rfl k_L_law_1890
theorem k_L_law_1892 : decode (sk_by 23) 1892 = .ok (.i2l, 1) := by decide +kernel
theorem x_L_law_1892 {ls st : List Value} {x : Int32} {I : MI} {J : MJ} {R : MR} {S : Sh} {Q : SkQ} : Wp 23 1892 ls (.int x :: st) I J R S Q = Wp 23 1893 ls (.long x.toInt64 :: st) I J R S Q := o_i2l k_L_law_1892
theorem k_L_law_1893 : decode (sk_by 23) 1893 = .ok (.lcmp, 1) := by decide +kernel
theorem x_L_law_1893 {ls st : List Value} {x y : Int64} {I : MI} {J : MJ} {R : MR} {S : Sh} {Q : SkQ} : Wp 23 1893 ls (.long y :: .long x :: st) I J R S Q = Wp 23 1894 ls (.int (lg_cmp x y) :: st) I J R S Q := o_lcmp k_L_law_1893
theorem k_L_law_1894 : decode (sk_by 23) 1894 = .ok (.ifCond .eq 5, 3) := by decide +kernel
theorem x_L_law_1894 {ls st : List Value} {x : Int32} {I : MI} {J : MJ} {R : MR} {S : Sh} {Q : SkQ} : Wp 23 1894 ls (.int x :: st) I J R S Q = if x = 0 then Wp 23 1899 ls st I J R S Q else Wp 23 1897 ls st I J R S Q := o_if_eq rfl rfl k_L_law_1894
theorem k_L_law_1897 : decode (sk_by 23) 1897 = .ok (.iconst 0, 1) := by decide +kernel
theorem x_L_law_1897 {ls st : List Value} {I : MI} {J : MJ} {R : MR} {S : Sh} {Q : SkQ} : Wp 23 1897 ls st I J R S Q = Wp 23 1898 ls (.int 0 :: st) I J R S Q := o_const (by decide) k_L_law_1897
theorem k_L_law_1898 : decode (sk_by 23) 1898 = .ok (.ireturn, 1) := by decide +kernel
theorem x_L_law_1898 {ls : List Value} {v : Int32} {I : MI} {J : MJ} {R : MR} {S : Sh} {Q : SkQ} (h : rOk (some .boolean) v = true) : Wp 23 1898 ls [.int v] I J R S Q = Q 0 (some (.int v)) I J R S := o_ireturn k_L_law_1898 (by rw [show sk_rt 23 = some .boolean from rfl]; exact h)
theorem k_L_law_1899 : decode (sk_by 23) 1899 = .ok (.goto 289, 3) := by decide +kernel
theorem x_L_law_1899 {ls st : List Value} {I : MI} {J : MJ} {R : MR} {S : Sh} {Q : SkQ} : Wp 23 1899 ls st I J R S Q = Wp 23 2188 ls st I J R S Q := o_goto rfl rfl k_L_law_1899
theorem k_L_law_1902 : decode (sk_by 23) 1902 = .ok (.aload_n 1, 1) := by decide +kernel
theorem x_L_law_1902 {st : List Value} {l0 : Nat} {l2 : Nat} {l3 : Nat} {l4 : Int32} {l5 : Value} {l6 : Value} {x : Nat} {I : MI} {J : MJ} {R : MR} {S : Sh} {Q : SkQ} : Wp 23 1902 [.ref l0, .ref x, .ref l2, .ref l3, .int l4, l5, l6, nov] st I J R S Q = Wp 23 1903 [.ref l0, .ref x, .ref l2, .ref l3, .int l4, l5, l6, nov] (.ref x :: st) I J R S Q := o_aload_n rfl k_L_law_1902
theorem k_L_law_1903 : decode (sk_by 23) 1903 = .ok (.invokevirtual 171, 3) := by decide +kernel
theorem x_L_law_1903 {ls : List Value} {a0 : Nat} {I : MI} {J : MJ} {R : MR} {S : Sh} {Q : SkQ} (ha : S.1 a0 = 7) : Wp 23 1903 ls (.ref a0 :: []) I J R S Q = Wp 45 0 [.ref a0] [] I J R S (Ret 23 1903 1906 45 ls [] Q) := o_call (as := [.ref a0]) (rest := []) (show sk_lkM (sk_cl 23) 171 = some 45 by decide +kernel) (by decide) (by decide) (by (decide +kernel)) (ins := .invokevirtual 171) (by (decide +kernel)) k_L_law_1903 rfl (show 1 = sk_na 45 by (decide +kernel)) (Nat.le_of_ble_eq_true rfl) (Nat.le_trans (show (argL [.ref a0]).length ≤ 1 from Nat.le_of_ble_eq_true rfl) (by (decide +kernel))) (rcv_of (by (decide +kernel)) (by decide) ha)
theorem k_L_law_1906 : decode (sk_by 23) 1906 = .ok (.aload_n 2, 1) := by decide +kernel
theorem x_L_law_1906 {st : List Value} {l0 : Nat} {l1 : Nat} {l3 : Nat} {l4 : Int32} {l5 : Value} {l6 : Value} {x : Nat} {I : MI} {J : MJ} {R : MR} {S : Sh} {Q : SkQ} : Wp 23 1906 [.ref l0, .ref l1, .ref x, .ref l3, .int l4, l5, l6, nov] st I J R S Q = Wp 23 1907 [.ref l0, .ref l1, .ref x, .ref l3, .int l4, l5, l6, nov] (.ref x :: st) I J R S Q := o_aload_n rfl k_L_law_1906
theorem k_L_law_1907 : decode (sk_by 23) 1907 = .ok (.invokevirtual 174, 3) := by decide +kernel
theorem x_L_law_1907 {ls : List Value} {a0 : Nat} {s0 : Int64} {I : MI} {J : MJ} {R : MR} {S : Sh} {Q : SkQ} (ha : S.1 a0 = 8) : Wp 23 1907 ls (.ref a0 :: [.long s0]) I J R S Q = Wp 235 0 [.ref a0, nov, nov, nov, nov, nov] [] I J R S (Ret 23 1907 1910 235 ls [.long s0] Q) := o_call (as := [.ref a0]) (rest := [.long s0]) (show sk_lkM (sk_cl 23) 174 = some 235 by decide +kernel) (by decide) (by decide) (by (decide +kernel)) (ins := .invokevirtual 174) (by (decide +kernel)) k_L_law_1907 rfl (show 1 = sk_na 235 by (decide +kernel)) (Nat.le_of_ble_eq_true rfl) (Nat.le_trans (show (argL [.ref a0]).length ≤ 6 from Nat.le_of_ble_eq_true rfl) (by (decide +kernel))) (rcv_of (by (decide +kernel)) (by decide) ha)
theorem k_L_law_1910 : decode (sk_by 23) 1910 = .ok (.lcmp, 1) := by decide +kernel
theorem x_L_law_1910 {ls st : List Value} {x y : Int64} {I : MI} {J : MJ} {R : MR} {S : Sh} {Q : SkQ} : Wp 23 1910 ls (.long y :: .long x :: st) I J R S Q = Wp 23 1911 ls (.int (lg_cmp x y) :: st) I J R S Q := o_lcmp k_L_law_1910
theorem k_L_law_1911 : decode (sk_by 23) 1911 = .ok (.ifCond .eq 277, 3) := by decide +kernel
theorem x_L_law_1911 {ls st : List Value} {x : Int32} {I : MI} {J : MJ} {R : MR} {S : Sh} {Q : SkQ} : Wp 23 1911 ls (.int x :: st) I J R S Q = if x = 0 then Wp 23 2188 ls st I J R S Q else Wp 23 1914 ls st I J R S Q := o_if_eq rfl rfl k_L_law_1911
theorem k_L_law_1914 : decode (sk_by 23) 1914 = .ok (.iconst 0, 1) := by decide +kernel
theorem x_L_law_1914 {ls st : List Value} {I : MI} {J : MJ} {R : MR} {S : Sh} {Q : SkQ} : Wp 23 1914 ls st I J R S Q = Wp 23 1915 ls (.int 0 :: st) I J R S Q := o_const (by decide) k_L_law_1914
theorem k_L_law_1915 : decode (sk_by 23) 1915 = .ok (.ireturn, 1) := by decide +kernel
theorem x_L_law_1915 {ls : List Value} {v : Int32} {I : MI} {J : MJ} {R : MR} {S : Sh} {Q : SkQ} (h : rOk (some .boolean) v = true) : Wp 23 1915 ls [.int v] I J R S Q = Q 0 (some (.int v)) I J R S := o_ireturn k_L_law_1915 (by rw [show sk_rt 23 = some .boolean from rfl]; exact h)
theorem k_L_law_1916 : decode (sk_by 23) 1916 = .ok (.aload_n 1, 1) := by decide +kernel
theorem x_L_law_1916 {st : List Value} {l0 : Nat} {l2 : Nat} {l3 : Nat} {l4 : Int32} {l5 : Value} {l6 : Value} {x : Nat} {I : MI} {J : MJ} {R : MR} {S : Sh} {Q : SkQ} : Wp 23 1916 [.ref l0, .ref x, .ref l2, .ref l3, .int l4, l5, l6, nov] st I J R S Q = Wp 23 1917 [.ref l0, .ref x, .ref l2, .ref l3, .int l4, l5, l6, nov] (.ref x :: st) I J R S Q := o_aload_n rfl k_L_law_1916
theorem k_L_law_1917 : decode (sk_by 23) 1917 = .ok (.aload_n 0, 1) := by decide +kernel
theorem x_L_law_1917 {st : List Value} {l1 : Nat} {l2 : Nat} {l3 : Nat} {l4 : Int32} {l5 : Value} {l6 : Value} {x : Nat} {I : MI} {J : MJ} {R : MR} {S : Sh} {Q : SkQ} : Wp 23 1917 [.ref x, .ref l1, .ref l2, .ref l3, .int l4, l5, l6, nov] st I J R S Q = Wp 23 1918 [.ref x, .ref l1, .ref l2, .ref l3, .int l4, l5, l6, nov] (.ref x :: st) I J R S Q := o_aload_n rfl k_L_law_1917
theorem k_L_law_1918 : decode (sk_by 23) 1918 = .ok (.iload 4, 2) := by decide +kernel
theorem x_L_law_1918 {st : List Value} {l0 : Nat} {l1 : Nat} {l2 : Nat} {l3 : Nat} {l5 : Value} {l6 : Value} {x : Int32} {I : MI} {J : MJ} {R : MR} {S : Sh} {Q : SkQ} : Wp 23 1918 [.ref l0, .ref l1, .ref l2, .ref l3, .int x, l5, l6, nov] st I J R S Q = Wp 23 1920 [.ref l0, .ref l1, .ref l2, .ref l3, .int x, l5, l6, nov] (.int x :: st) I J R S Q := o_iload rfl k_L_law_1918
theorem k_L_law_1920 : decode (sk_by 23) 1920 = .ok (.iconst 1, 1) := by decide +kernel
theorem x_L_law_1920 {ls st : List Value} {I : MI} {J : MJ} {R : MR} {S : Sh} {Q : SkQ} : Wp 23 1920 ls st I J R S Q = Wp 23 1921 ls (.int 1 :: st) I J R S Q := o_const (by decide) k_L_law_1920
theorem k_L_law_1921 : decode (sk_by 23) 1921 = .ok (.iadd, 1) := by decide +kernel
theorem x_L_law_1921 {ls st : List Value} {x y : Int32} {I : MI} {J : MJ} {R : MR} {S : Sh} {Q : SkQ} : Wp 23 1921 ls (.int y :: .int x :: st) I J R S Q = Wp 23 1922 ls (.int (x + y) :: st) I J R S Q := o_iadd k_L_law_1921
theorem k_L_law_1922 : decode (sk_by 23) 1922 = .ok (.iaload, 1) := by decide +kernel
theorem x_L_law_1922 {ls st : List Value} {a : Nat} {i : Int32} {I : MI} {J : MJ} {R : MR} {S : Sh} {Q : SkQ} (ha : S.1 a = 30) (hi : inb i (S.2.1 a) = true) : Wp 23 1922 ls (.int i :: .ref a :: st) I J R S Q = Wp 23 1923 ls (.int (I a (ix i)) :: st) I J R S Q := o_iaload k_L_law_1922 ha hi
theorem x_L_law_1922C {ls st : List Value} {a : Nat} {i : Int32} {I : MI} {J : MJ} {R : MR} {S : Sh} {Q : SkQ} (ha : S.1 a = 40) (hi : inb i (S.2.1 a) = true) : Wp 23 1922 ls (.int i :: .ref a :: st) I J R S Q = Wp 23 1923 ls (.int (I a (ix i)) :: st) I J R S Q := o_ialoadC k_L_law_1922 ha hi
theorem k_L_law_1923 : decode (sk_by 23) 1923 = .ok (.i2l, 1) := by decide +kernel
theorem x_L_law_1923 {ls st : List Value} {x : Int32} {I : MI} {J : MJ} {R : MR} {S : Sh} {Q : SkQ} : Wp 23 1923 ls (.int x :: st) I J R S Q = Wp 23 1924 ls (.long x.toInt64 :: st) I J R S Q := o_i2l k_L_law_1923
theorem k_L_law_1924 : decode (sk_by 23) 1924 = .ok (.bipush 32, 2) := by decide +kernel
theorem x_L_law_1924 {ls st : List Value} {I : MI} {J : MJ} {R : MR} {S : Sh} {Q : SkQ} : Wp 23 1924 ls st I J R S Q = Wp 23 1926 ls (.int 32 :: st) I J R S Q := o_bi (by decide) k_L_law_1924
theorem k_L_law_1926 : decode (sk_by 23) 1926 = .ok (.lshl, 1) := by decide +kernel
theorem x_L_law_1926 {ls st : List Value} {x : Int64} {y : Int32} {I : MI} {J : MJ} {R : MR} {S : Sh} {Q : SkQ} : Wp 23 1926 ls (.int y :: .long x :: st) I J R S Q = Wp 23 1927 ls (.long (x <<< (y.toInt64 &&& 63)) :: st) I J R S Q := o_lshl k_L_law_1926
theorem k_L_law_1927 : decode (sk_by 23) 1927 = .ok (.aload_n 0, 1) := by decide +kernel
theorem x_L_law_1927 {st : List Value} {l1 : Nat} {l2 : Nat} {l3 : Nat} {l4 : Int32} {l5 : Value} {l6 : Value} {x : Nat} {I : MI} {J : MJ} {R : MR} {S : Sh} {Q : SkQ} : Wp 23 1927 [.ref x, .ref l1, .ref l2, .ref l3, .int l4, l5, l6, nov] st I J R S Q = Wp 23 1928 [.ref x, .ref l1, .ref l2, .ref l3, .int l4, l5, l6, nov] (.ref x :: st) I J R S Q := o_aload_n rfl k_L_law_1927
theorem k_L_law_1928 : decode (sk_by 23) 1928 = .ok (.iload 4, 2) := by decide +kernel
theorem x_L_law_1928 {st : List Value} {l0 : Nat} {l1 : Nat} {l2 : Nat} {l3 : Nat} {l5 : Value} {l6 : Value} {x : Int32} {I : MI} {J : MJ} {R : MR} {S : Sh} {Q : SkQ} : Wp 23 1928 [.ref l0, .ref l1, .ref l2, .ref l3, .int x, l5, l6, nov] st I J R S Q = Wp 23 1930 [.ref l0, .ref l1, .ref l2, .ref l3, .int x, l5, l6, nov] (.int x :: st) I J R S Q := o_iload rfl k_L_law_1928
theorem k_L_law_1930 : decode (sk_by 23) 1930 = .ok (.iconst 2, 1) := by decide +kernel
theorem x_L_law_1930 {ls st : List Value} {I : MI} {J : MJ} {R : MR} {S : Sh} {Q : SkQ} : Wp 23 1930 ls st I J R S Q = Wp 23 1931 ls (.int 2 :: st) I J R S Q := o_const (by decide) k_L_law_1930
theorem k_L_law_1931 : decode (sk_by 23) 1931 = .ok (.iadd, 1) := by decide +kernel
theorem x_L_law_1931 {ls st : List Value} {x y : Int32} {I : MI} {J : MJ} {R : MR} {S : Sh} {Q : SkQ} : Wp 23 1931 ls (.int y :: .int x :: st) I J R S Q = Wp 23 1932 ls (.int (x + y) :: st) I J R S Q := o_iadd k_L_law_1931
theorem k_L_law_1932 : decode (sk_by 23) 1932 = .ok (.iaload, 1) := by decide +kernel
theorem x_L_law_1932 {ls st : List Value} {a : Nat} {i : Int32} {I : MI} {J : MJ} {R : MR} {S : Sh} {Q : SkQ} (ha : S.1 a = 30) (hi : inb i (S.2.1 a) = true) : Wp 23 1932 ls (.int i :: .ref a :: st) I J R S Q = Wp 23 1933 ls (.int (I a (ix i)) :: st) I J R S Q := o_iaload k_L_law_1932 ha hi
theorem x_L_law_1932C {ls st : List Value} {a : Nat} {i : Int32} {I : MI} {J : MJ} {R : MR} {S : Sh} {Q : SkQ} (ha : S.1 a = 40) (hi : inb i (S.2.1 a) = true) : Wp 23 1932 ls (.int i :: .ref a :: st) I J R S Q = Wp 23 1933 ls (.int (I a (ix i)) :: st) I J R S Q := o_ialoadC k_L_law_1932 ha hi
theorem k_L_law_1933 : decode (sk_by 23) 1933 = .ok (.i2l, 1) := by decide +kernel
theorem x_L_law_1933 {ls st : List Value} {x : Int32} {I : MI} {J : MJ} {R : MR} {S : Sh} {Q : SkQ} : Wp 23 1933 ls (.int x :: st) I J R S Q = Wp 23 1934 ls (.long x.toInt64 :: st) I J R S Q := o_i2l k_L_law_1933
theorem k_L_law_1934 : decode (sk_by 23) 1934 = .ok (.ldc2_w 97, 3) := by decide +kernel
theorem x_L_law_1934 {ls st : List Value} {I : MI} {J : MJ} {R : MR} {S : Sh} {Q : SkQ} : Wp 23 1934 ls st I J R S Q = Wp 23 1937 ls (.long 4294967295 :: st) I J R S Q := o_ldc2_w (show sk_lkK (sk_cl 23) 97 = some 4294967295 by decide +kernel) k_L_law_1934
theorem k_L_law_1937 : decode (sk_by 23) 1937 = .ok (.land, 1) := by decide +kernel
theorem x_L_law_1937 {ls st : List Value} {x y : Int64} {I : MI} {J : MJ} {R : MR} {S : Sh} {Q : SkQ} : Wp 23 1937 ls (.long y :: .long x :: st) I J R S Q = Wp 23 1938 ls (.long (x &&& y) :: st) I J R S Q := o_land k_L_law_1937
theorem k_L_law_1938 : decode (sk_by 23) 1938 = .ok (.lor, 1) := by decide +kernel
theorem x_L_law_1938 {ls st : List Value} {x y : Int64} {I : MI} {J : MJ} {R : MR} {S : Sh} {Q : SkQ} : Wp 23 1938 ls (.long y :: .long x :: st) I J R S Q = Wp 23 1939 ls (.long (x ||| y) :: st) I J R S Q := o_lor k_L_law_1938
theorem k_L_law_1939 : decode (sk_by 23) 1939 = .ok (.aload_n 0, 1) := by decide +kernel
theorem x_L_law_1939 {st : List Value} {l1 : Nat} {l2 : Nat} {l3 : Nat} {l4 : Int32} {l5 : Value} {l6 : Value} {x : Nat} {I : MI} {J : MJ} {R : MR} {S : Sh} {Q : SkQ} : Wp 23 1939 [.ref x, .ref l1, .ref l2, .ref l3, .int l4, l5, l6, nov] st I J R S Q = Wp 23 1940 [.ref x, .ref l1, .ref l2, .ref l3, .int l4, l5, l6, nov] (.ref x :: st) I J R S Q := o_aload_n rfl k_L_law_1939
theorem k_L_law_1940 : decode (sk_by 23) 1940 = .ok (.iload 4, 2) := by decide +kernel
theorem x_L_law_1940 {st : List Value} {l0 : Nat} {l1 : Nat} {l2 : Nat} {l3 : Nat} {l5 : Value} {l6 : Value} {x : Int32} {I : MI} {J : MJ} {R : MR} {S : Sh} {Q : SkQ} : Wp 23 1940 [.ref l0, .ref l1, .ref l2, .ref l3, .int x, l5, l6, nov] st I J R S Q = Wp 23 1942 [.ref l0, .ref l1, .ref l2, .ref l3, .int x, l5, l6, nov] (.int x :: st) I J R S Q := o_iload rfl k_L_law_1940
theorem k_L_law_1942 : decode (sk_by 23) 1942 = .ok (.iconst 3, 1) := by decide +kernel
theorem x_L_law_1942 {ls st : List Value} {I : MI} {J : MJ} {R : MR} {S : Sh} {Q : SkQ} : Wp 23 1942 ls st I J R S Q = Wp 23 1943 ls (.int 3 :: st) I J R S Q := o_const (by decide) k_L_law_1942
theorem k_L_law_1943 : decode (sk_by 23) 1943 = .ok (.iadd, 1) := by decide +kernel
theorem x_L_law_1943 {ls st : List Value} {x y : Int32} {I : MI} {J : MJ} {R : MR} {S : Sh} {Q : SkQ} : Wp 23 1943 ls (.int y :: .int x :: st) I J R S Q = Wp 23 1944 ls (.int (x + y) :: st) I J R S Q := o_iadd k_L_law_1943
theorem k_L_law_1944 : decode (sk_by 23) 1944 = .ok (.iaload, 1) := by decide +kernel
theorem x_L_law_1944 {ls st : List Value} {a : Nat} {i : Int32} {I : MI} {J : MJ} {R : MR} {S : Sh} {Q : SkQ} (ha : S.1 a = 30) (hi : inb i (S.2.1 a) = true) : Wp 23 1944 ls (.int i :: .ref a :: st) I J R S Q = Wp 23 1945 ls (.int (I a (ix i)) :: st) I J R S Q := o_iaload k_L_law_1944 ha hi
theorem x_L_law_1944C {ls st : List Value} {a : Nat} {i : Int32} {I : MI} {J : MJ} {R : MR} {S : Sh} {Q : SkQ} (ha : S.1 a = 40) (hi : inb i (S.2.1 a) = true) : Wp 23 1944 ls (.int i :: .ref a :: st) I J R S Q = Wp 23 1945 ls (.int (I a (ix i)) :: st) I J R S Q := o_ialoadC k_L_law_1944 ha hi
theorem k_L_law_1945 : decode (sk_by 23) 1945 = .ok (.i2l, 1) := by decide +kernel
theorem x_L_law_1945 {ls st : List Value} {x : Int32} {I : MI} {J : MJ} {R : MR} {S : Sh} {Q : SkQ} : Wp 23 1945 ls (.int x :: st) I J R S Q = Wp 23 1946 ls (.long x.toInt64 :: st) I J R S Q := o_i2l k_L_law_1945
theorem k_L_law_1946 : decode (sk_by 23) 1946 = .ok (.bipush 32, 2) := by decide +kernel
theorem x_L_law_1946 {ls st : List Value} {I : MI} {J : MJ} {R : MR} {S : Sh} {Q : SkQ} : Wp 23 1946 ls st I J R S Q = Wp 23 1948 ls (.int 32 :: st) I J R S Q := o_bi (by decide) k_L_law_1946
theorem k_L_law_1948 : decode (sk_by 23) 1948 = .ok (.lshl, 1) := by decide +kernel
theorem x_L_law_1948 {ls st : List Value} {x : Int64} {y : Int32} {I : MI} {J : MJ} {R : MR} {S : Sh} {Q : SkQ} : Wp 23 1948 ls (.int y :: .long x :: st) I J R S Q = Wp 23 1949 ls (.long (x <<< (y.toInt64 &&& 63)) :: st) I J R S Q := o_lshl k_L_law_1948
theorem k_L_law_1949 : decode (sk_by 23) 1949 = .ok (.aload_n 0, 1) := by decide +kernel
theorem x_L_law_1949 {st : List Value} {l1 : Nat} {l2 : Nat} {l3 : Nat} {l4 : Int32} {l5 : Value} {l6 : Value} {x : Nat} {I : MI} {J : MJ} {R : MR} {S : Sh} {Q : SkQ} : Wp 23 1949 [.ref x, .ref l1, .ref l2, .ref l3, .int l4, l5, l6, nov] st I J R S Q = Wp 23 1950 [.ref x, .ref l1, .ref l2, .ref l3, .int l4, l5, l6, nov] (.ref x :: st) I J R S Q := o_aload_n rfl k_L_law_1949
theorem k_L_law_1950 : decode (sk_by 23) 1950 = .ok (.iload 4, 2) := by decide +kernel
theorem x_L_law_1950 {st : List Value} {l0 : Nat} {l1 : Nat} {l2 : Nat} {l3 : Nat} {l5 : Value} {l6 : Value} {x : Int32} {I : MI} {J : MJ} {R : MR} {S : Sh} {Q : SkQ} : Wp 23 1950 [.ref l0, .ref l1, .ref l2, .ref l3, .int x, l5, l6, nov] st I J R S Q = Wp 23 1952 [.ref l0, .ref l1, .ref l2, .ref l3, .int x, l5, l6, nov] (.int x :: st) I J R S Q := o_iload rfl k_L_law_1950
theorem k_L_law_1952 : decode (sk_by 23) 1952 = .ok (.iconst 4, 1) := by decide +kernel
theorem x_L_law_1952 {ls st : List Value} {I : MI} {J : MJ} {R : MR} {S : Sh} {Q : SkQ} : Wp 23 1952 ls st I J R S Q = Wp 23 1953 ls (.int 4 :: st) I J R S Q := o_const (by decide) k_L_law_1952
theorem k_L_law_1953 : decode (sk_by 23) 1953 = .ok (.iadd, 1) := by decide +kernel
theorem x_L_law_1953 {ls st : List Value} {x y : Int32} {I : MI} {J : MJ} {R : MR} {S : Sh} {Q : SkQ} : Wp 23 1953 ls (.int y :: .int x :: st) I J R S Q = Wp 23 1954 ls (.int (x + y) :: st) I J R S Q := o_iadd k_L_law_1953
theorem k_L_law_1954 : decode (sk_by 23) 1954 = .ok (.iaload, 1) := by decide +kernel
theorem x_L_law_1954 {ls st : List Value} {a : Nat} {i : Int32} {I : MI} {J : MJ} {R : MR} {S : Sh} {Q : SkQ} (ha : S.1 a = 30) (hi : inb i (S.2.1 a) = true) : Wp 23 1954 ls (.int i :: .ref a :: st) I J R S Q = Wp 23 1955 ls (.int (I a (ix i)) :: st) I J R S Q := o_iaload k_L_law_1954 ha hi
theorem x_L_law_1954C {ls st : List Value} {a : Nat} {i : Int32} {I : MI} {J : MJ} {R : MR} {S : Sh} {Q : SkQ} (ha : S.1 a = 40) (hi : inb i (S.2.1 a) = true) : Wp 23 1954 ls (.int i :: .ref a :: st) I J R S Q = Wp 23 1955 ls (.int (I a (ix i)) :: st) I J R S Q := o_ialoadC k_L_law_1954 ha hi
theorem k_L_law_1955 : decode (sk_by 23) 1955 = .ok (.i2l, 1) := by decide +kernel
theorem x_L_law_1955 {ls st : List Value} {x : Int32} {I : MI} {J : MJ} {R : MR} {S : Sh} {Q : SkQ} : Wp 23 1955 ls (.int x :: st) I J R S Q = Wp 23 1956 ls (.long x.toInt64 :: st) I J R S Q := o_i2l k_L_law_1955
theorem k_L_law_1956 : decode (sk_by 23) 1956 = .ok (.ldc2_w 97, 3) := by decide +kernel
theorem x_L_law_1956 {ls st : List Value} {I : MI} {J : MJ} {R : MR} {S : Sh} {Q : SkQ} : Wp 23 1956 ls st I J R S Q = Wp 23 1959 ls (.long 4294967295 :: st) I J R S Q := o_ldc2_w (show sk_lkK (sk_cl 23) 97 = some 4294967295 by decide +kernel) k_L_law_1956
theorem k_L_law_1959 : decode (sk_by 23) 1959 = .ok (.land, 1) := by decide +kernel
theorem x_L_law_1959 {ls st : List Value} {x y : Int64} {I : MI} {J : MJ} {R : MR} {S : Sh} {Q : SkQ} : Wp 23 1959 ls (.long y :: .long x :: st) I J R S Q = Wp 23 1960 ls (.long (x &&& y) :: st) I J R S Q := o_land k_L_law_1959
theorem k_L_law_1960 : decode (sk_by 23) 1960 = .ok (.lor, 1) := by decide +kernel
theorem x_L_law_1960 {ls st : List Value} {x y : Int64} {I : MI} {J : MJ} {R : MR} {S : Sh} {Q : SkQ} : Wp 23 1960 ls (.long y :: .long x :: st) I J R S Q = Wp 23 1961 ls (.long (x ||| y) :: st) I J R S Q := o_lor k_L_law_1960
theorem k_L_law_1961 : decode (sk_by 23) 1961 = .ok (.aload_n 3, 1) := by decide +kernel
theorem x_L_law_1961 {st : List Value} {l0 : Nat} {l1 : Nat} {l2 : Nat} {l4 : Int32} {l5 : Value} {l6 : Value} {x : Nat} {I : MI} {J : MJ} {R : MR} {S : Sh} {Q : SkQ} : Wp 23 1961 [.ref l0, .ref l1, .ref l2, .ref x, .int l4, l5, l6, nov] st I J R S Q = Wp 23 1962 [.ref l0, .ref l1, .ref l2, .ref x, .int l4, l5, l6, nov] (.ref x :: st) I J R S Q := o_aload_n rfl k_L_law_1961
theorem k_L_law_1962 : decode (sk_by 23) 1962 = .ok (.invokestatic 175, 3) := by decide +kernel
theorem x_L_law_1962 {ls : List Value} {a0 : Nat} {a1 : Int64} {a2 : Int64} {a3 : Nat} {I : MI} {J : MJ} {R : MR} {S : Sh} {Q : SkQ} : Wp 23 1962 ls (.ref a3 :: .long a2 :: .long a1 :: .ref a0 :: []) I J R S Q = Wp 20 0 [.ref a0, .long a1, nov, .long a2, nov, .ref a3, nov] [] I J R S (Ret 23 1962 1965 20 ls [] Q) := o_call (as := [.ref a0, .long a1, .long a2, .ref a3]) (rest := []) (show sk_lkM (sk_cl 23) 175 = some 20 by decide +kernel) (by decide) (by decide) (by (decide +kernel)) (ins := .invokestatic 175) (by (decide +kernel)) k_L_law_1962 rfl (show 4 = sk_na 20 by (decide +kernel)) (Nat.le_of_ble_eq_true rfl) (Nat.le_trans (show (argL [.ref a0, .long a1, .long a2, .ref a3]).length ≤ 7 from Nat.le_of_ble_eq_true rfl) (by (decide +kernel))) rfl
theorem k_L_law_1965 : decode (sk_by 23) 1965 = .ok (.istore 5, 2) := by decide +kernel
theorem x_L_law_1965 {st : List Value} {l0 : Nat} {l1 : Nat} {l2 : Nat} {l3 : Nat} {l4 : Int32} {l5 : Value} {l6 : Value} {x : Int32} {I : MI} {J : MJ} {R : MR} {S : Sh} {Q : SkQ} : Wp 23 1965 [.ref l0, .ref l1, .ref l2, .ref l3, .int l4, l5, l6, nov] (.int x :: st) I J R S Q = Wp 23 1967 [.ref l0, .ref l1, .ref l2, .ref l3, .int l4, .int x, l6, nov] st I J R S Q := o_istore (Nat.le_of_ble_eq_true rfl) rfl k_L_law_1965
theorem k_L_law_1967 : decode (sk_by 23) 1967 = .ok (.aload_n 2, 1) := by decide +kernel
theorem x_L_law_1967 {st : List Value} {l0 : Nat} {l1 : Nat} {l3 : Nat} {l4 : Int32} {l5 : Int32} {l6 : Value} {x : Nat} {I : MI} {J : MJ} {R : MR} {S : Sh} {Q : SkQ} : Wp 23 1967 [.ref l0, .ref l1, .ref x, .ref l3, .int l4, .int l5, l6, nov] st I J R S Q = Wp 23 1968 [.ref l0, .ref l1, .ref x, .ref l3, .int l4, .int l5, l6, nov] (.ref x :: st) I J R S Q := o_aload_n rfl k_L_law_1967
theorem k_L_law_1968 : decode (sk_by 23) 1968 = .ok (.aload_n 0, 1) := by decide +kernel
theorem x_L_law_1968 {st : List Value} {l1 : Nat} {l2 : Nat} {l3 : Nat} {l4 : Int32} {l5 : Int32} {l6 : Value} {x : Nat} {I : MI} {J : MJ} {R : MR} {S : Sh} {Q : SkQ} : Wp 23 1968 [.ref x, .ref l1, .ref l2, .ref l3, .int l4, .int l5, l6, nov] st I J R S Q = Wp 23 1969 [.ref x, .ref l1, .ref l2, .ref l3, .int l4, .int l5, l6, nov] (.ref x :: st) I J R S Q := o_aload_n rfl k_L_law_1968
theorem k_L_law_1969 : decode (sk_by 23) 1969 = .ok (.iload 4, 2) := by decide +kernel
theorem x_L_law_1969 {st : List Value} {l0 : Nat} {l1 : Nat} {l2 : Nat} {l3 : Nat} {l5 : Int32} {l6 : Value} {x : Int32} {I : MI} {J : MJ} {R : MR} {S : Sh} {Q : SkQ} : Wp 23 1969 [.ref l0, .ref l1, .ref l2, .ref l3, .int x, .int l5, l6, nov] st I J R S Q = Wp 23 1971 [.ref l0, .ref l1, .ref l2, .ref l3, .int x, .int l5, l6, nov] (.int x :: st) I J R S Q := o_iload rfl k_L_law_1969
theorem k_L_law_1971 : decode (sk_by 23) 1971 = .ok (.iconst 1, 1) := by decide +kernel
theorem x_L_law_1971 {ls st : List Value} {I : MI} {J : MJ} {R : MR} {S : Sh} {Q : SkQ} : Wp 23 1971 ls st I J R S Q = Wp 23 1972 ls (.int 1 :: st) I J R S Q := o_const (by decide) k_L_law_1971
theorem k_L_law_1972 : decode (sk_by 23) 1972 = .ok (.iadd, 1) := by decide +kernel
theorem x_L_law_1972 {ls st : List Value} {x y : Int32} {I : MI} {J : MJ} {R : MR} {S : Sh} {Q : SkQ} : Wp 23 1972 ls (.int y :: .int x :: st) I J R S Q = Wp 23 1973 ls (.int (x + y) :: st) I J R S Q := o_iadd k_L_law_1972
theorem k_L_law_1973 : decode (sk_by 23) 1973 = .ok (.iaload, 1) := by decide +kernel
theorem x_L_law_1973 {ls st : List Value} {a : Nat} {i : Int32} {I : MI} {J : MJ} {R : MR} {S : Sh} {Q : SkQ} (ha : S.1 a = 30) (hi : inb i (S.2.1 a) = true) : Wp 23 1973 ls (.int i :: .ref a :: st) I J R S Q = Wp 23 1974 ls (.int (I a (ix i)) :: st) I J R S Q := o_iaload k_L_law_1973 ha hi
theorem x_L_law_1973C {ls st : List Value} {a : Nat} {i : Int32} {I : MI} {J : MJ} {R : MR} {S : Sh} {Q : SkQ} (ha : S.1 a = 40) (hi : inb i (S.2.1 a) = true) : Wp 23 1973 ls (.int i :: .ref a :: st) I J R S Q = Wp 23 1974 ls (.int (I a (ix i)) :: st) I J R S Q := o_ialoadC k_L_law_1973 ha hi
theorem k_L_law_1974 : decode (sk_by 23) 1974 = .ok (.i2l, 1) := by decide +kernel
theorem x_L_law_1974 {ls st : List Value} {x : Int32} {I : MI} {J : MJ} {R : MR} {S : Sh} {Q : SkQ} : Wp 23 1974 ls (.int x :: st) I J R S Q = Wp 23 1975 ls (.long x.toInt64 :: st) I J R S Q := o_i2l k_L_law_1974
theorem k_L_law_1975 : decode (sk_by 23) 1975 = .ok (.bipush 32, 2) := by decide +kernel
theorem x_L_law_1975 {ls st : List Value} {I : MI} {J : MJ} {R : MR} {S : Sh} {Q : SkQ} : Wp 23 1975 ls st I J R S Q = Wp 23 1977 ls (.int 32 :: st) I J R S Q := o_bi (by decide) k_L_law_1975
theorem k_L_law_1977 : decode (sk_by 23) 1977 = .ok (.lshl, 1) := by decide +kernel
theorem x_L_law_1977 {ls st : List Value} {x : Int64} {y : Int32} {I : MI} {J : MJ} {R : MR} {S : Sh} {Q : SkQ} : Wp 23 1977 ls (.int y :: .long x :: st) I J R S Q = Wp 23 1978 ls (.long (x <<< (y.toInt64 &&& 63)) :: st) I J R S Q := o_lshl k_L_law_1977
theorem k_L_law_1978 : decode (sk_by 23) 1978 = .ok (.aload_n 0, 1) := by decide +kernel
theorem x_L_law_1978 {st : List Value} {l1 : Nat} {l2 : Nat} {l3 : Nat} {l4 : Int32} {l5 : Int32} {l6 : Value} {x : Nat} {I : MI} {J : MJ} {R : MR} {S : Sh} {Q : SkQ} : Wp 23 1978 [.ref x, .ref l1, .ref l2, .ref l3, .int l4, .int l5, l6, nov] st I J R S Q = Wp 23 1979 [.ref x, .ref l1, .ref l2, .ref l3, .int l4, .int l5, l6, nov] (.ref x :: st) I J R S Q := o_aload_n rfl k_L_law_1978
theorem k_L_law_1979 : decode (sk_by 23) 1979 = .ok (.iload 4, 2) := by decide +kernel
theorem x_L_law_1979 {st : List Value} {l0 : Nat} {l1 : Nat} {l2 : Nat} {l3 : Nat} {l5 : Int32} {l6 : Value} {x : Int32} {I : MI} {J : MJ} {R : MR} {S : Sh} {Q : SkQ} : Wp 23 1979 [.ref l0, .ref l1, .ref l2, .ref l3, .int x, .int l5, l6, nov] st I J R S Q = Wp 23 1981 [.ref l0, .ref l1, .ref l2, .ref l3, .int x, .int l5, l6, nov] (.int x :: st) I J R S Q := o_iload rfl k_L_law_1979
theorem k_L_law_1981 : decode (sk_by 23) 1981 = .ok (.iconst 2, 1) := by decide +kernel
theorem x_L_law_1981 {ls st : List Value} {I : MI} {J : MJ} {R : MR} {S : Sh} {Q : SkQ} : Wp 23 1981 ls st I J R S Q = Wp 23 1982 ls (.int 2 :: st) I J R S Q := o_const (by decide) k_L_law_1981
theorem k_L_law_1982 : decode (sk_by 23) 1982 = .ok (.iadd, 1) := by decide +kernel
theorem x_L_law_1982 {ls st : List Value} {x y : Int32} {I : MI} {J : MJ} {R : MR} {S : Sh} {Q : SkQ} : Wp 23 1982 ls (.int y :: .int x :: st) I J R S Q = Wp 23 1983 ls (.int (x + y) :: st) I J R S Q := o_iadd k_L_law_1982
theorem k_L_law_1983 : decode (sk_by 23) 1983 = .ok (.iaload, 1) := by decide +kernel
theorem x_L_law_1983 {ls st : List Value} {a : Nat} {i : Int32} {I : MI} {J : MJ} {R : MR} {S : Sh} {Q : SkQ} (ha : S.1 a = 30) (hi : inb i (S.2.1 a) = true) : Wp 23 1983 ls (.int i :: .ref a :: st) I J R S Q = Wp 23 1984 ls (.int (I a (ix i)) :: st) I J R S Q := o_iaload k_L_law_1983 ha hi
theorem x_L_law_1983C {ls st : List Value} {a : Nat} {i : Int32} {I : MI} {J : MJ} {R : MR} {S : Sh} {Q : SkQ} (ha : S.1 a = 40) (hi : inb i (S.2.1 a) = true) : Wp 23 1983 ls (.int i :: .ref a :: st) I J R S Q = Wp 23 1984 ls (.int (I a (ix i)) :: st) I J R S Q := o_ialoadC k_L_law_1983 ha hi
theorem k_L_law_1984 : decode (sk_by 23) 1984 = .ok (.i2l, 1) := by decide +kernel
theorem x_L_law_1984 {ls st : List Value} {x : Int32} {I : MI} {J : MJ} {R : MR} {S : Sh} {Q : SkQ} : Wp 23 1984 ls (.int x :: st) I J R S Q = Wp 23 1985 ls (.long x.toInt64 :: st) I J R S Q := o_i2l k_L_law_1984
theorem k_L_law_1985 : decode (sk_by 23) 1985 = .ok (.ldc2_w 97, 3) := by decide +kernel
theorem x_L_law_1985 {ls st : List Value} {I : MI} {J : MJ} {R : MR} {S : Sh} {Q : SkQ} : Wp 23 1985 ls st I J R S Q = Wp 23 1988 ls (.long 4294967295 :: st) I J R S Q := o_ldc2_w (show sk_lkK (sk_cl 23) 97 = some 4294967295 by decide +kernel) k_L_law_1985
theorem k_L_law_1988 : decode (sk_by 23) 1988 = .ok (.land, 1) := by decide +kernel
theorem x_L_law_1988 {ls st : List Value} {x y : Int64} {I : MI} {J : MJ} {R : MR} {S : Sh} {Q : SkQ} : Wp 23 1988 ls (.long y :: .long x :: st) I J R S Q = Wp 23 1989 ls (.long (x &&& y) :: st) I J R S Q := o_land k_L_law_1988
theorem k_L_law_1989 : decode (sk_by 23) 1989 = .ok (.lor, 1) := by decide +kernel
theorem x_L_law_1989 {ls st : List Value} {x y : Int64} {I : MI} {J : MJ} {R : MR} {S : Sh} {Q : SkQ} : Wp 23 1989 ls (.long y :: .long x :: st) I J R S Q = Wp 23 1990 ls (.long (x ||| y) :: st) I J R S Q := o_lor k_L_law_1989
theorem k_L_law_1990 : decode (sk_by 23) 1990 = .ok (.aload_n 0, 1) := by decide +kernel
theorem x_L_law_1990 {st : List Value} {l1 : Nat} {l2 : Nat} {l3 : Nat} {l4 : Int32} {l5 : Int32} {l6 : Value} {x : Nat} {I : MI} {J : MJ} {R : MR} {S : Sh} {Q : SkQ} : Wp 23 1990 [.ref x, .ref l1, .ref l2, .ref l3, .int l4, .int l5, l6, nov] st I J R S Q = Wp 23 1991 [.ref x, .ref l1, .ref l2, .ref l3, .int l4, .int l5, l6, nov] (.ref x :: st) I J R S Q := o_aload_n rfl k_L_law_1990
theorem k_L_law_1991 : decode (sk_by 23) 1991 = .ok (.iload 4, 2) := by decide +kernel
theorem x_L_law_1991 {st : List Value} {l0 : Nat} {l1 : Nat} {l2 : Nat} {l3 : Nat} {l5 : Int32} {l6 : Value} {x : Int32} {I : MI} {J : MJ} {R : MR} {S : Sh} {Q : SkQ} : Wp 23 1991 [.ref l0, .ref l1, .ref l2, .ref l3, .int x, .int l5, l6, nov] st I J R S Q = Wp 23 1993 [.ref l0, .ref l1, .ref l2, .ref l3, .int x, .int l5, l6, nov] (.int x :: st) I J R S Q := o_iload rfl k_L_law_1991
theorem k_L_law_1993 : decode (sk_by 23) 1993 = .ok (.iconst 3, 1) := by decide +kernel
theorem x_L_law_1993 {ls st : List Value} {I : MI} {J : MJ} {R : MR} {S : Sh} {Q : SkQ} : Wp 23 1993 ls st I J R S Q = Wp 23 1994 ls (.int 3 :: st) I J R S Q := o_const (by decide) k_L_law_1993
theorem k_L_law_1994 : decode (sk_by 23) 1994 = .ok (.iadd, 1) := by decide +kernel
theorem x_L_law_1994 {ls st : List Value} {x y : Int32} {I : MI} {J : MJ} {R : MR} {S : Sh} {Q : SkQ} : Wp 23 1994 ls (.int y :: .int x :: st) I J R S Q = Wp 23 1995 ls (.int (x + y) :: st) I J R S Q := o_iadd k_L_law_1994
theorem k_L_law_1995 : decode (sk_by 23) 1995 = .ok (.iaload, 1) := by decide +kernel
theorem x_L_law_1995 {ls st : List Value} {a : Nat} {i : Int32} {I : MI} {J : MJ} {R : MR} {S : Sh} {Q : SkQ} (ha : S.1 a = 30) (hi : inb i (S.2.1 a) = true) : Wp 23 1995 ls (.int i :: .ref a :: st) I J R S Q = Wp 23 1996 ls (.int (I a (ix i)) :: st) I J R S Q := o_iaload k_L_law_1995 ha hi
theorem x_L_law_1995C {ls st : List Value} {a : Nat} {i : Int32} {I : MI} {J : MJ} {R : MR} {S : Sh} {Q : SkQ} (ha : S.1 a = 40) (hi : inb i (S.2.1 a) = true) : Wp 23 1995 ls (.int i :: .ref a :: st) I J R S Q = Wp 23 1996 ls (.int (I a (ix i)) :: st) I J R S Q := o_ialoadC k_L_law_1995 ha hi
theorem k_L_law_1996 : decode (sk_by 23) 1996 = .ok (.i2l, 1) := by decide +kernel
theorem x_L_law_1996 {ls st : List Value} {x : Int32} {I : MI} {J : MJ} {R : MR} {S : Sh} {Q : SkQ} : Wp 23 1996 ls (.int x :: st) I J R S Q = Wp 23 1997 ls (.long x.toInt64 :: st) I J R S Q := o_i2l k_L_law_1996
theorem k_L_law_1997 : decode (sk_by 23) 1997 = .ok (.bipush 32, 2) := by decide +kernel
theorem x_L_law_1997 {ls st : List Value} {I : MI} {J : MJ} {R : MR} {S : Sh} {Q : SkQ} : Wp 23 1997 ls st I J R S Q = Wp 23 1999 ls (.int 32 :: st) I J R S Q := o_bi (by decide) k_L_law_1997
theorem k_L_law_1999 : decode (sk_by 23) 1999 = .ok (.lshl, 1) := by decide +kernel
theorem x_L_law_1999 {ls st : List Value} {x : Int64} {y : Int32} {I : MI} {J : MJ} {R : MR} {S : Sh} {Q : SkQ} : Wp 23 1999 ls (.int y :: .long x :: st) I J R S Q = Wp 23 2000 ls (.long (x <<< (y.toInt64 &&& 63)) :: st) I J R S Q := o_lshl k_L_law_1999
theorem k_L_law_2000 : decode (sk_by 23) 2000 = .ok (.aload_n 0, 1) := by decide +kernel
theorem x_L_law_2000 {st : List Value} {l1 : Nat} {l2 : Nat} {l3 : Nat} {l4 : Int32} {l5 : Int32} {l6 : Value} {x : Nat} {I : MI} {J : MJ} {R : MR} {S : Sh} {Q : SkQ} : Wp 23 2000 [.ref x, .ref l1, .ref l2, .ref l3, .int l4, .int l5, l6, nov] st I J R S Q = Wp 23 2001 [.ref x, .ref l1, .ref l2, .ref l3, .int l4, .int l5, l6, nov] (.ref x :: st) I J R S Q := o_aload_n rfl k_L_law_2000
theorem k_L_law_2001 : decode (sk_by 23) 2001 = .ok (.iload 4, 2) := by decide +kernel
theorem x_L_law_2001 {st : List Value} {l0 : Nat} {l1 : Nat} {l2 : Nat} {l3 : Nat} {l5 : Int32} {l6 : Value} {x : Int32} {I : MI} {J : MJ} {R : MR} {S : Sh} {Q : SkQ} : Wp 23 2001 [.ref l0, .ref l1, .ref l2, .ref l3, .int x, .int l5, l6, nov] st I J R S Q = Wp 23 2003 [.ref l0, .ref l1, .ref l2, .ref l3, .int x, .int l5, l6, nov] (.int x :: st) I J R S Q := o_iload rfl k_L_law_2001
theorem k_L_law_2003 : decode (sk_by 23) 2003 = .ok (.iconst 4, 1) := by decide +kernel
theorem x_L_law_2003 {ls st : List Value} {I : MI} {J : MJ} {R : MR} {S : Sh} {Q : SkQ} : Wp 23 2003 ls st I J R S Q = Wp 23 2004 ls (.int 4 :: st) I J R S Q := o_const (by decide) k_L_law_2003
theorem k_L_law_2004 : decode (sk_by 23) 2004 = .ok (.iadd, 1) := by decide +kernel
theorem x_L_law_2004 {ls st : List Value} {x y : Int32} {I : MI} {J : MJ} {R : MR} {S : Sh} {Q : SkQ} : Wp 23 2004 ls (.int y :: .int x :: st) I J R S Q = Wp 23 2005 ls (.int (x + y) :: st) I J R S Q := o_iadd k_L_law_2004
theorem k_L_law_2005 : decode (sk_by 23) 2005 = .ok (.iaload, 1) := by decide +kernel
theorem x_L_law_2005 {ls st : List Value} {a : Nat} {i : Int32} {I : MI} {J : MJ} {R : MR} {S : Sh} {Q : SkQ} (ha : S.1 a = 30) (hi : inb i (S.2.1 a) = true) : Wp 23 2005 ls (.int i :: .ref a :: st) I J R S Q = Wp 23 2006 ls (.int (I a (ix i)) :: st) I J R S Q := o_iaload k_L_law_2005 ha hi
theorem x_L_law_2005C {ls st : List Value} {a : Nat} {i : Int32} {I : MI} {J : MJ} {R : MR} {S : Sh} {Q : SkQ} (ha : S.1 a = 40) (hi : inb i (S.2.1 a) = true) : Wp 23 2005 ls (.int i :: .ref a :: st) I J R S Q = Wp 23 2006 ls (.int (I a (ix i)) :: st) I J R S Q := o_ialoadC k_L_law_2005 ha hi
theorem k_L_law_2006 : decode (sk_by 23) 2006 = .ok (.i2l, 1) := by decide +kernel
theorem x_L_law_2006 {ls st : List Value} {x : Int32} {I : MI} {J : MJ} {R : MR} {S : Sh} {Q : SkQ} : Wp 23 2006 ls (.int x :: st) I J R S Q = Wp 23 2007 ls (.long x.toInt64 :: st) I J R S Q := o_i2l k_L_law_2006
theorem k_L_law_2007 : decode (sk_by 23) 2007 = .ok (.ldc2_w 97, 3) := by decide +kernel
theorem x_L_law_2007 {ls st : List Value} {I : MI} {J : MJ} {R : MR} {S : Sh} {Q : SkQ} : Wp 23 2007 ls st I J R S Q = Wp 23 2010 ls (.long 4294967295 :: st) I J R S Q := o_ldc2_w (show sk_lkK (sk_cl 23) 97 = some 4294967295 by decide +kernel) k_L_law_2007
theorem k_L_law_2010 : decode (sk_by 23) 2010 = .ok (.land, 1) := by decide +kernel
theorem x_L_law_2010 {ls st : List Value} {x y : Int64} {I : MI} {J : MJ} {R : MR} {S : Sh} {Q : SkQ} : Wp 23 2010 ls (.long y :: .long x :: st) I J R S Q = Wp 23 2011 ls (.long (x &&& y) :: st) I J R S Q := o_land k_L_law_2010
theorem k_L_law_2011 : decode (sk_by 23) 2011 = .ok (.lor, 1) := by decide +kernel
theorem x_L_law_2011 {ls st : List Value} {x y : Int64} {I : MI} {J : MJ} {R : MR} {S : Sh} {Q : SkQ} : Wp 23 2011 ls (.long y :: .long x :: st) I J R S Q = Wp 23 2012 ls (.long (x ||| y) :: st) I J R S Q := o_lor k_L_law_2011
theorem k_L_law_2012 : decode (sk_by 23) 2012 = .ok (.invokevirtual 177, 3) := by decide +kernel
theorem x_L_law_2012 {ls : List Value} {a0 : Nat} {a1 : Int64} {a2 : Int64} {I : MI} {J : MJ} {R : MR} {S : Sh} {Q : SkQ} (ha : S.1 a0 = 8) : Wp 23 2012 ls (.long a2 :: .long a1 :: .ref a0 :: []) I J R S Q = Wp 236 0 [.ref a0, .long a1, nov, .long a2, nov, nov, nov, nov, nov, nov, nov] [] I J R S (Ret 23 2012 2015 236 ls [] Q) := o_call (as := [.ref a0, .long a1, .long a2]) (rest := []) (show sk_lkM (sk_cl 23) 177 = some 236 by decide +kernel) (by decide) (by decide) (by (decide +kernel)) (ins := .invokevirtual 177) (by (decide +kernel)) k_L_law_2012 rfl (show 3 = sk_na 236 by (decide +kernel)) (Nat.le_of_ble_eq_true rfl) (Nat.le_trans (show (argL [.ref a0, .long a1, .long a2]).length ≤ 11 from Nat.le_of_ble_eq_true rfl) (by (decide +kernel))) (rcv_of (by (decide +kernel)) (by decide) ha)
theorem k_L_law_2015 : decode (sk_by 23) 2015 = .ok (.istore 6, 2) := by decide +kernel
theorem x_L_law_2015 {st : List Value} {l0 : Nat} {l1 : Nat} {l2 : Nat} {l3 : Nat} {l4 : Int32} {l5 : Int32} {l6 : Value} {x : Int32} {I : MI} {J : MJ} {R : MR} {S : Sh} {Q : SkQ} : Wp 23 2015 [.ref l0, .ref l1, .ref l2, .ref l3, .int l4, .int l5, l6, nov] (.int x :: st) I J R S Q = Wp 23 2017 [.ref l0, .ref l1, .ref l2, .ref l3, .int l4, .int l5, .int x, nov] st I J R S Q := o_istore (Nat.le_of_ble_eq_true rfl) rfl k_L_law_2015
theorem k_L_law_2017 : decode (sk_by 23) 2017 = .ok (.aload_n 2, 1) := by decide +kernel
theorem x_L_law_2017 {st : List Value} {l0 : Nat} {l1 : Nat} {l3 : Nat} {l4 : Int32} {l5 : Int32} {l6 : Int32} {x : Nat} {I : MI} {J : MJ} {R : MR} {S : Sh} {Q : SkQ} : Wp 23 2017 [.ref l0, .ref l1, .ref x, .ref l3, .int l4, .int l5, .int l6, nov] st I J R S Q = Wp 23 2018 [.ref l0, .ref l1, .ref x, .ref l3, .int l4, .int l5, .int l6, nov] (.ref x :: st) I J R S Q := o_aload_n rfl k_L_law_2017
theorem k_L_law_2018 : decode (sk_by 23) 2018 = .ok (.invokevirtual 105, 3) := by decide +kernel
theorem x_L_law_2018 {ls : List Value} {a0 : Nat} {I : MI} {J : MJ} {R : MR} {S : Sh} {Q : SkQ} (ha : S.1 a0 = 8) : Wp 23 2018 ls (.ref a0 :: []) I J R S Q = Wp 174 0 [.ref a0] [] I J R S (Ret 23 2018 2021 174 ls [] Q) := o_call (as := [.ref a0]) (rest := []) (show sk_lkM (sk_cl 23) 105 = some 174 by decide +kernel) (by decide) (by decide) (by (decide +kernel)) (ins := .invokevirtual 105) (by (decide +kernel)) k_L_law_2018 rfl (show 1 = sk_na 174 by (decide +kernel)) (Nat.le_of_ble_eq_true rfl) (Nat.le_trans (show (argL [.ref a0]).length ≤ 1 from Nat.le_of_ble_eq_true rfl) (by (decide +kernel))) (rcv_of (by (decide +kernel)) (by decide) ha)
theorem k_L_law_2021 : decode (sk_by 23) 2021 = .ok (.iload 5, 2) := by decide +kernel
theorem x_L_law_2021 {st : List Value} {l0 : Nat} {l1 : Nat} {l2 : Nat} {l3 : Nat} {l4 : Int32} {l6 : Int32} {x : Int32} {I : MI} {J : MJ} {R : MR} {S : Sh} {Q : SkQ} : Wp 23 2021 [.ref l0, .ref l1, .ref l2, .ref l3, .int l4, .int x, .int l6, nov] st I J R S Q = Wp 23 2023 [.ref l0, .ref l1, .ref l2, .ref l3, .int l4, .int x, .int l6, nov] (.int x :: st) I J R S Q := o_iload rfl k_L_law_2021
theorem k_L_law_2023 : decode (sk_by 23) 2023 = .ok (.if_icmp .eq 5, 3) := by decide +kernel
theorem x_L_law_2023 {ls st : List Value} {x y : Int32} {I : MI} {J : MJ} {R : MR} {S : Sh} {Q : SkQ} : Wp 23 2023 ls (.int y :: .int x :: st) I J R S Q = if x = y then Wp 23 2028 ls st I J R S Q else Wp 23 2026 ls st I J R S Q := o_ic_eq rfl rfl k_L_law_2023
theorem k_L_law_2026 : decode (sk_by 23) 2026 = .ok (.iconst 0, 1) := by decide +kernel
theorem x_L_law_2026 {ls st : List Value} {I : MI} {J : MJ} {R : MR} {S : Sh} {Q : SkQ} : Wp 23 2026 ls st I J R S Q = Wp 23 2027 ls (.int 0 :: st) I J R S Q := o_const (by decide) k_L_law_2026
theorem k_L_law_2027 : decode (sk_by 23) 2027 = .ok (.ireturn, 1) := by decide +kernel
theorem x_L_law_2027 {ls : List Value} {v : Int32} {I : MI} {J : MJ} {R : MR} {S : Sh} {Q : SkQ} (h : rOk (some .boolean) v = true) : Wp 23 2027 ls [.int v] I J R S Q = Q 0 (some (.int v)) I J R S := o_ireturn k_L_law_2027 (by rw [show sk_rt 23 = some .boolean from rfl]; exact h)
theorem k_L_law_2028 : decode (sk_by 23) 2028 = .ok (.iload 5, 2) := by decide +kernel
theorem x_L_law_2028 {st : List Value} {l0 : Nat} {l1 : Nat} {l2 : Nat} {l3 : Nat} {l4 : Int32} {l6 : Int32} {x : Int32} {I : MI} {J : MJ} {R : MR} {S : Sh} {Q : SkQ} : Wp 23 2028 [.ref l0, .ref l1, .ref l2, .ref l3, .int l4, .int x, .int l6, nov] st I J R S Q = Wp 23 2030 [.ref l0, .ref l1, .ref l2, .ref l3, .int l4, .int x, .int l6, nov] (.int x :: st) I J R S Q := o_iload rfl k_L_law_2028
theorem k_L_law_2030 : decode (sk_by 23) 2030 = .ok (.ifCond .ne 15, 3) := by decide +kernel
theorem x_L_law_2030 {ls st : List Value} {x : Int32} {I : MI} {J : MJ} {R : MR} {S : Sh} {Q : SkQ} : Wp 23 2030 ls (.int x :: st) I J R S Q = if x = 0 then Wp 23 2033 ls st I J R S Q else Wp 23 2045 ls st I J R S Q := o_if_ne rfl rfl k_L_law_2030
theorem k_L_law_2033 : decode (sk_by 23) 2033 = .ok (.aload_n 3, 1) := by decide +kernel
theorem x_L_law_2033 {st : List Value} {l0 : Nat} {l1 : Nat} {l2 : Nat} {l4 : Int32} {l5 : Int32} {l6 : Int32} {x : Nat} {I : MI} {J : MJ} {R : MR} {S : Sh} {Q : SkQ} : Wp 23 2033 [.ref l0, .ref l1, .ref l2, .ref x, .int l4, .int l5, .int l6, nov] st I J R S Q = Wp 23 2034 [.ref l0, .ref l1, .ref l2, .ref x, .int l4, .int l5, .int l6, nov] (.ref x :: st) I J R S Q := o_aload_n rfl k_L_law_2033
theorem k_L_law_2034 : decode (sk_by 23) 2034 = .ok (.iconst 0, 1) := by decide +kernel
theorem x_L_law_2034 {ls st : List Value} {I : MI} {J : MJ} {R : MR} {S : Sh} {Q : SkQ} : Wp 23 2034 ls st I J R S Q = Wp 23 2035 ls (.int 0 :: st) I J R S Q := o_const (by decide) k_L_law_2034
theorem k_L_law_2035 : decode (sk_by 23) 2035 = .ok (.laload, 1) := by decide +kernel
theorem x_L_law_2035 {ls st : List Value} {a : Nat} {i : Int32} {I : MI} {J : MJ} {R : MR} {S : Sh} {Q : SkQ} (ha : S.1 a = 31) (hi : inb i (S.2.1 a) = true) : Wp 23 2035 ls (.int i :: .ref a :: st) I J R S Q = Wp 23 2036 ls (.long (J a (ix i)) :: st) I J R S Q := o_laload k_L_law_2035 ha hi
theorem k_L_law_2036 : decode (sk_by 23) 2036 = .ok (.iload 6, 2) := by decide +kernel
theorem x_L_law_2036 {st : List Value} {l0 : Nat} {l1 : Nat} {l2 : Nat} {l3 : Nat} {l4 : Int32} {l5 : Int32} {x : Int32} {I : MI} {J : MJ} {R : MR} {S : Sh} {Q : SkQ} : Wp 23 2036 [.ref l0, .ref l1, .ref l2, .ref l3, .int l4, .int l5, .int x, nov] st I J R S Q = Wp 23 2038 [.ref l0, .ref l1, .ref l2, .ref l3, .int l4, .int l5, .int x, nov] (.int x :: st) I J R S Q := o_iload rfl k_L_law_2036
theorem k_L_law_2038 : decode (sk_by 23) 2038 = .ok (.i2l, 1) := by decide +kernel
theorem x_L_law_2038 {ls st : List Value} {x : Int32} {I : MI} {J : MJ} {R : MR} {S : Sh} {Q : SkQ} : Wp 23 2038 ls (.int x :: st) I J R S Q = Wp 23 2039 ls (.long x.toInt64 :: st) I J R S Q := o_i2l k_L_law_2038
theorem k_L_law_2039 : decode (sk_by 23) 2039 = .ok (.lcmp, 1) := by decide +kernel
theorem x_L_law_2039 {ls st : List Value} {x y : Int64} {I : MI} {J : MJ} {R : MR} {S : Sh} {Q : SkQ} : Wp 23 2039 ls (.long y :: .long x :: st) I J R S Q = Wp 23 2040 ls (.int (lg_cmp x y) :: st) I J R S Q := o_lcmp k_L_law_2039
theorem k_L_law_2040 : decode (sk_by 23) 2040 = .ok (.ifCond .eq 5, 3) := by decide +kernel
theorem x_L_law_2040 {ls st : List Value} {x : Int32} {I : MI} {J : MJ} {R : MR} {S : Sh} {Q : SkQ} : Wp 23 2040 ls (.int x :: st) I J R S Q = if x = 0 then Wp 23 2045 ls st I J R S Q else Wp 23 2043 ls st I J R S Q := o_if_eq rfl rfl k_L_law_2040
theorem k_L_law_2043 : decode (sk_by 23) 2043 = .ok (.iconst 0, 1) := by decide +kernel
theorem x_L_law_2043 {ls st : List Value} {I : MI} {J : MJ} {R : MR} {S : Sh} {Q : SkQ} : Wp 23 2043 ls st I J R S Q = Wp 23 2044 ls (.int 0 :: st) I J R S Q := o_const (by decide) k_L_law_2043
theorem k_L_law_2044 : decode (sk_by 23) 2044 = .ok (.ireturn, 1) := by decide +kernel
theorem x_L_law_2044 {ls : List Value} {v : Int32} {I : MI} {J : MJ} {R : MR} {S : Sh} {Q : SkQ} (h : rOk (some .boolean) v = true) : Wp 23 2044 ls [.int v] I J R S Q = Q 0 (some (.int v)) I J R S := o_ireturn k_L_law_2044 (by rw [show sk_rt 23 = some .boolean from rfl]; exact h)
theorem k_L_law_2045 : decode (sk_by 23) 2045 = .ok (.goto 143, 3) := by decide +kernel
theorem x_L_law_2045 {ls st : List Value} {I : MI} {J : MJ} {R : MR} {S : Sh} {Q : SkQ} : Wp 23 2045 ls st I J R S Q = Wp 23 2188 ls st I J R S Q := o_goto rfl rfl k_L_law_2045
theorem k_L_law_2048 : decode (sk_by 23) 2048 = .ok (.aload_n 1, 1) := by decide +kernel
theorem x_L_law_2048 {st : List Value} {l0 : Nat} {l2 : Nat} {l3 : Nat} {l4 : Int32} {l5 : Value} {l6 : Value} {x : Nat} {I : MI} {J : MJ} {R : MR} {S : Sh} {Q : SkQ} : Wp 23 2048 [.ref l0, .ref x, .ref l2, .ref l3, .int l4, l5, l6, nov] st I J R S Q = Wp 23 2049 [.ref l0, .ref x, .ref l2, .ref l3, .int l4, l5, l6, nov] (.ref x :: st) I J R S Q := o_aload_n rfl k_L_law_2048
theorem k_L_law_2049 : decode (sk_by 23) 2049 = .ok (.aload_n 0, 1) := by decide +kernel
theorem x_L_law_2049 {st : List Value} {l1 : Nat} {l2 : Nat} {l3 : Nat} {l4 : Int32} {l5 : Value} {l6 : Value} {x : Nat} {I : MI} {J : MJ} {R : MR} {S : Sh} {Q : SkQ} : Wp 23 2049 [.ref x, .ref l1, .ref l2, .ref l3, .int l4, l5, l6, nov] st I J R S Q = Wp 23 2050 [.ref x, .ref l1, .ref l2, .ref l3, .int l4, l5, l6, nov] (.ref x :: st) I J R S Q := o_aload_n rfl k_L_law_2049
theorem k_L_law_2050 : decode (sk_by 23) 2050 = .ok (.iload 4, 2) := by decide +kernel
theorem x_L_law_2050 {st : List Value} {l0 : Nat} {l1 : Nat} {l2 : Nat} {l3 : Nat} {l5 : Value} {l6 : Value} {x : Int32} {I : MI} {J : MJ} {R : MR} {S : Sh} {Q : SkQ} : Wp 23 2050 [.ref l0, .ref l1, .ref l2, .ref l3, .int x, l5, l6, nov] st I J R S Q = Wp 23 2052 [.ref l0, .ref l1, .ref l2, .ref l3, .int x, l5, l6, nov] (.int x :: st) I J R S Q := o_iload rfl k_L_law_2050
theorem k_L_law_2052 : decode (sk_by 23) 2052 = .ok (.iconst 1, 1) := by decide +kernel
theorem x_L_law_2052 {ls st : List Value} {I : MI} {J : MJ} {R : MR} {S : Sh} {Q : SkQ} : Wp 23 2052 ls st I J R S Q = Wp 23 2053 ls (.int 1 :: st) I J R S Q := o_const (by decide) k_L_law_2052
theorem k_L_law_2053 : decode (sk_by 23) 2053 = .ok (.iadd, 1) := by decide +kernel
theorem x_L_law_2053 {ls st : List Value} {x y : Int32} {I : MI} {J : MJ} {R : MR} {S : Sh} {Q : SkQ} : Wp 23 2053 ls (.int y :: .int x :: st) I J R S Q = Wp 23 2054 ls (.int (x + y) :: st) I J R S Q := o_iadd k_L_law_2053
theorem k_L_law_2054 : decode (sk_by 23) 2054 = .ok (.iaload, 1) := by decide +kernel
theorem x_L_law_2054 {ls st : List Value} {a : Nat} {i : Int32} {I : MI} {J : MJ} {R : MR} {S : Sh} {Q : SkQ} (ha : S.1 a = 30) (hi : inb i (S.2.1 a) = true) : Wp 23 2054 ls (.int i :: .ref a :: st) I J R S Q = Wp 23 2055 ls (.int (I a (ix i)) :: st) I J R S Q := o_iaload k_L_law_2054 ha hi
theorem x_L_law_2054C {ls st : List Value} {a : Nat} {i : Int32} {I : MI} {J : MJ} {R : MR} {S : Sh} {Q : SkQ} (ha : S.1 a = 40) (hi : inb i (S.2.1 a) = true) : Wp 23 2054 ls (.int i :: .ref a :: st) I J R S Q = Wp 23 2055 ls (.int (I a (ix i)) :: st) I J R S Q := o_ialoadC k_L_law_2054 ha hi
theorem k_L_law_2055 : decode (sk_by 23) 2055 = .ok (.aload_n 3, 1) := by decide +kernel
theorem x_L_law_2055 {st : List Value} {l0 : Nat} {l1 : Nat} {l2 : Nat} {l4 : Int32} {l5 : Value} {l6 : Value} {x : Nat} {I : MI} {J : MJ} {R : MR} {S : Sh} {Q : SkQ} : Wp 23 2055 [.ref l0, .ref l1, .ref l2, .ref x, .int l4, l5, l6, nov] st I J R S Q = Wp 23 2056 [.ref l0, .ref l1, .ref l2, .ref x, .int l4, l5, l6, nov] (.ref x :: st) I J R S Q := o_aload_n rfl k_L_law_2055
theorem k_L_law_2056 : decode (sk_by 23) 2056 = .ok (.invokestatic 178, 3) := by decide +kernel
theorem x_L_law_2056 {ls : List Value} {a0 : Nat} {a1 : Int32} {a2 : Nat} {I : MI} {J : MJ} {R : MR} {S : Sh} {Q : SkQ} : Wp 23 2056 ls (.ref a2 :: .int a1 :: .ref a0 :: []) I J R S Q = Wp 21 0 [.ref a0, .int a1, .ref a2, nov] [] I J R S (Ret 23 2056 2059 21 ls [] Q) := o_call (as := [.ref a0, .int a1, .ref a2]) (rest := []) (show sk_lkM (sk_cl 23) 178 = some 21 by decide +kernel) (by decide) (by decide) (by (decide +kernel)) (ins := .invokestatic 178) (by (decide +kernel)) k_L_law_2056 rfl (show 3 = sk_na 21 by (decide +kernel)) (Nat.le_of_ble_eq_true rfl) (Nat.le_trans (show (argL [.ref a0, .int a1, .ref a2]).length ≤ 4 from Nat.le_of_ble_eq_true rfl) (by (decide +kernel))) rfl
theorem k_L_law_2059 : decode (sk_by 23) 2059 = .ok (.istore 5, 2) := by decide +kernel
theorem x_L_law_2059 {st : List Value} {l0 : Nat} {l1 : Nat} {l2 : Nat} {l3 : Nat} {l4 : Int32} {l5 : Value} {l6 : Value} {x : Int32} {I : MI} {J : MJ} {R : MR} {S : Sh} {Q : SkQ} : Wp 23 2059 [.ref l0, .ref l1, .ref l2, .ref l3, .int l4, l5, l6, nov] (.int x :: st) I J R S Q = Wp 23 2061 [.ref l0, .ref l1, .ref l2, .ref l3, .int l4, .int x, l6, nov] st I J R S Q := o_istore (Nat.le_of_ble_eq_true rfl) rfl k_L_law_2059
theorem k_L_law_2061 : decode (sk_by 23) 2061 = .ok (.aload_n 2, 1) := by decide +kernel
theorem x_L_law_2061 {st : List Value} {l0 : Nat} {l1 : Nat} {l3 : Nat} {l4 : Int32} {l5 : Int32} {l6 : Value} {x : Nat} {I : MI} {J : MJ} {R : MR} {S : Sh} {Q : SkQ} : Wp 23 2061 [.ref l0, .ref l1, .ref x, .ref l3, .int l4, .int l5, l6, nov] st I J R S Q = Wp 23 2062 [.ref l0, .ref l1, .ref x, .ref l3, .int l4, .int l5, l6, nov] (.ref x :: st) I J R S Q := o_aload_n rfl k_L_law_2061
theorem k_L_law_2062 : decode (sk_by 23) 2062 = .ok (.aload_n 0, 1) := by decide +kernel
theorem x_L_law_2062 {st : List Value} {l1 : Nat} {l2 : Nat} {l3 : Nat} {l4 : Int32} {l5 : Int32} {l6 : Value} {x : Nat} {I : MI} {J : MJ} {R : MR} {S : Sh} {Q : SkQ} : Wp 23 2062 [.ref x, .ref l1, .ref l2, .ref l3, .int l4, .int l5, l6, nov] st I J R S Q = Wp 23 2063 [.ref x, .ref l1, .ref l2, .ref l3, .int l4, .int l5, l6, nov] (.ref x :: st) I J R S Q := o_aload_n rfl k_L_law_2062
theorem k_L_law_2063 : decode (sk_by 23) 2063 = .ok (.iload 4, 2) := by decide +kernel
theorem x_L_law_2063 {st : List Value} {l0 : Nat} {l1 : Nat} {l2 : Nat} {l3 : Nat} {l5 : Int32} {l6 : Value} {x : Int32} {I : MI} {J : MJ} {R : MR} {S : Sh} {Q : SkQ} : Wp 23 2063 [.ref l0, .ref l1, .ref l2, .ref l3, .int x, .int l5, l6, nov] st I J R S Q = Wp 23 2065 [.ref l0, .ref l1, .ref l2, .ref l3, .int x, .int l5, l6, nov] (.int x :: st) I J R S Q := o_iload rfl k_L_law_2063
theorem k_L_law_2065 : decode (sk_by 23) 2065 = .ok (.iconst 1, 1) := by decide +kernel
theorem x_L_law_2065 {ls st : List Value} {I : MI} {J : MJ} {R : MR} {S : Sh} {Q : SkQ} : Wp 23 2065 ls st I J R S Q = Wp 23 2066 ls (.int 1 :: st) I J R S Q := o_const (by decide) k_L_law_2065
theorem k_L_law_2066 : decode (sk_by 23) 2066 = .ok (.iadd, 1) := by decide +kernel
theorem x_L_law_2066 {ls st : List Value} {x y : Int32} {I : MI} {J : MJ} {R : MR} {S : Sh} {Q : SkQ} : Wp 23 2066 ls (.int y :: .int x :: st) I J R S Q = Wp 23 2067 ls (.int (x + y) :: st) I J R S Q := o_iadd k_L_law_2066
theorem k_L_law_2067 : decode (sk_by 23) 2067 = .ok (.iaload, 1) := by decide +kernel
theorem x_L_law_2067 {ls st : List Value} {a : Nat} {i : Int32} {I : MI} {J : MJ} {R : MR} {S : Sh} {Q : SkQ} (ha : S.1 a = 30) (hi : inb i (S.2.1 a) = true) : Wp 23 2067 ls (.int i :: .ref a :: st) I J R S Q = Wp 23 2068 ls (.int (I a (ix i)) :: st) I J R S Q := o_iaload k_L_law_2067 ha hi
theorem x_L_law_2067C {ls st : List Value} {a : Nat} {i : Int32} {I : MI} {J : MJ} {R : MR} {S : Sh} {Q : SkQ} (ha : S.1 a = 40) (hi : inb i (S.2.1 a) = true) : Wp 23 2067 ls (.int i :: .ref a :: st) I J R S Q = Wp 23 2068 ls (.int (I a (ix i)) :: st) I J R S Q := o_ialoadC k_L_law_2067 ha hi
theorem k_L_law_2068 : decode (sk_by 23) 2068 = .ok (.invokevirtual 180, 3) := by decide +kernel
theorem x_L_law_2068 {ls : List Value} {a0 : Nat} {a1 : Int32} {I : MI} {J : MJ} {R : MR} {S : Sh} {Q : SkQ} (ha : S.1 a0 = 8) : Wp 23 2068 ls (.int a1 :: .ref a0 :: []) I J R S Q = Wp 237 0 [.ref a0, .int a1] [] I J R S (Ret 23 2068 2071 237 ls [] Q) := o_call (as := [.ref a0, .int a1]) (rest := []) (show sk_lkM (sk_cl 23) 180 = some 237 by decide +kernel) (by decide) (by decide) (by (decide +kernel)) (ins := .invokevirtual 180) (by (decide +kernel)) k_L_law_2068 rfl (show 2 = sk_na 237 by (decide +kernel)) (Nat.le_of_ble_eq_true rfl) (Nat.le_trans (show (argL [.ref a0, .int a1]).length ≤ 2 from Nat.le_of_ble_eq_true rfl) (by (decide +kernel))) (rcv_of (by (decide +kernel)) (by decide) ha)
theorem k_L_law_2071 : decode (sk_by 23) 2071 = .ok (.istore 6, 2) := by decide +kernel
theorem x_L_law_2071 {st : List Value} {l0 : Nat} {l1 : Nat} {l2 : Nat} {l3 : Nat} {l4 : Int32} {l5 : Int32} {l6 : Value} {x : Int32} {I : MI} {J : MJ} {R : MR} {S : Sh} {Q : SkQ} : Wp 23 2071 [.ref l0, .ref l1, .ref l2, .ref l3, .int l4, .int l5, l6, nov] (.int x :: st) I J R S Q = Wp 23 2073 [.ref l0, .ref l1, .ref l2, .ref l3, .int l4, .int l5, .int x, nov] st I J R S Q := o_istore (Nat.le_of_ble_eq_true rfl) rfl k_L_law_2071
theorem k_L_law_2073 : decode (sk_by 23) 2073 = .ok (.aload_n 2, 1) := by decide +kernel
theorem x_L_law_2073 {st : List Value} {l0 : Nat} {l1 : Nat} {l3 : Nat} {l4 : Int32} {l5 : Int32} {l6 : Int32} {x : Nat} {I : MI} {J : MJ} {R : MR} {S : Sh} {Q : SkQ} : Wp 23 2073 [.ref l0, .ref l1, .ref x, .ref l3, .int l4, .int l5, .int l6, nov] st I J R S Q = Wp 23 2074 [.ref l0, .ref l1, .ref x, .ref l3, .int l4, .int l5, .int l6, nov] (.ref x :: st) I J R S Q := o_aload_n rfl k_L_law_2073
theorem k_L_law_2074 : decode (sk_by 23) 2074 = .ok (.invokevirtual 105, 3) := by decide +kernel
theorem x_L_law_2074 {ls : List Value} {a0 : Nat} {I : MI} {J : MJ} {R : MR} {S : Sh} {Q : SkQ} (ha : S.1 a0 = 8) : Wp 23 2074 ls (.ref a0 :: []) I J R S Q = Wp 174 0 [.ref a0] [] I J R S (Ret 23 2074 2077 174 ls [] Q) := o_call (as := [.ref a0]) (rest := []) (show sk_lkM (sk_cl 23) 105 = some 174 by decide +kernel) (by decide) (by decide) (by (decide +kernel)) (ins := .invokevirtual 105) (by (decide +kernel)) k_L_law_2074 rfl (show 1 = sk_na 174 by (decide +kernel)) (Nat.le_of_ble_eq_true rfl) (Nat.le_trans (show (argL [.ref a0]).length ≤ 1 from Nat.le_of_ble_eq_true rfl) (by (decide +kernel))) (rcv_of (by (decide +kernel)) (by decide) ha)
theorem k_L_law_2077 : decode (sk_by 23) 2077 = .ok (.iload 5, 2) := by decide +kernel
theorem x_L_law_2077 {st : List Value} {l0 : Nat} {l1 : Nat} {l2 : Nat} {l3 : Nat} {l4 : Int32} {l6 : Int32} {x : Int32} {I : MI} {J : MJ} {R : MR} {S : Sh} {Q : SkQ} : Wp 23 2077 [.ref l0, .ref l1, .ref l2, .ref l3, .int l4, .int x, .int l6, nov] st I J R S Q = Wp 23 2079 [.ref l0, .ref l1, .ref l2, .ref l3, .int l4, .int x, .int l6, nov] (.int x :: st) I J R S Q := o_iload rfl k_L_law_2077
theorem k_L_law_2079 : decode (sk_by 23) 2079 = .ok (.if_icmp .eq 5, 3) := by decide +kernel
theorem x_L_law_2079 {ls st : List Value} {x y : Int32} {I : MI} {J : MJ} {R : MR} {S : Sh} {Q : SkQ} : Wp 23 2079 ls (.int y :: .int x :: st) I J R S Q = if x = y then Wp 23 2084 ls st I J R S Q else Wp 23 2082 ls st I J R S Q := o_ic_eq rfl rfl k_L_law_2079
theorem k_L_law_2082 : decode (sk_by 23) 2082 = .ok (.iconst 0, 1) := by decide +kernel
theorem x_L_law_2082 {ls st : List Value} {I : MI} {J : MJ} {R : MR} {S : Sh} {Q : SkQ} : Wp 23 2082 ls st I J R S Q = Wp 23 2083 ls (.int 0 :: st) I J R S Q := o_const (by decide) k_L_law_2082
theorem k_L_law_2083 : decode (sk_by 23) 2083 = .ok (.ireturn, 1) := by decide +kernel
theorem x_L_law_2083 {ls : List Value} {v : Int32} {I : MI} {J : MJ} {R : MR} {S : Sh} {Q : SkQ} (h : rOk (some .boolean) v = true) : Wp 23 2083 ls [.int v] I J R S Q = Q 0 (some (.int v)) I J R S := o_ireturn k_L_law_2083 (by rw [show sk_rt 23 = some .boolean from rfl]; exact h)
theorem k_L_law_2084 : decode (sk_by 23) 2084 = .ok (.iload 5, 2) := by decide +kernel
theorem x_L_law_2084 {st : List Value} {l0 : Nat} {l1 : Nat} {l2 : Nat} {l3 : Nat} {l4 : Int32} {l6 : Int32} {x : Int32} {I : MI} {J : MJ} {R : MR} {S : Sh} {Q : SkQ} : Wp 23 2084 [.ref l0, .ref l1, .ref l2, .ref l3, .int l4, .int x, .int l6, nov] st I J R S Q = Wp 23 2086 [.ref l0, .ref l1, .ref l2, .ref l3, .int l4, .int x, .int l6, nov] (.int x :: st) I J R S Q := o_iload rfl k_L_law_2084
theorem k_L_law_2086 : decode (sk_by 23) 2086 = .ok (.ifCond .ne 15, 3) := by decide +kernel
theorem x_L_law_2086 {ls st : List Value} {x : Int32} {I : MI} {J : MJ} {R : MR} {S : Sh} {Q : SkQ} : Wp 23 2086 ls (.int x :: st) I J R S Q = if x = 0 then Wp 23 2089 ls st I J R S Q else Wp 23 2101 ls st I J R S Q := o_if_ne rfl rfl k_L_law_2086
theorem k_L_law_2089 : decode (sk_by 23) 2089 = .ok (.aload_n 3, 1) := by decide +kernel
theorem x_L_law_2089 {st : List Value} {l0 : Nat} {l1 : Nat} {l2 : Nat} {l4 : Int32} {l5 : Int32} {l6 : Int32} {x : Nat} {I : MI} {J : MJ} {R : MR} {S : Sh} {Q : SkQ} : Wp 23 2089 [.ref l0, .ref l1, .ref l2, .ref x, .int l4, .int l5, .int l6, nov] st I J R S Q = Wp 23 2090 [.ref l0, .ref l1, .ref l2, .ref x, .int l4, .int l5, .int l6, nov] (.ref x :: st) I J R S Q := o_aload_n rfl k_L_law_2089
theorem k_L_law_2090 : decode (sk_by 23) 2090 = .ok (.iconst 0, 1) := by decide +kernel
theorem x_L_law_2090 {ls st : List Value} {I : MI} {J : MJ} {R : MR} {S : Sh} {Q : SkQ} : Wp 23 2090 ls st I J R S Q = Wp 23 2091 ls (.int 0 :: st) I J R S Q := o_const (by decide) k_L_law_2090
theorem k_L_law_2091 : decode (sk_by 23) 2091 = .ok (.laload, 1) := by decide +kernel
theorem x_L_law_2091 {ls st : List Value} {a : Nat} {i : Int32} {I : MI} {J : MJ} {R : MR} {S : Sh} {Q : SkQ} (ha : S.1 a = 31) (hi : inb i (S.2.1 a) = true) : Wp 23 2091 ls (.int i :: .ref a :: st) I J R S Q = Wp 23 2092 ls (.long (J a (ix i)) :: st) I J R S Q := o_laload k_L_law_2091 ha hi
theorem k_L_law_2092 : decode (sk_by 23) 2092 = .ok (.iload 6, 2) := by decide +kernel
theorem x_L_law_2092 {st : List Value} {l0 : Nat} {l1 : Nat} {l2 : Nat} {l3 : Nat} {l4 : Int32} {l5 : Int32} {x : Int32} {I : MI} {J : MJ} {R : MR} {S : Sh} {Q : SkQ} : Wp 23 2092 [.ref l0, .ref l1, .ref l2, .ref l3, .int l4, .int l5, .int x, nov] st I J R S Q = Wp 23 2094 [.ref l0, .ref l1, .ref l2, .ref l3, .int l4, .int l5, .int x, nov] (.int x :: st) I J R S Q := o_iload rfl k_L_law_2092
theorem k_L_law_2094 : decode (sk_by 23) 2094 = .ok (.i2l, 1) := by decide +kernel
theorem x_L_law_2094 {ls st : List Value} {x : Int32} {I : MI} {J : MJ} {R : MR} {S : Sh} {Q : SkQ} : Wp 23 2094 ls (.int x :: st) I J R S Q = Wp 23 2095 ls (.long x.toInt64 :: st) I J R S Q := o_i2l k_L_law_2094
theorem k_L_law_2095 : decode (sk_by 23) 2095 = .ok (.lcmp, 1) := by decide +kernel
theorem x_L_law_2095 {ls st : List Value} {x y : Int64} {I : MI} {J : MJ} {R : MR} {S : Sh} {Q : SkQ} : Wp 23 2095 ls (.long y :: .long x :: st) I J R S Q = Wp 23 2096 ls (.int (lg_cmp x y) :: st) I J R S Q := o_lcmp k_L_law_2095
theorem k_L_law_2096 : decode (sk_by 23) 2096 = .ok (.ifCond .eq 5, 3) := by decide +kernel
theorem x_L_law_2096 {ls st : List Value} {x : Int32} {I : MI} {J : MJ} {R : MR} {S : Sh} {Q : SkQ} : Wp 23 2096 ls (.int x :: st) I J R S Q = if x = 0 then Wp 23 2101 ls st I J R S Q else Wp 23 2099 ls st I J R S Q := o_if_eq rfl rfl k_L_law_2096
theorem k_L_law_2099 : decode (sk_by 23) 2099 = .ok (.iconst 0, 1) := by decide +kernel
theorem x_L_law_2099 {ls st : List Value} {I : MI} {J : MJ} {R : MR} {S : Sh} {Q : SkQ} : Wp 23 2099 ls st I J R S Q = Wp 23 2100 ls (.int 0 :: st) I J R S Q := o_const (by decide) k_L_law_2099
theorem k_L_law_2100 : decode (sk_by 23) 2100 = .ok (.ireturn, 1) := by decide +kernel
theorem x_L_law_2100 {ls : List Value} {v : Int32} {I : MI} {J : MJ} {R : MR} {S : Sh} {Q : SkQ} (h : rOk (some .boolean) v = true) : Wp 23 2100 ls [.int v] I J R S Q = Q 0 (some (.int v)) I J R S := o_ireturn k_L_law_2100 (by rw [show sk_rt 23 = some .boolean from rfl]; exact h)
theorem k_L_law_2101 : decode (sk_by 23) 2101 = .ok (.goto 87, 3) := by decide +kernel
theorem x_L_law_2101 {ls st : List Value} {I : MI} {J : MJ} {R : MR} {S : Sh} {Q : SkQ} : Wp 23 2101 ls st I J R S Q = Wp 23 2188 ls st I J R S Q := o_goto rfl rfl k_L_law_2101
theorem k_L_law_2104 : decode (sk_by 23) 2104 = .ok (.aload_n 1, 1) := by decide +kernel
theorem x_L_law_2104 {st : List Value} {l0 : Nat} {l2 : Nat} {l3 : Nat} {l4 : Int32} {l5 : Value} {l6 : Value} {x : Nat} {I : MI} {J : MJ} {R : MR} {S : Sh} {Q : SkQ} : Wp 23 2104 [.ref l0, .ref x, .ref l2, .ref l3, .int l4, l5, l6, nov] st I J R S Q = Wp 23 2105 [.ref l0, .ref x, .ref l2, .ref l3, .int l4, l5, l6, nov] (.ref x :: st) I J R S Q := o_aload_n rfl k_L_law_2104
theorem k_L_law_2105 : decode (sk_by 23) 2105 = .ok (.invokevirtual 181, 3) := by decide +kernel
theorem x_L_law_2105 {ls : List Value} {a0 : Nat} {I : MI} {J : MJ} {R : MR} {S : Sh} {Q : SkQ} (ha : S.1 a0 = 7) : Wp 23 2105 ls (.ref a0 :: []) I J R S Q = Wp 48 0 [.ref a0] [] I J R S (Ret 23 2105 2108 48 ls [] Q) := o_call (as := [.ref a0]) (rest := []) (show sk_lkM (sk_cl 23) 181 = some 48 by decide +kernel) (by decide) (by decide) (by (decide +kernel)) (ins := .invokevirtual 181) (by (decide +kernel)) k_L_law_2105 rfl (show 1 = sk_na 48 by (decide +kernel)) (Nat.le_of_ble_eq_true rfl) (Nat.le_trans (show (argL [.ref a0]).length ≤ 1 from Nat.le_of_ble_eq_true rfl) (by (decide +kernel))) (rcv_of (by (decide +kernel)) (by decide) ha)
theorem k_L_law_2108 : decode (sk_by 23) 2108 = .ok (.aload_n 2, 1) := by decide +kernel
theorem x_L_law_2108 {st : List Value} {l0 : Nat} {l1 : Nat} {l3 : Nat} {l4 : Int32} {l5 : Value} {l6 : Value} {x : Nat} {I : MI} {J : MJ} {R : MR} {S : Sh} {Q : SkQ} : Wp 23 2108 [.ref l0, .ref l1, .ref x, .ref l3, .int l4, l5, l6, nov] st I J R S Q = Wp 23 2109 [.ref l0, .ref l1, .ref x, .ref l3, .int l4, l5, l6, nov] (.ref x :: st) I J R S Q := o_aload_n rfl k_L_law_2108
theorem k_L_law_2109 : decode (sk_by 23) 2109 = .ok (.invokevirtual 184, 3) := by decide +kernel
theorem x_L_law_2109 {ls : List Value} {a0 : Nat} {s0 : Int32} {I : MI} {J : MJ} {R : MR} {S : Sh} {Q : SkQ} (ha : S.1 a0 = 8) : Wp 23 2109 ls (.ref a0 :: [.int s0]) I J R S Q = Wp 238 0 [.ref a0, nov] [] I J R S (Ret 23 2109 2112 238 ls [.int s0] Q) := o_call (as := [.ref a0]) (rest := [.int s0]) (show sk_lkM (sk_cl 23) 184 = some 238 by decide +kernel) (by decide) (by decide) (by (decide +kernel)) (ins := .invokevirtual 184) (by (decide +kernel)) k_L_law_2109 rfl (show 1 = sk_na 238 by (decide +kernel)) (Nat.le_of_ble_eq_true rfl) (Nat.le_trans (show (argL [.ref a0]).length ≤ 2 from Nat.le_of_ble_eq_true rfl) (by (decide +kernel))) (rcv_of (by (decide +kernel)) (by decide) ha)
theorem k_L_law_2112 : decode (sk_by 23) 2112 = .ok (.if_icmp .eq 76, 3) := by decide +kernel
theorem x_L_law_2112 {ls st : List Value} {x y : Int32} {I : MI} {J : MJ} {R : MR} {S : Sh} {Q : SkQ} : Wp 23 2112 ls (.int y :: .int x :: st) I J R S Q = if x = y then Wp 23 2188 ls st I J R S Q else Wp 23 2115 ls st I J R S Q := o_ic_eq rfl rfl k_L_law_2112
theorem k_L_law_2115 : decode (sk_by 23) 2115 = .ok (.iconst 0, 1) := by decide +kernel
theorem x_L_law_2115 {ls st : List Value} {I : MI} {J : MJ} {R : MR} {S : Sh} {Q : SkQ} : Wp 23 2115 ls st I J R S Q = Wp 23 2116 ls (.int 0 :: st) I J R S Q := o_const (by decide) k_L_law_2115
theorem k_L_law_2116 : decode (sk_by 23) 2116 = .ok (.ireturn, 1) := by decide +kernel
theorem x_L_law_2116 {ls : List Value} {v : Int32} {I : MI} {J : MJ} {R : MR} {S : Sh} {Q : SkQ} (h : rOk (some .boolean) v = true) : Wp 23 2116 ls [.int v] I J R S Q = Q 0 (some (.int v)) I J R S := o_ireturn k_L_law_2116 (by rw [show sk_rt 23 = some .boolean from rfl]; exact h)
theorem k_L_law_2117 : decode (sk_by 23) 2117 = .ok (.aload_n 1, 1) := by decide +kernel
theorem x_L_law_2117 {st : List Value} {l0 : Nat} {l2 : Nat} {l3 : Nat} {l4 : Int32} {l5 : Value} {l6 : Value} {x : Nat} {I : MI} {J : MJ} {R : MR} {S : Sh} {Q : SkQ} : Wp 23 2117 [.ref l0, .ref x, .ref l2, .ref l3, .int l4, l5, l6, nov] st I J R S Q = Wp 23 2118 [.ref l0, .ref x, .ref l2, .ref l3, .int l4, l5, l6, nov] (.ref x :: st) I J R S Q := o_aload_n rfl k_L_law_2117
theorem k_L_law_2118 : decode (sk_by 23) 2118 = .ok (.invokevirtual 185, 3) := by decide +kernel
theorem x_L_law_2118 {ls : List Value} {a0 : Nat} {I : MI} {J : MJ} {R : MR} {S : Sh} {Q : SkQ} (ha : S.1 a0 = 7) : Wp 23 2118 ls (.ref a0 :: []) I J R S Q = Wp 49 0 [.ref a0, nov, nov] [] I J R S (Ret 23 2118 2121 49 ls [] Q) := o_call (as := [.ref a0]) (rest := []) (show sk_lkM (sk_cl 23) 185 = some 49 by decide +kernel) (by decide) (by decide) (by (decide +kernel)) (ins := .invokevirtual 185) (by (decide +kernel)) k_L_law_2118 rfl (show 1 = sk_na 49 by (decide +kernel)) (Nat.le_of_ble_eq_true rfl) (Nat.le_trans (show (argL [.ref a0]).length ≤ 3 from Nat.le_of_ble_eq_true rfl) (by (decide +kernel))) (rcv_of (by (decide +kernel)) (by decide) ha)
theorem k_L_law_2121 : decode (sk_by 23) 2121 = .ok (.aload_n 2, 1) := by decide +kernel
theorem x_L_law_2121 {st : List Value} {l0 : Nat} {l1 : Nat} {l3 : Nat} {l4 : Int32} {l5 : Value} {l6 : Value} {x : Nat} {I : MI} {J : MJ} {R : MR} {S : Sh} {Q : SkQ} : Wp 23 2121 [.ref l0, .ref l1, .ref x, .ref l3, .int l4, l5, l6, nov] st I J R S Q = Wp 23 2122 [.ref l0, .ref l1, .ref x, .ref l3, .int l4, l5, l6, nov] (.ref x :: st) I J R S Q := o_aload_n rfl k_L_law_2121
theorem k_L_law_2122 : decode (sk_by 23) 2122 = .ok (.invokevirtual 188, 3) := by decide +kernel
theorem x_L_law_2122 {ls : List Value} {a0 : Nat} {s0 : Int32} {I : MI} {J : MJ} {R : MR} {S : Sh} {Q : SkQ} (ha : S.1 a0 = 8) : Wp 23 2122 ls (.ref a0 :: [.int s0]) I J R S Q = Wp 247 0 [.ref a0, nov, nov] [] I J R S (Ret 23 2122 2125 247 ls [.int s0] Q) := o_call (as := [.ref a0]) (rest := [.int s0]) (show sk_lkM (sk_cl 23) 188 = some 247 by decide +kernel) (by decide) (by decide) (by (decide +kernel)) (ins := .invokevirtual 188) (by (decide +kernel)) k_L_law_2122 rfl (show 1 = sk_na 247 by (decide +kernel)) (Nat.le_of_ble_eq_true rfl) (Nat.le_trans (show (argL [.ref a0]).length ≤ 3 from Nat.le_of_ble_eq_true rfl) (by (decide +kernel))) (rcv_of (by (decide +kernel)) (by decide) ha)
theorem k_L_law_2125 : decode (sk_by 23) 2125 = .ok (.if_icmp .eq 63, 3) := by decide +kernel
theorem x_L_law_2125 {ls st : List Value} {x y : Int32} {I : MI} {J : MJ} {R : MR} {S : Sh} {Q : SkQ} : Wp 23 2125 ls (.int y :: .int x :: st) I J R S Q = if x = y then Wp 23 2188 ls st I J R S Q else Wp 23 2128 ls st I J R S Q := o_ic_eq rfl rfl k_L_law_2125
theorem k_L_law_2128 : decode (sk_by 23) 2128 = .ok (.iconst 0, 1) := by decide +kernel
theorem x_L_law_2128 {ls st : List Value} {I : MI} {J : MJ} {R : MR} {S : Sh} {Q : SkQ} : Wp 23 2128 ls st I J R S Q = Wp 23 2129 ls (.int 0 :: st) I J R S Q := o_const (by decide) k_L_law_2128
theorem k_L_law_2129 : decode (sk_by 23) 2129 = .ok (.ireturn, 1) := by decide +kernel
theorem x_L_law_2129 {ls : List Value} {v : Int32} {I : MI} {J : MJ} {R : MR} {S : Sh} {Q : SkQ} (h : rOk (some .boolean) v = true) : Wp 23 2129 ls [.int v] I J R S Q = Q 0 (some (.int v)) I J R S := o_ireturn k_L_law_2129 (by rw [show sk_rt 23 = some .boolean from rfl]; exact h)
theorem k_L_law_2130 : decode (sk_by 23) 2130 = .ok (.aload_n 1, 1) := by decide +kernel
theorem x_L_law_2130 {st : List Value} {l0 : Nat} {l2 : Nat} {l3 : Nat} {l4 : Int32} {l5 : Value} {l6 : Value} {x : Nat} {I : MI} {J : MJ} {R : MR} {S : Sh} {Q : SkQ} : Wp 23 2130 [.ref l0, .ref x, .ref l2, .ref l3, .int l4, l5, l6, nov] st I J R S Q = Wp 23 2131 [.ref l0, .ref x, .ref l2, .ref l3, .int l4, l5, l6, nov] (.ref x :: st) I J R S Q := o_aload_n rfl k_L_law_2130
theorem k_L_law_2131 : decode (sk_by 23) 2131 = .ok (.aload_n 3, 1) := by decide +kernel
theorem x_L_law_2131 {st : List Value} {l0 : Nat} {l1 : Nat} {l2 : Nat} {l4 : Int32} {l5 : Value} {l6 : Value} {x : Nat} {I : MI} {J : MJ} {R : MR} {S : Sh} {Q : SkQ} : Wp 23 2131 [.ref l0, .ref l1, .ref l2, .ref x, .int l4, l5, l6, nov] st I J R S Q = Wp 23 2132 [.ref l0, .ref l1, .ref l2, .ref x, .int l4, l5, l6, nov] (.ref x :: st) I J R S Q := o_aload_n rfl k_L_law_2131
theorem k_L_law_2132 : decode (sk_by 23) 2132 = .ok (.invokestatic 189, 3) := by decide +kernel
theorem x_L_law_2132 {ls : List Value} {a0 : Nat} {a1 : Nat} {I : MI} {J : MJ} {R : MR} {S : Sh} {Q : SkQ} : Wp 23 2132 ls (.ref a1 :: .ref a0 :: []) I J R S Q = Wp 22 0 [.ref a0, .ref a1, nov] [] I J R S (Ret 23 2132 2135 22 ls [] Q) := o_call (as := [.ref a0, .ref a1]) (rest := []) (show sk_lkM (sk_cl 23) 189 = some 22 by decide +kernel) (by decide) (by decide) (by (decide +kernel)) (ins := .invokestatic 189) (by (decide +kernel)) k_L_law_2132 rfl (show 2 = sk_na 22 by (decide +kernel)) (Nat.le_of_ble_eq_true rfl) (Nat.le_trans (show (argL [.ref a0, .ref a1]).length ≤ 3 from Nat.le_of_ble_eq_true rfl) (by (decide +kernel))) rfl
theorem k_L_law_2135 : decode (sk_by 23) 2135 = .ok (.istore 5, 2) := by decide +kernel
theorem x_L_law_2135 {st : List Value} {l0 : Nat} {l1 : Nat} {l2 : Nat} {l3 : Nat} {l4 : Int32} {l5 : Value} {l6 : Value} {x : Int32} {I : MI} {J : MJ} {R : MR} {S : Sh} {Q : SkQ} : Wp 23 2135 [.ref l0, .ref l1, .ref l2, .ref l3, .int l4, l5, l6, nov] (.int x :: st) I J R S Q = Wp 23 2137 [.ref l0, .ref l1, .ref l2, .ref l3, .int l4, .int x, l6, nov] st I J R S Q := o_istore (Nat.le_of_ble_eq_true rfl) rfl k_L_law_2135
theorem k_L_law_2137 : decode (sk_by 23) 2137 = .ok (.aload_n 2, 1) := by decide +kernel
theorem x_L_law_2137 {st : List Value} {l0 : Nat} {l1 : Nat} {l3 : Nat} {l4 : Int32} {l5 : Int32} {l6 : Value} {x : Nat} {I : MI} {J : MJ} {R : MR} {S : Sh} {Q : SkQ} : Wp 23 2137 [.ref l0, .ref l1, .ref x, .ref l3, .int l4, .int l5, l6, nov] st I J R S Q = Wp 23 2138 [.ref l0, .ref l1, .ref x, .ref l3, .int l4, .int l5, l6, nov] (.ref x :: st) I J R S Q := o_aload_n rfl k_L_law_2137
theorem k_L_law_2138 : decode (sk_by 23) 2138 = .ok (.invokevirtual 191, 3) := by decide +kernel
theorem x_L_law_2138 {ls : List Value} {a0 : Nat} {I : MI} {J : MJ} {R : MR} {S : Sh} {Q : SkQ} (ha : S.1 a0 = 8) : Wp 23 2138 ls (.ref a0 :: []) I J R S Q = Wp 248 0 [.ref a0, nov] [] I J R S (Ret 23 2138 2141 248 ls [] Q) := o_call (as := [.ref a0]) (rest := []) (show sk_lkM (sk_cl 23) 191 = some 248 by decide +kernel) (by decide) (by decide) (by (decide +kernel)) (ins := .invokevirtual 191) (by (decide +kernel)) k_L_law_2138 rfl (show 1 = sk_na 248 by (decide +kernel)) (Nat.le_of_ble_eq_true rfl) (Nat.le_trans (show (argL [.ref a0]).length ≤ 2 from Nat.le_of_ble_eq_true rfl) (by (decide +kernel))) (rcv_of (by (decide +kernel)) (by decide) ha)
theorem k_L_law_2141 : decode (sk_by 23) 2141 = .ok (.istore 6, 2) := by decide +kernel
theorem x_L_law_2141 {st : List Value} {l0 : Nat} {l1 : Nat} {l2 : Nat} {l3 : Nat} {l4 : Int32} {l5 : Int32} {l6 : Value} {x : Int32} {I : MI} {J : MJ} {R : MR} {S : Sh} {Q : SkQ} : Wp 23 2141 [.ref l0, .ref l1, .ref l2, .ref l3, .int l4, .int l5, l6, nov] (.int x :: st) I J R S Q = Wp 23 2143 [.ref l0, .ref l1, .ref l2, .ref l3, .int l4, .int l5, .int x, nov] st I J R S Q := o_istore (Nat.le_of_ble_eq_true rfl) rfl k_L_law_2141
theorem k_L_law_2143 : decode (sk_by 23) 2143 = .ok (.aload_n 2, 1) := by decide +kernel
theorem x_L_law_2143 {st : List Value} {l0 : Nat} {l1 : Nat} {l3 : Nat} {l4 : Int32} {l5 : Int32} {l6 : Int32} {x : Nat} {I : MI} {J : MJ} {R : MR} {S : Sh} {Q : SkQ} : Wp 23 2143 [.ref l0, .ref l1, .ref x, .ref l3, .int l4, .int l5, .int l6, nov] st I J R S Q = Wp 23 2144 [.ref l0, .ref l1, .ref x, .ref l3, .int l4, .int l5, .int l6, nov] (.ref x :: st) I J R S Q := o_aload_n rfl k_L_law_2143
theorem k_L_law_2144 : decode (sk_by 23) 2144 = .ok (.invokevirtual 105, 3) := by decide +kernel
theorem x_L_law_2144 {ls : List Value} {a0 : Nat} {I : MI} {J : MJ} {R : MR} {S : Sh} {Q : SkQ} (ha : S.1 a0 = 8) : Wp 23 2144 ls (.ref a0 :: []) I J R S Q = Wp 174 0 [.ref a0] [] I J R S (Ret 23 2144 2147 174 ls [] Q) := o_call (as := [.ref a0]) (rest := []) (show sk_lkM (sk_cl 23) 105 = some 174 by decide +kernel) (by decide) (by decide) (by (decide +kernel)) (ins := .invokevirtual 105) (by (decide +kernel)) k_L_law_2144 rfl (show 1 = sk_na 174 by (decide +kernel)) (Nat.le_of_ble_eq_true rfl) (Nat.le_trans (show (argL [.ref a0]).length ≤ 1 from Nat.le_of_ble_eq_true rfl) (by (decide +kernel))) (rcv_of (by (decide +kernel)) (by decide) ha)
theorem k_L_law_2147 : decode (sk_by 23) 2147 = .ok (.iload 5, 2) := by decide +kernel
theorem x_L_law_2147 {st : List Value} {l0 : Nat} {l1 : Nat} {l2 : Nat} {l3 : Nat} {l4 : Int32} {l6 : Int32} {x : Int32} {I : MI} {J : MJ} {R : MR} {S : Sh} {Q : SkQ} : Wp 23 2147 [.ref l0, .ref l1, .ref l2, .ref l3, .int l4, .int x, .int l6, nov] st I J R S Q = Wp 23 2149 [.ref l0, .ref l1, .ref l2, .ref l3, .int l4, .int x, .int l6, nov] (.int x :: st) I J R S Q := o_iload rfl k_L_law_2147
theorem k_L_law_2149 : decode (sk_by 23) 2149 = .ok (.if_icmp .eq 5, 3) := by decide +kernel
theorem x_L_law_2149 {ls st : List Value} {x y : Int32} {I : MI} {J : MJ} {R : MR} {S : Sh} {Q : SkQ} : Wp 23 2149 ls (.int y :: .int x :: st) I J R S Q = if x = y then Wp 23 2154 ls st I J R S Q else Wp 23 2152 ls st I J R S Q := o_ic_eq rfl rfl k_L_law_2149
theorem k_L_law_2152 : decode (sk_by 23) 2152 = .ok (.iconst 0, 1) := by decide +kernel
theorem x_L_law_2152 {ls st : List Value} {I : MI} {J : MJ} {R : MR} {S : Sh} {Q : SkQ} : Wp 23 2152 ls st I J R S Q = Wp 23 2153 ls (.int 0 :: st) I J R S Q := o_const (by decide) k_L_law_2152
theorem k_L_law_2153 : decode (sk_by 23) 2153 = .ok (.ireturn, 1) := by decide +kernel
theorem x_L_law_2153 {ls : List Value} {v : Int32} {I : MI} {J : MJ} {R : MR} {S : Sh} {Q : SkQ} (h : rOk (some .boolean) v = true) : Wp 23 2153 ls [.int v] I J R S Q = Q 0 (some (.int v)) I J R S := o_ireturn k_L_law_2153 (by rw [show sk_rt 23 = some .boolean from rfl]; exact h)
theorem k_L_law_2154 : decode (sk_by 23) 2154 = .ok (.iload 5, 2) := by decide +kernel
theorem x_L_law_2154 {st : List Value} {l0 : Nat} {l1 : Nat} {l2 : Nat} {l3 : Nat} {l4 : Int32} {l6 : Int32} {x : Int32} {I : MI} {J : MJ} {R : MR} {S : Sh} {Q : SkQ} : Wp 23 2154 [.ref l0, .ref l1, .ref l2, .ref l3, .int l4, .int x, .int l6, nov] st I J R S Q = Wp 23 2156 [.ref l0, .ref l1, .ref l2, .ref l3, .int l4, .int x, .int l6, nov] (.int x :: st) I J R S Q := o_iload rfl k_L_law_2154
theorem k_L_law_2156 : decode (sk_by 23) 2156 = .ok (.ifCond .ne 15, 3) := by decide +kernel
theorem x_L_law_2156 {ls st : List Value} {x : Int32} {I : MI} {J : MJ} {R : MR} {S : Sh} {Q : SkQ} : Wp 23 2156 ls (.int x :: st) I J R S Q = if x = 0 then Wp 23 2159 ls st I J R S Q else Wp 23 2171 ls st I J R S Q := o_if_ne rfl rfl k_L_law_2156
theorem k_L_law_2159 : decode (sk_by 23) 2159 = .ok (.aload_n 3, 1) := by decide +kernel
theorem x_L_law_2159 {st : List Value} {l0 : Nat} {l1 : Nat} {l2 : Nat} {l4 : Int32} {l5 : Int32} {l6 : Int32} {x : Nat} {I : MI} {J : MJ} {R : MR} {S : Sh} {Q : SkQ} : Wp 23 2159 [.ref l0, .ref l1, .ref l2, .ref x, .int l4, .int l5, .int l6, nov] st I J R S Q = Wp 23 2160 [.ref l0, .ref l1, .ref l2, .ref x, .int l4, .int l5, .int l6, nov] (.ref x :: st) I J R S Q := o_aload_n rfl k_L_law_2159
theorem k_L_law_2160 : decode (sk_by 23) 2160 = .ok (.iconst 0, 1) := by decide +kernel
theorem x_L_law_2160 {ls st : List Value} {I : MI} {J : MJ} {R : MR} {S : Sh} {Q : SkQ} : Wp 23 2160 ls st I J R S Q = Wp 23 2161 ls (.int 0 :: st) I J R S Q := o_const (by decide) k_L_law_2160
theorem k_L_law_2161 : decode (sk_by 23) 2161 = .ok (.laload, 1) := by decide +kernel
theorem x_L_law_2161 {ls st : List Value} {a : Nat} {i : Int32} {I : MI} {J : MJ} {R : MR} {S : Sh} {Q : SkQ} (ha : S.1 a = 31) (hi : inb i (S.2.1 a) = true) : Wp 23 2161 ls (.int i :: .ref a :: st) I J R S Q = Wp 23 2162 ls (.long (J a (ix i)) :: st) I J R S Q := o_laload k_L_law_2161 ha hi
theorem k_L_law_2162 : decode (sk_by 23) 2162 = .ok (.iload 6, 2) := by decide +kernel
theorem x_L_law_2162 {st : List Value} {l0 : Nat} {l1 : Nat} {l2 : Nat} {l3 : Nat} {l4 : Int32} {l5 : Int32} {x : Int32} {I : MI} {J : MJ} {R : MR} {S : Sh} {Q : SkQ} : Wp 23 2162 [.ref l0, .ref l1, .ref l2, .ref l3, .int l4, .int l5, .int x, nov] st I J R S Q = Wp 23 2164 [.ref l0, .ref l1, .ref l2, .ref l3, .int l4, .int l5, .int x, nov] (.int x :: st) I J R S Q := o_iload rfl k_L_law_2162
theorem k_L_law_2164 : decode (sk_by 23) 2164 = .ok (.i2l, 1) := by decide +kernel
theorem x_L_law_2164 {ls st : List Value} {x : Int32} {I : MI} {J : MJ} {R : MR} {S : Sh} {Q : SkQ} : Wp 23 2164 ls (.int x :: st) I J R S Q = Wp 23 2165 ls (.long x.toInt64 :: st) I J R S Q := o_i2l k_L_law_2164
theorem k_L_law_2165 : decode (sk_by 23) 2165 = .ok (.lcmp, 1) := by decide +kernel
theorem x_L_law_2165 {ls st : List Value} {x y : Int64} {I : MI} {J : MJ} {R : MR} {S : Sh} {Q : SkQ} : Wp 23 2165 ls (.long y :: .long x :: st) I J R S Q = Wp 23 2166 ls (.int (lg_cmp x y) :: st) I J R S Q := o_lcmp k_L_law_2165
theorem k_L_law_2166 : decode (sk_by 23) 2166 = .ok (.ifCond .eq 5, 3) := by decide +kernel
theorem x_L_law_2166 {ls st : List Value} {x : Int32} {I : MI} {J : MJ} {R : MR} {S : Sh} {Q : SkQ} : Wp 23 2166 ls (.int x :: st) I J R S Q = if x = 0 then Wp 23 2171 ls st I J R S Q else Wp 23 2169 ls st I J R S Q := o_if_eq rfl rfl k_L_law_2166
theorem k_L_law_2169 : decode (sk_by 23) 2169 = .ok (.iconst 0, 1) := by decide +kernel
theorem x_L_law_2169 {ls st : List Value} {I : MI} {J : MJ} {R : MR} {S : Sh} {Q : SkQ} : Wp 23 2169 ls st I J R S Q = Wp 23 2170 ls (.int 0 :: st) I J R S Q := o_const (by decide) k_L_law_2169
theorem k_L_law_2170 : decode (sk_by 23) 2170 = .ok (.ireturn, 1) := by decide +kernel
theorem x_L_law_2170 {ls : List Value} {v : Int32} {I : MI} {J : MJ} {R : MR} {S : Sh} {Q : SkQ} (h : rOk (some .boolean) v = true) : Wp 23 2170 ls [.int v] I J R S Q = Q 0 (some (.int v)) I J R S := o_ireturn k_L_law_2170 (by rw [show sk_rt 23 = some .boolean from rfl]; exact h)
theorem k_L_law_2171 : decode (sk_by 23) 2171 = .ok (.goto 17, 3) := by decide +kernel
theorem x_L_law_2171 {ls st : List Value} {I : MI} {J : MJ} {R : MR} {S : Sh} {Q : SkQ} : Wp 23 2171 ls st I J R S Q = Wp 23 2188 ls st I J R S Q := o_goto rfl rfl k_L_law_2171
theorem k_L_law_2174 : decode (sk_by 23) 2174 = .ok (.aload_n 1, 1) := by decide +kernel
theorem x_L_law_2174 {st : List Value} {l0 : Nat} {l2 : Nat} {l3 : Nat} {l4 : Int32} {l5 : Value} {l6 : Value} {x : Nat} {I : MI} {J : MJ} {R : MR} {S : Sh} {Q : SkQ} : Wp 23 2174 [.ref l0, .ref x, .ref l2, .ref l3, .int l4, l5, l6, nov] st I J R S Q = Wp 23 2175 [.ref l0, .ref x, .ref l2, .ref l3, .int l4, l5, l6, nov] (.ref x :: st) I J R S Q := o_aload_n rfl k_L_law_2174
theorem k_L_law_2175 : decode (sk_by 23) 2175 = .ok (.invokevirtual 192, 3) := by decide +kernel
theorem x_L_law_2175 {ls : List Value} {a0 : Nat} {I : MI} {J : MJ} {R : MR} {S : Sh} {Q : SkQ} (ha : S.1 a0 = 7) : Wp 23 2175 ls (.ref a0 :: []) I J R S Q = Wp 51 0 [.ref a0, nov, nov, nov] [] I J R S (Ret 23 2175 2178 51 ls [] Q) := o_call (as := [.ref a0]) (rest := []) (show sk_lkM (sk_cl 23) 192 = some 51 by decide +kernel) (by decide) (by decide) (by (decide +kernel)) (ins := .invokevirtual 192) (by (decide +kernel)) k_L_law_2175 rfl (show 1 = sk_na 51 by (decide +kernel)) (Nat.le_of_ble_eq_true rfl) (Nat.le_trans (show (argL [.ref a0]).length ≤ 4 from Nat.le_of_ble_eq_true rfl) (by (decide +kernel))) (rcv_of (by (decide +kernel)) (by decide) ha)
theorem k_L_law_2178 : decode (sk_by 23) 2178 = .ok (.aload_n 2, 1) := by decide +kernel
theorem x_L_law_2178 {st : List Value} {l0 : Nat} {l1 : Nat} {l3 : Nat} {l4 : Int32} {l5 : Value} {l6 : Value} {x : Nat} {I : MI} {J : MJ} {R : MR} {S : Sh} {Q : SkQ} : Wp 23 2178 [.ref l0, .ref l1, .ref x, .ref l3, .int l4, l5, l6, nov] st I J R S Q = Wp 23 2179 [.ref l0, .ref l1, .ref x, .ref l3, .int l4, l5, l6, nov] (.ref x :: st) I J R S Q := o_aload_n rfl k_L_law_2178
theorem k_L_law_2179 : decode (sk_by 23) 2179 = .ok (.invokevirtual 195, 3) := by decide +kernel
theorem x_L_law_2179 {ls : List Value} {a0 : Nat} {s0 : Int64} {I : MI} {J : MJ} {R : MR} {S : Sh} {Q : SkQ} (ha : S.1 a0 = 8) : Wp 23 2179 ls (.ref a0 :: [.long s0]) I J R S Q = Wp 249 0 [.ref a0, nov, nov, nov, nov] [] I J R S (Ret 23 2179 2182 249 ls [.long s0] Q) := o_call (as := [.ref a0]) (rest := [.long s0]) (show sk_lkM (sk_cl 23) 195 = some 249 by decide +kernel) (by decide) (by decide) (by (decide +kernel)) (ins := .invokevirtual 195) (by (decide +kernel)) k_L_law_2179 rfl (show 1 = sk_na 249 by (decide +kernel)) (Nat.le_of_ble_eq_true rfl) (Nat.le_trans (show (argL [.ref a0]).length ≤ 5 from Nat.le_of_ble_eq_true rfl) (by (decide +kernel))) (rcv_of (by (decide +kernel)) (by decide) ha)
theorem k_L_law_2182 : decode (sk_by 23) 2182 = .ok (.lcmp, 1) := by decide +kernel
theorem x_L_law_2182 {ls st : List Value} {x y : Int64} {I : MI} {J : MJ} {R : MR} {S : Sh} {Q : SkQ} : Wp 23 2182 ls (.long y :: .long x :: st) I J R S Q = Wp 23 2183 ls (.int (lg_cmp x y) :: st) I J R S Q := o_lcmp k_L_law_2182
theorem k_L_law_2183 : decode (sk_by 23) 2183 = .ok (.ifCond .eq 5, 3) := by decide +kernel
theorem x_L_law_2183 {ls st : List Value} {x : Int32} {I : MI} {J : MJ} {R : MR} {S : Sh} {Q : SkQ} : Wp 23 2183 ls (.int x :: st) I J R S Q = if x = 0 then Wp 23 2188 ls st I J R S Q else Wp 23 2186 ls st I J R S Q := o_if_eq rfl rfl k_L_law_2183
theorem k_L_law_2186 : decode (sk_by 23) 2186 = .ok (.iconst 0, 1) := by decide +kernel
theorem x_L_law_2186 {ls st : List Value} {I : MI} {J : MJ} {R : MR} {S : Sh} {Q : SkQ} : Wp 23 2186 ls st I J R S Q = Wp 23 2187 ls (.int 0 :: st) I J R S Q := o_const (by decide) k_L_law_2186
theorem k_L_law_2187 : decode (sk_by 23) 2187 = .ok (.ireturn, 1) := by decide +kernel
theorem x_L_law_2187 {ls : List Value} {v : Int32} {I : MI} {J : MJ} {R : MR} {S : Sh} {Q : SkQ} (h : rOk (some .boolean) v = true) : Wp 23 2187 ls [.int v] I J R S Q = Q 0 (some (.int v)) I J R S := o_ireturn k_L_law_2187 (by rw [show sk_rt 23 = some .boolean from rfl]; exact h)
theorem k_L_law_2188 : decode (sk_by 23) 2188 = .ok (.iinc 4 5, 3) := by decide +kernel
theorem x_L_law_2188 {st : List Value} {l0 : Nat} {l1 : Nat} {l2 : Nat} {l3 : Nat} {l5 : Value} {l6 : Value} {x : Int32} {I : MI} {J : MJ} {R : MR} {S : Sh} {Q : SkQ} : Wp 23 2188 [.ref l0, .ref l1, .ref l2, .ref l3, .int x, l5, l6, nov] st I J R S Q = Wp 23 2191 [.ref l0, .ref l1, .ref l2, .ref l3, .int (x + 5), l5, l6, nov] st I J R S Q := o_inc (by decide) rfl (Nat.le_of_ble_eq_true rfl) rfl k_L_law_2188
theorem k_L_law_2191 : decode (sk_by 23) 2191 = .ok (.goto (-2168), 3) := by decide +kernel
theorem x_L_law_2191 {ls st : List Value} {I : MI} {J : MJ} {R : MR} {S : Sh} {Q : SkQ} : Wp 23 2191 ls st I J R S Q = Wp 23 23 ls st I J R S Q := o_goto rfl rfl k_L_law_2191
theorem k_L_law_2194 : decode (sk_by 23) 2194 = .ok (.iconst 1, 1) := by decide +kernel
theorem x_L_law_2194 {ls st : List Value} {I : MI} {J : MJ} {R : MR} {S : Sh} {Q : SkQ} : Wp 23 2194 ls st I J R S Q = Wp 23 2195 ls (.int 1 :: st) I J R S Q := o_const (by decide) k_L_law_2194
theorem k_L_law_2195 : decode (sk_by 23) 2195 = .ok (.ireturn, 1) := by decide +kernel
theorem x_L_law_2195 {ls : List Value} {v : Int32} {I : MI} {J : MJ} {R : MR} {S : Sh} {Q : SkQ} (h : rOk (some .boolean) v = true) : Wp 23 2195 ls [.int v] I J R S Q = Q 0 (some (.int v)) I J R S := o_ireturn k_L_law_2195 (by rw [show sk_rt 23 = some .boolean from rfl]; exact h)
