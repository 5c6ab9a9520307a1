theorem k_B_init_0 : decode (sk_by 69) 0 = .ok (.aload_n 0, 1) := by decide +kernel
theorem x_B_init_0 {st : List Value} {x : Nat} {I : MI} {J : MJ} {R : MR} {S : Sh} {Q : SkQ} : Wp 69 0 [.ref x, nov, nov] st I J R S Q = Wp 69 1 [.ref x, nov, nov] (.ref x :: st) I J R S Q := o_aload_n rfl k_B_init_0
theorem k_B_init_1 : decode (sk_by 69) 1 = .ok (.invokespecial 3, 3) := by decide +kernel
theorem x_B_init_1 {ls : List Value} {a : Nat} {I : MI} {J : MJ} {R : MR} {S : Sh} {Q : SkQ} : Wp 69 1 ls (.ref a :: []) I J R S Q = Wp 69 4 ls [] I J R S Q := o_objInit (show sk_lkM (sk_cl 69) 3 = some 999 by decide +kernel) (by (decide +kernel)) k_B_init_1
theorem k_B_init_4 : decode (sk_by 69) 4 = .ok (.aload_n 0, 1) := by decide +kernel
theorem x_B_init_4 {st : List Value} {x : Nat} {I : MI} {J : MJ} {R : MR} {S : Sh} {Q : SkQ} : Wp 69 4 [.ref x, nov, nov] st I J R S Q = Wp 69 5 [.ref x, nov, nov] (.ref x :: st) I J R S Q := o_aload_n rfl k_B_init_4
theorem k_B_init_5 : decode (sk_by 69) 5 = .ok (.bipush 26, 2) := by decide +kernel
theorem x_B_init_5 {ls st : List Value} {I : MI} {J : MJ} {R : MR} {S : Sh} {Q : SkQ} : Wp 69 5 ls st I J R S Q = Wp 69 7 ls (.int 26 :: st) I J R S Q := o_bi (by decide) k_B_init_5
theorem k_B_init_7 : decode (sk_by 69) 7 = .ok (.newarray .int, 2) := by decide +kernel
theorem x_B_init_7 {ls st : List Value} {n : Int32} {I : MI} {J : MJ} {R : MR} {S : Sh} {Q : SkQ} (h0 : S.2.2.2.1 = 0) (hn : 0 ≤ n.toInt ∧ n.toInt ≤ 100000) : Wp 69 7 ls (.int n :: st) I J R S Q = Wp 69 9 ls (.ref S.2.2.1 :: st) (u1 I S.2.2.1 0) J R (sh_new S 30 (ix n) (ix n)) Q := o_newI k_B_init_7 h0 hn
theorem k_B_init_9 : decode (sk_by 69) 9 = .ok (.putfield 9, 3) := by decide +kernel
theorem x_B_init_9 {ls st : List Value} {a : Nat} {x : Nat} {I : MI} {J : MJ} {R : MR} {S : Sh} {Q : SkQ} (ha : S.1 a = 3) : Wp 69 9 ls (.ref x :: .ref a :: st) I J R S Q = Wp 69 12 ls st I J (u2 R a 0 (.ref x)) S Q := o_putfieldR (show sk_lkF (sk_cl 69) 9 = some (3, 0, 2, 1, 0) by decide +kernel) (by decide) (by (decide +kernel)) k_B_init_9 ha
theorem k_B_init_12 : decode (sk_by 69) 12 = .ok (.aload_n 0, 1) := by decide +kernel
theorem x_B_init_12 {st : List Value} {x : Nat} {I : MI} {J : MJ} {R : MR} {S : Sh} {Q : SkQ} : Wp 69 12 [.ref x, nov, nov] st I J R S Q = Wp 69 13 [.ref x, nov, nov] (.ref x :: st) I J R S Q := o_aload_n rfl k_B_init_12
theorem k_B_init_13 : decode (sk_by 69) 13 = .ok (.bipush 26, 2) := by decide +kernel
theorem x_B_init_13 {ls st : List Value} {I : MI} {J : MJ} {R : MR} {S : Sh} {Q : SkQ} : Wp 69 13 ls st I J R S Q = Wp 69 15 ls (.int 26 :: st) I J R S Q := o_bi (by decide) k_B_init_13
theorem k_B_init_15 : decode (sk_by 69) 15 = .ok (.newarray .int, 2) := by decide +kernel
theorem x_B_init_15 {ls st : List Value} {n : Int32} {I : MI} {J : MJ} {R : MR} {S : Sh} {Q : SkQ} (h0 : S.2.2.2.1 = 0) (hn : 0 ≤ n.toInt ∧ n.toInt ≤ 100000) : Wp 69 15 ls (.int n :: st) I J R S Q = Wp 69 17 ls (.ref S.2.2.1 :: st) (u1 I S.2.2.1 0) J R (sh_new S 30 (ix n) (ix n)) Q := o_newI k_B_init_15 h0 hn
theorem k_B_init_17 : decode (sk_by 69) 17 = .ok (.putfield 15, 3) := by decide +kernel
theorem x_B_init_17 {ls st : List Value} {a : Nat} {x : Nat} {I : MI} {J : MJ} {R : MR} {S : Sh} {Q : SkQ} (ha : S.1 a = 3) : Wp 69 17 ls (.ref x :: .ref a :: st) I J R S Q = Wp 69 20 ls st I J (u2 R a 1 (.ref x)) S Q := o_putfieldR (show sk_lkF (sk_cl 69) 15 = some (3, 1, 2, 1, 0) by decide +kernel) (by decide) (by (decide +kernel)) k_B_init_17 ha
theorem k_B_init_20 : decode (sk_by 69) 20 = .ok (.aload_n 0, 1) := by decide +kernel
theorem x_B_init_20 {st : List Value} {x : Nat} {I : MI} {J : MJ} {R : MR} {S : Sh} {Q : SkQ} : Wp 69 20 [.ref x, nov, nov] st I J R S Q = Wp 69 21 [.ref x, nov, nov] (.ref x :: st) I J R S Q := o_aload_n rfl k_B_init_20
theorem k_B_init_21 : decode (sk_by 69) 21 = .ok (.bipush 26, 2) := by decide +kernel
theorem x_B_init_21 {ls st : List Value} {I : MI} {J : MJ} {R : MR} {S : Sh} {Q : SkQ} : Wp 69 21 ls st I J R S Q = Wp 69 23 ls (.int 26 :: st) I J R S Q := o_bi (by decide) k_B_init_21
theorem k_B_init_23 : decode (sk_by 69) 23 = .ok (.newarray .int, 2) := by decide +kernel
theorem x_B_init_23 {ls st : List Value} {n : Int32} {I : MI} {J : MJ} {R : MR} {S : Sh} {Q : SkQ} (h0 : S.2.2.2.1 = 0) (hn : 0 ≤ n.toInt ∧ n.toInt ≤ 100000) : Wp 69 23 ls (.int n :: st) I J R S Q = Wp 69 25 ls (.ref S.2.2.1 :: st) (u1 I S.2.2.1 0) J R (sh_new S 30 (ix n) (ix n)) Q := o_newI k_B_init_23 h0 hn
theorem k_B_init_25 : decode (sk_by 69) 25 = .ok (.putfield 18, 3) := by decide +kernel
theorem x_B_init_25 {ls st : List Value} {a : Nat} {x : Nat} {I : MI} {J : MJ} {R : MR} {S : Sh} {Q : SkQ} (ha : S.1 a = 3) : Wp 69 25 ls (.ref x :: .ref a :: st) I J R S Q = Wp 69 28 ls st I J (u2 R a 2 (.ref x)) S Q := o_putfieldR (show sk_lkF (sk_cl 69) 18 = some (3, 2, 2, 1, 0) by decide +kernel) (by decide) (by (decide +kernel)) k_B_init_25 ha
theorem k_B_init_28 : decode (sk_by 69) 28 = .ok (.aload_n 0, 1) := by decide +kernel
theorem x_B_init_28 {st : List Value} {x : Nat} {I : MI} {J : MJ} {R : MR} {S : Sh} {Q : SkQ} : Wp 69 28 [.ref x, nov, nov] st I J R S Q = Wp 69 29 [.ref x, nov, nov] (.ref x :: st) I J R S Q := o_aload_n rfl k_B_init_28
theorem k_B_init_29 : decode (sk_by 69) 29 = .ok (.iconst 0, 1) := by decide +kernel
theorem x_B_init_29 {ls st : List Value} {I : MI} {J : MJ} {R : MR} {S : Sh} {Q : SkQ} : Wp 69 29 ls st I J R S Q = Wp 69 30 ls (.int 0 :: st) I J R S Q := o_const (by decide) k_B_init_29
theorem k_B_init_30 : decode (sk_by 69) 30 = .ok (.ldc 21, 2) := by decide +kernel
theorem x_B_init_30 {ls st : List Value} {I : MI} {J : MJ} {R : MR} {S : Sh} {Q : SkQ} : Wp 69 30 ls st I J R S Q = Wp 69 32 ls (.ref 12 :: st) I J R S Q := o_ldcS (show sk_lkI (sk_cl 69) 21 = none by decide +kernel) (show sk_lkL (sk_cl 69) 21 = some 12 by decide +kernel) k_B_init_30
theorem k_B_init_32 : decode (sk_by 69) 32 = .ok (.invokevirtual 23, 3) := by decide +kernel
theorem x_B_init_32 {ls : List Value} {a0 : Nat} {a1 : Int32} {a2 : Nat} {I : MI} {J : MJ} {R : MR} {S : Sh} {Q : SkQ} (ha : S.1 a0 = 3) : Wp 69 32 ls (.ref a2 :: .int a1 :: .ref a0 :: []) I J R S Q = Wp 70 0 [.ref a0, .int a1, .ref a2, nov, nov] [] I J R S (Ret 69 32 35 70 ls [] Q) := o_call (as := [.ref a0, .int a1, .ref a2]) (rest := []) (show sk_lkM (sk_cl 69) 23 = some 70 by decide +kernel) (by decide) (by decide) (by (decide +kernel)) (ins := .invokevirtual 23) (by (decide +kernel)) k_B_init_32 rfl (show 3 = sk_na 70 by (decide +kernel)) (Nat.le_of_ble_eq_true rfl) (Nat.le_trans (show (argL [.ref a0, .int a1, .ref a2]).length ≤ 5 from Nat.le_of_ble_eq_true rfl) (by (decide +kernel))) (rcv_of (by (decide +kernel)) (by decide) ha)
theorem k_B_init_35 : decode (sk_by 69) 35 = .ok (.aload_n 0, 1) := by decide +kernel
theorem x_B_init_35 {st : List Value} {x : Nat} {I : MI} {J : MJ} {R : MR} {S : Sh} {Q : SkQ} : Wp 69 35 [.ref x, nov, nov] st I J R S Q = Wp 69 36 [.ref x, nov, nov] (.ref x :: st) I J R S Q := o_aload_n rfl k_B_init_35
theorem k_B_init_36 : decode (sk_by 69) 36 = .ok (.iconst 1, 1) := by decide +kernel
theorem x_B_init_36 {ls st : List Value} {I : MI} {J : MJ} {R : MR} {S : Sh} {Q : SkQ} : Wp 69 36 ls st I J R S Q = Wp 69 37 ls (.int 1 :: st) I J R S Q := o_const (by decide) k_B_init_36
theorem k_B_init_37 : decode (sk_by 69) 37 = .ok (.ldc 27, 2) := by decide +kernel
theorem x_B_init_37 {ls st : List Value} {I : MI} {J : MJ} {R : MR} {S : Sh} {Q : SkQ} : Wp 69 37 ls st I J R S Q = Wp 69 39 ls (.ref 13 :: st) I J R S Q := o_ldcS (show sk_lkI (sk_cl 69) 27 = none by decide +kernel) (show sk_lkL (sk_cl 69) 27 = some 13 by decide +kernel) k_B_init_37
theorem k_B_init_39 : decode (sk_by 69) 39 = .ok (.invokevirtual 23, 3) := by decide +kernel
theorem x_B_init_39 {ls : List Value} {a0 : Nat} {a1 : Int32} {a2 : Nat} {I : MI} {J : MJ} {R : MR} {S : Sh} {Q : SkQ} (ha : S.1 a0 = 3) : Wp 69 39 ls (.ref a2 :: .int a1 :: .ref a0 :: []) I J R S Q = Wp 70 0 [.ref a0, .int a1, .ref a2, nov, nov] [] I J R S (Ret 69 39 42 70 ls [] Q) := o_call (as := [.ref a0, .int a1, .ref a2]) (rest := []) (show sk_lkM (sk_cl 69) 23 = some 70 by decide +kernel) (by decide) (by decide) (by (decide +kernel)) (ins := .invokevirtual 23) (by (decide +kernel)) k_B_init_39 rfl (show 3 = sk_na 70 by (decide +kernel)) (Nat.le_of_ble_eq_true rfl) (Nat.le_trans (show (argL [.ref a0, .int a1, .ref a2]).length ≤ 5 from Nat.le_of_ble_eq_true rfl) (by (decide +kernel))) (rcv_of (by (decide +kernel)) (by decide) ha)
theorem k_B_init_42 : decode (sk_by 69) 42 = .ok (.aload_n 0, 1) := by decide +kernel
theorem x_B_init_42 {st : List Value} {x : Nat} {I : MI} {J : MJ} {R : MR} {S : Sh} {Q : SkQ} : Wp 69 42 [.ref x, nov, nov] st I J R S Q = Wp 69 43 [.ref x, nov, nov] (.ref x :: st) I J R S Q := o_aload_n rfl k_B_init_42
theorem k_B_init_43 : decode (sk_by 69) 43 = .ok (.iconst 2, 1) := by decide +kernel
theorem x_B_init_43 {ls st : List Value} {I : MI} {J : MJ} {R : MR} {S : Sh} {Q : SkQ} : Wp 69 43 ls st I J R S Q = Wp 69 44 ls (.int 2 :: st) I J R S Q := o_const (by decide) k_B_init_43
theorem k_B_init_44 : decode (sk_by 69) 44 = .ok (.ldc 29, 2) := by decide +kernel
theorem x_B_init_44 {ls st : List Value} {I : MI} {J : MJ} {R : MR} {S : Sh} {Q : SkQ} : Wp 69 44 ls st I J R S Q = Wp 69 46 ls (.ref 14 :: st) I J R S Q := o_ldcS (show sk_lkI (sk_cl 69) 29 = none by decide +kernel) (show sk_lkL (sk_cl 69) 29 = some 14 by decide +kernel) k_B_init_44
theorem k_B_init_46 : decode (sk_by 69) 46 = .ok (.invokevirtual 23, 3) := by decide +kernel
theorem x_B_init_46 {ls : List Value} {a0 : Nat} {a1 : Int32} {a2 : Nat} {I : MI} {J : MJ} {R : MR} {S : Sh} {Q : SkQ} (ha : S.1 a0 = 3) : Wp 69 46 ls (.ref a2 :: .int a1 :: .ref a0 :: []) I J R S Q = Wp 70 0 [.ref a0, .int a1, .ref a2, nov, nov] [] I J R S (Ret 69 46 49 70 ls [] Q) := o_call (as := [.ref a0, .int a1, .ref a2]) (rest := []) (show sk_lkM (sk_cl 69) 23 = some 70 by decide +kernel) (by decide) (by decide) (by (decide +kernel)) (ins := .invokevirtual 23) (by (decide +kernel)) k_B_init_46 rfl (show 3 = sk_na 70 by (decide +kernel)) (Nat.le_of_ble_eq_true rfl) (Nat.le_trans (show (argL [.ref a0, .int a1, .ref a2]).length ≤ 5 from Nat.le_of_ble_eq_true rfl) (by (decide +kernel))) (rcv_of (by (decide +kernel)) (by decide) ha)
theorem k_B_init_49 : decode (sk_by 69) 49 = .ok (.iconst 0, 1) := by decide +kernel
theorem x_B_init_49 {ls st : List Value} {I : MI} {J : MJ} {R : MR} {S : Sh} {Q : SkQ} : Wp 69 49 ls st I J R S Q = Wp 69 50 ls (.int 0 :: st) I J R S Q := o_const (by decide) k_B_init_49
theorem k_B_init_50 : decode (sk_by 69) 50 = .ok (.istore_n 1, 1) := by decide +kernel
theorem x_B_init_50 {st : List Value} {l0 : Nat} {x : Int32} {I : MI} {J : MJ} {R : MR} {S : Sh} {Q : SkQ} : Wp 69 50 [.ref l0, nov, nov] (.int x :: st) I J R S Q = Wp 69 51 [.ref l0, .int x, nov] st I J R S Q := o_istore_n (Nat.le_of_ble_eq_true rfl) rfl k_B_init_50
theorem k_B_init_51 : decode (sk_by 69) 51 = .ok (.iload_n 1, 1) := by decide +kernel
theorem x_B_init_51 {st : List Value} {l0 : Nat} {l2 : Value} {x : Int32} {I : MI} {J : MJ} {R : MR} {S : Sh} {Q : SkQ} : Wp 69 51 [.ref l0, .int x, l2] st I J R S Q = Wp 69 52 [.ref l0, .int x, l2] (.int x :: st) I J R S Q := o_iload_n rfl k_B_init_51
theorem k_B_init_52 : decode (sk_by 69) 52 = .ok (.bipush 26, 2) := by decide +kernel
theorem x_B_init_52 {ls st : List Value} {I : MI} {J : MJ} {R : MR} {S : Sh} {Q : SkQ} : Wp 69 52 ls st I J R S Q = Wp 69 54 ls (.int 26 :: st) I J R S Q := o_bi (by decide) k_B_init_52
theorem k_B_init_54 : decode (sk_by 69) 54 = .ok (.if_icmp .ge 44, 3) := by decide +kernel
theorem x_B_init_54 {ls st : List Value} {x y : Int32} {I : MI} {J : MJ} {R : MR} {S : Sh} {Q : SkQ} : Wp 69 54 ls (.int y :: .int x :: st) I J R S Q = if x < y then Wp 69 57 ls st I J R S Q else Wp 69 98 ls st I J R S Q := o_ic_ge rfl rfl k_B_init_54
theorem k_B_init_57 : decode (sk_by 69) 57 = .ok (.iconst 0, 1) := by decide +kernel
theorem x_B_init_57 {ls st : List Value} {I : MI} {J : MJ} {R : MR} {S : Sh} {Q : SkQ} : Wp 69 57 ls st I J R S Q = Wp 69 58 ls (.int 0 :: st) I J R S Q := o_const (by decide) k_B_init_57
theorem k_B_init_58 : decode (sk_by 69) 58 = .ok (.istore_n 2, 1) := by decide +kernel
theorem x_B_init_58 {st : List Value} {l0 : Nat} {l1 : Int32} {l2 : Value} {x : Int32} {I : MI} {J : MJ} {R : MR} {S : Sh} {Q : SkQ} : Wp 69 58 [.ref l0, .int l1, l2] (.int x :: st) I J R S Q = Wp 69 59 [.ref l0, .int l1, .int x] st I J R S Q := o_istore_n (Nat.le_of_ble_eq_true rfl) rfl k_B_init_58
theorem k_B_init_59 : decode (sk_by 69) 59 = .ok (.iload_n 2, 1) := by decide +kernel
theorem x_B_init_59 {st : List Value} {l0 : Nat} {l1 : Int32} {x : Int32} {I : MI} {J : MJ} {R : MR} {S : Sh} {Q : SkQ} : Wp 69 59 [.ref l0, .int l1, .int x] st I J R S Q = Wp 69 60 [.ref l0, .int l1, .int x] (.int x :: st) I J R S Q := o_iload_n rfl k_B_init_59
theorem k_B_init_60 : decode (sk_by 69) 60 = .ok (.bipush 26, 2) := by decide +kernel
theorem x_B_init_60 {ls st : List Value} {I : MI} {J : MJ} {R : MR} {S : Sh} {Q : SkQ} : Wp 69 60 ls st I J R S Q = Wp 69 62 ls (.int 26 :: st) I J R S Q := o_bi (by decide) k_B_init_60
theorem k_B_init_62 : decode (sk_by 69) 62 = .ok (.if_icmp .ge 30, 3) := by decide +kernel
theorem x_B_init_62 {ls st : List Value} {x y : Int32} {I : MI} {J : MJ} {R : MR} {S : Sh} {Q : SkQ} : Wp 69 62 ls (.int y :: .int x :: st) I J R S Q = if x < y then Wp 69 65 ls st I J R S Q else Wp 69 92 ls st I J R S Q := o_ic_ge rfl rfl k_B_init_62
theorem k_B_init_65 : decode (sk_by 69) 65 = .ok (.aload_n 0, 1) := by decide +kernel
theorem x_B_init_65 {st : List Value} {l1 : Int32} {l2 : Int32} {x : Nat} {I : MI} {J : MJ} {R : MR} {S : Sh} {Q : SkQ} : Wp 69 65 [.ref x, .int l1, .int l2] st I J R S Q = Wp 69 66 [.ref x, .int l1, .int l2] (.ref x :: st) I J R S Q := o_aload_n rfl k_B_init_65
theorem k_B_init_66 : decode (sk_by 69) 66 = .ok (.iload_n 1, 1) := by decide +kernel
theorem x_B_init_66 {st : List Value} {l0 : Nat} {l2 : Int32} {x : Int32} {I : MI} {J : MJ} {R : MR} {S : Sh} {Q : SkQ} : Wp 69 66 [.ref l0, .int x, .int l2] st I J R S Q = Wp 69 67 [.ref l0, .int x, .int l2] (.int x :: st) I J R S Q := o_iload_n rfl k_B_init_66
theorem k_B_init_67 : decode (sk_by 69) 67 = .ok (.iload_n 2, 1) := by decide +kernel
theorem x_B_init_67 {st : List Value} {l0 : Nat} {l1 : Int32} {x : Int32} {I : MI} {J : MJ} {R : MR} {S : Sh} {Q : SkQ} : Wp 69 67 [.ref l0, .int l1, .int x] st I J R S Q = Wp 69 68 [.ref l0, .int l1, .int x] (.int x :: st) I J R S Q := o_iload_n rfl k_B_init_67
theorem k_B_init_68 : decode (sk_by 69) 68 = .ok (.invokevirtual 31, 3) := by decide +kernel
theorem x_B_init_68 {ls : List Value} {a0 : Nat} {a1 : Int32} {a2 : Int32} {I : MI} {J : MJ} {R : MR} {S : Sh} {Q : SkQ} (ha : S.1 a0 = 3) : Wp 69 68 ls (.int a2 :: .int a1 :: .ref a0 :: []) I J R S Q = Wp 71 0 [.ref a0, .int a1, .int a2, nov, nov] [] I J R S (Ret 69 68 71 71 ls [] Q) := o_call (as := [.ref a0, .int a1, .int a2]) (rest := []) (show sk_lkM (sk_cl 69) 31 = some 71 by decide +kernel) (by decide) (by decide) (by (decide +kernel)) (ins := .invokevirtual 31) (by (decide +kernel)) k_B_init_68 rfl (show 3 = sk_na 71 by (decide +kernel)) (Nat.le_of_ble_eq_true rfl) (Nat.le_trans (show (argL [.ref a0, .int a1, .int a2]).length ≤ 5 from Nat.le_of_ble_eq_true rfl) (by (decide +kernel))) (rcv_of (by (decide +kernel)) (by decide) ha)
theorem k_B_init_71 : decode (sk_by 69) 71 = .ok (.ifCond .eq 15, 3) := by decide +kernel
theorem x_B_init_71 {ls st : List Value} {x : Int32} {I : MI} {J : MJ} {R : MR} {S : Sh} {Q : SkQ} : Wp 69 71 ls (.int x :: st) I J R S Q = if x = 0 then Wp 69 86 ls st I J R S Q else Wp 69 74 ls st I J R S Q := o_if_eq rfl rfl k_B_init_71
theorem k_B_init_74 : decode (sk_by 69) 74 = .ok (.aload_n 0, 1) := by decide +kernel
theorem x_B_init_74 {st : List Value} {l1 : Int32} {l2 : Int32} {x : Nat} {I : MI} {J : MJ} {R : MR} {S : Sh} {Q : SkQ} : Wp 69 74 [.ref x, .int l1, .int l2] st I J R S Q = Wp 69 75 [.ref x, .int l1, .int l2] (.ref x :: st) I J R S Q := o_aload_n rfl k_B_init_74
theorem k_B_init_75 : decode (sk_by 69) 75 = .ok (.getfield 18, 3) := by decide +kernel
theorem x_B_init_75 {ls st : List Value} {a : Nat} {I : MI} {J : MJ} {R : MR} {S : Sh} {Q : SkQ} (ha : S.1 a = 3) : Wp 69 75 ls (.ref a :: st) I J R S Q = Wp 69 78 ls (R a 2 :: st) I J R S Q := o_getfieldR (show sk_lkF (sk_cl 69) 18 = some (3, 2, 2, 1, 0) by decide +kernel) k_B_init_75 ha
theorem k_B_init_78 : decode (sk_by 69) 78 = .ok (.iload_n 1, 1) := by decide +kernel
theorem x_B_init_78 {st : List Value} {l0 : Nat} {l2 : Int32} {x : Int32} {I : MI} {J : MJ} {R : MR} {S : Sh} {Q : SkQ} : Wp 69 78 [.ref l0, .int x, .int l2] st I J R S Q = Wp 69 79 [.ref l0, .int x, .int l2] (.int x :: st) I J R S Q := o_iload_n rfl k_B_init_78
theorem k_B_init_79 : decode (sk_by 69) 79 = .ok (.dup2, 1) := by decide +kernel
theorem x_B_init_79 {ls st : List Value} {x : Int32} {y : Nat} {I : MI} {J : MJ} {R : MR} {S : Sh} {Q : SkQ} : Wp 69 79 ls (.int x :: .ref y :: st) I J R S Q = Wp 69 80 ls (.int x :: .ref y :: .int x :: .ref y :: st) I J R S Q := o_dup2IR k_B_init_79
theorem k_B_init_80 : decode (sk_by 69) 80 = .ok (.iaload, 1) := by decide +kernel
theorem x_B_init_80 {ls st : List Value} {a : Nat} {i : Int32} {I : MI} {J : MJ} {R : MR} {S : Sh} {Q : SkQ} (ha : S.1 a = 30) (hi : inb i (S.2.1 a) = true) : Wp 69 80 ls (.int i :: .ref a :: st) I J R S Q = Wp 69 81 ls (.int (I a (ix i)) :: st) I J R S Q := o_iaload k_B_init_80 ha hi
theorem k_B_init_81 : decode (sk_by 69) 81 = .ok (.iconst 1, 1) := by decide +kernel
theorem x_B_init_81 {ls st : List Value} {I : MI} {J : MJ} {R : MR} {S : Sh} {Q : SkQ} : Wp 69 81 ls st I J R S Q = Wp 69 82 ls (.int 1 :: st) I J R S Q := o_const (by decide) k_B_init_81
theorem k_B_init_82 : decode (sk_by 69) 82 = .ok (.iload_n 2, 1) := by decide +kernel
theorem x_B_init_82 {st : List Value} {l0 : Nat} {l1 : Int32} {x : Int32} {I : MI} {J : MJ} {R : MR} {S : Sh} {Q : SkQ} : Wp 69 82 [.ref l0, .int l1, .int x] st I J R S Q = Wp 69 83 [.ref l0, .int l1, .int x] (.int x :: st) I J R S Q := o_iload_n rfl k_B_init_82
theorem k_B_init_83 : decode (sk_by 69) 83 = .ok (.ishl, 1) := by decide +kernel
theorem x_B_init_83 {ls st : List Value} {x y : Int32} {I : MI} {J : MJ} {R : MR} {S : Sh} {Q : SkQ} : Wp 69 83 ls (.int y :: .int x :: st) I J R S Q = Wp 69 84 ls (.int (x <<< (y &&& 31)) :: st) I J R S Q := o_ishl k_B_init_83
theorem k_B_init_84 : decode (sk_by 69) 84 = .ok (.ior, 1) := by decide +kernel
theorem x_B_init_84 {ls st : List Value} {x y : Int32} {I : MI} {J : MJ} {R : MR} {S : Sh} {Q : SkQ} : Wp 69 84 ls (.int y :: .int x :: st) I J R S Q = Wp 69 85 ls (.int (x ||| y) :: st) I J R S Q := o_ior k_B_init_84
theorem k_B_init_85 : decode (sk_by 69) 85 = .ok (.iastore, 1) := by decide +kernel
theorem x_B_init_85 {ls st : List Value} {a : Nat} {i x : Int32} {I : MI} {J : MJ} {R : MR} {S : Sh} {Q : SkQ} (ha : S.1 a = 30) (hi : inb i (S.2.1 a) = true) : Wp 69 85 ls (.int x :: .int i :: .ref a :: st) I J R S Q = Wp 69 86 ls st (u2 I a (ix i) x) J R S Q := o_iastore k_B_init_85 ha hi
theorem k_B_init_86 : decode (sk_by 69) 86 = .ok (.iinc 2 1, 3) := by decide +kernel
theorem x_B_init_86 {st : List Value} {l0 : Nat} {l1 : Int32} {x : Int32} {I : MI} {J : MJ} {R : MR} {S : Sh} {Q : SkQ} : Wp 69 86 [.ref l0, .int l1, .int x] st I J R S Q = Wp 69 89 [.ref l0, .int l1, .int (x + 1)] st I J R S Q := o_inc (by decide) rfl (Nat.le_of_ble_eq_true rfl) rfl k_B_init_86
theorem k_B_init_89 : decode (sk_by 69) 89 = .ok (.goto (-30), 3) := by decide +kernel
theorem x_B_init_89 {ls st : List Value} {I : MI} {J : MJ} {R : MR} {S : Sh} {Q : SkQ} : Wp 69 89 ls st I J R S Q = Wp 69 59 ls st I J R S Q := o_goto rfl rfl k_B_init_89
theorem k_B_init_92 : decode (sk_by 69) 92 = .ok (.iinc 1 1, 3) := by decide +kernel
theorem x_B_init_92 {st : List Value} {l0 : Nat} {l2 : Int32} {x : Int32} {I : MI} {J : MJ} {R : MR} {S : Sh} {Q : SkQ} : Wp 69 92 [.ref l0, .int x, .int l2] st I J R S Q = Wp 69 95 [.ref l0, .int (x + 1), .int l2] st I J R S Q := o_inc (by decide) rfl (Nat.le_of_ble_eq_true rfl) rfl k_B_init_92
theorem k_B_init_95 : decode (sk_by 69) 95 = .ok (.goto (-44), 3) := by decide +kernel
theorem x_B_init_95 {ls st : List Value} {I : MI} {J : MJ} {R : MR} {S : Sh} {Q : SkQ} : Wp 69 95 ls st I J R S Q = Wp 69 51 ls st I J R S Q := o_goto rfl rfl k_B_init_95
theorem k_B_init_98 : decode (sk_by 69) 98 = .ok (.return_, 1) := by decide +kernel
theorem x_B_init_98 {ls : List Value} {I : MI} {J : MJ} {R : MR} {S : Sh} {Q : SkQ} : Wp 69 98 ls [] I J R S Q = Q 0 none I J R S := o_return (by (decide +kernel)) k_B_init_98
theorem k_B_layRow_0 : decode (sk_by 70) 0 = .ok (.iconst 0, 1) := by decide +kernel
theorem x_B_layRow_0 {ls st : List Value} {I : MI} {J : MJ} {R : MR} {S : Sh} {Q : SkQ} : Wp 70 0 ls st I J R S Q = Wp 70 1 ls (.int 0 :: st) I J R S Q := o_const (by decide) k_B_layRow_0
theorem k_B_layRow_1 : decode (sk_by 70) 1 = .ok (.istore_n 3, 1) := by decide +kernel
theorem x_B_layRow_1 {st : List Value} {l0 : Nat} {l1 : Int32} {l2 : Nat} {x : Int32} {I : MI} {J : MJ} {R : MR} {S : Sh} {Q : SkQ} : Wp 70 1 [.ref l0, .int l1, .ref l2, nov, nov] (.int x :: st) I J R S Q = Wp 70 2 [.ref l0, .int l1, .ref l2, .int x, nov] st I J R S Q := o_istore_n (Nat.le_of_ble_eq_true rfl) rfl k_B_layRow_1
theorem k_B_layRow_2 : decode (sk_by 70) 2 = .ok (.iload_n 3, 1) := by decide +kernel
theorem x_B_layRow_2 {st : List Value} {l0 : Nat} {l1 : Int32} {l2 : Nat} {l4 : Value} {x : Int32} {I : MI} {J : MJ} {R : MR} {S : Sh} {Q : SkQ} : Wp 70 2 [.ref l0, .int l1, .ref l2, .int x, l4] st I J R S Q = Wp 70 3 [.ref l0, .int l1, .ref l2, .int x, l4] (.int x :: st) I J R S Q := o_iload_n rfl k_B_layRow_2
theorem k_B_layRow_3 : decode (sk_by 70) 3 = .ok (.aload_n 2, 1) := by decide +kernel
theorem x_B_layRow_3 {st : List Value} {l0 : Nat} {l1 : Int32} {l3 : Int32} {l4 : Value} {x : Nat} {I : MI} {J : MJ} {R : MR} {S : Sh} {Q : SkQ} : Wp 70 3 [.ref l0, .int l1, .ref x, .int l3, l4] st I J R S Q = Wp 70 4 [.ref l0, .int l1, .ref x, .int l3, l4] (.ref x :: st) I J R S Q := o_aload_n rfl k_B_layRow_3
theorem k_B_layRow_4 : decode (sk_by 70) 4 = .ok (.invokevirtual 35, 3) := by decide +kernel
theorem x_B_layRow_4 {ls : List Value} {a0 : Nat} {s0 : Int32} {I : MI} {J : MJ} {R : MR} {S : Sh} {Q : SkQ} (ha : S.1 a0 = 21) : Wp 70 4 ls (.ref a0 :: [.int s0]) I J R S Q = Wp 254 0 [.ref a0] [] I J R S (Ret 70 4 7 254 ls [.int s0] Q) := o_call (as := [.ref a0]) (rest := [.int s0]) (show sk_lkM (sk_cl 70) 35 = some 254 by decide +kernel) (by decide) (by decide) (by (decide +kernel)) (ins := .invokevirtual 35) (by (decide +kernel)) k_B_layRow_4 rfl (show 1 = sk_na 254 by (decide +kernel)) (Nat.le_of_ble_eq_true rfl) (Nat.le_trans (show (argL [.ref a0]).length ≤ 1 from Nat.le_of_ble_eq_true rfl) (by (decide +kernel))) (rcv_of (by (decide +kernel)) (by decide) ha)
theorem k_B_layRow_7 : decode (sk_by 70) 7 = .ok (.if_icmp .ge 47, 3) := by decide +kernel
theorem x_B_layRow_7 {ls st : List Value} {x y : Int32} {I : MI} {J : MJ} {R : MR} {S : Sh} {Q : SkQ} : Wp 70 7 ls (.int y :: .int x :: st) I J R S Q = if x < y then Wp 70 10 ls st I J R S Q else Wp 70 54 ls st I J R S Q := o_ic_ge rfl rfl k_B_layRow_7
theorem k_B_layRow_10 : decode (sk_by 70) 10 = .ok (.aload_n 2, 1) := by decide +kernel
theorem x_B_layRow_10 {st : List Value} {l0 : Nat} {l1 : Int32} {l3 : Int32} {l4 : Value} {x : Nat} {I : MI} {J : MJ} {R : MR} {S : Sh} {Q : SkQ} : Wp 70 10 [.ref l0, .int l1, .ref x, .int l3, l4] st I J R S Q = Wp 70 11 [.ref l0, .int l1, .ref x, .int l3, l4] (.ref x :: st) I J R S Q := o_aload_n rfl k_B_layRow_10
theorem k_B_layRow_11 : decode (sk_by 70) 11 = .ok (.iload_n 3, 1) := by decide +kernel
theorem x_B_layRow_11 {st : List Value} {l0 : Nat} {l1 : Int32} {l2 : Nat} {l4 : Value} {x : Int32} {I : MI} {J : MJ} {R : MR} {S : Sh} {Q : SkQ} : Wp 70 11 [.ref l0, .int l1, .ref l2, .int x, l4] st I J R S Q = Wp 70 12 [.ref l0, .int l1, .ref l2, .int x, l4] (.int x :: st) I J R S Q := o_iload_n rfl k_B_layRow_11
theorem k_B_layRow_12 : decode (sk_by 70) 12 = .ok (.invokevirtual 41, 3) := by decide +kernel
theorem x_B_layRow_12 {ls : List Value} {a0 : Nat} {a1 : Int32} {I : MI} {J : MJ} {R : MR} {S : Sh} {Q : SkQ} (ha : S.1 a0 = 21) : Wp 70 12 ls (.int a1 :: .ref a0 :: []) I J R S Q = Wp 255 0 [.ref a0, .int a1] [] I J R S (Ret 70 12 15 255 ls [] Q) := o_call (as := [.ref a0, .int a1]) (rest := []) (show sk_lkM (sk_cl 70) 41 = some 255 by decide +kernel) (by decide) (by decide) (by (decide +kernel)) (ins := .invokevirtual 41) (by (decide +kernel)) k_B_layRow_12 rfl (show 2 = sk_na 255 by (decide +kernel)) (Nat.le_of_ble_eq_true rfl) (Nat.le_trans (show (argL [.ref a0, .int a1]).length ≤ 2 from Nat.le_of_ble_eq_true rfl) (by (decide +kernel))) (rcv_of (by (decide +kernel)) (by decide) ha)
theorem k_B_layRow_15 : decode (sk_by 70) 15 = .ok (.bipush 97, 2) := by decide +kernel
theorem x_B_layRow_15 {ls st : List Value} {I : MI} {J : MJ} {R : MR} {S : Sh} {Q : SkQ} : Wp 70 15 ls st I J R S Q = Wp 70 17 ls (.int 97 :: st) I J R S Q := o_bi (by decide) k_B_layRow_15
theorem k_B_layRow_17 : decode (sk_by 70) 17 = .ok (.isub, 1) := by decide +kernel
theorem x_B_layRow_17 {ls st : List Value} {x y : Int32} {I : MI} {J : MJ} {R : MR} {S : Sh} {Q : SkQ} : Wp 70 17 ls (.int y :: .int x :: st) I J R S Q = Wp 70 18 ls (.int (x - y) :: st) I J R S Q := o_isub k_B_layRow_17
theorem k_B_layRow_18 : decode (sk_by 70) 18 = .ok (.istore 4, 2) := by decide +kernel
theorem x_B_layRow_18 {st : List Value} {l0 : Nat} {l1 : Int32} {l2 : Nat} {l3 : Int32} {l4 : Value} {x : Int32} {I : MI} {J : MJ} {R : MR} {S : Sh} {Q : SkQ} : Wp 70 18 [.ref l0, .int l1, .ref l2, .int l3, l4] (.int x :: st) I J R S Q = Wp 70 20 [.ref l0, .int l1, .ref l2, .int l3, .int x] st I J R S Q := o_istore (Nat.le_of_ble_eq_true rfl) rfl k_B_layRow_18
theorem k_B_layRow_20 : decode (sk_by 70) 20 = .ok (.iload 4, 2) := by decide +kernel
theorem x_B_layRow_20 {st : List Value} {l0 : Nat} {l1 : Int32} {l2 : Nat} {l3 : Int32} {x : Int32} {I : MI} {J : MJ} {R : MR} {S : Sh} {Q : SkQ} : Wp 70 20 [.ref l0, .int l1, .ref l2, .int l3, .int x] st I J R S Q = Wp 70 22 [.ref l0, .int l1, .ref l2, .int l3, .int x] (.int x :: st) I J R S Q := o_iload rfl k_B_layRow_20
theorem k_B_layRow_22 : decode (sk_by 70) 22 = .ok (.ifCond .lt 26, 3) := by decide +kernel
theorem x_B_layRow_22 {ls st : List Value} {x : Int32} {I : MI} {J : MJ} {R : MR} {S : Sh} {Q : SkQ} : Wp 70 22 ls (.int x :: st) I J R S Q = if x < 0 then Wp 70 48 ls st I J R S Q else Wp 70 25 ls st I J R S Q := o_if_lt rfl rfl k_B_layRow_22
theorem k_B_layRow_25 : decode (sk_by 70) 25 = .ok (.iload 4, 2) := by decide +kernel
theorem x_B_layRow_25 {st : List Value} {l0 : Nat} {l1 : Int32} {l2 : Nat} {l3 : Int32} {x : Int32} {I : MI} {J : MJ} {R : MR} {S : Sh} {Q : SkQ} : Wp 70 25 [.ref l0, .int l1, .ref l2, .int l3, .int x] st I J R S Q = Wp 70 27 [.ref l0, .int l1, .ref l2, .int l3, .int x] (.int x :: st) I J R S Q := o_iload rfl k_B_layRow_25
theorem k_B_layRow_27 : decode (sk_by 70) 27 = .ok (.bipush 26, 2) := by decide +kernel
theorem x_B_layRow_27 {ls st : List Value} {I : MI} {J : MJ} {R : MR} {S : Sh} {Q : SkQ} : Wp 70 27 ls st I J R S Q = Wp 70 29 ls (.int 26 :: st) I J R S Q := o_bi (by decide) k_B_layRow_27
theorem k_B_layRow_29 : decode (sk_by 70) 29 = .ok (.if_icmp .ge 19, 3) := by decide +kernel
theorem x_B_layRow_29 {ls st : List Value} {x y : Int32} {I : MI} {J : MJ} {R : MR} {S : Sh} {Q : SkQ} : Wp 70 29 ls (.int y :: .int x :: st) I J R S Q = if x < y then Wp 70 32 ls st I J R S Q else Wp 70 48 ls st I J R S Q := o_ic_ge rfl rfl k_B_layRow_29
theorem k_B_layRow_32 : decode (sk_by 70) 32 = .ok (.aload_n 0, 1) := by decide +kernel
theorem x_B_layRow_32 {st : List Value} {l1 : Int32} {l2 : Nat} {l3 : Int32} {l4 : Int32} {x : Nat} {I : MI} {J : MJ} {R : MR} {S : Sh} {Q : SkQ} : Wp 70 32 [.ref x, .int l1, .ref l2, .int l3, .int l4] st I J R S Q = Wp 70 33 [.ref x, .int l1, .ref l2, .int l3, .int l4] (.ref x :: st) I J R S Q := o_aload_n rfl k_B_layRow_32
theorem k_B_layRow_33 : decode (sk_by 70) 33 = .ok (.getfield 9, 3) := by decide +kernel
theorem x_B_layRow_33 {ls st : List Value} {a : Nat} {I : MI} {J : MJ} {R : MR} {S : Sh} {Q : SkQ} (ha : S.1 a = 3) : Wp 70 33 ls (.ref a :: st) I J R S Q = Wp 70 36 ls (R a 0 :: st) I J R S Q := o_getfieldR (show sk_lkF (sk_cl 70) 9 = some (3, 0, 2, 1, 0) by decide +kernel) k_B_layRow_33 ha
theorem k_B_layRow_36 : decode (sk_by 70) 36 = .ok (.iload 4, 2) := by decide +kernel
theorem x_B_layRow_36 {st : List Value} {l0 : Nat} {l1 : Int32} {l2 : Nat} {l3 : Int32} {x : Int32} {I : MI} {J : MJ} {R : MR} {S : Sh} {Q : SkQ} : Wp 70 36 [.ref l0, .int l1, .ref l2, .int l3, .int x] st I J R S Q = Wp 70 38 [.ref l0, .int l1, .ref l2, .int l3, .int x] (.int x :: st) I J R S Q := o_iload rfl k_B_layRow_36
theorem k_B_layRow_38 : decode (sk_by 70) 38 = .ok (.iload_n 1, 1) := by decide +kernel
theorem x_B_layRow_38 {st : List Value} {l0 : Nat} {l2 : Nat} {l3 : Int32} {l4 : Int32} {x : Int32} {I : MI} {J : MJ} {R : MR} {S : Sh} {Q : SkQ} : Wp 70 38 [.ref l0, .int x, .ref l2, .int l3, .int l4] st I J R S Q = Wp 70 39 [.ref l0, .int x, .ref l2, .int l3, .int l4] (.int x :: st) I J R S Q := o_iload_n rfl k_B_layRow_38
theorem k_B_layRow_39 : decode (sk_by 70) 39 = .ok (.iastore, 1) := by decide +kernel
theorem x_B_layRow_39 {ls st : List Value} {a : Nat} {i x : Int32} {I : MI} {J : MJ} {R : MR} {S : Sh} {Q : SkQ} (ha : S.1 a = 30) (hi : inb i (S.2.1 a) = true) : Wp 70 39 ls (.int x :: .int i :: .ref a :: st) I J R S Q = Wp 70 40 ls st (u2 I a (ix i) x) J R S Q := o_iastore k_B_layRow_39 ha hi
theorem k_B_layRow_40 : decode (sk_by 70) 40 = .ok (.aload_n 0, 1) := by decide +kernel
theorem x_B_layRow_40 {st : List Value} {l1 : Int32} {l2 : Nat} {l3 : Int32} {l4 : Int32} {x : Nat} {I : MI} {J : MJ} {R : MR} {S : Sh} {Q : SkQ} : Wp 70 40 [.ref x, .int l1, .ref l2, .int l3, .int l4] st I J R S Q = Wp 70 41 [.ref x, .int l1, .ref l2, .int l3, .int l4] (.ref x :: st) I J R S Q := o_aload_n rfl k_B_layRow_40
theorem k_B_layRow_41 : decode (sk_by 70) 41 = .ok (.getfield 15, 3) := by decide +kernel
theorem x_B_layRow_41 {ls st : List Value} {a : Nat} {I : MI} {J : MJ} {R : MR} {S : Sh} {Q : SkQ} (ha : S.1 a = 3) : Wp 70 41 ls (.ref a :: st) I J R S Q = Wp 70 44 ls (R a 1 :: st) I J R S Q := o_getfieldR (show sk_lkF (sk_cl 70) 15 = some (3, 1, 2, 1, 0) by decide +kernel) k_B_layRow_41 ha
theorem k_B_layRow_44 : decode (sk_by 70) 44 = .ok (.iload 4, 2) := by decide +kernel
theorem x_B_layRow_44 {st : List Value} {l0 : Nat} {l1 : Int32} {l2 : Nat} {l3 : Int32} {x : Int32} {I : MI} {J : MJ} {R : MR} {S : Sh} {Q : SkQ} : Wp 70 44 [.ref l0, .int l1, .ref l2, .int l3, .int x] st I J R S Q = Wp 70 46 [.ref l0, .int l1, .ref l2, .int l3, .int x] (.int x :: st) I J R S Q := o_iload rfl k_B_layRow_44
theorem k_B_layRow_46 : decode (sk_by 70) 46 = .ok (.iload_n 3, 1) := by decide +kernel
theorem x_B_layRow_46 {st : List Value} {l0 : Nat} {l1 : Int32} {l2 : Nat} {l4 : Int32} {x : Int32} {I : MI} {J : MJ} {R : MR} {S : Sh} {Q : SkQ} : Wp 70 46 [.ref l0, .int l1, .ref l2, .int x, .int l4] st I J R S Q = Wp 70 47 [.ref l0, .int l1, .ref l2, .int x, .int l4] (.int x :: st) I J R S Q := o_iload_n rfl k_B_layRow_46
theorem k_B_layRow_47 : decode (sk_by 70) 47 = .ok (.iastore, 1) := by decide +kernel
theorem x_B_layRow_47 {ls st : List Value} {a : Nat} {i x : Int32} {I : MI} {J : MJ} {R : MR} {S : Sh} {Q : SkQ} (ha : S.1 a = 30) (hi : inb i (S.2.1 a) = true) : Wp 70 47 ls (.int x :: .int i :: .ref a :: st) I J R S Q = Wp 70 48 ls st (u2 I a (ix i) x) J R S Q := o_iastore k_B_layRow_47 ha hi
theorem k_B_layRow_48 : decode (sk_by 70) 48 = .ok (.iinc 3 1, 3) := by decide +kernel
theorem x_B_layRow_48 {st : List Value} {l0 : Nat} {l1 : Int32} {l2 : Nat} {l4 : Int32} {x : Int32} {I : MI} {J : MJ} {R : MR} {S : Sh} {Q : SkQ} : Wp 70 48 [.ref l0, .int l1, .ref l2, .int x, .int l4] st I J R S Q = Wp 70 51 [.ref l0, .int l1, .ref l2, .int (x + 1), .int l4] st I J R S Q := o_inc (by decide) rfl (Nat.le_of_ble_eq_true rfl) rfl k_B_layRow_48
theorem k_B_layRow_51 : decode (sk_by 70) 51 = .ok (.goto (-49), 3) := by decide +kernel
theorem x_B_layRow_51 {ls st : List Value} {I : MI} {J : MJ} {R : MR} {S : Sh} {Q : SkQ} : Wp 70 51 ls st I J R S Q = Wp 70 2 ls st I J R S Q := o_goto rfl rfl k_B_layRow_51
theorem k_B_layRow_54 : decode (sk_by 70) 54 = .ok (.return_, 1) := by decide +kernel
theorem x_B_layRow_54 {ls : List Value} {I : MI} {J : MJ} {R : MR} {S : Sh} {Q : SkQ} : Wp 70 54 ls [] I J R S Q = Q 0 none I J R S := o_return (by (decide +kernel)) k_B_layRow_54
theorem k_B_touch_0 : decode (sk_by 71) 0 = .ok (.aload_n 0, 1) := by decide +kernel
theorem x_B_touch_0 {st : List Value} {l1 : Int32} {l2 : Int32} {x : Nat} {I : MI} {J : MJ} {R : MR} {S : Sh} {Q : SkQ} : Wp 71 0 [.ref x, .int l1, .int l2, nov, nov] st I J R S Q = Wp 71 1 [.ref x, .int l1, .int l2, nov, nov] (.ref x :: st) I J R S Q := o_aload_n rfl k_B_touch_0
theorem k_B_touch_1 : decode (sk_by 71) 1 = .ok (.iload_n 2, 1) := by decide +kernel
theorem x_B_touch_1 {st : List Value} {l0 : Nat} {l1 : Int32} {x : Int32} {I : MI} {J : MJ} {R : MR} {S : Sh} {Q : SkQ} : Wp 71 1 [.ref l0, .int l1, .int x, nov, nov] st I J R S Q = Wp 71 2 [.ref l0, .int l1, .int x, nov, nov] (.int x :: st) I J R S Q := o_iload_n rfl k_B_touch_1
theorem k_B_touch_2 : decode (sk_by 71) 2 = .ok (.invokevirtual 45, 3) := by decide +kernel
theorem x_B_touch_2 {ls : List Value} {a0 : Nat} {a1 : Int32} {I : MI} {J : MJ} {R : MR} {S : Sh} {Q : SkQ} (ha : S.1 a0 = 3) : Wp 71 2 ls (.int a1 :: .ref a0 :: []) I J R S Q = Wp 72 0 [.ref a0, .int a1] [] I J R S (Ret 71 2 5 72 ls [] Q) := o_call (as := [.ref a0, .int a1]) (rest := []) (show sk_lkM (sk_cl 71) 45 = some 72 by decide +kernel) (by decide) (by decide) (by (decide +kernel)) (ins := .invokevirtual 45) (by (decide +kernel)) k_B_touch_2 rfl (show 2 = sk_na 72 by (decide +kernel)) (Nat.le_of_ble_eq_true rfl) (Nat.le_trans (show (argL [.ref a0, .int a1]).length ≤ 2 from Nat.le_of_ble_eq_true rfl) (by (decide +kernel))) (rcv_of (by (decide +kernel)) (by decide) ha)
theorem k_B_touch_5 : decode (sk_by 71) 5 = .ok (.aload_n 0, 1) := by decide +kernel
theorem x_B_touch_5 {st : List Value} {l1 : Int32} {l2 : Int32} {x : Nat} {I : MI} {J : MJ} {R : MR} {S : Sh} {Q : SkQ} : Wp 71 5 [.ref x, .int l1, .int l2, nov, nov] st I J R S Q = Wp 71 6 [.ref x, .int l1, .int l2, nov, nov] (.ref x :: st) I J R S Q := o_aload_n rfl k_B_touch_5
theorem k_B_touch_6 : decode (sk_by 71) 6 = .ok (.iload_n 1, 1) := by decide +kernel
theorem x_B_touch_6 {st : List Value} {l0 : Nat} {l2 : Int32} {x : Int32} {I : MI} {J : MJ} {R : MR} {S : Sh} {Q : SkQ} : Wp 71 6 [.ref l0, .int x, .int l2, nov, nov] st I J R S Q = Wp 71 7 [.ref l0, .int x, .int l2, nov, nov] (.int x :: st) I J R S Q := o_iload_n rfl k_B_touch_6
theorem k_B_touch_7 : decode (sk_by 71) 7 = .ok (.invokevirtual 45, 3) := by decide +kernel
theorem x_B_touch_7 {ls : List Value} {a0 : Nat} {a1 : Int32} {s0 : Int32} {I : MI} {J : MJ} {R : MR} {S : Sh} {Q : SkQ} (ha : S.1 a0 = 3) : Wp 71 7 ls (.int a1 :: .ref a0 :: [.int s0]) I J R S Q = Wp 72 0 [.ref a0, .int a1] [] I J R S (Ret 71 7 10 72 ls [.int s0] Q) := o_call (as := [.ref a0, .int a1]) (rest := [.int s0]) (show sk_lkM (sk_cl 71) 45 = some 72 by decide +kernel) (by decide) (by decide) (by (decide +kernel)) (ins := .invokevirtual 45) (by (decide +kernel)) k_B_touch_7 rfl (show 2 = sk_na 72 by (decide +kernel)) (Nat.le_of_ble_eq_true rfl) (Nat.le_trans (show (argL [.ref a0, .int a1]).length ≤ 2 from Nat.le_of_ble_eq_true rfl) (by (decide +kernel))) (rcv_of (by (decide +kernel)) (by decide) ha)
theorem k_B_touch_10 : decode (sk_by 71) 10 = .ok (.isub, 1) := by decide +kernel
theorem x_B_touch_10 {ls st : List Value} {x y : Int32} {I : MI} {J : MJ} {R : MR} {S : Sh} {Q : SkQ} : Wp 71 10 ls (.int y :: .int x :: st) I J R S Q = Wp 71 11 ls (.int (x - y) :: st) I J R S Q := o_isub k_B_touch_10
theorem k_B_touch_11 : decode (sk_by 71) 11 = .ok (.istore_n 3, 1) := by decide +kernel
theorem x_B_touch_11 {st : List Value} {l0 : Nat} {l1 : Int32} {l2 : Int32} {x : Int32} {I : MI} {J : MJ} {R : MR} {S : Sh} {Q : SkQ} : Wp 71 11 [.ref l0, .int l1, .int l2, nov, nov] (.int x :: st) I J R S Q = Wp 71 12 [.ref l0, .int l1, .int l2, .int x, nov] st I J R S Q := o_istore_n (Nat.le_of_ble_eq_true rfl) rfl k_B_touch_11
theorem k_B_touch_12 : decode (sk_by 71) 12 = .ok (.aload_n 0, 1) := by decide +kernel
theorem x_B_touch_12 {st : List Value} {l1 : Int32} {l2 : Int32} {l3 : Int32} {x : Nat} {I : MI} {J : MJ} {R : MR} {S : Sh} {Q : SkQ} : Wp 71 12 [.ref x, .int l1, .int l2, .int l3, nov] st I J R S Q = Wp 71 13 [.ref x, .int l1, .int l2, .int l3, nov] (.ref x :: st) I J R S Q := o_aload_n rfl k_B_touch_12
theorem k_B_touch_13 : decode (sk_by 71) 13 = .ok (.iload_n 2, 1) := by decide +kernel
theorem x_B_touch_13 {st : List Value} {l0 : Nat} {l1 : Int32} {l3 : Int32} {x : Int32} {I : MI} {J : MJ} {R : MR} {S : Sh} {Q : SkQ} : Wp 71 13 [.ref l0, .int l1, .int x, .int l3, nov] st I J R S Q = Wp 71 14 [.ref l0, .int l1, .int x, .int l3, nov] (.int x :: st) I J R S Q := o_iload_n rfl k_B_touch_13
theorem k_B_touch_14 : decode (sk_by 71) 14 = .ok (.invokevirtual 49, 3) := by decide +kernel
theorem x_B_touch_14 {ls : List Value} {a0 : Nat} {a1 : Int32} {I : MI} {J : MJ} {R : MR} {S : Sh} {Q : SkQ} (ha : S.1 a0 = 3) : Wp 71 14 ls (.int a1 :: .ref a0 :: []) I J R S Q = Wp 73 0 [.ref a0, .int a1] [] I J R S (Ret 71 14 17 73 ls [] Q) := o_call (as := [.ref a0, .int a1]) (rest := []) (show sk_lkM (sk_cl 71) 49 = some 73 by decide +kernel) (by decide) (by decide) (by (decide +kernel)) (ins := .invokevirtual 49) (by (decide +kernel)) k_B_touch_14 rfl (show 2 = sk_na 73 by (decide +kernel)) (Nat.le_of_ble_eq_true rfl) (Nat.le_trans (show (argL [.ref a0, .int a1]).length ≤ 2 from Nat.le_of_ble_eq_true rfl) (by (decide +kernel))) (rcv_of (by (decide +kernel)) (by decide) ha)
theorem k_B_touch_17 : decode (sk_by 71) 17 = .ok (.aload_n 0, 1) := by decide +kernel
theorem x_B_touch_17 {st : List Value} {l1 : Int32} {l2 : Int32} {l3 : Int32} {x : Nat} {I : MI} {J : MJ} {R : MR} {S : Sh} {Q : SkQ} : Wp 71 17 [.ref x, .int l1, .int l2, .int l3, nov] st I J R S Q = Wp 71 18 [.ref x, .int l1, .int l2, .int l3, nov] (.ref x :: st) I J R S Q := o_aload_n rfl k_B_touch_17
theorem k_B_touch_18 : decode (sk_by 71) 18 = .ok (.iload_n 1, 1) := by decide +kernel
theorem x_B_touch_18 {st : List Value} {l0 : Nat} {l2 : Int32} {l3 : Int32} {x : Int32} {I : MI} {J : MJ} {R : MR} {S : Sh} {Q : SkQ} : Wp 71 18 [.ref l0, .int x, .int l2, .int l3, nov] st I J R S Q = Wp 71 19 [.ref l0, .int x, .int l2, .int l3, nov] (.int x :: st) I J R S Q := o_iload_n rfl k_B_touch_18
theorem k_B_touch_19 : decode (sk_by 71) 19 = .ok (.invokevirtual 49, 3) := by decide +kernel
theorem x_B_touch_19 {ls : List Value} {a0 : Nat} {a1 : Int32} {s0 : Int32} {I : MI} {J : MJ} {R : MR} {S : Sh} {Q : SkQ} (ha : S.1 a0 = 3) : Wp 71 19 ls (.int a1 :: .ref a0 :: [.int s0]) I J R S Q = Wp 73 0 [.ref a0, .int a1] [] I J R S (Ret 71 19 22 73 ls [.int s0] Q) := o_call (as := [.ref a0, .int a1]) (rest := [.int s0]) (show sk_lkM (sk_cl 71) 49 = some 73 by decide +kernel) (by decide) (by decide) (by (decide +kernel)) (ins := .invokevirtual 49) (by (decide +kernel)) k_B_touch_19 rfl (show 2 = sk_na 73 by (decide +kernel)) (Nat.le_of_ble_eq_true rfl) (Nat.le_trans (show (argL [.ref a0, .int a1]).length ≤ 2 from Nat.le_of_ble_eq_true rfl) (by (decide +kernel))) (rcv_of (by (decide +kernel)) (by decide) ha)
theorem k_B_touch_22 : decode (sk_by 71) 22 = .ok (.isub, 1) := by decide +kernel
theorem x_B_touch_22 {ls st : List Value} {x y : Int32} {I : MI} {J : MJ} {R : MR} {S : Sh} {Q : SkQ} : Wp 71 22 ls (.int y :: .int x :: st) I J R S Q = Wp 71 23 ls (.int (x - y) :: st) I J R S Q := o_isub k_B_touch_22
theorem k_B_touch_23 : decode (sk_by 71) 23 = .ok (.istore 4, 2) := by decide +kernel
theorem x_B_touch_23 {st : List Value} {l0 : Nat} {l1 : Int32} {l2 : Int32} {l3 : Int32} {x : Int32} {I : MI} {J : MJ} {R : MR} {S : Sh} {Q : SkQ} : Wp 71 23 [.ref l0, .int l1, .int l2, .int l3, nov] (.int x :: st) I J R S Q = Wp 71 25 [.ref l0, .int l1, .int l2, .int l3, .int x] st I J R S Q := o_istore (Nat.le_of_ble_eq_true rfl) rfl k_B_touch_23
theorem k_B_touch_25 : decode (sk_by 71) 25 = .ok (.iload_n 3, 1) := by decide +kernel
theorem x_B_touch_25 {st : List Value} {l0 : Nat} {l1 : Int32} {l2 : Int32} {l4 : Int32} {x : Int32} {I : MI} {J : MJ} {R : MR} {S : Sh} {Q : SkQ} : Wp 71 25 [.ref l0, .int l1, .int l2, .int x, .int l4] st I J R S Q = Wp 71 26 [.ref l0, .int l1, .int l2, .int x, .int l4] (.int x :: st) I J R S Q := o_iload_n rfl k_B_touch_25
theorem k_B_touch_26 : decode (sk_by 71) 26 = .ok (.tableswitch 78 (-1) 1 #[61, 26, 44], 26) := by decide +kernel
theorem k_B_touch_52 : decode (sk_by 71) 52 = .ok (.iload 4, 2) := by decide +kernel
theorem x_B_touch_52 {st : List Value} {l0 : Nat} {l1 : Int32} {l2 : Int32} {l3 : Int32} {x : Int32} {I : MI} {J : MJ} {R : MR} {S : Sh} {Q : SkQ} : Wp 71 52 [.ref l0, .int l1, .int l2, .int l3, .int x] st I J R S Q = Wp 71 54 [.ref l0, .int l1, .int l2, .int l3, .int x] (.int x :: st) I J R S Q := o_iload rfl k_B_touch_52
theorem k_B_touch_54 : decode (sk_by 71) 54 = .ok (.iconst 1, 1) := by decide +kernel
theorem x_B_touch_54 {ls st : List Value} {I : MI} {J : MJ} {R : MR} {S : Sh} {Q : SkQ} : Wp 71 54 ls st I J R S Q = Wp 71 55 ls (.int 1 :: st) I J R S Q := o_const (by decide) k_B_touch_54
theorem k_B_touch_55 : decode (sk_by 71) 55 = .ok (.if_icmp .eq 9, 3) := by decide +kernel
theorem x_B_touch_55 {ls st : List Value} {x y : Int32} {I : MI} {J : MJ} {R : MR} {S : Sh} {Q : SkQ} : Wp 71 55 ls (.int y :: .int x :: st) I J R S Q = if x = y then Wp 71 64 ls st I J R S Q else Wp 71 58 ls st I J R S Q := o_ic_eq rfl rfl k_B_touch_55
theorem k_B_touch_58 : decode (sk_by 71) 58 = .ok (.iload 4, 2) := by decide +kernel
theorem x_B_touch_58 {st : List Value} {l0 : Nat} {l1 : Int32} {l2 : Int32} {l3 : Int32} {x : Int32} {I : MI} {J : MJ} {R : MR} {S : Sh} {Q : SkQ} : Wp 71 58 [.ref l0, .int l1, .int l2, .int l3, .int x] st I J R S Q = Wp 71 60 [.ref l0, .int l1, .int l2, .int l3, .int x] (.int x :: st) I J R S Q := o_iload rfl k_B_touch_58
theorem k_B_touch_60 : decode (sk_by 71) 60 = .ok (.iconst (-1), 1) := by decide +kernel
theorem x_B_touch_60 {ls st : List Value} {I : MI} {J : MJ} {R : MR} {S : Sh} {Q : SkQ} : Wp 71 60 ls st I J R S Q = Wp 71 61 ls (.int (-1) :: st) I J R S Q := o_const (by decide) k_B_touch_60
theorem k_B_touch_61 : decode (sk_by 71) 61 = .ok (.if_icmp .ne 7, 3) := by decide +kernel
theorem x_B_touch_61 {ls st : List Value} {x y : Int32} {I : MI} {J : MJ} {R : MR} {S : Sh} {Q : SkQ} : Wp 71 61 ls (.int y :: .int x :: st) I J R S Q = if x = y then Wp 71 64 ls st I J R S Q else Wp 71 68 ls st I J R S Q := o_ic_ne rfl rfl k_B_touch_61
theorem k_B_touch_64 : decode (sk_by 71) 64 = .ok (.iconst 1, 1) := by decide +kernel
theorem x_B_touch_64 {ls st : List Value} {I : MI} {J : MJ} {R : MR} {S : Sh} {Q : SkQ} : Wp 71 64 ls st I J R S Q = Wp 71 65 ls (.int 1 :: st) I J R S Q := o_const (by decide) k_B_touch_64
theorem k_B_touch_65 : decode (sk_by 71) 65 = .ok (.goto 4, 3) := by decide +kernel
theorem x_B_touch_65 {ls st : List Value} {I : MI} {J : MJ} {R : MR} {S : Sh} {Q : SkQ} : Wp 71 65 ls st I J R S Q = Wp 71 69 ls st I J R S Q := o_goto rfl rfl k_B_touch_65
theorem k_B_touch_68 : decode (sk_by 71) 68 = .ok (.iconst 0, 1) := by decide +kernel
theorem x_B_touch_68 {ls st : List Value} {I : MI} {J : MJ} {R : MR} {S : Sh} {Q : SkQ} : Wp 71 68 ls st I J R S Q = Wp 71 69 ls (.int 0 :: st) I J R S Q := o_const (by decide) k_B_touch_68
theorem k_B_touch_69 : decode (sk_by 71) 69 = .ok (.ireturn, 1) := by decide +kernel
theorem x_B_touch_69 {ls : List Value} {v : Int32} {I : MI} {J : MJ} {R : MR} {S : Sh} {Q : SkQ} (h : rOk (some .boolean) v = true) : Wp 71 69 ls [.int v] I J R S Q = Q 0 (some (.int v)) I J R S := o_ireturn k_B_touch_69 (by rw [show sk_rt 71 = some .boolean from rfl]; exact h)
theorem k_B_touch_70 : decode (sk_by 71) 70 = .ok (.iload 4, 2) := by decide +kernel
theorem x_B_touch_70 {st : List Value} {l0 : Nat} {l1 : Int32} {l2 : Int32} {l3 : Int32} {x : Int32} {I : MI} {J : MJ} {R : MR} {S : Sh} {Q : SkQ} : Wp 71 70 [.ref l0, .int l1, .int l2, .int l3, .int x] st I J R S Q = Wp 71 72 [.ref l0, .int l1, .int l2, .int l3, .int x] (.int x :: st) I J R S Q := o_iload rfl k_B_touch_70
theorem k_B_touch_72 : decode (sk_by 71) 72 = .ok (.ifCond .eq 9, 3) := by decide +kernel
theorem x_B_touch_72 {ls st : List Value} {x : Int32} {I : MI} {J : MJ} {R : MR} {S : Sh} {Q : SkQ} : Wp 71 72 ls (.int x :: st) I J R S Q = if x = 0 then Wp 71 81 ls st I J R S Q else Wp 71 75 ls st I J R S Q := o_if_eq rfl rfl k_B_touch_72
theorem k_B_touch_75 : decode (sk_by 71) 75 = .ok (.iload 4, 2) := by decide +kernel
theorem x_B_touch_75 {st : List Value} {l0 : Nat} {l1 : Int32} {l2 : Int32} {l3 : Int32} {x : Int32} {I : MI} {J : MJ} {R : MR} {S : Sh} {Q : SkQ} : Wp 71 75 [.ref l0, .int l1, .int l2, .int l3, .int x] st I J R S Q = Wp 71 77 [.ref l0, .int l1, .int l2, .int l3, .int x] (.int x :: st) I J R S Q := o_iload rfl k_B_touch_75
theorem k_B_touch_77 : decode (sk_by 71) 77 = .ok (.iconst (-1), 1) := by decide +kernel
theorem x_B_touch_77 {ls st : List Value} {I : MI} {J : MJ} {R : MR} {S : Sh} {Q : SkQ} : Wp 71 77 ls st I J R S Q = Wp 71 78 ls (.int (-1) :: st) I J R S Q := o_const (by decide) k_B_touch_77
theorem k_B_touch_78 : decode (sk_by 71) 78 = .ok (.if_icmp .ne 7, 3) := by decide +kernel
theorem x_B_touch_78 {ls st : List Value} {x y : Int32} {I : MI} {J : MJ} {R : MR} {S : Sh} {Q : SkQ} : Wp 71 78 ls (.int y :: .int x :: st) I J R S Q = if x = y then Wp 71 81 ls st I J R S Q else Wp 71 85 ls st I J R S Q := o_ic_ne rfl rfl k_B_touch_78
theorem k_B_touch_81 : decode (sk_by 71) 81 = .ok (.iconst 1, 1) := by decide +kernel
theorem x_B_touch_81 {ls st : List Value} {I : MI} {J : MJ} {R : MR} {S : Sh} {Q : SkQ} : Wp 71 81 ls st I J R S Q = Wp 71 82 ls (.int 1 :: st) I J R S Q := o_const (by decide) k_B_touch_81
theorem k_B_touch_82 : decode (sk_by 71) 82 = .ok (.goto 4, 3) := by decide +kernel
theorem x_B_touch_82 {ls st : List Value} {I : MI} {J : MJ} {R : MR} {S : Sh} {Q : SkQ} : Wp 71 82 ls st I J R S Q = Wp 71 86 ls st I J R S Q := o_goto rfl rfl k_B_touch_82
theorem k_B_touch_85 : decode (sk_by 71) 85 = .ok (.iconst 0, 1) := by decide +kernel
theorem x_B_touch_85 {ls st : List Value} {I : MI} {J : MJ} {R : MR} {S : Sh} {Q : SkQ} : Wp 71 85 ls st I J R S Q = Wp 71 86 ls (.int 0 :: st) I J R S Q := o_const (by decide) k_B_touch_85
theorem k_B_touch_86 : decode (sk_by 71) 86 = .ok (.ireturn, 1) := by decide +kernel
theorem x_B_touch_86 {ls : List Value} {v : Int32} {I : MI} {J : MJ} {R : MR} {S : Sh} {Q : SkQ} (h : rOk (some .boolean) v = true) : Wp 71 86 ls [.int v] I J R S Q = Q 0 (some (.int v)) I J R S := o_ireturn k_B_touch_86 (by rw [show sk_rt 71 = some .boolean from rfl]; exact h)
theorem k_B_touch_87 : decode (sk_by 71) 87 = .ok (.iload 4, 2) := by decide +kernel
theorem x_B_touch_87 {st : List Value} {l0 : Nat} {l1 : Int32} {l2 : Int32} {l3 : Int32} {x : Int32} {I : MI} {J : MJ} {R : MR} {S : Sh} {Q : SkQ} : Wp 71 87 [.ref l0, .int l1, .int l2, .int l3, .int x] st I J R S Q = Wp 71 89 [.ref l0, .int l1, .int l2, .int l3, .int x] (.int x :: st) I J R S Q := o_iload rfl k_B_touch_87
theorem k_B_touch_89 : decode (sk_by 71) 89 = .ok (.ifCond .eq 9, 3) := by decide +kernel
theorem x_B_touch_89 {ls st : List Value} {x : Int32} {I : MI} {J : MJ} {R : MR} {S : Sh} {Q : SkQ} : Wp 71 89 ls (.int x :: st) I J R S Q = if x = 0 then Wp 71 98 ls st I J R S Q else Wp 71 92 ls st I J R S Q := o_if_eq rfl rfl k_B_touch_89
theorem k_B_touch_92 : decode (sk_by 71) 92 = .ok (.iload 4, 2) := by decide +kernel
theorem x_B_touch_92 {st : List Value} {l0 : Nat} {l1 : Int32} {l2 : Int32} {l3 : Int32} {x : Int32} {I : MI} {J : MJ} {R : MR} {S : Sh} {Q : SkQ} : Wp 71 92 [.ref l0, .int l1, .int l2, .int l3, .int x] st I J R S Q = Wp 71 94 [.ref l0, .int l1, .int l2, .int l3, .int x] (.int x :: st) I J R S Q := o_iload rfl k_B_touch_92
theorem k_B_touch_94 : decode (sk_by 71) 94 = .ok (.iconst 1, 1) := by decide +kernel
theorem x_B_touch_94 {ls st : List Value} {I : MI} {J : MJ} {R : MR} {S : Sh} {Q : SkQ} : Wp 71 94 ls st I J R S Q = Wp 71 95 ls (.int 1 :: st) I J R S Q := o_const (by decide) k_B_touch_94
theorem k_B_touch_95 : decode (sk_by 71) 95 = .ok (.if_icmp .ne 7, 3) := by decide +kernel
theorem x_B_touch_95 {ls st : List Value} {x y : Int32} {I : MI} {J : MJ} {R : MR} {S : Sh} {Q : SkQ} : Wp 71 95 ls (.int y :: .int x :: st) I J R S Q = if x = y then Wp 71 98 ls st I J R S Q else Wp 71 102 ls st I J R S Q := o_ic_ne rfl rfl k_B_touch_95
theorem k_B_touch_98 : decode (sk_by 71) 98 = .ok (.iconst 1, 1) := by decide +kernel
theorem x_B_touch_98 {ls st : List Value} {I : MI} {J : MJ} {R : MR} {S : Sh} {Q : SkQ} : Wp 71 98 ls st I J R S Q = Wp 71 99 ls (.int 1 :: st) I J R S Q := o_const (by decide) k_B_touch_98
theorem k_B_touch_99 : decode (sk_by 71) 99 = .ok (.goto 4, 3) := by decide +kernel
theorem x_B_touch_99 {ls st : List Value} {I : MI} {J : MJ} {R : MR} {S : Sh} {Q : SkQ} : Wp 71 99 ls st I J R S Q = Wp 71 103 ls st I J R S Q := o_goto rfl rfl k_B_touch_99
theorem k_B_touch_102 : decode (sk_by 71) 102 = .ok (.iconst 0, 1) := by decide +kernel
theorem x_B_touch_102 {ls st : List Value} {I : MI} {J : MJ} {R : MR} {S : Sh} {Q : SkQ} : Wp 71 102 ls st I J R S Q = Wp 71 103 ls (.int 0 :: st) I J R S Q := o_const (by decide) k_B_touch_102
theorem k_B_touch_103 : decode (sk_by 71) 103 = .ok (.ireturn, 1) := by decide +kernel
theorem x_B_touch_103 {ls : List Value} {v : Int32} {I : MI} {J : MJ} {R : MR} {S : Sh} {Q : SkQ} (h : rOk (some .boolean) v = true) : Wp 71 103 ls [.int v] I J R S Q = Q 0 (some (.int v)) I J R S := o_ireturn k_B_touch_103 (by rw [show sk_rt 71 = some .boolean from rfl]; exact h)
theorem k_B_touch_104 : decode (sk_by 71) 104 = .ok (.iconst 0, 1) := by decide +kernel
theorem x_B_touch_104 {ls st : List Value} {I : MI} {J : MJ} {R : MR} {S : Sh} {Q : SkQ} : Wp 71 104 ls st I J R S Q = Wp 71 105 ls (.int 0 :: st) I J R S Q := o_const (by decide) k_B_touch_104
theorem k_B_touch_105 : decode (sk_by 71) 105 = .ok (.ireturn, 1) := by decide +kernel
theorem x_B_touch_105 {ls : List Value} {v : Int32} {I : MI} {J : MJ} {R : MR} {S : Sh} {Q : SkQ} (h : rOk (some .boolean) v = true) : Wp 71 105 ls [.int v] I J R S Q = Q 0 (some (.int v)) I J R S := o_ireturn k_B_touch_105 (by rw [show sk_rt 71 = some .boolean from rfl]; exact h)
theorem k_B_rowOf_0 : decode (sk_by 72) 0 = .ok (.iload_n 1, 1) := by decide +kernel
theorem x_B_rowOf_0 {st : List Value} {l0 : Nat} {x : Int32} {I : MI} {J : MJ} {R : MR} {S : Sh} {Q : SkQ} : Wp 72 0 [.ref l0, .int x] st I J R S Q = Wp 72 1 [.ref l0, .int x] (.int x :: st) I J R S Q := o_iload_n rfl k_B_rowOf_0
theorem k_B_rowOf_1 : decode (sk_by 72) 1 = .ok (.ifCond .lt 18, 3) := by decide +kernel
theorem x_B_rowOf_1 {ls st : List Value} {x : Int32} {I : MI} {J : MJ} {R : MR} {S : Sh} {Q : SkQ} : Wp 72 1 ls (.int x :: st) I J R S Q = if x < 0 then Wp 72 19 ls st I J R S Q else Wp 72 4 ls st I J R S Q := o_if_lt rfl rfl k_B_rowOf_1
theorem k_B_rowOf_4 : decode (sk_by 72) 4 = .ok (.iload_n 1, 1) := by decide +kernel
theorem x_B_rowOf_4 {st : List Value} {l0 : Nat} {x : Int32} {I : MI} {J : MJ} {R : MR} {S : Sh} {Q : SkQ} : Wp 72 4 [.ref l0, .int x] st I J R S Q = Wp 72 5 [.ref l0, .int x] (.int x :: st) I J R S Q := o_iload_n rfl k_B_rowOf_4
theorem k_B_rowOf_5 : decode (sk_by 72) 5 = .ok (.bipush 26, 2) := by decide +kernel
theorem x_B_rowOf_5 {ls st : List Value} {I : MI} {J : MJ} {R : MR} {S : Sh} {Q : SkQ} : Wp 72 5 ls st I J R S Q = Wp 72 7 ls (.int 26 :: st) I J R S Q := o_bi (by decide) k_B_rowOf_5
theorem k_B_rowOf_7 : decode (sk_by 72) 7 = .ok (.if_icmp .ge 12, 3) := by decide +kernel
theorem x_B_rowOf_7 {ls st : List Value} {x y : Int32} {I : MI} {J : MJ} {R : MR} {S : Sh} {Q : SkQ} : Wp 72 7 ls (.int y :: .int x :: st) I J R S Q = if x < y then Wp 72 10 ls st I J R S Q else Wp 72 19 ls st I J R S Q := o_ic_ge rfl rfl k_B_rowOf_7
theorem k_B_rowOf_10 : decode (sk_by 72) 10 = .ok (.aload_n 0, 1) := by decide +kernel
theorem x_B_rowOf_10 {st : List Value} {l1 : Int32} {x : Nat} {I : MI} {J : MJ} {R : MR} {S : Sh} {Q : SkQ} : Wp 72 10 [.ref x, .int l1] st I J R S Q = Wp 72 11 [.ref x, .int l1] (.ref x :: st) I J R S Q := o_aload_n rfl k_B_rowOf_10
theorem k_B_rowOf_11 : decode (sk_by 72) 11 = .ok (.getfield 9, 3) := by decide +kernel
theorem x_B_rowOf_11 {ls st : List Value} {a : Nat} {I : MI} {J : MJ} {R : MR} {S : Sh} {Q : SkQ} (ha : S.1 a = 3) : Wp 72 11 ls (.ref a :: st) I J R S Q = Wp 72 14 ls (R a 0 :: st) I J R S Q := o_getfieldR (show sk_lkF (sk_cl 72) 9 = some (3, 0, 2, 1, 0) by decide +kernel) k_B_rowOf_11 ha
theorem k_B_rowOf_14 : decode (sk_by 72) 14 = .ok (.iload_n 1, 1) := by decide +kernel
theorem x_B_rowOf_14 {st : List Value} {l0 : Nat} {x : Int32} {I : MI} {J : MJ} {R : MR} {S : Sh} {Q : SkQ} : Wp 72 14 [.ref l0, .int x] st I J R S Q = Wp 72 15 [.ref l0, .int x] (.int x :: st) I J R S Q := o_iload_n rfl k_B_rowOf_14
theorem k_B_rowOf_15 : decode (sk_by 72) 15 = .ok (.iaload, 1) := by decide +kernel
theorem x_B_rowOf_15 {ls st : List Value} {a : Nat} {i : Int32} {I : MI} {J : MJ} {R : MR} {S : Sh} {Q : SkQ} (ha : S.1 a = 30) (hi : inb i (S.2.1 a) = true) : Wp 72 15 ls (.int i :: .ref a :: st) I J R S Q = Wp 72 16 ls (.int (I a (ix i)) :: st) I J R S Q := o_iaload k_B_rowOf_15 ha hi
theorem k_B_rowOf_16 : decode (sk_by 72) 16 = .ok (.goto 4, 3) := by decide +kernel
theorem x_B_rowOf_16 {ls st : List Value} {I : MI} {J : MJ} {R : MR} {S : Sh} {Q : SkQ} : Wp 72 16 ls st I J R S Q = Wp 72 20 ls st I J R S Q := o_goto rfl rfl k_B_rowOf_16
theorem k_B_rowOf_19 : decode (sk_by 72) 19 = .ok (.iconst 0, 1) := by decide +kernel
theorem x_B_rowOf_19 {ls st : List Value} {I : MI} {J : MJ} {R : MR} {S : Sh} {Q : SkQ} : Wp 72 19 ls st I J R S Q = Wp 72 20 ls (.int 0 :: st) I J R S Q := o_const (by decide) k_B_rowOf_19
theorem k_B_rowOf_20 : decode (sk_by 72) 20 = .ok (.ireturn, 1) := by decide +kernel
theorem x_B_rowOf_20 {ls : List Value} {v : Int32} {I : MI} {J : MJ} {R : MR} {S : Sh} {Q : SkQ} : Wp 72 20 ls [.int v] I J R S Q = Q 0 (some (.int v)) I J R S := o_ireturn k_B_rowOf_20 rfl
theorem k_B_columnOf_0 : decode (sk_by 73) 0 = .ok (.iload_n 1, 1) := by decide +kernel
theorem x_B_columnOf_0 {st : List Value} {l0 : Nat} {x : Int32} {I : MI} {J : MJ} {R : MR} {S : Sh} {Q : SkQ} : Wp 73 0 [.ref l0, .int x] st I J R S Q = Wp 73 1 [.ref l0, .int x] (.int x :: st) I J R S Q := o_iload_n rfl k_B_columnOf_0
theorem k_B_columnOf_1 : decode (sk_by 73) 1 = .ok (.ifCond .lt 18, 3) := by decide +kernel
theorem x_B_columnOf_1 {ls st : List Value} {x : Int32} {I : MI} {J : MJ} {R : MR} {S : Sh} {Q : SkQ} : Wp 73 1 ls (.int x :: st) I J R S Q = if x < 0 then Wp 73 19 ls st I J R S Q else Wp 73 4 ls st I J R S Q := o_if_lt rfl rfl k_B_columnOf_1
theorem k_B_columnOf_4 : decode (sk_by 73) 4 = .ok (.iload_n 1, 1) := by decide +kernel
theorem x_B_columnOf_4 {st : List Value} {l0 : Nat} {x : Int32} {I : MI} {J : MJ} {R : MR} {S : Sh} {Q : SkQ} : Wp 73 4 [.ref l0, .int x] st I J R S Q = Wp 73 5 [.ref l0, .int x] (.int x :: st) I J R S Q := o_iload_n rfl k_B_columnOf_4
theorem k_B_columnOf_5 : decode (sk_by 73) 5 = .ok (.bipush 26, 2) := by decide +kernel
theorem x_B_columnOf_5 {ls st : List Value} {I : MI} {J : MJ} {R : MR} {S : Sh} {Q : SkQ} : Wp 73 5 ls st I J R S Q = Wp 73 7 ls (.int 26 :: st) I J R S Q := o_bi (by decide) k_B_columnOf_5
theorem k_B_columnOf_7 : decode (sk_by 73) 7 = .ok (.if_icmp .ge 12, 3) := by decide +kernel
theorem x_B_columnOf_7 {ls st : List Value} {x y : Int32} {I : MI} {J : MJ} {R : MR} {S : Sh} {Q : SkQ} : Wp 73 7 ls (.int y :: .int x :: st) I J R S Q = if x < y then Wp 73 10 ls st I J R S Q else Wp 73 19 ls st I J R S Q := o_ic_ge rfl rfl k_B_columnOf_7
theorem k_B_columnOf_10 : decode (sk_by 73) 10 = .ok (.aload_n 0, 1) := by decide +kernel
theorem x_B_columnOf_10 {st : List Value} {l1 : Int32} {x : Nat} {I : MI} {J : MJ} {R : MR} {S : Sh} {Q : SkQ} : Wp 73 10 [.ref x, .int l1] st I J R S Q = Wp 73 11 [.ref x, .int l1] (.ref x :: st) I J R S Q := o_aload_n rfl k_B_columnOf_10
theorem k_B_columnOf_11 : decode (sk_by 73) 11 = .ok (.getfield 15, 3) := by decide +kernel
theorem x_B_columnOf_11 {ls st : List Value} {a : Nat} {I : MI} {J : MJ} {R : MR} {S : Sh} {Q : SkQ} (ha : S.1 a = 3) : Wp 73 11 ls (.ref a :: st) I J R S Q = Wp 73 14 ls (R a 1 :: st) I J R S Q := o_getfieldR (show sk_lkF (sk_cl 73) 15 = some (3, 1, 2, 1, 0) by decide +kernel) k_B_columnOf_11 ha
theorem k_B_columnOf_14 : decode (sk_by 73) 14 = .ok (.iload_n 1, 1) := by decide +kernel
theorem x_B_columnOf_14 {st : List Value} {l0 : Nat} {x : Int32} {I : MI} {J : MJ} {R : MR} {S : Sh} {Q : SkQ} : Wp 73 14 [.ref l0, .int x] st I J R S Q = Wp 73 15 [.ref l0, .int x] (.int x :: st) I J R S Q := o_iload_n rfl k_B_columnOf_14
theorem k_B_columnOf_15 : decode (sk_by 73) 15 = .ok (.iaload, 1) := by decide +kernel
theorem x_B_columnOf_15 {ls st : List Value} {a : Nat} {i : Int32} {I : MI} {J : MJ} {R : MR} {S : Sh} {Q : SkQ} (ha : S.1 a = 30) (hi : inb i (S.2.1 a) = true) : Wp 73 15 ls (.int i :: .ref a :: st) I J R S Q = Wp 73 16 ls (.int (I a (ix i)) :: st) I J R S Q := o_iaload k_B_columnOf_15 ha hi
theorem k_B_columnOf_16 : decode (sk_by 73) 16 = .ok (.goto 4, 3) := by decide +kernel
theorem x_B_columnOf_16 {ls st : List Value} {I : MI} {J : MJ} {R : MR} {S : Sh} {Q : SkQ} : Wp 73 16 ls st I J R S Q = Wp 73 20 ls st I J R S Q := o_goto rfl rfl k_B_columnOf_16
theorem k_B_columnOf_19 : decode (sk_by 73) 19 = .ok (.iconst 0, 1) := by decide +kernel
theorem x_B_columnOf_19 {ls st : List Value} {I : MI} {J : MJ} {R : MR} {S : Sh} {Q : SkQ} : Wp 73 19 ls st I J R S Q = Wp 73 20 ls (.int 0 :: st) I J R S Q := o_const (by decide) k_B_columnOf_19
theorem k_B_columnOf_20 : decode (sk_by 73) 20 = .ok (.ireturn, 1) := by decide +kernel
theorem x_B_columnOf_20 {ls : List Value} {v : Int32} {I : MI} {J : MJ} {R : MR} {S : Sh} {Q : SkQ} : Wp 73 20 ls [.int v] I J R S Q = Q 0 (some (.int v)) I J R S := o_ireturn k_B_columnOf_20 rfl
theorem k_B_handOf_0 : decode (sk_by 74) 0 = .ok (.iload_n 1, 1) := by decide +kernel
theorem x_B_handOf_0 {st : List Value} {l0 : Nat} {x : Int32} {I : MI} {J : MJ} {R : MR} {S : Sh} {Q : SkQ} : Wp 74 0 [.ref l0, .int x] st I J R S Q = Wp 74 1 [.ref l0, .int x] (.int x :: st) I J R S Q := o_iload_n rfl k_B_handOf_0
theorem k_B_handOf_1 : decode (sk_by 74) 1 = .ok (.ifCond .lt 23, 3) := by decide +kernel
theorem x_B_handOf_1 {ls st : List Value} {x : Int32} {I : MI} {J : MJ} {R : MR} {S : Sh} {Q : SkQ} : Wp 74 1 ls (.int x :: st) I J R S Q = if x < 0 then Wp 74 24 ls st I J R S Q else Wp 74 4 ls st I J R S Q := o_if_lt rfl rfl k_B_handOf_1
theorem k_B_handOf_4 : decode (sk_by 74) 4 = .ok (.iload_n 1, 1) := by decide +kernel
theorem x_B_handOf_4 {st : List Value} {l0 : Nat} {x : Int32} {I : MI} {J : MJ} {R : MR} {S : Sh} {Q : SkQ} : Wp 74 4 [.ref l0, .int x] st I J R S Q = Wp 74 5 [.ref l0, .int x] (.int x :: st) I J R S Q := o_iload_n rfl k_B_handOf_4
theorem k_B_handOf_5 : decode (sk_by 74) 5 = .ok (.bipush 26, 2) := by decide +kernel
theorem x_B_handOf_5 {ls st : List Value} {I : MI} {J : MJ} {R : MR} {S : Sh} {Q : SkQ} : Wp 74 5 ls st I J R S Q = Wp 74 7 ls (.int 26 :: st) I J R S Q := o_bi (by decide) k_B_handOf_5
theorem k_B_handOf_7 : decode (sk_by 74) 7 = .ok (.if_icmp .ge 17, 3) := by decide +kernel
theorem x_B_handOf_7 {ls st : List Value} {x y : Int32} {I : MI} {J : MJ} {R : MR} {S : Sh} {Q : SkQ} : Wp 74 7 ls (.int y :: .int x :: st) I J R S Q = if x < y then Wp 74 10 ls st I J R S Q else Wp 74 24 ls st I J R S Q := o_ic_ge rfl rfl k_B_handOf_7
theorem k_B_handOf_10 : decode (sk_by 74) 10 = .ok (.aload_n 0, 1) := by decide +kernel
theorem x_B_handOf_10 {st : List Value} {l1 : Int32} {x : Nat} {I : MI} {J : MJ} {R : MR} {S : Sh} {Q : SkQ} : Wp 74 10 [.ref x, .int l1] st I J R S Q = Wp 74 11 [.ref x, .int l1] (.ref x :: st) I J R S Q := o_aload_n rfl k_B_handOf_10
theorem k_B_handOf_11 : decode (sk_by 74) 11 = .ok (.getfield 15, 3) := by decide +kernel
theorem x_B_handOf_11 {ls st : List Value} {a : Nat} {I : MI} {J : MJ} {R : MR} {S : Sh} {Q : SkQ} (ha : S.1 a = 3) : Wp 74 11 ls (.ref a :: st) I J R S Q = Wp 74 14 ls (R a 1 :: st) I J R S Q := o_getfieldR (show sk_lkF (sk_cl 74) 15 = some (3, 1, 2, 1, 0) by decide +kernel) k_B_handOf_11 ha
theorem k_B_handOf_14 : decode (sk_by 74) 14 = .ok (.iload_n 1, 1) := by decide +kernel
theorem x_B_handOf_14 {st : List Value} {l0 : Nat} {x : Int32} {I : MI} {J : MJ} {R : MR} {S : Sh} {Q : SkQ} : Wp 74 14 [.ref l0, .int x] st I J R S Q = Wp 74 15 [.ref l0, .int x] (.int x :: st) I J R S Q := o_iload_n rfl k_B_handOf_14
theorem k_B_handOf_15 : decode (sk_by 74) 15 = .ok (.iaload, 1) := by decide +kernel
theorem x_B_handOf_15 {ls st : List Value} {a : Nat} {i : Int32} {I : MI} {J : MJ} {R : MR} {S : Sh} {Q : SkQ} (ha : S.1 a = 30) (hi : inb i (S.2.1 a) = true) : Wp 74 15 ls (.int i :: .ref a :: st) I J R S Q = Wp 74 16 ls (.int (I a (ix i)) :: st) I J R S Q := o_iaload k_B_handOf_15 ha hi
theorem k_B_handOf_16 : decode (sk_by 74) 16 = .ok (.iconst 5, 1) := by decide +kernel
theorem x_B_handOf_16 {ls st : List Value} {I : MI} {J : MJ} {R : MR} {S : Sh} {Q : SkQ} : Wp 74 16 ls st I J R S Q = Wp 74 17 ls (.int 5 :: st) I J R S Q := o_const (by decide) k_B_handOf_16
theorem k_B_handOf_17 : decode (sk_by 74) 17 = .ok (.if_icmp .lt 7, 3) := by decide +kernel
theorem x_B_handOf_17 {ls st : List Value} {x y : Int32} {I : MI} {J : MJ} {R : MR} {S : Sh} {Q : SkQ} : Wp 74 17 ls (.int y :: .int x :: st) I J R S Q = if x < y then Wp 74 24 ls st I J R S Q else Wp 74 20 ls st I J R S Q := o_ic_lt rfl rfl k_B_handOf_17
theorem k_B_handOf_20 : decode (sk_by 74) 20 = .ok (.iconst 1, 1) := by decide +kernel
theorem x_B_handOf_20 {ls st : List Value} {I : MI} {J : MJ} {R : MR} {S : Sh} {Q : SkQ} : Wp 74 20 ls st I J R S Q = Wp 74 21 ls (.int 1 :: st) I J R S Q := o_const (by decide) k_B_handOf_20
theorem k_B_handOf_21 : decode (sk_by 74) 21 = .ok (.goto 4, 3) := by decide +kernel
theorem x_B_handOf_21 {ls st : List Value} {I : MI} {J : MJ} {R : MR} {S : Sh} {Q : SkQ} : Wp 74 21 ls st I J R S Q = Wp 74 25 ls st I J R S Q := o_goto rfl rfl k_B_handOf_21
theorem k_B_handOf_24 : decode (sk_by 74) 24 = .ok (.iconst 0, 1) := by decide +kernel
theorem x_B_handOf_24 {ls st : List Value} {I : MI} {J : MJ} {R : MR} {S : Sh} {Q : SkQ} : Wp 74 24 ls st I J R S Q = Wp 74 25 ls (.int 0 :: st) I J R S Q := o_const (by decide) k_B_handOf_24
theorem k_B_handOf_25 : decode (sk_by 74) 25 = .ok (.ireturn, 1) := by decide +kernel
theorem x_B_handOf_25 {ls : List Value} {v : Int32} {I : MI} {J : MJ} {R : MR} {S : Sh} {Q : SkQ} : Wp 74 25 ls [.int v] I J R S Q = Q 0 (some (.int v)) I J R S := o_ireturn k_B_handOf_25 rfl
theorem k_B_costOfChange_0 : decode (sk_by 76) 0 = .ok (.iload_n 1, 1) := by decide +kernel
theorem x_B_costOfChange_0 {st : List Value} {l0 : Nat} {l2 : Int32} {x : Int32} {I : MI} {J : MJ} {R : MR} {S : Sh} {Q : SkQ} : Wp 76 0 [.ref l0, .int x, .int l2, nov] st I J R S Q = Wp 76 1 [.ref l0, .int x, .int l2, nov] (.int x :: st) I J R S Q := o_iload_n rfl k_B_costOfChange_0
theorem k_B_costOfChange_1 : decode (sk_by 76) 1 = .ok (.iload_n 2, 1) := by decide +kernel
theorem x_B_costOfChange_1 {st : List Value} {l0 : Nat} {l1 : Int32} {x : Int32} {I : MI} {J : MJ} {R : MR} {S : Sh} {Q : SkQ} : Wp 76 1 [.ref l0, .int l1, .int x, nov] st I J R S Q = Wp 76 2 [.ref l0, .int l1, .int x, nov] (.int x :: st) I J R S Q := o_iload_n rfl k_B_costOfChange_1
theorem k_B_costOfChange_2 : decode (sk_by 76) 2 = .ok (.if_icmp .ne 5, 3) := by decide +kernel
theorem x_B_costOfChange_2 {ls st : List Value} {x y : Int32} {I : MI} {J : MJ} {R : MR} {S : Sh} {Q : SkQ} : Wp 76 2 ls (.int y :: .int x :: st) I J R S Q = if x = y then Wp 76 5 ls st I J R S Q else Wp 76 7 ls st I J R S Q := o_ic_ne rfl rfl k_B_costOfChange_2
theorem k_B_costOfChange_5 : decode (sk_by 76) 5 = .ok (.iconst 0, 1) := by decide +kernel
theorem x_B_costOfChange_5 {ls st : List Value} {I : MI} {J : MJ} {R : MR} {S : Sh} {Q : SkQ} : Wp 76 5 ls st I J R S Q = Wp 76 6 ls (.int 0 :: st) I J R S Q := o_const (by decide) k_B_costOfChange_5
theorem k_B_costOfChange_6 : decode (sk_by 76) 6 = .ok (.ireturn, 1) := by decide +kernel
theorem x_B_costOfChange_6 {ls : List Value} {v : Int32} {I : MI} {J : MJ} {R : MR} {S : Sh} {Q : SkQ} : Wp 76 6 ls [.int v] I J R S Q = Q 0 (some (.int v)) I J R S := o_ireturn k_B_costOfChange_6 rfl
theorem k_B_costOfChange_7 : decode (sk_by 76) 7 = .ok (.iload_n 1, 1) := by decide +kernel
theorem x_B_costOfChange_7 {st : List Value} {l0 : Nat} {l2 : Int32} {x : Int32} {I : MI} {J : MJ} {R : MR} {S : Sh} {Q : SkQ} : Wp 76 7 [.ref l0, .int x, .int l2, nov] st I J R S Q = Wp 76 8 [.ref l0, .int x, .int l2, nov] (.int x :: st) I J R S Q := o_iload_n rfl k_B_costOfChange_7
theorem k_B_costOfChange_8 : decode (sk_by 76) 8 = .ok (.ifCond .lt 27, 3) := by decide +kernel
theorem x_B_costOfChange_8 {ls st : List Value} {x : Int32} {I : MI} {J : MJ} {R : MR} {S : Sh} {Q : SkQ} : Wp 76 8 ls (.int x :: st) I J R S Q = if x < 0 then Wp 76 35 ls st I J R S Q else Wp 76 11 ls st I J R S Q := o_if_lt rfl rfl k_B_costOfChange_8
theorem k_B_costOfChange_11 : decode (sk_by 76) 11 = .ok (.iload_n 1, 1) := by decide +kernel
theorem x_B_costOfChange_11 {st : List Value} {l0 : Nat} {l2 : Int32} {x : Int32} {I : MI} {J : MJ} {R : MR} {S : Sh} {Q : SkQ} : Wp 76 11 [.ref l0, .int x, .int l2, nov] st I J R S Q = Wp 76 12 [.ref l0, .int x, .int l2, nov] (.int x :: st) I J R S Q := o_iload_n rfl k_B_costOfChange_11
theorem k_B_costOfChange_12 : decode (sk_by 76) 12 = .ok (.bipush 26, 2) := by decide +kernel
theorem x_B_costOfChange_12 {ls st : List Value} {I : MI} {J : MJ} {R : MR} {S : Sh} {Q : SkQ} : Wp 76 12 ls st I J R S Q = Wp 76 14 ls (.int 26 :: st) I J R S Q := o_bi (by decide) k_B_costOfChange_12
theorem k_B_costOfChange_14 : decode (sk_by 76) 14 = .ok (.if_icmp .ge 21, 3) := by decide +kernel
theorem x_B_costOfChange_14 {ls st : List Value} {x y : Int32} {I : MI} {J : MJ} {R : MR} {S : Sh} {Q : SkQ} : Wp 76 14 ls (.int y :: .int x :: st) I J R S Q = if x < y then Wp 76 17 ls st I J R S Q else Wp 76 35 ls st I J R S Q := o_ic_ge rfl rfl k_B_costOfChange_14
theorem k_B_costOfChange_17 : decode (sk_by 76) 17 = .ok (.aload_n 0, 1) := by decide +kernel
theorem x_B_costOfChange_17 {st : List Value} {l1 : Int32} {l2 : Int32} {x : Nat} {I : MI} {J : MJ} {R : MR} {S : Sh} {Q : SkQ} : Wp 76 17 [.ref x, .int l1, .int l2, nov] st I J R S Q = Wp 76 18 [.ref x, .int l1, .int l2, nov] (.ref x :: st) I J R S Q := o_aload_n rfl k_B_costOfChange_17
theorem k_B_costOfChange_18 : decode (sk_by 76) 18 = .ok (.getfield 18, 3) := by decide +kernel
theorem x_B_costOfChange_18 {ls st : List Value} {a : Nat} {I : MI} {J : MJ} {R : MR} {S : Sh} {Q : SkQ} (ha : S.1 a = 3) : Wp 76 18 ls (.ref a :: st) I J R S Q = Wp 76 21 ls (R a 2 :: st) I J R S Q := o_getfieldR (show sk_lkF (sk_cl 76) 18 = some (3, 2, 2, 1, 0) by decide +kernel) k_B_costOfChange_18 ha
theorem k_B_costOfChange_21 : decode (sk_by 76) 21 = .ok (.iload_n 1, 1) := by decide +kernel
theorem x_B_costOfChange_21 {st : List Value} {l0 : Nat} {l2 : Int32} {x : Int32} {I : MI} {J : MJ} {R : MR} {S : Sh} {Q : SkQ} : Wp 76 21 [.ref l0, .int x, .int l2, nov] st I J R S Q = Wp 76 22 [.ref l0, .int x, .int l2, nov] (.int x :: st) I J R S Q := o_iload_n rfl k_B_costOfChange_21
theorem k_B_costOfChange_22 : decode (sk_by 76) 22 = .ok (.iaload, 1) := by decide +kernel
theorem x_B_costOfChange_22 {ls st : List Value} {a : Nat} {i : Int32} {I : MI} {J : MJ} {R : MR} {S : Sh} {Q : SkQ} (ha : S.1 a = 30) (hi : inb i (S.2.1 a) = true) : Wp 76 22 ls (.int i :: .ref a :: st) I J R S Q = Wp 76 23 ls (.int (I a (ix i)) :: st) I J R S Q := o_iaload k_B_costOfChange_22 ha hi
theorem k_B_costOfChange_23 : decode (sk_by 76) 23 = .ok (.iload_n 2, 1) := by decide +kernel
theorem x_B_costOfChange_23 {st : List Value} {l0 : Nat} {l1 : Int32} {x : Int32} {I : MI} {J : MJ} {R : MR} {S : Sh} {Q : SkQ} : Wp 76 23 [.ref l0, .int l1, .int x, nov] st I J R S Q = Wp 76 24 [.ref l0, .int l1, .int x, nov] (.int x :: st) I J R S Q := o_iload_n rfl k_B_costOfChange_23
theorem k_B_costOfChange_24 : decode (sk_by 76) 24 = .ok (.ishr, 1) := by decide +kernel
theorem x_B_costOfChange_24 {ls st : List Value} {x y : Int32} {I : MI} {J : MJ} {R : MR} {S : Sh} {Q : SkQ} : Wp 76 24 ls (.int y :: .int x :: st) I J R S Q = Wp 76 25 ls (.int (x >>> (y &&& 31)) :: st) I J R S Q := o_ishr k_B_costOfChange_24
theorem k_B_costOfChange_25 : decode (sk_by 76) 25 = .ok (.iconst 1, 1) := by decide +kernel
theorem x_B_costOfChange_25 {ls st : List Value} {I : MI} {J : MJ} {R : MR} {S : Sh} {Q : SkQ} : Wp 76 25 ls st I J R S Q = Wp 76 26 ls (.int 1 :: st) I J R S Q := o_const (by decide) k_B_costOfChange_25
theorem k_B_costOfChange_26 : decode (sk_by 76) 26 = .ok (.iand, 1) := by decide +kernel
theorem x_B_costOfChange_26 {ls st : List Value} {x y : Int32} {I : MI} {J : MJ} {R : MR} {S : Sh} {Q : SkQ} : Wp 76 26 ls (.int y :: .int x :: st) I J R S Q = Wp 76 27 ls (.int (x &&& y) :: st) I J R S Q := o_iand k_B_costOfChange_26
theorem k_B_costOfChange_27 : decode (sk_by 76) 27 = .ok (.iconst 1, 1) := by decide +kernel
theorem x_B_costOfChange_27 {ls st : List Value} {I : MI} {J : MJ} {R : MR} {S : Sh} {Q : SkQ} : Wp 76 27 ls st I J R S Q = Wp 76 28 ls (.int 1 :: st) I J R S Q := o_const (by decide) k_B_costOfChange_27
theorem k_B_costOfChange_28 : decode (sk_by 76) 28 = .ok (.if_icmp .ne 7, 3) := by decide +kernel
theorem x_B_costOfChange_28 {ls st : List Value} {x y : Int32} {I : MI} {J : MJ} {R : MR} {S : Sh} {Q : SkQ} : Wp 76 28 ls (.int y :: .int x :: st) I J R S Q = if x = y then Wp 76 31 ls st I J R S Q else Wp 76 35 ls st I J R S Q := o_ic_ne rfl rfl k_B_costOfChange_28
theorem k_B_costOfChange_31 : decode (sk_by 76) 31 = .ok (.iconst 1, 1) := by decide +kernel
theorem x_B_costOfChange_31 {ls st : List Value} {I : MI} {J : MJ} {R : MR} {S : Sh} {Q : SkQ} : Wp 76 31 ls st I J R S Q = Wp 76 32 ls (.int 1 :: st) I J R S Q := o_const (by decide) k_B_costOfChange_31
theorem k_B_costOfChange_32 : decode (sk_by 76) 32 = .ok (.goto 4, 3) := by decide +kernel
theorem x_B_costOfChange_32 {ls st : List Value} {I : MI} {J : MJ} {R : MR} {S : Sh} {Q : SkQ} : Wp 76 32 ls st I J R S Q = Wp 76 36 ls st I J R S Q := o_goto rfl rfl k_B_costOfChange_32
theorem k_B_costOfChange_35 : decode (sk_by 76) 35 = .ok (.iconst 0, 1) := by decide +kernel
theorem x_B_costOfChange_35 {ls st : List Value} {I : MI} {J : MJ} {R : MR} {S : Sh} {Q : SkQ} : Wp 76 35 ls st I J R S Q = Wp 76 36 ls (.int 0 :: st) I J R S Q := o_const (by decide) k_B_costOfChange_35
theorem k_B_costOfChange_36 : decode (sk_by 76) 36 = .ok (.istore_n 3, 1) := by decide +kernel
theorem x_B_costOfChange_36 {st : List Value} {l0 : Nat} {l1 : Int32} {l2 : Int32} {x : Int32} {I : MI} {J : MJ} {R : MR} {S : Sh} {Q : SkQ} : Wp 76 36 [.ref l0, .int l1, .int l2, nov] (.int x :: st) I J R S Q = Wp 76 37 [.ref l0, .int l1, .int l2, .int x] st I J R S Q := o_istore_n (Nat.le_of_ble_eq_true rfl) rfl k_B_costOfChange_36
theorem k_B_costOfChange_37 : decode (sk_by 76) 37 = .ok (.iload_n 3, 1) := by decide +kernel
theorem x_B_costOfChange_37 {st : List Value} {l0 : Nat} {l1 : Int32} {l2 : Int32} {x : Int32} {I : MI} {J : MJ} {R : MR} {S : Sh} {Q : SkQ} : Wp 76 37 [.ref l0, .int l1, .int l2, .int x] st I J R S Q = Wp 76 38 [.ref l0, .int l1, .int l2, .int x] (.int x :: st) I J R S Q := o_iload_n rfl k_B_costOfChange_37
theorem k_B_costOfChange_38 : decode (sk_by 76) 38 = .ok (.ifCond .eq 7, 3) := by decide +kernel
theorem x_B_costOfChange_38 {ls st : List Value} {x : Int32} {I : MI} {J : MJ} {R : MR} {S : Sh} {Q : SkQ} : Wp 76 38 ls (.int x :: st) I J R S Q = if x = 0 then Wp 76 45 ls st I J R S Q else Wp 76 41 ls st I J R S Q := o_if_eq rfl rfl k_B_costOfChange_38
theorem k_B_costOfChange_41 : decode (sk_by 76) 41 = .ok (.iconst 2, 1) := by decide +kernel
theorem x_B_costOfChange_41 {ls st : List Value} {I : MI} {J : MJ} {R : MR} {S : Sh} {Q : SkQ} : Wp 76 41 ls st I J R S Q = Wp 76 42 ls (.int 2 :: st) I J R S Q := o_const (by decide) k_B_costOfChange_41
theorem k_B_costOfChange_42 : decode (sk_by 76) 42 = .ok (.goto 4, 3) := by decide +kernel
theorem x_B_costOfChange_42 {ls st : List Value} {I : MI} {J : MJ} {R : MR} {S : Sh} {Q : SkQ} : Wp 76 42 ls st I J R S Q = Wp 76 46 ls st I J R S Q := o_goto rfl rfl k_B_costOfChange_42
theorem k_B_costOfChange_45 : decode (sk_by 76) 45 = .ok (.iconst 4, 1) := by decide +kernel
theorem x_B_costOfChange_45 {ls st : List Value} {I : MI} {J : MJ} {R : MR} {S : Sh} {Q : SkQ} : Wp 76 45 ls st I J R S Q = Wp 76 46 ls (.int 4 :: st) I J R S Q := o_const (by decide) k_B_costOfChange_45
theorem k_B_costOfChange_46 : decode (sk_by 76) 46 = .ok (.ireturn, 1) := by decide +kernel
theorem x_B_costOfChange_46 {ls : List Value} {v : Int32} {I : MI} {J : MJ} {R : MR} {S : Sh} {Q : SkQ} : Wp 76 46 ls [.int v] I J R S Q = Q 0 (some (.int v)) I J R S := o_ireturn k_B_costOfChange_46 rfl
