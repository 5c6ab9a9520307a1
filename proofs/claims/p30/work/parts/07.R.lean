theorem k_R_init_0 : decode (sk_by 103) 0 = .ok (.aload_n 0, 1) := by decide +kernel
theorem x_R_init_0 {st : List Value} {l1 : Int32} {x : Nat} {I : MI} {J : MJ} {R : MR} {S : Sh} {Q : SkQ} : Wp 103 0 [.ref x, .int l1, nov] st I J R S Q = Wp 103 1 [.ref x, .int l1, nov] (.ref x :: st) I J R S Q := o_aload_n rfl k_R_init_0
theorem k_R_init_1 : decode (sk_by 103) 1 = .ok (.invokespecial 3, 3) := by decide +kernel
theorem x_R_init_1 {ls : List Value} {a : Nat} {I : MI} {J : MJ} {R : MR} {S : Sh} {Q : SkQ} : Wp 103 1 ls (.ref a :: []) I J R S Q = Wp 103 4 ls [] I J R S Q := o_objInit (show sk_lkM (sk_cl 103) 3 = some 999 by decide +kernel) (by (decide +kernel)) k_R_init_1
theorem k_R_init_4 : decode (sk_by 103) 4 = .ok (.iload_n 1, 1) := by decide +kernel
theorem x_R_init_4 {st : List Value} {l0 : Nat} {x : Int32} {I : MI} {J : MJ} {R : MR} {S : Sh} {Q : SkQ} : Wp 103 4 [.ref l0, .int x, nov] st I J R S Q = Wp 103 5 [.ref l0, .int x, nov] (.int x :: st) I J R S Q := o_iload_n rfl k_R_init_4
theorem k_R_init_5 : decode (sk_by 103) 5 = .ok (.iconst 0, 1) := by decide +kernel
theorem x_R_init_5 {ls st : List Value} {I : MI} {J : MJ} {R : MR} {S : Sh} {Q : SkQ} : Wp 103 5 ls st I J R S Q = Wp 103 6 ls (.int 0 :: st) I J R S Q := o_const (by decide) k_R_init_5
theorem k_R_init_6 : decode (sk_by 103) 6 = .ok (.invokestatic 9, 3) := by decide +kernel
theorem x_R_init_6 {ls : List Value} {x y : Int32} {I : MI} {J : MJ} {R : MR} {S : Sh} {Q : SkQ} : Wp 103 6 ls (.int y :: .int x :: []) I J R S Q = Wp 103 9 ls (.int (if x < y then y else x) :: []) I J R S Q := o_max (show sk_lkM (sk_cl 103) 9 = some 250 by decide +kernel) ⟨by (decide +kernel), (Nat.le_trans (show catS [] + 20 ≤ 20 from Nat.le_of_ble_eq_true rfl) (by (decide +kernel)))⟩ k_R_init_6
theorem k_R_init_9 : decode (sk_by 103) 9 = .ok (.istore_n 2, 1) := by decide +kernel
theorem x_R_init_9 {st : List Value} {l0 : Nat} {l1 : Int32} {x : Int32} {I : MI} {J : MJ} {R : MR} {S : Sh} {Q : SkQ} : Wp 103 9 [.ref l0, .int l1, nov] (.int x :: st) I J R S Q = Wp 103 10 [.ref l0, .int l1, .int x] st I J R S Q := o_istore_n (Nat.le_of_ble_eq_true rfl) rfl k_R_init_9
theorem k_R_init_10 : decode (sk_by 103) 10 = .ok (.aload_n 0, 1) := by decide +kernel
theorem x_R_init_10 {st : List Value} {l1 : Int32} {l2 : Int32} {x : Nat} {I : MI} {J : MJ} {R : MR} {S : Sh} {Q : SkQ} : Wp 103 10 [.ref x, .int l1, .int l2] st I J R S Q = Wp 103 11 [.ref x, .int l1, .int l2] (.ref x :: st) I J R S Q := o_aload_n rfl k_R_init_10
theorem k_R_init_11 : decode (sk_by 103) 11 = .ok (.iload_n 2, 1) := by decide +kernel
theorem x_R_init_11 {st : List Value} {l0 : Nat} {l1 : Int32} {x : Int32} {I : MI} {J : MJ} {R : MR} {S : Sh} {Q : SkQ} : Wp 103 11 [.ref l0, .int l1, .int x] st I J R S Q = Wp 103 12 [.ref l0, .int l1, .int x] (.int x :: st) I J R S Q := o_iload_n rfl k_R_init_11
theorem k_R_init_12 : decode (sk_by 103) 12 = .ok (.newarray .long, 2) := by decide +kernel
theorem x_R_init_12 {ls st : List Value} {n : Int32} {I : MI} {J : MJ} {R : MR} {S : Sh} {Q : SkQ} (h0 : S.2.2.2.1 = 0) (hn : 0 ≤ n.toInt ∧ n.toInt ≤ 100000) : Wp 103 12 ls (.int n :: st) I J R S Q = Wp 103 14 ls (.ref S.2.2.1 :: st) I (u1 J S.2.2.1 0) R (sh_new S 31 (ix n) (ix n)) Q := o_newL k_R_init_12 h0 hn
theorem k_R_init_14 : decode (sk_by 103) 14 = .ok (.putfield 15, 3) := by decide +kernel
theorem x_R_init_14 {ls st : List Value} {a : Nat} {x : Nat} {I : MI} {J : MJ} {R : MR} {S : Sh} {Q : SkQ} (ha : S.1 a = 4) : Wp 103 14 ls (.ref x :: .ref a :: st) I J R S Q = Wp 103 17 ls st I J (u2 R a 0 (.ref x)) S Q := o_putfieldR (show sk_lkF (sk_cl 103) 15 = some (4, 0, 2, 1, 0) by decide +kernel) (by decide) (by (decide +kernel)) k_R_init_14 ha
theorem k_R_init_17 : decode (sk_by 103) 17 = .ok (.aload_n 0, 1) := by decide +kernel
theorem x_R_init_17 {st : List Value} {l1 : Int32} {l2 : Int32} {x : Nat} {I : MI} {J : MJ} {R : MR} {S : Sh} {Q : SkQ} : Wp 103 17 [.ref x, .int l1, .int l2] st I J R S Q = Wp 103 18 [.ref x, .int l1, .int l2] (.ref x :: st) I J R S Q := o_aload_n rfl k_R_init_17
theorem k_R_init_18 : decode (sk_by 103) 18 = .ok (.iload_n 2, 1) := by decide +kernel
theorem x_R_init_18 {st : List Value} {l0 : Nat} {l1 : Int32} {x : Int32} {I : MI} {J : MJ} {R : MR} {S : Sh} {Q : SkQ} : Wp 103 18 [.ref l0, .int l1, .int x] st I J R S Q = Wp 103 19 [.ref l0, .int l1, .int x] (.int x :: st) I J R S Q := o_iload_n rfl k_R_init_18
theorem k_R_init_19 : decode (sk_by 103) 19 = .ok (.newarray .long, 2) := by decide +kernel
theorem x_R_init_19 {ls st : List Value} {n : Int32} {I : MI} {J : MJ} {R : MR} {S : Sh} {Q : SkQ} (h0 : S.2.2.2.1 = 0) (hn : 0 ≤ n.toInt ∧ n.toInt ≤ 100000) : Wp 103 19 ls (.int n :: st) I J R S Q = Wp 103 21 ls (.ref S.2.2.1 :: st) I (u1 J S.2.2.1 0) R (sh_new S 31 (ix n) (ix n)) Q := o_newL k_R_init_19 h0 hn
theorem k_R_init_21 : decode (sk_by 103) 21 = .ok (.putfield 21, 3) := by decide +kernel
theorem x_R_init_21 {ls st : List Value} {a : Nat} {x : Nat} {I : MI} {J : MJ} {R : MR} {S : Sh} {Q : SkQ} (ha : S.1 a = 4) : Wp 103 21 ls (.ref x :: .ref a :: st) I J R S Q = Wp 103 24 ls st I J (u2 R a 1 (.ref x)) S Q := o_putfieldR (show sk_lkF (sk_cl 103) 21 = some (4, 1, 2, 1, 0) by decide +kernel) (by decide) (by (decide +kernel)) k_R_init_21 ha
theorem k_R_init_24 : decode (sk_by 103) 24 = .ok (.aload_n 0, 1) := by decide +kernel
theorem x_R_init_24 {st : List Value} {l1 : Int32} {l2 : Int32} {x : Nat} {I : MI} {J : MJ} {R : MR} {S : Sh} {Q : SkQ} : Wp 103 24 [.ref x, .int l1, .int l2] st I J R S Q = Wp 103 25 [.ref x, .int l1, .int l2] (.ref x :: st) I J R S Q := o_aload_n rfl k_R_init_24
theorem k_R_init_25 : decode (sk_by 103) 25 = .ok (.iload_n 2, 1) := by decide +kernel
theorem x_R_init_25 {st : List Value} {l0 : Nat} {l1 : Int32} {x : Int32} {I : MI} {J : MJ} {R : MR} {S : Sh} {Q : SkQ} : Wp 103 25 [.ref l0, .int l1, .int x] st I J R S Q = Wp 103 26 [.ref l0, .int l1, .int x] (.int x :: st) I J R S Q := o_iload_n rfl k_R_init_25
theorem k_R_init_26 : decode (sk_by 103) 26 = .ok (.newarray .int, 2) := by decide +kernel
theorem x_R_init_26 {ls st : List Value} {n : Int32} {I : MI} {J : MJ} {R : MR} {S : Sh} {Q : SkQ} (h0 : S.2.2.2.1 = 0) (hn : 0 ≤ n.toInt ∧ n.toInt ≤ 100000) : Wp 103 26 ls (.int n :: st) I J R S Q = Wp 103 28 ls (.ref S.2.2.1 :: st) (u1 I S.2.2.1 0) J R (sh_new S 30 (ix n) (ix n)) Q := o_newI k_R_init_26 h0 hn
theorem k_R_init_28 : decode (sk_by 103) 28 = .ok (.putfield 24, 3) := by decide +kernel
theorem x_R_init_28 {ls st : List Value} {a : Nat} {x : Nat} {I : MI} {J : MJ} {R : MR} {S : Sh} {Q : SkQ} (ha : S.1 a = 4) : Wp 103 28 ls (.ref x :: .ref a :: st) I J R S Q = Wp 103 31 ls st I J (u2 R a 2 (.ref x)) S Q := o_putfieldR (show sk_lkF (sk_cl 103) 24 = some (4, 2, 2, 1, 0) by decide +kernel) (by decide) (by (decide +kernel)) k_R_init_28 ha
theorem k_R_init_31 : decode (sk_by 103) 31 = .ok (.return_, 1) := by decide +kernel
theorem x_R_init_31 {ls : List Value} {I : MI} {J : MJ} {R : MR} {S : Sh} {Q : SkQ} : Wp 103 31 ls [] I J R S Q = Q 0 none I J R S := o_return (by (decide +kernel)) k_R_init_31
theorem k_R_size_0 : decode (sk_by 104) 0 = .ok (.aload_n 0, 1) := by decide +kernel
theorem x_R_size_0 {st : List Value} {x : Nat} {I : MI} {J : MJ} {R : MR} {S : Sh} {Q : SkQ} : Wp 104 0 [.ref x] st I J R S Q = Wp 104 1 [.ref x] (.ref x :: st) I J R S Q := o_aload_n rfl k_R_size_0
theorem k_R_size_1 : decode (sk_by 104) 1 = .ok (.getfield 28, 3) := by decide +kernel
theorem x_R_size_1 {ls st : List Value} {a : Nat} {I : MI} {J : MJ} {R : MR} {S : Sh} {Q : SkQ} (ha : S.1 a = 4) : Wp 104 1 ls (.ref a :: st) I J R S Q = Wp 104 4 ls (.int (I a 3) :: st) I J R S Q := o_getfieldI (show sk_lkF (sk_cl 104) 28 = some (4, 3, 0, 0, 0) by decide +kernel) k_R_size_1 ha
theorem k_R_size_4 : decode (sk_by 104) 4 = .ok (.ireturn, 1) := by decide +kernel
theorem x_R_size_4 {ls : List Value} {v : Int32} {I : MI} {J : MJ} {R : MR} {S : Sh} {Q : SkQ} : Wp 104 4 ls [.int v] I J R S Q = Q 0 (some (.int v)) I J R S := o_ireturn k_R_size_4 rfl
theorem k_R_isFull_0 : decode (sk_by 105) 0 = .ok (.aload_n 0, 1) := by decide +kernel
theorem x_R_isFull_0 {st : List Value} {x : Nat} {I : MI} {J : MJ} {R : MR} {S : Sh} {Q : SkQ} : Wp 105 0 [.ref x] st I J R S Q = Wp 105 1 [.ref x] (.ref x :: st) I J R S Q := o_aload_n rfl k_R_isFull_0
theorem k_R_isFull_1 : decode (sk_by 105) 1 = .ok (.getfield 28, 3) := by decide +kernel
theorem x_R_isFull_1 {ls st : List Value} {a : Nat} {I : MI} {J : MJ} {R : MR} {S : Sh} {Q : SkQ} (ha : S.1 a = 4) : Wp 105 1 ls (.ref a :: st) I J R S Q = Wp 105 4 ls (.int (I a 3) :: st) I J R S Q := o_getfieldI (show sk_lkF (sk_cl 105) 28 = some (4, 3, 0, 0, 0) by decide +kernel) k_R_isFull_1 ha
theorem k_R_isFull_4 : decode (sk_by 105) 4 = .ok (.aload_n 0, 1) := by decide +kernel
theorem x_R_isFull_4 {st : List Value} {x : Nat} {I : MI} {J : MJ} {R : MR} {S : Sh} {Q : SkQ} : Wp 105 4 [.ref x] st I J R S Q = Wp 105 5 [.ref x] (.ref x :: st) I J R S Q := o_aload_n rfl k_R_isFull_4
theorem k_R_isFull_5 : decode (sk_by 105) 5 = .ok (.getfield 15, 3) := by decide +kernel
theorem x_R_isFull_5 {ls st : List Value} {a : Nat} {I : MI} {J : MJ} {R : MR} {S : Sh} {Q : SkQ} (ha : S.1 a = 4) : Wp 105 5 ls (.ref a :: st) I J R S Q = Wp 105 8 ls (R a 0 :: st) I J R S Q := o_getfieldR (show sk_lkF (sk_cl 105) 15 = some (4, 0, 2, 1, 0) by decide +kernel) k_R_isFull_5 ha
theorem k_R_isFull_8 : decode (sk_by 105) 8 = .ok (.arraylength, 1) := by decide +kernel
theorem x_R_isFull_8 {ls st : List Value} {a : Nat} {I : MI} {J : MJ} {R : MR} {S : Sh} {Q : SkQ} (ha : isArr (S.1 a) = true) : Wp 105 8 ls (.ref a :: st) I J R S Q = Wp 105 9 ls (.int (nI (S.2.1 a)) :: st) I J R S Q := o_arraylength k_R_isFull_8 ha
theorem k_R_isFull_9 : decode (sk_by 105) 9 = .ok (.if_icmp .lt 7, 3) := by decide +kernel
theorem x_R_isFull_9 {ls st : List Value} {x y : Int32} {I : MI} {J : MJ} {R : MR} {S : Sh} {Q : SkQ} : Wp 105 9 ls (.int y :: .int x :: st) I J R S Q = if x < y then Wp 105 16 ls st I J R S Q else Wp 105 12 ls st I J R S Q := o_ic_lt rfl rfl k_R_isFull_9
theorem k_R_isFull_12 : decode (sk_by 105) 12 = .ok (.iconst 1, 1) := by decide +kernel
theorem x_R_isFull_12 {ls st : List Value} {I : MI} {J : MJ} {R : MR} {S : Sh} {Q : SkQ} : Wp 105 12 ls st I J R S Q = Wp 105 13 ls (.int 1 :: st) I J R S Q := o_const (by decide) k_R_isFull_12
theorem k_R_isFull_13 : decode (sk_by 105) 13 = .ok (.goto 4, 3) := by decide +kernel
theorem x_R_isFull_13 {ls st : List Value} {I : MI} {J : MJ} {R : MR} {S : Sh} {Q : SkQ} : Wp 105 13 ls st I J R S Q = Wp 105 17 ls st I J R S Q := o_goto rfl rfl k_R_isFull_13
theorem k_R_isFull_16 : decode (sk_by 105) 16 = .ok (.iconst 0, 1) := by decide +kernel
theorem x_R_isFull_16 {ls st : List Value} {I : MI} {J : MJ} {R : MR} {S : Sh} {Q : SkQ} : Wp 105 16 ls st I J R S Q = Wp 105 17 ls (.int 0 :: st) I J R S Q := o_const (by decide) k_R_isFull_16
theorem k_R_isFull_17 : decode (sk_by 105) 17 = .ok (.ireturn, 1) := by decide +kernel
theorem x_R_isFull_17 {ls : List Value} {v : Int32} {I : MI} {J : MJ} {R : MR} {S : Sh} {Q : SkQ} (h : rOk (some .boolean) v = true) : Wp 105 17 ls [.int v] I J R S Q = Q 0 (some (.int v)) I J R S := o_ireturn k_R_isFull_17 (by rw [show sk_rt 105 = some .boolean from rfl]; exact h)
theorem k_R_has_0 : decode (sk_by 106) 0 = .ok (.iload_n 1, 1) := by decide +kernel
theorem x_R_has_0 {st : List Value} {l0 : Nat} {x : Int32} {I : MI} {J : MJ} {R : MR} {S : Sh} {Q : SkQ} : Wp 106 0 [.ref l0, .int x] st I J R S Q = Wp 106 1 [.ref l0, .int x] (.int x :: st) I J R S Q := o_iload_n rfl k_R_has_0
theorem k_R_has_1 : decode (sk_by 106) 1 = .ok (.ifCond .lt 15, 3) := by decide +kernel
theorem x_R_has_1 {ls st : List Value} {x : Int32} {I : MI} {J : MJ} {R : MR} {S : Sh} {Q : SkQ} : Wp 106 1 ls (.int x :: st) I J R S Q = if x < 0 then Wp 106 16 ls st I J R S Q else Wp 106 4 ls st I J R S Q := o_if_lt rfl rfl k_R_has_1
theorem k_R_has_4 : decode (sk_by 106) 4 = .ok (.iload_n 1, 1) := by decide +kernel
theorem x_R_has_4 {st : List Value} {l0 : Nat} {x : Int32} {I : MI} {J : MJ} {R : MR} {S : Sh} {Q : SkQ} : Wp 106 4 [.ref l0, .int x] st I J R S Q = Wp 106 5 [.ref l0, .int x] (.int x :: st) I J R S Q := o_iload_n rfl k_R_has_4
theorem k_R_has_5 : decode (sk_by 106) 5 = .ok (.aload_n 0, 1) := by decide +kernel
theorem x_R_has_5 {st : List Value} {l1 : Int32} {x : Nat} {I : MI} {J : MJ} {R : MR} {S : Sh} {Q : SkQ} : Wp 106 5 [.ref x, .int l1] st I J R S Q = Wp 106 6 [.ref x, .int l1] (.ref x :: st) I J R S Q := o_aload_n rfl k_R_has_5
theorem k_R_has_6 : decode (sk_by 106) 6 = .ok (.getfield 28, 3) := by decide +kernel
theorem x_R_has_6 {ls st : List Value} {a : Nat} {I : MI} {J : MJ} {R : MR} {S : Sh} {Q : SkQ} (ha : S.1 a = 4) : Wp 106 6 ls (.ref a :: st) I J R S Q = Wp 106 9 ls (.int (I a 3) :: st) I J R S Q := o_getfieldI (show sk_lkF (sk_cl 106) 28 = some (4, 3, 0, 0, 0) by decide +kernel) k_R_has_6 ha
theorem k_R_has_9 : decode (sk_by 106) 9 = .ok (.if_icmp .ge 7, 3) := by decide +kernel
theorem x_R_has_9 {ls st : List Value} {x y : Int32} {I : MI} {J : MJ} {R : MR} {S : Sh} {Q : SkQ} : Wp 106 9 ls (.int y :: .int x :: st) I J R S Q = if x < y then Wp 106 12 ls st I J R S Q else Wp 106 16 ls st I J R S Q := o_ic_ge rfl rfl k_R_has_9
theorem k_R_has_12 : decode (sk_by 106) 12 = .ok (.iconst 1, 1) := by decide +kernel
theorem x_R_has_12 {ls st : List Value} {I : MI} {J : MJ} {R : MR} {S : Sh} {Q : SkQ} : Wp 106 12 ls st I J R S Q = Wp 106 13 ls (.int 1 :: st) I J R S Q := o_const (by decide) k_R_has_12
theorem k_R_has_13 : decode (sk_by 106) 13 = .ok (.goto 4, 3) := by decide +kernel
theorem x_R_has_13 {ls st : List Value} {I : MI} {J : MJ} {R : MR} {S : Sh} {Q : SkQ} : Wp 106 13 ls st I J R S Q = Wp 106 17 ls st I J R S Q := o_goto rfl rfl k_R_has_13
theorem k_R_has_16 : decode (sk_by 106) 16 = .ok (.iconst 0, 1) := by decide +kernel
theorem x_R_has_16 {ls st : List Value} {I : MI} {J : MJ} {R : MR} {S : Sh} {Q : SkQ} : Wp 106 16 ls st I J R S Q = Wp 106 17 ls (.int 0 :: st) I J R S Q := o_const (by decide) k_R_has_16
theorem k_R_has_17 : decode (sk_by 106) 17 = .ok (.ireturn, 1) := by decide +kernel
theorem x_R_has_17 {ls : List Value} {v : Int32} {I : MI} {J : MJ} {R : MR} {S : Sh} {Q : SkQ} (h : rOk (some .boolean) v = true) : Wp 106 17 ls [.int v] I J R S Q = Q 0 (some (.int v)) I J R S := o_ireturn k_R_has_17 (by rw [show sk_rt 106 = some .boolean from rfl]; exact h)
theorem k_R_firstAt_0 : decode (sk_by 107) 0 = .ok (.aload_n 0, 1) := by decide +kernel
theorem x_R_firstAt_0 {st : List Value} {l1 : Int32} {x : Nat} {I : MI} {J : MJ} {R : MR} {S : Sh} {Q : SkQ} : Wp 107 0 [.ref x, .int l1] st I J R S Q = Wp 107 1 [.ref x, .int l1] (.ref x :: st) I J R S Q := o_aload_n rfl k_R_firstAt_0
theorem k_R_firstAt_1 : decode (sk_by 107) 1 = .ok (.iload_n 1, 1) := by decide +kernel
theorem x_R_firstAt_1 {st : List Value} {l0 : Nat} {x : Int32} {I : MI} {J : MJ} {R : MR} {S : Sh} {Q : SkQ} : Wp 107 1 [.ref l0, .int x] st I J R S Q = Wp 107 2 [.ref l0, .int x] (.int x :: st) I J R S Q := o_iload_n rfl k_R_firstAt_1
theorem k_R_firstAt_2 : decode (sk_by 107) 2 = .ok (.invokevirtual 32, 3) := by decide +kernel
theorem x_R_firstAt_2 {ls : List Value} {a0 : Nat} {a1 : Int32} {I : MI} {J : MJ} {R : MR} {S : Sh} {Q : SkQ} (ha : S.1 a0 = 4) : Wp 107 2 ls (.int a1 :: .ref a0 :: []) I J R S Q = Wp 106 0 [.ref a0, .int a1] [] I J R S (Ret 107 2 5 106 ls [] Q) := o_call (as := [.ref a0, .int a1]) (rest := []) (show sk_lkM (sk_cl 107) 32 = some 106 by decide +kernel) (by decide) (by decide) (by (decide +kernel)) (ins := .invokevirtual 32) (by (decide +kernel)) k_R_firstAt_2 rfl (show 2 = sk_na 106 by (decide +kernel)) (Nat.le_of_ble_eq_true rfl) (Nat.le_trans (show (argL [.ref a0, .int a1]).length ≤ 2 from Nat.le_of_ble_eq_true rfl) (by (decide +kernel))) (rcv_of (by (decide +kernel)) (by decide) ha)
theorem k_R_firstAt_5 : decode (sk_by 107) 5 = .ok (.ifCond .eq 12, 3) := by decide +kernel
theorem x_R_firstAt_5 {ls st : List Value} {x : Int32} {I : MI} {J : MJ} {R : MR} {S : Sh} {Q : SkQ} : Wp 107 5 ls (.int x :: st) I J R S Q = if x = 0 then Wp 107 17 ls st I J R S Q else Wp 107 8 ls st I J R S Q := o_if_eq rfl rfl k_R_firstAt_5
theorem k_R_firstAt_8 : decode (sk_by 107) 8 = .ok (.aload_n 0, 1) := by decide +kernel
theorem x_R_firstAt_8 {st : List Value} {l1 : Int32} {x : Nat} {I : MI} {J : MJ} {R : MR} {S : Sh} {Q : SkQ} : Wp 107 8 [.ref x, .int l1] st I J R S Q = Wp 107 9 [.ref x, .int l1] (.ref x :: st) I J R S Q := o_aload_n rfl k_R_firstAt_8
theorem k_R_firstAt_9 : decode (sk_by 107) 9 = .ok (.getfield 15, 3) := by decide +kernel
theorem x_R_firstAt_9 {ls st : List Value} {a : Nat} {I : MI} {J : MJ} {R : MR} {S : Sh} {Q : SkQ} (ha : S.1 a = 4) : Wp 107 9 ls (.ref a :: st) I J R S Q = Wp 107 12 ls (R a 0 :: st) I J R S Q := o_getfieldR (show sk_lkF (sk_cl 107) 15 = some (4, 0, 2, 1, 0) by decide +kernel) k_R_firstAt_9 ha
theorem k_R_firstAt_12 : decode (sk_by 107) 12 = .ok (.iload_n 1, 1) := by decide +kernel
theorem x_R_firstAt_12 {st : List Value} {l0 : Nat} {x : Int32} {I : MI} {J : MJ} {R : MR} {S : Sh} {Q : SkQ} : Wp 107 12 [.ref l0, .int x] st I J R S Q = Wp 107 13 [.ref l0, .int x] (.int x :: st) I J R S Q := o_iload_n rfl k_R_firstAt_12
theorem k_R_firstAt_13 : decode (sk_by 107) 13 = .ok (.laload, 1) := by decide +kernel
theorem x_R_firstAt_13 {ls st : List Value} {a : Nat} {i : Int32} {I : MI} {J : MJ} {R : MR} {S : Sh} {Q : SkQ} (ha : S.1 a = 31) (hi : inb i (S.2.1 a) = true) : Wp 107 13 ls (.int i :: .ref a :: st) I J R S Q = Wp 107 14 ls (.long (J a (ix i)) :: st) I J R S Q := o_laload k_R_firstAt_13 ha hi
theorem k_R_firstAt_14 : decode (sk_by 107) 14 = .ok (.goto 6, 3) := by decide +kernel
theorem x_R_firstAt_14 {ls st : List Value} {I : MI} {J : MJ} {R : MR} {S : Sh} {Q : SkQ} : Wp 107 14 ls st I J R S Q = Wp 107 20 ls st I J R S Q := o_goto rfl rfl k_R_firstAt_14
theorem k_R_firstAt_17 : decode (sk_by 107) 17 = .ok (.ldc2_w 36, 3) := by decide +kernel
theorem x_R_firstAt_17 {ls st : List Value} {I : MI} {J : MJ} {R : MR} {S : Sh} {Q : SkQ} : Wp 107 17 ls st I J R S Q = Wp 107 20 ls (.long (-1) :: st) I J R S Q := o_ldc2_w (show sk_lkK (sk_cl 107) 36 = some (-1) by decide +kernel) k_R_firstAt_17
theorem k_R_firstAt_20 : decode (sk_by 107) 20 = .ok (.lreturn, 1) := by decide +kernel
theorem x_R_firstAt_20 {ls : List Value} {v : Int64} {I : MI} {J : MJ} {R : MR} {S : Sh} {Q : SkQ} : Wp 107 20 ls [.long v] I J R S Q = Q 0 (some (.long v)) I J R S := o_lreturn (by (decide +kernel)) k_R_firstAt_20
theorem k_R_secondAt_0 : decode (sk_by 108) 0 = .ok (.aload_n 0, 1) := by decide +kernel
theorem x_R_secondAt_0 {st : List Value} {l1 : Int32} {x : Nat} {I : MI} {J : MJ} {R : MR} {S : Sh} {Q : SkQ} : Wp 108 0 [.ref x, .int l1] st I J R S Q = Wp 108 1 [.ref x, .int l1] (.ref x :: st) I J R S Q := o_aload_n rfl k_R_secondAt_0
theorem k_R_secondAt_1 : decode (sk_by 108) 1 = .ok (.iload_n 1, 1) := by decide +kernel
theorem x_R_secondAt_1 {st : List Value} {l0 : Nat} {x : Int32} {I : MI} {J : MJ} {R : MR} {S : Sh} {Q : SkQ} : Wp 108 1 [.ref l0, .int x] st I J R S Q = Wp 108 2 [.ref l0, .int x] (.int x :: st) I J R S Q := o_iload_n rfl k_R_secondAt_1
theorem k_R_secondAt_2 : decode (sk_by 108) 2 = .ok (.invokevirtual 32, 3) := by decide +kernel
theorem x_R_secondAt_2 {ls : List Value} {a0 : Nat} {a1 : Int32} {I : MI} {J : MJ} {R : MR} {S : Sh} {Q : SkQ} (ha : S.1 a0 = 4) : Wp 108 2 ls (.int a1 :: .ref a0 :: []) I J R S Q = Wp 106 0 [.ref a0, .int a1] [] I J R S (Ret 108 2 5 106 ls [] Q) := o_call (as := [.ref a0, .int a1]) (rest := []) (show sk_lkM (sk_cl 108) 32 = some 106 by decide +kernel) (by decide) (by decide) (by (decide +kernel)) (ins := .invokevirtual 32) (by (decide +kernel)) k_R_secondAt_2 rfl (show 2 = sk_na 106 by (decide +kernel)) (Nat.le_of_ble_eq_true rfl) (Nat.le_trans (show (argL [.ref a0, .int a1]).length ≤ 2 from Nat.le_of_ble_eq_true rfl) (by (decide +kernel))) (rcv_of (by (decide +kernel)) (by decide) ha)
theorem k_R_secondAt_5 : decode (sk_by 108) 5 = .ok (.ifCond .eq 12, 3) := by decide +kernel
theorem x_R_secondAt_5 {ls st : List Value} {x : Int32} {I : MI} {J : MJ} {R : MR} {S : Sh} {Q : SkQ} : Wp 108 5 ls (.int x :: st) I J R S Q = if x = 0 then Wp 108 17 ls st I J R S Q else Wp 108 8 ls st I J R S Q := o_if_eq rfl rfl k_R_secondAt_5
theorem k_R_secondAt_8 : decode (sk_by 108) 8 = .ok (.aload_n 0, 1) := by decide +kernel
theorem x_R_secondAt_8 {st : List Value} {l1 : Int32} {x : Nat} {I : MI} {J : MJ} {R : MR} {S : Sh} {Q : SkQ} : Wp 108 8 [.ref x, .int l1] st I J R S Q = Wp 108 9 [.ref x, .int l1] (.ref x :: st) I J R S Q := o_aload_n rfl k_R_secondAt_8
theorem k_R_secondAt_9 : decode (sk_by 108) 9 = .ok (.getfield 21, 3) := by decide +kernel
theorem x_R_secondAt_9 {ls st : List Value} {a : Nat} {I : MI} {J : MJ} {R : MR} {S : Sh} {Q : SkQ} (ha : S.1 a = 4) : Wp 108 9 ls (.ref a :: st) I J R S Q = Wp 108 12 ls (R a 1 :: st) I J R S Q := o_getfieldR (show sk_lkF (sk_cl 108) 21 = some (4, 1, 2, 1, 0) by decide +kernel) k_R_secondAt_9 ha
theorem k_R_secondAt_12 : decode (sk_by 108) 12 = .ok (.iload_n 1, 1) := by decide +kernel
theorem x_R_secondAt_12 {st : List Value} {l0 : Nat} {x : Int32} {I : MI} {J : MJ} {R : MR} {S : Sh} {Q : SkQ} : Wp 108 12 [.ref l0, .int x] st I J R S Q = Wp 108 13 [.ref l0, .int x] (.int x :: st) I J R S Q := o_iload_n rfl k_R_secondAt_12
theorem k_R_secondAt_13 : decode (sk_by 108) 13 = .ok (.laload, 1) := by decide +kernel
theorem x_R_secondAt_13 {ls st : List Value} {a : Nat} {i : Int32} {I : MI} {J : MJ} {R : MR} {S : Sh} {Q : SkQ} (ha : S.1 a = 31) (hi : inb i (S.2.1 a) = true) : Wp 108 13 ls (.int i :: .ref a :: st) I J R S Q = Wp 108 14 ls (.long (J a (ix i)) :: st) I J R S Q := o_laload k_R_secondAt_13 ha hi
theorem k_R_secondAt_14 : decode (sk_by 108) 14 = .ok (.goto 6, 3) := by decide +kernel
theorem x_R_secondAt_14 {ls st : List Value} {I : MI} {J : MJ} {R : MR} {S : Sh} {Q : SkQ} : Wp 108 14 ls st I J R S Q = Wp 108 20 ls st I J R S Q := o_goto rfl rfl k_R_secondAt_14
theorem k_R_secondAt_17 : decode (sk_by 108) 17 = .ok (.ldc2_w 36, 3) := by decide +kernel
theorem x_R_secondAt_17 {ls st : List Value} {I : MI} {J : MJ} {R : MR} {S : Sh} {Q : SkQ} : Wp 108 17 ls st I J R S Q = Wp 108 20 ls (.long (-1) :: st) I J R S Q := o_ldc2_w (show sk_lkK (sk_cl 108) 36 = some (-1) by decide +kernel) k_R_secondAt_17
theorem k_R_secondAt_20 : decode (sk_by 108) 20 = .ok (.lreturn, 1) := by decide +kernel
theorem x_R_secondAt_20 {ls : List Value} {v : Int64} {I : MI} {J : MJ} {R : MR} {S : Sh} {Q : SkQ} : Wp 108 20 ls [.long v] I J R S Q = Q 0 (some (.long v)) I J R S := o_lreturn (by (decide +kernel)) k_R_secondAt_20
theorem k_R_numberAt_0 : decode (sk_by 109) 0 = .ok (.aload_n 0, 1) := by decide +kernel
theorem x_R_numberAt_0 {st : List Value} {l1 : Int32} {x : Nat} {I : MI} {J : MJ} {R : MR} {S : Sh} {Q : SkQ} : Wp 109 0 [.ref x, .int l1] st I J R S Q = Wp 109 1 [.ref x, .int l1] (.ref x :: st) I J R S Q := o_aload_n rfl k_R_numberAt_0
theorem k_R_numberAt_1 : decode (sk_by 109) 1 = .ok (.iload_n 1, 1) := by decide +kernel
theorem x_R_numberAt_1 {st : List Value} {l0 : Nat} {x : Int32} {I : MI} {J : MJ} {R : MR} {S : Sh} {Q : SkQ} : Wp 109 1 [.ref l0, .int x] st I J R S Q = Wp 109 2 [.ref l0, .int x] (.int x :: st) I J R S Q := o_iload_n rfl k_R_numberAt_1
theorem k_R_numberAt_2 : decode (sk_by 109) 2 = .ok (.invokevirtual 32, 3) := by decide +kernel
theorem x_R_numberAt_2 {ls : List Value} {a0 : Nat} {a1 : Int32} {I : MI} {J : MJ} {R : MR} {S : Sh} {Q : SkQ} (ha : S.1 a0 = 4) : Wp 109 2 ls (.int a1 :: .ref a0 :: []) I J R S Q = Wp 106 0 [.ref a0, .int a1] [] I J R S (Ret 109 2 5 106 ls [] Q) := o_call (as := [.ref a0, .int a1]) (rest := []) (show sk_lkM (sk_cl 109) 32 = some 106 by decide +kernel) (by decide) (by decide) (by (decide +kernel)) (ins := .invokevirtual 32) (by (decide +kernel)) k_R_numberAt_2 rfl (show 2 = sk_na 106 by (decide +kernel)) (Nat.le_of_ble_eq_true rfl) (Nat.le_trans (show (argL [.ref a0, .int a1]).length ≤ 2 from Nat.le_of_ble_eq_true rfl) (by (decide +kernel))) (rcv_of (by (decide +kernel)) (by decide) ha)
theorem k_R_numberAt_5 : decode (sk_by 109) 5 = .ok (.ifCond .eq 12, 3) := by decide +kernel
theorem x_R_numberAt_5 {ls st : List Value} {x : Int32} {I : MI} {J : MJ} {R : MR} {S : Sh} {Q : SkQ} : Wp 109 5 ls (.int x :: st) I J R S Q = if x = 0 then Wp 109 17 ls st I J R S Q else Wp 109 8 ls st I J R S Q := o_if_eq rfl rfl k_R_numberAt_5
theorem k_R_numberAt_8 : decode (sk_by 109) 8 = .ok (.aload_n 0, 1) := by decide +kernel
theorem x_R_numberAt_8 {st : List Value} {l1 : Int32} {x : Nat} {I : MI} {J : MJ} {R : MR} {S : Sh} {Q : SkQ} : Wp 109 8 [.ref x, .int l1] st I J R S Q = Wp 109 9 [.ref x, .int l1] (.ref x :: st) I J R S Q := o_aload_n rfl k_R_numberAt_8
theorem k_R_numberAt_9 : decode (sk_by 109) 9 = .ok (.getfield 24, 3) := by decide +kernel
theorem x_R_numberAt_9 {ls st : List Value} {a : Nat} {I : MI} {J : MJ} {R : MR} {S : Sh} {Q : SkQ} (ha : S.1 a = 4) : Wp 109 9 ls (.ref a :: st) I J R S Q = Wp 109 12 ls (R a 2 :: st) I J R S Q := o_getfieldR (show sk_lkF (sk_cl 109) 24 = some (4, 2, 2, 1, 0) by decide +kernel) k_R_numberAt_9 ha
theorem k_R_numberAt_12 : decode (sk_by 109) 12 = .ok (.iload_n 1, 1) := by decide +kernel
theorem x_R_numberAt_12 {st : List Value} {l0 : Nat} {x : Int32} {I : MI} {J : MJ} {R : MR} {S : Sh} {Q : SkQ} : Wp 109 12 [.ref l0, .int x] st I J R S Q = Wp 109 13 [.ref l0, .int x] (.int x :: st) I J R S Q := o_iload_n rfl k_R_numberAt_12
theorem k_R_numberAt_13 : decode (sk_by 109) 13 = .ok (.iaload, 1) := by decide +kernel
theorem x_R_numberAt_13 {ls st : List Value} {a : Nat} {i : Int32} {I : MI} {J : MJ} {R : MR} {S : Sh} {Q : SkQ} (ha : S.1 a = 30) (hi : inb i (S.2.1 a) = true) : Wp 109 13 ls (.int i :: .ref a :: st) I J R S Q = Wp 109 14 ls (.int (I a (ix i)) :: st) I J R S Q := o_iaload k_R_numberAt_13 ha hi
theorem k_R_numberAt_14 : decode (sk_by 109) 14 = .ok (.goto 4, 3) := by decide +kernel
theorem x_R_numberAt_14 {ls st : List Value} {I : MI} {J : MJ} {R : MR} {S : Sh} {Q : SkQ} : Wp 109 14 ls st I J R S Q = Wp 109 18 ls st I J R S Q := o_goto rfl rfl k_R_numberAt_14
theorem k_R_numberAt_17 : decode (sk_by 109) 17 = .ok (.iconst (-1), 1) := by decide +kernel
theorem x_R_numberAt_17 {ls st : List Value} {I : MI} {J : MJ} {R : MR} {S : Sh} {Q : SkQ} : Wp 109 17 ls st I J R S Q = Wp 109 18 ls (.int (-1) :: st) I J R S Q := o_const (by decide) k_R_numberAt_17
theorem k_R_numberAt_18 : decode (sk_by 109) 18 = .ok (.ireturn, 1) := by decide +kernel
theorem x_R_numberAt_18 {ls : List Value} {v : Int32} {I : MI} {J : MJ} {R : MR} {S : Sh} {Q : SkQ} : Wp 109 18 ls [.int v] I J R S Q = Q 0 (some (.int v)) I J R S := o_ireturn k_R_numberAt_18 rfl
theorem k_R_valueAt_0 : decode (sk_by 110) 0 = .ok (.iload_n 2, 1) := by decide +kernel
theorem x_R_valueAt_0 {st : List Value} {l0 : Nat} {l1 : Int32} {x : Int32} {I : MI} {J : MJ} {R : MR} {S : Sh} {Q : SkQ} : Wp 110 0 [.ref l0, .int l1, .int x] st I J R S Q = Wp 110 1 [.ref l0, .int l1, .int x] (.int x :: st) I J R S Q := o_iload_n rfl k_R_valueAt_0
theorem k_R_valueAt_1 : decode (sk_by 110) 1 = .ok (.lookupswitch 39 #[(0, 27), (1, 33)], 27) := by decide +kernel
theorem k_R_valueAt_28 : decode (sk_by 110) 28 = .ok (.aload_n 0, 1) := by decide +kernel
theorem x_R_valueAt_28 {st : List Value} {l1 : Int32} {l2 : Int32} {x : Nat} {I : MI} {J : MJ} {R : MR} {S : Sh} {Q : SkQ} : Wp 110 28 [.ref x, .int l1, .int l2] st I J R S Q = Wp 110 29 [.ref x, .int l1, .int l2] (.ref x :: st) I J R S Q := o_aload_n rfl k_R_valueAt_28
theorem k_R_valueAt_29 : decode (sk_by 110) 29 = .ok (.iload_n 1, 1) := by decide +kernel
theorem x_R_valueAt_29 {st : List Value} {l0 : Nat} {l2 : Int32} {x : Int32} {I : MI} {J : MJ} {R : MR} {S : Sh} {Q : SkQ} : Wp 110 29 [.ref l0, .int x, .int l2] st I J R S Q = Wp 110 30 [.ref l0, .int x, .int l2] (.int x :: st) I J R S Q := o_iload_n rfl k_R_valueAt_29
theorem k_R_valueAt_30 : decode (sk_by 110) 30 = .ok (.invokevirtual 38, 3) := by decide +kernel
theorem x_R_valueAt_30 {ls : List Value} {a0 : Nat} {a1 : Int32} {I : MI} {J : MJ} {R : MR} {S : Sh} {Q : SkQ} (ha : S.1 a0 = 4) : Wp 110 30 ls (.int a1 :: .ref a0 :: []) I J R S Q = Wp 107 0 [.ref a0, .int a1] [] I J R S (Ret 110 30 33 107 ls [] Q) := o_call (as := [.ref a0, .int a1]) (rest := []) (show sk_lkM (sk_cl 110) 38 = some 107 by decide +kernel) (by decide) (by decide) (by (decide +kernel)) (ins := .invokevirtual 38) (by (decide +kernel)) k_R_valueAt_30 rfl (show 2 = sk_na 107 by (decide +kernel)) (Nat.le_of_ble_eq_true rfl) (Nat.le_trans (show (argL [.ref a0, .int a1]).length ≤ 2 from Nat.le_of_ble_eq_true rfl) (by (decide +kernel))) (rcv_of (by (decide +kernel)) (by decide) ha)
theorem k_R_valueAt_33 : decode (sk_by 110) 33 = .ok (.lreturn, 1) := by decide +kernel
theorem x_R_valueAt_33 {ls : List Value} {v : Int64} {I : MI} {J : MJ} {R : MR} {S : Sh} {Q : SkQ} : Wp 110 33 ls [.long v] I J R S Q = Q 0 (some (.long v)) I J R S := o_lreturn (by (decide +kernel)) k_R_valueAt_33
theorem k_R_valueAt_34 : decode (sk_by 110) 34 = .ok (.aload_n 0, 1) := by decide +kernel
theorem x_R_valueAt_34 {st : List Value} {l1 : Int32} {l2 : Int32} {x : Nat} {I : MI} {J : MJ} {R : MR} {S : Sh} {Q : SkQ} : Wp 110 34 [.ref x, .int l1, .int l2] st I J R S Q = Wp 110 35 [.ref x, .int l1, .int l2] (.ref x :: st) I J R S Q := o_aload_n rfl k_R_valueAt_34
theorem k_R_valueAt_35 : decode (sk_by 110) 35 = .ok (.iload_n 1, 1) := by decide +kernel
theorem x_R_valueAt_35 {st : List Value} {l0 : Nat} {l2 : Int32} {x : Int32} {I : MI} {J : MJ} {R : MR} {S : Sh} {Q : SkQ} : Wp 110 35 [.ref l0, .int x, .int l2] st I J R S Q = Wp 110 36 [.ref l0, .int x, .int l2] (.int x :: st) I J R S Q := o_iload_n rfl k_R_valueAt_35
theorem k_R_valueAt_36 : decode (sk_by 110) 36 = .ok (.invokevirtual 42, 3) := by decide +kernel
theorem x_R_valueAt_36 {ls : List Value} {a0 : Nat} {a1 : Int32} {I : MI} {J : MJ} {R : MR} {S : Sh} {Q : SkQ} (ha : S.1 a0 = 4) : Wp 110 36 ls (.int a1 :: .ref a0 :: []) I J R S Q = Wp 108 0 [.ref a0, .int a1] [] I J R S (Ret 110 36 39 108 ls [] Q) := o_call (as := [.ref a0, .int a1]) (rest := []) (show sk_lkM (sk_cl 110) 42 = some 108 by decide +kernel) (by decide) (by decide) (by (decide +kernel)) (ins := .invokevirtual 42) (by (decide +kernel)) k_R_valueAt_36 rfl (show 2 = sk_na 108 by (decide +kernel)) (Nat.le_of_ble_eq_true rfl) (Nat.le_trans (show (argL [.ref a0, .int a1]).length ≤ 2 from Nat.le_of_ble_eq_true rfl) (by (decide +kernel))) (rcv_of (by (decide +kernel)) (by decide) ha)
theorem k_R_valueAt_39 : decode (sk_by 110) 39 = .ok (.lreturn, 1) := by decide +kernel
theorem x_R_valueAt_39 {ls : List Value} {v : Int64} {I : MI} {J : MJ} {R : MR} {S : Sh} {Q : SkQ} : Wp 110 39 ls [.long v] I J R S Q = Q 0 (some (.long v)) I J R S := o_lreturn (by (decide +kernel)) k_R_valueAt_39
theorem k_R_valueAt_40 : decode (sk_by 110) 40 = .ok (.aload_n 0, 1) := by decide +kernel
theorem x_R_valueAt_40 {st : List Value} {l1 : Int32} {l2 : Int32} {x : Nat} {I : MI} {J : MJ} {R : MR} {S : Sh} {Q : SkQ} : Wp 110 40 [.ref x, .int l1, .int l2] st I J R S Q = Wp 110 41 [.ref x, .int l1, .int l2] (.ref x :: st) I J R S Q := o_aload_n rfl k_R_valueAt_40
theorem k_R_valueAt_41 : decode (sk_by 110) 41 = .ok (.iload_n 1, 1) := by decide +kernel
theorem x_R_valueAt_41 {st : List Value} {l0 : Nat} {l2 : Int32} {x : Int32} {I : MI} {J : MJ} {R : MR} {S : Sh} {Q : SkQ} : Wp 110 41 [.ref l0, .int x, .int l2] st I J R S Q = Wp 110 42 [.ref l0, .int x, .int l2] (.int x :: st) I J R S Q := o_iload_n rfl k_R_valueAt_41
theorem k_R_valueAt_42 : decode (sk_by 110) 42 = .ok (.invokevirtual 45, 3) := by decide +kernel
theorem x_R_valueAt_42 {ls : List Value} {a0 : Nat} {a1 : Int32} {I : MI} {J : MJ} {R : MR} {S : Sh} {Q : SkQ} (ha : S.1 a0 = 4) : Wp 110 42 ls (.int a1 :: .ref a0 :: []) I J R S Q = Wp 109 0 [.ref a0, .int a1] [] I J R S (Ret 110 42 45 109 ls [] Q) := o_call (as := [.ref a0, .int a1]) (rest := []) (show sk_lkM (sk_cl 110) 45 = some 109 by decide +kernel) (by decide) (by decide) (by (decide +kernel)) (ins := .invokevirtual 45) (by (decide +kernel)) k_R_valueAt_42 rfl (show 2 = sk_na 109 by (decide +kernel)) (Nat.le_of_ble_eq_true rfl) (Nat.le_trans (show (argL [.ref a0, .int a1]).length ≤ 2 from Nat.le_of_ble_eq_true rfl) (by (decide +kernel))) (rcv_of (by (decide +kernel)) (by decide) ha)
theorem k_R_valueAt_45 : decode (sk_by 110) 45 = .ok (.i2l, 1) := by decide +kernel
theorem x_R_valueAt_45 {ls st : List Value} {x : Int32} {I : MI} {J : MJ} {R : MR} {S : Sh} {Q : SkQ} : Wp 110 45 ls (.int x :: st) I J R S Q = Wp 110 46 ls (.long x.toInt64 :: st) I J R S Q := o_i2l k_R_valueAt_45
theorem k_R_valueAt_46 : decode (sk_by 110) 46 = .ok (.lreturn, 1) := by decide +kernel
theorem x_R_valueAt_46 {ls : List Value} {v : Int64} {I : MI} {J : MJ} {R : MR} {S : Sh} {Q : SkQ} : Wp 110 46 ls [.long v] I J R S Q = Q 0 (some (.long v)) I J R S := o_lreturn (by (decide +kernel)) k_R_valueAt_46
theorem k_R_putNumber_0 : decode (sk_by 111) 0 = .ok (.aload_n 0, 1) := by decide +kernel
theorem x_R_putNumber_0 {st : List Value} {l1 : Int32} {l2 : Int32} {x : Nat} {I : MI} {J : MJ} {R : MR} {S : Sh} {Q : SkQ} : Wp 111 0 [.ref x, .int l1, .int l2] st I J R S Q = Wp 111 1 [.ref x, .int l1, .int l2] (.ref x :: st) I J R S Q := o_aload_n rfl k_R_putNumber_0
theorem k_R_putNumber_1 : decode (sk_by 111) 1 = .ok (.iload_n 1, 1) := by decide +kernel
theorem x_R_putNumber_1 {st : List Value} {l0 : Nat} {l2 : Int32} {x : Int32} {I : MI} {J : MJ} {R : MR} {S : Sh} {Q : SkQ} : Wp 111 1 [.ref l0, .int x, .int l2] st I J R S Q = Wp 111 2 [.ref l0, .int x, .int l2] (.int x :: st) I J R S Q := o_iload_n rfl k_R_putNumber_1
theorem k_R_putNumber_2 : decode (sk_by 111) 2 = .ok (.invokevirtual 32, 3) := by decide +kernel
theorem x_R_putNumber_2 {ls : List Value} {a0 : Nat} {a1 : Int32} {I : MI} {J : MJ} {R : MR} {S : Sh} {Q : SkQ} (ha : S.1 a0 = 4) : Wp 111 2 ls (.int a1 :: .ref a0 :: []) I J R S Q = Wp 106 0 [.ref a0, .int a1] [] I J R S (Ret 111 2 5 106 ls [] Q) := o_call (as := [.ref a0, .int a1]) (rest := []) (show sk_lkM (sk_cl 111) 32 = some 106 by decide +kernel) (by decide) (by decide) (by (decide +kernel)) (ins := .invokevirtual 32) (by (decide +kernel)) k_R_putNumber_2 rfl (show 2 = sk_na 106 by (decide +kernel)) (Nat.le_of_ble_eq_true rfl) (Nat.le_trans (show (argL [.ref a0, .int a1]).length ≤ 2 from Nat.le_of_ble_eq_true rfl) (by (decide +kernel))) (rcv_of (by (decide +kernel)) (by decide) ha)
theorem k_R_putNumber_5 : decode (sk_by 111) 5 = .ok (.ifCond .eq 10, 3) := by decide +kernel
theorem x_R_putNumber_5 {ls st : List Value} {x : Int32} {I : MI} {J : MJ} {R : MR} {S : Sh} {Q : SkQ} : Wp 111 5 ls (.int x :: st) I J R S Q = if x = 0 then Wp 111 15 ls st I J R S Q else Wp 111 8 ls st I J R S Q := o_if_eq rfl rfl k_R_putNumber_5
theorem k_R_putNumber_8 : decode (sk_by 111) 8 = .ok (.aload_n 0, 1) := by decide +kernel
theorem x_R_putNumber_8 {st : List Value} {l1 : Int32} {l2 : Int32} {x : Nat} {I : MI} {J : MJ} {R : MR} {S : Sh} {Q : SkQ} : Wp 111 8 [.ref x, .int l1, .int l2] st I J R S Q = Wp 111 9 [.ref x, .int l1, .int l2] (.ref x :: st) I J R S Q := o_aload_n rfl k_R_putNumber_8
theorem k_R_putNumber_9 : decode (sk_by 111) 9 = .ok (.getfield 24, 3) := by decide +kernel
theorem x_R_putNumber_9 {ls st : List Value} {a : Nat} {I : MI} {J : MJ} {R : MR} {S : Sh} {Q : SkQ} (ha : S.1 a = 4) : Wp 111 9 ls (.ref a :: st) I J R S Q = Wp 111 12 ls (R a 2 :: st) I J R S Q := o_getfieldR (show sk_lkF (sk_cl 111) 24 = some (4, 2, 2, 1, 0) by decide +kernel) k_R_putNumber_9 ha
theorem k_R_putNumber_12 : decode (sk_by 111) 12 = .ok (.iload_n 1, 1) := by decide +kernel
theorem x_R_putNumber_12 {st : List Value} {l0 : Nat} {l2 : Int32} {x : Int32} {I : MI} {J : MJ} {R : MR} {S : Sh} {Q : SkQ} : Wp 111 12 [.ref l0, .int x, .int l2] st I J R S Q = Wp 111 13 [.ref l0, .int x, .int l2] (.int x :: st) I J R S Q := o_iload_n rfl k_R_putNumber_12
theorem k_R_putNumber_13 : decode (sk_by 111) 13 = .ok (.iload_n 2, 1) := by decide +kernel
theorem x_R_putNumber_13 {st : List Value} {l0 : Nat} {l1 : Int32} {x : Int32} {I : MI} {J : MJ} {R : MR} {S : Sh} {Q : SkQ} : Wp 111 13 [.ref l0, .int l1, .int x] st I J R S Q = Wp 111 14 [.ref l0, .int l1, .int x] (.int x :: st) I J R S Q := o_iload_n rfl k_R_putNumber_13
theorem k_R_putNumber_14 : decode (sk_by 111) 14 = .ok (.iastore, 1) := by decide +kernel
theorem x_R_putNumber_14 {ls st : List Value} {a : Nat} {i x : Int32} {I : MI} {J : MJ} {R : MR} {S : Sh} {Q : SkQ} (ha : S.1 a = 30) (hi : inb i (S.2.1 a) = true) : Wp 111 14 ls (.int x :: .int i :: .ref a :: st) I J R S Q = Wp 111 15 ls st (u2 I a (ix i) x) J R S Q := o_iastore k_R_putNumber_14 ha hi
theorem k_R_putNumber_15 : decode (sk_by 111) 15 = .ok (.return_, 1) := by decide +kernel
theorem x_R_putNumber_15 {ls : List Value} {I : MI} {J : MJ} {R : MR} {S : Sh} {Q : SkQ} : Wp 111 15 ls [] I J R S Q = Q 0 none I J R S := o_return (by (decide +kernel)) k_R_putNumber_15
theorem k_R_find_0 : decode (sk_by 112) 0 = .ok (.iconst 0, 1) := by decide +kernel
theorem x_R_find_0 {ls st : List Value} {I : MI} {J : MJ} {R : MR} {S : Sh} {Q : SkQ} : Wp 112 0 ls st I J R S Q = Wp 112 1 ls (.int 0 :: st) I J R S Q := o_const (by decide) k_R_find_0
theorem k_R_find_1 : decode (sk_by 112) 1 = .ok (.istore 5, 2) := by decide +kernel
theorem x_R_find_1 {st : List Value} {l0 : Nat} {l1 : Int64} {l3 : Int64} {x : Int32} {I : MI} {J : MJ} {R : MR} {S : Sh} {Q : SkQ} : Wp 112 1 [.ref l0, .long l1, nov, .long l3, nov, nov] (.int x :: st) I J R S Q = Wp 112 3 [.ref l0, .long l1, nov, .long l3, nov, .int x] st I J R S Q := o_istore (Nat.le_of_ble_eq_true rfl) rfl k_R_find_1
theorem k_R_find_3 : decode (sk_by 112) 3 = .ok (.iload 5, 2) := by decide +kernel
theorem x_R_find_3 {st : List Value} {l0 : Nat} {l1 : Int64} {l3 : Int64} {x : Int32} {I : MI} {J : MJ} {R : MR} {S : Sh} {Q : SkQ} : Wp 112 3 [.ref l0, .long l1, nov, .long l3, nov, .int x] st I J R S Q = Wp 112 5 [.ref l0, .long l1, nov, .long l3, nov, .int x] (.int x :: st) I J R S Q := o_iload rfl k_R_find_3
theorem k_R_find_5 : decode (sk_by 112) 5 = .ok (.aload_n 0, 1) := by decide +kernel
theorem x_R_find_5 {st : List Value} {l1 : Int64} {l3 : Int64} {l5 : Int32} {x : Nat} {I : MI} {J : MJ} {R : MR} {S : Sh} {Q : SkQ} : Wp 112 5 [.ref x, .long l1, nov, .long l3, nov, .int l5] st I J R S Q = Wp 112 6 [.ref x, .long l1, nov, .long l3, nov, .int l5] (.ref x :: st) I J R S Q := o_aload_n rfl k_R_find_5
theorem k_R_find_6 : decode (sk_by 112) 6 = .ok (.getfield 28, 3) := by decide +kernel
theorem x_R_find_6 {ls st : List Value} {a : Nat} {I : MI} {J : MJ} {R : MR} {S : Sh} {Q : SkQ} (ha : S.1 a = 4) : Wp 112 6 ls (.ref a :: st) I J R S Q = Wp 112 9 ls (.int (I a 3) :: st) I J R S Q := o_getfieldI (show sk_lkF (sk_cl 112) 28 = some (4, 3, 0, 0, 0) by decide +kernel) k_R_find_6 ha
theorem k_R_find_9 : decode (sk_by 112) 9 = .ok (.if_icmp .ge 36, 3) := by decide +kernel
theorem x_R_find_9 {ls st : List Value} {x y : Int32} {I : MI} {J : MJ} {R : MR} {S : Sh} {Q : SkQ} : Wp 112 9 ls (.int y :: .int x :: st) I J R S Q = if x < y then Wp 112 12 ls st I J R S Q else Wp 112 45 ls st I J R S Q := o_ic_ge rfl rfl k_R_find_9
theorem k_R_find_12 : decode (sk_by 112) 12 = .ok (.aload_n 0, 1) := by decide +kernel
theorem x_R_find_12 {st : List Value} {l1 : Int64} {l3 : Int64} {l5 : Int32} {x : Nat} {I : MI} {J : MJ} {R : MR} {S : Sh} {Q : SkQ} : Wp 112 12 [.ref x, .long l1, nov, .long l3, nov, .int l5] st I J R S Q = Wp 112 13 [.ref x, .long l1, nov, .long l3, nov, .int l5] (.ref x :: st) I J R S Q := o_aload_n rfl k_R_find_12
theorem k_R_find_13 : decode (sk_by 112) 13 = .ok (.getfield 15, 3) := by decide +kernel
theorem x_R_find_13 {ls st : List Value} {a : Nat} {I : MI} {J : MJ} {R : MR} {S : Sh} {Q : SkQ} (ha : S.1 a = 4) : Wp 112 13 ls (.ref a :: st) I J R S Q = Wp 112 16 ls (R a 0 :: st) I J R S Q := o_getfieldR (show sk_lkF (sk_cl 112) 15 = some (4, 0, 2, 1, 0) by decide +kernel) k_R_find_13 ha
theorem k_R_find_16 : decode (sk_by 112) 16 = .ok (.iload 5, 2) := by decide +kernel
theorem x_R_find_16 {st : List Value} {l0 : Nat} {l1 : Int64} {l3 : Int64} {x : Int32} {I : MI} {J : MJ} {R : MR} {S : Sh} {Q : SkQ} : Wp 112 16 [.ref l0, .long l1, nov, .long l3, nov, .int x] st I J R S Q = Wp 112 18 [.ref l0, .long l1, nov, .long l3, nov, .int x] (.int x :: st) I J R S Q := o_iload rfl k_R_find_16
theorem k_R_find_18 : decode (sk_by 112) 18 = .ok (.laload, 1) := by decide +kernel
theorem x_R_find_18 {ls st : List Value} {a : Nat} {i : Int32} {I : MI} {J : MJ} {R : MR} {S : Sh} {Q : SkQ} (ha : S.1 a = 31) (hi : inb i (S.2.1 a) = true) : Wp 112 18 ls (.int i :: .ref a :: st) I J R S Q = Wp 112 19 ls (.long (J a (ix i)) :: st) I J R S Q := o_laload k_R_find_18 ha hi
theorem k_R_find_19 : decode (sk_by 112) 19 = .ok (.lload_n 1, 1) := by decide +kernel
theorem x_R_find_19 {st : List Value} {l0 : Nat} {l3 : Int64} {l5 : Int32} {x : Int64} {I : MI} {J : MJ} {R : MR} {S : Sh} {Q : SkQ} : Wp 112 19 [.ref l0, .long x, nov, .long l3, nov, .int l5] st I J R S Q = Wp 112 20 [.ref l0, .long x, nov, .long l3, nov, .int l5] (.long x :: st) I J R S Q := o_lload_n rfl k_R_find_19
theorem k_R_find_20 : decode (sk_by 112) 20 = .ok (.lcmp, 1) := by decide +kernel
theorem x_R_find_20 {ls st : List Value} {x y : Int64} {I : MI} {J : MJ} {R : MR} {S : Sh} {Q : SkQ} : Wp 112 20 ls (.long y :: .long x :: st) I J R S Q = Wp 112 21 ls (.int (lg_cmp x y) :: st) I J R S Q := o_lcmp k_R_find_20
theorem k_R_find_21 : decode (sk_by 112) 21 = .ok (.ifCond .ne 18, 3) := by decide +kernel
theorem x_R_find_21 {ls st : List Value} {x : Int32} {I : MI} {J : MJ} {R : MR} {S : Sh} {Q : SkQ} : Wp 112 21 ls (.int x :: st) I J R S Q = if x = 0 then Wp 112 24 ls st I J R S Q else Wp 112 39 ls st I J R S Q := o_if_ne rfl rfl k_R_find_21
theorem k_R_find_24 : decode (sk_by 112) 24 = .ok (.aload_n 0, 1) := by decide +kernel
theorem x_R_find_24 {st : List Value} {l1 : Int64} {l3 : Int64} {l5 : Int32} {x : Nat} {I : MI} {J : MJ} {R : MR} {S : Sh} {Q : SkQ} : Wp 112 24 [.ref x, .long l1, nov, .long l3, nov, .int l5] st I J R S Q = Wp 112 25 [.ref x, .long l1, nov, .long l3, nov, .int l5] (.ref x :: st) I J R S Q := o_aload_n rfl k_R_find_24
theorem k_R_find_25 : decode (sk_by 112) 25 = .ok (.getfield 21, 3) := by decide +kernel
theorem x_R_find_25 {ls st : List Value} {a : Nat} {I : MI} {J : MJ} {R : MR} {S : Sh} {Q : SkQ} (ha : S.1 a = 4) : Wp 112 25 ls (.ref a :: st) I J R S Q = Wp 112 28 ls (R a 1 :: st) I J R S Q := o_getfieldR (show sk_lkF (sk_cl 112) 21 = some (4, 1, 2, 1, 0) by decide +kernel) k_R_find_25 ha
theorem k_R_find_28 : decode (sk_by 112) 28 = .ok (.iload 5, 2) := by decide +kernel
theorem x_R_find_28 {st : List Value} {l0 : Nat} {l1 : Int64} {l3 : Int64} {x : Int32} {I : MI} {J : MJ} {R : MR} {S : Sh} {Q : SkQ} : Wp 112 28 [.ref l0, .long l1, nov, .long l3, nov, .int x] st I J R S Q = Wp 112 30 [.ref l0, .long l1, nov, .long l3, nov, .int x] (.int x :: st) I J R S Q := o_iload rfl k_R_find_28
theorem k_R_find_30 : decode (sk_by 112) 30 = .ok (.laload, 1) := by decide +kernel
theorem x_R_find_30 {ls st : List Value} {a : Nat} {i : Int32} {I : MI} {J : MJ} {R : MR} {S : Sh} {Q : SkQ} (ha : S.1 a = 31) (hi : inb i (S.2.1 a) = true) : Wp 112 30 ls (.int i :: .ref a :: st) I J R S Q = Wp 112 31 ls (.long (J a (ix i)) :: st) I J R S Q := o_laload k_R_find_30 ha hi
theorem k_R_find_31 : decode (sk_by 112) 31 = .ok (.lload_n 3, 1) := by decide +kernel
theorem x_R_find_31 {st : List Value} {l0 : Nat} {l1 : Int64} {l5 : Int32} {x : Int64} {I : MI} {J : MJ} {R : MR} {S : Sh} {Q : SkQ} : Wp 112 31 [.ref l0, .long l1, nov, .long x, nov, .int l5] st I J R S Q = Wp 112 32 [.ref l0, .long l1, nov, .long x, nov, .int l5] (.long x :: st) I J R S Q := o_lload_n rfl k_R_find_31
theorem k_R_find_32 : decode (sk_by 112) 32 = .ok (.lcmp, 1) := by decide +kernel
theorem x_R_find_32 {ls st : List Value} {x y : Int64} {I : MI} {J : MJ} {R : MR} {S : Sh} {Q : SkQ} : Wp 112 32 ls (.long y :: .long x :: st) I J R S Q = Wp 112 33 ls (.int (lg_cmp x y) :: st) I J R S Q := o_lcmp k_R_find_32
theorem k_R_find_33 : decode (sk_by 112) 33 = .ok (.ifCond .ne 6, 3) := by decide +kernel
theorem x_R_find_33 {ls st : List Value} {x : Int32} {I : MI} {J : MJ} {R : MR} {S : Sh} {Q : SkQ} : Wp 112 33 ls (.int x :: st) I J R S Q = if x = 0 then Wp 112 36 ls st I J R S Q else Wp 112 39 ls st I J R S Q := o_if_ne rfl rfl k_R_find_33
theorem k_R_find_36 : decode (sk_by 112) 36 = .ok (.iload 5, 2) := by decide +kernel
theorem x_R_find_36 {st : List Value} {l0 : Nat} {l1 : Int64} {l3 : Int64} {x : Int32} {I : MI} {J : MJ} {R : MR} {S : Sh} {Q : SkQ} : Wp 112 36 [.ref l0, .long l1, nov, .long l3, nov, .int x] st I J R S Q = Wp 112 38 [.ref l0, .long l1, nov, .long l3, nov, .int x] (.int x :: st) I J R S Q := o_iload rfl k_R_find_36
theorem k_R_find_38 : decode (sk_by 112) 38 = .ok (.ireturn, 1) := by decide +kernel
theorem x_R_find_38 {ls : List Value} {v : Int32} {I : MI} {J : MJ} {R : MR} {S : Sh} {Q : SkQ} : Wp 112 38 ls [.int v] I J R S Q = Q 0 (some (.int v)) I J R S := o_ireturn k_R_find_38 rfl
theorem k_R_find_39 : decode (sk_by 112) 39 = .ok (.iinc 5 1, 3) := by decide +kernel
theorem x_R_find_39 {st : List Value} {l0 : Nat} {l1 : Int64} {l3 : Int64} {x : Int32} {I : MI} {J : MJ} {R : MR} {S : Sh} {Q : SkQ} : Wp 112 39 [.ref l0, .long l1, nov, .long l3, nov, .int x] st I J R S Q = Wp 112 42 [.ref l0, .long l1, nov, .long l3, nov, .int (x + 1)] st I J R S Q := o_inc (by decide) rfl (Nat.le_of_ble_eq_true rfl) rfl k_R_find_39
theorem k_R_find_42 : decode (sk_by 112) 42 = .ok (.goto (-39), 3) := by decide +kernel
theorem x_R_find_42 {ls st : List Value} {I : MI} {J : MJ} {R : MR} {S : Sh} {Q : SkQ} : Wp 112 42 ls st I J R S Q = Wp 112 3 ls st I J R S Q := o_goto rfl rfl k_R_find_42
theorem k_R_find_45 : decode (sk_by 112) 45 = .ok (.iconst (-1), 1) := by decide +kernel
theorem x_R_find_45 {ls st : List Value} {I : MI} {J : MJ} {R : MR} {S : Sh} {Q : SkQ} : Wp 112 45 ls st I J R S Q = Wp 112 46 ls (.int (-1) :: st) I J R S Q := o_const (by decide) k_R_find_45
theorem k_R_find_46 : decode (sk_by 112) 46 = .ok (.ireturn, 1) := by decide +kernel
theorem x_R_find_46 {ls : List Value} {v : Int32} {I : MI} {J : MJ} {R : MR} {S : Sh} {Q : SkQ} : Wp 112 46 ls [.int v] I J R S Q = Q 0 (some (.int v)) I J R S := o_ireturn k_R_find_46 rfl
theorem k_R_countOfFirst_0 : decode (sk_by 113) 0 = .ok (.iconst 0, 1) := by decide +kernel
theorem x_R_countOfFirst_0 {ls st : List Value} {I : MI} {J : MJ} {R : MR} {S : Sh} {Q : SkQ} : Wp 113 0 ls st I J R S Q = Wp 113 1 ls (.int 0 :: st) I J R S Q := o_const (by decide) k_R_countOfFirst_0
theorem k_R_countOfFirst_1 : decode (sk_by 113) 1 = .ok (.istore_n 3, 1) := by decide +kernel
theorem x_R_countOfFirst_1 {st : List Value} {l0 : Nat} {l1 : Int64} {x : Int32} {I : MI} {J : MJ} {R : MR} {S : Sh} {Q : SkQ} : Wp 113 1 [.ref l0, .long l1, nov, nov, nov] (.int x :: st) I J R S Q = Wp 113 2 [.ref l0, .long l1, nov, .int x, nov] st I J R S Q := o_istore_n (Nat.le_of_ble_eq_true rfl) rfl k_R_countOfFirst_1
theorem k_R_countOfFirst_2 : decode (sk_by 113) 2 = .ok (.iconst 0, 1) := by decide +kernel
theorem x_R_countOfFirst_2 {ls st : List Value} {I : MI} {J : MJ} {R : MR} {S : Sh} {Q : SkQ} : Wp 113 2 ls st I J R S Q = Wp 113 3 ls (.int 0 :: st) I J R S Q := o_const (by decide) k_R_countOfFirst_2
theorem k_R_countOfFirst_3 : decode (sk_by 113) 3 = .ok (.istore 4, 2) := by decide +kernel
theorem x_R_countOfFirst_3 {st : List Value} {l0 : Nat} {l1 : Int64} {l3 : Int32} {x : Int32} {I : MI} {J : MJ} {R : MR} {S : Sh} {Q : SkQ} : Wp 113 3 [.ref l0, .long l1, nov, .int l3, nov] (.int x :: st) I J R S Q = Wp 113 5 [.ref l0, .long l1, nov, .int l3, .int x] st I J R S Q := o_istore (Nat.le_of_ble_eq_true rfl) rfl k_R_countOfFirst_3
theorem k_R_countOfFirst_5 : decode (sk_by 113) 5 = .ok (.iload 4, 2) := by decide +kernel
theorem x_R_countOfFirst_5 {st : List Value} {l0 : Nat} {l1 : Int64} {l3 : Int32} {x : Int32} {I : MI} {J : MJ} {R : MR} {S : Sh} {Q : SkQ} : Wp 113 5 [.ref l0, .long l1, nov, .int l3, .int x] st I J R S Q = Wp 113 7 [.ref l0, .long l1, nov, .int l3, .int x] (.int x :: st) I J R S Q := o_iload rfl k_R_countOfFirst_5
theorem k_R_countOfFirst_7 : decode (sk_by 113) 7 = .ok (.aload_n 0, 1) := by decide +kernel
theorem x_R_countOfFirst_7 {st : List Value} {l1 : Int64} {l3 : Int32} {l4 : Int32} {x : Nat} {I : MI} {J : MJ} {R : MR} {S : Sh} {Q : SkQ} : Wp 113 7 [.ref x, .long l1, nov, .int l3, .int l4] st I J R S Q = Wp 113 8 [.ref x, .long l1, nov, .int l3, .int l4] (.ref x :: st) I J R S Q := o_aload_n rfl k_R_countOfFirst_7
theorem k_R_countOfFirst_8 : decode (sk_by 113) 8 = .ok (.getfield 28, 3) := by decide +kernel
theorem x_R_countOfFirst_8 {ls st : List Value} {a : Nat} {I : MI} {J : MJ} {R : MR} {S : Sh} {Q : SkQ} (ha : S.1 a = 4) : Wp 113 8 ls (.ref a :: st) I J R S Q = Wp 113 11 ls (.int (I a 3) :: st) I J R S Q := o_getfieldI (show sk_lkF (sk_cl 113) 28 = some (4, 3, 0, 0, 0) by decide +kernel) k_R_countOfFirst_8 ha
theorem k_R_countOfFirst_11 : decode (sk_by 113) 11 = .ok (.if_icmp .ge 24, 3) := by decide +kernel
theorem x_R_countOfFirst_11 {ls st : List Value} {x y : Int32} {I : MI} {J : MJ} {R : MR} {S : Sh} {Q : SkQ} : Wp 113 11 ls (.int y :: .int x :: st) I J R S Q = if x < y then Wp 113 14 ls st I J R S Q else Wp 113 35 ls st I J R S Q := o_ic_ge rfl rfl k_R_countOfFirst_11
theorem k_R_countOfFirst_14 : decode (sk_by 113) 14 = .ok (.aload_n 0, 1) := by decide +kernel
theorem x_R_countOfFirst_14 {st : List Value} {l1 : Int64} {l3 : Int32} {l4 : Int32} {x : Nat} {I : MI} {J : MJ} {R : MR} {S : Sh} {Q : SkQ} : Wp 113 14 [.ref x, .long l1, nov, .int l3, .int l4] st I J R S Q = Wp 113 15 [.ref x, .long l1, nov, .int l3, .int l4] (.ref x :: st) I J R S Q := o_aload_n rfl k_R_countOfFirst_14
theorem k_R_countOfFirst_15 : decode (sk_by 113) 15 = .ok (.getfield 15, 3) := by decide +kernel
theorem x_R_countOfFirst_15 {ls st : List Value} {a : Nat} {I : MI} {J : MJ} {R : MR} {S : Sh} {Q : SkQ} (ha : S.1 a = 4) : Wp 113 15 ls (.ref a :: st) I J R S Q = Wp 113 18 ls (R a 0 :: st) I J R S Q := o_getfieldR (show sk_lkF (sk_cl 113) 15 = some (4, 0, 2, 1, 0) by decide +kernel) k_R_countOfFirst_15 ha
theorem k_R_countOfFirst_18 : decode (sk_by 113) 18 = .ok (.iload 4, 2) := by decide +kernel
theorem x_R_countOfFirst_18 {st : List Value} {l0 : Nat} {l1 : Int64} {l3 : Int32} {x : Int32} {I : MI} {J : MJ} {R : MR} {S : Sh} {Q : SkQ} : Wp 113 18 [.ref l0, .long l1, nov, .int l3, .int x] st I J R S Q = Wp 113 20 [.ref l0, .long l1, nov, .int l3, .int x] (.int x :: st) I J R S Q := o_iload rfl k_R_countOfFirst_18
theorem k_R_countOfFirst_20 : decode (sk_by 113) 20 = .ok (.laload, 1) := by decide +kernel
theorem x_R_countOfFirst_20 {ls st : List Value} {a : Nat} {i : Int32} {I : MI} {J : MJ} {R : MR} {S : Sh} {Q : SkQ} (ha : S.1 a = 31) (hi : inb i (S.2.1 a) = true) : Wp 113 20 ls (.int i :: .ref a :: st) I J R S Q = Wp 113 21 ls (.long (J a (ix i)) :: st) I J R S Q := o_laload k_R_countOfFirst_20 ha hi
theorem k_R_countOfFirst_21 : decode (sk_by 113) 21 = .ok (.lload_n 1, 1) := by decide +kernel
theorem x_R_countOfFirst_21 {st : List Value} {l0 : Nat} {l3 : Int32} {l4 : Int32} {x : Int64} {I : MI} {J : MJ} {R : MR} {S : Sh} {Q : SkQ} : Wp 113 21 [.ref l0, .long x, nov, .int l3, .int l4] st I J R S Q = Wp 113 22 [.ref l0, .long x, nov, .int l3, .int l4] (.long x :: st) I J R S Q := o_lload_n rfl k_R_countOfFirst_21
theorem k_R_countOfFirst_22 : decode (sk_by 113) 22 = .ok (.lcmp, 1) := by decide +kernel
theorem x_R_countOfFirst_22 {ls st : List Value} {x y : Int64} {I : MI} {J : MJ} {R : MR} {S : Sh} {Q : SkQ} : Wp 113 22 ls (.long y :: .long x :: st) I J R S Q = Wp 113 23 ls (.int (lg_cmp x y) :: st) I J R S Q := o_lcmp k_R_countOfFirst_22
theorem k_R_countOfFirst_23 : decode (sk_by 113) 23 = .ok (.ifCond .ne 6, 3) := by decide +kernel
theorem x_R_countOfFirst_23 {ls st : List Value} {x : Int32} {I : MI} {J : MJ} {R : MR} {S : Sh} {Q : SkQ} : Wp 113 23 ls (.int x :: st) I J R S Q = if x = 0 then Wp 113 26 ls st I J R S Q else Wp 113 29 ls st I J R S Q := o_if_ne rfl rfl k_R_countOfFirst_23
theorem k_R_countOfFirst_26 : decode (sk_by 113) 26 = .ok (.iinc 3 1, 3) := by decide +kernel
theorem x_R_countOfFirst_26 {st : List Value} {l0 : Nat} {l1 : Int64} {l4 : Int32} {x : Int32} {I : MI} {J : MJ} {R : MR} {S : Sh} {Q : SkQ} : Wp 113 26 [.ref l0, .long l1, nov, .int x, .int l4] st I J R S Q = Wp 113 29 [.ref l0, .long l1, nov, .int (x + 1), .int l4] st I J R S Q := o_inc (by decide) rfl (Nat.le_of_ble_eq_true rfl) rfl k_R_countOfFirst_26
theorem k_R_countOfFirst_29 : decode (sk_by 113) 29 = .ok (.iinc 4 1, 3) := by decide +kernel
theorem x_R_countOfFirst_29 {st : List Value} {l0 : Nat} {l1 : Int64} {l3 : Int32} {x : Int32} {I : MI} {J : MJ} {R : MR} {S : Sh} {Q : SkQ} : Wp 113 29 [.ref l0, .long l1, nov, .int l3, .int x] st I J R S Q = Wp 113 32 [.ref l0, .long l1, nov, .int l3, .int (x + 1)] st I J R S Q := o_inc (by decide) rfl (Nat.le_of_ble_eq_true rfl) rfl k_R_countOfFirst_29
theorem k_R_countOfFirst_32 : decode (sk_by 113) 32 = .ok (.goto (-27), 3) := by decide +kernel
theorem x_R_countOfFirst_32 {ls st : List Value} {I : MI} {J : MJ} {R : MR} {S : Sh} {Q : SkQ} : Wp 113 32 ls st I J R S Q = Wp 113 5 ls st I J R S Q := o_goto rfl rfl k_R_countOfFirst_32
theorem k_R_countOfFirst_35 : decode (sk_by 113) 35 = .ok (.iload_n 3, 1) := by decide +kernel
theorem x_R_countOfFirst_35 {st : List Value} {l0 : Nat} {l1 : Int64} {l4 : Int32} {x : Int32} {I : MI} {J : MJ} {R : MR} {S : Sh} {Q : SkQ} : Wp 113 35 [.ref l0, .long l1, nov, .int x, .int l4] st I J R S Q = Wp 113 36 [.ref l0, .long l1, nov, .int x, .int l4] (.int x :: st) I J R S Q := o_iload_n rfl k_R_countOfFirst_35
theorem k_R_countOfFirst_36 : decode (sk_by 113) 36 = .ok (.ireturn, 1) := by decide +kernel
theorem x_R_countOfFirst_36 {ls : List Value} {v : Int32} {I : MI} {J : MJ} {R : MR} {S : Sh} {Q : SkQ} : Wp 113 36 ls [.int v] I J R S Q = Q 0 (some (.int v)) I J R S := o_ireturn k_R_countOfFirst_36 rfl
theorem k_R_sumOfNumbers_0 : decode (sk_by 114) 0 = .ok (.iconst 0, 1) := by decide +kernel
theorem x_R_sumOfNumbers_0 {ls st : List Value} {I : MI} {J : MJ} {R : MR} {S : Sh} {Q : SkQ} : Wp 114 0 ls st I J R S Q = Wp 114 1 ls (.int 0 :: st) I J R S Q := o_const (by decide) k_R_sumOfNumbers_0
theorem k_R_sumOfNumbers_1 : decode (sk_by 114) 1 = .ok (.istore_n 1, 1) := by decide +kernel
theorem x_R_sumOfNumbers_1 {st : List Value} {l0 : Nat} {x : Int32} {I : MI} {J : MJ} {R : MR} {S : Sh} {Q : SkQ} : Wp 114 1 [.ref l0, nov, nov] (.int x :: st) I J R S Q = Wp 114 2 [.ref l0, .int x, nov] st I J R S Q := o_istore_n (Nat.le_of_ble_eq_true rfl) rfl k_R_sumOfNumbers_1
theorem k_R_sumOfNumbers_2 : decode (sk_by 114) 2 = .ok (.iconst 0, 1) := by decide +kernel
theorem x_R_sumOfNumbers_2 {ls st : List Value} {I : MI} {J : MJ} {R : MR} {S : Sh} {Q : SkQ} : Wp 114 2 ls st I J R S Q = Wp 114 3 ls (.int 0 :: st) I J R S Q := o_const (by decide) k_R_sumOfNumbers_2
theorem k_R_sumOfNumbers_3 : decode (sk_by 114) 3 = .ok (.istore_n 2, 1) := by decide +kernel
theorem x_R_sumOfNumbers_3 {st : List Value} {l0 : Nat} {l1 : Int32} {x : Int32} {I : MI} {J : MJ} {R : MR} {S : Sh} {Q : SkQ} : Wp 114 3 [.ref l0, .int l1, nov] (.int x :: st) I J R S Q = Wp 114 4 [.ref l0, .int l1, .int x] st I J R S Q := o_istore_n (Nat.le_of_ble_eq_true rfl) rfl k_R_sumOfNumbers_3
theorem k_R_sumOfNumbers_4 : decode (sk_by 114) 4 = .ok (.iload_n 2, 1) := by decide +kernel
theorem x_R_sumOfNumbers_4 {st : List Value} {l0 : Nat} {l1 : Int32} {x : Int32} {I : MI} {J : MJ} {R : MR} {S : Sh} {Q : SkQ} : Wp 114 4 [.ref l0, .int l1, .int x] st I J R S Q = Wp 114 5 [.ref l0, .int l1, .int x] (.int x :: st) I J R S Q := o_iload_n rfl k_R_sumOfNumbers_4
theorem k_R_sumOfNumbers_5 : decode (sk_by 114) 5 = .ok (.aload_n 0, 1) := by decide +kernel
theorem x_R_sumOfNumbers_5 {st : List Value} {l1 : Int32} {l2 : Int32} {x : Nat} {I : MI} {J : MJ} {R : MR} {S : Sh} {Q : SkQ} : Wp 114 5 [.ref x, .int l1, .int l2] st I J R S Q = Wp 114 6 [.ref x, .int l1, .int l2] (.ref x :: st) I J R S Q := o_aload_n rfl k_R_sumOfNumbers_5
theorem k_R_sumOfNumbers_6 : decode (sk_by 114) 6 = .ok (.getfield 28, 3) := by decide +kernel
theorem x_R_sumOfNumbers_6 {ls st : List Value} {a : Nat} {I : MI} {J : MJ} {R : MR} {S : Sh} {Q : SkQ} (ha : S.1 a = 4) : Wp 114 6 ls (.ref a :: st) I J R S Q = Wp 114 9 ls (.int (I a 3) :: st) I J R S Q := o_getfieldI (show sk_lkF (sk_cl 114) 28 = some (4, 3, 0, 0, 0) by decide +kernel) k_R_sumOfNumbers_6 ha
theorem k_R_sumOfNumbers_9 : decode (sk_by 114) 9 = .ok (.if_icmp .ge 18, 3) := by decide +kernel
theorem x_R_sumOfNumbers_9 {ls st : List Value} {x y : Int32} {I : MI} {J : MJ} {R : MR} {S : Sh} {Q : SkQ} : Wp 114 9 ls (.int y :: .int x :: st) I J R S Q = if x < y then Wp 114 12 ls st I J R S Q else Wp 114 27 ls st I J R S Q := o_ic_ge rfl rfl k_R_sumOfNumbers_9
theorem k_R_sumOfNumbers_12 : decode (sk_by 114) 12 = .ok (.iload_n 1, 1) := by decide +kernel
theorem x_R_sumOfNumbers_12 {st : List Value} {l0 : Nat} {l2 : Int32} {x : Int32} {I : MI} {J : MJ} {R : MR} {S : Sh} {Q : SkQ} : Wp 114 12 [.ref l0, .int x, .int l2] st I J R S Q = Wp 114 13 [.ref l0, .int x, .int l2] (.int x :: st) I J R S Q := o_iload_n rfl k_R_sumOfNumbers_12
theorem k_R_sumOfNumbers_13 : decode (sk_by 114) 13 = .ok (.aload_n 0, 1) := by decide +kernel
theorem x_R_sumOfNumbers_13 {st : List Value} {l1 : Int32} {l2 : Int32} {x : Nat} {I : MI} {J : MJ} {R : MR} {S : Sh} {Q : SkQ} : Wp 114 13 [.ref x, .int l1, .int l2] st I J R S Q = Wp 114 14 [.ref x, .int l1, .int l2] (.ref x :: st) I J R S Q := o_aload_n rfl k_R_sumOfNumbers_13
theorem k_R_sumOfNumbers_14 : decode (sk_by 114) 14 = .ok (.getfield 24, 3) := by decide +kernel
theorem x_R_sumOfNumbers_14 {ls st : List Value} {a : Nat} {I : MI} {J : MJ} {R : MR} {S : Sh} {Q : SkQ} (ha : S.1 a = 4) : Wp 114 14 ls (.ref a :: st) I J R S Q = Wp 114 17 ls (R a 2 :: st) I J R S Q := o_getfieldR (show sk_lkF (sk_cl 114) 24 = some (4, 2, 2, 1, 0) by decide +kernel) k_R_sumOfNumbers_14 ha
theorem k_R_sumOfNumbers_17 : decode (sk_by 114) 17 = .ok (.iload_n 2, 1) := by decide +kernel
theorem x_R_sumOfNumbers_17 {st : List Value} {l0 : Nat} {l1 : Int32} {x : Int32} {I : MI} {J : MJ} {R : MR} {S : Sh} {Q : SkQ} : Wp 114 17 [.ref l0, .int l1, .int x] st I J R S Q = Wp 114 18 [.ref l0, .int l1, .int x] (.int x :: st) I J R S Q := o_iload_n rfl k_R_sumOfNumbers_17
theorem k_R_sumOfNumbers_18 : decode (sk_by 114) 18 = .ok (.iaload, 1) := by decide +kernel
theorem x_R_sumOfNumbers_18 {ls st : List Value} {a : Nat} {i : Int32} {I : MI} {J : MJ} {R : MR} {S : Sh} {Q : SkQ} (ha : S.1 a = 30) (hi : inb i (S.2.1 a) = true) : Wp 114 18 ls (.int i :: .ref a :: st) I J R S Q = Wp 114 19 ls (.int (I a (ix i)) :: st) I J R S Q := o_iaload k_R_sumOfNumbers_18 ha hi
theorem k_R_sumOfNumbers_19 : decode (sk_by 114) 19 = .ok (.iadd, 1) := by decide +kernel
theorem x_R_sumOfNumbers_19 {ls st : List Value} {x y : Int32} {I : MI} {J : MJ} {R : MR} {S : Sh} {Q : SkQ} : Wp 114 19 ls (.int y :: .int x :: st) I J R S Q = Wp 114 20 ls (.int (x + y) :: st) I J R S Q := o_iadd k_R_sumOfNumbers_19
theorem k_R_sumOfNumbers_20 : decode (sk_by 114) 20 = .ok (.istore_n 1, 1) := by decide +kernel
theorem x_R_sumOfNumbers_20 {st : List Value} {l0 : Nat} {l1 : Int32} {l2 : Int32} {x : Int32} {I : MI} {J : MJ} {R : MR} {S : Sh} {Q : SkQ} : Wp 114 20 [.ref l0, .int l1, .int l2] (.int x :: st) I J R S Q = Wp 114 21 [.ref l0, .int x, .int l2] st I J R S Q := o_istore_n (Nat.le_of_ble_eq_true rfl) rfl k_R_sumOfNumbers_20
theorem k_R_sumOfNumbers_21 : decode (sk_by 114) 21 = .ok (.iinc 2 1, 3) := by decide +kernel
theorem x_R_sumOfNumbers_21 {st : List Value} {l0 : Nat} {l1 : Int32} {x : Int32} {I : MI} {J : MJ} {R : MR} {S : Sh} {Q : SkQ} : Wp 114 21 [.ref l0, .int l1, .int x] st I J R S Q = Wp 114 24 [.ref l0, .int l1, .int (x + 1)] st I J R S Q := o_inc (by decide) rfl (Nat.le_of_ble_eq_true rfl) rfl k_R_sumOfNumbers_21
theorem k_R_sumOfNumbers_24 : decode (sk_by 114) 24 = .ok (.goto (-20), 3) := by decide +kernel
theorem x_R_sumOfNumbers_24 {ls st : List Value} {I : MI} {J : MJ} {R : MR} {S : Sh} {Q : SkQ} : Wp 114 24 ls st I J R S Q = Wp 114 4 ls st I J R S Q := o_goto rfl rfl k_R_sumOfNumbers_24
theorem k_R_sumOfNumbers_27 : decode (sk_by 114) 27 = .ok (.iload_n 1, 1) := by decide +kernel
theorem x_R_sumOfNumbers_27 {st : List Value} {l0 : Nat} {l2 : Int32} {x : Int32} {I : MI} {J : MJ} {R : MR} {S : Sh} {Q : SkQ} : Wp 114 27 [.ref l0, .int x, .int l2] st I J R S Q = Wp 114 28 [.ref l0, .int x, .int l2] (.int x :: st) I J R S Q := o_iload_n rfl k_R_sumOfNumbers_27
theorem k_R_sumOfNumbers_28 : decode (sk_by 114) 28 = .ok (.ireturn, 1) := by decide +kernel
theorem x_R_sumOfNumbers_28 {ls : List Value} {v : Int32} {I : MI} {J : MJ} {R : MR} {S : Sh} {Q : SkQ} : Wp 114 28 ls [.int v] I J R S Q = Q 0 (some (.int v)) I J R S := o_ireturn k_R_sumOfNumbers_28 rfl
theorem k_R_indexOfLeast_0 : decode (sk_by 115) 0 = .ok (.iconst 0, 1) := by decide +kernel
theorem x_R_indexOfLeast_0 {ls st : List Value} {I : MI} {J : MJ} {R : MR} {S : Sh} {Q : SkQ} : Wp 115 0 ls st I J R S Q = Wp 115 1 ls (.int 0 :: st) I J R S Q := o_const (by decide) k_R_indexOfLeast_0
theorem k_R_indexOfLeast_1 : decode (sk_by 115) 1 = .ok (.istore_n 1, 1) := by decide +kernel
theorem x_R_indexOfLeast_1 {st : List Value} {l0 : Nat} {x : Int32} {I : MI} {J : MJ} {R : MR} {S : Sh} {Q : SkQ} : Wp 115 1 [.ref l0, nov, nov] (.int x :: st) I J R S Q = Wp 115 2 [.ref l0, .int x, nov] st I J R S Q := o_istore_n (Nat.le_of_ble_eq_true rfl) rfl k_R_indexOfLeast_1
theorem k_R_indexOfLeast_2 : decode (sk_by 115) 2 = .ok (.iconst 1, 1) := by decide +kernel
theorem x_R_indexOfLeast_2 {ls st : List Value} {I : MI} {J : MJ} {R : MR} {S : Sh} {Q : SkQ} : Wp 115 2 ls st I J R S Q = Wp 115 3 ls (.int 1 :: st) I J R S Q := o_const (by decide) k_R_indexOfLeast_2
theorem k_R_indexOfLeast_3 : decode (sk_by 115) 3 = .ok (.istore_n 2, 1) := by decide +kernel
theorem x_R_indexOfLeast_3 {st : List Value} {l0 : Nat} {l1 : Int32} {x : Int32} {I : MI} {J : MJ} {R : MR} {S : Sh} {Q : SkQ} : Wp 115 3 [.ref l0, .int l1, nov] (.int x :: st) I J R S Q = Wp 115 4 [.ref l0, .int l1, .int x] st I J R S Q := o_istore_n (Nat.le_of_ble_eq_true rfl) rfl k_R_indexOfLeast_3
theorem k_R_indexOfLeast_4 : decode (sk_by 115) 4 = .ok (.iload_n 2, 1) := by decide +kernel
theorem x_R_indexOfLeast_4 {st : List Value} {l0 : Nat} {l1 : Int32} {x : Int32} {I : MI} {J : MJ} {R : MR} {S : Sh} {Q : SkQ} : Wp 115 4 [.ref l0, .int l1, .int x] st I J R S Q = Wp 115 5 [.ref l0, .int l1, .int x] (.int x :: st) I J R S Q := o_iload_n rfl k_R_indexOfLeast_4
theorem k_R_indexOfLeast_5 : decode (sk_by 115) 5 = .ok (.aload_n 0, 1) := by decide +kernel
theorem x_R_indexOfLeast_5 {st : List Value} {l1 : Int32} {l2 : Int32} {x : Nat} {I : MI} {J : MJ} {R : MR} {S : Sh} {Q : SkQ} : Wp 115 5 [.ref x, .int l1, .int l2] st I J R S Q = Wp 115 6 [.ref x, .int l1, .int l2] (.ref x :: st) I J R S Q := o_aload_n rfl k_R_indexOfLeast_5
theorem k_R_indexOfLeast_6 : decode (sk_by 115) 6 = .ok (.getfield 28, 3) := by decide +kernel
theorem x_R_indexOfLeast_6 {ls st : List Value} {a : Nat} {I : MI} {J : MJ} {R : MR} {S : Sh} {Q : SkQ} (ha : S.1 a = 4) : Wp 115 6 ls (.ref a :: st) I J R S Q = Wp 115 9 ls (.int (I a 3) :: st) I J R S Q := o_getfieldI (show sk_lkF (sk_cl 115) 28 = some (4, 3, 0, 0, 0) by decide +kernel) k_R_indexOfLeast_6 ha
theorem k_R_indexOfLeast_9 : decode (sk_by 115) 9 = .ok (.if_icmp .ge 26, 3) := by decide +kernel
theorem x_R_indexOfLeast_9 {ls st : List Value} {x y : Int32} {I : MI} {J : MJ} {R : MR} {S : Sh} {Q : SkQ} : Wp 115 9 ls (.int y :: .int x :: st) I J R S Q = if x < y then Wp 115 12 ls st I J R S Q else Wp 115 35 ls st I J R S Q := o_ic_ge rfl rfl k_R_indexOfLeast_9
theorem k_R_indexOfLeast_12 : decode (sk_by 115) 12 = .ok (.aload_n 0, 1) := by decide +kernel
theorem x_R_indexOfLeast_12 {st : List Value} {l1 : Int32} {l2 : Int32} {x : Nat} {I : MI} {J : MJ} {R : MR} {S : Sh} {Q : SkQ} : Wp 115 12 [.ref x, .int l1, .int l2] st I J R S Q = Wp 115 13 [.ref x, .int l1, .int l2] (.ref x :: st) I J R S Q := o_aload_n rfl k_R_indexOfLeast_12
theorem k_R_indexOfLeast_13 : decode (sk_by 115) 13 = .ok (.getfield 24, 3) := by decide +kernel
theorem x_R_indexOfLeast_13 {ls st : List Value} {a : Nat} {I : MI} {J : MJ} {R : MR} {S : Sh} {Q : SkQ} (ha : S.1 a = 4) : Wp 115 13 ls (.ref a :: st) I J R S Q = Wp 115 16 ls (R a 2 :: st) I J R S Q := o_getfieldR (show sk_lkF (sk_cl 115) 24 = some (4, 2, 2, 1, 0) by decide +kernel) k_R_indexOfLeast_13 ha
theorem k_R_indexOfLeast_16 : decode (sk_by 115) 16 = .ok (.iload_n 2, 1) := by decide +kernel
theorem x_R_indexOfLeast_16 {st : List Value} {l0 : Nat} {l1 : Int32} {x : Int32} {I : MI} {J : MJ} {R : MR} {S : Sh} {Q : SkQ} : Wp 115 16 [.ref l0, .int l1, .int x] st I J R S Q = Wp 115 17 [.ref l0, .int l1, .int x] (.int x :: st) I J R S Q := o_iload_n rfl k_R_indexOfLeast_16
theorem k_R_indexOfLeast_17 : decode (sk_by 115) 17 = .ok (.iaload, 1) := by decide +kernel
theorem x_R_indexOfLeast_17 {ls st : List Value} {a : Nat} {i : Int32} {I : MI} {J : MJ} {R : MR} {S : Sh} {Q : SkQ} (ha : S.1 a = 30) (hi : inb i (S.2.1 a) = true) : Wp 115 17 ls (.int i :: .ref a :: st) I J R S Q = Wp 115 18 ls (.int (I a (ix i)) :: st) I J R S Q := o_iaload k_R_indexOfLeast_17 ha hi
theorem k_R_indexOfLeast_18 : decode (sk_by 115) 18 = .ok (.aload_n 0, 1) := by decide +kernel
theorem x_R_indexOfLeast_18 {st : List Value} {l1 : Int32} {l2 : Int32} {x : Nat} {I : MI} {J : MJ} {R : MR} {S : Sh} {Q : SkQ} : Wp 115 18 [.ref x, .int l1, .int l2] st I J R S Q = Wp 115 19 [.ref x, .int l1, .int l2] (.ref x :: st) I J R S Q := o_aload_n rfl k_R_indexOfLeast_18
theorem k_R_indexOfLeast_19 : decode (sk_by 115) 19 = .ok (.getfield 24, 3) := by decide +kernel
theorem x_R_indexOfLeast_19 {ls st : List Value} {a : Nat} {I : MI} {J : MJ} {R : MR} {S : Sh} {Q : SkQ} (ha : S.1 a = 4) : Wp 115 19 ls (.ref a :: st) I J R S Q = Wp 115 22 ls (R a 2 :: st) I J R S Q := o_getfieldR (show sk_lkF (sk_cl 115) 24 = some (4, 2, 2, 1, 0) by decide +kernel) k_R_indexOfLeast_19 ha
theorem k_R_indexOfLeast_22 : decode (sk_by 115) 22 = .ok (.iload_n 1, 1) := by decide +kernel
theorem x_R_indexOfLeast_22 {st : List Value} {l0 : Nat} {l2 : Int32} {x : Int32} {I : MI} {J : MJ} {R : MR} {S : Sh} {Q : SkQ} : Wp 115 22 [.ref l0, .int x, .int l2] st I J R S Q = Wp 115 23 [.ref l0, .int x, .int l2] (.int x :: st) I J R S Q := o_iload_n rfl k_R_indexOfLeast_22
theorem k_R_indexOfLeast_23 : decode (sk_by 115) 23 = .ok (.iaload, 1) := by decide +kernel
theorem x_R_indexOfLeast_23 {ls st : List Value} {a : Nat} {i : Int32} {I : MI} {J : MJ} {R : MR} {S : Sh} {Q : SkQ} (ha : S.1 a = 30) (hi : inb i (S.2.1 a) = true) : Wp 115 23 ls (.int i :: .ref a :: st) I J R S Q = Wp 115 24 ls (.int (I a (ix i)) :: st) I J R S Q := o_iaload k_R_indexOfLeast_23 ha hi
theorem k_R_indexOfLeast_24 : decode (sk_by 115) 24 = .ok (.if_icmp .ge 5, 3) := by decide +kernel
theorem x_R_indexOfLeast_24 {ls st : List Value} {x y : Int32} {I : MI} {J : MJ} {R : MR} {S : Sh} {Q : SkQ} : Wp 115 24 ls (.int y :: .int x :: st) I J R S Q = if x < y then Wp 115 27 ls st I J R S Q else Wp 115 29 ls st I J R S Q := o_ic_ge rfl rfl k_R_indexOfLeast_24
theorem k_R_indexOfLeast_27 : decode (sk_by 115) 27 = .ok (.iload_n 2, 1) := by decide +kernel
theorem x_R_indexOfLeast_27 {st : List Value} {l0 : Nat} {l1 : Int32} {x : Int32} {I : MI} {J : MJ} {R : MR} {S : Sh} {Q : SkQ} : Wp 115 27 [.ref l0, .int l1, .int x] st I J R S Q = Wp 115 28 [.ref l0, .int l1, .int x] (.int x :: st) I J R S Q := o_iload_n rfl k_R_indexOfLeast_27
theorem k_R_indexOfLeast_28 : decode (sk_by 115) 28 = .ok (.istore_n 1, 1) := by decide +kernel
theorem x_R_indexOfLeast_28 {st : List Value} {l0 : Nat} {l1 : Int32} {l2 : Int32} {x : Int32} {I : MI} {J : MJ} {R : MR} {S : Sh} {Q : SkQ} : Wp 115 28 [.ref l0, .int l1, .int l2] (.int x :: st) I J R S Q = Wp 115 29 [.ref l0, .int x, .int l2] st I J R S Q := o_istore_n (Nat.le_of_ble_eq_true rfl) rfl k_R_indexOfLeast_28
theorem k_R_indexOfLeast_29 : decode (sk_by 115) 29 = .ok (.iinc 2 1, 3) := by decide +kernel
theorem x_R_indexOfLeast_29 {st : List Value} {l0 : Nat} {l1 : Int32} {x : Int32} {I : MI} {J : MJ} {R : MR} {S : Sh} {Q : SkQ} : Wp 115 29 [.ref l0, .int l1, .int x] st I J R S Q = Wp 115 32 [.ref l0, .int l1, .int (x + 1)] st I J R S Q := o_inc (by decide) rfl (Nat.le_of_ble_eq_true rfl) rfl k_R_indexOfLeast_29
theorem k_R_indexOfLeast_32 : decode (sk_by 115) 32 = .ok (.goto (-28), 3) := by decide +kernel
theorem x_R_indexOfLeast_32 {ls st : List Value} {I : MI} {J : MJ} {R : MR} {S : Sh} {Q : SkQ} : Wp 115 32 ls st I J R S Q = Wp 115 4 ls st I J R S Q := o_goto rfl rfl k_R_indexOfLeast_32
theorem k_R_indexOfLeast_35 : decode (sk_by 115) 35 = .ok (.iload_n 1, 1) := by decide +kernel
theorem x_R_indexOfLeast_35 {st : List Value} {l0 : Nat} {l2 : Int32} {x : Int32} {I : MI} {J : MJ} {R : MR} {S : Sh} {Q : SkQ} : Wp 115 35 [.ref l0, .int x, .int l2] st I J R S Q = Wp 115 36 [.ref l0, .int x, .int l2] (.int x :: st) I J R S Q := o_iload_n rfl k_R_indexOfLeast_35
theorem k_R_indexOfLeast_36 : decode (sk_by 115) 36 = .ok (.ireturn, 1) := by decide +kernel
theorem x_R_indexOfLeast_36 {ls : List Value} {v : Int32} {I : MI} {J : MJ} {R : MR} {S : Sh} {Q : SkQ} : Wp 115 36 ls [.int v] I J R S Q = Q 0 (some (.int v)) I J R S := o_ireturn k_R_indexOfLeast_36 rfl
theorem k_R_insertInOrder_0 : decode (sk_by 116) 0 = .ok (.lload_n 1, 1) := by decide +kernel
theorem x_R_insertInOrder_0 {st : List Value} {l0 : Nat} {l3 : Int32} {x : Int64} {I : MI} {J : MJ} {R : MR} {S : Sh} {Q : SkQ} : Wp 116 0 [.ref l0, .long x, nov, .int l3, nov, nov, nov, nov] st I J R S Q = Wp 116 1 [.ref l0, .long x, nov, .int l3, nov, nov, nov, nov] (.long x :: st) I J R S Q := o_lload_n rfl k_R_insertInOrder_0
theorem k_R_insertInOrder_1 : decode (sk_by 116) 1 = .ok (.invokestatic 49, 3) := by decide +kernel
theorem x_R_insertInOrder_1 {ls : List Value} {a0 : Int64} {I : MI} {J : MJ} {R : MR} {S : Sh} {Q : SkQ} : Wp 116 1 ls (.long a0 :: []) I J R S Q = Wp 172 0 [.long a0, nov, nov, nov, nov] [] I J R S (Ret 116 1 4 172 ls [] Q) := o_call (as := [.long a0]) (rest := []) (show sk_lkM (sk_cl 116) 49 = some 172 by decide +kernel) (by decide) (by decide) (by (decide +kernel)) (ins := .invokestatic 49) (by (decide +kernel)) k_R_insertInOrder_1 rfl (show 1 = sk_na 172 by (decide +kernel)) (Nat.le_of_ble_eq_true rfl) (Nat.le_trans (show (argL [.long a0]).length ≤ 5 from Nat.le_of_ble_eq_true rfl) (by (decide +kernel))) rfl
theorem k_R_insertInOrder_4 : decode (sk_by 116) 4 = .ok (.lstore 4, 2) := by decide +kernel
theorem x_R_insertInOrder_4 {st : List Value} {l0 : Nat} {l1 : Int64} {l3 : Int32} {x : Int64} {I : MI} {J : MJ} {R : MR} {S : Sh} {Q : SkQ} : Wp 116 4 [.ref l0, .long l1, nov, .int l3, nov, nov, nov, nov] (.long x :: st) I J R S Q = Wp 116 6 [.ref l0, .long l1, nov, .int l3, .long x, nov, nov, nov] st I J R S Q := o_lstore (Nat.le_of_ble_eq_true rfl) rfl k_R_insertInOrder_4
theorem k_R_insertInOrder_6 : decode (sk_by 116) 6 = .ok (.iconst 0, 1) := by decide +kernel
theorem x_R_insertInOrder_6 {ls st : List Value} {I : MI} {J : MJ} {R : MR} {S : Sh} {Q : SkQ} : Wp 116 6 ls st I J R S Q = Wp 116 7 ls (.int 0 :: st) I J R S Q := o_const (by decide) k_R_insertInOrder_6
theorem k_R_insertInOrder_7 : decode (sk_by 116) 7 = .ok (.istore 6, 2) := by decide +kernel
theorem x_R_insertInOrder_7 {st : List Value} {l0 : Nat} {l1 : Int64} {l3 : Int32} {l4 : Int64} {x : Int32} {I : MI} {J : MJ} {R : MR} {S : Sh} {Q : SkQ} : Wp 116 7 [.ref l0, .long l1, nov, .int l3, .long l4, nov, nov, nov] (.int x :: st) I J R S Q = Wp 116 9 [.ref l0, .long l1, nov, .int l3, .long l4, nov, .int x, nov] st I J R S Q := o_istore (Nat.le_of_ble_eq_true rfl) rfl k_R_insertInOrder_7
theorem k_R_insertInOrder_9 : decode (sk_by 116) 9 = .ok (.iconst 0, 1) := by decide +kernel
theorem x_R_insertInOrder_9 {ls st : List Value} {I : MI} {J : MJ} {R : MR} {S : Sh} {Q : SkQ} : Wp 116 9 ls st I J R S Q = Wp 116 10 ls (.int 0 :: st) I J R S Q := o_const (by decide) k_R_insertInOrder_9
theorem k_R_insertInOrder_10 : decode (sk_by 116) 10 = .ok (.istore 7, 2) := by decide +kernel
theorem x_R_insertInOrder_10 {st : List Value} {l0 : Nat} {l1 : Int64} {l3 : Int32} {l4 : Int64} {l6 : Int32} {x : Int32} {I : MI} {J : MJ} {R : MR} {S : Sh} {Q : SkQ} : Wp 116 10 [.ref l0, .long l1, nov, .int l3, .long l4, nov, .int l6, nov] (.int x :: st) I J R S Q = Wp 116 12 [.ref l0, .long l1, nov, .int l3, .long l4, nov, .int l6, .int x] st I J R S Q := o_istore (Nat.le_of_ble_eq_true rfl) rfl k_R_insertInOrder_10
theorem k_R_insertInOrder_12 : decode (sk_by 116) 12 = .ok (.iload 7, 2) := by decide +kernel
theorem x_R_insertInOrder_12 {st : List Value} {l0 : Nat} {l1 : Int64} {l3 : Int32} {l4 : Int64} {l6 : Int32} {x : Int32} {I : MI} {J : MJ} {R : MR} {S : Sh} {Q : SkQ} : Wp 116 12 [.ref l0, .long l1, nov, .int l3, .long l4, nov, .int l6, .int x] st I J R S Q = Wp 116 14 [.ref l0, .long l1, nov, .int l3, .long l4, nov, .int l6, .int x] (.int x :: st) I J R S Q := o_iload rfl k_R_insertInOrder_12
theorem k_R_insertInOrder_14 : decode (sk_by 116) 14 = .ok (.aload_n 0, 1) := by decide +kernel
theorem x_R_insertInOrder_14 {st : List Value} {l1 : Int64} {l3 : Int32} {l4 : Int64} {l6 : Int32} {l7 : Int32} {x : Nat} {I : MI} {J : MJ} {R : MR} {S : Sh} {Q : SkQ} : Wp 116 14 [.ref x, .long l1, nov, .int l3, .long l4, nov, .int l6, .int l7] st I J R S Q = Wp 116 15 [.ref x, .long l1, nov, .int l3, .long l4, nov, .int l6, .int l7] (.ref x :: st) I J R S Q := o_aload_n rfl k_R_insertInOrder_14
theorem k_R_insertInOrder_15 : decode (sk_by 116) 15 = .ok (.getfield 28, 3) := by decide +kernel
theorem x_R_insertInOrder_15 {ls st : List Value} {a : Nat} {I : MI} {J : MJ} {R : MR} {S : Sh} {Q : SkQ} (ha : S.1 a = 4) : Wp 116 15 ls (.ref a :: st) I J R S Q = Wp 116 18 ls (.int (I a 3) :: st) I J R S Q := o_getfieldI (show sk_lkF (sk_cl 116) 28 = some (4, 3, 0, 0, 0) by decide +kernel) k_R_insertInOrder_15 ha
theorem k_R_insertInOrder_18 : decode (sk_by 116) 18 = .ok (.if_icmp .ge 28, 3) := by decide +kernel
theorem x_R_insertInOrder_18 {ls st : List Value} {x y : Int32} {I : MI} {J : MJ} {R : MR} {S : Sh} {Q : SkQ} : Wp 116 18 ls (.int y :: .int x :: st) I J R S Q = if x < y then Wp 116 21 ls st I J R S Q else Wp 116 46 ls st I J R S Q := o_ic_ge rfl rfl k_R_insertInOrder_18
theorem k_R_insertInOrder_21 : decode (sk_by 116) 21 = .ok (.aload_n 0, 1) := by decide +kernel
theorem x_R_insertInOrder_21 {st : List Value} {l1 : Int64} {l3 : Int32} {l4 : Int64} {l6 : Int32} {l7 : Int32} {x : Nat} {I : MI} {J : MJ} {R : MR} {S : Sh} {Q : SkQ} : Wp 116 21 [.ref x, .long l1, nov, .int l3, .long l4, nov, .int l6, .int l7] st I J R S Q = Wp 116 22 [.ref x, .long l1, nov, .int l3, .long l4, nov, .int l6, .int l7] (.ref x :: st) I J R S Q := o_aload_n rfl k_R_insertInOrder_21
theorem k_R_insertInOrder_22 : decode (sk_by 116) 22 = .ok (.getfield 15, 3) := by decide +kernel
theorem x_R_insertInOrder_22 {ls st : List Value} {a : Nat} {I : MI} {J : MJ} {R : MR} {S : Sh} {Q : SkQ} (ha : S.1 a = 4) : Wp 116 22 ls (.ref a :: st) I J R S Q = Wp 116 25 ls (R a 0 :: st) I J R S Q := o_getfieldR (show sk_lkF (sk_cl 116) 15 = some (4, 0, 2, 1, 0) by decide +kernel) k_R_insertInOrder_22 ha
theorem k_R_insertInOrder_25 : decode (sk_by 116) 25 = .ok (.iload 7, 2) := by decide +kernel
theorem x_R_insertInOrder_25 {st : List Value} {l0 : Nat} {l1 : Int64} {l3 : Int32} {l4 : Int64} {l6 : Int32} {x : Int32} {I : MI} {J : MJ} {R : MR} {S : Sh} {Q : SkQ} : Wp 116 25 [.ref l0, .long l1, nov, .int l3, .long l4, nov, .int l6, .int x] st I J R S Q = Wp 116 27 [.ref l0, .long l1, nov, .int l3, .long l4, nov, .int l6, .int x] (.int x :: st) I J R S Q := o_iload rfl k_R_insertInOrder_25
theorem k_R_insertInOrder_27 : decode (sk_by 116) 27 = .ok (.laload, 1) := by decide +kernel
theorem x_R_insertInOrder_27 {ls st : List Value} {a : Nat} {i : Int32} {I : MI} {J : MJ} {R : MR} {S : Sh} {Q : SkQ} (ha : S.1 a = 31) (hi : inb i (S.2.1 a) = true) : Wp 116 27 ls (.int i :: .ref a :: st) I J R S Q = Wp 116 28 ls (.long (J a (ix i)) :: st) I J R S Q := o_laload k_R_insertInOrder_27 ha hi
theorem k_R_insertInOrder_28 : decode (sk_by 116) 28 = .ok (.invokestatic 49, 3) := by decide +kernel
theorem x_R_insertInOrder_28 {ls : List Value} {a0 : Int64} {I : MI} {J : MJ} {R : MR} {S : Sh} {Q : SkQ} : Wp 116 28 ls (.long a0 :: []) I J R S Q = Wp 172 0 [.long a0, nov, nov, nov, nov] [] I J R S (Ret 116 28 31 172 ls [] Q) := o_call (as := [.long a0]) (rest := []) (show sk_lkM (sk_cl 116) 49 = some 172 by decide +kernel) (by decide) (by decide) (by (decide +kernel)) (ins := .invokestatic 49) (by (decide +kernel)) k_R_insertInOrder_28 rfl (show 1 = sk_na 172 by (decide +kernel)) (Nat.le_of_ble_eq_true rfl) (Nat.le_trans (show (argL [.long a0]).length ≤ 5 from Nat.le_of_ble_eq_true rfl) (by (decide +kernel))) rfl
theorem k_R_insertInOrder_31 : decode (sk_by 116) 31 = .ok (.lload 4, 2) := by decide +kernel
theorem x_R_insertInOrder_31 {st : List Value} {l0 : Nat} {l1 : Int64} {l3 : Int32} {l6 : Int32} {l7 : Int32} {x : Int64} {I : MI} {J : MJ} {R : MR} {S : Sh} {Q : SkQ} : Wp 116 31 [.ref l0, .long l1, nov, .int l3, .long x, nov, .int l6, .int l7] st I J R S Q = Wp 116 33 [.ref l0, .long l1, nov, .int l3, .long x, nov, .int l6, .int l7] (.long x :: st) I J R S Q := o_lload rfl k_R_insertInOrder_31
theorem k_R_insertInOrder_33 : decode (sk_by 116) 33 = .ok (.lcmp, 1) := by decide +kernel
theorem x_R_insertInOrder_33 {ls st : List Value} {x y : Int64} {I : MI} {J : MJ} {R : MR} {S : Sh} {Q : SkQ} : Wp 116 33 ls (.long y :: .long x :: st) I J R S Q = Wp 116 34 ls (.int (lg_cmp x y) :: st) I J R S Q := o_lcmp k_R_insertInOrder_33
theorem k_R_insertInOrder_34 : decode (sk_by 116) 34 = .ok (.ifCond .ge 6, 3) := by decide +kernel
theorem x_R_insertInOrder_34 {ls st : List Value} {x : Int32} {I : MI} {J : MJ} {R : MR} {S : Sh} {Q : SkQ} : Wp 116 34 ls (.int x :: st) I J R S Q = if x < 0 then Wp 116 37 ls st I J R S Q else Wp 116 40 ls st I J R S Q := o_if_ge rfl rfl k_R_insertInOrder_34
theorem k_R_insertInOrder_37 : decode (sk_by 116) 37 = .ok (.iinc 6 1, 3) := by decide +kernel
theorem x_R_insertInOrder_37 {st : List Value} {l0 : Nat} {l1 : Int64} {l3 : Int32} {l4 : Int64} {l7 : Int32} {x : Int32} {I : MI} {J : MJ} {R : MR} {S : Sh} {Q : SkQ} : Wp 116 37 [.ref l0, .long l1, nov, .int l3, .long l4, nov, .int x, .int l7] st I J R S Q = Wp 116 40 [.ref l0, .long l1, nov, .int l3, .long l4, nov, .int (x + 1), .int l7] st I J R S Q := o_inc (by decide) rfl (Nat.le_of_ble_eq_true rfl) rfl k_R_insertInOrder_37
theorem k_R_insertInOrder_40 : decode (sk_by 116) 40 = .ok (.iinc 7 1, 3) := by decide +kernel
theorem x_R_insertInOrder_40 {st : List Value} {l0 : Nat} {l1 : Int64} {l3 : Int32} {l4 : Int64} {l6 : Int32} {x : Int32} {I : MI} {J : MJ} {R : MR} {S : Sh} {Q : SkQ} : Wp 116 40 [.ref l0, .long l1, nov, .int l3, .long l4, nov, .int l6, .int x] st I J R S Q = Wp 116 43 [.ref l0, .long l1, nov, .int l3, .long l4, nov, .int l6, .int (x + 1)] st I J R S Q := o_inc (by decide) rfl (Nat.le_of_ble_eq_true rfl) rfl k_R_insertInOrder_40
theorem k_R_insertInOrder_43 : decode (sk_by 116) 43 = .ok (.goto (-31), 3) := by decide +kernel
theorem x_R_insertInOrder_43 {ls st : List Value} {I : MI} {J : MJ} {R : MR} {S : Sh} {Q : SkQ} : Wp 116 43 ls st I J R S Q = Wp 116 12 ls st I J R S Q := o_goto rfl rfl k_R_insertInOrder_43
theorem k_R_insertInOrder_46 : decode (sk_by 116) 46 = .ok (.aload_n 0, 1) := by decide +kernel
theorem x_R_insertInOrder_46 {st : List Value} {l1 : Int64} {l3 : Int32} {l4 : Int64} {l6 : Int32} {l7 : Int32} {x : Nat} {I : MI} {J : MJ} {R : MR} {S : Sh} {Q : SkQ} : Wp 116 46 [.ref x, .long l1, nov, .int l3, .long l4, nov, .int l6, .int l7] st I J R S Q = Wp 116 47 [.ref x, .long l1, nov, .int l3, .long l4, nov, .int l6, .int l7] (.ref x :: st) I J R S Q := o_aload_n rfl k_R_insertInOrder_46
theorem k_R_insertInOrder_47 : decode (sk_by 116) 47 = .ok (.iload 6, 2) := by decide +kernel
theorem x_R_insertInOrder_47 {st : List Value} {l0 : Nat} {l1 : Int64} {l3 : Int32} {l4 : Int64} {l7 : Int32} {x : Int32} {I : MI} {J : MJ} {R : MR} {S : Sh} {Q : SkQ} : Wp 116 47 [.ref l0, .long l1, nov, .int l3, .long l4, nov, .int x, .int l7] st I J R S Q = Wp 116 49 [.ref l0, .long l1, nov, .int l3, .long l4, nov, .int x, .int l7] (.int x :: st) I J R S Q := o_iload rfl k_R_insertInOrder_47
theorem k_R_insertInOrder_49 : decode (sk_by 116) 49 = .ok (.lload_n 1, 1) := by decide +kernel
theorem x_R_insertInOrder_49 {st : List Value} {l0 : Nat} {l3 : Int32} {l4 : Int64} {l6 : Int32} {l7 : Int32} {x : Int64} {I : MI} {J : MJ} {R : MR} {S : Sh} {Q : SkQ} : Wp 116 49 [.ref l0, .long x, nov, .int l3, .long l4, nov, .int l6, .int l7] st I J R S Q = Wp 116 50 [.ref l0, .long x, nov, .int l3, .long l4, nov, .int l6, .int l7] (.long x :: st) I J R S Q := o_lload_n rfl k_R_insertInOrder_49
theorem k_R_insertInOrder_50 : decode (sk_by 116) 50 = .ok (.lconst 0, 1) := by decide +kernel
theorem x_R_insertInOrder_50 {ls st : List Value} {I : MI} {J : MJ} {R : MR} {S : Sh} {Q : SkQ} : Wp 116 50 ls st I J R S Q = Wp 116 51 ls (.long 0 :: st) I J R S Q := o_lc (by decide) k_R_insertInOrder_50
theorem k_R_insertInOrder_51 : decode (sk_by 116) 51 = .ok (.iload_n 3, 1) := by decide +kernel
theorem x_R_insertInOrder_51 {st : List Value} {l0 : Nat} {l1 : Int64} {l4 : Int64} {l6 : Int32} {l7 : Int32} {x : Int32} {I : MI} {J : MJ} {R : MR} {S : Sh} {Q : SkQ} : Wp 116 51 [.ref l0, .long l1, nov, .int x, .long l4, nov, .int l6, .int l7] st I J R S Q = Wp 116 52 [.ref l0, .long l1, nov, .int x, .long l4, nov, .int l6, .int l7] (.int x :: st) I J R S Q := o_iload_n rfl k_R_insertInOrder_51
theorem k_R_insertInOrder_52 : decode (sk_by 116) 52 = .ok (.invokevirtual 55, 3) := by decide +kernel
theorem x_R_insertInOrder_52 {ls : List Value} {a0 : Nat} {a1 : Int32} {a2 : Int64} {a3 : Int64} {a4 : Int32} {I : MI} {J : MJ} {R : MR} {S : Sh} {Q : SkQ} (ha : S.1 a0 = 4) : Wp 116 52 ls (.int a4 :: .long a3 :: .long a2 :: .int a1 :: .ref a0 :: []) I J R S Q = Wp 118 0 [.ref a0, .int a1, .long a2, nov, .long a3, nov, .int a4, nov] [] I J R S (Ret 116 52 55 118 ls [] Q) := o_call (as := [.ref a0, .int a1, .long a2, .long a3, .int a4]) (rest := []) (show sk_lkM (sk_cl 116) 55 = some 118 by decide +kernel) (by decide) (by decide) (by (decide +kernel)) (ins := .invokevirtual 55) (by (decide +kernel)) k_R_insertInOrder_52 rfl (show 5 = sk_na 118 by (decide +kernel)) (Nat.le_of_ble_eq_true rfl) (Nat.le_trans (show (argL [.ref a0, .int a1, .long a2, .long a3, .int a4]).length ≤ 8 from Nat.le_of_ble_eq_true rfl) (by (decide +kernel))) (rcv_of (by (decide +kernel)) (by decide) ha)
theorem k_R_insertInOrder_55 : decode (sk_by 116) 55 = .ok (.return_, 1) := by decide +kernel
theorem x_R_insertInOrder_55 {ls : List Value} {I : MI} {J : MJ} {R : MR} {S : Sh} {Q : SkQ} : Wp 116 55 ls [] I J R S Q = Q 0 none I J R S := o_return (by (decide +kernel)) k_R_insertInOrder_55
theorem k_R_append_0 : decode (sk_by 117) 0 = .ok (.aload_n 0, 1) := by decide +kernel
theorem x_R_append_0 {st : List Value} {l1 : Int64} {l3 : Int64} {l5 : Int32} {x : Nat} {I : MI} {J : MJ} {R : MR} {S : Sh} {Q : SkQ} : Wp 117 0 [.ref x, .long l1, nov, .long l3, nov, .int l5] st I J R S Q = Wp 117 1 [.ref x, .long l1, nov, .long l3, nov, .int l5] (.ref x :: st) I J R S Q := o_aload_n rfl k_R_append_0
theorem k_R_append_1 : decode (sk_by 117) 1 = .ok (.aload_n 0, 1) := by decide +kernel
theorem x_R_append_1 {st : List Value} {l1 : Int64} {l3 : Int64} {l5 : Int32} {x : Nat} {I : MI} {J : MJ} {R : MR} {S : Sh} {Q : SkQ} : Wp 117 1 [.ref x, .long l1, nov, .long l3, nov, .int l5] st I J R S Q = Wp 117 2 [.ref x, .long l1, nov, .long l3, nov, .int l5] (.ref x :: st) I J R S Q := o_aload_n rfl k_R_append_1
theorem k_R_append_2 : decode (sk_by 117) 2 = .ok (.getfield 28, 3) := by decide +kernel
theorem x_R_append_2 {ls st : List Value} {a : Nat} {I : MI} {J : MJ} {R : MR} {S : Sh} {Q : SkQ} (ha : S.1 a = 4) : Wp 117 2 ls (.ref a :: st) I J R S Q = Wp 117 5 ls (.int (I a 3) :: st) I J R S Q := o_getfieldI (show sk_lkF (sk_cl 117) 28 = some (4, 3, 0, 0, 0) by decide +kernel) k_R_append_2 ha
theorem k_R_append_5 : decode (sk_by 117) 5 = .ok (.lload_n 1, 1) := by decide +kernel
theorem x_R_append_5 {st : List Value} {l0 : Nat} {l3 : Int64} {l5 : Int32} {x : Int64} {I : MI} {J : MJ} {R : MR} {S : Sh} {Q : SkQ} : Wp 117 5 [.ref l0, .long x, nov, .long l3, nov, .int l5] st I J R S Q = Wp 117 6 [.ref l0, .long x, nov, .long l3, nov, .int l5] (.long x :: st) I J R S Q := o_lload_n rfl k_R_append_5
theorem k_R_append_6 : decode (sk_by 117) 6 = .ok (.lload_n 3, 1) := by decide +kernel
theorem x_R_append_6 {st : List Value} {l0 : Nat} {l1 : Int64} {l5 : Int32} {x : Int64} {I : MI} {J : MJ} {R : MR} {S : Sh} {Q : SkQ} : Wp 117 6 [.ref l0, .long l1, nov, .long x, nov, .int l5] st I J R S Q = Wp 117 7 [.ref l0, .long l1, nov, .long x, nov, .int l5] (.long x :: st) I J R S Q := o_lload_n rfl k_R_append_6
theorem k_R_append_7 : decode (sk_by 117) 7 = .ok (.iload 5, 2) := by decide +kernel
theorem x_R_append_7 {st : List Value} {l0 : Nat} {l1 : Int64} {l3 : Int64} {x : Int32} {I : MI} {J : MJ} {R : MR} {S : Sh} {Q : SkQ} : Wp 117 7 [.ref l0, .long l1, nov, .long l3, nov, .int x] st I J R S Q = Wp 117 9 [.ref l0, .long l1, nov, .long l3, nov, .int x] (.int x :: st) I J R S Q := o_iload rfl k_R_append_7
theorem k_R_append_9 : decode (sk_by 117) 9 = .ok (.invokevirtual 55, 3) := by decide +kernel
theorem x_R_append_9 {ls : List Value} {a0 : Nat} {a1 : Int32} {a2 : Int64} {a3 : Int64} {a4 : Int32} {I : MI} {J : MJ} {R : MR} {S : Sh} {Q : SkQ} (ha : S.1 a0 = 4) : Wp 117 9 ls (.int a4 :: .long a3 :: .long a2 :: .int a1 :: .ref a0 :: []) I J R S Q = Wp 118 0 [.ref a0, .int a1, .long a2, nov, .long a3, nov, .int a4, nov] [] I J R S (Ret 117 9 12 118 ls [] Q) := o_call (as := [.ref a0, .int a1, .long a2, .long a3, .int a4]) (rest := []) (show sk_lkM (sk_cl 117) 55 = some 118 by decide +kernel) (by decide) (by decide) (by (decide +kernel)) (ins := .invokevirtual 55) (by (decide +kernel)) k_R_append_9 rfl (show 5 = sk_na 118 by (decide +kernel)) (Nat.le_of_ble_eq_true rfl) (Nat.le_trans (show (argL [.ref a0, .int a1, .long a2, .long a3, .int a4]).length ≤ 8 from Nat.le_of_ble_eq_true rfl) (by (decide +kernel))) (rcv_of (by (decide +kernel)) (by decide) ha)
theorem k_R_append_12 : decode (sk_by 117) 12 = .ok (.return_, 1) := by decide +kernel
theorem x_R_append_12 {ls : List Value} {I : MI} {J : MJ} {R : MR} {S : Sh} {Q : SkQ} : Wp 117 12 ls [] I J R S Q = Q 0 none I J R S := o_return (by (decide +kernel)) k_R_append_12
theorem k_R_insert_0 : decode (sk_by 118) 0 = .ok (.aload_n 0, 1) := by decide +kernel
theorem x_R_insert_0 {st : List Value} {l1 : Int32} {l2 : Int64} {l4 : Int64} {l6 : Int32} {x : Nat} {I : MI} {J : MJ} {R : MR} {S : Sh} {Q : SkQ} : Wp 118 0 [.ref x, .int l1, .long l2, nov, .long l4, nov, .int l6, nov] st I J R S Q = Wp 118 1 [.ref x, .int l1, .long l2, nov, .long l4, nov, .int l6, nov] (.ref x :: st) I J R S Q := o_aload_n rfl k_R_insert_0
theorem k_R_insert_1 : decode (sk_by 118) 1 = .ok (.getfield 28, 3) := by decide +kernel
theorem x_R_insert_1 {ls st : List Value} {a : Nat} {I : MI} {J : MJ} {R : MR} {S : Sh} {Q : SkQ} (ha : S.1 a = 4) : Wp 118 1 ls (.ref a :: st) I J R S Q = Wp 118 4 ls (.int (I a 3) :: st) I J R S Q := o_getfieldI (show sk_lkF (sk_cl 118) 28 = some (4, 3, 0, 0, 0) by decide +kernel) k_R_insert_1 ha
theorem k_R_insert_4 : decode (sk_by 118) 4 = .ok (.aload_n 0, 1) := by decide +kernel
theorem x_R_insert_4 {st : List Value} {l1 : Int32} {l2 : Int64} {l4 : Int64} {l6 : Int32} {x : Nat} {I : MI} {J : MJ} {R : MR} {S : Sh} {Q : SkQ} : Wp 118 4 [.ref x, .int l1, .long l2, nov, .long l4, nov, .int l6, nov] st I J R S Q = Wp 118 5 [.ref x, .int l1, .long l2, nov, .long l4, nov, .int l6, nov] (.ref x :: st) I J R S Q := o_aload_n rfl k_R_insert_4
theorem k_R_insert_5 : decode (sk_by 118) 5 = .ok (.getfield 15, 3) := by decide +kernel
theorem x_R_insert_5 {ls st : List Value} {a : Nat} {I : MI} {J : MJ} {R : MR} {S : Sh} {Q : SkQ} (ha : S.1 a = 4) : Wp 118 5 ls (.ref a :: st) I J R S Q = Wp 118 8 ls (R a 0 :: st) I J R S Q := o_getfieldR (show sk_lkF (sk_cl 118) 15 = some (4, 0, 2, 1, 0) by decide +kernel) k_R_insert_5 ha
theorem k_R_insert_8 : decode (sk_by 118) 8 = .ok (.arraylength, 1) := by decide +kernel
theorem x_R_insert_8 {ls st : List Value} {a : Nat} {I : MI} {J : MJ} {R : MR} {S : Sh} {Q : SkQ} (ha : isArr (S.1 a) = true) : Wp 118 8 ls (.ref a :: st) I J R S Q = Wp 118 9 ls (.int (nI (S.2.1 a)) :: st) I J R S Q := o_arraylength k_R_insert_8 ha
theorem k_R_insert_9 : decode (sk_by 118) 9 = .ok (.if_icmp .ge 15, 3) := by decide +kernel
theorem x_R_insert_9 {ls st : List Value} {x y : Int32} {I : MI} {J : MJ} {R : MR} {S : Sh} {Q : SkQ} : Wp 118 9 ls (.int y :: .int x :: st) I J R S Q = if x < y then Wp 118 12 ls st I J R S Q else Wp 118 24 ls st I J R S Q := o_ic_ge rfl rfl k_R_insert_9
theorem k_R_insert_12 : decode (sk_by 118) 12 = .ok (.iload_n 1, 1) := by decide +kernel
theorem x_R_insert_12 {st : List Value} {l0 : Nat} {l2 : Int64} {l4 : Int64} {l6 : Int32} {x : Int32} {I : MI} {J : MJ} {R : MR} {S : Sh} {Q : SkQ} : Wp 118 12 [.ref l0, .int x, .long l2, nov, .long l4, nov, .int l6, nov] st I J R S Q = Wp 118 13 [.ref l0, .int x, .long l2, nov, .long l4, nov, .int l6, nov] (.int x :: st) I J R S Q := o_iload_n rfl k_R_insert_12
theorem k_R_insert_13 : decode (sk_by 118) 13 = .ok (.ifCond .lt 11, 3) := by decide +kernel
theorem x_R_insert_13 {ls st : List Value} {x : Int32} {I : MI} {J : MJ} {R : MR} {S : Sh} {Q : SkQ} : Wp 118 13 ls (.int x :: st) I J R S Q = if x < 0 then Wp 118 24 ls st I J R S Q else Wp 118 16 ls st I J R S Q := o_if_lt rfl rfl k_R_insert_13
theorem k_R_insert_16 : decode (sk_by 118) 16 = .ok (.iload_n 1, 1) := by decide +kernel
theorem x_R_insert_16 {st : List Value} {l0 : Nat} {l2 : Int64} {l4 : Int64} {l6 : Int32} {x : Int32} {I : MI} {J : MJ} {R : MR} {S : Sh} {Q : SkQ} : Wp 118 16 [.ref l0, .int x, .long l2, nov, .long l4, nov, .int l6, nov] st I J R S Q = Wp 118 17 [.ref l0, .int x, .long l2, nov, .long l4, nov, .int l6, nov] (.int x :: st) I J R S Q := o_iload_n rfl k_R_insert_16
theorem k_R_insert_17 : decode (sk_by 118) 17 = .ok (.aload_n 0, 1) := by decide +kernel
theorem x_R_insert_17 {st : List Value} {l1 : Int32} {l2 : Int64} {l4 : Int64} {l6 : Int32} {x : Nat} {I : MI} {J : MJ} {R : MR} {S : Sh} {Q : SkQ} : Wp 118 17 [.ref x, .int l1, .long l2, nov, .long l4, nov, .int l6, nov] st I J R S Q = Wp 118 18 [.ref x, .int l1, .long l2, nov, .long l4, nov, .int l6, nov] (.ref x :: st) I J R S Q := o_aload_n rfl k_R_insert_17
theorem k_R_insert_18 : decode (sk_by 118) 18 = .ok (.getfield 28, 3) := by decide +kernel
theorem x_R_insert_18 {ls st : List Value} {a : Nat} {I : MI} {J : MJ} {R : MR} {S : Sh} {Q : SkQ} (ha : S.1 a = 4) : Wp 118 18 ls (.ref a :: st) I J R S Q = Wp 118 21 ls (.int (I a 3) :: st) I J R S Q := o_getfieldI (show sk_lkF (sk_cl 118) 28 = some (4, 3, 0, 0, 0) by decide +kernel) k_R_insert_18 ha
theorem k_R_insert_21 : decode (sk_by 118) 21 = .ok (.if_icmp .le 4, 3) := by decide +kernel
theorem x_R_insert_21 {ls st : List Value} {x y : Int32} {I : MI} {J : MJ} {R : MR} {S : Sh} {Q : SkQ} : Wp 118 21 ls (.int y :: .int x :: st) I J R S Q = if y < x then Wp 118 24 ls st I J R S Q else Wp 118 25 ls st I J R S Q := o_ic_le rfl rfl k_R_insert_21
theorem k_R_insert_24 : decode (sk_by 118) 24 = .ok (.return_, 1) := by decide +kernel
theorem x_R_insert_24 {ls : List Value} {I : MI} {J : MJ} {R : MR} {S : Sh} {Q : SkQ} : Wp 118 24 ls [] I J R S Q = Q 0 none I J R S := o_return (by (decide +kernel)) k_R_insert_24
theorem k_R_insert_25 : decode (sk_by 118) 25 = .ok (.aload_n 0, 1) := by decide +kernel
theorem x_R_insert_25 {st : List Value} {l1 : Int32} {l2 : Int64} {l4 : Int64} {l6 : Int32} {x : Nat} {I : MI} {J : MJ} {R : MR} {S : Sh} {Q : SkQ} : Wp 118 25 [.ref x, .int l1, .long l2, nov, .long l4, nov, .int l6, nov] st I J R S Q = Wp 118 26 [.ref x, .int l1, .long l2, nov, .long l4, nov, .int l6, nov] (.ref x :: st) I J R S Q := o_aload_n rfl k_R_insert_25
theorem k_R_insert_26 : decode (sk_by 118) 26 = .ok (.getfield 28, 3) := by decide +kernel
theorem x_R_insert_26 {ls st : List Value} {a : Nat} {I : MI} {J : MJ} {R : MR} {S : Sh} {Q : SkQ} (ha : S.1 a = 4) : Wp 118 26 ls (.ref a :: st) I J R S Q = Wp 118 29 ls (.int (I a 3) :: st) I J R S Q := o_getfieldI (show sk_lkF (sk_cl 118) 28 = some (4, 3, 0, 0, 0) by decide +kernel) k_R_insert_26 ha
theorem k_R_insert_29 : decode (sk_by 118) 29 = .ok (.istore 7, 2) := by decide +kernel
theorem x_R_insert_29 {st : List Value} {l0 : Nat} {l1 : Int32} {l2 : Int64} {l4 : Int64} {l6 : Int32} {x : Int32} {I : MI} {J : MJ} {R : MR} {S : Sh} {Q : SkQ} : Wp 118 29 [.ref l0, .int l1, .long l2, nov, .long l4, nov, .int l6, nov] (.int x :: st) I J R S Q = Wp 118 31 [.ref l0, .int l1, .long l2, nov, .long l4, nov, .int l6, .int x] st I J R S Q := o_istore (Nat.le_of_ble_eq_true rfl) rfl k_R_insert_29
theorem k_R_insert_31 : decode (sk_by 118) 31 = .ok (.iload 7, 2) := by decide +kernel
theorem x_R_insert_31 {st : List Value} {l0 : Nat} {l1 : Int32} {l2 : Int64} {l4 : Int64} {l6 : Int32} {x : Int32} {I : MI} {J : MJ} {R : MR} {S : Sh} {Q : SkQ} : Wp 118 31 [.ref l0, .int l1, .long l2, nov, .long l4, nov, .int l6, .int x] st I J R S Q = Wp 118 33 [.ref l0, .int l1, .long l2, nov, .long l4, nov, .int l6, .int x] (.int x :: st) I J R S Q := o_iload rfl k_R_insert_31
theorem k_R_insert_33 : decode (sk_by 118) 33 = .ok (.iload_n 1, 1) := by decide +kernel
theorem x_R_insert_33 {st : List Value} {l0 : Nat} {l2 : Int64} {l4 : Int64} {l6 : Int32} {l7 : Int32} {x : Int32} {I : MI} {J : MJ} {R : MR} {S : Sh} {Q : SkQ} : Wp 118 33 [.ref l0, .int x, .long l2, nov, .long l4, nov, .int l6, .int l7] st I J R S Q = Wp 118 34 [.ref l0, .int x, .long l2, nov, .long l4, nov, .int l6, .int l7] (.int x :: st) I J R S Q := o_iload_n rfl k_R_insert_33
theorem k_R_insert_34 : decode (sk_by 118) 34 = .ok (.if_icmp .le 57, 3) := by decide +kernel
theorem x_R_insert_34 {ls st : List Value} {x y : Int32} {I : MI} {J : MJ} {R : MR} {S : Sh} {Q : SkQ} : Wp 118 34 ls (.int y :: .int x :: st) I J R S Q = if y < x then Wp 118 37 ls st I J R S Q else Wp 118 91 ls st I J R S Q := o_ic_le rfl rfl k_R_insert_34
theorem k_R_insert_37 : decode (sk_by 118) 37 = .ok (.aload_n 0, 1) := by decide +kernel
theorem x_R_insert_37 {st : List Value} {l1 : Int32} {l2 : Int64} {l4 : Int64} {l6 : Int32} {l7 : Int32} {x : Nat} {I : MI} {J : MJ} {R : MR} {S : Sh} {Q : SkQ} : Wp 118 37 [.ref x, .int l1, .long l2, nov, .long l4, nov, .int l6, .int l7] st I J R S Q = Wp 118 38 [.ref x, .int l1, .long l2, nov, .long l4, nov, .int l6, .int l7] (.ref x :: st) I J R S Q := o_aload_n rfl k_R_insert_37
theorem k_R_insert_38 : decode (sk_by 118) 38 = .ok (.getfield 15, 3) := by decide +kernel
theorem x_R_insert_38 {ls st : List Value} {a : Nat} {I : MI} {J : MJ} {R : MR} {S : Sh} {Q : SkQ} (ha : S.1 a = 4) : Wp 118 38 ls (.ref a :: st) I J R S Q = Wp 118 41 ls (R a 0 :: st) I J R S Q := o_getfieldR (show sk_lkF (sk_cl 118) 15 = some (4, 0, 2, 1, 0) by decide +kernel) k_R_insert_38 ha
theorem k_R_insert_41 : decode (sk_by 118) 41 = .ok (.iload 7, 2) := by decide +kernel
theorem x_R_insert_41 {st : List Value} {l0 : Nat} {l1 : Int32} {l2 : Int64} {l4 : Int64} {l6 : Int32} {x : Int32} {I : MI} {J : MJ} {R : MR} {S : Sh} {Q : SkQ} : Wp 118 41 [.ref l0, .int l1, .long l2, nov, .long l4, nov, .int l6, .int x] st I J R S Q = Wp 118 43 [.ref l0, .int l1, .long l2, nov, .long l4, nov, .int l6, .int x] (.int x :: st) I J R S Q := o_iload rfl k_R_insert_41
theorem k_R_insert_43 : decode (sk_by 118) 43 = .ok (.aload_n 0, 1) := by decide +kernel
theorem x_R_insert_43 {st : List Value} {l1 : Int32} {l2 : Int64} {l4 : Int64} {l6 : Int32} {l7 : Int32} {x : Nat} {I : MI} {J : MJ} {R : MR} {S : Sh} {Q : SkQ} : Wp 118 43 [.ref x, .int l1, .long l2, nov, .long l4, nov, .int l6, .int l7] st I J R S Q = Wp 118 44 [.ref x, .int l1, .long l2, nov, .long l4, nov, .int l6, .int l7] (.ref x :: st) I J R S Q := o_aload_n rfl k_R_insert_43
theorem k_R_insert_44 : decode (sk_by 118) 44 = .ok (.getfield 15, 3) := by decide +kernel
theorem x_R_insert_44 {ls st : List Value} {a : Nat} {I : MI} {J : MJ} {R : MR} {S : Sh} {Q : SkQ} (ha : S.1 a = 4) : Wp 118 44 ls (.ref a :: st) I J R S Q = Wp 118 47 ls (R a 0 :: st) I J R S Q := o_getfieldR (show sk_lkF (sk_cl 118) 15 = some (4, 0, 2, 1, 0) by decide +kernel) k_R_insert_44 ha
theorem k_R_insert_47 : decode (sk_by 118) 47 = .ok (.iload 7, 2) := by decide +kernel
theorem x_R_insert_47 {st : List Value} {l0 : Nat} {l1 : Int32} {l2 : Int64} {l4 : Int64} {l6 : Int32} {x : Int32} {I : MI} {J : MJ} {R : MR} {S : Sh} {Q : SkQ} : Wp 118 47 [.ref l0, .int l1, .long l2, nov, .long l4, nov, .int l6, .int x] st I J R S Q = Wp 118 49 [.ref l0, .int l1, .long l2, nov, .long l4, nov, .int l6, .int x] (.int x :: st) I J R S Q := o_iload rfl k_R_insert_47
theorem k_R_insert_49 : decode (sk_by 118) 49 = .ok (.iconst 1, 1) := by decide +kernel
theorem x_R_insert_49 {ls st : List Value} {I : MI} {J : MJ} {R : MR} {S : Sh} {Q : SkQ} : Wp 118 49 ls st I J R S Q = Wp 118 50 ls (.int 1 :: st) I J R S Q := o_const (by decide) k_R_insert_49
theorem k_R_insert_50 : decode (sk_by 118) 50 = .ok (.isub, 1) := by decide +kernel
theorem x_R_insert_50 {ls st : List Value} {x y : Int32} {I : MI} {J : MJ} {R : MR} {S : Sh} {Q : SkQ} : Wp 118 50 ls (.int y :: .int x :: st) I J R S Q = Wp 118 51 ls (.int (x - y) :: st) I J R S Q := o_isub k_R_insert_50
theorem k_R_insert_51 : decode (sk_by 118) 51 = .ok (.laload, 1) := by decide +kernel
theorem x_R_insert_51 {ls st : List Value} {a : Nat} {i : Int32} {I : MI} {J : MJ} {R : MR} {S : Sh} {Q : SkQ} (ha : S.1 a = 31) (hi : inb i (S.2.1 a) = true) : Wp 118 51 ls (.int i :: .ref a :: st) I J R S Q = Wp 118 52 ls (.long (J a (ix i)) :: st) I J R S Q := o_laload k_R_insert_51 ha hi
theorem k_R_insert_52 : decode (sk_by 118) 52 = .ok (.lastore, 1) := by decide +kernel
theorem x_R_insert_52 {ls st : List Value} {a : Nat} {i : Int32} {x : Int64} {I : MI} {J : MJ} {R : MR} {S : Sh} {Q : SkQ} (ha : S.1 a = 31) (hi : inb i (S.2.1 a) = true) : Wp 118 52 ls (.long x :: .int i :: .ref a :: st) I J R S Q = Wp 118 53 ls st I (u2 J a (ix i) x) R S Q := o_lastore k_R_insert_52 ha hi
theorem k_R_insert_53 : decode (sk_by 118) 53 = .ok (.aload_n 0, 1) := by decide +kernel
theorem x_R_insert_53 {st : List Value} {l1 : Int32} {l2 : Int64} {l4 : Int64} {l6 : Int32} {l7 : Int32} {x : Nat} {I : MI} {J : MJ} {R : MR} {S : Sh} {Q : SkQ} : Wp 118 53 [.ref x, .int l1, .long l2, nov, .long l4, nov, .int l6, .int l7] st I J R S Q = Wp 118 54 [.ref x, .int l1, .long l2, nov, .long l4, nov, .int l6, .int l7] (.ref x :: st) I J R S Q := o_aload_n rfl k_R_insert_53
theorem k_R_insert_54 : decode (sk_by 118) 54 = .ok (.getfield 21, 3) := by decide +kernel
theorem x_R_insert_54 {ls st : List Value} {a : Nat} {I : MI} {J : MJ} {R : MR} {S : Sh} {Q : SkQ} (ha : S.1 a = 4) : Wp 118 54 ls (.ref a :: st) I J R S Q = Wp 118 57 ls (R a 1 :: st) I J R S Q := o_getfieldR (show sk_lkF (sk_cl 118) 21 = some (4, 1, 2, 1, 0) by decide +kernel) k_R_insert_54 ha
theorem k_R_insert_57 : decode (sk_by 118) 57 = .ok (.iload 7, 2) := by decide +kernel
theorem x_R_insert_57 {st : List Value} {l0 : Nat} {l1 : Int32} {l2 : Int64} {l4 : Int64} {l6 : Int32} {x : Int32} {I : MI} {J : MJ} {R : MR} {S : Sh} {Q : SkQ} : Wp 118 57 [.ref l0, .int l1, .long l2, nov, .long l4, nov, .int l6, .int x] st I J R S Q = Wp 118 59 [.ref l0, .int l1, .long l2, nov, .long l4, nov, .int l6, .int x] (.int x :: st) I J R S Q := o_iload rfl k_R_insert_57
theorem k_R_insert_59 : decode (sk_by 118) 59 = .ok (.aload_n 0, 1) := by decide +kernel
theorem x_R_insert_59 {st : List Value} {l1 : Int32} {l2 : Int64} {l4 : Int64} {l6 : Int32} {l7 : Int32} {x : Nat} {I : MI} {J : MJ} {R : MR} {S : Sh} {Q : SkQ} : Wp 118 59 [.ref x, .int l1, .long l2, nov, .long l4, nov, .int l6, .int l7] st I J R S Q = Wp 118 60 [.ref x, .int l1, .long l2, nov, .long l4, nov, .int l6, .int l7] (.ref x :: st) I J R S Q := o_aload_n rfl k_R_insert_59
theorem k_R_insert_60 : decode (sk_by 118) 60 = .ok (.getfield 21, 3) := by decide +kernel
theorem x_R_insert_60 {ls st : List Value} {a : Nat} {I : MI} {J : MJ} {R : MR} {S : Sh} {Q : SkQ} (ha : S.1 a = 4) : Wp 118 60 ls (.ref a :: st) I J R S Q = Wp 118 63 ls (R a 1 :: st) I J R S Q := o_getfieldR (show sk_lkF (sk_cl 118) 21 = some (4, 1, 2, 1, 0) by decide +kernel) k_R_insert_60 ha
theorem k_R_insert_63 : decode (sk_by 118) 63 = .ok (.iload 7, 2) := by decide +kernel
theorem x_R_insert_63 {st : List Value} {l0 : Nat} {l1 : Int32} {l2 : Int64} {l4 : Int64} {l6 : Int32} {x : Int32} {I : MI} {J : MJ} {R : MR} {S : Sh} {Q : SkQ} : Wp 118 63 [.ref l0, .int l1, .long l2, nov, .long l4, nov, .int l6, .int x] st I J R S Q = Wp 118 65 [.ref l0, .int l1, .long l2, nov, .long l4, nov, .int l6, .int x] (.int x :: st) I J R S Q := o_iload rfl k_R_insert_63
theorem k_R_insert_65 : decode (sk_by 118) 65 = .ok (.iconst 1, 1) := by decide +kernel
theorem x_R_insert_65 {ls st : List Value} {I : MI} {J : MJ} {R : MR} {S : Sh} {Q : SkQ} : Wp 118 65 ls st I J R S Q = Wp 118 66 ls (.int 1 :: st) I J R S Q := o_const (by decide) k_R_insert_65
theorem k_R_insert_66 : decode (sk_by 118) 66 = .ok (.isub, 1) := by decide +kernel
theorem x_R_insert_66 {ls st : List Value} {x y : Int32} {I : MI} {J : MJ} {R : MR} {S : Sh} {Q : SkQ} : Wp 118 66 ls (.int y :: .int x :: st) I J R S Q = Wp 118 67 ls (.int (x - y) :: st) I J R S Q := o_isub k_R_insert_66
theorem k_R_insert_67 : decode (sk_by 118) 67 = .ok (.laload, 1) := by decide +kernel
theorem x_R_insert_67 {ls st : List Value} {a : Nat} {i : Int32} {I : MI} {J : MJ} {R : MR} {S : Sh} {Q : SkQ} (ha : S.1 a = 31) (hi : inb i (S.2.1 a) = true) : Wp 118 67 ls (.int i :: .ref a :: st) I J R S Q = Wp 118 68 ls (.long (J a (ix i)) :: st) I J R S Q := o_laload k_R_insert_67 ha hi
theorem k_R_insert_68 : decode (sk_by 118) 68 = .ok (.lastore, 1) := by decide +kernel
theorem x_R_insert_68 {ls st : List Value} {a : Nat} {i : Int32} {x : Int64} {I : MI} {J : MJ} {R : MR} {S : Sh} {Q : SkQ} (ha : S.1 a = 31) (hi : inb i (S.2.1 a) = true) : Wp 118 68 ls (.long x :: .int i :: .ref a :: st) I J R S Q = Wp 118 69 ls st I (u2 J a (ix i) x) R S Q := o_lastore k_R_insert_68 ha hi
theorem k_R_insert_69 : decode (sk_by 118) 69 = .ok (.aload_n 0, 1) := by decide +kernel
theorem x_R_insert_69 {st : List Value} {l1 : Int32} {l2 : Int64} {l4 : Int64} {l6 : Int32} {l7 : Int32} {x : Nat} {I : MI} {J : MJ} {R : MR} {S : Sh} {Q : SkQ} : Wp 118 69 [.ref x, .int l1, .long l2, nov, .long l4, nov, .int l6, .int l7] st I J R S Q = Wp 118 70 [.ref x, .int l1, .long l2, nov, .long l4, nov, .int l6, .int l7] (.ref x :: st) I J R S Q := o_aload_n rfl k_R_insert_69
theorem k_R_insert_70 : decode (sk_by 118) 70 = .ok (.getfield 24, 3) := by decide +kernel
theorem x_R_insert_70 {ls st : List Value} {a : Nat} {I : MI} {J : MJ} {R : MR} {S : Sh} {Q : SkQ} (ha : S.1 a = 4) : Wp 118 70 ls (.ref a :: st) I J R S Q = Wp 118 73 ls (R a 2 :: st) I J R S Q := o_getfieldR (show sk_lkF (sk_cl 118) 24 = some (4, 2, 2, 1, 0) by decide +kernel) k_R_insert_70 ha
theorem k_R_insert_73 : decode (sk_by 118) 73 = .ok (.iload 7, 2) := by decide +kernel
theorem x_R_insert_73 {st : List Value} {l0 : Nat} {l1 : Int32} {l2 : Int64} {l4 : Int64} {l6 : Int32} {x : Int32} {I : MI} {J : MJ} {R : MR} {S : Sh} {Q : SkQ} : Wp 118 73 [.ref l0, .int l1, .long l2, nov, .long l4, nov, .int l6, .int x] st I J R S Q = Wp 118 75 [.ref l0, .int l1, .long l2, nov, .long l4, nov, .int l6, .int x] (.int x :: st) I J R S Q := o_iload rfl k_R_insert_73
theorem k_R_insert_75 : decode (sk_by 118) 75 = .ok (.aload_n 0, 1) := by decide +kernel
theorem x_R_insert_75 {st : List Value} {l1 : Int32} {l2 : Int64} {l4 : Int64} {l6 : Int32} {l7 : Int32} {x : Nat} {I : MI} {J : MJ} {R : MR} {S : Sh} {Q : SkQ} : Wp 118 75 [.ref x, .int l1, .long l2, nov, .long l4, nov, .int l6, .int l7] st I J R S Q = Wp 118 76 [.ref x, .int l1, .long l2, nov, .long l4, nov, .int l6, .int l7] (.ref x :: st) I J R S Q := o_aload_n rfl k_R_insert_75
theorem k_R_insert_76 : decode (sk_by 118) 76 = .ok (.getfield 24, 3) := by decide +kernel
theorem x_R_insert_76 {ls st : List Value} {a : Nat} {I : MI} {J : MJ} {R : MR} {S : Sh} {Q : SkQ} (ha : S.1 a = 4) : Wp 118 76 ls (.ref a :: st) I J R S Q = Wp 118 79 ls (R a 2 :: st) I J R S Q := o_getfieldR (show sk_lkF (sk_cl 118) 24 = some (4, 2, 2, 1, 0) by decide +kernel) k_R_insert_76 ha
theorem k_R_insert_79 : decode (sk_by 118) 79 = .ok (.iload 7, 2) := by decide +kernel
theorem x_R_insert_79 {st : List Value} {l0 : Nat} {l1 : Int32} {l2 : Int64} {l4 : Int64} {l6 : Int32} {x : Int32} {I : MI} {J : MJ} {R : MR} {S : Sh} {Q : SkQ} : Wp 118 79 [.ref l0, .int l1, .long l2, nov, .long l4, nov, .int l6, .int x] st I J R S Q = Wp 118 81 [.ref l0, .int l1, .long l2, nov, .long l4, nov, .int l6, .int x] (.int x :: st) I J R S Q := o_iload rfl k_R_insert_79
theorem k_R_insert_81 : decode (sk_by 118) 81 = .ok (.iconst 1, 1) := by decide +kernel
theorem x_R_insert_81 {ls st : List Value} {I : MI} {J : MJ} {R : MR} {S : Sh} {Q : SkQ} : Wp 118 81 ls st I J R S Q = Wp 118 82 ls (.int 1 :: st) I J R S Q := o_const (by decide) k_R_insert_81
theorem k_R_insert_82 : decode (sk_by 118) 82 = .ok (.isub, 1) := by decide +kernel
theorem x_R_insert_82 {ls st : List Value} {x y : Int32} {I : MI} {J : MJ} {R : MR} {S : Sh} {Q : SkQ} : Wp 118 82 ls (.int y :: .int x :: st) I J R S Q = Wp 118 83 ls (.int (x - y) :: st) I J R S Q := o_isub k_R_insert_82
theorem k_R_insert_83 : decode (sk_by 118) 83 = .ok (.iaload, 1) := by decide +kernel
theorem x_R_insert_83 {ls st : List Value} {a : Nat} {i : Int32} {I : MI} {J : MJ} {R : MR} {S : Sh} {Q : SkQ} (ha : S.1 a = 30) (hi : inb i (S.2.1 a) = true) : Wp 118 83 ls (.int i :: .ref a :: st) I J R S Q = Wp 118 84 ls (.int (I a (ix i)) :: st) I J R S Q := o_iaload k_R_insert_83 ha hi
theorem k_R_insert_84 : decode (sk_by 118) 84 = .ok (.iastore, 1) := by decide +kernel
theorem x_R_insert_84 {ls st : List Value} {a : Nat} {i x : Int32} {I : MI} {J : MJ} {R : MR} {S : Sh} {Q : SkQ} (ha : S.1 a = 30) (hi : inb i (S.2.1 a) = true) : Wp 118 84 ls (.int x :: .int i :: .ref a :: st) I J R S Q = Wp 118 85 ls st (u2 I a (ix i) x) J R S Q := o_iastore k_R_insert_84 ha hi
theorem k_R_insert_85 : decode (sk_by 118) 85 = .ok (.iinc 7 (-1), 3) := by decide +kernel
theorem x_R_insert_85 {st : List Value} {l0 : Nat} {l1 : Int32} {l2 : Int64} {l4 : Int64} {l6 : Int32} {x : Int32} {I : MI} {J : MJ} {R : MR} {S : Sh} {Q : SkQ} : Wp 118 85 [.ref l0, .int l1, .long l2, nov, .long l4, nov, .int l6, .int x] st I J R S Q = Wp 118 88 [.ref l0, .int l1, .long l2, nov, .long l4, nov, .int l6, .int (x + (-1))] st I J R S Q := o_inc (by decide) rfl (Nat.le_of_ble_eq_true rfl) rfl k_R_insert_85
theorem k_R_insert_88 : decode (sk_by 118) 88 = .ok (.goto (-57), 3) := by decide +kernel
theorem x_R_insert_88 {ls st : List Value} {I : MI} {J : MJ} {R : MR} {S : Sh} {Q : SkQ} : Wp 118 88 ls st I J R S Q = Wp 118 31 ls st I J R S Q := o_goto rfl rfl k_R_insert_88
theorem k_R_insert_91 : decode (sk_by 118) 91 = .ok (.aload_n 0, 1) := by decide +kernel
theorem x_R_insert_91 {st : List Value} {l1 : Int32} {l2 : Int64} {l4 : Int64} {l6 : Int32} {l7 : Int32} {x : Nat} {I : MI} {J : MJ} {R : MR} {S : Sh} {Q : SkQ} : Wp 118 91 [.ref x, .int l1, .long l2, nov, .long l4, nov, .int l6, .int l7] st I J R S Q = Wp 118 92 [.ref x, .int l1, .long l2, nov, .long l4, nov, .int l6, .int l7] (.ref x :: st) I J R S Q := o_aload_n rfl k_R_insert_91
theorem k_R_insert_92 : decode (sk_by 118) 92 = .ok (.getfield 15, 3) := by decide +kernel
theorem x_R_insert_92 {ls st : List Value} {a : Nat} {I : MI} {J : MJ} {R : MR} {S : Sh} {Q : SkQ} (ha : S.1 a = 4) : Wp 118 92 ls (.ref a :: st) I J R S Q = Wp 118 95 ls (R a 0 :: st) I J R S Q := o_getfieldR (show sk_lkF (sk_cl 118) 15 = some (4, 0, 2, 1, 0) by decide +kernel) k_R_insert_92 ha
theorem k_R_insert_95 : decode (sk_by 118) 95 = .ok (.iload_n 1, 1) := by decide +kernel
theorem x_R_insert_95 {st : List Value} {l0 : Nat} {l2 : Int64} {l4 : Int64} {l6 : Int32} {l7 : Int32} {x : Int32} {I : MI} {J : MJ} {R : MR} {S : Sh} {Q : SkQ} : Wp 118 95 [.ref l0, .int x, .long l2, nov, .long l4, nov, .int l6, .int l7] st I J R S Q = Wp 118 96 [.ref l0, .int x, .long l2, nov, .long l4, nov, .int l6, .int l7] (.int x :: st) I J R S Q := o_iload_n rfl k_R_insert_95
theorem k_R_insert_96 : decode (sk_by 118) 96 = .ok (.lload_n 2, 1) := by decide +kernel
theorem x_R_insert_96 {st : List Value} {l0 : Nat} {l1 : Int32} {l4 : Int64} {l6 : Int32} {l7 : Int32} {x : Int64} {I : MI} {J : MJ} {R : MR} {S : Sh} {Q : SkQ} : Wp 118 96 [.ref l0, .int l1, .long x, nov, .long l4, nov, .int l6, .int l7] st I J R S Q = Wp 118 97 [.ref l0, .int l1, .long x, nov, .long l4, nov, .int l6, .int l7] (.long x :: st) I J R S Q := o_lload_n rfl k_R_insert_96
theorem k_R_insert_97 : decode (sk_by 118) 97 = .ok (.lastore, 1) := by decide +kernel
theorem x_R_insert_97 {ls st : List Value} {a : Nat} {i : Int32} {x : Int64} {I : MI} {J : MJ} {R : MR} {S : Sh} {Q : SkQ} (ha : S.1 a = 31) (hi : inb i (S.2.1 a) = true) : Wp 118 97 ls (.long x :: .int i :: .ref a :: st) I J R S Q = Wp 118 98 ls st I (u2 J a (ix i) x) R S Q := o_lastore k_R_insert_97 ha hi
theorem k_R_insert_98 : decode (sk_by 118) 98 = .ok (.aload_n 0, 1) := by decide +kernel
theorem x_R_insert_98 {st : List Value} {l1 : Int32} {l2 : Int64} {l4 : Int64} {l6 : Int32} {l7 : Int32} {x : Nat} {I : MI} {J : MJ} {R : MR} {S : Sh} {Q : SkQ} : Wp 118 98 [.ref x, .int l1, .long l2, nov, .long l4, nov, .int l6, .int l7] st I J R S Q = Wp 118 99 [.ref x, .int l1, .long l2, nov, .long l4, nov, .int l6, .int l7] (.ref x :: st) I J R S Q := o_aload_n rfl k_R_insert_98
theorem k_R_insert_99 : decode (sk_by 118) 99 = .ok (.getfield 21, 3) := by decide +kernel
theorem x_R_insert_99 {ls st : List Value} {a : Nat} {I : MI} {J : MJ} {R : MR} {S : Sh} {Q : SkQ} (ha : S.1 a = 4) : Wp 118 99 ls (.ref a :: st) I J R S Q = Wp 118 102 ls (R a 1 :: st) I J R S Q := o_getfieldR (show sk_lkF (sk_cl 118) 21 = some (4, 1, 2, 1, 0) by decide +kernel) k_R_insert_99 ha
theorem k_R_insert_102 : decode (sk_by 118) 102 = .ok (.iload_n 1, 1) := by decide +kernel
theorem x_R_insert_102 {st : List Value} {l0 : Nat} {l2 : Int64} {l4 : Int64} {l6 : Int32} {l7 : Int32} {x : Int32} {I : MI} {J : MJ} {R : MR} {S : Sh} {Q : SkQ} : Wp 118 102 [.ref l0, .int x, .long l2, nov, .long l4, nov, .int l6, .int l7] st I J R S Q = Wp 118 103 [.ref l0, .int x, .long l2, nov, .long l4, nov, .int l6, .int l7] (.int x :: st) I J R S Q := o_iload_n rfl k_R_insert_102
theorem k_R_insert_103 : decode (sk_by 118) 103 = .ok (.lload 4, 2) := by decide +kernel
theorem x_R_insert_103 {st : List Value} {l0 : Nat} {l1 : Int32} {l2 : Int64} {l6 : Int32} {l7 : Int32} {x : Int64} {I : MI} {J : MJ} {R : MR} {S : Sh} {Q : SkQ} : Wp 118 103 [.ref l0, .int l1, .long l2, nov, .long x, nov, .int l6, .int l7] st I J R S Q = Wp 118 105 [.ref l0, .int l1, .long l2, nov, .long x, nov, .int l6, .int l7] (.long x :: st) I J R S Q := o_lload rfl k_R_insert_103
theorem k_R_insert_105 : decode (sk_by 118) 105 = .ok (.lastore, 1) := by decide +kernel
theorem x_R_insert_105 {ls st : List Value} {a : Nat} {i : Int32} {x : Int64} {I : MI} {J : MJ} {R : MR} {S : Sh} {Q : SkQ} (ha : S.1 a = 31) (hi : inb i (S.2.1 a) = true) : Wp 118 105 ls (.long x :: .int i :: .ref a :: st) I J R S Q = Wp 118 106 ls st I (u2 J a (ix i) x) R S Q := o_lastore k_R_insert_105 ha hi
theorem k_R_insert_106 : decode (sk_by 118) 106 = .ok (.aload_n 0, 1) := by decide +kernel
theorem x_R_insert_106 {st : List Value} {l1 : Int32} {l2 : Int64} {l4 : Int64} {l6 : Int32} {l7 : Int32} {x : Nat} {I : MI} {J : MJ} {R : MR} {S : Sh} {Q : SkQ} : Wp 118 106 [.ref x, .int l1, .long l2, nov, .long l4, nov, .int l6, .int l7] st I J R S Q = Wp 118 107 [.ref x, .int l1, .long l2, nov, .long l4, nov, .int l6, .int l7] (.ref x :: st) I J R S Q := o_aload_n rfl k_R_insert_106
theorem k_R_insert_107 : decode (sk_by 118) 107 = .ok (.getfield 24, 3) := by decide +kernel
theorem x_R_insert_107 {ls st : List Value} {a : Nat} {I : MI} {J : MJ} {R : MR} {S : Sh} {Q : SkQ} (ha : S.1 a = 4) : Wp 118 107 ls (.ref a :: st) I J R S Q = Wp 118 110 ls (R a 2 :: st) I J R S Q := o_getfieldR (show sk_lkF (sk_cl 118) 24 = some (4, 2, 2, 1, 0) by decide +kernel) k_R_insert_107 ha
theorem k_R_insert_110 : decode (sk_by 118) 110 = .ok (.iload_n 1, 1) := by decide +kernel
theorem x_R_insert_110 {st : List Value} {l0 : Nat} {l2 : Int64} {l4 : Int64} {l6 : Int32} {l7 : Int32} {x : Int32} {I : MI} {J : MJ} {R : MR} {S : Sh} {Q : SkQ} : Wp 118 110 [.ref l0, .int x, .long l2, nov, .long l4, nov, .int l6, .int l7] st I J R S Q = Wp 118 111 [.ref l0, .int x, .long l2, nov, .long l4, nov, .int l6, .int l7] (.int x :: st) I J R S Q := o_iload_n rfl k_R_insert_110
theorem k_R_insert_111 : decode (sk_by 118) 111 = .ok (.iload 6, 2) := by decide +kernel
theorem x_R_insert_111 {st : List Value} {l0 : Nat} {l1 : Int32} {l2 : Int64} {l4 : Int64} {l7 : Int32} {x : Int32} {I : MI} {J : MJ} {R : MR} {S : Sh} {Q : SkQ} : Wp 118 111 [.ref l0, .int l1, .long l2, nov, .long l4, nov, .int x, .int l7] st I J R S Q = Wp 118 113 [.ref l0, .int l1, .long l2, nov, .long l4, nov, .int x, .int l7] (.int x :: st) I J R S Q := o_iload rfl k_R_insert_111
theorem k_R_insert_113 : decode (sk_by 118) 113 = .ok (.iastore, 1) := by decide +kernel
theorem x_R_insert_113 {ls st : List Value} {a : Nat} {i x : Int32} {I : MI} {J : MJ} {R : MR} {S : Sh} {Q : SkQ} (ha : S.1 a = 30) (hi : inb i (S.2.1 a) = true) : Wp 118 113 ls (.int x :: .int i :: .ref a :: st) I J R S Q = Wp 118 114 ls st (u2 I a (ix i) x) J R S Q := o_iastore k_R_insert_113 ha hi
theorem k_R_insert_114 : decode (sk_by 118) 114 = .ok (.aload_n 0, 1) := by decide +kernel
theorem x_R_insert_114 {st : List Value} {l1 : Int32} {l2 : Int64} {l4 : Int64} {l6 : Int32} {l7 : Int32} {x : Nat} {I : MI} {J : MJ} {R : MR} {S : Sh} {Q : SkQ} : Wp 118 114 [.ref x, .int l1, .long l2, nov, .long l4, nov, .int l6, .int l7] st I J R S Q = Wp 118 115 [.ref x, .int l1, .long l2, nov, .long l4, nov, .int l6, .int l7] (.ref x :: st) I J R S Q := o_aload_n rfl k_R_insert_114
theorem k_R_insert_115 : decode (sk_by 118) 115 = .ok (.dup, 1) := by decide +kernel
theorem x_R_insert_115 {ls st : List Value} {x : Nat} {I : MI} {J : MJ} {R : MR} {S : Sh} {Q : SkQ} : Wp 118 115 ls (.ref x :: st) I J R S Q = Wp 118 116 ls (.ref x :: .ref x :: st) I J R S Q := o_dupR k_R_insert_115
theorem k_R_insert_116 : decode (sk_by 118) 116 = .ok (.getfield 28, 3) := by decide +kernel
theorem x_R_insert_116 {ls st : List Value} {a : Nat} {I : MI} {J : MJ} {R : MR} {S : Sh} {Q : SkQ} (ha : S.1 a = 4) : Wp 118 116 ls (.ref a :: st) I J R S Q = Wp 118 119 ls (.int (I a 3) :: st) I J R S Q := o_getfieldI (show sk_lkF (sk_cl 118) 28 = some (4, 3, 0, 0, 0) by decide +kernel) k_R_insert_116 ha
theorem k_R_insert_119 : decode (sk_by 118) 119 = .ok (.iconst 1, 1) := by decide +kernel
theorem x_R_insert_119 {ls st : List Value} {I : MI} {J : MJ} {R : MR} {S : Sh} {Q : SkQ} : Wp 118 119 ls st I J R S Q = Wp 118 120 ls (.int 1 :: st) I J R S Q := o_const (by decide) k_R_insert_119
theorem k_R_insert_120 : decode (sk_by 118) 120 = .ok (.iadd, 1) := by decide +kernel
theorem x_R_insert_120 {ls st : List Value} {x y : Int32} {I : MI} {J : MJ} {R : MR} {S : Sh} {Q : SkQ} : Wp 118 120 ls (.int y :: .int x :: st) I J R S Q = Wp 118 121 ls (.int (x + y) :: st) I J R S Q := o_iadd k_R_insert_120
theorem k_R_insert_121 : decode (sk_by 118) 121 = .ok (.putfield 28, 3) := by decide +kernel
theorem x_R_insert_121 {ls st : List Value} {a : Nat} {x : Int32} {I : MI} {J : MJ} {R : MR} {S : Sh} {Q : SkQ} (ha : S.1 a = 4) : Wp 118 121 ls (.int x :: .ref a :: st) I J R S Q = Wp 118 124 ls st (u2 I a 3 x) J R S Q := o_putfieldI (show sk_lkF (sk_cl 118) 28 = some (4, 3, 0, 0, 0) by decide +kernel) (by decide) (by (decide +kernel)) k_R_insert_121 ha
theorem k_R_insert_124 : decode (sk_by 118) 124 = .ok (.return_, 1) := by decide +kernel
theorem x_R_insert_124 {ls : List Value} {I : MI} {J : MJ} {R : MR} {S : Sh} {Q : SkQ} : Wp 118 124 ls [] I J R S Q = Q 0 none I J R S := o_return (by (decide +kernel)) k_R_insert_124
theorem k_R_remove_0 : decode (sk_by 119) 0 = .ok (.aload_n 0, 1) := by decide +kernel
theorem x_R_remove_0 {st : List Value} {l1 : Int32} {x : Nat} {I : MI} {J : MJ} {R : MR} {S : Sh} {Q : SkQ} : Wp 119 0 [.ref x, .int l1, nov] st I J R S Q = Wp 119 1 [.ref x, .int l1, nov] (.ref x :: st) I J R S Q := o_aload_n rfl k_R_remove_0
theorem k_R_remove_1 : decode (sk_by 119) 1 = .ok (.iload_n 1, 1) := by decide +kernel
theorem x_R_remove_1 {st : List Value} {l0 : Nat} {x : Int32} {I : MI} {J : MJ} {R : MR} {S : Sh} {Q : SkQ} : Wp 119 1 [.ref l0, .int x, nov] st I J R S Q = Wp 119 2 [.ref l0, .int x, nov] (.int x :: st) I J R S Q := o_iload_n rfl k_R_remove_1
theorem k_R_remove_2 : decode (sk_by 119) 2 = .ok (.invokevirtual 32, 3) := by decide +kernel
theorem x_R_remove_2 {ls : List Value} {a0 : Nat} {a1 : Int32} {I : MI} {J : MJ} {R : MR} {S : Sh} {Q : SkQ} (ha : S.1 a0 = 4) : Wp 119 2 ls (.int a1 :: .ref a0 :: []) I J R S Q = Wp 106 0 [.ref a0, .int a1] [] I J R S (Ret 119 2 5 106 ls [] Q) := o_call (as := [.ref a0, .int a1]) (rest := []) (show sk_lkM (sk_cl 119) 32 = some 106 by decide +kernel) (by decide) (by decide) (by (decide +kernel)) (ins := .invokevirtual 32) (by (decide +kernel)) k_R_remove_2 rfl (show 2 = sk_na 106 by (decide +kernel)) (Nat.le_of_ble_eq_true rfl) (Nat.le_trans (show (argL [.ref a0, .int a1]).length ≤ 2 from Nat.le_of_ble_eq_true rfl) (by (decide +kernel))) (rcv_of (by (decide +kernel)) (by decide) ha)
theorem k_R_remove_5 : decode (sk_by 119) 5 = .ok (.ifCond .ne 4, 3) := by decide +kernel
theorem x_R_remove_5 {ls st : List Value} {x : Int32} {I : MI} {J : MJ} {R : MR} {S : Sh} {Q : SkQ} : Wp 119 5 ls (.int x :: st) I J R S Q = if x = 0 then Wp 119 8 ls st I J R S Q else Wp 119 9 ls st I J R S Q := o_if_ne rfl rfl k_R_remove_5
theorem k_R_remove_8 : decode (sk_by 119) 8 = .ok (.return_, 1) := by decide +kernel
theorem x_R_remove_8 {ls : List Value} {I : MI} {J : MJ} {R : MR} {S : Sh} {Q : SkQ} : Wp 119 8 ls [] I J R S Q = Q 0 none I J R S := o_return (by (decide +kernel)) k_R_remove_8
theorem k_R_remove_9 : decode (sk_by 119) 9 = .ok (.iload_n 1, 1) := by decide +kernel
theorem x_R_remove_9 {st : List Value} {l0 : Nat} {x : Int32} {I : MI} {J : MJ} {R : MR} {S : Sh} {Q : SkQ} : Wp 119 9 [.ref l0, .int x, nov] st I J R S Q = Wp 119 10 [.ref l0, .int x, nov] (.int x :: st) I J R S Q := o_iload_n rfl k_R_remove_9
theorem k_R_remove_10 : decode (sk_by 119) 10 = .ok (.iconst 1, 1) := by decide +kernel
theorem x_R_remove_10 {ls st : List Value} {I : MI} {J : MJ} {R : MR} {S : Sh} {Q : SkQ} : Wp 119 10 ls st I J R S Q = Wp 119 11 ls (.int 1 :: st) I J R S Q := o_const (by decide) k_R_remove_10
theorem k_R_remove_11 : decode (sk_by 119) 11 = .ok (.iadd, 1) := by decide +kernel
theorem x_R_remove_11 {ls st : List Value} {x y : Int32} {I : MI} {J : MJ} {R : MR} {S : Sh} {Q : SkQ} : Wp 119 11 ls (.int y :: .int x :: st) I J R S Q = Wp 119 12 ls (.int (x + y) :: st) I J R S Q := o_iadd k_R_remove_11
theorem k_R_remove_12 : decode (sk_by 119) 12 = .ok (.istore_n 2, 1) := by decide +kernel
theorem x_R_remove_12 {st : List Value} {l0 : Nat} {l1 : Int32} {x : Int32} {I : MI} {J : MJ} {R : MR} {S : Sh} {Q : SkQ} : Wp 119 12 [.ref l0, .int l1, nov] (.int x :: st) I J R S Q = Wp 119 13 [.ref l0, .int l1, .int x] st I J R S Q := o_istore_n (Nat.le_of_ble_eq_true rfl) rfl k_R_remove_12
theorem k_R_remove_13 : decode (sk_by 119) 13 = .ok (.iload_n 2, 1) := by decide +kernel
theorem x_R_remove_13 {st : List Value} {l0 : Nat} {l1 : Int32} {x : Int32} {I : MI} {J : MJ} {R : MR} {S : Sh} {Q : SkQ} : Wp 119 13 [.ref l0, .int l1, .int x] st I J R S Q = Wp 119 14 [.ref l0, .int l1, .int x] (.int x :: st) I J R S Q := o_iload_n rfl k_R_remove_13
theorem k_R_remove_14 : decode (sk_by 119) 14 = .ok (.aload_n 0, 1) := by decide +kernel
theorem x_R_remove_14 {st : List Value} {l1 : Int32} {l2 : Int32} {x : Nat} {I : MI} {J : MJ} {R : MR} {S : Sh} {Q : SkQ} : Wp 119 14 [.ref x, .int l1, .int l2] st I J R S Q = Wp 119 15 [.ref x, .int l1, .int l2] (.ref x :: st) I J R S Q := o_aload_n rfl k_R_remove_14
theorem k_R_remove_15 : decode (sk_by 119) 15 = .ok (.getfield 28, 3) := by decide +kernel
theorem x_R_remove_15 {ls st : List Value} {a : Nat} {I : MI} {J : MJ} {R : MR} {S : Sh} {Q : SkQ} (ha : S.1 a = 4) : Wp 119 15 ls (.ref a :: st) I J R S Q = Wp 119 18 ls (.int (I a 3) :: st) I J R S Q := o_getfieldI (show sk_lkF (sk_cl 119) 28 = some (4, 3, 0, 0, 0) by decide +kernel) k_R_remove_15 ha
theorem k_R_remove_18 : decode (sk_by 119) 18 = .ok (.if_icmp .ge 51, 3) := by decide +kernel
theorem x_R_remove_18 {ls st : List Value} {x y : Int32} {I : MI} {J : MJ} {R : MR} {S : Sh} {Q : SkQ} : Wp 119 18 ls (.int y :: .int x :: st) I J R S Q = if x < y then Wp 119 21 ls st I J R S Q else Wp 119 69 ls st I J R S Q := o_ic_ge rfl rfl k_R_remove_18
theorem k_R_remove_21 : decode (sk_by 119) 21 = .ok (.aload_n 0, 1) := by decide +kernel
theorem x_R_remove_21 {st : List Value} {l1 : Int32} {l2 : Int32} {x : Nat} {I : MI} {J : MJ} {R : MR} {S : Sh} {Q : SkQ} : Wp 119 21 [.ref x, .int l1, .int l2] st I J R S Q = Wp 119 22 [.ref x, .int l1, .int l2] (.ref x :: st) I J R S Q := o_aload_n rfl k_R_remove_21
theorem k_R_remove_22 : decode (sk_by 119) 22 = .ok (.getfield 15, 3) := by decide +kernel
theorem x_R_remove_22 {ls st : List Value} {a : Nat} {I : MI} {J : MJ} {R : MR} {S : Sh} {Q : SkQ} (ha : S.1 a = 4) : Wp 119 22 ls (.ref a :: st) I J R S Q = Wp 119 25 ls (R a 0 :: st) I J R S Q := o_getfieldR (show sk_lkF (sk_cl 119) 15 = some (4, 0, 2, 1, 0) by decide +kernel) k_R_remove_22 ha
theorem k_R_remove_25 : decode (sk_by 119) 25 = .ok (.iload_n 2, 1) := by decide +kernel
theorem x_R_remove_25 {st : List Value} {l0 : Nat} {l1 : Int32} {x : Int32} {I : MI} {J : MJ} {R : MR} {S : Sh} {Q : SkQ} : Wp 119 25 [.ref l0, .int l1, .int x] st I J R S Q = Wp 119 26 [.ref l0, .int l1, .int x] (.int x :: st) I J R S Q := o_iload_n rfl k_R_remove_25
theorem k_R_remove_26 : decode (sk_by 119) 26 = .ok (.iconst 1, 1) := by decide +kernel
theorem x_R_remove_26 {ls st : List Value} {I : MI} {J : MJ} {R : MR} {S : Sh} {Q : SkQ} : Wp 119 26 ls st I J R S Q = Wp 119 27 ls (.int 1 :: st) I J R S Q := o_const (by decide) k_R_remove_26
theorem k_R_remove_27 : decode (sk_by 119) 27 = .ok (.isub, 1) := by decide +kernel
theorem x_R_remove_27 {ls st : List Value} {x y : Int32} {I : MI} {J : MJ} {R : MR} {S : Sh} {Q : SkQ} : Wp 119 27 ls (.int y :: .int x :: st) I J R S Q = Wp 119 28 ls (.int (x - y) :: st) I J R S Q := o_isub k_R_remove_27
theorem k_R_remove_28 : decode (sk_by 119) 28 = .ok (.aload_n 0, 1) := by decide +kernel
theorem x_R_remove_28 {st : List Value} {l1 : Int32} {l2 : Int32} {x : Nat} {I : MI} {J : MJ} {R : MR} {S : Sh} {Q : SkQ} : Wp 119 28 [.ref x, .int l1, .int l2] st I J R S Q = Wp 119 29 [.ref x, .int l1, .int l2] (.ref x :: st) I J R S Q := o_aload_n rfl k_R_remove_28
theorem k_R_remove_29 : decode (sk_by 119) 29 = .ok (.getfield 15, 3) := by decide +kernel
theorem x_R_remove_29 {ls st : List Value} {a : Nat} {I : MI} {J : MJ} {R : MR} {S : Sh} {Q : SkQ} (ha : S.1 a = 4) : Wp 119 29 ls (.ref a :: st) I J R S Q = Wp 119 32 ls (R a 0 :: st) I J R S Q := o_getfieldR (show sk_lkF (sk_cl 119) 15 = some (4, 0, 2, 1, 0) by decide +kernel) k_R_remove_29 ha
theorem k_R_remove_32 : decode (sk_by 119) 32 = .ok (.iload_n 2, 1) := by decide +kernel
theorem x_R_remove_32 {st : List Value} {l0 : Nat} {l1 : Int32} {x : Int32} {I : MI} {J : MJ} {R : MR} {S : Sh} {Q : SkQ} : Wp 119 32 [.ref l0, .int l1, .int x] st I J R S Q = Wp 119 33 [.ref l0, .int l1, .int x] (.int x :: st) I J R S Q := o_iload_n rfl k_R_remove_32
theorem k_R_remove_33 : decode (sk_by 119) 33 = .ok (.laload, 1) := by decide +kernel
theorem x_R_remove_33 {ls st : List Value} {a : Nat} {i : Int32} {I : MI} {J : MJ} {R : MR} {S : Sh} {Q : SkQ} (ha : S.1 a = 31) (hi : inb i (S.2.1 a) = true) : Wp 119 33 ls (.int i :: .ref a :: st) I J R S Q = Wp 119 34 ls (.long (J a (ix i)) :: st) I J R S Q := o_laload k_R_remove_33 ha hi
theorem k_R_remove_34 : decode (sk_by 119) 34 = .ok (.lastore, 1) := by decide +kernel
theorem x_R_remove_34 {ls st : List Value} {a : Nat} {i : Int32} {x : Int64} {I : MI} {J : MJ} {R : MR} {S : Sh} {Q : SkQ} (ha : S.1 a = 31) (hi : inb i (S.2.1 a) = true) : Wp 119 34 ls (.long x :: .int i :: .ref a :: st) I J R S Q = Wp 119 35 ls st I (u2 J a (ix i) x) R S Q := o_lastore k_R_remove_34 ha hi
theorem k_R_remove_35 : decode (sk_by 119) 35 = .ok (.aload_n 0, 1) := by decide +kernel
theorem x_R_remove_35 {st : List Value} {l1 : Int32} {l2 : Int32} {x : Nat} {I : MI} {J : MJ} {R : MR} {S : Sh} {Q : SkQ} : Wp 119 35 [.ref x, .int l1, .int l2] st I J R S Q = Wp 119 36 [.ref x, .int l1, .int l2] (.ref x :: st) I J R S Q := o_aload_n rfl k_R_remove_35
theorem k_R_remove_36 : decode (sk_by 119) 36 = .ok (.getfield 21, 3) := by decide +kernel
theorem x_R_remove_36 {ls st : List Value} {a : Nat} {I : MI} {J : MJ} {R : MR} {S : Sh} {Q : SkQ} (ha : S.1 a = 4) : Wp 119 36 ls (.ref a :: st) I J R S Q = Wp 119 39 ls (R a 1 :: st) I J R S Q := o_getfieldR (show sk_lkF (sk_cl 119) 21 = some (4, 1, 2, 1, 0) by decide +kernel) k_R_remove_36 ha
theorem k_R_remove_39 : decode (sk_by 119) 39 = .ok (.iload_n 2, 1) := by decide +kernel
theorem x_R_remove_39 {st : List Value} {l0 : Nat} {l1 : Int32} {x : Int32} {I : MI} {J : MJ} {R : MR} {S : Sh} {Q : SkQ} : Wp 119 39 [.ref l0, .int l1, .int x] st I J R S Q = Wp 119 40 [.ref l0, .int l1, .int x] (.int x :: st) I J R S Q := o_iload_n rfl k_R_remove_39
theorem k_R_remove_40 : decode (sk_by 119) 40 = .ok (.iconst 1, 1) := by decide +kernel
theorem x_R_remove_40 {ls st : List Value} {I : MI} {J : MJ} {R : MR} {S : Sh} {Q : SkQ} : Wp 119 40 ls st I J R S Q = Wp 119 41 ls (.int 1 :: st) I J R S Q := o_const (by decide) k_R_remove_40
theorem k_R_remove_41 : decode (sk_by 119) 41 = .ok (.isub, 1) := by decide +kernel
theorem x_R_remove_41 {ls st : List Value} {x y : Int32} {I : MI} {J : MJ} {R : MR} {S : Sh} {Q : SkQ} : Wp 119 41 ls (.int y :: .int x :: st) I J R S Q = Wp 119 42 ls (.int (x - y) :: st) I J R S Q := o_isub k_R_remove_41
theorem k_R_remove_42 : decode (sk_by 119) 42 = .ok (.aload_n 0, 1) := by decide +kernel
theorem x_R_remove_42 {st : List Value} {l1 : Int32} {l2 : Int32} {x : Nat} {I : MI} {J : MJ} {R : MR} {S : Sh} {Q : SkQ} : Wp 119 42 [.ref x, .int l1, .int l2] st I J R S Q = Wp 119 43 [.ref x, .int l1, .int l2] (.ref x :: st) I J R S Q := o_aload_n rfl k_R_remove_42
theorem k_R_remove_43 : decode (sk_by 119) 43 = .ok (.getfield 21, 3) := by decide +kernel
theorem x_R_remove_43 {ls st : List Value} {a : Nat} {I : MI} {J : MJ} {R : MR} {S : Sh} {Q : SkQ} (ha : S.1 a = 4) : Wp 119 43 ls (.ref a :: st) I J R S Q = Wp 119 46 ls (R a 1 :: st) I J R S Q := o_getfieldR (show sk_lkF (sk_cl 119) 21 = some (4, 1, 2, 1, 0) by decide +kernel) k_R_remove_43 ha
theorem k_R_remove_46 : decode (sk_by 119) 46 = .ok (.iload_n 2, 1) := by decide +kernel
theorem x_R_remove_46 {st : List Value} {l0 : Nat} {l1 : Int32} {x : Int32} {I : MI} {J : MJ} {R : MR} {S : Sh} {Q : SkQ} : Wp 119 46 [.ref l0, .int l1, .int x] st I J R S Q = Wp 119 47 [.ref l0, .int l1, .int x] (.int x :: st) I J R S Q := o_iload_n rfl k_R_remove_46
theorem k_R_remove_47 : decode (sk_by 119) 47 = .ok (.laload, 1) := by decide +kernel
theorem x_R_remove_47 {ls st : List Value} {a : Nat} {i : Int32} {I : MI} {J : MJ} {R : MR} {S : Sh} {Q : SkQ} (ha : S.1 a = 31) (hi : inb i (S.2.1 a) = true) : Wp 119 47 ls (.int i :: .ref a :: st) I J R S Q = Wp 119 48 ls (.long (J a (ix i)) :: st) I J R S Q := o_laload k_R_remove_47 ha hi
theorem k_R_remove_48 : decode (sk_by 119) 48 = .ok (.lastore, 1) := by decide +kernel
theorem x_R_remove_48 {ls st : List Value} {a : Nat} {i : Int32} {x : Int64} {I : MI} {J : MJ} {R : MR} {S : Sh} {Q : SkQ} (ha : S.1 a = 31) (hi : inb i (S.2.1 a) = true) : Wp 119 48 ls (.long x :: .int i :: .ref a :: st) I J R S Q = Wp 119 49 ls st I (u2 J a (ix i) x) R S Q := o_lastore k_R_remove_48 ha hi
theorem k_R_remove_49 : decode (sk_by 119) 49 = .ok (.aload_n 0, 1) := by decide +kernel
theorem x_R_remove_49 {st : List Value} {l1 : Int32} {l2 : Int32} {x : Nat} {I : MI} {J : MJ} {R : MR} {S : Sh} {Q : SkQ} : Wp 119 49 [.ref x, .int l1, .int l2] st I J R S Q = Wp 119 50 [.ref x, .int l1, .int l2] (.ref x :: st) I J R S Q := o_aload_n rfl k_R_remove_49
theorem k_R_remove_50 : decode (sk_by 119) 50 = .ok (.getfield 24, 3) := by decide +kernel
theorem x_R_remove_50 {ls st : List Value} {a : Nat} {I : MI} {J : MJ} {R : MR} {S : Sh} {Q : SkQ} (ha : S.1 a = 4) : Wp 119 50 ls (.ref a :: st) I J R S Q = Wp 119 53 ls (R a 2 :: st) I J R S Q := o_getfieldR (show sk_lkF (sk_cl 119) 24 = some (4, 2, 2, 1, 0) by decide +kernel) k_R_remove_50 ha
theorem k_R_remove_53 : decode (sk_by 119) 53 = .ok (.iload_n 2, 1) := by decide +kernel
theorem x_R_remove_53 {st : List Value} {l0 : Nat} {l1 : Int32} {x : Int32} {I : MI} {J : MJ} {R : MR} {S : Sh} {Q : SkQ} : Wp 119 53 [.ref l0, .int l1, .int x] st I J R S Q = Wp 119 54 [.ref l0, .int l1, .int x] (.int x :: st) I J R S Q := o_iload_n rfl k_R_remove_53
theorem k_R_remove_54 : decode (sk_by 119) 54 = .ok (.iconst 1, 1) := by decide +kernel
theorem x_R_remove_54 {ls st : List Value} {I : MI} {J : MJ} {R : MR} {S : Sh} {Q : SkQ} : Wp 119 54 ls st I J R S Q = Wp 119 55 ls (.int 1 :: st) I J R S Q := o_const (by decide) k_R_remove_54
theorem k_R_remove_55 : decode (sk_by 119) 55 = .ok (.isub, 1) := by decide +kernel
theorem x_R_remove_55 {ls st : List Value} {x y : Int32} {I : MI} {J : MJ} {R : MR} {S : Sh} {Q : SkQ} : Wp 119 55 ls (.int y :: .int x :: st) I J R S Q = Wp 119 56 ls (.int (x - y) :: st) I J R S Q := o_isub k_R_remove_55
theorem k_R_remove_56 : decode (sk_by 119) 56 = .ok (.aload_n 0, 1) := by decide +kernel
theorem x_R_remove_56 {st : List Value} {l1 : Int32} {l2 : Int32} {x : Nat} {I : MI} {J : MJ} {R : MR} {S : Sh} {Q : SkQ} : Wp 119 56 [.ref x, .int l1, .int l2] st I J R S Q = Wp 119 57 [.ref x, .int l1, .int l2] (.ref x :: st) I J R S Q := o_aload_n rfl k_R_remove_56
theorem k_R_remove_57 : decode (sk_by 119) 57 = .ok (.getfield 24, 3) := by decide +kernel
theorem x_R_remove_57 {ls st : List Value} {a : Nat} {I : MI} {J : MJ} {R : MR} {S : Sh} {Q : SkQ} (ha : S.1 a = 4) : Wp 119 57 ls (.ref a :: st) I J R S Q = Wp 119 60 ls (R a 2 :: st) I J R S Q := o_getfieldR (show sk_lkF (sk_cl 119) 24 = some (4, 2, 2, 1, 0) by decide +kernel) k_R_remove_57 ha
theorem k_R_remove_60 : decode (sk_by 119) 60 = .ok (.iload_n 2, 1) := by decide +kernel
theorem x_R_remove_60 {st : List Value} {l0 : Nat} {l1 : Int32} {x : Int32} {I : MI} {J : MJ} {R : MR} {S : Sh} {Q : SkQ} : Wp 119 60 [.ref l0, .int l1, .int x] st I J R S Q = Wp 119 61 [.ref l0, .int l1, .int x] (.int x :: st) I J R S Q := o_iload_n rfl k_R_remove_60
theorem k_R_remove_61 : decode (sk_by 119) 61 = .ok (.iaload, 1) := by decide +kernel
theorem x_R_remove_61 {ls st : List Value} {a : Nat} {i : Int32} {I : MI} {J : MJ} {R : MR} {S : Sh} {Q : SkQ} (ha : S.1 a = 30) (hi : inb i (S.2.1 a) = true) : Wp 119 61 ls (.int i :: .ref a :: st) I J R S Q = Wp 119 62 ls (.int (I a (ix i)) :: st) I J R S Q := o_iaload k_R_remove_61 ha hi
theorem k_R_remove_62 : decode (sk_by 119) 62 = .ok (.iastore, 1) := by decide +kernel
theorem x_R_remove_62 {ls st : List Value} {a : Nat} {i x : Int32} {I : MI} {J : MJ} {R : MR} {S : Sh} {Q : SkQ} (ha : S.1 a = 30) (hi : inb i (S.2.1 a) = true) : Wp 119 62 ls (.int x :: .int i :: .ref a :: st) I J R S Q = Wp 119 63 ls st (u2 I a (ix i) x) J R S Q := o_iastore k_R_remove_62 ha hi
theorem k_R_remove_63 : decode (sk_by 119) 63 = .ok (.iinc 2 1, 3) := by decide +kernel
theorem x_R_remove_63 {st : List Value} {l0 : Nat} {l1 : Int32} {x : Int32} {I : MI} {J : MJ} {R : MR} {S : Sh} {Q : SkQ} : Wp 119 63 [.ref l0, .int l1, .int x] st I J R S Q = Wp 119 66 [.ref l0, .int l1, .int (x + 1)] st I J R S Q := o_inc (by decide) rfl (Nat.le_of_ble_eq_true rfl) rfl k_R_remove_63
theorem k_R_remove_66 : decode (sk_by 119) 66 = .ok (.goto (-53), 3) := by decide +kernel
theorem x_R_remove_66 {ls st : List Value} {I : MI} {J : MJ} {R : MR} {S : Sh} {Q : SkQ} : Wp 119 66 ls st I J R S Q = Wp 119 13 ls st I J R S Q := o_goto rfl rfl k_R_remove_66
theorem k_R_remove_69 : decode (sk_by 119) 69 = .ok (.aload_n 0, 1) := by decide +kernel
theorem x_R_remove_69 {st : List Value} {l1 : Int32} {l2 : Int32} {x : Nat} {I : MI} {J : MJ} {R : MR} {S : Sh} {Q : SkQ} : Wp 119 69 [.ref x, .int l1, .int l2] st I J R S Q = Wp 119 70 [.ref x, .int l1, .int l2] (.ref x :: st) I J R S Q := o_aload_n rfl k_R_remove_69
theorem k_R_remove_70 : decode (sk_by 119) 70 = .ok (.dup, 1) := by decide +kernel
theorem x_R_remove_70 {ls st : List Value} {x : Nat} {I : MI} {J : MJ} {R : MR} {S : Sh} {Q : SkQ} : Wp 119 70 ls (.ref x :: st) I J R S Q = Wp 119 71 ls (.ref x :: .ref x :: st) I J R S Q := o_dupR k_R_remove_70
theorem k_R_remove_71 : decode (sk_by 119) 71 = .ok (.getfield 28, 3) := by decide +kernel
theorem x_R_remove_71 {ls st : List Value} {a : Nat} {I : MI} {J : MJ} {R : MR} {S : Sh} {Q : SkQ} (ha : S.1 a = 4) : Wp 119 71 ls (.ref a :: st) I J R S Q = Wp 119 74 ls (.int (I a 3) :: st) I J R S Q := o_getfieldI (show sk_lkF (sk_cl 119) 28 = some (4, 3, 0, 0, 0) by decide +kernel) k_R_remove_71 ha
theorem k_R_remove_74 : decode (sk_by 119) 74 = .ok (.iconst 1, 1) := by decide +kernel
theorem x_R_remove_74 {ls st : List Value} {I : MI} {J : MJ} {R : MR} {S : Sh} {Q : SkQ} : Wp 119 74 ls st I J R S Q = Wp 119 75 ls (.int 1 :: st) I J R S Q := o_const (by decide) k_R_remove_74
theorem k_R_remove_75 : decode (sk_by 119) 75 = .ok (.isub, 1) := by decide +kernel
theorem x_R_remove_75 {ls st : List Value} {x y : Int32} {I : MI} {J : MJ} {R : MR} {S : Sh} {Q : SkQ} : Wp 119 75 ls (.int y :: .int x :: st) I J R S Q = Wp 119 76 ls (.int (x - y) :: st) I J R S Q := o_isub k_R_remove_75
theorem k_R_remove_76 : decode (sk_by 119) 76 = .ok (.putfield 28, 3) := by decide +kernel
theorem x_R_remove_76 {ls st : List Value} {a : Nat} {x : Int32} {I : MI} {J : MJ} {R : MR} {S : Sh} {Q : SkQ} (ha : S.1 a = 4) : Wp 119 76 ls (.int x :: .ref a :: st) I J R S Q = Wp 119 79 ls st (u2 I a 3 x) J R S Q := o_putfieldI (show sk_lkF (sk_cl 119) 28 = some (4, 3, 0, 0, 0) by decide +kernel) (by decide) (by (decide +kernel)) k_R_remove_76 ha
theorem k_R_remove_79 : decode (sk_by 119) 79 = .ok (.return_, 1) := by decide +kernel
theorem x_R_remove_79 {ls : List Value} {I : MI} {J : MJ} {R : MR} {S : Sh} {Q : SkQ} : Wp 119 79 ls [] I J R S Q = Q 0 none I J R S := o_return (by (decide +kernel)) k_R_remove_79
theorem k_R_copyFrom_0 : decode (sk_by 120) 0 = .ok (.aload_n 0, 1) := by decide +kernel
theorem x_R_copyFrom_0 {st : List Value} {l1 : Nat} {x : Nat} {I : MI} {J : MJ} {R : MR} {S : Sh} {Q : SkQ} : Wp 120 0 [.ref x, .ref l1, nov] st I J R S Q = Wp 120 1 [.ref x, .ref l1, nov] (.ref x :: st) I J R S Q := o_aload_n rfl k_R_copyFrom_0
theorem k_R_copyFrom_1 : decode (sk_by 120) 1 = .ok (.aload_n 1, 1) := by decide +kernel
theorem x_R_copyFrom_1 {st : List Value} {l0 : Nat} {x : Nat} {I : MI} {J : MJ} {R : MR} {S : Sh} {Q : SkQ} : Wp 120 1 [.ref l0, .ref x, nov] st I J R S Q = Wp 120 2 [.ref l0, .ref x, nov] (.ref x :: st) I J R S Q := o_aload_n rfl k_R_copyFrom_1
theorem k_R_copyFrom_2 : decode (sk_by 120) 2 = .ok (.getfield 28, 3) := by decide +kernel
theorem x_R_copyFrom_2 {ls st : List Value} {a : Nat} {I : MI} {J : MJ} {R : MR} {S : Sh} {Q : SkQ} (ha : S.1 a = 4) : Wp 120 2 ls (.ref a :: st) I J R S Q = Wp 120 5 ls (.int (I a 3) :: st) I J R S Q := o_getfieldI (show sk_lkF (sk_cl 120) 28 = some (4, 3, 0, 0, 0) by decide +kernel) k_R_copyFrom_2 ha
theorem k_R_copyFrom_5 : decode (sk_by 120) 5 = .ok (.aload_n 0, 1) := by decide +kernel
theorem x_R_copyFrom_5 {st : List Value} {l1 : Nat} {x : Nat} {I : MI} {J : MJ} {R : MR} {S : Sh} {Q : SkQ} : Wp 120 5 [.ref x, .ref l1, nov] st I J R S Q = Wp 120 6 [.ref x, .ref l1, nov] (.ref x :: st) I J R S Q := o_aload_n rfl k_R_copyFrom_5
theorem k_R_copyFrom_6 : decode (sk_by 120) 6 = .ok (.getfield 15, 3) := by decide +kernel
theorem x_R_copyFrom_6 {ls st : List Value} {a : Nat} {I : MI} {J : MJ} {R : MR} {S : Sh} {Q : SkQ} (ha : S.1 a = 4) : Wp 120 6 ls (.ref a :: st) I J R S Q = Wp 120 9 ls (R a 0 :: st) I J R S Q := o_getfieldR (show sk_lkF (sk_cl 120) 15 = some (4, 0, 2, 1, 0) by decide +kernel) k_R_copyFrom_6 ha
theorem k_R_copyFrom_9 : decode (sk_by 120) 9 = .ok (.arraylength, 1) := by decide +kernel
theorem x_R_copyFrom_9 {ls st : List Value} {a : Nat} {I : MI} {J : MJ} {R : MR} {S : Sh} {Q : SkQ} (ha : isArr (S.1 a) = true) : Wp 120 9 ls (.ref a :: st) I J R S Q = Wp 120 10 ls (.int (nI (S.2.1 a)) :: st) I J R S Q := o_arraylength k_R_copyFrom_9 ha
theorem k_R_copyFrom_10 : decode (sk_by 120) 10 = .ok (.invokestatic 59, 3) := by decide +kernel
theorem x_R_copyFrom_10 {ls : List Value} {s0 : Nat} {x y : Int32} {I : MI} {J : MJ} {R : MR} {S : Sh} {Q : SkQ} : Wp 120 10 ls (.int y :: .int x :: [.ref s0]) I J R S Q = Wp 120 13 ls (.int (if y < x then y else x) :: [.ref s0]) I J R S Q := o_min (show sk_lkM (sk_cl 120) 59 = some 251 by decide +kernel) ⟨by (decide +kernel), (Nat.le_trans (show catS [.ref s0] + 20 ≤ 21 from Nat.le_of_ble_eq_true rfl) (by (decide +kernel)))⟩ k_R_copyFrom_10
theorem k_R_copyFrom_13 : decode (sk_by 120) 13 = .ok (.putfield 28, 3) := by decide +kernel
theorem x_R_copyFrom_13 {ls st : List Value} {a : Nat} {x : Int32} {I : MI} {J : MJ} {R : MR} {S : Sh} {Q : SkQ} (ha : S.1 a = 4) : Wp 120 13 ls (.int x :: .ref a :: st) I J R S Q = Wp 120 16 ls st (u2 I a 3 x) J R S Q := o_putfieldI (show sk_lkF (sk_cl 120) 28 = some (4, 3, 0, 0, 0) by decide +kernel) (by decide) (by (decide +kernel)) k_R_copyFrom_13 ha
theorem k_R_copyFrom_16 : decode (sk_by 120) 16 = .ok (.iconst 0, 1) := by decide +kernel
theorem x_R_copyFrom_16 {ls st : List Value} {I : MI} {J : MJ} {R : MR} {S : Sh} {Q : SkQ} : Wp 120 16 ls st I J R S Q = Wp 120 17 ls (.int 0 :: st) I J R S Q := o_const (by decide) k_R_copyFrom_16
theorem k_R_copyFrom_17 : decode (sk_by 120) 17 = .ok (.istore_n 2, 1) := by decide +kernel
theorem x_R_copyFrom_17 {st : List Value} {l0 : Nat} {l1 : Nat} {x : Int32} {I : MI} {J : MJ} {R : MR} {S : Sh} {Q : SkQ} : Wp 120 17 [.ref l0, .ref l1, nov] (.int x :: st) I J R S Q = Wp 120 18 [.ref l0, .ref l1, .int x] st I J R S Q := o_istore_n (Nat.le_of_ble_eq_true rfl) rfl k_R_copyFrom_17
theorem k_R_copyFrom_18 : decode (sk_by 120) 18 = .ok (.iload_n 2, 1) := by decide +kernel
theorem x_R_copyFrom_18 {st : List Value} {l0 : Nat} {l1 : Nat} {x : Int32} {I : MI} {J : MJ} {R : MR} {S : Sh} {Q : SkQ} : Wp 120 18 [.ref l0, .ref l1, .int x] st I J R S Q = Wp 120 19 [.ref l0, .ref l1, .int x] (.int x :: st) I J R S Q := o_iload_n rfl k_R_copyFrom_18
theorem k_R_copyFrom_19 : decode (sk_by 120) 19 = .ok (.aload_n 0, 1) := by decide +kernel
theorem x_R_copyFrom_19 {st : List Value} {l1 : Nat} {l2 : Int32} {x : Nat} {I : MI} {J : MJ} {R : MR} {S : Sh} {Q : SkQ} : Wp 120 19 [.ref x, .ref l1, .int l2] st I J R S Q = Wp 120 20 [.ref x, .ref l1, .int l2] (.ref x :: st) I J R S Q := o_aload_n rfl k_R_copyFrom_19
theorem k_R_copyFrom_20 : decode (sk_by 120) 20 = .ok (.getfield 28, 3) := by decide +kernel
theorem x_R_copyFrom_20 {ls st : List Value} {a : Nat} {I : MI} {J : MJ} {R : MR} {S : Sh} {Q : SkQ} (ha : S.1 a = 4) : Wp 120 20 ls (.ref a :: st) I J R S Q = Wp 120 23 ls (.int (I a 3) :: st) I J R S Q := o_getfieldI (show sk_lkF (sk_cl 120) 28 = some (4, 3, 0, 0, 0) by decide +kernel) k_R_copyFrom_20 ha
theorem k_R_copyFrom_23 : decode (sk_by 120) 23 = .ok (.if_icmp .ge 45, 3) := by decide +kernel
theorem x_R_copyFrom_23 {ls st : List Value} {x y : Int32} {I : MI} {J : MJ} {R : MR} {S : Sh} {Q : SkQ} : Wp 120 23 ls (.int y :: .int x :: st) I J R S Q = if x < y then Wp 120 26 ls st I J R S Q else Wp 120 68 ls st I J R S Q := o_ic_ge rfl rfl k_R_copyFrom_23
theorem k_R_copyFrom_26 : decode (sk_by 120) 26 = .ok (.aload_n 0, 1) := by decide +kernel
theorem x_R_copyFrom_26 {st : List Value} {l1 : Nat} {l2 : Int32} {x : Nat} {I : MI} {J : MJ} {R : MR} {S : Sh} {Q : SkQ} : Wp 120 26 [.ref x, .ref l1, .int l2] st I J R S Q = Wp 120 27 [.ref x, .ref l1, .int l2] (.ref x :: st) I J R S Q := o_aload_n rfl k_R_copyFrom_26
theorem k_R_copyFrom_27 : decode (sk_by 120) 27 = .ok (.getfield 15, 3) := by decide +kernel
theorem x_R_copyFrom_27 {ls st : List Value} {a : Nat} {I : MI} {J : MJ} {R : MR} {S : Sh} {Q : SkQ} (ha : S.1 a = 4) : Wp 120 27 ls (.ref a :: st) I J R S Q = Wp 120 30 ls (R a 0 :: st) I J R S Q := o_getfieldR (show sk_lkF (sk_cl 120) 15 = some (4, 0, 2, 1, 0) by decide +kernel) k_R_copyFrom_27 ha
theorem k_R_copyFrom_30 : decode (sk_by 120) 30 = .ok (.iload_n 2, 1) := by decide +kernel
theorem x_R_copyFrom_30 {st : List Value} {l0 : Nat} {l1 : Nat} {x : Int32} {I : MI} {J : MJ} {R : MR} {S : Sh} {Q : SkQ} : Wp 120 30 [.ref l0, .ref l1, .int x] st I J R S Q = Wp 120 31 [.ref l0, .ref l1, .int x] (.int x :: st) I J R S Q := o_iload_n rfl k_R_copyFrom_30
theorem k_R_copyFrom_31 : decode (sk_by 120) 31 = .ok (.aload_n 1, 1) := by decide +kernel
theorem x_R_copyFrom_31 {st : List Value} {l0 : Nat} {l2 : Int32} {x : Nat} {I : MI} {J : MJ} {R : MR} {S : Sh} {Q : SkQ} : Wp 120 31 [.ref l0, .ref x, .int l2] st I J R S Q = Wp 120 32 [.ref l0, .ref x, .int l2] (.ref x :: st) I J R S Q := o_aload_n rfl k_R_copyFrom_31
theorem k_R_copyFrom_32 : decode (sk_by 120) 32 = .ok (.getfield 15, 3) := by decide +kernel
theorem x_R_copyFrom_32 {ls st : List Value} {a : Nat} {I : MI} {J : MJ} {R : MR} {S : Sh} {Q : SkQ} (ha : S.1 a = 4) : Wp 120 32 ls (.ref a :: st) I J R S Q = Wp 120 35 ls (R a 0 :: st) I J R S Q := o_getfieldR (show sk_lkF (sk_cl 120) 15 = some (4, 0, 2, 1, 0) by decide +kernel) k_R_copyFrom_32 ha
theorem k_R_copyFrom_35 : decode (sk_by 120) 35 = .ok (.iload_n 2, 1) := by decide +kernel
theorem x_R_copyFrom_35 {st : List Value} {l0 : Nat} {l1 : Nat} {x : Int32} {I : MI} {J : MJ} {R : MR} {S : Sh} {Q : SkQ} : Wp 120 35 [.ref l0, .ref l1, .int x] st I J R S Q = Wp 120 36 [.ref l0, .ref l1, .int x] (.int x :: st) I J R S Q := o_iload_n rfl k_R_copyFrom_35
theorem k_R_copyFrom_36 : decode (sk_by 120) 36 = .ok (.laload, 1) := by decide +kernel
theorem x_R_copyFrom_36 {ls st : List Value} {a : Nat} {i : Int32} {I : MI} {J : MJ} {R : MR} {S : Sh} {Q : SkQ} (ha : S.1 a = 31) (hi : inb i (S.2.1 a) = true) : Wp 120 36 ls (.int i :: .ref a :: st) I J R S Q = Wp 120 37 ls (.long (J a (ix i)) :: st) I J R S Q := o_laload k_R_copyFrom_36 ha hi
theorem k_R_copyFrom_37 : decode (sk_by 120) 37 = .ok (.lastore, 1) := by decide +kernel
theorem x_R_copyFrom_37 {ls st : List Value} {a : Nat} {i : Int32} {x : Int64} {I : MI} {J : MJ} {R : MR} {S : Sh} {Q : SkQ} (ha : S.1 a = 31) (hi : inb i (S.2.1 a) = true) : Wp 120 37 ls (.long x :: .int i :: .ref a :: st) I J R S Q = Wp 120 38 ls st I (u2 J a (ix i) x) R S Q := o_lastore k_R_copyFrom_37 ha hi
theorem k_R_copyFrom_38 : decode (sk_by 120) 38 = .ok (.aload_n 0, 1) := by decide +kernel
theorem x_R_copyFrom_38 {st : List Value} {l1 : Nat} {l2 : Int32} {x : Nat} {I : MI} {J : MJ} {R : MR} {S : Sh} {Q : SkQ} : Wp 120 38 [.ref x, .ref l1, .int l2] st I J R S Q = Wp 120 39 [.ref x, .ref l1, .int l2] (.ref x :: st) I J R S Q := o_aload_n rfl k_R_copyFrom_38
theorem k_R_copyFrom_39 : decode (sk_by 120) 39 = .ok (.getfield 21, 3) := by decide +kernel
theorem x_R_copyFrom_39 {ls st : List Value} {a : Nat} {I : MI} {J : MJ} {R : MR} {S : Sh} {Q : SkQ} (ha : S.1 a = 4) : Wp 120 39 ls (.ref a :: st) I J R S Q = Wp 120 42 ls (R a 1 :: st) I J R S Q := o_getfieldR (show sk_lkF (sk_cl 120) 21 = some (4, 1, 2, 1, 0) by decide +kernel) k_R_copyFrom_39 ha
theorem k_R_copyFrom_42 : decode (sk_by 120) 42 = .ok (.iload_n 2, 1) := by decide +kernel
theorem x_R_copyFrom_42 {st : List Value} {l0 : Nat} {l1 : Nat} {x : Int32} {I : MI} {J : MJ} {R : MR} {S : Sh} {Q : SkQ} : Wp 120 42 [.ref l0, .ref l1, .int x] st I J R S Q = Wp 120 43 [.ref l0, .ref l1, .int x] (.int x :: st) I J R S Q := o_iload_n rfl k_R_copyFrom_42
theorem k_R_copyFrom_43 : decode (sk_by 120) 43 = .ok (.aload_n 1, 1) := by decide +kernel
theorem x_R_copyFrom_43 {st : List Value} {l0 : Nat} {l2 : Int32} {x : Nat} {I : MI} {J : MJ} {R : MR} {S : Sh} {Q : SkQ} : Wp 120 43 [.ref l0, .ref x, .int l2] st I J R S Q = Wp 120 44 [.ref l0, .ref x, .int l2] (.ref x :: st) I J R S Q := o_aload_n rfl k_R_copyFrom_43
theorem k_R_copyFrom_44 : decode (sk_by 120) 44 = .ok (.getfield 21, 3) := by decide +kernel
theorem x_R_copyFrom_44 {ls st : List Value} {a : Nat} {I : MI} {J : MJ} {R : MR} {S : Sh} {Q : SkQ} (ha : S.1 a = 4) : Wp 120 44 ls (.ref a :: st) I J R S Q = Wp 120 47 ls (R a 1 :: st) I J R S Q := o_getfieldR (show sk_lkF (sk_cl 120) 21 = some (4, 1, 2, 1, 0) by decide +kernel) k_R_copyFrom_44 ha
theorem k_R_copyFrom_47 : decode (sk_by 120) 47 = .ok (.iload_n 2, 1) := by decide +kernel
theorem x_R_copyFrom_47 {st : List Value} {l0 : Nat} {l1 : Nat} {x : Int32} {I : MI} {J : MJ} {R : MR} {S : Sh} {Q : SkQ} : Wp 120 47 [.ref l0, .ref l1, .int x] st I J R S Q = Wp 120 48 [.ref l0, .ref l1, .int x] (.int x :: st) I J R S Q := o_iload_n rfl k_R_copyFrom_47
theorem k_R_copyFrom_48 : decode (sk_by 120) 48 = .ok (.laload, 1) := by decide +kernel
theorem x_R_copyFrom_48 {ls st : List Value} {a : Nat} {i : Int32} {I : MI} {J : MJ} {R : MR} {S : Sh} {Q : SkQ} (ha : S.1 a = 31) (hi : inb i (S.2.1 a) = true) : Wp 120 48 ls (.int i :: .ref a :: st) I J R S Q = Wp 120 49 ls (.long (J a (ix i)) :: st) I J R S Q := o_laload k_R_copyFrom_48 ha hi
theorem k_R_copyFrom_49 : decode (sk_by 120) 49 = .ok (.lastore, 1) := by decide +kernel
theorem x_R_copyFrom_49 {ls st : List Value} {a : Nat} {i : Int32} {x : Int64} {I : MI} {J : MJ} {R : MR} {S : Sh} {Q : SkQ} (ha : S.1 a = 31) (hi : inb i (S.2.1 a) = true) : Wp 120 49 ls (.long x :: .int i :: .ref a :: st) I J R S Q = Wp 120 50 ls st I (u2 J a (ix i) x) R S Q := o_lastore k_R_copyFrom_49 ha hi
theorem k_R_copyFrom_50 : decode (sk_by 120) 50 = .ok (.aload_n 0, 1) := by decide +kernel
theorem x_R_copyFrom_50 {st : List Value} {l1 : Nat} {l2 : Int32} {x : Nat} {I : MI} {J : MJ} {R : MR} {S : Sh} {Q : SkQ} : Wp 120 50 [.ref x, .ref l1, .int l2] st I J R S Q = Wp 120 51 [.ref x, .ref l1, .int l2] (.ref x :: st) I J R S Q := o_aload_n rfl k_R_copyFrom_50
theorem k_R_copyFrom_51 : decode (sk_by 120) 51 = .ok (.getfield 24, 3) := by decide +kernel
theorem x_R_copyFrom_51 {ls st : List Value} {a : Nat} {I : MI} {J : MJ} {R : MR} {S : Sh} {Q : SkQ} (ha : S.1 a = 4) : Wp 120 51 ls (.ref a :: st) I J R S Q = Wp 120 54 ls (R a 2 :: st) I J R S Q := o_getfieldR (show sk_lkF (sk_cl 120) 24 = some (4, 2, 2, 1, 0) by decide +kernel) k_R_copyFrom_51 ha
theorem k_R_copyFrom_54 : decode (sk_by 120) 54 = .ok (.iload_n 2, 1) := by decide +kernel
theorem x_R_copyFrom_54 {st : List Value} {l0 : Nat} {l1 : Nat} {x : Int32} {I : MI} {J : MJ} {R : MR} {S : Sh} {Q : SkQ} : Wp 120 54 [.ref l0, .ref l1, .int x] st I J R S Q = Wp 120 55 [.ref l0, .ref l1, .int x] (.int x :: st) I J R S Q := o_iload_n rfl k_R_copyFrom_54
theorem k_R_copyFrom_55 : decode (sk_by 120) 55 = .ok (.aload_n 1, 1) := by decide +kernel
theorem x_R_copyFrom_55 {st : List Value} {l0 : Nat} {l2 : Int32} {x : Nat} {I : MI} {J : MJ} {R : MR} {S : Sh} {Q : SkQ} : Wp 120 55 [.ref l0, .ref x, .int l2] st I J R S Q = Wp 120 56 [.ref l0, .ref x, .int l2] (.ref x :: st) I J R S Q := o_aload_n rfl k_R_copyFrom_55
theorem k_R_copyFrom_56 : decode (sk_by 120) 56 = .ok (.getfield 24, 3) := by decide +kernel
theorem x_R_copyFrom_56 {ls st : List Value} {a : Nat} {I : MI} {J : MJ} {R : MR} {S : Sh} {Q : SkQ} (ha : S.1 a = 4) : Wp 120 56 ls (.ref a :: st) I J R S Q = Wp 120 59 ls (R a 2 :: st) I J R S Q := o_getfieldR (show sk_lkF (sk_cl 120) 24 = some (4, 2, 2, 1, 0) by decide +kernel) k_R_copyFrom_56 ha
theorem k_R_copyFrom_59 : decode (sk_by 120) 59 = .ok (.iload_n 2, 1) := by decide +kernel
theorem x_R_copyFrom_59 {st : List Value} {l0 : Nat} {l1 : Nat} {x : Int32} {I : MI} {J : MJ} {R : MR} {S : Sh} {Q : SkQ} : Wp 120 59 [.ref l0, .ref l1, .int x] st I J R S Q = Wp 120 60 [.ref l0, .ref l1, .int x] (.int x :: st) I J R S Q := o_iload_n rfl k_R_copyFrom_59
theorem k_R_copyFrom_60 : decode (sk_by 120) 60 = .ok (.iaload, 1) := by decide +kernel
theorem x_R_copyFrom_60 {ls st : List Value} {a : Nat} {i : Int32} {I : MI} {J : MJ} {R : MR} {S : Sh} {Q : SkQ} (ha : S.1 a = 30) (hi : inb i (S.2.1 a) = true) : Wp 120 60 ls (.int i :: .ref a :: st) I J R S Q = Wp 120 61 ls (.int (I a (ix i)) :: st) I J R S Q := o_iaload k_R_copyFrom_60 ha hi
theorem k_R_copyFrom_61 : decode (sk_by 120) 61 = .ok (.iastore, 1) := by decide +kernel
theorem x_R_copyFrom_61 {ls st : List Value} {a : Nat} {i x : Int32} {I : MI} {J : MJ} {R : MR} {S : Sh} {Q : SkQ} (ha : S.1 a = 30) (hi : inb i (S.2.1 a) = true) : Wp 120 61 ls (.int x :: .int i :: .ref a :: st) I J R S Q = Wp 120 62 ls st (u2 I a (ix i) x) J R S Q := o_iastore k_R_copyFrom_61 ha hi
theorem k_R_copyFrom_62 : decode (sk_by 120) 62 = .ok (.iinc 2 1, 3) := by decide +kernel
theorem x_R_copyFrom_62 {st : List Value} {l0 : Nat} {l1 : Nat} {x : Int32} {I : MI} {J : MJ} {R : MR} {S : Sh} {Q : SkQ} : Wp 120 62 [.ref l0, .ref l1, .int x] st I J R S Q = Wp 120 65 [.ref l0, .ref l1, .int (x + 1)] st I J R S Q := o_inc (by decide) rfl (Nat.le_of_ble_eq_true rfl) rfl k_R_copyFrom_62
theorem k_R_copyFrom_65 : decode (sk_by 120) 65 = .ok (.goto (-47), 3) := by decide +kernel
theorem x_R_copyFrom_65 {ls st : List Value} {I : MI} {J : MJ} {R : MR} {S : Sh} {Q : SkQ} : Wp 120 65 ls st I J R S Q = Wp 120 18 ls st I J R S Q := o_goto rfl rfl k_R_copyFrom_65
theorem k_R_copyFrom_68 : decode (sk_by 120) 68 = .ok (.return_, 1) := by decide +kernel
theorem x_R_copyFrom_68 {ls : List Value} {I : MI} {J : MJ} {R : MR} {S : Sh} {Q : SkQ} : Wp 120 68 ls [] I J R S Q = Q 0 none I J R S := o_return (by (decide +kernel)) k_R_copyFrom_68
