theorem k_C_init_0 : decode (sk_by 148) 0 = .ok (.aload_n 0, 1) := by decide +kernel
theorem x_C_init_0 {st : List Value} {x : Nat} {I : MI} {J : MJ} {R : MR} {S : Sh} {Q : SkQ} : Wp 148 0 [.ref x] st I J R S Q = Wp 148 1 [.ref x] (.ref x :: st) I J R S Q := o_aload_n rfl k_C_init_0
theorem k_C_init_1 : decode (sk_by 148) 1 = .ok (.invokespecial 3, 3) := by decide +kernel
theorem x_C_init_1 {ls : List Value} {a : Nat} {I : MI} {J : MJ} {R : MR} {S : Sh} {Q : SkQ} : Wp 148 1 ls (.ref a :: []) I J R S Q = Wp 148 4 ls [] I J R S Q := o_objInit (show sk_lkM (sk_cl 148) 3 = some 999 by decide +kernel) (by (decide +kernel)) k_C_init_1
theorem k_C_init_4 : decode (sk_by 148) 4 = .ok (.aload_n 0, 1) := by decide +kernel
theorem x_C_init_4 {st : List Value} {x : Nat} {I : MI} {J : MJ} {R : MR} {S : Sh} {Q : SkQ} : Wp 148 4 [.ref x] st I J R S Q = Wp 148 5 [.ref x] (.ref x :: st) I J R S Q := o_aload_n rfl k_C_init_4
theorem k_C_init_5 : decode (sk_by 148) 5 = .ok (.sipush 150, 3) := by decide +kernel
theorem x_C_init_5 {ls st : List Value} {I : MI} {J : MJ} {R : MR} {S : Sh} {Q : SkQ} : Wp 148 5 ls st I J R S Q = Wp 148 8 ls (.int 150 :: st) I J R S Q := o_si (by decide) k_C_init_5
theorem k_C_init_8 : decode (sk_by 148) 8 = .ok (.newarray .int, 2) := by decide +kernel
theorem x_C_init_8 {ls st : List Value} {n : Int32} {I : MI} {J : MJ} {R : MR} {S : Sh} {Q : SkQ} (h0 : S.2.2.2.1 = 0) (hn : 0 ≤ n.toInt ∧ n.toInt ≤ 100000) : Wp 148 8 ls (.int n :: st) I J R S Q = Wp 148 10 ls (.ref S.2.2.1 :: st) (u1 I S.2.2.1 0) J R (sh_new S 30 (ix n) (ix n)) Q := o_newI k_C_init_8 h0 hn
theorem k_C_init_10 : decode (sk_by 148) 10 = .ok (.putfield 11, 3) := by decide +kernel
theorem x_C_init_10 {ls st : List Value} {a : Nat} {x : Nat} {I : MI} {J : MJ} {R : MR} {S : Sh} {Q : SkQ} (ha : S.1 a = 5) : Wp 148 10 ls (.ref x :: .ref a :: st) I J R S Q = Wp 148 13 ls st I J (u2 R a 0 (.ref x)) S Q := o_putfieldR (show sk_lkF (sk_cl 148) 11 = some (5, 0, 2, 1, 0) by decide +kernel) (by decide) (by (decide +kernel)) k_C_init_10 ha
theorem k_C_init_13 : decode (sk_by 148) 13 = .ok (.aload_n 0, 1) := by decide +kernel
theorem x_C_init_13 {st : List Value} {x : Nat} {I : MI} {J : MJ} {R : MR} {S : Sh} {Q : SkQ} : Wp 148 13 [.ref x] st I J R S Q = Wp 148 14 [.ref x] (.ref x :: st) I J R S Q := o_aload_n rfl k_C_init_13
theorem k_C_init_14 : decode (sk_by 148) 14 = .ok (.iconst (-1), 1) := by decide +kernel
theorem x_C_init_14 {ls st : List Value} {I : MI} {J : MJ} {R : MR} {S : Sh} {Q : SkQ} : Wp 148 14 ls st I J R S Q = Wp 148 15 ls (.int (-1) :: st) I J R S Q := o_const (by decide) k_C_init_14
theorem k_C_init_15 : decode (sk_by 148) 15 = .ok (.putfield 15, 3) := by decide +kernel
theorem x_C_init_15 {ls st : List Value} {a : Nat} {x : Int32} {I : MI} {J : MJ} {R : MR} {S : Sh} {Q : SkQ} (ha : S.1 a = 5) : Wp 148 15 ls (.int x :: .ref a :: st) I J R S Q = Wp 148 18 ls st (u2 I a 3 x) J R S Q := o_putfieldI (show sk_lkF (sk_cl 148) 15 = some (5, 3, 0, 0, 0) by decide +kernel) (by decide) (by (decide +kernel)) k_C_init_15 ha
theorem k_C_init_18 : decode (sk_by 148) 18 = .ok (.return_, 1) := by decide +kernel
theorem x_C_init_18 {ls : List Value} {I : MI} {J : MJ} {R : MR} {S : Sh} {Q : SkQ} : Wp 148 18 ls [] I J R S Q = Q 0 none I J R S := o_return (by (decide +kernel)) k_C_init_18
theorem k_C_length_0 : decode (sk_by 149) 0 = .ok (.aload_n 0, 1) := by decide +kernel
theorem x_C_length_0 {st : List Value} {x : Nat} {I : MI} {J : MJ} {R : MR} {S : Sh} {Q : SkQ} : Wp 149 0 [.ref x] st I J R S Q = Wp 149 1 [.ref x] (.ref x :: st) I J R S Q := o_aload_n rfl k_C_length_0
theorem k_C_length_1 : decode (sk_by 149) 1 = .ok (.getfield 19, 3) := by decide +kernel
theorem x_C_length_1 {ls st : List Value} {a : Nat} {I : MI} {J : MJ} {R : MR} {S : Sh} {Q : SkQ} (ha : S.1 a = 5) : Wp 149 1 ls (.ref a :: st) I J R S Q = Wp 149 4 ls (.int (I a 1) :: st) I J R S Q := o_getfieldI (show sk_lkF (sk_cl 149) 19 = some (5, 1, 0, 0, 0) by decide +kernel) k_C_length_1 ha
theorem k_C_length_4 : decode (sk_by 149) 4 = .ok (.ireturn, 1) := by decide +kernel
theorem x_C_length_4 {ls : List Value} {v : Int32} {I : MI} {J : MJ} {R : MR} {S : Sh} {Q : SkQ} : Wp 149 4 ls [.int v] I J R S Q = Q 0 (some (.int v)) I J R S := o_ireturn k_C_length_4 rfl
