theorem k_Jm_max_0 : decode (sk_by 250) 0 = .ok (.iload_n 0, 1) := by decide +kernel
theorem x_Jm_max_0 {st : List Value} {l1 : Int32} {x : Int32} {I : MI} {J : MJ} {R : MR} {S : Sh} {Q : SkQ} : Wp 250 0 [.int x, .int l1] st I J R S Q = Wp 250 1 [.int x, .int l1] (.int x :: st) I J R S Q := o_iload_n rfl k_Jm_max_0
theorem k_Jm_max_1 : decode (sk_by 250) 1 = .ok (.iload_n 1, 1) := by decide +kernel
theorem x_Jm_max_1 {st : List Value} {l0 : Int32} {x : Int32} {I : MI} {J : MJ} {R : MR} {S : Sh} {Q : SkQ} : Wp 250 1 [.int l0, .int x] st I J R S Q = Wp 250 2 [.int l0, .int x] (.int x :: st) I J R S Q := o_iload_n rfl k_Jm_max_1
theorem k_Jm_max_2 : decode (sk_by 250) 2 = .ok (.if_icmp .lt 7, 3) := by decide +kernel
theorem x_Jm_max_2 {ls st : List Value} {x y : Int32} {I : MI} {J : MJ} {R : MR} {S : Sh} {Q : SkQ} : Wp 250 2 ls (.int y :: .int x :: st) I J R S Q = if x < y then Wp 250 9 ls st I J R S Q else Wp 250 5 ls st I J R S Q := o_ic_lt rfl rfl k_Jm_max_2
theorem k_Jm_max_5 : decode (sk_by 250) 5 = .ok (.iload_n 0, 1) := by decide +kernel
theorem x_Jm_max_5 {st : List Value} {l1 : Int32} {x : Int32} {I : MI} {J : MJ} {R : MR} {S : Sh} {Q : SkQ} : Wp 250 5 [.int x, .int l1] st I J R S Q = Wp 250 6 [.int x, .int l1] (.int x :: st) I J R S Q := o_iload_n rfl k_Jm_max_5
theorem k_Jm_max_6 : decode (sk_by 250) 6 = .ok (.goto 4, 3) := by decide +kernel
theorem x_Jm_max_6 {ls st : List Value} {I : MI} {J : MJ} {R : MR} {S : Sh} {Q : SkQ} : Wp 250 6 ls st I J R S Q = Wp 250 10 ls st I J R S Q := o_goto rfl rfl k_Jm_max_6
theorem k_Jm_max_9 : decode (sk_by 250) 9 = .ok (.iload_n 1, 1) := by decide +kernel
theorem x_Jm_max_9 {st : List Value} {l0 : Int32} {x : Int32} {I : MI} {J : MJ} {R : MR} {S : Sh} {Q : SkQ} : Wp 250 9 [.int l0, .int x] st I J R S Q = Wp 250 10 [.int l0, .int x] (.int x :: st) I J R S Q := o_iload_n rfl k_Jm_max_9
theorem k_Jm_max_10 : decode (sk_by 250) 10 = .ok (.ireturn, 1) := by decide +kernel
theorem x_Jm_max_10 {ls : List Value} {v : Int32} {I : MI} {J : MJ} {R : MR} {S : Sh} {Q : SkQ} : Wp 250 10 ls [.int v] I J R S Q = Q 0 (some (.int v)) I J R S := o_ireturn k_Jm_max_10 rfl
theorem k_Jm_min_0 : decode (sk_by 251) 0 = .ok (.iload_n 0, 1) := by decide +kernel
theorem x_Jm_min_0 {st : List Value} {l1 : Int32} {x : Int32} {I : MI} {J : MJ} {R : MR} {S : Sh} {Q : SkQ} : Wp 251 0 [.int x, .int l1] st I J R S Q = Wp 251 1 [.int x, .int l1] (.int x :: st) I J R S Q := o_iload_n rfl k_Jm_min_0
theorem k_Jm_min_1 : decode (sk_by 251) 1 = .ok (.iload_n 1, 1) := by decide +kernel
theorem x_Jm_min_1 {st : List Value} {l0 : Int32} {x : Int32} {I : MI} {J : MJ} {R : MR} {S : Sh} {Q : SkQ} : Wp 251 1 [.int l0, .int x] st I J R S Q = Wp 251 2 [.int l0, .int x] (.int x :: st) I J R S Q := o_iload_n rfl k_Jm_min_1
theorem k_Jm_min_2 : decode (sk_by 251) 2 = .ok (.if_icmp .gt 7, 3) := by decide +kernel
theorem x_Jm_min_2 {ls st : List Value} {x y : Int32} {I : MI} {J : MJ} {R : MR} {S : Sh} {Q : SkQ} : Wp 251 2 ls (.int y :: .int x :: st) I J R S Q = if y < x then Wp 251 9 ls st I J R S Q else Wp 251 5 ls st I J R S Q := o_ic_gt rfl rfl k_Jm_min_2
theorem k_Jm_min_5 : decode (sk_by 251) 5 = .ok (.iload_n 0, 1) := by decide +kernel
theorem x_Jm_min_5 {st : List Value} {l1 : Int32} {x : Int32} {I : MI} {J : MJ} {R : MR} {S : Sh} {Q : SkQ} : Wp 251 5 [.int x, .int l1] st I J R S Q = Wp 251 6 [.int x, .int l1] (.int x :: st) I J R S Q := o_iload_n rfl k_Jm_min_5
theorem k_Jm_min_6 : decode (sk_by 251) 6 = .ok (.goto 4, 3) := by decide +kernel
theorem x_Jm_min_6 {ls st : List Value} {I : MI} {J : MJ} {R : MR} {S : Sh} {Q : SkQ} : Wp 251 6 ls st I J R S Q = Wp 251 10 ls st I J R S Q := o_goto rfl rfl k_Jm_min_6
theorem k_Jm_min_9 : decode (sk_by 251) 9 = .ok (.iload_n 1, 1) := by decide +kernel
theorem x_Jm_min_9 {st : List Value} {l0 : Int32} {x : Int32} {I : MI} {J : MJ} {R : MR} {S : Sh} {Q : SkQ} : Wp 251 9 [.int l0, .int x] st I J R S Q = Wp 251 10 [.int l0, .int x] (.int x :: st) I J R S Q := o_iload_n rfl k_Jm_min_9
theorem k_Jm_min_10 : decode (sk_by 251) 10 = .ok (.ireturn, 1) := by decide +kernel
theorem x_Jm_min_10 {ls : List Value} {v : Int32} {I : MI} {J : MJ} {R : MR} {S : Sh} {Q : SkQ} : Wp 251 10 ls [.int v] I J R S Q = Q 0 (some (.int v)) I J R S := o_ireturn k_Jm_min_10 rfl
theorem k_Js_length_0 : decode (sk_by 254) 0 = .ok (.aload_n 0, 1) := by decide +kernel
theorem x_Js_length_0 {st : List Value} {x : Nat} {I : MI} {J : MJ} {R : MR} {S : Sh} {Q : SkQ} : Wp 254 0 [.ref x] st I J R S Q = Wp 254 1 [.ref x] (.ref x :: st) I J R S Q := o_aload_n rfl k_Js_length_0
theorem k_Js_length_1 : decode (sk_by 254) 1 = .ok (.getfield 9, 3) := by decide +kernel
theorem x_Js_length_1 {ls st : List Value} {a : Nat} {I : MI} {J : MJ} {R : MR} {S : Sh} {Q : SkQ} (ha : S.1 a = 21) : Wp 254 1 ls (.ref a :: st) I J R S Q = Wp 254 4 ls (R a 0 :: st) I J R S Q := o_getfieldR (show sk_lkF (sk_cl 254) 9 = some (21, 0, 2, 1, 0) by decide +kernel) k_Js_length_1 ha
theorem k_Js_length_4 : decode (sk_by 254) 4 = .ok (.arraylength, 1) := by decide +kernel
theorem x_Js_length_4 {ls st : List Value} {a : Nat} {I : MI} {J : MJ} {R : MR} {S : Sh} {Q : SkQ} (ha : isArr (S.1 a) = true) : Wp 254 4 ls (.ref a :: st) I J R S Q = Wp 254 5 ls (.int (nI (S.2.1 a)) :: st) I J R S Q := o_arraylength k_Js_length_4 ha
theorem k_Js_length_5 : decode (sk_by 254) 5 = .ok (.aload_n 0, 1) := by decide +kernel
theorem x_Js_length_5 {st : List Value} {x : Nat} {I : MI} {J : MJ} {R : MR} {S : Sh} {Q : SkQ} : Wp 254 5 [.ref x] st I J R S Q = Wp 254 6 [.ref x] (.ref x :: st) I J R S Q := o_aload_n rfl k_Js_length_5
theorem k_Js_length_6 : decode (sk_by 254) 6 = .ok (.invokevirtual 335, 3) := by decide +kernel
theorem x_Js_length_6 {ls : List Value} {a0 : Nat} {s0 : Int32} {I : MI} {J : MJ} {R : MR} {S : Sh} {Q : SkQ} (ha : S.1 a0 = 21) : Wp 254 6 ls (.ref a0 :: [.int s0]) I J R S Q = Wp 256 0 [.ref a0] [] I J R S (Ret 254 6 9 256 ls [.int s0] Q) := o_call (as := [.ref a0]) (rest := [.int s0]) (show sk_lkM (sk_cl 254) 335 = some 256 by decide +kernel) (by decide) (by decide) (by (decide +kernel)) (ins := .invokevirtual 335) (by (decide +kernel)) k_Js_length_6 rfl (show 1 = sk_na 256 by (decide +kernel)) (Nat.le_of_ble_eq_true rfl) (Nat.le_trans (show (argL [.ref a0]).length ≤ 1 from Nat.le_of_ble_eq_true rfl) (by (decide +kernel))) (rcv_of (by (decide +kernel)) (by decide) ha)
theorem k_Js_length_9 : decode (sk_by 254) 9 = .ok (.ishr, 1) := by decide +kernel
theorem x_Js_length_9 {ls st : List Value} {x y : Int32} {I : MI} {J : MJ} {R : MR} {S : Sh} {Q : SkQ} : Wp 254 9 ls (.int y :: .int x :: st) I J R S Q = Wp 254 10 ls (.int (x >>> (y &&& 31)) :: st) I J R S Q := o_ishr k_Js_length_9
theorem k_Js_length_10 : decode (sk_by 254) 10 = .ok (.ireturn, 1) := by decide +kernel
theorem x_Js_length_10 {ls : List Value} {v : Int32} {I : MI} {J : MJ} {R : MR} {S : Sh} {Q : SkQ} : Wp 254 10 ls [.int v] I J R S Q = Q 0 (some (.int v)) I J R S := o_ireturn k_Js_length_10 rfl
theorem k_Js_charAt_0 : decode (sk_by 255) 0 = .ok (.aload_n 0, 1) := by decide +kernel
theorem x_Js_charAt_0 {st : List Value} {l1 : Int32} {x : Nat} {I : MI} {J : MJ} {R : MR} {S : Sh} {Q : SkQ} : Wp 255 0 [.ref x, .int l1] st I J R S Q = Wp 255 1 [.ref x, .int l1] (.ref x :: st) I J R S Q := o_aload_n rfl k_Js_charAt_0
theorem k_Js_charAt_1 : decode (sk_by 255) 1 = .ok (.invokevirtual 492, 3) := by decide +kernel
theorem x_Js_charAt_1 {ls : List Value} {a0 : Nat} {I : MI} {J : MJ} {R : MR} {S : Sh} {Q : SkQ} (ha : S.1 a0 = 21) : Wp 255 1 ls (.ref a0 :: []) I J R S Q = Wp 257 0 [.ref a0] [] I J R S (Ret 255 1 4 257 ls [] Q) := o_call (as := [.ref a0]) (rest := []) (show sk_lkM (sk_cl 255) 492 = some 257 by decide +kernel) (by decide) (by decide) (by (decide +kernel)) (ins := .invokevirtual 492) (by (decide +kernel)) k_Js_charAt_1 rfl (show 1 = sk_na 257 by (decide +kernel)) (Nat.le_of_ble_eq_true rfl) (Nat.le_trans (show (argL [.ref a0]).length ≤ 1 from Nat.le_of_ble_eq_true rfl) (by (decide +kernel))) (rcv_of (by (decide +kernel)) (by decide) ha)
theorem k_Js_charAt_4 : decode (sk_by 255) 4 = .ok (.ifCond .eq 12, 3) := by decide +kernel
theorem x_Js_charAt_4 {ls st : List Value} {x : Int32} {I : MI} {J : MJ} {R : MR} {S : Sh} {Q : SkQ} : Wp 255 4 ls (.int x :: st) I J R S Q = if x = 0 then Wp 255 16 ls st I J R S Q else Wp 255 7 ls st I J R S Q := o_if_eq rfl rfl k_Js_charAt_4
theorem k_Js_charAt_7 : decode (sk_by 255) 7 = .ok (.aload_n 0, 1) := by decide +kernel
theorem x_Js_charAt_7 {st : List Value} {l1 : Int32} {x : Nat} {I : MI} {J : MJ} {R : MR} {S : Sh} {Q : SkQ} : Wp 255 7 [.ref x, .int l1] st I J R S Q = Wp 255 8 [.ref x, .int l1] (.ref x :: st) I J R S Q := o_aload_n rfl k_Js_charAt_7
theorem k_Js_charAt_8 : decode (sk_by 255) 8 = .ok (.getfield 9, 3) := by decide +kernel
theorem x_Js_charAt_8 {ls st : List Value} {a : Nat} {I : MI} {J : MJ} {R : MR} {S : Sh} {Q : SkQ} (ha : S.1 a = 21) : Wp 255 8 ls (.ref a :: st) I J R S Q = Wp 255 11 ls (R a 0 :: st) I J R S Q := o_getfieldR (show sk_lkF (sk_cl 255) 9 = some (21, 0, 2, 1, 0) by decide +kernel) k_Js_charAt_8 ha
theorem k_Js_charAt_11 : decode (sk_by 255) 11 = .ok (.iload_n 1, 1) := by decide +kernel
theorem x_Js_charAt_11 {st : List Value} {l0 : Nat} {x : Int32} {I : MI} {J : MJ} {R : MR} {S : Sh} {Q : SkQ} : Wp 255 11 [.ref l0, .int x] st I J R S Q = Wp 255 12 [.ref l0, .int x] (.int x :: st) I J R S Q := o_iload_n rfl k_Js_charAt_11
theorem k_Js_charAt_12 : decode (sk_by 255) 12 = .ok (.invokestatic 495, 3) := by decide +kernel
theorem x_Js_charAt_12 {ls : List Value} {a0 : Nat} {a1 : Int32} {I : MI} {J : MJ} {R : MR} {S : Sh} {Q : SkQ} : Wp 255 12 ls (.int a1 :: .ref a0 :: []) I J R S Q = Wp 259 0 [.ref a0, .int a1] [] I J R S (Ret 255 12 15 259 ls [] Q) := o_call (as := [.ref a0, .int a1]) (rest := []) (show sk_lkM (sk_cl 255) 495 = some 259 by decide +kernel) (by decide) (by decide) (by (decide +kernel)) (ins := .invokestatic 495) (by (decide +kernel)) k_Js_charAt_12 rfl (show 2 = sk_na 259 by (decide +kernel)) (Nat.le_of_ble_eq_true rfl) (Nat.le_trans (show (argL [.ref a0, .int a1]).length ≤ 2 from Nat.le_of_ble_eq_true rfl) (by (decide +kernel))) rfl
theorem k_Js_charAt_15 : decode (sk_by 255) 15 = .ok (.ireturn, 1) := by decide +kernel
theorem x_Js_charAt_15 {ls : List Value} {v : Int32} {I : MI} {J : MJ} {R : MR} {S : Sh} {Q : SkQ} (h : rOk (some .char) v = true) : Wp 255 15 ls [.int v] I J R S Q = Q 0 (some (.int v)) I J R S := o_ireturn k_Js_charAt_15 (by rw [show sk_rt 255 = some .char from rfl]; exact h)
theorem k_Js_charAt_16 : decode (sk_by 255) 16 = .ok (.aload_n 0, 1) := by decide +kernel
theorem x_Js_charAt_16 {st : List Value} {l1 : Int32} {x : Nat} {I : MI} {J : MJ} {R : MR} {S : Sh} {Q : SkQ} : Wp 255 16 [.ref x, .int l1] st I J R S Q = Wp 255 17 [.ref x, .int l1] (.ref x :: st) I J R S Q := o_aload_n rfl k_Js_charAt_16
theorem k_Js_charAt_17 : decode (sk_by 255) 17 = .ok (.getfield 9, 3) := by decide +kernel
theorem x_Js_charAt_17 {ls st : List Value} {a : Nat} {I : MI} {J : MJ} {R : MR} {S : Sh} {Q : SkQ} (ha : S.1 a = 21) : Wp 255 17 ls (.ref a :: st) I J R S Q = Wp 255 20 ls (R a 0 :: st) I J R S Q := o_getfieldR (show sk_lkF (sk_cl 255) 9 = some (21, 0, 2, 1, 0) by decide +kernel) k_Js_charAt_17 ha
theorem k_Js_charAt_20 : decode (sk_by 255) 20 = .ok (.iload_n 1, 1) := by decide +kernel
theorem x_Js_charAt_20 {st : List Value} {l0 : Nat} {x : Int32} {I : MI} {J : MJ} {R : MR} {S : Sh} {Q : SkQ} : Wp 255 20 [.ref l0, .int x] st I J R S Q = Wp 255 21 [.ref l0, .int x] (.int x :: st) I J R S Q := o_iload_n rfl k_Js_charAt_20
theorem k_Js_charAt_21 : decode (sk_by 255) 21 = .ok (.invokestatic 498, 3) := by decide +kernel
theorem k_Js_coder_0 : decode (sk_by 256) 0 = .ok (.getstatic 38, 3) := by decide +kernel
theorem x_Js_coder_0 {ls st : List Value} {I : MI} {J : MJ} {R : MR} {S : Sh} {Q : SkQ} : Wp 256 0 ls st I J R S Q = Wp 256 3 ls (.int 1 :: st) I J R S Q := o_getstatic (show sk_lkS (sk_cl 256) 38 = some 2 by decide +kernel) rfl k_Js_coder_0
theorem k_Js_coder_3 : decode (sk_by 256) 3 = .ok (.ifCond .eq 10, 3) := by decide +kernel
theorem x_Js_coder_3 {ls st : List Value} {x : Int32} {I : MI} {J : MJ} {R : MR} {S : Sh} {Q : SkQ} : Wp 256 3 ls (.int x :: st) I J R S Q = if x = 0 then Wp 256 13 ls st I J R S Q else Wp 256 6 ls st I J R S Q := o_if_eq rfl rfl k_Js_coder_3
theorem k_Js_coder_6 : decode (sk_by 256) 6 = .ok (.aload_n 0, 1) := by decide +kernel
theorem x_Js_coder_6 {st : List Value} {x : Nat} {I : MI} {J : MJ} {R : MR} {S : Sh} {Q : SkQ} : Wp 256 6 [.ref x] st I J R S Q = Wp 256 7 [.ref x] (.ref x :: st) I J R S Q := o_aload_n rfl k_Js_coder_6
theorem k_Js_coder_7 : decode (sk_by 256) 7 = .ok (.getfield 15, 3) := by decide +kernel
theorem x_Js_coder_7 {ls st : List Value} {a : Nat} {I : MI} {J : MJ} {R : MR} {S : Sh} {Q : SkQ} (ha : S.1 a = 21) : Wp 256 7 ls (.ref a :: st) I J R S Q = Wp 256 10 ls (.int (I a 1) :: st) I J R S Q := o_getfieldB (show sk_lkF (sk_cl 256) 15 = some (21, 1, 4, 1, 0) by decide +kernel) k_Js_coder_7 ha
theorem k_Js_coder_10 : decode (sk_by 256) 10 = .ok (.goto 4, 3) := by decide +kernel
theorem x_Js_coder_10 {ls st : List Value} {I : MI} {J : MJ} {R : MR} {S : Sh} {Q : SkQ} : Wp 256 10 ls st I J R S Q = Wp 256 14 ls st I J R S Q := o_goto rfl rfl k_Js_coder_10
theorem k_Js_coder_13 : decode (sk_by 256) 13 = .ok (.iconst 1, 1) := by decide +kernel
theorem x_Js_coder_13 {ls st : List Value} {I : MI} {J : MJ} {R : MR} {S : Sh} {Q : SkQ} : Wp 256 13 ls st I J R S Q = Wp 256 14 ls (.int 1 :: st) I J R S Q := o_const (by decide) k_Js_coder_13
theorem k_Js_coder_14 : decode (sk_by 256) 14 = .ok (.ireturn, 1) := by decide +kernel
theorem x_Js_coder_14 {ls : List Value} {v : Int32} {I : MI} {J : MJ} {R : MR} {S : Sh} {Q : SkQ} (h : rOk (some .byte) v = true) : Wp 256 14 ls [.int v] I J R S Q = Q 0 (some (.int v)) I J R S := o_ireturn k_Js_coder_14 (by rw [show sk_rt 256 = some .byte from rfl]; exact h)
theorem k_Js_isLatin1_0 : decode (sk_by 257) 0 = .ok (.getstatic 38, 3) := by decide +kernel
theorem x_Js_isLatin1_0 {ls st : List Value} {I : MI} {J : MJ} {R : MR} {S : Sh} {Q : SkQ} : Wp 257 0 ls st I J R S Q = Wp 257 3 ls (.int 1 :: st) I J R S Q := o_getstatic (show sk_lkS (sk_cl 257) 38 = some 2 by decide +kernel) rfl k_Js_isLatin1_0
theorem k_Js_isLatin1_3 : decode (sk_by 257) 3 = .ok (.ifCond .eq 14, 3) := by decide +kernel
theorem x_Js_isLatin1_3 {ls st : List Value} {x : Int32} {I : MI} {J : MJ} {R : MR} {S : Sh} {Q : SkQ} : Wp 257 3 ls (.int x :: st) I J R S Q = if x = 0 then Wp 257 17 ls st I J R S Q else Wp 257 6 ls st I J R S Q := o_if_eq rfl rfl k_Js_isLatin1_3
theorem k_Js_isLatin1_6 : decode (sk_by 257) 6 = .ok (.aload_n 0, 1) := by decide +kernel
theorem x_Js_isLatin1_6 {st : List Value} {x : Nat} {I : MI} {J : MJ} {R : MR} {S : Sh} {Q : SkQ} : Wp 257 6 [.ref x] st I J R S Q = Wp 257 7 [.ref x] (.ref x :: st) I J R S Q := o_aload_n rfl k_Js_isLatin1_6
theorem k_Js_isLatin1_7 : decode (sk_by 257) 7 = .ok (.getfield 15, 3) := by decide +kernel
theorem x_Js_isLatin1_7 {ls st : List Value} {a : Nat} {I : MI} {J : MJ} {R : MR} {S : Sh} {Q : SkQ} (ha : S.1 a = 21) : Wp 257 7 ls (.ref a :: st) I J R S Q = Wp 257 10 ls (.int (I a 1) :: st) I J R S Q := o_getfieldB (show sk_lkF (sk_cl 257) 15 = some (21, 1, 4, 1, 0) by decide +kernel) k_Js_isLatin1_7 ha
theorem k_Js_isLatin1_10 : decode (sk_by 257) 10 = .ok (.ifCond .ne 7, 3) := by decide +kernel
theorem x_Js_isLatin1_10 {ls st : List Value} {x : Int32} {I : MI} {J : MJ} {R : MR} {S : Sh} {Q : SkQ} : Wp 257 10 ls (.int x :: st) I J R S Q = if x = 0 then Wp 257 13 ls st I J R S Q else Wp 257 17 ls st I J R S Q := o_if_ne rfl rfl k_Js_isLatin1_10
theorem k_Js_isLatin1_13 : decode (sk_by 257) 13 = .ok (.iconst 1, 1) := by decide +kernel
theorem x_Js_isLatin1_13 {ls st : List Value} {I : MI} {J : MJ} {R : MR} {S : Sh} {Q : SkQ} : Wp 257 13 ls st I J R S Q = Wp 257 14 ls (.int 1 :: st) I J R S Q := o_const (by decide) k_Js_isLatin1_13
theorem k_Js_isLatin1_14 : decode (sk_by 257) 14 = .ok (.goto 4, 3) := by decide +kernel
theorem x_Js_isLatin1_14 {ls st : List Value} {I : MI} {J : MJ} {R : MR} {S : Sh} {Q : SkQ} : Wp 257 14 ls st I J R S Q = Wp 257 18 ls st I J R S Q := o_goto rfl rfl k_Js_isLatin1_14
theorem k_Js_isLatin1_17 : decode (sk_by 257) 17 = .ok (.iconst 0, 1) := by decide +kernel
theorem x_Js_isLatin1_17 {ls st : List Value} {I : MI} {J : MJ} {R : MR} {S : Sh} {Q : SkQ} : Wp 257 17 ls st I J R S Q = Wp 257 18 ls (.int 0 :: st) I J R S Q := o_const (by decide) k_Js_isLatin1_17
theorem k_Js_isLatin1_18 : decode (sk_by 257) 18 = .ok (.ireturn, 1) := by decide +kernel
theorem x_Js_isLatin1_18 {ls : List Value} {v : Int32} {I : MI} {J : MJ} {R : MR} {S : Sh} {Q : SkQ} (h : rOk (some .boolean) v = true) : Wp 257 18 ls [.int v] I J R S Q = Q 0 (some (.int v)) I J R S := o_ireturn k_Js_isLatin1_18 (by rw [show sk_rt 257 = some .boolean from rfl]; exact h)
theorem k_Js_checkIndex_0 : decode (sk_by 258) 0 = .ok (.iload_n 0, 1) := by decide +kernel
theorem x_Js_checkIndex_0 {st : List Value} {l1 : Int32} {x : Int32} {I : MI} {J : MJ} {R : MR} {S : Sh} {Q : SkQ} : Wp 258 0 [.int x, .int l1] st I J R S Q = Wp 258 1 [.int x, .int l1] (.int x :: st) I J R S Q := o_iload_n rfl k_Js_checkIndex_0
theorem k_Js_checkIndex_1 : decode (sk_by 258) 1 = .ok (.iload_n 1, 1) := by decide +kernel
theorem x_Js_checkIndex_1 {st : List Value} {l0 : Int32} {x : Int32} {I : MI} {J : MJ} {R : MR} {S : Sh} {Q : SkQ} : Wp 258 1 [.int l0, .int x] st I J R S Q = Wp 258 2 [.int l0, .int x] (.int x :: st) I J R S Q := o_iload_n rfl k_Js_checkIndex_1
theorem k_Js_checkIndex_2 : decode (sk_by 258) 2 = .ok (.getstatic 1053, 3) := by decide +kernel
theorem x_Js_checkIndex_2 {ls st : List Value} {I : MI} {J : MJ} {R : MR} {S : Sh} {Q : SkQ} : Wp 258 2 ls st I J R S Q = Wp 258 5 ls (.retAddr 7 :: st) I J R S Q := o_getstatic (show sk_lkS (sk_cl 258) 1053 = some 3 by decide +kernel) rfl k_Js_checkIndex_2
theorem k_Js_checkIndex_5 : decode (sk_by 258) 5 = .ok (.invokestatic 1059, 3) := by decide +kernel
theorem x_Js_checkIndex_5 {ls : List Value} {a0 : Int32} {a1 : Int32} {I : MI} {J : MJ} {R : MR} {S : Sh} {Q : SkQ} : Wp 258 5 ls (.retAddr 7 :: .int a1 :: .int a0 :: []) I J R S Q = Wp 260 0 [.int a0, .int a1, .retAddr 7] [] I J R S (Ret 258 5 8 260 ls [] Q) := o_call (as := [.int a0, .int a1, .retAddr 7]) (rest := []) (show sk_lkM (sk_cl 258) 1059 = some 260 by decide +kernel) (by decide) (by decide) (by (decide +kernel)) (ins := .invokestatic 1059) (by (decide +kernel)) k_Js_checkIndex_5 rfl (show 3 = sk_na 260 by (decide +kernel)) (Nat.le_of_ble_eq_true rfl) (Nat.le_trans (show (argL [.int a0, .int a1, .retAddr 7]).length ≤ 3 from Nat.le_of_ble_eq_true rfl) (by (decide +kernel))) rfl
theorem k_Js_checkIndex_8 : decode (sk_by 258) 8 = .ok (.pop, 1) := by decide +kernel
theorem x_Js_checkIndex_8 {ls st : List Value} {x : Int32} {I : MI} {J : MJ} {R : MR} {S : Sh} {Q : SkQ} : Wp 258 8 ls (.int x :: st) I J R S Q = Wp 258 9 ls st I J R S Q := o_popI k_Js_checkIndex_8
theorem k_Js_checkIndex_9 : decode (sk_by 258) 9 = .ok (.return_, 1) := by decide +kernel
theorem x_Js_checkIndex_9 {ls : List Value} {I : MI} {J : MJ} {R : MR} {S : Sh} {Q : SkQ} : Wp 258 9 ls [] I J R S Q = Q 0 none I J R S := o_return (by (decide +kernel)) k_Js_checkIndex_9
theorem k_Jl_charAt_0 : decode (sk_by 259) 0 = .ok (.iload_n 1, 1) := by decide +kernel
theorem x_Jl_charAt_0 {st : List Value} {l0 : Nat} {x : Int32} {I : MI} {J : MJ} {R : MR} {S : Sh} {Q : SkQ} : Wp 259 0 [.ref l0, .int x] st I J R S Q = Wp 259 1 [.ref l0, .int x] (.int x :: st) I J R S Q := o_iload_n rfl k_Jl_charAt_0
theorem k_Jl_charAt_1 : decode (sk_by 259) 1 = .ok (.aload_n 0, 1) := by decide +kernel
theorem x_Jl_charAt_1 {st : List Value} {l1 : Int32} {x : Nat} {I : MI} {J : MJ} {R : MR} {S : Sh} {Q : SkQ} : Wp 259 1 [.ref x, .int l1] st I J R S Q = Wp 259 2 [.ref x, .int l1] (.ref x :: st) I J R S Q := o_aload_n rfl k_Jl_charAt_1
theorem k_Jl_charAt_2 : decode (sk_by 259) 2 = .ok (.arraylength, 1) := by decide +kernel
theorem x_Jl_charAt_2 {ls st : List Value} {a : Nat} {I : MI} {J : MJ} {R : MR} {S : Sh} {Q : SkQ} (ha : isArr (S.1 a) = true) : Wp 259 2 ls (.ref a :: st) I J R S Q = Wp 259 3 ls (.int (nI (S.2.1 a)) :: st) I J R S Q := o_arraylength k_Jl_charAt_2 ha
theorem k_Jl_charAt_3 : decode (sk_by 259) 3 = .ok (.invokestatic 9, 3) := by decide +kernel
theorem x_Jl_charAt_3 {ls : List Value} {a0 : Int32} {a1 : Int32} {I : MI} {J : MJ} {R : MR} {S : Sh} {Q : SkQ} : Wp 259 3 ls (.int a1 :: .int a0 :: []) I J R S Q = Wp 258 0 [.int a0, .int a1] [] I J R S (Ret 259 3 6 258 ls [] Q) := o_call (as := [.int a0, .int a1]) (rest := []) (show sk_lkM (sk_cl 259) 9 = some 258 by decide +kernel) (by decide) (by decide) (by (decide +kernel)) (ins := .invokestatic 9) (by (decide +kernel)) k_Jl_charAt_3 rfl (show 2 = sk_na 258 by (decide +kernel)) (Nat.le_of_ble_eq_true rfl) (Nat.le_trans (show (argL [.int a0, .int a1]).length ≤ 2 from Nat.le_of_ble_eq_true rfl) (by (decide +kernel))) rfl
theorem k_Jl_charAt_6 : decode (sk_by 259) 6 = .ok (.aload_n 0, 1) := by decide +kernel
theorem x_Jl_charAt_6 {st : List Value} {l1 : Int32} {x : Nat} {I : MI} {J : MJ} {R : MR} {S : Sh} {Q : SkQ} : Wp 259 6 [.ref x, .int l1] st I J R S Q = Wp 259 7 [.ref x, .int l1] (.ref x :: st) I J R S Q := o_aload_n rfl k_Jl_charAt_6
theorem k_Jl_charAt_7 : decode (sk_by 259) 7 = .ok (.iload_n 1, 1) := by decide +kernel
theorem x_Jl_charAt_7 {st : List Value} {l0 : Nat} {x : Int32} {I : MI} {J : MJ} {R : MR} {S : Sh} {Q : SkQ} : Wp 259 7 [.ref l0, .int x] st I J R S Q = Wp 259 8 [.ref l0, .int x] (.int x :: st) I J R S Q := o_iload_n rfl k_Jl_charAt_7
theorem k_Jl_charAt_8 : decode (sk_by 259) 8 = .ok (.baload, 1) := by decide +kernel
theorem x_Jl_charAt_8 {ls st : List Value} {a : Nat} {i : Int32} {I : MI} {J : MJ} {R : MR} {S : Sh} {Q : SkQ} (ha : S.1 a = 42) (hi : inb i (S.2.1 a) = true) : Wp 259 8 ls (.int i :: .ref a :: st) I J R S Q = Wp 259 9 ls (.int (I a (ix i)) :: st) I J R S Q := o_baload k_Jl_charAt_8 ha hi
theorem k_Jl_charAt_9 : decode (sk_by 259) 9 = .ok (.sipush 255, 3) := by decide +kernel
theorem x_Jl_charAt_9 {ls st : List Value} {I : MI} {J : MJ} {R : MR} {S : Sh} {Q : SkQ} : Wp 259 9 ls st I J R S Q = Wp 259 12 ls (.int 255 :: st) I J R S Q := o_si (by decide) k_Jl_charAt_9
theorem k_Jl_charAt_12 : decode (sk_by 259) 12 = .ok (.iand, 1) := by decide +kernel
theorem x_Jl_charAt_12 {ls st : List Value} {x y : Int32} {I : MI} {J : MJ} {R : MR} {S : Sh} {Q : SkQ} : Wp 259 12 ls (.int y :: .int x :: st) I J R S Q = Wp 259 13 ls (.int (x &&& y) :: st) I J R S Q := o_iand k_Jl_charAt_12
theorem k_Jl_charAt_13 : decode (sk_by 259) 13 = .ok (.i2c, 1) := by decide +kernel
theorem x_Jl_charAt_13 {ls st : List Value} {x : Int32} {I : MI} {J : MJ} {R : MR} {S : Sh} {Q : SkQ} : Wp 259 13 ls (.int x :: st) I J R S Q = Wp 259 14 ls (.int (x.toUInt32 % 65536).toInt32 :: st) I J R S Q := o_i2c k_Jl_charAt_13
theorem k_Jl_charAt_14 : decode (sk_by 259) 14 = .ok (.ireturn, 1) := by decide +kernel
theorem x_Jl_charAt_14 {ls : List Value} {v : Int32} {I : MI} {J : MJ} {R : MR} {S : Sh} {Q : SkQ} (h : rOk (some .char) v = true) : Wp 259 14 ls [.int v] I J R S Q = Q 0 (some (.int v)) I J R S := o_ireturn k_Jl_charAt_14 (by rw [show sk_rt 259 = some .char from rfl]; exact h)
theorem k_Jp_checkIndex_0 : decode (sk_by 260) 0 = .ok (.iload_n 0, 1) := by decide +kernel
theorem x_Jp_checkIndex_0 {st : List Value} {l1 : Int32} {l2 : Nat} {x : Int32} {I : MI} {J : MJ} {R : MR} {S : Sh} {Q : SkQ} : Wp 260 0 [.int x, .int l1, .ref l2] st I J R S Q = Wp 260 1 [.int x, .int l1, .ref l2] (.int x :: st) I J R S Q := o_iload_n rfl k_Jp_checkIndex_0
theorem k_Jp_checkIndex_1 : decode (sk_by 260) 1 = .ok (.ifCond .lt 8, 3) := by decide +kernel
theorem x_Jp_checkIndex_1 {ls st : List Value} {x : Int32} {I : MI} {J : MJ} {R : MR} {S : Sh} {Q : SkQ} : Wp 260 1 ls (.int x :: st) I J R S Q = if x < 0 then Wp 260 9 ls st I J R S Q else Wp 260 4 ls st I J R S Q := o_if_lt rfl rfl k_Jp_checkIndex_1
theorem k_Jp_checkIndex_4 : decode (sk_by 260) 4 = .ok (.iload_n 0, 1) := by decide +kernel
theorem x_Jp_checkIndex_4 {st : List Value} {l1 : Int32} {l2 : Nat} {x : Int32} {I : MI} {J : MJ} {R : MR} {S : Sh} {Q : SkQ} : Wp 260 4 [.int x, .int l1, .ref l2] st I J R S Q = Wp 260 5 [.int x, .int l1, .ref l2] (.int x :: st) I J R S Q := o_iload_n rfl k_Jp_checkIndex_4
theorem k_Jp_checkIndex_5 : decode (sk_by 260) 5 = .ok (.iload_n 1, 1) := by decide +kernel
theorem x_Jp_checkIndex_5 {st : List Value} {l0 : Int32} {l2 : Nat} {x : Int32} {I : MI} {J : MJ} {R : MR} {S : Sh} {Q : SkQ} : Wp 260 5 [.int l0, .int x, .ref l2] st I J R S Q = Wp 260 6 [.int l0, .int x, .ref l2] (.int x :: st) I J R S Q := o_iload_n rfl k_Jp_checkIndex_5
theorem k_Jp_checkIndex_6 : decode (sk_by 260) 6 = .ok (.if_icmp .lt 10, 3) := by decide +kernel
theorem x_Jp_checkIndex_6 {ls st : List Value} {x y : Int32} {I : MI} {J : MJ} {R : MR} {S : Sh} {Q : SkQ} : Wp 260 6 ls (.int y :: .int x :: st) I J R S Q = if x < y then Wp 260 16 ls st I J R S Q else Wp 260 9 ls st I J R S Q := o_ic_lt rfl rfl k_Jp_checkIndex_6
theorem k_Jp_checkIndex_9 : decode (sk_by 260) 9 = .ok (.aload_n 2, 1) := by decide +kernel
theorem x_Jp_checkIndex_9 {st : List Value} {l0 : Int32} {l1 : Int32} {x : Nat} {I : MI} {J : MJ} {R : MR} {S : Sh} {Q : SkQ} : Wp 260 9 [.int l0, .int l1, .ref x] st I J R S Q = Wp 260 10 [.int l0, .int l1, .ref x] (.ref x :: st) I J R S Q := o_aload_n rfl k_Jp_checkIndex_9
theorem k_Jp_checkIndex_10 : decode (sk_by 260) 10 = .ok (.iload_n 0, 1) := by decide +kernel
theorem x_Jp_checkIndex_10 {st : List Value} {l1 : Int32} {l2 : Nat} {x : Int32} {I : MI} {J : MJ} {R : MR} {S : Sh} {Q : SkQ} : Wp 260 10 [.int x, .int l1, .ref l2] st I J R S Q = Wp 260 11 [.int x, .int l1, .ref l2] (.int x :: st) I J R S Q := o_iload_n rfl k_Jp_checkIndex_10
theorem k_Jp_checkIndex_11 : decode (sk_by 260) 11 = .ok (.iload_n 1, 1) := by decide +kernel
theorem x_Jp_checkIndex_11 {st : List Value} {l0 : Int32} {l2 : Nat} {x : Int32} {I : MI} {J : MJ} {R : MR} {S : Sh} {Q : SkQ} : Wp 260 11 [.int l0, .int x, .ref l2] st I J R S Q = Wp 260 12 [.int l0, .int x, .ref l2] (.int x :: st) I J R S Q := o_iload_n rfl k_Jp_checkIndex_11
theorem k_Jp_checkIndex_12 : decode (sk_by 260) 12 = .ok (.invokestatic 95, 3) := by decide +kernel
theorem k_Jp_checkIndex_16 : decode (sk_by 260) 16 = .ok (.iload_n 0, 1) := by decide +kernel
theorem x_Jp_checkIndex_16 {st : List Value} {l1 : Int32} {l2 : Nat} {x : Int32} {I : MI} {J : MJ} {R : MR} {S : Sh} {Q : SkQ} : Wp 260 16 [.int x, .int l1, .ref l2] st I J R S Q = Wp 260 17 [.int x, .int l1, .ref l2] (.int x :: st) I J R S Q := o_iload_n rfl k_Jp_checkIndex_16
theorem k_Jp_checkIndex_17 : decode (sk_by 260) 17 = .ok (.ireturn, 1) := by decide +kernel
theorem x_Jp_checkIndex_17 {ls : List Value} {v : Int32} {I : MI} {J : MJ} {R : MR} {S : Sh} {Q : SkQ} : Wp 260 17 ls [.int v] I J R S Q = Q 0 (some (.int v)) I J R S := o_ireturn k_Jp_checkIndex_17 rfl
