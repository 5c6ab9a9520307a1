section OPS
variable {m pc : Nat} {ls st : List Value} {I : MI} {J : MJ} {R : MR} {S : Sh} {Q : SkQ}
theorem o_iconst {n : Int} (hd : decode (sk_by m) pc = .ok (.iconst n, 1)) : Wp m (pc) (ls) (st) I J R S Q = Wp m (pc + 1) (ls) (.int (Int32.ofInt n) :: st) I J R S Q := Wp_next hd rfl
theorem o_bipush {n : Int} (hd : decode (sk_by m) pc = .ok (.bipush n, 2)) : Wp m (pc) (ls) (st) I J R S Q = Wp m (pc + 2) (ls) (.int (Int8.ofInt n).toInt32 :: st) I J R S Q := Wp_next hd rfl
theorem o_sipush {n : Int} (hd : decode (sk_by m) pc = .ok (.sipush n, 3)) : Wp m (pc) (ls) (st) I J R S Q = Wp m (pc + 3) (ls) (.int (Int16.ofInt n).toInt32 :: st) I J R S Q := Wp_next hd rfl
theorem o_lconst {n : Fin 2} (hd : decode (sk_by m) pc = .ok (.lconst n, 1)) : Wp m (pc) (ls) (st) I J R S Q = Wp m (pc + 1) (ls) (.long (Int64.ofNat (n : Nat)) :: st) I J R S Q := Wp_next hd rfl
theorem o_aconst_null  (hd : decode (sk_by m) pc = .ok (.aconst_null, 1)) : Wp m (pc) (ls) (st) I J R S Q = Wp m (pc + 1) (ls) (.null :: st) I J R S Q := Wp_next hd rfl
theorem o_iadd {x y : Int32} (hd : decode (sk_by m) pc = .ok (.iadd, 1)) : Wp m (pc) (ls) (.int y :: .int x :: st) I J R S Q = Wp m (pc + 1) (ls) (.int (x + y) :: st) I J R S Q := Wp_next hd rfl
theorem o_isub {x y : Int32} (hd : decode (sk_by m) pc = .ok (.isub, 1)) : Wp m (pc) (ls) (.int y :: .int x :: st) I J R S Q = Wp m (pc + 1) (ls) (.int (x - y) :: st) I J R S Q := Wp_next hd rfl
theorem o_imul {x y : Int32} (hd : decode (sk_by m) pc = .ok (.imul, 1)) : Wp m (pc) (ls) (.int y :: .int x :: st) I J R S Q = Wp m (pc + 1) (ls) (.int (x * y) :: st) I J R S Q := Wp_next hd rfl
theorem o_iand {x y : Int32} (hd : decode (sk_by m) pc = .ok (.iand, 1)) : Wp m (pc) (ls) (.int y :: .int x :: st) I J R S Q = Wp m (pc + 1) (ls) (.int (x &&& y) :: st) I J R S Q := Wp_next hd rfl
theorem o_ior {x y : Int32} (hd : decode (sk_by m) pc = .ok (.ior, 1)) : Wp m (pc) (ls) (.int y :: .int x :: st) I J R S Q = Wp m (pc + 1) (ls) (.int (x ||| y) :: st) I J R S Q := Wp_next hd rfl
theorem o_ishl {x y : Int32} (hd : decode (sk_by m) pc = .ok (.ishl, 1)) : Wp m (pc) (ls) (.int y :: .int x :: st) I J R S Q = Wp m (pc + 1) (ls) (.int (x <<< (y &&& 31)) :: st) I J R S Q := Wp_next hd rfl
theorem o_ishr {x y : Int32} (hd : decode (sk_by m) pc = .ok (.ishr, 1)) : Wp m (pc) (ls) (.int y :: .int x :: st) I J R S Q = Wp m (pc + 1) (ls) (.int (x >>> (y &&& 31)) :: st) I J R S Q := Wp_next hd rfl
theorem o_iushr {x y : Int32} (hd : decode (sk_by m) pc = .ok (.iushr, 1)) : Wp m (pc) (ls) (.int y :: .int x :: st) I J R S Q = Wp m (pc + 1) (ls) (.int (x.toUInt32 >>> (y.toUInt32 &&& Int32.toUInt32 31)).toInt32 :: st) I J R S Q := Wp_next hd rfl
theorem o_idiv {x y : Int32} (hy : ¬ y = 0) (hd : decode (sk_by m) pc = .ok (.idiv, 1)) : Wp m (pc) (ls) (.int y :: .int x :: st) I J R S Q = Wp m (pc + 1) (ls) (.int (x / y) :: st) I J R S Q := Wp_next hd (if_neg hy)
theorem o_irem {x y : Int32} (hy : ¬ y = 0) (hd : decode (sk_by m) pc = .ok (.irem, 1)) : Wp m (pc) (ls) (.int y :: .int x :: st) I J R S Q = Wp m (pc + 1) (ls) (.int (x - x / y * y) :: st) I J R S Q := Wp_next hd (if_neg hy)
theorem o_ladd {x y : Int64} (hd : decode (sk_by m) pc = .ok (.ladd, 1)) : Wp m (pc) (ls) (.long y :: .long x :: st) I J R S Q = Wp m (pc + 1) (ls) (.long (x + y) :: st) I J R S Q := Wp_next hd rfl
theorem o_lsub {x y : Int64} (hd : decode (sk_by m) pc = .ok (.lsub, 1)) : Wp m (pc) (ls) (.long y :: .long x :: st) I J R S Q = Wp m (pc + 1) (ls) (.long (x - y) :: st) I J R S Q := Wp_next hd rfl
theorem o_lmul {x y : Int64} (hd : decode (sk_by m) pc = .ok (.lmul, 1)) : Wp m (pc) (ls) (.long y :: .long x :: st) I J R S Q = Wp m (pc + 1) (ls) (.long (x * y) :: st) I J R S Q := Wp_next hd rfl
theorem o_land {x y : Int64} (hd : decode (sk_by m) pc = .ok (.land, 1)) : Wp m (pc) (ls) (.long y :: .long x :: st) I J R S Q = Wp m (pc + 1) (ls) (.long (x &&& y) :: st) I J R S Q := Wp_next hd rfl
theorem o_lor {x y : Int64} (hd : decode (sk_by m) pc = .ok (.lor, 1)) : Wp m (pc) (ls) (.long y :: .long x :: st) I J R S Q = Wp m (pc + 1) (ls) (.long (x ||| y) :: st) I J R S Q := Wp_next hd rfl
theorem o_lshl {x : Int64} {y : Int32} (hd : decode (sk_by m) pc = .ok (.lshl, 1)) : Wp m (pc) (ls) (.int y :: .long x :: st) I J R S Q = Wp m (pc + 1) (ls) (.long (x <<< (y.toInt64 &&& 63)) :: st) I J R S Q := Wp_next hd rfl
theorem o_lshr {x : Int64} {y : Int32} (hd : decode (sk_by m) pc = .ok (.lshr, 1)) : Wp m (pc) (ls) (.int y :: .long x :: st) I J R S Q = Wp m (pc + 1) (ls) (.long (x >>> (y.toInt64 &&& 63)) :: st) I J R S Q := Wp_next hd rfl
theorem o_lcmp {x y : Int64} (hd : decode (sk_by m) pc = .ok (.lcmp, 1)) : Wp m (pc) (ls) (.long y :: .long x :: st) I J R S Q = Wp m (pc + 1) (ls) (.int (lg_cmp x y) :: st) I J R S Q := Wp_next hd rfl
theorem o_i2l {x : Int32} (hd : decode (sk_by m) pc = .ok (.i2l, 1)) : Wp m (pc) (ls) (.int x :: st) I J R S Q = Wp m (pc + 1) (ls) (.long x.toInt64 :: st) I J R S Q := Wp_next hd rfl
theorem o_l2i {x : Int64} (hd : decode (sk_by m) pc = .ok (.l2i, 1)) : Wp m (pc) (ls) (.long x :: st) I J R S Q = Wp m (pc + 1) (ls) (.int x.toInt32 :: st) I J R S Q := Wp_next hd rfl
theorem o_i2c {x : Int32} (hd : decode (sk_by m) pc = .ok (.i2c, 1)) : Wp m (pc) (ls) (.int x :: st) I J R S Q = Wp m (pc + 1) (ls) (.int (x.toUInt32 % 65536).toInt32 :: st) I J R S Q := Wp_next hd rfl
theorem o_dupI {x : Int32} (hd : decode (sk_by m) pc = .ok (.dup, 1)) : Wp m (pc) (ls) (.int x :: st) I J R S Q = Wp m (pc + 1) (ls) (.int x :: .int x :: st) I J R S Q := Wp_next hd rfl
theorem o_popI {x : Int32} (hd : decode (sk_by m) pc = .ok (.pop, 1)) : Wp m (pc) (ls) (.int x :: st) I J R S Q = Wp m (pc + 1) (ls) (st) I J R S Q := Wp_next hd rfl
theorem o_dupR {x : Nat} (hd : decode (sk_by m) pc = .ok (.dup, 1)) : Wp m (pc) (ls) (.ref x :: st) I J R S Q = Wp m (pc + 1) (ls) (.ref x :: .ref x :: st) I J R S Q := Wp_next hd rfl
theorem o_popR {x : Nat} (hd : decode (sk_by m) pc = .ok (.pop, 1)) : Wp m (pc) (ls) (.ref x :: st) I J R S Q = Wp m (pc + 1) (ls) (st) I J R S Q := Wp_next hd rfl
theorem o_dupN  (hd : decode (sk_by m) pc = .ok (.dup, 1)) : Wp m (pc) (ls) (.null :: st) I J R S Q = Wp m (pc + 1) (ls) (.null :: .null :: st) I J R S Q := Wp_next hd rfl
theorem o_popN  (hd : decode (sk_by m) pc = .ok (.pop, 1)) : Wp m (pc) (ls) (.null :: st) I J R S Q = Wp m (pc + 1) (ls) (st) I J R S Q := Wp_next hd rfl
theorem o_dup2L {x : Int64} (hd : decode (sk_by m) pc = .ok (.dup2, 1)) : Wp m (pc) (ls) (.long x :: st) I J R S Q = Wp m (pc + 1) (ls) (.long x :: .long x :: st) I J R S Q := Wp_next hd rfl
theorem o_dup2IR {x : Int32} {y : Nat} (hd : decode (sk_by m) pc = .ok (.dup2, 1)) : Wp m (pc) (ls) (.int x :: .ref y :: st) I J R S Q = Wp m (pc + 1) (ls) (.int x :: .ref y :: .int x :: .ref y :: st) I J R S Q := Wp_next hd rfl
theorem o_pop2L {x : Int64} (hd : decode (sk_by m) pc = .ok (.pop2, 1)) : Wp m (pc) (ls) (.long x :: st) I J R S Q = Wp m (pc + 1) (ls) (st) I J R S Q := Wp_next hd rfl
theorem o_iload_n {k : Fin 4} {x : Int32} (hl : ls[(k : Nat)]? = some (.int x)) (hd : decode (sk_by m) pc = .ok (.iload_n k, 1)) : Wp m (pc) (ls) (st) I J R S Q = Wp m (pc + 1) (ls) (.int x :: st) I J R S Q := Wp_next hd (by rw [show exI m (.iload_n k) 1 pc ls (st) I J R S = (match ls[(k : Nat)]? with | some (.int x) => nxt (pc + 1) ls (.int x :: st) I J R S | _ => none) from rfl]; rw [hl]; first | done | rfl)
theorem o_iload {k : Nat} {x : Int32} (hl : ls[k]? = some (.int x)) (hd : decode (sk_by m) pc = .ok (.iload k, 2)) : Wp m (pc) (ls) (st) I J R S Q = Wp m (pc + 2) (ls) (.int x :: st) I J R S Q := Wp_next hd (by rw [show exI m (.iload k) 2 pc ls (st) I J R S = (match ls[k]? with | some (.int x) => nxt (pc + 2) ls (.int x :: st) I J R S | _ => none) from rfl]; rw [hl]; first | done | rfl)
theorem o_lload_n {k : Fin 4} {x : Int64} (hl : ls[(k : Nat)]? = some (.long x)) (hd : decode (sk_by m) pc = .ok (.lload_n k, 1)) : Wp m (pc) (ls) (st) I J R S Q = Wp m (pc + 1) (ls) (.long x :: st) I J R S Q := Wp_next hd (by rw [show exI m (.lload_n k) 1 pc ls (st) I J R S = (match ls[(k : Nat)]? with | some (.long x) => nxt (pc + 1) ls (.long x :: st) I J R S | _ => none) from rfl]; rw [hl]; first | done | rfl)
theorem o_lload {k : Nat} {x : Int64} (hl : ls[k]? = some (.long x)) (hd : decode (sk_by m) pc = .ok (.lload k, 2)) : Wp m (pc) (ls) (st) I J R S Q = Wp m (pc + 2) (ls) (.long x :: st) I J R S Q := Wp_next hd (by rw [show exI m (.lload k) 2 pc ls (st) I J R S = (match ls[k]? with | some (.long x) => nxt (pc + 2) ls (.long x :: st) I J R S | _ => none) from rfl]; rw [hl]; first | done | rfl)
theorem o_aload_n {k : Fin 4} {x : Nat} (hl : ls[(k : Nat)]? = some (.ref x)) (hd : decode (sk_by m) pc = .ok (.aload_n k, 1)) : Wp m (pc) (ls) (st) I J R S Q = Wp m (pc + 1) (ls) (.ref x :: st) I J R S Q := Wp_next hd (by rw [show exI m (.aload_n k) 1 pc ls (st) I J R S = (match ls[(k : Nat)]? with | some (.ref x) => nxt (pc + 1) ls (.ref x :: st) I J R S | some .null => nxt (pc + 1) ls (.null :: st) I J R S | _ => none) from rfl]; rw [hl]; first | done | rfl)
theorem o_aload {k : Nat} {x : Nat} (hl : ls[k]? = some (.ref x)) (hd : decode (sk_by m) pc = .ok (.aload k, 2)) : Wp m (pc) (ls) (st) I J R S Q = Wp m (pc + 2) (ls) (.ref x :: st) I J R S Q := Wp_next hd (by rw [show exI m (.aload k) 2 pc ls (st) I J R S = (match ls[k]? with | some (.ref x) => nxt (pc + 2) ls (.ref x :: st) I J R S | some .null => nxt (pc + 2) ls (.null :: st) I J R S | _ => none) from rfl]; rw [hl]; first | done | rfl)
theorem o_aload_nN {k : Fin 4} (hl : ls[(k : Nat)]? = some .null) (hd : decode (sk_by m) pc = .ok (.aload_n k, 1)) : Wp m (pc) (ls) (st) I J R S Q = Wp m (pc + 1) (ls) (.null :: st) I J R S Q := Wp_next hd (by rw [show exI m (.aload_n k) 1 pc ls (st) I J R S = (match ls[(k : Nat)]? with | some (.ref x) => nxt (pc + 1) ls (.ref x :: st) I J R S | some .null => nxt (pc + 1) ls (.null :: st) I J R S | _ => none) from rfl]; rw [hl]; first | done | rfl)
theorem o_aloadN {k : Nat} (hl : ls[k]? = some .null) (hd : decode (sk_by m) pc = .ok (.aload k, 2)) : Wp m (pc) (ls) (st) I J R S Q = Wp m (pc + 2) (ls) (.null :: st) I J R S Q := Wp_next hd (by rw [show exI m (.aload k) 2 pc ls (st) I J R S = (match ls[k]? with | some (.ref x) => nxt (pc + 2) ls (.ref x :: st) I J R S | some .null => nxt (pc + 2) ls (.null :: st) I J R S | _ => none) from rfl]; rw [hl]; first | done | rfl)
theorem o_istore_n {k : Fin 4} {x : Int32} (h1 : (k : Nat) < ls.length) (h2 : lv_free ls (k : Nat) = true) (hd : decode (sk_by m) pc = .ok (.istore_n k, 1)) : Wp m (pc) (ls) (.int x :: st) I J R S Q = Wp m (pc + 1) (st1 ls k (.int x)) (st) I J R S Q := Wp_next hd (if_pos ⟨h1, h2⟩)
theorem o_istore {k : Nat} {x : Int32} (h1 : k < ls.length) (h2 : lv_free ls k = true) (hd : decode (sk_by m) pc = .ok (.istore k, 2)) : Wp m (pc) (ls) (.int x :: st) I J R S Q = Wp m (pc + 2) (st1 ls k (.int x)) (st) I J R S Q := Wp_next hd (if_pos ⟨h1, h2⟩)
theorem o_astore_n {k : Fin 4} {x : Nat} (h1 : (k : Nat) < ls.length) (h2 : lv_free ls (k : Nat) = true) (hd : decode (sk_by m) pc = .ok (.astore_n k, 1)) : Wp m (pc) (ls) (.ref x :: st) I J R S Q = Wp m (pc + 1) (st1 ls k (.ref x)) (st) I J R S Q := Wp_next hd (if_pos ⟨h1, h2⟩)
theorem o_astore {k : Nat} {x : Nat} (h1 : k < ls.length) (h2 : lv_free ls k = true) (hd : decode (sk_by m) pc = .ok (.astore k, 2)) : Wp m (pc) (ls) (.ref x :: st) I J R S Q = Wp m (pc + 2) (st1 ls k (.ref x)) (st) I J R S Q := Wp_next hd (if_pos ⟨h1, h2⟩)
theorem o_astore_nN {k : Fin 4}  (h1 : (k : Nat) < ls.length) (h2 : lv_free ls (k : Nat) = true) (hd : decode (sk_by m) pc = .ok (.astore_n k, 1)) : Wp m (pc) (ls) (.null :: st) I J R S Q = Wp m (pc + 1) (st1 ls k (.null)) (st) I J R S Q := Wp_next hd (if_pos ⟨h1, h2⟩)
theorem o_astoreN {k : Nat}  (h1 : k < ls.length) (h2 : lv_free ls k = true) (hd : decode (sk_by m) pc = .ok (.astore k, 2)) : Wp m (pc) (ls) (.null :: st) I J R S Q = Wp m (pc + 2) (st1 ls k (.null)) (st) I J R S Q := Wp_next hd (if_pos ⟨h1, h2⟩)
theorem o_lstore_n {k : Fin 4} {x : Int64} (h1 : (k : Nat) + 1 < ls.length) (h2 : lv_free ls (k : Nat) = true) (hd : decode (sk_by m) pc = .ok (.lstore_n k, 1)) : Wp m (pc) (ls) (.long x :: st) I J R S Q = Wp m (pc + 1) (st2 ls k (.long x)) (st) I J R S Q := Wp_next hd (if_pos ⟨h1, h2⟩)
theorem o_lstore {k : Nat} {x : Int64} (h1 : k + 1 < ls.length) (h2 : lv_free ls k = true) (hd : decode (sk_by m) pc = .ok (.lstore k, 2)) : Wp m (pc) (ls) (.long x :: st) I J R S Q = Wp m (pc + 2) (st2 ls k (.long x)) (st) I J R S Q := Wp_next hd (if_pos ⟨h1, h2⟩)
theorem o_iinc {k : Nat} {n : Int} {x : Int32} (hl : ls[k]? = some (.int x)) (h1 : k < ls.length) (h2 : lv_free ls k = true) (hd : decode (sk_by m) pc = .ok (.iinc k n, 3)) : Wp m (pc) (ls) (st) I J R S Q = Wp m (pc + 3) (st1 ls k (.int (x + Int32.ofInt n))) (st) I J R S Q := Wp_next hd (by rw [show exI m (.iinc k n) 3 pc ls (st) I J R S = (match ls[k]? with | some (.int x) => if k < ls.length ∧ lv_free ls k = true then nxt (pc + 3) (st1 ls k (.int (x + Int32.ofInt n))) st I J R S else none | _ => none) from rfl]; rw [hl]; exact if_pos ⟨h1, h2⟩)
theorem o_if {c : Jvm.ClassFile.Cond} {off : Int} {t : Nat} {x : Int32} (hj : jok pc off = true) (ht : jt pc off = t) (hd : decode (sk_by m) pc = .ok (.ifCond c off, 3)) : Wp m (pc) (ls) (.int x :: st) I J R S Q = if cnd0 c x = true then Wp m (t) (ls) (st) I J R S Q else Wp m (pc + 3) (ls) (st) I J R S Q := Wp_if hd (by subst ht; exact if_pos hj)
theorem o_icmp {c : Jvm.ClassFile.Cond} {off : Int} {t : Nat} {x y : Int32} (hj : jok pc off = true) (ht : jt pc off = t) (hd : decode (sk_by m) pc = .ok (.if_icmp c off, 3)) : Wp m (pc) (ls) (.int y :: .int x :: st) I J R S Q = if cnd2 c x y = true then Wp m (t) (ls) (st) I J R S Q else Wp m (pc + 3) (ls) (st) I J R S Q := Wp_if hd (by subst ht; exact if_pos hj)
theorem o_goto {off : Int} {t : Nat} (hj : jok pc off = true) (ht : jt pc off = t) (hd : decode (sk_by m) pc = .ok (.goto off, 3)) : Wp m (pc) (ls) (st) I J R S Q = Wp m (t) (ls) (st) I J R S Q := Wp_next hd (by subst ht; exact if_pos hj)
theorem o_ifnullR {off : Int} {x : Nat} (hd : decode (sk_by m) pc = .ok (.ifnull off, 3)) : Wp m (pc) (ls) (.ref x :: st) I J R S Q = Wp m (pc + 3) (ls) (st) I J R S Q := Wp_next hd rfl
theorem o_ifnullN {off : Int} {t : Nat} (hj : jok pc off = true) (ht : jt pc off = t) (hd : decode (sk_by m) pc = .ok (.ifnull off, 3)) : Wp m (pc) (ls) (.null :: st) I J R S Q = Wp m (t) (ls) (st) I J R S Q := Wp_next hd (by subst ht; exact if_pos hj)
theorem o_ifnonnullR {off : Int} {t x : Nat} (hj : jok pc off = true) (ht : jt pc off = t) (hd : decode (sk_by m) pc = .ok (.ifnonnull off, 3)) : Wp m (pc) (ls) (.ref x :: st) I J R S Q = Wp m (t) (ls) (st) I J R S Q := Wp_next hd (by subst ht; exact if_pos hj)
theorem o_ifnonnullN {off : Int} (hd : decode (sk_by m) pc = .ok (.ifnonnull off, 3)) : Wp m (pc) (ls) (.null :: st) I J R S Q = Wp m (pc + 3) (ls) (st) I J R S Q := Wp_next hd rfl
theorem o_ldc2_w {i : Nat} {v : Int64} (hl : sk_lkK (sk_cl m) i = some v) (hd : decode (sk_by m) pc = .ok (.ldc2_w i, 3)) : Wp m (pc) (ls) (st) I J R S Q = Wp m (pc + 3) (ls) (.long v :: st) I J R S Q := Wp_next hd (by rw [show exI m (.ldc2_w i) 3 pc ls (st) I J R S = (match sk_lkK (sk_cl m) i with | some v => nxt (pc + 3) ls (.long v :: st) I J R S | none => none) from rfl]; rw [hl]; first | done | rfl)
theorem o_ldcI {i : Nat} {v : Int32} (hl : sk_lkI (sk_cl m) i = some v) (hd : decode (sk_by m) pc = .ok (.ldc i, 2)) : Wp m (pc) (ls) (st) I J R S Q = Wp m (pc + 2) (ls) (.int v :: st) I J R S Q := Wp_next hd (by rw [show exI m (.ldc i) 2 pc ls (st) I J R S = (match sk_lkI (sk_cl m) i with | some v => nxt (pc + 2) ls (.int v :: st) I J R S | none => match sk_lkL (sk_cl m) i with | some p => nxt (pc + 2) ls (.ref p :: st) I J R S | none => none) from rfl]; rw [hl]; first | done | rfl)
theorem o_ldc_w {i : Nat} {v : Int32} (hl : sk_lkI (sk_cl m) i = some v) (hd : decode (sk_by m) pc = .ok (.ldc_w i, 3)) : Wp m (pc) (ls) (st) I J R S Q = Wp m (pc + 3) (ls) (.int v :: st) I J R S Q := Wp_next hd (by rw [show exI m (.ldc_w i) 3 pc ls (st) I J R S = (match sk_lkI (sk_cl m) i with | some v => nxt (pc + 3) ls (.int v :: st) I J R S | none => none) from rfl]; rw [hl]; first | done | rfl)
theorem o_ldcS {i v : Nat} (hn : sk_lkI (sk_cl m) i = none) (hl : sk_lkL (sk_cl m) i = some v) (hd : decode (sk_by m) pc = .ok (.ldc i, 2)) : Wp m (pc) (ls) (st) I J R S Q = Wp m (pc + 2) (ls) (.ref v :: st) I J R S Q := Wp_next hd (by rw [show exI m (.ldc i) 2 pc ls (st) I J R S = (match sk_lkI (sk_cl m) i with | some v => nxt (pc + 2) ls (.int v :: st) I J R S | none => match sk_lkL (sk_cl m) i with | some p => nxt (pc + 2) ls (.ref p :: st) I J R S | none => none) from rfl]; rw [hn]; dsimp only; rw [hl]; rfl)
theorem o_getstatic {i j : Nat} {v : Value} (hl : sk_lkS (sk_cl m) i = some j) (hv : stv j = v) (hd : decode (sk_by m) pc = .ok (.getstatic i, 3)) : Wp m (pc) (ls) (st) I J R S Q = Wp m (pc + 3) (ls) (v :: st) I J R S Q := Wp_next hd (by subst hv; rw [show exI m (.getstatic i) 3 pc ls (st) I J R S = (match sk_lkS (sk_cl m) i with | some j => nxt (pc + 3) ls (stv j :: st) I J R S | none => none) from rfl]; rw [hl]; first | done | rfl)
theorem o_getfieldI {i c k f n a : Nat} (hl : sk_lkF (sk_cl m) i = some (c, k, 0, f, n)) (hd : decode (sk_by m) pc = .ok (.getfield i, 3)) (ha : S.1 a = c) : Wp m (pc) (ls) (.ref a :: st) I J R S Q = Wp m (pc + 3) (ls) (.int (I a k) :: st) I J R S Q := Wp_next hd (by rw [show exI m (.getfield i) 3 pc ls (.ref a :: st) I J R S = (match sk_lkF (sk_cl m) i, (Value.ref a :: st : List Value) with | some (c, k, t, _, _), .ref a :: st' => if S.1 a = c then nxt (pc + 3) ls (getF t a k I J R :: st') I J R S else none | _, _ => none) from rfl]; rw [hl]; exact if_pos ha)
theorem o_getfieldJ {i c k f n a : Nat} (hl : sk_lkF (sk_cl m) i = some (c, k, 1, f, n)) (hd : decode (sk_by m) pc = .ok (.getfield i, 3)) (ha : S.1 a = c) : Wp m (pc) (ls) (.ref a :: st) I J R S Q = Wp m (pc + 3) (ls) (.long (J a k) :: st) I J R S Q := Wp_next hd (by rw [show exI m (.getfield i) 3 pc ls (.ref a :: st) I J R S = (match sk_lkF (sk_cl m) i, (Value.ref a :: st : List Value) with | some (c, k, t, _, _), .ref a :: st' => if S.1 a = c then nxt (pc + 3) ls (getF t a k I J R :: st') I J R S else none | _, _ => none) from rfl]; rw [hl]; exact if_pos ha)
theorem o_getfieldR {i c k f n a : Nat} (hl : sk_lkF (sk_cl m) i = some (c, k, 2, f, n)) (hd : decode (sk_by m) pc = .ok (.getfield i, 3)) (ha : S.1 a = c) : Wp m (pc) (ls) (.ref a :: st) I J R S Q = Wp m (pc + 3) (ls) (R a k :: st) I J R S Q := Wp_next hd (by rw [show exI m (.getfield i) 3 pc ls (.ref a :: st) I J R S = (match sk_lkF (sk_cl m) i, (Value.ref a :: st : List Value) with | some (c, k, t, _, _), .ref a :: st' => if S.1 a = c then nxt (pc + 3) ls (getF t a k I J R :: st') I J R S else none | _, _ => none) from rfl]; rw [hl]; exact if_pos ha)
theorem o_getfieldZ {i c k f n a : Nat} (hl : sk_lkF (sk_cl m) i = some (c, k, 3, f, n)) (hd : decode (sk_by m) pc = .ok (.getfield i, 3)) (ha : S.1 a = c) : Wp m (pc) (ls) (.ref a :: st) I J R S Q = Wp m (pc + 3) (ls) (.int (I a k) :: st) I J R S Q := Wp_next hd (by rw [show exI m (.getfield i) 3 pc ls (.ref a :: st) I J R S = (match sk_lkF (sk_cl m) i, (Value.ref a :: st : List Value) with | some (c, k, t, _, _), .ref a :: st' => if S.1 a = c then nxt (pc + 3) ls (getF t a k I J R :: st') I J R S else none | _, _ => none) from rfl]; rw [hl]; exact if_pos ha)
theorem o_getfieldB {i c k f n a : Nat} (hl : sk_lkF (sk_cl m) i = some (c, k, 4, f, n)) (hd : decode (sk_by m) pc = .ok (.getfield i, 3)) (ha : S.1 a = c) : Wp m (pc) (ls) (.ref a :: st) I J R S Q = Wp m (pc + 3) (ls) (.int (I a k) :: st) I J R S Q := Wp_next hd (by rw [show exI m (.getfield i) 3 pc ls (.ref a :: st) I J R S = (match sk_lkF (sk_cl m) i, (Value.ref a :: st : List Value) with | some (c, k, t, _, _), .ref a :: st' => if S.1 a = c then nxt (pc + 3) ls (getF t a k I J R :: st') I J R S else none | _, _ => none) from rfl]; rw [hl]; exact if_pos ha)
theorem o_putfieldI {i c k f a : Nat} {x : Int32} (hl : sk_lkF (sk_cl m) i = some (c, k, 0, f, 0)) (hc : c < 9) (hf : f = 0 ∨ (sk_kd m = 2 ∧ kdc (sk_cl m) = c)) (hd : decode (sk_by m) pc = .ok (.putfield i, 3)) (ha : S.1 a = c) : Wp m (pc) (ls) (.int x :: .ref a :: st) I J R S Q = Wp m (pc + 3) (ls) (st) (u2 I a k x) J R S Q := Wp_next hd (by rw [show exI m (.putfield i) 3 pc ls (.int x :: .ref a :: st) I J R S = (match sk_lkF (sk_cl m) i, (.int x :: .ref a :: st : List Value) with | some (c, k, t, fin, nest), v :: .ref a :: st' => (if S.1 a = c ∧ c < 9 ∧ nest = 0 ∧ (fin = 0 ∨ (sk_kd m = 2 ∧ kdc (sk_cl m) = c)) then (match putF (if t = 3 then 0 else t) a k v I J R with | some (I', J', R') => if t = 3 ∧ ¬ (I' a k = 0 ∨ I' a k = 1) then none else nxt (pc + 3) ls st' I' J' R' S | none => none) else none) | _, _ => none) from rfl]; rw [hl]; exact if_pos ⟨ha, hc, rfl, hf⟩)
theorem o_putfieldJ {i c k f a : Nat} {x : Int64} (hl : sk_lkF (sk_cl m) i = some (c, k, 1, f, 0)) (hc : c < 9) (hf : f = 0 ∨ (sk_kd m = 2 ∧ kdc (sk_cl m) = c)) (hd : decode (sk_by m) pc = .ok (.putfield i, 3)) (ha : S.1 a = c) : Wp m (pc) (ls) (.long x :: .ref a :: st) I J R S Q = Wp m (pc + 3) (ls) (st) I (u2 J a k x) R S Q := Wp_next hd (by rw [show exI m (.putfield i) 3 pc ls (.long x :: .ref a :: st) I J R S = (match sk_lkF (sk_cl m) i, (.long x :: .ref a :: st : List Value) with | some (c, k, t, fin, nest), v :: .ref a :: st' => (if S.1 a = c ∧ c < 9 ∧ nest = 0 ∧ (fin = 0 ∨ (sk_kd m = 2 ∧ kdc (sk_cl m) = c)) then (match putF (if t = 3 then 0 else t) a k v I J R with | some (I', J', R') => if t = 3 ∧ ¬ (I' a k = 0 ∨ I' a k = 1) then none else nxt (pc + 3) ls st' I' J' R' S | none => none) else none) | _, _ => none) from rfl]; rw [hl]; exact if_pos ⟨ha, hc, rfl, hf⟩)
theorem o_putfieldR {i c k f a : Nat} {x : Nat} (hl : sk_lkF (sk_cl m) i = some (c, k, 2, f, 0)) (hc : c < 9) (hf : f = 0 ∨ (sk_kd m = 2 ∧ kdc (sk_cl m) = c)) (hd : decode (sk_by m) pc = .ok (.putfield i, 3)) (ha : S.1 a = c) : Wp m (pc) (ls) (.ref x :: .ref a :: st) I J R S Q = Wp m (pc + 3) (ls) (st) I J (u2 R a k (.ref x)) S Q := Wp_next hd (by rw [show exI m (.putfield i) 3 pc ls (.ref x :: .ref a :: st) I J R S = (match sk_lkF (sk_cl m) i, (.ref x :: .ref a :: st : List Value) with | some (c, k, t, fin, nest), v :: .ref a :: st' => (if S.1 a = c ∧ c < 9 ∧ nest = 0 ∧ (fin = 0 ∨ (sk_kd m = 2 ∧ kdc (sk_cl m) = c)) then (match putF (if t = 3 then 0 else t) a k v I J R with | some (I', J', R') => if t = 3 ∧ ¬ (I' a k = 0 ∨ I' a k = 1) then none else nxt (pc + 3) ls st' I' J' R' S | none => none) else none) | _, _ => none) from rfl]; rw [hl]; exact if_pos ⟨ha, hc, rfl, hf⟩)
theorem o_putfieldN {i c k f a : Nat}  (hl : sk_lkF (sk_cl m) i = some (c, k, 2, f, 0)) (hc : c < 9) (hf : f = 0 ∨ (sk_kd m = 2 ∧ kdc (sk_cl m) = c)) (hd : decode (sk_by m) pc = .ok (.putfield i, 3)) (ha : S.1 a = c) : Wp m (pc) (ls) (.null :: .ref a :: st) I J R S Q = Wp m (pc + 3) (ls) (st) I J (u2 R a k .null) S Q := Wp_next hd (by rw [show exI m (.putfield i) 3 pc ls (.null :: .ref a :: st) I J R S = (match sk_lkF (sk_cl m) i, (.null :: .ref a :: st : List Value) with | some (c, k, t, fin, nest), v :: .ref a :: st' => (if S.1 a = c ∧ c < 9 ∧ nest = 0 ∧ (fin = 0 ∨ (sk_kd m = 2 ∧ kdc (sk_cl m) = c)) then (match putF (if t = 3 then 0 else t) a k v I J R with | some (I', J', R') => if t = 3 ∧ ¬ (I' a k = 0 ∨ I' a k = 1) then none else nxt (pc + 3) ls st' I' J' R' S | none => none) else none) | _, _ => none) from rfl]; rw [hl]; exact if_pos ⟨ha, hc, rfl, hf⟩)
theorem o_putfieldZ {i c k f a : Nat} {x : Int32} (hl : sk_lkF (sk_cl m) i = some (c, k, 3, f, 0)) (hc : c < 9) (hf : f = 0 ∨ (sk_kd m = 2 ∧ kdc (sk_cl m) = c)) (hd : decode (sk_by m) pc = .ok (.putfield i, 3)) (ha : S.1 a = c) (hx : x = 0 ∨ x = 1) : Wp m (pc) (ls) (.int x :: .ref a :: st) I J R S Q = Wp m (pc + 3) (ls) (st) (u2 I a k x) J R S Q := Wp_next hd (by
  rw [show exI m (.putfield i) 3 pc ls (.int x :: .ref a :: st) I J R S = (match sk_lkF (sk_cl m) i, (.int x :: .ref a :: st : List Value) with | some (c, k, t, fin, nest), v :: .ref a :: st' => (if S.1 a = c ∧ c < 9 ∧ nest = 0 ∧ (fin = 0 ∨ (sk_kd m = 2 ∧ kdc (sk_cl m) = c)) then (match putF (if t = 3 then 0 else t) a k v I J R with | some (I', J', R') => if t = 3 ∧ ¬ (I' a k = 0 ∨ I' a k = 1) then none else nxt (pc + 3) ls st' I' J' R' S | none => none) else none) | _, _ => none) from rfl, hl]
  refine (if_pos ⟨ha, hc, rfl, hf⟩).trans ?_
  have e : u2 I a k x a k = x := by rw [u2_at, if_pos rfl]
  exact if_neg (fun q => q.2 (by rw [e]; exact hx)))
theorem o_arraylength {a : Nat} (hd : decode (sk_by m) pc = .ok (.arraylength, 1)) (ha : isArr (S.1 a) = true) : Wp m (pc) (ls) (.ref a :: st) I J R S Q = Wp m (pc + 1) (ls) (.int (nI (S.2.1 a)) :: st) I J R S Q := Wp_next hd (if_pos ha)
theorem o_iaload {a : Nat} {i : Int32} (hd : decode (sk_by m) pc = .ok (.iaload, 1)) (ha : S.1 a = 30) (hi : inb i (S.2.1 a) = true) : Wp m (pc) (ls) (.int i :: .ref a :: st) I J R S Q = Wp m (pc + 1) (ls) (.int (I a (ix i)) :: st) I J R S Q := Wp_next hd (if_pos ⟨Or.inl ha, hi⟩)
theorem o_laload {a : Nat} {i : Int32} (hd : decode (sk_by m) pc = .ok (.laload, 1)) (ha : S.1 a = 31) (hi : inb i (S.2.1 a) = true) : Wp m (pc) (ls) (.int i :: .ref a :: st) I J R S Q = Wp m (pc + 1) (ls) (.long (J a (ix i)) :: st) I J R S Q := Wp_next hd (if_pos ⟨ha, hi⟩)
theorem o_baload {a : Nat} {i : Int32} (hd : decode (sk_by m) pc = .ok (.baload, 1)) (ha : S.1 a = 42) (hi : inb i (S.2.1 a) = true) : Wp m (pc) (ls) (.int i :: .ref a :: st) I J R S Q = Wp m (pc + 1) (ls) (.int (I a (ix i)) :: st) I J R S Q := Wp_next hd (if_pos ⟨ha, hi⟩)
theorem o_aaload {a : Nat} {i : Int32} (hd : decode (sk_by m) pc = .ok (.aaload, 1)) (ha : S.1 a = 33 ∨ S.1 a = 43) (hi : inb i (S.2.1 a) = true) : Wp m (pc) (ls) (.int i :: .ref a :: st) I J R S Q = Wp m (pc + 1) (ls) (R a (ix i) :: st) I J R S Q := Wp_next hd (if_pos ⟨ha, hi⟩)
theorem o_ialoadC {a : Nat} {i : Int32} (hd : decode (sk_by m) pc = .ok (.iaload, 1)) (ha : S.1 a = 40) (hi : inb i (S.2.1 a) = true) : Wp m (pc) (ls) (.int i :: .ref a :: st) I J R S Q = Wp m (pc + 1) (ls) (.int (I a (ix i)) :: st) I J R S Q := Wp_next hd (if_pos ⟨Or.inr ha, hi⟩)
theorem o_iastore {a : Nat} {i x : Int32} (hd : decode (sk_by m) pc = .ok (.iastore, 1)) (ha : S.1 a = 30) (hi : inb i (S.2.1 a) = true) : Wp m (pc) (ls) (.int x :: .int i :: .ref a :: st) I J R S Q = Wp m (pc + 1) (ls) (st) (u2 I a (ix i) x) J R S Q := Wp_next hd (if_pos ⟨ha, hi⟩)
theorem o_lastore {a : Nat} {i : Int32} {x : Int64} (hd : decode (sk_by m) pc = .ok (.lastore, 1)) (ha : S.1 a = 31) (hi : inb i (S.2.1 a) = true) : Wp m (pc) (ls) (.long x :: .int i :: .ref a :: st) I J R S Q = Wp m (pc + 1) (ls) (st) I (u2 J a (ix i) x) R S Q := Wp_next hd (if_pos ⟨ha, hi⟩)
theorem o_aastore {a b : Nat} {i : Int32} (hd : decode (sk_by m) pc = .ok (.aastore, 1)) (ha : S.1 a = 33) (hi : inb i (S.2.1 a) = true) (hb : S.1 b = 0) : Wp m (pc) (ls) (.ref b :: .int i :: .ref a :: st) I J R S Q = Wp m (pc + 1) (ls) (st) I J (u2 R a (ix i) (.ref b)) S Q := Wp_next hd (if_pos ⟨ha, hi, hb⟩)
theorem o_newI {n : Int32} (hd : decode (sk_by m) pc = .ok (.newarray .int, 2)) (h0 : S.2.2.2.1 = 0) (hn : 0 ≤ n.toInt ∧ n.toInt ≤ 100000) : Wp m (pc) (ls) (.int n :: st) I J R S Q = Wp m (pc + 2) (ls) (.ref S.2.2.1 :: st) (u1 I S.2.2.1 0) J R (sh_new S 30 (ix n) (ix n)) Q := Wp_next hd (if_pos ⟨hn.1, hn.2, h0⟩)
theorem o_newL {n : Int32} (hd : decode (sk_by m) pc = .ok (.newarray .long, 2)) (h0 : S.2.2.2.1 = 0) (hn : 0 ≤ n.toInt ∧ n.toInt ≤ 100000) : Wp m (pc) (ls) (.int n :: st) I J R S Q = Wp m (pc + 2) (ls) (.ref S.2.2.1 :: st) I (u1 J S.2.2.1 0) R (sh_new S 31 (ix n) (ix n)) Q := Wp_next hd (if_pos ⟨hn.1, hn.2, h0⟩)
theorem o_anewarray {i : Nat} {n : Int32} (hl : sk_lkN (sk_cl m) i = some 0) (hd : decode (sk_by m) pc = .ok (.anewarray i, 3)) (h0 : S.2.2.2.1 = 0) (hn : 0 ≤ n.toInt ∧ n.toInt ≤ 100000) : Wp m (pc) (ls) (.int n :: st) I J R S Q = Wp m (pc + 3) (ls) (.ref S.2.2.1 :: st) I J (u1 R S.2.2.1 .null) (sh_new S 33 (ix n) (ix n)) Q := Wp_next hd (if_pos ⟨hn.1, hn.2, h0, hl⟩)
theorem o_new {i c n : Nat} (ht : sk_th m pc = none) (hl : sk_lkN (sk_cl m) i = some c) (hc : c < 9) (hn : (sk_tyL.getD c []).length = n) (hd : decode (sk_by m) pc = .ok (.new i, 3)) (h0 : S.2.2.2.1 = 0) : Wp m (pc) (ls) (st) I J R S Q = Wp m (pc + 3) (ls) (.ref S.2.2.1 :: st) (u1 I S.2.2.1 0) (u1 J S.2.2.1 0) (u1 R S.2.2.1 .null) (sh_new S c 0 n) Q := Wp_next hd (by
  subst hn
  have e : exI m (.new i) 3 pc ls st I J R S = (match sk_th m pc with | some e => (match st with | [] => some (.inr (.inr (.inr e))) | _ => none) | none => match sk_lkN (sk_cl m) i with | some c => (if S.2.2.2.1 = 0 ∧ c < 9 then nxt (pc + 3) ls (.ref S.2.2.1 :: st) (u1 I S.2.2.1 0) (u1 J S.2.2.1 0) (u1 R S.2.2.1 .null) (sh_new S c 0 ((sk_tyL.getD c []).length)) else none) | none => none) := rfl
  rw [e, ht]
  dsimp only
  rw [hl]
  exact if_pos ⟨h0, hc⟩)
theorem o_throw {i x : Nat} (ht : sk_th m pc = some x) (hd : decode (sk_by m) pc = .ok (.new i, 3)) : Wp m pc ls [] I J R S Q = Q (x + 1) none I J R (sh_thr S) := Wp_thr hd (by
  rw [show exI m (.new i) 3 pc ls [] I J R S = (match sk_th m pc with | some e => some (.inr (.inr (.inr e))) | none => match sk_lkN (sk_cl m) i with | some c => (if S.2.2.2.1 = 0 ∧ c < 9 then nxt (pc + 3) ls (.ref S.2.2.1 :: []) (u1 I S.2.2.1 0) (u1 J S.2.2.1 0) (u1 R S.2.2.1 .null) (sh_new S c 0 ((sk_tyL.getD c []).length)) else none) | none => none) from rfl, ht])
theorem o_ireturn {v : Int32} (hd : decode (sk_by m) pc = .ok (.ireturn, 1)) (h : rOk (sk_rt m) v = true) : Wp m pc ls [.int v] I J R S Q = Q 0 (some (.int v)) I J R S := Wp_ret hd (if_pos h)
theorem o_lreturn {v : Int64} (hr : sk_rt m = some .long) (hd : decode (sk_by m) pc = .ok (.lreturn, 1)) : Wp m pc ls [.long v] I J R S Q = Q 0 (some (.long v)) I J R S := Wp_ret hd (if_pos hr)
theorem o_areturnR {v : Nat} (hr : isRefT (sk_rt m) = true) (hd : decode (sk_by m) pc = .ok (.areturn, 1)) : Wp m pc ls [.ref v] I J R S Q = Q 0 (some (.ref v)) I J R S := Wp_ret hd (if_pos hr)
theorem o_areturnN (hr : isRefT (sk_rt m) = true) (hd : decode (sk_by m) pc = .ok (.areturn, 1)) : Wp m pc ls [.null] I J R S Q = Q 0 (some .null) I J R S := Wp_ret hd (if_pos hr)
theorem o_return (hr : sk_rt m = none) (hd : decode (sk_by m) pc = .ok (.return_, 1)) : Wp m pc ls [] I J R S Q = Q 0 none I J R S := Wp_ret hd (if_pos hr)
theorem o_table {d lo hi : Int} {offs : Array Int} {len : Nat} {x : Int32} {pc2 : Nat} (hd : decode (sk_by m) pc = .ok (.tableswitch d lo hi offs, len)) (h : exI m (.tableswitch d lo hi offs) len pc ls (.int x :: st) I J R S = nxt pc2 ls st I J R S) : Wp m (pc) (ls) (.int x :: st) I J R S Q = Wp m (pc2) (ls) (st) I J R S Q := Wp_next hd h
theorem o_call {i c : Nat} {ins : Instr} {as rest : List Value} (hl : sk_lkM (sk_cl m) i = some c) (hsp : sk_sp c = false) (hc : c < 261) (hr : sk_fr c + 1 ≤ sk_fr m ∧ 8 + (sk_mx c + 11) + sk_lo c ≤ sk_lo m) (hi : insK (sk_kd c) i = ins) (hd : decode (sk_by m) pc = .ok (ins, 3)) (hst : st = as.reverse ++ rest) (hn : as.length = sk_na c) (hcat : catS rest ≤ 8) (hal : (argL as).length ≤ sk_mx c) (hrc : rcv (sk_kd c) (sk_cl c) as S = true) :
    Wp m pc ls st I J R S Q = Wp c 0 (entL (sk_mx c) as) [] I J R S (Ret m pc (pc + 3) c ls rest Q) := by
  have h1 : st.take (sk_na c) = as.reverse := by rw [hst, List.take_left' (by rw [List.length_reverse, hn])]
  have h2 : st.drop (sk_na c) = rest := by rw [hst, List.drop_left' (by rw [List.length_reverse, hn])]
  have h3 : (st.take (sk_na c)).reverse = as := by rw [h1, List.reverse_reverse]
  have key : exCall m pc i (sk_kd c) ls st I J R S = some (.inr (.inl (c, as, rest, pc + 3))) := by
    unfold exCall
    rw [hl]
    split
    · rename_i q; cases q
    · rename_i q; cases q; omega
    · rename_i q; cases q; cases hsp
    · rename_i q; cases q; cases hsp
    · rename_i q; cases q; cases hsp
    · rename_i q
      cases q
      rw [h2, h3]
      refine if_pos ⟨rfl, ?_, hr.1, hr.2, hcat, hal, hc, hsp, hrc⟩
      rw [hst, List.length_append, List.length_reverse]
      omega
  subst hi
  refine Wp_call hd ?_
  have hk : sk_kd c = 0 ∨ sk_kd c = 1 ∨ sk_kd c = 2 := by
    have := (mf_of (sk_mf_all c hc hsp).1).2.2.2.2.2.2.2.2.1
    omega
  rcases hk with q | q | q <;> rw [q] at key ⊢ <;> exact key
theorem o_objInit {i a : Nat} (hl : sk_lkM (sk_cl m) i = some 999) (hr : 1 ≤ sk_fr m ∧ catS st + 12 ≤ sk_lo m) (hd : decode (sk_by m) pc = .ok (.invokespecial i, 3)) : Wp m pc ls (.ref a :: st) I J R S Q = Wp m (pc + 3) ls st I J R S Q := Wp_next hd (by
  show exCall m pc i 2 ls (.ref a :: st) I J R S = _
  unfold exCall
  rw [hl]
  exact if_pos hr)
theorem o_max {i : Nat} {x y : Int32} (hl : sk_lkM (sk_cl m) i = some 250) (hr : 1 ≤ sk_fr m ∧ catS st + 20 ≤ sk_lo m) (hd : decode (sk_by m) pc = .ok (.invokestatic i, 3)) : Wp m pc ls (.int y :: .int x :: st) I J R S Q = Wp m (pc + 3) ls (.int (if x < y then y else x) :: st) I J R S Q := Wp_next hd (by
  show exCall m pc i 0 ls (.int y :: .int x :: st) I J R S = _
  unfold exCall
  rw [hl]
  exact if_pos hr)
theorem o_min {i : Nat} {x y : Int32} (hl : sk_lkM (sk_cl m) i = some 251) (hr : 1 ≤ sk_fr m ∧ catS st + 20 ≤ sk_lo m) (hd : decode (sk_by m) pc = .ok (.invokestatic i, 3)) : Wp m pc ls (.int y :: .int x :: st) I J R S Q = Wp m (pc + 3) ls (.int (if y < x then y else x) :: st) I J R S Q := Wp_next hd (by
  show exCall m pc i 0 ls (.int y :: .int x :: st) I J R S = _
  unfold exCall
  rw [hl]
  exact if_pos hr)
theorem o_ord {i a : Nat} (hl : sk_lkM (sk_cl m) i = some 253) (hr : 1 ≤ sk_fr m ∧ catS st + 20 ≤ sk_lo m) (hd : decode (sk_by m) pc = .ok (.invokevirtual i, 3)) (ha : S.1 a = 20) : Wp m pc ls (.ref a :: st) I J R S Q = Wp m (pc + 3) ls (.int (I a 0) :: st) I J R S Q := Wp_next hd (by
  show exCall m pc i 1 ls (.ref a :: st) I J R S = _
  unfold exCall
  rw [hl]
  exact if_pos ⟨ha, hr⟩)
end OPS
section OPS2
variable {m pc : Nat} {ls st : List Value} {I : MI} {J : MJ} {R : MR} {S : Sh} {Q : SkQ}
theorem if_flip {c : Bool} {p : Prop} (_ : Decidable p) {A B : Prop} (h : c = true ↔ p) : (if c = true then A else B) = if p then A else B := by
  by_cases q : p
  · rw [if_pos q, if_pos (h.mpr q)]
  · rw [if_neg q, if_neg (fun z => q (h.mp z))]
theorem if_flop {c : Bool} {p : Prop} (_ : Decidable p) {A B : Prop} (h : c = true ↔ ¬ p) : (if c = true then A else B) = if p then B else A := by
  by_cases q : p
  · rw [if_pos q, if_neg (fun z => h.mp z q)]
  · rw [if_neg q, if_pos (h.mpr q)]
theorem o_if_eq {off : Int} {t : Nat} {x : Int32} (hj : jok pc off = true) (ht : jt pc off = t) (hd : decode (sk_by m) pc = .ok (.ifCond .eq off, 3)) : Wp m pc ls (.int x :: st) I J R S Q = if x = 0 then Wp m t ls st I J R S Q else Wp m (pc + 3) ls st I J R S Q := (o_if hj ht hd).trans (if_flip _ (decide_eq_true_iff))
theorem o_if_ne {off : Int} {t : Nat} {x : Int32} (hj : jok pc off = true) (ht : jt pc off = t) (hd : decode (sk_by m) pc = .ok (.ifCond .ne off, 3)) : Wp m pc ls (.int x :: st) I J R S Q = if x = 0 then Wp m (pc + 3) ls st I J R S Q else Wp m t ls st I J R S Q := (o_if hj ht hd).trans (if_flop _ (decide_eq_true_iff))
theorem o_if_lt {off : Int} {t : Nat} {x : Int32} (hj : jok pc off = true) (ht : jt pc off = t) (hd : decode (sk_by m) pc = .ok (.ifCond .lt off, 3)) : Wp m pc ls (.int x :: st) I J R S Q = if x < 0 then Wp m t ls st I J R S Q else Wp m (pc + 3) ls st I J R S Q := (o_if hj ht hd).trans (if_flip _ (decide_eq_true_iff))
theorem o_if_ge {off : Int} {t : Nat} {x : Int32} (hj : jok pc off = true) (ht : jt pc off = t) (hd : decode (sk_by m) pc = .ok (.ifCond .ge off, 3)) : Wp m pc ls (.int x :: st) I J R S Q = if x < 0 then Wp m (pc + 3) ls st I J R S Q else Wp m t ls st I J R S Q := (o_if hj ht hd).trans (if_flop _ (decide_eq_true_iff.trans Int32.not_lt.symm))
theorem o_if_gt {off : Int} {t : Nat} {x : Int32} (hj : jok pc off = true) (ht : jt pc off = t) (hd : decode (sk_by m) pc = .ok (.ifCond .gt off, 3)) : Wp m pc ls (.int x :: st) I J R S Q = if 0 < x then Wp m t ls st I J R S Q else Wp m (pc + 3) ls st I J R S Q := (o_if hj ht hd).trans (if_flip _ (decide_eq_true_iff))
theorem o_if_le {off : Int} {t : Nat} {x : Int32} (hj : jok pc off = true) (ht : jt pc off = t) (hd : decode (sk_by m) pc = .ok (.ifCond .le off, 3)) : Wp m pc ls (.int x :: st) I J R S Q = if 0 < x then Wp m (pc + 3) ls st I J R S Q else Wp m t ls st I J R S Q := (o_if hj ht hd).trans (if_flop _ (decide_eq_true_iff.trans Int32.not_lt.symm))
theorem o_ic_eq {off : Int} {t : Nat} {x y : Int32} (hj : jok pc off = true) (ht : jt pc off = t) (hd : decode (sk_by m) pc = .ok (.if_icmp .eq off, 3)) : Wp m pc ls (.int y :: .int x :: st) I J R S Q = if x = y then Wp m t ls st I J R S Q else Wp m (pc + 3) ls st I J R S Q := (o_icmp hj ht hd).trans (if_flip _ (decide_eq_true_iff))
theorem o_ic_ne {off : Int} {t : Nat} {x y : Int32} (hj : jok pc off = true) (ht : jt pc off = t) (hd : decode (sk_by m) pc = .ok (.if_icmp .ne off, 3)) : Wp m pc ls (.int y :: .int x :: st) I J R S Q = if x = y then Wp m (pc + 3) ls st I J R S Q else Wp m t ls st I J R S Q := (o_icmp hj ht hd).trans (if_flop _ (decide_eq_true_iff))
theorem o_ic_lt {off : Int} {t : Nat} {x y : Int32} (hj : jok pc off = true) (ht : jt pc off = t) (hd : decode (sk_by m) pc = .ok (.if_icmp .lt off, 3)) : Wp m pc ls (.int y :: .int x :: st) I J R S Q = if x < y then Wp m t ls st I J R S Q else Wp m (pc + 3) ls st I J R S Q := (o_icmp hj ht hd).trans (if_flip _ (decide_eq_true_iff))
theorem o_ic_ge {off : Int} {t : Nat} {x y : Int32} (hj : jok pc off = true) (ht : jt pc off = t) (hd : decode (sk_by m) pc = .ok (.if_icmp .ge off, 3)) : Wp m pc ls (.int y :: .int x :: st) I J R S Q = if x < y then Wp m (pc + 3) ls st I J R S Q else Wp m t ls st I J R S Q := (o_icmp hj ht hd).trans (if_flop _ (decide_eq_true_iff.trans Int32.not_lt.symm))
theorem o_ic_gt {off : Int} {t : Nat} {x y : Int32} (hj : jok pc off = true) (ht : jt pc off = t) (hd : decode (sk_by m) pc = .ok (.if_icmp .gt off, 3)) : Wp m pc ls (.int y :: .int x :: st) I J R S Q = if y < x then Wp m t ls st I J R S Q else Wp m (pc + 3) ls st I J R S Q := (o_icmp hj ht hd).trans (if_flip _ (decide_eq_true_iff))
theorem o_ic_le {off : Int} {t : Nat} {x y : Int32} (hj : jok pc off = true) (ht : jt pc off = t) (hd : decode (sk_by m) pc = .ok (.if_icmp .le off, 3)) : Wp m pc ls (.int y :: .int x :: st) I J R S Q = if y < x then Wp m (pc + 3) ls st I J R S Q else Wp m t ls st I J R S Q := (o_icmp hj ht hd).trans (if_flop _ (decide_eq_true_iff.trans Int32.not_lt.symm))
theorem o_const {n : Int} {v : Int32} (hv : Int32.ofInt n = v) (hd : decode (sk_by m) pc = .ok (.iconst n, 1)) : Wp m pc ls st I J R S Q = Wp m (pc + 1) ls (.int v :: st) I J R S Q := by subst hv; exact o_iconst hd
theorem o_bi {n : Int} {v : Int32} (hv : (Int8.ofInt n).toInt32 = v) (hd : decode (sk_by m) pc = .ok (.bipush n, 2)) : Wp m pc ls st I J R S Q = Wp m (pc + 2) ls (.int v :: st) I J R S Q := by subst hv; exact o_bipush hd
theorem o_si {n : Int} {v : Int32} (hv : (Int16.ofInt n).toInt32 = v) (hd : decode (sk_by m) pc = .ok (.sipush n, 3)) : Wp m pc ls st I J R S Q = Wp m (pc + 3) ls (.int v :: st) I J R S Q := by subst hv; exact o_sipush hd
theorem o_lc {n : Fin 2} {v : Int64} (hv : Int64.ofNat (n : Nat) = v) (hd : decode (sk_by m) pc = .ok (.lconst n, 1)) : Wp m pc ls st I J R S Q = Wp m (pc + 1) ls (.long v :: st) I J R S Q := by subst hv; exact o_lconst hd
theorem o_inc {k : Nat} {n : Int} {v x : Int32} (hv : Int32.ofInt n = v) (hl : ls[k]? = some (.int x)) (h1 : k < ls.length) (h2 : lv_free ls k = true) (hd : decode (sk_by m) pc = .ok (.iinc k n, 3)) : Wp m pc ls st I J R S Q = Wp m (pc + 3) (st1 ls k (.int (x + v))) st I J R S Q := by subst hv; exact o_iinc hl h1 h2 hd
theorem rcv_of {k c b K : Nat} {as : List Value} {S : Sh} (hK : kdc c = K) (h9 : K < 100) (h : S.1 b = K) : rcv k c (.ref b :: as) S = true := by
  unfold rcv
  split
  · rfl
  · show ((S.1 b == kdc c) && decide (kdc c < 100)) = true
    rw [hK, h]
    simp [h9]
theorem rcv_0 {c : Nat} {as : List Value} {S : Sh} : rcv 0 c as S = true := rfl
theorem Ret_v {pc' cal : Nat} {w : Value} {rest : List Value} : Ret m pc pc' cal ls rest Q 0 (some w) I J R S = Wp m pc' ls (w :: rest) I J R S Q := rfl
theorem Ret_n {pc' cal : Nat} {rest : List Value} : Ret m pc pc' cal ls rest Q 0 none I J R S = Wp m pc' ls rest I J R S Q := rfl
theorem cmp_eq (x y : Int64) : lg_cmp x y = 0 ↔ x = y := by
  unfold lg_cmp
  by_cases h1 : x > y
  · rw [if_pos h1]
    refine ⟨fun q => absurd q (by decide), fun q => ?_⟩
    rw [q, gt_iff_lt, Int64.lt_iff_toInt_lt] at h1
    omega
  · rw [if_neg h1]
    by_cases h2 : x = y
    · rw [if_pos h2]; exact ⟨fun _ => h2, fun _ => rfl⟩
    · rw [if_neg h2]; exact ⟨fun q => absurd q (by decide), fun q => absurd q h2⟩
theorem cmp_lt (x y : Int64) : lg_cmp x y < 0 ↔ x < y := by
  unfold lg_cmp
  by_cases h1 : x > y
  · rw [if_pos h1]
    refine ⟨fun q => absurd q (by decide), fun q => ?_⟩
    rw [gt_iff_lt, Int64.lt_iff_toInt_lt] at h1
    rw [Int64.lt_iff_toInt_lt] at q
    omega
  · rw [if_neg h1]
    by_cases h2 : x = y
    · rw [if_pos h2]
      refine ⟨fun q => absurd q (by decide), fun q => ?_⟩
      rw [h2, Int64.lt_iff_toInt_lt] at q
      omega
    · rw [if_neg h2]
      refine ⟨fun _ => ?_, fun _ => by decide⟩
      rw [gt_iff_lt, Int64.lt_iff_toInt_lt] at h1
      rw [← Int64.toInt_inj] at h2
      rw [Int64.lt_iff_toInt_lt]
      omega
theorem cmp_gt (x y : Int64) : 0 < lg_cmp x y ↔ y < x := by
  unfold lg_cmp
  by_cases h1 : x > y
  · rw [if_pos h1]; exact ⟨fun _ => h1, fun _ => by decide⟩
  · rw [if_neg h1]
    refine ⟨fun q => ?_, fun q => absurd q h1⟩
    by_cases h2 : x = y
    · rw [if_pos h2] at q; exact absurd q (by decide)
    · rw [if_neg h2] at q; exact absurd q (by decide)
end OPS2
