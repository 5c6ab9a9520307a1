/-! A small machine over numbered places: what a method's code does to int cells, long cells and reference cells. -/
abbrev MI : Type := Nat → Nat → Int32
abbrev MJ : Type := Nat → Nat → Int64
abbrev MR : Type := Nat → Nat → Value
/-- kinds of the places, lengths, how many places, how many throws, slots -/
abbrev Sh : Type := (Nat → Nat) × (Nat → Nat) × Nat × Nat × Nat
def u2 {α : Type} (f : Nat → Nat → α) (a k : Nat) (v : α) : Nat → Nat → α := fun b j => if b = a ∧ j = k then v else f b j
def u1 {α : Type} (f : Nat → Nat → α) (a : Nat) (v : α) : Nat → Nat → α := fun b j => if b = a then v else f b j
def u0 (f : Nat → Nat) (a v : Nat) : Nat → Nat := fun b => if b = a then v else f b
/-- a new place -/
def sh_new (S : Sh) (k n w : Nat) : Sh := (u0 S.1 S.2.2.1 k, u0 S.2.1 S.2.2.1 n, S.2.2.1 + 1, S.2.2.2.1, S.2.2.2.2 + w)
abbrev SkC : Type := Nat × List Value × List Value × MI × MJ × MR × Sh
abbrev SkR : Type := SkC ⊕ (Nat × List Value × List Value × Nat) ⊕ Option Value ⊕ Nat
/-- no long stands just ahead of the place k of the locals -/
def lv_free (ls : List Value) (k : Nat) : Bool := match k with
  | 0 => true
  | j + 1 => match ls[j]? with
    | some (.long _) => false
    | some (.double _) => false
    | _ => true
abbrev nov : Value := .retAddr 0
def st1 (ls : List Value) (k : Nat) (v : Value) : List Value := ls.set k v
def st2 (ls : List Value) (k : Nat) (v : Value) : List Value := (ls.set k v).set (k + 1) nov
def jt (pc : Nat) (off : Int) : Nat := ((pc : Int) + off).toNat
def jok (pc : Nat) (off : Int) : Bool := decide (0 ≤ (pc : Int) + off)
def inb (i : Int32) (n : Nat) : Bool := decide (0 ≤ i.toInt) && decide (i.toInt < n)
abbrev ix (i : Int32) : Nat := i.toNatClampNeg
def cat1 (v : Value) : Bool := v.category == 1
def catS (st : List Value) : Nat := (st.map fun v => v.category).sum
def sk_at (m : Nat) : Nat := sk_cl m
/-- the jumps of a condition -/
def cnd0 (c : Jvm.ClassFile.Cond) (x : Int32) : Bool := match c with
  | .eq => decide (x = 0)
  | .ne => decide (¬ x = 0)
  | .lt => decide (x < 0)
  | .ge => decide (0 ≤ x)
  | .gt => decide (0 < x)
  | .le => decide (x ≤ 0)
def cnd2 (c : Jvm.ClassFile.Cond) (x y : Int32) : Bool := match c with
  | .eq => decide (x = y)
  | .ne => decide (¬ x = y)
  | .lt => decide (x < y)
  | .ge => decide (y ≤ x)
  | .gt => decide (y < x)
  | .le => decide (x ≤ y)
/-- the constants that a static field holds -/
def stv (j : Nat) : Value := match j with
  | 0 => .ref 0
  | 1 => .ref 1
  | 2 => .int 1
  | _ => .retAddr 7
/-- what may be returned as an int by a method of this type -/
def rOk (t : Option FieldType) (v : Int32) : Bool := match t with
  | some .int => true
  | some .boolean => decide (v = 0) || decide (v = 1)
  | some .char => decide ((v.toUInt32 % 65536).toInt32 = v)
  | some .byte => decide (v.toInt8.toInt32 = v)
  | _ => false
def isRefT (t : Option FieldType) : Bool := match t with
  | some (.object _) => true
  | some (.array _) => true
  | _ => false
/-- the kind of the objects of a class -/
def kdc (c : Nat) : Nat := match c with
  | 1 => 7
  | 2 => 3
  | 3 => 0
  | 4 => 4
  | 5 => 6
  | 6 => 1
  | 7 => 2
  | 8 => 5
  | 11 => 20
  | 15 => 21
  | _ => 999
def rcv (k c : Nat) (as : List Value) (S : Sh) : Bool := match k with
  | 0 => true
  | _ => match as with
    | .ref b :: _ => S.1 b == kdc c && decide (kdc c < 100)
    | _ => false
/-- a field's new content -/
def putF (t a k : Nat) (v : Value) (I : MI) (J : MJ) (R : MR) : Option (MI × MJ × MR) := match t, v with
  | 0, .int x => some (u2 I a k x, J, R)
  | 1, .long x => some (I, u2 J a k x, R)
  | 2, .ref b => some (I, J, u2 R a k (.ref b))
  | 2, .null => some (I, J, u2 R a k .null)
  | _, _ => none
def getF (t a k : Nat) (I : MI) (J : MJ) (R : MR) : Value := match t with
  | 1 => .long (J a k)
  | 2 => R a k
  | _ => .int (I a k)
def argL : List Value → List Value
  | [] => []
  | v :: vs => if v.category = 2 then v :: nov :: argL vs else v :: argL vs
def exCall (m : Nat) (pc idx kd : Nat) (ls st : List Value) (I : MI) (J : MJ) (R : MR) (S : Sh) : Option SkR :=
  match sk_lkM (sk_cl m) idx with
  | none => none
  | some 999 => match kd, st with
    | 2, .ref _ :: st' => if 1 ≤ sk_fr m ∧ catS st' + 12 ≤ sk_lo m then some (.inl (pc + 3, ls, st', I, J, R, S)) else none
    | _, _ => none
  | some 250 => match kd, st with
    | 0, .int y :: .int x :: st' => if 1 ≤ sk_fr m ∧ catS st' + 20 ≤ sk_lo m then some (.inl (pc + 3, ls, .int (if x < y then y else x) :: st', I, J, R, S)) else none
    | _, _ => none
  | some 251 => match kd, st with
    | 0, .int y :: .int x :: st' => if 1 ≤ sk_fr m ∧ catS st' + 20 ≤ sk_lo m then some (.inl (pc + 3, ls, .int (if y < x then y else x) :: st', I, J, R, S)) else none
    | _, _ => none
  | some 253 => match kd, st with
    | 1, .ref a :: st' => if S.1 a = 20 ∧ 1 ≤ sk_fr m ∧ catS st' + 20 ≤ sk_lo m then some (.inl (pc + 3, ls, .int (I a 0) :: st', I, J, R, S)) else none
    | _, _ => none
  | some cal => if sk_kd cal = kd ∧ sk_na cal ≤ st.length ∧ sk_fr cal + 1 ≤ sk_fr m ∧ 8 + (sk_mx cal + 11) + sk_lo cal ≤ sk_lo m ∧ catS (st.drop (sk_na cal)) ≤ 8 ∧ (argL (st.take (sk_na cal)).reverse).length ≤ sk_mx cal ∧ cal < 261 ∧ sk_sp cal = false ∧ rcv kd (sk_cl cal) (st.take (sk_na cal)).reverse S = true
      then some (.inr (.inl (cal, (st.take (sk_na cal)).reverse, st.drop (sk_na cal), pc + 3))) else none
def isArr (k : Nat) : Bool := k == 30 || k == 31 || k == 33 || k == 40 || k == 42 || k == 43
def nxt (pc : Nat) (ls st : List Value) (I : MI) (J : MJ) (R : MR) (S : Sh) : Option SkR := some (.inl (pc, ls, st, I, J, R, S))
/-- one instruction -/
def exI (m : Nat) (i : Instr) (len pc : Nat) (ls st : List Value) (I : MI) (J : MJ) (R : MR) (S : Sh) : Option SkR :=
  match i, len with
  | .iconst n, 1 => nxt (pc + 1) ls (.int (Int32.ofInt n) :: st) I J R S
  | .bipush n, 2 => nxt (pc + 2) ls (.int (Int8.ofInt n).toInt32 :: st) I J R S
  | .sipush n, 3 => nxt (pc + 3) ls (.int (Int16.ofInt n).toInt32 :: st) I J R S
  | .lconst n, 1 => nxt (pc + 1) ls (.long (Int64.ofNat (n : Nat)) :: st) I J R S
  | .aconst_null, 1 => nxt (pc + 1) ls (.null :: st) I J R S
  | .ldc idx, 2 => match sk_lkI (sk_cl m) idx with
    | some v => nxt (pc + 2) ls (.int v :: st) I J R S
    | none => match sk_lkL (sk_cl m) idx with
      | some p => nxt (pc + 2) ls (.ref p :: st) I J R S
      | none => none
  | .ldc_w idx, 3 => match sk_lkI (sk_cl m) idx with
    | some v => nxt (pc + 3) ls (.int v :: st) I J R S
    | none => none
  | .ldc2_w idx, 3 => match sk_lkK (sk_cl m) idx with
    | some v => nxt (pc + 3) ls (.long v :: st) I J R S
    | none => none
  | .iload_n k, 1 => match ls[(k : Nat)]? with
    | some (.int x) => nxt (pc + 1) ls (.int x :: st) I J R S
    | _ => none
  | .iload k, 2 => match ls[k]? with
    | some (.int x) => nxt (pc + 2) ls (.int x :: st) I J R S
    | _ => none
  | .lload_n k, 1 => match ls[(k : Nat)]? with
    | some (.long x) => nxt (pc + 1) ls (.long x :: st) I J R S
    | _ => none
  | .lload k, 2 => match ls[k]? with
    | some (.long x) => nxt (pc + 2) ls (.long x :: st) I J R S
    | _ => none
  | .aload_n k, 1 => match ls[(k : Nat)]? with
    | some (.ref x) => nxt (pc + 1) ls (.ref x :: st) I J R S
    | some .null => nxt (pc + 1) ls (.null :: st) I J R S
    | _ => none
  | .aload k, 2 => match ls[k]? with
    | some (.ref x) => nxt (pc + 2) ls (.ref x :: st) I J R S
    | some .null => nxt (pc + 2) ls (.null :: st) I J R S
    | _ => none
  | .istore_n k, 1 => match st with
    | .int x :: st' => if (k : Nat) < ls.length ∧ lv_free ls k = true then nxt (pc + 1) (st1 ls k (.int x)) st' I J R S else none
    | _ => none
  | .istore k, 2 => match st with
    | .int x :: st' => if k < ls.length ∧ lv_free ls k = true then nxt (pc + 2) (st1 ls k (.int x)) st' I J R S else none
    | _ => none
  | .lstore_n k, 1 => match st with
    | .long x :: st' => if (k : Nat) + 1 < ls.length ∧ lv_free ls k = true then nxt (pc + 1) (st2 ls k (.long x)) st' I J R S else none
    | _ => none
  | .lstore k, 2 => match st with
    | .long x :: st' => if k + 1 < ls.length ∧ lv_free ls k = true then nxt (pc + 2) (st2 ls k (.long x)) st' I J R S else none
    | _ => none
  | .astore_n k, 1 => match st with
    | .ref x :: st' => if (k : Nat) < ls.length ∧ lv_free ls k = true then nxt (pc + 1) (st1 ls k (.ref x)) st' I J R S else none
    | .null :: st' => if (k : Nat) < ls.length ∧ lv_free ls k = true then nxt (pc + 1) (st1 ls k .null) st' I J R S else none
    | _ => none
  | .astore k, 2 => match st with
    | .ref x :: st' => if k < ls.length ∧ lv_free ls k = true then nxt (pc + 2) (st1 ls k (.ref x)) st' I J R S else none
    | .null :: st' => if k < ls.length ∧ lv_free ls k = true then nxt (pc + 2) (st1 ls k .null) st' I J R S else none
    | _ => none
  | .iinc k n, 3 => match ls[k]? with
    | some (.int x) => if k < ls.length ∧ lv_free ls k = true then nxt (pc + 3) (st1 ls k (.int (x + Int32.ofInt n))) st I J R S else none
    | _ => none
  | .iadd, 1 => match st with | .int y :: .int x :: st' => nxt (pc + 1) ls (.int (x + y) :: st') I J R S | _ => none
  | .isub, 1 => match st with | .int y :: .int x :: st' => nxt (pc + 1) ls (.int (x - y) :: st') I J R S | _ => none
  | .imul, 1 => match st with | .int y :: .int x :: st' => nxt (pc + 1) ls (.int (x * y) :: st') I J R S | _ => none
  | .iand, 1 => match st with | .int y :: .int x :: st' => nxt (pc + 1) ls (.int (x &&& y) :: st') I J R S | _ => none
  | .ior, 1 => match st with | .int y :: .int x :: st' => nxt (pc + 1) ls (.int (x ||| y) :: st') I J R S | _ => none
  | .idiv, 1 => match st with | .int y :: .int x :: st' => if y = 0 then none else nxt (pc + 1) ls (.int (x / y) :: st') I J R S | _ => none
  | .irem, 1 => match st with | .int y :: .int x :: st' => if y = 0 then none else nxt (pc + 1) ls (.int (x - x / y * y) :: st') I J R S | _ => none
  | .ishl, 1 => match st with | .int y :: .int x :: st' => nxt (pc + 1) ls (.int (x <<< (y &&& 31)) :: st') I J R S | _ => none
  | .ishr, 1 => match st with | .int y :: .int x :: st' => nxt (pc + 1) ls (.int (x >>> (y &&& 31)) :: st') I J R S | _ => none
  | .iushr, 1 => match st with | .int y :: .int x :: st' => nxt (pc + 1) ls (.int (x.toUInt32 >>> (y.toUInt32 &&& Int32.toUInt32 31)).toInt32 :: st') I J R S | _ => none
  | .ladd, 1 => match st with | .long y :: .long x :: st' => nxt (pc + 1) ls (.long (x + y) :: st') I J R S | _ => none
  | .lsub, 1 => match st with | .long y :: .long x :: st' => nxt (pc + 1) ls (.long (x - y) :: st') I J R S | _ => none
  | .lmul, 1 => match st with | .long y :: .long x :: st' => nxt (pc + 1) ls (.long (x * y) :: st') I J R S | _ => none
  | .land, 1 => match st with | .long y :: .long x :: st' => nxt (pc + 1) ls (.long (x &&& y) :: st') I J R S | _ => none
  | .lor, 1 => match st with | .long y :: .long x :: st' => nxt (pc + 1) ls (.long (x ||| y) :: st') I J R S | _ => none
  | .lshl, 1 => match st with | .int y :: .long x :: st' => nxt (pc + 1) ls (.long (x <<< (y.toInt64 &&& 63)) :: st') I J R S | _ => none
  | .lshr, 1 => match st with | .int y :: .long x :: st' => nxt (pc + 1) ls (.long (x >>> (y.toInt64 &&& 63)) :: st') I J R S | _ => none
  | .lcmp, 1 => match st with | .long y :: .long x :: st' => nxt (pc + 1) ls (.int (lg_cmp x y) :: st') I J R S | _ => none
  | .i2l, 1 => match st with | .int x :: st' => nxt (pc + 1) ls (.long x.toInt64 :: st') I J R S | _ => none
  | .l2i, 1 => match st with | .long x :: st' => nxt (pc + 1) ls (.int x.toInt32 :: st') I J R S | _ => none
  | .i2c, 1 => match st with | .int x :: st' => nxt (pc + 1) ls (.int (x.toUInt32 % 65536).toInt32 :: st') I J R S | _ => none
  | .dup, 1 => match st with | v :: st' => if cat1 v = true then nxt (pc + 1) ls (v :: v :: st') I J R S else none | _ => none
  | .dup2, 1 => match st with
    | .long x :: st' => nxt (pc + 1) ls (.long x :: .long x :: st') I J R S
    | v :: w :: st' => if cat1 v = true ∧ cat1 w = true then nxt (pc + 1) ls (v :: w :: v :: w :: st') I J R S else none
    | _ => none
  | .pop, 1 => match st with | v :: st' => if cat1 v = true then nxt (pc + 1) ls st' I J R S else none | _ => none
  | .pop2, 1 => match st with | .long _ :: st' => nxt (pc + 1) ls st' I J R S | _ => none
  | .ifCond c off, 3 => match st with
    | .int x :: st' => if jok pc off = true then (if cnd0 c x = true then nxt (jt pc off) ls st' I J R S else nxt (pc + 3) ls st' I J R S) else none
    | _ => none
  | .if_icmp c off, 3 => match st with
    | .int y :: .int x :: st' => if jok pc off = true then (if cnd2 c x y = true then nxt (jt pc off) ls st' I J R S else nxt (pc + 3) ls st' I J R S) else none
    | _ => none
  | .ifnull off, 3 => match st with
    | .ref _ :: st' => nxt (pc + 3) ls st' I J R S
    | .null :: st' => if jok pc off = true then nxt (jt pc off) ls st' I J R S else none
    | _ => none
  | .ifnonnull off, 3 => match st with
    | .ref _ :: st' => if jok pc off = true then nxt (jt pc off) ls st' I J R S else none
    | .null :: st' => nxt (pc + 3) ls st' I J R S
    | _ => none
  | .goto off, 3 => if jok pc off = true then nxt (jt pc off) ls st I J R S else none
  | .tableswitch d lo hi offs, _ => match st with
    | .int x :: st' => if x.toInt < lo ∨ hi < x.toInt then (if jok pc d = true then nxt (jt pc d) ls st' I J R S else none)
        else match offs[(x.toInt - lo).toNat]? with
          | some off => if jok pc off = true then nxt (jt pc off) ls st' I J R S else none
          | none => none
    | _ => none
  | .lookupswitch d ps, _ => match st with
    | .int x :: st' => if (ps.toList.zip (ps.toList.drop 1)).all (fun (a, next) => a.1 < next.1) = true ∧ jok pc (Op.lookupswitch.offset ps.toList d x.toInt) = true
        then nxt (jt pc (Op.lookupswitch.offset ps.toList d x.toInt)) ls st' I J R S else none
    | _ => none
  | .getstatic idx, 3 => match sk_lkS (sk_cl m) idx with
    | some j => nxt (pc + 3) ls (stv j :: st) I J R S
    | none => none
  | .getfield idx, 3 => match sk_lkF (sk_cl m) idx, st with
    | some (c, k, t, _, _), .ref a :: st' => if S.1 a = c then nxt (pc + 3) ls (getF t a k I J R :: st') I J R S else none
    | _, _ => none
  | .putfield idx, 3 => match sk_lkF (sk_cl m) idx, st with
    | some (c, k, t, fin, nest), v :: .ref a :: st' => if S.1 a = c ∧ c < 9 ∧ nest = 0 ∧ (fin = 0 ∨ (sk_kd m = 2 ∧ kdc (sk_cl m) = c)) then
        (match putF (if t = 3 then 0 else t) a k v I J R with
          | some (I', J', R') => if t = 3 ∧ ¬ (I' a k = 0 ∨ I' a k = 1) then none else nxt (pc + 3) ls st' I' J' R' S
          | none => none) else none
    | _, _ => none
  | .arraylength, 1 => match st with
    | .ref a :: st' => if isArr (S.1 a) = true then nxt (pc + 1) ls (.int (nI (S.2.1 a)) :: st') I J R S else none
    | _ => none
  | .iaload, 1 => match st with
    | .int i :: .ref a :: st' => if (S.1 a = 30 ∨ S.1 a = 40) ∧ inb i (S.2.1 a) = true then nxt (pc + 1) ls (.int (I a (ix i)) :: st') I J R S else none
    | _ => none
  | .laload, 1 => match st with
    | .int i :: .ref a :: st' => if S.1 a = 31 ∧ inb i (S.2.1 a) = true then nxt (pc + 1) ls (.long (J a (ix i)) :: st') I J R S else none
    | _ => none
  | .baload, 1 => match st with
    | .int i :: .ref a :: st' => if S.1 a = 42 ∧ inb i (S.2.1 a) = true then nxt (pc + 1) ls (.int (I a (ix i)) :: st') I J R S else none
    | _ => none
  | .aaload, 1 => match st with
    | .int i :: .ref a :: st' => if (S.1 a = 33 ∨ S.1 a = 43) ∧ inb i (S.2.1 a) = true then nxt (pc + 1) ls (R a (ix i) :: st') I J R S else none
    | _ => none
  | .iastore, 1 => match st with
    | .int x :: .int i :: .ref a :: st' => if S.1 a = 30 ∧ inb i (S.2.1 a) = true then nxt (pc + 1) ls st' (u2 I a (ix i) x) J R S else none
    | _ => none
  | .lastore, 1 => match st with
    | .long x :: .int i :: .ref a :: st' => if S.1 a = 31 ∧ inb i (S.2.1 a) = true then nxt (pc + 1) ls st' I (u2 J a (ix i) x) R S else none
    | _ => none
  | .aastore, 1 => match st with
    | .ref b :: .int i :: .ref a :: st' => if S.1 a = 33 ∧ inb i (S.2.1 a) = true ∧ S.1 b = 0 then nxt (pc + 1) ls st' I J (u2 R a (ix i) (.ref b)) S else none
    | _ => none
  | .newarray t, 2 => match st with
    | .int n :: st' => if 0 ≤ n.toInt ∧ n.toInt ≤ 100000 ∧ S.2.2.2.1 = 0 then
        (match t with
          | .int => nxt (pc + 2) ls (.ref S.2.2.1 :: st') (u1 I S.2.2.1 0) J R (sh_new S 30 (ix n) (ix n))
          | .long => nxt (pc + 2) ls (.ref S.2.2.1 :: st') I (u1 J S.2.2.1 0) R (sh_new S 31 (ix n) (ix n))
          | _ => none) else none
    | _ => none
  | .anewarray idx, 3 => match st with
    | .int n :: st' => if 0 ≤ n.toInt ∧ n.toInt ≤ 100000 ∧ S.2.2.2.1 = 0 ∧ sk_lkN (sk_cl m) idx = some 0 then
        nxt (pc + 3) ls (.ref S.2.2.1 :: st') I J (u1 R S.2.2.1 .null) (sh_new S 33 (ix n) (ix n)) else none
    | _ => none
  | .new idx, 3 => match sk_th m pc with
    | some e => match st with
      | [] => some (.inr (.inr (.inr e)))
      | _ => none
    | none => match sk_lkN (sk_cl m) idx with
      | some c => if S.2.2.2.1 = 0 ∧ c < 9 then nxt (pc + 3) ls (.ref S.2.2.1 :: st) (u1 I S.2.2.1 0) (u1 J S.2.2.1 0) (u1 R S.2.2.1 .null) (sh_new S c 0 ((sk_tyL.getD c []).length)) else none
      | none => none
  | .invokevirtual idx, 3 => exCall m pc idx 1 ls st I J R S
  | .invokestatic idx, 3 => exCall m pc idx 0 ls st I J R S
  | .invokespecial idx, 3 => exCall m pc idx 2 ls st I J R S
  | .ireturn, 1 => match st with | [.int v] => if rOk (sk_rt m) v = true then some (.inr (.inr (.inl (some (.int v))))) else none | _ => none
  | .lreturn, 1 => match st with | [.long v] => if sk_rt m = some .long then some (.inr (.inr (.inl (some (.long v))))) else none | _ => none
  | .areturn, 1 => match st with
    | [.ref v] => if isRefT (sk_rt m) = true then some (.inr (.inr (.inl (some (.ref v))))) else none
    | [.null] => if isRefT (sk_rt m) = true then some (.inr (.inr (.inl (some .null)))) else none
    | _ => none
  | .return_, 1 => match st with | [] => if sk_rt m = none then some (.inr (.inr (.inl none))) else none | _ => none
  | _, _ => none
