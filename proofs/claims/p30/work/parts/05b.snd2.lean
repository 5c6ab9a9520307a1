def cN (S : Sh) : Nat := S.2.2.1 + S.2.2.2.1
def sN (S : Sh) : Nat := S.2.2.2.2
section SN2
variable {base : Nat} {ca : Nat → Nat} {fm : Value} {D : va_G}
/-- the locals that are known -/
def al1 (base : Nat) (ca : Nat → Nat) (fm : Value) (q : Value × Nat) : Option (Nat × Value) := match q.1 with
  | .retAddr _ => none
  | v => some (q.2, tr base ca fm v)
def al (base : Nat) (ca : Nat → Nat) (fm : Value) (ls : List Value) : List (Nat × Value) := ls.zipIdx.filterMap (al1 base ca fm)
theorem al_of {ls : List Value} {k : Nat} {v : Value} (h : ls[k]? = some v) (hv : ∀ n, v ≠ .retAddr n) : (k, tr base ca fm v) ∈ al base ca fm ls := by
  refine List.mem_filterMap.mpr ⟨(v, k), ?_, ?_⟩
  · exact List.mem_zipIdx_iff_getElem?.mpr h
  · unfold al1
    cases v <;> first | rfl | exact absurd rfl (hv _)
theorem al_to {ls : List Value} {q : Nat × Value} (h : q ∈ al base ca fm ls) : ∃ v, ls[q.1]? = some v ∧ (∀ n, v ≠ .retAddr n) ∧ q.2 = tr base ca fm v := by
  obtain ⟨⟨v, k⟩, h1, h2⟩ := List.mem_filterMap.mp h
  have h1 := List.mem_zipIdx_iff_getElem?.mp h1
  cases v with
  | retAddr n => cases h2
  | _ => cases h2; exact ⟨_, h1, fun n e => (by cases e), rfl⟩
theorem tr_cat (hf : fm.category = 1) (v : Value) : (tr base ca fm v).category = v.category := by
  cases v with
  | retAddr n =>
    show (if n = 7 then fm else .retAddr n).category = 1
    by_cases h : n = 7
    · rw [if_pos h]; exact hf
    · rw [if_neg h]; rfl
  | _ => rfl
theorem catS_tr (hf : fm.category = 1) (st : List Value) : ((st.map (tr base ca fm)).map fun v => v.category).sum = catS st := by
  unfold catS
  rw [List.map_map]
  congr 1
  exact List.map_congr_left fun v _ => tr_cat hf v
theorem has_sub {ls : Array Slot} {nL : Nat} {l l' : List (Nat × Value)} (h : lv_has ls nL l) (hs : ∀ q ∈ l', q ∈ l) : lv_has ls nL l' := ⟨h.1, h.2.1, fun q hq => h.2.2 q (hs q hq)⟩
theorem has_at {ls : Array Slot} {nL k : Nat} {v : Value} {l : List Value} (h : lv_has ls nL (al base ca fm l)) (hk : l[k]? = some v) (hv : ∀ n, v ≠ .retAddr n) : ls[k]? = some (.val (tr base ca fm v)) := h.2.2 _ (al_of hk hv)
/-- a store of one word -/
theorem al_st1 (hf : fm.category = 1) {ls : List Value} {i : Nat} {v : Value} (hi : i < ls.length) (hfr : lv_free ls i = true) (w : Value) (hw : v = w ∨ ∃ n, v = .retAddr n) :
    ∀ q ∈ al base ca fm (st1 ls i v), q ∈ (i, tr base ca fm w) :: (al base ca fm ls).filter (fun q => !(q.1 == i) && !(q.1 + 1 == i && q.2.category == 2)) := by
  intro q hq
  obtain ⟨u, h1, h2, h3⟩ := al_to hq
  unfold st1 at h1
  rw [List.getElem?_set] at h1
  by_cases e : i = q.1
  · rw [if_pos e, if_pos (by omega)] at h1
    cases h1
    rcases hw with rfl | ⟨n, rfl⟩
    · obtain ⟨a, b⟩ := q
      dsimp only at e h3
      subst e; subst h3
      exact List.mem_cons_self
    · exact absurd rfl (h2 n)
  · rw [if_neg e] at h1
    refine List.mem_cons_of_mem _ (List.mem_filter.mpr ⟨?_, ?_⟩)
    · obtain ⟨a, b⟩ := q
      dsimp only at h1 h3
      subst h3
      exact al_of h1 h2
    · have e1 : (q.1 == i) = false := by simp; exact fun x => e x.symm
      rw [e1]
      by_cases e2 : q.1 + 1 = i
      · subst e2
        unfold lv_free at hfr
        dsimp only at hfr
        rw [h1] at hfr
        have hc : q.2.category = 1 := by
          rw [h3, tr_cat hf]
          cases u with
          | long x => cases hfr
          | double x => cases hfr
          | _ => rfl
        simp [hc]
      · have : (q.1 + 1 == i) = false := by simp; exact e2
        simp [this]
theorem al_st1n (hf : fm.category = 1) {ls : List Value} {i : Nat} (u : Value) (hi : i < ls.length) (hfr : lv_free ls i = true) :
    ∀ q ∈ al base ca fm (st1 ls i nov), q ∈ (i, u) :: (al base ca fm ls).filter (fun q => !(q.1 == i) && !(q.1 + 1 == i && q.2.category == 2)) := by
  intro q hq
  rcases List.mem_cons.mp (al_st1 hf hi hfr nov (Or.inl rfl) q hq) with rfl | h
  · obtain ⟨v, h1, h2, -⟩ := al_to hq
    unfold st1 at h1
    rw [List.getElem?_set, if_pos rfl, if_pos hi] at h1
    cases h1
    exact absurd rfl (h2 0)
  · exact List.mem_cons_of_mem _ h
/-- a store of two words -/
theorem al_st2 (hf : fm.category = 1) {ls : List Value} {i : Nat} {v : Value} (hi : i + 1 < ls.length) (hfr : lv_free ls i = true) :
    ∀ q ∈ al base ca fm (st2 ls i v), q ∈ (i, tr base ca fm v) :: (al base ca fm ls).filter (fun q => !(q.1 == i) && (!(q.1 == i + 1) && !(q.1 + 1 == i && q.2.category == 2))) := by
  intro q hq
  obtain ⟨u, h1, h2, h3⟩ := al_to hq
  unfold st2 at h1
  rw [List.getElem?_set] at h1
  by_cases e0 : i + 1 = q.1
  · rw [if_pos e0, if_pos (by simp; omega)] at h1
    cases h1
    exact absurd rfl (h2 0)
  rw [if_neg e0, List.getElem?_set] at h1
  by_cases e : i = q.1
  · rw [if_pos e, if_pos (by omega)] at h1
    cases h1
    obtain ⟨a, b⟩ := q
    dsimp only at e h3
    subst e; subst h3
    exact List.mem_cons_self
  · rw [if_neg e] at h1
    refine List.mem_cons_of_mem _ (List.mem_filter.mpr ⟨?_, ?_⟩)
    · obtain ⟨a, b⟩ := q
      dsimp only at h1 h3
      subst h3
      exact al_of h1 h2
    · have e1 : (q.1 == i) = false := by simp; exact fun x => e x.symm
      have e3 : (q.1 == i + 1) = false := by simp; exact fun x => e0 x.symm
      rw [e1, e3]
      by_cases e2 : q.1 + 1 = i
      · subst e2
        unfold lv_free at hfr
        dsimp only at hfr
        rw [h1] at hfr
        have hc : q.2.category = 1 := by
          rw [h3, tr_cat hf]
          cases u with
          | long x => cases hfr
          | double x => cases hfr
          | _ => rfl
        simp [hc]
      · have : (q.1 + 1 == i) = false := by simp; exact e2
        simp [this]
theorem st1_len (ls : List Value) (k : Nat) (v : Value) : (st1 ls k v).length = ls.length := List.length_set
theorem st2_len (ls : List Value) (k : Nat) (v : Value) : (st2 ls k v).length = ls.length := by simp [st2]
end SN2
/-- what a body of the method m has around it -/
def Cx (base : Nat) (ca : Nat → Nat) (fm : Value) (p : Program) (l : Launch) (s : State) (mid : MethodId) (args : Array Value) (meth : Method) (c : Code) (Rm : Room) (m : Nat) : Prop :=
  p.tables.exec = Jvm.exec ∧ c.code = sk_by m ∧ c.maxLocals = sk_mx m ∧ s.vm.findClass (sk_cn (sk_cl m)) = some mid.cls ∧ (∀ w ∈ sk_TB, w.before args s = true) ∧ meth.sig.returnType = sk_rt m ∧ meth.locks = false ∧
  (sk_kd m = 2 → meth.name = "<init>") ∧ Kv ca s ∧ sk_fr m ≤ Rm.frames ∧ sk_lo m ≤ Rm.locals ∧ c.exceptionTable.toList = tableOf (sk_hh m) ∧ l.stackTraces = false ∧ sk_cl m < 19 ∧ fm.category = 1 ∧ Kh base ca fm s s.heap
/-- the real machine, at the small one's place, comes to Q -/
def Wk (base : Nat) (ca : Nat → Nat) (fm : Value) (D : va_G) (p : Program) (l : Launch) (e : Env) (Rm : Room) (s : State) (mid : MethodId) (args : Array Value) (below : List Frame) (meth : Method) (c : Code) (k0 k1 : Nat) (Q : State → Prop)
    (m pc : Nat) (ls st : List Value) (I : MI) (J : MJ) (R : MR) (S : Sh) : Prop :=
  ∀ (H : Heap) (locs : List Loc) (lsR : Array Slot) (cells slots : Nat), Hd base ca fm D s H I J R S → va_S (sk_A base) s.heap H locs → lv_has lsR (sk_mx m) (al base ca fm ls) → ls.length = sk_mx m → cells + k0 = cN S → slots + k1 = sN S →
    W p l e Rm s mid args below meth c H locs cells slots Q (F0 mid pc lsR (st.map (tr base ca fm)))
section SN3
variable {base : Nat} {ca : Nat → Nat} {fm : Value} {D : va_G} {p : Program} {l : Launch} {e : Env} {Rm : Room} {s : State} {mid : MethodId} {args : Array Value} {below : List Frame} {meth : Method} {c : Code} {k0 k1 : Nat} {Q : State → Prop}
variable {m pc : Nat} {ls st : List Value} {I : MI} {J : MJ} {R : MR} {S : Sh}
theorem k_iconst (C : Cx base ca fm p l s mid args meth c Rm m) {n : Int} (hd : decode (sk_by m) pc = .ok (.iconst n, 1)) (k : Wk base ca fm D p l e Rm s mid args below meth c k0 k1 Q m (pc + 1) ls (.int (Int32.ofInt n) :: st) I J R S) : Wk base ca fm D p l e Rm s mid args below meth c k0 k1 Q m (pc) ls (st) I J R S := by
  obtain ⟨hx, hb, -⟩ := C
  intro H locs lsR cells slots h1 h2 h3 h4 h5 h6
  exact lv_iconst hx hb hd rfl (k H locs lsR cells slots h1 h2 h3 h4 h5 h6)
theorem k_bipush (C : Cx base ca fm p l s mid args meth c Rm m) {n : Int} (hd : decode (sk_by m) pc = .ok (.bipush n, 2)) (k : Wk base ca fm D p l e Rm s mid args below meth c k0 k1 Q m (pc + 2) ls (.int (Int8.ofInt n).toInt32 :: st) I J R S) : Wk base ca fm D p l e Rm s mid args below meth c k0 k1 Q m (pc) ls (st) I J R S := by
  obtain ⟨hx, hb, -⟩ := C
  intro H locs lsR cells slots h1 h2 h3 h4 h5 h6
  exact lv_bipush hx hb hd rfl (k H locs lsR cells slots h1 h2 h3 h4 h5 h6)
theorem k_sipush (C : Cx base ca fm p l s mid args meth c Rm m) {n : Int} (hd : decode (sk_by m) pc = .ok (.sipush n, 3)) (k : Wk base ca fm D p l e Rm s mid args below meth c k0 k1 Q m (pc + 3) ls (.int (Int16.ofInt n).toInt32 :: st) I J R S) : Wk base ca fm D p l e Rm s mid args below meth c k0 k1 Q m (pc) ls (st) I J R S := by
  obtain ⟨hx, hb, -⟩ := C
  intro H locs lsR cells slots h1 h2 h3 h4 h5 h6
  exact lv_sipush hx hb hd rfl (k H locs lsR cells slots h1 h2 h3 h4 h5 h6)
theorem k_lconst (C : Cx base ca fm p l s mid args meth c Rm m) {n : Fin 2} (hd : decode (sk_by m) pc = .ok (.lconst n, 1)) (k : Wk base ca fm D p l e Rm s mid args below meth c k0 k1 Q m (pc + 1) ls (.long (Int64.ofNat (n : Nat)) :: st) I J R S) : Wk base ca fm D p l e Rm s mid args below meth c k0 k1 Q m (pc) ls (st) I J R S := by
  obtain ⟨hx, hb, -⟩ := C
  intro H locs lsR cells slots h1 h2 h3 h4 h5 h6
  exact lv_lconst hx hb hd rfl (k H locs lsR cells slots h1 h2 h3 h4 h5 h6)
theorem k_null (C : Cx base ca fm p l s mid args meth c Rm m)  (hd : decode (sk_by m) pc = .ok (.aconst_null, 1)) (k : Wk base ca fm D p l e Rm s mid args below meth c k0 k1 Q m (pc + 1) ls (.null :: st) I J R S) : Wk base ca fm D p l e Rm s mid args below meth c k0 k1 Q m (pc) ls (st) I J R S := by
  obtain ⟨hx, hb, -⟩ := C
  intro H locs lsR cells slots h1 h2 h3 h4 h5 h6
  exact lv_null hx hb hd (k H locs lsR cells slots h1 h2 h3 h4 h5 h6)
theorem k_iadd (C : Cx base ca fm p l s mid args meth c Rm m) {x y : Int32} (hd : decode (sk_by m) pc = .ok (.iadd, 1)) (k : Wk base ca fm D p l e Rm s mid args below meth c k0 k1 Q m (pc + 1) ls (.int (x + y) :: st) I J R S) : Wk base ca fm D p l e Rm s mid args below meth c k0 k1 Q m (pc) ls (.int y :: .int x :: st) I J R S := by
  obtain ⟨hx, hb, -⟩ := C
  intro H locs lsR cells slots h1 h2 h3 h4 h5 h6
  exact lv_iadd hx hb hd (k H locs lsR cells slots h1 h2 h3 h4 h5 h6)
theorem k_isub (C : Cx base ca fm p l s mid args meth c Rm m) {x y : Int32} (hd : decode (sk_by m) pc = .ok (.isub, 1)) (k : Wk base ca fm D p l e Rm s mid args below meth c k0 k1 Q m (pc + 1) ls (.int (x - y) :: st) I J R S) : Wk base ca fm D p l e Rm s mid args below meth c k0 k1 Q m (pc) ls (.int y :: .int x :: st) I J R S := by
  obtain ⟨hx, hb, -⟩ := C
  intro H locs lsR cells slots h1 h2 h3 h4 h5 h6
  exact lv_isub hx hb hd (k H locs lsR cells slots h1 h2 h3 h4 h5 h6)
theorem k_imul (C : Cx base ca fm p l s mid args meth c Rm m) {x y : Int32} (hd : decode (sk_by m) pc = .ok (.imul, 1)) (k : Wk base ca fm D p l e Rm s mid args below meth c k0 k1 Q m (pc + 1) ls (.int (x * y) :: st) I J R S) : Wk base ca fm D p l e Rm s mid args below meth c k0 k1 Q m (pc) ls (.int y :: .int x :: st) I J R S := by
  obtain ⟨hx, hb, -⟩ := C
  intro H locs lsR cells slots h1 h2 h3 h4 h5 h6
  exact lv_imul hx hb hd (k H locs lsR cells slots h1 h2 h3 h4 h5 h6)
theorem k_iand (C : Cx base ca fm p l s mid args meth c Rm m) {x y : Int32} (hd : decode (sk_by m) pc = .ok (.iand, 1)) (k : Wk base ca fm D p l e Rm s mid args below meth c k0 k1 Q m (pc + 1) ls (.int (x &&& y) :: st) I J R S) : Wk base ca fm D p l e Rm s mid args below meth c k0 k1 Q m (pc) ls (.int y :: .int x :: st) I J R S := by
  obtain ⟨hx, hb, -⟩ := C
  intro H locs lsR cells slots h1 h2 h3 h4 h5 h6
  exact lv_iand hx hb hd (k H locs lsR cells slots h1 h2 h3 h4 h5 h6)
theorem k_ior (C : Cx base ca fm p l s mid args meth c Rm m) {x y : Int32} (hd : decode (sk_by m) pc = .ok (.ior, 1)) (k : Wk base ca fm D p l e Rm s mid args below meth c k0 k1 Q m (pc + 1) ls (.int (x ||| y) :: st) I J R S) : Wk base ca fm D p l e Rm s mid args below meth c k0 k1 Q m (pc) ls (.int y :: .int x :: st) I J R S := by
  obtain ⟨hx, hb, -⟩ := C
  intro H locs lsR cells slots h1 h2 h3 h4 h5 h6
  exact lv_ior hx hb hd (k H locs lsR cells slots h1 h2 h3 h4 h5 h6)
theorem k_ishl (C : Cx base ca fm p l s mid args meth c Rm m) {x y : Int32} (hd : decode (sk_by m) pc = .ok (.ishl, 1)) (k : Wk base ca fm D p l e Rm s mid args below meth c k0 k1 Q m (pc + 1) ls (.int (x <<< (y &&& 31)) :: st) I J R S) : Wk base ca fm D p l e Rm s mid args below meth c k0 k1 Q m (pc) ls (.int y :: .int x :: st) I J R S := by
  obtain ⟨hx, hb, -⟩ := C
  intro H locs lsR cells slots h1 h2 h3 h4 h5 h6
  exact lv_ishl hx hb hd (k H locs lsR cells slots h1 h2 h3 h4 h5 h6)
theorem k_ishr (C : Cx base ca fm p l s mid args meth c Rm m) {x y : Int32} (hd : decode (sk_by m) pc = .ok (.ishr, 1)) (k : Wk base ca fm D p l e Rm s mid args below meth c k0 k1 Q m (pc + 1) ls (.int (x >>> (y &&& 31)) :: st) I J R S) : Wk base ca fm D p l e Rm s mid args below meth c k0 k1 Q m (pc) ls (.int y :: .int x :: st) I J R S := by
  obtain ⟨hx, hb, -⟩ := C
  intro H locs lsR cells slots h1 h2 h3 h4 h5 h6
  exact lv_ishr hx hb hd (k H locs lsR cells slots h1 h2 h3 h4 h5 h6)
theorem k_iushr (C : Cx base ca fm p l s mid args meth c Rm m) {x y : Int32} (hd : decode (sk_by m) pc = .ok (.iushr, 1)) (k : Wk base ca fm D p l e Rm s mid args below meth c k0 k1 Q m (pc + 1) ls (.int (x.toUInt32 >>> (y.toUInt32 &&& Int32.toUInt32 31)).toInt32 :: st) I J R S) : Wk base ca fm D p l e Rm s mid args below meth c k0 k1 Q m (pc) ls (.int y :: .int x :: st) I J R S := by
  obtain ⟨hx, hb, -⟩ := C
  intro H locs lsR cells slots h1 h2 h3 h4 h5 h6
  exact lv_iushr hx hb hd rfl (k H locs lsR cells slots h1 h2 h3 h4 h5 h6)
theorem k_idiv (C : Cx base ca fm p l s mid args meth c Rm m) {x y : Int32} (hy : ¬ y = 0) (hd : decode (sk_by m) pc = .ok (.idiv, 1)) (k : Wk base ca fm D p l e Rm s mid args below meth c k0 k1 Q m (pc + 1) ls (.int (x / y) :: st) I J R S) : Wk base ca fm D p l e Rm s mid args below meth c k0 k1 Q m (pc) ls (.int y :: .int x :: st) I J R S := by
  obtain ⟨hx, hb, -⟩ := C
  intro H locs lsR cells slots h1 h2 h3 h4 h5 h6
  exact lv_idiv hx hb hd hy (k H locs lsR cells slots h1 h2 h3 h4 h5 h6)
theorem k_irem (C : Cx base ca fm p l s mid args meth c Rm m) {x y : Int32} (hy : ¬ y = 0) (hd : decode (sk_by m) pc = .ok (.irem, 1)) (k : Wk base ca fm D p l e Rm s mid args below meth c k0 k1 Q m (pc + 1) ls (.int (x - x / y * y) :: st) I J R S) : Wk base ca fm D p l e Rm s mid args below meth c k0 k1 Q m (pc) ls (.int y :: .int x :: st) I J R S := by
  obtain ⟨hx, hb, -⟩ := C
  intro H locs lsR cells slots h1 h2 h3 h4 h5 h6
  exact lv_irem hx hb hd hy (k H locs lsR cells slots h1 h2 h3 h4 h5 h6)
theorem k_ladd (C : Cx base ca fm p l s mid args meth c Rm m) {x y : Int64} (hd : decode (sk_by m) pc = .ok (.ladd, 1)) (k : Wk base ca fm D p l e Rm s mid args below meth c k0 k1 Q m (pc + 1) ls (.long (x + y) :: st) I J R S) : Wk base ca fm D p l e Rm s mid args below meth c k0 k1 Q m (pc) ls (.long y :: .long x :: st) I J R S := by
  obtain ⟨hx, hb, -⟩ := C
  intro H locs lsR cells slots h1 h2 h3 h4 h5 h6
  exact lv_ladd hx hb hd (k H locs lsR cells slots h1 h2 h3 h4 h5 h6)
theorem k_lsub (C : Cx base ca fm p l s mid args meth c Rm m) {x y : Int64} (hd : decode (sk_by m) pc = .ok (.lsub, 1)) (k : Wk base ca fm D p l e Rm s mid args below meth c k0 k1 Q m (pc + 1) ls (.long (x - y) :: st) I J R S) : Wk base ca fm D p l e Rm s mid args below meth c k0 k1 Q m (pc) ls (.long y :: .long x :: st) I J R S := by
  obtain ⟨hx, hb, -⟩ := C
  intro H locs lsR cells slots h1 h2 h3 h4 h5 h6
  exact lv_lsub hx hb hd (k H locs lsR cells slots h1 h2 h3 h4 h5 h6)
theorem k_lmul (C : Cx base ca fm p l s mid args meth c Rm m) {x y : Int64} (hd : decode (sk_by m) pc = .ok (.lmul, 1)) (k : Wk base ca fm D p l e Rm s mid args below meth c k0 k1 Q m (pc + 1) ls (.long (x * y) :: st) I J R S) : Wk base ca fm D p l e Rm s mid args below meth c k0 k1 Q m (pc) ls (.long y :: .long x :: st) I J R S := by
  obtain ⟨hx, hb, -⟩ := C
  intro H locs lsR cells slots h1 h2 h3 h4 h5 h6
  exact lv_lmul hx hb hd (k H locs lsR cells slots h1 h2 h3 h4 h5 h6)
theorem k_land (C : Cx base ca fm p l s mid args meth c Rm m) {x y : Int64} (hd : decode (sk_by m) pc = .ok (.land, 1)) (k : Wk base ca fm D p l e Rm s mid args below meth c k0 k1 Q m (pc + 1) ls (.long (x &&& y) :: st) I J R S) : Wk base ca fm D p l e Rm s mid args below meth c k0 k1 Q m (pc) ls (.long y :: .long x :: st) I J R S := by
  obtain ⟨hx, hb, -⟩ := C
  intro H locs lsR cells slots h1 h2 h3 h4 h5 h6
  exact lv_land hx hb hd (k H locs lsR cells slots h1 h2 h3 h4 h5 h6)
theorem k_lor (C : Cx base ca fm p l s mid args meth c Rm m) {x y : Int64} (hd : decode (sk_by m) pc = .ok (.lor, 1)) (k : Wk base ca fm D p l e Rm s mid args below meth c k0 k1 Q m (pc + 1) ls (.long (x ||| y) :: st) I J R S) : Wk base ca fm D p l e Rm s mid args below meth c k0 k1 Q m (pc) ls (.long y :: .long x :: st) I J R S := by
  obtain ⟨hx, hb, -⟩ := C
  intro H locs lsR cells slots h1 h2 h3 h4 h5 h6
  exact lv_lor hx hb hd (k H locs lsR cells slots h1 h2 h3 h4 h5 h6)
theorem k_lshl (C : Cx base ca fm p l s mid args meth c Rm m) {x : Int64} {y : Int32} (hd : decode (sk_by m) pc = .ok (.lshl, 1)) (k : Wk base ca fm D p l e Rm s mid args below meth c k0 k1 Q m (pc + 1) ls (.long (x <<< (y.toInt64 &&& 63)) :: st) I J R S) : Wk base ca fm D p l e Rm s mid args below meth c k0 k1 Q m (pc) ls (.int y :: .long x :: st) I J R S := by
  obtain ⟨hx, hb, -⟩ := C
  intro H locs lsR cells slots h1 h2 h3 h4 h5 h6
  exact lv_lshl hx hb hd rfl (k H locs lsR cells slots h1 h2 h3 h4 h5 h6)
theorem k_lshr (C : Cx base ca fm p l s mid args meth c Rm m) {x : Int64} {y : Int32} (hd : decode (sk_by m) pc = .ok (.lshr, 1)) (k : Wk base ca fm D p l e Rm s mid args below meth c k0 k1 Q m (pc + 1) ls (.long (x >>> (y.toInt64 &&& 63)) :: st) I J R S) : Wk base ca fm D p l e Rm s mid args below meth c k0 k1 Q m (pc) ls (.int y :: .long x :: st) I J R S := by
  obtain ⟨hx, hb, -⟩ := C
  intro H locs lsR cells slots h1 h2 h3 h4 h5 h6
  exact lv_lshr hx hb hd rfl (k H locs lsR cells slots h1 h2 h3 h4 h5 h6)
theorem k_lcmp (C : Cx base ca fm p l s mid args meth c Rm m) {x y : Int64} (hd : decode (sk_by m) pc = .ok (.lcmp, 1)) (k : Wk base ca fm D p l e Rm s mid args below meth c k0 k1 Q m (pc + 1) ls (.int (lg_cmp x y) :: st) I J R S) : Wk base ca fm D p l e Rm s mid args below meth c k0 k1 Q m (pc) ls (.long y :: .long x :: st) I J R S := by
  obtain ⟨hx, hb, -⟩ := C
  intro H locs lsR cells slots h1 h2 h3 h4 h5 h6
  exact W.lcmp hx hb hd (k H locs lsR cells slots h1 h2 h3 h4 h5 h6)
theorem k_i2l (C : Cx base ca fm p l s mid args meth c Rm m) {x : Int32} (hd : decode (sk_by m) pc = .ok (.i2l, 1)) (k : Wk base ca fm D p l e Rm s mid args below meth c k0 k1 Q m (pc + 1) ls (.long x.toInt64 :: st) I J R S) : Wk base ca fm D p l e Rm s mid args below meth c k0 k1 Q m (pc) ls (.int x :: st) I J R S := by
  obtain ⟨hx, hb, -⟩ := C
  intro H locs lsR cells slots h1 h2 h3 h4 h5 h6
  exact lv_i2l hx hb hd rfl (k H locs lsR cells slots h1 h2 h3 h4 h5 h6)
theorem k_l2i (C : Cx base ca fm p l s mid args meth c Rm m) {x : Int64} (hd : decode (sk_by m) pc = .ok (.l2i, 1)) (k : Wk base ca fm D p l e Rm s mid args below meth c k0 k1 Q m (pc + 1) ls (.int x.toInt32 :: st) I J R S) : Wk base ca fm D p l e Rm s mid args below meth c k0 k1 Q m (pc) ls (.long x :: st) I J R S := by
  obtain ⟨hx, hb, -⟩ := C
  intro H locs lsR cells slots h1 h2 h3 h4 h5 h6
  exact lv_l2i hx hb hd rfl (k H locs lsR cells slots h1 h2 h3 h4 h5 h6)
theorem k_i2c (C : Cx base ca fm p l s mid args meth c Rm m) {x : Int32} (hd : decode (sk_by m) pc = .ok (.i2c, 1)) (k : Wk base ca fm D p l e Rm s mid args below meth c k0 k1 Q m (pc + 1) ls (.int (x.toUInt32 % 65536).toInt32 :: st) I J R S) : Wk base ca fm D p l e Rm s mid args below meth c k0 k1 Q m (pc) ls (.int x :: st) I J R S := by
  obtain ⟨hx, hb, -⟩ := C
  intro H locs lsR cells slots h1 h2 h3 h4 h5 h6
  exact lv_i2c hx hb hd rfl (k H locs lsR cells slots h1 h2 h3 h4 h5 h6)
theorem k_dup (C : Cx base ca fm p l s mid args meth c Rm m) {v : Value} (hv : cat1 v = true) (hd : decode (sk_by m) pc = .ok (.dup, 1)) (k : Wk base ca fm D p l e Rm s mid args below meth c k0 k1 Q m (pc + 1) ls (v :: v :: st) I J R S) : Wk base ca fm D p l e Rm s mid args below meth c k0 k1 Q m (pc) ls (v :: st) I J R S := by
  obtain ⟨hx, hb, -, -, -, -, -, -, -, -, -, -, -, -, hf, -⟩ := C
  intro H locs lsR cells slots h1 h2 h3 h4 h5 h6
  exact lv_dup hx hb hd ((tr_cat hf v).trans (by simpa [cat1] using hv)) (k H locs lsR cells slots h1 h2 h3 h4 h5 h6)
theorem k_dup2a (C : Cx base ca fm p l s mid args meth c Rm m) {v w : Value} (hv : cat1 v = true) (hw : cat1 w = true) (hd : decode (sk_by m) pc = .ok (.dup2, 1)) (k : Wk base ca fm D p l e Rm s mid args below meth c k0 k1 Q m (pc + 1) ls (v :: w :: v :: w :: st) I J R S) : Wk base ca fm D p l e Rm s mid args below meth c k0 k1 Q m (pc) ls (v :: w :: st) I J R S := by
  obtain ⟨hx, hb, -, -, -, -, -, -, -, -, -, -, -, -, hf, -⟩ := C
  intro H locs lsR cells slots h1 h2 h3 h4 h5 h6
  exact lv_dup2_11 hx hb hd ((tr_cat hf v).trans (by simpa [cat1] using hv)) ((tr_cat hf w).trans (by simpa [cat1] using hw)) (k H locs lsR cells slots h1 h2 h3 h4 h5 h6)
theorem k_dup2b (C : Cx base ca fm p l s mid args meth c Rm m) {x : Int64} (hd : decode (sk_by m) pc = .ok (.dup2, 1)) (k : Wk base ca fm D p l e Rm s mid args below meth c k0 k1 Q m (pc + 1) ls (.long x :: .long x :: st) I J R S) : Wk base ca fm D p l e Rm s mid args below meth c k0 k1 Q m (pc) ls (.long x :: st) I J R S := by
  obtain ⟨hx, hb, -, -, -, -, -, -, -, -, -, -, -, -, hf, -⟩ := C
  intro H locs lsR cells slots h1 h2 h3 h4 h5 h6
  exact lv_dup2_2 hx hb hd rfl (k H locs lsR cells slots h1 h2 h3 h4 h5 h6)
theorem k_pop (C : Cx base ca fm p l s mid args meth c Rm m) {v : Value} (hv : cat1 v = true) (hd : decode (sk_by m) pc = .ok (.pop, 1)) (k : Wk base ca fm D p l e Rm s mid args below meth c k0 k1 Q m (pc + 1) ls (st) I J R S) : Wk base ca fm D p l e Rm s mid args below meth c k0 k1 Q m (pc) ls (v :: st) I J R S := by
  obtain ⟨hx, hb, -, -, -, -, -, -, -, -, -, -, -, -, hf, -⟩ := C
  intro H locs lsR cells slots h1 h2 h3 h4 h5 h6
  exact lv_pop hx hb hd ((tr_cat hf v).trans (by simpa [cat1] using hv)) (k H locs lsR cells slots h1 h2 h3 h4 h5 h6)
theorem k_pop2 (C : Cx base ca fm p l s mid args meth c Rm m) {x : Int64} (hd : decode (sk_by m) pc = .ok (.pop2, 1)) (k : Wk base ca fm D p l e Rm s mid args below meth c k0 k1 Q m (pc + 1) ls (st) I J R S) : Wk base ca fm D p l e Rm s mid args below meth c k0 k1 Q m (pc) ls (.long x :: st) I J R S := by
  obtain ⟨hx, hb, -, -, -, -, -, -, -, -, -, -, -, -, hf, -⟩ := C
  intro H locs lsR cells slots h1 h2 h3 h4 h5 h6
  exact lv_pop2_2 hx hb hd rfl (k H locs lsR cells slots h1 h2 h3 h4 h5 h6)
theorem k_iload_n (C : Cx base ca fm p l s mid args meth c Rm m) {k : Fin 4} {x : Int32} (hl : ls[(k : Nat)]? = some (.int x)) (hd : decode (sk_by m) pc = .ok (.iload_n k, 1)) (k : Wk base ca fm D p l e Rm s mid args below meth c k0 k1 Q m (pc + 1) ls (.int x :: st) I J R S) : Wk base ca fm D p l e Rm s mid args below meth c k0 k1 Q m (pc) ls (st) I J R S := by
  obtain ⟨hx, hb, -⟩ := C
  intro H locs lsR cells slots h1 h2 h3 h4 h5 h6
  exact lv_iload_n hx hb hd rfl (has_at h3 hl (fun n q => by cases q)) (k H locs lsR cells slots h1 h2 h3 h4 h5 h6)
theorem k_iload (C : Cx base ca fm p l s mid args meth c Rm m) {k : Nat} {x : Int32} (hl : ls[k]? = some (.int x)) (hd : decode (sk_by m) pc = .ok (.iload k, 2)) (k : Wk base ca fm D p l e Rm s mid args below meth c k0 k1 Q m (pc + 2) ls (.int x :: st) I J R S) : Wk base ca fm D p l e Rm s mid args below meth c k0 k1 Q m (pc) ls (st) I J R S := by
  obtain ⟨hx, hb, -⟩ := C
  intro H locs lsR cells slots h1 h2 h3 h4 h5 h6
  exact lv_iload hx hb hd (has_at h3 hl (fun n q => by cases q)) (k H locs lsR cells slots h1 h2 h3 h4 h5 h6)
theorem k_lload_n (C : Cx base ca fm p l s mid args meth c Rm m) {k : Fin 4} {x : Int64} (hl : ls[(k : Nat)]? = some (.long x)) (hd : decode (sk_by m) pc = .ok (.lload_n k, 1)) (k : Wk base ca fm D p l e Rm s mid args below meth c k0 k1 Q m (pc + 1) ls (.long x :: st) I J R S) : Wk base ca fm D p l e Rm s mid args below meth c k0 k1 Q m (pc) ls (st) I J R S := by
  obtain ⟨hx, hb, -⟩ := C
  intro H locs lsR cells slots h1 h2 h3 h4 h5 h6
  exact lv_lload_n hx hb hd rfl (has_at h3 hl (fun n q => by cases q)) (k H locs lsR cells slots h1 h2 h3 h4 h5 h6)
theorem k_lload (C : Cx base ca fm p l s mid args meth c Rm m) {k : Nat} {x : Int64} (hl : ls[k]? = some (.long x)) (hd : decode (sk_by m) pc = .ok (.lload k, 2)) (k : Wk base ca fm D p l e Rm s mid args below meth c k0 k1 Q m (pc + 2) ls (.long x :: st) I J R S) : Wk base ca fm D p l e Rm s mid args below meth c k0 k1 Q m (pc) ls (st) I J R S := by
  obtain ⟨hx, hb, -⟩ := C
  intro H locs lsR cells slots h1 h2 h3 h4 h5 h6
  exact lv_lload hx hb hd (has_at h3 hl (fun n q => by cases q)) (k H locs lsR cells slots h1 h2 h3 h4 h5 h6)
theorem k_aload_n (C : Cx base ca fm p l s mid args meth c Rm m) {k : Fin 4} {x : Nat} (hl : ls[(k : Nat)]? = some (.ref x)) (hd : decode (sk_by m) pc = .ok (.aload_n k, 1)) (k : Wk base ca fm D p l e Rm s mid args below meth c k0 k1 Q m (pc + 1) ls (.ref x :: st) I J R S) : Wk base ca fm D p l e Rm s mid args below meth c k0 k1 Q m (pc) ls (st) I J R S := by
  obtain ⟨hx, hb, -⟩ := C
  intro H locs lsR cells slots h1 h2 h3 h4 h5 h6
  exact lv_aload_n hx hb hd rfl (has_at h3 hl (fun n q => by cases q)) (k H locs lsR cells slots h1 h2 h3 h4 h5 h6)
theorem k_aload (C : Cx base ca fm p l s mid args meth c Rm m) {k : Nat} {x : Nat} (hl : ls[k]? = some (.ref x)) (hd : decode (sk_by m) pc = .ok (.aload k, 2)) (k : Wk base ca fm D p l e Rm s mid args below meth c k0 k1 Q m (pc + 2) ls (.ref x :: st) I J R S) : Wk base ca fm D p l e Rm s mid args below meth c k0 k1 Q m (pc) ls (st) I J R S := by
  obtain ⟨hx, hb, -⟩ := C
  intro H locs lsR cells slots h1 h2 h3 h4 h5 h6
  exact lv_aload hx hb hd (has_at h3 hl (fun n q => by cases q)) (k H locs lsR cells slots h1 h2 h3 h4 h5 h6)
theorem k_aload_nN (C : Cx base ca fm p l s mid args meth c Rm m) {k : Fin 4} (hl : ls[(k : Nat)]? = some .null) (hd : decode (sk_by m) pc = .ok (.aload_n k, 1)) (k : Wk base ca fm D p l e Rm s mid args below meth c k0 k1 Q m (pc + 1) ls (.null :: st) I J R S) : Wk base ca fm D p l e Rm s mid args below meth c k0 k1 Q m (pc) ls (st) I J R S := by
  obtain ⟨hx, hb, -⟩ := C
  intro H locs lsR cells slots h1 h2 h3 h4 h5 h6
  exact lv_aload_nN hx hb hd rfl (has_at h3 hl (fun n q => by cases q)) (k H locs lsR cells slots h1 h2 h3 h4 h5 h6)
theorem k_aloadN (C : Cx base ca fm p l s mid args meth c Rm m) {k : Nat} (hl : ls[k]? = some .null) (hd : decode (sk_by m) pc = .ok (.aload k, 2)) (k : Wk base ca fm D p l e Rm s mid args below meth c k0 k1 Q m (pc + 2) ls (.null :: st) I J R S) : Wk base ca fm D p l e Rm s mid args below meth c k0 k1 Q m (pc) ls (st) I J R S := by
  obtain ⟨hx, hb, -⟩ := C
  intro H locs lsR cells slots h1 h2 h3 h4 h5 h6
  exact lv_aloadN hx hb hd (has_at h3 hl (fun n q => by cases q)) (k H locs lsR cells slots h1 h2 h3 h4 h5 h6)
theorem k_istore_n (C : Cx base ca fm p l s mid args meth c Rm m) {k : Fin 4} {x : Int32} (hk : (k : Nat) < ls.length) (hfr : lv_free ls (k : Nat) = true) (hd : decode (sk_by m) pc = .ok (.istore_n k, 1)) (kk : Wk base ca fm D p l e Rm s mid args below meth c k0 k1 Q m (pc + 1) (st1 ls k (.int x)) (st) I J R S) : Wk base ca fm D p l e Rm s mid args below meth c k0 k1 Q m (pc) ls (.int x :: st) I J R S := by
  obtain ⟨hx, hb, -, -, -, -, -, -, -, -, -, -, -, -, hf, -⟩ := C
  intro H locs lsR cells slots h1 h2 h3 h4 h5 h6
  exact lv_istore_n hx hb hd rfl h3 (by omega) rfl (fun ls1 h7 => kk H locs ls1 cells slots h1 h2 (has_sub h7 (al_st1 hf hk hfr (.int x) (Or.inl rfl))) ((st1_len _ _ _).trans h4) h5 h6)
theorem k_istore (C : Cx base ca fm p l s mid args meth c Rm m) {k : Nat} {x : Int32} (hk : k < ls.length) (hfr : lv_free ls k = true) (hd : decode (sk_by m) pc = .ok (.istore k, 2)) (kk : Wk base ca fm D p l e Rm s mid args below meth c k0 k1 Q m (pc + 2) (st1 ls k (.int x)) (st) I J R S) : Wk base ca fm D p l e Rm s mid args below meth c k0 k1 Q m (pc) ls (.int x :: st) I J R S := by
  obtain ⟨hx, hb, -, -, -, -, -, -, -, -, -, -, -, -, hf, -⟩ := C
  intro H locs lsR cells slots h1 h2 h3 h4 h5 h6
  exact lv_istore hx hb hd h3 (by omega) rfl (fun ls1 h7 => kk H locs ls1 cells slots h1 h2 (has_sub h7 (al_st1 hf hk hfr (.int x) (Or.inl rfl))) ((st1_len _ _ _).trans h4) h5 h6)
theorem k_astore_n (C : Cx base ca fm p l s mid args meth c Rm m) {k : Fin 4} {x : Nat} (hk : (k : Nat) < ls.length) (hfr : lv_free ls (k : Nat) = true) (hd : decode (sk_by m) pc = .ok (.astore_n k, 1)) (kk : Wk base ca fm D p l e Rm s mid args below meth c k0 k1 Q m (pc + 1) (st1 ls k (.ref x)) (st) I J R S) : Wk base ca fm D p l e Rm s mid args below meth c k0 k1 Q m (pc) ls (.ref x :: st) I J R S := by
  obtain ⟨hx, hb, -, -, -, -, -, -, -, -, -, -, -, -, hf, -⟩ := C
  intro H locs lsR cells slots h1 h2 h3 h4 h5 h6
  exact lv_astore_n hx hb hd rfl h3 (by omega) rfl (fun ls1 h7 => kk H locs ls1 cells slots h1 h2 (has_sub h7 (al_st1 hf hk hfr (.ref x) (Or.inl rfl))) ((st1_len _ _ _).trans h4) h5 h6)
theorem k_astore (C : Cx base ca fm p l s mid args meth c Rm m) {k : Nat} {x : Nat} (hk : k < ls.length) (hfr : lv_free ls k = true) (hd : decode (sk_by m) pc = .ok (.astore k, 2)) (kk : Wk base ca fm D p l e Rm s mid args below meth c k0 k1 Q m (pc + 2) (st1 ls k (.ref x)) (st) I J R S) : Wk base ca fm D p l e Rm s mid args below meth c k0 k1 Q m (pc) ls (.ref x :: st) I J R S := by
  obtain ⟨hx, hb, -, -, -, -, -, -, -, -, -, -, -, -, hf, -⟩ := C
  intro H locs lsR cells slots h1 h2 h3 h4 h5 h6
  exact lv_astore hx hb hd h3 (by omega) rfl (fun ls1 h7 => kk H locs ls1 cells slots h1 h2 (has_sub h7 (al_st1 hf hk hfr (.ref x) (Or.inl rfl))) ((st1_len _ _ _).trans h4) h5 h6)
theorem k_astore_nN (C : Cx base ca fm p l s mid args meth c Rm m) {k : Fin 4} (hk : (k : Nat) < ls.length) (hfr : lv_free ls (k : Nat) = true) (hd : decode (sk_by m) pc = .ok (.astore_n k, 1)) (kk : Wk base ca fm D p l e Rm s mid args below meth c k0 k1 Q m (pc + 1) (st1 ls k (.null)) (st) I J R S) : Wk base ca fm D p l e Rm s mid args below meth c k0 k1 Q m (pc) ls (.null :: st) I J R S := by
  obtain ⟨hx, hb, -, -, -, -, -, -, -, -, -, -, -, -, hf, -⟩ := C
  intro H locs lsR cells slots h1 h2 h3 h4 h5 h6
  exact lv_astore_nN hx hb hd rfl h3 (by omega) rfl (fun ls1 h7 => kk H locs ls1 cells slots h1 h2 (has_sub h7 (al_st1 hf hk hfr (.null) (Or.inl rfl))) ((st1_len _ _ _).trans h4) h5 h6)
theorem k_astoreN (C : Cx base ca fm p l s mid args meth c Rm m) {k : Nat} (hk : k < ls.length) (hfr : lv_free ls k = true) (hd : decode (sk_by m) pc = .ok (.astore k, 2)) (kk : Wk base ca fm D p l e Rm s mid args below meth c k0 k1 Q m (pc + 2) (st1 ls k (.null)) (st) I J R S) : Wk base ca fm D p l e Rm s mid args below meth c k0 k1 Q m (pc) ls (.null :: st) I J R S := by
  obtain ⟨hx, hb, -, -, -, -, -, -, -, -, -, -, -, -, hf, -⟩ := C
  intro H locs lsR cells slots h1 h2 h3 h4 h5 h6
  exact lv_astoreN hx hb hd h3 (by omega) rfl (fun ls1 h7 => kk H locs ls1 cells slots h1 h2 (has_sub h7 (al_st1 hf hk hfr (.null) (Or.inl rfl))) ((st1_len _ _ _).trans h4) h5 h6)
theorem k_lstore_n (C : Cx base ca fm p l s mid args meth c Rm m) {k : Fin 4} {x : Int64} (hk : (k : Nat) + 1 < ls.length) (hfr : lv_free ls (k : Nat) = true) (hd : decode (sk_by m) pc = .ok (.lstore_n k, 1)) (kk : Wk base ca fm D p l e Rm s mid args below meth c k0 k1 Q m (pc + 1) (st2 ls k (.long x)) (st) I J R S) : Wk base ca fm D p l e Rm s mid args below meth c k0 k1 Q m (pc) ls (.long x :: st) I J R S := by
  obtain ⟨hx, hb, -, -, -, -, -, -, -, -, -, -, -, -, hf, -⟩ := C
  intro H locs lsR cells slots h1 h2 h3 h4 h5 h6
  exact lv_lstore_n hx hb hd rfl h3 (by omega) rfl (fun ls1 h7 => kk H locs ls1 cells slots h1 h2 (has_sub h7 (al_st2 hf hk hfr)) ((st2_len _ _ _).trans h4) h5 h6)
theorem k_lstore (C : Cx base ca fm p l s mid args meth c Rm m) {k : Nat} {x : Int64} (hk : k + 1 < ls.length) (hfr : lv_free ls k = true) (hd : decode (sk_by m) pc = .ok (.lstore k, 2)) (kk : Wk base ca fm D p l e Rm s mid args below meth c k0 k1 Q m (pc + 2) (st2 ls k (.long x)) (st) I J R S) : Wk base ca fm D p l e Rm s mid args below meth c k0 k1 Q m (pc) ls (.long x :: st) I J R S := by
  obtain ⟨hx, hb, -, -, -, -, -, -, -, -, -, -, -, -, hf, -⟩ := C
  intro H locs lsR cells slots h1 h2 h3 h4 h5 h6
  exact lv_lstore hx hb hd h3 (by omega) rfl (fun ls1 h7 => kk H locs ls1 cells slots h1 h2 (has_sub h7 (al_st2 hf hk hfr)) ((st2_len _ _ _).trans h4) h5 h6)
theorem jt_eq {pc : Nat} {off : Int} (h : jok pc off = true) : (pc : Int) + off = (jt pc off : Int) := by
  have h := of_decide_eq_true h
  unfold jt
  omega
theorem k_if_eq (C : Cx base ca fm p l s mid args meth c Rm m) {x : Int32} {off : Int} (hj : jok pc off = true) (hd : decode (sk_by m) pc = .ok (.ifCond .eq off, 3)) (kt : cnd0 .eq x = true → Wk base ca fm D p l e Rm s mid args below meth c k0 k1 Q m (jt pc off) ls (st) I J R S) (kf : ¬ cnd0 .eq x = true → Wk base ca fm D p l e Rm s mid args below meth c k0 k1 Q m (pc + 3) ls (st) I J R S) : Wk base ca fm D p l e Rm s mid args below meth c k0 k1 Q m (pc) ls (.int x :: st) I J R S := by
  obtain ⟨hx, hb, -⟩ := C
  intro H locs lsR cells slots h1 h2 h3 h4 h5 h6
  exact lv_if_eq hx hb hd (jt_eq hj) (fun q => kt (decide_eq_true q) H locs lsR cells slots h1 h2 h3 h4 h5 h6) (fun q => kf (fun z => absurd (of_decide_eq_true z) (by first | exact q | exact fun z2 => z2 q)) H locs lsR cells slots h1 h2 h3 h4 h5 h6)
theorem k_if_ne (C : Cx base ca fm p l s mid args meth c Rm m) {x : Int32} {off : Int} (hj : jok pc off = true) (hd : decode (sk_by m) pc = .ok (.ifCond .ne off, 3)) (kt : cnd0 .ne x = true → Wk base ca fm D p l e Rm s mid args below meth c k0 k1 Q m (jt pc off) ls (st) I J R S) (kf : ¬ cnd0 .ne x = true → Wk base ca fm D p l e Rm s mid args below meth c k0 k1 Q m (pc + 3) ls (st) I J R S) : Wk base ca fm D p l e Rm s mid args below meth c k0 k1 Q m (pc) ls (.int x :: st) I J R S := by
  obtain ⟨hx, hb, -⟩ := C
  intro H locs lsR cells slots h1 h2 h3 h4 h5 h6
  exact lv_if_ne hx hb hd (jt_eq hj) (fun q => kt (decide_eq_true q) H locs lsR cells slots h1 h2 h3 h4 h5 h6) (fun q => kf (fun z => absurd (of_decide_eq_true z) (by first | exact q | exact fun z2 => z2 q)) H locs lsR cells slots h1 h2 h3 h4 h5 h6)
theorem k_if_lt (C : Cx base ca fm p l s mid args meth c Rm m) {x : Int32} {off : Int} (hj : jok pc off = true) (hd : decode (sk_by m) pc = .ok (.ifCond .lt off, 3)) (kt : cnd0 .lt x = true → Wk base ca fm D p l e Rm s mid args below meth c k0 k1 Q m (jt pc off) ls (st) I J R S) (kf : ¬ cnd0 .lt x = true → Wk base ca fm D p l e Rm s mid args below meth c k0 k1 Q m (pc + 3) ls (st) I J R S) : Wk base ca fm D p l e Rm s mid args below meth c k0 k1 Q m (pc) ls (.int x :: st) I J R S := by
  obtain ⟨hx, hb, -⟩ := C
  intro H locs lsR cells slots h1 h2 h3 h4 h5 h6
  exact lv_if_lt hx hb hd (jt_eq hj) (fun q => kt (decide_eq_true q) H locs lsR cells slots h1 h2 h3 h4 h5 h6) (fun q => kf (fun z => absurd (of_decide_eq_true z) (by first | exact q | exact fun z2 => z2 q)) H locs lsR cells slots h1 h2 h3 h4 h5 h6)
theorem k_if_ge (C : Cx base ca fm p l s mid args meth c Rm m) {x : Int32} {off : Int} (hj : jok pc off = true) (hd : decode (sk_by m) pc = .ok (.ifCond .ge off, 3)) (kt : cnd0 .ge x = true → Wk base ca fm D p l e Rm s mid args below meth c k0 k1 Q m (jt pc off) ls (st) I J R S) (kf : ¬ cnd0 .ge x = true → Wk base ca fm D p l e Rm s mid args below meth c k0 k1 Q m (pc + 3) ls (st) I J R S) : Wk base ca fm D p l e Rm s mid args below meth c k0 k1 Q m (pc) ls (.int x :: st) I J R S := by
  obtain ⟨hx, hb, -⟩ := C
  intro H locs lsR cells slots h1 h2 h3 h4 h5 h6
  exact lv_if_ge hx hb hd (jt_eq hj) (fun q => kt (decide_eq_true q) H locs lsR cells slots h1 h2 h3 h4 h5 h6) (fun q => kf (fun z => absurd (of_decide_eq_true z) (by first | exact q | exact fun z2 => z2 q)) H locs lsR cells slots h1 h2 h3 h4 h5 h6)
theorem k_if_gt (C : Cx base ca fm p l s mid args meth c Rm m) {x : Int32} {off : Int} (hj : jok pc off = true) (hd : decode (sk_by m) pc = .ok (.ifCond .gt off, 3)) (kt : cnd0 .gt x = true → Wk base ca fm D p l e Rm s mid args below meth c k0 k1 Q m (jt pc off) ls (st) I J R S) (kf : ¬ cnd0 .gt x = true → Wk base ca fm D p l e Rm s mid args below meth c k0 k1 Q m (pc + 3) ls (st) I J R S) : Wk base ca fm D p l e Rm s mid args below meth c k0 k1 Q m (pc) ls (.int x :: st) I J R S := by
  obtain ⟨hx, hb, -⟩ := C
  intro H locs lsR cells slots h1 h2 h3 h4 h5 h6
  exact lv_if_gt hx hb hd (jt_eq hj) (fun q => kt (decide_eq_true q) H locs lsR cells slots h1 h2 h3 h4 h5 h6) (fun q => kf (fun z => absurd (of_decide_eq_true z) (by first | exact q | exact fun z2 => z2 q)) H locs lsR cells slots h1 h2 h3 h4 h5 h6)
theorem k_if_le (C : Cx base ca fm p l s mid args meth c Rm m) {x : Int32} {off : Int} (hj : jok pc off = true) (hd : decode (sk_by m) pc = .ok (.ifCond .le off, 3)) (kt : cnd0 .le x = true → Wk base ca fm D p l e Rm s mid args below meth c k0 k1 Q m (jt pc off) ls (st) I J R S) (kf : ¬ cnd0 .le x = true → Wk base ca fm D p l e Rm s mid args below meth c k0 k1 Q m (pc + 3) ls (st) I J R S) : Wk base ca fm D p l e Rm s mid args below meth c k0 k1 Q m (pc) ls (.int x :: st) I J R S := by
  obtain ⟨hx, hb, -⟩ := C
  intro H locs lsR cells slots h1 h2 h3 h4 h5 h6
  exact lv_if_le hx hb hd (jt_eq hj) (fun q => kt (decide_eq_true q) H locs lsR cells slots h1 h2 h3 h4 h5 h6) (fun q => kf (fun z => absurd (of_decide_eq_true z) (by first | exact q | exact fun z2 => z2 q)) H locs lsR cells slots h1 h2 h3 h4 h5 h6)
theorem k_icmp_eq (C : Cx base ca fm p l s mid args meth c Rm m) {x y : Int32} {off : Int} (hj : jok pc off = true) (hd : decode (sk_by m) pc = .ok (.if_icmp .eq off, 3)) (kt : cnd2 .eq x y = true → Wk base ca fm D p l e Rm s mid args below meth c k0 k1 Q m (jt pc off) ls (st) I J R S) (kf : ¬ cnd2 .eq x y = true → Wk base ca fm D p l e Rm s mid args below meth c k0 k1 Q m (pc + 3) ls (st) I J R S) : Wk base ca fm D p l e Rm s mid args below meth c k0 k1 Q m (pc) ls (.int y :: .int x :: st) I J R S := by
  obtain ⟨hx, hb, -⟩ := C
  intro H locs lsR cells slots h1 h2 h3 h4 h5 h6
  exact lv_icmp_eq hx hb hd (jt_eq hj) (fun q => kt (decide_eq_true q) H locs lsR cells slots h1 h2 h3 h4 h5 h6) (fun q => kf (fun z => absurd (of_decide_eq_true z) (by first | exact q | exact fun z2 => z2 q)) H locs lsR cells slots h1 h2 h3 h4 h5 h6)
theorem k_icmp_ne (C : Cx base ca fm p l s mid args meth c Rm m) {x y : Int32} {off : Int} (hj : jok pc off = true) (hd : decode (sk_by m) pc = .ok (.if_icmp .ne off, 3)) (kt : cnd2 .ne x y = true → Wk base ca fm D p l e Rm s mid args below meth c k0 k1 Q m (jt pc off) ls (st) I J R S) (kf : ¬ cnd2 .ne x y = true → Wk base ca fm D p l e Rm s mid args below meth c k0 k1 Q m (pc + 3) ls (st) I J R S) : Wk base ca fm D p l e Rm s mid args below meth c k0 k1 Q m (pc) ls (.int y :: .int x :: st) I J R S := by
  obtain ⟨hx, hb, -⟩ := C
  intro H locs lsR cells slots h1 h2 h3 h4 h5 h6
  exact lv_icmp_ne hx hb hd (jt_eq hj) (fun q => kt (decide_eq_true q) H locs lsR cells slots h1 h2 h3 h4 h5 h6) (fun q => kf (fun z => absurd (of_decide_eq_true z) (by first | exact q | exact fun z2 => z2 q)) H locs lsR cells slots h1 h2 h3 h4 h5 h6)
theorem k_icmp_lt (C : Cx base ca fm p l s mid args meth c Rm m) {x y : Int32} {off : Int} (hj : jok pc off = true) (hd : decode (sk_by m) pc = .ok (.if_icmp .lt off, 3)) (kt : cnd2 .lt x y = true → Wk base ca fm D p l e Rm s mid args below meth c k0 k1 Q m (jt pc off) ls (st) I J R S) (kf : ¬ cnd2 .lt x y = true → Wk base ca fm D p l e Rm s mid args below meth c k0 k1 Q m (pc + 3) ls (st) I J R S) : Wk base ca fm D p l e Rm s mid args below meth c k0 k1 Q m (pc) ls (.int y :: .int x :: st) I J R S := by
  obtain ⟨hx, hb, -⟩ := C
  intro H locs lsR cells slots h1 h2 h3 h4 h5 h6
  exact lv_icmp_lt hx hb hd (jt_eq hj) (fun q => kt (decide_eq_true q) H locs lsR cells slots h1 h2 h3 h4 h5 h6) (fun q => kf (fun z => absurd (of_decide_eq_true z) (by first | exact q | exact fun z2 => z2 q)) H locs lsR cells slots h1 h2 h3 h4 h5 h6)
theorem k_icmp_ge (C : Cx base ca fm p l s mid args meth c Rm m) {x y : Int32} {off : Int} (hj : jok pc off = true) (hd : decode (sk_by m) pc = .ok (.if_icmp .ge off, 3)) (kt : cnd2 .ge x y = true → Wk base ca fm D p l e Rm s mid args below meth c k0 k1 Q m (jt pc off) ls (st) I J R S) (kf : ¬ cnd2 .ge x y = true → Wk base ca fm D p l e Rm s mid args below meth c k0 k1 Q m (pc + 3) ls (st) I J R S) : Wk base ca fm D p l e Rm s mid args below meth c k0 k1 Q m (pc) ls (.int y :: .int x :: st) I J R S := by
  obtain ⟨hx, hb, -⟩ := C
  intro H locs lsR cells slots h1 h2 h3 h4 h5 h6
  exact lv_icmp_ge hx hb hd (jt_eq hj) (fun q => kt (decide_eq_true q) H locs lsR cells slots h1 h2 h3 h4 h5 h6) (fun q => kf (fun z => absurd (of_decide_eq_true z) (by first | exact q | exact fun z2 => z2 q)) H locs lsR cells slots h1 h2 h3 h4 h5 h6)
theorem k_icmp_gt (C : Cx base ca fm p l s mid args meth c Rm m) {x y : Int32} {off : Int} (hj : jok pc off = true) (hd : decode (sk_by m) pc = .ok (.if_icmp .gt off, 3)) (kt : cnd2 .gt x y = true → Wk base ca fm D p l e Rm s mid args below meth c k0 k1 Q m (jt pc off) ls (st) I J R S) (kf : ¬ cnd2 .gt x y = true → Wk base ca fm D p l e Rm s mid args below meth c k0 k1 Q m (pc + 3) ls (st) I J R S) : Wk base ca fm D p l e Rm s mid args below meth c k0 k1 Q m (pc) ls (.int y :: .int x :: st) I J R S := by
  obtain ⟨hx, hb, -⟩ := C
  intro H locs lsR cells slots h1 h2 h3 h4 h5 h6
  exact lv_icmp_gt hx hb hd (jt_eq hj) (fun q => kt (decide_eq_true q) H locs lsR cells slots h1 h2 h3 h4 h5 h6) (fun q => kf (fun z => absurd (of_decide_eq_true z) (by first | exact q | exact fun z2 => z2 q)) H locs lsR cells slots h1 h2 h3 h4 h5 h6)
theorem k_icmp_le (C : Cx base ca fm p l s mid args meth c Rm m) {x y : Int32} {off : Int} (hj : jok pc off = true) (hd : decode (sk_by m) pc = .ok (.if_icmp .le off, 3)) (kt : cnd2 .le x y = true → Wk base ca fm D p l e Rm s mid args below meth c k0 k1 Q m (jt pc off) ls (st) I J R S) (kf : ¬ cnd2 .le x y = true → Wk base ca fm D p l e Rm s mid args below meth c k0 k1 Q m (pc + 3) ls (st) I J R S) : Wk base ca fm D p l e Rm s mid args below meth c k0 k1 Q m (pc) ls (.int y :: .int x :: st) I J R S := by
  obtain ⟨hx, hb, -⟩ := C
  intro H locs lsR cells slots h1 h2 h3 h4 h5 h6
  exact lv_icmp_le hx hb hd (jt_eq hj) (fun q => kt (decide_eq_true q) H locs lsR cells slots h1 h2 h3 h4 h5 h6) (fun q => kf (fun z => absurd (of_decide_eq_true z) (by first | exact q | exact fun z2 => z2 q)) H locs lsR cells slots h1 h2 h3 h4 h5 h6)
theorem k_goto (C : Cx base ca fm p l s mid args meth c Rm m) {off : Int} (hj : jok pc off = true) (hd : decode (sk_by m) pc = .ok (.goto off, 3)) (k : Wk base ca fm D p l e Rm s mid args below meth c k0 k1 Q m (jt pc off) ls (st) I J R S) : Wk base ca fm D p l e Rm s mid args below meth c k0 k1 Q m (pc) ls (st) I J R S := by
  obtain ⟨hx, hb, -⟩ := C
  intro H locs lsR cells slots h1 h2 h3 h4 h5 h6
  exact lv_goto hx hb hd (jt_eq hj) (k H locs lsR cells slots h1 h2 h3 h4 h5 h6)
theorem k_ifnull (C : Cx base ca fm p l s mid args meth c Rm m) {x : Nat} {off : Int} (hd : decode (sk_by m) pc = .ok (.ifnull off, 3)) (k : Wk base ca fm D p l e Rm s mid args below meth c k0 k1 Q m (pc + 3) ls (st) I J R S) : Wk base ca fm D p l e Rm s mid args below meth c k0 k1 Q m (pc) ls (.ref x :: st) I J R S := by
  obtain ⟨hx, hb, -⟩ := C
  intro H locs lsR cells slots h1 h2 h3 h4 h5 h6
  exact lv_ifnull hx hb hd (k H locs lsR cells slots h1 h2 h3 h4 h5 h6)
theorem k_ifnullN (C : Cx base ca fm p l s mid args meth c Rm m) {off : Int} (hj : jok pc off = true) (hd : decode (sk_by m) pc = .ok (.ifnull off, 3)) (k : Wk base ca fm D p l e Rm s mid args below meth c k0 k1 Q m (jt pc off) ls (st) I J R S) : Wk base ca fm D p l e Rm s mid args below meth c k0 k1 Q m (pc) ls (.null :: st) I J R S := by
  obtain ⟨hx, hb, -⟩ := C
  intro H locs lsR cells slots h1 h2 h3 h4 h5 h6
  exact lv_ifnullN hx hb hd (jt_eq hj) (k H locs lsR cells slots h1 h2 h3 h4 h5 h6)
theorem k_ifnonnull (C : Cx base ca fm p l s mid args meth c Rm m) {x : Nat} {off : Int} (hj : jok pc off = true) (hd : decode (sk_by m) pc = .ok (.ifnonnull off, 3)) (k : Wk base ca fm D p l e Rm s mid args below meth c k0 k1 Q m (jt pc off) ls (st) I J R S) : Wk base ca fm D p l e Rm s mid args below meth c k0 k1 Q m (pc) ls (.ref x :: st) I J R S := by
  obtain ⟨hx, hb, -⟩ := C
  intro H locs lsR cells slots h1 h2 h3 h4 h5 h6
  exact lv_ifnonnull hx hb hd (jt_eq hj) (k H locs lsR cells slots h1 h2 h3 h4 h5 h6)
theorem k_ifnonnullN (C : Cx base ca fm p l s mid args meth c Rm m) {off : Int} (hd : decode (sk_by m) pc = .ok (.ifnonnull off, 3)) (k : Wk base ca fm D p l e Rm s mid args below meth c k0 k1 Q m (pc + 3) ls (st) I J R S) : Wk base ca fm D p l e Rm s mid args below meth c k0 k1 Q m (pc) ls (.null :: st) I J R S := by
  obtain ⟨hx, hb, -⟩ := C
  intro H locs lsR cells slots h1 h2 h3 h4 h5 h6
  exact lv_ifnonnullN hx hb hd (k H locs lsR cells slots h1 h2 h3 h4 h5 h6)
theorem k_iinc (C : Cx base ca fm p l s mid args meth c Rm m) {i : Nat} {n : Int} {x : Int32} (hl : ls[i]? = some (.int x)) (hk : i < ls.length) (hfr : lv_free ls i = true) (hd : decode (sk_by m) pc = .ok (.iinc i n, 3)) (kk : Wk base ca fm D p l e Rm s mid args below meth c k0 k1 Q m (pc + 3) (st1 ls i (.int (x + Int32.ofInt n))) (st) I J R S) : Wk base ca fm D p l e Rm s mid args below meth c k0 k1 Q m (pc) ls (st) I J R S := by
  obtain ⟨hx, hb, -, -, -, -, -, -, -, -, -, -, -, -, hf, -⟩ := C
  intro H locs lsR cells slots h1 h2 h3 h4 h5 h6
  obtain ⟨j, hj⟩ := List.getElem?_of_mem (al_of (base := base) (ca := ca) (fm := fm) hl (fun n q => by cases q))
  exact lv_iinc hx hb hd h3 hj rfl (by omega) rfl (fun ls1 h7 => kk H locs ls1 cells slots h1 h2 (has_sub h7 (al_st1 hf hk hfr (.int (x + Int32.ofInt n)) (Or.inl rfl))) ((st1_len _ _ _).trans h4) h5 h6)
end SN3
