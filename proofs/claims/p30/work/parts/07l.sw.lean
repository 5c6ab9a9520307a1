section SW
variable {m pc : Nat} {ls st : List Value} {I : MI} {J : MJ} {R : MR} {S : Sh} {Q : SkQ}
theorem o_tabv {d lo hi off : Int} {offs : Array Int} {len t : Nat} {x : Int32} (hd : decode (sk_by m) pc = .ok (.tableswitch d lo hi offs, len)) (h : ¬ (x.toInt < lo ∨ hi < x.toInt)) (ho : offs[(x.toInt - lo).toNat]? = some off) (hj : jok pc off = true) (ht : jt pc off = t) : Wp m pc ls (.int x :: st) I J R S Q = Wp m t ls st I J R S Q := o_table hd (by
  show (if x.toInt < lo ∨ hi < x.toInt then (if jok pc d = true then nxt (jt pc d) ls st I J R S else none) else match offs[(x.toInt - lo).toNat]? with | some off => if jok pc off = true then nxt (jt pc off) ls st I J R S else none | none => none) = _
  rw [if_neg h, ho]
  dsimp only
  rw [if_pos hj, ht])
theorem o_tabd {d lo hi : Int} {offs : Array Int} {len t : Nat} {x : Int32} (hd : decode (sk_by m) pc = .ok (.tableswitch d lo hi offs, len)) (hj : jok pc d = true) (ht : jt pc d = t) (h : x.toInt < lo ∨ hi < x.toInt) : Wp m pc ls (.int x :: st) I J R S Q = Wp m t ls st I J R S Q := o_table hd (by
  show (if x.toInt < lo ∨ hi < x.toInt then (if jok pc d = true then nxt (jt pc d) ls st I J R S else none) else match offs[(x.toInt - lo).toNat]? with | some off => if jok pc off = true then nxt (jt pc off) ls st I J R S else none | none => none) = _
  rw [if_pos h, if_pos hj, ht])
theorem o_lkv {d off : Int} {ps : Array (Int × Int)} {len t : Nat} {x : Int32} (hd : decode (sk_by m) pc = .ok (.lookupswitch d ps, len)) (hs : (ps.toList.zip (ps.toList.drop 1)).all (fun (a, next) => a.1 < next.1) = true) (ho : Op.lookupswitch.offset ps.toList d x.toInt = off) (hj : jok pc off = true) (ht : jt pc off = t) : Wp m pc ls (.int x :: st) I J R S Q = Wp m t ls st I J R S Q := by
  subst ho
  refine Wp_next hd ?_
  show (if (ps.toList.zip (ps.toList.drop 1)).all (fun (a, next) => a.1 < next.1) = true ∧ jok pc (Op.lookupswitch.offset ps.toList d x.toInt) = true then nxt (jt pc (Op.lookupswitch.offset ps.toList d x.toInt)) ls st I J R S else none) = _
  rw [if_pos ⟨hs, hj⟩, ht]
  rfl
end SW
theorem x_B_touch_26_n1 {ls st : List Value} {I : MI} {J : MJ} {R : MR} {S : Sh} {Q : SkQ} : Wp 71 26 ls (.int (-1) :: st) I J R S Q = Wp 71 87 ls st I J R S Q := o_tabv (off := 61) k_B_touch_26 (by decide) (by decide) (by decide) (by decide)
theorem x_B_touch_26_0 {ls st : List Value} {I : MI} {J : MJ} {R : MR} {S : Sh} {Q : SkQ} : Wp 71 26 ls (.int 0 :: st) I J R S Q = Wp 71 52 ls st I J R S Q := o_tabv (off := 26) k_B_touch_26 (by decide) (by decide) (by decide) (by decide)
theorem x_B_touch_26_1 {ls st : List Value} {I : MI} {J : MJ} {R : MR} {S : Sh} {Q : SkQ} : Wp 71 26 ls (.int 1 :: st) I J R S Q = Wp 71 70 ls st I J R S Q := o_tabv (off := 44) k_B_touch_26 (by decide) (by decide) (by decide) (by decide)
theorem x_B_touch_26_d {ls st : List Value} {I : MI} {J : MJ} {R : MR} {S : Sh} {Q : SkQ} {x : Int32} (h : x.toInt < (-1) ∨ 1 < x.toInt) : Wp 71 26 ls (.int x :: st) I J R S Q = Wp 71 104 ls st I J R S Q := o_tabd k_B_touch_26 (by decide) (by decide) h
theorem x_O_valueOfWord_1_0 {ls st : List Value} {I : MI} {J : MJ} {R : MR} {S : Sh} {Q : SkQ} : Wp 101 1 ls (.int 0 :: st) I J R S Q = Wp 101 40 ls st I J R S Q := o_tabv (off := 39) k_O_valueOfWord_1 (by decide) (by decide) (by decide) (by decide)
theorem x_O_valueOfWord_1_1 {ls st : List Value} {I : MI} {J : MJ} {R : MR} {S : Sh} {Q : SkQ} : Wp 101 1 ls (.int 1 :: st) I J R S Q = Wp 101 46 ls st I J R S Q := o_tabv (off := 45) k_O_valueOfWord_1 (by decide) (by decide) (by decide) (by decide)
theorem x_O_valueOfWord_1_2 {ls st : List Value} {I : MI} {J : MJ} {R : MR} {S : Sh} {Q : SkQ} : Wp 101 1 ls (.int 2 :: st) I J R S Q = Wp 101 60 ls st I J R S Q := o_tabv (off := 59) k_O_valueOfWord_1 (by decide) (by decide) (by decide) (by decide)
theorem x_O_valueOfWord_1_3 {ls st : List Value} {I : MI} {J : MJ} {R : MR} {S : Sh} {Q : SkQ} : Wp 101 1 ls (.int 3 :: st) I J R S Q = Wp 101 81 ls st I J R S Q := o_tabv (off := 80) k_O_valueOfWord_1 (by decide) (by decide) (by decide) (by decide)
theorem x_O_valueOfWord_1_4 {ls st : List Value} {I : MI} {J : MJ} {R : MR} {S : Sh} {Q : SkQ} : Wp 101 1 ls (.int 4 :: st) I J R S Q = Wp 101 86 ls st I J R S Q := o_tabv (off := 85) k_O_valueOfWord_1 (by decide) (by decide) (by decide) (by decide)
theorem x_O_valueOfWord_1_5 {ls st : List Value} {I : MI} {J : MJ} {R : MR} {S : Sh} {Q : SkQ} : Wp 101 1 ls (.int 5 :: st) I J R S Q = Wp 101 96 ls st I J R S Q := o_tabv (off := 95) k_O_valueOfWord_1 (by decide) (by decide) (by decide) (by decide)
theorem x_O_valueOfWord_1_d {ls st : List Value} {I : MI} {J : MJ} {R : MR} {S : Sh} {Q : SkQ} {x : Int32} (h : x.toInt < 0 ∨ 5 < x.toInt) : Wp 101 1 ls (.int x :: st) I J R S Q = Wp 101 105 ls st I J R S Q := o_tabd k_O_valueOfWord_1 (by decide) (by decide) h
theorem x_O_valueOfBook_1_0 {ls st : List Value} {I : MI} {J : MJ} {R : MR} {S : Sh} {Q : SkQ} : Wp 102 1 ls (.int 0 :: st) I J R S Q = Wp 102 56 ls st I J R S Q := o_tabv (off := 55) k_O_valueOfBook_1 (by decide) (by decide) (by decide) (by decide)
theorem x_O_valueOfBook_1_1 {ls st : List Value} {I : MI} {J : MJ} {R : MR} {S : Sh} {Q : SkQ} : Wp 102 1 ls (.int 1 :: st) I J R S Q = Wp 102 64 ls st I J R S Q := o_tabv (off := 63) k_O_valueOfBook_1 (by decide) (by decide) (by decide) (by decide)
theorem x_O_valueOfBook_1_2 {ls st : List Value} {I : MI} {J : MJ} {R : MR} {S : Sh} {Q : SkQ} : Wp 102 1 ls (.int 2 :: st) I J R S Q = Wp 102 72 ls st I J R S Q := o_tabv (off := 71) k_O_valueOfBook_1 (by decide) (by decide) (by decide) (by decide)
theorem x_O_valueOfBook_1_3 {ls st : List Value} {I : MI} {J : MJ} {R : MR} {S : Sh} {Q : SkQ} : Wp 102 1 ls (.int 3 :: st) I J R S Q = Wp 102 80 ls st I J R S Q := o_tabv (off := 79) k_O_valueOfBook_1 (by decide) (by decide) (by decide) (by decide)
theorem x_O_valueOfBook_1_4 {ls st : List Value} {I : MI} {J : MJ} {R : MR} {S : Sh} {Q : SkQ} : Wp 102 1 ls (.int 4 :: st) I J R S Q = Wp 102 88 ls st I J R S Q := o_tabv (off := 87) k_O_valueOfBook_1 (by decide) (by decide) (by decide) (by decide)
theorem x_O_valueOfBook_1_5 {ls st : List Value} {I : MI} {J : MJ} {R : MR} {S : Sh} {Q : SkQ} : Wp 102 1 ls (.int 5 :: st) I J R S Q = Wp 102 96 ls st I J R S Q := o_tabv (off := 95) k_O_valueOfBook_1 (by decide) (by decide) (by decide) (by decide)
theorem x_O_valueOfBook_1_6 {ls st : List Value} {I : MI} {J : MJ} {R : MR} {S : Sh} {Q : SkQ} : Wp 102 1 ls (.int 6 :: st) I J R S Q = Wp 102 104 ls st I J R S Q := o_tabv (off := 103) k_O_valueOfBook_1 (by decide) (by decide) (by decide) (by decide)
theorem x_O_valueOfBook_1_7 {ls st : List Value} {I : MI} {J : MJ} {R : MR} {S : Sh} {Q : SkQ} : Wp 102 1 ls (.int 7 :: st) I J R S Q = Wp 102 112 ls st I J R S Q := o_tabv (off := 111) k_O_valueOfBook_1 (by decide) (by decide) (by decide) (by decide)
theorem x_O_valueOfBook_1_8 {ls st : List Value} {I : MI} {J : MJ} {R : MR} {S : Sh} {Q : SkQ} : Wp 102 1 ls (.int 8 :: st) I J R S Q = Wp 102 118 ls st I J R S Q := o_tabv (off := 117) k_O_valueOfBook_1 (by decide) (by decide) (by decide) (by decide)
theorem x_O_valueOfBook_1_9 {ls st : List Value} {I : MI} {J : MJ} {R : MR} {S : Sh} {Q : SkQ} : Wp 102 1 ls (.int 9 :: st) I J R S Q = Wp 102 124 ls st I J R S Q := o_tabv (off := 123) k_O_valueOfBook_1 (by decide) (by decide) (by decide) (by decide)
theorem x_O_valueOfBook_1_d {ls st : List Value} {I : MI} {J : MJ} {R : MR} {S : Sh} {Q : SkQ} {x : Int32} (h : x.toInt < 0 ∨ 9 < x.toInt) : Wp 102 1 ls (.int x :: st) I J R S Q = Wp 102 130 ls st I J R S Q := o_tabd k_O_valueOfBook_1 (by decide) (by decide) h
theorem x_R_valueAt_1_0 {ls st : List Value} {I : MI} {J : MJ} {R : MR} {S : Sh} {Q : SkQ} : Wp 110 1 ls (.int 0 :: st) I J R S Q = Wp 110 28 ls st I J R S Q := o_lkv (off := 27) k_R_valueAt_1 (by decide) (by decide) (by decide) (by decide)
theorem x_R_valueAt_1_1 {ls st : List Value} {I : MI} {J : MJ} {R : MR} {S : Sh} {Q : SkQ} : Wp 110 1 ls (.int 1 :: st) I J R S Q = Wp 110 34 ls st I J R S Q := o_lkv (off := 33) k_R_valueAt_1 (by decide) (by decide) (by decide) (by decide)
theorem x_R_valueAt_1_d {ls st : List Value} {I : MI} {J : MJ} {R : MR} {S : Sh} {Q : SkQ} {x : Int32} (h : ¬ x.toInt = 0 ∧ ¬ x.toInt = 1) : Wp 110 1 ls (.int x :: st) I J R S Q = Wp 110 40 ls st I J R S Q := o_lkv (off := 39) k_R_valueAt_1 (by decide) (by simp [Op.lookupswitch.offset, eq_comm (b := x.toInt), h.1, h.2]) (by decide) (by decide)
