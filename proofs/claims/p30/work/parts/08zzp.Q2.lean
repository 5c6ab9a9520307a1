/-! the reading calls, as equations -/
section QB
theorem Wp_eq {m pc : Nat} {ls st : List Value} {I I' : MI} {J J' : MJ} {R R' : MR} {S S' : Sh} {x : Nat} {v : Option Value} (h : ∀ Q : SkQ, Q x v I' J' R' S' → Wp m pc ls st I J R S Q) {Q : SkQ} : Wp m pc ls st I J R S Q = Q x v I' J' R' S' := by
  apply propext
  constructor
  · rintro ⟨n, r, h1, h2⟩
    obtain ⟨k, r2, g1, g2⟩ := h (fun x1 v1 I1 J1 R1 S1 => (((x1, v1), I1, J1, R1, S1) : SkO) = ((x, v), I', J', R', S')) rfl
    have e : r = r2 := Option.some.inj ((run_le h1 (Nat.le_max_left n k)).symm.trans (run_le g1 (Nat.le_max_right n k)))
    subst e
    obtain ⟨⟨rx, rv⟩, rI, rJ, rR, rS⟩ := r
    cases g2
    exact h2
  · exact h Q
end QB
section QC
variable {I I' : MI} {J J' : MJ} {R R' : MR} {S : Sh} {Q : SkQ} {T n l : Nat} {a : Bk} {s : Nat → Bk} {x : Nat → Int32} {w t : Int64} {c v : Int32} {i k m : Nat}
theorem ok6_nI (h : k ≤ m) (hm : m < 2 ^ 31) : ok6 (nI k) m = true := ok6_t (nI_pos (by omega)) (nI_nlt h hm)
theorem prV0 {p : Rw} (h : i < p.1) (hp : p.1 < 2 ^ 31) : prV p (nI i) 0 = p.2.1 i := by
  show (if inb (nI i) p.1 = true then p.2.1 (ix (nI i)) else -1) = _
  rw [inb_nI h hp, if_pos rfl, ix_nI (by omega)]
theorem prV1 {p : Rw} (h : i < p.1) (hp : p.1 < 2 ^ 31) : prV p (nI i) 1 = p.2.2.1 i := by
  show (if inb (nI i) p.1 = true then p.2.2.1 (ix (nI i)) else -1) = _
  rw [inb_nI h hp, if_pos rfl, ix_nI (by omega)]
theorem prV2 {p : Rw} (h : i < p.1) (hp : p.1 < 2 ^ 31) : prV p (nI i) 2 = (p.2.2.2 i).toInt64 := by
  show (if inb (nI i) p.1 = true then p.2.2.2 (ix (nI i)) else -1).toInt64 = _
  rw [inb_nI h hp, if_pos rfl, ix_nI (by omega)]
theorem prVn {p : Rw} (hp : p.1 < 2 ^ 31) : prV p (nI p.1) 0 = -1 := by
  show (if inb (nI p.1) p.1 = true then p.2.1 (ix (nI p.1)) else -1) = _
  rw [inb_n2 (nI_nlt (Nat.le_refl _) hp) hp]
  rfl
theorem prVm {p : Rw} : prV p (-1) 0 = -1 := by
  show (if inb (-1) p.1 = true then p.2.1 (ix (-1)) else -1) = _
  rw [inb_m1]
  rfl
theorem e_wh (h : KOk I J R S T a n s x l) (e : nI k = c) (hk : k ≤ 11) : Wp 39 0 [.ref 35, .int c] [] I J R S Q = Q 0 (some (.int (whV a l k))) I J R S := by
  subst e
  refine Wp_eq (fun Q hq => c_K_whole h (fun z => ?_) (fun _ => ?_))
  · rw [ok6_nI hk (by omega)] at z; cases z
  · rw [ix_nI (by omega)]; exact hq
theorem e_wd (h : KOk I J R S T a n s x l) (ww : isW w = true) (e : nI k = c) (hk : k ≤ 6) : Wp 34 0 [.ref 35, .long w, nov, .int c] [] I J R S Q = Q 0 (some (.int (vW a w k))) I J R S := by
  subst e
  refine Wp_eq (fun Q hq => c_K_word h (fun z => ?_) (fun _ => ?_))
  · rw [ok6_nI hk (by omega), ww] at z; cases z
  · rw [ix_nI (by omega)]; exact hq
theorem e_wh0 (h : KOk I J R S T a n s x l) : Wp 39 0 [.ref 35, .int 0] [] I J R S Q = Q 0 (some (.int (nI (bW a).1))) I J R S := e_wh h (k := 0) (by decide) (by omega)
theorem e_wh1 (h : KOk I J R S T a n s x l) : Wp 39 0 [.ref 35, .int 1] [] I J R S Q = Q 0 (some (.int (nI (bN a).1))) I J R S := e_wh h (k := 1) (by decide) (by omega)
theorem e_wh2 (h : KOk I J R S T a n s x l) : Wp 39 0 [.ref 35, .int 2] [] I J R S Q = Q 0 (some (.int (nI (bP a).1))) I J R S := e_wh h (k := 2) (by decide) (by omega)
theorem e_wh3 (h : KOk I J R S T a n s x l) : Wp 39 0 [.ref 35, .int 3] [] I J R S Q = Q 0 (some (.int (nI (bB a).1))) I J R S := e_wh h (k := 3) (by decide) (by omega)
theorem e_wh4 (h : KOk I J R S T a n s x l) : Wp 39 0 [.ref 35, .int 4] [] I J R S Q = Q 0 (some (.int (nI (bS a).1))) I J R S := e_wh h (k := 4) (by decide) (by omega)
theorem e_wh5 (h : KOk I J R S T a n s x l) : Wp 39 0 [.ref 35, .int 5] [] I J R S Q = Q 0 (some (.int (nI (bL a).1))) I J R S := e_wh h (k := 5) (by decide) (by omega)
theorem e_wh6 (h : KOk I J R S T a n s x l) : Wp 39 0 [.ref 35, .int 6] [] I J R S Q = Q 0 (some (.int (smI (bL a).2.2.2 0 0 (bL a).1))) I J R S := e_wh h (k := 6) (by decide) (by omega)
theorem e_wh10 (h : KOk I J R S T a n s x l) : Wp 39 0 [.ref 35, .int 10] [] I J R S Q = Q 0 (some (.int (smI (bW a).2.2.2 0 0 (bW a).1))) I J R S := e_wh h (k := 10) (by decide) (by omega)
theorem e_wd0 (h : KOk I J R S T a n s x l) (ww : isW w = true) : Wp 34 0 [.ref 35, .long w, nov, .int 0] [] I J R S Q = Q 0 (some (.int (numW (bW a) w))) I J R S := e_wd h ww (k := 0) (by decide) (by omega)
theorem e_wd1 (h : KOk I J R S T a n s x l) (ww : isW w = true) : Wp 34 0 [.ref 35, .long w, nov, .int 1] [] I J R S Q = Q 0 (some (.int (bI (hasN a w)))) I J R S := e_wd h ww (k := 1) (by decide) (by omega)
theorem e_wd2 (h : KOk I J R S T a n s x l) (ww : isW w = true) : Wp 34 0 [.ref 35, .long w, nov, .int 2] [] I J R S Q = Q 0 (some (.int (numW (bS a) w))) I J R S := e_wd h ww (k := 2) (by decide) (by omega)
theorem e_wd4 (h : KOk I J R S T a n s x l) (ww : isW w = true) : Wp 34 0 [.ref 35, .long w, nov, .int 4] [] I J R S Q = Q 0 (some (.int (frI (fw (bW a) w) (bW a).1))) I J R S := e_wd h ww (k := 4) (by decide) (by omega)
theorem e_wd5 (h : KOk I J R S T a n s x l) (ww : isW w = true) : Wp 34 0 [.ref 35, .long w, nov, .int 5] [] I J R S Q = Q 0 (some (.int (cntF (bP a) w))) I J R S := e_wd h ww (k := 5) (by decide) (by omega)
theorem e_wd6 (h : KOk I J R S T a n s x l) (ww : isW w = true) : Wp 34 0 [.ref 35, .long w, nov, .int 6] [] I J R S Q = Q 0 (some (.int (cntF (bB a) w))) I J R S := e_wd h ww (k := 6) (by decide) (by omega)
theorem e_li (h : KOk I J R S T a n s x l) {nm : Bool} (e : bI nm = c) (hi : i < 2 ^ 31) : Wp 35 0 [.ref 35, .int c, .int (nI i)] [] I J R S Q = Q 0 (some (.long (if nm = true then prV (bN a) (nI i) 0 else prV (bW a) (nI i) 0))) I J R S := by
  subst e
  exact Wp_eq (fun Q hq => c_K_listed h (fun z => absurd z (nI_pos hi)) (fun _ => hq))
theorem e_liW (h : KOk I J R S T a n s x l) (hi : i < (bW a).1) : Wp 35 0 [.ref 35, .int 0, .int (nI i)] [] I J R S Q = Q 0 (some (.long ((bW a).2.1 i))) I J R S := by
  have hb := h.2.1.2.2.2.2.2.1.1
  have g := e_li (Q := Q) h (nm := false) bI_f (i := i) (by omega)
  rw [if_neg (by simp), prV0 hi (by omega)] at g
  exact g
theorem e_liWn (h : KOk I J R S T a n s x l) : Wp 35 0 [.ref 35, .int 0, .int (nI (bW a).1)] [] I J R S Q = Q 0 (some (.long (-1))) I J R S := by
  have hb := h.2.1.2.2.2.2.2.1.1
  have g := e_li (Q := Q) h (nm := false) bI_f (i := (bW a).1) (by omega)
  rw [if_neg (by simp), prVn (by omega)] at g
  exact g
theorem e_liN (h : KOk I J R S T a n s x l) (hi : i < (bN a).1) : Wp 35 0 [.ref 35, .int 1, .int (nI i)] [] I J R S Q = Q 0 (some (.long ((bN a).2.1 i))) I J R S := by
  have hb := h.2.1.2.2.2.2.2.1.2.1
  have g := e_li (Q := Q) h (nm := true) bI_t (i := i) (by omega)
  rw [if_pos rfl, prV0 hi (by omega)] at g
  exact g
theorem e_liNn (h : KOk I J R S T a n s x l) : Wp 35 0 [.ref 35, .int 1, .int (nI (bN a).1)] [] I J R S Q = Q 0 (some (.long (-1))) I J R S := by
  have hb := h.2.1.2.2.2.2.2.1.2.1
  have g := e_li (Q := Q) h (nm := true) bI_t (i := (bN a).1) (by omega)
  rw [if_pos rfl, prVn (by omega)] at g
  exact g
theorem e_pr (h : KOk I J R S T a n s x l) (hi : i < 2 ^ 31) (e : nI m = c) (hm : m ≤ 2) : Wp 36 0 [.ref 35, .int (nI i), .int c] [] I J R S Q = Q 0 (some (.long (prV (bP a) (nI i) m))) I J R S := by
  subst e
  refine Wp_eq (fun Q hq => c_K_pair h (fun z => ?_) (fun _ => ?_))
  · rw [ok6_nI hm (by omega), decide_eq_false (nI_pos hi)] at z; cases z
  · rw [ix_nI (by omega)]; exact hq
theorem e_pr0 (h : KOk I J R S T a n s x l) (hi : i < (bP a).1) : Wp 36 0 [.ref 35, .int (nI i), .int 0] [] I J R S Q = Q 0 (some (.long ((bP a).2.1 i))) I J R S := by
  have hb := h.2.1.2.2.2.2.2.1.2.2.1
  have g := e_pr (Q := Q) h (i := i) (by omega) (m := 0) (c := 0) (by decide) (by omega)
  rw [prV0 hi (by omega)] at g
  exact g
theorem e_pr1 (h : KOk I J R S T a n s x l) (hi : i < (bP a).1) : Wp 36 0 [.ref 35, .int (nI i), .int 1] [] I J R S Q = Q 0 (some (.long ((bP a).2.2.1 i))) I J R S := by
  have hb := h.2.1.2.2.2.2.2.1.2.2.1
  have g := e_pr (Q := Q) h (i := i) (by omega) (m := 1) (c := 1) (by decide) (by omega)
  rw [prV1 hi (by omega)] at g
  exact g
theorem e_pr2 (h : KOk I J R S T a n s x l) (hi : i < (bP a).1) : Wp 36 0 [.ref 35, .int (nI i), .int 2] [] I J R S Q = Q 0 (some (.long (((bP a).2.2.2 i).toInt64))) I J R S := by
  have hb := h.2.1.2.2.2.2.2.1.2.2.1
  have g := e_pr (Q := Q) h (i := i) (by omega) (m := 2) (c := 2) (by decide) (by omega)
  rw [prV2 hi (by omega)] at g
  exact g
theorem e_prn (h : KOk I J R S T a n s x l) : Wp 36 0 [.ref 35, .int (nI (bP a).1), .int 0] [] I J R S Q = Q 0 (some (.long (-1))) I J R S := by
  have hb := h.2.1.2.2.2.2.2.1.2.2.1
  have g := e_pr (Q := Q) h (i := (bP a).1) (by omega) (m := 0) (c := 0) (by decide) (by omega)
  rw [prVn (by omega)] at g
  exact g
theorem e_lg (h : KOk I J R S T a n s x l) (hi : i < 2 ^ 31) (e : nI m = c) (hm : m ≤ 2) : Wp 37 0 [.ref 35, .int (nI i), .int c] [] I J R S Q = Q 0 (some (.long (prV (bL a) (nI (bL a).1 - 1 - nI i) m))) I J R S := by
  subst e
  refine Wp_eq (fun Q hq => c_K_logged h (fun z => ?_) (fun _ => ?_))
  · rw [ok6_nI hm (by omega), decide_eq_false (nI_pos hi)] at z; cases z
  · rw [ix_nI (by omega)]; exact hq
theorem lg_ix {z : Nat} (hi : i < z) : nI z - 1 - nI i = nI (z - 1 - i) := by
  rw [show (1 : Int32) = nI 1 by decide, nI_sub (by omega), nI_sub (by omega)]
theorem e_lg0 (h : KOk I J R S T a n s x l) (hi : i < (bL a).1) : Wp 37 0 [.ref 35, .int (nI i), .int 0] [] I J R S Q = Q 0 (some (.long ((bL a).2.1 ((bL a).1 - 1 - i)))) I J R S := by
  have hb := h.2.1.2.2.2.2.2.1.2.2.2.2.2.1
  have g := e_lg (Q := Q) h (i := i) (by omega) (m := 0) (c := 0) (by decide) (by omega)
  rw [lg_ix hi, prV0 (by omega) (by omega)] at g
  exact g
theorem e_lz0 (h : KOk I J R S T a n s x l) (hi : 0 < (bL a).1) : Wp 37 0 [.ref 35, .int 0, .int 0] [] I J R S Q = Q 0 (some (.long ((bL a).2.1 ((bL a).1 - 1)))) I J R S := by
  have g := e_lg0 (Q := Q) h hi
  rw [nI_0, Nat.sub_zero] at g
  exact g
theorem e_lg1 (h : KOk I J R S T a n s x l) (hi : i < (bL a).1) : Wp 37 0 [.ref 35, .int (nI i), .int 1] [] I J R S Q = Q 0 (some (.long ((bL a).2.2.1 ((bL a).1 - 1 - i)))) I J R S := by
  have hb := h.2.1.2.2.2.2.2.1.2.2.2.2.2.1
  have g := e_lg (Q := Q) h (i := i) (by omega) (m := 1) (c := 1) (by decide) (by omega)
  rw [lg_ix hi, prV1 (by omega) (by omega)] at g
  exact g
theorem e_lz1 (h : KOk I J R S T a n s x l) (hi : 0 < (bL a).1) : Wp 37 0 [.ref 35, .int 0, .int 1] [] I J R S Q = Q 0 (some (.long ((bL a).2.2.1 ((bL a).1 - 1)))) I J R S := by
  have g := e_lg1 (Q := Q) h hi
  rw [nI_0, Nat.sub_zero] at g
  exact g
theorem e_lg2 (h : KOk I J R S T a n s x l) (hi : i < (bL a).1) : Wp 37 0 [.ref 35, .int (nI i), .int 2] [] I J R S Q = Q 0 (some (.long (((bL a).2.2.2 ((bL a).1 - 1 - i)).toInt64))) I J R S := by
  have hb := h.2.1.2.2.2.2.2.1.2.2.2.2.2.1
  have g := e_lg (Q := Q) h (i := i) (by omega) (m := 2) (c := 2) (by decide) (by omega)
  rw [lg_ix hi, prV2 (by omega) (by omega)] at g
  exact g
theorem e_lz2 (h : KOk I J R S T a n s x l) (hi : 0 < (bL a).1) : Wp 37 0 [.ref 35, .int 0, .int 2] [] I J R S Q = Q 0 (some (.long (((bL a).2.2.2 ((bL a).1 - 1)).toInt64))) I J R S := by
  have g := e_lg2 (Q := Q) h hi
  rw [nI_0, Nat.sub_zero] at g
  exact g
theorem e_lgn (h : KOk I J R S T a n s x l) : Wp 37 0 [.ref 35, .int (nI (bL a).1), .int 0] [] I J R S Q = Q 0 (some (.long (-1))) I J R S := by
  have hb := h.2.1.2.2.2.2.2.1.2.2.2.2.2.1
  have g := e_lg (Q := Q) h (i := (bL a).1) (by omega) (m := 0) (c := 0) (by decide) (by omega)
  rw [show nI (bL a).1 - 1 - nI (bL a).1 = -1 by rw [Int32.sub_eq_add_neg, Int32.sub_eq_add_neg, Int32.add_comm (nI (bL a).1) (-1), Int32.add_assoc, ← Int32.sub_eq_add_neg, Int32.sub_self, Int32.add_zero], prVm] at g
  exact g
theorem t64_eq {y : Int32} (z : Int32) : (y.toInt64 = z.toInt64) ↔ y = z := by
  rw [← Int64.toInt_inj, Int32.toInt_toInt64, Int32.toInt_toInt64, Int32.toInt_inj]
theorem t64_1 {y : Int32} : (y.toInt64 = 1) ↔ y = 1 := t64_eq (y := y) 1
theorem t64_0 {y : Int32} : (y.toInt64 = 0) ↔ y = 0 := t64_eq (y := y) 0
theorem t64_lt1 {y : Int32} : (y.toInt64 < 1) ↔ y.toInt < 1 := by
  rw [Int64.lt_iff_toInt_lt, Int32.toInt_toInt64]
  exact Iff.rfl
theorem t64_gt99 {y : Int32} : (99 < y.toInt64) ↔ 99 < y.toInt := by
  rw [Int64.lt_iff_toInt_lt, Int32.toInt_toInt64]
  exact Iff.rfl
theorem KOk_I (h : KOk I J R S T a n s x l) : BkI T a := h.2.1.2.2.2.2.2.1
end QC
