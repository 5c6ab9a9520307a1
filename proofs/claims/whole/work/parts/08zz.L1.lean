/-! the law's wrappers, the model's calls: one outcome for both sides -/
abbrev Zs : Type := Bk × Nat × (Nat → Bk) × (Nat → Int32) × Nat
abbrev Oc : Type := Int32 × Int64 × Zs
abbrev KZ (I : MI) (J : MJ) (R : MR) (S : Sh) (T : Nat) (z : Zs) : Prop := KOk I J R S T z.1 z.2.1 z.2.2.1 z.2.2.2.1 z.2.2.2.2
abbrev MZ (I : MI) (J : MJ) (R : MR) (S : Sh) (z : Zs) : Prop := MOk I J R S z.1 z.2.1 z.2.2.1 z.2.2.2.1 z.2.2.2.2 0
def wfF (I : MI) (J : MJ) (R : MR) (I' : MI) (J' : MJ) (R' : MR) : Prop := ∀ p, (p < 35 ∨ 186 < p) → I' p = I p ∧ R' p = R p ∧ (¬ p = 198 → J' p = J p)
def Wq (I : MI) (J : MJ) (R : MR) (S : Sh) (T : Nat) (o : Oc) (Q : SkQ) : Prop := ∀ I' J' R' S', KZ I' J' R' S' (T + 150) o.2.2 → wfF I J R I' J' R' → (S' = S ∨ S' = sh_thr S) → (o.1 = 0 → J' 198 0 = o.2.1) → Q 0 (some (.int o.1)) I' J' R' S'
def Mi (I : MI) (J : MJ) (R : MR) (S : Sh) (o : Oc) (Q : SkQ) : Prop := ∀ I' J' (r : Int32), kF 187 197 I J R I' J' R → MZ I' J' R S o.2.2 → I' 187 4 = o.1 → (o.1 = 0 → r.toInt64 = o.2.1) → Q 0 (some (.int r)) I' J' R S
def Ml (I : MI) (J : MJ) (R : MR) (S : Sh) (o : Oc) (Q : SkQ) : Prop := ∀ I' J' (r : Int64), kF 187 197 I J R I' J' R → MZ I' J' R S o.2.2 → I' 187 4 = o.1 → (o.1 = 0 → r = o.2.1) → Q 0 (some (.long r)) I' J' R S
section LW
variable {I I' : MI} {J J' : MJ} {R R' : MR} {S : Sh} {Q : SkQ} {T T' n l : Nat} {a : Bk} {s : Nat → Bk} {x : Nat → Int32} {w t : Int64} {c v k : Int32} {nm : Bool} {z : Zs}
theorem wfF_rfl : wfF I J R I J R := fun _ _ => ⟨by simp, by simp, fun _ => by simp⟩
theorem KOk_th (h : KOk I J R S T a n s x l) : KOk I J R (sh_thr S) T a n s x l := h
theorem MOk_th {qt : Int32} (h : MOk I J R S a n s x l qt) : MOk I J R (sh_thr S) a n s x l qt := h
theorem KOk_mo (h : KOk I J R S T a n s x l) (hT : T ≤ T') : KOk I J R S T' a n s x l := by
  obtain ⟨h1, ⟨e1, e2, e3, e4, e5, e6, e7, e8⟩, h3, h4, h5, h6, h7, h8⟩ := h
  exact ⟨h1, ⟨e1, e2, e3, e4, e5, BkI_mono e6 hT, e7, e8⟩, h3, h4, h5, h6, h7, fun i hi => BkI_mono (h8 i hi) hT⟩
theorem KZ_T (h : KZ I J R S T z) : KZ I J R S (T + 150) z := KOk_mo h (by omega)
theorem KZ_T1 (h : KZ I J R S (T + 1) z) : KZ I J R S (T + 150) z := KOk_mo h (by omega)
theorem KOk_hi (h : KOk I J R S T a n s x l) (f : fr 187 198 I J I' J') (rr : ∀ q, q ≤ 186 → R' q = R q) : KOk I' J' R' S T a n s x l := by
  obtain ⟨h1, ⟨e1, e2, e3, e4, e5, e6, e7, e8⟩, ⟨π, p1, p2⟩, h4, h5, h6, h7, h8⟩ := h
  refine ⟨?_, ⟨?_, ?_, KbD_fr e3 f (by omega), BkS_R e4 (fun q h1 h2 => rr q (by omega)), BkD_fr e5 f (by omega), e6, e7, e8⟩, ⟨π, ?_, HsD_fr p1 p2 f (by omega)⟩, ?_, ⟨by rw [(f 185 (by omega)).1]; exact h5.1, h5.2.1, fun i hi => by rw [(f 186 (by omega)).1]; exact h5.2.2 i hi⟩, CmS_lo h6 (fun q hq => (f q (by omega)).1) (fun q hq => rr q (by omega)), CnS_lo h7 (fun q hq => (f q (by omega)).1), h8⟩
  · unfold KxS at h1 ⊢
    rw [rr 35 (by omega)]
    exact h1
  · unfold SpS DsS at e1 ⊢
    rw [rr 67 (by omega), rr (67 + 2) (by omega)]
    exact e1
  · unfold KbS at e2 ⊢
    rw [rr 36 (by omega)]
    exact e2
  · obtain ⟨q1, q2, q3, q4, q5, q6, q7⟩ := p1
    exact ⟨q1, q2, q3, by rw [rr 75 (by omega)]; exact q4, fun i hi => by rw [rr (75 + 1) (by omega)]; exact q5 i hi, fun i hi => ⟨BkS_R (q6 i hi).1 (fun q h1 h2 => rr q (by have := q6 i hi; omega)), (q6 i hi).2⟩, q7⟩
  · exact ⟨h4.1, h4.2.1, h4.2.2.1, by rw [rr 185 (by omega)]; exact h4.2.2.2⟩
theorem KZ_m (h : KZ I J R S T z) (hf : kF 187 197 I J R I' J' R') : KZ I' J' R' S T z := KOk_hi h (fr_mono hf.1 (by omega)) (fun q hq => hf.2 q (by omega))
theorem MOk_lo {qt : Int32} (h : MOk I J R S a n s x l qt) (e : ∀ p, 187 ≤ p → p ≤ 197 → I' p = I p ∧ J' p = J p ∧ R' p = R p) : MOk I' J' R' S a n s x l qt := by
  obtain ⟨h1, h2, h3, h4, h5, h6, h7, h8, h9, h10⟩ := h
  refine ⟨?_, by rw [(e 188 (by omega) (by omega)).2.1]; exact h2, by rw [(e 189 (by omega) (by omega)).2.1]; exact h3, h4, by rw [(e 187 (by omega) (by omega)).1]; exact h5, by rw [(e 187 (by omega) (by omega)).1]; exact h6, by rw [(e 187 (by omega) (by omega)).1]; exact h7, h8, by rw [(e 190 (by omega) (by omega)).1]; exact h9, by rw [(e 194 (by omega) (by omega)).1]; exact h10⟩
  unfold MyS MxS at h1 ⊢
  rw [(e 187 (by omega) (by omega)).2.2]
  exact h1
theorem MZ_w (h : MZ I J R S z) (hf : wfF I J R I' J' R') : MZ I' J' R' S z := MOk_lo h (fun p h1 h2 => ⟨(hf p (by omega)).1, (hf p (by omega)).2.2 (by omega), (hf p (by omega)).2.1⟩)
theorem wfF_ok (hf : kF 35 186 I J R I' J' R') {i : Nat} {y : Int64} : wfF I J R I' (u2 J' 198 i y) R' := fun p hp => ⟨(hf.1 p hp).1, hf.2 p hp, fun hn => by rw [u2_p hn]; exact (hf.1 p hp).2⟩
theorem Wq.no {o : Oc} (h : Wq I J R S T o Q) (hK : KZ I J R S (T + 150) o.2.2) (hn : ¬ o.1 = 0) : Q 0 (some (.int o.1)) I J R (sh_thr S) := h _ _ _ _ (KOk_th hK) wfF_rfl (.inr rfl) (fun e => absurd e hn)
theorem Wq.ok {o : Oc} (h : Wq I J R S T o Q) (hz : o.1 = 0) (hf : kF 35 186 I J R I' J' R') (hK : KZ I' J' R' S (T + 150) o.2.2) : Q 0 (some (.int 0)) I' (u2 J' 198 (ix 0) o.2.1) R' S := by
  have e := h _ _ _ _ (KOk_hi hK (fr_J fr_rfl (by omega)) (fun _ _ => by simp)) (wfF_ok (i := ix 0) (y := o.2.1) hf) (.inl rfl) (fun _ => by rw [show ix 0 = 0 by decide]; exact u2_eq)
  rw [hz] at e
  exact e
theorem qtN_0 : qtN 0 n = svN n := by unfold qtN; rw [if_pos (by decide)]
theorem qtS_0 : qtS 0 s n a = svS s n a := by unfold qtS; rw [if_pos (by decide)]
theorem Ret_hw {m pc pc' cal e hp k pc2 : Nat} {ls rest : List Value} {v : Option Value} (ht : tOk cal = true) (hn : hnd m pc e = some hp) (hd : decode (sk_by m) hp = .ok (.astore k, 2)) (h2 : hp + 2 = pc2) (hk : k < ls.length) (hl : lv_free ls k = true) (hs : st1 ls k nov = ls) : Ret m pc pc' cal ls rest Q (e + 1) v I J R S = Wp m pc2 ls [] I J R S Q := by
  subst h2
  have q : hst m hp ls = some (hp + 2, ls) := by
    simp only [hst, hd]
    rw [if_pos ⟨hk, hl⟩, hs]
  show (tOk cal = true ∧ match hnd m pc e with | some hp => (match hst m hp ls with | some (pc2, ls2) => Wp m pc2 ls2 [] I J R S Q | none => False) | none => Q (e + 1) none I J R S) = _
  rw [hn]
  simp only [ht, q, true_and]
theorem Ret_hn {m pc pc' cal e hp pc2 : Nat} {k : Fin 4} {ls rest : List Value} {v : Option Value} (ht : tOk cal = true) (hn : hnd m pc e = some hp) (hd : decode (sk_by m) hp = .ok (.astore_n k, 1)) (h2 : hp + 1 = pc2) (hk : (k : Nat) < ls.length) (hl : lv_free ls k = true) (hs : st1 ls k nov = ls) : Ret m pc pc' cal ls rest Q (e + 1) v I J R S = Wp m pc2 ls [] I J R S Q := by
  subst h2
  have q : hst m hp ls = some (hp + 1, ls) := by
    simp only [hst, hd]
    rw [if_pos ⟨hk, hl⟩, hs]
  show (tOk cal = true ∧ match hnd m pc e with | some hp => (match hst m hp ls with | some (pc2, ls2) => Wp m pc2 ls2 [] I J R S Q | none => False) | none => Q (e + 1) none I J R S) = _
  rw [hn]
  simp only [ht, q, true_and]

def o_addWord (w : Int64) (c : Int32) (z : Zs) : Oc := if (isW w && okCnt c) = false then (1, 0, z) else if roomW z.1 w = false then (2, 0, z) else (0, (numW (bW z.1) w).toInt64, (aPutW z.1 w c, svN z.2.1, svS z.2.2.1 z.2.1 z.1, z.2.2.2.1, z.2.2.2.2))
-- addWord call 6 handlers [(14, 5, 2), (18, 5, 2)]
theorem d_addWord_14 : decode (sk_by 0) 14 = .ok (.astore 5, 2) := by decide +kernel
theorem d_addWord_18 : decode (sk_by 0) 18 = .ok (.astore 5, 2) := by decide +kernel
theorem w_addWord {o : Oc} (ho : o = o_addWord w c z) (hK : KZ I J R S T z) (hT : T + 150 < 2147483647) (h8 : S.1 198 = 31) (h9 : S.2.1 198 = 1) (hQ : Wq I J R S T o Q) : Wp 0 0 [.ref 35, .long w, nov, .int c, .ref 198, nov] [] I J R S Q := by
  have e35 : S.1 35 = 7 := hK.1.1
  have in0 : inb 0 1 = true := by decide
  simp only [x_L_addWord_0, x_L_addWord_2, x_L_addWord_3, x_L_addWord_4, x_L_addWord_5, x_L_addWord_6, x_L_addWord_9, x_L_addWord_10, x_L_addWord_11, x_L_addWord_16, x_L_addWord_17, x_L_addWord_20, x_L_addWord_21, x_L_addWord_22, x_L_addWord_23, e35, bI_0, bI_t, bI_f, e10, isA30, isA31, isA33, isA40, isA42, isA43, rOkB0, rOkB1, rOkB, Ret_v, Ret_n, cmp_eq, cmp_lt, cmp_gt, nI_1, eq_self, if_true, if_false, reduceIte]
  refine c_K_addWord hK (fun h => ?_) (fun h h2 => ?_) (fun h h2 I' J' R' hf hk => ?_)
  · rw [Ret_hw (e := 0) (hp := 14) (k := 5) (by decide) (by decide +kernel) d_addWord_14 (pc2 := 16) rfl (by simp) rfl rfl]
    simp only [x_L_addWord_0, x_L_addWord_2, x_L_addWord_3, x_L_addWord_4, x_L_addWord_5, x_L_addWord_6, x_L_addWord_9, x_L_addWord_10, x_L_addWord_11, x_L_addWord_16, x_L_addWord_17, x_L_addWord_20, x_L_addWord_21, x_L_addWord_22, x_L_addWord_23, bI_0, bI_t, bI_f, e10, isA30, isA31, isA33, isA40, isA42, isA43, rOkB0, rOkB1, rOkB, Ret_v, Ret_n, cmp_eq, cmp_lt, cmp_gt, nI_1, eq_self, if_true, if_false, reduceIte]
    rw [o_addWord, if_pos h] at ho
    subst ho
    exact hQ.no (KZ_T hK) (show ¬ (1 : Int32) = 0 by decide)
  · rw [Ret_hw (e := 1) (hp := 18) (k := 5) (by decide) (by decide +kernel) d_addWord_18 (pc2 := 20) rfl (by simp) rfl rfl]
    simp only [x_L_addWord_0, x_L_addWord_2, x_L_addWord_3, x_L_addWord_4, x_L_addWord_5, x_L_addWord_6, x_L_addWord_9, x_L_addWord_10, x_L_addWord_11, x_L_addWord_16, x_L_addWord_17, x_L_addWord_20, x_L_addWord_21, x_L_addWord_22, x_L_addWord_23, bI_0, bI_t, bI_f, e10, isA30, isA31, isA33, isA40, isA42, isA43, rOkB0, rOkB1, rOkB, Ret_v, Ret_n, cmp_eq, cmp_lt, cmp_gt, nI_1, eq_self, if_true, if_false, reduceIte]
    rw [o_addWord, if_neg (by first | (intro q; rw [h] at q; cases q) | (intro q; omega) | exact h), if_pos h2] at ho
    subst ho
    exact hQ.no (KZ_T hK) (show ¬ (2 : Int32) = 0 by decide)
  · simp only [x_L_addWord_0, x_L_addWord_2, x_L_addWord_3, x_L_addWord_4, x_L_addWord_5, x_L_addWord_6, x_L_addWord_9, x_L_addWord_10, x_L_addWord_11, x_L_addWord_16, x_L_addWord_17, x_L_addWord_20, x_L_addWord_21, x_L_addWord_22, x_L_addWord_23, h8, h9, in0, bI_0, bI_t, bI_f, e10, isA30, isA31, isA33, isA40, isA42, isA43, rOkB0, rOkB1, rOkB, Ret_v, Ret_n, cmp_eq, cmp_lt, cmp_gt, nI_1, eq_self, if_true, if_false, reduceIte]
    rw [o_addWord, if_neg (by first | (intro q; rw [h] at q; cases q) | (intro q; omega) | exact h), if_neg (by first | (intro q; rw [h2] at q; cases q) | (intro q; omega))] at ho
    subst ho
    exact hQ.ok rfl hf (KZ_T hk)
theorem m_addWord {o : Oc} (ho : o = o_addWord w c z) (hM : MZ I J R S z) (hI : BkI T z.1) (hT : T + 150 < 2147483647) (hQ : Mi I J R S o Q) : Wp 192 0 [.ref 187, .long w, nov, .int c, nov, nov] [] I J R S Q := by
  refine c_M_addWord hM hI (fun h I' hf hm e => ?_) (fun h h2 I' hf hm e => ?_) (fun h h2 I' J' hf hm e => ?_)
  · rw [o_addWord, if_pos h] at ho
    subst ho
    exact hQ _ _ _ hf.1 hm e (fun q => absurd q (show ¬ (1 : Int32) = 0 by decide))
  · rw [o_addWord, if_neg (by first | (intro q; rw [h] at q; cases q) | (intro q; omega) | exact h), if_pos h2] at ho
    subst ho
    exact hQ _ _ _ hf.1 hm e (fun q => absurd q (show ¬ (2 : Int32) = 0 by decide))
  · rw [o_addWord, if_neg (by first | (intro q; rw [h] at q; cases q) | (intro q; omega) | exact h), if_neg (by first | (intro q; rw [h2] at q; cases q) | (intro q; omega))] at ho
    subst ho
    rw [qtN_0, qtS_0] at hm
    exact hQ _ _ _ hf.1 hm e (fun _ => rfl)
def o_dropWord (w : Int64) (z : Zs) : Oc := if isW w = false then (1, 0, z) else (0, (numW (bW z.1) w).toInt64, (aDelW z.1 w, svN z.2.1, svS z.2.2.1 z.2.1 z.1, z.2.2.2.1, z.2.2.2.2))
-- dropWord call 4 handlers [(12, 4, 2)]
theorem d_dropWord_12 : decode (sk_by 1) 12 = .ok (.astore 4, 2) := by decide +kernel
theorem w_dropWord {o : Oc} (ho : o = o_dropWord w z) (hK : KZ I J R S T z) (hT : T + 150 < 2147483647) (h8 : S.1 198 = 31) (h9 : S.2.1 198 = 1) (hQ : Wq I J R S T o Q) : Wp 1 0 [.ref 35, .long w, nov, .ref 198, nov] [] I J R S Q := by
  have e35 : S.1 35 = 7 := hK.1.1
  have in0 : inb 0 1 = true := by decide
  simp only [x_L_dropWord_0, x_L_dropWord_1, x_L_dropWord_2, x_L_dropWord_3, x_L_dropWord_4, x_L_dropWord_7, x_L_dropWord_8, x_L_dropWord_9, x_L_dropWord_14, x_L_dropWord_15, x_L_dropWord_16, x_L_dropWord_17, e35, bI_0, bI_t, bI_f, e10, isA30, isA31, isA33, isA40, isA42, isA43, rOkB0, rOkB1, rOkB, Ret_v, Ret_n, cmp_eq, cmp_lt, cmp_gt, nI_1, eq_self, if_true, if_false, reduceIte]
  refine c_K_dropWord hK (fun h => ?_) (fun h I' J' R' hf hk => ?_)
  · rw [Ret_hw (e := 0) (hp := 12) (k := 4) (by decide) (by decide +kernel) d_dropWord_12 (pc2 := 14) rfl (by simp) rfl rfl]
    simp only [x_L_dropWord_0, x_L_dropWord_1, x_L_dropWord_2, x_L_dropWord_3, x_L_dropWord_4, x_L_dropWord_7, x_L_dropWord_8, x_L_dropWord_9, x_L_dropWord_14, x_L_dropWord_15, x_L_dropWord_16, x_L_dropWord_17, bI_0, bI_t, bI_f, e10, isA30, isA31, isA33, isA40, isA42, isA43, rOkB0, rOkB1, rOkB, Ret_v, Ret_n, cmp_eq, cmp_lt, cmp_gt, nI_1, eq_self, if_true, if_false, reduceIte]
    rw [o_dropWord, if_pos h] at ho
    subst ho
    exact hQ.no (KZ_T hK) (show ¬ (1 : Int32) = 0 by decide)
  · simp only [x_L_dropWord_0, x_L_dropWord_1, x_L_dropWord_2, x_L_dropWord_3, x_L_dropWord_4, x_L_dropWord_7, x_L_dropWord_8, x_L_dropWord_9, x_L_dropWord_14, x_L_dropWord_15, x_L_dropWord_16, x_L_dropWord_17, h8, h9, in0, bI_0, bI_t, bI_f, e10, isA30, isA31, isA33, isA40, isA42, isA43, rOkB0, rOkB1, rOkB, Ret_v, Ret_n, cmp_eq, cmp_lt, cmp_gt, nI_1, eq_self, if_true, if_false, reduceIte]
    rw [o_dropWord, if_neg (by first | (intro q; rw [h] at q; cases q) | (intro q; omega) | exact h)] at ho
    subst ho
    exact hQ.ok rfl hf (KZ_T hk)
theorem m_dropWord {o : Oc} (ho : o = o_dropWord w z) (hM : MZ I J R S z) (hI : BkI T z.1) (hT : T + 150 < 2147483647) (hQ : Mi I J R S o Q) : Wp 193 0 [.ref 187, .long w, nov, nov, nov] [] I J R S Q := by
  refine c_M_dropWord hM hI (fun h I' hf hm e => ?_) (fun h I' J' hf hm e => ?_)
  · rw [o_dropWord, if_pos h] at ho
    subst ho
    exact hQ _ _ _ hf.1 hm e (fun q => absurd q (show ¬ (1 : Int32) = 0 by decide))
  · rw [o_dropWord, if_neg (by first | (intro q; rw [h] at q; cases q) | (intro q; omega) | exact h)] at ho
    subst ho
    rw [qtN_0, qtS_0] at hm
    exact hQ _ _ _ hf.1 hm e (fun _ => rfl)
def o_addName (w : Int64) (z : Zs) : Oc := if isW w = false then (1, 0, z) else if roomN z.1 w = false then (2, 0, z) else (0, (bI (!hasN z.1 w)).toInt64, (aPutN z.1 w, svN z.2.1, svS z.2.2.1 z.2.1 z.1, z.2.2.2.1, z.2.2.2.2))
-- addName call 4 handlers [(12, 4, 2), (16, 4, 2)]
theorem d_addName_12 : decode (sk_by 2) 12 = .ok (.astore 4, 2) := by decide +kernel
theorem d_addName_16 : decode (sk_by 2) 16 = .ok (.astore 4, 2) := by decide +kernel
theorem w_addName {o : Oc} (ho : o = o_addName w z) (hK : KZ I J R S T z) (hT : T + 150 < 2147483647) (h8 : S.1 198 = 31) (h9 : S.2.1 198 = 1) (hQ : Wq I J R S T o Q) : Wp 2 0 [.ref 35, .long w, nov, .ref 198, nov] [] I J R S Q := by
  have e35 : S.1 35 = 7 := hK.1.1
  have in0 : inb 0 1 = true := by decide
  simp only [x_L_addName_0, x_L_addName_1, x_L_addName_2, x_L_addName_3, x_L_addName_4, x_L_addName_7, x_L_addName_8, x_L_addName_9, x_L_addName_14, x_L_addName_15, x_L_addName_18, x_L_addName_19, x_L_addName_20, x_L_addName_21, e35, bI_0, bI_t, bI_f, e10, isA30, isA31, isA33, isA40, isA42, isA43, rOkB0, rOkB1, rOkB, Ret_v, Ret_n, cmp_eq, cmp_lt, cmp_gt, nI_1, eq_self, if_true, if_false, reduceIte]
  refine c_K_addName hK (fun h => ?_) (fun h h2 => ?_) (fun h h2 I' J' R' hf hk => ?_)
  · rw [Ret_hw (e := 0) (hp := 12) (k := 4) (by decide) (by decide +kernel) d_addName_12 (pc2 := 14) rfl (by simp) rfl rfl]
    simp only [x_L_addName_0, x_L_addName_1, x_L_addName_2, x_L_addName_3, x_L_addName_4, x_L_addName_7, x_L_addName_8, x_L_addName_9, x_L_addName_14, x_L_addName_15, x_L_addName_18, x_L_addName_19, x_L_addName_20, x_L_addName_21, bI_0, bI_t, bI_f, e10, isA30, isA31, isA33, isA40, isA42, isA43, rOkB0, rOkB1, rOkB, Ret_v, Ret_n, cmp_eq, cmp_lt, cmp_gt, nI_1, eq_self, if_true, if_false, reduceIte]
    rw [o_addName, if_pos h] at ho
    subst ho
    exact hQ.no (KZ_T hK) (show ¬ (1 : Int32) = 0 by decide)
  · rw [Ret_hw (e := 1) (hp := 16) (k := 4) (by decide) (by decide +kernel) d_addName_16 (pc2 := 18) rfl (by simp) rfl rfl]
    simp only [x_L_addName_0, x_L_addName_1, x_L_addName_2, x_L_addName_3, x_L_addName_4, x_L_addName_7, x_L_addName_8, x_L_addName_9, x_L_addName_14, x_L_addName_15, x_L_addName_18, x_L_addName_19, x_L_addName_20, x_L_addName_21, bI_0, bI_t, bI_f, e10, isA30, isA31, isA33, isA40, isA42, isA43, rOkB0, rOkB1, rOkB, Ret_v, Ret_n, cmp_eq, cmp_lt, cmp_gt, nI_1, eq_self, if_true, if_false, reduceIte]
    rw [o_addName, if_neg (by first | (intro q; rw [h] at q; cases q) | (intro q; omega) | exact h), if_pos h2] at ho
    subst ho
    exact hQ.no (KZ_T hK) (show ¬ (2 : Int32) = 0 by decide)
  · simp only [x_L_addName_0, x_L_addName_1, x_L_addName_2, x_L_addName_3, x_L_addName_4, x_L_addName_7, x_L_addName_8, x_L_addName_9, x_L_addName_14, x_L_addName_15, x_L_addName_18, x_L_addName_19, x_L_addName_20, x_L_addName_21, h8, h9, in0, bI_0, bI_t, bI_f, e10, isA30, isA31, isA33, isA40, isA42, isA43, rOkB0, rOkB1, rOkB, Ret_v, Ret_n, cmp_eq, cmp_lt, cmp_gt, nI_1, eq_self, if_true, if_false, reduceIte]
    rw [o_addName, if_neg (by first | (intro q; rw [h] at q; cases q) | (intro q; omega) | exact h), if_neg (by first | (intro q; rw [h2] at q; cases q) | (intro q; omega))] at ho
    subst ho
    exact hQ.ok rfl hf (KZ_T hk)
theorem m_addName {o : Oc} (ho : o = o_addName w z) (hM : MZ I J R S z) (hI : BkI T z.1) (hT : T + 150 < 2147483647) (hQ : Mi I J R S o Q) : Wp 194 0 [.ref 187, .long w, nov, nov] [] I J R S Q := by
  refine c_M_addName hM hI (fun h I' hf hm e => ?_) (fun h h2 I' hf hm e => ?_) (fun h h2 I' J' hf hm e => ?_)
  · rw [o_addName, if_pos h] at ho
    subst ho
    exact hQ _ _ _ hf.1 hm e (fun q => absurd q (show ¬ (1 : Int32) = 0 by decide))
  · rw [o_addName, if_neg (by first | (intro q; rw [h] at q; cases q) | (intro q; omega) | exact h), if_pos h2] at ho
    subst ho
    exact hQ _ _ _ hf.1 hm e (fun q => absurd q (show ¬ (2 : Int32) = 0 by decide))
  · rw [o_addName, if_neg (by first | (intro q; rw [h] at q; cases q) | (intro q; omega) | exact h), if_neg (by first | (intro q; rw [h2] at q; cases q) | (intro q; omega))] at ho
    subst ho
    rw [qtN_0, qtS_0] at hm
    exact hQ _ _ _ hf.1 hm e (fun _ => rfl)
def o_dropName (w : Int64) (z : Zs) : Oc := if isW w = false then (1, 0, z) else (0, (bI (hasN z.1 w)).toInt64, (aDelN z.1 w, svN z.2.1, svS z.2.2.1 z.2.1 z.1, z.2.2.2.1, z.2.2.2.2))
-- dropName call 4 handlers [(12, 4, 2)]
theorem d_dropName_12 : decode (sk_by 3) 12 = .ok (.astore 4, 2) := by decide +kernel
theorem w_dropName {o : Oc} (ho : o = o_dropName w z) (hK : KZ I J R S T z) (hT : T + 150 < 2147483647) (h8 : S.1 198 = 31) (h9 : S.2.1 198 = 1) (hQ : Wq I J R S T o Q) : Wp 3 0 [.ref 35, .long w, nov, .ref 198, nov] [] I J R S Q := by
  have e35 : S.1 35 = 7 := hK.1.1
  have in0 : inb 0 1 = true := by decide
  simp only [x_L_dropName_0, x_L_dropName_1, x_L_dropName_2, x_L_dropName_3, x_L_dropName_4, x_L_dropName_7, x_L_dropName_8, x_L_dropName_9, x_L_dropName_14, x_L_dropName_15, x_L_dropName_16, x_L_dropName_17, e35, bI_0, bI_t, bI_f, e10, isA30, isA31, isA33, isA40, isA42, isA43, rOkB0, rOkB1, rOkB, Ret_v, Ret_n, cmp_eq, cmp_lt, cmp_gt, nI_1, eq_self, if_true, if_false, reduceIte]
  refine c_K_dropName hK (fun h => ?_) (fun h I' J' R' hf hk => ?_)
  · rw [Ret_hw (e := 0) (hp := 12) (k := 4) (by decide) (by decide +kernel) d_dropName_12 (pc2 := 14) rfl (by simp) rfl rfl]
    simp only [x_L_dropName_0, x_L_dropName_1, x_L_dropName_2, x_L_dropName_3, x_L_dropName_4, x_L_dropName_7, x_L_dropName_8, x_L_dropName_9, x_L_dropName_14, x_L_dropName_15, x_L_dropName_16, x_L_dropName_17, bI_0, bI_t, bI_f, e10, isA30, isA31, isA33, isA40, isA42, isA43, rOkB0, rOkB1, rOkB, Ret_v, Ret_n, cmp_eq, cmp_lt, cmp_gt, nI_1, eq_self, if_true, if_false, reduceIte]
    rw [o_dropName, if_pos h] at ho
    subst ho
    exact hQ.no (KZ_T hK) (show ¬ (1 : Int32) = 0 by decide)
  · simp only [x_L_dropName_0, x_L_dropName_1, x_L_dropName_2, x_L_dropName_3, x_L_dropName_4, x_L_dropName_7, x_L_dropName_8, x_L_dropName_9, x_L_dropName_14, x_L_dropName_15, x_L_dropName_16, x_L_dropName_17, h8, h9, in0, bI_0, bI_t, bI_f, e10, isA30, isA31, isA33, isA40, isA42, isA43, rOkB0, rOkB1, rOkB, Ret_v, Ret_n, cmp_eq, cmp_lt, cmp_gt, nI_1, eq_self, if_true, if_false, reduceIte]
    rw [o_dropName, if_neg (by first | (intro q; rw [h] at q; cases q) | (intro q; omega) | exact h)] at ho
    subst ho
    exact hQ.ok rfl hf (KZ_T hk)
theorem m_dropName {o : Oc} (ho : o = o_dropName w z) (hM : MZ I J R S z) (hI : BkI T z.1) (hT : T + 150 < 2147483647) (hQ : Mi I J R S o Q) : Wp 195 0 [.ref 187, .long w, nov, nov] [] I J R S Q := by
  refine c_M_dropName hM hI (fun h I' hf hm e => ?_) (fun h I' J' hf hm e => ?_)
  · rw [o_dropName, if_pos h] at ho
    subst ho
    exact hQ _ _ _ hf.1 hm e (fun q => absurd q (show ¬ (1 : Int32) = 0 by decide))
  · rw [o_dropName, if_neg (by first | (intro q; rw [h] at q; cases q) | (intro q; omega) | exact h)] at ho
    subst ho
    rw [qtN_0, qtS_0] at hm
    exact hQ _ _ _ hf.1 hm e (fun _ => rfl)
def o_setStick (k v : Int32) (z : Zs) : Oc := if (okLet k && okStk v) = false then (1, 0, z) else (0, (bK z.1 (ix k)).toInt64, (aStk z.1 (ix k) v, svN z.2.1, svS z.2.2.1 z.2.1 z.1, z.2.2.2.1, z.2.2.2.2))
-- setStick call 5 handlers [(13, 4, 2)]
theorem d_setStick_13 : decode (sk_by 4) 13 = .ok (.astore 4, 2) := by decide +kernel
theorem w_setStick {o : Oc} (ho : o = o_setStick k v z) (hK : KZ I J R S T z) (hT : T + 150 < 2147483647) (h8 : S.1 198 = 31) (h9 : S.2.1 198 = 1) (hQ : Wq I J R S T o Q) : Wp 4 0 [.ref 35, .int k, .int v, .ref 198, nov] [] I J R S Q := by
  have e35 : S.1 35 = 7 := hK.1.1
  have in0 : inb 0 1 = true := by decide
  simp only [x_L_setStick_0, x_L_setStick_1, x_L_setStick_2, x_L_setStick_3, x_L_setStick_4, x_L_setStick_5, x_L_setStick_8, x_L_setStick_9, x_L_setStick_10, x_L_setStick_15, x_L_setStick_16, x_L_setStick_17, x_L_setStick_18, e35, bI_0, bI_t, bI_f, e10, isA30, isA31, isA33, isA40, isA42, isA43, rOkB0, rOkB1, rOkB, Ret_v, Ret_n, cmp_eq, cmp_lt, cmp_gt, nI_1, eq_self, if_true, if_false, reduceIte]
  refine c_K_setStick hK (fun h => ?_) (fun h I' J' R' hf hk => ?_)
  · rw [Ret_hw (e := 0) (hp := 13) (k := 4) (by decide) (by decide +kernel) d_setStick_13 (pc2 := 15) rfl (by simp) rfl rfl]
    simp only [x_L_setStick_0, x_L_setStick_1, x_L_setStick_2, x_L_setStick_3, x_L_setStick_4, x_L_setStick_5, x_L_setStick_8, x_L_setStick_9, x_L_setStick_10, x_L_setStick_15, x_L_setStick_16, x_L_setStick_17, x_L_setStick_18, bI_0, bI_t, bI_f, e10, isA30, isA31, isA33, isA40, isA42, isA43, rOkB0, rOkB1, rOkB, Ret_v, Ret_n, cmp_eq, cmp_lt, cmp_gt, nI_1, eq_self, if_true, if_false, reduceIte]
    rw [o_setStick, if_pos h] at ho
    subst ho
    exact hQ.no (KZ_T hK) (show ¬ (1 : Int32) = 0 by decide)
  · simp only [x_L_setStick_0, x_L_setStick_1, x_L_setStick_2, x_L_setStick_3, x_L_setStick_4, x_L_setStick_5, x_L_setStick_8, x_L_setStick_9, x_L_setStick_10, x_L_setStick_15, x_L_setStick_16, x_L_setStick_17, x_L_setStick_18, h8, h9, in0, bI_0, bI_t, bI_f, e10, isA30, isA31, isA33, isA40, isA42, isA43, rOkB0, rOkB1, rOkB, Ret_v, Ret_n, cmp_eq, cmp_lt, cmp_gt, nI_1, eq_self, if_true, if_false, reduceIte]
    rw [o_setStick, if_neg (by first | (intro q; rw [h] at q; cases q) | (intro q; omega) | exact h)] at ho
    subst ho
    exact hQ.ok rfl hf (KZ_T hk)
theorem m_setStick {o : Oc} (ho : o = o_setStick k v z) (hM : MZ I J R S z) (hI : BkI T z.1) (hT : T + 150 < 2147483647) (hQ : Mi I J R S o Q) : Wp 196 0 [.ref 187, .int k, .int v, nov] [] I J R S Q := by
  refine c_M_setStick hM hI (fun h I' hf hm e => ?_) (fun h I' J' hf hm e => ?_)
  · rw [o_setStick, if_pos h] at ho
    subst ho
    exact hQ _ _ _ hf.1 hm e (fun q => absurd q (show ¬ (1 : Int32) = 0 by decide))
  · rw [o_setStick, if_neg (by first | (intro q; rw [h] at q; cases q) | (intro q; omega) | exact h)] at ho
    subst ho
    rw [qtN_0, qtS_0] at hm
    exact hQ _ _ _ hf.1 hm e (fun _ => rfl)
def o_set (k v : Int32) (z : Zs) : Oc := if okSet k v = false then (1, 0, z) else (0, (bT z.1 (ix k)).toInt64, (aSet z.1 (ix k) v, svN z.2.1, svS z.2.2.1 z.2.1 z.1, z.2.2.2.1, z.2.2.2.2))
-- set call 5 handlers [(13, 4, 2)]
theorem d_set_13 : decode (sk_by 5) 13 = .ok (.astore 4, 2) := by decide +kernel
theorem w_set {o : Oc} (ho : o = o_set k v z) (hK : KZ I J R S T z) (hT : T + 150 < 2147483647) (h8 : S.1 198 = 31) (h9 : S.2.1 198 = 1) (hQ : Wq I J R S T o Q) : Wp 5 0 [.ref 35, .int k, .int v, .ref 198, nov] [] I J R S Q := by
  have e35 : S.1 35 = 7 := hK.1.1
  have in0 : inb 0 1 = true := by decide
  simp only [x_L_set_0, x_L_set_1, x_L_set_2, x_L_set_3, x_L_set_4, x_L_set_5, x_L_set_8, x_L_set_9, x_L_set_10, x_L_set_15, x_L_set_16, x_L_set_17, x_L_set_18, e35, bI_0, bI_t, bI_f, e10, isA30, isA31, isA33, isA40, isA42, isA43, rOkB0, rOkB1, rOkB, Ret_v, Ret_n, cmp_eq, cmp_lt, cmp_gt, nI_1, eq_self, if_true, if_false, reduceIte]
  refine c_K_set hK (fun h => ?_) (fun h I' J' R' hf hk => ?_)
  · rw [Ret_hw (e := 0) (hp := 13) (k := 4) (by decide) (by decide +kernel) d_set_13 (pc2 := 15) rfl (by simp) rfl rfl]
    simp only [x_L_set_0, x_L_set_1, x_L_set_2, x_L_set_3, x_L_set_4, x_L_set_5, x_L_set_8, x_L_set_9, x_L_set_10, x_L_set_15, x_L_set_16, x_L_set_17, x_L_set_18, bI_0, bI_t, bI_f, e10, isA30, isA31, isA33, isA40, isA42, isA43, rOkB0, rOkB1, rOkB, Ret_v, Ret_n, cmp_eq, cmp_lt, cmp_gt, nI_1, eq_self, if_true, if_false, reduceIte]
    rw [o_set, if_pos h] at ho
    subst ho
    exact hQ.no (KZ_T hK) (show ¬ (1 : Int32) = 0 by decide)
  · simp only [x_L_set_0, x_L_set_1, x_L_set_2, x_L_set_3, x_L_set_4, x_L_set_5, x_L_set_8, x_L_set_9, x_L_set_10, x_L_set_15, x_L_set_16, x_L_set_17, x_L_set_18, h8, h9, in0, bI_0, bI_t, bI_f, e10, isA30, isA31, isA33, isA40, isA42, isA43, rOkB0, rOkB1, rOkB, Ret_v, Ret_n, cmp_eq, cmp_lt, cmp_gt, nI_1, eq_self, if_true, if_false, reduceIte]
    rw [o_set, if_neg (by first | (intro q; rw [h] at q; cases q) | (intro q; omega) | exact h)] at ho
    subst ho
    exact hQ.ok rfl hf (KZ_T hk)
theorem m_set {o : Oc} (ho : o = o_set k v z) (hM : MZ I J R S z) (hI : BkI T z.1) (hT : T + 150 < 2147483647) (hQ : Mi I J R S o Q) : Wp 197 0 [.ref 187, .int k, .int v, nov, nov] [] I J R S Q := by
  refine c_M_set hM hI (fun h I' hf hm e => ?_) (fun h I' J' hf hm e => ?_)
  · rw [o_set, if_pos h] at ho
    subst ho
    exact hQ _ _ _ hf.1 hm e (fun q => absurd q (show ¬ (1 : Int32) = 0 by decide))
  · rw [o_set, if_neg (by first | (intro q; rw [h] at q; cases q) | (intro q; omega) | exact h)] at ho
    subst ho
    rw [qtN_0, qtS_0] at hm
    exact hQ _ _ _ hf.1 hm e (fun _ => rfl)
def o_correct (w : Int64) (z : Zs) : Oc := if isW w = false then (1, 0, z) else (0, (tkR z.1 w), (tkA z.1 w, svN z.2.1, svS z.2.2.1 z.2.1 z.1, z.2.2.2.1, z.2.2.2.2))
-- correct call 4 handlers [(11, 4, 2)]
theorem d_correct_11 : decode (sk_by 6) 11 = .ok (.astore 4, 2) := by decide +kernel
theorem w_correct {o : Oc} (ho : o = o_correct w z) (hK : KZ I J R S T z) (hT : T + 150 < 2147483647) (h8 : S.1 198 = 31) (h9 : S.2.1 198 = 1) (hQ : Wq I J R S T o Q) : Wp 6 0 [.ref 35, .long w, nov, .ref 198, nov] [] I J R S Q := by
  have e35 : S.1 35 = 7 := hK.1.1
  have in0 : inb 0 1 = true := by decide
  simp only [x_L_correct_0, x_L_correct_1, x_L_correct_2, x_L_correct_3, x_L_correct_4, x_L_correct_7, x_L_correct_8, x_L_correct_13, x_L_correct_14, x_L_correct_15, x_L_correct_16, e35, bI_0, bI_t, bI_f, e10, isA30, isA31, isA33, isA40, isA42, isA43, rOkB0, rOkB1, rOkB, Ret_v, Ret_n, cmp_eq, cmp_lt, cmp_gt, nI_1, eq_self, if_true, if_false, reduceIte]
  refine c_K_correct hK (by omega) (fun h => ?_) (fun h I' J' R' hf hk => ?_)
  · rw [Ret_hw (e := 0) (hp := 11) (k := 4) (by decide) (by decide +kernel) d_correct_11 (pc2 := 13) rfl (by simp) rfl rfl]
    simp only [x_L_correct_0, x_L_correct_1, x_L_correct_2, x_L_correct_3, x_L_correct_4, x_L_correct_7, x_L_correct_8, x_L_correct_13, x_L_correct_14, x_L_correct_15, x_L_correct_16, bI_0, bI_t, bI_f, e10, isA30, isA31, isA33, isA40, isA42, isA43, rOkB0, rOkB1, rOkB, Ret_v, Ret_n, cmp_eq, cmp_lt, cmp_gt, nI_1, eq_self, if_true, if_false, reduceIte]
    rw [o_correct, if_pos h] at ho
    subst ho
    exact hQ.no (KZ_T hK) (show ¬ (1 : Int32) = 0 by decide)
  · simp only [x_L_correct_0, x_L_correct_1, x_L_correct_2, x_L_correct_3, x_L_correct_4, x_L_correct_7, x_L_correct_8, x_L_correct_13, x_L_correct_14, x_L_correct_15, x_L_correct_16, h8, h9, in0, bI_0, bI_t, bI_f, e10, isA30, isA31, isA33, isA40, isA42, isA43, rOkB0, rOkB1, rOkB, Ret_v, Ret_n, cmp_eq, cmp_lt, cmp_gt, nI_1, eq_self, if_true, if_false, reduceIte]
    rw [o_correct, if_neg (by first | (intro q; rw [h] at q; cases q) | (intro q; omega) | exact h)] at ho
    subst ho
    exact hQ.ok rfl hf (KZ_T1 hk)
theorem m_correct {o : Oc} (ho : o = o_correct w z) (hM : MZ I J R S z) (hI : BkI T z.1) (hT : T + 150 < 2147483647) (hQ : Ml I J R S o Q) : Wp 214 0 [.ref 187, .long w, nov, nov, nov, nov, nov] [] I J R S Q := by
  refine c_M_correct hM hI (by omega) (fun h I' hf hm e => ?_) (fun h I' J' hf hm e => ?_)
  · rw [o_correct, if_pos h] at ho
    subst ho
    exact hQ _ _ _ hf.1 hm e (fun q => absurd q (show ¬ (1 : Int32) = 0 by decide))
  · rw [o_correct, if_neg (by first | (intro q; rw [h] at q; cases q) | (intro q; omega) | exact h)] at ho
    subst ho
    rw [qtN_0, qtS_0] at hm
    exact hQ _ _ _ hf.1 hm e (fun _ => rfl)
def o_takeBack  (z : Zs) : Oc := if canB z.1 = false then (1, 0, z) else (0, (bkF z.1), (aBack z.1, svN z.2.1, svS z.2.2.1 z.2.1 z.1, z.2.2.2.1, z.2.2.2.2))
-- takeBack call 3 handlers [(10, 2, 1)]
theorem d_takeBack_10 : decode (sk_by 7) 10 = .ok (.astore_n 2, 1) := by decide +kernel
theorem w_takeBack {o : Oc} (ho : o = o_takeBack z) (hK : KZ I J R S T z) (hT : T + 150 < 2147483647) (h8 : S.1 198 = 31) (h9 : S.2.1 198 = 1) (hQ : Wq I J R S T o Q) : Wp 7 0 [.ref 35, .ref 198, nov] [] I J R S Q := by
  have e35 : S.1 35 = 7 := hK.1.1
  have in0 : inb 0 1 = true := by decide
  simp only [x_L_takeBack_0, x_L_takeBack_1, x_L_takeBack_2, x_L_takeBack_3, x_L_takeBack_6, x_L_takeBack_7, x_L_takeBack_11, x_L_takeBack_12, x_L_takeBack_13, x_L_takeBack_14, e35, bI_0, bI_t, bI_f, e10, isA30, isA31, isA33, isA40, isA42, isA43, rOkB0, rOkB1, rOkB, Ret_v, Ret_n, cmp_eq, cmp_lt, cmp_gt, nI_1, eq_self, if_true, if_false, reduceIte]
  refine c_K_takeBack hK (by omega) (fun h => ?_) (fun h I' J' R' hf hk => ?_)
  · rw [Ret_hn (e := 1) (hp := 10) (k := 2) (by decide) (by decide +kernel) d_takeBack_10 (pc2 := 11) rfl (by simp) rfl rfl]
    simp only [x_L_takeBack_0, x_L_takeBack_1, x_L_takeBack_2, x_L_takeBack_3, x_L_takeBack_6, x_L_takeBack_7, x_L_takeBack_11, x_L_takeBack_12, x_L_takeBack_13, x_L_takeBack_14, bI_0, bI_t, bI_f, e10, isA30, isA31, isA33, isA40, isA42, isA43, rOkB0, rOkB1, rOkB, Ret_v, Ret_n, cmp_eq, cmp_lt, cmp_gt, nI_1, eq_self, if_true, if_false, reduceIte]
    rw [o_takeBack, if_pos h] at ho
    subst ho
    exact hQ.no (KZ_T hK) (show ¬ (1 : Int32) = 0 by decide)
  · simp only [x_L_takeBack_0, x_L_takeBack_1, x_L_takeBack_2, x_L_takeBack_3, x_L_takeBack_6, x_L_takeBack_7, x_L_takeBack_11, x_L_takeBack_12, x_L_takeBack_13, x_L_takeBack_14, h8, h9, in0, bI_0, bI_t, bI_f, e10, isA30, isA31, isA33, isA40, isA42, isA43, rOkB0, rOkB1, rOkB, Ret_v, Ret_n, cmp_eq, cmp_lt, cmp_gt, nI_1, eq_self, if_true, if_false, reduceIte]
    rw [o_takeBack, if_neg (by first | (intro q; rw [h] at q; cases q) | (intro q; omega) | exact h)] at ho
    subst ho
    exact hQ.ok rfl hf (KZ_T1 hk)
theorem m_takeBack {o : Oc} (ho : o = o_takeBack z) (hM : MZ I J R S z) (hI : BkI T z.1) (hT : T + 150 < 2147483647) (hQ : Ml I J R S o Q) : Wp 215 0 [.ref 187, nov, nov, nov, nov, nov, nov, nov] [] I J R S Q := by
  refine c_M_takeBack hM hI (by omega) (fun h I' hf hm e => ?_) (fun h I' J' hf hm e => ?_)
  · rw [o_takeBack, if_pos h] at ho
    subst ho
    exact hQ _ _ _ hf.1 hm e (fun q => absurd q (show ¬ (1 : Int32) = 0 by decide))
  · rw [o_takeBack, if_neg (by first | (intro q; rw [h] at q; cases q) | (intro q; omega) | exact h)] at ho
    subst ho
    rw [qtN_0, qtS_0] at hm
    exact hQ _ _ _ hf.1 hm e (fun _ => rfl)
def o_allow (t w : Int64) (z : Zs) : Oc := if (isW t && isW w) = false then (1, 0, z) else (0, (bI (isB z.1 t w)).toInt64, (aDelB z.1 t w, svN z.2.1, svS z.2.2.1 z.2.1 z.1, z.2.2.2.1, z.2.2.2.2))
-- allow call 6 handlers [(14, 6, 2)]
theorem d_allow_14 : decode (sk_by 8) 14 = .ok (.astore 6, 2) := by decide +kernel
theorem w_allow {o : Oc} (ho : o = o_allow t w z) (hK : KZ I J R S T z) (hT : T + 150 < 2147483647) (h8 : S.1 198 = 31) (h9 : S.2.1 198 = 1) (hQ : Wq I J R S T o Q) : Wp 8 0 [.ref 35, .long t, nov, .long w, nov, .ref 198, nov] [] I J R S Q := by
  have e35 : S.1 35 = 7 := hK.1.1
  have in0 : inb 0 1 = true := by decide
  simp only [x_L_allow_0, x_L_allow_2, x_L_allow_3, x_L_allow_4, x_L_allow_5, x_L_allow_6, x_L_allow_9, x_L_allow_10, x_L_allow_11, x_L_allow_16, x_L_allow_17, x_L_allow_18, x_L_allow_19, e35, bI_0, bI_t, bI_f, e10, isA30, isA31, isA33, isA40, isA42, isA43, rOkB0, rOkB1, rOkB, Ret_v, Ret_n, cmp_eq, cmp_lt, cmp_gt, nI_1, eq_self, if_true, if_false, reduceIte]
  refine c_K_allow hK (fun h => ?_) (fun h I' J' R' hf hk => ?_)
  · rw [Ret_hw (e := 0) (hp := 14) (k := 6) (by decide) (by decide +kernel) d_allow_14 (pc2 := 16) rfl (by simp) rfl rfl]
    simp only [x_L_allow_0, x_L_allow_2, x_L_allow_3, x_L_allow_4, x_L_allow_5, x_L_allow_6, x_L_allow_9, x_L_allow_10, x_L_allow_11, x_L_allow_16, x_L_allow_17, x_L_allow_18, x_L_allow_19, bI_0, bI_t, bI_f, e10, isA30, isA31, isA33, isA40, isA42, isA43, rOkB0, rOkB1, rOkB, Ret_v, Ret_n, cmp_eq, cmp_lt, cmp_gt, nI_1, eq_self, if_true, if_false, reduceIte]
    rw [o_allow, if_pos h] at ho
    subst ho
    exact hQ.no (KZ_T hK) (show ¬ (1 : Int32) = 0 by decide)
  · simp only [x_L_allow_0, x_L_allow_2, x_L_allow_3, x_L_allow_4, x_L_allow_5, x_L_allow_6, x_L_allow_9, x_L_allow_10, x_L_allow_11, x_L_allow_16, x_L_allow_17, x_L_allow_18, x_L_allow_19, h8, h9, in0, bI_0, bI_t, bI_f, e10, isA30, isA31, isA33, isA40, isA42, isA43, rOkB0, rOkB1, rOkB, Ret_v, Ret_n, cmp_eq, cmp_lt, cmp_gt, nI_1, eq_self, if_true, if_false, reduceIte]
    rw [o_allow, if_neg (by first | (intro q; rw [h] at q; cases q) | (intro q; omega) | exact h)] at ho
    subst ho
    exact hQ.ok rfl hf (KZ_T hk)
theorem m_allow {o : Oc} (ho : o = o_allow t w z) (hM : MZ I J R S z) (hI : BkI T z.1) (hT : T + 150 < 2147483647) (hQ : Mi I J R S o Q) : Wp 216 0 [.ref 187, .long t, nov, .long w, nov, nov] [] I J R S Q := by
  refine c_M_allow hM hI (fun h I' hf hm e => ?_) (fun h I' J' hf hm e => ?_)
  · rw [o_allow, if_pos h] at ho
    subst ho
    exact hQ _ _ _ hf.1 hm e (fun q => absurd q (show ¬ (1 : Int32) = 0 by decide))
  · rw [o_allow, if_neg (by first | (intro q; rw [h] at q; cases q) | (intro q; omega) | exact h)] at ho
    subst ho
    rw [qtN_0, qtS_0] at hm
    exact hQ _ _ _ hf.1 hm e (fun _ => rfl)
def o_word (w : Int64) (k : Int32) (z : Zs) : Oc := if (isW w && ok6 k 6) = false then (1, 0, z) else (0, (vW z.1 w (ix k)).toInt64, z)
-- word call 6 handlers [(14, 5, 2)]
theorem d_word_14 : decode (sk_by 9) 14 = .ok (.astore 5, 2) := by decide +kernel
theorem w_word {o : Oc} (ho : o = o_word w k z) (hK : KZ I J R S T z) (hT : T + 150 < 2147483647) (h8 : S.1 198 = 31) (h9 : S.2.1 198 = 1) (hQ : Wq I J R S T o Q) : Wp 9 0 [.ref 35, .long w, nov, .int k, .ref 198, nov] [] I J R S Q := by
  have e35 : S.1 35 = 7 := hK.1.1
  have in0 : inb 0 1 = true := by decide
  simp only [x_L_word_0, x_L_word_2, x_L_word_3, x_L_word_4, x_L_word_5, x_L_word_6, x_L_word_9, x_L_word_10, x_L_word_11, x_L_word_16, x_L_word_17, x_L_word_18, x_L_word_19, e35, bI_0, bI_t, bI_f, e10, isA30, isA31, isA33, isA40, isA42, isA43, rOkB0, rOkB1, rOkB, Ret_v, Ret_n, cmp_eq, cmp_lt, cmp_gt, nI_1, eq_self, if_true, if_false, reduceIte]
  refine c_K_word hK (fun h => ?_) (fun h => ?_)
  · rw [Ret_hw (e := 0) (hp := 14) (k := 5) (by decide) (by decide +kernel) d_word_14 (pc2 := 16) rfl (by simp) rfl rfl]
    simp only [x_L_word_0, x_L_word_2, x_L_word_3, x_L_word_4, x_L_word_5, x_L_word_6, x_L_word_9, x_L_word_10, x_L_word_11, x_L_word_16, x_L_word_17, x_L_word_18, x_L_word_19, bI_0, bI_t, bI_f, e10, isA30, isA31, isA33, isA40, isA42, isA43, rOkB0, rOkB1, rOkB, Ret_v, Ret_n, cmp_eq, cmp_lt, cmp_gt, nI_1, eq_self, if_true, if_false, reduceIte]
    rw [o_word, if_pos h] at ho
    subst ho
    exact hQ.no (KZ_T hK) (show ¬ (1 : Int32) = 0 by decide)
  · simp only [x_L_word_0, x_L_word_2, x_L_word_3, x_L_word_4, x_L_word_5, x_L_word_6, x_L_word_9, x_L_word_10, x_L_word_11, x_L_word_16, x_L_word_17, x_L_word_18, x_L_word_19, h8, h9, in0, bI_0, bI_t, bI_f, e10, isA30, isA31, isA33, isA40, isA42, isA43, rOkB0, rOkB1, rOkB, Ret_v, Ret_n, cmp_eq, cmp_lt, cmp_gt, nI_1, eq_self, if_true, if_false, reduceIte]
    rw [o_word, if_neg (by first | (intro q; rw [h] at q; cases q) | (intro q; omega) | exact h)] at ho
    subst ho
    exact hQ.ok rfl kF_rfl (KZ_T hK)
theorem m_word {o : Oc} (ho : o = o_word w k z) (hM : MZ I J R S z) (hI : BkI T z.1) (hT : T + 150 < 2147483647) (hQ : Mi I J R S o Q) : Wp 219 0 [.ref 187, .long w, nov, .int k] [] I J R S Q := by
  refine c_M_word hM hI (fun h I' hf hm e => ?_) (fun h I' hf hm e => ?_)
  · rw [o_word, if_pos h] at ho
    subst ho
    exact hQ _ _ _ hf.1 hm e (fun q => absurd q (show ¬ (1 : Int32) = 0 by decide))
  · rw [o_word, if_neg (by first | (intro q; rw [h] at q; cases q) | (intro q; omega) | exact h)] at ho
    subst ho
    exact hQ _ _ _ hf.1 hm e (fun _ => rfl)
def o_listed (nm : Bool) (k : Int32) (z : Zs) : Oc := if k < 0 then (1, 0, z) else (0, ((if nm = true then prV (bN z.1) k 0 else prV (bW z.1) k 0)), z)
-- listed call 5 handlers [(12, 4, 2)]
theorem d_listed_12 : decode (sk_by 10) 12 = .ok (.astore 4, 2) := by decide +kernel
theorem w_listed {o : Oc} (ho : o = o_listed nm k z) (hK : KZ I J R S T z) (hT : T + 150 < 2147483647) (h8 : S.1 198 = 31) (h9 : S.2.1 198 = 1) (hQ : Wq I J R S T o Q) : Wp 10 0 [.ref 35, .int (bI nm), .int k, .ref 198, nov] [] I J R S Q := by
  have e35 : S.1 35 = 7 := hK.1.1
  have in0 : inb 0 1 = true := by decide
  simp only [x_L_listed_0, x_L_listed_1, x_L_listed_2, x_L_listed_3, x_L_listed_4, x_L_listed_5, x_L_listed_8, x_L_listed_9, x_L_listed_14, x_L_listed_15, x_L_listed_16, x_L_listed_17, e35, bI_0, bI_t, bI_f, e10, isA30, isA31, isA33, isA40, isA42, isA43, rOkB0, rOkB1, rOkB, Ret_v, Ret_n, cmp_eq, cmp_lt, cmp_gt, nI_1, eq_self, if_true, if_false, reduceIte]
  refine c_K_listed hK (fun h => ?_) (fun h => ?_)
  · rw [Ret_hw (e := 0) (hp := 12) (k := 4) (by decide) (by decide +kernel) d_listed_12 (pc2 := 14) rfl (by simp) rfl rfl]
    simp only [x_L_listed_0, x_L_listed_1, x_L_listed_2, x_L_listed_3, x_L_listed_4, x_L_listed_5, x_L_listed_8, x_L_listed_9, x_L_listed_14, x_L_listed_15, x_L_listed_16, x_L_listed_17, bI_0, bI_t, bI_f, e10, isA30, isA31, isA33, isA40, isA42, isA43, rOkB0, rOkB1, rOkB, Ret_v, Ret_n, cmp_eq, cmp_lt, cmp_gt, nI_1, eq_self, if_true, if_false, reduceIte]
    rw [o_listed, if_pos h] at ho
    subst ho
    exact hQ.no (KZ_T hK) (show ¬ (1 : Int32) = 0 by decide)
  · simp only [x_L_listed_0, x_L_listed_1, x_L_listed_2, x_L_listed_3, x_L_listed_4, x_L_listed_5, x_L_listed_8, x_L_listed_9, x_L_listed_14, x_L_listed_15, x_L_listed_16, x_L_listed_17, h8, h9, in0, bI_0, bI_t, bI_f, e10, isA30, isA31, isA33, isA40, isA42, isA43, rOkB0, rOkB1, rOkB, Ret_v, Ret_n, cmp_eq, cmp_lt, cmp_gt, nI_1, eq_self, if_true, if_false, reduceIte]
    rw [o_listed, if_neg (by first | (intro q; rw [h] at q; cases q) | (intro q; omega) | exact h)] at ho
    subst ho
    exact hQ.ok rfl kF_rfl (KZ_T hK)
theorem m_listed {o : Oc} (ho : o = o_listed nm k z) (hM : MZ I J R S z) (hI : BkI T z.1) (hT : T + 150 < 2147483647) (hQ : Ml I J R S o Q) : Wp 220 0 [.ref 187, .int (bI nm), .int k, nov] [] I J R S Q := by
  refine c_M_listed hM hI (fun h I' hf hm e => ?_) (fun h I' hf hm e => ?_)
  · rw [o_listed, if_pos h] at ho
    subst ho
    exact hQ _ _ _ hf.1 hm e (fun q => absurd q (show ¬ (1 : Int32) = 0 by decide))
  · rw [o_listed, if_neg (by first | (intro q; rw [h] at q; cases q) | (intro q; omega) | exact h)] at ho
    subst ho
    exact hQ _ _ _ hf.1 hm e (fun _ => rfl)
def o_pair (k v : Int32) (z : Zs) : Oc := if (!decide (k < 0) && ok6 v 2) = false then (1, 0, z) else (0, (prV (bP z.1) k (ix v)), z)
-- pair call 5 handlers [(12, 4, 2)]
theorem d_pair_12 : decode (sk_by 11) 12 = .ok (.astore 4, 2) := by decide +kernel
theorem w_pair {o : Oc} (ho : o = o_pair k v z) (hK : KZ I J R S T z) (hT : T + 150 < 2147483647) (h8 : S.1 198 = 31) (h9 : S.2.1 198 = 1) (hQ : Wq I J R S T o Q) : Wp 11 0 [.ref 35, .int k, .int v, .ref 198, nov] [] I J R S Q := by
  have e35 : S.1 35 = 7 := hK.1.1
  have in0 : inb 0 1 = true := by decide
  simp only [x_L_pair_0, x_L_pair_1, x_L_pair_2, x_L_pair_3, x_L_pair_4, x_L_pair_5, x_L_pair_8, x_L_pair_9, x_L_pair_14, x_L_pair_15, x_L_pair_16, x_L_pair_17, e35, bI_0, bI_t, bI_f, e10, isA30, isA31, isA33, isA40, isA42, isA43, rOkB0, rOkB1, rOkB, Ret_v, Ret_n, cmp_eq, cmp_lt, cmp_gt, nI_1, eq_self, if_true, if_false, reduceIte]
  refine c_K_pair hK (fun h => ?_) (fun h => ?_)
  · rw [Ret_hw (e := 0) (hp := 12) (k := 4) (by decide) (by decide +kernel) d_pair_12 (pc2 := 14) rfl (by simp) rfl rfl]
    simp only [x_L_pair_0, x_L_pair_1, x_L_pair_2, x_L_pair_3, x_L_pair_4, x_L_pair_5, x_L_pair_8, x_L_pair_9, x_L_pair_14, x_L_pair_15, x_L_pair_16, x_L_pair_17, bI_0, bI_t, bI_f, e10, isA30, isA31, isA33, isA40, isA42, isA43, rOkB0, rOkB1, rOkB, Ret_v, Ret_n, cmp_eq, cmp_lt, cmp_gt, nI_1, eq_self, if_true, if_false, reduceIte]
    rw [o_pair, if_pos h] at ho
    subst ho
    exact hQ.no (KZ_T hK) (show ¬ (1 : Int32) = 0 by decide)
  · simp only [x_L_pair_0, x_L_pair_1, x_L_pair_2, x_L_pair_3, x_L_pair_4, x_L_pair_5, x_L_pair_8, x_L_pair_9, x_L_pair_14, x_L_pair_15, x_L_pair_16, x_L_pair_17, h8, h9, in0, bI_0, bI_t, bI_f, e10, isA30, isA31, isA33, isA40, isA42, isA43, rOkB0, rOkB1, rOkB, Ret_v, Ret_n, cmp_eq, cmp_lt, cmp_gt, nI_1, eq_self, if_true, if_false, reduceIte]
    rw [o_pair, if_neg (by first | (intro q; rw [h] at q; cases q) | (intro q; omega) | exact h)] at ho
    subst ho
    exact hQ.ok rfl kF_rfl (KZ_T hK)
theorem m_pair {o : Oc} (ho : o = o_pair k v z) (hM : MZ I J R S z) (hI : BkI T z.1) (hT : T + 150 < 2147483647) (hQ : Ml I J R S o Q) : Wp 222 0 [.ref 187, .int k, .int v] [] I J R S Q := by
  refine c_M_pair hM hI (fun h I' hf hm e => ?_) (fun h I' hf hm e => ?_)
  · rw [o_pair, if_pos h] at ho
    subst ho
    exact hQ _ _ _ hf.1 hm e (fun q => absurd q (show ¬ (1 : Int32) = 0 by decide))
  · rw [o_pair, if_neg (by first | (intro q; rw [h] at q; cases q) | (intro q; omega) | exact h)] at ho
    subst ho
    exact hQ _ _ _ hf.1 hm e (fun _ => rfl)
def o_logged (k v : Int32) (z : Zs) : Oc := if (!decide (k < 0) && ok6 v 2) = false then (1, 0, z) else (0, (prV (bL z.1) (nI (bL z.1).1 - 1 - k) (ix v)), z)
-- logged call 5 handlers [(12, 4, 2)]
theorem d_logged_12 : decode (sk_by 12) 12 = .ok (.astore 4, 2) := by decide +kernel
theorem w_logged {o : Oc} (ho : o = o_logged k v z) (hK : KZ I J R S T z) (hT : T + 150 < 2147483647) (h8 : S.1 198 = 31) (h9 : S.2.1 198 = 1) (hQ : Wq I J R S T o Q) : Wp 12 0 [.ref 35, .int k, .int v, .ref 198, nov] [] I J R S Q := by
  have e35 : S.1 35 = 7 := hK.1.1
  have in0 : inb 0 1 = true := by decide
  simp only [x_L_logged_0, x_L_logged_1, x_L_logged_2, x_L_logged_3, x_L_logged_4, x_L_logged_5, x_L_logged_8, x_L_logged_9, x_L_logged_14, x_L_logged_15, x_L_logged_16, x_L_logged_17, e35, bI_0, bI_t, bI_f, e10, isA30, isA31, isA33, isA40, isA42, isA43, rOkB0, rOkB1, rOkB, Ret_v, Ret_n, cmp_eq, cmp_lt, cmp_gt, nI_1, eq_self, if_true, if_false, reduceIte]
  refine c_K_logged hK (fun h => ?_) (fun h => ?_)
  · rw [Ret_hw (e := 0) (hp := 12) (k := 4) (by decide) (by decide +kernel) d_logged_12 (pc2 := 14) rfl (by simp) rfl rfl]
    simp only [x_L_logged_0, x_L_logged_1, x_L_logged_2, x_L_logged_3, x_L_logged_4, x_L_logged_5, x_L_logged_8, x_L_logged_9, x_L_logged_14, x_L_logged_15, x_L_logged_16, x_L_logged_17, bI_0, bI_t, bI_f, e10, isA30, isA31, isA33, isA40, isA42, isA43, rOkB0, rOkB1, rOkB, Ret_v, Ret_n, cmp_eq, cmp_lt, cmp_gt, nI_1, eq_self, if_true, if_false, reduceIte]
    rw [o_logged, if_pos h] at ho
    subst ho
    exact hQ.no (KZ_T hK) (show ¬ (1 : Int32) = 0 by decide)
  · simp only [x_L_logged_0, x_L_logged_1, x_L_logged_2, x_L_logged_3, x_L_logged_4, x_L_logged_5, x_L_logged_8, x_L_logged_9, x_L_logged_14, x_L_logged_15, x_L_logged_16, x_L_logged_17, h8, h9, in0, bI_0, bI_t, bI_f, e10, isA30, isA31, isA33, isA40, isA42, isA43, rOkB0, rOkB1, rOkB, Ret_v, Ret_n, cmp_eq, cmp_lt, cmp_gt, nI_1, eq_self, if_true, if_false, reduceIte]
    rw [o_logged, if_neg (by first | (intro q; rw [h] at q; cases q) | (intro q; omega) | exact h)] at ho
    subst ho
    exact hQ.ok rfl kF_rfl (KZ_T hK)
theorem m_logged {o : Oc} (ho : o = o_logged k v z) (hM : MZ I J R S z) (hI : BkI T z.1) (hT : T + 150 < 2147483647) (hQ : Ml I J R S o Q) : Wp 224 0 [.ref 187, .int k, .int v] [] I J R S Q := by
  refine c_M_logged hM hI (fun h I' hf hm e => ?_) (fun h I' hf hm e => ?_)
  · rw [o_logged, if_pos h] at ho
    subst ho
    exact hQ _ _ _ hf.1 hm e (fun q => absurd q (show ¬ (1 : Int32) = 0 by decide))
  · rw [o_logged, if_neg (by first | (intro q; rw [h] at q; cases q) | (intro q; omega) | exact h)] at ho
    subst ho
    exact hQ _ _ _ hf.1 hm e (fun _ => rfl)
def o_key (k v : Int32) (z : Zs) : Oc := if (okLet k && ok6 v 4) = false then (1, 0, z) else (0, (kyV z.1 (ix k) (ix v)).toInt64, z)
-- key call 5 handlers [(13, 4, 2)]
theorem d_key_13 : decode (sk_by 13) 13 = .ok (.astore 4, 2) := by decide +kernel
theorem w_key {o : Oc} (ho : o = o_key k v z) (hK : KZ I J R S T z) (hT : T + 150 < 2147483647) (h8 : S.1 198 = 31) (h9 : S.2.1 198 = 1) (hQ : Wq I J R S T o Q) : Wp 13 0 [.ref 35, .int k, .int v, .ref 198, nov] [] I J R S Q := by
  have e35 : S.1 35 = 7 := hK.1.1
  have in0 : inb 0 1 = true := by decide
  simp only [x_L_key_0, x_L_key_1, x_L_key_2, x_L_key_3, x_L_key_4, x_L_key_5, x_L_key_8, x_L_key_9, x_L_key_10, x_L_key_15, x_L_key_16, x_L_key_17, x_L_key_18, e35, bI_0, bI_t, bI_f, e10, isA30, isA31, isA33, isA40, isA42, isA43, rOkB0, rOkB1, rOkB, Ret_v, Ret_n, cmp_eq, cmp_lt, cmp_gt, nI_1, eq_self, if_true, if_false, reduceIte]
  refine c_K_key hK (fun h => ?_) (fun h => ?_)
  · rw [Ret_hw (e := 0) (hp := 13) (k := 4) (by decide) (by decide +kernel) d_key_13 (pc2 := 15) rfl (by simp) rfl rfl]
    simp only [x_L_key_0, x_L_key_1, x_L_key_2, x_L_key_3, x_L_key_4, x_L_key_5, x_L_key_8, x_L_key_9, x_L_key_10, x_L_key_15, x_L_key_16, x_L_key_17, x_L_key_18, bI_0, bI_t, bI_f, e10, isA30, isA31, isA33, isA40, isA42, isA43, rOkB0, rOkB1, rOkB, Ret_v, Ret_n, cmp_eq, cmp_lt, cmp_gt, nI_1, eq_self, if_true, if_false, reduceIte]
    rw [o_key, if_pos h] at ho
    subst ho
    exact hQ.no (KZ_T hK) (show ¬ (1 : Int32) = 0 by decide)
  · simp only [x_L_key_0, x_L_key_1, x_L_key_2, x_L_key_3, x_L_key_4, x_L_key_5, x_L_key_8, x_L_key_9, x_L_key_10, x_L_key_15, x_L_key_16, x_L_key_17, x_L_key_18, h8, h9, in0, bI_0, bI_t, bI_f, e10, isA30, isA31, isA33, isA40, isA42, isA43, rOkB0, rOkB1, rOkB, Ret_v, Ret_n, cmp_eq, cmp_lt, cmp_gt, nI_1, eq_self, if_true, if_false, reduceIte]
    rw [o_key, if_neg (by first | (intro q; rw [h] at q; cases q) | (intro q; omega) | exact h)] at ho
    subst ho
    exact hQ.ok rfl kF_rfl (KZ_T hK)
theorem m_key {o : Oc} (ho : o = o_key k v z) (hM : MZ I J R S z) (hI : BkI T z.1) (hT : T + 150 < 2147483647) (hQ : Mi I J R S o Q) : Wp 226 0 [.ref 187, .int k, .int v] [] I J R S Q := by
  refine c_M_key hM (fun h I' hf hm e => ?_) (fun h I' hf hm e => ?_)
  · rw [o_key, if_pos h] at ho
    subst ho
    exact hQ _ _ _ hf.1 hm e (fun q => absurd q (show ¬ (1 : Int32) = 0 by decide))
  · rw [o_key, if_neg (by first | (intro q; rw [h] at q; cases q) | (intro q; omega) | exact h)] at ho
    subst ho
    exact hQ _ _ _ hf.1 hm e (fun _ => rfl)
def o_whole (k : Int32) (z : Zs) : Oc := if ok6 k 11 = false then (1, 0, z) else (0, (whV z.1 z.2.2.2.2 (ix k)).toInt64, z)
-- whole call 4 handlers [(12, 3, 1)]
theorem d_whole_12 : decode (sk_by 14) 12 = .ok (.astore_n 3, 1) := by decide +kernel
theorem w_whole {o : Oc} (ho : o = o_whole k z) (hK : KZ I J R S T z) (hT : T + 150 < 2147483647) (h8 : S.1 198 = 31) (h9 : S.2.1 198 = 1) (hQ : Wq I J R S T o Q) : Wp 14 0 [.ref 35, .int k, .ref 198, nov] [] I J R S Q := by
  have e35 : S.1 35 = 7 := hK.1.1
  have in0 : inb 0 1 = true := by decide
  simp only [x_L_whole_0, x_L_whole_1, x_L_whole_2, x_L_whole_3, x_L_whole_4, x_L_whole_7, x_L_whole_8, x_L_whole_9, x_L_whole_13, x_L_whole_14, x_L_whole_15, x_L_whole_16, e35, bI_0, bI_t, bI_f, e10, isA30, isA31, isA33, isA40, isA42, isA43, rOkB0, rOkB1, rOkB, Ret_v, Ret_n, cmp_eq, cmp_lt, cmp_gt, nI_1, eq_self, if_true, if_false, reduceIte]
  refine c_K_whole hK (fun h => ?_) (fun h => ?_)
  · rw [Ret_hn (e := 0) (hp := 12) (k := 3) (by decide) (by decide +kernel) d_whole_12 (pc2 := 13) rfl (by simp) rfl rfl]
    simp only [x_L_whole_0, x_L_whole_1, x_L_whole_2, x_L_whole_3, x_L_whole_4, x_L_whole_7, x_L_whole_8, x_L_whole_9, x_L_whole_13, x_L_whole_14, x_L_whole_15, x_L_whole_16, bI_0, bI_t, bI_f, e10, isA30, isA31, isA33, isA40, isA42, isA43, rOkB0, rOkB1, rOkB, Ret_v, Ret_n, cmp_eq, cmp_lt, cmp_gt, nI_1, eq_self, if_true, if_false, reduceIte]
    rw [o_whole, if_pos h] at ho
    subst ho
    exact hQ.no (KZ_T hK) (show ¬ (1 : Int32) = 0 by decide)
  · simp only [x_L_whole_0, x_L_whole_1, x_L_whole_2, x_L_whole_3, x_L_whole_4, x_L_whole_7, x_L_whole_8, x_L_whole_9, x_L_whole_13, x_L_whole_14, x_L_whole_15, x_L_whole_16, h8, h9, in0, bI_0, bI_t, bI_f, e10, isA30, isA31, isA33, isA40, isA42, isA43, rOkB0, rOkB1, rOkB, Ret_v, Ret_n, cmp_eq, cmp_lt, cmp_gt, nI_1, eq_self, if_true, if_false, reduceIte]
    rw [o_whole, if_neg (by first | (intro q; rw [h] at q; cases q) | (intro q; omega) | exact h)] at ho
    subst ho
    exact hQ.ok rfl kF_rfl (KZ_T hK)
theorem m_whole {o : Oc} (ho : o = o_whole k z) (hM : MZ I J R S z) (hI : BkI T z.1) (hT : T + 150 < 2147483647) (hQ : Mi I J R S o Q) : Wp 228 0 [.ref 187, .int k] [] I J R S Q := by
  refine c_M_whole hM hI (fun h I' hf hm e => ?_) (fun h I' hf hm e => ?_)
  · rw [o_whole, if_pos h] at ho
    subst ho
    exact hQ _ _ _ hf.1 hm e (fun q => absurd q (show ¬ (1 : Int32) = 0 by decide))
  · rw [o_whole, if_neg (by first | (intro q; rw [h] at q; cases q) | (intro q; omega) | exact h)] at ho
    subst ho
    exact hQ _ _ _ hf.1 hm e (fun _ => rfl)
def o_distance (t w : Int64) (z : Zs) : Oc := if (isW t && isW w) = false then (1, 0, z) else (0, (dsW z.1 (-1) t w).toInt64, z)
-- distance call 6 handlers [(14, 6, 2)]
theorem d_distance_14 : decode (sk_by 15) 14 = .ok (.astore 6, 2) := by decide +kernel
theorem w_distance {o : Oc} (ho : o = o_distance t w z) (hK : KZ I J R S T z) (hT : T + 150 < 2147483647) (h8 : S.1 198 = 31) (h9 : S.2.1 198 = 1) (hQ : Wq I J R S T o Q) : Wp 15 0 [.ref 35, .long t, nov, .long w, nov, .ref 198, nov] [] I J R S Q := by
  have e35 : S.1 35 = 7 := hK.1.1
  have in0 : inb 0 1 = true := by decide
  simp only [x_L_distance_0, x_L_distance_2, x_L_distance_3, x_L_distance_4, x_L_distance_5, x_L_distance_6, x_L_distance_9, x_L_distance_10, x_L_distance_11, x_L_distance_16, x_L_distance_17, x_L_distance_18, x_L_distance_19, e35, bI_0, bI_t, bI_f, e10, isA30, isA31, isA33, isA40, isA42, isA43, rOkB0, rOkB1, rOkB, Ret_v, Ret_n, cmp_eq, cmp_lt, cmp_gt, nI_1, eq_self, if_true, if_false, reduceIte]
  refine c_K_distance hK (fun h => ?_) (fun h I' hf hk => ?_)
  · rw [Ret_hw (e := 0) (hp := 14) (k := 6) (by decide) (by decide +kernel) d_distance_14 (pc2 := 16) rfl (by simp) rfl rfl]
    simp only [x_L_distance_0, x_L_distance_2, x_L_distance_3, x_L_distance_4, x_L_distance_5, x_L_distance_6, x_L_distance_9, x_L_distance_10, x_L_distance_11, x_L_distance_16, x_L_distance_17, x_L_distance_18, x_L_distance_19, bI_0, bI_t, bI_f, e10, isA30, isA31, isA33, isA40, isA42, isA43, rOkB0, rOkB1, rOkB, Ret_v, Ret_n, cmp_eq, cmp_lt, cmp_gt, nI_1, eq_self, if_true, if_false, reduceIte]
    rw [o_distance, if_pos h] at ho
    subst ho
    exact hQ.no (KZ_T hK) (show ¬ (1 : Int32) = 0 by decide)
  · simp only [x_L_distance_0, x_L_distance_2, x_L_distance_3, x_L_distance_4, x_L_distance_5, x_L_distance_6, x_L_distance_9, x_L_distance_10, x_L_distance_11, x_L_distance_16, x_L_distance_17, x_L_distance_18, x_L_distance_19, h8, h9, in0, bI_0, bI_t, bI_f, e10, isA30, isA31, isA33, isA40, isA42, isA43, rOkB0, rOkB1, rOkB, Ret_v, Ret_n, cmp_eq, cmp_lt, cmp_gt, nI_1, eq_self, if_true, if_false, reduceIte]
    rw [o_distance, if_neg (by first | (intro q; rw [h] at q; cases q) | (intro q; omega) | exact h)] at ho
    subst ho
    exact hQ.ok rfl hf (KZ_T hk)
theorem m_distance {o : Oc} (ho : o = o_distance t w z) (hM : MZ I J R S z) (hI : BkI T z.1) (hT : T + 150 < 2147483647) (hQ : Mi I J R S o Q) : Wp 229 0 [.ref 187, .long t, nov, .long w, nov] [] I J R S Q := by
  refine c_M_distance hM (fun h I' hf hm e => ?_) (fun h I' hf hm e => ?_)
  · rw [o_distance, if_pos h] at ho
    subst ho
    exact hQ _ _ _ hf.1 hm e (fun q => absurd q (show ¬ (1 : Int32) = 0 by decide))
  · rw [o_distance, if_neg (by first | (intro q; rw [h] at q; cases q) | (intro q; omega) | exact h)] at ho
    subst ho
    exact hQ _ _ _ hf.1 hm e (fun _ => rfl)
def o_caseOf (w : Int64) (z : Zs) : Oc := if isW w = false then (1, 0, z) else (0, (csF z.1 w).toInt64, z)
-- caseOf call 4 handlers [(12, 4, 2)]
theorem d_caseOf_12 : decode (sk_by 16) 12 = .ok (.astore 4, 2) := by decide +kernel
theorem w_caseOf {o : Oc} (ho : o = o_caseOf w z) (hK : KZ I J R S T z) (hT : T + 150 < 2147483647) (h8 : S.1 198 = 31) (h9 : S.2.1 198 = 1) (hQ : Wq I J R S T o Q) : Wp 16 0 [.ref 35, .long w, nov, .ref 198, nov] [] I J R S Q := by
  have e35 : S.1 35 = 7 := hK.1.1
  have in0 : inb 0 1 = true := by decide
  simp only [x_L_caseOf_0, x_L_caseOf_1, x_L_caseOf_2, x_L_caseOf_3, x_L_caseOf_4, x_L_caseOf_7, x_L_caseOf_8, x_L_caseOf_9, x_L_caseOf_14, x_L_caseOf_15, x_L_caseOf_16, x_L_caseOf_17, e35, bI_0, bI_t, bI_f, e10, isA30, isA31, isA33, isA40, isA42, isA43, rOkB0, rOkB1, rOkB, Ret_v, Ret_n, cmp_eq, cmp_lt, cmp_gt, nI_1, eq_self, if_true, if_false, reduceIte]
  refine c_K_caseOf hK (fun h => ?_) (fun h I' hf hk => ?_)
  · rw [Ret_hw (e := 0) (hp := 12) (k := 4) (by decide) (by decide +kernel) d_caseOf_12 (pc2 := 14) rfl (by simp) rfl rfl]
    simp only [x_L_caseOf_0, x_L_caseOf_1, x_L_caseOf_2, x_L_caseOf_3, x_L_caseOf_4, x_L_caseOf_7, x_L_caseOf_8, x_L_caseOf_9, x_L_caseOf_14, x_L_caseOf_15, x_L_caseOf_16, x_L_caseOf_17, bI_0, bI_t, bI_f, e10, isA30, isA31, isA33, isA40, isA42, isA43, rOkB0, rOkB1, rOkB, Ret_v, Ret_n, cmp_eq, cmp_lt, cmp_gt, nI_1, eq_self, if_true, if_false, reduceIte]
    rw [o_caseOf, if_pos h] at ho
    subst ho
    exact hQ.no (KZ_T hK) (show ¬ (1 : Int32) = 0 by decide)
  · simp only [x_L_caseOf_0, x_L_caseOf_1, x_L_caseOf_2, x_L_caseOf_3, x_L_caseOf_4, x_L_caseOf_7, x_L_caseOf_8, x_L_caseOf_9, x_L_caseOf_14, x_L_caseOf_15, x_L_caseOf_16, x_L_caseOf_17, h8, h9, in0, bI_0, bI_t, bI_f, e10, isA30, isA31, isA33, isA40, isA42, isA43, rOkB0, rOkB1, rOkB, Ret_v, Ret_n, cmp_eq, cmp_lt, cmp_gt, nI_1, eq_self, if_true, if_false, reduceIte]
    rw [o_caseOf, if_neg (by first | (intro q; rw [h] at q; cases q) | (intro q; omega) | exact h)] at ho
    subst ho
    exact hQ.ok rfl hf (KZ_T hk)
theorem m_caseOf {o : Oc} (ho : o = o_caseOf w z) (hM : MZ I J R S z) (hI : BkI T z.1) (hT : T + 150 < 2147483647) (hQ : Mi I J R S o Q) : Wp 230 0 [.ref 187, .long w, nov] [] I J R S Q := by
  refine c_M_caseOf hM hI (fun h I' hf hm e => ?_) (fun h I' J' hf hm e => ?_)
  · rw [o_caseOf, if_pos h] at ho
    subst ho
    exact hQ _ _ _ hf.1 hm e (fun q => absurd q (show ¬ (1 : Int32) = 0 by decide))
  · rw [o_caseOf, if_neg (by first | (intro q; rw [h] at q; cases q) | (intro q; omega) | exact h)] at ho
    subst ho
    exact hQ _ _ _ hf.1 hm e (fun _ => rfl)
def o_suggestion (w : Int64) (k : Int32) (z : Zs) : Oc := if (isW w && !decide (k < 0)) = false then (1, 0, z) else (0, (sug z.1 w k), z)
-- suggestion call 6 handlers [(13, 5, 2)]
theorem d_suggestion_13 : decode (sk_by 17) 13 = .ok (.astore 5, 2) := by decide +kernel
theorem w_suggestion {o : Oc} (ho : o = o_suggestion w k z) (hK : KZ I J R S T z) (hT : T + 150 < 2147483647) (h8 : S.1 198 = 31) (h9 : S.2.1 198 = 1) (hQ : Wq I J R S T o Q) : Wp 17 0 [.ref 35, .long w, nov, .int k, .ref 198, nov] [] I J R S Q := by
  have e35 : S.1 35 = 7 := hK.1.1
  have in0 : inb 0 1 = true := by decide
  simp only [x_L_suggestion_0, x_L_suggestion_2, x_L_suggestion_3, x_L_suggestion_4, x_L_suggestion_5, x_L_suggestion_6, x_L_suggestion_9, x_L_suggestion_10, x_L_suggestion_15, x_L_suggestion_16, x_L_suggestion_17, x_L_suggestion_18, e35, bI_0, bI_t, bI_f, e10, isA30, isA31, isA33, isA40, isA42, isA43, rOkB0, rOkB1, rOkB, Ret_v, Ret_n, cmp_eq, cmp_lt, cmp_gt, nI_1, eq_self, if_true, if_false, reduceIte]
  refine c_K_suggestion hK (fun h => ?_) (fun h I' hf hk => ?_)
  · rw [Ret_hw (e := 0) (hp := 13) (k := 5) (by decide) (by decide +kernel) d_suggestion_13 (pc2 := 15) rfl (by simp) rfl rfl]
    simp only [x_L_suggestion_0, x_L_suggestion_2, x_L_suggestion_3, x_L_suggestion_4, x_L_suggestion_5, x_L_suggestion_6, x_L_suggestion_9, x_L_suggestion_10, x_L_suggestion_15, x_L_suggestion_16, x_L_suggestion_17, x_L_suggestion_18, bI_0, bI_t, bI_f, e10, isA30, isA31, isA33, isA40, isA42, isA43, rOkB0, rOkB1, rOkB, Ret_v, Ret_n, cmp_eq, cmp_lt, cmp_gt, nI_1, eq_self, if_true, if_false, reduceIte]
    rw [o_suggestion, if_pos h] at ho
    subst ho
    exact hQ.no (KZ_T hK) (show ¬ (1 : Int32) = 0 by decide)
  · simp only [x_L_suggestion_0, x_L_suggestion_2, x_L_suggestion_3, x_L_suggestion_4, x_L_suggestion_5, x_L_suggestion_6, x_L_suggestion_9, x_L_suggestion_10, x_L_suggestion_15, x_L_suggestion_16, x_L_suggestion_17, x_L_suggestion_18, h8, h9, in0, bI_0, bI_t, bI_f, e10, isA30, isA31, isA33, isA40, isA42, isA43, rOkB0, rOkB1, rOkB, Ret_v, Ret_n, cmp_eq, cmp_lt, cmp_gt, nI_1, eq_self, if_true, if_false, reduceIte]
    rw [o_suggestion, if_neg (by first | (intro q; rw [h] at q; cases q) | (intro q; omega) | exact h)] at ho
    subst ho
    exact hQ.ok rfl hf (KZ_T hk)
theorem m_suggestion {o : Oc} (ho : o = o_suggestion w k z) (hM : MZ I J R S z) (hI : BkI T z.1) (hT : T + 150 < 2147483647) (hQ : Ml I J R S o Q) : Wp 231 0 [.ref 187, .long w, nov, .int k, nov, nov, nov] [] I J R S Q := by
  refine c_M_suggestion hM hI (fun h I' hf hm e => ?_) (fun h I' hf hm e => ?_)
  · rw [o_suggestion, if_pos h] at ho
    subst ho
    exact hQ _ _ _ hf.1 hm e (fun q => absurd q (show ¬ (1 : Int32) = 0 by decide))
  · rw [o_suggestion, if_neg (by first | (intro q; rw [h] at q; cases q) | (intro q; omega) | exact h)] at ho
    subst ho
    exact hQ _ _ _ hf.1 hm e (fun _ => rfl)
def o_reason (t w : Int64) (z : Zs) : Oc := if (isW t && isW w) = false then (1, 0, z) else (0, (rsn z.1 t w).toInt64, z)
-- reason call 6 handlers [(14, 6, 2)]
theorem d_reason_14 : decode (sk_by 18) 14 = .ok (.astore 6, 2) := by decide +kernel
theorem w_reason {o : Oc} (ho : o = o_reason t w z) (hK : KZ I J R S T z) (hT : T + 150 < 2147483647) (h8 : S.1 198 = 31) (h9 : S.2.1 198 = 1) (hQ : Wq I J R S T o Q) : Wp 18 0 [.ref 35, .long t, nov, .long w, nov, .ref 198, nov] [] I J R S Q := by
  have e35 : S.1 35 = 7 := hK.1.1
  have in0 : inb 0 1 = true := by decide
  simp only [x_L_reason_0, x_L_reason_2, x_L_reason_3, x_L_reason_4, x_L_reason_5, x_L_reason_6, x_L_reason_9, x_L_reason_10, x_L_reason_11, x_L_reason_16, x_L_reason_17, x_L_reason_18, x_L_reason_19, e35, bI_0, bI_t, bI_f, e10, isA30, isA31, isA33, isA40, isA42, isA43, rOkB0, rOkB1, rOkB, Ret_v, Ret_n, cmp_eq, cmp_lt, cmp_gt, nI_1, eq_self, if_true, if_false, reduceIte]
  refine c_K_reason hK (fun h => ?_) (fun h I' hf hk => ?_)
  · rw [Ret_hw (e := 0) (hp := 14) (k := 6) (by decide) (by decide +kernel) d_reason_14 (pc2 := 16) rfl (by simp) rfl rfl]
    simp only [x_L_reason_0, x_L_reason_2, x_L_reason_3, x_L_reason_4, x_L_reason_5, x_L_reason_6, x_L_reason_9, x_L_reason_10, x_L_reason_11, x_L_reason_16, x_L_reason_17, x_L_reason_18, x_L_reason_19, bI_0, bI_t, bI_f, e10, isA30, isA31, isA33, isA40, isA42, isA43, rOkB0, rOkB1, rOkB, Ret_v, Ret_n, cmp_eq, cmp_lt, cmp_gt, nI_1, eq_self, if_true, if_false, reduceIte]
    rw [o_reason, if_pos h] at ho
    subst ho
    exact hQ.no (KZ_T hK) (show ¬ (1 : Int32) = 0 by decide)
  · simp only [x_L_reason_0, x_L_reason_2, x_L_reason_3, x_L_reason_4, x_L_reason_5, x_L_reason_6, x_L_reason_9, x_L_reason_10, x_L_reason_11, x_L_reason_16, x_L_reason_17, x_L_reason_18, x_L_reason_19, h8, h9, in0, bI_0, bI_t, bI_f, e10, isA30, isA31, isA33, isA40, isA42, isA43, rOkB0, rOkB1, rOkB, Ret_v, Ret_n, cmp_eq, cmp_lt, cmp_gt, nI_1, eq_self, if_true, if_false, reduceIte]
    rw [o_reason, if_neg (by first | (intro q; rw [h] at q; cases q) | (intro q; omega) | exact h)] at ho
    subst ho
    exact hQ.ok rfl hf (KZ_T hk)
theorem m_reason {o : Oc} (ho : o = o_reason t w z) (hM : MZ I J R S z) (hI : BkI T z.1) (hT : T + 150 < 2147483647) (hQ : Mi I J R S o Q) : Wp 232 0 [.ref 187, .long t, nov, .long w, nov] [] I J R S Q := by
  refine c_M_reason hM hI (fun h I' hf hm e => ?_) (fun h I' hf hm e => ?_)
  · rw [o_reason, if_pos h] at ho
    subst ho
    exact hQ _ _ _ hf.1 hm e (fun q => absurd q (show ¬ (1 : Int32) = 0 by decide))
  · rw [o_reason, if_neg (by first | (intro q; rw [h] at q; cases q) | (intro q; omega) | exact h)] at ho
    subst ho
    exact hQ _ _ _ hf.1 hm e (fun _ => rfl)
def o_risk (w : Int64) (z : Zs) : Oc := if isW w = false then (1, 0, z) else (0, (nI (rskN z.1 w)).toInt64, z)
-- risk call 4 handlers [(12, 4, 2)]
theorem d_risk_12 : decode (sk_by 19) 12 = .ok (.astore 4, 2) := by decide +kernel
theorem w_risk {o : Oc} (ho : o = o_risk w z) (hK : KZ I J R S T z) (hT : T + 150 < 2147483647) (h8 : S.1 198 = 31) (h9 : S.2.1 198 = 1) (hQ : Wq I J R S T o Q) : Wp 19 0 [.ref 35, .long w, nov, .ref 198, nov] [] I J R S Q := by
  have e35 : S.1 35 = 7 := hK.1.1
  have in0 : inb 0 1 = true := by decide
  simp only [x_L_risk_0, x_L_risk_1, x_L_risk_2, x_L_risk_3, x_L_risk_4, x_L_risk_7, x_L_risk_8, x_L_risk_9, x_L_risk_14, x_L_risk_15, x_L_risk_16, x_L_risk_17, e35, bI_0, bI_t, bI_f, e10, isA30, isA31, isA33, isA40, isA42, isA43, rOkB0, rOkB1, rOkB, Ret_v, Ret_n, cmp_eq, cmp_lt, cmp_gt, nI_1, eq_self, if_true, if_false, reduceIte]
  refine c_K_risk hK (fun h => ?_) (fun h I' hf hk => ?_)
  · rw [Ret_hw (e := 0) (hp := 12) (k := 4) (by decide) (by decide +kernel) d_risk_12 (pc2 := 14) rfl (by simp) rfl rfl]
    simp only [x_L_risk_0, x_L_risk_1, x_L_risk_2, x_L_risk_3, x_L_risk_4, x_L_risk_7, x_L_risk_8, x_L_risk_9, x_L_risk_14, x_L_risk_15, x_L_risk_16, x_L_risk_17, bI_0, bI_t, bI_f, e10, isA30, isA31, isA33, isA40, isA42, isA43, rOkB0, rOkB1, rOkB, Ret_v, Ret_n, cmp_eq, cmp_lt, cmp_gt, nI_1, eq_self, if_true, if_false, reduceIte]
    rw [o_risk, if_pos h] at ho
    subst ho
    exact hQ.no (KZ_T hK) (show ¬ (1 : Int32) = 0 by decide)
  · simp only [x_L_risk_0, x_L_risk_1, x_L_risk_2, x_L_risk_3, x_L_risk_4, x_L_risk_7, x_L_risk_8, x_L_risk_9, x_L_risk_14, x_L_risk_15, x_L_risk_16, x_L_risk_17, h8, h9, in0, bI_0, bI_t, bI_f, e10, isA30, isA31, isA33, isA40, isA42, isA43, rOkB0, rOkB1, rOkB, Ret_v, Ret_n, cmp_eq, cmp_lt, cmp_gt, nI_1, eq_self, if_true, if_false, reduceIte]
    rw [o_risk, if_neg (by first | (intro q; rw [h] at q; cases q) | (intro q; omega) | exact h)] at ho
    subst ho
    exact hQ.ok rfl hf (KZ_T hk)
theorem m_risk {o : Oc} (ho : o = o_risk w z) (hM : MZ I J R S z) (hI : BkI T z.1) (hT : T + 150 < 2147483647) (hQ : Mi I J R S o Q) : Wp 234 0 [.ref 187, .long w, nov] [] I J R S Q := by
  refine c_M_risk hM hI (fun h I' hf hm e => ?_) (fun h I' hf hm e => ?_)
  · rw [o_risk, if_pos h] at ho
    subst ho
    exact hQ _ _ _ hf.1 hm e (fun q => absurd q (show ¬ (1 : Int32) = 0 by decide))
  · rw [o_risk, if_neg (by first | (intro q; rw [h] at q; cases q) | (intro q; omega) | exact h)] at ho
    subst ho
    exact hQ _ _ _ hf.1 hm e (fun _ => rfl)
def o_bestDropping (t w : Int64) (z : Zs) : Oc := if (isW t && isW w) = false then (1, 0, z) else (0, (bstK z.1 t w).toInt64, z)
-- bestDropping call 6 handlers [(14, 6, 2)]
theorem d_bestDropping_14 : decode (sk_by 20) 14 = .ok (.astore 6, 2) := by decide +kernel
theorem w_bestDropping {o : Oc} (ho : o = o_bestDropping t w z) (hK : KZ I J R S T z) (hT : T + 150 < 2147483647) (h8 : S.1 198 = 31) (h9 : S.2.1 198 = 1) (hQ : Wq I J R S T o Q) : Wp 20 0 [.ref 35, .long t, nov, .long w, nov, .ref 198, nov] [] I J R S Q := by
  have e35 : S.1 35 = 7 := hK.1.1
  have in0 : inb 0 1 = true := by decide
  simp only [x_L_bestDropping_0, x_L_bestDropping_2, x_L_bestDropping_3, x_L_bestDropping_4, x_L_bestDropping_5, x_L_bestDropping_6, x_L_bestDropping_9, x_L_bestDropping_10, x_L_bestDropping_11, x_L_bestDropping_16, x_L_bestDropping_17, x_L_bestDropping_18, x_L_bestDropping_19, e35, bI_0, bI_t, bI_f, e10, isA30, isA31, isA33, isA40, isA42, isA43, rOkB0, rOkB1, rOkB, Ret_v, Ret_n, cmp_eq, cmp_lt, cmp_gt, nI_1, eq_self, if_true, if_false, reduceIte]
  refine c_K_bestDropping hK (fun h => ?_) (fun h I' hf hk => ?_)
  · rw [Ret_hw (e := 0) (hp := 14) (k := 6) (by decide) (by decide +kernel) d_bestDropping_14 (pc2 := 16) rfl (by simp) rfl rfl]
    simp only [x_L_bestDropping_0, x_L_bestDropping_2, x_L_bestDropping_3, x_L_bestDropping_4, x_L_bestDropping_5, x_L_bestDropping_6, x_L_bestDropping_9, x_L_bestDropping_10, x_L_bestDropping_11, x_L_bestDropping_16, x_L_bestDropping_17, x_L_bestDropping_18, x_L_bestDropping_19, bI_0, bI_t, bI_f, e10, isA30, isA31, isA33, isA40, isA42, isA43, rOkB0, rOkB1, rOkB, Ret_v, Ret_n, cmp_eq, cmp_lt, cmp_gt, nI_1, eq_self, if_true, if_false, reduceIte]
    rw [o_bestDropping, if_pos h] at ho
    subst ho
    exact hQ.no (KZ_T hK) (show ¬ (1 : Int32) = 0 by decide)
  · simp only [x_L_bestDropping_0, x_L_bestDropping_2, x_L_bestDropping_3, x_L_bestDropping_4, x_L_bestDropping_5, x_L_bestDropping_6, x_L_bestDropping_9, x_L_bestDropping_10, x_L_bestDropping_11, x_L_bestDropping_16, x_L_bestDropping_17, x_L_bestDropping_18, x_L_bestDropping_19, h8, h9, in0, bI_0, bI_t, bI_f, e10, isA30, isA31, isA33, isA40, isA42, isA43, rOkB0, rOkB1, rOkB, Ret_v, Ret_n, cmp_eq, cmp_lt, cmp_gt, nI_1, eq_self, if_true, if_false, reduceIte]
    rw [o_bestDropping, if_neg (by first | (intro q; rw [h] at q; cases q) | (intro q; omega) | exact h)] at ho
    subst ho
    exact hQ.ok rfl hf (KZ_T hk)
theorem m_bestDropping {o : Oc} (ho : o = o_bestDropping t w z) (hM : MZ I J R S z) (hI : BkI T z.1) (hT : T + 150 < 2147483647) (hQ : Mi I J R S o Q) : Wp 236 0 [.ref 187, .long t, nov, .long w, nov, nov, nov, nov, nov, nov, nov] [] I J R S Q := by
  refine c_M_bestDropping hM hI (fun h I' hf hm e => ?_) (fun h I' hf hm e => ?_)
  · rw [o_bestDropping, if_pos h] at ho
    subst ho
    exact hQ _ _ _ hf.1 hm e (fun q => absurd q (show ¬ (1 : Int32) = 0 by decide))
  · rw [o_bestDropping, if_neg (by first | (intro q; rw [h] at q; cases q) | (intro q; omega) | exact h)] at ho
    subst ho
    exact hQ _ _ _ hf.1 hm e (fun _ => rfl)
def o_type (k : Int32) (z : Zs) : Oc := if (!decide (k < 0) && !decide (127 < k)) = false then (1, 0, z) else if ¬ z.2.2.2.2 < 150 then (2, 0, z) else (0, (nI (z.2.2.2.2 + 1)).toInt64, (z.1, z.2.1, z.2.2.1, (fun i => if i = z.2.2.2.2 then k else z.2.2.2.1 i), z.2.2.2.2 + 1))
-- type call 4 handlers [(12, 3, 1), (15, 3, 1)]
theorem d_type_12 : decode (sk_by 21) 12 = .ok (.astore_n 3, 1) := by decide +kernel
theorem d_type_15 : decode (sk_by 21) 15 = .ok (.astore_n 3, 1) := by decide +kernel
theorem w_type {o : Oc} (ho : o = o_type k z) (hK : KZ I J R S T z) (hT : T + 150 < 2147483647) (h8 : S.1 198 = 31) (h9 : S.2.1 198 = 1) (hQ : Wq I J R S T o Q) : Wp 21 0 [.ref 35, .int k, .ref 198, nov] [] I J R S Q := by
  have e35 : S.1 35 = 7 := hK.1.1
  have in0 : inb 0 1 = true := by decide
  simp only [x_L_type_0, x_L_type_1, x_L_type_2, x_L_type_3, x_L_type_4, x_L_type_7, x_L_type_8, x_L_type_9, x_L_type_13, x_L_type_14, x_L_type_16, x_L_type_17, x_L_type_18, x_L_type_19, e35, bI_0, bI_t, bI_f, e10, isA30, isA31, isA33, isA40, isA42, isA43, rOkB0, rOkB1, rOkB, Ret_v, Ret_n, cmp_eq, cmp_lt, cmp_gt, nI_1, eq_self, if_true, if_false, reduceIte]
  refine c_K_type hK (fun h => ?_) (fun h h2 => ?_) (fun h h2 I' J' R' hf hk => ?_)
  · rw [Ret_hn (e := 0) (hp := 12) (k := 3) (by decide) (by decide +kernel) d_type_12 (pc2 := 13) rfl (by simp) rfl rfl]
    simp only [x_L_type_0, x_L_type_1, x_L_type_2, x_L_type_3, x_L_type_4, x_L_type_7, x_L_type_8, x_L_type_9, x_L_type_13, x_L_type_14, x_L_type_16, x_L_type_17, x_L_type_18, x_L_type_19, bI_0, bI_t, bI_f, e10, isA30, isA31, isA33, isA40, isA42, isA43, rOkB0, rOkB1, rOkB, Ret_v, Ret_n, cmp_eq, cmp_lt, cmp_gt, nI_1, eq_self, if_true, if_false, reduceIte]
    rw [o_type, if_pos h] at ho
    subst ho
    exact hQ.no (KZ_T hK) (show ¬ (1 : Int32) = 0 by decide)
  · rw [Ret_hn (e := 1) (hp := 15) (k := 3) (by decide) (by decide +kernel) d_type_15 (pc2 := 16) rfl (by simp) rfl rfl]
    simp only [x_L_type_0, x_L_type_1, x_L_type_2, x_L_type_3, x_L_type_4, x_L_type_7, x_L_type_8, x_L_type_9, x_L_type_13, x_L_type_14, x_L_type_16, x_L_type_17, x_L_type_18, x_L_type_19, bI_0, bI_t, bI_f, e10, isA30, isA31, isA33, isA40, isA42, isA43, rOkB0, rOkB1, rOkB, Ret_v, Ret_n, cmp_eq, cmp_lt, cmp_gt, nI_1, eq_self, if_true, if_false, reduceIte]
    rw [o_type, if_neg (by first | (intro q; rw [h] at q; cases q) | (intro q; omega) | exact h), if_pos h2] at ho
    subst ho
    exact hQ.no (KZ_T hK) (show ¬ (2 : Int32) = 0 by decide)
  · simp only [x_L_type_0, x_L_type_1, x_L_type_2, x_L_type_3, x_L_type_4, x_L_type_7, x_L_type_8, x_L_type_9, x_L_type_13, x_L_type_14, x_L_type_16, x_L_type_17, x_L_type_18, x_L_type_19, h8, h9, in0, bI_0, bI_t, bI_f, e10, isA30, isA31, isA33, isA40, isA42, isA43, rOkB0, rOkB1, rOkB, Ret_v, Ret_n, cmp_eq, cmp_lt, cmp_gt, nI_1, eq_self, if_true, if_false, reduceIte]
    rw [o_type, if_neg (by first | (intro q; rw [h] at q; cases q) | (intro q; omega) | exact h), if_neg (by first | (intro q; rw [h2] at q; cases q) | (intro q; omega))] at ho
    subst ho
    exact hQ.ok rfl hf (KZ_T hk)
theorem m_type {o : Oc} (ho : o = o_type k z) (hM : MZ I J R S z) (hI : BkI T z.1) (hT : T + 150 < 2147483647) (hQ : Mi I J R S o Q) : Wp 237 0 [.ref 187, .int k] [] I J R S Q := by
  refine c_M_type hM (fun h I' hf hm e => ?_) (fun h h2 I' hf hm e => ?_) (fun h h2 I' hf hm e => ?_)
  · rw [o_type, if_pos h] at ho
    subst ho
    exact hQ _ _ _ hf.1 hm e (fun q => absurd q (show ¬ (1 : Int32) = 0 by decide))
  · rw [o_type, if_neg (by first | (intro q; rw [h] at q; cases q) | (intro q; omega) | exact h), if_pos h2] at ho
    subst ho
    exact hQ _ _ _ hf.1 hm e (fun q => absurd q (show ¬ (2 : Int32) = 0 by decide))
  · rw [o_type, if_neg (by first | (intro q; rw [h] at q; cases q) | (intro q; omega) | exact h), if_neg (by first | (intro q; rw [h2] at q; cases q) | (intro q; omega))] at ho
    subst ho
    exact hQ _ _ _ hf.1 hm e (fun _ => rfl)
def o_undo  (z : Zs) : Oc := if z.2.1 = 0 then (1, 0, z) else (0, (nI (z.2.1 - 1)).toInt64, (z.2.2.1 (z.2.1 - 1), z.2.1 - 1, z.2.2.1, z.2.2.2.1, z.2.2.2.2))
-- undo call 3 handlers [(11, 2, 1)]
theorem d_undo_11 : decode (sk_by 22) 11 = .ok (.astore_n 2, 1) := by decide +kernel
theorem w_undo {o : Oc} (ho : o = o_undo z) (hK : KZ I J R S T z) (hT : T + 150 < 2147483647) (h8 : S.1 198 = 31) (h9 : S.2.1 198 = 1) (hQ : Wq I J R S T o Q) : Wp 22 0 [.ref 35, .ref 198, nov] [] I J R S Q := by
  have e35 : S.1 35 = 7 := hK.1.1
  have in0 : inb 0 1 = true := by decide
  simp only [x_L_undo_0, x_L_undo_1, x_L_undo_2, x_L_undo_3, x_L_undo_6, x_L_undo_7, x_L_undo_8, x_L_undo_12, x_L_undo_13, x_L_undo_14, x_L_undo_15, e35, bI_0, bI_t, bI_f, e10, isA30, isA31, isA33, isA40, isA42, isA43, rOkB0, rOkB1, rOkB, Ret_v, Ret_n, cmp_eq, cmp_lt, cmp_gt, nI_1, eq_self, if_true, if_false, reduceIte]
  refine c_K_undo hK (fun h => ?_) (fun h I' J' R' hf hk => ?_)
  · rw [Ret_hn (e := 1) (hp := 11) (k := 2) (by decide) (by decide +kernel) d_undo_11 (pc2 := 12) rfl (by simp) rfl rfl]
    simp only [x_L_undo_0, x_L_undo_1, x_L_undo_2, x_L_undo_3, x_L_undo_6, x_L_undo_7, x_L_undo_8, x_L_undo_12, x_L_undo_13, x_L_undo_14, x_L_undo_15, bI_0, bI_t, bI_f, e10, isA30, isA31, isA33, isA40, isA42, isA43, rOkB0, rOkB1, rOkB, Ret_v, Ret_n, cmp_eq, cmp_lt, cmp_gt, nI_1, eq_self, if_true, if_false, reduceIte]
    rw [o_undo, if_pos h] at ho
    subst ho
    exact hQ.no (KZ_T hK) (show ¬ (1 : Int32) = 0 by decide)
  · simp only [x_L_undo_0, x_L_undo_1, x_L_undo_2, x_L_undo_3, x_L_undo_6, x_L_undo_7, x_L_undo_8, x_L_undo_12, x_L_undo_13, x_L_undo_14, x_L_undo_15, h8, h9, in0, bI_0, bI_t, bI_f, e10, isA30, isA31, isA33, isA40, isA42, isA43, rOkB0, rOkB1, rOkB, Ret_v, Ret_n, cmp_eq, cmp_lt, cmp_gt, nI_1, eq_self, if_true, if_false, reduceIte]
    rw [o_undo, if_neg (by first | (intro q; rw [h] at q; cases q) | (intro q; omega) | exact h)] at ho
    subst ho
    exact hQ.ok rfl hf (KZ_T hk)
theorem m_undo {o : Oc} (ho : o = o_undo z) (hM : MZ I J R S z) (hI : BkI T z.1) (hT : T + 150 < 2147483647) (hQ : Mi I J R S o Q) : Wp 248 0 [.ref 187, nov] [] I J R S Q := by
  refine c_M_undo hM (fun h I' hf hm e => ?_) (fun h I' J' hf hm e => ?_)
  · rw [o_undo, if_pos h] at ho
    subst ho
    exact hQ _ _ _ hf.1 hm e (fun q => absurd q (show ¬ (1 : Int32) = 0 by decide))
  · rw [o_undo, if_neg (by first | (intro q; rw [h] at q; cases q) | (intro q; omega) | exact h)] at ho
    subst ho
    exact hQ _ _ _ hf.1 hm e (fun _ => rfl)
end LW
