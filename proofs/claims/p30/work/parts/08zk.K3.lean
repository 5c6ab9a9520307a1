/-! where all of the class lies, what it holds -/
def KxS (R : MR) (S : Sh) : Prop := S.1 35 = 7 ∧ R 35 0 = .ref 36 ∧ R 35 1 = .ref 40 ∧ R 35 2 = .ref 67 ∧ R 35 3 = .ref 75 ∧ R 35 4 = .ref 185
def KOk (I : MI) (J : MJ) (R : MR) (S : Sh) (T : Nat) (a : Bk) (n : Nat) (s : Nat → Bk) (x : Nat → Int32) (l : Nat) : Prop :=
  KxS R S ∧ Env R S I J 67 36 40 T a ∧ (∃ π, HsS R S 75 π ∧ HsD I J 75 π s n) ∧ ScS R S 185 ∧ ScD I 185 x l ∧ CmS R S I ∧ CnS S I ∧ ∀ i, i < n → BkI T (s i)
def kF (lo hi : Nat) (I : MI) (J : MJ) (R : MR) (I' : MI) (J' : MJ) (R' : MR) : Prop := fr lo hi I J I' J' ∧ ∀ p, (p < lo ∨ hi < p) → R' p = R p
section KC
variable {I I' : MI} {J J' : MJ} {R R' : MR} {S : Sh} {Q : SkQ} {T T' n l : Nat} {a a' : Bk} {s s' : Nat → Bk} {x x' : Nat → Int32} {w t : Int64} {c v k : Int32}
theorem kF_rfl {lo hi : Nat} : kF lo hi I J R I J R := ⟨fr_rfl, fun _ _ => by simp⟩
theorem kF_trans {lo hi : Nat} {I2 : MI} {J2 : MJ} {R2 : MR} (h1 : kF lo hi I J R I' J' R') (h2 : kF lo hi I' J' R' I2 J2 R2) : kF lo hi I J R I2 J2 R2 := ⟨fr_trans h1.1 h2.1 (by omega) (by omega), fun p hp => (h2.2 p hp).trans (h1.2 p hp)⟩
theorem kF_of {lo hi a b : Nat} (h : fr a b I J I' J') (l : lo ≤ a ∧ b ≤ hi) : kF lo hi I J R I' J' R := ⟨fr_mono h l, fun _ _ => by simp⟩
theorem CmS_lo (hC : CmS R S I) (hI : ∀ q, q ≤ 34 → I' q = I q) (hR : ∀ q, q ≤ 34 → R' q = R q) : CmS R' S I' := trivial
theorem CnS_lo (hC : CnS S I) (hI : ∀ q, q ≤ 34 → I' q = I q) : CnS S I' := by
  unfold CnS at hC ⊢
  rw [hI 0 (by omega), hI 1 (by omega)]
  exact hC
/-- the book (and what the speller writes down) has changed -/
theorem KOk_bk (h : KOk I J R S T a n s x l) (hf : fr 40 74 I J I' J') (hd : BkD I' J' 40 a') (hi : BkI T' a') (hT : T ≤ T') : KOk I' J' R S T' a' n s x l := by
  obtain ⟨h1, ⟨e1, e2, e3, e4, e5, e6, e7, e8⟩, ⟨π, p1, p2⟩, h4, h5, h6, h7, h8⟩ := h
  refine ⟨h1, ⟨e1, e2, KbD_fr e3 hf (by omega), e4, hd, hi, e7, e8⟩, ⟨π, p1, HsD_fr p1 p2 hf (by omega)⟩, h4, ⟨by rw [(hf 185 (by omega)).1]; exact h5.1, h5.2.1, fun i hi => by rw [(hf 186 (by omega)).1]; exact h5.2.2 i hi⟩, CmS_lo h6 (fun q hq => (hf q (by omega)).1) (fun _ _ => by simp), CnS_lo h7 (fun q hq => (hf q (by omega)).1), fun i hi => BkI_mono (h8 i hi) hT⟩
/-- only what the speller writes down -/
theorem KOk_sp (h : KOk I J R S T a n s x l) (hf : fr (67 + 1) (67 + 7) I J I' J) : KOk I' J R S T a n s x l :=
  KOk_bk h (fr_mono hf (by omega)) (BkD_fr h.2.1.2.2.2.2.1 hf (by omega)) h.2.1.2.2.2.2.2.1 (Nat.le_refl _)
theorem svN_le (h : n ≤ 4) : svN n ≤ 4 := by unfold svN; split <;> omega
theorem svS_I (h : ∀ i, i < n → BkI T (s i)) (ha : BkI T a) : ∀ i, i < svN n → BkI T (svS s n a i) := by
  intro i hi
  unfold svN at hi
  unfold svS
  by_cases q : n = 4
  · rw [if_pos q] at hi
    rw [if_pos q]
    by_cases q2 : i = 3
    · rw [if_pos q2]; exact ha
    · rw [if_neg q2]; exact h _ (by omega)
  · rw [if_neg q] at hi
    rw [if_neg q]
    by_cases q2 : i = n
    · rw [if_pos q2]; exact ha
    · rw [if_neg q2]; exact h _ (by omega)
theorem k_save (h : KOk I J R S T a n s x l) (hQ : ∀ I' J' R', kF 35 186 I J R I' J' R' → KOk I' J' R' S T a (svN n) (svS s n a) x l → Q 0 none I' J' R' S) : Wp 144 0 [.ref 75, .ref 40, nov] [] I J R S Q := by
  obtain ⟨h1, ⟨e1, e2, e3, e4, e5, e6, e7, e8⟩, ⟨π, p1, p2⟩, h4, h5, h6, h7, h8⟩ := h
  refine c_H_save p1 p2 e4 e5 (BkF_of e6) (by omega) (fun I' J' R' π' hf hR hS hD => ?_)
  have rr : ∀ q, ¬ q = 76 → R' q = R q := hR
  refine hQ I' J' R' ⟨fr_mono hf (by omega), fun p hp => rr p (by omega)⟩ ⟨?_, ⟨?_, ?_, KbD_fr e3 hf (by omega), BkS_R e4 (fun q h1 h2 => rr q (by omega)), BkD_fr e5 hf (by omega), e6, e7, e8⟩, ⟨π', hS, hD⟩, ?_, ⟨by rw [(hf 185 (by omega)).1]; exact h5.1, h5.2.1, fun i hi => by rw [(hf 186 (by omega)).1]; exact h5.2.2 i hi⟩, CmS_lo h6 (fun q hq => (hf q (by omega)).1) (fun q hq => rr q (by omega)), CnS_lo h7 (fun q hq => (hf q (by omega)).1), svS_I h8 e6⟩
  · unfold KxS at h1 ⊢
    rw [rr 35 (by omega)]
    exact h1
  · unfold SpS DsS at e1 ⊢
    rw [rr 67 (by omega), rr (67 + 2) (by omega)]
    exact e1
  · unfold KbS at e2 ⊢
    rw [rr 36 (by omega)]
    exact e2
  · unfold ScS at h4 ⊢
    rw [rr 185 (by omega)]
    exact h4
/-- what a callee throws goes out -/
theorem Ret_t1 {m pc pc' cal : Nat} {ls rest : List Value} {v : Option Value} (ht : tOk cal = true) (hm : sk_hh m = []) : Ret m pc pc' cal ls rest Q 1 v I J R S = Q 1 none I J R S := by
  have e : hnd m pc 0 = none := by unfold hnd; rw [hm]; rfl
  show (tOk cal = true ∧ match hnd m pc 0 with | some hp => (match hst m hp ls with | some (pc2, ls2) => Wp m pc2 ls2 [] I J R S Q | none => False) | none => Q (0 + 1) none I J R S) = _
  rw [e]
  simp only [ht, true_and]
theorem Ret_t2 {m pc pc' cal : Nat} {ls rest : List Value} {v : Option Value} (ht : tOk cal = true) (hm : sk_hh m = []) : Ret m pc pc' cal ls rest Q 2 v I J R S = Q 2 none I J R S := by
  have e : hnd m pc 1 = none := by unfold hnd; rw [hm]; rfl
  show (tOk cal = true ∧ match hnd m pc 1 with | some hp => (match hst m hp ls with | some (pc2, ls2) => Wp m pc2 ls2 [] I J R S Q | none => False) | none => Q (1 + 1) none I J R S) = _
  rw [e]
  simp only [ht, true_and]
theorem tO62 : tOk 62 = true := by decide
theorem tO63 : tOk 63 = true := by decide
theorem tO64 : tOk 64 = true := by decide
theorem c_K_req1 : Wp 63 0 [.int 1] [] I J R S Q = Q 0 none I J R S := by
  have := c_K_require (Q := Q) (I := I) (J := J) (R := R) (S := S) (b := true)
  rw [bI_t, if_pos (by simp)] at this
  exact this
theorem c_K_req0 : Wp 63 0 [.int 0] [] I J R S Q = Q 1 none I J R (sh_thr S) := by
  have := c_K_require (Q := Q) (I := I) (J := J) (R := R) (S := S) (b := false)
  rw [bI_f, if_neg (by simp)] at this
  exact this
theorem okCnt_in (h : okCnt c = true) : 1 ≤ c.toInt ∧ c.toInt ≤ 999 := by
  unfold okCnt at h
  simp only [Bool.and_eq_true, Bool.not_eq_true', decide_eq_false_iff_not, Int32.lt_iff_toInt_lt] at h
  have e1 : (1 : Int32).toInt = 1 := by decide
  have e2 : (999 : Int32).toInt = 999 := by decide
  omega
theorem okLet_n (h : okLet c = true) : ∃ i, i < 26 ∧ c = nI i := by
  unfold okLet at h
  simp only [Bool.and_eq_true, Bool.not_eq_true', decide_eq_false_iff_not, decide_eq_true_eq, Int32.lt_iff_toInt_lt] at h
  have e1 : (0 : Int32).toInt = 0 := by decide
  have e2 : (26 : Int32).toInt = 26 := by decide
  refine ⟨c.toInt.toNat, by omega, ?_⟩
  rw [← Int32.toInt_inj, nI_toInt (by omega)]
  omega
theorem okStk_in (h : okStk c = true) : 0 ≤ c.toInt ∧ c.toInt ≤ 2 := by
  unfold okStk at h
  simp only [Bool.and_eq_true, Bool.not_eq_true', decide_eq_false_iff_not, Int32.lt_iff_toInt_lt] at h
  have e1 : (0 : Int32).toInt = 0 := by decide
  have e2 : (2 : Int32).toInt = 2 := by decide
  omega
theorem okSet_n (h : okSet k v = true) : ∃ i, i < 3 ∧ k = nI i ∧ (i = 0 → 0 ≤ v.toInt ∧ v.toInt ≤ 12) ∧ (i = 1 → 1 ≤ v.toInt ∧ v.toInt ≤ 9) ∧ (i = 2 → 1 ≤ v.toInt ∧ v.toInt ≤ 5) := by
  unfold okSet at h
  simp only [Bool.and_eq_true, Bool.or_eq_true, Bool.not_eq_true', decide_eq_false_iff_not, decide_eq_true_eq, Int32.lt_iff_toInt_lt] at h
  have e0 : (0 : Int32).toInt = 0 := by decide
  have e1 : (1 : Int32).toInt = 1 := by decide
  have e2 : (12 : Int32).toInt = 12 := by decide
  have e3 : (9 : Int32).toInt = 9 := by decide
  have e4 : (5 : Int32).toInt = 5 := by decide
  rcases h with (⟨⟨h1, h2⟩, h3⟩ | ⟨⟨h1, h2⟩, h3⟩) | ⟨⟨h1, h2⟩, h3⟩
  · exact ⟨0, by omega, by rw [h1]; decide, by omega, by omega, by omega⟩
  · exact ⟨1, by omega, by rw [h1]; decide, by omega, by omega, by omega⟩
  · exact ⟨2, by omega, by rw [h1]; decide, by omega, by omega, by omega⟩
end KC

