/-! the model: its state; save -/
def MyS (R : MR) (S : Sh) : Prop := MxS R S ∧ S.1 189 = 31 ∧ S.2.1 189 = 1220 ∧ S.1 190 = 30 ∧ S.2.1 190 = 26 ∧ S.1 191 = 30 ∧ S.2.1 191 = 8 ∧ S.1 192 = 30 ∧ S.2.1 192 = 8 ∧ S.1 193 = 30 ∧ S.2.1 193 = 81 ∧ S.1 194 = 30 ∧ S.2.1 194 = 150 ∧ S.1 195 = 30 ∧ S.2.1 195 = 40 ∧ S.1 196 = 31 ∧ S.2.1 196 = 40 ∧ S.1 197 = 31 ∧ S.2.1 197 = 40 ∧ R 187 1 = .ref 189 ∧ R 187 5 = .ref 190 ∧ R 187 6 = .ref 191 ∧ R 187 7 = .ref 192 ∧ R 187 8 = .ref 193 ∧ R 187 10 = .ref 194 ∧ R 187 13 = .ref 195 ∧ R 187 14 = .ref 196 ∧ R 187 15 = .ref 197
def SvD (h : Nat → Int64) (n : Nat) (s : Nat → Bk) : Prop := ∀ i, i < n → NoD (fun k => h (305 * i + k)) (s i) ∧ BkF (s i)
def MOk (I : MI) (J : MJ) (R : MR) (S : Sh) (a : Bk) (n : Nat) (s : Nat → Bk) (x : Nat → Int32) (l : Nat) (qt : Int32) : Prop :=
  MyS R S ∧ NoD (J 188) a ∧ SvD (J 189) n s ∧ n ≤ 4 ∧ I 187 2 = nI n ∧ I 187 3 = qt ∧ I 187 11 = nI l ∧ l ≤ 150 ∧ (∀ i, i < 26 → I 190 i = nI (plc i)) ∧ (∀ i, i < l → I 194 i = x i)
/-- nothing that lasts has changed -/
def mY (I : MI) (J : MJ) (I' : MI) (J' : MJ) : Prop := I' 190 = I 190 ∧ I' 194 = I 194 ∧ I' 187 2 = I 187 2 ∧ I' 187 3 = I 187 3 ∧ I' 187 11 = I 187 11 ∧ J' 188 = J 188 ∧ J' 189 = J 189 ∧ fr 187 197 I J I' J'
/-- nor the commands that were read -/
def mE (I : MI) (J : MJ) (I' : MI) (J' : MJ) : Prop := I' 195 = I 195 ∧ J' 196 = J 196 ∧ J' 197 = J 197 ∧ I' 187 16 = I 187 16
def mZ (I : MI) (J : MJ) (I' : MI) (J' : MJ) : Prop := mY I J I' J' ∧ mE I J I' J'
def kM (I : MI) (J : MJ) (R : MR) (I' : MI) (J' : MJ) (R' : MR) : Prop := kF 187 197 I J R I' J' R' ∧ mE I J I' J'
/-- nor what was thrown -/
def mS (I : MI) (J : MJ) (I' : MI) (J' : MJ) : Prop := mZ I J I' J' ∧ I' 187 4 = I 187 4
def qtN (qt : Int32) (n : Nat) : Nat := if qt = 0 then svN n else n
def qtS (qt : Int32) (s : Nat → Bk) (n : Nat) (a : Bk) : Nat → Bk := if qt = 0 then svS s n a else s
section MH
variable {I I' : MI} {J J' : MJ} {R : MR} {S : Sh} {Q : SkQ} {f g h : Nat → Int64} {b n k l T : Nat} {w u v t : Int64} {a a' : Bk} {p q r : Rw} {c y qt : Int32} {s : Nat → Bk} {x : Nat → Int32}
theorem mY_rfl : mY I J I J := ⟨by simp, by simp, by simp, by simp, by simp, by simp, by simp, fr_rfl⟩
theorem mE_rfl : mE I J I J := ⟨by simp, by simp, by simp, by simp⟩
theorem mZ_rfl : mZ I J I J := ⟨mY_rfl, mE_rfl⟩
theorem mY_trans {I2 : MI} {J2 : MJ} (h1 : mY I J I' J') (h2 : mY I' J' I2 J2) : mY I J I2 J2 := ⟨h2.1.trans h1.1, h2.2.1.trans h1.2.1, h2.2.2.1.trans h1.2.2.1, h2.2.2.2.1.trans h1.2.2.2.1, h2.2.2.2.2.1.trans h1.2.2.2.2.1, h2.2.2.2.2.2.1.trans h1.2.2.2.2.2.1, h2.2.2.2.2.2.2.1.trans h1.2.2.2.2.2.2.1, fr_trans h1.2.2.2.2.2.2.2 h2.2.2.2.2.2.2.2 (by omega) (by omega)⟩
theorem mE_trans {I2 : MI} {J2 : MJ} (h1 : mE I J I' J') (h2 : mE I' J' I2 J2) : mE I J I2 J2 := ⟨h2.1.trans h1.1, h2.2.1.trans h1.2.1, h2.2.2.1.trans h1.2.2.1, h2.2.2.2.trans h1.2.2.2⟩
theorem mZ_trans {I2 : MI} {J2 : MJ} (h1 : mZ I J I' J') (h2 : mZ I' J' I2 J2) : mZ I J I2 J2 := ⟨mY_trans h1.1 h2.1, mE_trans h1.2 h2.2⟩
theorem mY_f {k : Nat} (hk : ¬ (k = 2 ∨ k = 3 ∨ k = 11)) : mY I J (u2 I 187 k c) J := ⟨u2_p (by omega), u2_p (by omega), u2_k (by omega), u2_k (by omega), u2_k (by omega), by simp, by simp, fr_I fr_rfl (by omega)⟩
theorem mE_f {k : Nat} (hk : ¬ k = 16) : mE I J (u2 I 187 k c) J := ⟨u2_p (by omega), by simp, by simp, u2_k (by omega)⟩
theorem mZ_f {k : Nat} (hk : ¬ (k = 2 ∨ k = 3 ∨ k = 11 ∨ k = 16)) : mZ I J (u2 I 187 k c) J := ⟨mY_f (by omega), mE_f (by omega)⟩
theorem mS_rfl : mS I J I J := ⟨mZ_rfl, by simp⟩
theorem mS_trans {I2 : MI} {J2 : MJ} (h1 : mS I J I' J') (h2 : mS I' J' I2 J2) : mS I J I2 J2 := ⟨mZ_trans h1.1 h2.1, h2.2.trans h1.2⟩
theorem mS_f {k : Nat} (hk : ¬ (k = 2 ∨ k = 3 ∨ k = 4 ∨ k = 11 ∨ k = 16)) : mS I J (u2 I 187 k c) J := ⟨mZ_f (by omega), u2_k (by omega)⟩
theorem mY_fJ {k : Nat} : mY I J I (u2 J 187 k v) := ⟨by simp, by simp, by simp, by simp, by simp, u2_p (by omega), u2_p (by omega), fr_J fr_rfl (by omega)⟩
theorem mS_fJ {k : Nat} : mS I J I (u2 J 187 k v) := ⟨⟨mY_fJ, by simp, u2_p (by omega), u2_p (by omega), by simp⟩, by simp⟩
theorem mY_aI {p : Nat} (hp : p = 191 ∨ p = 192 ∨ p = 193 ∨ p = 195) : mY I J (u2 I p k c) J := ⟨u2_p (by omega), u2_p (by omega), u2_of (by omega), u2_of (by omega), u2_of (by omega), by simp, by simp, fr_I fr_rfl (by omega)⟩
theorem mY_aJ {p : Nat} (hp : p = 196 ∨ p = 197) : mY I J I (u2 J p k v) := ⟨by simp, by simp, by simp, by simp, by simp, u2_p (by omega), u2_p (by omega), fr_J fr_rfl (by omega)⟩
theorem mS_fr {p : Nat} (hp : p = 191 ∨ p = 192 ∨ p = 193) (h : fr p p I J I' J) : mS I J I' J := ⟨⟨⟨(h 190 (by omega)).1, (h 194 (by omega)).1, by rw [(h 187 (by omega)).1], by rw [(h 187 (by omega)).1], by rw [(h 187 (by omega)).1], by simp, by simp, fr_mono h (by omega)⟩, (h 195 (by omega)).1, by simp, by simp, by rw [(h 187 (by omega)).1]⟩, by rw [(h 187 (by omega)).1]⟩
theorem MOk_Y (h : MOk I J R S a n s x l qt) (m : mY I J I' J') : MOk I' J' R S a n s x l qt := by
  obtain ⟨h1, h2, h3, h4, h5, h6, h7, h8, h9, h10⟩ := h
  obtain ⟨m1, m2, m3, m4, m5, m6, m7, m8⟩ := m
  exact ⟨h1, by rw [m6]; exact h2, by rw [m7]; exact h3, h4, m3.trans h5, m4.trans h6, m5.trans h7, h8, by rw [m1]; exact h9, by rw [m2]; exact h10⟩
theorem MOk_Z (h : MOk I J R S a n s x l qt) (m : mZ I J I' J') : MOk I' J' R S a n s x l qt := MOk_Y h m.1
theorem MOk_S (h : MOk I J R S a n s x l qt) (m : mS I J I' J') : MOk I' J' R S a n s x l qt := MOk_Z h m.1
theorem kF_Y (m : mY I J I' J') : kF 187 197 I J R I' J' R := ⟨m.2.2.2.2.2.2.2, fun _ _ => by simp⟩
theorem kM_rfl : kM I J R I J R := ⟨kF_rfl, mE_rfl⟩
theorem kM_trans {R' R2 : MR} {I2 : MI} {J2 : MJ} (h1 : kM I J R I' J' R') (h2 : kM I' J' R' I2 J2 R2) : kM I J R I2 J2 R2 := ⟨kF_trans h1.1 h2.1, mE_trans h1.2 h2.2⟩
theorem kM_Z (m : mZ I J I' J') : kM I J R I' J' R := ⟨kF_Y m.1, m.2⟩
theorem kM_S (m : mS I J I' J') : kM I J R I' J' R := kM_Z m.1
theorem MOk_now (h : MOk I J R S a n s x l qt) (hD : NoD g a') : MOk I (jn J g) R S a' n s x l qt := by
  obtain ⟨h1, h2, h3, h4, h5, h6, h7, h8, h9, h10⟩ := h
  exact ⟨h1, by rw [jn_a]; exact hD, by rw [jn_o (by omega)]; exact h3, h4, h5, h6, h7, h8, h9, h10⟩
theorem kM_jn : kM I J R I (jn J g) R := ⟨⟨fun p hp => ⟨by simp, jn_o (by omega)⟩, fun _ _ => by simp⟩, by simp, jn_o (by omega), jn_o (by omega), by simp⟩
theorem l_M_save1 (hS : MyS R S) : ∀ (d i : Nat) (J : MJ), i + d = 915 → (∀ k, J 189 k = if k < i then h (k + 305) else h k) → (∀ J', (∀ p, ¬ p = 189 → J' p = J p) → (∀ k, k < 915 → J' 189 k = h (k + 305)) → Wp 191 47 [.ref 187, .int (nI 915)] [] I J' R S Q) → Wp 191 18 [.ref 187, .int (nI i)] [] I J R S Q := by
  obtain ⟨⟨k0, k1, n1, r0⟩, s9, l9, -, -, -, -, -, -, -, -, -, -, -, -, -, -, -, -, r1, -⟩ := hS
  intro d
  induction d with
  | zero =>
    intro i J hi hh hQ
    have e : ¬ nI i < 915 := by rw [show (915 : Int32) = nI 915 by decide]; exact nI_nlt (by omega) (by omega)
    have : i = 915 := by omega
    subst this
    rw [x_M_save_18]
    simp only [x_M_save_0, x_M_save_1, x_M_save_4, x_M_save_7, x_M_save_8, x_M_save_9, x_M_save_12, x_M_save_13, x_M_save_16, x_M_save_17, x_M_save_19, x_M_save_22, x_M_save_25, x_M_save_26, x_M_save_29, x_M_save_30, x_M_save_31, x_M_save_34, x_M_save_35, x_M_save_38, x_M_save_39, x_M_save_40, x_M_save_41, x_M_save_44, x_M_save_48, x_M_save_49, x_M_save_52, x_M_save_53, x_M_save_54, x_M_save_57, x_M_save_58, x_M_save_59, x_M_save_60, x_M_save_63, x_M_save_66, x_M_save_67, x_M_save_70, x_M_save_73, x_M_save_74, x_M_save_77, x_M_save_78, x_M_save_79, x_M_save_80, x_M_save_81, x_M_save_84, x_M_save_85, x_M_save_86, x_M_save_87, x_M_save_90, x_M_save_93, x_M_save_94, x_M_save_95, x_M_save_98, x_M_save_99, x_M_save_100, x_M_save_103, e, bI_0, bI_t, bI_f, e10, isA30, isA31, isA33, isA40, isA42, isA43, rOkB0, rOkB1, rOkB, Ret_v, Ret_n, cmp_eq, cmp_lt, cmp_gt, nI_1, eq_self, if_true, if_false, reduceIte]
    exact hQ J (fun _ _ => by simp) (fun k hk => by rw [hh, if_pos hk])
  | succ d ih =>
    intro i J hi hh hQ
    have e : nI i < 915 := by rw [show (915 : Int32) = nI 915 by decide]; exact nI_lt (by omega) (by omega)
    have e0 : nI i + 305 = nI (i + 305) := by rw [show (305 : Int32) = nI 305 by decide, nI_plus]
    have e1 := inb_nI (i := i) (n := 1220) (by omega) (by omega)
    have e2 : ix (nI i) = i := ix_nI (by omega)
    have e3 := inb_nI (i := i + 305) (n := 1220) (by omega) (by omega)
    have e4 : ix (nI (i + 305)) = i + 305 := ix_nI (by omega)
    rw [x_M_save_18]
    simp only [x_M_save_0, x_M_save_1, x_M_save_4, x_M_save_7, x_M_save_8, x_M_save_9, x_M_save_12, x_M_save_13, x_M_save_16, x_M_save_17, x_M_save_19, x_M_save_22, x_M_save_25, x_M_save_26, x_M_save_29, x_M_save_30, x_M_save_31, x_M_save_34, x_M_save_35, x_M_save_38, x_M_save_39, x_M_save_40, x_M_save_41, x_M_save_44, x_M_save_48, x_M_save_49, x_M_save_52, x_M_save_53, x_M_save_54, x_M_save_57, x_M_save_58, x_M_save_59, x_M_save_60, x_M_save_63, x_M_save_66, x_M_save_67, x_M_save_70, x_M_save_73, x_M_save_74, x_M_save_77, x_M_save_78, x_M_save_79, x_M_save_80, x_M_save_81, x_M_save_84, x_M_save_85, x_M_save_86, x_M_save_87, x_M_save_90, x_M_save_93, x_M_save_94, x_M_save_95, x_M_save_98, x_M_save_99, x_M_save_100, x_M_save_103, e, k0, s9, l9, r1, e0, e1, e2, e3, e4, nI_1', bI_0, bI_t, bI_f, e10, isA30, isA31, isA33, isA40, isA42, isA43, rOkB0, rOkB1, rOkB, Ret_v, Ret_n, cmp_eq, cmp_lt, cmp_gt, nI_1, eq_self, if_true, if_false, reduceIte]
    refine ih (i + 1) _ (by omega) (fun k => ?_) (fun J' h1 h2 => hQ J' (fun p hp => by rw [h1 p hp, u2_p hp]) h2)
    by_cases q : k = i
    · rw [q, u2_eq, if_pos (by omega), hh, if_neg (by omega)]
    · rw [u2_of (by omega), hh]
      by_cases q2 : k < i
      · rw [if_pos q2, if_pos (by omega)]
      · rw [if_neg q2, if_neg (by omega)]
theorem l_M_save2 (hS : MyS R S) (hn : n < 4) (h2 : I 187 2 = nI n) : ∀ (d i : Nat) (J : MJ), i + d = 305 → J 188 = f → (∀ k, J 189 k = if 305 * n ≤ k ∧ k < 305 * n + i then f (k - 305 * n) else h k) → (∀ J', (∀ p, ¬ p = 189 → J' p = J p) → (∀ k, J' 189 k = if 305 * n ≤ k ∧ k < 305 * n + 305 then f (k - 305 * n) else h k) → Q 0 none (u2 I 187 2 (nI (n + 1))) J' R S) → Wp 191 59 [.ref 187, .int (nI i)] [] I J R S Q := by
  obtain ⟨⟨k0, k1, n1, r0⟩, s9, l9, -, -, -, -, -, -, -, -, -, -, -, -, -, -, -, -, r1, -⟩ := hS
  intro d
  induction d with
  | zero =>
    intro i J hi hf hh hQ
    have e : ¬ nI i < 305 := by rw [show (305 : Int32) = nI 305 by decide]; exact nI_nlt (by omega) (by omega)
    have : i = 305 := by omega
    subst this
    rw [x_M_save_59]
    simp only [x_M_save_0, x_M_save_1, x_M_save_4, x_M_save_7, x_M_save_8, x_M_save_9, x_M_save_12, x_M_save_13, x_M_save_16, x_M_save_17, x_M_save_18, x_M_save_19, x_M_save_22, x_M_save_25, x_M_save_26, x_M_save_29, x_M_save_30, x_M_save_31, x_M_save_34, x_M_save_35, x_M_save_38, x_M_save_39, x_M_save_40, x_M_save_41, x_M_save_44, x_M_save_47, x_M_save_48, x_M_save_49, x_M_save_52, x_M_save_53, x_M_save_54, x_M_save_57, x_M_save_58, x_M_save_60, x_M_save_63, x_M_save_66, x_M_save_67, x_M_save_70, x_M_save_73, x_M_save_74, x_M_save_77, x_M_save_78, x_M_save_79, x_M_save_80, x_M_save_81, x_M_save_84, x_M_save_85, x_M_save_86, x_M_save_87, x_M_save_90, x_M_save_93, x_M_save_94, x_M_save_95, x_M_save_98, x_M_save_99, x_M_save_100, x_M_save_103, e, k0, h2, nI_1', bI_0, bI_t, bI_f, e10, isA30, isA31, isA33, isA40, isA42, isA43, rOkB0, rOkB1, rOkB, Ret_v, Ret_n, cmp_eq, cmp_lt, cmp_gt, nI_1, eq_self, if_true, if_false, reduceIte]
    exact hQ J (fun _ _ => by simp) hh
  | succ d ih =>
    intro i J hi hf hh hQ
    have e : nI i < 305 := by rw [show (305 : Int32) = nI 305 by decide]; exact nI_lt (by omega) (by omega)
    have e0 : (305 : Int32) * nI n = nI (305 * n) := by rw [show (305 : Int32) = nI 305 by decide, nI_mul]
    have e1 := inb_nI (i := 305 * n + i) (n := 1220) (by omega) (by omega)
    have e2 : ix (nI (305 * n + i)) = 305 * n + i := ix_nI (by omega)
    have e3 := inb_nI (i := i) (n := 305) (by omega) (by omega)
    have e4 : ix (nI i) = i := ix_nI (by omega)
    rw [x_M_save_59]
    simp only [x_M_save_0, x_M_save_1, x_M_save_4, x_M_save_7, x_M_save_8, x_M_save_9, x_M_save_12, x_M_save_13, x_M_save_16, x_M_save_17, x_M_save_18, x_M_save_19, x_M_save_22, x_M_save_25, x_M_save_26, x_M_save_29, x_M_save_30, x_M_save_31, x_M_save_34, x_M_save_35, x_M_save_38, x_M_save_39, x_M_save_40, x_M_save_41, x_M_save_44, x_M_save_47, x_M_save_48, x_M_save_49, x_M_save_52, x_M_save_53, x_M_save_54, x_M_save_57, x_M_save_58, x_M_save_60, x_M_save_63, x_M_save_66, x_M_save_67, x_M_save_70, x_M_save_73, x_M_save_74, x_M_save_77, x_M_save_78, x_M_save_79, x_M_save_80, x_M_save_81, x_M_save_84, x_M_save_85, x_M_save_86, x_M_save_87, x_M_save_90, x_M_save_93, x_M_save_94, x_M_save_95, x_M_save_98, x_M_save_99, x_M_save_100, x_M_save_103, e, k0, k1, n1, r0, s9, l9, r1, h2, e0, nI_plus, e1, e2, e3, e4, nI_1', bI_0, bI_t, bI_f, e10, isA30, isA31, isA33, isA40, isA42, isA43, rOkB0, rOkB1, rOkB, Ret_v, Ret_n, cmp_eq, cmp_lt, cmp_gt, nI_1, eq_self, if_true, if_false, reduceIte]
    refine ih (i + 1) _ (by omega) (by rw [u2_p (by omega)]; exact hf) (fun k => ?_) (fun J' h1 h2 => hQ J' (fun p hp => by rw [h1 p hp, u2_p hp]) h2)
    by_cases q : k = 305 * n + i
    · rw [q, u2_eq, if_pos (by omega), hf, show 305 * n + i - 305 * n = i by omega]
    · rw [u2_of (by omega), hh]
      by_cases q2 : 305 * n ≤ k ∧ k < 305 * n + i
      · rw [if_pos q2, if_pos (by omega)]
      · rw [if_neg q2, if_neg (by omega)]
theorem l_M_saveF (hn : n < 4) (hs : SvD h n s) (hD : NoD f a) (hF : BkF a) (he : ∀ k, g k = if 305 * n ≤ k ∧ k < 305 * n + 305 then f (k - 305 * n) else h k) : SvD g (n + 1) (fun i => if i = n then a else s i) := by
  intro i hi
  dsimp only
  by_cases q : i = n
  · rw [if_pos q]
    refine ⟨NoD_c hD hF (fun k hk => ?_), hF⟩
    rw [he, q, if_pos (by omega), show 305 * n + k - 305 * n = k by omega]
  · rw [if_neg q]
    have := hs i (by omega)
    refine ⟨NoD_c this.1 this.2 (fun k hk => ?_), this.2⟩
    rw [he, if_neg (by omega)]
theorem c_M_save (hM : MOk I J R S a n s x l qt) (hF : BkF a) (hQ : ∀ I' J', kM I J R I' J' R → J' 188 = J 188 → I' 187 4 = I 187 4 → MOk I' J' R S a (qtN qt n) (qtS qt s n a) x l qt → Q 0 none I' J' R S) : Wp 191 0 [.ref 187, nov] [] I J R S Q := by
  have hM' := hM
  obtain ⟨h1, h2, h3, h4, h5, h6, h7, h8, h9, h10⟩ := hM
  have k0 := h1.1.1
  by_cases q : qt = 0
  · unfold qtN qtS at hQ
    rw [if_pos q, if_pos q] at hQ
    subst q
    have fin : ∀ (I1 : MI) (J1 : MJ) (l1 : Value) (n1 : Nat) (s1 : Nat → Bk), n1 < 4 → I1 187 2 = nI n1 → (∀ p k, ¬ (p = 187 ∧ k = 2) → I1 p k = I p k) → (∀ p, ¬ p = 189 → J1 p = J p) → SvD (J1 189) n1 s1 → svN n = n1 + 1 → svS s n a = (fun i => if i = n1 then a else s1 i) → Wp 191 57 [.ref 187, l1] [] I1 J1 R S Q := by
      intro I1 J1 l1 n1 s1 hn hI2 hI hJ hs en es
      have lp := l_M_save2 (Q := Q) (I := I1) (f := J 188) (h := J1 189) h1 hn hI2 305 0 J1 (by omega) (hJ 188 (by omega)) (fun k => by rw [if_neg (by omega)]) (fun J' j1 j2 => by
        refine hQ _ _ ⟨⟨fun p hp => ⟨?_, ?_⟩, fun _ _ => by simp⟩, ⟨?_, (j1 196 (by omega)).trans (hJ 196 (by omega)), (j1 197 (by omega)).trans (hJ 197 (by omega)), ?_⟩⟩ ((j1 188 (by omega)).trans (hJ 188 (by omega))) (by rw [u2_k (by omega)]; exact hI 187 4 (by omega)) ⟨h1, ?_, ?_, svN_le h4, ?_, ?_, ?_, h8, fun i hi => ?_, fun i hi => ?_⟩
        · funext k
          rw [u2_of (by omega)]; exact hI p k (by omega)
        · rw [j1 p (by omega)]; exact hJ p (by omega)
        · funext k
          rw [u2_of (by omega)]; exact hI 195 k (by omega)
        · rw [u2_k (by omega)]; exact hI 187 16 (by omega)
        · rw [j1 188 (by omega), hJ 188 (by omega)]; exact h2
        · rw [en, es]; exact l_M_saveF hn hs h2 hF j2
        · rw [u2_eq, en]
        · rw [u2_k (by omega), hI 187 3 (by omega)]; exact h6
        · rw [u2_k (by omega), hI 187 11 (by omega)]; exact h7
        · rw [u2_of (by omega), hI 190 i (by omega)]; exact h9 i hi
        · rw [u2_of (by omega), hI 194 i (by omega)]; exact h10 i hi)
      rw [nI_0] at lp
      simp only [x_M_save_0, x_M_save_1, x_M_save_4, x_M_save_7, x_M_save_8, x_M_save_9, x_M_save_12, x_M_save_13, x_M_save_16, x_M_save_17, x_M_save_18, x_M_save_19, x_M_save_22, x_M_save_25, x_M_save_26, x_M_save_29, x_M_save_30, x_M_save_31, x_M_save_34, x_M_save_35, x_M_save_38, x_M_save_39, x_M_save_40, x_M_save_41, x_M_save_44, x_M_save_47, x_M_save_48, x_M_save_49, x_M_save_52, x_M_save_53, x_M_save_54, x_M_save_57, x_M_save_58, x_M_save_60, x_M_save_63, x_M_save_66, x_M_save_67, x_M_save_70, x_M_save_73, x_M_save_74, x_M_save_77, x_M_save_78, x_M_save_79, x_M_save_80, x_M_save_81, x_M_save_84, x_M_save_85, x_M_save_86, x_M_save_87, x_M_save_90, x_M_save_93, x_M_save_94, x_M_save_95, x_M_save_98, x_M_save_99, x_M_save_100, x_M_save_103, bI_0, bI_t, bI_f, e10, isA30, isA31, isA33, isA40, isA42, isA43, rOkB0, rOkB1, rOkB, Ret_v, Ret_n, cmp_eq, cmp_lt, cmp_gt, nI_1, eq_self, if_true, if_false, reduceIte]
      exact lp
    by_cases q4 : n = 4
    · have e4 : nI n = 4 := by rw [q4]; decide
      have lp := l_M_save1 (Q := Q) (I := I) (h := J 189) h1 915 0 J (by omega) (fun k => by rw [if_neg (by omega)]) (fun J' j1 j2 => by
        simp only [x_M_save_0, x_M_save_1, x_M_save_4, x_M_save_7, x_M_save_8, x_M_save_9, x_M_save_12, x_M_save_13, x_M_save_16, x_M_save_17, x_M_save_18, x_M_save_19, x_M_save_22, x_M_save_25, x_M_save_26, x_M_save_29, x_M_save_30, x_M_save_31, x_M_save_34, x_M_save_35, x_M_save_38, x_M_save_39, x_M_save_40, x_M_save_41, x_M_save_44, x_M_save_47, x_M_save_48, x_M_save_49, x_M_save_52, x_M_save_53, x_M_save_54, x_M_save_58, x_M_save_59, x_M_save_60, x_M_save_63, x_M_save_66, x_M_save_67, x_M_save_70, x_M_save_73, x_M_save_74, x_M_save_77, x_M_save_78, x_M_save_79, x_M_save_80, x_M_save_81, x_M_save_84, x_M_save_85, x_M_save_86, x_M_save_87, x_M_save_90, x_M_save_93, x_M_save_94, x_M_save_95, x_M_save_98, x_M_save_99, x_M_save_100, x_M_save_103, k0, h5, e4, show (4 : Int32) - 1 = nI 3 by decide, bI_0, bI_t, bI_f, e10, isA30, isA31, isA33, isA40, isA42, isA43, rOkB0, rOkB1, rOkB, Ret_v, Ret_n, cmp_eq, cmp_lt, cmp_gt, nI_1, eq_self, if_true, if_false, reduceIte]
        refine fin (u2 I 187 2 (nI 3)) J' _ 3 (fun i => s (i + 1)) (by omega) u2_eq (fun p k hpk => u2_of hpk) j1 (fun i hi => ?_) (by unfold svN; rw [if_pos q4]) (by unfold svS; rw [if_pos q4])
        have := h3 (i + 1) (by omega)
        refine ⟨NoD_c this.1 this.2 (fun k hk => ?_), this.2⟩
        rw [j2 _ (by omega), show 305 * (i + 1) + k = 305 * i + k + 305 by omega])
      rw [nI_0] at lp
      simp only [x_M_save_0, x_M_save_1, x_M_save_4, x_M_save_7, x_M_save_8, x_M_save_9, x_M_save_12, x_M_save_13, x_M_save_16, x_M_save_17, x_M_save_19, x_M_save_22, x_M_save_25, x_M_save_26, x_M_save_29, x_M_save_30, x_M_save_31, x_M_save_34, x_M_save_35, x_M_save_38, x_M_save_39, x_M_save_40, x_M_save_41, x_M_save_44, x_M_save_48, x_M_save_49, x_M_save_52, x_M_save_53, x_M_save_54, x_M_save_58, x_M_save_59, x_M_save_60, x_M_save_63, x_M_save_66, x_M_save_67, x_M_save_70, x_M_save_73, x_M_save_74, x_M_save_77, x_M_save_78, x_M_save_79, x_M_save_80, x_M_save_81, x_M_save_84, x_M_save_85, x_M_save_86, x_M_save_87, x_M_save_90, x_M_save_93, x_M_save_94, x_M_save_95, x_M_save_98, x_M_save_99, x_M_save_100, x_M_save_103, k0, h6, h5, e4, bI_0, bI_t, bI_f, e10, isA30, isA31, isA33, isA40, isA42, isA43, rOkB0, rOkB1, rOkB, Ret_v, Ret_n, cmp_eq, cmp_lt, cmp_gt, nI_1, eq_self, if_true, if_false, reduceIte]
      exact lp
    · have e4 : ¬ nI n = 4 := by rw [show (4 : Int32) = nI 4 by decide, nI_inj (by omega) (by omega)]; exact q4
      simp only [x_M_save_0, x_M_save_1, x_M_save_4, x_M_save_7, x_M_save_8, x_M_save_9, x_M_save_12, x_M_save_13, x_M_save_16, x_M_save_17, x_M_save_19, x_M_save_22, x_M_save_25, x_M_save_26, x_M_save_29, x_M_save_30, x_M_save_31, x_M_save_34, x_M_save_35, x_M_save_38, x_M_save_39, x_M_save_40, x_M_save_41, x_M_save_44, x_M_save_48, x_M_save_49, x_M_save_52, x_M_save_53, x_M_save_54, x_M_save_58, x_M_save_59, x_M_save_60, x_M_save_63, x_M_save_66, x_M_save_67, x_M_save_70, x_M_save_73, x_M_save_74, x_M_save_77, x_M_save_78, x_M_save_79, x_M_save_80, x_M_save_81, x_M_save_84, x_M_save_85, x_M_save_86, x_M_save_87, x_M_save_90, x_M_save_93, x_M_save_94, x_M_save_95, x_M_save_98, x_M_save_99, x_M_save_100, x_M_save_103, k0, h6, h5, e4, bI_0, bI_t, bI_f, e10, isA30, isA31, isA33, isA40, isA42, isA43, rOkB0, rOkB1, rOkB, Ret_v, Ret_n, cmp_eq, cmp_lt, cmp_gt, nI_1, eq_self, if_true, if_false, reduceIte]
      exact fin I J _ n s (by omega) h5 (fun _ _ _ => by simp) (fun _ _ => by simp) h3 (by unfold svN; rw [if_neg q4]) (by unfold svS; rw [if_neg q4])
  · unfold qtN qtS at hQ
    rw [if_neg q, if_neg q] at hQ
    simp only [x_M_save_0, x_M_save_1, x_M_save_4, x_M_save_7, x_M_save_8, x_M_save_9, x_M_save_12, x_M_save_13, x_M_save_16, x_M_save_17, x_M_save_19, x_M_save_22, x_M_save_25, x_M_save_26, x_M_save_29, x_M_save_30, x_M_save_31, x_M_save_34, x_M_save_35, x_M_save_38, x_M_save_39, x_M_save_40, x_M_save_41, x_M_save_44, x_M_save_48, x_M_save_49, x_M_save_52, x_M_save_53, x_M_save_54, x_M_save_58, x_M_save_60, x_M_save_63, x_M_save_66, x_M_save_67, x_M_save_70, x_M_save_73, x_M_save_74, x_M_save_77, x_M_save_78, x_M_save_79, x_M_save_80, x_M_save_81, x_M_save_84, x_M_save_85, x_M_save_86, x_M_save_87, x_M_save_90, x_M_save_93, x_M_save_94, x_M_save_95, x_M_save_98, x_M_save_99, x_M_save_100, x_M_save_103, k0, h6, q, bI_0, bI_t, bI_f, e10, isA30, isA31, isA33, isA40, isA42, isA43, rOkB0, rOkB1, rOkB, Ret_v, Ret_n, cmp_eq, cmp_lt, cmp_gt, nI_1, eq_self, if_true, if_false, reduceIte]
    exact hQ I J kM_rfl (by simp) (by simp) hM'
end MH
