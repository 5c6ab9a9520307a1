/-! the model: which command word -/
theorem cmC_in : ∀ i, i < 8 → ∀ j, j < cmL i → 97 ≤ cmC i j ∧ cmC i j ≤ 122 := by decide
section MW
variable {I I' : MI} {J J' : MJ} {R : MR} {S : Sh} {Q : SkQ} {n l p q : Nat} {x : Nat → Int32} {c : Nat → Nat}
theorem pk_inj (hc : ∀ j, j < n → 97 ≤ c j ∧ c j ≤ 122) : ∀ (m m' : Nat), m' ≤ n → (∀ j, j < m → 1 ≤ ltN x l (p + j) ∧ ltN x l (p + j) ≤ 26) → (pk x l p m = cpk c m' ↔ m = m' ∧ ∀ j, j < m → ltN x l (p + j) + 96 = c j)
  | 0, 0, _, _ => by simp [pk, cpk]
  | 0, m' + 1, hm, _ => by
    have := hc m' (by omega)
    simp only [pk, cpk]
    constructor
    · intro h; omega
    · rintro ⟨h, _⟩; omega
  | m + 1, 0, _, hl => by
    have := hl m (by omega)
    simp only [pk, cpk]
    constructor
    · intro h; omega
    · rintro ⟨h, _⟩; omega
  | m + 1, m' + 1, hm, hl => by
    have h1 := hc m' (by omega)
    have h2 := hl m (by omega)
    have ih := pk_inj hc m m' (by omega) (fun j hj => hl j (by omega))
    simp only [pk, cpk]
    constructor
    · intro h
      have e := ih.mp (by omega)
      refine ⟨by omega, fun j hj => ?_⟩
      by_cases q : j = m
      · rw [q, e.1]
        rw [e.1] at h h2
        omega
      · exact e.2 j (by omega)
    · rintro ⟨h, hj⟩
      have hm' : m = m' := by omega
      have e := ih.mpr ⟨hm', fun j hj' => hj j (by omega)⟩
      have := hj m (by omega)
      rw [← hm'] at *
      omega
theorem wrt_iff : ∀ (k i : Nat), wrt x l c p i k = true ↔ ∀ j, i ≤ j → j < i + k → nI (c j) = byA x l (p + j)
  | 0, i => by
    simp only [wrt, true_iff]
    intro j h1 h2
    omega
  | k + 1, i => by
    simp only [wrt, Bool.and_eq_true, decide_eq_true_eq]
    rw [wrt_iff k (i + 1)]
    constructor
    · rintro ⟨h1, h2⟩ j h3 h4
      by_cases q : j = i
      · rw [q]; exact h1
      · exact h2 j (by omega) (by omega)
    · intro h
      exact ⟨h i (by omega) (by omega), fun j h1 h2 => h j (by omega) (by omega)⟩
theorem cst_ok : ∀ i, i < 8 → cpk (cmC i) (cmL i) < 2 ^ 40 ∧ cmL i ≤ 8 := by decide
theorem cnd_iff (hpq : p ≤ q) (hq8 : q - p ≤ 8) (hl : ∀ j, j < q - p → isLt x l (p + j) = true) {i : Nat} (hi : i < 8) : (q = p + cmL i ∧ wrt x l (cmC i) p 0 (cmL i) = true) ↔ lW (pk x l p (q - p)) = lW (cpk (cmC i) (cmL i)) := by
  have hl2 : ∀ j, j < q - p → 1 ≤ ltN x l (p + j) ∧ ltN x l (p + j) ≤ 26 := fun j hj => isLt_26 (hl j hj)
  have b1 := pkN_lt (x := x) (l := l) (p := p) (n := q - p) (fun j hj => by have := hl2 j hj; omega) (q - p) (Nat.le_refl _)
  have b2 : pk x l p (q - p) < 2 ^ 40 := Nat.lt_of_lt_of_le b1 (Nat.pow_le_pow_right (by omega) (by omega))
  have b3 := cst_ok i hi
  rw [lW_inj (by omega) (by omega), pk_inj (cmC_in i hi) _ _ (Nat.le_refl _) hl2, wrt_iff]
  constructor
  · rintro ⟨h1, h2⟩
    refine ⟨by omega, fun j hj => ?_⟩
    have h3 := h2 j (by omega) (by omega)
    have c1 := cmC_in i hi j (by omega)
    rw [(isLt_f (hl j hj)).2.1, nI_inj (by omega) (by have := hl2 j hj; omega)] at h3
    omega
  · rintro ⟨h1, h2⟩
    refine ⟨by omega, fun j _ hj => ?_⟩
    have h3 := h2 j (by omega)
    rw [(isLt_f (hl j (by omega))).2.1, h3]
theorem vb_eq (hpq : p ≤ q) (hq8 : q - p ≤ 8) (hl : ∀ j, j < q - p → isLt x l (p + j) = true) : vbO (lW (pk x l p (q - p))) = if cmd x l p q 0 8 < 8 then nI (cmd x l p q 0 8) else -1 := by
  have h := fun i hi => cnd_iff (i := i) hpq hq8 hl hi
  have h0 := h 0 (by omega)
  have h1 := h 1 (by omega)
  have h2 := h 2 (by omega)
  have h3 := h 3 (by omega)
  have h4 := h 4 (by omega)
  have h5 := h 5 (by omega)
  have h6 := h 6 (by omega)
  have h7 := h 7 (by omega)
  rw [show lW (cpk (cmC 0) (cmL 0)) = 769604 by decide] at h0
  rw [show lW (cpk (cmC 1) (cmL 1)) = 150000 by decide] at h1
  rw [show lW (cpk (cmC 2) (cmL 2)) = 460197 by decide] at h2
  rw [show lW (cpk (cmC 3) (cmL 3)) = 681477 by decide] at h3
  rw [show lW (cpk (cmC 4) (cmL 4)) = 66667 by decide] at h4
  rw [show lW (cpk (cmC 5) (cmL 5)) = 1454583 by decide] at h5
  rw [show lW (cpk (cmC 6) (cmL 6)) = 20587627 by decide] at h6
  rw [show lW (cpk (cmC 7) (cmL 7)) = 19636 by decide] at h7
  generalize lW (pk x l p (q - p)) = v at *
  have e : cmd x l p q 0 8 = if q = p + cmL 0 ∧ wrt x l (cmC 0) p 0 (cmL 0) = true then 0 else if q = p + cmL 1 ∧ wrt x l (cmC 1) p 0 (cmL 1) = true then 1 else if q = p + cmL 2 ∧ wrt x l (cmC 2) p 0 (cmL 2) = true then 2 else if q = p + cmL 3 ∧ wrt x l (cmC 3) p 0 (cmL 3) = true then 3 else if q = p + cmL 4 ∧ wrt x l (cmC 4) p 0 (cmL 4) = true then 4 else if q = p + cmL 5 ∧ wrt x l (cmC 5) p 0 (cmL 5) = true then 5 else if q = p + cmL 6 ∧ wrt x l (cmC 6) p 0 (cmL 6) = true then 6 else if q = p + cmL 7 ∧ wrt x l (cmC 7) p 0 (cmL 7) = true then 7 else 8 := rfl
  rw [e]
  unfold vbO
  by_cases q0 : v = 769604
  · rw [if_pos q0, if_pos (h0.mpr q0)]; decide
  · rw [if_neg q0, if_neg (fun z => q0 (h0.mp z))]
    by_cases q1 : v = 150000
    · rw [if_pos q1, if_pos (h1.mpr q1)]; decide
    · rw [if_neg q1, if_neg (fun z => q1 (h1.mp z))]
      by_cases q2 : v = 460197
      · rw [if_pos q2, if_pos (h2.mpr q2)]; decide
      · rw [if_neg q2, if_neg (fun z => q2 (h2.mp z))]
        by_cases q3 : v = 681477
        · rw [if_pos q3, if_pos (h3.mpr q3)]; decide
        · rw [if_neg q3, if_neg (fun z => q3 (h3.mp z))]
          by_cases q4 : v = 66667
          · rw [if_pos q4, if_pos (h4.mpr q4)]; decide
          · rw [if_neg q4, if_neg (fun z => q4 (h4.mp z))]
            by_cases q5 : v = 1454583
            · rw [if_pos q5, if_pos (h5.mpr q5)]; decide
            · rw [if_neg q5, if_neg (fun z => q5 (h5.mp z))]
              by_cases q6 : v = 20587627
              · rw [if_pos q6, if_pos (h6.mpr q6)]; decide
              · rw [if_neg q6, if_neg (fun z => q6 (h6.mp z))]
                by_cases q7 : v = 19636
                · rw [if_pos q7, if_pos (h7.mpr q7)]; decide
                · rw [if_neg q7, if_neg (fun z => q7 (h7.mp z))]; decide
theorem cmd_no : ∀ (k i : Nat), i + k = 8 → (8 < q - p) → cmd x l p q i k = 8
  | 0, i, _, _ => by simp [cmd]
  | k + 1, i, hi, h => by
    simp only [cmd]
    have := (cst_ok i (by omega)).2
    rw [if_neg (by omega)]
    exact cmd_no k (i + 1) (by omega) h
theorem rdP_lt : ∀ (k p j : Nat), p ≤ j → j < rdP x l k p → isLt x l j = true
  | 0, p, j, h1, h2 => by simp only [rdP] at h2; omega
  | k + 1, p, j, h1, h2 => by
    simp only [rdP] at h2
    by_cases q : isLt x l p = true
    · rw [if_pos q] at h2
      by_cases e : j = p
      · rw [e]; exact q
      · exact rdP_lt k (p + 1) j (by omega) h2
    · rw [if_neg q] at h2
      omega
/-- the model's number of a command -/
def vbI (k : Nat) : Int32 := if k < 8 then nI k else -1
theorem c_M_verb (hS : MyS R S) (hp : p ≤ 160) (hT : TxD I x l) (h2 : I 187 12 = nI p) : Wp 242 0 [.ref 187, nov, nov, nov, nov] [] I J R S Q = Q 0 (some (.int (vbI (cwK x l p)))) (u2 I 187 12 (nI (if cwK x l p < 8 then cwP x l p else p))) J R S := by
  have k0 := hS.1.1
  have hl := hT.2.1
  have lp := l_M_verb (Q := Q) (J := J) hS (s0 := p) 150 p I (by omega) (Nat.le_refl _) (by omega) (fun j hj => by omega) hT h2
  rw [Nat.sub_self, show vv x l p 0 = 0 by rw [vv, if_pos (by omega)]; exact lW_0] at lp
  have rl := rdP_le (x := x) (n := l) 150 p
  have e : cwP x l p = rdP x l 150 p := rfl
  have ek : cwK x l p = cmd x l p (cwP x l p) 0 8 := rfl
  rw [← e] at lp rl
  simp only [x_M_verb_0, x_M_verb_1, x_M_verb_4, x_M_verb_5, x_M_verb_6, x_M_verb_8, x_M_verb_10, x_M_verb_12, x_M_verb_15, x_M_verb_18, x_M_verb_19, x_M_verb_22, x_M_verb_23, x_M_verb_24, x_M_verb_26, x_M_verb_29, x_M_verb_32, x_M_verb_33, x_M_verb_34, x_M_verb_35, x_M_verb_38, x_M_verb_39, x_M_verb_42, x_M_verb_43, x_M_verb_44, x_M_verb_45, x_M_verb_48, x_M_verb_49, x_M_verb_52, x_M_verb_55, x_M_verb_56, x_M_verb_57, x_M_verb_58, x_M_verb_61, x_M_verb_62, x_M_verb_63, x_M_verb_66, x_M_verb_69, x_M_verb_70, x_M_verb_73, x_M_verb_74, x_M_verb_75, x_M_verb_77, x_M_verb_80, x_M_verb_81, x_M_verb_84, x_M_verb_85, x_M_verb_88, x_M_verb_90, x_M_verb_91, x_M_verb_93, x_M_verb_94, x_M_verb_97, x_M_verb_98, x_M_verb_101, x_M_verb_102, x_M_verb_105, x_M_verb_108, x_M_verb_110, k0, h2, bI_0, bI_t, bI_f, e10, isA30, isA31, isA33, isA40, isA42, isA43, rOkB0, rOkB1, rOkB, Ret_v, Ret_n, cmp_eq, cmp_lt, cmp_gt, nI_1, eq_self, if_true, if_false, reduceIte]
  rw [lp]
  have g : u2 I 187 12 (nI (cwP x l p)) 187 12 = nI (cwP x l p) := u2_eq
  have sb : nI (cwP x l p) - nI p = nI (cwP x l p - p) := nI_sub rl.1
  unfold vbI
  by_cases q8 : cwP x l p - p ≤ 8
  · have ve := vb_eq rl.1 q8 (fun j hj => rdP_lt (x := x) (l := l) 150 p (p + j) (by omega) (by rw [← e]; omega))
    rw [← ek] at ve
    have hv : vv x l p (cwP x l p - p) = lW (pk x l p (cwP x l p - p)) := if_pos q8
    have lt : ¬ (8 : Int32) < nI (cwP x l p - p) := by rw [show (8 : Int32) = nI 8 by decide]; exact nI_nlt q8 (by omega)
    rw [hv]
    by_cases qk : cwK x l p < 8
    · rw [if_pos qk] at ve
      rw [if_pos qk, if_pos qk]
      have ne : ¬ nI (cwK x l p) = -1 := nI_m1 (by omega)
      simp only [x_M_verb_0, x_M_verb_1, x_M_verb_4, x_M_verb_5, x_M_verb_6, x_M_verb_8, x_M_verb_10, x_M_verb_12, x_M_verb_15, x_M_verb_18, x_M_verb_19, x_M_verb_22, x_M_verb_23, x_M_verb_24, x_M_verb_26, x_M_verb_29, x_M_verb_32, x_M_verb_33, x_M_verb_34, x_M_verb_35, x_M_verb_38, x_M_verb_39, x_M_verb_42, x_M_verb_43, x_M_verb_44, x_M_verb_45, x_M_verb_48, x_M_verb_49, x_M_verb_52, x_M_verb_55, x_M_verb_56, x_M_verb_57, x_M_verb_58, x_M_verb_61, x_M_verb_62, x_M_verb_63, x_M_verb_66, x_M_verb_69, x_M_verb_70, x_M_verb_73, x_M_verb_74, x_M_verb_75, x_M_verb_77, x_M_verb_80, x_M_verb_81, x_M_verb_84, x_M_verb_85, x_M_verb_88, x_M_verb_90, x_M_verb_91, x_M_verb_93, x_M_verb_94, x_M_verb_97, x_M_verb_98, x_M_verb_101, x_M_verb_102, x_M_verb_105, x_M_verb_108, x_M_verb_110, k0, g, sb, lt, c_M_verbOf, ve, ne, u2_u2, bI_0, bI_t, bI_f, e10, isA30, isA31, isA33, isA40, isA42, isA43, rOkB0, rOkB1, rOkB, Ret_v, Ret_n, cmp_eq, cmp_lt, cmp_gt, nI_1, eq_self, if_true, if_false, reduceIte]
    · rw [if_neg qk] at ve
      rw [if_neg qk, if_neg qk]
      simp only [x_M_verb_0, x_M_verb_1, x_M_verb_4, x_M_verb_5, x_M_verb_6, x_M_verb_8, x_M_verb_10, x_M_verb_12, x_M_verb_15, x_M_verb_18, x_M_verb_19, x_M_verb_22, x_M_verb_23, x_M_verb_24, x_M_verb_26, x_M_verb_29, x_M_verb_32, x_M_verb_33, x_M_verb_34, x_M_verb_35, x_M_verb_38, x_M_verb_39, x_M_verb_42, x_M_verb_43, x_M_verb_44, x_M_verb_45, x_M_verb_48, x_M_verb_49, x_M_verb_52, x_M_verb_55, x_M_verb_56, x_M_verb_57, x_M_verb_58, x_M_verb_61, x_M_verb_62, x_M_verb_63, x_M_verb_66, x_M_verb_69, x_M_verb_70, x_M_verb_73, x_M_verb_74, x_M_verb_75, x_M_verb_77, x_M_verb_80, x_M_verb_81, x_M_verb_84, x_M_verb_85, x_M_verb_88, x_M_verb_90, x_M_verb_91, x_M_verb_93, x_M_verb_94, x_M_verb_97, x_M_verb_98, x_M_verb_101, x_M_verb_102, x_M_verb_105, x_M_verb_108, x_M_verb_110, k0, g, sb, lt, c_M_verbOf, ve, u2_u2, bI_0, bI_t, bI_f, e10, isA30, isA31, isA33, isA40, isA42, isA43, rOkB0, rOkB1, rOkB, Ret_v, Ret_n, cmp_eq, cmp_lt, cmp_gt, nI_1, eq_self, if_true, if_false, reduceIte]
  · have lt : (8 : Int32) < nI (cwP x l p - p) := by rw [show (8 : Int32) = nI 8 by decide]; exact nI_lt (by omega) (by omega)
    have qk : ¬ cwK x l p < 8 := by rw [ek, cmd_no 8 0 (by omega) (by omega)]; omega
    rw [if_neg qk, if_neg qk]
    simp only [x_M_verb_0, x_M_verb_1, x_M_verb_4, x_M_verb_5, x_M_verb_6, x_M_verb_8, x_M_verb_10, x_M_verb_12, x_M_verb_15, x_M_verb_18, x_M_verb_19, x_M_verb_22, x_M_verb_23, x_M_verb_24, x_M_verb_26, x_M_verb_29, x_M_verb_32, x_M_verb_33, x_M_verb_34, x_M_verb_35, x_M_verb_38, x_M_verb_39, x_M_verb_42, x_M_verb_43, x_M_verb_44, x_M_verb_45, x_M_verb_48, x_M_verb_49, x_M_verb_52, x_M_verb_55, x_M_verb_56, x_M_verb_57, x_M_verb_58, x_M_verb_61, x_M_verb_62, x_M_verb_63, x_M_verb_66, x_M_verb_69, x_M_verb_70, x_M_verb_73, x_M_verb_74, x_M_verb_75, x_M_verb_77, x_M_verb_80, x_M_verb_81, x_M_verb_84, x_M_verb_85, x_M_verb_88, x_M_verb_90, x_M_verb_91, x_M_verb_93, x_M_verb_94, x_M_verb_97, x_M_verb_98, x_M_verb_101, x_M_verb_102, x_M_verb_105, x_M_verb_108, x_M_verb_110, k0, g, sb, lt, u2_u2, bI_0, bI_t, bI_f, e10, isA30, isA31, isA33, isA40, isA42, isA43, rOkB0, rOkB1, rOkB, Ret_v, Ret_n, cmp_eq, cmp_lt, cmp_gt, nI_1, eq_self, if_true, if_false, reduceIte]
end MW
