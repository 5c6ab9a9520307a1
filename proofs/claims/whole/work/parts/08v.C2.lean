theorem u2_comm {α : Type} {f : Nat → Nat → α} {a k l : Nat} {v w : α} (h : ¬ k = l) : u2 (u2 f a k v) a l w = u2 (u2 f a l w) a k v := by
  funext b j
  by_cases q : b = a ∧ j = k
  · rw [u2_of (fun r => h (q.2.symm.trans r.2)), q.1, q.2, u2_eq, u2_eq]
  · rw [u2_of (f := u2 f a l w) q]
    by_cases r : b = a ∧ j = l
    · rw [r.1, r.2, u2_eq, u2_eq]
    · rw [u2_of r, u2_of r, u2_of q]
/-- the place and the fault set -/
def scPF (I : MI) (sc p : Nat) (f : Int32) : MI := u2 (u2 I sc 3 f) sc 2 (nI p)
def gapF (x : Nat → Int32) (n : Nat) (f : Int32) (p : Nat) : Int32 := if byA x n p = 32 then f else flt f p
def semF (x : Nat → Int32) (n : Nat) (f : Int32) (p : Nat) : Int32 := if byA x n (skp x n 150 p) = 59 then f else flt f (skp x n 150 p)
def ltN (x : Nat → Int32) (n p : Nat) : Nat := (byA x n p).toInt.toNat - 96
def rdP (x : Nat → Int32) (n : Nat) : Nat → Nat → Nat
  | 0, p => p
  | k + 1, p => if isLt x n p = true then rdP x n k (p + 1) else p
def rdV (x : Nat → Int32) (n : Nat) : Nat → Nat → Nat → Nat
  | 0, _, m => m
  | k + 1, p, m => if isLt x n p = true then rdV x n k (p + 1) (m * 32 + ltN x n p) else m
def nuP (x : Nat → Int32) (n : Nat) : Nat → Nat → Nat
  | 0, p => p
  | k + 1, p => if isDg x n p = true then nuP x n k (p + 1) else p
def nuV (x : Nat → Int32) (n : Nat) : Nat → Nat → Int32 → Int32
  | 0, _, v => v
  | k + 1, p, v => if isDg x n p = true then nuV x n k (p + 1) (10 * v + byA x n p - 48) else v
/-- the fault behind a word, a number, whose reading began at p with the fault f -/
def wdF (x : Nat → Int32) (n : Nat) (f : Int32) (p2 m : Nat) : Int32 := if m = 0 ∨ isLt x n p2 = true then flt f p2 else f
def nuF (x : Nat → Int32) (n : Nat) (f : Int32) (p1 p2 : Nat) : Int32 := if p2 = p1 ∨ isDg x n p2 = true then flt f p2 else f
theorem byA_lt {x : Nat → Int32} {n p : Nat} (h : ¬ byA x n p = -1) : p < n := by
  unfold byA at h
  by_cases q : p < n
  · exact q
  · rw [if_neg q] at h; exact absurd rfl h
theorem isLt_f {x : Nat → Int32} {n p : Nat} (h : isLt x n p = true) : p < n ∧ byA x n p = nI (ltN x n p + 96) ∧ 0 < ltN x n p ∧ ltN x n p < 32 := by
  unfold isLt at h
  simp only [Bool.and_eq_true, Bool.not_eq_true', decide_eq_false_iff_not] at h
  obtain ⟨h1, h2⟩ := h
  have h1' := h1
  rw [Int32.lt_iff_toInt_lt, show (97 : Int32).toInt = 97 by decide] at h1
  rw [Int32.lt_iff_toInt_lt, show (122 : Int32).toInt = 122 by decide] at h2
  refine ⟨byA_lt (fun e => h1' (by rw [e]; decide)), ?_, ?_, ?_⟩
  · rw [← Int32.toInt_inj, nI_toInt (by unfold ltN; omega)]
    unfold ltN
    omega
  · unfold ltN; omega
  · unfold ltN; omega
theorem isDg_f {x : Nat → Int32} {n p : Nat} (h : isDg x n p = true) : p < n := by
  unfold isDg at h
  simp only [Bool.and_eq_true, Bool.not_eq_true', decide_eq_false_iff_not] at h
  exact byA_lt (fun e => h.1 (by rw [e]; decide))
theorem rdP_le {x : Nat → Int32} {n : Nat} : ∀ k p, p ≤ rdP x n k p ∧ (rdP x n k p ≤ p ∨ rdP x n k p ≤ n)
  | 0, p => by simp [rdP]
  | k + 1, p => by
    simp only [rdP]
    by_cases q : isLt x n p = true
    · rw [if_pos q]
      have := rdP_le (x := x) (n := n) k (p + 1)
      have := (isLt_f q).1
      omega
    · rw [if_neg q]; omega
theorem nuP_le {x : Nat → Int32} {n : Nat} : ∀ k p, p ≤ nuP x n k p ∧ (nuP x n k p ≤ p ∨ nuP x n k p ≤ n)
  | 0, p => by simp [nuP]
  | k + 1, p => by
    simp only [nuP]
    by_cases q : isDg x n p = true
    · rw [if_pos q]
      have := nuP_le (x := x) (n := n) k (p + 1)
      have := isDg_f q
      omega
    · rw [if_neg q]; omega
section CD
variable {I : MI} {J : MJ} {R : MR} {S : Sh} {Q : SkQ} {sc n p : Nat} {x : Nat → Int32} {f : Int32}
theorem ScD_PF (hD : ScD I sc x n) : ScD (scPF I sc p f) sc x n := ScD_2 (ScD_2 hD (by omega)) (by omega)
theorem PF_2 : scPF I sc p f sc 2 = nI p := u2_eq
theorem PF_3 : scPF I sc p f sc 3 = f := by
  unfold scPF
  rw [u2_k (by omega), u2_eq]
theorem PF_PF {p' : Nat} {f' : Int32} : scPF (scPF I sc p f) sc p' f' = scPF I sc p' f' := by
  unfold scPF
  rw [u2_comm (k := 2) (l := 3) (by omega), u2_u2, u2_u2]
theorem PF_self (h2 : I sc 2 = nI p) (h3 : I sc 3 = f) : scPF I sc p f = I := by
  unfold scPF
  rw [u2_self h3, u2_self h2]
theorem PF_of2 (h3 : I sc 3 = f) : u2 I sc 2 (nI p) = scPF I sc p f := by
  unfold scPF
  rw [u2_self h3]
theorem PF_of3 (h2 : I sc 2 = nI p) : u2 I sc 3 f = scPF I sc p f := by
  unfold scPF
  rw [u2_self (f := u2 I sc 3 f) (by rw [u2_k (by omega)]; exact h2)]
theorem c_C_readGap (hS : ScS R S sc) (hp : p ≤ 155) (hD : ScD I sc x n) (h2 : I sc 2 = nI p) (h3 : I sc 3 = f) : Wp 160 0 [.ref sc] [] I J R S Q = Q 0 none (scPF I sc (skp x n 150 p) (gapF x n f p)) J R S := by
  have b := fun Q' => c_C_byteAt (Q := Q') (J := J) hS hD (show p < 2 ^ 31 by omega)
  unfold gapF
  by_cases q : byA x n p = 32
  · simp only [x_C_readGap_0, x_C_readGap_1, x_C_readGap_2, x_C_readGap_5, x_C_readGap_8, x_C_readGap_10, x_C_readGap_13, x_C_readGap_14, x_C_readGap_17, x_C_readGap_18, x_C_readGap_21, hS.1, h2, b, q, c_C_skipSpaces hS hp hD h2, PF_of2 h3, bI_0, bI_t, bI_f, e10, isA30, isA31, isA33, isA40, isA42, isA43, rOkB0, rOkB1, rOkB, Ret_v, Ret_n, cmp_eq, cmp_lt, cmp_gt, nI_1, eq_self, if_true, if_false, reduceIte]
  · have fh := fun Q' => c_C_failHere (Q := Q') (J := J) hS h2 h3
    have sk := fun Q' => c_C_skipSpaces (Q := Q') (J := J) hS hp (ScD_PF (p := p) (f := flt f p) hD) PF_2
    rw [PF_of2 PF_3, PF_PF] at sk
    simp only [x_C_readGap_0, x_C_readGap_1, x_C_readGap_2, x_C_readGap_5, x_C_readGap_8, x_C_readGap_10, x_C_readGap_13, x_C_readGap_14, x_C_readGap_17, x_C_readGap_18, x_C_readGap_21, hS.1, h2, b, q, fh, PF_of3 h2, sk, bI_0, bI_t, bI_f, e10, isA30, isA31, isA33, isA40, isA42, isA43, rOkB0, rOkB1, rOkB, Ret_v, Ret_n, cmp_eq, cmp_lt, cmp_gt, nI_1, eq_self, if_true, if_false, reduceIte]
theorem c_C_readSemicolon (hS : ScS R S sc) (hp : p ≤ 155) (hD : ScD I sc x n) (h2 : I sc 2 = nI p) (h3 : I sc 3 = f) : Wp 161 0 [.ref sc] [] I J R S Q = Q 0 none (scPF I sc (skp x n 150 p + 1) (semF x n f p)) J R S := by
  have sk := fun Q' => c_C_skipSpaces (Q := Q') (J := J) hS hp hD h2
  rw [PF_of2 h3] at sk
  have hl := skp_le (x := x) (n := n) 150 p
  have dn := hD.2.1
  have b := fun Q' => c_C_byteAt (Q := Q') (J := J) hS (ScD_PF (p := skp x n 150 p) (f := f) hD) (show skp x n 150 p < 2 ^ 31 by omega)
  have g2 : scPF I sc (skp x n 150 p) f sc 2 = nI (skp x n 150 p) := PF_2
  unfold semF
  by_cases q : byA x n (skp x n 150 p) = 59
  · have u : u2 (scPF I sc (skp x n 150 p) f) sc 2 (nI (skp x n 150 p + 1)) = scPF I sc (skp x n 150 p + 1) f := by rw [PF_of2 PF_3, PF_PF]
    simp only [x_C_readSemicolon_0, x_C_readSemicolon_1, x_C_readSemicolon_4, x_C_readSemicolon_5, x_C_readSemicolon_6, x_C_readSemicolon_9, x_C_readSemicolon_12, x_C_readSemicolon_14, x_C_readSemicolon_17, x_C_readSemicolon_18, x_C_readSemicolon_21, x_C_readSemicolon_22, x_C_readSemicolon_23, x_C_readSemicolon_26, x_C_readSemicolon_27, x_C_readSemicolon_28, x_C_readSemicolon_31, hS.1, sk, b, g2, q, nI_1', u, bI_0, bI_t, bI_f, e10, isA30, isA31, isA33, isA40, isA42, isA43, rOkB0, rOkB1, rOkB, Ret_v, Ret_n, cmp_eq, cmp_lt, cmp_gt, nI_1, eq_self, if_true, if_false, reduceIte]
  · have fh := fun Q' => c_C_failHere (Q := Q') (J := J) (f := f) hS g2 PF_3
    rw [PF_of3 g2, PF_PF] at fh
    have g3 : scPF I sc (skp x n 150 p) (flt f (skp x n 150 p)) sc 2 = nI (skp x n 150 p) := PF_2
    have u : u2 (scPF I sc (skp x n 150 p) (flt f (skp x n 150 p))) sc 2 (nI (skp x n 150 p + 1)) = scPF I sc (skp x n 150 p + 1) (flt f (skp x n 150 p)) := by rw [PF_of2 PF_3, PF_PF]
    simp only [x_C_readSemicolon_0, x_C_readSemicolon_1, x_C_readSemicolon_4, x_C_readSemicolon_5, x_C_readSemicolon_6, x_C_readSemicolon_9, x_C_readSemicolon_12, x_C_readSemicolon_14, x_C_readSemicolon_17, x_C_readSemicolon_18, x_C_readSemicolon_21, x_C_readSemicolon_22, x_C_readSemicolon_23, x_C_readSemicolon_26, x_C_readSemicolon_27, x_C_readSemicolon_28, x_C_readSemicolon_31, hS.1, sk, b, g2, q, fh, g3, nI_1', u, bI_0, bI_t, bI_f, e10, isA30, isA31, isA33, isA40, isA42, isA43, rOkB0, rOkB1, rOkB, Ret_v, Ret_n, cmp_eq, cmp_lt, cmp_gt, nI_1, eq_self, if_true, if_false, reduceIte]
end CD
