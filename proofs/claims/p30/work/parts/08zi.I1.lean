/-! what always holds of the book is kept -/
theorem alF_eq : ∀ k n, ∃ j, alF k n = n * 32 ^ j
  | 0, n => ⟨0, by simp [alF]⟩
  | k + 1, n => by
    simp only [alF]
    split
    · obtain ⟨j, e⟩ := alF_eq k (n * 32)
      exact ⟨j + 1, by rw [e, Nat.pow_succ', Nat.mul_assoc]⟩
    · exact ⟨0, by simp⟩
theorem wOk_m {n : Nat} (h0 : 0 < n) (h : wOk 8 n = true) : 1 ≤ n % 32 := by
  unfold wOk at h
  rw [if_neg (by omega), Bool.and_eq_true, decide_eq_true_eq] at h
  exact h.1.1
theorem alF_inj {n m i j : Nat} (hn : 1 ≤ n % 32) (hm : 1 ≤ m % 32) (e : n * 32 ^ i = m * 32 ^ j) : n = m := by
  have key : ∀ (a b i d : Nat), 1 ≤ a % 32 → a * 32 ^ i = b * 32 ^ (i + d) → a = b := by
    intro a b i d ha e
    rw [Nat.pow_add, ← Nat.mul_assoc, Nat.mul_right_comm] at e
    have e2 := Nat.eq_of_mul_eq_mul_right (Nat.pow_pos (by omega)) e
    cases d with
    | zero => simpa using e2
    | succ d =>
      rw [Nat.pow_succ, ← Nat.mul_assoc] at e2
      omega
  rcases Nat.le_total i j with h | h
  · exact key n m i (j - i) hn (by rw [show i + (j - i) = j by omega]; exact e)
  · exact (key m n j (i - j) hm (by rw [show j + (i - j) = i by omega]; exact e.symm)).symm
theorem alg_inj {w u : Int64} (hw : isW w = true) (hu : isW u = true) (e : alg w = alg u) : w = u := by
  obtain ⟨n, e1, n0, n4, n8⟩ := isW_of hw
  obtain ⟨m, e2, m0, m4, m8⟩ := isW_of hu
  rw [e1, e2, alg_lW (by omega), alg_lW (by omega)] at e
  obtain ⟨i, ei⟩ := alF_eq 7 n
  obtain ⟨j, ej⟩ := alF_eq 7 m
  rw [ei, ej] at e
  rw [e1, e2, alF_inj (wOk_m n0 n8) (wOk_m m0 m8) e]
theorem cnt_down {P : Nat → Bool} : ∀ (k i : Nat), (∀ l j, i ≤ l → l < j → j < i + k → P j = true → P l = true) → ∀ j, i ≤ j → j < i + k → (P j = true ↔ j < i + cnt P i k)
  | 0, i, _, j, h1, h2 => by omega
  | k + 1, i, h, j, h1, h2 => by
    simp only [cnt]
    have ih := cnt_down k (i + 1) (fun l j a b c d => h l j (by omega) b (by omega) d)
    by_cases q : P i = true
    · rw [if_pos q]
      by_cases e : j = i
      · subst e; simp only [q]; constructor
        · intro; omega
        · intro; trivial
      · rw [ih j (by omega) (by omega)]; omega
    · rw [if_neg q]
      have z : cnt P (i + 1) k = 0 := by
        cases k with
        | zero => simp [cnt]
        | succ k =>
          have z1 := (ih (i + 1) (by omega) (by omega)).mpr
          by_cases z0 : cnt P (i + 1) (k + 1) = 0
          · exact z0
          · exact absurd (h i (i + 1) (by omega) (by omega) (by omega) (z1 (by omega))) q
      rw [z]
      constructor
      · intro hj
        by_cases e : j = i
        · subst e; exact absurd hj q
        · exact absurd (h i j (by omega) (by omega) (by omega) hj) q
      · intro hj; omega
section IA
variable {p : Rw} {w u : Int64} {k : Nat} {c : Int32} {lo hi : Int} {T : Nat} {a : Bk}
theorem ahd_iff (h : srt p) {i : Nat} (hi : i < p.1) : alg (p.2.1 i) < alg w ↔ i < ahd p w := by
  have := cnt_down (P := fun i => decide (alg (p.2.1 i) < alg w)) p.1 0 (fun l j _ h2 h3 h4 => by
    have h5 := h l j h2 (by omega)
    have h6 := of_decide_eq_true h4
    exact decide_eq_true (by omega)) i (Nat.zero_le _) (by omega)
  rw [Nat.zero_add] at this
  unfold ahd
  rw [← this, decide_eq_true_eq]
theorem rZ_ins (h : rZ p) (hk : k ≤ p.1) : rZ (rIns p k w 0 c) := by
  intro i hi
  have hi : i < p.1 + 1 := hi
  show (if i < k then p.2.2.1 i else if i = k then 0 else p.2.2.1 (i - 1)) = 0
  by_cases a1 : i < k
  · rw [if_pos a1]
    by_cases a2 : i < p.1
    · exact h _ a2
    · omega
  · rw [if_neg a1]
    by_cases a2 : i = k
    · rw [if_pos a2]
    · rw [if_neg a2]; exact h _ (by omega)
theorem rZ_del (h : rZ p) : rZ (rDel p k) := by
  intro i hi
  have hi : i < p.1 - 1 := hi
  show (if i < k then p.2.2.1 i else p.2.2.1 (i + 1)) = 0
  split
  · exact h _ (by omega)
  · exact h _ (by omega)
theorem rZ_put (h : rZ p) : rZ (rPut p k c) := h
theorem rWd_ins (h : rWd p) (hk : k ≤ p.1) (hw : isW w = true) : rWd (rIns p k w u c) := by
  intro i hi
  have hi : i < p.1 + 1 := hi
  show isW (if i < k then p.2.1 i else if i = k then w else p.2.1 (i - 1)) = true
  by_cases a1 : i < k
  · rw [if_pos a1]; exact h _ (by omega)
  · rw [if_neg a1]
    by_cases a2 : i = k
    · rw [if_pos a2]; exact hw
    · rw [if_neg a2]; exact h _ (by omega)
theorem rWd_del (h : rWd p) : rWd (rDel p k) := by
  intro i hi
  have hi : i < p.1 - 1 := hi
  show isW (if i < k then p.2.1 i else p.2.1 (i + 1)) = true
  split
  · exact h _ (by omega)
  · exact h _ (by omega)
theorem rIn_ins (h : rIn p lo hi) (hk : k ≤ p.1) (hc : lo ≤ c.toInt ∧ c.toInt ≤ hi) : rIn (rIns p k w u c) lo hi := by
  intro i hi'
  have hi' : i < p.1 + 1 := hi'
  show lo ≤ (if i < k then p.2.2.2 i else if i = k then c else p.2.2.2 (i - 1)).toInt ∧ (if i < k then p.2.2.2 i else if i = k then c else p.2.2.2 (i - 1)).toInt ≤ hi
  by_cases a1 : i < k
  · rw [if_pos a1]; exact h _ (by omega)
  · rw [if_neg a1]
    by_cases a2 : i = k
    · rw [if_pos a2]; exact hc
    · rw [if_neg a2]; exact h _ (by omega)
theorem rIn_del (h : rIn p lo hi) : rIn (rDel p k) lo hi := by
  intro i hi'
  have hi' : i < p.1 - 1 := hi'
  show lo ≤ (if i < k then p.2.2.2 i else p.2.2.2 (i + 1)).toInt ∧ (if i < k then p.2.2.2 i else p.2.2.2 (i + 1)).toInt ≤ hi
  by_cases a1 : i < k
  · rw [if_pos a1]; exact h _ (by omega)
  · rw [if_neg a1]; exact h _ (by omega)
theorem rIn_put (h : rIn p lo hi) (hc : lo ≤ c.toInt ∧ c.toInt ≤ hi) : rIn (rPut p k c) lo hi := by
  intro i hi'
  have hi' : i < p.1 := hi'
  show lo ≤ (if i = k then c else p.2.2.2 i).toInt ∧ (if i = k then c else p.2.2.2 i).toInt ≤ hi
  by_cases a1 : i = k
  · rw [if_pos a1]; exact hc
  · rw [if_neg a1]; exact h _ hi'
theorem rIn_mono {hi' : Int} (h : rIn p lo hi) (h2 : hi ≤ hi') : rIn p lo hi' := fun i hi => ⟨(h i hi).1, by have := (h i hi).2; omega⟩
theorem srt_del (h : srt p) : srt (rDel p k) := by
  intro i j hij hj
  have hj : j < p.1 - 1 := hj
  show alg (if i < k then p.2.1 i else p.2.1 (i + 1)) < alg (if j < k then p.2.1 j else p.2.1 (j + 1))
  by_cases a1 : i < k
  · rw [if_pos a1]
    split
    · exact h _ _ hij (by omega)
    · exact h _ _ (by omega) (by omega)
  · rw [if_neg a1, if_neg (by omega)]
    exact h _ _ (by omega) (by omega)
theorem srt_ins (h : srt p) (hp : rWd p) (hw : isW w = true) (hn : ¬ fw p w < p.1) : srt (rIns p (ahd p w) w u c) := by
  have ne : ∀ i, i < p.1 → ¬ alg (p.2.1 i) = alg w := fun i hi e => by
    have l := fw_le (p := p) (w := w)
    exact fw_no (p := p) (w := w) (j := i) (by omega) (alg_inj (hp i hi) hw e)
  intro i j hij hj
  have hj : j < p.1 + 1 := hj
  have al := ahd_le (p := p) (w := w)
  show alg (if i < ahd p w then p.2.1 i else if i = ahd p w then w else p.2.1 (i - 1)) < alg (if j < ahd p w then p.2.1 j else if j = ahd p w then w else p.2.1 (j - 1))
  have gt : ∀ l, ahd p w ≤ l → l < p.1 → alg w < alg (p.2.1 l) := fun l h1 h2 => by
    have := ahd_iff (w := w) h h2
    have := ne l h2
    omega
  by_cases a1 : i < ahd p w
  · rw [if_pos a1]
    by_cases b1 : j < ahd p w
    · rw [if_pos b1]; exact h _ _ hij (by omega)
    · rw [if_neg b1]
      by_cases b2 : j = ahd p w
      · rw [if_pos b2]; exact (ahd_iff h (by omega)).mpr a1
      · rw [if_neg b2]; exact h _ _ (by omega) (by omega)
  · rw [if_neg a1, if_neg (c := j < ahd p w) (by omega), if_neg (c := j = ahd p w) (by omega)]
    by_cases a2 : i = ahd p w
    · rw [if_pos a2]; exact gt _ (by omega) (by omega)
    · rw [if_neg a2]; exact h _ _ (by omega) (by omega)
theorem srt_put (h : srt p) : srt (rPut p k c) := h
theorem cut_le {m : Nat} (h : p.1 ≤ m) (hm : 0 < m) : (cut p m).1 ≤ m - 1 ∧ (cut p m).1 ≤ p.1 := by
  unfold cut
  split
  · show p.1 - 1 ≤ m - 1 ∧ p.1 - 1 ≤ p.1; omega
  · omega
theorem cut_Z {m : Nat} (h : rZ p) : rZ (cut p m) := by unfold cut; split; exact rZ_del h; exact h
theorem cut_Wd {m : Nat} (h : rWd p) : rWd (cut p m) := by unfold cut; split; exact rWd_del h; exact h
theorem cut_In {m : Nat} (h : rIn p lo hi) : rIn (cut p m) lo hi := by unfold cut; split; exact rIn_del h; exact h
theorem up1_in {m : Int32} (h : lo ≤ c.toInt ∧ c.toInt ≤ m.toInt) (h2 : lo ≤ m.toInt) (h3 : m.toInt < 2147483647) (h4 : -2147483648 ≤ lo) : lo ≤ (up1 c m).toInt ∧ (up1 c m).toInt ≤ m.toInt := by
  have e : (c + 1).toInt = c.toInt + 1 := by
    rw [Int32.toInt_add, show (1 : Int32).toInt = 1 by decide]
    exact Int.bmod_eq_of_le (by omega) (by omega)
  unfold up1
  by_cases q : m < c + 1
  · rw [if_pos q]; omega
  · rw [if_neg q]
    rw [Int32.lt_iff_toInt_lt, e] at q
    omega
end IA

