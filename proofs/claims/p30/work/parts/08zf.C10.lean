/-- the fault of the text from p on -/
def fot (x : Nat → Int32) (n : Nat) : Nat → Nat → Int32
  | 0, _ => -1
  | k + 1, p => if ¬ skp x n 150 p < n then -1 else if ¬ cwK x n (skp x n 150 p) < 8 then nI (skp x n 150 p) else
      if enF x n (cwK x n (skp x n 150 p)) (w2F x n (cwK x n (skp x n 150 p)) (w1F x n (cwK x n (skp x n 150 p)) (-1) (cwP x n (skp x n 150 p))) (w1P x n (cwK x n (skp x n 150 p)) (cwP x n (skp x n 150 p)))) (w2P x n (cwK x n (skp x n 150 p)) (w1P x n (cwK x n (skp x n 150 p)) (cwP x n (skp x n 150 p)))) = -1 then fot x n k (enP x n (cwK x n (skp x n 150 p)) (w2P x n (cwK x n (skp x n 150 p)) (w1P x n (cwK x n (skp x n 150 p)) (cwP x n (skp x n 150 p)))))
      else enF x n (cwK x n (skp x n 150 p)) (w2F x n (cwK x n (skp x n 150 p)) (w1F x n (cwK x n (skp x n 150 p)) (-1) (cwP x n (skp x n 150 p))) (w1P x n (cwK x n (skp x n 150 p)) (cwP x n (skp x n 150 p)))) (w2P x n (cwK x n (skp x n 150 p)) (w1P x n (cwK x n (skp x n 150 p)) (cwP x n (skp x n 150 p))))
theorem wP_le {x : Nat → Int32} {n p : Nat} (hp : p ≤ 151) (hn : n ≤ 150) : wP x n p ≤ 151 := by
  have h1 := skp_le (x := x) (n := n) 150 p
  have h2 := rdP_le (x := x) (n := n) 8 (skp x n 150 p)
  unfold wP; omega
theorem nP_le {x : Nat → Int32} {n p : Nat} (hp : p ≤ 151) (hn : n ≤ 150) : nP x n p ≤ 151 := by
  have h1 := skp_le (x := x) (n := n) 150 p
  have h2 := nuP_le (x := x) (n := n) 3 (skp x n 150 p)
  unfold nP; omega
theorem gP_le {b : Bool} {q p m : Nat} (hq : q ≤ m) (hp : p ≤ m) : gP b q p ≤ m := by
  unfold gP; split <;> omega
/-- behind a command that has no fault the text has not ended: a semicolon stood there -/
theorem enP_le {x : Nat → Int32} {n c p : Nat} {f : Int32} (hp : p ≤ 151) (hn : n ≤ 150) (h : enF x n c f p = -1) : enP x n c p ≤ 151 := by
  have a1 : n1P x n c p ≤ 151 := gP_le (nP_le hp hn) hp
  have a2 : arP x n c p ≤ 151 := gP_le (nP_le a1 hn) a1
  unfold enF semF at h
  unfold enP
  by_cases q : byA x n (skp x n 150 (arP x n c p)) = 59
  · have : skp x n 150 (arP x n c p) < n := byA_lt (by rw [q]; decide)
    omega
  · rw [if_neg q] at h
    exfalso
    have hl := skp_le (x := x) (n := n) 150 (arP x n c p)
    unfold flt at h
    by_cases q2 : arF x n c f p = -1
    · rw [if_pos q2] at h
      have := nI_toInt (n := skp x n 150 (arP x n c p)) (by omega)
      rw [h] at this
      simp at this
    · rw [if_neg q2] at h; exact q2 h

