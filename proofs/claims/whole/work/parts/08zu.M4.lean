/-! the model's row: what its changes make of a table -/
section MD
variable {f : Nat → Int64} {p : Rw} {k : Nat} {w u : Int64} {c : Int32}
def mWdel (f : Nat → Int64) (p : Rw) (k : Nat) : Nat → Int64 := ju (clsF (clsF f 35 p.1 k) 55 p.1 k) 0 (lW (p.1 - 1))
theorem mWdel_o {i : Nat} (hk : k < p.1) (hp : p.1 ≤ 20) (h : ¬ (i = 0 ∨ (35 ≤ i ∧ i < 75))) : mWdel f p k i = f i := by
  unfold mWdel
  rw [ju_of (by omega), cls_out (by omega) hk, cls_out (by omega) hk]
theorem NoW_del (h : NoW f p) (hk : k < p.1) (hp : p.1 ≤ 20) : NoW (mWdel f p k) (rDel p k) := by
  refine ⟨ju_eq, fun i hi => ?_, fun i hi => ?_⟩
  · have hi : i < p.1 - 1 := hi
    unfold mWdel
    rw [ju_of (by omega), cls_out (by omega) hk]
    exact cls_col h.2.1 hk i hi
  · have hi : i < p.1 - 1 := hi
    unfold mWdel
    rw [ju_of (by omega)]
    rw [nm_del]
    exact cls_col (col_of h.2.2 (fun j hj => by rw [cls_out (by omega) hk])) hk i hi
def mWins (f : Nat → Int64) (p : Rw) (k : Nat) (w : Int64) (c : Int32) : Nat → Int64 := ju (opnF (opnF f 35 p.1 k w) 55 p.1 k c.toInt64) 0 (lW (p.1 + 1))
theorem mWins_o {i : Nat} (hk : k ≤ p.1) (hp : p.1 < 20) (h : ¬ (i = 0 ∨ (35 ≤ i ∧ i < 75))) : mWins f p k w c i = f i := by
  unfold mWins
  rw [ju_of (by omega), opn_out (by omega) hk, opn_out (by omega) hk]
theorem NoW_ins (h : NoW f p) (hk : k ≤ p.1) (hp : p.1 < 20) : NoW (mWins f p k w c) (rIns p k w 0 c) := by
  refine ⟨ju_eq, fun i hi => ?_, fun i hi => ?_⟩
  · have hi : i < p.1 + 1 := hi
    unfold mWins
    rw [ju_of (by omega), opn_out (by omega) hk]
    exact opn_col h.2.1 hk i hi
  · have hi : i < p.1 + 1 := hi
    unfold mWins
    rw [ju_of (by omega)]
    rw [nm_ins]
    exact opn_col (col_of h.2.2 (fun j hj => by rw [opn_out (by omega) hk])) hk i hi
theorem NoW_put (h : NoW f p) (hk : k < p.1) (hp : p.1 ≤ 20) : NoW (ju f (55 + k) c.toInt64) (rPut p k c) := by
  refine ⟨by rw [ju_of (by omega)]; exact h.1, fun i hi => ?_, fun i hi => ?_⟩
  · have hi : i < p.1 := hi
    rw [ju_of (by omega)]
    exact h.2.1 i hi
  · have hi : i < p.1 := hi
    rw [nm_put]
    exact col_ju h.2.2 hk i hi
def mNdel (f : Nat → Int64) (p : Rw) (k : Nat) : Nat → Int64 := ju (clsF f 75 p.1 k) 1 (lW (p.1 - 1))
theorem mNdel_o {i : Nat} (hk : k < p.1) (hp : p.1 ≤ 10) (h : ¬ (i = 1 ∨ (75 ≤ i ∧ i < 85))) : mNdel f p k i = f i := by
  unfold mNdel
  rw [ju_of (by omega), cls_out (by omega) hk]
theorem NoN_del (h : NoN f p) (hk : k < p.1) (hp : p.1 ≤ 10) : NoN (mNdel f p k) (rDel p k) := by
  refine ⟨ju_eq, fun i hi => ?_⟩
  · have hi : i < p.1 - 1 := hi
    unfold mNdel
    rw [ju_of (by omega)]
    exact cls_col h.2 hk i hi
def mNins (f : Nat → Int64) (p : Rw) (k : Nat) (w : Int64) : Nat → Int64 := ju (opnF f 75 p.1 k w) 1 (lW (p.1 + 1))
theorem mNins_o {i : Nat} (hk : k ≤ p.1) (hp : p.1 < 10) (h : ¬ (i = 1 ∨ (75 ≤ i ∧ i < 85))) : mNins f p k w i = f i := by
  unfold mNins
  rw [ju_of (by omega), opn_out (by omega) hk]
theorem NoN_ins (h : NoN f p) (hk : k ≤ p.1) (hp : p.1 < 10) : NoN (mNins f p k w) (rIns p k w 0 0) := by
  refine ⟨ju_eq, fun i hi => ?_⟩
  · have hi : i < p.1 + 1 := hi
    unfold mNins
    rw [ju_of (by omega)]
    exact opn_col h.2 hk i hi
def mPdel (f : Nat → Int64) (p : Rw) (k : Nat) : Nat → Int64 := ju (clsF (clsF (clsF f 85 p.1 k) 109 p.1 k) 133 p.1 k) 2 (lW (p.1 - 1))
theorem mPdel_o {i : Nat} (hk : k < p.1) (hp : p.1 ≤ 24) (h : ¬ (i = 2 ∨ (85 ≤ i ∧ i < 157))) : mPdel f p k i = f i := by
  unfold mPdel
  rw [ju_of (by omega), cls_out (by omega) hk, cls_out (by omega) hk, cls_out (by omega) hk]
theorem NoP_del (h : NoP f p) (hk : k < p.1) (hp : p.1 ≤ 24) : NoP (mPdel f p k) (rDel p k) := by
  refine ⟨ju_eq, fun i hi => ?_, fun i hi => ?_, fun i hi => ?_⟩
  · have hi : i < p.1 - 1 := hi
    unfold mPdel
    rw [ju_of (by omega), cls_out (by omega) hk, cls_out (by omega) hk]
    exact cls_col h.2.1 hk i hi
  · have hi : i < p.1 - 1 := hi
    unfold mPdel
    rw [ju_of (by omega), cls_out (by omega) hk]
    exact cls_col (col_of h.2.2.1 (fun j hj => by rw [cls_out (by omega) hk])) hk i hi
  · have hi : i < p.1 - 1 := hi
    unfold mPdel
    rw [ju_of (by omega)]
    rw [nm_del]
    exact cls_col (col_of h.2.2.2 (fun j hj => by rw [cls_out (by omega) hk, cls_out (by omega) hk])) hk i hi
def mPapp (f : Nat → Int64) (p : Rw) (w u : Int64) (c : Int32) : Nat → Int64 := ju (ju (ju (ju f (85 + p.1) w) (109 + p.1) u) (133 + p.1) c.toInt64) 2 (lW (p.1 + 1))
theorem mPapp_o {i : Nat} (hp : p.1 < 24) (h : ¬ (i = 2 ∨ (85 ≤ i ∧ i < 157))) : mPapp f p w u c i = f i := by
  unfold mPapp
  rw [ju_of (by omega), ju_of (by omega), ju_of (by omega), ju_of (by omega)]
theorem NoP_app (h : NoP f p) (hp : p.1 < 24) : NoP (mPapp f p w u c) (rIns p p.1 w u c) := by
  refine ⟨ju_eq, fun i hi => ?_, fun i hi => ?_, fun i hi => ?_⟩
  · have hi : i < p.1 + 1 := hi
    unfold mPapp
    rw [ju_of (by omega), ju_of (by omega), ju_of (by omega)]
    exact col_app h.2.1 i hi
  · have hi : i < p.1 + 1 := hi
    unfold mPapp
    rw [ju_of (by omega), ju_of (by omega)]
    exact col_app (col_of h.2.2.1 (fun j hj => by rw [ju_of (by omega)])) i hi
  · have hi : i < p.1 + 1 := hi
    unfold mPapp
    rw [ju_of (by omega)]
    rw [nm_ins]
    exact col_app (col_of h.2.2.2 (fun j hj => by rw [ju_of (by omega), ju_of (by omega)])) i hi
theorem NoP_put (h : NoP f p) (hk : k < p.1) (hp : p.1 ≤ 24) : NoP (ju f (133 + k) c.toInt64) (rPut p k c) := by
  refine ⟨by rw [ju_of (by omega)]; exact h.1, fun i hi => ?_, fun i hi => ?_, fun i hi => ?_⟩
  · have hi : i < p.1 := hi
    rw [ju_of (by omega)]
    exact h.2.1 i hi
  · have hi : i < p.1 := hi
    rw [ju_of (by omega)]
    exact h.2.2.1 i hi
  · have hi : i < p.1 := hi
    rw [nm_put]
    exact col_ju h.2.2.2 hk i hi
def mBdel (f : Nat → Int64) (p : Rw) (k : Nat) : Nat → Int64 := ju (clsF (clsF f 157 p.1 k) 181 p.1 k) 3 (lW (p.1 - 1))
theorem mBdel_o {i : Nat} (hk : k < p.1) (hp : p.1 ≤ 24) (h : ¬ (i = 3 ∨ (157 ≤ i ∧ i < 205))) : mBdel f p k i = f i := by
  unfold mBdel
  rw [ju_of (by omega), cls_out (by omega) hk, cls_out (by omega) hk]
theorem NoB_del (h : NoB f p) (hk : k < p.1) (hp : p.1 ≤ 24) : NoB (mBdel f p k) (rDel p k) := by
  refine ⟨ju_eq, fun i hi => ?_, fun i hi => ?_⟩
  · have hi : i < p.1 - 1 := hi
    unfold mBdel
    rw [ju_of (by omega), cls_out (by omega) hk]
    exact cls_col h.2.1 hk i hi
  · have hi : i < p.1 - 1 := hi
    unfold mBdel
    rw [ju_of (by omega)]
    exact cls_col (col_of h.2.2 (fun j hj => by rw [cls_out (by omega) hk])) hk i hi
def mBapp (f : Nat → Int64) (p : Rw) (w u : Int64) : Nat → Int64 := ju (ju (ju f (157 + p.1) w) (181 + p.1) u) 3 (lW (p.1 + 1))
theorem mBapp_o {i : Nat} (hp : p.1 < 24) (h : ¬ (i = 3 ∨ (157 ≤ i ∧ i < 205))) : mBapp f p w u i = f i := by
  unfold mBapp
  rw [ju_of (by omega), ju_of (by omega), ju_of (by omega)]
theorem NoB_app (h : NoB f p) (hp : p.1 < 24) : NoB (mBapp f p w u) (rIns p p.1 w u 0) := by
  refine ⟨ju_eq, fun i hi => ?_, fun i hi => ?_⟩
  · have hi : i < p.1 + 1 := hi
    unfold mBapp
    rw [ju_of (by omega), ju_of (by omega)]
    exact col_app h.2.1 i hi
  · have hi : i < p.1 + 1 := hi
    unfold mBapp
    rw [ju_of (by omega)]
    exact col_app (col_of h.2.2 (fun j hj => by rw [ju_of (by omega)])) i hi
def mSdel (f : Nat → Int64) (p : Rw) (k : Nat) : Nat → Int64 := ju (clsF (clsF f 205 p.1 k) 225 p.1 k) 4 (lW (p.1 - 1))
theorem mSdel_o {i : Nat} (hk : k < p.1) (hp : p.1 ≤ 20) (h : ¬ (i = 4 ∨ (205 ≤ i ∧ i < 245))) : mSdel f p k i = f i := by
  unfold mSdel
  rw [ju_of (by omega), cls_out (by omega) hk, cls_out (by omega) hk]
theorem NoS_del (h : NoS f p) (hk : k < p.1) (hp : p.1 ≤ 20) : NoS (mSdel f p k) (rDel p k) := by
  refine ⟨ju_eq, fun i hi => ?_, fun i hi => ?_⟩
  · have hi : i < p.1 - 1 := hi
    unfold mSdel
    rw [ju_of (by omega), cls_out (by omega) hk]
    exact cls_col h.2.1 hk i hi
  · have hi : i < p.1 - 1 := hi
    unfold mSdel
    rw [ju_of (by omega)]
    rw [nm_del]
    exact cls_col (col_of h.2.2 (fun j hj => by rw [cls_out (by omega) hk])) hk i hi
def mSapp (f : Nat → Int64) (p : Rw) (w : Int64) (c : Int32) : Nat → Int64 := ju (ju (ju f (205 + p.1) w) (225 + p.1) c.toInt64) 4 (lW (p.1 + 1))
theorem mSapp_o {i : Nat} (hp : p.1 < 20) (h : ¬ (i = 4 ∨ (205 ≤ i ∧ i < 245))) : mSapp f p w c i = f i := by
  unfold mSapp
  rw [ju_of (by omega), ju_of (by omega), ju_of (by omega)]
theorem NoS_app (h : NoS f p) (hp : p.1 < 20) : NoS (mSapp f p w c) (rIns p p.1 w 0 c) := by
  refine ⟨ju_eq, fun i hi => ?_, fun i hi => ?_⟩
  · have hi : i < p.1 + 1 := hi
    unfold mSapp
    rw [ju_of (by omega), ju_of (by omega)]
    exact col_app h.2.1 i hi
  · have hi : i < p.1 + 1 := hi
    unfold mSapp
    rw [ju_of (by omega)]
    rw [nm_ins]
    exact col_app (col_of h.2.2 (fun j hj => by rw [ju_of (by omega)])) i hi
theorem NoS_put (h : NoS f p) (hk : k < p.1) (hp : p.1 ≤ 20) : NoS (ju f (225 + k) c.toInt64) (rPut p k c) := by
  refine ⟨by rw [ju_of (by omega)]; exact h.1, fun i hi => ?_, fun i hi => ?_⟩
  · have hi : i < p.1 := hi
    rw [ju_of (by omega)]
    exact h.2.1 i hi
  · have hi : i < p.1 := hi
    rw [nm_put]
    exact col_ju h.2.2 hk i hi
def mLdel (f : Nat → Int64) (p : Rw) (k : Nat) : Nat → Int64 := ju (clsF (clsF (clsF f 245 p.1 k) 265 p.1 k) 285 p.1 k) 5 (lW (p.1 - 1))
theorem mLdel_o {i : Nat} (hk : k < p.1) (hp : p.1 ≤ 20) (h : ¬ (i = 5 ∨ (245 ≤ i ∧ i < 305))) : mLdel f p k i = f i := by
  unfold mLdel
  rw [ju_of (by omega), cls_out (by omega) hk, cls_out (by omega) hk, cls_out (by omega) hk]
theorem NoL_del (h : NoL f p) (hk : k < p.1) (hp : p.1 ≤ 20) : NoL (mLdel f p k) (rDel p k) := by
  refine ⟨ju_eq, fun i hi => ?_, fun i hi => ?_, fun i hi => ?_⟩
  · have hi : i < p.1 - 1 := hi
    unfold mLdel
    rw [ju_of (by omega), cls_out (by omega) hk, cls_out (by omega) hk]
    exact cls_col h.2.1 hk i hi
  · have hi : i < p.1 - 1 := hi
    unfold mLdel
    rw [ju_of (by omega), cls_out (by omega) hk]
    exact cls_col (col_of h.2.2.1 (fun j hj => by rw [cls_out (by omega) hk])) hk i hi
  · have hi : i < p.1 - 1 := hi
    unfold mLdel
    rw [ju_of (by omega)]
    rw [nm_del]
    exact cls_col (col_of h.2.2.2 (fun j hj => by rw [cls_out (by omega) hk, cls_out (by omega) hk])) hk i hi
def mLapp (f : Nat → Int64) (p : Rw) (w u : Int64) (c : Int32) : Nat → Int64 := ju (ju (ju (ju f (245 + p.1) w) (265 + p.1) u) (285 + p.1) c.toInt64) 5 (lW (p.1 + 1))
theorem mLapp_o {i : Nat} (hp : p.1 < 20) (h : ¬ (i = 5 ∨ (245 ≤ i ∧ i < 305))) : mLapp f p w u c i = f i := by
  unfold mLapp
  rw [ju_of (by omega), ju_of (by omega), ju_of (by omega), ju_of (by omega)]
theorem NoL_app (h : NoL f p) (hp : p.1 < 20) : NoL (mLapp f p w u c) (rIns p p.1 w u c) := by
  refine ⟨ju_eq, fun i hi => ?_, fun i hi => ?_, fun i hi => ?_⟩
  · have hi : i < p.1 + 1 := hi
    unfold mLapp
    rw [ju_of (by omega), ju_of (by omega), ju_of (by omega)]
    exact col_app h.2.1 i hi
  · have hi : i < p.1 + 1 := hi
    unfold mLapp
    rw [ju_of (by omega), ju_of (by omega)]
    exact col_app (col_of h.2.2.1 (fun j hj => by rw [ju_of (by omega)])) i hi
  · have hi : i < p.1 + 1 := hi
    unfold mLapp
    rw [ju_of (by omega)]
    rw [nm_ins]
    exact col_app (col_of h.2.2.2 (fun j hj => by rw [ju_of (by omega), ju_of (by omega)])) i hi
theorem NoL_put (h : NoL f p) (hk : k < p.1) (hp : p.1 ≤ 20) : NoL (ju f (285 + k) c.toInt64) (rPut p k c) := by
  refine ⟨by rw [ju_of (by omega)]; exact h.1, fun i hi => ?_, fun i hi => ?_, fun i hi => ?_⟩
  · have hi : i < p.1 := hi
    rw [ju_of (by omega)]
    exact h.2.1 i hi
  · have hi : i < p.1 := hi
    rw [ju_of (by omega)]
    exact h.2.2.1 i hi
  · have hi : i < p.1 := hi
    rw [nm_put]
    exact col_ju h.2.2.2 hk i hi
end MD
