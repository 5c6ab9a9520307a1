def sk_tyOk (t : Nat) (f : FieldType) : Bool := match t with
  | 0 => decide (f = .int)
  | 1 => decide (f = .long)
  | 2 => f.isReference
  | 3 => decide (f = .boolean)
  | _ => false
/-! own classes: their tables' words, types, names -/
def sk_okF (ci : Nat) : Prop := ∃ (C : String) (T : u_T) (N : Nat), sk_ow[ci]? = some (C, T, N) ∧ N = (sk_tyL.getD ci []).length ∧ (∀ w ∈ u_ws C T N, w ∈ sk_TB) ∧ (∀ k, k < N → parseFieldDescriptor (T k).2.2.1 = some (sk_FT ci k)) ∧ (∀ a, a < N → ∀ b, b < N → a ≠ b → (T a).2.1 ≠ (T b).2.1) ∧
  (∀ k, k < N → (T k).1 = C) ∧ (∀ k, k < N → sk_tyOk (sk_ty ci k) (sk_FT ci k) = true)
theorem sk_in0 : ∀ w ∈ u_ws "StuckKeys$Book" sk_T0 8, w ∈ lw_tbl := by decide +kernel
theorem sk_ok0 : sk_okF 0 := ⟨"StuckKeys$Book", sk_T0, 8, rfl, rfl, fun w h => List.mem_filter.mpr ⟨sk_in0 w h, List.all_eq_true.mp (show (u_ws "StuckKeys$Book" sk_T0 8).all goodWord = true by decide +kernel) w h⟩, sk_p0, sk_n0, by decide +kernel, by decide +kernel⟩
theorem sk_in1 : ∀ w ∈ u_ws "StuckKeys$Distances" sk_T1 7, w ∈ lw_tbl := by decide +kernel
theorem sk_ok1 : sk_okF 1 := ⟨"StuckKeys$Distances", sk_T1, 7, rfl, rfl, fun w h => List.mem_filter.mpr ⟨sk_in1 w h, List.all_eq_true.mp (show (u_ws "StuckKeys$Distances" sk_T1 7).all goodWord = true by decide +kernel) w h⟩, sk_p1, sk_n1, by decide +kernel, by decide +kernel⟩
theorem sk_in2 : ∀ w ∈ u_ws "StuckKeys$History" sk_T2 2, w ∈ lw_tbl := by decide +kernel
theorem sk_ok2 : sk_okF 2 := ⟨"StuckKeys$History", sk_T2, 2, rfl, rfl, fun w h => List.mem_filter.mpr ⟨sk_in2 w h, List.all_eq_true.mp (show (u_ws "StuckKeys$History" sk_T2 2).all goodWord = true by decide +kernel) w h⟩, sk_p2, sk_n2, by decide +kernel, by decide +kernel⟩
theorem sk_in3 : ∀ w ∈ u_ws "StuckKeys$Keyboard" sk_T3 3, w ∈ lw_tbl := by decide +kernel
theorem sk_ok3 : sk_okF 3 := ⟨"StuckKeys$Keyboard", sk_T3, 3, rfl, rfl, fun w h => List.mem_filter.mpr ⟨sk_in3 w h, List.all_eq_true.mp (show (u_ws "StuckKeys$Keyboard" sk_T3 3).all goodWord = true by decide +kernel) w h⟩, sk_p3, sk_n3, by decide +kernel, by decide +kernel⟩
theorem sk_in4 : ∀ w ∈ u_ws "StuckKeys$Rows" sk_T4 4, w ∈ lw_tbl := by decide +kernel
theorem sk_ok4 : sk_okF 4 := ⟨"StuckKeys$Rows", sk_T4, 4, rfl, rfl, fun w h => List.mem_filter.mpr ⟨sk_in4 w h, List.all_eq_true.mp (show (u_ws "StuckKeys$Rows" sk_T4 4).all goodWord = true by decide +kernel) w h⟩, sk_p4, sk_n4, by decide +kernel, by decide +kernel⟩
theorem sk_in5 : ∀ w ∈ u_ws "StuckKeys$Script" sk_T5 9, w ∈ lw_tbl := by decide +kernel
theorem sk_ok5 : sk_okF 5 := ⟨"StuckKeys$Script", sk_T5, 9, rfl, rfl, fun w h => List.mem_filter.mpr ⟨sk_in5 w h, List.all_eq_true.mp (show (u_ws "StuckKeys$Script" sk_T5 9).all goodWord = true by decide +kernel) w h⟩, sk_p5, sk_n5, by decide +kernel, by decide +kernel⟩
theorem sk_in6 : ∀ w ∈ u_ws "StuckKeys$Speller" sk_T6 3, w ∈ lw_tbl := by decide +kernel
theorem sk_ok6 : sk_okF 6 := ⟨"StuckKeys$Speller", sk_T6, 3, rfl, rfl, fun w h => List.mem_filter.mpr ⟨sk_in6 w h, List.all_eq_true.mp (show (u_ws "StuckKeys$Speller" sk_T6 3).all goodWord = true by decide +kernel) w h⟩, sk_p6, sk_n6, by decide +kernel, by decide +kernel⟩
theorem sk_in7 : ∀ w ∈ u_ws "StuckKeys" sk_T7 5, w ∈ lw_tbl := by decide +kernel
theorem sk_ok7 : sk_okF 7 := ⟨"StuckKeys", sk_T7, 5, rfl, rfl, fun w h => List.mem_filter.mpr ⟨sk_in7 w h, List.all_eq_true.mp (show (u_ws "StuckKeys" sk_T7 5).all goodWord = true by decide +kernel) w h⟩, sk_p7, sk_n7, by decide +kernel, by decide +kernel⟩
theorem sk_in8 : ∀ w ∈ u_ws "StuckKeys" sk_T8 5, w ∈ lw_tbl := by decide +kernel
theorem sk_ok8 : sk_okF 8 := ⟨"StuckKeys", sk_T8, 5, rfl, rfl, fun w h => List.mem_filter.mpr ⟨sk_in8 w h, List.all_eq_true.mp (show (u_ws "StuckKeys" sk_T8 5).all goodWord = true by decide +kernel) w h⟩, sk_p8, sk_n8, by decide +kernel, by decide +kernel⟩
theorem sk_ok_all : ∀ ci, ci < 9 → sk_okF ci := lt_s (lt_s (lt_s (lt_s (lt_s (lt_s (lt_s (lt_s (lt_s (lt_0) sk_ok0) sk_ok1) sk_ok2) sk_ok3) sk_ok4) sk_ok5) sk_ok6) sk_ok7) sk_ok8
theorem sk_fl_of {c idx ci k t fin nest : Nat} (hc : c < 19) (h : sk_lkF c idx = some (ci, k, t, fin, nest)) : sk_fl c (idx, ci, k, t, fin, nest) = true := sk_fl_all c hc _ (sk_lookup h)
theorem sk_sl_of {c idx j : Nat} (hc : c < 19) (h : sk_lkS c idx = some j) : sk_sl c (idx, j) = true := sk_sl_all c hc _ (sk_lookup h)
theorem sk_kl_of {c idx : Nat} {v : Int64} (hc : c < 19) (h : sk_lkK c idx = some v) : Cond.constantLong (sk_cn c) idx v ∈ sk_TB := sk_isw_mem (sk_kl_all c hc _ (sk_lookup h))
theorem sk_il_of {c idx : Nat} {v : Int32} (hc : c < 19) (h : sk_lkI c idx = some v) : Cond.constant (sk_cn c) idx v ∈ sk_TB := sk_isw_mem (sk_il_all c hc _ (sk_lookup h))
theorem sk_nl_of {c idx ci : Nat} (hc : c < 19) (h : sk_lkN c idx = some ci) : sk_nl c (idx, ci) = true := sk_nl_all c hc _ (sk_lookup h)
theorem sk_ml_of {c idx m : Nat} (hc : c < 19) (h : sk_lkM c idx = some m) : sk_ml c (idx, m) = true := sk_ml_all c hc _ (sk_lookup h)
theorem sk_arI : Cond.arrayClass .int ∈ sk_TB := sk_memT (i := 111) rfl rfl
theorem sk_arL : Cond.arrayClass .long ∈ sk_TB := sk_memT (i := 141) rfl rfl
