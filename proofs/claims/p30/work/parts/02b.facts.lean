def sk_mH : List (Nat × Nat × Nat × Nat) := [(297, 18, 296, 0), (301, 18, 300, 0), (305, 18, 304, 0), (309, 18, 308, 0), (321, 18, 320, 0), (565, 18, 564, 0), (568, 18, 567, 0), (318, 18, 317, 0), (588, 18, 587, 0), (683, 18, 682, 0), (736, 18, 735, 0), (754, 18, 753, 0), (785, 18, 784, 0), (751, 18, 750, 0), (668, 18, 667, 0), (297, 18, 296, 0), (297, 18, 296, 0), (297, 18, 296, 0), (297, 18, 296, 0), (297, 18, 296, 0), (297, 18, 296, 0), (297, 18, 296, 0), (297, 18, 296, 0), (0, 0, 0, 0), (42, 19, 41, 0), (594, 19, 592, 593), (672, 19, 670, 671), (687, 19, 685, 686), (699, 19, 697, 698), (707, 19, 705, 706), (722, 19, 720, 721), (806, 19, 804, 805), (758, 19, 756, 757), (297, 18, 296, 0), (436, 19, 434, 435), (422, 19, 420, 421), (572, 19, 570, 571), (584, 19, 582, 583), (297, 18, 296, 0), (325, 19, 323, 324), (297, 18, 296, 0), (478, 19, 476, 477), (801, 19, 799, 800), (297, 18, 296, 0), (789, 19, 787, 788), (297, 18, 296, 0), (297, 18, 296, 0), (297, 18, 296, 0), (297, 18, 296, 0), (297, 18, 296, 0), (740, 19, 738, 739), (297, 18, 296, 0), (297, 18, 296, 0), (297, 18, 296, 0), (297, 18, 296, 0), (398, 19, 397, 3), (297, 18, 296, 0), (297, 18, 296, 0), (297, 18, 296, 0), (297, 18, 296, 0), (297, 18, 296, 0), (297, 18, 296, 0), (439, 19, 438, 0), (328, 19, 327, 0), (609, 19, 608, 0), (597, 19, 596, 0), (710, 19, 709, 0), (713, 19, 712, 0), (725, 19, 724, 0), (50, 20, 49, 0), (56, 20, 55, 0), (110, 20, 109, 1), (114, 20, 112, 113), (118, 20, 116, 117), (558, 20, 556, 557), (297, 18, 296, 0), (554, 20, 552, 553), (135, 25, 134, 0), (641, 25, 639, 640), (486, 25, 484, 485), (469, 25, 467, 468), (508, 25, 506, 507), (601, 25, 599, 600), (691, 25, 689, 690), (456, 25, 454, 455), (650, 25, 648, 649), (676, 25, 674, 675), (695, 25, 693, 694), (703, 25, 701, 702), (297, 18, 296, 0), (538, 25, 536, 537), (717, 25, 715, 716), (418, 25, 416, 417), (733, 25, 731, 732), (814, 25, 812, 813), (820, 25, 818, 819), (824, 25, 823, 17), (781, 25, 779, 780), (766, 25, 765, 15), (762, 25, 760, 761), (773, 25, 771, 772), (452, 25, 450, 451), (406, 25, 404, 405), (141, 26, 140, 0), (410, 26, 408, 409), (605, 26, 603, 604), (430, 26, 429, 4), (426, 26, 424, 425), (503, 26, 501, 502), (464, 26, 462, 463), (576, 26, 574, 575), (654, 26, 652, 653), (460, 26, 458, 459), (474, 26, 472, 473), (414, 26, 412, 413), (828, 26, 826, 827), (658, 26, 656, 657), (777, 26, 775, 776), (665, 26, 664, 14), (680, 26, 678, 679), (645, 26, 643, 644), (195, 28, 194, 0), (297, 18, 296, 0), (482, 28, 480, 481), (810, 28, 808, 809), (491, 28, 490, 5), (499, 28, 498, 6), (512, 28, 510, 511), (562, 28, 561, 11), (297, 18, 296, 0), (797, 28, 796, 16), (793, 28, 791, 792), (297, 18, 296, 0), (297, 18, 296, 0), (201, 29, 200, 0), (519, 29, 517, 518), (522, 29, 521, 0), (531, 29, 530, 7), (542, 29, 541, 8), (546, 29, 545, 9), (534, 29, 533, 0), (550, 29, 549, 10), (239, 30, 238, 0), (744, 30, 742, 743), (629, 30, 627, 628), (633, 30, 632, 12), (748, 30, 746, 747), (637, 30, 636, 13), (255, 31, 254, 0), (402, 31, 400, 401), (297, 18, 296, 0), (297, 18, 296, 0), (297, 18, 296, 0), (297, 18, 296, 0), (297, 18, 296, 0), (297, 18, 296, 0), (297, 18, 296, 0), (297, 18, 296, 0), (297, 18, 296, 0), (297, 18, 296, 0), (297, 18, 296, 0), (297, 18, 296, 0), (297, 18, 296, 0), (297, 18, 296, 0), (297, 18, 296, 0), (297, 18, 296, 0), (297, 18, 296, 0), (442, 36, 441, 0), (445, 36, 444, 0), (297, 18, 296, 0), (527, 36, 526, 0), (297, 18, 296, 0), (661, 36, 660, 0), (297, 18, 296, 0), (297, 18, 296, 0), (297, 18, 296, 0), (297, 18, 296, 0), (297, 18, 296, 0), (297, 18, 296, 0), (297, 18, 296, 0), (297, 18, 296, 0), (297, 18, 296, 0), (297, 18, 296, 0), (297, 18, 296, 0), (297, 18, 296, 0), (297, 18, 296, 0), (297, 18, 296, 0), (297, 18, 296, 0), (297, 18, 296, 0), (297, 18, 296, 0), (297, 18, 296, 0), (297, 18, 296, 0), (297, 18, 296, 0), (297, 18, 296, 0), (297, 18, 296, 0), (297, 18, 296, 0), (297, 18, 296, 0), (297, 18, 296, 0), (297, 18, 296, 0), (297, 18, 296, 0), (297, 18, 296, 0), (297, 18, 296, 0), (297, 18, 296, 0), (297, 18, 296, 0), (297, 18, 296, 0), (297, 18, 296, 0), (297, 18, 296, 0), (297, 18, 296, 0), (297, 18, 296, 0), (297, 18, 296, 0), (297, 18, 296, 0), (297, 18, 296, 0), (297, 18, 296, 0), (297, 18, 296, 0), (297, 18, 296, 0), (297, 18, 296, 0), (297, 18, 296, 0), (297, 18, 296, 0), (297, 18, 296, 0), (297, 18, 296, 0), (297, 18, 296, 0), (297, 18, 296, 0), (297, 18, 296, 0), (297, 18, 296, 0), (297, 18, 296, 0), (297, 18, 296, 0), (297, 18, 296, 0), (297, 18, 296, 0), (297, 18, 296, 0), (297, 18, 296, 0), (297, 18, 296, 0), (297, 18, 296, 0), (297, 18, 296, 0), (297, 18, 296, 0), (297, 18, 296, 0), (297, 18, 296, 0), (297, 18, 296, 0), (297, 18, 296, 0), (297, 18, 296, 0), (297, 18, 296, 0), (297, 18, 296, 0), (297, 18, 296, 0), (297, 18, 296, 0), (297, 18, 296, 0), (297, 18, 296, 0), (297, 18, 296, 0), (297, 18, 296, 0), (297, 18, 296, 0), (297, 18, 296, 0), (297, 18, 296, 0), (145, 27, 144, 0), (515, 27, 514, 0), (297, 18, 296, 0), (297, 18, 296, 0), (60, 21, 58, 59), (70, 21, 68, 69), (64, 21, 62, 63), (74, 21, 72, 73), (80, 21, 79, 0), (77, 22, 76, 0), (85, 23, 84, 0)]
def sk_cw (m : Nat) : Cond := if (sk_hh m).isEmpty = true then .code (sk_nm m) (sk_by m) (sk_mx m) (sk_rt m) else .codeWith (sk_nm m) (sk_by m) (sk_mx m) (sk_rt m) (sk_hh m)
def sk_isw (i : Nat) (w : Cond) : Bool := decide (lw_tbl[i]? = some w) && goodWord w
theorem sk_isw_mem {i : Nat} {w : Cond} (h : sk_isw i w = true) : w ∈ sk_TB := by
  simp only [sk_isw, Bool.and_eq_true, decide_eq_true_eq] at h
  exact sk_mem h.1 h.2
/-- methods that are no callees by contract: the law, Math.max, Math.min, Enum.ordinal -/
def sk_sp (m : Nat) : Bool := m == 23 || m == 250 || m == 251 || m == 253
def sk_mf (m : Nat) : Bool := match sk_mH.getD m (0, 0, 0, 0) with
  | (_, b, c, d) => sk_isw b (.initialized (sk_nm m).cls) &&
    (match sk_kd m with
      | 0 => sk_isw c (.static (sk_nm m))
      | 1 => sk_isw c (.instanceMethod (sk_nm m)) && sk_isw d (.selects (sk_nm m).cls (sk_nm m) (sk_nm m))
      | _ => sk_isw c (.instanceMethod (sk_nm m)) && decide ((sk_nm m).name = "<init>") && decide (sk_rt m = none) && (sk_hh m).isEmpty) &&
    plainName (sk_nm m).cls && decide ((sk_nm m).cls ≠ "java/lang/invoke/MethodHandle") && decide ((sk_nm m).cls ≠ "java/lang/invoke/VarHandle") &&
    decide ((parseMethodDescriptor (sk_nm m).desc).map (fun d => d.parameters.length) = some (if sk_kd m = 0 then sk_na m else sk_na m - 1)) && decide ((sk_nm m).cls = sk_cn (sk_cl m)) && decide (sk_kd m < 3) && decide (sk_kd m = 0 ∨ 0 < sk_na m)

set_option maxRecDepth 100000 in
theorem sk_mf_0 : sk_sp 0 = false → sk_mf 0 = true ∧ sk_cw 0 ∈ sk_TB := fun _ => ⟨by decide +kernel, sk_mem (i := 297) rfl rfl⟩
set_option maxRecDepth 100000 in
theorem sk_mf_1 : sk_sp 1 = false → sk_mf 1 = true ∧ sk_cw 1 ∈ sk_TB := fun _ => ⟨by decide +kernel, sk_mem (i := 301) rfl rfl⟩
set_option maxRecDepth 100000 in
theorem sk_mf_2 : sk_sp 2 = false → sk_mf 2 = true ∧ sk_cw 2 ∈ sk_TB := fun _ => ⟨by decide +kernel, sk_mem (i := 305) rfl rfl⟩
set_option maxRecDepth 100000 in
theorem sk_mf_3 : sk_sp 3 = false → sk_mf 3 = true ∧ sk_cw 3 ∈ sk_TB := fun _ => ⟨by decide +kernel, sk_mem (i := 309) rfl rfl⟩
set_option maxRecDepth 100000 in
theorem sk_mf_4 : sk_sp 4 = false → sk_mf 4 = true ∧ sk_cw 4 ∈ sk_TB := fun _ => ⟨by decide +kernel, sk_mem (i := 321) rfl rfl⟩
set_option maxRecDepth 100000 in
theorem sk_mf_5 : sk_sp 5 = false → sk_mf 5 = true ∧ sk_cw 5 ∈ sk_TB := fun _ => ⟨by decide +kernel, sk_mem (i := 565) rfl rfl⟩
set_option maxRecDepth 100000 in
theorem sk_mf_6 : sk_sp 6 = false → sk_mf 6 = true ∧ sk_cw 6 ∈ sk_TB := fun _ => ⟨by decide +kernel, sk_mem (i := 568) rfl rfl⟩
set_option maxRecDepth 100000 in
theorem sk_mf_7 : sk_sp 7 = false → sk_mf 7 = true ∧ sk_cw 7 ∈ sk_TB := fun _ => ⟨by decide +kernel, sk_mem (i := 318) rfl rfl⟩
set_option maxRecDepth 100000 in
theorem sk_mf_8 : sk_sp 8 = false → sk_mf 8 = true ∧ sk_cw 8 ∈ sk_TB := fun _ => ⟨by decide +kernel, sk_mem (i := 588) rfl rfl⟩
set_option maxRecDepth 100000 in
theorem sk_mf_9 : sk_sp 9 = false → sk_mf 9 = true ∧ sk_cw 9 ∈ sk_TB := fun _ => ⟨by decide +kernel, sk_mem (i := 683) rfl rfl⟩
set_option maxRecDepth 100000 in
theorem sk_mf_10 : sk_sp 10 = false → sk_mf 10 = true ∧ sk_cw 10 ∈ sk_TB := fun _ => ⟨by decide +kernel, sk_mem (i := 736) rfl rfl⟩
set_option maxRecDepth 100000 in
theorem sk_mf_11 : sk_sp 11 = false → sk_mf 11 = true ∧ sk_cw 11 ∈ sk_TB := fun _ => ⟨by decide +kernel, sk_mem (i := 754) rfl rfl⟩
set_option maxRecDepth 100000 in
theorem sk_mf_12 : sk_sp 12 = false → sk_mf 12 = true ∧ sk_cw 12 ∈ sk_TB := fun _ => ⟨by decide +kernel, sk_mem (i := 785) rfl rfl⟩
set_option maxRecDepth 100000 in
theorem sk_mf_13 : sk_sp 13 = false → sk_mf 13 = true ∧ sk_cw 13 ∈ sk_TB := fun _ => ⟨by decide +kernel, sk_mem (i := 751) rfl rfl⟩
set_option maxRecDepth 100000 in
theorem sk_mf_14 : sk_sp 14 = false → sk_mf 14 = true ∧ sk_cw 14 ∈ sk_TB := fun _ => ⟨by decide +kernel, sk_mem (i := 668) rfl rfl⟩
set_option maxRecDepth 100000 in
theorem sk_mf_15 : sk_sp 15 = false → sk_mf 15 = true ∧ sk_cw 15 ∈ sk_TB := fun _ => ⟨by decide +kernel, sk_mem (i := 297) rfl rfl⟩
set_option maxRecDepth 100000 in
theorem sk_mf_16 : sk_sp 16 = false → sk_mf 16 = true ∧ sk_cw 16 ∈ sk_TB := fun _ => ⟨by decide +kernel, sk_mem (i := 297) rfl rfl⟩
set_option maxRecDepth 100000 in
theorem sk_mf_17 : sk_sp 17 = false → sk_mf 17 = true ∧ sk_cw 17 ∈ sk_TB := fun _ => ⟨by decide +kernel, sk_mem (i := 297) rfl rfl⟩
set_option maxRecDepth 100000 in
theorem sk_mf_18 : sk_sp 18 = false → sk_mf 18 = true ∧ sk_cw 18 ∈ sk_TB := fun _ => ⟨by decide +kernel, sk_mem (i := 297) rfl rfl⟩
set_option maxRecDepth 100000 in
theorem sk_mf_19 : sk_sp 19 = false → sk_mf 19 = true ∧ sk_cw 19 ∈ sk_TB := fun _ => ⟨by decide +kernel, sk_mem (i := 297) rfl rfl⟩
set_option maxRecDepth 100000 in
theorem sk_mf_20 : sk_sp 20 = false → sk_mf 20 = true ∧ sk_cw 20 ∈ sk_TB := fun _ => ⟨by decide +kernel, sk_mem (i := 297) rfl rfl⟩
set_option maxRecDepth 100000 in
theorem sk_mf_21 : sk_sp 21 = false → sk_mf 21 = true ∧ sk_cw 21 ∈ sk_TB := fun _ => ⟨by decide +kernel, sk_mem (i := 297) rfl rfl⟩
set_option maxRecDepth 100000 in
theorem sk_mf_22 : sk_sp 22 = false → sk_mf 22 = true ∧ sk_cw 22 ∈ sk_TB := fun _ => ⟨by decide +kernel, sk_mem (i := 297) rfl rfl⟩
theorem sk_mf_23 : sk_sp 23 = false → sk_mf 23 = true ∧ sk_cw 23 ∈ sk_TB := fun h => by cases h
set_option maxRecDepth 100000 in
theorem sk_mf_24 : sk_sp 24 = false → sk_mf 24 = true ∧ sk_cw 24 ∈ sk_TB := fun _ => ⟨by decide +kernel, sk_mem (i := 42) rfl rfl⟩
set_option maxRecDepth 100000 in
theorem sk_mf_25 : sk_sp 25 = false → sk_mf 25 = true ∧ sk_cw 25 ∈ sk_TB := fun _ => ⟨by decide +kernel, sk_mem (i := 594) rfl rfl⟩
set_option maxRecDepth 100000 in
theorem sk_mf_26 : sk_sp 26 = false → sk_mf 26 = true ∧ sk_cw 26 ∈ sk_TB := fun _ => ⟨by decide +kernel, sk_mem (i := 672) rfl rfl⟩
set_option maxRecDepth 100000 in
theorem sk_mf_27 : sk_sp 27 = false → sk_mf 27 = true ∧ sk_cw 27 ∈ sk_TB := fun _ => ⟨by decide +kernel, sk_mem (i := 687) rfl rfl⟩
set_option maxRecDepth 100000 in
theorem sk_mf_28 : sk_sp 28 = false → sk_mf 28 = true ∧ sk_cw 28 ∈ sk_TB := fun _ => ⟨by decide +kernel, sk_mem (i := 699) rfl rfl⟩
set_option maxRecDepth 100000 in
theorem sk_mf_29 : sk_sp 29 = false → sk_mf 29 = true ∧ sk_cw 29 ∈ sk_TB := fun _ => ⟨by decide +kernel, sk_mem (i := 707) rfl rfl⟩
set_option maxRecDepth 100000 in
theorem sk_mf_30 : sk_sp 30 = false → sk_mf 30 = true ∧ sk_cw 30 ∈ sk_TB := fun _ => ⟨by decide +kernel, sk_mem (i := 722) rfl rfl⟩
set_option maxRecDepth 100000 in
theorem sk_mf_31 : sk_sp 31 = false → sk_mf 31 = true ∧ sk_cw 31 ∈ sk_TB := fun _ => ⟨by decide +kernel, sk_mem (i := 806) rfl rfl⟩
set_option maxRecDepth 100000 in
theorem sk_mf_32 : sk_sp 32 = false → sk_mf 32 = true ∧ sk_cw 32 ∈ sk_TB := fun _ => ⟨by decide +kernel, sk_mem (i := 758) rfl rfl⟩
set_option maxRecDepth 100000 in
theorem sk_mf_33 : sk_sp 33 = false → sk_mf 33 = true ∧ sk_cw 33 ∈ sk_TB := fun _ => ⟨by decide +kernel, sk_mem (i := 297) rfl rfl⟩
set_option maxRecDepth 100000 in
theorem sk_mf_34 : sk_sp 34 = false → sk_mf 34 = true ∧ sk_cw 34 ∈ sk_TB := fun _ => ⟨by decide +kernel, sk_mem (i := 436) rfl rfl⟩
set_option maxRecDepth 100000 in
theorem sk_mf_35 : sk_sp 35 = false → sk_mf 35 = true ∧ sk_cw 35 ∈ sk_TB := fun _ => ⟨by decide +kernel, sk_mem (i := 422) rfl rfl⟩
set_option maxRecDepth 100000 in
theorem sk_mf_36 : sk_sp 36 = false → sk_mf 36 = true ∧ sk_cw 36 ∈ sk_TB := fun _ => ⟨by decide +kernel, sk_mem (i := 572) rfl rfl⟩
set_option maxRecDepth 100000 in
theorem sk_mf_37 : sk_sp 37 = false → sk_mf 37 = true ∧ sk_cw 37 ∈ sk_TB := fun _ => ⟨by decide +kernel, sk_mem (i := 584) rfl rfl⟩
set_option maxRecDepth 100000 in
theorem sk_mf_38 : sk_sp 38 = false → sk_mf 38 = true ∧ sk_cw 38 ∈ sk_TB := fun _ => ⟨by decide +kernel, sk_mem (i := 297) rfl rfl⟩
set_option maxRecDepth 100000 in
theorem sk_mf_39 : sk_sp 39 = false → sk_mf 39 = true ∧ sk_cw 39 ∈ sk_TB := fun _ => ⟨by decide +kernel, sk_mem (i := 325) rfl rfl⟩
set_option maxRecDepth 100000 in
theorem sk_mf_40 : sk_sp 40 = false → sk_mf 40 = true ∧ sk_cw 40 ∈ sk_TB := fun _ => ⟨by decide +kernel, sk_mem (i := 297) rfl rfl⟩
set_option maxRecDepth 100000 in
theorem sk_mf_41 : sk_sp 41 = false → sk_mf 41 = true ∧ sk_cw 41 ∈ sk_TB := fun _ => ⟨by decide +kernel, sk_mem (i := 478) rfl rfl⟩
set_option maxRecDepth 100000 in
theorem sk_mf_42 : sk_sp 42 = false → sk_mf 42 = true ∧ sk_cw 42 ∈ sk_TB := fun _ => ⟨by decide +kernel, sk_mem (i := 801) rfl rfl⟩
set_option maxRecDepth 100000 in
theorem sk_mf_43 : sk_sp 43 = false → sk_mf 43 = true ∧ sk_cw 43 ∈ sk_TB := fun _ => ⟨by decide +kernel, sk_mem (i := 297) rfl rfl⟩
set_option maxRecDepth 100000 in
theorem sk_mf_44 : sk_sp 44 = false → sk_mf 44 = true ∧ sk_cw 44 ∈ sk_TB := fun _ => ⟨by decide +kernel, sk_mem (i := 789) rfl rfl⟩
set_option maxRecDepth 100000 in
theorem sk_mf_45 : sk_sp 45 = false → sk_mf 45 = true ∧ sk_cw 45 ∈ sk_TB := fun _ => ⟨by decide +kernel, sk_mem (i := 297) rfl rfl⟩
set_option maxRecDepth 100000 in
theorem sk_mf_46 : sk_sp 46 = false → sk_mf 46 = true ∧ sk_cw 46 ∈ sk_TB := fun _ => ⟨by decide +kernel, sk_mem (i := 297) rfl rfl⟩
set_option maxRecDepth 100000 in
theorem sk_mf_47 : sk_sp 47 = false → sk_mf 47 = true ∧ sk_cw 47 ∈ sk_TB := fun _ => ⟨by decide +kernel, sk_mem (i := 297) rfl rfl⟩
set_option maxRecDepth 100000 in
theorem sk_mf_48 : sk_sp 48 = false → sk_mf 48 = true ∧ sk_cw 48 ∈ sk_TB := fun _ => ⟨by decide +kernel, sk_mem (i := 297) rfl rfl⟩
set_option maxRecDepth 100000 in
theorem sk_mf_49 : sk_sp 49 = false → sk_mf 49 = true ∧ sk_cw 49 ∈ sk_TB := fun _ => ⟨by decide +kernel, sk_mem (i := 297) rfl rfl⟩
set_option maxRecDepth 100000 in
theorem sk_mf_50 : sk_sp 50 = false → sk_mf 50 = true ∧ sk_cw 50 ∈ sk_TB := fun _ => ⟨by decide +kernel, sk_mem (i := 740) rfl rfl⟩
set_option maxRecDepth 100000 in
theorem sk_mf_51 : sk_sp 51 = false → sk_mf 51 = true ∧ sk_cw 51 ∈ sk_TB := fun _ => ⟨by decide +kernel, sk_mem (i := 297) rfl rfl⟩
set_option maxRecDepth 100000 in
theorem sk_mf_52 : sk_sp 52 = false → sk_mf 52 = true ∧ sk_cw 52 ∈ sk_TB := fun _ => ⟨by decide +kernel, sk_mem (i := 297) rfl rfl⟩
set_option maxRecDepth 100000 in
theorem sk_mf_53 : sk_sp 53 = false → sk_mf 53 = true ∧ sk_cw 53 ∈ sk_TB := fun _ => ⟨by decide +kernel, sk_mem (i := 297) rfl rfl⟩
set_option maxRecDepth 100000 in
theorem sk_mf_54 : sk_sp 54 = false → sk_mf 54 = true ∧ sk_cw 54 ∈ sk_TB := fun _ => ⟨by decide +kernel, sk_mem (i := 297) rfl rfl⟩
set_option maxRecDepth 100000 in
theorem sk_mf_55 : sk_sp 55 = false → sk_mf 55 = true ∧ sk_cw 55 ∈ sk_TB := fun _ => ⟨by decide +kernel, sk_mem (i := 398) rfl rfl⟩
set_option maxRecDepth 100000 in
theorem sk_mf_56 : sk_sp 56 = false → sk_mf 56 = true ∧ sk_cw 56 ∈ sk_TB := fun _ => ⟨by decide +kernel, sk_mem (i := 297) rfl rfl⟩
set_option maxRecDepth 100000 in
theorem sk_mf_57 : sk_sp 57 = false → sk_mf 57 = true ∧ sk_cw 57 ∈ sk_TB := fun _ => ⟨by decide +kernel, sk_mem (i := 297) rfl rfl⟩
set_option maxRecDepth 100000 in
theorem sk_mf_58 : sk_sp 58 = false → sk_mf 58 = true ∧ sk_cw 58 ∈ sk_TB := fun _ => ⟨by decide +kernel, sk_mem (i := 297) rfl rfl⟩
set_option maxRecDepth 100000 in
theorem sk_mf_59 : sk_sp 59 = false → sk_mf 59 = true ∧ sk_cw 59 ∈ sk_TB := fun _ => ⟨by decide +kernel, sk_mem (i := 297) rfl rfl⟩
set_option maxRecDepth 100000 in
theorem sk_mf_60 : sk_sp 60 = false → sk_mf 60 = true ∧ sk_cw 60 ∈ sk_TB := fun _ => ⟨by decide +kernel, sk_mem (i := 297) rfl rfl⟩
set_option maxRecDepth 100000 in
theorem sk_mf_61 : sk_sp 61 = false → sk_mf 61 = true ∧ sk_cw 61 ∈ sk_TB := fun _ => ⟨by decide +kernel, sk_mem (i := 297) rfl rfl⟩
set_option maxRecDepth 100000 in
theorem sk_mf_62 : sk_sp 62 = false → sk_mf 62 = true ∧ sk_cw 62 ∈ sk_TB := fun _ => ⟨by decide +kernel, sk_mem (i := 439) rfl rfl⟩
set_option maxRecDepth 100000 in
theorem sk_mf_63 : sk_sp 63 = false → sk_mf 63 = true ∧ sk_cw 63 ∈ sk_TB := fun _ => ⟨by decide +kernel, sk_mem (i := 328) rfl rfl⟩
set_option maxRecDepth 100000 in
theorem sk_mf_64 : sk_sp 64 = false → sk_mf 64 = true ∧ sk_cw 64 ∈ sk_TB := fun _ => ⟨by decide +kernel, sk_mem (i := 609) rfl rfl⟩
set_option maxRecDepth 100000 in
theorem sk_mf_65 : sk_sp 65 = false → sk_mf 65 = true ∧ sk_cw 65 ∈ sk_TB := fun _ => ⟨by decide +kernel, sk_mem (i := 597) rfl rfl⟩
set_option maxRecDepth 100000 in
theorem sk_mf_66 : sk_sp 66 = false → sk_mf 66 = true ∧ sk_cw 66 ∈ sk_TB := fun _ => ⟨by decide +kernel, sk_mem (i := 710) rfl rfl⟩
set_option maxRecDepth 100000 in
theorem sk_mf_67 : sk_sp 67 = false → sk_mf 67 = true ∧ sk_cw 67 ∈ sk_TB := fun _ => ⟨by decide +kernel, sk_mem (i := 713) rfl rfl⟩
set_option maxRecDepth 100000 in
theorem sk_mf_68 : sk_sp 68 = false → sk_mf 68 = true ∧ sk_cw 68 ∈ sk_TB := fun _ => ⟨by decide +kernel, sk_mem (i := 725) rfl rfl⟩
set_option maxRecDepth 100000 in
theorem sk_mf_69 : sk_sp 69 = false → sk_mf 69 = true ∧ sk_cw 69 ∈ sk_TB := fun _ => ⟨by decide +kernel, sk_mem (i := 50) rfl rfl⟩
set_option maxRecDepth 100000 in
theorem sk_mf_70 : sk_sp 70 = false → sk_mf 70 = true ∧ sk_cw 70 ∈ sk_TB := fun _ => ⟨by decide +kernel, sk_mem (i := 56) rfl rfl⟩
set_option maxRecDepth 100000 in
theorem sk_mf_71 : sk_sp 71 = false → sk_mf 71 = true ∧ sk_cw 71 ∈ sk_TB := fun _ => ⟨by decide +kernel, sk_mem (i := 110) rfl rfl⟩
set_option maxRecDepth 100000 in
theorem sk_mf_72 : sk_sp 72 = false → sk_mf 72 = true ∧ sk_cw 72 ∈ sk_TB := fun _ => ⟨by decide +kernel, sk_mem (i := 114) rfl rfl⟩
set_option maxRecDepth 100000 in
theorem sk_mf_73 : sk_sp 73 = false → sk_mf 73 = true ∧ sk_cw 73 ∈ sk_TB := fun _ => ⟨by decide +kernel, sk_mem (i := 118) rfl rfl⟩
set_option maxRecDepth 100000 in
theorem sk_mf_74 : sk_sp 74 = false → sk_mf 74 = true ∧ sk_cw 74 ∈ sk_TB := fun _ => ⟨by decide +kernel, sk_mem (i := 558) rfl rfl⟩
set_option maxRecDepth 100000 in
theorem sk_mf_75 : sk_sp 75 = false → sk_mf 75 = true ∧ sk_cw 75 ∈ sk_TB := fun _ => ⟨by decide +kernel, sk_mem (i := 297) rfl rfl⟩
set_option maxRecDepth 100000 in
theorem sk_mf_76 : sk_sp 76 = false → sk_mf 76 = true ∧ sk_cw 76 ∈ sk_TB := fun _ => ⟨by decide +kernel, sk_mem (i := 554) rfl rfl⟩
set_option maxRecDepth 100000 in
theorem sk_mf_77 : sk_sp 77 = false → sk_mf 77 = true ∧ sk_cw 77 ∈ sk_TB := fun _ => ⟨by decide +kernel, sk_mem (i := 135) rfl rfl⟩
set_option maxRecDepth 100000 in
theorem sk_mf_78 : sk_sp 78 = false → sk_mf 78 = true ∧ sk_cw 78 ∈ sk_TB := fun _ => ⟨by decide +kernel, sk_mem (i := 641) rfl rfl⟩
set_option maxRecDepth 100000 in
theorem sk_mf_79 : sk_sp 79 = false → sk_mf 79 = true ∧ sk_cw 79 ∈ sk_TB := fun _ => ⟨by decide +kernel, sk_mem (i := 486) rfl rfl⟩
set_option maxRecDepth 100000 in
theorem sk_mf_80 : sk_sp 80 = false → sk_mf 80 = true ∧ sk_cw 80 ∈ sk_TB := fun _ => ⟨by decide +kernel, sk_mem (i := 469) rfl rfl⟩
set_option maxRecDepth 100000 in
theorem sk_mf_81 : sk_sp 81 = false → sk_mf 81 = true ∧ sk_cw 81 ∈ sk_TB := fun _ => ⟨by decide +kernel, sk_mem (i := 508) rfl rfl⟩
set_option maxRecDepth 100000 in
theorem sk_mf_82 : sk_sp 82 = false → sk_mf 82 = true ∧ sk_cw 82 ∈ sk_TB := fun _ => ⟨by decide +kernel, sk_mem (i := 601) rfl rfl⟩
set_option maxRecDepth 100000 in
theorem sk_mf_83 : sk_sp 83 = false → sk_mf 83 = true ∧ sk_cw 83 ∈ sk_TB := fun _ => ⟨by decide +kernel, sk_mem (i := 691) rfl rfl⟩
set_option maxRecDepth 100000 in
theorem sk_mf_84 : sk_sp 84 = false → sk_mf 84 = true ∧ sk_cw 84 ∈ sk_TB := fun _ => ⟨by decide +kernel, sk_mem (i := 456) rfl rfl⟩
set_option maxRecDepth 100000 in
theorem sk_mf_85 : sk_sp 85 = false → sk_mf 85 = true ∧ sk_cw 85 ∈ sk_TB := fun _ => ⟨by decide +kernel, sk_mem (i := 650) rfl rfl⟩
set_option maxRecDepth 100000 in
theorem sk_mf_86 : sk_sp 86 = false → sk_mf 86 = true ∧ sk_cw 86 ∈ sk_TB := fun _ => ⟨by decide +kernel, sk_mem (i := 676) rfl rfl⟩
set_option maxRecDepth 100000 in
theorem sk_mf_87 : sk_sp 87 = false → sk_mf 87 = true ∧ sk_cw 87 ∈ sk_TB := fun _ => ⟨by decide +kernel, sk_mem (i := 695) rfl rfl⟩
set_option maxRecDepth 100000 in
theorem sk_mf_88 : sk_sp 88 = false → sk_mf 88 = true ∧ sk_cw 88 ∈ sk_TB := fun _ => ⟨by decide +kernel, sk_mem (i := 703) rfl rfl⟩
set_option maxRecDepth 100000 in
theorem sk_mf_89 : sk_sp 89 = false → sk_mf 89 = true ∧ sk_cw 89 ∈ sk_TB := fun _ => ⟨by decide +kernel, sk_mem (i := 297) rfl rfl⟩
set_option maxRecDepth 100000 in
theorem sk_mf_90 : sk_sp 90 = false → sk_mf 90 = true ∧ sk_cw 90 ∈ sk_TB := fun _ => ⟨by decide +kernel, sk_mem (i := 538) rfl rfl⟩
set_option maxRecDepth 100000 in
theorem sk_mf_91 : sk_sp 91 = false → sk_mf 91 = true ∧ sk_cw 91 ∈ sk_TB := fun _ => ⟨by decide +kernel, sk_mem (i := 717) rfl rfl⟩
set_option maxRecDepth 100000 in
theorem sk_mf_92 : sk_sp 92 = false → sk_mf 92 = true ∧ sk_cw 92 ∈ sk_TB := fun _ => ⟨by decide +kernel, sk_mem (i := 418) rfl rfl⟩
set_option maxRecDepth 100000 in
theorem sk_mf_93 : sk_sp 93 = false → sk_mf 93 = true ∧ sk_cw 93 ∈ sk_TB := fun _ => ⟨by decide +kernel, sk_mem (i := 733) rfl rfl⟩
set_option maxRecDepth 100000 in
theorem sk_mf_94 : sk_sp 94 = false → sk_mf 94 = true ∧ sk_cw 94 ∈ sk_TB := fun _ => ⟨by decide +kernel, sk_mem (i := 814) rfl rfl⟩
set_option maxRecDepth 100000 in
theorem sk_mf_95 : sk_sp 95 = false → sk_mf 95 = true ∧ sk_cw 95 ∈ sk_TB := fun _ => ⟨by decide +kernel, sk_mem (i := 820) rfl rfl⟩
set_option maxRecDepth 100000 in
theorem sk_mf_96 : sk_sp 96 = false → sk_mf 96 = true ∧ sk_cw 96 ∈ sk_TB := fun _ => ⟨by decide +kernel, sk_mem (i := 824) rfl rfl⟩
set_option maxRecDepth 100000 in
theorem sk_mf_97 : sk_sp 97 = false → sk_mf 97 = true ∧ sk_cw 97 ∈ sk_TB := fun _ => ⟨by decide +kernel, sk_mem (i := 781) rfl rfl⟩
set_option maxRecDepth 100000 in
theorem sk_mf_98 : sk_sp 98 = false → sk_mf 98 = true ∧ sk_cw 98 ∈ sk_TB := fun _ => ⟨by decide +kernel, sk_mem (i := 766) rfl rfl⟩
set_option maxRecDepth 100000 in
theorem sk_mf_99 : sk_sp 99 = false → sk_mf 99 = true ∧ sk_cw 99 ∈ sk_TB := fun _ => ⟨by decide +kernel, sk_mem (i := 762) rfl rfl⟩
set_option maxRecDepth 100000 in
theorem sk_mf_100 : sk_sp 100 = false → sk_mf 100 = true ∧ sk_cw 100 ∈ sk_TB := fun _ => ⟨by decide +kernel, sk_mem (i := 773) rfl rfl⟩
set_option maxRecDepth 100000 in
theorem sk_mf_101 : sk_sp 101 = false → sk_mf 101 = true ∧ sk_cw 101 ∈ sk_TB := fun _ => ⟨by decide +kernel, sk_mem (i := 452) rfl rfl⟩
set_option maxRecDepth 100000 in
theorem sk_mf_102 : sk_sp 102 = false → sk_mf 102 = true ∧ sk_cw 102 ∈ sk_TB := fun _ => ⟨by decide +kernel, sk_mem (i := 406) rfl rfl⟩
set_option maxRecDepth 100000 in
theorem sk_mf_103 : sk_sp 103 = false → sk_mf 103 = true ∧ sk_cw 103 ∈ sk_TB := fun _ => ⟨by decide +kernel, sk_mem (i := 141) rfl rfl⟩
set_option maxRecDepth 100000 in
theorem sk_mf_104 : sk_sp 104 = false → sk_mf 104 = true ∧ sk_cw 104 ∈ sk_TB := fun _ => ⟨by decide +kernel, sk_mem (i := 410) rfl rfl⟩
set_option maxRecDepth 100000 in
theorem sk_mf_105 : sk_sp 105 = false → sk_mf 105 = true ∧ sk_cw 105 ∈ sk_TB := fun _ => ⟨by decide +kernel, sk_mem (i := 605) rfl rfl⟩
set_option maxRecDepth 100000 in
theorem sk_mf_106 : sk_sp 106 = false → sk_mf 106 = true ∧ sk_cw 106 ∈ sk_TB := fun _ => ⟨by decide +kernel, sk_mem (i := 430) rfl rfl⟩
set_option maxRecDepth 100000 in
theorem sk_mf_107 : sk_sp 107 = false → sk_mf 107 = true ∧ sk_cw 107 ∈ sk_TB := fun _ => ⟨by decide +kernel, sk_mem (i := 426) rfl rfl⟩
set_option maxRecDepth 100000 in
theorem sk_mf_108 : sk_sp 108 = false → sk_mf 108 = true ∧ sk_cw 108 ∈ sk_TB := fun _ => ⟨by decide +kernel, sk_mem (i := 503) rfl rfl⟩
set_option maxRecDepth 100000 in
theorem sk_mf_109 : sk_sp 109 = false → sk_mf 109 = true ∧ sk_cw 109 ∈ sk_TB := fun _ => ⟨by decide +kernel, sk_mem (i := 464) rfl rfl⟩
set_option maxRecDepth 100000 in
theorem sk_mf_110 : sk_sp 110 = false → sk_mf 110 = true ∧ sk_cw 110 ∈ sk_TB := fun _ => ⟨by decide +kernel, sk_mem (i := 576) rfl rfl⟩
set_option maxRecDepth 100000 in
theorem sk_mf_111 : sk_sp 111 = false → sk_mf 111 = true ∧ sk_cw 111 ∈ sk_TB := fun _ => ⟨by decide +kernel, sk_mem (i := 654) rfl rfl⟩
set_option maxRecDepth 100000 in
theorem sk_mf_112 : sk_sp 112 = false → sk_mf 112 = true ∧ sk_cw 112 ∈ sk_TB := fun _ => ⟨by decide +kernel, sk_mem (i := 460) rfl rfl⟩
set_option maxRecDepth 100000 in
theorem sk_mf_113 : sk_sp 113 = false → sk_mf 113 = true ∧ sk_cw 113 ∈ sk_TB := fun _ => ⟨by decide +kernel, sk_mem (i := 474) rfl rfl⟩
set_option maxRecDepth 100000 in
theorem sk_mf_114 : sk_sp 114 = false → sk_mf 114 = true ∧ sk_cw 114 ∈ sk_TB := fun _ => ⟨by decide +kernel, sk_mem (i := 414) rfl rfl⟩
set_option maxRecDepth 100000 in
theorem sk_mf_115 : sk_sp 115 = false → sk_mf 115 = true ∧ sk_cw 115 ∈ sk_TB := fun _ => ⟨by decide +kernel, sk_mem (i := 828) rfl rfl⟩
set_option maxRecDepth 100000 in
theorem sk_mf_116 : sk_sp 116 = false → sk_mf 116 = true ∧ sk_cw 116 ∈ sk_TB := fun _ => ⟨by decide +kernel, sk_mem (i := 658) rfl rfl⟩
set_option maxRecDepth 100000 in
theorem sk_mf_117 : sk_sp 117 = false → sk_mf 117 = true ∧ sk_cw 117 ∈ sk_TB := fun _ => ⟨by decide +kernel, sk_mem (i := 777) rfl rfl⟩
set_option maxRecDepth 100000 in
theorem sk_mf_118 : sk_sp 118 = false → sk_mf 118 = true ∧ sk_cw 118 ∈ sk_TB := fun _ => ⟨by decide +kernel, sk_mem (i := 665) rfl rfl⟩
set_option maxRecDepth 100000 in
theorem sk_mf_119 : sk_sp 119 = false → sk_mf 119 = true ∧ sk_cw 119 ∈ sk_TB := fun _ => ⟨by decide +kernel, sk_mem (i := 680) rfl rfl⟩
set_option maxRecDepth 100000 in
theorem sk_mf_120 : sk_sp 120 = false → sk_mf 120 = true ∧ sk_cw 120 ∈ sk_TB := fun _ => ⟨by decide +kernel, sk_mem (i := 645) rfl rfl⟩
set_option maxRecDepth 100000 in
theorem sk_mf_121 : sk_sp 121 = false → sk_mf 121 = true ∧ sk_cw 121 ∈ sk_TB := fun _ => ⟨by decide +kernel, sk_mem (i := 195) rfl rfl⟩
set_option maxRecDepth 100000 in
theorem sk_mf_122 : sk_sp 122 = false → sk_mf 122 = true ∧ sk_cw 122 ∈ sk_TB := fun _ => ⟨by decide +kernel, sk_mem (i := 297) rfl rfl⟩
set_option maxRecDepth 100000 in
theorem sk_mf_123 : sk_sp 123 = false → sk_mf 123 = true ∧ sk_cw 123 ∈ sk_TB := fun _ => ⟨by decide +kernel, sk_mem (i := 482) rfl rfl⟩
set_option maxRecDepth 100000 in
theorem sk_mf_124 : sk_sp 124 = false → sk_mf 124 = true ∧ sk_cw 124 ∈ sk_TB := fun _ => ⟨by decide +kernel, sk_mem (i := 810) rfl rfl⟩
set_option maxRecDepth 100000 in
theorem sk_mf_125 : sk_sp 125 = false → sk_mf 125 = true ∧ sk_cw 125 ∈ sk_TB := fun _ => ⟨by decide +kernel, sk_mem (i := 491) rfl rfl⟩
set_option maxRecDepth 100000 in
theorem sk_mf_126 : sk_sp 126 = false → sk_mf 126 = true ∧ sk_cw 126 ∈ sk_TB := fun _ => ⟨by decide +kernel, sk_mem (i := 499) rfl rfl⟩
set_option maxRecDepth 100000 in
theorem sk_mf_127 : sk_sp 127 = false → sk_mf 127 = true ∧ sk_cw 127 ∈ sk_TB := fun _ => ⟨by decide +kernel, sk_mem (i := 512) rfl rfl⟩
set_option maxRecDepth 100000 in
theorem sk_mf_128 : sk_sp 128 = false → sk_mf 128 = true ∧ sk_cw 128 ∈ sk_TB := fun _ => ⟨by decide +kernel, sk_mem (i := 562) rfl rfl⟩
set_option maxRecDepth 100000 in
theorem sk_mf_129 : sk_sp 129 = false → sk_mf 129 = true ∧ sk_cw 129 ∈ sk_TB := fun _ => ⟨by decide +kernel, sk_mem (i := 297) rfl rfl⟩
set_option maxRecDepth 100000 in
theorem sk_mf_130 : sk_sp 130 = false → sk_mf 130 = true ∧ sk_cw 130 ∈ sk_TB := fun _ => ⟨by decide +kernel, sk_mem (i := 797) rfl rfl⟩
set_option maxRecDepth 100000 in
theorem sk_mf_131 : sk_sp 131 = false → sk_mf 131 = true ∧ sk_cw 131 ∈ sk_TB := fun _ => ⟨by decide +kernel, sk_mem (i := 793) rfl rfl⟩
set_option maxRecDepth 100000 in
theorem sk_mf_132 : sk_sp 132 = false → sk_mf 132 = true ∧ sk_cw 132 ∈ sk_TB := fun _ => ⟨by decide +kernel, sk_mem (i := 297) rfl rfl⟩
set_option maxRecDepth 100000 in
theorem sk_mf_133 : sk_sp 133 = false → sk_mf 133 = true ∧ sk_cw 133 ∈ sk_TB := fun _ => ⟨by decide +kernel, sk_mem (i := 297) rfl rfl⟩
set_option maxRecDepth 100000 in
theorem sk_mf_134 : sk_sp 134 = false → sk_mf 134 = true ∧ sk_cw 134 ∈ sk_TB := fun _ => ⟨by decide +kernel, sk_mem (i := 201) rfl rfl⟩
set_option maxRecDepth 100000 in
theorem sk_mf_135 : sk_sp 135 = false → sk_mf 135 = true ∧ sk_cw 135 ∈ sk_TB := fun _ => ⟨by decide +kernel, sk_mem (i := 519) rfl rfl⟩
set_option maxRecDepth 100000 in
theorem sk_mf_136 : sk_sp 136 = false → sk_mf 136 = true ∧ sk_cw 136 ∈ sk_TB := fun _ => ⟨by decide +kernel, sk_mem (i := 522) rfl rfl⟩
set_option maxRecDepth 100000 in
theorem sk_mf_137 : sk_sp 137 = false → sk_mf 137 = true ∧ sk_cw 137 ∈ sk_TB := fun _ => ⟨by decide +kernel, sk_mem (i := 531) rfl rfl⟩
set_option maxRecDepth 100000 in
theorem sk_mf_138 : sk_sp 138 = false → sk_mf 138 = true ∧ sk_cw 138 ∈ sk_TB := fun _ => ⟨by decide +kernel, sk_mem (i := 542) rfl rfl⟩
set_option maxRecDepth 100000 in
theorem sk_mf_139 : sk_sp 139 = false → sk_mf 139 = true ∧ sk_cw 139 ∈ sk_TB := fun _ => ⟨by decide +kernel, sk_mem (i := 546) rfl rfl⟩
set_option maxRecDepth 100000 in
theorem sk_mf_140 : sk_sp 140 = false → sk_mf 140 = true ∧ sk_cw 140 ∈ sk_TB := fun _ => ⟨by decide +kernel, sk_mem (i := 534) rfl rfl⟩
set_option maxRecDepth 100000 in
theorem sk_mf_141 : sk_sp 141 = false → sk_mf 141 = true ∧ sk_cw 141 ∈ sk_TB := fun _ => ⟨by decide +kernel, sk_mem (i := 550) rfl rfl⟩
set_option maxRecDepth 100000 in
theorem sk_mf_142 : sk_sp 142 = false → sk_mf 142 = true ∧ sk_cw 142 ∈ sk_TB := fun _ => ⟨by decide +kernel, sk_mem (i := 239) rfl rfl⟩
set_option maxRecDepth 100000 in
theorem sk_mf_143 : sk_sp 143 = false → sk_mf 143 = true ∧ sk_cw 143 ∈ sk_TB := fun _ => ⟨by decide +kernel, sk_mem (i := 744) rfl rfl⟩
set_option maxRecDepth 100000 in
theorem sk_mf_144 : sk_sp 144 = false → sk_mf 144 = true ∧ sk_cw 144 ∈ sk_TB := fun _ => ⟨by decide +kernel, sk_mem (i := 629) rfl rfl⟩
set_option maxRecDepth 100000 in
theorem sk_mf_145 : sk_sp 145 = false → sk_mf 145 = true ∧ sk_cw 145 ∈ sk_TB := fun _ => ⟨by decide +kernel, sk_mem (i := 633) rfl rfl⟩
set_option maxRecDepth 100000 in
theorem sk_mf_146 : sk_sp 146 = false → sk_mf 146 = true ∧ sk_cw 146 ∈ sk_TB := fun _ => ⟨by decide +kernel, sk_mem (i := 748) rfl rfl⟩
set_option maxRecDepth 100000 in
theorem sk_mf_147 : sk_sp 147 = false → sk_mf 147 = true ∧ sk_cw 147 ∈ sk_TB := fun _ => ⟨by decide +kernel, sk_mem (i := 637) rfl rfl⟩
set_option maxRecDepth 100000 in
theorem sk_mf_148 : sk_sp 148 = false → sk_mf 148 = true ∧ sk_cw 148 ∈ sk_TB := fun _ => ⟨by decide +kernel, sk_mem (i := 255) rfl rfl⟩
set_option maxRecDepth 100000 in
theorem sk_mf_149 : sk_sp 149 = false → sk_mf 149 = true ∧ sk_cw 149 ∈ sk_TB := fun _ => ⟨by decide +kernel, sk_mem (i := 402) rfl rfl⟩
set_option maxRecDepth 100000 in
theorem sk_mf_150 : sk_sp 150 = false → sk_mf 150 = true ∧ sk_cw 150 ∈ sk_TB := fun _ => ⟨by decide +kernel, sk_mem (i := 297) rfl rfl⟩
set_option maxRecDepth 100000 in
theorem sk_mf_151 : sk_sp 151 = false → sk_mf 151 = true ∧ sk_cw 151 ∈ sk_TB := fun _ => ⟨by decide +kernel, sk_mem (i := 297) rfl rfl⟩
set_option maxRecDepth 100000 in
theorem sk_mf_152 : sk_sp 152 = false → sk_mf 152 = true ∧ sk_cw 152 ∈ sk_TB := fun _ => ⟨by decide +kernel, sk_mem (i := 297) rfl rfl⟩
set_option maxRecDepth 100000 in
theorem sk_mf_153 : sk_sp 153 = false → sk_mf 153 = true ∧ sk_cw 153 ∈ sk_TB := fun _ => ⟨by decide +kernel, sk_mem (i := 297) rfl rfl⟩
set_option maxRecDepth 100000 in
theorem sk_mf_154 : sk_sp 154 = false → sk_mf 154 = true ∧ sk_cw 154 ∈ sk_TB := fun _ => ⟨by decide +kernel, sk_mem (i := 297) rfl rfl⟩
set_option maxRecDepth 100000 in
theorem sk_mf_155 : sk_sp 155 = false → sk_mf 155 = true ∧ sk_cw 155 ∈ sk_TB := fun _ => ⟨by decide +kernel, sk_mem (i := 297) rfl rfl⟩
set_option maxRecDepth 100000 in
theorem sk_mf_156 : sk_sp 156 = false → sk_mf 156 = true ∧ sk_cw 156 ∈ sk_TB := fun _ => ⟨by decide +kernel, sk_mem (i := 297) rfl rfl⟩
set_option maxRecDepth 100000 in
theorem sk_mf_157 : sk_sp 157 = false → sk_mf 157 = true ∧ sk_cw 157 ∈ sk_TB := fun _ => ⟨by decide +kernel, sk_mem (i := 297) rfl rfl⟩
set_option maxRecDepth 100000 in
theorem sk_mf_158 : sk_sp 158 = false → sk_mf 158 = true ∧ sk_cw 158 ∈ sk_TB := fun _ => ⟨by decide +kernel, sk_mem (i := 297) rfl rfl⟩
set_option maxRecDepth 100000 in
theorem sk_mf_159 : sk_sp 159 = false → sk_mf 159 = true ∧ sk_cw 159 ∈ sk_TB := fun _ => ⟨by decide +kernel, sk_mem (i := 297) rfl rfl⟩
set_option maxRecDepth 100000 in
theorem sk_mf_160 : sk_sp 160 = false → sk_mf 160 = true ∧ sk_cw 160 ∈ sk_TB := fun _ => ⟨by decide +kernel, sk_mem (i := 297) rfl rfl⟩
set_option maxRecDepth 100000 in
theorem sk_mf_161 : sk_sp 161 = false → sk_mf 161 = true ∧ sk_cw 161 ∈ sk_TB := fun _ => ⟨by decide +kernel, sk_mem (i := 297) rfl rfl⟩
set_option maxRecDepth 100000 in
theorem sk_mf_162 : sk_sp 162 = false → sk_mf 162 = true ∧ sk_cw 162 ∈ sk_TB := fun _ => ⟨by decide +kernel, sk_mem (i := 297) rfl rfl⟩
set_option maxRecDepth 100000 in
theorem sk_mf_163 : sk_sp 163 = false → sk_mf 163 = true ∧ sk_cw 163 ∈ sk_TB := fun _ => ⟨by decide +kernel, sk_mem (i := 297) rfl rfl⟩
set_option maxRecDepth 100000 in
theorem sk_mf_164 : sk_sp 164 = false → sk_mf 164 = true ∧ sk_cw 164 ∈ sk_TB := fun _ => ⟨by decide +kernel, sk_mem (i := 297) rfl rfl⟩
set_option maxRecDepth 100000 in
theorem sk_mf_165 : sk_sp 165 = false → sk_mf 165 = true ∧ sk_cw 165 ∈ sk_TB := fun _ => ⟨by decide +kernel, sk_mem (i := 297) rfl rfl⟩
set_option maxRecDepth 100000 in
theorem sk_mf_166 : sk_sp 166 = false → sk_mf 166 = true ∧ sk_cw 166 ∈ sk_TB := fun _ => ⟨by decide +kernel, sk_mem (i := 297) rfl rfl⟩
set_option maxRecDepth 100000 in
theorem sk_mf_167 : sk_sp 167 = false → sk_mf 167 = true ∧ sk_cw 167 ∈ sk_TB := fun _ => ⟨by decide +kernel, sk_mem (i := 442) rfl rfl⟩
set_option maxRecDepth 100000 in
theorem sk_mf_168 : sk_sp 168 = false → sk_mf 168 = true ∧ sk_cw 168 ∈ sk_TB := fun _ => ⟨by decide +kernel, sk_mem (i := 445) rfl rfl⟩
set_option maxRecDepth 100000 in
theorem sk_mf_169 : sk_sp 169 = false → sk_mf 169 = true ∧ sk_cw 169 ∈ sk_TB := fun _ => ⟨by decide +kernel, sk_mem (i := 297) rfl rfl⟩
set_option maxRecDepth 100000 in
theorem sk_mf_170 : sk_sp 170 = false → sk_mf 170 = true ∧ sk_cw 170 ∈ sk_TB := fun _ => ⟨by decide +kernel, sk_mem (i := 527) rfl rfl⟩
set_option maxRecDepth 100000 in
theorem sk_mf_171 : sk_sp 171 = false → sk_mf 171 = true ∧ sk_cw 171 ∈ sk_TB := fun _ => ⟨by decide +kernel, sk_mem (i := 297) rfl rfl⟩
set_option maxRecDepth 100000 in
theorem sk_mf_172 : sk_sp 172 = false → sk_mf 172 = true ∧ sk_cw 172 ∈ sk_TB := fun _ => ⟨by decide +kernel, sk_mem (i := 661) rfl rfl⟩
set_option maxRecDepth 100000 in
theorem sk_mf_173 : sk_sp 173 = false → sk_mf 173 = true ∧ sk_cw 173 ∈ sk_TB := fun _ => ⟨by decide +kernel, sk_mem (i := 297) rfl rfl⟩
set_option maxRecDepth 100000 in
theorem sk_mf_174 : sk_sp 174 = false → sk_mf 174 = true ∧ sk_cw 174 ∈ sk_TB := fun _ => ⟨by decide +kernel, sk_mem (i := 297) rfl rfl⟩
set_option maxRecDepth 100000 in
theorem sk_mf_175 : sk_sp 175 = false → sk_mf 175 = true ∧ sk_cw 175 ∈ sk_TB := fun _ => ⟨by decide +kernel, sk_mem (i := 297) rfl rfl⟩
set_option maxRecDepth 100000 in
theorem sk_mf_176 : sk_sp 176 = false → sk_mf 176 = true ∧ sk_cw 176 ∈ sk_TB := fun _ => ⟨by decide +kernel, sk_mem (i := 297) rfl rfl⟩
set_option maxRecDepth 100000 in
theorem sk_mf_177 : sk_sp 177 = false → sk_mf 177 = true ∧ sk_cw 177 ∈ sk_TB := fun _ => ⟨by decide +kernel, sk_mem (i := 297) rfl rfl⟩
set_option maxRecDepth 100000 in
theorem sk_mf_178 : sk_sp 178 = false → sk_mf 178 = true ∧ sk_cw 178 ∈ sk_TB := fun _ => ⟨by decide +kernel, sk_mem (i := 297) rfl rfl⟩
set_option maxRecDepth 100000 in
theorem sk_mf_179 : sk_sp 179 = false → sk_mf 179 = true ∧ sk_cw 179 ∈ sk_TB := fun _ => ⟨by decide +kernel, sk_mem (i := 297) rfl rfl⟩
set_option maxRecDepth 100000 in
theorem sk_mf_180 : sk_sp 180 = false → sk_mf 180 = true ∧ sk_cw 180 ∈ sk_TB := fun _ => ⟨by decide +kernel, sk_mem (i := 297) rfl rfl⟩
set_option maxRecDepth 100000 in
theorem sk_mf_181 : sk_sp 181 = false → sk_mf 181 = true ∧ sk_cw 181 ∈ sk_TB := fun _ => ⟨by decide +kernel, sk_mem (i := 297) rfl rfl⟩
set_option maxRecDepth 100000 in
theorem sk_mf_182 : sk_sp 182 = false → sk_mf 182 = true ∧ sk_cw 182 ∈ sk_TB := fun _ => ⟨by decide +kernel, sk_mem (i := 297) rfl rfl⟩
set_option maxRecDepth 100000 in
theorem sk_mf_183 : sk_sp 183 = false → sk_mf 183 = true ∧ sk_cw 183 ∈ sk_TB := fun _ => ⟨by decide +kernel, sk_mem (i := 297) rfl rfl⟩
set_option maxRecDepth 100000 in
theorem sk_mf_184 : sk_sp 184 = false → sk_mf 184 = true ∧ sk_cw 184 ∈ sk_TB := fun _ => ⟨by decide +kernel, sk_mem (i := 297) rfl rfl⟩
set_option maxRecDepth 100000 in
theorem sk_mf_185 : sk_sp 185 = false → sk_mf 185 = true ∧ sk_cw 185 ∈ sk_TB := fun _ => ⟨by decide +kernel, sk_mem (i := 297) rfl rfl⟩
set_option maxRecDepth 100000 in
theorem sk_mf_186 : sk_sp 186 = false → sk_mf 186 = true ∧ sk_cw 186 ∈ sk_TB := fun _ => ⟨by decide +kernel, sk_mem (i := 297) rfl rfl⟩
set_option maxRecDepth 100000 in
theorem sk_mf_187 : sk_sp 187 = false → sk_mf 187 = true ∧ sk_cw 187 ∈ sk_TB := fun _ => ⟨by decide +kernel, sk_mem (i := 297) rfl rfl⟩
set_option maxRecDepth 100000 in
theorem sk_mf_188 : sk_sp 188 = false → sk_mf 188 = true ∧ sk_cw 188 ∈ sk_TB := fun _ => ⟨by decide +kernel, sk_mem (i := 297) rfl rfl⟩
set_option maxRecDepth 100000 in
theorem sk_mf_189 : sk_sp 189 = false → sk_mf 189 = true ∧ sk_cw 189 ∈ sk_TB := fun _ => ⟨by decide +kernel, sk_mem (i := 297) rfl rfl⟩
set_option maxRecDepth 100000 in
theorem sk_mf_190 : sk_sp 190 = false → sk_mf 190 = true ∧ sk_cw 190 ∈ sk_TB := fun _ => ⟨by decide +kernel, sk_mem (i := 297) rfl rfl⟩
set_option maxRecDepth 100000 in
theorem sk_mf_191 : sk_sp 191 = false → sk_mf 191 = true ∧ sk_cw 191 ∈ sk_TB := fun _ => ⟨by decide +kernel, sk_mem (i := 297) rfl rfl⟩
set_option maxRecDepth 100000 in
theorem sk_mf_192 : sk_sp 192 = false → sk_mf 192 = true ∧ sk_cw 192 ∈ sk_TB := fun _ => ⟨by decide +kernel, sk_mem (i := 297) rfl rfl⟩
set_option maxRecDepth 100000 in
theorem sk_mf_193 : sk_sp 193 = false → sk_mf 193 = true ∧ sk_cw 193 ∈ sk_TB := fun _ => ⟨by decide +kernel, sk_mem (i := 297) rfl rfl⟩
set_option maxRecDepth 100000 in
theorem sk_mf_194 : sk_sp 194 = false → sk_mf 194 = true ∧ sk_cw 194 ∈ sk_TB := fun _ => ⟨by decide +kernel, sk_mem (i := 297) rfl rfl⟩
set_option maxRecDepth 100000 in
theorem sk_mf_195 : sk_sp 195 = false → sk_mf 195 = true ∧ sk_cw 195 ∈ sk_TB := fun _ => ⟨by decide +kernel, sk_mem (i := 297) rfl rfl⟩
set_option maxRecDepth 100000 in
theorem sk_mf_196 : sk_sp 196 = false → sk_mf 196 = true ∧ sk_cw 196 ∈ sk_TB := fun _ => ⟨by decide +kernel, sk_mem (i := 297) rfl rfl⟩
set_option maxRecDepth 100000 in
theorem sk_mf_197 : sk_sp 197 = false → sk_mf 197 = true ∧ sk_cw 197 ∈ sk_TB := fun _ => ⟨by decide +kernel, sk_mem (i := 297) rfl rfl⟩
set_option maxRecDepth 100000 in
theorem sk_mf_198 : sk_sp 198 = false → sk_mf 198 = true ∧ sk_cw 198 ∈ sk_TB := fun _ => ⟨by decide +kernel, sk_mem (i := 297) rfl rfl⟩
set_option maxRecDepth 100000 in
theorem sk_mf_199 : sk_sp 199 = false → sk_mf 199 = true ∧ sk_cw 199 ∈ sk_TB := fun _ => ⟨by decide +kernel, sk_mem (i := 297) rfl rfl⟩
set_option maxRecDepth 100000 in
theorem sk_mf_200 : sk_sp 200 = false → sk_mf 200 = true ∧ sk_cw 200 ∈ sk_TB := fun _ => ⟨by decide +kernel, sk_mem (i := 297) rfl rfl⟩
set_option maxRecDepth 100000 in
theorem sk_mf_201 : sk_sp 201 = false → sk_mf 201 = true ∧ sk_cw 201 ∈ sk_TB := fun _ => ⟨by decide +kernel, sk_mem (i := 297) rfl rfl⟩
set_option maxRecDepth 100000 in
theorem sk_mf_202 : sk_sp 202 = false → sk_mf 202 = true ∧ sk_cw 202 ∈ sk_TB := fun _ => ⟨by decide +kernel, sk_mem (i := 297) rfl rfl⟩
set_option maxRecDepth 100000 in
theorem sk_mf_203 : sk_sp 203 = false → sk_mf 203 = true ∧ sk_cw 203 ∈ sk_TB := fun _ => ⟨by decide +kernel, sk_mem (i := 297) rfl rfl⟩
set_option maxRecDepth 100000 in
theorem sk_mf_204 : sk_sp 204 = false → sk_mf 204 = true ∧ sk_cw 204 ∈ sk_TB := fun _ => ⟨by decide +kernel, sk_mem (i := 297) rfl rfl⟩
set_option maxRecDepth 100000 in
theorem sk_mf_205 : sk_sp 205 = false → sk_mf 205 = true ∧ sk_cw 205 ∈ sk_TB := fun _ => ⟨by decide +kernel, sk_mem (i := 297) rfl rfl⟩
set_option maxRecDepth 100000 in
theorem sk_mf_206 : sk_sp 206 = false → sk_mf 206 = true ∧ sk_cw 206 ∈ sk_TB := fun _ => ⟨by decide +kernel, sk_mem (i := 297) rfl rfl⟩
set_option maxRecDepth 100000 in
theorem sk_mf_207 : sk_sp 207 = false → sk_mf 207 = true ∧ sk_cw 207 ∈ sk_TB := fun _ => ⟨by decide +kernel, sk_mem (i := 297) rfl rfl⟩
set_option maxRecDepth 100000 in
theorem sk_mf_208 : sk_sp 208 = false → sk_mf 208 = true ∧ sk_cw 208 ∈ sk_TB := fun _ => ⟨by decide +kernel, sk_mem (i := 297) rfl rfl⟩
set_option maxRecDepth 100000 in
theorem sk_mf_209 : sk_sp 209 = false → sk_mf 209 = true ∧ sk_cw 209 ∈ sk_TB := fun _ => ⟨by decide +kernel, sk_mem (i := 297) rfl rfl⟩
set_option maxRecDepth 100000 in
theorem sk_mf_210 : sk_sp 210 = false → sk_mf 210 = true ∧ sk_cw 210 ∈ sk_TB := fun _ => ⟨by decide +kernel, sk_mem (i := 297) rfl rfl⟩
set_option maxRecDepth 100000 in
theorem sk_mf_211 : sk_sp 211 = false → sk_mf 211 = true ∧ sk_cw 211 ∈ sk_TB := fun _ => ⟨by decide +kernel, sk_mem (i := 297) rfl rfl⟩
set_option maxRecDepth 100000 in
theorem sk_mf_212 : sk_sp 212 = false → sk_mf 212 = true ∧ sk_cw 212 ∈ sk_TB := fun _ => ⟨by decide +kernel, sk_mem (i := 297) rfl rfl⟩
set_option maxRecDepth 100000 in
theorem sk_mf_213 : sk_sp 213 = false → sk_mf 213 = true ∧ sk_cw 213 ∈ sk_TB := fun _ => ⟨by decide +kernel, sk_mem (i := 297) rfl rfl⟩
set_option maxRecDepth 100000 in
theorem sk_mf_214 : sk_sp 214 = false → sk_mf 214 = true ∧ sk_cw 214 ∈ sk_TB := fun _ => ⟨by decide +kernel, sk_mem (i := 297) rfl rfl⟩
set_option maxRecDepth 100000 in
theorem sk_mf_215 : sk_sp 215 = false → sk_mf 215 = true ∧ sk_cw 215 ∈ sk_TB := fun _ => ⟨by decide +kernel, sk_mem (i := 297) rfl rfl⟩
set_option maxRecDepth 100000 in
theorem sk_mf_216 : sk_sp 216 = false → sk_mf 216 = true ∧ sk_cw 216 ∈ sk_TB := fun _ => ⟨by decide +kernel, sk_mem (i := 297) rfl rfl⟩
set_option maxRecDepth 100000 in
theorem sk_mf_217 : sk_sp 217 = false → sk_mf 217 = true ∧ sk_cw 217 ∈ sk_TB := fun _ => ⟨by decide +kernel, sk_mem (i := 297) rfl rfl⟩
set_option maxRecDepth 100000 in
theorem sk_mf_218 : sk_sp 218 = false → sk_mf 218 = true ∧ sk_cw 218 ∈ sk_TB := fun _ => ⟨by decide +kernel, sk_mem (i := 297) rfl rfl⟩
set_option maxRecDepth 100000 in
theorem sk_mf_219 : sk_sp 219 = false → sk_mf 219 = true ∧ sk_cw 219 ∈ sk_TB := fun _ => ⟨by decide +kernel, sk_mem (i := 297) rfl rfl⟩
set_option maxRecDepth 100000 in
theorem sk_mf_220 : sk_sp 220 = false → sk_mf 220 = true ∧ sk_cw 220 ∈ sk_TB := fun _ => ⟨by decide +kernel, sk_mem (i := 297) rfl rfl⟩
set_option maxRecDepth 100000 in
theorem sk_mf_221 : sk_sp 221 = false → sk_mf 221 = true ∧ sk_cw 221 ∈ sk_TB := fun _ => ⟨by decide +kernel, sk_mem (i := 297) rfl rfl⟩
set_option maxRecDepth 100000 in
theorem sk_mf_222 : sk_sp 222 = false → sk_mf 222 = true ∧ sk_cw 222 ∈ sk_TB := fun _ => ⟨by decide +kernel, sk_mem (i := 297) rfl rfl⟩
set_option maxRecDepth 100000 in
theorem sk_mf_223 : sk_sp 223 = false → sk_mf 223 = true ∧ sk_cw 223 ∈ sk_TB := fun _ => ⟨by decide +kernel, sk_mem (i := 297) rfl rfl⟩
set_option maxRecDepth 100000 in
theorem sk_mf_224 : sk_sp 224 = false → sk_mf 224 = true ∧ sk_cw 224 ∈ sk_TB := fun _ => ⟨by decide +kernel, sk_mem (i := 297) rfl rfl⟩
set_option maxRecDepth 100000 in
theorem sk_mf_225 : sk_sp 225 = false → sk_mf 225 = true ∧ sk_cw 225 ∈ sk_TB := fun _ => ⟨by decide +kernel, sk_mem (i := 297) rfl rfl⟩
set_option maxRecDepth 100000 in
theorem sk_mf_226 : sk_sp 226 = false → sk_mf 226 = true ∧ sk_cw 226 ∈ sk_TB := fun _ => ⟨by decide +kernel, sk_mem (i := 297) rfl rfl⟩
set_option maxRecDepth 100000 in
theorem sk_mf_227 : sk_sp 227 = false → sk_mf 227 = true ∧ sk_cw 227 ∈ sk_TB := fun _ => ⟨by decide +kernel, sk_mem (i := 297) rfl rfl⟩
set_option maxRecDepth 100000 in
theorem sk_mf_228 : sk_sp 228 = false → sk_mf 228 = true ∧ sk_cw 228 ∈ sk_TB := fun _ => ⟨by decide +kernel, sk_mem (i := 297) rfl rfl⟩
set_option maxRecDepth 100000 in
theorem sk_mf_229 : sk_sp 229 = false → sk_mf 229 = true ∧ sk_cw 229 ∈ sk_TB := fun _ => ⟨by decide +kernel, sk_mem (i := 297) rfl rfl⟩
set_option maxRecDepth 100000 in
theorem sk_mf_230 : sk_sp 230 = false → sk_mf 230 = true ∧ sk_cw 230 ∈ sk_TB := fun _ => ⟨by decide +kernel, sk_mem (i := 297) rfl rfl⟩
set_option maxRecDepth 100000 in
theorem sk_mf_231 : sk_sp 231 = false → sk_mf 231 = true ∧ sk_cw 231 ∈ sk_TB := fun _ => ⟨by decide +kernel, sk_mem (i := 297) rfl rfl⟩
set_option maxRecDepth 100000 in
theorem sk_mf_232 : sk_sp 232 = false → sk_mf 232 = true ∧ sk_cw 232 ∈ sk_TB := fun _ => ⟨by decide +kernel, sk_mem (i := 297) rfl rfl⟩
set_option maxRecDepth 100000 in
theorem sk_mf_233 : sk_sp 233 = false → sk_mf 233 = true ∧ sk_cw 233 ∈ sk_TB := fun _ => ⟨by decide +kernel, sk_mem (i := 297) rfl rfl⟩
set_option maxRecDepth 100000 in
theorem sk_mf_234 : sk_sp 234 = false → sk_mf 234 = true ∧ sk_cw 234 ∈ sk_TB := fun _ => ⟨by decide +kernel, sk_mem (i := 297) rfl rfl⟩
set_option maxRecDepth 100000 in
theorem sk_mf_235 : sk_sp 235 = false → sk_mf 235 = true ∧ sk_cw 235 ∈ sk_TB := fun _ => ⟨by decide +kernel, sk_mem (i := 297) rfl rfl⟩
set_option maxRecDepth 100000 in
theorem sk_mf_236 : sk_sp 236 = false → sk_mf 236 = true ∧ sk_cw 236 ∈ sk_TB := fun _ => ⟨by decide +kernel, sk_mem (i := 297) rfl rfl⟩
set_option maxRecDepth 100000 in
theorem sk_mf_237 : sk_sp 237 = false → sk_mf 237 = true ∧ sk_cw 237 ∈ sk_TB := fun _ => ⟨by decide +kernel, sk_mem (i := 297) rfl rfl⟩
set_option maxRecDepth 100000 in
theorem sk_mf_238 : sk_sp 238 = false → sk_mf 238 = true ∧ sk_cw 238 ∈ sk_TB := fun _ => ⟨by decide +kernel, sk_mem (i := 297) rfl rfl⟩
set_option maxRecDepth 100000 in
theorem sk_mf_239 : sk_sp 239 = false → sk_mf 239 = true ∧ sk_cw 239 ∈ sk_TB := fun _ => ⟨by decide +kernel, sk_mem (i := 297) rfl rfl⟩
set_option maxRecDepth 100000 in
theorem sk_mf_240 : sk_sp 240 = false → sk_mf 240 = true ∧ sk_cw 240 ∈ sk_TB := fun _ => ⟨by decide +kernel, sk_mem (i := 297) rfl rfl⟩
set_option maxRecDepth 100000 in
theorem sk_mf_241 : sk_sp 241 = false → sk_mf 241 = true ∧ sk_cw 241 ∈ sk_TB := fun _ => ⟨by decide +kernel, sk_mem (i := 297) rfl rfl⟩
set_option maxRecDepth 100000 in
theorem sk_mf_242 : sk_sp 242 = false → sk_mf 242 = true ∧ sk_cw 242 ∈ sk_TB := fun _ => ⟨by decide +kernel, sk_mem (i := 297) rfl rfl⟩
set_option maxRecDepth 100000 in
theorem sk_mf_243 : sk_sp 243 = false → sk_mf 243 = true ∧ sk_cw 243 ∈ sk_TB := fun _ => ⟨by decide +kernel, sk_mem (i := 297) rfl rfl⟩
set_option maxRecDepth 100000 in
theorem sk_mf_244 : sk_sp 244 = false → sk_mf 244 = true ∧ sk_cw 244 ∈ sk_TB := fun _ => ⟨by decide +kernel, sk_mem (i := 297) rfl rfl⟩
set_option maxRecDepth 100000 in
theorem sk_mf_245 : sk_sp 245 = false → sk_mf 245 = true ∧ sk_cw 245 ∈ sk_TB := fun _ => ⟨by decide +kernel, sk_mem (i := 297) rfl rfl⟩
set_option maxRecDepth 100000 in
theorem sk_mf_246 : sk_sp 246 = false → sk_mf 246 = true ∧ sk_cw 246 ∈ sk_TB := fun _ => ⟨by decide +kernel, sk_mem (i := 297) rfl rfl⟩
set_option maxRecDepth 100000 in
theorem sk_mf_247 : sk_sp 247 = false → sk_mf 247 = true ∧ sk_cw 247 ∈ sk_TB := fun _ => ⟨by decide +kernel, sk_mem (i := 297) rfl rfl⟩
set_option maxRecDepth 100000 in
theorem sk_mf_248 : sk_sp 248 = false → sk_mf 248 = true ∧ sk_cw 248 ∈ sk_TB := fun _ => ⟨by decide +kernel, sk_mem (i := 297) rfl rfl⟩
set_option maxRecDepth 100000 in
theorem sk_mf_249 : sk_sp 249 = false → sk_mf 249 = true ∧ sk_cw 249 ∈ sk_TB := fun _ => ⟨by decide +kernel, sk_mem (i := 297) rfl rfl⟩
theorem sk_mf_250 : sk_sp 250 = false → sk_mf 250 = true ∧ sk_cw 250 ∈ sk_TB := fun h => by cases h
theorem sk_mf_251 : sk_sp 251 = false → sk_mf 251 = true ∧ sk_cw 251 ∈ sk_TB := fun h => by cases h
set_option maxRecDepth 100000 in
theorem sk_mf_252 : sk_sp 252 = false → sk_mf 252 = true ∧ sk_cw 252 ∈ sk_TB := fun _ => ⟨by decide +kernel, sk_mem (i := 297) rfl rfl⟩
theorem sk_mf_253 : sk_sp 253 = false → sk_mf 253 = true ∧ sk_cw 253 ∈ sk_TB := fun h => by cases h
set_option maxRecDepth 100000 in
theorem sk_mf_254 : sk_sp 254 = false → sk_mf 254 = true ∧ sk_cw 254 ∈ sk_TB := fun _ => ⟨by decide +kernel, sk_mem (i := 60) rfl rfl⟩
set_option maxRecDepth 100000 in
theorem sk_mf_255 : sk_sp 255 = false → sk_mf 255 = true ∧ sk_cw 255 ∈ sk_TB := fun _ => ⟨by decide +kernel, sk_mem (i := 70) rfl rfl⟩
set_option maxRecDepth 100000 in
theorem sk_mf_256 : sk_sp 256 = false → sk_mf 256 = true ∧ sk_cw 256 ∈ sk_TB := fun _ => ⟨by decide +kernel, sk_mem (i := 64) rfl rfl⟩
set_option maxRecDepth 100000 in
theorem sk_mf_257 : sk_sp 257 = false → sk_mf 257 = true ∧ sk_cw 257 ∈ sk_TB := fun _ => ⟨by decide +kernel, sk_mem (i := 74) rfl rfl⟩
set_option maxRecDepth 100000 in
theorem sk_mf_258 : sk_sp 258 = false → sk_mf 258 = true ∧ sk_cw 258 ∈ sk_TB := fun _ => ⟨by decide +kernel, sk_mem (i := 80) rfl rfl⟩
set_option maxRecDepth 100000 in
theorem sk_mf_259 : sk_sp 259 = false → sk_mf 259 = true ∧ sk_cw 259 ∈ sk_TB := fun _ => ⟨by decide +kernel, sk_mem (i := 77) rfl rfl⟩
set_option maxRecDepth 100000 in
theorem sk_mf_260 : sk_sp 260 = false → sk_mf 260 = true ∧ sk_cw 260 ∈ sk_TB := fun _ => ⟨by decide +kernel, sk_mem (i := 85) rfl rfl⟩
set_option maxRecDepth 100000 in
theorem sk_mf_all : ∀ m, m < 261 → sk_sp m = false → sk_mf m = true ∧ sk_cw m ∈ sk_TB :=
  lt_s (lt_s (lt_s (lt_s (lt_s (lt_s (lt_s (lt_s (lt_s (lt_s (lt_s (lt_s (lt_s (lt_s (lt_s (lt_s (lt_s (lt_s (lt_s (lt_s (lt_s (lt_s (lt_s (lt_s (lt_s (lt_s (lt_s (lt_s (lt_s (lt_s (lt_s (lt_s (lt_s (lt_s (lt_s (lt_s (lt_s (lt_s (lt_s (lt_s (lt_s (lt_s (lt_s (lt_s (lt_s (lt_s (lt_s (lt_s (lt_s (lt_s (lt_s (lt_s (lt_s (lt_s (lt_s (lt_s (lt_s (lt_s (lt_s (lt_s (lt_s (lt_s (lt_s (lt_s (lt_s (lt_s (lt_s (lt_s (lt_s (lt_s (lt_s (lt_s (lt_s (lt_s (lt_s (lt_s (lt_s (lt_s (lt_s (lt_s (lt_s (lt_s (lt_s (lt_s (lt_s (lt_s (lt_s (lt_s (lt_s (lt_s (lt_s (lt_s (lt_s (lt_s (lt_s (lt_s (lt_s (lt_s (lt_s (lt_s (lt_s (lt_s (lt_s (lt_s (lt_s (lt_s (lt_s (lt_s (lt_s (lt_s (lt_s (lt_s (lt_s (lt_s (lt_s (lt_s (lt_s (lt_s (lt_s (lt_s (lt_s (lt_s (lt_s (lt_s (lt_s (lt_s (lt_s (lt_s (lt_s (lt_s (lt_s (lt_s (lt_s (lt_s (lt_s (lt_s (lt_s (lt_s (lt_s (lt_s (lt_s (lt_s (lt_s (lt_s (lt_s (lt_s (lt_s (lt_s (lt_s (lt_s (lt_s (lt_s (lt_s (lt_s (lt_s (lt_s (lt_s (lt_s (lt_s (lt_s (lt_s (lt_s (lt_s (lt_s (lt_s (lt_s (lt_s (lt_s (lt_s (lt_s (lt_s (lt_s (lt_s (lt_s (lt_s (lt_s (lt_s (lt_s (lt_s (lt_s (lt_s (lt_s (lt_s (lt_s (lt_s (lt_s (lt_s (lt_s (lt_s (lt_s (lt_s (lt_s (lt_s (lt_s (lt_s (lt_s (lt_s (lt_s (lt_s (lt_s (lt_s (lt_s (lt_s (lt_s (lt_s (lt_s (lt_s (lt_s (lt_s (lt_s (lt_s (lt_s (lt_s (lt_s (lt_s (lt_s (lt_s (lt_s (lt_s (lt_s (lt_s (lt_s (lt_s (lt_s (lt_s (lt_s (lt_s (lt_s (lt_s (lt_s (lt_s (lt_s (lt_s (lt_s (lt_s (lt_s (lt_s (lt_s (lt_s (lt_s (lt_s (lt_s (lt_s (lt_s (lt_s (lt_s (lt_s (lt_s (lt_s (lt_s (lt_s (lt_s (lt_s (lt_s (lt_s (lt_s (lt_s (lt_s (lt_s (lt_s (lt_s (lt_0) sk_mf_0) sk_mf_1) sk_mf_2) sk_mf_3) sk_mf_4) sk_mf_5) sk_mf_6) sk_mf_7) sk_mf_8) sk_mf_9) sk_mf_10) sk_mf_11) sk_mf_12) sk_mf_13) sk_mf_14) sk_mf_15) sk_mf_16) sk_mf_17) sk_mf_18) sk_mf_19) sk_mf_20) sk_mf_21) sk_mf_22) sk_mf_23) sk_mf_24) sk_mf_25) sk_mf_26) sk_mf_27) sk_mf_28) sk_mf_29) sk_mf_30) sk_mf_31) sk_mf_32) sk_mf_33) sk_mf_34) sk_mf_35) sk_mf_36) sk_mf_37) sk_mf_38) sk_mf_39) sk_mf_40) sk_mf_41) sk_mf_42) sk_mf_43) sk_mf_44) sk_mf_45) sk_mf_46) sk_mf_47) sk_mf_48) sk_mf_49) sk_mf_50) sk_mf_51) sk_mf_52) sk_mf_53) sk_mf_54) sk_mf_55) sk_mf_56) sk_mf_57) sk_mf_58) sk_mf_59) sk_mf_60) sk_mf_61) sk_mf_62) sk_mf_63) sk_mf_64) sk_mf_65) sk_mf_66) sk_mf_67) sk_mf_68) sk_mf_69) sk_mf_70) sk_mf_71) sk_mf_72) sk_mf_73) sk_mf_74) sk_mf_75) sk_mf_76) sk_mf_77) sk_mf_78) sk_mf_79) sk_mf_80) sk_mf_81) sk_mf_82) sk_mf_83) sk_mf_84) sk_mf_85) sk_mf_86) sk_mf_87) sk_mf_88) sk_mf_89) sk_mf_90) sk_mf_91) sk_mf_92) sk_mf_93) sk_mf_94) sk_mf_95) sk_mf_96) sk_mf_97) sk_mf_98) sk_mf_99) sk_mf_100) sk_mf_101) sk_mf_102) sk_mf_103) sk_mf_104) sk_mf_105) sk_mf_106) sk_mf_107) sk_mf_108) sk_mf_109) sk_mf_110) sk_mf_111) sk_mf_112) sk_mf_113) sk_mf_114) sk_mf_115) sk_mf_116) sk_mf_117) sk_mf_118) sk_mf_119) sk_mf_120) sk_mf_121) sk_mf_122) sk_mf_123) sk_mf_124) sk_mf_125) sk_mf_126) sk_mf_127) sk_mf_128) sk_mf_129) sk_mf_130) sk_mf_131) sk_mf_132) sk_mf_133) sk_mf_134) sk_mf_135) sk_mf_136) sk_mf_137) sk_mf_138) sk_mf_139) sk_mf_140) sk_mf_141) sk_mf_142) sk_mf_143) sk_mf_144) sk_mf_145) sk_mf_146) sk_mf_147) sk_mf_148) sk_mf_149) sk_mf_150) sk_mf_151) sk_mf_152) sk_mf_153) sk_mf_154) sk_mf_155) sk_mf_156) sk_mf_157) sk_mf_158) sk_mf_159) sk_mf_160) sk_mf_161) sk_mf_162) sk_mf_163) sk_mf_164) sk_mf_165) sk_mf_166) sk_mf_167) sk_mf_168) sk_mf_169) sk_mf_170) sk_mf_171) sk_mf_172) sk_mf_173) sk_mf_174) sk_mf_175) sk_mf_176) sk_mf_177) sk_mf_178) sk_mf_179) sk_mf_180) sk_mf_181) sk_mf_182) sk_mf_183) sk_mf_184) sk_mf_185) sk_mf_186) sk_mf_187) sk_mf_188) sk_mf_189) sk_mf_190) sk_mf_191) sk_mf_192) sk_mf_193) sk_mf_194) sk_mf_195) sk_mf_196) sk_mf_197) sk_mf_198) sk_mf_199) sk_mf_200) sk_mf_201) sk_mf_202) sk_mf_203) sk_mf_204) sk_mf_205) sk_mf_206) sk_mf_207) sk_mf_208) sk_mf_209) sk_mf_210) sk_mf_211) sk_mf_212) sk_mf_213) sk_mf_214) sk_mf_215) sk_mf_216) sk_mf_217) sk_mf_218) sk_mf_219) sk_mf_220) sk_mf_221) sk_mf_222) sk_mf_223) sk_mf_224) sk_mf_225) sk_mf_226) sk_mf_227) sk_mf_228) sk_mf_229) sk_mf_230) sk_mf_231) sk_mf_232) sk_mf_233) sk_mf_234) sk_mf_235) sk_mf_236) sk_mf_237) sk_mf_238) sk_mf_239) sk_mf_240) sk_mf_241) sk_mf_242) sk_mf_243) sk_mf_244) sk_mf_245) sk_mf_246) sk_mf_247) sk_mf_248) sk_mf_249) sk_mf_250) sk_mf_251) sk_mf_252) sk_mf_253) sk_mf_254) sk_mf_255) sk_mf_256) sk_mf_257) sk_mf_258) sk_mf_259) sk_mf_260
def sk_nwL : List Cond := [(Cond.fieldLinkNest "StuckKeys$Speller" (94 : Nat) "StuckKeys$Book" "words" "LStuckKeys$Rows;" "StuckKeys"), (Cond.fieldLinkNest "StuckKeys" (132 : Nat) "StuckKeys$Book" "words" "LStuckKeys$Rows;" "StuckKeys"), (Cond.fieldLinkNest "StuckKeys" (122 : Nat) "StuckKeys$Book" "names" "LStuckKeys$Rows;" "StuckKeys"), (Cond.fieldLinkNest "StuckKeys$Speller" (66 : Nat) "StuckKeys$Book" "pairs" "LStuckKeys$Rows;" "StuckKeys"), (Cond.fieldLinkNest "StuckKeys" (135 : Nat) "StuckKeys$Book" "pairs" "LStuckKeys$Rows;" "StuckKeys"), (Cond.fieldLinkNest "StuckKeys" (142 : Nat) "StuckKeys$Book" "log" "LStuckKeys$Rows;" "StuckKeys"), (Cond.methodLinkNest "StuckKeys" (18 : Nat) ({ cls := "StuckKeys$Book", name := "<init>", desc := "()V" } : MethodName) "StuckKeys"), (Cond.methodLinkNest "StuckKeys$History" (15 : Nat) ({ cls := "StuckKeys$Book", name := "<init>", desc := "()V" } : MethodName) "StuckKeys"), (Cond.methodLinkNest "StuckKeys" (41 : Nat) ({ cls := "StuckKeys$Script", name := "<init>", desc := "()V" } : MethodName) "StuckKeys")]
def sk_nwT : List (List (Nat × Nat)) := [[], [(132, 1), (122, 2), (135, 4), (142, 5), (18, 6), (41, 8)], [], [], [], [(94, 0), (66, 3)], [], [(15, 7)], [], [], [], [], [], [], [], [], [], [], []]
def sk_nw (c idx : Nat) : Option Nat := (sk_nwT.getD c []).lookup idx
def sk_hMT : List (List (Nat × Nat)) := [[(136, 40), (104, 295), (140, 299), (102, 303), (11, 307), (137, 316), (58, 319), (29, 322), (35, 419), (41, 433), (45, 475), (62, 563), (65, 566), (49, 569), (55, 581), (108, 586), (68, 591), (144, 666), (111, 669), (114, 681), (75, 684), (117, 696), (120, 704), (123, 719), (126, 734), (78, 737), (129, 749), (99, 752), (82, 755), (132, 783), (88, 786), (91, 798), (95, 803)], [(1, 43), (9, 48), (18, 133), (25, 193), (34, 237), (41, 253), (54, 326), (165, 395), (231, 399), (234, 403), (126, 423), (46, 437), (287, 440), (119, 449), (171, 479), (138, 573), (145, 585), (50, 595), (58, 598), (62, 607), (65, 626), (69, 647), (73, 673), (77, 688), (80, 692), (83, 700), (86, 708), (89, 711), (92, 714), (96, 723), (100, 730), (211, 741), (212, 745), (107, 759), (111, 770), (181, 790), (174, 802), (103, 807)], [(3, 51), (23, 53), (35, 57), (41, 67), (31, 107), (45, 111), (49, 115)], [(3, 136), (11, 139), (111, 407), (136, 411), (93, 415), (71, 453), (46, 457), (61, 461), (65, 465), (58, 466), (128, 470), (133, 471), (50, 602), (54, 606), (42, 642), (75, 651), (79, 655), (83, 677), (90, 718), (114, 763), (117, 767), (121, 768), (86, 769), (99, 774), (124, 778), (96, 815), (103, 821), (107, 825)], [(3, 142), (9, 143), (32, 427), (38, 577), (42, 578), (45, 579), (59, 646), (49, 659), (55, 662)], [(3, 196), (21, 199), (32, 483), (38, 487), (41, 488), (62, 492), (70, 494), (76, 495), (79, 496), (83, 500), (87, 504), (90, 505), (47, 509), (97, 513), (28, 516), (103, 559), (106, 794), (51, 811), (55, 816), (58, 817)], [(3, 202), (35, 520), (53, 523), (59, 524), (64, 525), (39, 528), (68, 532), (72, 535), (43, 539), (46, 543), (50, 547), (78, 551), (83, 555)], [(1, 240), (15, 243), (20, 630), (23, 634), (27, 638)], [(3, 256)], [(11, 443)], [], [], [], [], [], [(335, 61), (492, 71), (495, 75), (1059, 83)], [(9, 78)], [], []]
def sk_hM (c idx : Nat) : Nat := ((sk_hMT.getD c []).lookup idx).getD 0
theorem sk_lookup {β : Type} {i : Nat} {v : β} : ∀ {l : List (Nat × β)}, l.lookup i = some v → (i, v) ∈ l
  | [], h => by simp at h
  | (a, b) :: l, h => by
    rw [List.lookup_cons] at h
    by_cases e : (i == a) = true
    · rw [e] at h
      have e2 : i = a := by simpa using e
      cases h
      rw [e2]
      exact List.mem_cons_self
    · rw [Bool.not_eq_true] at e
      rw [e] at h
      exact List.mem_cons_of_mem _ (sk_lookup h)
/-- what stands behind a call's link -/
def sk_ml (c : Nat) (e : Nat × Nat) : Bool :=
  if e.2 = 999 then sk_isw (sk_hM c e.1) (.methodLink (sk_cn c) e.1 objectInit)
  else if e.2 = 253 then sk_isw (sk_hM c e.1) (.methodLink (sk_cn c) e.1 ⟨"StuckKeys$Command", "ordinal", "()I"⟩)
  else decide (e.2 < 261) && decide (e.2 ≠ 23) && (sk_sp e.2 == false || e.2 == 250 || e.2 == 251) && (match sk_nw c e.1 with
    | some j => decide (sk_nwL[j]? = some (.methodLinkNest (sk_cn c) e.1 (sk_nm e.2) "StuckKeys")) && decide (sk_kd e.2 = 2)
    | none => sk_isw (sk_hM c e.1) (.methodLink (sk_cn c) e.1 (sk_nm e.2)))
set_option maxRecDepth 100000 in
theorem sk_ml_all : ∀ c, c < 19 → ∀ e ∈ sk_lkMT.getD c [], sk_ml c e = true := by decide +kernel
def sk_hFT : List (List (Nat × Nat)) := [[], [(132, 162), (122, 164), (135, 167), (142, 171), (10, 279), (19, 280), (28, 281), (35, 282), (42, 283)], [(9, 119), (15, 120), (18, 121)], [(14, 160), (20, 163), (23, 165), (26, 168), (29, 169), (32, 170), (35, 172), (39, 173)], [(15, 146), (21, 147), (24, 148), (28, 149)], [(94, 161), (66, 166), (15, 225), (24, 226), (9, 227)], [(27, 203), (31, 204), (9, 205), (15, 206), (18, 207), (21, 208), (24, 209)], [(11, 244), (16, 245)], [(11, 257), (19, 258), (15, 259)], [], [], [], [], [], [], [(9, 830), (15, 831)], [], [], []]
def sk_hF (c idx : Nat) : Nat := ((sk_hFT.getD c []).lookup idx).getD 0
/-- fields of the constants: owner, name, descriptor -/
def sk_cfL : List (List (String × String × String)) := [[("java/lang/Enum", "ordinal", "I"), ("StuckKeys$Command", "text", "Ljava/lang/String;"), ("StuckKeys$Command", "words", "I"), ("StuckKeys$Command", "numbers", "I")], [("java/lang/String", "value", "[B"), ("java/lang/String", "coder", "B")]]
def sk_cf (c k : Nat) : Option (String × String × String) := (sk_cfL.getD (c - 20) [])[k]?
def sk_cty (c k : Nat) : Nat := (([[0, 2, 0, 0], [2, 4]] : List (List Nat)).getD (c - 20) []).getD k 0
def sk_fN (c k : Nat) : String × String × String := match sk_ow[c]? with
  | some r => ((r.2.1 k).1, (r.2.1 k).2.1, (r.2.1 k).2.2.1)
  | none => ("", "", "")
def sk_fFin (c k : Nat) : Bool := match sk_ow[c]? with
  | some r => (r.2.1 k).2.2.2
  | none => true
/-- what stands behind a field's link: own objects (c < 9), constants (20, 21) -/
def sk_fl (c : Nat) (e : Nat × Nat × Nat × Nat × Nat × Nat) : Bool := match e with
  | (idx, ci, k, t, fin, nest) =>
    (if ci < 9 then decide (k < (sk_tyL.getD ci []).length) && decide (t = sk_ty ci k) && decide (sk_fFin ci k = (fin == 1)) && decide (((sk_ow[ci]?).map (·.1)) = some (sk_fN ci k).1) &&
      (match nest with
        | 0 => sk_isw (sk_hF c idx) (.fieldLink (sk_cn c) idx (sk_fN ci k).1 (sk_fN ci k).2.1 (sk_fN ci k).2.2)
        | _ => (match sk_nw c idx with
          | some j => decide (sk_nwL[j]? = some (.fieldLinkNest (sk_cn c) idx (sk_fN ci k).1 (sk_fN ci k).2.1 (sk_fN ci k).2.2 "StuckKeys"))
          | none => false))
    else (match sk_cf ci k with
      | some q => decide (t = sk_cty ci k) && decide (ci = 20 ∨ ci = 21) && (match nest with
        | 0 => sk_isw (sk_hF c idx) (.fieldLink (sk_cn c) idx q.1 q.2.1 q.2.2)
        | _ => (match sk_nw c idx with
          | some j => decide (sk_nwL[j]? = some (.fieldLinkNest (sk_cn c) idx q.1 q.2.1 q.2.2 "StuckKeys"))
          | none => false))
      | none => false))
set_option maxRecDepth 100000 in
theorem sk_fl_all : ∀ c, c < 19 → ∀ e ∈ sk_lkFT.getD c [], sk_fl c e = true := by decide +kernel
def sk_hST : List (List (Nat × Nat)) := [[], [(304, 726), (307, 728)], [], [], [], [], [], [], [], [], [], [], [], [], [], [(38, 65), (1053, 81)], [], [], []]
def sk_hS (c idx : Nat) : Nat := ((sk_hST.getD c []).lookup idx).getD 0
/-- the static fields that are read -/
def sk_sfL : List (String × String × String) := [("StuckKeys", "LEAST_SETTINGS", "[I"), ("StuckKeys", "GREATEST_SETTINGS", "[I"), ("java/lang/String", "COMPACT_STRINGS", "Z"), ("jdk/internal/util/Preconditions", "SIOOBE_FORMATTER", "Ljava/util/function/BiFunction;")]
def sk_sl (c : Nat) (e : Nat × Nat) : Bool := match sk_sfL[e.2]? with
  | some q => sk_isw (sk_hS c e.1) (.fieldLink (sk_cn c) e.1 q.1 q.2.1 q.2.2)
  | none => false
theorem sk_sl_all : ∀ c, c < 19 → ∀ e ∈ sk_lkST.getD c [], sk_sl c e = true := by decide +kernel
def sk_hKT : List (List (Nat × Nat)) := [[(9, 306), (17, 310), (19, 311), (21, 312), (23, 313), (25, 314), (27, 315), (39, 432), (53, 580), (86, 782)], [], [], [], [(36, 431)], [(45, 493)], [], [], [], [(15, 446), (17, 447)], [], [], [], [], [], [], [], [], []]
def sk_hK (c idx : Nat) : Nat := ((sk_hKT.getD c []).lookup idx).getD 0
theorem sk_kl_all : ∀ c, c < 19 → ∀ e ∈ sk_lkKT.getD c [], sk_isw (sk_hK c e.1) (.constantLong (sk_cn c) e.1 e.2) = true := by decide +kernel
def sk_hIT : List (List (Nat × Nat)) := [[(7, 298), (8, 302)], [], [], [], [], [], [], [], [], [], [], [], [], [], [], [], [], [], []]
def sk_hI (c idx : Nat) : Nat := ((sk_hIT.getD c []).lookup idx).getD 0
theorem sk_il_all : ∀ c, c < 19 → ∀ e ∈ sk_lkIT.getD c [], sk_isw (sk_hI c e.1) (.constant (sk_cn c) e.1 e.2) = true := by decide +kernel
def sk_hNT : List (List (Nat × Nat × Nat × Nat)) := [[(30, 38, 39, 19)], [(7, 46, 47, 20), (16, 131, 132, 25), (23, 191, 192, 28), (32, 235, 236, 30), (39, 251, 252, 31)], [], [(9, 137, 138, 26)], [], [(19, 197, 198, 29)], [], [(9, 241, 132, 25)], [], [], [], [], [], [], [], [], [], [], []]
def sk_hN (c idx : Nat) : Nat × Nat × Nat := ((sk_hNT.getD c []).lookup idx).getD (0, 0, 0)
def sk_nl (c : Nat) (e : Nat × Nat) : Bool := match sk_ow[e.2]?, sk_hN c e.1 with
  | some r, (a, b, d) => sk_isw a (.classLink (sk_cn c) e.1 r.1) && (sk_isw b (.instantiable r.1 r.2.2) && sk_isw d (.initialized r.1)) && decide (r.2.2 = (sk_tyL.getD e.2 []).length)
  | none, _ => false
theorem sk_nl_all : ∀ c, c < 19 → ∀ e ∈ sk_lkNT.getD c [], sk_nl c e = true := by decide +kernel
