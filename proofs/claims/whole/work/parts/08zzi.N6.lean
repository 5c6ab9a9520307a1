/-! the constructor of the model; the law from its start -/
section NF0
theorem kp_J {I I' : MI} {J J' : MJ} {R R' : MR} {S S' : Sh} {a b k n : Nat} {v : Int64} (h : kp a b I J R S I' J' R' S') (hk : k < a ∨ b ≤ k) : kp a b I J R S I' (u2 J' k n v) R' S' := fun p h3 h4 => by
  obtain ⟨a1, a2, a3, a4, a5⟩ := h p h3 h4
  exact ⟨a1, by rw [u2_p (by omega)]; exact a2, a3, a4, a5⟩
end NF0
section NF
variable {I I' I2 : MI} {J J' J2 : MJ} {R R' R2 : MR} {S S' S2 : Sh} {Q : SkQ} {T : Nat} {s : Nat → Bk} {x : Nat → Int32}
theorem n305 : 0 ≤ (305 : Int32).toInt ∧ (305 : Int32).toInt ≤ 100000 := by decide
theorem n1220 : 0 ≤ (1220 : Int32).toInt ∧ (1220 : Int32).toInt ≤ 100000 := by decide
theorem n40 : 0 ≤ (40 : Int32).toInt ∧ (40 : Int32).toInt ≤ 100000 := by decide
theorem n1 : 0 ≤ (1 : Int32).toInt ∧ (1 : Int32).toInt ≤ 100000 := by decide
theorem ix305 : ix 305 = 305 := by decide
theorem ix1220 : ix 1220 = 1220 := by decide
theorem ix40 : ix 40 = 40 := by decide
theorem inM_0 : inb 0 26 = true := by decide
theorem ixM_0 : ix 0 = 0 := by decide
theorem inM_1 : inb 1 26 = true := by decide
theorem ixM_1 : ix 1 = 1 := by decide
theorem inM_2 : inb 2 26 = true := by decide
theorem ixM_2 : ix 2 = 2 := by decide
theorem inM_3 : inb 3 26 = true := by decide
theorem ixM_3 : ix 3 = 3 := by decide
theorem inM_4 : inb 4 26 = true := by decide
theorem ixM_4 : ix 4 = 4 := by decide
theorem inM_5 : inb 5 26 = true := by decide
theorem ixM_5 : ix 5 = 5 := by decide
theorem inM_6 : inb 6 26 = true := by decide
theorem ixM_6 : ix 6 = 6 := by decide
theorem inM_7 : inb 7 26 = true := by decide
theorem ixM_7 : ix 7 = 7 := by decide
theorem inM_8 : inb 8 26 = true := by decide
theorem ixM_8 : ix 8 = 8 := by decide
theorem inM_9 : inb 9 26 = true := by decide
theorem ixM_9 : ix 9 = 9 := by decide
theorem inM_10 : inb 10 26 = true := by decide
theorem ixM_10 : ix 10 = 10 := by decide
theorem inM_11 : inb 11 26 = true := by decide
theorem ixM_11 : ix 11 = 11 := by decide
theorem inM_12 : inb 12 26 = true := by decide
theorem ixM_12 : ix 12 = 12 := by decide
theorem inM_13 : inb 13 26 = true := by decide
theorem ixM_13 : ix 13 = 13 := by decide
theorem inM_14 : inb 14 26 = true := by decide
theorem ixM_14 : ix 14 = 14 := by decide
theorem inM_15 : inb 15 26 = true := by decide
theorem ixM_15 : ix 15 = 15 := by decide
theorem inM_16 : inb 16 26 = true := by decide
theorem ixM_16 : ix 16 = 16 := by decide
theorem inM_17 : inb 17 26 = true := by decide
theorem ixM_17 : ix 17 = 17 := by decide
theorem inM_18 : inb 18 26 = true := by decide
theorem ixM_18 : ix 18 = 18 := by decide
theorem inM_19 : inb 19 26 = true := by decide
theorem ixM_19 : ix 19 = 19 := by decide
theorem inM_20 : inb 20 26 = true := by decide
theorem ixM_20 : ix 20 = 20 := by decide
theorem inM_21 : inb 21 26 = true := by decide
theorem ixM_21 : ix 21 = 21 := by decide
theorem inM_22 : inb 22 26 = true := by decide
theorem ixM_22 : ix 22 = 22 := by decide
theorem inM_23 : inb 23 26 = true := by decide
theorem ixM_23 : ix 23 = 23 := by decide
theorem inM_24 : inb 24 26 = true := by decide
theorem ixM_24 : ix 24 = 24 := by decide
theorem inM_25 : inb 25 26 = true := by decide
theorem ixM_25 : ix 25 = 25 := by decide
theorem c_M_init (hS : S.1 187 = 8) (hn : S.2.2.1 = 188) (h0 : S.2.2.2.1 = 0) (hI : ∀ k, I 187 k = 0) (hQ : ∀ I' J' R' S', kp 0 187 I J R S I' J' R' S' → cq S S' 198 1918 → MOk I' J' R' S' bk0 0 s x 0 0 → Q 0 none I' J' R' S') : Wp 173 0 [.ref 187] [] I J R S Q := by
  have c1 : (sh_new S 31 305 305).2.2.1 = 189 := by rw [sh_c, hn]
  have k1 : (sh_new S 31 305 305).1 187 = 8 := by rw [sh_1p (by omega)]; exact hS
  have c2 : (sh_new (sh_new S 31 305 305) 31 1220 1220).2.2.1 = 190 := by rw [sh_c, c1]
  have k2 : (sh_new (sh_new S 31 305 305) 31 1220 1220).1 187 = 8 := by rw [sh_1p (by omega)]; exact k1
  have c3 : (sh_new (sh_new (sh_new S 31 305 305) 31 1220 1220) 30 26 26).2.2.1 = 191 := by rw [sh_c, c2]
  have k3 : (sh_new (sh_new (sh_new S 31 305 305) 31 1220 1220) 30 26 26).1 187 = 8 := by rw [sh_1p (by omega)]; exact k2
  have c4 : (sh_new (sh_new (sh_new (sh_new S 31 305 305) 31 1220 1220) 30 26 26) 30 8 8).2.2.1 = 192 := by rw [sh_c, c3]
  have k4 : (sh_new (sh_new (sh_new (sh_new S 31 305 305) 31 1220 1220) 30 26 26) 30 8 8).1 187 = 8 := by rw [sh_1p (by omega)]; exact k3
  have c5 : (sh_new (sh_new (sh_new (sh_new (sh_new S 31 305 305) 31 1220 1220) 30 26 26) 30 8 8) 30 8 8).2.2.1 = 193 := by rw [sh_c, c4]
  have k5 : (sh_new (sh_new (sh_new (sh_new (sh_new S 31 305 305) 31 1220 1220) 30 26 26) 30 8 8) 30 8 8).1 187 = 8 := by rw [sh_1p (by omega)]; exact k4
  have c6 : (sh_new (sh_new (sh_new (sh_new (sh_new (sh_new S 31 305 305) 31 1220 1220) 30 26 26) 30 8 8) 30 8 8) 30 81 81).2.2.1 = 194 := by rw [sh_c, c5]
  have k6 : (sh_new (sh_new (sh_new (sh_new (sh_new (sh_new S 31 305 305) 31 1220 1220) 30 26 26) 30 8 8) 30 8 8) 30 81 81).1 187 = 8 := by rw [sh_1p (by omega)]; exact k5
  have c7 : (sh_new (sh_new (sh_new (sh_new (sh_new (sh_new (sh_new S 31 305 305) 31 1220 1220) 30 26 26) 30 8 8) 30 8 8) 30 81 81) 30 150 150).2.2.1 = 195 := by rw [sh_c, c6]
  have k7 : (sh_new (sh_new (sh_new (sh_new (sh_new (sh_new (sh_new S 31 305 305) 31 1220 1220) 30 26 26) 30 8 8) 30 8 8) 30 81 81) 30 150 150).1 187 = 8 := by rw [sh_1p (by omega)]; exact k6
  have c8 : (sh_new (sh_new (sh_new (sh_new (sh_new (sh_new (sh_new (sh_new S 31 305 305) 31 1220 1220) 30 26 26) 30 8 8) 30 8 8) 30 81 81) 30 150 150) 30 40 40).2.2.1 = 196 := by rw [sh_c, c7]
  have k8 : (sh_new (sh_new (sh_new (sh_new (sh_new (sh_new (sh_new (sh_new S 31 305 305) 31 1220 1220) 30 26 26) 30 8 8) 30 8 8) 30 81 81) 30 150 150) 30 40 40).1 187 = 8 := by rw [sh_1p (by omega)]; exact k7
  have c9 : (sh_new (sh_new (sh_new (sh_new (sh_new (sh_new (sh_new (sh_new (sh_new S 31 305 305) 31 1220 1220) 30 26 26) 30 8 8) 30 8 8) 30 81 81) 30 150 150) 30 40 40) 31 40 40).2.2.1 = 197 := by rw [sh_c, c8]
  have k9 : (sh_new (sh_new (sh_new (sh_new (sh_new (sh_new (sh_new (sh_new (sh_new S 31 305 305) 31 1220 1220) 30 26 26) 30 8 8) 30 8 8) 30 81 81) 30 150 150) 30 40 40) 31 40 40).1 187 = 8 := by rw [sh_1p (by omega)]; exact k8
  have c10 : (sh_new (sh_new (sh_new (sh_new (sh_new (sh_new (sh_new (sh_new (sh_new (sh_new S 31 305 305) 31 1220 1220) 30 26 26) 30 8 8) 30 8 8) 30 81 81) 30 150 150) 30 40 40) 31 40 40) 31 40 40).2.2.1 = 198 := by rw [sh_c, c9]
  have k10 : (sh_new (sh_new (sh_new (sh_new (sh_new (sh_new (sh_new (sh_new (sh_new (sh_new S 31 305 305) 31 1220 1220) 30 26 26) 30 8 8) 30 8 8) 30 81 81) 30 150 150) 30 40 40) 31 40 40) 31 40 40).1 187 = 8 := by rw [sh_1p (by omega)]; exact k9
  have a1 : (sh_new (sh_new (sh_new S 31 305 305) 31 1220 1220) 30 26 26).1 190 = 30 := sh_1e c2.symm
  have a2 : (sh_new (sh_new (sh_new S 31 305 305) 31 1220 1220) 30 26 26).2.1 190 = 26 := sh_2e c2.symm
  have a3 : (sh_new (sh_new (sh_new (sh_new (sh_new (sh_new (sh_new (sh_new (sh_new (sh_new S 31 305 305) 31 1220 1220) 30 26 26) 30 8 8) 30 8 8) 30 81 81) 30 150 150) 30 40 40) 31 40 40) 31 40 40).1 188 = 31 := by rw [sh_1p (by omega), sh_1p (by omega), sh_1p (by omega), sh_1p (by omega), sh_1p (by omega), sh_1p (by omega), sh_1p (by omega), sh_1p (by omega), sh_1p (by omega), sh_1e (by omega)]
  have a4 : (sh_new (sh_new (sh_new (sh_new (sh_new (sh_new (sh_new (sh_new (sh_new (sh_new S 31 305 305) 31 1220 1220) 30 26 26) 30 8 8) 30 8 8) 30 81 81) 30 150 150) 30 40 40) 31 40 40) 31 40 40).2.1 188 = 305 := by rw [sh_2p (by omega), sh_2p (by omega), sh_2p (by omega), sh_2p (by omega), sh_2p (by omega), sh_2p (by omega), sh_2p (by omega), sh_2p (by omega), sh_2p (by omega), sh_2e (by omega)]
  have r0 : (u2 (u2 (u2 (u2 (u2 (u2 (u2 (u2 (u2 (u2 R 187 0 (.ref 188)) 187 1 (.ref 189)) 187 5 (.ref 190)) 187 6 (.ref 191)) 187 7 (.ref 192)) 187 8 (.ref 193)) 187 10 (.ref 194)) 187 13 (.ref 195)) 187 14 (.ref 196)) 187 15 (.ref 197)) 187 0 = .ref 188 := rfl
  simp only [x_M_init_0, x_M_init_1, x_M_init_4, x_M_init_5, x_M_init_8, x_M_init_10, x_M_init_13, x_M_init_14, x_M_init_17, x_M_init_19, x_M_init_22, x_M_init_23, x_M_init_25, x_M_init_27, x_M_init_28, x_M_init_29, x_M_init_31, x_M_init_32, x_M_init_33, x_M_init_34, x_M_init_36, x_M_init_37, x_M_init_38, x_M_init_39, x_M_init_41, x_M_init_42, x_M_init_43, x_M_init_44, x_M_init_46, x_M_init_47, x_M_init_48, x_M_init_49, x_M_init_50, x_M_init_51, x_M_init_52, x_M_init_53, x_M_init_55, x_M_init_56, x_M_init_57, x_M_init_59, x_M_init_61, x_M_init_62, x_M_init_63, x_M_init_65, x_M_init_67, x_M_init_68, x_M_init_69, x_M_init_71, x_M_init_73, x_M_init_74, x_M_init_75, x_M_init_77, x_M_init_79, x_M_init_80, x_M_init_81, x_M_init_83, x_M_init_85, x_M_init_86, x_M_init_87, x_M_init_89, x_M_init_91, x_M_init_92, x_M_init_93, x_M_init_95, x_M_init_97, x_M_init_98, x_M_init_99, x_M_init_101, x_M_init_103, x_M_init_104, x_M_init_105, x_M_init_107, x_M_init_109, x_M_init_110, x_M_init_111, x_M_init_113, x_M_init_115, x_M_init_116, x_M_init_117, x_M_init_119, x_M_init_120, x_M_init_121, x_M_init_122, x_M_init_124, x_M_init_125, x_M_init_126, x_M_init_127, x_M_init_129, x_M_init_131, x_M_init_132, x_M_init_133, x_M_init_135, x_M_init_136, x_M_init_137, x_M_init_138, x_M_init_140, x_M_init_142, x_M_init_143, x_M_init_144, x_M_init_146, x_M_init_148, x_M_init_149, x_M_init_150, x_M_init_152, x_M_init_153, x_M_init_154, x_M_init_155, x_M_init_157, x_M_init_159, x_M_init_160, x_M_init_161, x_M_init_163, x_M_init_164, x_M_init_165, x_M_init_166, x_M_init_168, x_M_init_170, x_M_init_171, x_M_init_174, x_M_init_175, x_M_init_177, x_M_init_179, x_M_init_182, x_M_init_183, x_M_init_185, x_M_init_187, x_M_init_190, x_M_init_191, x_M_init_193, x_M_init_195, x_M_init_198, x_M_init_199, x_M_init_202, x_M_init_204, x_M_init_207, x_M_init_208, x_M_init_210, x_M_init_212, x_M_init_215, x_M_init_216, x_M_init_218, x_M_init_220, x_M_init_223, x_M_init_224, x_M_init_226, x_M_init_228, x_M_init_231, x_M_init_232, x_M_init_235, x_M_init_237, x_M_init_240, x_M_init_241, x_M_init_242, x_M_init_245, x_M_init_247, x_M_init_250, x_M_init_251, x_M_init_252, x_M_init_255, x_M_init_257, x_M_init_260, x_M_init_261, hS, hn, h0, sh_t, and_self, n305, n1220, n26, n8, n81, n150, n40, ix305, ix1220, ix26, ixK_8, ix81, ix150, ix40, c1, k1, c2, k2, c3, k3, c4, k4, c5, k5, c6, k6, c7, k7, c8, k8, c9, k9, c10, k10, a1, a2, a3, a4, r0, inK_6, inK_7, inK_8, ixK_6, ixK_7, ixK_8, inM_0, ixM_0, inM_1, ixM_1, inM_2, ixM_2, inM_3, ixM_3, inM_4, ixM_4, inM_5, ixM_5, inM_6, ixM_6, inM_7, ixM_7, inM_8, ixM_8, inM_9, ixM_9, inM_10, ixM_10, inM_11, ixM_11, inM_12, ixM_12, inM_13, ixM_13, inM_14, ixM_14, inM_15, ixM_15, inM_16, ixM_16, inM_17, ixM_17, inM_18, ixM_18, inM_19, ixM_19, inM_20, ixM_20, inM_21, ixM_21, inM_22, ixM_22, inM_23, ixM_23, inM_24, ixM_24, inM_25, ixM_25, bI_0, bI_t, bI_f, e10, isA30, isA31, isA33, isA40, isA42, isA43, rOkB0, rOkB1, rOkB, Ret_v, Ret_n, cmp_eq, cmp_lt, cmp_gt, nI_1, eq_self, if_true, if_false, reduceIte]
  have f1 : kp 0 187 I J R S (u1 (u1 (u1 (u1 (u1 (u2 (u2 (u2 (u2 (u2 (u2 (u2 (u2 (u2 (u2 (u2 (u2 (u2 (u2 (u2 (u2 (u2 (u2 (u2 (u2 (u2 (u2 (u2 (u2 (u2 (u2 (u1 I 190 0) 190 0 10) 190 1 24) 190 2 22) 190 3 12) 190 4 2) 190 5 13) 190 6 14) 190 7 15) 190 8 7) 190 9 16) 190 10 17) 190 11 18) 190 12 26) 190 13 25) 190 14 8) 190 15 9) 190 16 0) 190 17 3) 190 18 11) 190 19 4) 190 20 6) 190 21 23) 190 22 1) 190 23 21) 190 24 5) 190 25 20) 191 0) 192 0) 193 0) 194 0) 195 0) (u2 (u2 (u2 (u1 (u1 (u1 (u1 J 188 0) 189 0) 196 0) 197 0) 188 6 4) 188 7 2) 188 8 3) (u2 (u2 (u2 (u2 (u2 (u2 (u2 (u2 (u2 (u2 R 187 0 (.ref 188)) 187 1 (.ref 189)) 187 5 (.ref 190)) 187 6 (.ref 191)) 187 7 (.ref 192)) 187 8 (.ref 193)) 187 10 (.ref 194)) 187 13 (.ref 195)) 187 14 (.ref 196)) 187 15 (.ref 197)) (sh_new (sh_new (sh_new (sh_new (sh_new (sh_new (sh_new (sh_new (sh_new (sh_new S 31 305 305) 31 1220 1220) 30 26 26) 30 8 8) 30 8 8) 30 81 81) 30 150 150) 30 40 40) 31 40 40) 31 40 40) := kp_S (kp_S (kp_S (kp_S (kp_S (kp_S (kp_S (kp_S (kp_S (kp_S (kp_R (kp_R (kp_R (kp_R (kp_R (kp_R (kp_R (kp_R (kp_R (kp_R (kp_J (kp_J (kp_J (kp_u1J (kp_u1J (kp_u1J (kp_u1J (kp_u1I (kp_u1I (kp_u1I (kp_u1I (kp_u1I (kp_I (kp_I (kp_I (kp_I (kp_I (kp_I (kp_I (kp_I (kp_I (kp_I (kp_I (kp_I (kp_I (kp_I (kp_I (kp_I (kp_I (kp_I (kp_I (kp_I (kp_I (kp_I (kp_I (kp_I (kp_I (kp_I (kp_u1I kp_rfl (by omega)) (by omega)) (by omega)) (by omega)) (by omega)) (by omega)) (by omega)) (by omega)) (by omega)) (by omega)) (by omega)) (by omega)) (by omega)) (by omega)) (by omega)) (by omega)) (by omega)) (by omega)) (by omega)) (by omega)) (by omega)) (by omega)) (by omega)) (by omega)) (by omega)) (by omega)) (by omega)) (by omega)) (by omega)) (by omega)) (by omega)) (by omega)) (by omega)) (by omega)) (by omega)) (by omega)) (by omega)) (by omega)) (by omega)) (by omega)) (by omega)) (by omega)) (by omega)) (by omega)) (by omega)) (by omega)) (by omega)) (by omega)) (by omega)) (by omega)) (by omega)) (by omega)) (by omega)) (by omega)) (by omega)) (by omega)) (by omega)) (by omega)) (by omega)
  have v : ∀ i, i < 26 → (u1 (u1 (u1 (u1 (u1 (u2 (u2 (u2 (u2 (u2 (u2 (u2 (u2 (u2 (u2 (u2 (u2 (u2 (u2 (u2 (u2 (u2 (u2 (u2 (u2 (u2 (u2 (u2 (u2 (u2 (u2 (u1 I 190 0) 190 0 10) 190 1 24) 190 2 22) 190 3 12) 190 4 2) 190 5 13) 190 6 14) 190 7 15) 190 8 7) 190 9 16) 190 10 17) 190 11 18) 190 12 26) 190 13 25) 190 14 8) 190 15 9) 190 16 0) 190 17 3) 190 18 11) 190 19 4) 190 20 6) 190 21 23) 190 22 1) 190 23 21) 190 24 5) 190 25 20) 191 0) 192 0) 193 0) 194 0) 195 0) 190 i = nI (plc i) := by
    intro i hi
    rcases (show i = 0 ∨ i = 1 ∨ i = 2 ∨ i = 3 ∨ i = 4 ∨ i = 5 ∨ i = 6 ∨ i = 7 ∨ i = 8 ∨ i = 9 ∨ i = 10 ∨ i = 11 ∨ i = 12 ∨ i = 13 ∨ i = 14 ∨ i = 15 ∨ i = 16 ∨ i = 17 ∨ i = 18 ∨ i = 19 ∨ i = 20 ∨ i = 21 ∨ i = 22 ∨ i = 23 ∨ i = 24 ∨ i = 25 by omega) with q | q | q | q | q | q | q | q | q | q | q | q | q | q | q | q | q | q | q | q | q | q | q | q | q | q <;> subst q <;> rfl
  refine hQ _ _ _ _ f1 ⟨c10, h0, by rw [sh_w, sh_w, sh_w, sh_w, sh_w, sh_w, sh_w, sh_w, sh_w, sh_w]⟩ ⟨⟨⟨k10, a3, a4, rfl⟩, by rw [sh_1p (by omega), sh_1p (by omega), sh_1p (by omega), sh_1p (by omega), sh_1p (by omega), sh_1p (by omega), sh_1p (by omega), sh_1p (by omega), sh_1e (by omega)], by rw [sh_2p (by omega), sh_2p (by omega), sh_2p (by omega), sh_2p (by omega), sh_2p (by omega), sh_2p (by omega), sh_2p (by omega), sh_2p (by omega), sh_2e (by omega)], by rw [sh_1p (by omega), sh_1p (by omega), sh_1p (by omega), sh_1p (by omega), sh_1p (by omega), sh_1p (by omega), sh_1p (by omega), sh_1e (by omega)], by rw [sh_2p (by omega), sh_2p (by omega), sh_2p (by omega), sh_2p (by omega), sh_2p (by omega), sh_2p (by omega), sh_2p (by omega), sh_2e (by omega)], by rw [sh_1p (by omega), sh_1p (by omega), sh_1p (by omega), sh_1p (by omega), sh_1p (by omega), sh_1p (by omega), sh_1e (by omega)], by rw [sh_2p (by omega), sh_2p (by omega), sh_2p (by omega), sh_2p (by omega), sh_2p (by omega), sh_2p (by omega), sh_2e (by omega)], by rw [sh_1p (by omega), sh_1p (by omega), sh_1p (by omega), sh_1p (by omega), sh_1p (by omega), sh_1e (by omega)], by rw [sh_2p (by omega), sh_2p (by omega), sh_2p (by omega), sh_2p (by omega), sh_2p (by omega), sh_2e (by omega)], by rw [sh_1p (by omega), sh_1p (by omega), sh_1p (by omega), sh_1p (by omega), sh_1e (by omega)], by rw [sh_2p (by omega), sh_2p (by omega), sh_2p (by omega), sh_2p (by omega), sh_2e (by omega)], by rw [sh_1p (by omega), sh_1p (by omega), sh_1p (by omega), sh_1e (by omega)], by rw [sh_2p (by omega), sh_2p (by omega), sh_2p (by omega), sh_2e (by omega)], by rw [sh_1p (by omega), sh_1p (by omega), sh_1e (by omega)], by rw [sh_2p (by omega), sh_2p (by omega), sh_2e (by omega)], by rw [sh_1p (by omega), sh_1e (by omega)], by rw [sh_2p (by omega), sh_2e (by omega)], by rw [sh_1e (by omega)], by rw [sh_2e (by omega)], rfl, rfl, rfl, rfl, rfl, rfl, rfl, rfl, rfl⟩, ?_, fun i hi => absurd hi (Nat.not_lt_zero i), by omega, ?_, ?_, ?_, by omega, v, fun i hi => absurd hi (Nat.not_lt_zero i)⟩
  · refine ⟨⟨rfl, fun i hi => absurd hi (Nat.not_lt_zero i), fun i hi => absurd hi (Nat.not_lt_zero i)⟩, ⟨rfl, fun i hi => absurd hi (Nat.not_lt_zero i)⟩, ⟨rfl, fun i hi => absurd hi (Nat.not_lt_zero i), fun i hi => absurd hi (Nat.not_lt_zero i), fun i hi => absurd hi (Nat.not_lt_zero i)⟩, ⟨rfl, fun i hi => absurd hi (Nat.not_lt_zero i), fun i hi => absurd hi (Nat.not_lt_zero i)⟩, ⟨rfl, fun i hi => absurd hi (Nat.not_lt_zero i), fun i hi => absurd hi (Nat.not_lt_zero i)⟩, ⟨rfl, fun i hi => absurd hi (Nat.not_lt_zero i), fun i hi => absurd hi (Nat.not_lt_zero i), fun i hi => absurd hi (Nat.not_lt_zero i)⟩, ?_, ?_⟩
    · intro i hi
      rcases (show i = 0 ∨ i = 1 ∨ i = 2 by omega) with q | q | q <;> subst q <;> rfl
    · intro i hi
      rw [u2_k (by omega), u2_k (by omega), u2_k (by omega), u1_p (by omega), u1_p (by omega), u1_p (by omega), u1_e]
      rfl
  · show I 187 2 = nI 0
    rw [hI, nI_0]
  · show I 187 3 = 0
    exact hI 3
  · show I 187 11 = nI 0
    rw [hI, nI_0]
theorem rOk1 : rOk (some .boolean) 1 = true := by decide
theorem MOk_kp {a : Bk} {n l d : Nat} {qt : Int32} (h : MOk I J R S a n s x l qt) (k : kp 0 d I J R S I' J' R' S') (h2 : 197 < d) : MOk I' J' R' S' a n s x l qt := by
  obtain ⟨h1, h2', h3, h4, h5, h6, h7, h8, h9, h10⟩ := h
  obtain ⟨p1, -, p3, p4, p5⟩ := k 187 (by omega) (by omega)
  obtain ⟨-, a2, -, a4, a5⟩ := k 188 (by omega) (by omega)
  obtain ⟨-, b2, -, b4, b5⟩ := k 189 (by omega) (by omega)
  obtain ⟨c1, -, -, c4, c5⟩ := k 190 (by omega) (by omega)
  obtain ⟨-, -, -, d4, d5⟩ := k 191 (by omega) (by omega)
  obtain ⟨-, -, -, e4, e5⟩ := k 192 (by omega) (by omega)
  obtain ⟨-, -, -, f4, f5⟩ := k 193 (by omega) (by omega)
  obtain ⟨g1, -, -, g4, g5⟩ := k 194 (by omega) (by omega)
  obtain ⟨-, -, -, i4, i5⟩ := k 195 (by omega) (by omega)
  obtain ⟨-, -, -, j4, j5⟩ := k 196 (by omega) (by omega)
  obtain ⟨-, -, -, l4, l5⟩ := k 197 (by omega) (by omega)
  refine ⟨?_, by rw [a2]; exact h2', by rw [b2]; exact h3, h4, by rw [p1]; exact h5, by rw [p1]; exact h6, by rw [p1]; exact h7, h8, by rw [c1]; exact h9, by rw [g1]; exact h10⟩
  unfold MyS MxS at h1 ⊢
  rw [p3, p4, a4, a5, b4, b5, c4, c5, d4, d5, e4, e5, f4, f5, g4, g5, i4, i5, j4, j5, l4, l5]
  exact h1
/-- the law from its start -/
theorem c_L_law (hn : S.2.2.1 = 35) (h0 : S.2.2.2.1 = 0) (h4 : S.1 34 = 40) (hL : S.2.1 34 ≤ 2560) (t1 : StS R S I 12 23 10 rd1) (t2 : StS R S I 13 24 9 rd2) (t3 : StS R S I 14 25 7 rd3) (hC : CmS R S I) (hN : CnS S I) (hQ : ∀ I' J' R' S', S'.2.2.1 = 199 → S'.2.2.2.1 ≤ 512 → S'.2.2.2.2 ≤ S.2.2.2.2 + 7480 → Q 0 (some (.int 1)) I' J' R' S') : Wp 23 0 [.ref 34, nov, nov, nov, nov, nov, nov, nov] [] I J R S Q := by
  have z1 : (sh_new S 7 0 5).1 35 = 7 := sh_1e hn.symm
  have m1 := kp_new (I := I) (J := J) (R := R) (k := 7) (n := 0) (w := 5) hn
  simp only [x_L_law_0, x_L_law_3, x_L_law_4, hn, h0, z1, bI_0, bI_t, bI_f, e10, isA30, isA31, isA33, isA40, isA42, isA43, rOkB0, rOkB1, rOkB, Ret_v, Ret_n, cmp_eq, cmp_lt, cmp_gt, nI_1, eq_self, if_true, if_false, reduceIte]
  refine c_K_init (T := 0) (s := fun _ => bk0) (x := fun _ => 0) z1 (by rw [sh_c, hn]) h0 (StS_kp t1 m1 (by omega) (by omega)) (StS_kp t2 m1 (by omega) (by omega)) (StS_kp t3 m1 (by omega) (by omega)) (CmS_kp hC m1 (by omega)) (CnS_kp hN m1 (by omega)) (fun I1 J1 R1 S1 k1 c1 K1 => ?_)
  have d1 := c1.1
  have e1 := c1.2.1
  have f1 := kp_trans m1 k1
  have z2 : (sh_new S1 8 0 18).1 187 = 8 := sh_1e d1.symm
  have m2 := kp_new (I := I1) (J := J1) (R := R1) (k := 8) (n := 0) (w := 18) d1
  simp only [x_L_law_7, x_L_law_8, x_L_law_11, x_L_law_12, d1, e1, z2, bI_0, bI_t, bI_f, e10, isA30, isA31, isA33, isA40, isA42, isA43, rOkB0, rOkB1, rOkB, Ret_v, Ret_n, cmp_eq, cmp_lt, cmp_gt, nI_1, eq_self, if_true, if_false, reduceIte]
  refine c_M_init (s := fun _ => bk0) (x := fun _ => 0) z2 (by rw [sh_c, d1]) e1 (fun k => u1_e) (fun I2 J2 R2 S2 k2 c2 M2 => ?_)
  have d2 := c2.1
  have e2 := c2.2.1
  have f2 := kp_trans m2 k2
  have K2 := KOk_kp K1 f2 (by omega)
  have ix1' : ix 1 = 1 := by decide
  simp only [x_L_law_15, x_L_law_16, x_L_law_17, x_L_law_19, x_L_law_20, x_L_law_21, d2, e2, n1, ix1', and_self, bI_0, bI_t, bI_f, e10, isA30, isA31, isA33, isA40, isA42, isA43, rOkB0, rOkB1, rOkB, Ret_v, Ret_n, cmp_eq, cmp_lt, cmp_gt, nI_1, eq_self, if_true, if_false, reduceIte]
  have f3 : kp 0 198 I2 J2 R2 S2 I2 (u1 J2 198 0) R2 (sh_new S2 31 1 1) := kp_S (kp_u1J kp_rfl (by omega)) (by omega)
  have f4 : kp 0 35 I J R S I2 (u1 J2 198 0) R2 (sh_new S2 31 1 1) := kp_trans f1 (kp_trans (kp_mono f2 (by omega) (by omega)) (kp_mono f3 (by omega) (by omega)))
  have g34 := f4 34 (by omega) (by omega)
  have K3 : KOk I2 (u1 J2 198 0) R2 (sh_new S2 31 1 1) 0 bk0 0 (fun _ => bk0) (fun _ => 0) 0 := KOk_kp K2 f3 (by omega)
  have M3 : MOk I2 (u1 J2 198 0) R2 (sh_new S2 31 1 1) bk0 0 (fun _ => bk0) (fun _ => 0) 0 0 := MOk_kp M2 f3 (by omega)
  rw [← nI_0]
  have hw : (sh_new S2 31 1 1).2.2.2.2 = S.2.2.2.2 + 4406 := by rw [sh_w, c2.2.2, sh_w, c1.2.2, sh_w]
  refine l_law 512 0 0 (bk0, 0, (fun _ => bk0), (fun _ => 0), 0) I2 (u1 J2 198 0) R2 (sh_new S2 31 1 1) nov nov (by rw [g34.2.2.2.2]; omega) (by rw [g34.2.2.2.2]; omega) (by omega) (by omega) K3 M3 (sh_1e d2.symm) (sh_2e d2.symm) (g34.2.2.2.1.trans h4) (fun I' J' R' S' hs => ?_)
  obtain ⟨-, -, q3, q4, q5⟩ := hs
  refine hQ I' J' R' S' (by rw [q3, sh_c, d2]) (by rw [sh_t, e2] at q4; omega) (by rw [hw] at q5; omega)
end NF
