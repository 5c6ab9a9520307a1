/-! small numbers -/
theorem kI_0 : nI 0 = 0 := by decide
theorem kI_1 : nI 1 = 1 := by decide
theorem kI_2 : nI 2 = 2 := by decide
theorem kI_3 : nI 3 = 3 := by decide
theorem kI_4 : nI 4 = 4 := by decide
theorem kI_5 : nI 5 = 5 := by decide
theorem kI_6 : nI 6 = 6 := by decide
theorem kI_7 : nI 7 = 7 := by decide
theorem kI_8 : nI 8 = 8 := by decide
theorem kI_9 : nI 9 = 9 := by decide
theorem kI_10 : nI 10 = 10 := by decide
theorem kI_11 : nI 11 = 11 := by decide
theorem kI_20 : nI 20 = 20 := by decide
theorem kI_24 : nI 24 = 24 := by decide
theorem kI_26 : nI 26 = 26 := by decide
theorem kI_35 : nI 35 = 35 := by decide
theorem kI_55 : nI 55 = 55 := by decide
theorem kI_75 : nI 75 = 75 := by decide
theorem kI_85 : nI 85 = 85 := by decide
theorem kI_109 : nI 109 = 109 := by decide
theorem kI_133 : nI 133 = 133 := by decide
theorem kI_157 : nI 157 = 157 := by decide
theorem kI_181 : nI 181 = 181 := by decide
theorem kI_205 : nI 205 = 205 := by decide
theorem kI_225 : nI 225 = 225 := by decide
theorem kI_245 : nI 245 = 245 := by decide
theorem kI_265 : nI 265 = 265 := by decide
theorem kI_285 : nI 285 = 285 := by decide
theorem kI_305 : nI 305 = 305 := by decide
theorem pK_6 {k : Nat} : (6 : Int32) + nI k = nI (6 + k) := by rw [show (6 : Int32) = nI 6 by decide, nI_plus]
theorem pK_9 {k : Nat} : (9 : Int32) + nI k = nI (9 + k) := by rw [show (9 : Int32) = nI 9 by decide, nI_plus]
theorem pK_35 {k : Nat} : (35 : Int32) + nI k = nI (35 + k) := by rw [show (35 : Int32) = nI 35 by decide, nI_plus]
theorem pK_55 {k : Nat} : (55 : Int32) + nI k = nI (55 + k) := by rw [show (55 : Int32) = nI 55 by decide, nI_plus]
theorem pK_75 {k : Nat} : (75 : Int32) + nI k = nI (75 + k) := by rw [show (75 : Int32) = nI 75 by decide, nI_plus]
theorem pK_85 {k : Nat} : (85 : Int32) + nI k = nI (85 + k) := by rw [show (85 : Int32) = nI 85 by decide, nI_plus]
theorem pK_109 {k : Nat} : (109 : Int32) + nI k = nI (109 + k) := by rw [show (109 : Int32) = nI 109 by decide, nI_plus]
theorem pK_133 {k : Nat} : (133 : Int32) + nI k = nI (133 + k) := by rw [show (133 : Int32) = nI 133 by decide, nI_plus]
theorem pK_157 {k : Nat} : (157 : Int32) + nI k = nI (157 + k) := by rw [show (157 : Int32) = nI 157 by decide, nI_plus]
theorem pK_181 {k : Nat} : (181 : Int32) + nI k = nI (181 + k) := by rw [show (181 : Int32) = nI 181 by decide, nI_plus]
theorem pK_205 {k : Nat} : (205 : Int32) + nI k = nI (205 + k) := by rw [show (205 : Int32) = nI 205 by decide, nI_plus]
theorem pK_225 {k : Nat} : (225 : Int32) + nI k = nI (225 + k) := by rw [show (225 : Int32) = nI 225 by decide, nI_plus]
theorem pK_245 {k : Nat} : (245 : Int32) + nI k = nI (245 + k) := by rw [show (245 : Int32) = nI 245 by decide, nI_plus]
theorem pK_265 {k : Nat} : (265 : Int32) + nI k = nI (265 + k) := by rw [show (265 : Int32) = nI 265 by decide, nI_plus]
theorem pK_285 {k : Nat} : (285 : Int32) + nI k = nI (285 + k) := by rw [show (285 : Int32) = nI 285 by decide, nI_plus]
theorem inK_0 : inb 0 305 = true := by decide
theorem ixK_0 : ix 0 = 0 := by decide
theorem inK_1 : inb 1 305 = true := by decide
theorem ixK_1 : ix 1 = 1 := by decide
theorem inK_2 : inb 2 305 = true := by decide
theorem ixK_2 : ix 2 = 2 := by decide
theorem inK_3 : inb 3 305 = true := by decide
theorem ixK_3 : ix 3 = 3 := by decide
theorem inK_4 : inb 4 305 = true := by decide
theorem ixK_4 : ix 4 = 4 := by decide
theorem inK_5 : inb 5 305 = true := by decide
theorem ixK_5 : ix 5 = 5 := by decide
theorem inK_6 : inb 6 305 = true := by decide
theorem ixK_6 : ix 6 = 6 := by decide
theorem inK_7 : inb 7 305 = true := by decide
theorem ixK_7 : ix 7 = 7 := by decide
theorem inK_8 : inb 8 305 = true := by decide
theorem ixK_8 : ix 8 = 8 := by decide
