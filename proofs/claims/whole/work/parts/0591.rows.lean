set_option maxRecDepth 100000 in
theorem ni_rv_0 : ∀ k, k < 4 → ∀ c, c < 22 → (ni_code (0 + k) c).all (ni_rv (0 + k)) = true := by decide +kernel
set_option maxRecDepth 100000 in
theorem ni_rv_1 : ∀ k, k < 10 → ∀ c, c < 22 → (ni_code (4 + k) c).all (ni_rv (4 + k)) = true := by decide +kernel
set_option maxRecDepth 100000 in
theorem ni_rv_2 : ∀ k, k < 5 → ∀ c, c < 22 → (ni_code (14 + k) c).all (ni_rv (14 + k)) = true := by decide +kernel
set_option maxRecDepth 100000 in
theorem ni_rv_3 : ∀ k, k < 7 → ∀ c, c < 22 → (ni_code (19 + k) c).all (ni_rv (19 + k)) = true := by decide +kernel
set_option maxRecDepth 100000 in
theorem ni_rv_4 : ∀ k, k < 6 → ∀ c, c < 22 → (ni_code (26 + k) c).all (ni_rv (26 + k)) = true := by decide +kernel
set_option maxRecDepth 100000 in
theorem ni_rv_5 : ∀ k, k < 8 → ∀ c, c < 22 → (ni_code (32 + k) c).all (ni_rv (32 + k)) = true := by decide +kernel
set_option maxRecDepth 100000 in
theorem ni_rv_6 : ∀ k, k < 9 → ∀ c, c < 22 → (ni_code (40 + k) c).all (ni_rv (40 + k)) = true := by decide +kernel
set_option maxRecDepth 100000 in
theorem ni_rv_7 : ∀ k, k < 10 → ∀ c, c < 22 → (ni_code (49 + k) c).all (ni_rv (49 + k)) = true := by decide +kernel
set_option maxRecDepth 100000 in
theorem ni_rv_8 : ∀ k, k < 7 → ∀ c, c < 22 → (ni_code (59 + k) c).all (ni_rv (59 + k)) = true := by decide +kernel
set_option maxRecDepth 100000 in
theorem ni_rv_9 : ∀ k, k < 6 → ∀ c, c < 22 → (ni_code (66 + k) c).all (ni_rv (66 + k)) = true := by decide +kernel
set_option maxRecDepth 100000 in
theorem ni_rv_10 : ∀ k, k < 7 → ∀ c, c < 22 → (ni_code (72 + k) c).all (ni_rv (72 + k)) = true := by decide +kernel
set_option maxRecDepth 100000 in
theorem ni_rv_11 : ∀ k, k < 8 → ∀ c, c < 22 → (ni_code (79 + k) c).all (ni_rv (79 + k)) = true := by decide +kernel
set_option maxRecDepth 100000 in
theorem ni_rv_12 : ∀ k, k < 4 → ∀ c, c < 22 → (ni_code (87 + k) c).all (ni_rv (87 + k)) = true := by decide +kernel
set_option maxRecDepth 100000 in
theorem ni_rv_13 : ∀ k, k < 5 → ∀ c, c < 22 → (ni_code (91 + k) c).all (ni_rv (91 + k)) = true := by decide +kernel
set_option maxRecDepth 100000 in
theorem ni_rv_14 : ∀ k, k < 9 → ∀ c, c < 22 → (ni_code (96 + k) c).all (ni_rv (96 + k)) = true := by decide +kernel
set_option maxRecDepth 100000 in
theorem ni_rv_15 : ∀ k, k < 11 → ∀ c, c < 22 → (ni_code (105 + k) c).all (ni_rv (105 + k)) = true := by decide +kernel
set_option maxRecDepth 100000 in
theorem ni_rv_16 : ∀ k, k < 4 → ∀ c, c < 22 → (ni_code (116 + k) c).all (ni_rv (116 + k)) = true := by decide +kernel
set_option maxRecDepth 100000 in
theorem ni_rv_17 : ∀ k, k < 8 → ∀ c, c < 22 → (ni_code (120 + k) c).all (ni_rv (120 + k)) = true := by decide +kernel
set_option maxRecDepth 100000 in
theorem ni_rv_18 : ∀ k, k < 5 → ∀ c, c < 22 → (ni_code (128 + k) c).all (ni_rv (128 + k)) = true := by decide +kernel
set_option maxRecDepth 100000 in
theorem ni_rv_19 : ∀ k, k < 7 → ∀ c, c < 22 → (ni_code (133 + k) c).all (ni_rv (133 + k)) = true := by decide +kernel
set_option maxRecDepth 100000 in
theorem ni_rv_20 : ∀ k, k < 8 → ∀ c, c < 22 → (ni_code (140 + k) c).all (ni_rv (140 + k)) = true := by decide +kernel
set_option maxRecDepth 100000 in
theorem ni_rv_21 : ∀ k, k < 4 → ∀ c, c < 22 → (ni_code (148 + k) c).all (ni_rv (148 + k)) = true := by decide +kernel
set_option maxRecDepth 100000 in
theorem ni_rv_22 : ∀ k, k < 3 → ∀ c, c < 22 → (ni_code (152 + k) c).all (ni_rv (152 + k)) = true := by decide +kernel
set_option maxRecDepth 100000 in
theorem ni_rv_23 : ∀ k, k < 9 → ∀ c, c < 22 → (ni_code (155 + k) c).all (ni_rv (155 + k)) = true := by decide +kernel
set_option maxRecDepth 100000 in
theorem ni_rv_24 : ∀ k, k < 4 → ∀ c, c < 22 → (ni_code (164 + k) c).all (ni_rv (164 + k)) = true := by decide +kernel
set_option maxRecDepth 100000 in
theorem ni_rv_25 : ∀ k, k < 8 → ∀ c, c < 22 → (ni_code (168 + k) c).all (ni_rv (168 + k)) = true := by decide +kernel
set_option maxRecDepth 100000 in
theorem ni_rv_26 : ∀ k, k < 3 → ∀ c, c < 22 → (ni_code (176 + k) c).all (ni_rv (176 + k)) = true := by decide +kernel
set_option maxRecDepth 100000 in
theorem ni_rv_27 : ∀ k, k < 3 → ∀ c, c < 22 → (ni_code (179 + k) c).all (ni_rv (179 + k)) = true := by decide +kernel
set_option maxRecDepth 100000 in
theorem ni_rv_28 : ∀ k, k < 5 → ∀ c, c < 22 → (ni_code (182 + k) c).all (ni_rv (182 + k)) = true := by decide +kernel
set_option maxRecDepth 100000 in
theorem ni_rv_29 : ∀ k, k < 6 → ∀ c, c < 22 → (ni_code (187 + k) c).all (ni_rv (187 + k)) = true := by decide +kernel
set_option maxRecDepth 100000 in
theorem ni_rv_30 : ∀ k, k < 6 → ∀ c, c < 22 → (ni_code (193 + k) c).all (ni_rv (193 + k)) = true := by decide +kernel
set_option maxRecDepth 100000 in
theorem ni_rv_32 : ∀ k, k < 11 → ∀ c, c < 22 → (ni_code (200 + k) c).all (ni_rv (200 + k)) = true := by decide +kernel
