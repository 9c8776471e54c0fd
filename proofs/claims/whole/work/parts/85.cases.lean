set_option maxRecDepth 100000
set_option maxHeartbeats 400000
/-! ===== the law's cases ===== -/
section
/-- from the case's first place to the loop's end: the same locals, and what holds goes on -/
def fs_L (J i : Nat) (z : ni_Z) (pc : Nat) (h : ni_H) : Prop := ∃ h2 : ni_H, fs_Inv (J + 100) h2 ∧ (∀ i, 1000 ≤ i → h2 i = h i) ∧ ∀ (d : Nat) (Q : ni_Q), ni_T (d + 41) 199 pc [.ref 1000, .ref 0, .ref 49, .int (nI i)] [] z h Q = ni_T (d + 41) 199 1376 [.ref 1000, .ref 0, .ref 49, .int (nI i)] [] z h2 Q
theorem vk_int {mx : Nat} {r : Value} (hv : fs_vk mx r = true) (h1 : mx ≠ 70) (h2 : mx ≠ 92) : ∃ x, r = .int x := by
  cases r <;> simp [fs_vk, h1, h2] at hv ⊢
theorem vk_lng {mx : Nat} {r : Value} (hv : fs_vk mx r = true) (h1 : mx = 70 ∨ mx = 92) : ∃ x, r = .long x := by
  rcases h1 with rfl | rfl <;> cases r <;> simp [fs_vk] at hv ⊢
theorem cmp_self {x : Int64} : lg_cmp x x = 0 := by simp [lg_cmp]
variable {J i N : Nat} {z : ni_Z} {f : Nat → Int32} {h : ni_H}
theorem L_0 (hI : fs_Inv J h) (hJ : J ≤ 900000) (hz : 50 ≤ z.1) (hs : h 1000 = .inl (10, N, .inl f)) (hi : i + 5 < N) (hN : N ≤ 3072) : fs_L J i z 200 h := by
  obtain ⟨r, h1, h2, e1, e2, hv, fr, I2⟩ := C_row (J := J) (z := z) (h := h) (f (i + 1)) (f (i + 2)) (f (i + 3)) hI
  obtain ⟨x, rfl⟩ := vk_int hv (by decide) (by decide)
  have r0 : ni_rc (h 0) 6 = true := by
    obtain ⟨-, n, w, im, lf, u, v, mu, ran, tr, rf, hl, hd, so, szf, sh, kp, g, sz, ee, ce, X, M, P⟩ := hI
    rw [X.1]; exact rc_o
  have r9 : ni_rc (h 49) 7 = true := by
    obtain ⟨-, n, w, im, lf, u, v, mu, ran, tr, rf, hl, hd, so, szf, sh, kp, g, sz, ee, ce, X, M, P⟩ := hI
    rw [M.1.1]; exact mrc
  have r1 : ni_rc (h1 49) 7 = true := (C_kc e1 49 (Or.inl (by omega))).2 7 r9
  have s1 : h1 1000 = .inl (10, N, .inl f) := ((C_kc e1 1000 (Or.inr (by omega))).1 (by rw [hs]; rfl)).trans hs
  have a1 : nI i + 1 = nI (i + 1) := nI_add i 1
  have b1 : ni_in (nI (i + 1)) N = true := in_n (by omega) (by omega)
  have c1 : (nI (i + 1)).toNatClampNeg = i + 1 := nI_clamp (by omega)
  have a2 : nI i + 2 = nI (i + 2) := nI_add i 2
  have b2 : ni_in (nI (i + 2)) N = true := in_n (by omega) (by omega)
  have c2 : (nI (i + 2)).toNatClampNeg = i + 2 := nI_clamp (by omega)
  have a3 : nI i + 3 = nI (i + 3) := nI_add i 3
  have b3 : ni_in (nI (i + 3)) N = true := in_n (by omega) (by omega)
  have c3 : (nI (i + 3)).toNatClampNeg = i + 3 := nI_clamp (by omega)
  refine ⟨h2, I2, fr, fun d Q => ?_⟩
  simp +decide only [s199_200, s199_200N, s199_201, s199_202, s199_203, s199_204, s199_205, s199_206, s199_207, s199_208, s199_209, s199_210, s199_211, s199_212, s199_213, s199_214, s199_215, s199_216, s199_219, s199_219N, s199_220, s199_221, s199_222, s199_223, s199_224, s199_225, s199_226, s199_227, s199_228, s199_229, s199_230, s199_231, s199_232, s199_233, s199_234, s199_235, s199_238, s199_241, s199_242, hs, s1, r0, r1, e1, e2, eq_self, cmp_self, a1, b1, c1, a2, b2, c2, a3, b3, c3, ↓reduceIte, kl_i, kl_r, kl_n, kl_a, kl_l, up_s, up_up, is_0, is_s, gv_0, gv_s, pv_o, rc_o, okI_i, okI_x, okS_i, okB_x, gi_i, pi_i, okL_l, gl_l, pl_l, okA_2, okA_3, ga_a, arr_0, arr_1, arr_10, arr_11, len_a, sw_0, sw_i, sw_r, sw_l, fit_i, fit_z0, fit_z1, nz_0, nz_1, ni_K_s, ni_K_n, Nat.ble_eq, Nat.zero_le, Nat.zero_add, true_and, and_true, and_self, Bool.and_true, Bool.true_and, Bool.and_self, not_true_eq_false, not_false_eq_true, Int32.reduceLE, Int32.reduceLT, Int32.reduceAdd, Int32.reduceSub, Int32.reduceToNatClampNeg, Nat.reduceLeDiff, Nat.reduceAdd, Nat.reduceEqDiff, Nat.reduceSub, List.set_cons_zero, List.set_cons_succ, false_and, and_false]
theorem L_1 (hI : fs_Inv J h) (hJ : J ≤ 900000) (hz : 50 ≤ z.1) (hs : h 1000 = .inl (10, N, .inl f)) (hi : i + 5 < N) (hN : N ≤ 3072) : fs_L J i z 243 h := by
  obtain ⟨r, h1, h2, e1, e2, hv, fr, I2⟩ := C_set (J := J) (z := z) (h := h) (f (i + 1)) (f (i + 2)) ((f (i + 3)).toInt64 <<< ((32 : Int32).toInt64 &&& 63) ||| ((f (i + 4)).toInt64 &&& 4294967295)) hI
  obtain ⟨x, rfl⟩ := vk_int hv (by decide) (by decide)
  have r0 : ni_rc (h 0) 6 = true := by
    obtain ⟨-, n, w, im, lf, u, v, mu, ran, tr, rf, hl, hd, so, szf, sh, kp, g, sz, ee, ce, X, M, P⟩ := hI
    rw [X.1]; exact rc_o
  have r9 : ni_rc (h 49) 7 = true := by
    obtain ⟨-, n, w, im, lf, u, v, mu, ran, tr, rf, hl, hd, so, szf, sh, kp, g, sz, ee, ce, X, M, P⟩ := hI
    rw [M.1.1]; exact mrc
  have r1 : ni_rc (h1 49) 7 = true := (C_kc e1 49 (Or.inl (by omega))).2 7 r9
  have s1 : h1 1000 = .inl (10, N, .inl f) := ((C_kc e1 1000 (Or.inr (by omega))).1 (by rw [hs]; rfl)).trans hs
  have a1 : nI i + 1 = nI (i + 1) := nI_add i 1
  have b1 : ni_in (nI (i + 1)) N = true := in_n (by omega) (by omega)
  have c1 : (nI (i + 1)).toNatClampNeg = i + 1 := nI_clamp (by omega)
  have a2 : nI i + 2 = nI (i + 2) := nI_add i 2
  have b2 : ni_in (nI (i + 2)) N = true := in_n (by omega) (by omega)
  have c2 : (nI (i + 2)).toNatClampNeg = i + 2 := nI_clamp (by omega)
  have a3 : nI i + 3 = nI (i + 3) := nI_add i 3
  have b3 : ni_in (nI (i + 3)) N = true := in_n (by omega) (by omega)
  have c3 : (nI (i + 3)).toNatClampNeg = i + 3 := nI_clamp (by omega)
  have a4 : nI i + 4 = nI (i + 4) := nI_add i 4
  have b4 : ni_in (nI (i + 4)) N = true := in_n (by omega) (by omega)
  have c4 : (nI (i + 4)).toNatClampNeg = i + 4 := nI_clamp (by omega)
  refine ⟨h2, I2, fr, fun d Q => ?_⟩
  simp +decide only [s199_243, s199_243N, s199_244, s199_245, s199_246, s199_247, s199_248, s199_249, s199_250, s199_251, s199_252, s199_253, s199_254, s199_255, s199_256, s199_257, s199_258, s199_259, s199_260, s199_262, s199_263, s199_264, s199_265, s199_266, s199_267, s199_268, s199_269, s199_272, s199_273, s199_274, s199_277, s199_277N, s199_278, s199_279, s199_280, s199_281, s199_282, s199_283, s199_284, s199_285, s199_286, s199_287, s199_288, s199_289, s199_290, s199_291, s199_292, s199_293, s199_294, s199_296, s199_297, s199_298, s199_299, s199_300, s199_301, s199_302, s199_303, s199_306, s199_307, s199_308, s199_311, s199_314, s199_315, hs, s1, r0, r1, e1, e2, eq_self, cmp_self, a1, b1, c1, a2, b2, c2, a3, b3, c3, a4, b4, c4, ↓reduceIte, kl_i, kl_r, kl_n, kl_a, kl_l, up_s, up_up, is_0, is_s, gv_0, gv_s, pv_o, rc_o, okI_i, okI_x, okS_i, okB_x, gi_i, pi_i, okL_l, gl_l, pl_l, okA_2, okA_3, ga_a, arr_0, arr_1, arr_10, arr_11, len_a, sw_0, sw_i, sw_r, sw_l, fit_i, fit_z0, fit_z1, nz_0, nz_1, ni_K_s, ni_K_n, Nat.ble_eq, Nat.zero_le, Nat.zero_add, true_and, and_true, and_self, Bool.and_true, Bool.true_and, Bool.and_self, not_true_eq_false, not_false_eq_true, Int32.reduceLE, Int32.reduceLT, Int32.reduceAdd, Int32.reduceSub, Int32.reduceToNatClampNeg, Nat.reduceLeDiff, Nat.reduceAdd, Nat.reduceEqDiff, Nat.reduceSub, List.set_cons_zero, List.set_cons_succ, false_and, and_false]
theorem L_2 (hI : fs_Inv J h) (hJ : J ≤ 900000) (hz : 50 ≤ z.1) (hs : h 1000 = .inl (10, N, .inl f)) (hi : i + 5 < N) (hN : N ≤ 3072) : fs_L J i z 316 h := by
  obtain ⟨r, h1, h2, e1, e2, hv, fr, I2⟩ := C_copy (J := J) (z := z) (h := h) (f (i + 1)) (f (i + 2)) (f (i + 3)) (f (i + 4)) (f (i + 5)) hI
  obtain ⟨x, rfl⟩ := vk_int hv (by decide) (by decide)
  have r0 : ni_rc (h 0) 6 = true := by
    obtain ⟨-, n, w, im, lf, u, v, mu, ran, tr, rf, hl, hd, so, szf, sh, kp, g, sz, ee, ce, X, M, P⟩ := hI
    rw [X.1]; exact rc_o
  have r9 : ni_rc (h 49) 7 = true := by
    obtain ⟨-, n, w, im, lf, u, v, mu, ran, tr, rf, hl, hd, so, szf, sh, kp, g, sz, ee, ce, X, M, P⟩ := hI
    rw [M.1.1]; exact mrc
  have r1 : ni_rc (h1 49) 7 = true := (C_kc e1 49 (Or.inl (by omega))).2 7 r9
  have s1 : h1 1000 = .inl (10, N, .inl f) := ((C_kc e1 1000 (Or.inr (by omega))).1 (by rw [hs]; rfl)).trans hs
  have a1 : nI i + 1 = nI (i + 1) := nI_add i 1
  have b1 : ni_in (nI (i + 1)) N = true := in_n (by omega) (by omega)
  have c1 : (nI (i + 1)).toNatClampNeg = i + 1 := nI_clamp (by omega)
  have a2 : nI i + 2 = nI (i + 2) := nI_add i 2
  have b2 : ni_in (nI (i + 2)) N = true := in_n (by omega) (by omega)
  have c2 : (nI (i + 2)).toNatClampNeg = i + 2 := nI_clamp (by omega)
  have a3 : nI i + 3 = nI (i + 3) := nI_add i 3
  have b3 : ni_in (nI (i + 3)) N = true := in_n (by omega) (by omega)
  have c3 : (nI (i + 3)).toNatClampNeg = i + 3 := nI_clamp (by omega)
  have a4 : nI i + 4 = nI (i + 4) := nI_add i 4
  have b4 : ni_in (nI (i + 4)) N = true := in_n (by omega) (by omega)
  have c4 : (nI (i + 4)).toNatClampNeg = i + 4 := nI_clamp (by omega)
  have a5 : nI i + 5 = nI (i + 5) := nI_add i 5
  have b5 : ni_in (nI (i + 5)) N = true := in_n (by omega) (by omega)
  have c5 : (nI (i + 5)).toNatClampNeg = i + 5 := nI_clamp (by omega)
  refine ⟨h2, I2, fr, fun d Q => ?_⟩
  simp +decide only [s199_316, s199_316N, s199_317, s199_318, s199_319, s199_320, s199_321, s199_322, s199_323, s199_324, s199_325, s199_326, s199_327, s199_328, s199_329, s199_330, s199_331, s199_332, s199_333, s199_334, s199_335, s199_336, s199_337, s199_338, s199_339, s199_340, s199_341, s199_342, s199_345, s199_345N, s199_346, s199_347, s199_348, s199_349, s199_350, s199_351, s199_352, s199_353, s199_354, s199_355, s199_356, s199_357, s199_358, s199_359, s199_360, s199_361, s199_362, s199_363, s199_364, s199_365, s199_366, s199_367, s199_368, s199_369, s199_370, s199_371, s199_374, s199_377, s199_378, hs, s1, r0, r1, e1, e2, eq_self, cmp_self, a1, b1, c1, a2, b2, c2, a3, b3, c3, a4, b4, c4, a5, b5, c5, ↓reduceIte, kl_i, kl_r, kl_n, kl_a, kl_l, up_s, up_up, is_0, is_s, gv_0, gv_s, pv_o, rc_o, okI_i, okI_x, okS_i, okB_x, gi_i, pi_i, okL_l, gl_l, pl_l, okA_2, okA_3, ga_a, arr_0, arr_1, arr_10, arr_11, len_a, sw_0, sw_i, sw_r, sw_l, fit_i, fit_z0, fit_z1, nz_0, nz_1, ni_K_s, ni_K_n, Nat.ble_eq, Nat.zero_le, Nat.zero_add, true_and, and_true, and_self, Bool.and_true, Bool.true_and, Bool.and_self, not_true_eq_false, not_false_eq_true, Int32.reduceLE, Int32.reduceLT, Int32.reduceAdd, Int32.reduceSub, Int32.reduceToNatClampNeg, Nat.reduceLeDiff, Nat.reduceAdd, Nat.reduceEqDiff, Nat.reduceSub, List.set_cons_zero, List.set_cons_succ, false_and, and_false]
theorem L_3 (hI : fs_Inv J h) (hJ : J ≤ 900000) (hz : 50 ≤ z.1) (hs : h 1000 = .inl (10, N, .inl f)) (hi : i + 5 < N) (hN : N ≤ 3072) : fs_L J i z 379 h := by
  obtain ⟨r, h1, h2, e1, e2, hv, fr, I2⟩ := C_element (J := J) (z := z) (h := h) (f (i + 1)) (f (i + 2)) hI
  obtain ⟨x, rfl⟩ := vk_lng hv (by decide)
  have r0 : ni_rc (h 0) 6 = true := by
    obtain ⟨-, n, w, im, lf, u, v, mu, ran, tr, rf, hl, hd, so, szf, sh, kp, g, sz, ee, ce, X, M, P⟩ := hI
    rw [X.1]; exact rc_o
  have r9 : ni_rc (h 49) 7 = true := by
    obtain ⟨-, n, w, im, lf, u, v, mu, ran, tr, rf, hl, hd, so, szf, sh, kp, g, sz, ee, ce, X, M, P⟩ := hI
    rw [M.1.1]; exact mrc
  have r1 : ni_rc (h1 49) 7 = true := (C_kc e1 49 (Or.inl (by omega))).2 7 r9
  have s1 : h1 1000 = .inl (10, N, .inl f) := ((C_kc e1 1000 (Or.inr (by omega))).1 (by rw [hs]; rfl)).trans hs
  have a1 : nI i + 1 = nI (i + 1) := nI_add i 1
  have b1 : ni_in (nI (i + 1)) N = true := in_n (by omega) (by omega)
  have c1 : (nI (i + 1)).toNatClampNeg = i + 1 := nI_clamp (by omega)
  have a2 : nI i + 2 = nI (i + 2) := nI_add i 2
  have b2 : ni_in (nI (i + 2)) N = true := in_n (by omega) (by omega)
  have c2 : (nI (i + 2)).toNatClampNeg = i + 2 := nI_clamp (by omega)
  refine ⟨h2, I2, fr, fun d Q => ?_⟩
  simp +decide only [s199_379, s199_379N, s199_380, s199_381, s199_382, s199_383, s199_384, s199_385, s199_386, s199_387, s199_388, s199_389, s199_390, s199_393, s199_393N, s199_394, s199_395, s199_396, s199_397, s199_398, s199_399, s199_400, s199_401, s199_402, s199_403, s199_404, s199_407, s199_408, s199_411, s199_412, hs, s1, r0, r1, e1, e2, eq_self, cmp_self, a1, b1, c1, a2, b2, c2, ↓reduceIte, kl_i, kl_r, kl_n, kl_a, kl_l, up_s, up_up, is_0, is_s, gv_0, gv_s, pv_o, rc_o, okI_i, okI_x, okS_i, okB_x, gi_i, pi_i, okL_l, gl_l, pl_l, okA_2, okA_3, ga_a, arr_0, arr_1, arr_10, arr_11, len_a, sw_0, sw_i, sw_r, sw_l, fit_i, fit_z0, fit_z1, nz_0, nz_1, ni_K_s, ni_K_n, Nat.ble_eq, Nat.zero_le, Nat.zero_add, true_and, and_true, and_self, Bool.and_true, Bool.true_and, Bool.and_self, not_true_eq_false, not_false_eq_true, Int32.reduceLE, Int32.reduceLT, Int32.reduceAdd, Int32.reduceSub, Int32.reduceToNatClampNeg, Nat.reduceLeDiff, Nat.reduceAdd, Nat.reduceEqDiff, Nat.reduceSub, List.set_cons_zero, List.set_cons_succ, false_and, and_false]
theorem L_4 (hI : fs_Inv J h) (hJ : J ≤ 900000) (hz : 50 ≤ z.1) (hs : h 1000 = .inl (10, N, .inl f)) (hi : i + 5 < N) (hN : N ≤ 3072) : fs_L J i z 413 h := by
  obtain ⟨r, h1, h2, e1, e2, hv, fr, I2⟩ := C_show (J := J) (z := z) (h := h) (f (i + 1)) (f (i + 2)) hI
  obtain ⟨x, rfl⟩ := vk_int hv (by decide) (by decide)
  have r0 : ni_rc (h 0) 6 = true := by
    obtain ⟨-, n, w, im, lf, u, v, mu, ran, tr, rf, hl, hd, so, szf, sh, kp, g, sz, ee, ce, X, M, P⟩ := hI
    rw [X.1]; exact rc_o
  have r9 : ni_rc (h 49) 7 = true := by
    obtain ⟨-, n, w, im, lf, u, v, mu, ran, tr, rf, hl, hd, so, szf, sh, kp, g, sz, ee, ce, X, M, P⟩ := hI
    rw [M.1.1]; exact mrc
  have r1 : ni_rc (h1 49) 7 = true := (C_kc e1 49 (Or.inl (by omega))).2 7 r9
  have s1 : h1 1000 = .inl (10, N, .inl f) := ((C_kc e1 1000 (Or.inr (by omega))).1 (by rw [hs]; rfl)).trans hs
  have a1 : nI i + 1 = nI (i + 1) := nI_add i 1
  have b1 : ni_in (nI (i + 1)) N = true := in_n (by omega) (by omega)
  have c1 : (nI (i + 1)).toNatClampNeg = i + 1 := nI_clamp (by omega)
  have a2 : nI i + 2 = nI (i + 2) := nI_add i 2
  have b2 : ni_in (nI (i + 2)) N = true := in_n (by omega) (by omega)
  have c2 : (nI (i + 2)).toNatClampNeg = i + 2 := nI_clamp (by omega)
  refine ⟨h2, I2, fr, fun d Q => ?_⟩
  simp +decide only [s199_413, s199_413N, s199_414, s199_415, s199_416, s199_417, s199_418, s199_419, s199_420, s199_421, s199_422, s199_423, s199_424, s199_427, s199_427N, s199_428, s199_429, s199_430, s199_431, s199_432, s199_433, s199_434, s199_435, s199_436, s199_437, s199_438, s199_441, s199_444, s199_445, hs, s1, r0, r1, e1, e2, eq_self, cmp_self, a1, b1, c1, a2, b2, c2, ↓reduceIte, kl_i, kl_r, kl_n, kl_a, kl_l, up_s, up_up, is_0, is_s, gv_0, gv_s, pv_o, rc_o, okI_i, okI_x, okS_i, okB_x, gi_i, pi_i, okL_l, gl_l, pl_l, okA_2, okA_3, ga_a, arr_0, arr_1, arr_10, arr_11, len_a, sw_0, sw_i, sw_r, sw_l, fit_i, fit_z0, fit_z1, nz_0, nz_1, ni_K_s, ni_K_n, Nat.ble_eq, Nat.zero_le, Nat.zero_add, true_and, and_true, and_self, Bool.and_true, Bool.true_and, Bool.and_self, not_true_eq_false, not_false_eq_true, Int32.reduceLE, Int32.reduceLT, Int32.reduceAdd, Int32.reduceSub, Int32.reduceToNatClampNeg, Nat.reduceLeDiff, Nat.reduceAdd, Nat.reduceEqDiff, Nat.reduceSub, List.set_cons_zero, List.set_cons_succ, false_and, and_false]
theorem L_5 (hI : fs_Inv J h) (hJ : J ≤ 900000) (hz : 50 ≤ z.1) (hs : h 1000 = .inl (10, N, .inl f)) (hi : i + 5 < N) (hN : N ≤ 3072) : fs_L J i z 446 h := by
  obtain ⟨r, h1, h2, e1, e2, hv, fr, I2⟩ := C_holds (J := J) (z := z) (h := h) (f (i + 1)) hI
  obtain ⟨x, rfl⟩ := vk_int hv (by decide) (by decide)
  have r0 : ni_rc (h 0) 6 = true := by
    obtain ⟨-, n, w, im, lf, u, v, mu, ran, tr, rf, hl, hd, so, szf, sh, kp, g, sz, ee, ce, X, M, P⟩ := hI
    rw [X.1]; exact rc_o
  have r9 : ni_rc (h 49) 7 = true := by
    obtain ⟨-, n, w, im, lf, u, v, mu, ran, tr, rf, hl, hd, so, szf, sh, kp, g, sz, ee, ce, X, M, P⟩ := hI
    rw [M.1.1]; exact mrc
  have r1 : ni_rc (h1 49) 7 = true := (C_kc e1 49 (Or.inl (by omega))).2 7 r9
  have s1 : h1 1000 = .inl (10, N, .inl f) := ((C_kc e1 1000 (Or.inr (by omega))).1 (by rw [hs]; rfl)).trans hs
  have a1 : nI i + 1 = nI (i + 1) := nI_add i 1
  have b1 : ni_in (nI (i + 1)) N = true := in_n (by omega) (by omega)
  have c1 : (nI (i + 1)).toNatClampNeg = i + 1 := nI_clamp (by omega)
  refine ⟨h2, I2, fr, fun d Q => ?_⟩
  simp +decide only [s199_446, s199_446N, s199_447, s199_448, s199_449, s199_450, s199_451, s199_452, s199_455, s199_455N, s199_456, s199_457, s199_458, s199_459, s199_460, s199_461, s199_464, s199_467, s199_468, hs, s1, r0, r1, e1, e2, eq_self, cmp_self, a1, b1, c1, ↓reduceIte, kl_i, kl_r, kl_n, kl_a, kl_l, up_s, up_up, is_0, is_s, gv_0, gv_s, pv_o, rc_o, okI_i, okI_x, okS_i, okB_x, gi_i, pi_i, okL_l, gl_l, pl_l, okA_2, okA_3, ga_a, arr_0, arr_1, arr_10, arr_11, len_a, sw_0, sw_i, sw_r, sw_l, fit_i, fit_z0, fit_z1, nz_0, nz_1, ni_K_s, ni_K_n, Nat.ble_eq, Nat.zero_le, Nat.zero_add, true_and, and_true, and_self, Bool.and_true, Bool.true_and, Bool.and_self, not_true_eq_false, not_false_eq_true, Int32.reduceLE, Int32.reduceLT, Int32.reduceAdd, Int32.reduceSub, Int32.reduceToNatClampNeg, Nat.reduceLeDiff, Nat.reduceAdd, Nat.reduceEqDiff, Nat.reduceSub, List.set_cons_zero, List.set_cons_succ, false_and, and_false]
theorem L_6 (hI : fs_Inv J h) (hJ : J ≤ 900000) (hz : 50 ≤ z.1) (hs : h 1000 = .inl (10, N, .inl f)) (hi : i + 5 < N) (hN : N ≤ 3072) : fs_L J i z 469 h := by
  obtain ⟨r, h1, h2, e1, e2, hv, fr, I2⟩ := C_says (J := J) (z := z) (h := h) (f (i + 1)) (f (i + 2)) hI
  obtain ⟨x, rfl⟩ := vk_int hv (by decide) (by decide)
  have r0 : ni_rc (h 0) 6 = true := by
    obtain ⟨-, n, w, im, lf, u, v, mu, ran, tr, rf, hl, hd, so, szf, sh, kp, g, sz, ee, ce, X, M, P⟩ := hI
    rw [X.1]; exact rc_o
  have r9 : ni_rc (h 49) 7 = true := by
    obtain ⟨-, n, w, im, lf, u, v, mu, ran, tr, rf, hl, hd, so, szf, sh, kp, g, sz, ee, ce, X, M, P⟩ := hI
    rw [M.1.1]; exact mrc
  have r1 : ni_rc (h1 49) 7 = true := (C_kc e1 49 (Or.inl (by omega))).2 7 r9
  have s1 : h1 1000 = .inl (10, N, .inl f) := ((C_kc e1 1000 (Or.inr (by omega))).1 (by rw [hs]; rfl)).trans hs
  have a1 : nI i + 1 = nI (i + 1) := nI_add i 1
  have b1 : ni_in (nI (i + 1)) N = true := in_n (by omega) (by omega)
  have c1 : (nI (i + 1)).toNatClampNeg = i + 1 := nI_clamp (by omega)
  have a2 : nI i + 2 = nI (i + 2) := nI_add i 2
  have b2 : ni_in (nI (i + 2)) N = true := in_n (by omega) (by omega)
  have c2 : (nI (i + 2)).toNatClampNeg = i + 2 := nI_clamp (by omega)
  refine ⟨h2, I2, fr, fun d Q => ?_⟩
  simp +decide only [s199_469, s199_469N, s199_470, s199_471, s199_472, s199_473, s199_474, s199_475, s199_476, s199_477, s199_478, s199_479, s199_480, s199_483, s199_483N, s199_484, s199_485, s199_486, s199_487, s199_488, s199_489, s199_490, s199_491, s199_492, s199_493, s199_494, s199_497, s199_500, s199_501, hs, s1, r0, r1, e1, e2, eq_self, cmp_self, a1, b1, c1, a2, b2, c2, ↓reduceIte, kl_i, kl_r, kl_n, kl_a, kl_l, up_s, up_up, is_0, is_s, gv_0, gv_s, pv_o, rc_o, okI_i, okI_x, okS_i, okB_x, gi_i, pi_i, okL_l, gl_l, pl_l, okA_2, okA_3, ga_a, arr_0, arr_1, arr_10, arr_11, len_a, sw_0, sw_i, sw_r, sw_l, fit_i, fit_z0, fit_z1, nz_0, nz_1, ni_K_s, ni_K_n, Nat.ble_eq, Nat.zero_le, Nat.zero_add, true_and, and_true, and_self, Bool.and_true, Bool.true_and, Bool.and_self, not_true_eq_false, not_false_eq_true, Int32.reduceLE, Int32.reduceLT, Int32.reduceAdd, Int32.reduceSub, Int32.reduceToNatClampNeg, Nat.reduceLeDiff, Nat.reduceAdd, Nat.reduceEqDiff, Nat.reduceSub, List.set_cons_zero, List.set_cons_succ, false_and, and_false]
theorem L_7 (hI : fs_Inv J h) (hJ : J ≤ 900000) (hz : 50 ≤ z.1) (hs : h 1000 = .inl (10, N, .inl f)) (hi : i + 5 < N) (hN : N ≤ 3072) : fs_L J i z 502 h := by
  obtain ⟨r, h1, h2, e1, e2, hv, fr, I2⟩ := C_hand (J := J) (z := z) (h := h) (f (i + 1)) (f (i + 2)) hI
  obtain ⟨x, rfl⟩ := vk_int hv (by decide) (by decide)
  have r0 : ni_rc (h 0) 6 = true := by
    obtain ⟨-, n, w, im, lf, u, v, mu, ran, tr, rf, hl, hd, so, szf, sh, kp, g, sz, ee, ce, X, M, P⟩ := hI
    rw [X.1]; exact rc_o
  have r9 : ni_rc (h 49) 7 = true := by
    obtain ⟨-, n, w, im, lf, u, v, mu, ran, tr, rf, hl, hd, so, szf, sh, kp, g, sz, ee, ce, X, M, P⟩ := hI
    rw [M.1.1]; exact mrc
  have r1 : ni_rc (h1 49) 7 = true := (C_kc e1 49 (Or.inl (by omega))).2 7 r9
  have s1 : h1 1000 = .inl (10, N, .inl f) := ((C_kc e1 1000 (Or.inr (by omega))).1 (by rw [hs]; rfl)).trans hs
  have a1 : nI i + 1 = nI (i + 1) := nI_add i 1
  have b1 : ni_in (nI (i + 1)) N = true := in_n (by omega) (by omega)
  have c1 : (nI (i + 1)).toNatClampNeg = i + 1 := nI_clamp (by omega)
  have a2 : nI i + 2 = nI (i + 2) := nI_add i 2
  have b2 : ni_in (nI (i + 2)) N = true := in_n (by omega) (by omega)
  have c2 : (nI (i + 2)).toNatClampNeg = i + 2 := nI_clamp (by omega)
  refine ⟨h2, I2, fr, fun d Q => ?_⟩
  simp +decide only [s199_502, s199_502N, s199_503, s199_504, s199_505, s199_506, s199_507, s199_508, s199_509, s199_510, s199_511, s199_512, s199_513, s199_516, s199_516N, s199_517, s199_518, s199_519, s199_520, s199_521, s199_522, s199_523, s199_524, s199_525, s199_526, s199_527, s199_530, s199_533, s199_534, hs, s1, r0, r1, e1, e2, eq_self, cmp_self, a1, b1, c1, a2, b2, c2, ↓reduceIte, kl_i, kl_r, kl_n, kl_a, kl_l, up_s, up_up, is_0, is_s, gv_0, gv_s, pv_o, rc_o, okI_i, okI_x, okS_i, okB_x, gi_i, pi_i, okL_l, gl_l, pl_l, okA_2, okA_3, ga_a, arr_0, arr_1, arr_10, arr_11, len_a, sw_0, sw_i, sw_r, sw_l, fit_i, fit_z0, fit_z1, nz_0, nz_1, ni_K_s, ni_K_n, Nat.ble_eq, Nat.zero_le, Nat.zero_add, true_and, and_true, and_self, Bool.and_true, Bool.true_and, Bool.and_self, not_true_eq_false, not_false_eq_true, Int32.reduceLE, Int32.reduceLT, Int32.reduceAdd, Int32.reduceSub, Int32.reduceToNatClampNeg, Nat.reduceLeDiff, Nat.reduceAdd, Nat.reduceEqDiff, Nat.reduceSub, List.set_cons_zero, List.set_cons_succ, false_and, and_false]
theorem L_8 (hI : fs_Inv J h) (hJ : J ≤ 900000) (hz : 50 ≤ z.1) (hs : h 1000 = .inl (10, N, .inl f)) (hi : i + 5 < N) (hN : N ≤ 3072) : fs_L J i z 535 h := by
  obtain ⟨r, h1, h2, e1, e2, hv, fr, I2⟩ := C_handOf (J := J) (z := z) (h := h) (f (i + 1)) (f (i + 2)) hI
  obtain ⟨x, rfl⟩ := vk_int hv (by decide) (by decide)
  have r0 : ni_rc (h 0) 6 = true := by
    obtain ⟨-, n, w, im, lf, u, v, mu, ran, tr, rf, hl, hd, so, szf, sh, kp, g, sz, ee, ce, X, M, P⟩ := hI
    rw [X.1]; exact rc_o
  have r9 : ni_rc (h 49) 7 = true := by
    obtain ⟨-, n, w, im, lf, u, v, mu, ran, tr, rf, hl, hd, so, szf, sh, kp, g, sz, ee, ce, X, M, P⟩ := hI
    rw [M.1.1]; exact mrc
  have r1 : ni_rc (h1 49) 7 = true := (C_kc e1 49 (Or.inl (by omega))).2 7 r9
  have s1 : h1 1000 = .inl (10, N, .inl f) := ((C_kc e1 1000 (Or.inr (by omega))).1 (by rw [hs]; rfl)).trans hs
  have a1 : nI i + 1 = nI (i + 1) := nI_add i 1
  have b1 : ni_in (nI (i + 1)) N = true := in_n (by omega) (by omega)
  have c1 : (nI (i + 1)).toNatClampNeg = i + 1 := nI_clamp (by omega)
  have a2 : nI i + 2 = nI (i + 2) := nI_add i 2
  have b2 : ni_in (nI (i + 2)) N = true := in_n (by omega) (by omega)
  have c2 : (nI (i + 2)).toNatClampNeg = i + 2 := nI_clamp (by omega)
  refine ⟨h2, I2, fr, fun d Q => ?_⟩
  simp +decide only [s199_535, s199_535N, s199_536, s199_537, s199_538, s199_539, s199_540, s199_541, s199_542, s199_543, s199_544, s199_545, s199_546, s199_549, s199_549N, s199_550, s199_551, s199_552, s199_553, s199_554, s199_555, s199_556, s199_557, s199_558, s199_559, s199_560, s199_563, s199_566, s199_567, hs, s1, r0, r1, e1, e2, eq_self, cmp_self, a1, b1, c1, a2, b2, c2, ↓reduceIte, kl_i, kl_r, kl_n, kl_a, kl_l, up_s, up_up, is_0, is_s, gv_0, gv_s, pv_o, rc_o, okI_i, okI_x, okS_i, okB_x, gi_i, pi_i, okL_l, gl_l, pl_l, okA_2, okA_3, ga_a, arr_0, arr_1, arr_10, arr_11, len_a, sw_0, sw_i, sw_r, sw_l, fit_i, fit_z0, fit_z1, nz_0, nz_1, ni_K_s, ni_K_n, Nat.ble_eq, Nat.zero_le, Nat.zero_add, true_and, and_true, and_self, Bool.and_true, Bool.true_and, Bool.and_self, not_true_eq_false, not_false_eq_true, Int32.reduceLE, Int32.reduceLT, Int32.reduceAdd, Int32.reduceSub, Int32.reduceToNatClampNeg, Nat.reduceLeDiff, Nat.reduceAdd, Nat.reduceEqDiff, Nat.reduceSub, List.set_cons_zero, List.set_cons_succ, false_and, and_false]
theorem L_9 (hI : fs_Inv J h) (hJ : J ≤ 900000) (hz : 50 ≤ z.1) (hs : h 1000 = .inl (10, N, .inl f)) (hi : i + 5 < N) (hN : N ≤ 3072) : fs_L J i z 568 h := by
  obtain ⟨r, h1, h2, e1, e2, hv, fr, I2⟩ := C_stone (J := J) (z := z) (h := h) (f (i + 1)) (f (i + 2)) hI
  obtain ⟨x, rfl⟩ := vk_int hv (by decide) (by decide)
  have r0 : ni_rc (h 0) 6 = true := by
    obtain ⟨-, n, w, im, lf, u, v, mu, ran, tr, rf, hl, hd, so, szf, sh, kp, g, sz, ee, ce, X, M, P⟩ := hI
    rw [X.1]; exact rc_o
  have r9 : ni_rc (h 49) 7 = true := by
    obtain ⟨-, n, w, im, lf, u, v, mu, ran, tr, rf, hl, hd, so, szf, sh, kp, g, sz, ee, ce, X, M, P⟩ := hI
    rw [M.1.1]; exact mrc
  have r1 : ni_rc (h1 49) 7 = true := (C_kc e1 49 (Or.inl (by omega))).2 7 r9
  have s1 : h1 1000 = .inl (10, N, .inl f) := ((C_kc e1 1000 (Or.inr (by omega))).1 (by rw [hs]; rfl)).trans hs
  have a1 : nI i + 1 = nI (i + 1) := nI_add i 1
  have b1 : ni_in (nI (i + 1)) N = true := in_n (by omega) (by omega)
  have c1 : (nI (i + 1)).toNatClampNeg = i + 1 := nI_clamp (by omega)
  have a2 : nI i + 2 = nI (i + 2) := nI_add i 2
  have b2 : ni_in (nI (i + 2)) N = true := in_n (by omega) (by omega)
  have c2 : (nI (i + 2)).toNatClampNeg = i + 2 := nI_clamp (by omega)
  refine ⟨h2, I2, fr, fun d Q => ?_⟩
  simp +decide only [s199_568, s199_568N, s199_569, s199_570, s199_571, s199_572, s199_573, s199_574, s199_575, s199_576, s199_577, s199_578, s199_579, s199_582, s199_582N, s199_583, s199_584, s199_585, s199_586, s199_587, s199_588, s199_589, s199_590, s199_591, s199_592, s199_593, s199_596, s199_599, s199_600, hs, s1, r0, r1, e1, e2, eq_self, cmp_self, a1, b1, c1, a2, b2, c2, ↓reduceIte, kl_i, kl_r, kl_n, kl_a, kl_l, up_s, up_up, is_0, is_s, gv_0, gv_s, pv_o, rc_o, okI_i, okI_x, okS_i, okB_x, gi_i, pi_i, okL_l, gl_l, pl_l, okA_2, okA_3, ga_a, arr_0, arr_1, arr_10, arr_11, len_a, sw_0, sw_i, sw_r, sw_l, fit_i, fit_z0, fit_z1, nz_0, nz_1, ni_K_s, ni_K_n, Nat.ble_eq, Nat.zero_le, Nat.zero_add, true_and, and_true, and_self, Bool.and_true, Bool.true_and, Bool.and_self, not_true_eq_false, not_false_eq_true, Int32.reduceLE, Int32.reduceLT, Int32.reduceAdd, Int32.reduceSub, Int32.reduceToNatClampNeg, Nat.reduceLeDiff, Nat.reduceAdd, Nat.reduceEqDiff, Nat.reduceSub, List.set_cons_zero, List.set_cons_succ, false_and, and_false]
theorem L_10 (hI : fs_Inv J h) (hJ : J ≤ 900000) (hz : 50 ≤ z.1) (hs : h 1000 = .inl (10, N, .inl f)) (hi : i + 5 < N) (hN : N ≤ 3072) : fs_L J i z 601 h := by
  obtain ⟨r, h1, h2, e1, e2, hv, fr, I2⟩ := C_stoneAt (J := J) (z := z) (h := h) (f (i + 1)) hI
  obtain ⟨x, rfl⟩ := vk_int hv (by decide) (by decide)
  have r0 : ni_rc (h 0) 6 = true := by
    obtain ⟨-, n, w, im, lf, u, v, mu, ran, tr, rf, hl, hd, so, szf, sh, kp, g, sz, ee, ce, X, M, P⟩ := hI
    rw [X.1]; exact rc_o
  have r9 : ni_rc (h 49) 7 = true := by
    obtain ⟨-, n, w, im, lf, u, v, mu, ran, tr, rf, hl, hd, so, szf, sh, kp, g, sz, ee, ce, X, M, P⟩ := hI
    rw [M.1.1]; exact mrc
  have r1 : ni_rc (h1 49) 7 = true := (C_kc e1 49 (Or.inl (by omega))).2 7 r9
  have s1 : h1 1000 = .inl (10, N, .inl f) := ((C_kc e1 1000 (Or.inr (by omega))).1 (by rw [hs]; rfl)).trans hs
  have a1 : nI i + 1 = nI (i + 1) := nI_add i 1
  have b1 : ni_in (nI (i + 1)) N = true := in_n (by omega) (by omega)
  have c1 : (nI (i + 1)).toNatClampNeg = i + 1 := nI_clamp (by omega)
  refine ⟨h2, I2, fr, fun d Q => ?_⟩
  simp +decide only [s199_601, s199_601N, s199_602, s199_603, s199_604, s199_605, s199_606, s199_607, s199_610, s199_610N, s199_611, s199_612, s199_613, s199_614, s199_615, s199_616, s199_619, s199_622, s199_623, hs, s1, r0, r1, e1, e2, eq_self, cmp_self, a1, b1, c1, ↓reduceIte, kl_i, kl_r, kl_n, kl_a, kl_l, up_s, up_up, is_0, is_s, gv_0, gv_s, pv_o, rc_o, okI_i, okI_x, okS_i, okB_x, gi_i, pi_i, okL_l, gl_l, pl_l, okA_2, okA_3, ga_a, arr_0, arr_1, arr_10, arr_11, len_a, sw_0, sw_i, sw_r, sw_l, fit_i, fit_z0, fit_z1, nz_0, nz_1, ni_K_s, ni_K_n, Nat.ble_eq, Nat.zero_le, Nat.zero_add, true_and, and_true, and_self, Bool.and_true, Bool.true_and, Bool.and_self, not_true_eq_false, not_false_eq_true, Int32.reduceLE, Int32.reduceLT, Int32.reduceAdd, Int32.reduceSub, Int32.reduceToNatClampNeg, Nat.reduceLeDiff, Nat.reduceAdd, Nat.reduceEqDiff, Nat.reduceSub, List.set_cons_zero, List.set_cons_succ, false_and, and_false]
theorem L_11 (hI : fs_Inv J h) (hJ : J ≤ 900000) (hz : 50 ≤ z.1) (hs : h 1000 = .inl (10, N, .inl f)) (hi : i + 5 < N) (hN : N ≤ 3072) : fs_L J i z 624 h := by
  obtain ⟨r, h1, h2, e1, e2, hv, fr, I2⟩ := C_stage (J := J) (z := z) (h := h) (f (i + 1)) (f (i + 2)) hI
  obtain ⟨x, rfl⟩ := vk_int hv (by decide) (by decide)
  have r0 : ni_rc (h 0) 6 = true := by
    obtain ⟨-, n, w, im, lf, u, v, mu, ran, tr, rf, hl, hd, so, szf, sh, kp, g, sz, ee, ce, X, M, P⟩ := hI
    rw [X.1]; exact rc_o
  have r9 : ni_rc (h 49) 7 = true := by
    obtain ⟨-, n, w, im, lf, u, v, mu, ran, tr, rf, hl, hd, so, szf, sh, kp, g, sz, ee, ce, X, M, P⟩ := hI
    rw [M.1.1]; exact mrc
  have r1 : ni_rc (h1 49) 7 = true := (C_kc e1 49 (Or.inl (by omega))).2 7 r9
  have s1 : h1 1000 = .inl (10, N, .inl f) := ((C_kc e1 1000 (Or.inr (by omega))).1 (by rw [hs]; rfl)).trans hs
  have a1 : nI i + 1 = nI (i + 1) := nI_add i 1
  have b1 : ni_in (nI (i + 1)) N = true := in_n (by omega) (by omega)
  have c1 : (nI (i + 1)).toNatClampNeg = i + 1 := nI_clamp (by omega)
  have a2 : nI i + 2 = nI (i + 2) := nI_add i 2
  have b2 : ni_in (nI (i + 2)) N = true := in_n (by omega) (by omega)
  have c2 : (nI (i + 2)).toNatClampNeg = i + 2 := nI_clamp (by omega)
  refine ⟨h2, I2, fr, fun d Q => ?_⟩
  simp +decide only [s199_624, s199_624N, s199_625, s199_626, s199_627, s199_628, s199_629, s199_630, s199_631, s199_632, s199_633, s199_634, s199_635, s199_638, s199_638N, s199_639, s199_640, s199_641, s199_642, s199_643, s199_644, s199_645, s199_646, s199_647, s199_648, s199_649, s199_652, s199_655, s199_656, hs, s1, r0, r1, e1, e2, eq_self, cmp_self, a1, b1, c1, a2, b2, c2, ↓reduceIte, kl_i, kl_r, kl_n, kl_a, kl_l, up_s, up_up, is_0, is_s, gv_0, gv_s, pv_o, rc_o, okI_i, okI_x, okS_i, okB_x, gi_i, pi_i, okL_l, gl_l, pl_l, okA_2, okA_3, ga_a, arr_0, arr_1, arr_10, arr_11, len_a, sw_0, sw_i, sw_r, sw_l, fit_i, fit_z0, fit_z1, nz_0, nz_1, ni_K_s, ni_K_n, Nat.ble_eq, Nat.zero_le, Nat.zero_add, true_and, and_true, and_self, Bool.and_true, Bool.true_and, Bool.and_self, not_true_eq_false, not_false_eq_true, Int32.reduceLE, Int32.reduceLT, Int32.reduceAdd, Int32.reduceSub, Int32.reduceToNatClampNeg, Nat.reduceLeDiff, Nat.reduceAdd, Nat.reduceEqDiff, Nat.reduceSub, List.set_cons_zero, List.set_cons_succ, false_and, and_false]
theorem L_12 (hI : fs_Inv J h) (hJ : J ≤ 900000) (hz : 50 ≤ z.1) (hs : h 1000 = .inl (10, N, .inl f)) (hi : i + 5 < N) (hN : N ≤ 3072) : fs_L J i z 657 h := by
  obtain ⟨r, h1, h2, e1, e2, hv, fr, I2⟩ := C_turn (J := J) (z := z) (h := h) (f (i + 1)) hI
  obtain ⟨x, rfl⟩ := vk_int hv (by decide) (by decide)
  have r0 : ni_rc (h 0) 6 = true := by
    obtain ⟨-, n, w, im, lf, u, v, mu, ran, tr, rf, hl, hd, so, szf, sh, kp, g, sz, ee, ce, X, M, P⟩ := hI
    rw [X.1]; exact rc_o
  have r9 : ni_rc (h 49) 7 = true := by
    obtain ⟨-, n, w, im, lf, u, v, mu, ran, tr, rf, hl, hd, so, szf, sh, kp, g, sz, ee, ce, X, M, P⟩ := hI
    rw [M.1.1]; exact mrc
  have r1 : ni_rc (h1 49) 7 = true := (C_kc e1 49 (Or.inl (by omega))).2 7 r9
  have s1 : h1 1000 = .inl (10, N, .inl f) := ((C_kc e1 1000 (Or.inr (by omega))).1 (by rw [hs]; rfl)).trans hs
  have a1 : nI i + 1 = nI (i + 1) := nI_add i 1
  have b1 : ni_in (nI (i + 1)) N = true := in_n (by omega) (by omega)
  have c1 : (nI (i + 1)).toNatClampNeg = i + 1 := nI_clamp (by omega)
  refine ⟨h2, I2, fr, fun d Q => ?_⟩
  simp +decide only [s199_657, s199_657N, s199_658, s199_659, s199_660, s199_661, s199_662, s199_663, s199_666, s199_666N, s199_667, s199_668, s199_669, s199_670, s199_671, s199_672, s199_675, s199_678, s199_679, hs, s1, r0, r1, e1, e2, eq_self, cmp_self, a1, b1, c1, ↓reduceIte, kl_i, kl_r, kl_n, kl_a, kl_l, up_s, up_up, is_0, is_s, gv_0, gv_s, pv_o, rc_o, okI_i, okI_x, okS_i, okB_x, gi_i, pi_i, okL_l, gl_l, pl_l, okA_2, okA_3, ga_a, arr_0, arr_1, arr_10, arr_11, len_a, sw_0, sw_i, sw_r, sw_l, fit_i, fit_z0, fit_z1, nz_0, nz_1, ni_K_s, ni_K_n, Nat.ble_eq, Nat.zero_le, Nat.zero_add, true_and, and_true, and_self, Bool.and_true, Bool.true_and, Bool.and_self, not_true_eq_false, not_false_eq_true, Int32.reduceLE, Int32.reduceLT, Int32.reduceAdd, Int32.reduceSub, Int32.reduceToNatClampNeg, Nat.reduceLeDiff, Nat.reduceAdd, Nat.reduceEqDiff, Nat.reduceSub, List.set_cons_zero, List.set_cons_succ, false_and, and_false]
theorem L_13 (hI : fs_Inv J h) (hJ : J ≤ 900000) (hz : 50 ≤ z.1) (hs : h 1000 = .inl (10, N, .inl f)) (hi : i + 5 < N) (hN : N ≤ 3072) : fs_L J i z 680 h := by
  obtain ⟨r, h1, h2, e1, e2, hv, fr, I2⟩ := C_game (J := J) (z := z) (h := h) (f (i + 1)) hI
  obtain ⟨x, rfl⟩ := vk_int hv (by decide) (by decide)
  have r0 : ni_rc (h 0) 6 = true := by
    obtain ⟨-, n, w, im, lf, u, v, mu, ran, tr, rf, hl, hd, so, szf, sh, kp, g, sz, ee, ce, X, M, P⟩ := hI
    rw [X.1]; exact rc_o
  have r9 : ni_rc (h 49) 7 = true := by
    obtain ⟨-, n, w, im, lf, u, v, mu, ran, tr, rf, hl, hd, so, szf, sh, kp, g, sz, ee, ce, X, M, P⟩ := hI
    rw [M.1.1]; exact mrc
  have r1 : ni_rc (h1 49) 7 = true := (C_kc e1 49 (Or.inl (by omega))).2 7 r9
  have s1 : h1 1000 = .inl (10, N, .inl f) := ((C_kc e1 1000 (Or.inr (by omega))).1 (by rw [hs]; rfl)).trans hs
  have a1 : nI i + 1 = nI (i + 1) := nI_add i 1
  have b1 : ni_in (nI (i + 1)) N = true := in_n (by omega) (by omega)
  have c1 : (nI (i + 1)).toNatClampNeg = i + 1 := nI_clamp (by omega)
  refine ⟨h2, I2, fr, fun d Q => ?_⟩
  simp +decide only [s199_680, s199_680N, s199_681, s199_682, s199_683, s199_684, s199_685, s199_686, s199_689, s199_689N, s199_690, s199_691, s199_692, s199_693, s199_694, s199_695, s199_698, s199_701, s199_702, hs, s1, r0, r1, e1, e2, eq_self, cmp_self, a1, b1, c1, ↓reduceIte, kl_i, kl_r, kl_n, kl_a, kl_l, up_s, up_up, is_0, is_s, gv_0, gv_s, pv_o, rc_o, okI_i, okI_x, okS_i, okB_x, gi_i, pi_i, okL_l, gl_l, pl_l, okA_2, okA_3, ga_a, arr_0, arr_1, arr_10, arr_11, len_a, sw_0, sw_i, sw_r, sw_l, fit_i, fit_z0, fit_z1, nz_0, nz_1, ni_K_s, ni_K_n, Nat.ble_eq, Nat.zero_le, Nat.zero_add, true_and, and_true, and_self, Bool.and_true, Bool.true_and, Bool.and_self, not_true_eq_false, not_false_eq_true, Int32.reduceLE, Int32.reduceLT, Int32.reduceAdd, Int32.reduceSub, Int32.reduceToNatClampNeg, Nat.reduceLeDiff, Nat.reduceAdd, Nat.reduceEqDiff, Nat.reduceSub, List.set_cons_zero, List.set_cons_succ, false_and, and_false]
theorem L_14 (hI : fs_Inv J h) (hJ : J ≤ 900000) (hz : 50 ≤ z.1) (hs : h 1000 = .inl (10, N, .inl f)) (hi : i + 5 < N) (hN : N ≤ 3072) : fs_L J i z 703 h := by
  obtain ⟨r, h1, h2, e1, e2, hv, fr, I2⟩ := C_fault (J := J) (z := z) (h := h)  hI
  obtain ⟨x, rfl⟩ := vk_int hv (by decide) (by decide)
  have r0 : ni_rc (h 0) 6 = true := by
    obtain ⟨-, n, w, im, lf, u, v, mu, ran, tr, rf, hl, hd, so, szf, sh, kp, g, sz, ee, ce, X, M, P⟩ := hI
    rw [X.1]; exact rc_o
  have r9 : ni_rc (h 49) 7 = true := by
    obtain ⟨-, n, w, im, lf, u, v, mu, ran, tr, rf, hl, hd, so, szf, sh, kp, g, sz, ee, ce, X, M, P⟩ := hI
    rw [M.1.1]; exact mrc
  have r1 : ni_rc (h1 49) 7 = true := (C_kc e1 49 (Or.inl (by omega))).2 7 r9
  have s1 : h1 1000 = .inl (10, N, .inl f) := ((C_kc e1 1000 (Or.inr (by omega))).1 (by rw [hs]; rfl)).trans hs
  refine ⟨h2, I2, fr, fun d Q => ?_⟩
  simp +decide only [s199_703, s199_703N, s199_704, s199_707, s199_707N, s199_708, s199_711, s199_714, s199_715, hs, s1, r0, r1, e1, e2, eq_self, cmp_self, ↓reduceIte, kl_i, kl_r, kl_n, kl_a, kl_l, up_s, up_up, is_0, is_s, gv_0, gv_s, pv_o, rc_o, okI_i, okI_x, okS_i, okB_x, gi_i, pi_i, okL_l, gl_l, pl_l, okA_2, okA_3, ga_a, arr_0, arr_1, arr_10, arr_11, len_a, sw_0, sw_i, sw_r, sw_l, fit_i, fit_z0, fit_z1, nz_0, nz_1, ni_K_s, ni_K_n, Nat.ble_eq, Nat.zero_le, Nat.zero_add, true_and, and_true, and_self, Bool.and_true, Bool.true_and, Bool.and_self, not_true_eq_false, not_false_eq_true, Int32.reduceLE, Int32.reduceLT, Int32.reduceAdd, Int32.reduceSub, Int32.reduceToNatClampNeg, Nat.reduceLeDiff, Nat.reduceAdd, Nat.reduceEqDiff, Nat.reduceSub, List.set_cons_zero, List.set_cons_succ, false_and, and_false]
theorem L_15 (hI : fs_Inv J h) (hJ : J ≤ 900000) (hz : 50 ≤ z.1) (hs : h 1000 = .inl (10, N, .inl f)) (hi : i + 5 < N) (hN : N ≤ 3072) : fs_L J i z 716 h := by
  obtain ⟨r, h1, h2, e1, e2, hv, fr, I2⟩ := C_way (J := J) (z := z) (h := h) (f (i + 1)) hI
  obtain ⟨x, rfl⟩ := vk_int hv (by decide) (by decide)
  have r0 : ni_rc (h 0) 6 = true := by
    obtain ⟨-, n, w, im, lf, u, v, mu, ran, tr, rf, hl, hd, so, szf, sh, kp, g, sz, ee, ce, X, M, P⟩ := hI
    rw [X.1]; exact rc_o
  have r9 : ni_rc (h 49) 7 = true := by
    obtain ⟨-, n, w, im, lf, u, v, mu, ran, tr, rf, hl, hd, so, szf, sh, kp, g, sz, ee, ce, X, M, P⟩ := hI
    rw [M.1.1]; exact mrc
  have r1 : ni_rc (h1 49) 7 = true := (C_kc e1 49 (Or.inl (by omega))).2 7 r9
  have s1 : h1 1000 = .inl (10, N, .inl f) := ((C_kc e1 1000 (Or.inr (by omega))).1 (by rw [hs]; rfl)).trans hs
  have a1 : nI i + 1 = nI (i + 1) := nI_add i 1
  have b1 : ni_in (nI (i + 1)) N = true := in_n (by omega) (by omega)
  have c1 : (nI (i + 1)).toNatClampNeg = i + 1 := nI_clamp (by omega)
  refine ⟨h2, I2, fr, fun d Q => ?_⟩
  simp +decide only [s199_716, s199_716N, s199_717, s199_718, s199_719, s199_720, s199_721, s199_722, s199_725, s199_725N, s199_726, s199_727, s199_728, s199_729, s199_730, s199_731, s199_734, s199_737, s199_738, hs, s1, r0, r1, e1, e2, eq_self, cmp_self, a1, b1, c1, ↓reduceIte, kl_i, kl_r, kl_n, kl_a, kl_l, up_s, up_up, is_0, is_s, gv_0, gv_s, pv_o, rc_o, okI_i, okI_x, okS_i, okB_x, gi_i, pi_i, okL_l, gl_l, pl_l, okA_2, okA_3, ga_a, arr_0, arr_1, arr_10, arr_11, len_a, sw_0, sw_i, sw_r, sw_l, fit_i, fit_z0, fit_z1, nz_0, nz_1, ni_K_s, ni_K_n, Nat.ble_eq, Nat.zero_le, Nat.zero_add, true_and, and_true, and_self, Bool.and_true, Bool.true_and, Bool.and_self, not_true_eq_false, not_false_eq_true, Int32.reduceLE, Int32.reduceLT, Int32.reduceAdd, Int32.reduceSub, Int32.reduceToNatClampNeg, Nat.reduceLeDiff, Nat.reduceAdd, Nat.reduceEqDiff, Nat.reduceSub, List.set_cons_zero, List.set_cons_succ, false_and, and_false]
theorem L_16 (hI : fs_Inv J h) (hJ : J ≤ 900000) (hz : 50 ≤ z.1) (hs : h 1000 = .inl (10, N, .inl f)) (hi : i + 5 < N) (hN : N ≤ 3072) : fs_L J i z 739 h := by
  obtain ⟨r, h1, h2, e1, e2, hv, fr, I2⟩ := C_odds (J := J) (z := z) (h := h) (f (i + 1)) (f (i + 2)) (f (i + 3)) hJ hI
  obtain ⟨x, rfl⟩ := vk_int hv (by decide) (by decide)
  have r0 : ni_rc (h 0) 6 = true := by
    obtain ⟨-, n, w, im, lf, u, v, mu, ran, tr, rf, hl, hd, so, szf, sh, kp, g, sz, ee, ce, X, M, P⟩ := hI
    rw [X.1]; exact rc_o
  have r9 : ni_rc (h 49) 7 = true := by
    obtain ⟨-, n, w, im, lf, u, v, mu, ran, tr, rf, hl, hd, so, szf, sh, kp, g, sz, ee, ce, X, M, P⟩ := hI
    rw [M.1.1]; exact mrc
  have r1 : ni_rc (h1 49) 7 = true := (C_kc e1 49 (Or.inl (by omega))).2 7 r9
  have s1 : h1 1000 = .inl (10, N, .inl f) := ((C_kc e1 1000 (Or.inr (by omega))).1 (by rw [hs]; rfl)).trans hs
  have a1 : nI i + 1 = nI (i + 1) := nI_add i 1
  have b1 : ni_in (nI (i + 1)) N = true := in_n (by omega) (by omega)
  have c1 : (nI (i + 1)).toNatClampNeg = i + 1 := nI_clamp (by omega)
  have a2 : nI i + 2 = nI (i + 2) := nI_add i 2
  have b2 : ni_in (nI (i + 2)) N = true := in_n (by omega) (by omega)
  have c2 : (nI (i + 2)).toNatClampNeg = i + 2 := nI_clamp (by omega)
  have a3 : nI i + 3 = nI (i + 3) := nI_add i 3
  have b3 : ni_in (nI (i + 3)) N = true := in_n (by omega) (by omega)
  have c3 : (nI (i + 3)).toNatClampNeg = i + 3 := nI_clamp (by omega)
  refine ⟨h2, I2, fr, fun d Q => ?_⟩
  simp +decide only [s199_739, s199_739N, s199_740, s199_741, s199_742, s199_743, s199_744, s199_745, s199_746, s199_747, s199_748, s199_749, s199_750, s199_751, s199_752, s199_753, s199_754, s199_755, s199_758, s199_758N, s199_759, s199_760, s199_761, s199_762, s199_763, s199_764, s199_765, s199_766, s199_767, s199_768, s199_769, s199_770, s199_771, s199_772, s199_773, s199_774, s199_777, s199_780, s199_781, hs, s1, r0, r1, e1, e2, eq_self, cmp_self, a1, b1, c1, a2, b2, c2, a3, b3, c3, ↓reduceIte, kl_i, kl_r, kl_n, kl_a, kl_l, up_s, up_up, is_0, is_s, gv_0, gv_s, pv_o, rc_o, okI_i, okI_x, okS_i, okB_x, gi_i, pi_i, okL_l, gl_l, pl_l, okA_2, okA_3, ga_a, arr_0, arr_1, arr_10, arr_11, len_a, sw_0, sw_i, sw_r, sw_l, fit_i, fit_z0, fit_z1, nz_0, nz_1, ni_K_s, ni_K_n, Nat.ble_eq, Nat.zero_le, Nat.zero_add, true_and, and_true, and_self, Bool.and_true, Bool.true_and, Bool.and_self, not_true_eq_false, not_false_eq_true, Int32.reduceLE, Int32.reduceLT, Int32.reduceAdd, Int32.reduceSub, Int32.reduceToNatClampNeg, Nat.reduceLeDiff, Nat.reduceAdd, Nat.reduceEqDiff, Nat.reduceSub, List.set_cons_zero, List.set_cons_succ, false_and, and_false]
theorem L_17 (hI : fs_Inv J h) (hJ : J ≤ 900000) (hz : 50 ≤ z.1) (hs : h 1000 = .inl (10, N, .inl f)) (hi : i + 5 < N) (hN : N ≤ 3072) : fs_L J i z 782 h := by
  obtain ⟨r, h1, h2, e1, e2, hv, fr, I2⟩ := C_high (J := J) (z := z) (h := h) (f (i + 1)) (f (i + 2)) (f (i + 3)) hJ hI
  obtain ⟨x, rfl⟩ := vk_int hv (by decide) (by decide)
  have r0 : ni_rc (h 0) 6 = true := by
    obtain ⟨-, n, w, im, lf, u, v, mu, ran, tr, rf, hl, hd, so, szf, sh, kp, g, sz, ee, ce, X, M, P⟩ := hI
    rw [X.1]; exact rc_o
  have r9 : ni_rc (h 49) 7 = true := by
    obtain ⟨-, n, w, im, lf, u, v, mu, ran, tr, rf, hl, hd, so, szf, sh, kp, g, sz, ee, ce, X, M, P⟩ := hI
    rw [M.1.1]; exact mrc
  have r1 : ni_rc (h1 49) 7 = true := (C_kc e1 49 (Or.inl (by omega))).2 7 r9
  have s1 : h1 1000 = .inl (10, N, .inl f) := ((C_kc e1 1000 (Or.inr (by omega))).1 (by rw [hs]; rfl)).trans hs
  have a1 : nI i + 1 = nI (i + 1) := nI_add i 1
  have b1 : ni_in (nI (i + 1)) N = true := in_n (by omega) (by omega)
  have c1 : (nI (i + 1)).toNatClampNeg = i + 1 := nI_clamp (by omega)
  have a2 : nI i + 2 = nI (i + 2) := nI_add i 2
  have b2 : ni_in (nI (i + 2)) N = true := in_n (by omega) (by omega)
  have c2 : (nI (i + 2)).toNatClampNeg = i + 2 := nI_clamp (by omega)
  have a3 : nI i + 3 = nI (i + 3) := nI_add i 3
  have b3 : ni_in (nI (i + 3)) N = true := in_n (by omega) (by omega)
  have c3 : (nI (i + 3)).toNatClampNeg = i + 3 := nI_clamp (by omega)
  refine ⟨h2, I2, fr, fun d Q => ?_⟩
  simp +decide only [s199_782, s199_782N, s199_783, s199_784, s199_785, s199_786, s199_787, s199_788, s199_789, s199_790, s199_791, s199_792, s199_793, s199_794, s199_795, s199_796, s199_797, s199_798, s199_801, s199_801N, s199_802, s199_803, s199_804, s199_805, s199_806, s199_807, s199_808, s199_809, s199_810, s199_811, s199_812, s199_813, s199_814, s199_815, s199_816, s199_817, s199_820, s199_823, s199_824, hs, s1, r0, r1, e1, e2, eq_self, cmp_self, a1, b1, c1, a2, b2, c2, a3, b3, c3, ↓reduceIte, kl_i, kl_r, kl_n, kl_a, kl_l, up_s, up_up, is_0, is_s, gv_0, gv_s, pv_o, rc_o, okI_i, okI_x, okS_i, okB_x, gi_i, pi_i, okL_l, gl_l, pl_l, okA_2, okA_3, ga_a, arr_0, arr_1, arr_10, arr_11, len_a, sw_0, sw_i, sw_r, sw_l, fit_i, fit_z0, fit_z1, nz_0, nz_1, ni_K_s, ni_K_n, Nat.ble_eq, Nat.zero_le, Nat.zero_add, true_and, and_true, and_self, Bool.and_true, Bool.true_and, Bool.and_self, not_true_eq_false, not_false_eq_true, Int32.reduceLE, Int32.reduceLT, Int32.reduceAdd, Int32.reduceSub, Int32.reduceToNatClampNeg, Nat.reduceLeDiff, Nat.reduceAdd, Nat.reduceEqDiff, Nat.reduceSub, List.set_cons_zero, List.set_cons_succ, false_and, and_false]
theorem L_18 (hI : fs_Inv J h) (hJ : J ≤ 900000) (hz : 50 ≤ z.1) (hs : h 1000 = .inl (10, N, .inl f)) (hi : i + 5 < N) (hN : N ≤ 3072) : fs_L J i z 825 h := by
  obtain ⟨r, h1, h2, e1, e2, hv, fr, I2⟩ := C_chance (J := J) (z := z) (h := h) (f (i + 1)) (f (i + 2)) hJ hI
  obtain ⟨x, rfl⟩ := vk_int hv (by decide) (by decide)
  have r0 : ni_rc (h 0) 6 = true := by
    obtain ⟨-, n, w, im, lf, u, v, mu, ran, tr, rf, hl, hd, so, szf, sh, kp, g, sz, ee, ce, X, M, P⟩ := hI
    rw [X.1]; exact rc_o
  have r9 : ni_rc (h 49) 7 = true := by
    obtain ⟨-, n, w, im, lf, u, v, mu, ran, tr, rf, hl, hd, so, szf, sh, kp, g, sz, ee, ce, X, M, P⟩ := hI
    rw [M.1.1]; exact mrc
  have r1 : ni_rc (h1 49) 7 = true := (C_kc e1 49 (Or.inl (by omega))).2 7 r9
  have s1 : h1 1000 = .inl (10, N, .inl f) := ((C_kc e1 1000 (Or.inr (by omega))).1 (by rw [hs]; rfl)).trans hs
  have a1 : nI i + 1 = nI (i + 1) := nI_add i 1
  have b1 : ni_in (nI (i + 1)) N = true := in_n (by omega) (by omega)
  have c1 : (nI (i + 1)).toNatClampNeg = i + 1 := nI_clamp (by omega)
  have a2 : nI i + 2 = nI (i + 2) := nI_add i 2
  have b2 : ni_in (nI (i + 2)) N = true := in_n (by omega) (by omega)
  have c2 : (nI (i + 2)).toNatClampNeg = i + 2 := nI_clamp (by omega)
  refine ⟨h2, I2, fr, fun d Q => ?_⟩
  simp +decide only [s199_825, s199_825N, s199_826, s199_827, s199_828, s199_829, s199_830, s199_831, s199_832, s199_833, s199_834, s199_835, s199_836, s199_839, s199_839N, s199_840, s199_841, s199_842, s199_843, s199_844, s199_845, s199_846, s199_847, s199_848, s199_849, s199_850, s199_853, s199_856, s199_857, hs, s1, r0, r1, e1, e2, eq_self, cmp_self, a1, b1, c1, a2, b2, c2, ↓reduceIte, kl_i, kl_r, kl_n, kl_a, kl_l, up_s, up_up, is_0, is_s, gv_0, gv_s, pv_o, rc_o, okI_i, okI_x, okS_i, okB_x, gi_i, pi_i, okL_l, gl_l, pl_l, okA_2, okA_3, ga_a, arr_0, arr_1, arr_10, arr_11, len_a, sw_0, sw_i, sw_r, sw_l, fit_i, fit_z0, fit_z1, nz_0, nz_1, ni_K_s, ni_K_n, Nat.ble_eq, Nat.zero_le, Nat.zero_add, true_and, and_true, and_self, Bool.and_true, Bool.true_and, Bool.and_self, not_true_eq_false, not_false_eq_true, Int32.reduceLE, Int32.reduceLT, Int32.reduceAdd, Int32.reduceSub, Int32.reduceToNatClampNeg, Nat.reduceLeDiff, Nat.reduceAdd, Nat.reduceEqDiff, Nat.reduceSub, List.set_cons_zero, List.set_cons_succ, false_and, and_false]
theorem L_19 (hI : fs_Inv J h) (hJ : J ≤ 900000) (hz : 50 ≤ z.1) (hs : h 1000 = .inl (10, N, .inl f)) (hi : i + 5 < N) (hN : N ≤ 3072) : fs_L J i z 858 h := by
  obtain ⟨r, h1, h2, e1, e2, hv, fr, I2⟩ := C_plan (J := J) (z := z) (h := h) (f (i + 1)) (f (i + 2)) hJ hI
  obtain ⟨x, rfl⟩ := vk_int hv (by decide) (by decide)
  have r0 : ni_rc (h 0) 6 = true := by
    obtain ⟨-, n, w, im, lf, u, v, mu, ran, tr, rf, hl, hd, so, szf, sh, kp, g, sz, ee, ce, X, M, P⟩ := hI
    rw [X.1]; exact rc_o
  have r9 : ni_rc (h 49) 7 = true := by
    obtain ⟨-, n, w, im, lf, u, v, mu, ran, tr, rf, hl, hd, so, szf, sh, kp, g, sz, ee, ce, X, M, P⟩ := hI
    rw [M.1.1]; exact mrc
  have r1 : ni_rc (h1 49) 7 = true := (C_kc e1 49 (Or.inl (by omega))).2 7 r9
  have s1 : h1 1000 = .inl (10, N, .inl f) := ((C_kc e1 1000 (Or.inr (by omega))).1 (by rw [hs]; rfl)).trans hs
  have a1 : nI i + 1 = nI (i + 1) := nI_add i 1
  have b1 : ni_in (nI (i + 1)) N = true := in_n (by omega) (by omega)
  have c1 : (nI (i + 1)).toNatClampNeg = i + 1 := nI_clamp (by omega)
  have a2 : nI i + 2 = nI (i + 2) := nI_add i 2
  have b2 : ni_in (nI (i + 2)) N = true := in_n (by omega) (by omega)
  have c2 : (nI (i + 2)).toNatClampNeg = i + 2 := nI_clamp (by omega)
  refine ⟨h2, I2, fr, fun d Q => ?_⟩
  simp +decide only [s199_858, s199_858N, s199_859, s199_860, s199_861, s199_862, s199_863, s199_864, s199_865, s199_866, s199_867, s199_868, s199_869, s199_872, s199_872N, s199_873, s199_874, s199_875, s199_876, s199_877, s199_878, s199_879, s199_880, s199_881, s199_882, s199_883, s199_886, s199_889, s199_890, hs, s1, r0, r1, e1, e2, eq_self, cmp_self, a1, b1, c1, a2, b2, c2, ↓reduceIte, kl_i, kl_r, kl_n, kl_a, kl_l, up_s, up_up, is_0, is_s, gv_0, gv_s, pv_o, rc_o, okI_i, okI_x, okS_i, okB_x, gi_i, pi_i, okL_l, gl_l, pl_l, okA_2, okA_3, ga_a, arr_0, arr_1, arr_10, arr_11, len_a, sw_0, sw_i, sw_r, sw_l, fit_i, fit_z0, fit_z1, nz_0, nz_1, ni_K_s, ni_K_n, Nat.ble_eq, Nat.zero_le, Nat.zero_add, true_and, and_true, and_self, Bool.and_true, Bool.true_and, Bool.and_self, not_true_eq_false, not_false_eq_true, Int32.reduceLE, Int32.reduceLT, Int32.reduceAdd, Int32.reduceSub, Int32.reduceToNatClampNeg, Nat.reduceLeDiff, Nat.reduceAdd, Nat.reduceEqDiff, Nat.reduceSub, List.set_cons_zero, List.set_cons_succ, false_and, and_false]
theorem L_20 (hI : fs_Inv J h) (hJ : J ≤ 900000) (hz : 50 ≤ z.1) (hs : h 1000 = .inl (10, N, .inl f)) (hi : i + 5 < N) (hN : N ≤ 3072) : fs_L J i z 891 h := by
  obtain ⟨r, h1, h2, e1, e2, hv, fr, I2⟩ := C_bestStage (J := J) (z := z) (h := h) (f (i + 1)) hJ hI
  obtain ⟨x, rfl⟩ := vk_int hv (by decide) (by decide)
  have r0 : ni_rc (h 0) 6 = true := by
    obtain ⟨-, n, w, im, lf, u, v, mu, ran, tr, rf, hl, hd, so, szf, sh, kp, g, sz, ee, ce, X, M, P⟩ := hI
    rw [X.1]; exact rc_o
  have r9 : ni_rc (h 49) 7 = true := by
    obtain ⟨-, n, w, im, lf, u, v, mu, ran, tr, rf, hl, hd, so, szf, sh, kp, g, sz, ee, ce, X, M, P⟩ := hI
    rw [M.1.1]; exact mrc
  have r1 : ni_rc (h1 49) 7 = true := (C_kc e1 49 (Or.inl (by omega))).2 7 r9
  have s1 : h1 1000 = .inl (10, N, .inl f) := ((C_kc e1 1000 (Or.inr (by omega))).1 (by rw [hs]; rfl)).trans hs
  have a1 : nI i + 1 = nI (i + 1) := nI_add i 1
  have b1 : ni_in (nI (i + 1)) N = true := in_n (by omega) (by omega)
  have c1 : (nI (i + 1)).toNatClampNeg = i + 1 := nI_clamp (by omega)
  refine ⟨h2, I2, fr, fun d Q => ?_⟩
  simp +decide only [s199_891, s199_891N, s199_892, s199_893, s199_894, s199_895, s199_896, s199_897, s199_900, s199_900N, s199_901, s199_902, s199_903, s199_904, s199_905, s199_906, s199_909, s199_912, s199_913, hs, s1, r0, r1, e1, e2, eq_self, cmp_self, a1, b1, c1, ↓reduceIte, kl_i, kl_r, kl_n, kl_a, kl_l, up_s, up_up, is_0, is_s, gv_0, gv_s, pv_o, rc_o, okI_i, okI_x, okS_i, okB_x, gi_i, pi_i, okL_l, gl_l, pl_l, okA_2, okA_3, ga_a, arr_0, arr_1, arr_10, arr_11, len_a, sw_0, sw_i, sw_r, sw_l, fit_i, fit_z0, fit_z1, nz_0, nz_1, ni_K_s, ni_K_n, Nat.ble_eq, Nat.zero_le, Nat.zero_add, true_and, and_true, and_self, Bool.and_true, Bool.true_and, Bool.and_self, not_true_eq_false, not_false_eq_true, Int32.reduceLE, Int32.reduceLT, Int32.reduceAdd, Int32.reduceSub, Int32.reduceToNatClampNeg, Nat.reduceLeDiff, Nat.reduceAdd, Nat.reduceEqDiff, Nat.reduceSub, List.set_cons_zero, List.set_cons_succ, false_and, and_false]
theorem L_21 (hI : fs_Inv J h) (hJ : J ≤ 900000) (hz : 50 ≤ z.1) (hs : h 1000 = .inl (10, N, .inl f)) (hi : i + 5 < N) (hN : N ≤ 3072) : fs_L J i z 914 h := by
  obtain ⟨r, h1, h2, e1, e2, hv, fr, I2⟩ := C_bestHand (J := J) (z := z) (h := h) (f (i + 1)) hJ hI
  obtain ⟨x, rfl⟩ := vk_int hv (by decide) (by decide)
  have r0 : ni_rc (h 0) 6 = true := by
    obtain ⟨-, n, w, im, lf, u, v, mu, ran, tr, rf, hl, hd, so, szf, sh, kp, g, sz, ee, ce, X, M, P⟩ := hI
    rw [X.1]; exact rc_o
  have r9 : ni_rc (h 49) 7 = true := by
    obtain ⟨-, n, w, im, lf, u, v, mu, ran, tr, rf, hl, hd, so, szf, sh, kp, g, sz, ee, ce, X, M, P⟩ := hI
    rw [M.1.1]; exact mrc
  have r1 : ni_rc (h1 49) 7 = true := (C_kc e1 49 (Or.inl (by omega))).2 7 r9
  have s1 : h1 1000 = .inl (10, N, .inl f) := ((C_kc e1 1000 (Or.inr (by omega))).1 (by rw [hs]; rfl)).trans hs
  have a1 : nI i + 1 = nI (i + 1) := nI_add i 1
  have b1 : ni_in (nI (i + 1)) N = true := in_n (by omega) (by omega)
  have c1 : (nI (i + 1)).toNatClampNeg = i + 1 := nI_clamp (by omega)
  refine ⟨h2, I2, fr, fun d Q => ?_⟩
  simp +decide only [s199_914, s199_914N, s199_915, s199_916, s199_917, s199_918, s199_919, s199_920, s199_923, s199_923N, s199_924, s199_925, s199_926, s199_927, s199_928, s199_929, s199_932, s199_935, s199_936, hs, s1, r0, r1, e1, e2, eq_self, cmp_self, a1, b1, c1, ↓reduceIte, kl_i, kl_r, kl_n, kl_a, kl_l, up_s, up_up, is_0, is_s, gv_0, gv_s, pv_o, rc_o, okI_i, okI_x, okS_i, okB_x, gi_i, pi_i, okL_l, gl_l, pl_l, okA_2, okA_3, ga_a, arr_0, arr_1, arr_10, arr_11, len_a, sw_0, sw_i, sw_r, sw_l, fit_i, fit_z0, fit_z1, nz_0, nz_1, ni_K_s, ni_K_n, Nat.ble_eq, Nat.zero_le, Nat.zero_add, true_and, and_true, and_self, Bool.and_true, Bool.true_and, Bool.and_self, not_true_eq_false, not_false_eq_true, Int32.reduceLE, Int32.reduceLT, Int32.reduceAdd, Int32.reduceSub, Int32.reduceToNatClampNeg, Nat.reduceLeDiff, Nat.reduceAdd, Nat.reduceEqDiff, Nat.reduceSub, List.set_cons_zero, List.set_cons_succ, false_and, and_false]
theorem L_22 (hI : fs_Inv J h) (hJ : J ≤ 900000) (hz : 50 ≤ z.1) (hs : h 1000 = .inl (10, N, .inl f)) (hi : i + 5 < N) (hN : N ≤ 3072) : fs_L J i z 937 h := by
  obtain ⟨r, h1, h2, e1, e2, hv, fr, I2⟩ := C_keep (J := J) (z := z) (h := h) (f (i + 1)) hI
  obtain ⟨x, rfl⟩ := vk_int hv (by decide) (by decide)
  have r0 : ni_rc (h 0) 6 = true := by
    obtain ⟨-, n, w, im, lf, u, v, mu, ran, tr, rf, hl, hd, so, szf, sh, kp, g, sz, ee, ce, X, M, P⟩ := hI
    rw [X.1]; exact rc_o
  have r9 : ni_rc (h 49) 7 = true := by
    obtain ⟨-, n, w, im, lf, u, v, mu, ran, tr, rf, hl, hd, so, szf, sh, kp, g, sz, ee, ce, X, M, P⟩ := hI
    rw [M.1.1]; exact mrc
  have r1 : ni_rc (h1 49) 7 = true := (C_kc e1 49 (Or.inl (by omega))).2 7 r9
  have s1 : h1 1000 = .inl (10, N, .inl f) := ((C_kc e1 1000 (Or.inr (by omega))).1 (by rw [hs]; rfl)).trans hs
  have a1 : nI i + 1 = nI (i + 1) := nI_add i 1
  have b1 : ni_in (nI (i + 1)) N = true := in_n (by omega) (by omega)
  have c1 : (nI (i + 1)).toNatClampNeg = i + 1 := nI_clamp (by omega)
  refine ⟨h2, I2, fr, fun d Q => ?_⟩
  simp +decide only [s199_937, s199_937N, s199_938, s199_939, s199_940, s199_941, s199_942, s199_943, s199_946, s199_946N, s199_947, s199_948, s199_949, s199_950, s199_951, s199_952, s199_955, s199_958, s199_959, hs, s1, r0, r1, e1, e2, eq_self, cmp_self, a1, b1, c1, ↓reduceIte, kl_i, kl_r, kl_n, kl_a, kl_l, up_s, up_up, is_0, is_s, gv_0, gv_s, pv_o, rc_o, okI_i, okI_x, okS_i, okB_x, gi_i, pi_i, okL_l, gl_l, pl_l, okA_2, okA_3, ga_a, arr_0, arr_1, arr_10, arr_11, len_a, sw_0, sw_i, sw_r, sw_l, fit_i, fit_z0, fit_z1, nz_0, nz_1, ni_K_s, ni_K_n, Nat.ble_eq, Nat.zero_le, Nat.zero_add, true_and, and_true, and_self, Bool.and_true, Bool.true_and, Bool.and_self, not_true_eq_false, not_false_eq_true, Int32.reduceLE, Int32.reduceLT, Int32.reduceAdd, Int32.reduceSub, Int32.reduceToNatClampNeg, Nat.reduceLeDiff, Nat.reduceAdd, Nat.reduceEqDiff, Nat.reduceSub, List.set_cons_zero, List.set_cons_succ, false_and, and_false]
theorem L_23 (hI : fs_Inv J h) (hJ : J ≤ 900000) (hz : 50 ≤ z.1) (hs : h 1000 = .inl (10, N, .inl f)) (hi : i + 5 < N) (hN : N ≤ 3072) : fs_L J i z 960 h := by
  obtain ⟨r, h1, h2, e1, e2, hv, fr, I2⟩ := C_first (J := J) (z := z) (h := h) (f (i + 1)) (f (i + 2)) (f (i + 3)) hI
  obtain ⟨x, rfl⟩ := vk_int hv (by decide) (by decide)
  have r0 : ni_rc (h 0) 6 = true := by
    obtain ⟨-, n, w, im, lf, u, v, mu, ran, tr, rf, hl, hd, so, szf, sh, kp, g, sz, ee, ce, X, M, P⟩ := hI
    rw [X.1]; exact rc_o
  have r9 : ni_rc (h 49) 7 = true := by
    obtain ⟨-, n, w, im, lf, u, v, mu, ran, tr, rf, hl, hd, so, szf, sh, kp, g, sz, ee, ce, X, M, P⟩ := hI
    rw [M.1.1]; exact mrc
  have r1 : ni_rc (h1 49) 7 = true := (C_kc e1 49 (Or.inl (by omega))).2 7 r9
  have s1 : h1 1000 = .inl (10, N, .inl f) := ((C_kc e1 1000 (Or.inr (by omega))).1 (by rw [hs]; rfl)).trans hs
  have a1 : nI i + 1 = nI (i + 1) := nI_add i 1
  have b1 : ni_in (nI (i + 1)) N = true := in_n (by omega) (by omega)
  have c1 : (nI (i + 1)).toNatClampNeg = i + 1 := nI_clamp (by omega)
  have a2 : nI i + 2 = nI (i + 2) := nI_add i 2
  have b2 : ni_in (nI (i + 2)) N = true := in_n (by omega) (by omega)
  have c2 : (nI (i + 2)).toNatClampNeg = i + 2 := nI_clamp (by omega)
  have a3 : nI i + 3 = nI (i + 3) := nI_add i 3
  have b3 : ni_in (nI (i + 3)) N = true := in_n (by omega) (by omega)
  have c3 : (nI (i + 3)).toNatClampNeg = i + 3 := nI_clamp (by omega)
  refine ⟨h2, I2, fr, fun d Q => ?_⟩
  simp +decide only [s199_960, s199_960N, s199_961, s199_962, s199_963, s199_964, s199_965, s199_966, s199_967, s199_968, s199_969, s199_970, s199_971, s199_972, s199_973, s199_974, s199_975, s199_976, s199_979, s199_979N, s199_980, s199_981, s199_982, s199_983, s199_984, s199_985, s199_986, s199_987, s199_988, s199_989, s199_990, s199_991, s199_992, s199_993, s199_994, s199_995, s199_998, s199_1001, s199_1002, hs, s1, r0, r1, e1, e2, eq_self, cmp_self, a1, b1, c1, a2, b2, c2, a3, b3, c3, ↓reduceIte, kl_i, kl_r, kl_n, kl_a, kl_l, up_s, up_up, is_0, is_s, gv_0, gv_s, pv_o, rc_o, okI_i, okI_x, okS_i, okB_x, gi_i, pi_i, okL_l, gl_l, pl_l, okA_2, okA_3, ga_a, arr_0, arr_1, arr_10, arr_11, len_a, sw_0, sw_i, sw_r, sw_l, fit_i, fit_z0, fit_z1, nz_0, nz_1, ni_K_s, ni_K_n, Nat.ble_eq, Nat.zero_le, Nat.zero_add, true_and, and_true, and_self, Bool.and_true, Bool.true_and, Bool.and_self, not_true_eq_false, not_false_eq_true, Int32.reduceLE, Int32.reduceLT, Int32.reduceAdd, Int32.reduceSub, Int32.reduceToNatClampNeg, Nat.reduceLeDiff, Nat.reduceAdd, Nat.reduceEqDiff, Nat.reduceSub, List.set_cons_zero, List.set_cons_succ, false_and, and_false]
theorem L_24 (hI : fs_Inv J h) (hJ : J ≤ 900000) (hz : 50 ≤ z.1) (hs : h 1000 = .inl (10, N, .inl f)) (hi : i + 5 < N) (hN : N ≤ 3072) : fs_L J i z 1003 h := by
  obtain ⟨r, h1, h2, e1, e2, hv, fr, I2⟩ := C_turns (J := J) (z := z) (h := h) (f (i + 1)) (f (i + 2)) hI
  obtain ⟨x, rfl⟩ := vk_int hv (by decide) (by decide)
  have r0 : ni_rc (h 0) 6 = true := by
    obtain ⟨-, n, w, im, lf, u, v, mu, ran, tr, rf, hl, hd, so, szf, sh, kp, g, sz, ee, ce, X, M, P⟩ := hI
    rw [X.1]; exact rc_o
  have r9 : ni_rc (h 49) 7 = true := by
    obtain ⟨-, n, w, im, lf, u, v, mu, ran, tr, rf, hl, hd, so, szf, sh, kp, g, sz, ee, ce, X, M, P⟩ := hI
    rw [M.1.1]; exact mrc
  have r1 : ni_rc (h1 49) 7 = true := (C_kc e1 49 (Or.inl (by omega))).2 7 r9
  have s1 : h1 1000 = .inl (10, N, .inl f) := ((C_kc e1 1000 (Or.inr (by omega))).1 (by rw [hs]; rfl)).trans hs
  have a1 : nI i + 1 = nI (i + 1) := nI_add i 1
  have b1 : ni_in (nI (i + 1)) N = true := in_n (by omega) (by omega)
  have c1 : (nI (i + 1)).toNatClampNeg = i + 1 := nI_clamp (by omega)
  have a2 : nI i + 2 = nI (i + 2) := nI_add i 2
  have b2 : ni_in (nI (i + 2)) N = true := in_n (by omega) (by omega)
  have c2 : (nI (i + 2)).toNatClampNeg = i + 2 := nI_clamp (by omega)
  refine ⟨h2, I2, fr, fun d Q => ?_⟩
  simp +decide only [s199_1003, s199_1003N, s199_1004, s199_1005, s199_1006, s199_1007, s199_1008, s199_1009, s199_1010, s199_1011, s199_1012, s199_1013, s199_1014, s199_1017, s199_1017N, s199_1018, s199_1019, s199_1020, s199_1021, s199_1022, s199_1023, s199_1024, s199_1025, s199_1026, s199_1027, s199_1028, s199_1031, s199_1034, s199_1035, hs, s1, r0, r1, e1, e2, eq_self, cmp_self, a1, b1, c1, a2, b2, c2, ↓reduceIte, kl_i, kl_r, kl_n, kl_a, kl_l, up_s, up_up, is_0, is_s, gv_0, gv_s, pv_o, rc_o, okI_i, okI_x, okS_i, okB_x, gi_i, pi_i, okL_l, gl_l, pl_l, okA_2, okA_3, ga_a, arr_0, arr_1, arr_10, arr_11, len_a, sw_0, sw_i, sw_r, sw_l, fit_i, fit_z0, fit_z1, nz_0, nz_1, ni_K_s, ni_K_n, Nat.ble_eq, Nat.zero_le, Nat.zero_add, true_and, and_true, and_self, Bool.and_true, Bool.true_and, Bool.and_self, not_true_eq_false, not_false_eq_true, Int32.reduceLE, Int32.reduceLT, Int32.reduceAdd, Int32.reduceSub, Int32.reduceToNatClampNeg, Nat.reduceLeDiff, Nat.reduceAdd, Nat.reduceEqDiff, Nat.reduceSub, List.set_cons_zero, List.set_cons_succ, false_and, and_false]
theorem L_25 (hI : fs_Inv J h) (hJ : J ≤ 900000) (hz : 50 ≤ z.1) (hs : h 1000 = .inl (10, N, .inl f)) (hi : i + 5 < N) (hN : N ≤ 3072) : fs_L J i z 1036 h := by
  obtain ⟨r, h1, h2, e1, e2, hv, fr, I2⟩ := C_alike (J := J) (z := z) (h := h)  hI
  obtain ⟨x, rfl⟩ := vk_lng hv (by decide)
  have r0 : ni_rc (h 0) 6 = true := by
    obtain ⟨-, n, w, im, lf, u, v, mu, ran, tr, rf, hl, hd, so, szf, sh, kp, g, sz, ee, ce, X, M, P⟩ := hI
    rw [X.1]; exact rc_o
  have r9 : ni_rc (h 49) 7 = true := by
    obtain ⟨-, n, w, im, lf, u, v, mu, ran, tr, rf, hl, hd, so, szf, sh, kp, g, sz, ee, ce, X, M, P⟩ := hI
    rw [M.1.1]; exact mrc
  have r1 : ni_rc (h1 49) 7 = true := (C_kc e1 49 (Or.inl (by omega))).2 7 r9
  have s1 : h1 1000 = .inl (10, N, .inl f) := ((C_kc e1 1000 (Or.inr (by omega))).1 (by rw [hs]; rfl)).trans hs
  refine ⟨h2, I2, fr, fun d Q => ?_⟩
  simp +decide only [s199_1036, s199_1036N, s199_1037, s199_1040, s199_1040N, s199_1041, s199_1044, s199_1045, s199_1048, s199_1049, hs, s1, r0, r1, e1, e2, eq_self, cmp_self, ↓reduceIte, kl_i, kl_r, kl_n, kl_a, kl_l, up_s, up_up, is_0, is_s, gv_0, gv_s, pv_o, rc_o, okI_i, okI_x, okS_i, okB_x, gi_i, pi_i, okL_l, gl_l, pl_l, okA_2, okA_3, ga_a, arr_0, arr_1, arr_10, arr_11, len_a, sw_0, sw_i, sw_r, sw_l, fit_i, fit_z0, fit_z1, nz_0, nz_1, ni_K_s, ni_K_n, Nat.ble_eq, Nat.zero_le, Nat.zero_add, true_and, and_true, and_self, Bool.and_true, Bool.true_and, Bool.and_self, not_true_eq_false, not_false_eq_true, Int32.reduceLE, Int32.reduceLT, Int32.reduceAdd, Int32.reduceSub, Int32.reduceToNatClampNeg, Nat.reduceLeDiff, Nat.reduceAdd, Nat.reduceEqDiff, Nat.reduceSub, List.set_cons_zero, List.set_cons_succ, false_and, and_false]
theorem L_26 (hI : fs_Inv J h) (hJ : J ≤ 900000) (hz : 50 ≤ z.1) (hs : h 1000 = .inl (10, N, .inl f)) (hi : i + 5 < N) (hN : N ≤ 3072) : fs_L J i z 1050 h := by
  obtain ⟨r, h1, h2, e1, e2, hv, fr, I2⟩ := C_lying (J := J) (z := z) (h := h) (f (i + 1)) hI
  obtain ⟨x, rfl⟩ := vk_int hv (by decide) (by decide)
  have r0 : ni_rc (h 0) 6 = true := by
    obtain ⟨-, n, w, im, lf, u, v, mu, ran, tr, rf, hl, hd, so, szf, sh, kp, g, sz, ee, ce, X, M, P⟩ := hI
    rw [X.1]; exact rc_o
  have r9 : ni_rc (h 49) 7 = true := by
    obtain ⟨-, n, w, im, lf, u, v, mu, ran, tr, rf, hl, hd, so, szf, sh, kp, g, sz, ee, ce, X, M, P⟩ := hI
    rw [M.1.1]; exact mrc
  have r1 : ni_rc (h1 49) 7 = true := (C_kc e1 49 (Or.inl (by omega))).2 7 r9
  have s1 : h1 1000 = .inl (10, N, .inl f) := ((C_kc e1 1000 (Or.inr (by omega))).1 (by rw [hs]; rfl)).trans hs
  have a1 : nI i + 1 = nI (i + 1) := nI_add i 1
  have b1 : ni_in (nI (i + 1)) N = true := in_n (by omega) (by omega)
  have c1 : (nI (i + 1)).toNatClampNeg = i + 1 := nI_clamp (by omega)
  refine ⟨h2, I2, fr, fun d Q => ?_⟩
  simp +decide only [s199_1050, s199_1050N, s199_1051, s199_1052, s199_1053, s199_1054, s199_1055, s199_1056, s199_1059, s199_1059N, s199_1060, s199_1061, s199_1062, s199_1063, s199_1064, s199_1065, s199_1068, s199_1071, s199_1072, hs, s1, r0, r1, e1, e2, eq_self, cmp_self, a1, b1, c1, ↓reduceIte, kl_i, kl_r, kl_n, kl_a, kl_l, up_s, up_up, is_0, is_s, gv_0, gv_s, pv_o, rc_o, okI_i, okI_x, okS_i, okB_x, gi_i, pi_i, okL_l, gl_l, pl_l, okA_2, okA_3, ga_a, arr_0, arr_1, arr_10, arr_11, len_a, sw_0, sw_i, sw_r, sw_l, fit_i, fit_z0, fit_z1, nz_0, nz_1, ni_K_s, ni_K_n, Nat.ble_eq, Nat.zero_le, Nat.zero_add, true_and, and_true, and_self, Bool.and_true, Bool.true_and, Bool.and_self, not_true_eq_false, not_false_eq_true, Int32.reduceLE, Int32.reduceLT, Int32.reduceAdd, Int32.reduceSub, Int32.reduceToNatClampNeg, Nat.reduceLeDiff, Nat.reduceAdd, Nat.reduceEqDiff, Nat.reduceSub, List.set_cons_zero, List.set_cons_succ, false_and, and_false]
theorem L_27 (hI : fs_Inv J h) (hJ : J ≤ 900000) (hz : 50 ≤ z.1) (hs : h 1000 = .inl (10, N, .inl f)) (hi : i + 5 < N) (hN : N ≤ 3072) : fs_L J i z 1073 h := by
  obtain ⟨r, h1, h2, e1, e2, hv, fr, I2⟩ := C_judge (J := J) (z := z) (h := h) (f (i + 1)) (f (i + 2)) (f (i + 3)) hJ hI
  obtain ⟨x, rfl⟩ := vk_int hv (by decide) (by decide)
  have r0 : ni_rc (h 0) 6 = true := by
    obtain ⟨-, n, w, im, lf, u, v, mu, ran, tr, rf, hl, hd, so, szf, sh, kp, g, sz, ee, ce, X, M, P⟩ := hI
    rw [X.1]; exact rc_o
  have r9 : ni_rc (h 49) 7 = true := by
    obtain ⟨-, n, w, im, lf, u, v, mu, ran, tr, rf, hl, hd, so, szf, sh, kp, g, sz, ee, ce, X, M, P⟩ := hI
    rw [M.1.1]; exact mrc
  have r1 : ni_rc (h1 49) 7 = true := (C_kc e1 49 (Or.inl (by omega))).2 7 r9
  have s1 : h1 1000 = .inl (10, N, .inl f) := ((C_kc e1 1000 (Or.inr (by omega))).1 (by rw [hs]; rfl)).trans hs
  have a1 : nI i + 1 = nI (i + 1) := nI_add i 1
  have b1 : ni_in (nI (i + 1)) N = true := in_n (by omega) (by omega)
  have c1 : (nI (i + 1)).toNatClampNeg = i + 1 := nI_clamp (by omega)
  have a2 : nI i + 2 = nI (i + 2) := nI_add i 2
  have b2 : ni_in (nI (i + 2)) N = true := in_n (by omega) (by omega)
  have c2 : (nI (i + 2)).toNatClampNeg = i + 2 := nI_clamp (by omega)
  have a3 : nI i + 3 = nI (i + 3) := nI_add i 3
  have b3 : ni_in (nI (i + 3)) N = true := in_n (by omega) (by omega)
  have c3 : (nI (i + 3)).toNatClampNeg = i + 3 := nI_clamp (by omega)
  refine ⟨h2, I2, fr, fun d Q => ?_⟩
  simp +decide only [s199_1073, s199_1073N, s199_1074, s199_1075, s199_1076, s199_1077, s199_1078, s199_1079, s199_1080, s199_1081, s199_1082, s199_1083, s199_1084, s199_1085, s199_1086, s199_1087, s199_1088, s199_1089, s199_1092, s199_1092N, s199_1093, s199_1094, s199_1095, s199_1096, s199_1097, s199_1098, s199_1099, s199_1100, s199_1101, s199_1102, s199_1103, s199_1104, s199_1105, s199_1106, s199_1107, s199_1108, s199_1111, s199_1114, s199_1115, hs, s1, r0, r1, e1, e2, eq_self, cmp_self, a1, b1, c1, a2, b2, c2, a3, b3, c3, ↓reduceIte, kl_i, kl_r, kl_n, kl_a, kl_l, up_s, up_up, is_0, is_s, gv_0, gv_s, pv_o, rc_o, okI_i, okI_x, okS_i, okB_x, gi_i, pi_i, okL_l, gl_l, pl_l, okA_2, okA_3, ga_a, arr_0, arr_1, arr_10, arr_11, len_a, sw_0, sw_i, sw_r, sw_l, fit_i, fit_z0, fit_z1, nz_0, nz_1, ni_K_s, ni_K_n, Nat.ble_eq, Nat.zero_le, Nat.zero_add, true_and, and_true, and_self, Bool.and_true, Bool.true_and, Bool.and_self, not_true_eq_false, not_false_eq_true, Int32.reduceLE, Int32.reduceLT, Int32.reduceAdd, Int32.reduceSub, Int32.reduceToNatClampNeg, Nat.reduceLeDiff, Nat.reduceAdd, Nat.reduceEqDiff, Nat.reduceSub, List.set_cons_zero, List.set_cons_succ, false_and, and_false]
theorem L_28 (hI : fs_Inv J h) (hJ : J ≤ 900000) (hz : 50 ≤ z.1) (hs : h 1000 = .inl (10, N, .inl f)) (hi : i + 5 < N) (hN : N ≤ 3072) : fs_L J i z 1116 h := by
  obtain ⟨r, h1, h2, e1, e2, hv, fr, I2⟩ := C_told (J := J) (z := z) (h := h) (f (i + 1)) (f (i + 2)) (f (i + 3)) hJ hI
  obtain ⟨x, rfl⟩ := vk_int hv (by decide) (by decide)
  have r0 : ni_rc (h 0) 6 = true := by
    obtain ⟨-, n, w, im, lf, u, v, mu, ran, tr, rf, hl, hd, so, szf, sh, kp, g, sz, ee, ce, X, M, P⟩ := hI
    rw [X.1]; exact rc_o
  have r9 : ni_rc (h 49) 7 = true := by
    obtain ⟨-, n, w, im, lf, u, v, mu, ran, tr, rf, hl, hd, so, szf, sh, kp, g, sz, ee, ce, X, M, P⟩ := hI
    rw [M.1.1]; exact mrc
  have r1 : ni_rc (h1 49) 7 = true := (C_kc e1 49 (Or.inl (by omega))).2 7 r9
  have s1 : h1 1000 = .inl (10, N, .inl f) := ((C_kc e1 1000 (Or.inr (by omega))).1 (by rw [hs]; rfl)).trans hs
  have a1 : nI i + 1 = nI (i + 1) := nI_add i 1
  have b1 : ni_in (nI (i + 1)) N = true := in_n (by omega) (by omega)
  have c1 : (nI (i + 1)).toNatClampNeg = i + 1 := nI_clamp (by omega)
  have a2 : nI i + 2 = nI (i + 2) := nI_add i 2
  have b2 : ni_in (nI (i + 2)) N = true := in_n (by omega) (by omega)
  have c2 : (nI (i + 2)).toNatClampNeg = i + 2 := nI_clamp (by omega)
  have a3 : nI i + 3 = nI (i + 3) := nI_add i 3
  have b3 : ni_in (nI (i + 3)) N = true := in_n (by omega) (by omega)
  have c3 : (nI (i + 3)).toNatClampNeg = i + 3 := nI_clamp (by omega)
  refine ⟨h2, I2, fr, fun d Q => ?_⟩
  simp +decide only [s199_1116, s199_1116N, s199_1117, s199_1118, s199_1119, s199_1120, s199_1121, s199_1122, s199_1123, s199_1124, s199_1125, s199_1126, s199_1127, s199_1128, s199_1129, s199_1130, s199_1131, s199_1132, s199_1135, s199_1135N, s199_1136, s199_1137, s199_1138, s199_1139, s199_1140, s199_1141, s199_1142, s199_1143, s199_1144, s199_1145, s199_1146, s199_1147, s199_1148, s199_1149, s199_1150, s199_1151, s199_1154, s199_1157, s199_1158, hs, s1, r0, r1, e1, e2, eq_self, cmp_self, a1, b1, c1, a2, b2, c2, a3, b3, c3, ↓reduceIte, kl_i, kl_r, kl_n, kl_a, kl_l, up_s, up_up, is_0, is_s, gv_0, gv_s, pv_o, rc_o, okI_i, okI_x, okS_i, okB_x, gi_i, pi_i, okL_l, gl_l, pl_l, okA_2, okA_3, ga_a, arr_0, arr_1, arr_10, arr_11, len_a, sw_0, sw_i, sw_r, sw_l, fit_i, fit_z0, fit_z1, nz_0, nz_1, ni_K_s, ni_K_n, Nat.ble_eq, Nat.zero_le, Nat.zero_add, true_and, and_true, and_self, Bool.and_true, Bool.true_and, Bool.and_self, not_true_eq_false, not_false_eq_true, Int32.reduceLE, Int32.reduceLT, Int32.reduceAdd, Int32.reduceSub, Int32.reduceToNatClampNeg, Nat.reduceLeDiff, Nat.reduceAdd, Nat.reduceEqDiff, Nat.reduceSub, List.set_cons_zero, List.set_cons_succ, false_and, and_false]
theorem L_29 (hI : fs_Inv J h) (hJ : J ≤ 900000) (hz : 50 ≤ z.1) (hs : h 1000 = .inl (10, N, .inl f)) (hi : i + 5 < N) (hN : N ≤ 3072) : fs_L J i z 1159 h := by
  obtain ⟨r, h1, h2, e1, e2, hv, fr, I2⟩ := C_toss (J := J) (z := z) (h := h) (f (i + 1)) (f (i + 2)) hI
  obtain ⟨x, rfl⟩ := vk_int hv (by decide) (by decide)
  have r0 : ni_rc (h 0) 6 = true := by
    obtain ⟨-, n, w, im, lf, u, v, mu, ran, tr, rf, hl, hd, so, szf, sh, kp, g, sz, ee, ce, X, M, P⟩ := hI
    rw [X.1]; exact rc_o
  have r9 : ni_rc (h 49) 7 = true := by
    obtain ⟨-, n, w, im, lf, u, v, mu, ran, tr, rf, hl, hd, so, szf, sh, kp, g, sz, ee, ce, X, M, P⟩ := hI
    rw [M.1.1]; exact mrc
  have r1 : ni_rc (h1 49) 7 = true := (C_kc e1 49 (Or.inl (by omega))).2 7 r9
  have s1 : h1 1000 = .inl (10, N, .inl f) := ((C_kc e1 1000 (Or.inr (by omega))).1 (by rw [hs]; rfl)).trans hs
  have a1 : nI i + 1 = nI (i + 1) := nI_add i 1
  have b1 : ni_in (nI (i + 1)) N = true := in_n (by omega) (by omega)
  have c1 : (nI (i + 1)).toNatClampNeg = i + 1 := nI_clamp (by omega)
  have a2 : nI i + 2 = nI (i + 2) := nI_add i 2
  have b2 : ni_in (nI (i + 2)) N = true := in_n (by omega) (by omega)
  have c2 : (nI (i + 2)).toNatClampNeg = i + 2 := nI_clamp (by omega)
  refine ⟨h2, I2, fr, fun d Q => ?_⟩
  simp +decide only [s199_1159, s199_1159N, s199_1160, s199_1161, s199_1162, s199_1163, s199_1164, s199_1165, s199_1166, s199_1167, s199_1168, s199_1169, s199_1170, s199_1173, s199_1173N, s199_1174, s199_1175, s199_1176, s199_1177, s199_1178, s199_1179, s199_1180, s199_1181, s199_1182, s199_1183, s199_1184, s199_1187, s199_1190, s199_1191, hs, s1, r0, r1, e1, e2, eq_self, cmp_self, a1, b1, c1, a2, b2, c2, ↓reduceIte, kl_i, kl_r, kl_n, kl_a, kl_l, up_s, up_up, is_0, is_s, gv_0, gv_s, pv_o, rc_o, okI_i, okI_x, okS_i, okB_x, gi_i, pi_i, okL_l, gl_l, pl_l, okA_2, okA_3, ga_a, arr_0, arr_1, arr_10, arr_11, len_a, sw_0, sw_i, sw_r, sw_l, fit_i, fit_z0, fit_z1, nz_0, nz_1, ni_K_s, ni_K_n, Nat.ble_eq, Nat.zero_le, Nat.zero_add, true_and, and_true, and_self, Bool.and_true, Bool.true_and, Bool.and_self, not_true_eq_false, not_false_eq_true, Int32.reduceLE, Int32.reduceLT, Int32.reduceAdd, Int32.reduceSub, Int32.reduceToNatClampNeg, Nat.reduceLeDiff, Nat.reduceAdd, Nat.reduceEqDiff, Nat.reduceSub, List.set_cons_zero, List.set_cons_succ, false_and, and_false]
theorem L_30 (hI : fs_Inv J h) (hJ : J ≤ 900000) (hz : 50 ≤ z.1) (hs : h 1000 = .inl (10, N, .inl f)) (hi : i + 5 < N) (hN : N ≤ 3072) : fs_L J i z 1192 h := by
  obtain ⟨r, h1, h2, e1, e2, hv, fr, I2⟩ := C_throwDown (J := J) (z := z) (h := h) (f (i + 1)) hI
  obtain ⟨x, rfl⟩ := vk_int hv (by decide) (by decide)
  have r0 : ni_rc (h 0) 6 = true := by
    obtain ⟨-, n, w, im, lf, u, v, mu, ran, tr, rf, hl, hd, so, szf, sh, kp, g, sz, ee, ce, X, M, P⟩ := hI
    rw [X.1]; exact rc_o
  have r9 : ni_rc (h 49) 7 = true := by
    obtain ⟨-, n, w, im, lf, u, v, mu, ran, tr, rf, hl, hd, so, szf, sh, kp, g, sz, ee, ce, X, M, P⟩ := hI
    rw [M.1.1]; exact mrc
  have r1 : ni_rc (h1 49) 7 = true := (C_kc e1 49 (Or.inl (by omega))).2 7 r9
  have s1 : h1 1000 = .inl (10, N, .inl f) := ((C_kc e1 1000 (Or.inr (by omega))).1 (by rw [hs]; rfl)).trans hs
  have a1 : nI i + 1 = nI (i + 1) := nI_add i 1
  have b1 : ni_in (nI (i + 1)) N = true := in_n (by omega) (by omega)
  have c1 : (nI (i + 1)).toNatClampNeg = i + 1 := nI_clamp (by omega)
  refine ⟨h2, I2, fr, fun d Q => ?_⟩
  simp +decide only [s199_1192, s199_1192N, s199_1193, s199_1194, s199_1195, s199_1196, s199_1197, s199_1198, s199_1201, s199_1201N, s199_1202, s199_1203, s199_1204, s199_1205, s199_1206, s199_1207, s199_1210, s199_1213, s199_1214, hs, s1, r0, r1, e1, e2, eq_self, cmp_self, a1, b1, c1, ↓reduceIte, kl_i, kl_r, kl_n, kl_a, kl_l, up_s, up_up, is_0, is_s, gv_0, gv_s, pv_o, rc_o, okI_i, okI_x, okS_i, okB_x, gi_i, pi_i, okL_l, gl_l, pl_l, okA_2, okA_3, ga_a, arr_0, arr_1, arr_10, arr_11, len_a, sw_0, sw_i, sw_r, sw_l, fit_i, fit_z0, fit_z1, nz_0, nz_1, ni_K_s, ni_K_n, Nat.ble_eq, Nat.zero_le, Nat.zero_add, true_and, and_true, and_self, Bool.and_true, Bool.true_and, Bool.and_self, not_true_eq_false, not_false_eq_true, Int32.reduceLE, Int32.reduceLT, Int32.reduceAdd, Int32.reduceSub, Int32.reduceToNatClampNeg, Nat.reduceLeDiff, Nat.reduceAdd, Nat.reduceEqDiff, Nat.reduceSub, List.set_cons_zero, List.set_cons_succ, false_and, and_false]
theorem L_31 (hI : fs_Inv J h) (hJ : J ≤ 900000) (hz : 50 ≤ z.1) (hs : h 1000 = .inl (10, N, .inl f)) (hi : i + 5 < N) (hN : N ≤ 3072) : fs_L J i z 1215 h := by
  obtain ⟨r, h1, h2, e1, e2, hv, fr, I2⟩ := C_plays (J := J) (z := z) (h := h) (f (i + 1)) hJ hI
  obtain ⟨x, rfl⟩ := vk_int hv (by decide) (by decide)
  have r0 : ni_rc (h 0) 6 = true := by
    obtain ⟨-, n, w, im, lf, u, v, mu, ran, tr, rf, hl, hd, so, szf, sh, kp, g, sz, ee, ce, X, M, P⟩ := hI
    rw [X.1]; exact rc_o
  have r9 : ni_rc (h 49) 7 = true := by
    obtain ⟨-, n, w, im, lf, u, v, mu, ran, tr, rf, hl, hd, so, szf, sh, kp, g, sz, ee, ce, X, M, P⟩ := hI
    rw [M.1.1]; exact mrc
  have r1 : ni_rc (h1 49) 7 = true := (C_kc e1 49 (Or.inl (by omega))).2 7 r9
  have s1 : h1 1000 = .inl (10, N, .inl f) := ((C_kc e1 1000 (Or.inr (by omega))).1 (by rw [hs]; rfl)).trans hs
  have a1 : nI i + 1 = nI (i + 1) := nI_add i 1
  have b1 : ni_in (nI (i + 1)) N = true := in_n (by omega) (by omega)
  have c1 : (nI (i + 1)).toNatClampNeg = i + 1 := nI_clamp (by omega)
  refine ⟨h2, I2, fr, fun d Q => ?_⟩
  simp +decide only [s199_1215, s199_1215N, s199_1216, s199_1217, s199_1218, s199_1219, s199_1220, s199_1221, s199_1224, s199_1224N, s199_1225, s199_1226, s199_1227, s199_1228, s199_1229, s199_1230, s199_1233, s199_1236, s199_1237, hs, s1, r0, r1, e1, e2, eq_self, cmp_self, a1, b1, c1, ↓reduceIte, kl_i, kl_r, kl_n, kl_a, kl_l, up_s, up_up, is_0, is_s, gv_0, gv_s, pv_o, rc_o, okI_i, okI_x, okS_i, okB_x, gi_i, pi_i, okL_l, gl_l, pl_l, okA_2, okA_3, ga_a, arr_0, arr_1, arr_10, arr_11, len_a, sw_0, sw_i, sw_r, sw_l, fit_i, fit_z0, fit_z1, nz_0, nz_1, ni_K_s, ni_K_n, Nat.ble_eq, Nat.zero_le, Nat.zero_add, true_and, and_true, and_self, Bool.and_true, Bool.true_and, Bool.and_self, not_true_eq_false, not_false_eq_true, Int32.reduceLE, Int32.reduceLT, Int32.reduceAdd, Int32.reduceSub, Int32.reduceToNatClampNeg, Nat.reduceLeDiff, Nat.reduceAdd, Nat.reduceEqDiff, Nat.reduceSub, List.set_cons_zero, List.set_cons_succ, false_and, and_false]
theorem L_32 (hI : fs_Inv J h) (hJ : J ≤ 900000) (hz : 50 ≤ z.1) (hs : h 1000 = .inl (10, N, .inl f)) (hi : i + 5 < N) (hN : N ≤ 3072) : fs_L J i z 1238 h := by
  obtain ⟨r, h1, h2, e1, e2, hv, fr, I2⟩ := C_seed (J := J) (z := z) (h := h) (f (i + 1)) hI
  obtain ⟨x, rfl⟩ := vk_int hv (by decide) (by decide)
  have r0 : ni_rc (h 0) 6 = true := by
    obtain ⟨-, n, w, im, lf, u, v, mu, ran, tr, rf, hl, hd, so, szf, sh, kp, g, sz, ee, ce, X, M, P⟩ := hI
    rw [X.1]; exact rc_o
  have r9 : ni_rc (h 49) 7 = true := by
    obtain ⟨-, n, w, im, lf, u, v, mu, ran, tr, rf, hl, hd, so, szf, sh, kp, g, sz, ee, ce, X, M, P⟩ := hI
    rw [M.1.1]; exact mrc
  have r1 : ni_rc (h1 49) 7 = true := (C_kc e1 49 (Or.inl (by omega))).2 7 r9
  have s1 : h1 1000 = .inl (10, N, .inl f) := ((C_kc e1 1000 (Or.inr (by omega))).1 (by rw [hs]; rfl)).trans hs
  have a1 : nI i + 1 = nI (i + 1) := nI_add i 1
  have b1 : ni_in (nI (i + 1)) N = true := in_n (by omega) (by omega)
  have c1 : (nI (i + 1)).toNatClampNeg = i + 1 := nI_clamp (by omega)
  refine ⟨h2, I2, fr, fun d Q => ?_⟩
  simp +decide only [s199_1238, s199_1238N, s199_1239, s199_1240, s199_1241, s199_1242, s199_1243, s199_1244, s199_1247, s199_1247N, s199_1248, s199_1249, s199_1250, s199_1251, s199_1252, s199_1253, s199_1256, s199_1259, s199_1260, hs, s1, r0, r1, e1, e2, eq_self, cmp_self, a1, b1, c1, ↓reduceIte, kl_i, kl_r, kl_n, kl_a, kl_l, up_s, up_up, is_0, is_s, gv_0, gv_s, pv_o, rc_o, okI_i, okI_x, okS_i, okB_x, gi_i, pi_i, okL_l, gl_l, pl_l, okA_2, okA_3, ga_a, arr_0, arr_1, arr_10, arr_11, len_a, sw_0, sw_i, sw_r, sw_l, fit_i, fit_z0, fit_z1, nz_0, nz_1, ni_K_s, ni_K_n, Nat.ble_eq, Nat.zero_le, Nat.zero_add, true_and, and_true, and_self, Bool.and_true, Bool.true_and, Bool.and_self, not_true_eq_false, not_false_eq_true, Int32.reduceLE, Int32.reduceLT, Int32.reduceAdd, Int32.reduceSub, Int32.reduceToNatClampNeg, Nat.reduceLeDiff, Nat.reduceAdd, Nat.reduceEqDiff, Nat.reduceSub, List.set_cons_zero, List.set_cons_succ, false_and, and_false]
theorem L_33 (hI : fs_Inv J h) (hJ : J ≤ 900000) (hz : 50 ≤ z.1) (hs : h 1000 = .inl (10, N, .inl f)) (hi : i + 5 < N) (hN : N ≤ 3072) : fs_L J i z 1261 h := by
  obtain ⟨r, h1, h2, e1, e2, hv, fr, I2⟩ := C_act (J := J) (z := z) (h := h) (f (i + 1)) (f (i + 2)) (f (i + 3)) hI
  obtain ⟨x, rfl⟩ := vk_int hv (by decide) (by decide)
  have r0 : ni_rc (h 0) 6 = true := by
    obtain ⟨-, n, w, im, lf, u, v, mu, ran, tr, rf, hl, hd, so, szf, sh, kp, g, sz, ee, ce, X, M, P⟩ := hI
    rw [X.1]; exact rc_o
  have r9 : ni_rc (h 49) 7 = true := by
    obtain ⟨-, n, w, im, lf, u, v, mu, ran, tr, rf, hl, hd, so, szf, sh, kp, g, sz, ee, ce, X, M, P⟩ := hI
    rw [M.1.1]; exact mrc
  have r1 : ni_rc (h1 49) 7 = true := (C_kc e1 49 (Or.inl (by omega))).2 7 r9
  have s1 : h1 1000 = .inl (10, N, .inl f) := ((C_kc e1 1000 (Or.inr (by omega))).1 (by rw [hs]; rfl)).trans hs
  have a1 : nI i + 1 = nI (i + 1) := nI_add i 1
  have b1 : ni_in (nI (i + 1)) N = true := in_n (by omega) (by omega)
  have c1 : (nI (i + 1)).toNatClampNeg = i + 1 := nI_clamp (by omega)
  have a2 : nI i + 2 = nI (i + 2) := nI_add i 2
  have b2 : ni_in (nI (i + 2)) N = true := in_n (by omega) (by omega)
  have c2 : (nI (i + 2)).toNatClampNeg = i + 2 := nI_clamp (by omega)
  have a3 : nI i + 3 = nI (i + 3) := nI_add i 3
  have b3 : ni_in (nI (i + 3)) N = true := in_n (by omega) (by omega)
  have c3 : (nI (i + 3)).toNatClampNeg = i + 3 := nI_clamp (by omega)
  refine ⟨h2, I2, fr, fun d Q => ?_⟩
  simp +decide only [s199_1261, s199_1261N, s199_1262, s199_1263, s199_1264, s199_1265, s199_1266, s199_1267, s199_1268, s199_1269, s199_1270, s199_1271, s199_1272, s199_1273, s199_1274, s199_1275, s199_1276, s199_1277, s199_1280, s199_1280N, s199_1281, s199_1282, s199_1283, s199_1284, s199_1285, s199_1286, s199_1287, s199_1288, s199_1289, s199_1290, s199_1291, s199_1292, s199_1293, s199_1294, s199_1295, s199_1296, s199_1299, s199_1302, s199_1303, hs, s1, r0, r1, e1, e2, eq_self, cmp_self, a1, b1, c1, a2, b2, c2, a3, b3, c3, ↓reduceIte, kl_i, kl_r, kl_n, kl_a, kl_l, up_s, up_up, is_0, is_s, gv_0, gv_s, pv_o, rc_o, okI_i, okI_x, okS_i, okB_x, gi_i, pi_i, okL_l, gl_l, pl_l, okA_2, okA_3, ga_a, arr_0, arr_1, arr_10, arr_11, len_a, sw_0, sw_i, sw_r, sw_l, fit_i, fit_z0, fit_z1, nz_0, nz_1, ni_K_s, ni_K_n, Nat.ble_eq, Nat.zero_le, Nat.zero_add, true_and, and_true, and_self, Bool.and_true, Bool.true_and, Bool.and_self, not_true_eq_false, not_false_eq_true, Int32.reduceLE, Int32.reduceLT, Int32.reduceAdd, Int32.reduceSub, Int32.reduceToNatClampNeg, Nat.reduceLeDiff, Nat.reduceAdd, Nat.reduceEqDiff, Nat.reduceSub, List.set_cons_zero, List.set_cons_succ, false_and, and_false]
theorem L_34 (hI : fs_Inv J h) (hJ : J ≤ 900000) (hz : 50 ≤ z.1) (hs : h 1000 = .inl (10, N, .inl f)) (hi : i + 5 < N) (hN : N ≤ 3072) : fs_L J i z 1304 h := by
  obtain ⟨r, h1, h2, e1, e2, hv, fr, I2⟩ := C_trace (J := J) (z := z) (h := h) (f (i + 1)) hI
  obtain ⟨x, rfl⟩ := vk_int hv (by decide) (by decide)
  have r0 : ni_rc (h 0) 6 = true := by
    obtain ⟨-, n, w, im, lf, u, v, mu, ran, tr, rf, hl, hd, so, szf, sh, kp, g, sz, ee, ce, X, M, P⟩ := hI
    rw [X.1]; exact rc_o
  have r9 : ni_rc (h 49) 7 = true := by
    obtain ⟨-, n, w, im, lf, u, v, mu, ran, tr, rf, hl, hd, so, szf, sh, kp, g, sz, ee, ce, X, M, P⟩ := hI
    rw [M.1.1]; exact mrc
  have r1 : ni_rc (h1 49) 7 = true := (C_kc e1 49 (Or.inl (by omega))).2 7 r9
  have s1 : h1 1000 = .inl (10, N, .inl f) := ((C_kc e1 1000 (Or.inr (by omega))).1 (by rw [hs]; rfl)).trans hs
  have a1 : nI i + 1 = nI (i + 1) := nI_add i 1
  have b1 : ni_in (nI (i + 1)) N = true := in_n (by omega) (by omega)
  have c1 : (nI (i + 1)).toNatClampNeg = i + 1 := nI_clamp (by omega)
  refine ⟨h2, I2, fr, fun d Q => ?_⟩
  simp +decide only [s199_1304, s199_1304N, s199_1305, s199_1306, s199_1307, s199_1308, s199_1309, s199_1310, s199_1313, s199_1313N, s199_1314, s199_1315, s199_1316, s199_1317, s199_1318, s199_1319, s199_1322, s199_1325, s199_1326, hs, s1, r0, r1, e1, e2, eq_self, cmp_self, a1, b1, c1, ↓reduceIte, kl_i, kl_r, kl_n, kl_a, kl_l, up_s, up_up, is_0, is_s, gv_0, gv_s, pv_o, rc_o, okI_i, okI_x, okS_i, okB_x, gi_i, pi_i, okL_l, gl_l, pl_l, okA_2, okA_3, ga_a, arr_0, arr_1, arr_10, arr_11, len_a, sw_0, sw_i, sw_r, sw_l, fit_i, fit_z0, fit_z1, nz_0, nz_1, ni_K_s, ni_K_n, Nat.ble_eq, Nat.zero_le, Nat.zero_add, true_and, and_true, and_self, Bool.and_true, Bool.true_and, Bool.and_self, not_true_eq_false, not_false_eq_true, Int32.reduceLE, Int32.reduceLT, Int32.reduceAdd, Int32.reduceSub, Int32.reduceToNatClampNeg, Nat.reduceLeDiff, Nat.reduceAdd, Nat.reduceEqDiff, Nat.reduceSub, List.set_cons_zero, List.set_cons_succ, false_and, and_false]
theorem L_35 (hI : fs_Inv J h) (hJ : J ≤ 900000) (hz : 50 ≤ z.1) (hs : h 1000 = .inl (10, N, .inl f)) (hi : i + 5 < N) (hN : N ≤ 3072) : fs_L J i z 1327 h := by
  obtain ⟨r, h1, h2, e1, e2, hv, fr, I2⟩ := C_image (J := J) (z := z) (h := h)  hI
  obtain ⟨x, rfl⟩ := vk_int hv (by decide) (by decide)
  have r0 : ni_rc (h 0) 6 = true := by
    obtain ⟨-, n, w, im, lf, u, v, mu, ran, tr, rf, hl, hd, so, szf, sh, kp, g, sz, ee, ce, X, M, P⟩ := hI
    rw [X.1]; exact rc_o
  have r9 : ni_rc (h 49) 7 = true := by
    obtain ⟨-, n, w, im, lf, u, v, mu, ran, tr, rf, hl, hd, so, szf, sh, kp, g, sz, ee, ce, X, M, P⟩ := hI
    rw [M.1.1]; exact mrc
  have r1 : ni_rc (h1 49) 7 = true := (C_kc e1 49 (Or.inl (by omega))).2 7 r9
  have s1 : h1 1000 = .inl (10, N, .inl f) := ((C_kc e1 1000 (Or.inr (by omega))).1 (by rw [hs]; rfl)).trans hs
  refine ⟨h2, I2, fr, fun d Q => ?_⟩
  simp +decide only [s199_1327, s199_1327N, s199_1328, s199_1331, s199_1331N, s199_1332, s199_1335, s199_1338, s199_1339, hs, s1, r0, r1, e1, e2, eq_self, cmp_self, ↓reduceIte, kl_i, kl_r, kl_n, kl_a, kl_l, up_s, up_up, is_0, is_s, gv_0, gv_s, pv_o, rc_o, okI_i, okI_x, okS_i, okB_x, gi_i, pi_i, okL_l, gl_l, pl_l, okA_2, okA_3, ga_a, arr_0, arr_1, arr_10, arr_11, len_a, sw_0, sw_i, sw_r, sw_l, fit_i, fit_z0, fit_z1, nz_0, nz_1, ni_K_s, ni_K_n, Nat.ble_eq, Nat.zero_le, Nat.zero_add, true_and, and_true, and_self, Bool.and_true, Bool.true_and, Bool.and_self, not_true_eq_false, not_false_eq_true, Int32.reduceLE, Int32.reduceLT, Int32.reduceAdd, Int32.reduceSub, Int32.reduceToNatClampNeg, Nat.reduceLeDiff, Nat.reduceAdd, Nat.reduceEqDiff, Nat.reduceSub, List.set_cons_zero, List.set_cons_succ, false_and, and_false]
theorem L_36 (hI : fs_Inv J h) (hJ : J ≤ 900000) (hz : 50 ≤ z.1) (hs : h 1000 = .inl (10, N, .inl f)) (hi : i + 5 < N) (hN : N ≤ 3072) : fs_L J i z 1340 h := by
  obtain ⟨r, h1, h2, e1, e2, hv, fr, I2⟩ := C_restore (J := J) (z := z) (h := h)  hI
  obtain ⟨x, rfl⟩ := vk_int hv (by decide) (by decide)
  have r0 : ni_rc (h 0) 6 = true := by
    obtain ⟨-, n, w, im, lf, u, v, mu, ran, tr, rf, hl, hd, so, szf, sh, kp, g, sz, ee, ce, X, M, P⟩ := hI
    rw [X.1]; exact rc_o
  have r9 : ni_rc (h 49) 7 = true := by
    obtain ⟨-, n, w, im, lf, u, v, mu, ran, tr, rf, hl, hd, so, szf, sh, kp, g, sz, ee, ce, X, M, P⟩ := hI
    rw [M.1.1]; exact mrc
  have r1 : ni_rc (h1 49) 7 = true := (C_kc e1 49 (Or.inl (by omega))).2 7 r9
  have s1 : h1 1000 = .inl (10, N, .inl f) := ((C_kc e1 1000 (Or.inr (by omega))).1 (by rw [hs]; rfl)).trans hs
  refine ⟨h2, I2, fr, fun d Q => ?_⟩
  simp +decide only [s199_1340, s199_1340N, s199_1341, s199_1344, s199_1344N, s199_1345, s199_1348, s199_1351, s199_1352, hs, s1, r0, r1, e1, e2, eq_self, cmp_self, ↓reduceIte, kl_i, kl_r, kl_n, kl_a, kl_l, up_s, up_up, is_0, is_s, gv_0, gv_s, pv_o, rc_o, okI_i, okI_x, okS_i, okB_x, gi_i, pi_i, okL_l, gl_l, pl_l, okA_2, okA_3, ga_a, arr_0, arr_1, arr_10, arr_11, len_a, sw_0, sw_i, sw_r, sw_l, fit_i, fit_z0, fit_z1, nz_0, nz_1, ni_K_s, ni_K_n, Nat.ble_eq, Nat.zero_le, Nat.zero_add, true_and, and_true, and_self, Bool.and_true, Bool.true_and, Bool.and_self, not_true_eq_false, not_false_eq_true, Int32.reduceLE, Int32.reduceLT, Int32.reduceAdd, Int32.reduceSub, Int32.reduceToNatClampNeg, Nat.reduceLeDiff, Nat.reduceAdd, Nat.reduceEqDiff, Nat.reduceSub, List.set_cons_zero, List.set_cons_succ, false_and, and_false]
theorem L_37 (hI : fs_Inv J h) (hJ : J ≤ 900000) (hz : 50 ≤ z.1) (hs : h 1000 = .inl (10, N, .inl f)) (hi : i + 5 < N) (hN : N ≤ 3072) : fs_L J i z 1353 h := by
  obtain ⟨r, h1, h2, e1, e2, hv, fr, I2⟩ := C_status (J := J) (z := z) (h := h) (f (i + 1)) hI
  obtain ⟨x, rfl⟩ := vk_int hv (by decide) (by decide)
  have r0 : ni_rc (h 0) 6 = true := by
    obtain ⟨-, n, w, im, lf, u, v, mu, ran, tr, rf, hl, hd, so, szf, sh, kp, g, sz, ee, ce, X, M, P⟩ := hI
    rw [X.1]; exact rc_o
  have r9 : ni_rc (h 49) 7 = true := by
    obtain ⟨-, n, w, im, lf, u, v, mu, ran, tr, rf, hl, hd, so, szf, sh, kp, g, sz, ee, ce, X, M, P⟩ := hI
    rw [M.1.1]; exact mrc
  have r1 : ni_rc (h1 49) 7 = true := (C_kc e1 49 (Or.inl (by omega))).2 7 r9
  have s1 : h1 1000 = .inl (10, N, .inl f) := ((C_kc e1 1000 (Or.inr (by omega))).1 (by rw [hs]; rfl)).trans hs
  have a1 : nI i + 1 = nI (i + 1) := nI_add i 1
  have b1 : ni_in (nI (i + 1)) N = true := in_n (by omega) (by omega)
  have c1 : (nI (i + 1)).toNatClampNeg = i + 1 := nI_clamp (by omega)
  refine ⟨h2, I2, fr, fun d Q => ?_⟩
  simp +decide only [s199_1353, s199_1353N, s199_1354, s199_1355, s199_1356, s199_1357, s199_1358, s199_1359, s199_1362, s199_1362N, s199_1363, s199_1364, s199_1365, s199_1366, s199_1367, s199_1368, s199_1371, s199_1374, s199_1375, hs, s1, r0, r1, e1, e2, eq_self, cmp_self, a1, b1, c1, ↓reduceIte, kl_i, kl_r, kl_n, kl_a, kl_l, up_s, up_up, is_0, is_s, gv_0, gv_s, pv_o, rc_o, okI_i, okI_x, okS_i, okB_x, gi_i, pi_i, okL_l, gl_l, pl_l, okA_2, okA_3, ga_a, arr_0, arr_1, arr_10, arr_11, len_a, sw_0, sw_i, sw_r, sw_l, fit_i, fit_z0, fit_z1, nz_0, nz_1, ni_K_s, ni_K_n, Nat.ble_eq, Nat.zero_le, Nat.zero_add, true_and, and_true, and_self, Bool.and_true, Bool.true_and, Bool.and_self, not_true_eq_false, not_false_eq_true, Int32.reduceLE, Int32.reduceLT, Int32.reduceAdd, Int32.reduceSub, Int32.reduceToNatClampNeg, Nat.reduceLeDiff, Nat.reduceAdd, Nat.reduceEqDiff, Nat.reduceSub, List.set_cons_zero, List.set_cons_succ, false_and, and_false]
end
