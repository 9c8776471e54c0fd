set_option maxRecDepth 100000
set_option maxHeartbeats 2000000
/-! ===== the start of the reference, and of the law ===== -/
section
variable {d s : Nat} {h : ni_H} {Q : ni_Q}
def fs_g0 (i : Nat) : Int32 := if i = 3 then 1 else if i = 4 then -1 else 0
def fs_mu0 (i j : Nat) : Int32 := if i = 0 then fs_u0 0 j else if i = 6 then fs_u0 6 j else 0
theorem mu0_0 : fs_mu0 0 = fun j => if j < 5 then -1 else 0 := by
  funext j
  simp [fs_mu0, u0_0]
theorem cell_0 : upd (upd (upd (upd (upd (fun _ => 0) 0 (-1)) 1 (-1)) 2 (-1)) 3 (-1)) 4 (-1) = fs_mu0 0 := by
  rw [mu0_0]
  funext j
  simp only [upd]
  match j with
  | 0 => rfl
  | 1 => rfl
  | 2 => rfl
  | 3 => rfl
  | 4 => rfl
  | j + 5 =>
    have : ¬ j + 5 < 5 := by omega
    rw [if_neg (by omega), if_neg (by omega), if_neg (by omega), if_neg (by omega), if_neg (by omega), if_neg this]
theorem X_init7 (ho : fo_k 50 h) (h9 : h 49 = .inr (7, ni_dfs 7)) (hQ : ∀ (s' : Nat) (h' : ni_H), s' ≤ s + 3000 → fs_IM h' fs_g0 fs_mu0 (fun _ => 0) (fun _ => 0) (fun _ => 0) (fun _ => 0) (fun _ => 0) (fun _ => 0) (fun _ => 0) (fun _ => 0) → (∀ i, i < 49 ∨ 68 ≤ i → h' i = h i) → Q none (68, s') h') : ni_T (d + 3) 119 0 [.ref 49, .retAddr 0] [] (50, s) h Q := by
  rw [dfs_7] at h9
  simp +decide (maxDischargeDepth := 200) only [s119_0, s119_1, s119_4, s119_5, s119_6, s119_9, s119_10, s119_11, s119_14, s119_15, s119_17, s119_19, s119_22, s119_23, s119_24, s119_26, s119_29, s119_30, s119_31, s119_33, s119_36, s119_37, s119_38, s119_40, s119_43, s119_44, s119_45, s119_47, s119_50, s119_51, s119_52, s119_54, s119_57, s119_58, s119_59, s119_61, s119_64, s119_65, s119_67, s119_69, s119_72, s119_73, s119_75, s119_77, s119_80, s119_81, s119_83, s119_85, s119_88, s119_89, s119_91, s119_93, s119_96, s119_97, s119_100, s119_102, s119_105, s119_106, s119_109, s119_111, s119_114, s119_115, s119_117, s119_119, s119_119i, s119_120, s119_121, s119_123, s119_124, s119_124i, s119_125, s119_126, s119_128, s119_129, s119_129i, s119_130, s119_131, s119_133, s119_134, s119_134i, s119_135, s119_136, s119_138, s119_139, s119_139i, s119_140, s119_141, s119_143, s119_144, s119_144i, s119_145, s119_146, s119_147, s119_148, s119_148i, s119_149, s119_151, s119_153, s119_154, s119_154i, s119_155, s119_157, s119_159, s119_160, s119_160i, s119_161, s119_163, s119_165, s119_166, s119_166i, s119_167, s119_169, s119_171, s119_172, s119_172i, s119_173, s119_175, s119_177, s119_178, s119_178i, s119_179, s119_181, s119_183, s119_184, s119_184i, s119_185, s119_187, s119_188, s119_189, s119_189i, s119_190, s119_192, s119_194, s119_195, s119_195i, s119_196, s119_198, s119_200, s119_201, s119_201i, s119_202, s119_204, s119_206, s119_207, s119_207i, s119_208, s119_210, s119_211, s119_212, s119_212i, s119_213, s119_215, s119_217, s119_218, s119_218i, s119_219, s119_221, s119_223, s119_224, s119_224i, s119_225, s119_227, s119_229, s119_230, s119_230i, s119_231, s119_233, s119_235, s119_236, s119_236i, s119_237, s119_239, s119_241, s119_242, s119_242i, s119_243, s119_245, s119_247, s119_248, s119_248i, s119_249, s119_251, s119_252, s119_253, s119_253i, s119_254, s119_256, s119_258, s119_259, s119_259i, s119_260, s119_262, s119_264, s119_265, s119_265i, s119_266, s119_268, s119_270, s119_271, s119_271i, s119_272, s119_274, s119_276, s119_277, s119_277i, s119_278, s119_280, s119_282, s119_283, s119_283i, s119_284, s119_286, s119_287, s119_288, s119_291, s119_292, s119_293, s119_295, s119_298, s119_299, s119_301, s119_303, s119_306, s119_307, s119_309, s119_311, s119_314, s119_315, s119_317, s119_319, s119_322, s119_323, s119_324, s119_325, s119_326, s119_329, s119_330, s119_333, s119_334, s119_335, s119_336, s119_339, s119_342, h9, fo_m ho, ok_t, fo_u, fe_i, fe_l, fe_r, fe_o, List.all_cons, List.all_nil, okv_i, okv_l, okv_n, okv_a, fit_ar, fit_ob, tag_a, elt_2, elt_3, ll_a, pa_a, rep_4, rep_8, dfs_0, dfs_1, dfs_2, dfs_3, dfs_4, dfs_5, dfs_6, dfs_7, ni_K_no, up_n, List.length_cons, List.length_nil, ↓reduceIte, kl_i, kl_r, kl_n, kl_a, kl_l, up_s, up_up, is_0, is_s, gv_0, gv_s, pv_o, rc_o, okI_i, okI_x, okS_i, okB_x, gi_i, pi_i, okL_l, gl_l, pl_l, okA_2, okA_3, ga_a, arr_0, arr_1, arr_10, arr_11, len_a, sw_0, sw_i, sw_r, sw_l, fit_i, fit_z0, fit_z1, nz_0, nz_1, ni_K_s, ni_K_n, Nat.ble_eq, Nat.zero_le, Nat.zero_add, true_and, and_true, and_self, Bool.and_true, Bool.true_and, Bool.and_self, not_true_eq_false, not_false_eq_true, Int32.reduceLE, Int32.reduceLT, Int32.reduceAdd, Int32.reduceSub, Int32.reduceToNatClampNeg, Nat.reduceLeDiff, Nat.reduceAdd, Nat.reduceEqDiff, Nat.reduceSub, List.set_cons_zero, List.set_cons_succ, false_and, and_false]
  refine hQ _ _ ?_ ?_ ?_
  · omega
  · refine ⟨⟨?_, ?_, ?_, ?_, ?_, ?_, ?_, rfl, rfl, rfl, rfl⟩, ?_, ?_, ?_, ?_, ?_, ?_, ⟨fun _ => 0, ?_⟩, ⟨_, by simp +decide only [up_s, up_n]; rfl, ?_⟩, ⟨fun _ => 0, ?_⟩, ⟨fun _ => 0, ?_⟩, ?_, ?_⟩
    · simp +decide only [up_s, up_n]; rfl
    · simp +decide only [up_s, up_n]; rfl
    · simp +decide only [up_s, up_n]; rfl
    · simp +decide only [up_s, up_n]; rfl
    · simp +decide only [up_s, up_n]; rfl
    · simp +decide only [up_s, up_n]; rfl
    · simp +decide only [up_s, up_n, cell_0]
    · simp +decide only [up_s, up_n]
    · simp +decide only [up_s, up_n]
    · simp +decide only [up_s, up_n]
    · simp +decide only [up_s, up_n]
    · simp +decide only [up_s, up_n]
    · simp +decide only [up_s, up_n]
    · simp +decide only [up_s, up_n]
    · decide
    · simp +decide only [up_s, up_n]
    · simp +decide only [up_s, up_n]
    · simp +decide only [up_s, up_n]
    · simp +decide only [up_s, up_n]
  · intro i hi
    repeat rw [up_n (by omega)]
theorem I_0 (hE : fs_IE h) (X : fs_IX h 0 (-1) fs_u0 fs_u0 0 (fun _ => 0) (fun _ => 0) (fun _ => 0) (fun _ => -1) (fun _ => 0) (fun _ => 0) (fun _ _ => 0)) (M : fs_IM h fs_g0 fs_mu0 (fun _ => 0) (fun _ => 0) (fun _ => 0) (fun _ => 0) (fun _ => 0) (fun _ => 0) (fun _ => 0) (fun _ => 0)) : fs_Inv 0 h := by
  refine ⟨hE, 0, 0, 0, -1, fs_u0, fs_u0, fs_mu0, 0, (fun _ => 0), (fun _ => 0), (fun _ => 0), (fun _ => -1), (fun _ => 0), (fun _ => 0), (fun _ => 0), (fun _ => 0), fs_g0, (fun _ => 0), (fun _ _ => 0), (fun _ => 0), X, M, ?_⟩
  refine ⟨⟨rfl, by decide, rfl, Or.inr ⟨rfl, rfl⟩, ?_, ?_, ?_, fun k hk => absurd hk (Nat.not_lt_zero k)⟩, ⟨?_, ?_, fun i k _ _ hk => absurd hk (Nat.not_lt_zero k)⟩, rfl, rfl, rfl, by decide, Or.inl rfl, ?_⟩
  · intro j hj
    refine Or.inl ?_
    rw [u0_0]
    exact if_pos hj
  · intro j hj
    rw [u0_0]
    exact if_neg (by omega)
  · intro i j hi hj hne e
    rw [u0_0]
    exact if_pos hi
  · intro i hi
    rfl
  · rw [mu0_0, u0_0]
  · intro s hs
    exact ⟨Or.inl rfl, Or.inl rfl, Nat.zero_le _, rfl, fun e => absurd (show (0 : Int32) = 2 from e) (by decide), fun _ _ => rfl⟩
theorem okv_k {n : Nat} : ni_okv n (.ref 1000) = true := by
  have : Nat.ble 1000 1000 = true := rfl
  simp only [ni_okv, this, Bool.or_true]
/-- the law from its first place -/
theorem L_start {N : Nat} {f : Nat → Int32} (hN : N ≤ 3072) (hx : ∀ i, i < 1000 → h i = ni_dead) (hk : fo_k 0 h) (hE : fs_IE h) (hs : h 1000 = .inl (10, N, .inl f)) : ni_T (d + 60) 199 0 [.ref 1000, .retAddr 0, .retAddr 0, .retAddr 0] [] (0, 0) h (fun r z _ => r = some (.int 1) ∧ z.1 = 68 ∧ z.2 ≤ 7000) := by
  have k0 : ni_ok 0 [.ref 1000, .retAddr 0, .retAddr 0, .retAddr 0] [] h = true := ok_t hk (by simp only [List.all_cons, okv_k, okv_a, List.all_nil, Bool.and_self]) rfl
  simp +decide (maxDischargeDepth := 200) only [s199_0, s199_3, s199_3i, s199_4, k0, okv_k, fo_m hk, ok_t, fo_u, fe_i, fe_l, fe_r, fe_o, List.all_cons, List.all_nil, okv_i, okv_l, okv_n, okv_a, fit_ar, fit_ob, tag_a, elt_2, elt_3, ll_a, pa_a, rep_4, rep_8, dfs_0, dfs_1, dfs_2, dfs_3, dfs_4, dfs_5, dfs_6, dfs_7, ni_K_no, up_n, List.length_cons, List.length_nil, ↓reduceIte, kl_i, kl_r, kl_n, kl_a, kl_l, up_s, up_up, is_0, is_s, gv_0, gv_s, pv_o, rc_o, okI_i, okI_x, okS_i, okB_x, gi_i, pi_i, okL_l, gl_l, pl_l, okA_2, okA_3, ga_a, arr_0, arr_1, arr_10, arr_11, len_a, sw_0, sw_i, sw_r, sw_l, fit_i, fit_z0, fit_z1, nz_0, nz_1, ni_K_s, ni_K_n, Nat.ble_eq, Nat.zero_le, Nat.zero_add, true_and, and_true, and_self, Bool.and_true, Bool.true_and, Bool.and_self, not_true_eq_false, not_false_eq_true, Int32.reduceLE, Int32.reduceLT, Int32.reduceAdd, Int32.reduceSub, Int32.reduceToNatClampNeg, Nat.reduceLeDiff, Nat.reduceAdd, Nat.reduceEqDiff, Nat.reduceSub, List.set_cons_zero, List.set_cons_succ, false_and, and_false]
  refine X_init6 (d := d + 49) ?_ ?_ ?_
  · simp +decide (maxDischargeDepth := 200) only [fo_m hk, ok_t, fo_u, fe_i, fe_l, fe_r, fe_o, List.all_cons, List.all_nil, okv_i, okv_l, okv_n, okv_a, fit_ar, fit_ob, tag_a, elt_2, elt_3, ll_a, pa_a, rep_4, rep_8, dfs_0, dfs_1, dfs_2, dfs_3, dfs_4, dfs_5, dfs_6, dfs_7, ni_K_no, up_n, List.length_cons, List.length_nil, ↓reduceIte, kl_i, kl_r, kl_n, kl_a, kl_l, up_s, up_up, is_0, is_s, gv_0, gv_s, pv_o, rc_o, okI_i, okI_x, okS_i, okB_x, gi_i, pi_i, okL_l, gl_l, pl_l, okA_2, okA_3, ga_a, arr_0, arr_1, arr_10, arr_11, len_a, sw_0, sw_i, sw_r, sw_l, fit_i, fit_z0, fit_z1, nz_0, nz_1, ni_K_s, ni_K_n, Nat.ble_eq, Nat.zero_le, Nat.zero_add, true_and, and_true, and_self, Bool.and_true, Bool.true_and, Bool.and_self, not_true_eq_false, not_false_eq_true, Int32.reduceLE, Int32.reduceLT, Int32.reduceAdd, Int32.reduceSub, Int32.reduceToNatClampNeg, Nat.reduceLeDiff, Nat.reduceAdd, Nat.reduceEqDiff, Nat.reduceSub, List.set_cons_zero, List.set_cons_succ, false_and, and_false]
  · simp +decide only [up_s, dfs_6]
  intro s1 h1 q1 X1 f1 o1
  have k1 : ni_ok 49 [.ref 1000, .ref 0, .retAddr 0, .retAddr 0] [] h1 = true := ok_t o1 (by simp only [List.all_cons, okv_k, okv_a, List.all_nil, Bool.and_self, Bool.and_true, show ni_okv 49 (.ref 0) = true from rfl]) rfl
  simp +decide (maxDischargeDepth := 200) only [s199_7, s199_7N, s199_8, s199_11, s199_11i, s199_12, k1, okv_k, fo_m o1, ok_t, fo_u, fe_i, fe_l, fe_r, fe_o, List.all_cons, List.all_nil, okv_i, okv_l, okv_n, okv_a, fit_ar, fit_ob, tag_a, elt_2, elt_3, ll_a, pa_a, rep_4, rep_8, dfs_0, dfs_1, dfs_2, dfs_3, dfs_4, dfs_5, dfs_6, dfs_7, ni_K_no, up_n, List.length_cons, List.length_nil, ↓reduceIte, kl_i, kl_r, kl_n, kl_a, kl_l, up_s, up_up, is_0, is_s, gv_0, gv_s, pv_o, rc_o, okI_i, okI_x, okS_i, okB_x, gi_i, pi_i, okL_l, gl_l, pl_l, okA_2, okA_3, ga_a, arr_0, arr_1, arr_10, arr_11, len_a, sw_0, sw_i, sw_r, sw_l, fit_i, fit_z0, fit_z1, nz_0, nz_1, ni_K_s, ni_K_n, Nat.ble_eq, Nat.zero_le, Nat.zero_add, true_and, and_true, and_self, Bool.and_true, Bool.true_and, Bool.and_self, not_true_eq_false, not_false_eq_true, Int32.reduceLE, Int32.reduceLT, Int32.reduceAdd, Int32.reduceSub, Int32.reduceToNatClampNeg, Nat.reduceLeDiff, Nat.reduceAdd, Nat.reduceEqDiff, Nat.reduceSub, List.set_cons_zero, List.set_cons_succ, false_and, and_false]
  refine X_init7 (d := d + 56) ?_ ?_ ?_
  · simp +decide (maxDischargeDepth := 200) only [fo_m o1, ok_t, fo_u, fe_i, fe_l, fe_r, fe_o, List.all_cons, List.all_nil, okv_i, okv_l, okv_n, okv_a, fit_ar, fit_ob, tag_a, elt_2, elt_3, ll_a, pa_a, rep_4, rep_8, dfs_0, dfs_1, dfs_2, dfs_3, dfs_4, dfs_5, dfs_6, dfs_7, ni_K_no, up_n, List.length_cons, List.length_nil, ↓reduceIte, kl_i, kl_r, kl_n, kl_a, kl_l, up_s, up_up, is_0, is_s, gv_0, gv_s, pv_o, rc_o, okI_i, okI_x, okS_i, okB_x, gi_i, pi_i, okL_l, gl_l, pl_l, okA_2, okA_3, ga_a, arr_0, arr_1, arr_10, arr_11, len_a, sw_0, sw_i, sw_r, sw_l, fit_i, fit_z0, fit_z1, nz_0, nz_1, ni_K_s, ni_K_n, Nat.ble_eq, Nat.zero_le, Nat.zero_add, true_and, and_true, and_self, Bool.and_true, Bool.true_and, Bool.and_self, not_true_eq_false, not_false_eq_true, Int32.reduceLE, Int32.reduceLT, Int32.reduceAdd, Int32.reduceSub, Int32.reduceToNatClampNeg, Nat.reduceLeDiff, Nat.reduceAdd, Nat.reduceEqDiff, Nat.reduceSub, List.set_cons_zero, List.set_cons_succ, false_and, and_false]
  · simp +decide only [up_s, dfs_7]
  intro s2 h2 q2 M2 f2
  have e2 : ∀ i, 1000 ≤ i → h2 i = h i := fun i hi => by
    rw [f2 i (by omega), up_n (by omega), f1 i (by omega), up_n (by omega)]
  have X2 : fs_IX h2 0 (-1) fs_u0 fs_u0 0 (fun _ => 0) (fun _ => 0) (fun _ => 0) (fun _ => -1) (fun _ => 0) (fun _ => 0) (fun _ _ => 0) := IX_h X1 (fun i hi => by rw [f2 i (by omega), up_n (by omega)])
  have I2 := I_0 (IE_h hE e2) X2 M2
  obtain ⟨h3, e3⟩ := L_loop (N := N) (f := f) (z := (68, s2)) hN (show 50 ≤ 68 by decide) 512 0 0 h2 I2 (by decide) ((e2 1000 (by omega)).trans hs) (by decide) (by omega)
  simp +decide (maxDischargeDepth := 200) only [s199_15, s199_15N, s199_16, s199_17, okv_k, ok_t, fo_u, fe_i, fe_l, fe_r, fe_o, List.all_cons, List.all_nil, okv_i, okv_l, okv_n, okv_a, fit_ar, fit_ob, tag_a, elt_2, elt_3, ll_a, pa_a, rep_4, rep_8, dfs_0, dfs_1, dfs_2, dfs_3, dfs_4, dfs_5, dfs_6, dfs_7, ni_K_no, up_n, List.length_cons, List.length_nil, ↓reduceIte, kl_i, kl_r, kl_n, kl_a, kl_l, up_s, up_up, is_0, is_s, gv_0, gv_s, pv_o, rc_o, okI_i, okI_x, okS_i, okB_x, gi_i, pi_i, okL_l, gl_l, pl_l, okA_2, okA_3, ga_a, arr_0, arr_1, arr_10, arr_11, len_a, sw_0, sw_i, sw_r, sw_l, fit_i, fit_z0, fit_z1, nz_0, nz_1, ni_K_s, ni_K_n, Nat.ble_eq, Nat.zero_le, Nat.zero_add, true_and, and_true, and_self, Bool.and_true, Bool.true_and, Bool.and_self, not_true_eq_false, not_false_eq_true, Int32.reduceLE, Int32.reduceLT, Int32.reduceAdd, Int32.reduceSub, Int32.reduceToNatClampNeg, Nat.reduceLeDiff, Nat.reduceAdd, Nat.reduceEqDiff, Nat.reduceSub, List.set_cons_zero, List.set_cons_succ, false_and, and_false]
  rw [show (0 : Int32) = nI 0 from rfl]
  refine Eq.mpr (e3 (d + 19) _) ?_
  refine ⟨rfl, rfl, ?_⟩
  show s2 ≤ 7000
  omega
end
