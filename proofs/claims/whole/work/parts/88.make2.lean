set_option maxRecDepth 100000
set_option maxHeartbeats 2000000
/-! ===== the start: both objects ===== -/
section
variable {d s : Nat} {h : ni_H} {Q : ni_Q}
def fs_F (h : ni_H) : Prop := fs_tab 2 fs_u0 h ∧ fs_tab 9 fs_u0 h ∧ fs_tab 16 fs_u0 h ∧ fs_mind h ∧ h 29 = ni_O 0 [.ref 30, .int (nI 0)] ∧ h 30 = ni_I 20 (fun _ => 0) ∧ (∃ a b c : Int32, h 31 = ni_O 3 [.int a, .int b, .int c]) ∧ h 32 = ni_I 8 (fun _ => 0)
theorem F_h {h h' : ni_H} (F : fs_F h) (hh : ∀ i, 2 ≤ i → i < 33 → h' i = h i) : fs_F h' := by
  obtain ⟨a, b, c, e, f, g, ⟨l, m, o, p⟩, q⟩ := F
  exact ⟨fs_tab_h (k := 0) a (fun i h1 h2 => hh i (by omega) (by omega)), fs_tab_h (k := 0) b (fun i h1 h2 => hh i (by omega) (by omega)), fs_tab_h (k := 0) c (fun i h1 h2 => hh i (by omega) (by omega)), mind_h e (fun i h1 h2 => hh i (by omega) (by omega)), by rw [hh _ (by omega) (by omega)]; exact f, by rw [hh _ (by omega) (by omega)]; exact g, ⟨l, m, o, by rw [hh _ (by omega) (by omega)]; exact p⟩, by rw [hh _ (by omega) (by omega)]; exact q⟩
theorem X_shelves (h0 : h 0 = ni_O 6 [.ref 1, .ref 2, .ref 9, .ref 16, .ref 23, .ref 29, .ref 31, .ref 32, .int 0, .int (-1)]) (h1 : h 1 = ni_R 2 8 [none, none, none, none, none, none, none, none]) (F : fs_F h) (ho : fo_k 33 h) (hQ : ∀ (s' : Nat) (h' : ni_H), s' ≤ s + 1400 → fs_IX h' 0 (-1) fs_u0 fs_u0 0 (fun _ => 0) (fun _ => 0) (fun _ => 0) (fun _ => -1) (fun _ => 0) (fun _ => 0) (fun _ _ => 0) → (∀ i, 49 ≤ i → h' i = h i) → fo_k 49 h' → Q none (49, s') h') : ni_T (d + 4) 66 99 [.ref 0, .int 0] [] (33, s) h Q := by
  refine X_sh_0 h0 h1 ho ?_
  intro s1 g1 q1 l1 p1 e1 f1 o1
  have z1 := (f1 0 (by decide) (by omega)).trans h0
  refine X_sh_1 z1 l1 o1 ?_
  intro s2 g2 q2 l2 p2 e2 f2 o2
  have z2 := (f2 0 (by decide) (by omega)).trans z1
  refine X_sh_2 z2 l2 o2 ?_
  intro s3 g3 q3 l3 p3 e3 f3 o3
  have z3 := (f3 0 (by decide) (by omega)).trans z2
  refine X_sh_3 z3 l3 o3 ?_
  intro s4 g4 q4 l4 p4 e4 f4 o4
  have z4 := (f4 0 (by decide) (by omega)).trans z3
  refine X_sh_4 z4 l4 o4 ?_
  intro s5 g5 q5 l5 p5 e5 f5 o5
  have z5 := (f5 0 (by decide) (by omega)).trans z4
  refine X_sh_5 z5 l5 o5 ?_
  intro s6 g6 q6 l6 p6 e6 f6 o6
  have z6 := (f6 0 (by decide) (by omega)).trans z5
  refine X_sh_6 z6 l6 o6 ?_
  intro s7 g7 q7 l7 p7 e7 f7 o7
  have z7 := (f7 0 (by decide) (by omega)).trans z6
  refine X_sh_7 z7 l7 o7 ?_
  intro s8 g8 q8 l8 p8 e8 f8 o8
  have z8 := (f8 0 (by decide) (by omega)).trans z7
  simp +decide only [s66_99, s66_100, s66_102, s66_124, ↓reduceIte, kl_i, kl_r, kl_n, kl_a, kl_l, up_s, up_up, is_0, is_s, gv_0, gv_s, pv_o, rc_o, okI_i, okI_x, okS_i, okB_x, gi_i, pi_i, okL_l, gl_l, pl_l, okA_2, okA_3, ga_a, arr_0, arr_1, arr_10, arr_11, len_a, sw_0, sw_i, sw_r, sw_l, fit_i, fit_z0, fit_z1, nz_0, nz_1, ni_K_s, ni_K_n, Nat.ble_eq, Nat.zero_le, Nat.zero_add, true_and, and_true, and_self, Bool.and_true, Bool.true_and, Bool.and_self, not_true_eq_false, not_false_eq_true, Int32.reduceLE, Int32.reduceLT, Int32.reduceAdd, Int32.reduceSub, Int32.reduceToNatClampNeg, Nat.reduceLeDiff, Nat.reduceAdd, Nat.reduceEqDiff, Nat.reduceSub, List.set_cons_zero, List.set_cons_succ, false_and, and_false]
  refine hQ s8 g8 (by omega) ?_ ?_ o8
  · have fr : ∀ i, 2 ≤ i → i < 33 → g8 i = h i := fun i a b => by
      rw [f8 i (by omega) (by omega), f7 i (by omega) (by omega), f6 i (by omega) (by omega), f5 i (by omega) (by omega), f4 i (by omega) (by omega), f3 i (by omega) (by omega), f2 i (by omega) (by omega), f1 i (by omega) (by omega)]
    obtain ⟨a, b, c, e, f, g, p, q⟩ := F_h F fr
    refine ⟨z8, l8, a, by rw [u0_nz]; exact b, ⟨fs_u0, by rw [u0_nz]; exact c⟩, e, f, g, p, q, ?_, ?_⟩
    · intro s hs
      match s, hs with
      | 0, _ => exact (show g8 33 = _ by rw [f8 33 (by decide) (by omega), f7 33 (by decide) (by omega), f6 33 (by decide) (by omega), f5 33 (by decide) (by omega), f4 33 (by decide) (by omega), f3 33 (by decide) (by omega), f2 33 (by decide) (by omega)]; exact p1)
      | 1, _ => exact (show g8 35 = _ by rw [f8 35 (by decide) (by omega), f7 35 (by decide) (by omega), f6 35 (by decide) (by omega), f5 35 (by decide) (by omega), f4 35 (by decide) (by omega), f3 35 (by decide) (by omega)]; exact p2)
      | 2, _ => exact (show g8 37 = _ by rw [f8 37 (by decide) (by omega), f7 37 (by decide) (by omega), f6 37 (by decide) (by omega), f5 37 (by decide) (by omega), f4 37 (by decide) (by omega)]; exact p3)
      | 3, _ => exact (show g8 39 = _ by rw [f8 39 (by decide) (by omega), f7 39 (by decide) (by omega), f6 39 (by decide) (by omega), f5 39 (by decide) (by omega)]; exact p4)
      | 4, _ => exact (show g8 41 = _ by rw [f8 41 (by decide) (by omega), f7 41 (by decide) (by omega), f6 41 (by decide) (by omega)]; exact p5)
      | 5, _ => exact (show g8 43 = _ by rw [f8 43 (by decide) (by omega), f7 43 (by decide) (by omega)]; exact p6)
      | 6, _ => exact (show g8 45 = _ by rw [f8 45 (by decide) (by omega)]; exact p7)
      | 7, _ => exact (show g8 47 = _ by exact p8)
      | s + 8, h => omega
    · intro s hs
      match s, hs with
      | 0, _ => exact (show g8 34 = _ by rw [f8 34 (by decide) (by omega), f7 34 (by decide) (by omega), f6 34 (by decide) (by omega), f5 34 (by decide) (by omega), f4 34 (by decide) (by omega), f3 34 (by decide) (by omega), f2 34 (by decide) (by omega)]; exact e1)
      | 1, _ => exact (show g8 36 = _ by rw [f8 36 (by decide) (by omega), f7 36 (by decide) (by omega), f6 36 (by decide) (by omega), f5 36 (by decide) (by omega), f4 36 (by decide) (by omega), f3 36 (by decide) (by omega)]; exact e2)
      | 2, _ => exact (show g8 38 = _ by rw [f8 38 (by decide) (by omega), f7 38 (by decide) (by omega), f6 38 (by decide) (by omega), f5 38 (by decide) (by omega), f4 38 (by decide) (by omega)]; exact e3)
      | 3, _ => exact (show g8 40 = _ by rw [f8 40 (by decide) (by omega), f7 40 (by decide) (by omega), f6 40 (by decide) (by omega), f5 40 (by decide) (by omega)]; exact e4)
      | 4, _ => exact (show g8 42 = _ by rw [f8 42 (by decide) (by omega), f7 42 (by decide) (by omega), f6 42 (by decide) (by omega)]; exact e5)
      | 5, _ => exact (show g8 44 = _ by rw [f8 44 (by decide) (by omega), f7 44 (by decide) (by omega)]; exact e6)
      | 6, _ => exact (show g8 46 = _ by rw [f8 46 (by decide) (by omega)]; exact e7)
      | 7, _ => exact (show g8 48 = _ by exact e8)
      | s + 8, h => omega
  · intro i hi
    rw [f8 i (by omega) (by omega), f7 i (by omega) (by omega), f6 i (by omega) (by omega), f5 i (by omega) (by omega), f4 i (by omega) (by omega), f3 i (by omega) (by omega), f2 i (by omega) (by omega), f1 i (by omega) (by omega)]
theorem X_init6 (ho : fo_k 1 h) (h0 : h 0 = .inr (6, ni_dfs 6)) (hQ : ∀ (s' : Nat) (h' : ni_H), s' ≤ s + 3000 → fs_IX h' 0 (-1) fs_u0 fs_u0 0 (fun _ => 0) (fun _ => 0) (fun _ => 0) (fun _ => -1) (fun _ => 0) (fun _ => 0) (fun _ _ => 0) → (∀ i, 49 ≤ i → h' i = h i) → fo_k 49 h' → Q none (49, s') h') : ni_T (d + 10) 66 0 [.ref 0, .retAddr 0] [] (1, s) h Q := by
  rw [dfs_6] at h0
  simp +decide (maxDischargeDepth := 200) only [s66_0, s66_1, s66_4, s66_5, s66_7, s66_10, s66_13, s66_14, s66_17, s66_17i, s66_18, h0, fo_m ho, ok_t, fo_u, fe_i, fe_l, fe_r, fe_o, List.all_cons, List.all_nil, okv_i, okv_l, okv_n, okv_a, fit_ar, fit_ob, tag_a, elt_2, elt_3, ll_a, pa_a, rep_4, rep_8, dfs_0, dfs_1, dfs_2, dfs_3, dfs_4, dfs_5, dfs_6, dfs_7, ni_K_no, up_n, List.length_cons, List.length_nil, ↓reduceIte, kl_i, kl_r, kl_n, kl_a, kl_l, up_s, up_up, is_0, is_s, gv_0, gv_s, pv_o, rc_o, okI_i, okI_x, okS_i, okB_x, gi_i, pi_i, okL_l, gl_l, pl_l, okA_2, okA_3, ga_a, arr_0, arr_1, arr_10, arr_11, len_a, sw_0, sw_i, sw_r, sw_l, fit_i, fit_z0, fit_z1, nz_0, nz_1, ni_K_s, ni_K_n, Nat.ble_eq, Nat.zero_le, Nat.zero_add, true_and, and_true, and_self, Bool.and_true, Bool.true_and, Bool.and_self, not_true_eq_false, not_false_eq_true, Int32.reduceLE, Int32.reduceLT, Int32.reduceAdd, Int32.reduceSub, Int32.reduceToNatClampNeg, Nat.reduceLeDiff, Nat.reduceAdd, Nat.reduceEqDiff, Nat.reduceSub, List.set_cons_zero, List.set_cons_succ, false_and, and_false]
  refine X_tinit_2 (d := d + 6) ?_ ?_ ?_
  · simp +decide (maxDischargeDepth := 200) only [fo_m ho, ok_t, fo_u, fe_i, fe_l, fe_r, fe_o, List.all_cons, List.all_nil, okv_i, okv_l, okv_n, okv_a, fit_ar, fit_ob, tag_a, elt_2, elt_3, ll_a, pa_a, rep_4, rep_8, dfs_0, dfs_1, dfs_2, dfs_3, dfs_4, dfs_5, dfs_6, dfs_7, ni_K_no, up_n, List.length_cons, List.length_nil, ↓reduceIte, kl_i, kl_r, kl_n, kl_a, kl_l, up_s, up_up, is_0, is_s, gv_0, gv_s, pv_o, rc_o, okI_i, okI_x, okS_i, okB_x, gi_i, pi_i, okL_l, gl_l, pl_l, okA_2, okA_3, ga_a, arr_0, arr_1, arr_10, arr_11, len_a, sw_0, sw_i, sw_r, sw_l, fit_i, fit_z0, fit_z1, nz_0, nz_1, ni_K_s, ni_K_n, Nat.ble_eq, Nat.zero_le, Nat.zero_add, true_and, and_true, and_self, Bool.and_true, Bool.true_and, Bool.and_self, not_true_eq_false, not_false_eq_true, Int32.reduceLE, Int32.reduceLT, Int32.reduceAdd, Int32.reduceSub, Int32.reduceToNatClampNeg, Nat.reduceLeDiff, Nat.reduceAdd, Nat.reduceEqDiff, Nat.reduceSub, List.set_cons_zero, List.set_cons_succ, false_and, and_false]
  · simp +decide only [up_s, dfs_5]
  intro s1 g1 q1 t1 f1 o1
  have a1 : g1 0 = ni_O 6 [.ref 1, .null, .null, .null, .null, .null, .null, .null, .int 0, .int 0] := by
    rw [f1 0 (by omega)]; simp +decide only [up_s, up_n]
  have b1 : g1 1 = ni_R 2 8 [none, none, none, none, none, none, none, none] := by
    rw [f1 1 (by omega)]; simp +decide only [up_s, up_n]
  have c1 : ∀ i, 49 ≤ i → g1 i = h i := fun i hi => by
    rw [f1 i (by omega)]; repeat rw [up_n (by omega)]
  simp +decide (maxDischargeDepth := 200) only [s66_21, s66_24, s66_25, s66_28, s66_28i, s66_29, a1, fo_m o1, ok_t, fo_u, fe_i, fe_l, fe_r, fe_o, List.all_cons, List.all_nil, okv_i, okv_l, okv_n, okv_a, fit_ar, fit_ob, tag_a, elt_2, elt_3, ll_a, pa_a, rep_4, rep_8, dfs_0, dfs_1, dfs_2, dfs_3, dfs_4, dfs_5, dfs_6, dfs_7, ni_K_no, up_n, List.length_cons, List.length_nil, ↓reduceIte, kl_i, kl_r, kl_n, kl_a, kl_l, up_s, up_up, is_0, is_s, gv_0, gv_s, pv_o, rc_o, okI_i, okI_x, okS_i, okB_x, gi_i, pi_i, okL_l, gl_l, pl_l, okA_2, okA_3, ga_a, arr_0, arr_1, arr_10, arr_11, len_a, sw_0, sw_i, sw_r, sw_l, fit_i, fit_z0, fit_z1, nz_0, nz_1, ni_K_s, ni_K_n, Nat.ble_eq, Nat.zero_le, Nat.zero_add, true_and, and_true, and_self, Bool.and_true, Bool.true_and, Bool.and_self, not_true_eq_false, not_false_eq_true, Int32.reduceLE, Int32.reduceLT, Int32.reduceAdd, Int32.reduceSub, Int32.reduceToNatClampNeg, Nat.reduceLeDiff, Nat.reduceAdd, Nat.reduceEqDiff, Nat.reduceSub, List.set_cons_zero, List.set_cons_succ, false_and, and_false]
  refine X_tinit_9 (d := d + 6) ?_ ?_ ?_
  · simp +decide (maxDischargeDepth := 200) only [fo_m o1, ok_t, fo_u, fe_i, fe_l, fe_r, fe_o, List.all_cons, List.all_nil, okv_i, okv_l, okv_n, okv_a, fit_ar, fit_ob, tag_a, elt_2, elt_3, ll_a, pa_a, rep_4, rep_8, dfs_0, dfs_1, dfs_2, dfs_3, dfs_4, dfs_5, dfs_6, dfs_7, ni_K_no, up_n, List.length_cons, List.length_nil, ↓reduceIte, kl_i, kl_r, kl_n, kl_a, kl_l, up_s, up_up, is_0, is_s, gv_0, gv_s, pv_o, rc_o, okI_i, okI_x, okS_i, okB_x, gi_i, pi_i, okL_l, gl_l, pl_l, okA_2, okA_3, ga_a, arr_0, arr_1, arr_10, arr_11, len_a, sw_0, sw_i, sw_r, sw_l, fit_i, fit_z0, fit_z1, nz_0, nz_1, ni_K_s, ni_K_n, Nat.ble_eq, Nat.zero_le, Nat.zero_add, true_and, and_true, and_self, Bool.and_true, Bool.true_and, Bool.and_self, not_true_eq_false, not_false_eq_true, Int32.reduceLE, Int32.reduceLT, Int32.reduceAdd, Int32.reduceSub, Int32.reduceToNatClampNeg, Nat.reduceLeDiff, Nat.reduceAdd, Nat.reduceEqDiff, Nat.reduceSub, List.set_cons_zero, List.set_cons_succ, false_and, and_false]
  · simp +decide only [up_s, dfs_5]
  intro s2 g2 q2 t2 f2 o2
  have a2 : g2 0 = ni_O 6 [.ref 1, .ref 2, .null, .null, .null, .null, .null, .null, .int 0, .int 0] := by
    rw [f2 0 (by omega)]; simp +decide only [up_s, up_n]
  have b2 : ∀ i, 1 ≤ i → i < 9 → g2 i = g1 i := fun i hi hj => by
    rw [f2 i (by omega)]; repeat rw [up_n (by omega)]
  have c2 : ∀ i, 49 ≤ i → g2 i = h i := fun i hi => by
    rw [f2 i (by omega)]; repeat rw [up_n (by omega)]
    exact c1 i hi
  simp +decide (maxDischargeDepth := 200) only [s66_32, s66_35, s66_36, s66_39, s66_39i, s66_40, a2, fo_m o2, ok_t, fo_u, fe_i, fe_l, fe_r, fe_o, List.all_cons, List.all_nil, okv_i, okv_l, okv_n, okv_a, fit_ar, fit_ob, tag_a, elt_2, elt_3, ll_a, pa_a, rep_4, rep_8, dfs_0, dfs_1, dfs_2, dfs_3, dfs_4, dfs_5, dfs_6, dfs_7, ni_K_no, up_n, List.length_cons, List.length_nil, ↓reduceIte, kl_i, kl_r, kl_n, kl_a, kl_l, up_s, up_up, is_0, is_s, gv_0, gv_s, pv_o, rc_o, okI_i, okI_x, okS_i, okB_x, gi_i, pi_i, okL_l, gl_l, pl_l, okA_2, okA_3, ga_a, arr_0, arr_1, arr_10, arr_11, len_a, sw_0, sw_i, sw_r, sw_l, fit_i, fit_z0, fit_z1, nz_0, nz_1, ni_K_s, ni_K_n, Nat.ble_eq, Nat.zero_le, Nat.zero_add, true_and, and_true, and_self, Bool.and_true, Bool.true_and, Bool.and_self, not_true_eq_false, not_false_eq_true, Int32.reduceLE, Int32.reduceLT, Int32.reduceAdd, Int32.reduceSub, Int32.reduceToNatClampNeg, Nat.reduceLeDiff, Nat.reduceAdd, Nat.reduceEqDiff, Nat.reduceSub, List.set_cons_zero, List.set_cons_succ, false_and, and_false]
  refine X_tinit_16 (d := d + 6) ?_ ?_ ?_
  · simp +decide (maxDischargeDepth := 200) only [fo_m o2, ok_t, fo_u, fe_i, fe_l, fe_r, fe_o, List.all_cons, List.all_nil, okv_i, okv_l, okv_n, okv_a, fit_ar, fit_ob, tag_a, elt_2, elt_3, ll_a, pa_a, rep_4, rep_8, dfs_0, dfs_1, dfs_2, dfs_3, dfs_4, dfs_5, dfs_6, dfs_7, ni_K_no, up_n, List.length_cons, List.length_nil, ↓reduceIte, kl_i, kl_r, kl_n, kl_a, kl_l, up_s, up_up, is_0, is_s, gv_0, gv_s, pv_o, rc_o, okI_i, okI_x, okS_i, okB_x, gi_i, pi_i, okL_l, gl_l, pl_l, okA_2, okA_3, ga_a, arr_0, arr_1, arr_10, arr_11, len_a, sw_0, sw_i, sw_r, sw_l, fit_i, fit_z0, fit_z1, nz_0, nz_1, ni_K_s, ni_K_n, Nat.ble_eq, Nat.zero_le, Nat.zero_add, true_and, and_true, and_self, Bool.and_true, Bool.true_and, Bool.and_self, not_true_eq_false, not_false_eq_true, Int32.reduceLE, Int32.reduceLT, Int32.reduceAdd, Int32.reduceSub, Int32.reduceToNatClampNeg, Nat.reduceLeDiff, Nat.reduceAdd, Nat.reduceEqDiff, Nat.reduceSub, List.set_cons_zero, List.set_cons_succ, false_and, and_false]
  · simp +decide only [up_s, dfs_5]
  intro s3 g3 q3 t3 f3 o3
  have a3 : g3 0 = ni_O 6 [.ref 1, .ref 2, .ref 9, .null, .null, .null, .null, .null, .int 0, .int 0] := by
    rw [f3 0 (by omega)]; simp +decide only [up_s, up_n]
  have b3 : ∀ i, 1 ≤ i → i < 16 → g3 i = g2 i := fun i hi hj => by
    rw [f3 i (by omega)]; repeat rw [up_n (by omega)]
  have c3 : ∀ i, 49 ≤ i → g3 i = h i := fun i hi => by
    rw [f3 i (by omega)]; repeat rw [up_n (by omega)]
    exact c2 i hi
  have t31 : fs_tab 2 fs_u0 g3 := fs_tab_h (k := 0) t1 (fun i h1 h2 => by rw [b3 i (by omega) (by omega), b2 i (by omega) (by omega)])
  have t32 : fs_tab 9 fs_u0 g3 := fs_tab_h (k := 0) t2 (fun i h1 h2 => by rw [b3 i (by omega) (by omega)])
  have l3 : g3 1 = ni_R 2 8 [none, none, none, none, none, none, none, none] := by rw [b3 1 (by omega) (by omega), b2 1 (by omega) (by omega)]; exact b1
  simp +decide (maxDischargeDepth := 200) only [s66_43, s66_46, s66_47, s66_50, s66_50i, s66_51, s66_54, s66_57, s66_58, s66_61, s66_61i, s66_62, s66_65, s66_68, s66_69, s66_72, s66_72i, s66_73, s66_76, s66_79, s66_80, s66_82, s66_84, s66_87, s66_88, s66_89, s66_92, s66_93, s66_94, s66_97, s66_98, s15_0, s15_1, s15_4, s15_5, s15_7, s15_9, s15_12, s15_13, s15_15, s15_17, s15_20, s15_21, s15_23, s15_25, s15_28, s15_29, s15_30, s15_32, s15_35, s15_36, s15_39, s15_41, s15_44, s15_45, s15_46, s15_49, s15_50, s15_51, s15_54, s0_0, s0_1, s0_4, s0_5, s0_7, s0_9, s0_12, s0_13, s0_14, s0_17, s27_0, s27_1, s27_4, s27_5, s27_6, s27_9, s27_10, s27_11, s27_14, s27_15, s27_16, s27_19, a3, fo_m o3, ok_t, fo_u, fe_i, fe_l, fe_r, fe_o, List.all_cons, List.all_nil, okv_i, okv_l, okv_n, okv_a, fit_ar, fit_ob, tag_a, elt_2, elt_3, ll_a, pa_a, rep_4, rep_8, dfs_0, dfs_1, dfs_2, dfs_3, dfs_4, dfs_5, dfs_6, dfs_7, ni_K_no, up_n, List.length_cons, List.length_nil, ↓reduceIte, kl_i, kl_r, kl_n, kl_a, kl_l, up_s, up_up, is_0, is_s, gv_0, gv_s, pv_o, rc_o, okI_i, okI_x, okS_i, okB_x, gi_i, pi_i, okL_l, gl_l, pl_l, okA_2, okA_3, ga_a, arr_0, arr_1, arr_10, arr_11, len_a, sw_0, sw_i, sw_r, sw_l, fit_i, fit_z0, fit_z1, nz_0, nz_1, ni_K_s, ni_K_n, Nat.ble_eq, Nat.zero_le, Nat.zero_add, true_and, and_true, and_self, Bool.and_true, Bool.true_and, Bool.and_self, not_true_eq_false, not_false_eq_true, Int32.reduceLE, Int32.reduceLT, Int32.reduceAdd, Int32.reduceSub, Int32.reduceToNatClampNeg, Nat.reduceLeDiff, Nat.reduceAdd, Nat.reduceEqDiff, Nat.reduceSub, List.set_cons_zero, List.set_cons_succ, false_and, and_false]
  refine X_shelves (d := d + 6) ?_ ?_ ?_ ?_ ?_
  · simp +decide only [up_s, up_n]
  · simp +decide only [up_s, up_n, l3]
  · refine ⟨fs_tab_h (k := 0) t31 (fun i h1 h2 => ?_), fs_tab_h (k := 0) t32 (fun i h1 h2 => ?_), fs_tab_h (k := 0) t3 (fun i h1 h2 => ?_), ⟨0, 0, (fun _ => 0), (fun _ => 0), (fun _ => 0), (fun _ => 0), (fun _ => 0), ?_, ?_, ?_, ?_, ?_, ?_⟩, ?_, ?_, ⟨-1, 0, 0, ?_⟩, ?_⟩
    · repeat rw [up_n (by omega)]
    · repeat rw [up_n (by omega)]
    · repeat rw [up_n (by omega)]
    all_goals simp +decide only [up_s, up_n]
    rfl
  · simp +decide (maxDischargeDepth := 200) only [fo_m o3, ok_t, fo_u, fe_i, fe_l, fe_r, fe_o, List.all_cons, List.all_nil, okv_i, okv_l, okv_n, okv_a, fit_ar, fit_ob, tag_a, elt_2, elt_3, ll_a, pa_a, rep_4, rep_8, dfs_0, dfs_1, dfs_2, dfs_3, dfs_4, dfs_5, dfs_6, dfs_7, ni_K_no, up_n, List.length_cons, List.length_nil, ↓reduceIte, kl_i, kl_r, kl_n, kl_a, kl_l, up_s, up_up, is_0, is_s, gv_0, gv_s, pv_o, rc_o, okI_i, okI_x, okS_i, okB_x, gi_i, pi_i, okL_l, gl_l, pl_l, okA_2, okA_3, ga_a, arr_0, arr_1, arr_10, arr_11, len_a, sw_0, sw_i, sw_r, sw_l, fit_i, fit_z0, fit_z1, nz_0, nz_1, ni_K_s, ni_K_n, Nat.ble_eq, Nat.zero_le, Nat.zero_add, true_and, and_true, and_self, Bool.and_true, Bool.true_and, Bool.and_self, not_true_eq_false, not_false_eq_true, Int32.reduceLE, Int32.reduceLT, Int32.reduceAdd, Int32.reduceSub, Int32.reduceToNatClampNeg, Nat.reduceLeDiff, Nat.reduceAdd, Nat.reduceEqDiff, Nat.reduceSub, List.set_cons_zero, List.set_cons_succ, false_and, and_false]
  · intro s' h' hs X fr fo
    refine hQ s' h' (by omega) X (fun i hi => ?_) fo
    rw [fr i hi]
    repeat rw [up_n (by omega)]
    exact c3 i hi
end
