set_option maxRecDepth 100000
set_option maxHeartbeats 4000000
section
variable {d S l : Nat} {z : ni_Z} {h : ni_H} {Q : ni_Q} {li fo : Int32} {c pa : Nat → Int32}
def fs_pm (R : Nat) (v : Nat → Int32) : Nat → Nat → Int32 → Int32
  | 0, _, b => b
  | m + 1, j, b => fs_pm R v m (j + 1) (if R.testBit j = true then fs_min b (v j) else b)
/-- the way to stone l through the set S, by the row of paths -/
def fs_pt (pa c : Nat → Int32) (S l : Nat) : Int32 := if S &&& (31 - 2 ^ l) = 0 then fs_far 33 (c l) else fs_pm (S &&& (31 - 2 ^ l)) (fun j => pa ((S &&& (31 - 2 ^ l)) * 5 + j) + fs_far (c j) (c l)) 5 0 100
theorem L_pt {R : Nat} {sv : Int32} (hR : R < 32) (hl : l < 5) (hI : h 23 = ni_O 2 [.ref 24, .ref 25, .ref 26, .ref 27, .ref 28, .int li, .int fo]) (hP : h 28 = ni_I 160 pa) (hC : h 3 = ni_I 5 c) : ∀ (m j : Nat) (b : Int32) (a7 : Value), j + m = 5 → ni_T (d + 2) 18 30 [.ref 23, .ref 3, .int sv, .int (nI l), .int (nI R), .int b, .int (nI j), a7] [] z h Q = Q (some (.int (fs_pm R (fun j => pa (R * 5 + j) + fs_far (c j) (c l)) m j b))) z h := by
  intro m
  induction m with
  | zero =>
    intro j b a7 e
    obtain rfl : j = 5 := by omega
    simp +decide only [s18_0, s18_1, s18_2, s18_3, s18_4, s18_5, s18_6, s18_7, s18_9, s18_11, s18_14, s18_16, s18_16N, s18_17, s18_18, s18_19, s18_22, s18_23, s18_25, s18_27, s18_28, s18_30, s18_32, s18_33, s18_36, s18_38, s18_40, s18_41, s18_42, s18_43, s18_44, s18_47, s18_48, s18_51, s18_53, s18_54, s18_55, s18_57, s18_58, s18_59, s18_59N, s18_60, s18_62, s18_63, s18_63N, s18_64, s18_65, s18_66, s18_69, s18_70, s18_72, s18_74, s18_76, s18_79, s18_81, s18_84, s18_87, s18_89, show nI 5 = 5 from rfl, ↓reduceIte, kl_i, kl_r, kl_n, kl_a, kl_l, up_s, up_up, is_0, is_s, gv_0, gv_s, pv_o, rc_o, okI_i, okI_x, okS_i, okB_x, gi_i, pi_i, okL_l, gl_l, pl_l, okA_2, okA_3, ga_a, arr_0, arr_1, arr_10, arr_11, len_a, sw_0, sw_i, sw_r, sw_l, fit_i, fit_z0, fit_z1, nz_0, nz_1, ni_K_s, ni_K_n, Nat.ble_eq, Nat.zero_le, Nat.zero_add, true_and, and_true, and_self, Bool.and_true, Bool.true_and, Bool.and_self, not_true_eq_false, not_false_eq_true, Int32.reduceLE, Int32.reduceLT, Int32.reduceAdd, Int32.reduceSub, Int32.reduceToNatClampNeg, Nat.reduceLeDiff, Nat.reduceAdd, Nat.reduceEqDiff, Nat.reduceSub, List.set_cons_zero, List.set_cons_succ, false_and, and_false, fs_pm]
  | succ m ih =>
    intro j b a7 e
    have h1 : ¬ (5 : Int32) ≤ nI j := nI_ge (a := j) (b := 5) (by omega) (by omega)
    have ih2 := fun b a7 => ih (j + 1) b a7 (by omega)
    have hb := bt_1 R hR j (by omega)
    have e5 : nI R * 5 + nI j = nI (R * 5 + j) := by rw [show (5 : Int32) = nI 5 from rfl, pk_mul, nI_add]
    rw [s18_30]
    cases q : R.testBit j
    · rw [q, if_neg (by decide)] at hb
      simp +decide only [s18_0, s18_1, s18_2, s18_3, s18_4, s18_5, s18_6, s18_7, s18_9, s18_11, s18_14, s18_16, s18_16N, s18_17, s18_18, s18_19, s18_22, s18_23, s18_25, s18_27, s18_28, s18_32, s18_33, s18_36, s18_38, s18_40, s18_41, s18_42, s18_43, s18_44, s18_47, s18_48, s18_51, s18_53, s18_54, s18_55, s18_57, s18_58, s18_59, s18_59N, s18_60, s18_62, s18_63, s18_63N, s18_64, s18_65, s18_66, s18_69, s18_70, s18_72, s18_74, s18_76, s18_79, s18_81, s18_84, s18_87, s18_89, h1, hb, q, Bool.false_eq_true, nI_1, ih2, ↓reduceIte, kl_i, kl_r, kl_n, kl_a, kl_l, up_s, up_up, is_0, is_s, gv_0, gv_s, pv_o, rc_o, okI_i, okI_x, okS_i, okB_x, gi_i, pi_i, okL_l, gl_l, pl_l, okA_2, okA_3, ga_a, arr_0, arr_1, arr_10, arr_11, len_a, sw_0, sw_i, sw_r, sw_l, fit_i, fit_z0, fit_z1, nz_0, nz_1, ni_K_s, ni_K_n, Nat.ble_eq, Nat.zero_le, Nat.zero_add, true_and, and_true, and_self, Bool.and_true, Bool.true_and, Bool.and_self, not_true_eq_false, not_false_eq_true, Int32.reduceLE, Int32.reduceLT, Int32.reduceAdd, Int32.reduceSub, Int32.reduceToNatClampNeg, Nat.reduceLeDiff, Nat.reduceAdd, Nat.reduceEqDiff, Nat.reduceSub, List.set_cons_zero, List.set_cons_succ, false_and, and_false, fs_pm]
    · rw [q, if_pos rfl] at hb
      simp +decide only [s18_0, s18_1, s18_2, s18_3, s18_4, s18_5, s18_6, s18_7, s18_9, s18_11, s18_14, s18_16, s18_16N, s18_17, s18_18, s18_19, s18_22, s18_23, s18_25, s18_27, s18_28, s18_32, s18_33, s18_36, s18_38, s18_40, s18_41, s18_42, s18_43, s18_44, s18_47, s18_48, s18_51, s18_53, s18_54, s18_55, s18_57, s18_58, s18_59, s18_59N, s18_60, s18_62, s18_63, s18_63N, s18_64, s18_65, s18_66, s18_69, s18_70, s18_72, s18_74, s18_76, s18_79, s18_81, s18_84, s18_87, s18_89, h1, hb, q, hI, hP, hC, X_far, e5, in_n (k := R * 5 + j) (n := 160) (by omega) (by decide), nI_clamp (n := R * 5 + j) (by omega), in_n (k := j) (n := 5) (by omega) (by decide), nI_clamp (n := j) (by omega), in_n (k := l) (n := 5) hl (by decide), nI_clamp (n := l) (by omega), nI_1, ih2, ↓reduceIte, kl_i, kl_r, kl_n, kl_a, kl_l, up_s, up_up, is_0, is_s, gv_0, gv_s, pv_o, rc_o, okI_i, okI_x, okS_i, okB_x, gi_i, pi_i, okL_l, gl_l, pl_l, okA_2, okA_3, ga_a, arr_0, arr_1, arr_10, arr_11, len_a, sw_0, sw_i, sw_r, sw_l, fit_i, fit_z0, fit_z1, nz_0, nz_1, ni_K_s, ni_K_n, Nat.ble_eq, Nat.zero_le, Nat.zero_add, true_and, and_true, and_self, Bool.and_true, Bool.true_and, Bool.and_self, not_true_eq_false, not_false_eq_true, Int32.reduceLE, Int32.reduceLT, Int32.reduceAdd, Int32.reduceSub, Int32.reduceToNatClampNeg, Nat.reduceLeDiff, Nat.reduceAdd, Nat.reduceEqDiff, Nat.reduceSub, List.set_cons_zero, List.set_cons_succ, false_and, and_false, fs_pm, fs_min]
theorem X_pt (hS : S < 32) (hl : l < 5) (hI : h 23 = ni_O 2 [.ref 24, .ref 25, .ref 26, .ref 27, .ref 28, .int li, .int fo]) (hP : h 28 = ni_I 160 pa) (hC : h 3 = ni_I 5 c) : ni_T (d + 2) 18 0 [.ref 23, .ref 3, .int (nI S), .int (nI l), .retAddr 0, .retAddr 0, .retAddr 0, .retAddr 0] [] z h Q = Q (some (.int (fs_pt pa c S l))) z h := by
  have hR : S &&& (31 - 2 ^ l) < 32 := by
    have : 2 ^ l < 32 := by
      match l, hl with
      | 0, _ => decide
      | 1, _ => decide
      | 2, _ => decide
      | 3, _ => decide
      | 4, _ => decide
      | l + 5, h => omega
    exact bt_8 S hS (2 ^ l) this
  have hr := bt_2 S hS l hl
  by_cases q : S &&& (31 - 2 ^ l) = 0
  · rw [q, nI_0] at hr
    simp +decide only [s18_0, s18_1, s18_2, s18_3, s18_4, s18_5, s18_6, s18_7, s18_9, s18_11, s18_14, s18_16, s18_16N, s18_17, s18_18, s18_19, s18_22, s18_23, s18_25, s18_27, s18_28, s18_32, s18_33, s18_36, s18_38, s18_40, s18_41, s18_42, s18_43, s18_44, s18_47, s18_48, s18_51, s18_53, s18_54, s18_55, s18_57, s18_58, s18_59, s18_59N, s18_60, s18_62, s18_63, s18_63N, s18_64, s18_65, s18_66, s18_69, s18_70, s18_72, s18_74, s18_76, s18_79, s18_81, s18_84, s18_87, s18_89, hr, hC, X_far, in_n (k := l) (n := 5) hl (by decide), nI_clamp (n := l) (by omega), ↓reduceIte, kl_i, kl_r, kl_n, kl_a, kl_l, up_s, up_up, is_0, is_s, gv_0, gv_s, pv_o, rc_o, okI_i, okI_x, okS_i, okB_x, gi_i, pi_i, okL_l, gl_l, pl_l, okA_2, okA_3, ga_a, arr_0, arr_1, arr_10, arr_11, len_a, sw_0, sw_i, sw_r, sw_l, fit_i, fit_z0, fit_z1, nz_0, nz_1, ni_K_s, ni_K_n, Nat.ble_eq, Nat.zero_le, Nat.zero_add, true_and, and_true, and_self, Bool.and_true, Bool.true_and, Bool.and_self, not_true_eq_false, not_false_eq_true, Int32.reduceLE, Int32.reduceLT, Int32.reduceAdd, Int32.reduceSub, Int32.reduceToNatClampNeg, Nat.reduceLeDiff, Nat.reduceAdd, Nat.reduceEqDiff, Nat.reduceSub, List.set_cons_zero, List.set_cons_succ, false_and, and_false, fs_pt, q]
  · have hn : ¬ nI (S &&& (31 - 2 ^ l)) = 0 := nI_ne0 (by omega) (by omega)
    have e := L_pt (d := d) (z := z) (Q := Q) (sv := nI S) hR hl hI hP hC 5 0 100 (.retAddr 0) rfl
    rw [nI_0] at e
    simp +decide only [s18_0, s18_1, s18_2, s18_3, s18_4, s18_5, s18_6, s18_7, s18_9, s18_11, s18_14, s18_16, s18_16N, s18_17, s18_18, s18_19, s18_22, s18_23, s18_25, s18_27, s18_28, s18_32, s18_33, s18_36, s18_38, s18_40, s18_41, s18_42, s18_43, s18_44, s18_47, s18_48, s18_51, s18_53, s18_54, s18_55, s18_57, s18_58, s18_59, s18_59N, s18_60, s18_62, s18_63, s18_63N, s18_64, s18_65, s18_66, s18_69, s18_70, s18_72, s18_74, s18_76, s18_79, s18_81, s18_84, s18_87, s18_89, hr, hn, e, ↓reduceIte, kl_i, kl_r, kl_n, kl_a, kl_l, up_s, up_up, is_0, is_s, gv_0, gv_s, pv_o, rc_o, okI_i, okI_x, okS_i, okB_x, gi_i, pi_i, okL_l, gl_l, pl_l, okA_2, okA_3, ga_a, arr_0, arr_1, arr_10, arr_11, len_a, sw_0, sw_i, sw_r, sw_l, fit_i, fit_z0, fit_z1, nz_0, nz_1, ni_K_s, ni_K_n, Nat.ble_eq, Nat.zero_le, Nat.zero_add, true_and, and_true, and_self, Bool.and_true, Bool.true_and, Bool.and_self, not_true_eq_false, not_false_eq_true, Int32.reduceLE, Int32.reduceLT, Int32.reduceAdd, Int32.reduceSub, Int32.reduceToNatClampNeg, Nat.reduceLeDiff, Nat.reduceAdd, Nat.reduceEqDiff, Nat.reduceSub, List.set_cons_zero, List.set_cons_succ, false_and, and_false, fs_pt, q]
end
