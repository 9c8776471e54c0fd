set_option maxRecDepth 100000
set_option maxHeartbeats 4000000
section
variable {d N S k : Nat} {z : ni_Z} {h : ni_H} {Q : ni_Q}
def fs_mb (N S k : Nat) : Bool := decide (fs_pc N = k) || decide (fs_pc N = fs_pc S % k)
theorem X_may (hN : N < 32) (hS : S < 32) (hk : 0 < k) (hk4 : k ≤ 4) : ni_T (d + 1) 25 0 [.int (nI N), .int (nI S), .int (nI k), .retAddr 0] [] z h Q = Q (some (.int (fs_b (fs_mb N S k)))) z h := by
  have pN := bt_pc5 N hN
  have pS := bt_pc5 S hS
  have k0 : ¬ nI k = 0 := nI_ne0 hk (by omega)
  have k1 : ¬ nI k ≤ 0 := nI_nle hk (by omega)
  have hr : nI (fs_pc S) - nI (fs_pc S) / nI k * nI k = nI (fs_pc S % k) := pk_rem (by omega) hk (by omega)
  have hm : fs_pc S % k < 5 := Nat.lt_of_lt_of_le (Nat.mod_lt _ hk) (by omega)
  by_cases q1 : fs_pc N = k
  · have e1 : nI (fs_pc N) = nI k := by rw [q1]
    simp +decide only [s25_0, s25_1, s25_4, s25_5, s25_6, s25_7, s25_10, s25_11, s25_14, s25_15, s25_16, s25_19, s25_20, s25_21, s25_24, s25_25, s25_28, s25_29, X_bitc hN, e1, eq_self, ↓reduceIte, kl_i, kl_r, kl_n, kl_a, kl_l, up_s, up_up, is_0, is_s, gv_0, gv_s, pv_o, rc_o, okI_i, okI_x, okS_i, okB_x, gi_i, pi_i, okL_l, gl_l, pl_l, okA_2, okA_3, ga_a, arr_0, arr_1, arr_10, arr_11, len_a, sw_0, sw_i, sw_r, sw_l, fit_i, fit_z0, fit_z1, nz_0, nz_1, ni_K_s, ni_K_n, Nat.ble_eq, Nat.zero_le, Nat.zero_add, true_and, and_true, and_self, Bool.and_true, Bool.true_and, Bool.and_self, not_true_eq_false, not_false_eq_true, Int32.reduceLE, Int32.reduceLT, Int32.reduceAdd, Int32.reduceSub, Int32.reduceToNatClampNeg, Nat.reduceLeDiff, Nat.reduceAdd, Nat.reduceEqDiff, Nat.reduceSub, List.set_cons_zero, List.set_cons_succ, false_and, and_false, fs_mb, q1, decide_true, Bool.true_or, fs_b]
  · have e1 : ¬ nI (fs_pc N) = nI k := fun e => q1 ((nI_eq (by omega) (by omega)).mp e)
    by_cases q2 : fs_pc N = fs_pc S % k
    · have e2 : nI (fs_pc N) = nI (fs_pc S % k) := by rw [q2]
      simp +decide only [s25_0, s25_1, s25_4, s25_5, s25_6, s25_7, s25_10, s25_11, s25_14, s25_15, s25_16, s25_19, s25_20, s25_21, s25_24, s25_25, s25_28, s25_29, X_bitc hN, X_bitc hS, e1, k0, k1, hr, e2, eq_self, ↓reduceIte, kl_i, kl_r, kl_n, kl_a, kl_l, up_s, up_up, is_0, is_s, gv_0, gv_s, pv_o, rc_o, okI_i, okI_x, okS_i, okB_x, gi_i, pi_i, okL_l, gl_l, pl_l, okA_2, okA_3, ga_a, arr_0, arr_1, arr_10, arr_11, len_a, sw_0, sw_i, sw_r, sw_l, fit_i, fit_z0, fit_z1, nz_0, nz_1, ni_K_s, ni_K_n, Nat.ble_eq, Nat.zero_le, Nat.zero_add, true_and, and_true, and_self, Bool.and_true, Bool.true_and, Bool.and_self, not_true_eq_false, not_false_eq_true, Int32.reduceLE, Int32.reduceLT, Int32.reduceAdd, Int32.reduceSub, Int32.reduceToNatClampNeg, Nat.reduceLeDiff, Nat.reduceAdd, Nat.reduceEqDiff, Nat.reduceSub, List.set_cons_zero, List.set_cons_succ, false_and, and_false, fs_mb, q1, decide_false, decide_true, Bool.false_or, fs_b]
      simp [q2]
    · have e2 : ¬ nI (fs_pc N) = nI (fs_pc S % k) := fun e => q2 ((nI_eq (by omega) (by omega)).mp e)
      simp +decide only [s25_0, s25_1, s25_4, s25_5, s25_6, s25_7, s25_10, s25_11, s25_14, s25_15, s25_16, s25_19, s25_20, s25_21, s25_24, s25_25, s25_28, s25_29, X_bitc hN, X_bitc hS, e1, k0, k1, hr, e2, ↓reduceIte, kl_i, kl_r, kl_n, kl_a, kl_l, up_s, up_up, is_0, is_s, gv_0, gv_s, pv_o, rc_o, okI_i, okI_x, okS_i, okB_x, gi_i, pi_i, okL_l, gl_l, pl_l, okA_2, okA_3, ga_a, arr_0, arr_1, arr_10, arr_11, len_a, sw_0, sw_i, sw_r, sw_l, fit_i, fit_z0, fit_z1, nz_0, nz_1, ni_K_s, ni_K_n, Nat.ble_eq, Nat.zero_le, Nat.zero_add, true_and, and_true, and_self, Bool.and_true, Bool.true_and, Bool.and_self, not_true_eq_false, not_false_eq_true, Int32.reduceLE, Int32.reduceLT, Int32.reduceAdd, Int32.reduceSub, Int32.reduceToNatClampNeg, Nat.reduceLeDiff, Nat.reduceAdd, Nat.reduceEqDiff, Nat.reduceSub, List.set_cons_zero, List.set_cons_succ, false_and, and_false, fs_mb, q1, q2, decide_false, Bool.false_or, fs_b]
end
