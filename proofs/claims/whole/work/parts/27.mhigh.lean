set_option maxRecDepth 100000
set_option maxHeartbeats 4000000
/-! ===== the reference's heights ===== -/
def fs_hi (o : Int32 → Int32) : Nat → Nat → Int32 → Int32
  | 0, _, b => b
  | m + 1, j, b => fs_hi o m (j + 1) (if o (nI j) ≤ o b then b else nI j)
/-- the height with most odds, of several the least -/
def fs_high (c : Nat → Int32) (k a n : Int32) (F S : Nat) : Int32 := fs_hi (fs_odds c k a n F S) 8 2 1
section
variable {d k F S : Nat} {z : ni_Z} {h : ni_H} {Q : ni_Q} {x ht : Int32} {g c kd pt ts : Nat → Int32}
theorem L_high (hM : h 49 = fs_mo g) (hF : g 27 = nI F) (hF2 : F < 32) (hC : h 56 = ni_I 5 c) (hK : h 51 = ni_I 4 kd) (hP : h 52 = ni_I 4 pt) (hT : h 55 = ni_I 4 ts) (hk : k < 4) (hq : fs_kd (kd k)) (hS : S < 32) : ∀ (m j : Nat) (b : Int32), j + m = 10 → ni_T (d + 8) 165 5 [.ref 49, .int (nI k), .int (nI S), .int b, .int (nI j)] [] z h Q = Q (some (.int (fs_hi (fs_odds c (kd k) (pt k) (ts k) F S) m j b))) z h := by
  intro m
  induction m with
  | zero =>
    intro j b e
    obtain rfl : j = 10 := by omega
    simp +decide only [s165_0, s165_1, s165_2, s165_3, s165_5, s165_7, s165_9, s165_12, s165_13, s165_14, s165_15, s165_17, s165_20, s165_21, s165_22, s165_23, s165_24, s165_27, s165_30, s165_32, s165_33, s165_36, s165_39, s165_40, show nI 10 = 10 from rfl, ↓reduceIte, kl_i, kl_r, kl_n, kl_a, kl_l, up_s, up_up, is_0, is_s, gv_0, gv_s, pv_o, rc_o, okI_i, okI_x, okS_i, okB_x, gi_i, pi_i, okL_l, gl_l, pl_l, okA_2, okA_3, ga_a, arr_0, arr_1, arr_10, arr_11, len_a, sw_0, sw_i, sw_r, sw_l, fit_i, fit_z0, fit_z1, nz_0, nz_1, ni_K_s, ni_K_n, Nat.ble_eq, Nat.zero_le, Nat.zero_add, true_and, and_true, and_self, Bool.and_true, Bool.true_and, Bool.and_self, not_true_eq_false, not_false_eq_true, Int32.reduceLE, Int32.reduceLT, Int32.reduceAdd, Int32.reduceSub, Int32.reduceToNatClampNeg, Nat.reduceLeDiff, Nat.reduceAdd, Nat.reduceEqDiff, Nat.reduceSub, List.set_cons_zero, List.set_cons_succ, false_and, and_false, fs_hi]
  | succ m ih =>
    intro j b e
    have h1 : ¬ (9 : Int32) < nI j := nI_nlt (a := 9) (b := j) (by omega) (by omega)
    have ih2 := fun b => ih (j + 1) b (by omega)
    have ho := fun (d : Nat) (Q : ni_Q) (ht : Int32) => M_odds (d := d) (z := z) (Q := Q) (ht := ht) hM hF hF2 hC hK hP hT hk hq hS
    rw [s165_5]
    by_cases q : fs_odds c (kd k) (pt k) (ts k) F S (nI j) ≤ fs_odds c (kd k) (pt k) (ts k) F S b <;> simp +decide only [s165_0, s165_1, s165_2, s165_3, s165_7, s165_9, s165_12, s165_13, s165_14, s165_15, s165_17, s165_20, s165_21, s165_22, s165_23, s165_24, s165_27, s165_30, s165_32, s165_33, s165_36, s165_39, s165_40, h1, hM, ho, q, nI_1, ih2, mi_0, mg_0, mi_1, mg_1, mi_2, mg_2, mi_3, mg_3, mi_4, mg_4, mi_5, mg_5, mi_6, mg_6, mi_7, mg_7, mi_8, mg_8, mi_9, mg_9, mi_10, mg_10, mi_11, mg_11, mi_12, mg_12, mi_13, mg_13, mi_14, mg_14, mi_15, mg_15, mi_16, mg_16, mi_17, mg_17, mi_18, mg_18, mi_19, mg_19, mi_20, mg_20, mi_21, mg_21, mi_22, mg_22, mi_23, mg_23, mi_24, mg_24, mi_25, mg_25, mi_26, mg_26, mi_27, mg_27, mi_28, mg_28, mi_29, mg_29, mi_30, mg_30, mi_31, mg_31, mi_32, mg_32, mp_0, mp_1, mp_2, mp_3, mp_4, mp_20, mp_21, mp_22, mp_23, mp_24, mp_27, mp_28, mp_29, mp_31, mp_32, mrc, ud_s, ud_n, ud_u, up_n, ↓reduceIte, kl_i, kl_r, kl_n, kl_a, kl_l, up_s, up_up, is_0, is_s, gv_0, gv_s, pv_o, rc_o, okI_i, okI_x, okS_i, okB_x, gi_i, pi_i, okL_l, gl_l, pl_l, okA_2, okA_3, ga_a, arr_0, arr_1, arr_10, arr_11, len_a, sw_0, sw_i, sw_r, sw_l, fit_i, fit_z0, fit_z1, nz_0, nz_1, ni_K_s, ni_K_n, Nat.ble_eq, Nat.zero_le, Nat.zero_add, true_and, and_true, and_self, Bool.and_true, Bool.true_and, Bool.and_self, not_true_eq_false, not_false_eq_true, Int32.reduceLE, Int32.reduceLT, Int32.reduceAdd, Int32.reduceSub, Int32.reduceToNatClampNeg, Nat.reduceLeDiff, Nat.reduceAdd, Nat.reduceEqDiff, Nat.reduceSub, List.set_cons_zero, List.set_cons_succ, false_and, and_false, fs_hi]
theorem M_high (hM : h 49 = fs_mo g) (hF : g 27 = nI F) (hF2 : F < 32) (hC : h 56 = ni_I 5 c) (hK : h 51 = ni_I 4 kd) (hP : h 52 = ni_I 4 pt) (hT : h 55 = ni_I 4 ts) (hk : k < 4) (hq : fs_kd (kd k)) (hS : S < 32) : ni_T (d + 8) 165 0 [.ref 49, .int (nI k), .int (nI S), .retAddr 0, .retAddr 0] [] z h Q = Q (some (.int (fs_high c (kd k) (pt k) (ts k) F S))) z h := by
  have e := L_high (d := d) (z := z) (Q := Q) hM hF hF2 hC hK hP hT hk hq hS 8 2 1 rfl
  rw [show nI 2 = 2 from rfl] at e
  simp +decide only [s165_0, s165_1, s165_2, s165_3, s165_7, s165_9, s165_12, s165_13, s165_14, s165_15, s165_17, s165_20, s165_21, s165_22, s165_23, s165_24, s165_27, s165_30, s165_32, s165_33, s165_36, s165_39, s165_40, e, ↓reduceIte, kl_i, kl_r, kl_n, kl_a, kl_l, up_s, up_up, is_0, is_s, gv_0, gv_s, pv_o, rc_o, okI_i, okI_x, okS_i, okB_x, gi_i, pi_i, okL_l, gl_l, pl_l, okA_2, okA_3, ga_a, arr_0, arr_1, arr_10, arr_11, len_a, sw_0, sw_i, sw_r, sw_l, fit_i, fit_z0, fit_z1, nz_0, nz_1, ni_K_s, ni_K_n, Nat.ble_eq, Nat.zero_le, Nat.zero_add, true_and, and_true, and_self, Bool.and_true, Bool.true_and, Bool.and_self, not_true_eq_false, not_false_eq_true, Int32.reduceLE, Int32.reduceLT, Int32.reduceAdd, Int32.reduceSub, Int32.reduceToNatClampNeg, Nat.reduceLeDiff, Nat.reduceAdd, Nat.reduceEqDiff, Nat.reduceSub, List.set_cons_zero, List.set_cons_succ, false_and, and_false, fs_high]
end
