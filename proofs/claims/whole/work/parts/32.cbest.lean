set_option maxRecDepth 100000
set_option maxHeartbeats 4000000
section
variable {d o S : Nat} {z : ni_Z} {h : ni_H} {Q : ni_Q} {x y ht ly li fo nu kd a lv ro ts : Int32} {wy ne : Nat → Int32}
/-- the odds at the first height with any -/
def fs_bo (o : Int32 → Int32) : Nat → Nat → Int32 → Int32
  | 0, _, b => b
  | m + 1, j, b => if b = 0 then fs_bo o m (j + 1) (o (nI j)) else b
theorem L_bo (hO : h o = ni_O 1 [.int nu, .int kd, .int a, .int lv, .int ro, .int ts]) (hk : fs_kd kd) (hI : h 23 = ni_O 2 [.ref 24, .ref 25, .ref 26, .ref 27, .ref 28, .int li, .int fo]) (hW : h 24 = ni_I 32 wy) (hN : h 27 = ni_I 5 ne) (hS : S < 32) : ∀ (m j : Nat) (b : Int32), j + m = 10 → ni_T (d + 2) 22 6 [.ref 23, .ref o, .int (nI S), .int ly, .int b, .int (nI j)] [] z h Q = Q (some (.int (fs_bo (fs_oc wy ne kd a ts S ly) m j b))) z h := by
  intro m
  induction m with
  | zero =>
    intro j b e
    obtain rfl : j = 10 := by omega
    simp +decide only [s22_0, s22_1, s22_3, s22_4, s22_6, s22_8, s22_10, s22_13, s22_15, s22_18, s22_19, s22_19N, s22_20, s22_21, s22_22, s22_24, s22_24N0, s22_27, s22_29, s22_32, s22_35, s22_37, show nI 10 = 10 from rfl, ↓reduceIte, kl_i, kl_r, kl_n, kl_a, kl_l, up_s, up_up, is_0, is_s, gv_0, gv_s, pv_o, rc_o, okI_i, okI_x, okS_i, okB_x, gi_i, pi_i, okL_l, gl_l, pl_l, okA_2, okA_3, ga_a, arr_0, arr_1, arr_10, arr_11, len_a, sw_0, sw_i, sw_r, sw_l, fit_i, fit_z0, fit_z1, nz_0, nz_1, ni_K_s, ni_K_n, Nat.ble_eq, Nat.zero_le, Nat.zero_add, true_and, and_true, and_self, Bool.and_true, Bool.true_and, Bool.and_self, not_true_eq_false, not_false_eq_true, Int32.reduceLE, Int32.reduceLT, Int32.reduceAdd, Int32.reduceSub, Int32.reduceToNatClampNeg, Nat.reduceLeDiff, Nat.reduceAdd, Nat.reduceEqDiff, Nat.reduceSub, List.set_cons_zero, List.set_cons_succ, false_and, and_false, fs_bo]
  | succ m ih =>
    intro j b e
    have h1 : ¬ (9 : Int32) < nI j := nI_nlt (a := 9) (b := j) (by omega) (by omega)
    have ih2 := fun b => ih (j + 1) b (by omega)
    have ho := fun (d : Nat) (Q : ni_Q) (ht : Int32) => X_odds (d := d) (z := z) (Q := Q) (ht := ht) (ly := ly) hO hk hI hW hN hS
    rw [s22_6]
    by_cases q : b = 0 <;> simp +decide only [s22_0, s22_1, s22_3, s22_4, s22_8, s22_10, s22_13, s22_15, s22_18, s22_19, s22_19N, s22_20, s22_21, s22_22, s22_24, s22_24N0, s22_27, s22_29, s22_32, s22_35, s22_37, h1, hI, ho, q, nI_1, ih2, ↓reduceIte, kl_i, kl_r, kl_n, kl_a, kl_l, up_s, up_up, is_0, is_s, gv_0, gv_s, pv_o, rc_o, okI_i, okI_x, okS_i, okB_x, gi_i, pi_i, okL_l, gl_l, pl_l, okA_2, okA_3, ga_a, arr_0, arr_1, arr_10, arr_11, len_a, sw_0, sw_i, sw_r, sw_l, fit_i, fit_z0, fit_z1, nz_0, nz_1, ni_K_s, ni_K_n, Nat.ble_eq, Nat.zero_le, Nat.zero_add, true_and, and_true, and_self, Bool.and_true, Bool.true_and, Bool.and_self, not_true_eq_false, not_false_eq_true, Int32.reduceLE, Int32.reduceLT, Int32.reduceAdd, Int32.reduceSub, Int32.reduceToNatClampNeg, Nat.reduceLeDiff, Nat.reduceAdd, Nat.reduceEqDiff, Nat.reduceSub, List.set_cons_zero, List.set_cons_succ, false_and, and_false, fs_bo]
theorem X_bo (hO : h o = ni_O 1 [.int nu, .int kd, .int a, .int lv, .int ro, .int ts]) (hk : fs_kd kd) (hI : h 23 = ni_O 2 [.ref 24, .ref 25, .ref 26, .ref 27, .ref 28, .int li, .int fo]) (hW : h 24 = ni_I 32 wy) (hN : h 27 = ni_I 5 ne) (hS : S < 32) : ni_T (d + 2) 22 0 [.ref 23, .ref o, .int (nI S), .int ly, .retAddr 0, .retAddr 0] [] z h Q = Q (some (.int (fs_bo (fs_oc wy ne kd a ts S ly) 9 1 0))) z h := by
  have e := L_bo (d := d) (z := z) (Q := Q) (ly := ly) hO hk hI hW hN hS 9 1 0 rfl
  rw [show nI 1 = 1 from rfl] at e
  simp +decide only [s22_0, s22_1, s22_3, s22_4, s22_8, s22_10, s22_13, s22_15, s22_18, s22_19, s22_19N, s22_20, s22_21, s22_22, s22_24, s22_24N0, s22_27, s22_29, s22_32, s22_35, s22_37, e, ↓reduceIte, kl_i, kl_r, kl_n, kl_a, kl_l, up_s, up_up, is_0, is_s, gv_0, gv_s, pv_o, rc_o, okI_i, okI_x, okS_i, okB_x, gi_i, pi_i, okL_l, gl_l, pl_l, okA_2, okA_3, ga_a, arr_0, arr_1, arr_10, arr_11, len_a, sw_0, sw_i, sw_r, sw_l, fit_i, fit_z0, fit_z1, nz_0, nz_1, ni_K_s, ni_K_n, Nat.ble_eq, Nat.zero_le, Nat.zero_add, true_and, and_true, and_self, Bool.and_true, Bool.true_and, Bool.and_self, not_true_eq_false, not_false_eq_true, Int32.reduceLE, Int32.reduceLT, Int32.reduceAdd, Int32.reduceSub, Int32.reduceToNatClampNeg, Nat.reduceLeDiff, Nat.reduceAdd, Nat.reduceEqDiff, Nat.reduceSub, List.set_cons_zero, List.set_cons_succ, false_and, and_false]
end
