set_option maxRecDepth 100000
set_option maxHeartbeats 4000000
section
variable {d S : Nat} {z : ni_Z} {Q : ni_Q} {li fo : Int32} {c : Nat → Int32}
def fs_wt (c : Nat → Int32) (S : Nat) : Nat → Nat → Int32 → (Nat → Int32) → Int32 × (Nat → Int32)
  | 0, _, b, pa => (b, pa)
  | m + 1, j, b, pa => if S.testBit j = true then fs_wt c S m (j + 1) (fs_min b (fs_pt pa c S j + fs_far (c j) 33)) (upd pa (S * 5 + j) (fs_pt pa c S j)) else fs_wt c S m (j + 1) b pa
theorem L_wt (hS : S < 32) : ∀ (m j : Nat) (b : Int32) (a5 : Value) (pa : Nat → Int32) (h : ni_H), j + m = 5 → h 23 = ni_O 2 [.ref 24, .ref 25, .ref 26, .ref 27, .ref 28, .int li, .int fo] → h 28 = ni_I 160 pa → h 3 = ni_I 5 c → ni_T (d + 3) 17 6 [.ref 23, .ref 3, .int (nI S), .int b, .int (nI j), a5] [] z h Q = Q (some (.int (fs_wt c S m j b pa).1)) z (ni_up h 28 (ni_I 160 (fs_wt c S m j b pa).2)) := by
  intro m
  induction m with
  | zero =>
    intro j b a5 pa h e hI hP hC
    obtain rfl : j = 5 := by omega
    simp +decide only [s17_0, s17_2, s17_3, s17_4, s17_6, s17_8, s17_9, s17_12, s17_13, s17_15, s17_16, s17_17, s17_18, s17_19, s17_22, s17_23, s17_23N, s17_24, s17_25, s17_27, s17_27N0, s17_30, s17_32, s17_33, s17_36, s17_37, s17_38, s17_39, s17_41, s17_42, s17_44, s17_45, s17_46, s17_48, s17_48N, s17_49, s17_51, s17_52, s17_54, s17_57, s17_58, s17_61, s17_62, s17_65, s17_68, s17_69, show nI 5 = 5 from rfl, ↓reduceIte, kl_i, kl_r, kl_n, kl_a, kl_l, up_s, up_up, is_0, is_s, gv_0, gv_s, pv_o, rc_o, okI_i, okI_x, okS_i, okB_x, gi_i, pi_i, okL_l, gl_l, pl_l, okA_2, okA_3, ga_a, arr_0, arr_1, arr_10, arr_11, len_a, sw_0, sw_i, sw_r, sw_l, fit_i, fit_z0, fit_z1, nz_0, nz_1, ni_K_s, ni_K_n, Nat.ble_eq, Nat.zero_le, Nat.zero_add, true_and, and_true, and_self, Bool.and_true, Bool.true_and, Bool.and_self, not_true_eq_false, not_false_eq_true, Int32.reduceLE, Int32.reduceLT, Int32.reduceAdd, Int32.reduceSub, Int32.reduceToNatClampNeg, Nat.reduceLeDiff, Nat.reduceAdd, Nat.reduceEqDiff, Nat.reduceSub, List.set_cons_zero, List.set_cons_succ, false_and, and_false, fs_wt]
    rw [up_id hP]
  | succ m ih =>
    intro j b a5 pa h e hI hP hC
    have h1 : ¬ (5 : Int32) ≤ nI j := nI_ge (a := j) (b := 5) (by omega) (by omega)
    have hb := bt_1 S hS j (by omega)
    have e5 : nI S * 5 + nI j = nI (S * 5 + j) := by rw [show (5 : Int32) = nI 5 from rfl, pk_mul, nI_add]
    have hp := fun (d : Nat) (Q : ni_Q) => X_pt (d := d) (z := z) (Q := Q) (l := j) hS (by omega) hI hP hC
    rw [s17_6]
    cases q : S.testBit j
    · rw [q, if_neg (by decide)] at hb
      simp +decide only [s17_0, s17_2, s17_3, s17_4, s17_8, s17_9, s17_12, s17_13, s17_15, s17_16, s17_17, s17_18, s17_19, s17_22, s17_23, s17_23N, s17_24, s17_25, s17_27, s17_27N0, s17_30, s17_32, s17_33, s17_36, s17_37, s17_38, s17_39, s17_41, s17_42, s17_44, s17_45, s17_46, s17_48, s17_48N, s17_49, s17_51, s17_52, s17_54, s17_57, s17_58, s17_61, s17_62, s17_65, s17_68, s17_69, h1, hb, q, Bool.false_eq_true, nI_1, ↓reduceIte, kl_i, kl_r, kl_n, kl_a, kl_l, up_s, up_up, is_0, is_s, gv_0, gv_s, pv_o, rc_o, okI_i, okI_x, okS_i, okB_x, gi_i, pi_i, okL_l, gl_l, pl_l, okA_2, okA_3, ga_a, arr_0, arr_1, arr_10, arr_11, len_a, sw_0, sw_i, sw_r, sw_l, fit_i, fit_z0, fit_z1, nz_0, nz_1, ni_K_s, ni_K_n, Nat.ble_eq, Nat.zero_le, Nat.zero_add, true_and, and_true, and_self, Bool.and_true, Bool.true_and, Bool.and_self, not_true_eq_false, not_false_eq_true, Int32.reduceLE, Int32.reduceLT, Int32.reduceAdd, Int32.reduceSub, Int32.reduceToNatClampNeg, Nat.reduceLeDiff, Nat.reduceAdd, Nat.reduceEqDiff, Nat.reduceSub, List.set_cons_zero, List.set_cons_succ, false_and, and_false, fs_wt]
      rw [ih (j + 1) b a5 pa h (by omega) hI hP hC]
    · rw [q, if_pos rfl] at hb
      simp +decide only [s17_0, s17_2, s17_3, s17_4, s17_8, s17_9, s17_12, s17_13, s17_15, s17_16, s17_17, s17_18, s17_19, s17_22, s17_23, s17_23N, s17_24, s17_25, s17_27, s17_27N0, s17_30, s17_32, s17_33, s17_36, s17_37, s17_38, s17_39, s17_41, s17_42, s17_44, s17_45, s17_46, s17_48, s17_48N, s17_49, s17_51, s17_52, s17_54, s17_57, s17_58, s17_61, s17_62, s17_65, s17_68, s17_69, h1, hb, q, hI, hP, hC, hp, X_far, e5, in_n (k := S * 5 + j) (n := 160) (by omega) (by decide), nI_clamp (n := S * 5 + j) (by omega), in_n (k := j) (n := 5) (by omega) (by decide), nI_clamp (n := j) (by omega), nI_1, up_n, ↓reduceIte, kl_i, kl_r, kl_n, kl_a, kl_l, up_s, up_up, is_0, is_s, gv_0, gv_s, pv_o, rc_o, okI_i, okI_x, okS_i, okB_x, gi_i, pi_i, okL_l, gl_l, pl_l, okA_2, okA_3, ga_a, arr_0, arr_1, arr_10, arr_11, len_a, sw_0, sw_i, sw_r, sw_l, fit_i, fit_z0, fit_z1, nz_0, nz_1, ni_K_s, ni_K_n, Nat.ble_eq, Nat.zero_le, Nat.zero_add, true_and, and_true, and_self, Bool.and_true, Bool.true_and, Bool.and_self, not_true_eq_false, not_false_eq_true, Int32.reduceLE, Int32.reduceLT, Int32.reduceAdd, Int32.reduceSub, Int32.reduceToNatClampNeg, Nat.reduceLeDiff, Nat.reduceAdd, Nat.reduceEqDiff, Nat.reduceSub, List.set_cons_zero, List.set_cons_succ, false_and, and_false, fs_wt]
      rw [ih (j + 1) _ _ (upd pa (S * 5 + j) (fs_pt pa c S j)) _ (by omega) (by rw [up_n (by decide)]; exact hI) up_s (by rw [up_n (by decide)]; exact hC), up_up]
      rfl
theorem X_wt {h : ni_H} {pa : Nat → Int32} (hS : S < 32) (hI : h 23 = ni_O 2 [.ref 24, .ref 25, .ref 26, .ref 27, .ref 28, .int li, .int fo]) (hP : h 28 = ni_I 160 pa) (hC : h 3 = ni_I 5 c) : ni_T (d + 3) 17 0 [.ref 23, .ref 3, .int (nI S), .retAddr 0, .retAddr 0, .retAddr 0] [] z h Q = Q (some (.int (fs_wt c S 5 0 100 pa).1)) z (ni_up h 28 (ni_I 160 (fs_wt c S 5 0 100 pa).2)) := by
  have e := L_wt (d := d) (z := z) (Q := Q) hS 5 0 100 (.retAddr 0) pa h rfl hI hP hC
  rw [nI_0] at e
  simp +decide only [s17_0, s17_2, s17_3, s17_4, s17_8, s17_9, s17_12, s17_13, s17_15, s17_16, s17_17, s17_18, s17_19, s17_22, s17_23, s17_23N, s17_24, s17_25, s17_27, s17_27N0, s17_30, s17_32, s17_33, s17_36, s17_37, s17_38, s17_39, s17_41, s17_42, s17_44, s17_45, s17_46, s17_48, s17_48N, s17_49, s17_51, s17_52, s17_54, s17_57, s17_58, s17_61, s17_62, s17_65, s17_68, s17_69, e, ↓reduceIte, kl_i, kl_r, kl_n, kl_a, kl_l, up_s, up_up, is_0, is_s, gv_0, gv_s, pv_o, rc_o, okI_i, okI_x, okS_i, okB_x, gi_i, pi_i, okL_l, gl_l, pl_l, okA_2, okA_3, ga_a, arr_0, arr_1, arr_10, arr_11, len_a, sw_0, sw_i, sw_r, sw_l, fit_i, fit_z0, fit_z1, nz_0, nz_1, ni_K_s, ni_K_n, Nat.ble_eq, Nat.zero_le, Nat.zero_add, true_and, and_true, and_self, Bool.and_true, Bool.true_and, Bool.and_self, not_true_eq_false, not_false_eq_true, Int32.reduceLE, Int32.reduceLT, Int32.reduceAdd, Int32.reduceSub, Int32.reduceToNatClampNeg, Nat.reduceLeDiff, Nat.reduceAdd, Nat.reduceEqDiff, Nat.reduceSub, List.set_cons_zero, List.set_cons_succ, false_and, and_false]
end
