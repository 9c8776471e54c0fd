set_option maxRecDepth 100000
set_option maxHeartbeats 4000000
/-! ===== the class's mind, its leaves ===== -/
def fs_us (x y : Int32) : Int32 := (x.toUInt32 >>> (y.toUInt32 &&& Int32.toUInt32 31)).toInt32
def fs_bc (x : Int32) : Int32 :=
  let a := x - (fs_us x 1 &&& 1431655765)
  let b := (a &&& 858993459) + (fs_us a 2 &&& 858993459)
  let c := (b + fs_us b 4) &&& 252645135
  let e := c + fs_us c 8
  (e + fs_us e 16) &&& 63
theorem bc_5 : ∀ s, s < 32 → fs_bc (nI s) = nI (fs_pc s) := by decide +kernel
section
variable {d : Nat} {z : ni_Z} {h : ni_H} {Q : ni_Q} {x y : Int32}
theorem X_bits : ni_T d 200 0 [.int x] [] z h Q = Q (some (.int (fs_bc x))) z h := by
  simp +decide only [s200_0, s200_1, s200_2, s200_3, s200_4, s200_7, s200_8, s200_9, s200_10, s200_11, s200_14, s200_15, s200_16, s200_17, s200_18, s200_21, s200_22, s200_23, s200_24, s200_25, s200_26, s200_27, s200_28, s200_29, s200_32, s200_33, s200_34, s200_35, s200_36, s200_38, s200_39, s200_40, s200_41, s200_42, s200_43, s200_45, s200_46, s200_47, s200_48, s200_49, s200_51, s200_52, ↓reduceIte, kl_i, kl_r, kl_n, kl_a, kl_l, up_s, up_up, is_0, is_s, gv_0, gv_s, pv_o, rc_o, okI_i, okI_x, okS_i, okB_x, gi_i, pi_i, okL_l, gl_l, pl_l, okA_2, okA_3, ga_a, arr_0, arr_1, arr_10, arr_11, len_a, sw_0, sw_i, sw_r, sw_l, fit_i, fit_z0, fit_z1, nz_0, nz_1, ni_K_s, ni_K_n, Nat.ble_eq, Nat.zero_le, Nat.zero_add, true_and, and_true, and_self, Bool.and_true, Bool.true_and, Bool.and_self, not_true_eq_false, not_false_eq_true, Int32.reduceLE, Int32.reduceLT, Int32.reduceAdd, Int32.reduceSub, Int32.reduceToNatClampNeg, Nat.reduceLeDiff, Nat.reduceAdd, Nat.reduceEqDiff, Nat.reduceSub, List.set_cons_zero, List.set_cons_succ, false_and, and_false]
  rfl
theorem X_bitc {s : Nat} (hs : s < 32) : ni_T d 200 0 [.int (nI s)] [] z h Q = Q (some (.int (nI (fs_pc s)))) z h := by
  rw [X_bits, bc_5 s hs]
/-- the stones that those of S touch, out of the row of nears -/
def fs_tb (ne : Nat → Int32) (S : Nat) : Nat → Nat → Int32 → Int32
  | 0, _, b => b
  | m + 1, j, b => fs_tb ne S m (j + 1) (if S.testBit j = true then b ||| ne j else b)
theorem L_tb {ne : Nat → Int32} {S : Nat} {ly li fo : Int32} (hS : S < 32) (hO : h 23 = ni_O 2 [.ref 24, .ref 25, .ref 26, .ref 27, .ref 28, .int li, .int fo]) (hN : h 27 = ni_I 5 ne) : ∀ (m j : Nat) (b : Int32), j + m = 5 → ni_T d 20 5 [.ref 23, .int (nI S), .int ly, .int b, .int (nI j)] [] z h Q = Q (some (.int (fs_tb ne S m j b &&& ly &&& (nI S ^^^ (-1))))) z h := by
  intro m
  induction m with
  | zero =>
    intro j b e
    obtain rfl : j = 5 := by omega
    simp +decide only [s20_0, s20_1, s20_2, s20_3, s20_5, s20_7, s20_8, s20_11, s20_12, s20_14, s20_15, s20_16, s20_17, s20_18, s20_21, s20_22, s20_23, s20_26, s20_28, s20_29, s20_30, s20_31, s20_34, s20_37, s20_38, s20_39, s20_40, s20_41, s20_42, s20_43, s20_44, show nI 5 = 5 from rfl, ↓reduceIte, kl_i, kl_r, kl_n, kl_a, kl_l, up_s, up_up, is_0, is_s, gv_0, gv_s, pv_o, rc_o, okI_i, okI_x, okS_i, okB_x, gi_i, pi_i, okL_l, gl_l, pl_l, okA_2, okA_3, ga_a, arr_0, arr_1, arr_10, arr_11, len_a, sw_0, sw_i, sw_r, sw_l, fit_i, fit_z0, fit_z1, nz_0, nz_1, ni_K_s, ni_K_n, Nat.ble_eq, Nat.zero_le, Nat.zero_add, true_and, and_true, and_self, Bool.and_true, Bool.true_and, Bool.and_self, not_true_eq_false, not_false_eq_true, Int32.reduceLE, Int32.reduceLT, Int32.reduceAdd, Int32.reduceSub, Int32.reduceToNatClampNeg, Nat.reduceLeDiff, Nat.reduceAdd, Nat.reduceEqDiff, Nat.reduceSub, List.set_cons_zero, List.set_cons_succ, false_and, and_false, fs_tb]
  | succ m ih =>
    intro j b e
    have h1 : ¬ (5 : Int32) ≤ nI j := nI_ge (a := j) (b := 5) (by omega) (by omega)
    have ih2 := fun b => ih (j + 1) b (by omega)
    have hb := bt_1 S hS j (by omega)
    rw [s20_5]
    cases q : S.testBit j
    · rw [q, if_neg (by decide)] at hb
      simp +decide only [s20_0, s20_1, s20_2, s20_3, s20_7, s20_8, s20_11, s20_12, s20_14, s20_15, s20_16, s20_17, s20_18, s20_21, s20_22, s20_23, s20_26, s20_28, s20_29, s20_30, s20_31, s20_34, s20_37, s20_38, s20_39, s20_40, s20_41, s20_42, s20_43, s20_44, h1, hb, q, Bool.false_eq_true, nI_1, ih2, ↓reduceIte, kl_i, kl_r, kl_n, kl_a, kl_l, up_s, up_up, is_0, is_s, gv_0, gv_s, pv_o, rc_o, okI_i, okI_x, okS_i, okB_x, gi_i, pi_i, okL_l, gl_l, pl_l, okA_2, okA_3, ga_a, arr_0, arr_1, arr_10, arr_11, len_a, sw_0, sw_i, sw_r, sw_l, fit_i, fit_z0, fit_z1, nz_0, nz_1, ni_K_s, ni_K_n, Nat.ble_eq, Nat.zero_le, Nat.zero_add, true_and, and_true, and_self, Bool.and_true, Bool.true_and, Bool.and_self, not_true_eq_false, not_false_eq_true, Int32.reduceLE, Int32.reduceLT, Int32.reduceAdd, Int32.reduceSub, Int32.reduceToNatClampNeg, Nat.reduceLeDiff, Nat.reduceAdd, Nat.reduceEqDiff, Nat.reduceSub, List.set_cons_zero, List.set_cons_succ, false_and, and_false, fs_tb]
    · rw [q, if_pos rfl] at hb
      simp +decide only [s20_0, s20_1, s20_2, s20_3, s20_7, s20_8, s20_11, s20_12, s20_14, s20_15, s20_16, s20_17, s20_18, s20_21, s20_22, s20_23, s20_26, s20_28, s20_29, s20_30, s20_31, s20_34, s20_37, s20_38, s20_39, s20_40, s20_41, s20_42, s20_43, s20_44, h1, hb, q, hO, hN, in_n (k := j) (n := 5) (by omega) (by decide), nI_clamp (n := j) (by omega), nI_1, ih2, ↓reduceIte, kl_i, kl_r, kl_n, kl_a, kl_l, up_s, up_up, is_0, is_s, gv_0, gv_s, pv_o, rc_o, okI_i, okI_x, okS_i, okB_x, gi_i, pi_i, okL_l, gl_l, pl_l, okA_2, okA_3, ga_a, arr_0, arr_1, arr_10, arr_11, len_a, sw_0, sw_i, sw_r, sw_l, fit_i, fit_z0, fit_z1, nz_0, nz_1, ni_K_s, ni_K_n, Nat.ble_eq, Nat.zero_le, Nat.zero_add, true_and, and_true, and_self, Bool.and_true, Bool.true_and, Bool.and_self, not_true_eq_false, not_false_eq_true, Int32.reduceLE, Int32.reduceLT, Int32.reduceAdd, Int32.reduceSub, Int32.reduceToNatClampNeg, Nat.reduceLeDiff, Nat.reduceAdd, Nat.reduceEqDiff, Nat.reduceSub, List.set_cons_zero, List.set_cons_succ, false_and, and_false, fs_tb]
theorem X_touch {ne : Nat → Int32} {S : Nat} {ly li fo : Int32} (hS : S < 32) (hO : h 23 = ni_O 2 [.ref 24, .ref 25, .ref 26, .ref 27, .ref 28, .int li, .int fo]) (hN : h 27 = ni_I 5 ne) : ni_T d 20 0 [.ref 23, .int (nI S), .int ly, .retAddr 0, .retAddr 0] [] z h Q = Q (some (.int (fs_tb ne S 5 0 0 &&& ly &&& (nI S ^^^ (-1))))) z h := by
  have e := L_tb (d := d) (z := z) (Q := Q) (ly := ly) hS hO hN 5 0 0 rfl
  rw [nI_0] at e
  simp +decide only [s20_0, s20_1, s20_2, s20_3, s20_7, s20_8, s20_11, s20_12, s20_14, s20_15, s20_16, s20_17, s20_18, s20_21, s20_22, s20_23, s20_26, s20_28, s20_29, s20_30, s20_31, s20_34, s20_37, s20_38, s20_39, s20_40, s20_41, s20_42, s20_43, s20_44, e, ↓reduceIte, kl_i, kl_r, kl_n, kl_a, kl_l, up_s, up_up, is_0, is_s, gv_0, gv_s, pv_o, rc_o, okI_i, okI_x, okS_i, okB_x, gi_i, pi_i, okL_l, gl_l, pl_l, okA_2, okA_3, ga_a, arr_0, arr_1, arr_10, arr_11, len_a, sw_0, sw_i, sw_r, sw_l, fit_i, fit_z0, fit_z1, nz_0, nz_1, ni_K_s, ni_K_n, Nat.ble_eq, Nat.zero_le, Nat.zero_add, true_and, and_true, and_self, Bool.and_true, Bool.true_and, Bool.and_self, not_true_eq_false, not_false_eq_true, Int32.reduceLE, Int32.reduceLT, Int32.reduceAdd, Int32.reduceSub, Int32.reduceToNatClampNeg, Nat.reduceLeDiff, Nat.reduceAdd, Nat.reduceEqDiff, Nat.reduceSub, List.set_cons_zero, List.set_cons_succ, false_and, and_false]
end
