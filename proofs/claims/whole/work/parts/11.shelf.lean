set_option maxRecDepth 100000
set_option maxHeartbeats 4000000
/-! ===== Arrays.fill, shelves ===== -/
theorem L_fillL {d o n : Nat} {z : ni_Z} {Q : ni_Q} {v : Int64} (hn : n < 2 ^ 31) : ∀ (k i : Nat) (f : Nat → Int64) (h : ni_H), i + k = n → h o = ni_L n f → ni_T d 208 6 [.ref o, .long v, .retAddr 1, .int (nI i), .int (nI n)] [] z h Q = Q none z (ni_up h o (ni_L n (fun j => if i ≤ j ∧ j < n then v else f j))) := by
  intro k
  induction k with
  | zero =>
    intro i f h e ho
    have c : nI n ≤ nI i := nI_le (by omega) (by omega)
    simp +decide only [s208_0, s208_1, s208_2, s208_2N, s208_3, s208_4, s208_6, s208_7, s208_9, s208_12, s208_12N, s208_13, s208_14, s208_15, s208_16, s208_19, s208_22, c, ↓reduceIte, kl_i, kl_r, kl_n, kl_a, kl_l, up_s, up_up, is_0, is_s, gv_0, gv_s, pv_o, rc_o, okI_i, okI_x, okS_i, okB_x, gi_i, pi_i, okL_l, gl_l, pl_l, okA_2, okA_3, ga_a, arr_0, arr_1, arr_10, arr_11, len_a, sw_0, sw_i, sw_r, sw_l, fit_i, fit_z0, fit_z1, nz_0, nz_1, ni_K_s, ni_K_n, Nat.ble_eq, Nat.zero_le, Nat.zero_add, true_and, and_true, and_self, Bool.and_true, Bool.true_and, Bool.and_self, not_true_eq_false, not_false_eq_true, Int32.reduceLE, Int32.reduceLT, Int32.reduceAdd, Int32.reduceSub, Int32.reduceToNatClampNeg, Nat.reduceLeDiff, Nat.reduceAdd, Nat.reduceEqDiff, Nat.reduceSub, List.set_cons_zero, List.set_cons_succ, false_and, and_false]
    congr 1
    refine (up_id ?_).symm
    rw [ho]
    have : (fun j => if i ≤ j ∧ j < n then v else f j) = f := by
      funext j
      rw [if_neg (by omega)]
    rw [this]
  | succ k ih =>
    intro i f h e ho
    have c : ¬ nI n ≤ nI i := nI_ge (by omega) (by omega)
    have ci : ni_in (nI i) n = true := in_n (by omega) hn
    rw [s208_6]
    simp +decide only [s208_0, s208_1, s208_2, s208_2N, s208_3, s208_4, s208_7, s208_9, s208_12, s208_12N, s208_13, s208_14, s208_15, s208_16, s208_19, s208_22, c, ho, ci, nI_1, nI_clamp (n := i) (by omega), ↓reduceIte, kl_i, kl_r, kl_n, kl_a, kl_l, up_s, up_up, is_0, is_s, gv_0, gv_s, pv_o, rc_o, okI_i, okI_x, okS_i, okB_x, gi_i, pi_i, okL_l, gl_l, pl_l, okA_2, okA_3, ga_a, arr_0, arr_1, arr_10, arr_11, len_a, sw_0, sw_i, sw_r, sw_l, fit_i, fit_z0, fit_z1, nz_0, nz_1, ni_K_s, ni_K_n, Nat.ble_eq, Nat.zero_le, Nat.zero_add, true_and, and_true, and_self, Bool.and_true, Bool.true_and, Bool.and_self, not_true_eq_false, not_false_eq_true, Int32.reduceLE, Int32.reduceLT, Int32.reduceAdd, Int32.reduceSub, Int32.reduceToNatClampNeg, Nat.reduceLeDiff, Nat.reduceAdd, Nat.reduceEqDiff, Nat.reduceSub, List.set_cons_zero, List.set_cons_succ, false_and, and_false]
    rw [ih (i + 1) (vp_updL f i v) _ (by omega) up_s, up_up]
    congr 3
    funext j
    unfold vp_updL
    by_cases q : j = i
    · subst q
      rw [if_neg (by omega), if_pos rfl, if_pos (by omega)]
    · rw [if_neg q]
      by_cases q2 : i + 1 ≤ j ∧ j < n
      · rw [if_pos q2, if_pos (by omega)]
      · rw [if_neg q2, if_neg (by omega)]
theorem X_fillL {d o n : Nat} {z : ni_Z} {h : ni_H} {Q : ni_Q} {v : Int64} {f : Nat → Int64} (hn : n < 2 ^ 31) (ho : h o = ni_L n f) : ni_T d 208 0 [.ref o, .long v, .retAddr 1, .retAddr 0, .retAddr 0] [] z h Q = Q none z (ni_up h o (ni_L n (fun j => if j < n then v else f j))) := by
  simp +decide only [s208_0, s208_1, s208_2, s208_2N, s208_3, s208_4, s208_7, s208_9, s208_12, s208_12N, s208_13, s208_14, s208_15, s208_16, s208_19, s208_22, ho, ↓reduceIte, kl_i, kl_r, kl_n, kl_a, kl_l, up_s, up_up, is_0, is_s, gv_0, gv_s, pv_o, rc_o, okI_i, okI_x, okS_i, okB_x, gi_i, pi_i, okL_l, gl_l, pl_l, okA_2, okA_3, ga_a, arr_0, arr_1, arr_10, arr_11, len_a, sw_0, sw_i, sw_r, sw_l, fit_i, fit_z0, fit_z1, nz_0, nz_1, ni_K_s, ni_K_n, Nat.ble_eq, Nat.zero_le, Nat.zero_add, true_and, and_true, and_self, Bool.and_true, Bool.true_and, Bool.and_self, not_true_eq_false, not_false_eq_true, Int32.reduceLE, Int32.reduceLT, Int32.reduceAdd, Int32.reduceSub, Int32.reduceToNatClampNeg, Nat.reduceLeDiff, Nat.reduceAdd, Nat.reduceEqDiff, Nat.reduceSub, List.set_cons_zero, List.set_cons_succ, false_and, and_false]
  have e := L_fillL (d := d) (o := o) (z := z) (Q := Q) (v := v) hn n 0 f h (by omega) ho
  rw [nI_0] at e
  rw [show Int32.ofNat n = nI n from rfl, e]
  simp only [Nat.zero_le, true_and]
section
variable {d s : Nat} {z : ni_Z} {h : ni_H} {Q : ni_Q} {wh hd so le i : Int32} {f : Nat → Int64}
theorem X_takeRow {x y : Int32} (hs : h s = ni_O 4 [.ref (s + 1), .int wh, .int hd, .int so, .int le]) (he : h (s + 1) = ni_L 160 f) : ni_T (d + 1) 42 0 [.ref s, .int x, .int y] [] z h Q = Q none z (ni_up (ni_up h s (ni_O 4 [.ref (s + 1), .int 1, .int hd, .int x, .int y])) (s + 1) (ni_L 160 (fun j => if j < 160 then 0 else f j))) := by
  have hne : s + 1 ≠ s := by omega
  simp +decide only [s42_0, s42_1, s42_2, s42_5, s42_6, s42_7, s42_10, s42_11, s42_12, s42_15, s42_16, s42_19, s42_20, s42_20N0, s42_23, hs, ↓reduceIte, kl_i, kl_r, kl_n, kl_a, kl_l, up_s, up_up, is_0, is_s, gv_0, gv_s, pv_o, rc_o, okI_i, okI_x, okS_i, okB_x, gi_i, pi_i, okL_l, gl_l, pl_l, okA_2, okA_3, ga_a, arr_0, arr_1, arr_10, arr_11, len_a, sw_0, sw_i, sw_r, sw_l, fit_i, fit_z0, fit_z1, nz_0, nz_1, ni_K_s, ni_K_n, Nat.ble_eq, Nat.zero_le, Nat.zero_add, true_and, and_true, and_self, Bool.and_true, Bool.true_and, Bool.and_self, not_true_eq_false, not_false_eq_true, Int32.reduceLE, Int32.reduceLT, Int32.reduceAdd, Int32.reduceSub, Int32.reduceToNatClampNeg, Nat.reduceLeDiff, Nat.reduceAdd, Nat.reduceEqDiff, Nat.reduceSub, List.set_cons_zero, List.set_cons_succ, false_and, and_false]
  rw [X_fillL (n := 160) (f := f) (by decide) (by rw [up_n hne, he])]
  simp +decide only [s42_0, s42_1, s42_2, s42_5, s42_6, s42_7, s42_10, s42_11, s42_12, s42_15, s42_16, s42_19, s42_20, s42_20N0, s42_23, ↓reduceIte, kl_i, kl_r, kl_n, kl_a, kl_l, up_s, up_up, is_0, is_s, gv_0, gv_s, pv_o, rc_o, okI_i, okI_x, okS_i, okB_x, gi_i, pi_i, okL_l, gl_l, pl_l, okA_2, okA_3, ga_a, arr_0, arr_1, arr_10, arr_11, len_a, sw_0, sw_i, sw_r, sw_l, fit_i, fit_z0, fit_z1, nz_0, nz_1, ni_K_s, ni_K_n, Nat.ble_eq, Nat.zero_le, Nat.zero_add, true_and, and_true, and_self, Bool.and_true, Bool.true_and, Bool.and_self, not_true_eq_false, not_false_eq_true, Int32.reduceLE, Int32.reduceLT, Int32.reduceAdd, Int32.reduceSub, Int32.reduceToNatClampNeg, Nat.reduceLeDiff, Nat.reduceAdd, Nat.reduceEqDiff, Nat.reduceSub, List.set_cons_zero, List.set_cons_succ, false_and, and_false]
/-- a value as a row of a sort keeps it -/
def fs_nar (so : Int32) (v : Int64) : Int64 := if so = 0 then v.toInt32.toInt8.toInt32.toInt64 else if so = 1 then v.toInt32.toInt16.toInt32.toInt64 else if so = 2 then v.toInt32.toInt64 else v
theorem X_put {v : Int64} (hs : h s = ni_O 4 [.ref (s + 1), .int wh, .int hd, .int so, .int le]) (he : h (s + 1) = ni_L 160 f) (hso : so = 0 ∨ so = 1 ∨ so = 2 ∨ so = 3) (hi : ni_in i 160 = true) : ni_T d 43 0 [.ref s, .int i, .long v, .retAddr 1] [] z h Q = Q none z (ni_up h (s + 1) (ni_L 160 (vp_updL f i.toNatClampNeg (fs_nar so v)))) := by
  rcases hso with rfl | rfl | rfl | rfl <;> simp +decide only [s43_0, s43_1, s43_4_0, s43_4_1, s43_4_2, s43_32, s43_33, s43_36, s43_37, s43_38, s43_39, s43_40, s43_41, s43_42, s43_45, s43_46, s43_49, s43_50, s43_51, s43_52, s43_53, s43_54, s43_55, s43_58, s43_59, s43_62, s43_63, s43_64, s43_65, s43_66, s43_67, s43_70, s43_71, s43_74, s43_75, s43_76, s43_77, s43_4_d, hs, he, hi, ↓reduceIte, kl_i, kl_r, kl_n, kl_a, kl_l, up_s, up_up, is_0, is_s, gv_0, gv_s, pv_o, rc_o, okI_i, okI_x, okS_i, okB_x, gi_i, pi_i, okL_l, gl_l, pl_l, okA_2, okA_3, ga_a, arr_0, arr_1, arr_10, arr_11, len_a, sw_0, sw_i, sw_r, sw_l, fit_i, fit_z0, fit_z1, nz_0, nz_1, ni_K_s, ni_K_n, Nat.ble_eq, Nat.zero_le, Nat.zero_add, true_and, and_true, and_self, Bool.and_true, Bool.true_and, Bool.and_self, not_true_eq_false, not_false_eq_true, Int32.reduceLE, Int32.reduceLT, Int32.reduceAdd, Int32.reduceSub, Int32.reduceToNatClampNeg, Nat.reduceLeDiff, Nat.reduceAdd, Nat.reduceEqDiff, Nat.reduceSub, List.set_cons_zero, List.set_cons_succ, false_and, and_false, fs_nar]
def fs_int (f : Nat → Int64) (le i : Int32) : Int32 := if i < 0 then 0 else if le ≤ i then 0 else (f i.toNatClampNeg).toInt32
theorem X_intAt {n : Nat} (hs : h s = ni_O 4 [.ref (s + 1), .int wh, .int hd, .int so, .int (nI n)]) (he : h (s + 1) = ni_L 160 f) (hn : n ≤ 160) : ni_T d 44 0 [.ref s, .int i] [] z h Q = Q (some (.int (fs_int f (nI n) i))) z h := by
  by_cases h1 : i < 0
  · simp +decide only [s44_0, s44_1, s44_4, s44_5, s44_6, s44_9, s44_12, s44_13, s44_16, s44_17, s44_18, s44_19, s44_22, s44_23, hs, he, h1, fs_int, ↓reduceIte, kl_i, kl_r, kl_n, kl_a, kl_l, up_s, up_up, is_0, is_s, gv_0, gv_s, pv_o, rc_o, okI_i, okI_x, okS_i, okB_x, gi_i, pi_i, okL_l, gl_l, pl_l, okA_2, okA_3, ga_a, arr_0, arr_1, arr_10, arr_11, len_a, sw_0, sw_i, sw_r, sw_l, fit_i, fit_z0, fit_z1, nz_0, nz_1, ni_K_s, ni_K_n, Nat.ble_eq, Nat.zero_le, Nat.zero_add, true_and, and_true, and_self, Bool.and_true, Bool.true_and, Bool.and_self, not_true_eq_false, not_false_eq_true, Int32.reduceLE, Int32.reduceLT, Int32.reduceAdd, Int32.reduceSub, Int32.reduceToNatClampNeg, Nat.reduceLeDiff, Nat.reduceAdd, Nat.reduceEqDiff, Nat.reduceSub, List.set_cons_zero, List.set_cons_succ, false_and, and_false]
  · by_cases h2 : nI n ≤ i
    · simp +decide only [s44_0, s44_1, s44_4, s44_5, s44_6, s44_9, s44_12, s44_13, s44_16, s44_17, s44_18, s44_19, s44_22, s44_23, hs, he, h1, h2, fs_int, ↓reduceIte, kl_i, kl_r, kl_n, kl_a, kl_l, up_s, up_up, is_0, is_s, gv_0, gv_s, pv_o, rc_o, okI_i, okI_x, okS_i, okB_x, gi_i, pi_i, okL_l, gl_l, pl_l, okA_2, okA_3, ga_a, arr_0, arr_1, arr_10, arr_11, len_a, sw_0, sw_i, sw_r, sw_l, fit_i, fit_z0, fit_z1, nz_0, nz_1, ni_K_s, ni_K_n, Nat.ble_eq, Nat.zero_le, Nat.zero_add, true_and, and_true, and_self, Bool.and_true, Bool.true_and, Bool.and_self, not_true_eq_false, not_false_eq_true, Int32.reduceLE, Int32.reduceLT, Int32.reduceAdd, Int32.reduceSub, Int32.reduceToNatClampNeg, Nat.reduceLeDiff, Nat.reduceAdd, Nat.reduceEqDiff, Nat.reduceSub, List.set_cons_zero, List.set_cons_succ, false_and, and_false]
    · obtain ⟨j, hj, rfl⟩ := nI_of h1
      have hj2 : j < n := by
        rcases Nat.lt_or_ge j n with q | q
        · exact q
        · exact absurd (nI_le q (by omega)) h2
      simp +decide only [s44_0, s44_1, s44_4, s44_5, s44_6, s44_9, s44_12, s44_13, s44_16, s44_17, s44_18, s44_19, s44_22, s44_23, hs, he, h1, h2, fs_int, in_n (k := j) (n := 160) (by omega) (by decide), ↓reduceIte, kl_i, kl_r, kl_n, kl_a, kl_l, up_s, up_up, is_0, is_s, gv_0, gv_s, pv_o, rc_o, okI_i, okI_x, okS_i, okB_x, gi_i, pi_i, okL_l, gl_l, pl_l, okA_2, okA_3, ga_a, arr_0, arr_1, arr_10, arr_11, len_a, sw_0, sw_i, sw_r, sw_l, fit_i, fit_z0, fit_z1, nz_0, nz_1, ni_K_s, ni_K_n, Nat.ble_eq, Nat.zero_le, Nat.zero_add, true_and, and_true, and_self, Bool.and_true, Bool.true_and, Bool.and_self, not_true_eq_false, not_false_eq_true, Int32.reduceLE, Int32.reduceLT, Int32.reduceAdd, Int32.reduceSub, Int32.reduceToNatClampNeg, Nat.reduceLeDiff, Nat.reduceAdd, Nat.reduceEqDiff, Nat.reduceSub, List.set_cons_zero, List.set_cons_succ, false_and, and_false]
def fs_reach (i n le : Int32) : Bool := decide (¬ i < 0 ∧ ¬ 0 < lg_cmp (i.toInt64 + n.toInt64) le.toInt64)
theorem X_reaches {x : Int32} (hs : h s = ni_O 4 [.ref (s + 1), .int wh, .int hd, .int so, .int le]) : ni_T d 45 0 [.ref s, .int i, .int x] [] z h Q = Q (some (.int (fs_b (fs_reach i x le)))) z h := by
  by_cases h1 : i < 0
  · simp +decide only [s45_0, s45_1, s45_4, s45_5, s45_6, s45_7, s45_8, s45_9, s45_10, s45_13, s45_14, s45_15, s45_18, s45_19, s45_22, s45_23, hs, h1, fs_reach, fs_b, ↓reduceIte, kl_i, kl_r, kl_n, kl_a, kl_l, up_s, up_up, is_0, is_s, gv_0, gv_s, pv_o, rc_o, okI_i, okI_x, okS_i, okB_x, gi_i, pi_i, okL_l, gl_l, pl_l, okA_2, okA_3, ga_a, arr_0, arr_1, arr_10, arr_11, len_a, sw_0, sw_i, sw_r, sw_l, fit_i, fit_z0, fit_z1, nz_0, nz_1, ni_K_s, ni_K_n, Nat.ble_eq, Nat.zero_le, Nat.zero_add, true_and, and_true, and_self, Bool.and_true, Bool.true_and, Bool.and_self, not_true_eq_false, not_false_eq_true, Int32.reduceLE, Int32.reduceLT, Int32.reduceAdd, Int32.reduceSub, Int32.reduceToNatClampNeg, Nat.reduceLeDiff, Nat.reduceAdd, Nat.reduceEqDiff, Nat.reduceSub, List.set_cons_zero, List.set_cons_succ, false_and, and_false]
  · by_cases h2 : 0 < lg_cmp (i.toInt64 + x.toInt64) le.toInt64
    · simp +decide only [s45_0, s45_1, s45_4, s45_5, s45_6, s45_7, s45_8, s45_9, s45_10, s45_13, s45_14, s45_15, s45_18, s45_19, s45_22, s45_23, hs, h1, h2, fs_reach, fs_b, ↓reduceIte, kl_i, kl_r, kl_n, kl_a, kl_l, up_s, up_up, is_0, is_s, gv_0, gv_s, pv_o, rc_o, okI_i, okI_x, okS_i, okB_x, gi_i, pi_i, okL_l, gl_l, pl_l, okA_2, okA_3, ga_a, arr_0, arr_1, arr_10, arr_11, len_a, sw_0, sw_i, sw_r, sw_l, fit_i, fit_z0, fit_z1, nz_0, nz_1, ni_K_s, ni_K_n, Nat.ble_eq, Nat.zero_le, Nat.zero_add, true_and, and_true, and_self, Bool.and_true, Bool.true_and, Bool.and_self, not_true_eq_false, not_false_eq_true, Int32.reduceLE, Int32.reduceLT, Int32.reduceAdd, Int32.reduceSub, Int32.reduceToNatClampNeg, Nat.reduceLeDiff, Nat.reduceAdd, Nat.reduceEqDiff, Nat.reduceSub, List.set_cons_zero, List.set_cons_succ, false_and, and_false]
    · simp +decide only [s45_0, s45_1, s45_4, s45_5, s45_6, s45_7, s45_8, s45_9, s45_10, s45_13, s45_14, s45_15, s45_18, s45_19, s45_22, s45_23, hs, h1, h2, fs_reach, fs_b, ↓reduceIte, kl_i, kl_r, kl_n, kl_a, kl_l, up_s, up_up, is_0, is_s, gv_0, gv_s, pv_o, rc_o, okI_i, okI_x, okS_i, okB_x, gi_i, pi_i, okL_l, gl_l, pl_l, okA_2, okA_3, ga_a, arr_0, arr_1, arr_10, arr_11, len_a, sw_0, sw_i, sw_r, sw_l, fit_i, fit_z0, fit_z1, nz_0, nz_1, ni_K_s, ni_K_n, Nat.ble_eq, Nat.zero_le, Nat.zero_add, true_and, and_true, and_self, Bool.and_true, Bool.true_and, Bool.and_self, not_true_eq_false, not_false_eq_true, Int32.reduceLE, Int32.reduceLT, Int32.reduceAdd, Int32.reduceSub, Int32.reduceToNatClampNeg, Nat.reduceLeDiff, Nat.reduceAdd, Nat.reduceEqDiff, Nat.reduceSub, List.set_cons_zero, List.set_cons_succ, false_and, and_false]
end
