set_option maxRecDepth 100000
set_option maxHeartbeats 1000000
/-! ===== who is through first, after how many turns ===== -/
def fs_fi (c : Nat → Nat) (n hh : Nat) : Nat → Nat → Nat → Nat → Nat
  | 0, _, s, _ => s
  | m + 1, l, s, wh => fs_fi c n hh m (l - l * c wh / 100) (if wh = hh then s + l * c wh / 100 else s) ((wh + 1) % n)
def fs_tn (c : Nat → Nat) (n f : Nat) : Nat → Nat → Nat → Nat → Int32
  | 0, _, _, _ => -1
  | m + 1, t, l, wh => if l ≤ f then nI t else fs_tn c n f m (t + 1) (l - l * c wh / 100) ((wh + 1) % n)
theorem ac_i {xs : Nat → Int32} : ∀ (m j : Nat), fs_ac xs m j = true → ∀ i, j ≤ i → i < j + m → xs i = nI (xs i).toNatClampNeg ∧ (xs i).toNatClampNeg ≤ 100 := by
  intro m
  induction m with
  | zero => intro j _ i h1 h2; omega
  | succ m ih =>
    intro j h i h1 h2
    rw [fs_ac] at h
    split at h
    · cases h
    · next q1 =>
      split at h
      · next q2 =>
        rcases Nat.eq_or_lt_of_le h1 with e | e
        · subst e
          obtain ⟨a, ha, ea⟩ := nI_of2 (M := 100) (n := 100) rfl q1 q2
          rw [ea, nI_clamp (by omega)]
          exact ⟨rfl, ha⟩
        · exact ih (j + 1) h i e (by omega)
      · cases h
theorem ac_congr {xs xs' : Nat → Int32} : ∀ (m j : Nat), (∀ i, j ≤ i → i < j + m → xs i = xs' i) → fs_ac xs m j = fs_ac xs' m j := by
  intro m
  induction m with
  | zero => intro j _; rfl
  | succ m ih =>
    intro j h
    rw [fs_ac, fs_ac, h j (by omega) (by omega), ih (j + 1) (fun i a b => h i (by omega) (by omega))]
theorem thr_le {l c : Nat} (hc : c ≤ 100) : l * c / 100 ≤ l := by
  have : l * c ≤ l * 100 := Nat.mul_le_mul_left l hc
  omega
section
variable {z : ni_Z} {h : ni_H} {im lf wh' hd' so' : Int32} {w0 fa sd : Int32} {n sp le : Nat} {f : Nat → Int64} {c : Nat → Nat}
theorem X_noCh (hle : le ≤ 160) (n4 : n ≤ 4) (hr : fs_noRow wh' = 0) (x0 : h 0 = ni_O 6 [.ref 1, .ref 2, .ref 9, .ref 16, .ref 23, .ref 29, .ref 31, .ref 32, .int im, .int lf]) (t2 : h 2 = ni_O 5 [.ref 3, .ref 4, .int (nI n), .int w0, .int fa, .int sd]) (hs : h sp = ni_O 4 [.ref (sp + 1), .int wh', .int hd', .int so', .int (nI le)]) (he : h (sp + 1) = ni_L 160 f) (d : Nat) (Q : ni_Q) : ni_T (d + 1) 113 0 [.ref 0, .ref sp, .retAddr 0, .retAddr 0] [] z h Q = Q (some (.int (if n = 0 ∨ le < n then -5 else if fs_ac (fun j => fs_int f (nI le) (nI j)) n 0 = true then 0 else -6))) z h := by
  have loop : ∀ (m j : Nat), j + m = n → ni_T (d + 1) 113 40 [.ref 0, .ref sp, .int 0, .int (nI j)] [] z h Q = Q (some (.int (if fs_ac (fun j => fs_int f (nI le) (nI j)) m j = true then 0 else -6))) z h := by
    intro m
    induction m with
    | zero =>
      intro j e
      obtain rfl : j = n := by omega
      have h1 : nI j ≤ nI j := Int32.le_refl _
      rw [s113_40]
      simp +decide only [s113_0, s113_0N, s113_1, s113_1N0, s113_4, s113_5, s113_6, s113_9, s113_10, s113_11, s113_12, s113_15, s113_18, s113_21, s113_21N, s113_22, s113_25, s113_26, s113_29, s113_32, s113_35, s113_37, s113_38, s113_39, s113_41, s113_42, s113_45, s113_48, s113_51, s113_51N, s113_52, s113_53, s113_56, s113_59, s113_59N, s113_60, s113_61, s113_64, s113_66, s113_69, s113_71, s113_72, s113_75, s113_78, s113_79, x0, t2, h1, ↓reduceIte, kl_i, kl_r, kl_n, kl_a, kl_l, up_s, up_up, is_0, is_s, gv_0, gv_s, pv_o, rc_o, okI_i, okI_x, okS_i, okB_x, gi_i, pi_i, okL_l, gl_l, pl_l, okA_2, okA_3, ga_a, arr_0, arr_1, arr_10, arr_11, len_a, sw_0, sw_i, sw_r, sw_l, fit_i, fit_z0, fit_z1, nz_0, nz_1, ni_K_s, ni_K_n, Nat.ble_eq, Nat.zero_le, Nat.zero_add, true_and, and_true, and_self, Bool.and_true, Bool.true_and, Bool.and_self, not_true_eq_false, not_false_eq_true, Int32.reduceLE, Int32.reduceLT, Int32.reduceAdd, Int32.reduceSub, Int32.reduceToNatClampNeg, Nat.reduceLeDiff, Nat.reduceAdd, Nat.reduceEqDiff, Nat.reduceSub, List.set_cons_zero, List.set_cons_succ, false_and, and_false, fs_ac]
    | succ m ih =>
      intro j e
      have q1 : ¬ nI n ≤ nI j := nI_ge (by omega) (by omega)
      have hi := fun (d : Nat) (Q : ni_Q) => X_intAt (d := d) (z := z) (Q := Q) (i := nI j) hs he hle
      have ih2 := ih (j + 1) (by omega)
      rw [fs_ac, s113_40]
      generalize fs_int f (nI le) (nI j) = v at hi
      by_cases v0 : v < 0
      · simp +decide only [s113_0, s113_0N, s113_1, s113_1N0, s113_4, s113_5, s113_6, s113_9, s113_10, s113_11, s113_12, s113_15, s113_18, s113_21, s113_21N, s113_22, s113_25, s113_26, s113_29, s113_32, s113_35, s113_37, s113_38, s113_39, s113_41, s113_42, s113_45, s113_48, s113_51, s113_51N, s113_52, s113_53, s113_56, s113_59, s113_59N, s113_60, s113_61, s113_64, s113_66, s113_69, s113_71, s113_72, s113_75, s113_78, s113_79, x0, t2, hs, q1, hi, v0, Bool.false_eq_true, ↓reduceIte, kl_i, kl_r, kl_n, kl_a, kl_l, up_s, up_up, is_0, is_s, gv_0, gv_s, pv_o, rc_o, okI_i, okI_x, okS_i, okB_x, gi_i, pi_i, okL_l, gl_l, pl_l, okA_2, okA_3, ga_a, arr_0, arr_1, arr_10, arr_11, len_a, sw_0, sw_i, sw_r, sw_l, fit_i, fit_z0, fit_z1, nz_0, nz_1, ni_K_s, ni_K_n, Nat.ble_eq, Nat.zero_le, Nat.zero_add, true_and, and_true, and_self, Bool.and_true, Bool.true_and, Bool.and_self, not_true_eq_false, not_false_eq_true, Int32.reduceLE, Int32.reduceLT, Int32.reduceAdd, Int32.reduceSub, Int32.reduceToNatClampNeg, Nat.reduceLeDiff, Nat.reduceAdd, Nat.reduceEqDiff, Nat.reduceSub, List.set_cons_zero, List.set_cons_succ, false_and, and_false]
      · by_cases v1 : v ≤ 100
        · simp +decide only [s113_0, s113_0N, s113_1, s113_1N0, s113_4, s113_5, s113_6, s113_9, s113_10, s113_11, s113_12, s113_15, s113_18, s113_21, s113_21N, s113_22, s113_25, s113_26, s113_29, s113_32, s113_35, s113_37, s113_38, s113_39, s113_41, s113_42, s113_45, s113_48, s113_51, s113_51N, s113_52, s113_53, s113_56, s113_59, s113_59N, s113_60, s113_61, s113_64, s113_66, s113_69, s113_71, s113_72, s113_75, s113_78, s113_79, x0, t2, hs, q1, hi, v0, v1, nI_1, ih2, ↓reduceIte, kl_i, kl_r, kl_n, kl_a, kl_l, up_s, up_up, is_0, is_s, gv_0, gv_s, pv_o, rc_o, okI_i, okI_x, okS_i, okB_x, gi_i, pi_i, okL_l, gl_l, pl_l, okA_2, okA_3, ga_a, arr_0, arr_1, arr_10, arr_11, len_a, sw_0, sw_i, sw_r, sw_l, fit_i, fit_z0, fit_z1, nz_0, nz_1, ni_K_s, ni_K_n, Nat.ble_eq, Nat.zero_le, Nat.zero_add, true_and, and_true, and_self, Bool.and_true, Bool.true_and, Bool.and_self, not_true_eq_false, not_false_eq_true, Int32.reduceLE, Int32.reduceLT, Int32.reduceAdd, Int32.reduceSub, Int32.reduceToNatClampNeg, Nat.reduceLeDiff, Nat.reduceAdd, Nat.reduceEqDiff, Nat.reduceSub, List.set_cons_zero, List.set_cons_succ, false_and, and_false]
        · simp +decide only [s113_0, s113_0N, s113_1, s113_1N0, s113_4, s113_5, s113_6, s113_9, s113_10, s113_11, s113_12, s113_15, s113_18, s113_21, s113_21N, s113_22, s113_25, s113_26, s113_29, s113_32, s113_35, s113_37, s113_38, s113_39, s113_41, s113_42, s113_45, s113_48, s113_51, s113_51N, s113_52, s113_53, s113_56, s113_59, s113_59N, s113_60, s113_61, s113_64, s113_66, s113_69, s113_71, s113_72, s113_75, s113_78, s113_79, x0, t2, hs, q1, hi, v0, v1, Bool.false_eq_true, ↓reduceIte, kl_i, kl_r, kl_n, kl_a, kl_l, up_s, up_up, is_0, is_s, gv_0, gv_s, pv_o, rc_o, okI_i, okI_x, okS_i, okB_x, gi_i, pi_i, okL_l, gl_l, pl_l, okA_2, okA_3, ga_a, arr_0, arr_1, arr_10, arr_11, len_a, sw_0, sw_i, sw_r, sw_l, fit_i, fit_z0, fit_z1, nz_0, nz_1, ni_K_s, ni_K_n, Nat.ble_eq, Nat.zero_le, Nat.zero_add, true_and, and_true, and_self, Bool.and_true, Bool.true_and, Bool.and_self, not_true_eq_false, not_false_eq_true, Int32.reduceLE, Int32.reduceLT, Int32.reduceAdd, Int32.reduceSub, Int32.reduceToNatClampNeg, Nat.reduceLeDiff, Nat.reduceAdd, Nat.reduceEqDiff, Nat.reduceSub, List.set_cons_zero, List.set_cons_succ, false_and, and_false]
  by_cases n0 : n = 0
  · have e0 : nI n = 0 := by rw [n0]; rfl
    simp +decide only [s113_0, s113_0N, s113_1, s113_1N0, s113_4, s113_5, s113_6, s113_9, s113_10, s113_11, s113_12, s113_15, s113_18, s113_21, s113_21N, s113_22, s113_25, s113_26, s113_29, s113_32, s113_35, s113_37, s113_38, s113_39, s113_41, s113_42, s113_45, s113_48, s113_51, s113_51N, s113_52, s113_53, s113_56, s113_59, s113_59N, s113_60, s113_61, s113_64, s113_66, s113_69, s113_71, s113_72, s113_75, s113_78, s113_79, X_noRowS hs, hr, x0, t2, e0, n0, true_or, ↓reduceIte, kl_i, kl_r, kl_n, kl_a, kl_l, up_s, up_up, is_0, is_s, gv_0, gv_s, pv_o, rc_o, okI_i, okI_x, okS_i, okB_x, gi_i, pi_i, okL_l, gl_l, pl_l, okA_2, okA_3, ga_a, arr_0, arr_1, arr_10, arr_11, len_a, sw_0, sw_i, sw_r, sw_l, fit_i, fit_z0, fit_z1, nz_0, nz_1, ni_K_s, ni_K_n, Nat.ble_eq, Nat.zero_le, Nat.zero_add, true_and, and_true, and_self, Bool.and_true, Bool.true_and, Bool.and_self, not_true_eq_false, not_false_eq_true, Int32.reduceLE, Int32.reduceLT, Int32.reduceAdd, Int32.reduceSub, Int32.reduceToNatClampNeg, Nat.reduceLeDiff, Nat.reduceAdd, Nat.reduceEqDiff, Nat.reduceSub, List.set_cons_zero, List.set_cons_succ, false_and, and_false]
  · have e0 : ¬ nI n = 0 := nI_ne0 (by omega) (by omega)
    by_cases nl : le < n
    · have q : ¬ nI n ≤ nI le := nI_ge nl (by omega)
      simp +decide only [s113_0, s113_0N, s113_1, s113_1N0, s113_4, s113_5, s113_6, s113_9, s113_10, s113_11, s113_12, s113_15, s113_18, s113_21, s113_21N, s113_22, s113_25, s113_26, s113_29, s113_32, s113_35, s113_37, s113_38, s113_39, s113_41, s113_42, s113_45, s113_48, s113_51, s113_51N, s113_52, s113_53, s113_56, s113_59, s113_59N, s113_60, s113_61, s113_64, s113_66, s113_69, s113_71, s113_72, s113_75, s113_78, s113_79, X_noRowS hs, hr, hs, x0, t2, e0, q, nl, or_true, ↓reduceIte, kl_i, kl_r, kl_n, kl_a, kl_l, up_s, up_up, is_0, is_s, gv_0, gv_s, pv_o, rc_o, okI_i, okI_x, okS_i, okB_x, gi_i, pi_i, okL_l, gl_l, pl_l, okA_2, okA_3, ga_a, arr_0, arr_1, arr_10, arr_11, len_a, sw_0, sw_i, sw_r, sw_l, fit_i, fit_z0, fit_z1, nz_0, nz_1, ni_K_s, ni_K_n, Nat.ble_eq, Nat.zero_le, Nat.zero_add, true_and, and_true, and_self, Bool.and_true, Bool.true_and, Bool.and_self, not_true_eq_false, not_false_eq_true, Int32.reduceLE, Int32.reduceLT, Int32.reduceAdd, Int32.reduceSub, Int32.reduceToNatClampNeg, Nat.reduceLeDiff, Nat.reduceAdd, Nat.reduceEqDiff, Nat.reduceSub, List.set_cons_zero, List.set_cons_succ, false_and, and_false]
    · have q : nI n ≤ nI le := nI_le (by omega) (by omega)
      have l0 := loop n 0 (by omega)
      rw [nI_0] at l0
      simp +decide only [s113_0, s113_0N, s113_1, s113_1N0, s113_4, s113_5, s113_6, s113_9, s113_10, s113_11, s113_12, s113_15, s113_18, s113_21, s113_21N, s113_22, s113_25, s113_26, s113_29, s113_32, s113_35, s113_37, s113_38, s113_39, s113_41, s113_42, s113_45, s113_48, s113_51, s113_51N, s113_52, s113_53, s113_56, s113_59, s113_59N, s113_60, s113_61, s113_64, s113_66, s113_69, s113_71, s113_72, s113_75, s113_78, s113_79, X_noRowS hs, hr, hs, x0, t2, e0, q, l0, n0, nl, or_self, ↓reduceIte, kl_i, kl_r, kl_n, kl_a, kl_l, up_s, up_up, is_0, is_s, gv_0, gv_s, pv_o, rc_o, okI_i, okI_x, okS_i, okB_x, gi_i, pi_i, okL_l, gl_l, pl_l, okA_2, okA_3, ga_a, arr_0, arr_1, arr_10, arr_11, len_a, sw_0, sw_i, sw_r, sw_l, fit_i, fit_z0, fit_z1, nz_0, nz_1, ni_K_s, ni_K_n, Nat.ble_eq, Nat.zero_le, Nat.zero_add, true_and, and_true, and_self, Bool.and_true, Bool.true_and, Bool.and_self, not_true_eq_false, not_false_eq_true, Int32.reduceLE, Int32.reduceLT, Int32.reduceAdd, Int32.reduceSub, Int32.reduceToNatClampNeg, Nat.reduceLeDiff, Nat.reduceAdd, Nat.reduceEqDiff, Nat.reduceSub, List.set_cons_zero, List.set_cons_succ, false_and, and_false]
theorem X_noChN (d : Nat) (Q : ni_Q) : ni_T (d + 1) 113 0 [.ref 0, .null, .retAddr 0, .retAddr 0] [] z h Q = Q (some (.int (-1))) z h := by
  simp +decide only [s113_0, s113_0N, s113_1, s113_1N0, s113_4, s113_5, s113_6, s113_9, s113_10, s113_11, s113_12, s113_15, s113_18, s113_21, s113_21N, s113_22, s113_25, s113_26, s113_29, s113_32, s113_35, s113_37, s113_38, s113_39, s113_41, s113_42, s113_45, s113_48, s113_51, s113_51N, s113_52, s113_53, s113_56, s113_59, s113_59N, s113_60, s113_61, s113_64, s113_66, s113_69, s113_71, s113_72, s113_75, s113_78, s113_79, X_noRowN, ↓reduceIte, kl_i, kl_r, kl_n, kl_a, kl_l, up_s, up_up, is_0, is_s, gv_0, gv_s, pv_o, rc_o, okI_i, okI_x, okS_i, okB_x, gi_i, pi_i, okL_l, gl_l, pl_l, okA_2, okA_3, ga_a, arr_0, arr_1, arr_10, arr_11, len_a, sw_0, sw_i, sw_r, sw_l, fit_i, fit_z0, fit_z1, nz_0, nz_1, ni_K_s, ni_K_n, Nat.ble_eq, Nat.zero_le, Nat.zero_add, true_and, and_true, and_self, Bool.and_true, Bool.true_and, Bool.and_self, not_true_eq_false, not_false_eq_true, Int32.reduceLE, Int32.reduceLT, Int32.reduceAdd, Int32.reduceSub, Int32.reduceToNatClampNeg, Nat.reduceLeDiff, Nat.reduceAdd, Nat.reduceEqDiff, Nat.reduceSub, List.set_cons_zero, List.set_cons_succ, false_and, and_false]
theorem X_noChR (hr : ¬ fs_noRow wh' = 0) (hs : h sp = ni_O 4 [.ref (sp + 1), .int wh', .int hd', .int so', .int (nI le)]) (d : Nat) (Q : ni_Q) : ni_T (d + 1) 113 0 [.ref 0, .ref sp, .retAddr 0, .retAddr 0] [] z h Q = Q (some (.int (fs_noRow wh'))) z h := by
  simp +decide only [s113_0, s113_0N, s113_1, s113_1N0, s113_4, s113_5, s113_6, s113_9, s113_10, s113_11, s113_12, s113_15, s113_18, s113_21, s113_21N, s113_22, s113_25, s113_26, s113_29, s113_32, s113_35, s113_37, s113_38, s113_39, s113_41, s113_42, s113_45, s113_48, s113_51, s113_51N, s113_52, s113_53, s113_56, s113_59, s113_59N, s113_60, s113_61, s113_64, s113_66, s113_69, s113_71, s113_72, s113_75, s113_78, s113_79, X_noRowS hs, hr, ↓reduceIte, kl_i, kl_r, kl_n, kl_a, kl_l, up_s, up_up, is_0, is_s, gv_0, gv_s, pv_o, rc_o, okI_i, okI_x, okS_i, okB_x, gi_i, pi_i, okL_l, gl_l, pl_l, okA_2, okA_3, ga_a, arr_0, arr_1, arr_10, arr_11, len_a, sw_0, sw_i, sw_r, sw_l, fit_i, fit_z0, fit_z1, nz_0, nz_1, ni_K_s, ni_K_n, Nat.ble_eq, Nat.zero_le, Nat.zero_add, true_and, and_true, and_self, Bool.and_true, Bool.true_and, Bool.and_self, not_true_eq_false, not_false_eq_true, Int32.reduceLE, Int32.reduceLT, Int32.reduceAdd, Int32.reduceSub, Int32.reduceToNatClampNeg, Nat.reduceLeDiff, Nat.reduceAdd, Nat.reduceEqDiff, Nat.reduceSub, List.set_cons_zero, List.set_cons_succ, false_and, and_false]
theorem L_xfi {x : Int32} {N hh : Nat} (hN : N ≤ 100) (hle : le ≤ 160) (n4 : n ≤ 4) (hh4 : hh < n) (x0 : h 0 = ni_O 6 [.ref 1, .ref 2, .ref 9, .ref 16, .ref 23, .ref 29, .ref 31, .ref 32, .int im, .int lf]) (t2 : h 2 = ni_O 5 [.ref 3, .ref 4, .int (nI n), .int w0, .int fa, .int sd]) (hs : h sp = ni_O 4 [.ref (sp + 1), .int wh', .int hd', .int so', .int (nI le)]) (he : h (sp + 1) = ni_L 160 f) (hc : ∀ i, i < n → fs_int f (nI le) (nI i) = nI (c i) ∧ c i ≤ 100) : ∀ (m t l s wh : Nat) (a10 : Value), t + m = N → l ≤ 1000000 → wh < n → ∀ (d : Nat) (Q : ni_Q), ni_T (d + 1) 90 81 [.ref 0, .int x, .int (nI hh), .int (nI N), .ref sp, .int 0, .int (nI l), .int (nI s), .int (nI wh), .int (nI t), a10] [] z h Q = Q (some (.int (nI (fs_fi c n hh m l s wh)))) z h := by
  intro m
  induction m with
  | zero =>
    intro t l s wh a10 e hl hw d Q
    obtain rfl : t = N := by omega
    have h1 : nI t ≤ nI t := Int32.le_refl _
    rw [s90_81]
    simp +decide only [s90_0, s90_1, s90_2, s90_5, s90_5N, s90_7, s90_8, s90_11, s90_12, s90_15N, s90_15, s90_18, s90_19, s90_22, s90_23, s90_23N, s90_25, s90_25N0, s90_28, s90_30, s90_32, s90_35, s90_36, s90_37, s90_40, s90_41, s90_43, s90_46, s90_48, s90_50, s90_52, s90_55, s90_56, s90_58, s90_61, s90_62, s90_64, s90_66, s90_67, s90_69, s90_70, s90_73, s90_76, s90_78, s90_79, s90_83, s90_84, s90_87, s90_89, s90_89N, s90_91, s90_93, s90_96, s90_97, s90_99, s90_100, s90_102, s90_104, s90_106, s90_107, s90_109, s90_111, s90_113, s90_114, s90_117, s90_119, s90_122, s90_123, s90_124, s90_126, s90_127, s90_130, s90_132, s90_135, s90_137, s90_140, s90_143, s90_145, h1, ↓reduceIte, kl_i, kl_r, kl_n, kl_a, kl_l, up_s, up_up, is_0, is_s, gv_0, gv_s, pv_o, rc_o, okI_i, okI_x, okS_i, okB_x, gi_i, pi_i, okL_l, gl_l, pl_l, okA_2, okA_3, ga_a, arr_0, arr_1, arr_10, arr_11, len_a, sw_0, sw_i, sw_r, sw_l, fit_i, fit_z0, fit_z1, nz_0, nz_1, ni_K_s, ni_K_n, Nat.ble_eq, Nat.zero_le, Nat.zero_add, true_and, and_true, and_self, Bool.and_true, Bool.true_and, Bool.and_self, not_true_eq_false, not_false_eq_true, Int32.reduceLE, Int32.reduceLT, Int32.reduceAdd, Int32.reduceSub, Int32.reduceToNatClampNeg, Nat.reduceLeDiff, Nat.reduceAdd, Nat.reduceEqDiff, Nat.reduceSub, List.set_cons_zero, List.set_cons_succ, false_and, and_false, fs_fi]
  | succ m ih =>
    intro t l s wh a10 e hl hw d Q
    have q1 : ¬ nI N ≤ nI t := nI_ge (by omega) (by omega)
    obtain ⟨ec, c100⟩ := hc wh hw
    have hi := fun (d : Nat) (Q : ni_Q) => X_intAt (d := d) (z := z) (Q := Q) (i := nI wh) hs he hle
    rw [ec] at hi
    have em : nI l * nI (c wh) / 100 = nI (l * c wh / 100) := im_n hl c100
    have tl := thr_le (l := l) c100
    have es : nI l - nI (l * c wh / 100) = nI (l - l * c wh / 100) := pk_sub tl
    have xb := fun (d : Nat) (Q : ni_Q) => X_behind (t := 2) (d := d) (z := z) (Q := Q) (x := nI wh) t2
    rw [nx_n hw n4] at xb
    have hm : (wh + 1) % n < n := Nat.mod_lt _ (by omega)
    have ih2 := fun s a10 => ih (t + 1) (l - l * c wh / 100) s ((wh + 1) % n) a10 (by omega) (by omega) hm
    rw [fs_fi, s90_81]
    by_cases q : wh = hh
    · subst q
      rw [if_pos rfl]
      simp +decide only [s90_0, s90_1, s90_2, s90_5, s90_5N, s90_7, s90_8, s90_11, s90_12, s90_15N, s90_15, s90_18, s90_19, s90_22, s90_23, s90_23N, s90_25, s90_25N0, s90_28, s90_30, s90_32, s90_35, s90_36, s90_37, s90_40, s90_41, s90_43, s90_46, s90_48, s90_50, s90_52, s90_55, s90_56, s90_58, s90_61, s90_62, s90_64, s90_66, s90_67, s90_69, s90_70, s90_73, s90_76, s90_78, s90_79, s90_83, s90_84, s90_87, s90_89, s90_89N, s90_91, s90_93, s90_96, s90_97, s90_99, s90_100, s90_102, s90_104, s90_106, s90_107, s90_109, s90_111, s90_113, s90_114, s90_117, s90_119, s90_122, s90_123, s90_124, s90_126, s90_127, s90_130, s90_132, s90_135, s90_137, s90_140, s90_143, s90_145, q1, x0, t2, hs, hi, em, es, eq_self, nI_add, xb, nI_1, ih2, ↓reduceIte, kl_i, kl_r, kl_n, kl_a, kl_l, up_s, up_up, is_0, is_s, gv_0, gv_s, pv_o, rc_o, okI_i, okI_x, okS_i, okB_x, gi_i, pi_i, okL_l, gl_l, pl_l, okA_2, okA_3, ga_a, arr_0, arr_1, arr_10, arr_11, len_a, sw_0, sw_i, sw_r, sw_l, fit_i, fit_z0, fit_z1, nz_0, nz_1, ni_K_s, ni_K_n, Nat.ble_eq, Nat.zero_le, Nat.zero_add, true_and, and_true, and_self, Bool.and_true, Bool.true_and, Bool.and_self, not_true_eq_false, not_false_eq_true, Int32.reduceLE, Int32.reduceLT, Int32.reduceAdd, Int32.reduceSub, Int32.reduceToNatClampNeg, Nat.reduceLeDiff, Nat.reduceAdd, Nat.reduceEqDiff, Nat.reduceSub, List.set_cons_zero, List.set_cons_succ, false_and, and_false]
    · have q' : ¬ nI wh = nI hh := fun e => q ((nI_eq (by omega) (by omega)).mp e)
      rw [if_neg q]
      simp +decide only [s90_0, s90_1, s90_2, s90_5, s90_5N, s90_7, s90_8, s90_11, s90_12, s90_15N, s90_15, s90_18, s90_19, s90_22, s90_23, s90_23N, s90_25, s90_25N0, s90_28, s90_30, s90_32, s90_35, s90_36, s90_37, s90_40, s90_41, s90_43, s90_46, s90_48, s90_50, s90_52, s90_55, s90_56, s90_58, s90_61, s90_62, s90_64, s90_66, s90_67, s90_69, s90_70, s90_73, s90_76, s90_78, s90_79, s90_83, s90_84, s90_87, s90_89, s90_89N, s90_91, s90_93, s90_96, s90_97, s90_99, s90_100, s90_102, s90_104, s90_106, s90_107, s90_109, s90_111, s90_113, s90_114, s90_117, s90_119, s90_122, s90_123, s90_124, s90_126, s90_127, s90_130, s90_132, s90_135, s90_137, s90_140, s90_143, s90_145, q1, x0, t2, hs, hi, em, es, q', Int32.add_zero, xb, nI_1, ih2, ↓reduceIte, kl_i, kl_r, kl_n, kl_a, kl_l, up_s, up_up, is_0, is_s, gv_0, gv_s, pv_o, rc_o, okI_i, okI_x, okS_i, okB_x, gi_i, pi_i, okL_l, gl_l, pl_l, okA_2, okA_3, ga_a, arr_0, arr_1, arr_10, arr_11, len_a, sw_0, sw_i, sw_r, sw_l, fit_i, fit_z0, fit_z1, nz_0, nz_1, ni_K_s, ni_K_n, Nat.ble_eq, Nat.zero_le, Nat.zero_add, true_and, and_true, and_self, Bool.and_true, Bool.true_and, Bool.and_self, not_true_eq_false, not_false_eq_true, Int32.reduceLE, Int32.reduceLT, Int32.reduceAdd, Int32.reduceSub, Int32.reduceToNatClampNeg, Nat.reduceLeDiff, Nat.reduceAdd, Nat.reduceEqDiff, Nat.reduceSub, List.set_cons_zero, List.set_cons_succ, false_and, and_false]
theorem L_xtn {x : Int32} {F : Nat} (hF : F ≤ 1000000) (hle : le ≤ 160) (n4 : n ≤ 4) (x0 : h 0 = ni_O 6 [.ref 1, .ref 2, .ref 9, .ref 16, .ref 23, .ref 29, .ref 31, .ref 32, .int im, .int lf]) (t2 : h 2 = ni_O 5 [.ref 3, .ref 4, .int (nI n), .int w0, .int fa, .int sd]) (hs : h sp = ni_O 4 [.ref (sp + 1), .int wh', .int hd', .int so', .int (nI le)]) (he : h (sp + 1) = ni_L 160 f) (hc : ∀ i, i < n → fs_int f (nI le) (nI i) = nI (c i) ∧ c i ≤ 100) : ∀ (m t l wh : Nat), t + m = 1001 → l ≤ 1000000 → wh < n → ∀ (d : Nat) (Q : ni_Q), ni_T (d + 1) 91 60 [.ref 0, .int x, .int (nI F), .ref sp, .int 0, .int (nI l), .int (nI wh), .int (nI t)] [] z h Q = Q (some (.int (fs_tn c n F m t l wh))) z h := by
  intro m
  induction m with
  | zero =>
    intro t l wh e hl hw d Q
    have q1 : (1000 : Int32) < nI t := nI_lt (a := 1000) (b := t) (by omega) (by omega)
    rw [s91_60]
    simp +decide only [s91_0, s91_1, s91_2, s91_5, s91_5N, s91_6, s91_7, s91_7N, s91_8, s91_8N0, s91_11, s91_13, s91_15, s91_18, s91_19, s91_22, s91_23, s91_25, s91_28, s91_30, s91_32, s91_34, s91_37, s91_38, s91_40, s91_43, s91_44, s91_46, s91_48, s91_49, s91_52, s91_55, s91_57, s91_58, s91_62, s91_65, s91_68, s91_70, s91_71, s91_74, s91_76, s91_77, s91_79, s91_81, s91_81N, s91_82, s91_84, s91_87, s91_88, s91_90, s91_91, s91_92, s91_94, s91_95, s91_98, s91_100, s91_103, s91_105, s91_108, s91_111, s91_112, q1, ↓reduceIte, kl_i, kl_r, kl_n, kl_a, kl_l, up_s, up_up, is_0, is_s, gv_0, gv_s, pv_o, rc_o, okI_i, okI_x, okS_i, okB_x, gi_i, pi_i, okL_l, gl_l, pl_l, okA_2, okA_3, ga_a, arr_0, arr_1, arr_10, arr_11, len_a, sw_0, sw_i, sw_r, sw_l, fit_i, fit_z0, fit_z1, nz_0, nz_1, ni_K_s, ni_K_n, Nat.ble_eq, Nat.zero_le, Nat.zero_add, true_and, and_true, and_self, Bool.and_true, Bool.true_and, Bool.and_self, not_true_eq_false, not_false_eq_true, Int32.reduceLE, Int32.reduceLT, Int32.reduceAdd, Int32.reduceSub, Int32.reduceToNatClampNeg, Nat.reduceLeDiff, Nat.reduceAdd, Nat.reduceEqDiff, Nat.reduceSub, List.set_cons_zero, List.set_cons_succ, false_and, and_false, fs_tn]
  | succ m ih =>
    intro t l wh e hl hw d Q
    have q1 : ¬ (1000 : Int32) < nI t := nI_nlt (a := 1000) (b := t) (by omega) (by decide)
    obtain ⟨ec, c100⟩ := hc wh hw
    have hi := fun (d : Nat) (Q : ni_Q) => X_intAt (d := d) (z := z) (Q := Q) (i := nI wh) hs he hle
    rw [ec] at hi
    have em : nI l * nI (c wh) / 100 = nI (l * c wh / 100) := im_n hl c100
    have tl := thr_le (l := l) c100
    have es : nI l - nI (l * c wh / 100) = nI (l - l * c wh / 100) := pk_sub tl
    have xb := fun (d : Nat) (Q : ni_Q) => X_behind (t := 2) (d := d) (z := z) (Q := Q) (x := nI wh) t2
    rw [nx_n hw n4] at xb
    have hm : (wh + 1) % n < n := Nat.mod_lt _ (by omega)
    have ih2 := ih (t + 1) (l - l * c wh / 100) ((wh + 1) % n) (by omega) (by omega) hm
    rw [fs_tn, s91_60]
    by_cases q : l ≤ F
    · have q' : ¬ nI F < nI l := nI_nlt q (by omega)
      rw [if_pos q]
      simp +decide only [s91_0, s91_1, s91_2, s91_5, s91_5N, s91_6, s91_7, s91_7N, s91_8, s91_8N0, s91_11, s91_13, s91_15, s91_18, s91_19, s91_22, s91_23, s91_25, s91_28, s91_30, s91_32, s91_34, s91_37, s91_38, s91_40, s91_43, s91_44, s91_46, s91_48, s91_49, s91_52, s91_55, s91_57, s91_58, s91_62, s91_65, s91_68, s91_70, s91_71, s91_74, s91_76, s91_77, s91_79, s91_81, s91_81N, s91_82, s91_84, s91_87, s91_88, s91_90, s91_91, s91_92, s91_94, s91_95, s91_98, s91_100, s91_103, s91_105, s91_108, s91_111, s91_112, q1, q', ↓reduceIte, kl_i, kl_r, kl_n, kl_a, kl_l, up_s, up_up, is_0, is_s, gv_0, gv_s, pv_o, rc_o, okI_i, okI_x, okS_i, okB_x, gi_i, pi_i, okL_l, gl_l, pl_l, okA_2, okA_3, ga_a, arr_0, arr_1, arr_10, arr_11, len_a, sw_0, sw_i, sw_r, sw_l, fit_i, fit_z0, fit_z1, nz_0, nz_1, ni_K_s, ni_K_n, Nat.ble_eq, Nat.zero_le, Nat.zero_add, true_and, and_true, and_self, Bool.and_true, Bool.true_and, Bool.and_self, not_true_eq_false, not_false_eq_true, Int32.reduceLE, Int32.reduceLT, Int32.reduceAdd, Int32.reduceSub, Int32.reduceToNatClampNeg, Nat.reduceLeDiff, Nat.reduceAdd, Nat.reduceEqDiff, Nat.reduceSub, List.set_cons_zero, List.set_cons_succ, false_and, and_false]
    · have q' : nI F < nI l := nI_lt (by omega) (by omega)
      rw [if_neg q]
      simp +decide only [s91_0, s91_1, s91_2, s91_5, s91_5N, s91_6, s91_7, s91_7N, s91_8, s91_8N0, s91_11, s91_13, s91_15, s91_18, s91_19, s91_22, s91_23, s91_25, s91_28, s91_30, s91_32, s91_34, s91_37, s91_38, s91_40, s91_43, s91_44, s91_46, s91_48, s91_49, s91_52, s91_55, s91_57, s91_58, s91_62, s91_65, s91_68, s91_70, s91_71, s91_74, s91_76, s91_77, s91_79, s91_81, s91_81N, s91_82, s91_84, s91_87, s91_88, s91_90, s91_91, s91_92, s91_94, s91_95, s91_98, s91_100, s91_103, s91_105, s91_108, s91_111, s91_112, q1, q', x0, t2, hs, hi, em, es, xb, nI_1, ih2, ↓reduceIte, kl_i, kl_r, kl_n, kl_a, kl_l, up_s, up_up, is_0, is_s, gv_0, gv_s, pv_o, rc_o, okI_i, okI_x, okS_i, okB_x, gi_i, pi_i, okL_l, gl_l, pl_l, okA_2, okA_3, ga_a, arr_0, arr_1, arr_10, arr_11, len_a, sw_0, sw_i, sw_r, sw_l, fit_i, fit_z0, fit_z1, nz_0, nz_1, ni_K_s, ni_K_n, Nat.ble_eq, Nat.zero_le, Nat.zero_add, true_and, and_true, and_self, Bool.and_true, Bool.true_and, Bool.and_self, not_true_eq_false, not_false_eq_true, Int32.reduceLE, Int32.reduceLT, Int32.reduceAdd, Int32.reduceSub, Int32.reduceToNatClampNeg, Nat.reduceLeDiff, Nat.reduceAdd, Nat.reduceEqDiff, Nat.reduceSub, List.set_cons_zero, List.set_cons_succ, false_and, and_false]
end
section
variable {z : ni_Z} {h : ni_H} {g : Nat → Int32} {ce : Nat → Int64} {n w k : Nat} {c : Nat → Nat}
theorem L_mfi {N hh : Nat} (hN : N ≤ 100) (n4 : n ≤ 4) (hk : k < 8) (hh4 : hh < n) (hw0 : w < n) (hM : h 49 = fs_mo g) (gn : g 0 = nI n) (gw : g 1 = nI w) (hE : h 61 = ni_L 1280 ce) (hc : ∀ i, i < n → (ce (160 * k + i)).toInt32 = nI (c i) ∧ c i ≤ 100) : ∀ (m t l s : Nat) (a8 a9 : Value), t + m = N → l ≤ 1000000 → ∀ (d : Nat) (Q : ni_Q), ni_T (d + 1) 176 99 [.ref 49, .int (nI k), .int (nI hh), .int (nI N), .int 0, .int (nI l), .int (nI s), .int (nI t), a8, a9] [] z h Q = Q (some (.int (nI (fs_fi c n hh m l s ((w + t) % n))))) z h := by
  intro m
  induction m with
  | zero =>
    intro t l s a8 a9 e hl d Q
    obtain rfl : t = N := by omega
    have h1 : nI t ≤ nI t := Int32.le_refl _
    rw [s176_99]
    simp +decide only [s176_0, s176_1, s176_2, s176_5, s176_8, s176_9, s176_10, s176_13, s176_16, s176_17, s176_20, s176_21, s176_22, s176_25, s176_27, s176_29, s176_32, s176_33, s176_36, s176_37, s176_40, s176_41, s176_42, s176_45, s176_47, s176_49, s176_51, s176_54, s176_55, s176_56, s176_59, s176_60, s176_62, s176_65, s176_66, s176_67, s176_70, s176_73, s176_75, s176_77, s176_79, s176_82, s176_83, s176_85, s176_88, s176_89, s176_91, s176_93, s176_94, s176_96, s176_97, s176_101, s176_102, s176_105, s176_106, s176_109, s176_111, s176_112, s176_113, s176_116, s176_117, s176_119, s176_121, s176_122, s176_123, s176_124, s176_126, s176_129, s176_130, s176_131, s176_134, s176_135, s176_136, s176_138, s176_140, s176_141, s176_144, s176_146, s176_148, s176_149, s176_151, s176_153, s176_155, s176_156, s176_158, s176_161, s176_164, s176_166, h1, ↓reduceIte, kl_i, kl_r, kl_n, kl_a, kl_l, up_s, up_up, is_0, is_s, gv_0, gv_s, pv_o, rc_o, okI_i, okI_x, okS_i, okB_x, gi_i, pi_i, okL_l, gl_l, pl_l, okA_2, okA_3, ga_a, arr_0, arr_1, arr_10, arr_11, len_a, sw_0, sw_i, sw_r, sw_l, fit_i, fit_z0, fit_z1, nz_0, nz_1, ni_K_s, ni_K_n, Nat.ble_eq, Nat.zero_le, Nat.zero_add, true_and, and_true, and_self, Bool.and_true, Bool.true_and, Bool.and_self, not_true_eq_false, not_false_eq_true, Int32.reduceLE, Int32.reduceLT, Int32.reduceAdd, Int32.reduceSub, Int32.reduceToNatClampNeg, Nat.reduceLeDiff, Nat.reduceAdd, Nat.reduceEqDiff, Nat.reduceSub, List.set_cons_zero, List.set_cons_succ, false_and, and_false, fs_fi]
  | succ m ih =>
    intro t l s a8 a9 e hl d Q
    have q1 : ¬ nI N ≤ nI t := nI_ge (by omega) (by omega)
    have hw : (w + t) % n < n := Nat.mod_lt _ (by omega)
    have nz : ¬ nI n = 0 := nI_ne0 (by omega) (by omega)
    have er : nI (w + t) - nI (w + t) / nI n * nI n = nI ((w + t) % n) := pk_rem (by omega) (by omega) (by omega)
    have en : (w + (t + 1)) % n = ((w + t) % n + 1) % n := by rw [Nat.mod_add_mod, Nat.add_assoc]
    obtain ⟨ec, c100⟩ := hc ((w + t) % n) hw
    have ih2 := fun l s a8 a9 hl => ih (t + 1) l s a8 a9 (by omega) hl
    rw [en] at ih2
    rw [fs_fi, s176_99]
    generalize (w + t) % n = wh at *
    have hi := fun (d : Nat) (Q : ni_Q) => M_intAt (d := d) (z := z) (Q := Q) (s := k) (i := wh) hM hE hk (by omega)
    rw [ec] at hi
    have em : ((nI l).toInt64 * (nI (c wh)).toInt64 / 100).toInt32 = nI (l * c wh / 100) := lm_n hl c100
    have tl := thr_le (l := l) c100
    have es : nI l - nI (l * c wh / 100) = nI (l - l * c wh / 100) := pk_sub tl
    have ih3 := fun s a8 a9 => ih2 (l - l * c wh / 100) s a8 a9 (by omega)
    by_cases q : wh = hh
    · have q' : nI wh = nI hh := by rw [q]
      rw [if_pos q]
      subst q
      simp +decide only [s176_0, s176_1, s176_2, s176_5, s176_8, s176_9, s176_10, s176_13, s176_16, s176_17, s176_20, s176_21, s176_22, s176_25, s176_27, s176_29, s176_32, s176_33, s176_36, s176_37, s176_40, s176_41, s176_42, s176_45, s176_47, s176_49, s176_51, s176_54, s176_55, s176_56, s176_59, s176_60, s176_62, s176_65, s176_66, s176_67, s176_70, s176_73, s176_75, s176_77, s176_79, s176_82, s176_83, s176_85, s176_88, s176_89, s176_91, s176_93, s176_94, s176_96, s176_97, s176_101, s176_102, s176_105, s176_106, s176_109, s176_111, s176_112, s176_113, s176_116, s176_117, s176_119, s176_121, s176_122, s176_123, s176_124, s176_126, s176_129, s176_130, s176_131, s176_134, s176_135, s176_136, s176_138, s176_140, s176_141, s176_144, s176_146, s176_148, s176_149, s176_151, s176_153, s176_155, s176_156, s176_158, s176_161, s176_164, s176_166, q1, hM, gn, gw, nI_add, nz, er, hi, em, es, eq_self, nI_1, ih3, mi_0, mg_0, mi_1, mg_1, mi_2, mg_2, mi_3, mg_3, mi_4, mg_4, mi_5, mg_5, mi_6, mg_6, mi_7, mg_7, mi_8, mg_8, mi_9, mg_9, mi_10, mg_10, mi_11, mg_11, mi_12, mg_12, mi_13, mg_13, mi_14, mg_14, mi_15, mg_15, mi_16, mg_16, mi_17, mg_17, mi_18, mg_18, mi_19, mg_19, mi_20, mg_20, mi_21, mg_21, mi_22, mg_22, mi_23, mg_23, mi_24, mg_24, mi_25, mg_25, mi_26, mg_26, mi_27, mg_27, mi_28, mg_28, mi_29, mg_29, mi_30, mg_30, mi_31, mg_31, mi_32, mg_32, mq_0, mq_1, mq_2, mq_3, mq_4, mq_20, mq_21, mq_22, mq_23, mq_24, mq_27, mq_28, mq_29, mq_31, mq_32, mrc, ud_s, ud_n, ud_u, up_n, ↓reduceIte, kl_i, kl_r, kl_n, kl_a, kl_l, up_s, up_up, is_0, is_s, gv_0, gv_s, pv_o, rc_o, okI_i, okI_x, okS_i, okB_x, gi_i, pi_i, okL_l, gl_l, pl_l, okA_2, okA_3, ga_a, arr_0, arr_1, arr_10, arr_11, len_a, sw_0, sw_i, sw_r, sw_l, fit_i, fit_z0, fit_z1, nz_0, nz_1, ni_K_s, ni_K_n, Nat.ble_eq, Nat.zero_le, Nat.zero_add, true_and, and_true, and_self, Bool.and_true, Bool.true_and, Bool.and_self, not_true_eq_false, not_false_eq_true, Int32.reduceLE, Int32.reduceLT, Int32.reduceAdd, Int32.reduceSub, Int32.reduceToNatClampNeg, Nat.reduceLeDiff, Nat.reduceAdd, Nat.reduceEqDiff, Nat.reduceSub, List.set_cons_zero, List.set_cons_succ, false_and, and_false]
    · have q' : ¬ nI wh = nI hh := fun e => q ((nI_eq (by omega) (by omega)).mp e)
      rw [if_neg q]
      simp +decide only [s176_0, s176_1, s176_2, s176_5, s176_8, s176_9, s176_10, s176_13, s176_16, s176_17, s176_20, s176_21, s176_22, s176_25, s176_27, s176_29, s176_32, s176_33, s176_36, s176_37, s176_40, s176_41, s176_42, s176_45, s176_47, s176_49, s176_51, s176_54, s176_55, s176_56, s176_59, s176_60, s176_62, s176_65, s176_66, s176_67, s176_70, s176_73, s176_75, s176_77, s176_79, s176_82, s176_83, s176_85, s176_88, s176_89, s176_91, s176_93, s176_94, s176_96, s176_97, s176_101, s176_102, s176_105, s176_106, s176_109, s176_111, s176_112, s176_113, s176_116, s176_117, s176_119, s176_121, s176_122, s176_123, s176_124, s176_126, s176_129, s176_130, s176_131, s176_134, s176_135, s176_136, s176_138, s176_140, s176_141, s176_144, s176_146, s176_148, s176_149, s176_151, s176_153, s176_155, s176_156, s176_158, s176_161, s176_164, s176_166, q1, hM, gn, gw, nI_add, nz, er, hi, em, es, q', nI_1, ih3, mi_0, mg_0, mi_1, mg_1, mi_2, mg_2, mi_3, mg_3, mi_4, mg_4, mi_5, mg_5, mi_6, mg_6, mi_7, mg_7, mi_8, mg_8, mi_9, mg_9, mi_10, mg_10, mi_11, mg_11, mi_12, mg_12, mi_13, mg_13, mi_14, mg_14, mi_15, mg_15, mi_16, mg_16, mi_17, mg_17, mi_18, mg_18, mi_19, mg_19, mi_20, mg_20, mi_21, mg_21, mi_22, mg_22, mi_23, mg_23, mi_24, mg_24, mi_25, mg_25, mi_26, mg_26, mi_27, mg_27, mi_28, mg_28, mi_29, mg_29, mi_30, mg_30, mi_31, mg_31, mi_32, mg_32, mq_0, mq_1, mq_2, mq_3, mq_4, mq_20, mq_21, mq_22, mq_23, mq_24, mq_27, mq_28, mq_29, mq_31, mq_32, mrc, ud_s, ud_n, ud_u, up_n, ↓reduceIte, kl_i, kl_r, kl_n, kl_a, kl_l, up_s, up_up, is_0, is_s, gv_0, gv_s, pv_o, rc_o, okI_i, okI_x, okS_i, okB_x, gi_i, pi_i, okL_l, gl_l, pl_l, okA_2, okA_3, ga_a, arr_0, arr_1, arr_10, arr_11, len_a, sw_0, sw_i, sw_r, sw_l, fit_i, fit_z0, fit_z1, nz_0, nz_1, ni_K_s, ni_K_n, Nat.ble_eq, Nat.zero_le, Nat.zero_add, true_and, and_true, and_self, Bool.and_true, Bool.true_and, Bool.and_self, not_true_eq_false, not_false_eq_true, Int32.reduceLE, Int32.reduceLT, Int32.reduceAdd, Int32.reduceSub, Int32.reduceToNatClampNeg, Nat.reduceLeDiff, Nat.reduceAdd, Nat.reduceEqDiff, Nat.reduceSub, List.set_cons_zero, List.set_cons_succ, false_and, and_false]
theorem L_mtn {F : Nat} (hF : F ≤ 1000000) (n4 : n ≤ 4) (hk : k < 8) (hw0 : w < n) (hM : h 49 = fs_mo g) (gn : g 0 = nI n) (gw : g 1 = nI w) (hE : h 61 = ni_L 1280 ce) (hc : ∀ i, i < n → (ce (160 * k + i)).toInt32 = nI (c i) ∧ c i ≤ 100) : ∀ (m t l : Nat), t + m = 1001 → l ≤ 1000000 → ∀ (d : Nat) (Q : ni_Q), ni_T (d + 1) 177 75 [.ref 49, .int (nI k), .int (nI F), .int 0, .int (nI l), .int (nI t)] [] z h Q = Q (some (.int (fs_tn c n F m t l ((w + t) % n)))) z h := by
  intro m
  induction m with
  | zero =>
    intro t l e hl d Q
    have q1 : (1000 : Int32) < nI t := nI_lt (a := 1000) (b := t) (by omega) (by omega)
    rw [s177_75]
    simp +decide only [s177_0, s177_1, s177_2, s177_5, s177_6, s177_7, s177_10, s177_11, s177_14, s177_17, s177_18, s177_21, s177_22, s177_25, s177_26, s177_27, s177_30, s177_32, s177_33, s177_34, s177_37, s177_38, s177_41, s177_42, s177_44, s177_47, s177_48, s177_49, s177_52, s177_55, s177_57, s177_58, s177_59, s177_62, s177_63, s177_64, s177_67, s177_68, s177_70, s177_72, s177_73, s177_77, s177_80, s177_83, s177_85, s177_86, s177_89, s177_91, s177_92, s177_94, s177_96, s177_97, s177_98, s177_99, s177_100, s177_103, s177_105, s177_106, s177_107, s177_110, s177_111, s177_114, s177_115, s177_116, s177_119, s177_120, s177_121, s177_122, s177_124, s177_127, s177_130, s177_131, q1, ↓reduceIte, kl_i, kl_r, kl_n, kl_a, kl_l, up_s, up_up, is_0, is_s, gv_0, gv_s, pv_o, rc_o, okI_i, okI_x, okS_i, okB_x, gi_i, pi_i, okL_l, gl_l, pl_l, okA_2, okA_3, ga_a, arr_0, arr_1, arr_10, arr_11, len_a, sw_0, sw_i, sw_r, sw_l, fit_i, fit_z0, fit_z1, nz_0, nz_1, ni_K_s, ni_K_n, Nat.ble_eq, Nat.zero_le, Nat.zero_add, true_and, and_true, and_self, Bool.and_true, Bool.true_and, Bool.and_self, not_true_eq_false, not_false_eq_true, Int32.reduceLE, Int32.reduceLT, Int32.reduceAdd, Int32.reduceSub, Int32.reduceToNatClampNeg, Nat.reduceLeDiff, Nat.reduceAdd, Nat.reduceEqDiff, Nat.reduceSub, List.set_cons_zero, List.set_cons_succ, false_and, and_false, fs_tn]
  | succ m ih =>
    intro t l e hl d Q
    have q1 : ¬ (1000 : Int32) < nI t := nI_nlt (a := 1000) (b := t) (by omega) (by decide)
    have hw : (w + t) % n < n := Nat.mod_lt _ (by omega)
    have nz : ¬ nI n = 0 := nI_ne0 (by omega) (by omega)
    have er : nI (w + t) - nI (w + t) / nI n * nI n = nI ((w + t) % n) := pk_rem (by omega) (by omega) (by omega)
    have en : (w + (t + 1)) % n = ((w + t) % n + 1) % n := by rw [Nat.mod_add_mod, Nat.add_assoc]
    obtain ⟨ec, c100⟩ := hc ((w + t) % n) hw
    have ih2 := fun l hl => ih (t + 1) l (by omega) hl
    rw [en] at ih2
    rw [fs_tn, s177_75]
    generalize (w + t) % n = wh at *
    have hi := fun (d : Nat) (Q : ni_Q) => M_intAt (d := d) (z := z) (Q := Q) (s := k) (i := wh) hM hE hk (by omega)
    rw [ec] at hi
    have em : ((nI l).toInt64 * (nI (c wh)).toInt64 / 100).toInt32 = nI (l * c wh / 100) := lm_n hl c100
    have tl := thr_le (l := l) c100
    have es : nI l - nI (l * c wh / 100) = nI (l - l * c wh / 100) := pk_sub tl
    have ih3 := ih2 (l - l * c wh / 100) (by omega)
    by_cases q : l ≤ F
    · have q' : ¬ nI F < nI l := nI_nlt q (by omega)
      rw [if_pos q]
      simp +decide only [s177_0, s177_1, s177_2, s177_5, s177_6, s177_7, s177_10, s177_11, s177_14, s177_17, s177_18, s177_21, s177_22, s177_25, s177_26, s177_27, s177_30, s177_32, s177_33, s177_34, s177_37, s177_38, s177_41, s177_42, s177_44, s177_47, s177_48, s177_49, s177_52, s177_55, s177_57, s177_58, s177_59, s177_62, s177_63, s177_64, s177_67, s177_68, s177_70, s177_72, s177_73, s177_77, s177_80, s177_83, s177_85, s177_86, s177_89, s177_91, s177_92, s177_94, s177_96, s177_97, s177_98, s177_99, s177_100, s177_103, s177_105, s177_106, s177_107, s177_110, s177_111, s177_114, s177_115, s177_116, s177_119, s177_120, s177_121, s177_122, s177_124, s177_127, s177_130, s177_131, q1, q', ↓reduceIte, kl_i, kl_r, kl_n, kl_a, kl_l, up_s, up_up, is_0, is_s, gv_0, gv_s, pv_o, rc_o, okI_i, okI_x, okS_i, okB_x, gi_i, pi_i, okL_l, gl_l, pl_l, okA_2, okA_3, ga_a, arr_0, arr_1, arr_10, arr_11, len_a, sw_0, sw_i, sw_r, sw_l, fit_i, fit_z0, fit_z1, nz_0, nz_1, ni_K_s, ni_K_n, Nat.ble_eq, Nat.zero_le, Nat.zero_add, true_and, and_true, and_self, Bool.and_true, Bool.true_and, Bool.and_self, not_true_eq_false, not_false_eq_true, Int32.reduceLE, Int32.reduceLT, Int32.reduceAdd, Int32.reduceSub, Int32.reduceToNatClampNeg, Nat.reduceLeDiff, Nat.reduceAdd, Nat.reduceEqDiff, Nat.reduceSub, List.set_cons_zero, List.set_cons_succ, false_and, and_false]
    · have q' : nI F < nI l := nI_lt (by omega) (by omega)
      rw [if_neg q]
      simp +decide only [s177_0, s177_1, s177_2, s177_5, s177_6, s177_7, s177_10, s177_11, s177_14, s177_17, s177_18, s177_21, s177_22, s177_25, s177_26, s177_27, s177_30, s177_32, s177_33, s177_34, s177_37, s177_38, s177_41, s177_42, s177_44, s177_47, s177_48, s177_49, s177_52, s177_55, s177_57, s177_58, s177_59, s177_62, s177_63, s177_64, s177_67, s177_68, s177_70, s177_72, s177_73, s177_77, s177_80, s177_83, s177_85, s177_86, s177_89, s177_91, s177_92, s177_94, s177_96, s177_97, s177_98, s177_99, s177_100, s177_103, s177_105, s177_106, s177_107, s177_110, s177_111, s177_114, s177_115, s177_116, s177_119, s177_120, s177_121, s177_122, s177_124, s177_127, s177_130, s177_131, q1, q', hM, gn, gw, nI_add, nz, er, hi, em, es, nI_1, ih3, mi_0, mg_0, mi_1, mg_1, mi_2, mg_2, mi_3, mg_3, mi_4, mg_4, mi_5, mg_5, mi_6, mg_6, mi_7, mg_7, mi_8, mg_8, mi_9, mg_9, mi_10, mg_10, mi_11, mg_11, mi_12, mg_12, mi_13, mg_13, mi_14, mg_14, mi_15, mg_15, mi_16, mg_16, mi_17, mg_17, mi_18, mg_18, mi_19, mg_19, mi_20, mg_20, mi_21, mg_21, mi_22, mg_22, mi_23, mg_23, mi_24, mg_24, mi_25, mg_25, mi_26, mg_26, mi_27, mg_27, mi_28, mg_28, mi_29, mg_29, mi_30, mg_30, mi_31, mg_31, mi_32, mg_32, mq_0, mq_1, mq_2, mq_3, mq_4, mq_20, mq_21, mq_22, mq_23, mq_24, mq_27, mq_28, mq_29, mq_31, mq_32, mrc, ud_s, ud_n, ud_u, up_n, ↓reduceIte, kl_i, kl_r, kl_n, kl_a, kl_l, up_s, up_up, is_0, is_s, gv_0, gv_s, pv_o, rc_o, okI_i, okI_x, okS_i, okB_x, gi_i, pi_i, okL_l, gl_l, pl_l, okA_2, okA_3, ga_a, arr_0, arr_1, arr_10, arr_11, len_a, sw_0, sw_i, sw_r, sw_l, fit_i, fit_z0, fit_z1, nz_0, nz_1, ni_K_s, ni_K_n, Nat.ble_eq, Nat.zero_le, Nat.zero_add, true_and, and_true, and_self, Bool.and_true, Bool.true_and, Bool.and_self, not_true_eq_false, not_false_eq_true, Int32.reduceLE, Int32.reduceLT, Int32.reduceAdd, Int32.reduceSub, Int32.reduceToNatClampNeg, Nat.reduceLeDiff, Nat.reduceAdd, Nat.reduceEqDiff, Nat.reduceSub, List.set_cons_zero, List.set_cons_succ, false_and, and_false]
end
