set_option maxRecDepth 100000
set_option maxHeartbeats 4000000
/-! ===== the reference keeps and brings back all ===== -/
def fs_kp (kp : Nat → Int32) (u : Nat → Nat → Int32) : Prop := (∀ k, k < 4 → kp k = u 1 k) ∧ (∀ k, k < 4 → kp (4 + k) = u 2 k) ∧ (∀ k, k < 4 → kp (8 + k) = u 3 k) ∧ (∀ k, k < 4 → kp (12 + k) = u 4 k) ∧ (∀ k, k < 4 → kp (16 + k) = u 5 k) ∧ (∀ k, k < 5 → kp (20 + k) = u 0 k) ∧ kp 25 = u 6 0 ∧ kp 26 = u 6 1 ∧ kp 27 = u 6 2 ∧ kp 28 = u 6 3
section
variable {d : Nat} {z : ni_Z} {Q : ni_Q}
def fs_cf (fa ft : Nat → Int32) (f n i : Nat) : Nat → Int32 := fun j => if f + i ≤ j ∧ j < f + n then fa (j - f) else ft j
def fs_cb (fa ft : Nat → Int32) (f n i : Nat) : Nat → Int32 := fun j => if i ≤ j ∧ j < n then ft (f + j) else fa j
theorem L_cf {pa pt na f n : Nat} {fa : Nat → Int32} (hn : n ≤ na) (hna : na < 100) (hf : f + n ≤ 30) (hne : pa ≠ pt) : ∀ (m i : Nat) (ft : Nat → Int32) (h : ni_H), i + m = n → h pa = ni_I na fa → h pt = ni_I 30 ft → ni_T d 152 3 [.ref 49, .ref pa, .int (nI n), .ref pt, .int (nI f), .int 0, .int (nI i)] [] z h Q = Q (some (.int (nI (f + n)))) z (ni_up h pt (ni_I 30 (fs_cf fa ft f n i))) := by
  intro m
  induction m with
  | zero =>
    intro i ft h e hA hT
    obtain rfl : i = n := by omega
    have h1 : nI i ≤ nI i := Int32.le_refl _
    have e1 : fs_cf fa ft f i i = ft := by funext j; unfold fs_cf; rw [if_neg (by omega)]
    rw [s152_3]
    simp +decide only [s152_0, s152_1, s152_5, s152_6, s152_9, s152_11, s152_14, s152_14N, s152_15, s152_17, s152_17N, s152_18, s152_20, s152_22, s152_23, s152_24, s152_25, s152_28, s152_28N, s152_29, s152_31, s152_33, s152_34, s152_34N, s152_35, s152_37, s152_38, s152_39, s152_42, s152_45, s152_47, s152_48, s152_49, h1, nI_add, ↓reduceIte, kl_i, kl_r, kl_n, kl_a, kl_l, up_s, up_up, is_0, is_s, gv_0, gv_s, pv_o, rc_o, okI_i, okI_x, okS_i, okB_x, gi_i, pi_i, okL_l, gl_l, pl_l, okA_2, okA_3, ga_a, arr_0, arr_1, arr_10, arr_11, len_a, sw_0, sw_i, sw_r, sw_l, fit_i, fit_z0, fit_z1, nz_0, nz_1, ni_K_s, ni_K_n, Nat.ble_eq, Nat.zero_le, Nat.zero_add, true_and, and_true, and_self, Bool.and_true, Bool.true_and, Bool.and_self, not_true_eq_false, not_false_eq_true, Int32.reduceLE, Int32.reduceLT, Int32.reduceAdd, Int32.reduceSub, Int32.reduceToNatClampNeg, Nat.reduceLeDiff, Nat.reduceAdd, Nat.reduceEqDiff, Nat.reduceSub, List.set_cons_zero, List.set_cons_succ, false_and, and_false]
    rw [e1, up_id hT]
  | succ m ih =>
    intro i ft h e hA hT
    have h1 : ¬ nI n ≤ nI i := nI_ge (by omega) (by omega)
    rw [s152_3]
    simp +decide only [s152_0, s152_1, s152_5, s152_6, s152_9, s152_11, s152_14, s152_14N, s152_15, s152_17, s152_17N, s152_18, s152_20, s152_22, s152_23, s152_24, s152_25, s152_28, s152_28N, s152_29, s152_31, s152_33, s152_34, s152_34N, s152_35, s152_37, s152_38, s152_39, s152_42, s152_45, s152_47, s152_48, s152_49, h1, hA, hT, nI_add, nI_1, in_n (k := i) (n := na) (by omega) (by omega), nI_clamp (n := i) (by omega), in_n (k := f + i) (n := 30) (by omega) (by decide), nI_clamp (n := f + i) (by omega), ↓reduceIte, kl_i, kl_r, kl_n, kl_a, kl_l, up_s, up_up, is_0, is_s, gv_0, gv_s, pv_o, rc_o, okI_i, okI_x, okS_i, okB_x, gi_i, pi_i, okL_l, gl_l, pl_l, okA_2, okA_3, ga_a, arr_0, arr_1, arr_10, arr_11, len_a, sw_0, sw_i, sw_r, sw_l, fit_i, fit_z0, fit_z1, nz_0, nz_1, ni_K_s, ni_K_n, Nat.ble_eq, Nat.zero_le, Nat.zero_add, true_and, and_true, and_self, Bool.and_true, Bool.true_and, Bool.and_self, not_true_eq_false, not_false_eq_true, Int32.reduceLE, Int32.reduceLT, Int32.reduceAdd, Int32.reduceSub, Int32.reduceToNatClampNeg, Nat.reduceLeDiff, Nat.reduceAdd, Nat.reduceEqDiff, Nat.reduceSub, List.set_cons_zero, List.set_cons_succ, false_and, and_false]
    rw [ih (i + 1) _ _ (by omega) (by rw [up_n hne]; exact hA) up_s, up_up]
    congr 3
    funext j
    unfold fs_cf upd
    by_cases q : j = f + i
    · subst q
      rw [if_neg (by omega), if_pos rfl, if_pos (by omega), show f + i - f = i by omega]
    · rw [if_neg q]
      by_cases q2 : f + (i + 1) ≤ j ∧ j < f + n
      · rw [if_pos q2, if_pos (by omega)]
      · rw [if_neg q2, if_neg (by omega)]
theorem L_cb {pa pt na f n : Nat} {ft : Nat → Int32} (hn : n ≤ na) (hna : na < 100) (hf : f + n ≤ 30) (hne : pt ≠ pa) : ∀ (m i : Nat) (fa : Nat → Int32) (h : ni_H), i + m = n → h pa = ni_I na fa → h pt = ni_I 30 ft → ni_T d 152 3 [.ref 49, .ref pa, .int (nI n), .ref pt, .int (nI f), .int 1, .int (nI i)] [] z h Q = Q (some (.int (nI (f + n)))) z (ni_up h pa (ni_I na (fs_cb fa ft f n i))) := by
  intro m
  induction m with
  | zero =>
    intro i fa h e hA hT
    obtain rfl : i = n := by omega
    have h1 : nI i ≤ nI i := Int32.le_refl _
    have e1 : fs_cb fa ft f i i = fa := by funext j; unfold fs_cb; rw [if_neg (by omega)]
    rw [s152_3]
    simp +decide only [s152_0, s152_1, s152_5, s152_6, s152_9, s152_11, s152_14, s152_14N, s152_15, s152_17, s152_17N, s152_18, s152_20, s152_22, s152_23, s152_24, s152_25, s152_28, s152_28N, s152_29, s152_31, s152_33, s152_34, s152_34N, s152_35, s152_37, s152_38, s152_39, s152_42, s152_45, s152_47, s152_48, s152_49, h1, nI_add, ↓reduceIte, kl_i, kl_r, kl_n, kl_a, kl_l, up_s, up_up, is_0, is_s, gv_0, gv_s, pv_o, rc_o, okI_i, okI_x, okS_i, okB_x, gi_i, pi_i, okL_l, gl_l, pl_l, okA_2, okA_3, ga_a, arr_0, arr_1, arr_10, arr_11, len_a, sw_0, sw_i, sw_r, sw_l, fit_i, fit_z0, fit_z1, nz_0, nz_1, ni_K_s, ni_K_n, Nat.ble_eq, Nat.zero_le, Nat.zero_add, true_and, and_true, and_self, Bool.and_true, Bool.true_and, Bool.and_self, not_true_eq_false, not_false_eq_true, Int32.reduceLE, Int32.reduceLT, Int32.reduceAdd, Int32.reduceSub, Int32.reduceToNatClampNeg, Nat.reduceLeDiff, Nat.reduceAdd, Nat.reduceEqDiff, Nat.reduceSub, List.set_cons_zero, List.set_cons_succ, false_and, and_false]
    rw [e1, up_id hA]
  | succ m ih =>
    intro i fa h e hA hT
    have h1 : ¬ nI n ≤ nI i := nI_ge (by omega) (by omega)
    rw [s152_3]
    simp +decide only [s152_0, s152_1, s152_5, s152_6, s152_9, s152_11, s152_14, s152_14N, s152_15, s152_17, s152_17N, s152_18, s152_20, s152_22, s152_23, s152_24, s152_25, s152_28, s152_28N, s152_29, s152_31, s152_33, s152_34, s152_34N, s152_35, s152_37, s152_38, s152_39, s152_42, s152_45, s152_47, s152_48, s152_49, h1, hA, hT, nI_add, nI_1, in_n (k := i) (n := na) (by omega) (by omega), nI_clamp (n := i) (by omega), in_n (k := f + i) (n := 30) (by omega) (by decide), nI_clamp (n := f + i) (by omega), ↓reduceIte, kl_i, kl_r, kl_n, kl_a, kl_l, up_s, up_up, is_0, is_s, gv_0, gv_s, pv_o, rc_o, okI_i, okI_x, okS_i, okB_x, gi_i, pi_i, okL_l, gl_l, pl_l, okA_2, okA_3, ga_a, arr_0, arr_1, arr_10, arr_11, len_a, sw_0, sw_i, sw_r, sw_l, fit_i, fit_z0, fit_z1, nz_0, nz_1, ni_K_s, ni_K_n, Nat.ble_eq, Nat.zero_le, Nat.zero_add, true_and, and_true, and_self, Bool.and_true, Bool.true_and, Bool.and_self, not_true_eq_false, not_false_eq_true, Int32.reduceLE, Int32.reduceLT, Int32.reduceAdd, Int32.reduceSub, Int32.reduceToNatClampNeg, Nat.reduceLeDiff, Nat.reduceAdd, Nat.reduceEqDiff, Nat.reduceSub, List.set_cons_zero, List.set_cons_succ, false_and, and_false]
    rw [ih (i + 1) _ _ (by omega) up_s (by rw [up_n hne]; exact hT), up_up]
    congr 3
    funext j
    unfold fs_cb upd
    by_cases q : j = i
    · subst q
      rw [if_neg (by omega), if_pos rfl, if_pos (by omega)]
    · rw [if_neg q]
      by_cases q2 : i + 1 ≤ j ∧ j < n
      · rw [if_pos q2, if_pos (by omega)]
      · rw [if_neg q2, if_neg (by omega)]
theorem M_cf {pa pt na f n : Nat} {fa ft : Nat → Int32} {h : ni_H} (hn : n ≤ na) (hna : na < 100) (hf : f + n ≤ 30) (hne : pa ≠ pt) (hA : h pa = ni_I na fa) (hT : h pt = ni_I 30 ft) : ni_T d 152 0 [.ref 49, .ref pa, .int (nI n), .ref pt, .int (nI f), .int 0, .retAddr 0] [] z h Q = Q (some (.int (nI (f + n)))) z (ni_up h pt (ni_I 30 (fs_cf fa ft f n 0))) := by
  have e := L_cf (d := d) (z := z) (Q := Q) hn hna hf hne n 0 ft h (by omega) hA hT
  rw [nI_0] at e
  simp +decide only [s152_0, s152_1, s152_5, s152_6, s152_9, s152_11, s152_14, s152_14N, s152_15, s152_17, s152_17N, s152_18, s152_20, s152_22, s152_23, s152_24, s152_25, s152_28, s152_28N, s152_29, s152_31, s152_33, s152_34, s152_34N, s152_35, s152_37, s152_38, s152_39, s152_42, s152_45, s152_47, s152_48, s152_49, e, ↓reduceIte, kl_i, kl_r, kl_n, kl_a, kl_l, up_s, up_up, is_0, is_s, gv_0, gv_s, pv_o, rc_o, okI_i, okI_x, okS_i, okB_x, gi_i, pi_i, okL_l, gl_l, pl_l, okA_2, okA_3, ga_a, arr_0, arr_1, arr_10, arr_11, len_a, sw_0, sw_i, sw_r, sw_l, fit_i, fit_z0, fit_z1, nz_0, nz_1, ni_K_s, ni_K_n, Nat.ble_eq, Nat.zero_le, Nat.zero_add, true_and, and_true, and_self, Bool.and_true, Bool.true_and, Bool.and_self, not_true_eq_false, not_false_eq_true, Int32.reduceLE, Int32.reduceLT, Int32.reduceAdd, Int32.reduceSub, Int32.reduceToNatClampNeg, Nat.reduceLeDiff, Nat.reduceAdd, Nat.reduceEqDiff, Nat.reduceSub, List.set_cons_zero, List.set_cons_succ, false_and, and_false]
theorem M_cb {pa pt na f n : Nat} {fa ft : Nat → Int32} {h : ni_H} (hn : n ≤ na) (hna : na < 100) (hf : f + n ≤ 30) (hne : pt ≠ pa) (hA : h pa = ni_I na fa) (hT : h pt = ni_I 30 ft) : ni_T d 152 0 [.ref 49, .ref pa, .int (nI n), .ref pt, .int (nI f), .int 1, .retAddr 0] [] z h Q = Q (some (.int (nI (f + n)))) z (ni_up h pa (ni_I na (fs_cb fa ft f n 0))) := by
  have e := L_cb (d := d) (z := z) (Q := Q) hn hna hf hne n 0 fa h (by omega) hA hT
  rw [nI_0] at e
  simp +decide only [s152_0, s152_1, s152_5, s152_6, s152_9, s152_11, s152_14, s152_14N, s152_15, s152_17, s152_17N, s152_18, s152_20, s152_22, s152_23, s152_24, s152_25, s152_28, s152_28N, s152_29, s152_31, s152_33, s152_34, s152_34N, s152_35, s152_37, s152_38, s152_39, s152_42, s152_45, s152_47, s152_48, s152_49, e, ↓reduceIte, kl_i, kl_r, kl_n, kl_a, kl_l, up_s, up_up, is_0, is_s, gv_0, gv_s, pv_o, rc_o, okI_i, okI_x, okS_i, okB_x, gi_i, pi_i, okL_l, gl_l, pl_l, okA_2, okA_3, ga_a, arr_0, arr_1, arr_10, arr_11, len_a, sw_0, sw_i, sw_r, sw_l, fit_i, fit_z0, fit_z1, nz_0, nz_1, ni_K_s, ni_K_n, Nat.ble_eq, Nat.zero_le, Nat.zero_add, true_and, and_true, and_self, Bool.and_true, Bool.true_and, Bool.and_self, not_true_eq_false, not_false_eq_true, Int32.reduceLE, Int32.reduceLT, Int32.reduceAdd, Int32.reduceSub, Int32.reduceToNatClampNeg, Nat.reduceLeDiff, Nat.reduceAdd, Nat.reduceEqDiff, Nat.reduceSub, List.set_cons_zero, List.set_cons_succ, false_and, and_false]
end
section
variable {z : ni_Z} {h : ni_H} {u : Nat → Nat → Int32} {g kp : Nat → Int32}
theorem M_allF_65 (H : fs_mtb u g h) (hK : h 65 = ni_I 30 kp) : ∃ kp' : Nat → Int32, fs_kp kp' u ∧ ∀ (d : Nat) (Q : ni_Q), ni_T (d + 1) 153 0 [.ref 49, .ref 65, .int 0, .retAddr 0] [] z h Q = Q none z (ni_up h 65 (ni_I 30 kp')) := by
  obtain ⟨a0, a1, a2, a3, a4, a5, a6, b0, b1, b2, b3⟩ := H
  have c0 := fun (d : Nat) (Q : ni_Q) => M_cf (d := d) (z := z) (Q := Q) (pa := 51) (pt := 65) (na := 4) (f := 0) (n := 4) (h := h) (by decide) (by decide) (by decide) (by decide) a1 hK
  generalize hk0 : fs_cf (u 1) kp 0 4 0 = k0 at c0
  simp only [Nat.reduceAdd, Nat.zero_add, up_up, nI_0, show nI 4 = 4 from rfl, show nI 8 = 8 from rfl, show nI 12 = 12 from rfl, show nI 16 = 16 from rfl, show nI 20 = 20 from rfl, show nI 25 = 25 from rfl, show nI 5 = 5 from rfl] at c0
  have c1 := fun (d : Nat) (Q : ni_Q) => M_cf (d := d) (z := z) (Q := Q) (pa := 52) (pt := 65) (na := 4) (f := 4) (n := 4) (h := (ni_up h 65 (ni_I 30 k0))) (by decide) (by decide) (by decide) (by decide) (by rw [up_n (by decide)]; exact a2) up_s
  generalize hk1 : fs_cf (u 2) k0 4 4 0 = k1 at c1
  simp only [Nat.reduceAdd, Nat.zero_add, up_up, nI_0, show nI 4 = 4 from rfl, show nI 8 = 8 from rfl, show nI 12 = 12 from rfl, show nI 16 = 16 from rfl, show nI 20 = 20 from rfl, show nI 25 = 25 from rfl, show nI 5 = 5 from rfl] at c1
  have c2 := fun (d : Nat) (Q : ni_Q) => M_cf (d := d) (z := z) (Q := Q) (pa := 53) (pt := 65) (na := 4) (f := 8) (n := 4) (h := (ni_up h 65 (ni_I 30 k1))) (by decide) (by decide) (by decide) (by decide) (by rw [up_n (by decide)]; exact a3) up_s
  generalize hk2 : fs_cf (u 3) k1 8 4 0 = k2 at c2
  simp only [Nat.reduceAdd, Nat.zero_add, up_up, nI_0, show nI 4 = 4 from rfl, show nI 8 = 8 from rfl, show nI 12 = 12 from rfl, show nI 16 = 16 from rfl, show nI 20 = 20 from rfl, show nI 25 = 25 from rfl, show nI 5 = 5 from rfl] at c2
  have c3 := fun (d : Nat) (Q : ni_Q) => M_cf (d := d) (z := z) (Q := Q) (pa := 54) (pt := 65) (na := 4) (f := 12) (n := 4) (h := (ni_up h 65 (ni_I 30 k2))) (by decide) (by decide) (by decide) (by decide) (by rw [up_n (by decide)]; exact a4) up_s
  generalize hk3 : fs_cf (u 4) k2 12 4 0 = k3 at c3
  simp only [Nat.reduceAdd, Nat.zero_add, up_up, nI_0, show nI 4 = 4 from rfl, show nI 8 = 8 from rfl, show nI 12 = 12 from rfl, show nI 16 = 16 from rfl, show nI 20 = 20 from rfl, show nI 25 = 25 from rfl, show nI 5 = 5 from rfl] at c3
  have c4 := fun (d : Nat) (Q : ni_Q) => M_cf (d := d) (z := z) (Q := Q) (pa := 55) (pt := 65) (na := 4) (f := 16) (n := 4) (h := (ni_up h 65 (ni_I 30 k3))) (by decide) (by decide) (by decide) (by decide) (by rw [up_n (by decide)]; exact a5) up_s
  generalize hk4 : fs_cf (u 5) k3 16 4 0 = k4 at c4
  simp only [Nat.reduceAdd, Nat.zero_add, up_up, nI_0, show nI 4 = 4 from rfl, show nI 8 = 8 from rfl, show nI 12 = 12 from rfl, show nI 16 = 16 from rfl, show nI 20 = 20 from rfl, show nI 25 = 25 from rfl, show nI 5 = 5 from rfl] at c4
  have c5 := fun (d : Nat) (Q : ni_Q) => M_cf (d := d) (z := z) (Q := Q) (pa := 56) (pt := 65) (na := 5) (f := 20) (n := 5) (h := (ni_up h 65 (ni_I 30 k4))) (by decide) (by decide) (by decide) (by decide) (by rw [up_n (by decide)]; exact a6) up_s
  generalize hk5 : fs_cf (u 0) k4 20 5 0 = k5 at c5
  simp only [Nat.reduceAdd, Nat.zero_add, up_up, nI_0, show nI 4 = 4 from rfl, show nI 8 = 8 from rfl, show nI 12 = 12 from rfl, show nI 16 = 16 from rfl, show nI 20 = 20 from rfl, show nI 25 = 25 from rfl, show nI 5 = 5 from rfl] at c5
  refine ⟨upd (upd (upd (upd k5 25 (u 6 0)) 26 (u 6 1)) 27 (u 6 2)) 28 (u 6 3), ?_, fun d Q => ?_⟩
  · subst hk5 hk4 hk3 hk2 hk1 hk0
    refine ⟨fun k hk => ?_, fun k hk => ?_, fun k hk => ?_, fun k hk => ?_, fun k hk => ?_, fun k hk => ?_, ?_, ?_, ?_, ?_⟩
    · rw [ud_n (by omega), ud_n (by omega), ud_n (by omega), ud_n (by omega)]
      unfold fs_cf
      rw [if_neg (by omega)]
      rw [if_neg (by omega)]
      rw [if_neg (by omega)]
      rw [if_neg (by omega)]
      rw [if_neg (by omega)]
      rw [if_pos (by omega)]
      rw [Nat.sub_zero]
    · rw [ud_n (by omega), ud_n (by omega), ud_n (by omega), ud_n (by omega)]
      unfold fs_cf
      rw [if_neg (by omega)]
      rw [if_neg (by omega)]
      rw [if_neg (by omega)]
      rw [if_neg (by omega)]
      rw [if_pos (by omega)]
      rw [show 4 + k - 4 = k by omega]
    · rw [ud_n (by omega), ud_n (by omega), ud_n (by omega), ud_n (by omega)]
      unfold fs_cf
      rw [if_neg (by omega)]
      rw [if_neg (by omega)]
      rw [if_neg (by omega)]
      rw [if_pos (by omega)]
      rw [show 8 + k - 8 = k by omega]
    · rw [ud_n (by omega), ud_n (by omega), ud_n (by omega), ud_n (by omega)]
      unfold fs_cf
      rw [if_neg (by omega)]
      rw [if_neg (by omega)]
      rw [if_pos (by omega)]
      rw [show 12 + k - 12 = k by omega]
    · rw [ud_n (by omega), ud_n (by omega), ud_n (by omega), ud_n (by omega)]
      unfold fs_cf
      rw [if_neg (by omega)]
      rw [if_pos (by omega)]
      rw [show 16 + k - 16 = k by omega]
    · rw [ud_n (by omega), ud_n (by omega), ud_n (by omega), ud_n (by omega)]
      unfold fs_cf
      rw [if_pos (by omega)]
      rw [show 20 + k - 20 = k by omega]
    · rw [ud_n (by decide), ud_n (by decide), ud_n (by decide), ud_s]
    · rw [ud_n (by decide), ud_n (by decide), ud_s]
    · rw [ud_n (by decide), ud_s]
    · rw [ud_s]
  · simp +decide only [s153_0, s153_1, s153_2, s153_5, s153_6, s153_6N, s153_7, s153_8, s153_9, s153_9N2, s153_9N0, s153_9N0N2, s153_12, s153_13, s153_14, s153_15, s153_18, s153_19, s153_19N, s153_20, s153_21, s153_22, s153_22N2, s153_22N0, s153_22N0N2, s153_25, s153_26, s153_27, s153_28, s153_31, s153_32, s153_32N, s153_33, s153_34, s153_35, s153_35N2, s153_35N0, s153_35N0N2, s153_38, s153_39, s153_40, s153_41, s153_44, s153_45, s153_45N, s153_46, s153_47, s153_48, s153_48N2, s153_48N0, s153_48N0N2, s153_51, s153_52, s153_53, s153_54, s153_57, s153_58, s153_58N, s153_59, s153_60, s153_61, s153_61N2, s153_61N0, s153_61N0N2, s153_64, s153_65, s153_66, s153_67, s153_70, s153_71, s153_71N, s153_72, s153_73, s153_74, s153_74N2, s153_74N0, s153_74N0N2, s153_77, s153_78, s153_79, s153_82, s153_83, s153_83N, s153_84, s153_85, s153_86, s153_89, s153_90, s153_90N, s153_91, s153_92, s153_93, s153_94, s153_95, s153_98, s153_99, s153_99N, s153_100, s153_101, s153_102, s153_103, s153_104, s153_107, s153_108, s153_108N, s153_109, s153_110, s153_111, s153_112, s153_113, s153_116, s153_119, s153_119N, s153_120, s153_121, s153_122, s153_125, s153_126, s153_126N, s153_127, s153_128, s153_129, s153_130, s153_131, s153_134, s153_135, s153_135N, s153_136, s153_137, s153_138, s153_139, s153_140, s153_143, s153_144, s153_144N, s153_145, s153_146, s153_147, s153_148, s153_149, s153_152, s153_153, a0, c0, c1, c2, c3, c4, c5, hK, b0, b1, b2, b3, in_n (k := 25) (n := 30) (by decide) (by decide), up_n, up_up, mi_0, mg_0, mi_1, mg_1, mi_2, mg_2, mi_3, mg_3, mi_4, mg_4, mi_5, mg_5, mi_6, mg_6, mi_7, mg_7, mi_8, mg_8, mi_9, mg_9, mi_10, mg_10, mi_11, mg_11, mi_12, mg_12, mi_13, mg_13, mi_14, mg_14, mi_15, mg_15, mi_16, mg_16, mi_17, mg_17, mi_18, mg_18, mi_19, mg_19, mi_20, mg_20, mi_21, mg_21, mi_22, mg_22, mi_23, mg_23, mi_24, mg_24, mi_25, mg_25, mi_26, mg_26, mi_27, mg_27, mi_28, mg_28, mi_29, mg_29, mi_30, mg_30, mi_31, mg_31, mi_32, mg_32, mq_0, mq_1, mq_2, mq_3, mq_4, mq_20, mq_21, mq_22, mq_23, mq_24, mq_27, mq_28, mq_29, mq_31, mq_32, mrc, ud_s, ud_n, ud_u, up_n, ↓reduceIte, kl_i, kl_r, kl_n, kl_a, kl_l, up_s, up_up, is_0, is_s, gv_0, gv_s, pv_o, rc_o, okI_i, okI_x, okS_i, okB_x, gi_i, pi_i, okL_l, gl_l, pl_l, okA_2, okA_3, ga_a, arr_0, arr_1, arr_10, arr_11, len_a, sw_0, sw_i, sw_r, sw_l, fit_i, fit_z0, fit_z1, nz_0, nz_1, ni_K_s, ni_K_n, Nat.ble_eq, Nat.zero_le, Nat.zero_add, true_and, and_true, and_self, Bool.and_true, Bool.true_and, Bool.and_self, not_true_eq_false, not_false_eq_true, Int32.reduceLE, Int32.reduceLT, Int32.reduceAdd, Int32.reduceSub, Int32.reduceToNatClampNeg, Nat.reduceLeDiff, Nat.reduceAdd, Nat.reduceEqDiff, Nat.reduceSub, List.set_cons_zero, List.set_cons_succ, false_and, and_false]
theorem M_allF_66 (H : fs_mtb u g h) (hK : h 66 = ni_I 30 kp) : ∃ kp' : Nat → Int32, fs_kp kp' u ∧ ∀ (d : Nat) (Q : ni_Q), ni_T (d + 1) 153 0 [.ref 49, .ref 66, .int 0, .retAddr 0] [] z h Q = Q none z (ni_up h 66 (ni_I 30 kp')) := by
  obtain ⟨a0, a1, a2, a3, a4, a5, a6, b0, b1, b2, b3⟩ := H
  have c0 := fun (d : Nat) (Q : ni_Q) => M_cf (d := d) (z := z) (Q := Q) (pa := 51) (pt := 66) (na := 4) (f := 0) (n := 4) (h := h) (by decide) (by decide) (by decide) (by decide) a1 hK
  generalize hk0 : fs_cf (u 1) kp 0 4 0 = k0 at c0
  simp only [Nat.reduceAdd, Nat.zero_add, up_up, nI_0, show nI 4 = 4 from rfl, show nI 8 = 8 from rfl, show nI 12 = 12 from rfl, show nI 16 = 16 from rfl, show nI 20 = 20 from rfl, show nI 25 = 25 from rfl, show nI 5 = 5 from rfl] at c0
  have c1 := fun (d : Nat) (Q : ni_Q) => M_cf (d := d) (z := z) (Q := Q) (pa := 52) (pt := 66) (na := 4) (f := 4) (n := 4) (h := (ni_up h 66 (ni_I 30 k0))) (by decide) (by decide) (by decide) (by decide) (by rw [up_n (by decide)]; exact a2) up_s
  generalize hk1 : fs_cf (u 2) k0 4 4 0 = k1 at c1
  simp only [Nat.reduceAdd, Nat.zero_add, up_up, nI_0, show nI 4 = 4 from rfl, show nI 8 = 8 from rfl, show nI 12 = 12 from rfl, show nI 16 = 16 from rfl, show nI 20 = 20 from rfl, show nI 25 = 25 from rfl, show nI 5 = 5 from rfl] at c1
  have c2 := fun (d : Nat) (Q : ni_Q) => M_cf (d := d) (z := z) (Q := Q) (pa := 53) (pt := 66) (na := 4) (f := 8) (n := 4) (h := (ni_up h 66 (ni_I 30 k1))) (by decide) (by decide) (by decide) (by decide) (by rw [up_n (by decide)]; exact a3) up_s
  generalize hk2 : fs_cf (u 3) k1 8 4 0 = k2 at c2
  simp only [Nat.reduceAdd, Nat.zero_add, up_up, nI_0, show nI 4 = 4 from rfl, show nI 8 = 8 from rfl, show nI 12 = 12 from rfl, show nI 16 = 16 from rfl, show nI 20 = 20 from rfl, show nI 25 = 25 from rfl, show nI 5 = 5 from rfl] at c2
  have c3 := fun (d : Nat) (Q : ni_Q) => M_cf (d := d) (z := z) (Q := Q) (pa := 54) (pt := 66) (na := 4) (f := 12) (n := 4) (h := (ni_up h 66 (ni_I 30 k2))) (by decide) (by decide) (by decide) (by decide) (by rw [up_n (by decide)]; exact a4) up_s
  generalize hk3 : fs_cf (u 4) k2 12 4 0 = k3 at c3
  simp only [Nat.reduceAdd, Nat.zero_add, up_up, nI_0, show nI 4 = 4 from rfl, show nI 8 = 8 from rfl, show nI 12 = 12 from rfl, show nI 16 = 16 from rfl, show nI 20 = 20 from rfl, show nI 25 = 25 from rfl, show nI 5 = 5 from rfl] at c3
  have c4 := fun (d : Nat) (Q : ni_Q) => M_cf (d := d) (z := z) (Q := Q) (pa := 55) (pt := 66) (na := 4) (f := 16) (n := 4) (h := (ni_up h 66 (ni_I 30 k3))) (by decide) (by decide) (by decide) (by decide) (by rw [up_n (by decide)]; exact a5) up_s
  generalize hk4 : fs_cf (u 5) k3 16 4 0 = k4 at c4
  simp only [Nat.reduceAdd, Nat.zero_add, up_up, nI_0, show nI 4 = 4 from rfl, show nI 8 = 8 from rfl, show nI 12 = 12 from rfl, show nI 16 = 16 from rfl, show nI 20 = 20 from rfl, show nI 25 = 25 from rfl, show nI 5 = 5 from rfl] at c4
  have c5 := fun (d : Nat) (Q : ni_Q) => M_cf (d := d) (z := z) (Q := Q) (pa := 56) (pt := 66) (na := 5) (f := 20) (n := 5) (h := (ni_up h 66 (ni_I 30 k4))) (by decide) (by decide) (by decide) (by decide) (by rw [up_n (by decide)]; exact a6) up_s
  generalize hk5 : fs_cf (u 0) k4 20 5 0 = k5 at c5
  simp only [Nat.reduceAdd, Nat.zero_add, up_up, nI_0, show nI 4 = 4 from rfl, show nI 8 = 8 from rfl, show nI 12 = 12 from rfl, show nI 16 = 16 from rfl, show nI 20 = 20 from rfl, show nI 25 = 25 from rfl, show nI 5 = 5 from rfl] at c5
  refine ⟨upd (upd (upd (upd k5 25 (u 6 0)) 26 (u 6 1)) 27 (u 6 2)) 28 (u 6 3), ?_, fun d Q => ?_⟩
  · subst hk5 hk4 hk3 hk2 hk1 hk0
    refine ⟨fun k hk => ?_, fun k hk => ?_, fun k hk => ?_, fun k hk => ?_, fun k hk => ?_, fun k hk => ?_, ?_, ?_, ?_, ?_⟩
    · rw [ud_n (by omega), ud_n (by omega), ud_n (by omega), ud_n (by omega)]
      unfold fs_cf
      rw [if_neg (by omega)]
      rw [if_neg (by omega)]
      rw [if_neg (by omega)]
      rw [if_neg (by omega)]
      rw [if_neg (by omega)]
      rw [if_pos (by omega)]
      rw [Nat.sub_zero]
    · rw [ud_n (by omega), ud_n (by omega), ud_n (by omega), ud_n (by omega)]
      unfold fs_cf
      rw [if_neg (by omega)]
      rw [if_neg (by omega)]
      rw [if_neg (by omega)]
      rw [if_neg (by omega)]
      rw [if_pos (by omega)]
      rw [show 4 + k - 4 = k by omega]
    · rw [ud_n (by omega), ud_n (by omega), ud_n (by omega), ud_n (by omega)]
      unfold fs_cf
      rw [if_neg (by omega)]
      rw [if_neg (by omega)]
      rw [if_neg (by omega)]
      rw [if_pos (by omega)]
      rw [show 8 + k - 8 = k by omega]
    · rw [ud_n (by omega), ud_n (by omega), ud_n (by omega), ud_n (by omega)]
      unfold fs_cf
      rw [if_neg (by omega)]
      rw [if_neg (by omega)]
      rw [if_pos (by omega)]
      rw [show 12 + k - 12 = k by omega]
    · rw [ud_n (by omega), ud_n (by omega), ud_n (by omega), ud_n (by omega)]
      unfold fs_cf
      rw [if_neg (by omega)]
      rw [if_pos (by omega)]
      rw [show 16 + k - 16 = k by omega]
    · rw [ud_n (by omega), ud_n (by omega), ud_n (by omega), ud_n (by omega)]
      unfold fs_cf
      rw [if_pos (by omega)]
      rw [show 20 + k - 20 = k by omega]
    · rw [ud_n (by decide), ud_n (by decide), ud_n (by decide), ud_s]
    · rw [ud_n (by decide), ud_n (by decide), ud_s]
    · rw [ud_n (by decide), ud_s]
    · rw [ud_s]
  · simp +decide only [s153_0, s153_1, s153_2, s153_5, s153_6, s153_6N, s153_7, s153_8, s153_9, s153_9N2, s153_9N0, s153_9N0N2, s153_12, s153_13, s153_14, s153_15, s153_18, s153_19, s153_19N, s153_20, s153_21, s153_22, s153_22N2, s153_22N0, s153_22N0N2, s153_25, s153_26, s153_27, s153_28, s153_31, s153_32, s153_32N, s153_33, s153_34, s153_35, s153_35N2, s153_35N0, s153_35N0N2, s153_38, s153_39, s153_40, s153_41, s153_44, s153_45, s153_45N, s153_46, s153_47, s153_48, s153_48N2, s153_48N0, s153_48N0N2, s153_51, s153_52, s153_53, s153_54, s153_57, s153_58, s153_58N, s153_59, s153_60, s153_61, s153_61N2, s153_61N0, s153_61N0N2, s153_64, s153_65, s153_66, s153_67, s153_70, s153_71, s153_71N, s153_72, s153_73, s153_74, s153_74N2, s153_74N0, s153_74N0N2, s153_77, s153_78, s153_79, s153_82, s153_83, s153_83N, s153_84, s153_85, s153_86, s153_89, s153_90, s153_90N, s153_91, s153_92, s153_93, s153_94, s153_95, s153_98, s153_99, s153_99N, s153_100, s153_101, s153_102, s153_103, s153_104, s153_107, s153_108, s153_108N, s153_109, s153_110, s153_111, s153_112, s153_113, s153_116, s153_119, s153_119N, s153_120, s153_121, s153_122, s153_125, s153_126, s153_126N, s153_127, s153_128, s153_129, s153_130, s153_131, s153_134, s153_135, s153_135N, s153_136, s153_137, s153_138, s153_139, s153_140, s153_143, s153_144, s153_144N, s153_145, s153_146, s153_147, s153_148, s153_149, s153_152, s153_153, a0, c0, c1, c2, c3, c4, c5, hK, b0, b1, b2, b3, in_n (k := 25) (n := 30) (by decide) (by decide), up_n, up_up, mi_0, mg_0, mi_1, mg_1, mi_2, mg_2, mi_3, mg_3, mi_4, mg_4, mi_5, mg_5, mi_6, mg_6, mi_7, mg_7, mi_8, mg_8, mi_9, mg_9, mi_10, mg_10, mi_11, mg_11, mi_12, mg_12, mi_13, mg_13, mi_14, mg_14, mi_15, mg_15, mi_16, mg_16, mi_17, mg_17, mi_18, mg_18, mi_19, mg_19, mi_20, mg_20, mi_21, mg_21, mi_22, mg_22, mi_23, mg_23, mi_24, mg_24, mi_25, mg_25, mi_26, mg_26, mi_27, mg_27, mi_28, mg_28, mi_29, mg_29, mi_30, mg_30, mi_31, mg_31, mi_32, mg_32, mq_0, mq_1, mq_2, mq_3, mq_4, mq_20, mq_21, mq_22, mq_23, mq_24, mq_27, mq_28, mq_29, mq_31, mq_32, mrc, ud_s, ud_n, ud_u, up_n, ↓reduceIte, kl_i, kl_r, kl_n, kl_a, kl_l, up_s, up_up, is_0, is_s, gv_0, gv_s, pv_o, rc_o, okI_i, okI_x, okS_i, okB_x, gi_i, pi_i, okL_l, gl_l, pl_l, okA_2, okA_3, ga_a, arr_0, arr_1, arr_10, arr_11, len_a, sw_0, sw_i, sw_r, sw_l, fit_i, fit_z0, fit_z1, nz_0, nz_1, ni_K_s, ni_K_n, Nat.ble_eq, Nat.zero_le, Nat.zero_add, true_and, and_true, and_self, Bool.and_true, Bool.true_and, Bool.and_self, not_true_eq_false, not_false_eq_true, Int32.reduceLE, Int32.reduceLT, Int32.reduceAdd, Int32.reduceSub, Int32.reduceToNatClampNeg, Nat.reduceLeDiff, Nat.reduceAdd, Nat.reduceEqDiff, Nat.reduceSub, List.set_cons_zero, List.set_cons_succ, false_and, and_false]
theorem M_allB_65 {v : Nat → Nat → Int32} (H : fs_mtb u g h) (hK : h 65 = ni_I 30 kp) (hv : fs_kp kp v) : ∃ (h' : ni_H) (g' : Nat → Int32) (u' : Nat → Nat → Int32), (∀ (d : Nat) (Q : ni_Q), ni_T (d + 1) 153 0 [.ref 49, .ref 65, .int 1, .retAddr 0] [] z h Q = Q none z h') ∧ (∀ i, i ≠ 49 → (i < 51 ∨ 57 ≤ i) → h' i = h i) ∧ fs_mtb u' g' h' ∧ (∀ i k, 1 ≤ i → i ≤ 5 → k < 4 → u' i k = v i k) ∧ (∀ k, k < 5 → u' 0 k = v 0 k) ∧ (∀ k, 5 ≤ k → u' 0 k = u 0 k) ∧ (∀ k, k < 4 → u' 6 k = v 6 k) ∧ (∀ i, i ≠ 0 → i ≠ 1 → i ≠ 2 → i ≠ 3 → g' i = g i) := by
  obtain ⟨a0, a1, a2, a3, a4, a5, a6, b0, b1, b2, b3⟩ := H
  obtain ⟨v1, v2, v3, v4, v5, v0, w0, w1, w2, w3⟩ := hv
  have c0 := fun (d : Nat) (Q : ni_Q) => M_cb (d := d) (z := z) (Q := Q) (pa := 51) (pt := 65) (na := 4) (f := 0) (n := 4) (h := h) (by decide) (by decide) (by decide) (by decide) a1 hK
  generalize hk0 : fs_cb (u 1) kp 0 4 0 = k0 at c0
  simp only [Nat.reduceAdd, Nat.zero_add, nI_0, show nI 4 = 4 from rfl, show nI 8 = 8 from rfl, show nI 12 = 12 from rfl, show nI 16 = 16 from rfl, show nI 20 = 20 from rfl, show nI 25 = 25 from rfl, show nI 5 = 5 from rfl] at c0
  have c1 := fun (d : Nat) (Q : ni_Q) => M_cb (d := d) (z := z) (Q := Q) (pa := 52) (pt := 65) (na := 4) (f := 4) (n := 4) (h := (ni_up h 51 (ni_I 4 k0))) (by decide) (by decide) (by decide) (by decide) (by simp +decide only [up_n]; exact a2) (by simp +decide only [up_n]; exact hK)
  generalize hk1 : fs_cb (u 2) kp 4 4 0 = k1 at c1
  simp only [Nat.reduceAdd, Nat.zero_add, nI_0, show nI 4 = 4 from rfl, show nI 8 = 8 from rfl, show nI 12 = 12 from rfl, show nI 16 = 16 from rfl, show nI 20 = 20 from rfl, show nI 25 = 25 from rfl, show nI 5 = 5 from rfl] at c1
  have c2 := fun (d : Nat) (Q : ni_Q) => M_cb (d := d) (z := z) (Q := Q) (pa := 53) (pt := 65) (na := 4) (f := 8) (n := 4) (h := (ni_up (ni_up h 51 (ni_I 4 k0)) 52 (ni_I 4 k1))) (by decide) (by decide) (by decide) (by decide) (by simp +decide only [up_n]; exact a3) (by simp +decide only [up_n]; exact hK)
  generalize hk2 : fs_cb (u 3) kp 8 4 0 = k2 at c2
  simp only [Nat.reduceAdd, Nat.zero_add, nI_0, show nI 4 = 4 from rfl, show nI 8 = 8 from rfl, show nI 12 = 12 from rfl, show nI 16 = 16 from rfl, show nI 20 = 20 from rfl, show nI 25 = 25 from rfl, show nI 5 = 5 from rfl] at c2
  have c3 := fun (d : Nat) (Q : ni_Q) => M_cb (d := d) (z := z) (Q := Q) (pa := 54) (pt := 65) (na := 4) (f := 12) (n := 4) (h := (ni_up (ni_up (ni_up h 51 (ni_I 4 k0)) 52 (ni_I 4 k1)) 53 (ni_I 4 k2))) (by decide) (by decide) (by decide) (by decide) (by simp +decide only [up_n]; exact a4) (by simp +decide only [up_n]; exact hK)
  generalize hk3 : fs_cb (u 4) kp 12 4 0 = k3 at c3
  simp only [Nat.reduceAdd, Nat.zero_add, nI_0, show nI 4 = 4 from rfl, show nI 8 = 8 from rfl, show nI 12 = 12 from rfl, show nI 16 = 16 from rfl, show nI 20 = 20 from rfl, show nI 25 = 25 from rfl, show nI 5 = 5 from rfl] at c3
  have c4 := fun (d : Nat) (Q : ni_Q) => M_cb (d := d) (z := z) (Q := Q) (pa := 55) (pt := 65) (na := 4) (f := 16) (n := 4) (h := (ni_up (ni_up (ni_up (ni_up h 51 (ni_I 4 k0)) 52 (ni_I 4 k1)) 53 (ni_I 4 k2)) 54 (ni_I 4 k3))) (by decide) (by decide) (by decide) (by decide) (by simp +decide only [up_n]; exact a5) (by simp +decide only [up_n]; exact hK)
  generalize hk4 : fs_cb (u 5) kp 16 4 0 = k4 at c4
  simp only [Nat.reduceAdd, Nat.zero_add, nI_0, show nI 4 = 4 from rfl, show nI 8 = 8 from rfl, show nI 12 = 12 from rfl, show nI 16 = 16 from rfl, show nI 20 = 20 from rfl, show nI 25 = 25 from rfl, show nI 5 = 5 from rfl] at c4
  have c5 := fun (d : Nat) (Q : ni_Q) => M_cb (d := d) (z := z) (Q := Q) (pa := 56) (pt := 65) (na := 5) (f := 20) (n := 5) (h := (ni_up (ni_up (ni_up (ni_up (ni_up h 51 (ni_I 4 k0)) 52 (ni_I 4 k1)) 53 (ni_I 4 k2)) 54 (ni_I 4 k3)) 55 (ni_I 4 k4))) (by decide) (by decide) (by decide) (by decide) (by simp +decide only [up_n]; exact a6) (by simp +decide only [up_n]; exact hK)
  generalize hk5 : fs_cb (u 0) kp 20 5 0 = k5 at c5
  simp only [Nat.reduceAdd, Nat.zero_add, nI_0, show nI 4 = 4 from rfl, show nI 8 = 8 from rfl, show nI 12 = 12 from rfl, show nI 16 = 16 from rfl, show nI 20 = 20 from rfl, show nI 25 = 25 from rfl, show nI 5 = 5 from rfl] at c5
  refine ⟨ni_up (ni_up (ni_up (ni_up (ni_up (ni_up (ni_up h 51 (ni_I 4 k0)) 52 (ni_I 4 k1)) 53 (ni_I 4 k2)) 54 (ni_I 4 k3)) 55 (ni_I 4 k4)) 56 (ni_I 5 k5)) 49 (fs_mo (upd (upd (upd (upd g 0 (kp 25)) 1 (kp 26)) 2 (kp 27)) 3 (kp 28))), upd (upd (upd (upd g 0 (kp 25)) 1 (kp 26)) 2 (kp 27)) 3 (kp 28), fun i => if i = 0 then k5 else if i = 1 then k0 else if i = 2 then k1 else if i = 3 then k2 else if i = 4 then k3 else if i = 5 then k4 else fun k => kp (25 + k), fun d Q => ?_, fun i h1 h2 => ?_, ?_, ?_, ?_, ?_, ?_, fun i q0 q1 q2 q3 => by rw [ud_n q3, ud_n q2, ud_n q1, ud_n q0]⟩
  · simp +decide only [s153_0, s153_1, s153_2, s153_5, s153_6, s153_6N, s153_7, s153_8, s153_9, s153_9N2, s153_9N0, s153_9N0N2, s153_12, s153_13, s153_14, s153_15, s153_18, s153_19, s153_19N, s153_20, s153_21, s153_22, s153_22N2, s153_22N0, s153_22N0N2, s153_25, s153_26, s153_27, s153_28, s153_31, s153_32, s153_32N, s153_33, s153_34, s153_35, s153_35N2, s153_35N0, s153_35N0N2, s153_38, s153_39, s153_40, s153_41, s153_44, s153_45, s153_45N, s153_46, s153_47, s153_48, s153_48N2, s153_48N0, s153_48N0N2, s153_51, s153_52, s153_53, s153_54, s153_57, s153_58, s153_58N, s153_59, s153_60, s153_61, s153_61N2, s153_61N0, s153_61N0N2, s153_64, s153_65, s153_66, s153_67, s153_70, s153_71, s153_71N, s153_72, s153_73, s153_74, s153_74N2, s153_74N0, s153_74N0N2, s153_77, s153_78, s153_79, s153_82, s153_83, s153_83N, s153_84, s153_85, s153_86, s153_89, s153_90, s153_90N, s153_91, s153_92, s153_93, s153_94, s153_95, s153_98, s153_99, s153_99N, s153_100, s153_101, s153_102, s153_103, s153_104, s153_107, s153_108, s153_108N, s153_109, s153_110, s153_111, s153_112, s153_113, s153_116, s153_119, s153_119N, s153_120, s153_121, s153_122, s153_125, s153_126, s153_126N, s153_127, s153_128, s153_129, s153_130, s153_131, s153_134, s153_135, s153_135N, s153_136, s153_137, s153_138, s153_139, s153_140, s153_143, s153_144, s153_144N, s153_145, s153_146, s153_147, s153_148, s153_149, s153_152, s153_153, a0, c0, c1, c2, c3, c4, c5, hK, in_n (k := 25) (n := 30) (by decide) (by decide), fit_i, up_n, up_up, mi_0, mg_0, mi_1, mg_1, mi_2, mg_2, mi_3, mg_3, mi_4, mg_4, mi_5, mg_5, mi_6, mg_6, mi_7, mg_7, mi_8, mg_8, mi_9, mg_9, mi_10, mg_10, mi_11, mg_11, mi_12, mg_12, mi_13, mg_13, mi_14, mg_14, mi_15, mg_15, mi_16, mg_16, mi_17, mg_17, mi_18, mg_18, mi_19, mg_19, mi_20, mg_20, mi_21, mg_21, mi_22, mg_22, mi_23, mg_23, mi_24, mg_24, mi_25, mg_25, mi_26, mg_26, mi_27, mg_27, mi_28, mg_28, mi_29, mg_29, mi_30, mg_30, mi_31, mg_31, mi_32, mg_32, mq_0, mq_1, mq_2, mq_3, mq_4, mq_20, mq_21, mq_22, mq_23, mq_24, mq_27, mq_28, mq_29, mq_31, mq_32, mrc, ud_s, ud_n, ud_u, up_n, ↓reduceIte, kl_i, kl_r, kl_n, kl_a, kl_l, up_s, up_up, is_0, is_s, gv_0, gv_s, pv_o, rc_o, okI_i, okI_x, okS_i, okB_x, gi_i, pi_i, okL_l, gl_l, pl_l, okA_2, okA_3, ga_a, arr_0, arr_1, arr_10, arr_11, len_a, sw_0, sw_i, sw_r, sw_l, fit_i, fit_z0, fit_z1, nz_0, nz_1, ni_K_s, ni_K_n, Nat.ble_eq, Nat.zero_le, Nat.zero_add, true_and, and_true, and_self, Bool.and_true, Bool.true_and, Bool.and_self, not_true_eq_false, not_false_eq_true, Int32.reduceLE, Int32.reduceLT, Int32.reduceAdd, Int32.reduceSub, Int32.reduceToNatClampNeg, Nat.reduceLeDiff, Nat.reduceAdd, Nat.reduceEqDiff, Nat.reduceSub, List.set_cons_zero, List.set_cons_succ, false_and, and_false]
  · rw [up_n h1, up_n (by omega), up_n (by omega), up_n (by omega), up_n (by omega), up_n (by omega), up_n (by omega)]
  · refine ⟨up_s, ?_, ?_, ?_, ?_, ?_, ?_, ?_, ?_, ?_, ?_⟩
    all_goals simp +decide only [up_s, up_n, ud_s, ud_n, if_true, if_false]
  · intro i k h1 h2 hk
    match i, h1, h2 with
    | 1, _, _ => simp only [Nat.reduceEqDiff, if_true, if_false]; rw [← hk0]; unfold fs_cb; rw [if_pos (by omega)]; rw [Nat.zero_add]; exact v1 k hk
    | 2, _, _ => simp only [Nat.reduceEqDiff, if_true, if_false]; rw [← hk1]; unfold fs_cb; rw [if_pos (by omega)]; exact v2 k hk
    | 3, _, _ => simp only [Nat.reduceEqDiff, if_true, if_false]; rw [← hk2]; unfold fs_cb; rw [if_pos (by omega)]; exact v3 k hk
    | 4, _, _ => simp only [Nat.reduceEqDiff, if_true, if_false]; rw [← hk3]; unfold fs_cb; rw [if_pos (by omega)]; exact v4 k hk
    | 5, _, _ => simp only [Nat.reduceEqDiff, if_true, if_false]; rw [← hk4]; unfold fs_cb; rw [if_pos (by omega)]; exact v5 k hk
    | i + 6, _, h => omega
  · intro k hk
    simp only [if_true]
    rw [← hk5]
    unfold fs_cb
    rw [if_pos (by omega)]
    exact v0 k hk
  · intro k hk
    simp only [if_true]
    rw [← hk5]
    unfold fs_cb
    rw [if_neg (by omega)]
  · intro k hk
    simp only [Nat.reduceEqDiff, if_false]
    match k, hk with
    | 0, _ => exact w0
    | 1, _ => exact w1
    | 2, _ => exact w2
    | 3, _ => exact w3
    | k + 4, h => omega
theorem M_allB_66 {v : Nat → Nat → Int32} (H : fs_mtb u g h) (hK : h 66 = ni_I 30 kp) (hv : fs_kp kp v) : ∃ (h' : ni_H) (g' : Nat → Int32) (u' : Nat → Nat → Int32), (∀ (d : Nat) (Q : ni_Q), ni_T (d + 1) 153 0 [.ref 49, .ref 66, .int 1, .retAddr 0] [] z h Q = Q none z h') ∧ (∀ i, i ≠ 49 → (i < 51 ∨ 57 ≤ i) → h' i = h i) ∧ fs_mtb u' g' h' ∧ (∀ i k, 1 ≤ i → i ≤ 5 → k < 4 → u' i k = v i k) ∧ (∀ k, k < 5 → u' 0 k = v 0 k) ∧ (∀ k, 5 ≤ k → u' 0 k = u 0 k) ∧ (∀ k, k < 4 → u' 6 k = v 6 k) ∧ (∀ i, i ≠ 0 → i ≠ 1 → i ≠ 2 → i ≠ 3 → g' i = g i) := by
  obtain ⟨a0, a1, a2, a3, a4, a5, a6, b0, b1, b2, b3⟩ := H
  obtain ⟨v1, v2, v3, v4, v5, v0, w0, w1, w2, w3⟩ := hv
  have c0 := fun (d : Nat) (Q : ni_Q) => M_cb (d := d) (z := z) (Q := Q) (pa := 51) (pt := 66) (na := 4) (f := 0) (n := 4) (h := h) (by decide) (by decide) (by decide) (by decide) a1 hK
  generalize hk0 : fs_cb (u 1) kp 0 4 0 = k0 at c0
  simp only [Nat.reduceAdd, Nat.zero_add, nI_0, show nI 4 = 4 from rfl, show nI 8 = 8 from rfl, show nI 12 = 12 from rfl, show nI 16 = 16 from rfl, show nI 20 = 20 from rfl, show nI 25 = 25 from rfl, show nI 5 = 5 from rfl] at c0
  have c1 := fun (d : Nat) (Q : ni_Q) => M_cb (d := d) (z := z) (Q := Q) (pa := 52) (pt := 66) (na := 4) (f := 4) (n := 4) (h := (ni_up h 51 (ni_I 4 k0))) (by decide) (by decide) (by decide) (by decide) (by simp +decide only [up_n]; exact a2) (by simp +decide only [up_n]; exact hK)
  generalize hk1 : fs_cb (u 2) kp 4 4 0 = k1 at c1
  simp only [Nat.reduceAdd, Nat.zero_add, nI_0, show nI 4 = 4 from rfl, show nI 8 = 8 from rfl, show nI 12 = 12 from rfl, show nI 16 = 16 from rfl, show nI 20 = 20 from rfl, show nI 25 = 25 from rfl, show nI 5 = 5 from rfl] at c1
  have c2 := fun (d : Nat) (Q : ni_Q) => M_cb (d := d) (z := z) (Q := Q) (pa := 53) (pt := 66) (na := 4) (f := 8) (n := 4) (h := (ni_up (ni_up h 51 (ni_I 4 k0)) 52 (ni_I 4 k1))) (by decide) (by decide) (by decide) (by decide) (by simp +decide only [up_n]; exact a3) (by simp +decide only [up_n]; exact hK)
  generalize hk2 : fs_cb (u 3) kp 8 4 0 = k2 at c2
  simp only [Nat.reduceAdd, Nat.zero_add, nI_0, show nI 4 = 4 from rfl, show nI 8 = 8 from rfl, show nI 12 = 12 from rfl, show nI 16 = 16 from rfl, show nI 20 = 20 from rfl, show nI 25 = 25 from rfl, show nI 5 = 5 from rfl] at c2
  have c3 := fun (d : Nat) (Q : ni_Q) => M_cb (d := d) (z := z) (Q := Q) (pa := 54) (pt := 66) (na := 4) (f := 12) (n := 4) (h := (ni_up (ni_up (ni_up h 51 (ni_I 4 k0)) 52 (ni_I 4 k1)) 53 (ni_I 4 k2))) (by decide) (by decide) (by decide) (by decide) (by simp +decide only [up_n]; exact a4) (by simp +decide only [up_n]; exact hK)
  generalize hk3 : fs_cb (u 4) kp 12 4 0 = k3 at c3
  simp only [Nat.reduceAdd, Nat.zero_add, nI_0, show nI 4 = 4 from rfl, show nI 8 = 8 from rfl, show nI 12 = 12 from rfl, show nI 16 = 16 from rfl, show nI 20 = 20 from rfl, show nI 25 = 25 from rfl, show nI 5 = 5 from rfl] at c3
  have c4 := fun (d : Nat) (Q : ni_Q) => M_cb (d := d) (z := z) (Q := Q) (pa := 55) (pt := 66) (na := 4) (f := 16) (n := 4) (h := (ni_up (ni_up (ni_up (ni_up h 51 (ni_I 4 k0)) 52 (ni_I 4 k1)) 53 (ni_I 4 k2)) 54 (ni_I 4 k3))) (by decide) (by decide) (by decide) (by decide) (by simp +decide only [up_n]; exact a5) (by simp +decide only [up_n]; exact hK)
  generalize hk4 : fs_cb (u 5) kp 16 4 0 = k4 at c4
  simp only [Nat.reduceAdd, Nat.zero_add, nI_0, show nI 4 = 4 from rfl, show nI 8 = 8 from rfl, show nI 12 = 12 from rfl, show nI 16 = 16 from rfl, show nI 20 = 20 from rfl, show nI 25 = 25 from rfl, show nI 5 = 5 from rfl] at c4
  have c5 := fun (d : Nat) (Q : ni_Q) => M_cb (d := d) (z := z) (Q := Q) (pa := 56) (pt := 66) (na := 5) (f := 20) (n := 5) (h := (ni_up (ni_up (ni_up (ni_up (ni_up h 51 (ni_I 4 k0)) 52 (ni_I 4 k1)) 53 (ni_I 4 k2)) 54 (ni_I 4 k3)) 55 (ni_I 4 k4))) (by decide) (by decide) (by decide) (by decide) (by simp +decide only [up_n]; exact a6) (by simp +decide only [up_n]; exact hK)
  generalize hk5 : fs_cb (u 0) kp 20 5 0 = k5 at c5
  simp only [Nat.reduceAdd, Nat.zero_add, nI_0, show nI 4 = 4 from rfl, show nI 8 = 8 from rfl, show nI 12 = 12 from rfl, show nI 16 = 16 from rfl, show nI 20 = 20 from rfl, show nI 25 = 25 from rfl, show nI 5 = 5 from rfl] at c5
  refine ⟨ni_up (ni_up (ni_up (ni_up (ni_up (ni_up (ni_up h 51 (ni_I 4 k0)) 52 (ni_I 4 k1)) 53 (ni_I 4 k2)) 54 (ni_I 4 k3)) 55 (ni_I 4 k4)) 56 (ni_I 5 k5)) 49 (fs_mo (upd (upd (upd (upd g 0 (kp 25)) 1 (kp 26)) 2 (kp 27)) 3 (kp 28))), upd (upd (upd (upd g 0 (kp 25)) 1 (kp 26)) 2 (kp 27)) 3 (kp 28), fun i => if i = 0 then k5 else if i = 1 then k0 else if i = 2 then k1 else if i = 3 then k2 else if i = 4 then k3 else if i = 5 then k4 else fun k => kp (25 + k), fun d Q => ?_, fun i h1 h2 => ?_, ?_, ?_, ?_, ?_, ?_, fun i q0 q1 q2 q3 => by rw [ud_n q3, ud_n q2, ud_n q1, ud_n q0]⟩
  · simp +decide only [s153_0, s153_1, s153_2, s153_5, s153_6, s153_6N, s153_7, s153_8, s153_9, s153_9N2, s153_9N0, s153_9N0N2, s153_12, s153_13, s153_14, s153_15, s153_18, s153_19, s153_19N, s153_20, s153_21, s153_22, s153_22N2, s153_22N0, s153_22N0N2, s153_25, s153_26, s153_27, s153_28, s153_31, s153_32, s153_32N, s153_33, s153_34, s153_35, s153_35N2, s153_35N0, s153_35N0N2, s153_38, s153_39, s153_40, s153_41, s153_44, s153_45, s153_45N, s153_46, s153_47, s153_48, s153_48N2, s153_48N0, s153_48N0N2, s153_51, s153_52, s153_53, s153_54, s153_57, s153_58, s153_58N, s153_59, s153_60, s153_61, s153_61N2, s153_61N0, s153_61N0N2, s153_64, s153_65, s153_66, s153_67, s153_70, s153_71, s153_71N, s153_72, s153_73, s153_74, s153_74N2, s153_74N0, s153_74N0N2, s153_77, s153_78, s153_79, s153_82, s153_83, s153_83N, s153_84, s153_85, s153_86, s153_89, s153_90, s153_90N, s153_91, s153_92, s153_93, s153_94, s153_95, s153_98, s153_99, s153_99N, s153_100, s153_101, s153_102, s153_103, s153_104, s153_107, s153_108, s153_108N, s153_109, s153_110, s153_111, s153_112, s153_113, s153_116, s153_119, s153_119N, s153_120, s153_121, s153_122, s153_125, s153_126, s153_126N, s153_127, s153_128, s153_129, s153_130, s153_131, s153_134, s153_135, s153_135N, s153_136, s153_137, s153_138, s153_139, s153_140, s153_143, s153_144, s153_144N, s153_145, s153_146, s153_147, s153_148, s153_149, s153_152, s153_153, a0, c0, c1, c2, c3, c4, c5, hK, in_n (k := 25) (n := 30) (by decide) (by decide), fit_i, up_n, up_up, mi_0, mg_0, mi_1, mg_1, mi_2, mg_2, mi_3, mg_3, mi_4, mg_4, mi_5, mg_5, mi_6, mg_6, mi_7, mg_7, mi_8, mg_8, mi_9, mg_9, mi_10, mg_10, mi_11, mg_11, mi_12, mg_12, mi_13, mg_13, mi_14, mg_14, mi_15, mg_15, mi_16, mg_16, mi_17, mg_17, mi_18, mg_18, mi_19, mg_19, mi_20, mg_20, mi_21, mg_21, mi_22, mg_22, mi_23, mg_23, mi_24, mg_24, mi_25, mg_25, mi_26, mg_26, mi_27, mg_27, mi_28, mg_28, mi_29, mg_29, mi_30, mg_30, mi_31, mg_31, mi_32, mg_32, mq_0, mq_1, mq_2, mq_3, mq_4, mq_20, mq_21, mq_22, mq_23, mq_24, mq_27, mq_28, mq_29, mq_31, mq_32, mrc, ud_s, ud_n, ud_u, up_n, ↓reduceIte, kl_i, kl_r, kl_n, kl_a, kl_l, up_s, up_up, is_0, is_s, gv_0, gv_s, pv_o, rc_o, okI_i, okI_x, okS_i, okB_x, gi_i, pi_i, okL_l, gl_l, pl_l, okA_2, okA_3, ga_a, arr_0, arr_1, arr_10, arr_11, len_a, sw_0, sw_i, sw_r, sw_l, fit_i, fit_z0, fit_z1, nz_0, nz_1, ni_K_s, ni_K_n, Nat.ble_eq, Nat.zero_le, Nat.zero_add, true_and, and_true, and_self, Bool.and_true, Bool.true_and, Bool.and_self, not_true_eq_false, not_false_eq_true, Int32.reduceLE, Int32.reduceLT, Int32.reduceAdd, Int32.reduceSub, Int32.reduceToNatClampNeg, Nat.reduceLeDiff, Nat.reduceAdd, Nat.reduceEqDiff, Nat.reduceSub, List.set_cons_zero, List.set_cons_succ, false_and, and_false]
  · rw [up_n h1, up_n (by omega), up_n (by omega), up_n (by omega), up_n (by omega), up_n (by omega), up_n (by omega)]
  · refine ⟨up_s, ?_, ?_, ?_, ?_, ?_, ?_, ?_, ?_, ?_, ?_⟩
    all_goals simp +decide only [up_s, up_n, ud_s, ud_n, if_true, if_false]
  · intro i k h1 h2 hk
    match i, h1, h2 with
    | 1, _, _ => simp only [Nat.reduceEqDiff, if_true, if_false]; rw [← hk0]; unfold fs_cb; rw [if_pos (by omega)]; rw [Nat.zero_add]; exact v1 k hk
    | 2, _, _ => simp only [Nat.reduceEqDiff, if_true, if_false]; rw [← hk1]; unfold fs_cb; rw [if_pos (by omega)]; exact v2 k hk
    | 3, _, _ => simp only [Nat.reduceEqDiff, if_true, if_false]; rw [← hk2]; unfold fs_cb; rw [if_pos (by omega)]; exact v3 k hk
    | 4, _, _ => simp only [Nat.reduceEqDiff, if_true, if_false]; rw [← hk3]; unfold fs_cb; rw [if_pos (by omega)]; exact v4 k hk
    | 5, _, _ => simp only [Nat.reduceEqDiff, if_true, if_false]; rw [← hk4]; unfold fs_cb; rw [if_pos (by omega)]; exact v5 k hk
    | i + 6, _, h => omega
  · intro k hk
    simp only [if_true]
    rw [← hk5]
    unfold fs_cb
    rw [if_pos (by omega)]
    exact v0 k hk
  · intro k hk
    simp only [if_true]
    rw [← hk5]
    unfold fs_cb
    rw [if_neg (by omega)]
  · intro k hk
    simp only [Nat.reduceEqDiff, if_false]
    match k, hk with
    | 0, _ => exact w0
    | 1, _ => exact w1
    | 2, _ => exact w2
    | 3, _ => exact w3
    | k + 4, h => omega
end
