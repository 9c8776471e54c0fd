set_option maxRecDepth 100000
set_option maxHeartbeats 2000000
/-! ===== the mind has looked ===== -/
def fs_lkd (c : Nat → Int32) (h : ni_H) (fo : Int32) (wy ch pl ne pa : Nat → Int32) : Prop := h 23 = ni_O 2 [.ref 24, .ref 25, .ref 26, .ref 27, .ref 28, .int (nI (fs_lb c)), .int fo] ∧ h 24 = ni_I 32 wy ∧ h 25 = ni_I 32 ch ∧ h 26 = ni_I 32 pl ∧ h 27 = ni_I 5 ne ∧ h 28 = ni_I 160 pa ∧ (∀ T, T < 32 → fs_sub (nI T) (nI (fs_lb c)) = true → wy T = fs_way c T) ∧ (∀ q, q < 5 → ∃ y, y < 32 ∧ ne q = nI y ∧ ∀ i, i < 5 → y.testBit i = (!decide (i = q) && fs_near c q i))
theorem lkd_mind {c : Nat → Int32} {h : ni_H} {fo : Int32} {wy ch pl ne pa : Nat → Int32} (H : fs_lkd c h fo wy ch pl ne pa) : fs_mind h := ⟨_, _, _, _, _, _, _, H.1, H.2.1, H.2.2.1, H.2.2.2.1, H.2.2.2.2.1, H.2.2.2.2.2.1⟩
theorem cs_lb {c : Nat → Int32} (hc : ∀ j, j < 5 → c j = -1 ∨ fs_ce (c j)) : fs_cs c (fs_lb c) ∧ ∀ j, j < 5 → (fs_lb c).testBit j = true → ¬ c j = -1 := by
  have a : ∀ j, j < 5 → (fs_lb c).testBit j = true → ¬ c j = -1 := by
    intro j hj hb e
    rw [lb_t c j hj, decide_eq_true e] at hb
    cases hb
  exact ⟨fun j hj hb => (hc j hj).resolve_left (a j hj hb), a⟩
theorem cs_mono {c : Nat → Int32} {S L : Nat} (hL : L < 32) (hS : S < 32) (h : fs_sub (nI S) (nI L) = true) (hc : fs_cs c L) : fs_cs c S := fun j hj hb => hc j hj ((sub_t L hL S hS h).2 j hj hb)
theorem X_lookQ {z : ni_Z} {h : ni_H} {n w fa sd : Int32} {c : Nat → Int32} (hc : ∀ j, j < 5 → c j = -1 ∨ fs_ce (c j)) (hm : fs_mind h) (hT : h 2 = ni_O 5 [.ref 3, .ref 4, .int n, .int w, .int fa, .int sd]) (hC : h 3 = ni_I 5 c) : ∃ (h1 : ni_H) (fo : Int32) (wy ch pl ne pa : Nat → Int32), (∀ (d : Nat) (Q : ni_Q), ni_T (d + 4) 16 0 [.ref 23, .ref 2, .retAddr 0, .retAddr 0] [] z h Q = Q none z h1) ∧ (∀ i, (i < 23 ∨ 28 < i) → h1 i = h i) ∧ fs_lkd c h1 fo wy ch pl ne pa := by
  obtain ⟨li, fo, wy, ch, pl, ne, pa, a, b, c', d, e, f⟩ := hm
  refine ⟨_, fo, (fs_lk c (fs_lb c) 31 1 (upd wy 0 0) pa).1, ch, pl, fs_nr c 5 0 ne, (fs_lk c (fs_lb c) 31 1 (upd wy 0 0) pa).2, fun d Q => X_look (L := fs_lb c) (lb_n c) a b e f hT hC, fun i hi => by rw [up_n (by omega), up_n (by omega), up_n (by omega), up_n (by omega)], ?_, ?_, ?_, ?_, ?_, ?_, look_W (lb_lt c) (cs_lb hc).1, fun q hq => (nr_m 5 0 ne rfl).2 q (Nat.zero_le _) hq⟩
  · simp +decide only [up_n, up_s]
  · simp +decide only [up_s]
  · simp +decide only [up_n]; exact c'
  · simp +decide only [up_n]; exact d
  · simp +decide only [up_n, up_s]
  · simp +decide only [up_n, up_s]
/-- the odds of a looked mind -/
theorem lkd_oc {c : Nat → Int32} {h : ni_H} {fo k a n ht : Int32} {wy ch pl ne pa : Nat → Int32} {F S : Nat} (hc : ∀ j, j < 5 → c j = -1 ∨ fs_ce (c j)) (H : fs_lkd c h fo wy ch pl ne pa) (hF : F < 32) (hFL : fs_sub (nI F) (nI (fs_lb c)) = true) (hS : S < 32) (hs : fs_sub (nI S) (nI F) = true) : fs_oc wy ne k a n S (nI F) ht = fs_odds c k a n F S ht := by
  have L := cs_lb hc
  refine oc_odds hF hS (cs_mono (lb_lt c) hF hFL L.1) (fun j hj hb => L.2 j hj ((sub_t _ (lb_lt c) F hF hFL).2 j hj hb)) hs (H.2.2.2.2.2.2.1 S hS (sub_tr hS hF (lb_lt c) hs hFL)) H.2.2.2.2.2.2.2
theorem sub_self' : ∀ s, s < 32 → fs_sub (nI s) (nI s) = true := by decide +kernel
theorem cg_od {mu : Int32 → Int32 → Int32} {od od' : Nat → Nat → Int32} {L k : Nat} (hL : L < 32) (h : ∀ S, S < 32 → fs_sub (nI S) (nI L) = true → ∀ N, N < 32 → fs_sub (nI N) (nI S) = true → od S N = od' S N) : ∀ (f S : Nat), S < 32 → fs_sub (nI S) (nI L) = true → fs_cg mu od k f S = fs_cg mu od' k f S := by
  intro f
  induction f with
  | zero => intro S _ _; rw [fs_cg, fs_cg]
  | succ f ih =>
    intro S hS hs
    rw [fs_cg, fs_cg]
    by_cases q : S = 0
    · rw [if_pos q, if_pos q]
    · rw [if_neg q, if_neg q]
      refine cq_congr S 1 (-1) 0 (fun i h1 h2 h3 => ?_)
      have hi : i < 32 := by omega
      try simp only
      rw [h S hS hs i hi h3.1, ih _ (bt_8 S hS i hi) (sub_tr (bt_8 S hS i hi) hS hL (sub_d S hS i hi) hs)]
/-- thinking a stage through -/
theorem X_ttQ {z : ni_Z} {h : ni_H} {c : Nat → Int32} {fo nu kd a lv ro ts : Int32} {wy ch pl ne pa : Nat → Int32} {o k : Nat} (hc : ∀ j, j < 5 → c j = -1 ∨ fs_ce (c j)) (H : fs_lkd c h fo wy ch pl ne pa) (o5 : o < 23) (hO : h o = ni_O 1 [.int nu, .int kd, .int a, .int lv, .int ro, .int ts]) (hk : fs_kd kd) (hs : fs_sl (fs_slip kd ts)) (k0 : 0 < k) (k4 : k ≤ 4) : ∃ (h1 : ni_H) (ch' pl' : Nat → Int32), (∀ (d : Nat) (Q : ni_Q), ni_T (d + 4) 23 0 [.ref 23, .ref o, .int (nI k), .retAddr 0] [] z h Q = Q none z h1) ∧ (∀ i, (i < 23 ∨ 28 < i) → h1 i = h i) ∧ fs_lkd c h1 fo wy ch' pl' ne pa ∧ ch' (fs_lb c) = (fs_cg fs_lm (fs_om c kd a ts) k 5 (fs_lb c)).1 ∧ pl' (fs_lb c) = nI (fs_cg fs_lm (fs_om c kd a ts) k 5 (fs_lb c)).2 ∧ ∃ x p, x ≤ 1000000 ∧ p < 32 ∧ fs_sub (nI p) (nI (fs_lb c)) = true ∧ (fs_lb c ≠ 0 → p ≠ 0) ∧ fs_cg fs_lm (fs_om c kd a ts) k 5 (fs_lb c) = (nI x, p) := by
  have hL := lb_lt c
  have h5 := bt_pc5 _ hL
  have eod : ∀ S, S < 32 → fs_sub (nI S) (nI (fs_lb c)) = true → ∀ N, N < 32 → fs_sub (nI N) (nI S) = true → fs_ob wy ne kd a ts S N = fs_om c kd a ts S N := fun S hS hsL N hN hNS => (high_eq hs (fun ht => lkd_oc hc H hS hsL hN hNS)).2.1
  have ho : ∀ S, S < 32 → fs_sub (nI S) (nI (fs_lb c)) = true → ∀ N, N < 32 → fs_sub (nI N) (nI S) = true → ∃ o, o ≤ 100 ∧ fs_ob wy ne kd a ts S N = nI o := fun S hS hsL N hN hNS => by rw [eod S hS hsL N hN hNS]; exact om_b hs
  have ho' : ∀ S, S < 32 → fs_sub (nI S) (nI (fs_lb c)) = true → ∀ N, N < 32 → fs_sub (nI N) (nI S) = true → ∃ o, o ≤ 100 ∧ fs_om c kd a ts S N = nI o := fun S hS hsL N hN hNS => om_b hs
  have ss := sub_self' _ hL
  have t := tt_cg (k := k) hL k0 k4 ho 31 1 (upd ch 0 1000000) (upd pl 0 0) (by decide) rfl (fun T hT _ => by
    obtain rfl : T = 0 := by omega
    rw [cg_0, ud_s, ud_s]
    exact ⟨rfl, rfl⟩) (fs_lb c) hL ss
  rw [cg_od (mu := fs_im) (k := k) hL eod 5 (fs_lb c) hL ss] at t
  obtain ⟨⟨x, p, e1, e2, e3, e4, e5⟩, elm, _⟩ := cg_n hL k0 k4 ho' 5 (fs_lb c) hL ss h5
  rw [← elm] at t e5
  obtain ⟨a1, a2, a3, a4, a5, a6, a7, a8⟩ := H
  refine ⟨_, _, _, fun d Q => X_tt (L := fs_lb c) hk k0 k4 (by omega) (by omega) hO a1 a2 a5 a3 a4, fun i hi => by rw [up_n (by omega), up_n (by omega)], ⟨?_, ?_, ?_, ?_, ?_, ?_, a7, a8⟩, t.1, t.2, x, p, e1, e2, e3, e4, e5⟩
  · simp +decide only [up_n]; exact a1
  · simp +decide only [up_n]; exact a2
  · simp +decide only [up_s]
  · simp +decide only [up_n, up_s]
  · simp +decide only [up_n]; exact a5
  · simp +decide only [up_n]; exact a6
section
variable {z : ni_Z} {h : ni_H} {g c : Nat → Int32} {d : Nat} {Q : ni_Q}
theorem M_isSet {x : Int32} (hM : h 49 = fs_mo g) (hC : h 56 = ni_I 5 c) : ni_T (d + 1) 158 0 [.ref 49, .int x] [] z h Q = Q (some (.int (fs_b (fs_sub x (nI (fs_lb c)))))) z h := by
  have hl := fun (d : Nat) (Q : ni_Q) => M_lies (d := d) (z := z) (Q := Q) hM hC
  rw [lb_n] at hl
  cases q : fs_sub x (nI (fs_lb c))
  · have q' : ¬ x &&& (nI (fs_lb c) ^^^ (-1)) = 0 := of_decide_eq_false q
    by_cases q1 : x < 0
    · simp +decide only [s158_0, s158_1, s158_4, s158_5, s158_7, s158_10, s158_11, s158_12, s158_15, s158_16, s158_17, s158_18, s158_21, s158_22, s158_25, s158_26, hM, q1, fs_b, mi_0, mg_0, mi_1, mg_1, mi_2, mg_2, mi_3, mg_3, mi_4, mg_4, mi_5, mg_5, mi_6, mg_6, mi_7, mg_7, mi_8, mg_8, mi_9, mg_9, mi_10, mg_10, mi_11, mg_11, mi_12, mg_12, mi_13, mg_13, mi_14, mg_14, mi_15, mg_15, mi_16, mg_16, mi_17, mg_17, mi_18, mg_18, mi_19, mg_19, mi_20, mg_20, mi_21, mg_21, mi_22, mg_22, mi_23, mg_23, mi_24, mg_24, mi_25, mg_25, mi_26, mg_26, mi_27, mg_27, mi_28, mg_28, mi_29, mg_29, mi_30, mg_30, mi_31, mg_31, mi_32, mg_32, mq_0, mq_1, mq_2, mq_3, mq_4, mq_20, mq_21, mq_22, mq_23, mq_24, mq_27, mq_28, mq_29, mq_31, mq_32, mrc, ud_s, ud_n, ud_u, up_n, ↓reduceIte, kl_i, kl_r, kl_n, kl_a, kl_l, up_s, up_up, is_0, is_s, gv_0, gv_s, pv_o, rc_o, okI_i, okI_x, okS_i, okB_x, gi_i, pi_i, okL_l, gl_l, pl_l, okA_2, okA_3, ga_a, arr_0, arr_1, arr_10, arr_11, len_a, sw_0, sw_i, sw_r, sw_l, fit_i, fit_z0, fit_z1, nz_0, nz_1, ni_K_s, ni_K_n, Nat.ble_eq, Nat.zero_le, Nat.zero_add, true_and, and_true, and_self, Bool.and_true, Bool.true_and, Bool.and_self, not_true_eq_false, not_false_eq_true, Int32.reduceLE, Int32.reduceLT, Int32.reduceAdd, Int32.reduceSub, Int32.reduceToNatClampNeg, Nat.reduceLeDiff, Nat.reduceAdd, Nat.reduceEqDiff, Nat.reduceSub, List.set_cons_zero, List.set_cons_succ, false_and, and_false]
    · by_cases q2 : (32 : Int32) ≤ x
      · simp +decide only [s158_0, s158_1, s158_4, s158_5, s158_7, s158_10, s158_11, s158_12, s158_15, s158_16, s158_17, s158_18, s158_21, s158_22, s158_25, s158_26, hM, q1, q2, fs_b, mi_0, mg_0, mi_1, mg_1, mi_2, mg_2, mi_3, mg_3, mi_4, mg_4, mi_5, mg_5, mi_6, mg_6, mi_7, mg_7, mi_8, mg_8, mi_9, mg_9, mi_10, mg_10, mi_11, mg_11, mi_12, mg_12, mi_13, mg_13, mi_14, mg_14, mi_15, mg_15, mi_16, mg_16, mi_17, mg_17, mi_18, mg_18, mi_19, mg_19, mi_20, mg_20, mi_21, mg_21, mi_22, mg_22, mi_23, mg_23, mi_24, mg_24, mi_25, mg_25, mi_26, mg_26, mi_27, mg_27, mi_28, mg_28, mi_29, mg_29, mi_30, mg_30, mi_31, mg_31, mi_32, mg_32, mq_0, mq_1, mq_2, mq_3, mq_4, mq_20, mq_21, mq_22, mq_23, mq_24, mq_27, mq_28, mq_29, mq_31, mq_32, mrc, ud_s, ud_n, ud_u, up_n, ↓reduceIte, kl_i, kl_r, kl_n, kl_a, kl_l, up_s, up_up, is_0, is_s, gv_0, gv_s, pv_o, rc_o, okI_i, okI_x, okS_i, okB_x, gi_i, pi_i, okL_l, gl_l, pl_l, okA_2, okA_3, ga_a, arr_0, arr_1, arr_10, arr_11, len_a, sw_0, sw_i, sw_r, sw_l, fit_i, fit_z0, fit_z1, nz_0, nz_1, ni_K_s, ni_K_n, Nat.ble_eq, Nat.zero_le, Nat.zero_add, true_and, and_true, and_self, Bool.and_true, Bool.true_and, Bool.and_self, not_true_eq_false, not_false_eq_true, Int32.reduceLE, Int32.reduceLT, Int32.reduceAdd, Int32.reduceSub, Int32.reduceToNatClampNeg, Nat.reduceLeDiff, Nat.reduceAdd, Nat.reduceEqDiff, Nat.reduceSub, List.set_cons_zero, List.set_cons_succ, false_and, and_false]
      · simp +decide only [s158_0, s158_1, s158_4, s158_5, s158_7, s158_10, s158_11, s158_12, s158_15, s158_16, s158_17, s158_18, s158_21, s158_22, s158_25, s158_26, hM, hl, q1, q2, q', fs_b, mi_0, mg_0, mi_1, mg_1, mi_2, mg_2, mi_3, mg_3, mi_4, mg_4, mi_5, mg_5, mi_6, mg_6, mi_7, mg_7, mi_8, mg_8, mi_9, mg_9, mi_10, mg_10, mi_11, mg_11, mi_12, mg_12, mi_13, mg_13, mi_14, mg_14, mi_15, mg_15, mi_16, mg_16, mi_17, mg_17, mi_18, mg_18, mi_19, mg_19, mi_20, mg_20, mi_21, mg_21, mi_22, mg_22, mi_23, mg_23, mi_24, mg_24, mi_25, mg_25, mi_26, mg_26, mi_27, mg_27, mi_28, mg_28, mi_29, mg_29, mi_30, mg_30, mi_31, mg_31, mi_32, mg_32, mq_0, mq_1, mq_2, mq_3, mq_4, mq_20, mq_21, mq_22, mq_23, mq_24, mq_27, mq_28, mq_29, mq_31, mq_32, mrc, ud_s, ud_n, ud_u, up_n, ↓reduceIte, kl_i, kl_r, kl_n, kl_a, kl_l, up_s, up_up, is_0, is_s, gv_0, gv_s, pv_o, rc_o, okI_i, okI_x, okS_i, okB_x, gi_i, pi_i, okL_l, gl_l, pl_l, okA_2, okA_3, ga_a, arr_0, arr_1, arr_10, arr_11, len_a, sw_0, sw_i, sw_r, sw_l, fit_i, fit_z0, fit_z1, nz_0, nz_1, ni_K_s, ni_K_n, Nat.ble_eq, Nat.zero_le, Nat.zero_add, true_and, and_true, and_self, Bool.and_true, Bool.true_and, Bool.and_self, not_true_eq_false, not_false_eq_true, Int32.reduceLE, Int32.reduceLT, Int32.reduceAdd, Int32.reduceSub, Int32.reduceToNatClampNeg, Nat.reduceLeDiff, Nat.reduceAdd, Nat.reduceEqDiff, Nat.reduceSub, List.set_cons_zero, List.set_cons_succ, false_and, and_false]
  · have q' : x &&& (nI (fs_lb c) ^^^ (-1)) = 0 := of_decide_eq_true q
    obtain ⟨e, l⟩ := fs_sub_nI (lb_lt c) q
    generalize x.toNatClampNeg = T at e l
    subst e
    have q1 : ¬ nI T < 0 := nI_pos (by omega)
    have q2 : ¬ (32 : Int32) ≤ nI T := nI_ge (a := T) (b := 32) l (by decide)
    simp +decide only [s158_0, s158_1, s158_4, s158_5, s158_7, s158_10, s158_11, s158_12, s158_15, s158_16, s158_17, s158_18, s158_21, s158_22, s158_25, s158_26, hM, hl, q1, q2, q', fs_b, mi_0, mg_0, mi_1, mg_1, mi_2, mg_2, mi_3, mg_3, mi_4, mg_4, mi_5, mg_5, mi_6, mg_6, mi_7, mg_7, mi_8, mg_8, mi_9, mg_9, mi_10, mg_10, mi_11, mg_11, mi_12, mg_12, mi_13, mg_13, mi_14, mg_14, mi_15, mg_15, mi_16, mg_16, mi_17, mg_17, mi_18, mg_18, mi_19, mg_19, mi_20, mg_20, mi_21, mg_21, mi_22, mg_22, mi_23, mg_23, mi_24, mg_24, mi_25, mg_25, mi_26, mg_26, mi_27, mg_27, mi_28, mg_28, mi_29, mg_29, mi_30, mg_30, mi_31, mg_31, mi_32, mg_32, mq_0, mq_1, mq_2, mq_3, mq_4, mq_20, mq_21, mq_22, mq_23, mq_24, mq_27, mq_28, mq_29, mq_31, mq_32, mrc, ud_s, ud_n, ud_u, up_n, ↓reduceIte, kl_i, kl_r, kl_n, kl_a, kl_l, up_s, up_up, is_0, is_s, gv_0, gv_s, pv_o, rc_o, okI_i, okI_x, okS_i, okB_x, gi_i, pi_i, okL_l, gl_l, pl_l, okA_2, okA_3, ga_a, arr_0, arr_1, arr_10, arr_11, len_a, sw_0, sw_i, sw_r, sw_l, fit_i, fit_z0, fit_z1, nz_0, nz_1, ni_K_s, ni_K_n, Nat.ble_eq, Nat.zero_le, Nat.zero_add, true_and, and_true, and_self, Bool.and_true, Bool.true_and, Bool.and_self, not_true_eq_false, not_false_eq_true, Int32.reduceLE, Int32.reduceLT, Int32.reduceAdd, Int32.reduceSub, Int32.reduceToNatClampNeg, Nat.reduceLeDiff, Nat.reduceAdd, Nat.reduceEqDiff, Nat.reduceSub, List.set_cons_zero, List.set_cons_succ, false_and, and_false]
end
