set_option maxRecDepth 100000
set_option maxHeartbeats 1000000
/-! ===== calls: hands, stones, shelves ===== -/
theorem upd_x {f f' : Nat → Int32} {k j : Nat} {x : Int32} (h : f j = f' j) : upd f k x j = upd f' k x j := by
  unfold upd
  split
  · rfl
  · exact h
theorem rel_u {n : Nat} {u mu : Nat → Nat → Int32} (h : fs_rel n u mu) (i k : Nat) (x : Int32) : fs_rel n (fs_u u i k x) (fs_u mu i k x) := by
  obtain ⟨a, b, c⟩ := h
  refine ⟨fun j hj => ?_, ?_, fun j l h1 h2 h3 => ?_⟩
  · unfold fs_u
    split
    · next q => rw [← q]; exact upd_x (a j hj)
    · exact a j hj
  · unfold fs_u
    split
    · next q => rw [← q, b]
    · exact b
  · unfold fs_u
    split
    · next q => rw [← q]; exact upd_x (c j l h1 h2 h3)
    · exact c j l h1 h2 h3
theorem rel_uh {n : Nat} {u mu : Nat → Nat → Int32} (h : fs_rel n u mu) (x y : Int32) : fs_rel (n + 1) (fs_uh u n x y) (fs_uh mu n x y) := by
  obtain ⟨a, b, c⟩ := rel_u (rel_u (rel_u (rel_u (rel_u (rel_u h 1 n x) 2 n y) 3 n 1) 4 n 0) 5 n 0) 6 0 (nI (n + 1))
  refine ⟨a, b, fun j l h1 h2 h3 => ?_⟩
  by_cases q : l = n
  · subst q
    unfold fs_uh
    match j, h1, h2 with
    | 1, _, _ => simp +decide only [fu_s, fu_n, ud_s]
    | 2, _, _ => simp +decide only [fu_s, fu_n, ud_s]
    | 3, _, _ => simp +decide only [fu_s, fu_n, ud_s]
    | 4, _, _ => simp +decide only [fu_s, fu_n, ud_s]
    | 5, _, _ => simp +decide only [fu_s, fu_n, ud_s]
    | j + 6, _, h => omega
  · exact c j l h1 h2 (by omega)
theorem good_turn {J n w k : Nat} {u : Nat → Nat → Int32} (h : fs_good J n w u) (hk : k < n) : fs_good J n k (fs_u u 6 1 (nI k)) := by
  obtain ⟨q1, q2, q3, q4, q5, q6, q7, q8⟩ := h
  exact ⟨by rw [fu_s, ud_n (by decide)]; exact q1, q2, by rw [fu_s, ud_s], Or.inl hk, by rw [fu_n (by decide)]; exact q5, by rw [fu_n (by decide)]; exact q6, by rw [fu_n (by decide)]; exact q7, fun k hk => by simp +decide only [fu_n]; exact q8 k hk⟩
theorem good_6 {J n w k : Nat} {x : Int32} {u : Nat → Nat → Int32} (h : fs_good J n w u) (hk : k = 2 ∨ k = 3) : fs_good J n w (fs_u u 6 k x) := by
  obtain ⟨q1, q2, q3, q4, q5, q6, q7, q8⟩ := h
  exact ⟨by rw [fu_s, ud_n (by omega)]; exact q1, q2, by rw [fu_s, ud_n (by omega)]; exact q3, q4, by rw [fu_n (by decide)]; exact q5, by rw [fu_n (by decide)]; exact q6, by rw [fu_n (by decide)]; exact q7, fun k hk => by simp +decide only [fu_n]; exact q8 k hk⟩
theorem good_stage {J n w k l : Nat} {u : Nat → Nat → Int32} (h : fs_good J n w u) (l1 : 1 ≤ l) (l4 : l ≤ 4) : fs_good J n w (fs_u u 3 k (nI l)) := by
  obtain ⟨q1, q2, q3, q4, q5, q6, q7, q8⟩ := h
  refine ⟨by rw [fu_n (by decide)]; exact q1, q2, by rw [fu_n (by decide)]; exact q3, q4, by rw [fu_n (by decide)]; exact q5, by rw [fu_n (by decide)]; exact q6, by rw [fu_n (by decide)]; exact q7, fun i hi => ?_⟩
  obtain ⟨a, b, c, d⟩ := q8 i hi
  refine ⟨by rw [fu_n (by decide)]; exact a, by rw [fu_n (by decide)]; exact b, ?_, by rw [fu_n (by decide)]; exact d⟩
  rw [fu_s]
  by_cases e : i = k
  · rw [e, ud_s]; exact ⟨l, l1, l4, rfl⟩
  · rw [ud_n e]; exact c
theorem good_rd {J n w k : Nat} {x : Int32} {u : Nat → Nat → Int32} (h : fs_good J n w u) : fs_good J n w (fs_u u 4 k x) := by
  obtain ⟨q1, q2, q3, q4, q5, q6, q7, q8⟩ := h
  refine ⟨by rw [fu_n (by decide)]; exact q1, q2, by rw [fu_n (by decide)]; exact q3, q4, by rw [fu_n (by decide)]; exact q5, by rw [fu_n (by decide)]; exact q6, by rw [fu_n (by decide)]; exact q7, fun i hi => ?_⟩
  obtain ⟨a, b, c, d⟩ := q8 i hi
  exact ⟨by rw [fu_n (by decide)]; exact a, by rw [fu_n (by decide)]; exact b, by rw [fu_n (by decide)]; exact c, by rw [fu_n (by decide)]; exact d⟩
theorem good_ts {J n w k t : Nat} {u : Nat → Nat → Int32} (h : fs_good J n w u) (ht : t ≤ J) : fs_good J n w (fs_u u 5 k (nI t)) := by
  obtain ⟨q1, q2, q3, q4, q5, q6, q7, q8⟩ := h
  refine ⟨by rw [fu_n (by decide)]; exact q1, q2, by rw [fu_n (by decide)]; exact q3, q4, by rw [fu_n (by decide)]; exact q5, by rw [fu_n (by decide)]; exact q6, by rw [fu_n (by decide)]; exact q7, fun i hi => ?_⟩
  obtain ⟨a, b, c, d⟩ := q8 i hi
  refine ⟨by rw [fu_n (by decide)]; exact a, by rw [fu_n (by decide)]; exact b, by rw [fu_n (by decide)]; exact c, ?_⟩
  rw [fu_s]
  by_cases e : i = k
  · rw [e, ud_s]; exact ⟨t, ht, rfl⟩
  · rw [ud_n e]; exact d
theorem good_hand {J n w a : Nat} {x : Int32} {u : Nat → Nat → Int32} (h : fs_good J n w u) (hn : n < 4) (hx : fs_kd x) (ha : a ≤ 9) : fs_good J (n + 1) w (fs_uh u n x (nI a)) := by
  obtain ⟨q1, q2, q3, q4, q5, q6, q7, q8⟩ := h
  unfold fs_uh
  refine ⟨by rw [fu_s, ud_s], by omega, by simp +decide only [fu_s, fu_n, ud_n]; exact q3, by omega, by simp +decide only [fu_n]; exact q5, by simp +decide only [fu_n]; exact q6, by simp +decide only [fu_n]; exact q7, fun i hi => ?_⟩
  by_cases e : i = n
  · subst e
    simp +decide only [fu_s, fu_n, ud_s]
    exact ⟨hx, ⟨a, ha, rfl⟩, ⟨1, by decide, by decide, rfl⟩, 0, by omega, rfl⟩
  · simp +decide only [fu_s, fu_n, ud_n e]
    exact q8 i (by omega)
theorem good_cell {J n w k : Nat} {x : Int32} {u : Nat → Nat → Int32} (h : fs_good J n w u) (hk : k < 5) (hx : x = -1 ∨ fs_ce x) (hd : ∀ j, j < 5 → j ≠ k → u 0 j = x → x = -1) : fs_good J n w (fs_u u 0 k x) := by
  obtain ⟨q1, q2, q3, q4, q5, q6, q7, q8⟩ := h
  refine ⟨by rw [fu_n (by decide)]; exact q1, q2, by rw [fu_n (by decide)]; exact q3, q4, ?_, ?_, ?_, fun i hi => by simp +decide only [fu_n]; exact q8 i hi⟩
  · intro j hj
    rw [fu_s]
    by_cases e : j = k
    · rw [e, ud_s]; exact hx
    · rw [ud_n e]; exact q5 j hj
  · intro j hj
    rw [fu_s, ud_n (by omega)]
    exact q6 j hj
  · intro i j hi hj hn
    rw [fu_s]
    by_cases e : i = k
    · rw [e, ud_s, ud_n (by omega)]
      intro q
      exact hd j hj (by omega) q.symm
    · rw [ud_n e]
      by_cases e2 : j = k
      · rw [e2, ud_s]
        intro q
        rw [q]
        exact hd i hi e q
      · rw [ud_n e2]; exact q7 i j hi hj hn
theorem mtb_6 {mu : Nat → Nat → Int32} {g : Nat → Int32} {h : ni_H} (H : fs_mtb mu g h) (k : Nat) (hk : k < 4) (x : Int32) : fs_mtb (fs_u mu 6 k x) (upd g k x) (ni_up h 49 (fs_mo (upd g k x))) := by
  obtain ⟨a0, a1, a2, a3, a4, a5, a6, b0, b1, b2, b3⟩ := H
  refine ⟨up_s, ?_, ?_, ?_, ?_, ?_, ?_, ?_, ?_, ?_, ?_⟩
  · rw [fu_n (by decide), up_n (by decide)]; exact a1
  · rw [fu_n (by decide), up_n (by decide)]; exact a2
  · rw [fu_n (by decide), up_n (by decide)]; exact a3
  · rw [fu_n (by decide), up_n (by decide)]; exact a4
  · rw [fu_n (by decide), up_n (by decide)]; exact a5
  · rw [fu_n (by decide), up_n (by decide)]; exact a6
  · rw [fu_s]; exact upd_x b0
  · rw [fu_s]; exact upd_x b1
  · rw [fu_s]; exact upd_x b2
  · rw [fu_s]; exact upd_x b3
theorem mtb_0 {mu : Nat → Nat → Int32} {g : Nat → Int32} {h : ni_H} (H : fs_mtb mu g h) (k : Nat) (x : Int32) : fs_mtb (fs_u mu 0 k x) g (ni_up h 56 (ni_I 5 (upd (mu 0) k x))) := by
  obtain ⟨a0, a1, a2, a3, a4, a5, a6, b⟩ := H
  refine ⟨by rw [up_n (by decide)]; exact a0, ?_, ?_, ?_, ?_, ?_, ?_, b⟩
  · rw [fu_n (by decide), up_n (by decide)]; exact a1
  · rw [fu_n (by decide), up_n (by decide)]; exact a2
  · rw [fu_n (by decide), up_n (by decide)]; exact a3
  · rw [fu_n (by decide), up_n (by decide)]; exact a4
  · rw [fu_n (by decide), up_n (by decide)]; exact a5
  · rw [fu_s]; exact up_s
theorem mtb_3 {mu : Nat → Nat → Int32} {g : Nat → Int32} {h : ni_H} (H : fs_mtb mu g h) (k : Nat) (x : Int32) : fs_mtb (fs_u mu 3 k x) g (ni_up h 53 (ni_I 4 (upd (mu 3) k x))) := by
  obtain ⟨a0, a1, a2, a3, a4, a5, a6, b⟩ := H
  refine ⟨by rw [up_n (by decide)]; exact a0, ?_, ?_, ?_, ?_, ?_, ?_, b⟩
  · rw [fu_n (by decide), up_n (by decide)]; exact a1
  · rw [fu_n (by decide), up_n (by decide)]; exact a2
  · rw [fu_s]; exact up_s
  · rw [fu_n (by decide), up_n (by decide)]; exact a4
  · rw [fu_n (by decide), up_n (by decide)]; exact a5
  · rw [fu_n (by decide), up_n (by decide)]; exact a6
theorem mtb_4 {mu : Nat → Nat → Int32} {g : Nat → Int32} {h : ni_H} (H : fs_mtb mu g h) (k : Nat) (x : Int32) : fs_mtb (fs_u mu 4 k x) g (ni_up h 54 (ni_I 4 (upd (mu 4) k x))) := by
  obtain ⟨a0, a1, a2, a3, a4, a5, a6, b⟩ := H
  refine ⟨by rw [up_n (by decide)]; exact a0, ?_, ?_, ?_, ?_, ?_, ?_, b⟩
  · rw [fu_n (by decide), up_n (by decide)]; exact a1
  · rw [fu_n (by decide), up_n (by decide)]; exact a2
  · rw [fu_n (by decide), up_n (by decide)]; exact a3
  · rw [fu_s]; exact up_s
  · rw [fu_n (by decide), up_n (by decide)]; exact a5
  · rw [fu_n (by decide), up_n (by decide)]; exact a6
theorem mtb_5 {mu : Nat → Nat → Int32} {g : Nat → Int32} {h : ni_H} (H : fs_mtb mu g h) (k : Nat) (x : Int32) : fs_mtb (fs_u mu 5 k x) g (ni_up h 55 (ni_I 4 (upd (mu 5) k x))) := by
  obtain ⟨a0, a1, a2, a3, a4, a5, a6, b⟩ := H
  refine ⟨by rw [up_n (by decide)]; exact a0, ?_, ?_, ?_, ?_, ?_, ?_, b⟩
  · rw [fu_n (by decide), up_n (by decide)]; exact a1
  · rw [fu_n (by decide), up_n (by decide)]; exact a2
  · rw [fu_n (by decide), up_n (by decide)]; exact a3
  · rw [fu_n (by decide), up_n (by decide)]; exact a4
  · rw [fu_s]; exact up_s
  · rw [fu_n (by decide), up_n (by decide)]; exact a6
theorem kd_of {x : Int32} (h1 : ¬ x < 0) (h2 : x ≤ 6) : fs_kd x := by
  obtain ⟨j, hj, rfl⟩ := nI_of2 (M := 6) (n := 6) rfl h1 h2
  have : ∀ j, j < 7 → nI j = 0 ∨ nI j = 1 ∨ nI j = 2 ∨ nI j = 3 ∨ nI j = 4 ∨ nI j = 5 ∨ nI j = 6 := by decide +kernel
  exact this j (by omega)
section
variable {J : Nat} {z : ni_Z} {h : ni_H}
theorem C_turn (x : Int32) : fs_Inv J h → fs_C J z 79 142 [.ref 0, .int x, .retAddr 0] [.ref 49, .int x, .retAddr 0] h := by
  intro hI
  obtain ⟨hE, n, w, im, lf, u, v, mu, ran, tr, rf, hl, hd, so, szf, sh, kp, g, sz, ee, ce, X, M, P⟩ := hI
  have X' := X
  have M' := M
  have P' := P
  obtain ⟨x0, x1, xT, xV, xD, xM, x29, x30, x31, x32, xS, xL⟩ := X'
  obtain ⟨mT, m50, m57, m58, m59, m60, m61, m62, m63, m64, m65, m66, m67⟩ := M'
  have mT' := mT
  obtain ⟨m49, m51, m52, m53, m54, m55, m56, g0, g1, g2, g3⟩ := mT'
  have xT' := xT
  obtain ⟨t2, t3, t4, tH⟩ := xT'
  obtain ⟨pG, pR, p4, p31, p32, pr, pI, pS⟩ := P'
  have pG' := pG
  obtain ⟨u60, n4, u61, wn, cel, cel5, cdis, hnd⟩ := pG'
  have pR' := pR
  obtain ⟨r6, r0, rH⟩ := pR'
  have gn : g 0 = nI n := (g0.trans (r6 0 (by decide))).trans u60
  have gw : g 1 = nI w := (g1.trans (r6 1 (by decide))).trans u61
  have gf : g 2 = u 6 2 := g2.trans (r6 2 (by decide))
  have gs : g 3 = u 6 3 := g3.trans (r6 3 (by decide))
  rw [u60, u61] at t2
  rw [r0] at m56
  simp only [Nat.reduceAdd] at t2 t3 t4
  rcases ixn x n4 with q | ⟨k, hk, rfl⟩
  · refine C_r hE X M P (r := .int (-1)) (c := -1) (fun d Q => ?_) (fun h' N d Q => ?_)
    · simp +decide only [s79_0, s79_1, s79_4, s79_5, s79_8N, s79_8, s79_11, s79_12, s79_13, s79_16, s79_17, s79_18, s79_21, s79_24, s79_25, s79_26, s79_29, s79_30, s79_33, s79_34, x0, t2, X_handN (t := 2) t2 q, X_refuse x0 x32 no_1, ↓reduceIte, kl_i, kl_r, kl_n, kl_a, kl_l, up_s, up_up, is_0, is_s, gv_0, gv_s, pv_o, rc_o, okI_i, okI_x, okS_i, okB_x, gi_i, pi_i, okL_l, gl_l, pl_l, okA_2, okA_3, ga_a, arr_0, arr_1, arr_10, arr_11, len_a, sw_0, sw_i, sw_r, sw_l, fit_i, fit_z0, fit_z1, nz_0, nz_1, ni_K_s, ni_K_n, Nat.ble_eq, Nat.zero_le, Nat.zero_add, true_and, and_true, and_self, Bool.and_true, Bool.true_and, Bool.and_self, not_true_eq_false, not_false_eq_true, Int32.reduceLE, Int32.reduceLT, Int32.reduceAdd, Int32.reduceSub, Int32.reduceToNatClampNeg, Nat.reduceLeDiff, Nat.reduceAdd, Nat.reduceEqDiff, Nat.reduceSub, List.set_cons_zero, List.set_cons_succ, false_and, and_false]
    · obtain ⟨⟨k49, k51, k52, k53, k54, k55, k56, -, -, -, -⟩, k50, k57, k58, k59, k60, k61, k62, k63, k64, k65, k66, k67⟩ := N
      rw [r0] at k56
      simp +decide only [s142_0, s142_1, s142_2, s142_5, s142_8, s142_9, s142_10, s142_13, s142_14, s142_15, s142_18, s142_19, s142_20, s142_21, s142_24, s142_25, k49, gn, fs_b, M_isHand k49, isHd_f q, M_no k49 k50 no_1, Bool.false_eq_true, mi_0, mg_0, mi_1, mg_1, mi_2, mg_2, mi_3, mg_3, mi_4, mg_4, mi_5, mg_5, mi_6, mg_6, mi_7, mg_7, mi_8, mg_8, mi_9, mg_9, mi_10, mg_10, mi_11, mg_11, mi_12, mg_12, mi_13, mg_13, mi_14, mg_14, mi_15, mg_15, mi_16, mg_16, mi_17, mg_17, mi_18, mg_18, mi_19, mg_19, mi_20, mg_20, mi_21, mg_21, mi_22, mg_22, mi_23, mg_23, mi_24, mg_24, mi_25, mg_25, mi_26, mg_26, mi_27, mg_27, mi_28, mg_28, mi_29, mg_29, mi_30, mg_30, mi_31, mg_31, mi_32, mg_32, mq_0, mq_1, mq_2, mq_3, mq_4, mq_20, mq_21, mq_22, mq_23, mq_24, mq_27, mq_28, mq_29, mq_31, mq_32, mrc, ud_s, ud_n, ud_u, up_n, ↓reduceIte, kl_i, kl_r, kl_n, kl_a, kl_l, up_s, up_up, is_0, is_s, gv_0, gv_s, pv_o, rc_o, okI_i, okI_x, okS_i, okB_x, gi_i, pi_i, okL_l, gl_l, pl_l, okA_2, okA_3, ga_a, arr_0, arr_1, arr_10, arr_11, len_a, sw_0, sw_i, sw_r, sw_l, fit_i, fit_z0, fit_z1, nz_0, nz_1, ni_K_s, ni_K_n, Nat.ble_eq, Nat.zero_le, Nat.zero_add, true_and, and_true, and_self, Bool.and_true, Bool.true_and, Bool.and_self, not_true_eq_false, not_false_eq_true, Int32.reduceLE, Int32.reduceLT, Int32.reduceAdd, Int32.reduceSub, Int32.reduceToNatClampNeg, Nat.reduceLeDiff, Nat.reduceAdd, Nat.reduceEqDiff, Nat.reduceSub, List.set_cons_zero, List.set_cons_succ, false_and, and_false]
  · have N := mtb_h (h' := ni_up h 2 (ni_O 5 [.ref 3, .ref 4, .int (nI n), .int (nI k), .int (u 6 2), .int (u 6 3)])) mT (fun i _ _ => up_n (by omega))
    refine C_t hE X M P (r := .int (nI w)) (h1 := ni_up h 2 (ni_O 5 [.ref 3, .ref 4, .int (nI n), .int (nI k), .int (u 6 2), .int (u 6 3)])) (fun d Q => ?_) (fun i a b => up_n (by omega)) (mind_h xM (fun i a b => up_n (by omega))) ?_ (fun d Q => ?_) ?_ (mtb_6 N 1 (by decide) (nI k)) (ud_n (by decide)) (ud_n (by decide)) (ud_n (by decide)) (good_turn (good_J pG (show J ≤ J + 100 by omega)) hk) (rel_u pR 6 1 (nI k)) (Nat.le_refl _)
    · simp +decide only [s79_0, s79_1, s79_4, s79_5, s79_8N, s79_8, s79_11, s79_12, s79_13, s79_16, s79_17, s79_18, s79_21, s79_24, s79_25, s79_26, s79_29, s79_30, s79_33, s79_34, x0, t2, X_handS (t := 2) t2 t4 hk n4, ↓reduceIte, kl_i, kl_r, kl_n, kl_a, kl_l, up_s, up_up, is_0, is_s, gv_0, gv_s, pv_o, rc_o, okI_i, okI_x, okS_i, okB_x, gi_i, pi_i, okL_l, gl_l, pl_l, okA_2, okA_3, ga_a, arr_0, arr_1, arr_10, arr_11, len_a, sw_0, sw_i, sw_r, sw_l, fit_i, fit_z0, fit_z1, nz_0, nz_1, ni_K_s, ni_K_n, Nat.ble_eq, Nat.zero_le, Nat.zero_add, true_and, and_true, and_self, Bool.and_true, Bool.true_and, Bool.and_self, not_true_eq_false, not_false_eq_true, Int32.reduceLE, Int32.reduceLT, Int32.reduceAdd, Int32.reduceSub, Int32.reduceToNatClampNeg, Nat.reduceLeDiff, Nat.reduceAdd, Nat.reduceEqDiff, Nat.reduceSub, List.set_cons_zero, List.set_cons_succ, false_and, and_false]
    · have := tab_6 xT 1 (nI k)
      rw [ud_n (by decide), ud_s, ud_n (by decide), ud_n (by decide), u60] at this
      exact this
    · simp +decide only [s142_0, s142_1, s142_2, s142_5, s142_8, s142_9, s142_10, s142_13, s142_14, s142_15, s142_18, s142_19, s142_20, s142_21, s142_24, s142_25, N.1, M_isHand N.1, gn, gw, isHd_t hk n4, fs_b, fit_i, mi_0, mg_0, mi_1, mg_1, mi_2, mg_2, mi_3, mg_3, mi_4, mg_4, mi_5, mg_5, mi_6, mg_6, mi_7, mg_7, mi_8, mg_8, mi_9, mg_9, mi_10, mg_10, mi_11, mg_11, mi_12, mg_12, mi_13, mg_13, mi_14, mg_14, mi_15, mg_15, mi_16, mg_16, mi_17, mg_17, mi_18, mg_18, mi_19, mg_19, mi_20, mg_20, mi_21, mg_21, mi_22, mg_22, mi_23, mg_23, mi_24, mg_24, mi_25, mg_25, mi_26, mg_26, mi_27, mg_27, mi_28, mg_28, mi_29, mg_29, mi_30, mg_30, mi_31, mg_31, mi_32, mg_32, mq_0, mq_1, mq_2, mq_3, mq_4, mq_20, mq_21, mq_22, mq_23, mq_24, mq_27, mq_28, mq_29, mq_31, mq_32, mrc, ud_s, ud_n, ud_u, up_n, ↓reduceIte, kl_i, kl_r, kl_n, kl_a, kl_l, up_s, up_up, is_0, is_s, gv_0, gv_s, pv_o, rc_o, okI_i, okI_x, okS_i, okB_x, gi_i, pi_i, okL_l, gl_l, pl_l, okA_2, okA_3, ga_a, arr_0, arr_1, arr_10, arr_11, len_a, sw_0, sw_i, sw_r, sw_l, fit_i, fit_z0, fit_z1, nz_0, nz_1, ni_K_s, ni_K_n, Nat.ble_eq, Nat.zero_le, Nat.zero_add, true_and, and_true, and_self, Bool.and_true, Bool.true_and, Bool.and_self, not_true_eq_false, not_false_eq_true, Int32.reduceLE, Int32.reduceLT, Int32.reduceAdd, Int32.reduceSub, Int32.reduceToNatClampNeg, Nat.reduceLeDiff, Nat.reduceAdd, Nat.reduceEqDiff, Nat.reduceSub, List.set_cons_zero, List.set_cons_succ, false_and, and_false]
    · exact fun i a b => up_n a
theorem C_stage (x y : Int32) : fs_Inv J h → fs_C J z 78 141 [.ref 0, .int x, .int y, .retAddr 0, .retAddr 0, .retAddr 0] [.ref 49, .int x, .int y, .retAddr 0] h := by
  intro hI
  obtain ⟨hE, n, w, im, lf, u, v, mu, ran, tr, rf, hl, hd, so, szf, sh, kp, g, sz, ee, ce, X, M, P⟩ := hI
  have X' := X
  have M' := M
  have P' := P
  obtain ⟨x0, x1, xT, xV, xD, xM, x29, x30, x31, x32, xS, xL⟩ := X'
  obtain ⟨mT, m50, m57, m58, m59, m60, m61, m62, m63, m64, m65, m66, m67⟩ := M'
  have mT' := mT
  obtain ⟨m49, m51, m52, m53, m54, m55, m56, g0, g1, g2, g3⟩ := mT'
  have xT' := xT
  obtain ⟨t2, t3, t4, tH⟩ := xT'
  obtain ⟨pG, pR, p4, p31, p32, pr, pI, pS⟩ := P'
  have pG' := pG
  obtain ⟨u60, n4, u61, wn, cel, cel5, cdis, hnd⟩ := pG'
  have pR' := pR
  obtain ⟨r6, r0, rH⟩ := pR'
  have gn : g 0 = nI n := (g0.trans (r6 0 (by decide))).trans u60
  have gw : g 1 = nI w := (g1.trans (r6 1 (by decide))).trans u61
  have gf : g 2 = u 6 2 := g2.trans (r6 2 (by decide))
  have gs : g 3 = u 6 3 := g3.trans (r6 3 (by decide))
  rw [u60, u61] at t2
  rw [r0] at m56
  simp only [Nat.reduceAdd] at t2 t3 t4
  rcases ixn x n4 with q | ⟨k, hk, rfl⟩
  · refine C_r hE X M P (r := .int (-1)) (c := -1) (fun d Q => ?_) (fun h' N d Q => ?_)
    · simp +decide only [s78_0, s78_1, s78_4, s78_5, s78_8, s78_8N, s78_9, s78_9N, s78_10, s78_11, s78_11N0, s78_14, s78_16, s78_18, s78_21, s78_22, s78_24, s78_27, s78_28, s78_28N, s78_29, s78_32, s78_34, s78_34N, s78_35, s78_36, s78_39, s78_41, x0, t2, X_handN (t := 2) t2 q, X_noStageN, X_refuse x0 x32 no_1, ↓reduceIte, kl_i, kl_r, kl_n, kl_a, kl_l, up_s, up_up, is_0, is_s, gv_0, gv_s, pv_o, rc_o, okI_i, okI_x, okS_i, okB_x, gi_i, pi_i, okL_l, gl_l, pl_l, okA_2, okA_3, ga_a, arr_0, arr_1, arr_10, arr_11, len_a, sw_0, sw_i, sw_r, sw_l, fit_i, fit_z0, fit_z1, nz_0, nz_1, ni_K_s, ni_K_n, Nat.ble_eq, Nat.zero_le, Nat.zero_add, true_and, and_true, and_self, Bool.and_true, Bool.true_and, Bool.and_self, not_true_eq_false, not_false_eq_true, Int32.reduceLE, Int32.reduceLT, Int32.reduceAdd, Int32.reduceSub, Int32.reduceToNatClampNeg, Nat.reduceLeDiff, Nat.reduceAdd, Nat.reduceEqDiff, Nat.reduceSub, List.set_cons_zero, List.set_cons_succ, false_and, and_false]
    · obtain ⟨⟨k49, k51, k52, k53, k54, k55, k56, -, -, -, -⟩, k50, k57, k58, k59, k60, k61, k62, k63, k64, k65, k66, k67⟩ := N
      rw [r0] at k56
      simp +decide only [s141_0, s141_1, s141_2, s141_5, s141_8, s141_9, s141_10, s141_13, s141_14, s141_15, s141_16, s141_19, s141_20, s141_21, s141_24, s141_25, s141_27, s141_30, s141_31, s141_32, s141_35, s141_36, s141_37, s141_38, s141_39, s141_42, s141_43, s141_44, s141_45, s141_46, k49, gn, fs_b, M_isHand k49, isHd_f q, M_no k49 k50 no_1, Bool.false_eq_true, mi_0, mg_0, mi_1, mg_1, mi_2, mg_2, mi_3, mg_3, mi_4, mg_4, mi_5, mg_5, mi_6, mg_6, mi_7, mg_7, mi_8, mg_8, mi_9, mg_9, mi_10, mg_10, mi_11, mg_11, mi_12, mg_12, mi_13, mg_13, mi_14, mg_14, mi_15, mg_15, mi_16, mg_16, mi_17, mg_17, mi_18, mg_18, mi_19, mg_19, mi_20, mg_20, mi_21, mg_21, mi_22, mg_22, mi_23, mg_23, mi_24, mg_24, mi_25, mg_25, mi_26, mg_26, mi_27, mg_27, mi_28, mg_28, mi_29, mg_29, mi_30, mg_30, mi_31, mg_31, mi_32, mg_32, mq_0, mq_1, mq_2, mq_3, mq_4, mq_20, mq_21, mq_22, mq_23, mq_24, mq_27, mq_28, mq_29, mq_31, mq_32, mrc, ud_s, ud_n, ud_u, up_n, ↓reduceIte, kl_i, kl_r, kl_n, kl_a, kl_l, up_s, up_up, is_0, is_s, gv_0, gv_s, pv_o, rc_o, okI_i, okI_x, okS_i, okB_x, gi_i, pi_i, okL_l, gl_l, pl_l, okA_2, okA_3, ga_a, arr_0, arr_1, arr_10, arr_11, len_a, sw_0, sw_i, sw_r, sw_l, fit_i, fit_z0, fit_z1, nz_0, nz_1, ni_K_s, ni_K_n, Nat.ble_eq, Nat.zero_le, Nat.zero_add, true_and, and_true, and_self, Bool.and_true, Bool.true_and, Bool.and_self, not_true_eq_false, not_false_eq_true, Int32.reduceLE, Int32.reduceLT, Int32.reduceAdd, Int32.reduceSub, Int32.reduceToNatClampNeg, Nat.reduceLeDiff, Nat.reduceAdd, Nat.reduceEqDiff, Nat.reduceSub, List.set_cons_zero, List.set_cons_succ, false_and, and_false]
  · have hO := tH k (by omega)
    cases st : fs_isSt y
    · have st' := st
      by_cases q1 : y < 1
      · refine C_r hE X M P (r := .int (-6)) (c := -6) (fun d Q => ?_) (fun h' N d Q => ?_)
        · simp +decide only [s78_0, s78_1, s78_4, s78_5, s78_8, s78_8N, s78_9, s78_9N, s78_10, s78_11, s78_11N0, s78_14, s78_16, s78_18, s78_21, s78_22, s78_24, s78_27, s78_28, s78_28N, s78_29, s78_32, s78_34, s78_34N, s78_35, s78_36, s78_39, s78_41, x0, t2, X_handS (t := 2) t2 t4 hk n4, X_noStageS, st, Bool.false_eq_true, hO, X_refuse x0 x32 no_6, ↓reduceIte, kl_i, kl_r, kl_n, kl_a, kl_l, up_s, up_up, is_0, is_s, gv_0, gv_s, pv_o, rc_o, okI_i, okI_x, okS_i, okB_x, gi_i, pi_i, okL_l, gl_l, pl_l, okA_2, okA_3, ga_a, arr_0, arr_1, arr_10, arr_11, len_a, sw_0, sw_i, sw_r, sw_l, fit_i, fit_z0, fit_z1, nz_0, nz_1, ni_K_s, ni_K_n, Nat.ble_eq, Nat.zero_le, Nat.zero_add, true_and, and_true, and_self, Bool.and_true, Bool.true_and, Bool.and_self, not_true_eq_false, not_false_eq_true, Int32.reduceLE, Int32.reduceLT, Int32.reduceAdd, Int32.reduceSub, Int32.reduceToNatClampNeg, Nat.reduceLeDiff, Nat.reduceAdd, Nat.reduceEqDiff, Nat.reduceSub, List.set_cons_zero, List.set_cons_succ, false_and, and_false]
        · obtain ⟨⟨k49, k51, k52, k53, k54, k55, k56, -, -, -, -⟩, k50, k57, k58, k59, k60, k61, k62, k63, k64, k65, k66, k67⟩ := N
          rw [r0] at k56
          simp +decide only [s141_0, s141_1, s141_2, s141_5, s141_8, s141_9, s141_10, s141_13, s141_14, s141_15, s141_16, s141_19, s141_20, s141_21, s141_24, s141_25, s141_27, s141_30, s141_31, s141_32, s141_35, s141_36, s141_37, s141_38, s141_39, s141_42, s141_43, s141_44, s141_45, s141_46, k49, gn, fs_b, M_isHand k49, isHd_t hk n4, q1, M_no k49 k50 no_6, Bool.false_eq_true, mi_0, mg_0, mi_1, mg_1, mi_2, mg_2, mi_3, mg_3, mi_4, mg_4, mi_5, mg_5, mi_6, mg_6, mi_7, mg_7, mi_8, mg_8, mi_9, mg_9, mi_10, mg_10, mi_11, mg_11, mi_12, mg_12, mi_13, mg_13, mi_14, mg_14, mi_15, mg_15, mi_16, mg_16, mi_17, mg_17, mi_18, mg_18, mi_19, mg_19, mi_20, mg_20, mi_21, mg_21, mi_22, mg_22, mi_23, mg_23, mi_24, mg_24, mi_25, mg_25, mi_26, mg_26, mi_27, mg_27, mi_28, mg_28, mi_29, mg_29, mi_30, mg_30, mi_31, mg_31, mi_32, mg_32, mq_0, mq_1, mq_2, mq_3, mq_4, mq_20, mq_21, mq_22, mq_23, mq_24, mq_27, mq_28, mq_29, mq_31, mq_32, mrc, ud_s, ud_n, ud_u, up_n, ↓reduceIte, kl_i, kl_r, kl_n, kl_a, kl_l, up_s, up_up, is_0, is_s, gv_0, gv_s, pv_o, rc_o, okI_i, okI_x, okS_i, okB_x, gi_i, pi_i, okL_l, gl_l, pl_l, okA_2, okA_3, ga_a, arr_0, arr_1, arr_10, arr_11, len_a, sw_0, sw_i, sw_r, sw_l, fit_i, fit_z0, fit_z1, nz_0, nz_1, ni_K_s, ni_K_n, Nat.ble_eq, Nat.zero_le, Nat.zero_add, true_and, and_true, and_self, Bool.and_true, Bool.true_and, Bool.and_self, not_true_eq_false, not_false_eq_true, Int32.reduceLE, Int32.reduceLT, Int32.reduceAdd, Int32.reduceSub, Int32.reduceToNatClampNeg, Nat.reduceLeDiff, Nat.reduceAdd, Nat.reduceEqDiff, Nat.reduceSub, List.set_cons_zero, List.set_cons_succ, false_and, and_false]
      · have q2 : 4 < y := by
          by_cases q2 : 4 < y
          · exact q2
          · simp [fs_isSt, q1, q2] at st
        refine C_r hE X M P (r := .int (-6)) (c := -6) (fun d Q => ?_) (fun h' N d Q => ?_)
        · simp +decide only [s78_0, s78_1, s78_4, s78_5, s78_8, s78_8N, s78_9, s78_9N, s78_10, s78_11, s78_11N0, s78_14, s78_16, s78_18, s78_21, s78_22, s78_24, s78_27, s78_28, s78_28N, s78_29, s78_32, s78_34, s78_34N, s78_35, s78_36, s78_39, s78_41, x0, t2, X_handS (t := 2) t2 t4 hk n4, X_noStageS, st, Bool.false_eq_true, hO, X_refuse x0 x32 no_6, ↓reduceIte, kl_i, kl_r, kl_n, kl_a, kl_l, up_s, up_up, is_0, is_s, gv_0, gv_s, pv_o, rc_o, okI_i, okI_x, okS_i, okB_x, gi_i, pi_i, okL_l, gl_l, pl_l, okA_2, okA_3, ga_a, arr_0, arr_1, arr_10, arr_11, len_a, sw_0, sw_i, sw_r, sw_l, fit_i, fit_z0, fit_z1, nz_0, nz_1, ni_K_s, ni_K_n, Nat.ble_eq, Nat.zero_le, Nat.zero_add, true_and, and_true, and_self, Bool.and_true, Bool.true_and, Bool.and_self, not_true_eq_false, not_false_eq_true, Int32.reduceLE, Int32.reduceLT, Int32.reduceAdd, Int32.reduceSub, Int32.reduceToNatClampNeg, Nat.reduceLeDiff, Nat.reduceAdd, Nat.reduceEqDiff, Nat.reduceSub, List.set_cons_zero, List.set_cons_succ, false_and, and_false]
        · obtain ⟨⟨k49, k51, k52, k53, k54, k55, k56, -, -, -, -⟩, k50, k57, k58, k59, k60, k61, k62, k63, k64, k65, k66, k67⟩ := N
          rw [r0] at k56
          simp +decide only [s141_0, s141_1, s141_2, s141_5, s141_8, s141_9, s141_10, s141_13, s141_14, s141_15, s141_16, s141_19, s141_20, s141_21, s141_24, s141_25, s141_27, s141_30, s141_31, s141_32, s141_35, s141_36, s141_37, s141_38, s141_39, s141_42, s141_43, s141_44, s141_45, s141_46, k49, gn, fs_b, M_isHand k49, isHd_t hk n4, q1, q2, Int32.not_le.mpr q2, M_no k49 k50 no_6, Bool.false_eq_true, mi_0, mg_0, mi_1, mg_1, mi_2, mg_2, mi_3, mg_3, mi_4, mg_4, mi_5, mg_5, mi_6, mg_6, mi_7, mg_7, mi_8, mg_8, mi_9, mg_9, mi_10, mg_10, mi_11, mg_11, mi_12, mg_12, mi_13, mg_13, mi_14, mg_14, mi_15, mg_15, mi_16, mg_16, mi_17, mg_17, mi_18, mg_18, mi_19, mg_19, mi_20, mg_20, mi_21, mg_21, mi_22, mg_22, mi_23, mg_23, mi_24, mg_24, mi_25, mg_25, mi_26, mg_26, mi_27, mg_27, mi_28, mg_28, mi_29, mg_29, mi_30, mg_30, mi_31, mg_31, mi_32, mg_32, mq_0, mq_1, mq_2, mq_3, mq_4, mq_20, mq_21, mq_22, mq_23, mq_24, mq_27, mq_28, mq_29, mq_31, mq_32, mrc, ud_s, ud_n, ud_u, up_n, ↓reduceIte, kl_i, kl_r, kl_n, kl_a, kl_l, up_s, up_up, is_0, is_s, gv_0, gv_s, pv_o, rc_o, okI_i, okI_x, okS_i, okB_x, gi_i, pi_i, okL_l, gl_l, pl_l, okA_2, okA_3, ga_a, arr_0, arr_1, arr_10, arr_11, len_a, sw_0, sw_i, sw_r, sw_l, fit_i, fit_z0, fit_z1, nz_0, nz_1, ni_K_s, ni_K_n, Nat.ble_eq, Nat.zero_le, Nat.zero_add, true_and, and_true, and_self, Bool.and_true, Bool.true_and, Bool.and_self, not_true_eq_false, not_false_eq_true, Int32.reduceLE, Int32.reduceLT, Int32.reduceAdd, Int32.reduceSub, Int32.reduceToNatClampNeg, Nat.reduceLeDiff, Nat.reduceAdd, Nat.reduceEqDiff, Nat.reduceSub, List.set_cons_zero, List.set_cons_succ, false_and, and_false]
    · have st' : ¬ y < 1 ∧ ¬ 4 < y := of_decide_eq_true st
      obtain ⟨l, hl', rfl⟩ := nI_of2 (M := 4) (n := 4) (x := y) rfl (fun e => st'.1 (Int32.lt_trans e (by decide))) (Int32.not_lt.mp st'.2)
      have l1 : 1 ≤ l := by
        rcases Nat.eq_zero_or_pos l with e | e
        · subst e; exact absurd (by decide) st'.1
        · exact e
      have N := mtb_h (h' := ni_up h (2 + 3 + k) (ni_O 1 [.int (nI k), .int (u 1 k), .int (u 2 k), .int (nI l), .int (u 4 k), .int (u 5 k)])) mT (fun i _ _ => up_n (by omega))
      have rk := rH 3 k (by decide) (by decide) hk
      refine C_t hE X M P (r := .int (u 3 k)) (h1 := ni_up h (2 + 3 + k) (ni_O 1 [.int (nI k), .int (u 1 k), .int (u 2 k), .int (nI l), .int (u 4 k), .int (u 5 k)])) (h2 := ni_up (ni_up h (2 + 3 + k) (ni_O 1 [.int (nI k), .int (u 1 k), .int (u 2 k), .int (nI l), .int (u 4 k), .int (u 5 k)])) 53 (ni_I 4 (upd (mu 3) k (nI l)))) (fun d Q => ?_) (fun i a b => up_n (by omega)) (mind_h xM (fun i a b => up_n (by omega))) ?_ (fun d Q => ?_) ?_ (mtb_3 N k (nI l)) rfl rfl rfl (good_stage (good_J pG (show J ≤ J + 100 by omega)) l1 hl') (rel_u pR 3 k (nI l)) (Nat.le_refl _)
      · simp +decide only [s78_0, s78_1, s78_4, s78_5, s78_8, s78_8N, s78_9, s78_9N, s78_10, s78_11, s78_11N0, s78_14, s78_16, s78_18, s78_21, s78_22, s78_24, s78_27, s78_28, s78_28N, s78_29, s78_32, s78_34, s78_34N, s78_35, s78_36, s78_39, s78_41, x0, t2, X_handS (t := 2) t2 t4 hk n4, X_noStageS, st, hO, ↓reduceIte, kl_i, kl_r, kl_n, kl_a, kl_l, up_s, up_up, is_0, is_s, gv_0, gv_s, pv_o, rc_o, okI_i, okI_x, okS_i, okB_x, gi_i, pi_i, okL_l, gl_l, pl_l, okA_2, okA_3, ga_a, arr_0, arr_1, arr_10, arr_11, len_a, sw_0, sw_i, sw_r, sw_l, fit_i, fit_z0, fit_z1, nz_0, nz_1, ni_K_s, ni_K_n, Nat.ble_eq, Nat.zero_le, Nat.zero_add, true_and, and_true, and_self, Bool.and_true, Bool.true_and, Bool.and_self, not_true_eq_false, not_false_eq_true, Int32.reduceLE, Int32.reduceLT, Int32.reduceAdd, Int32.reduceSub, Int32.reduceToNatClampNeg, Nat.reduceLeDiff, Nat.reduceAdd, Nat.reduceEqDiff, Nat.reduceSub, List.set_cons_zero, List.set_cons_succ, false_and, and_false]
      · have := tab_h (t := 2) (j := k) (v := fs_u u 3 k (nI l)) xT (by omega) (fu_n (by decide)) (fu_n (by decide)) (fun i k hk => fu_k hk)
        simp +decide only [fu_s, fu_n, ud_s, ne_eq, Nat.reduceEqDiff, not_false_eq_true] at this
        exact this
      · simp +decide only [s141_0, s141_1, s141_2, s141_5, s141_8, s141_9, s141_10, s141_13, s141_14, s141_15, s141_16, s141_19, s141_20, s141_21, s141_24, s141_25, s141_27, s141_30, s141_31, s141_32, s141_35, s141_36, s141_37, s141_38, s141_39, s141_42, s141_43, s141_44, s141_45, s141_46, N.1, N.2.2.2.1, M_isHand N.1, gn, isHd_t hk n4, st'.1, st'.2, Int32.not_lt.mp st'.2, rk, in_n (k := k) (n := 4) (by omega) (by decide), nI_clamp (n := k) (by omega), fs_b, mi_0, mg_0, mi_1, mg_1, mi_2, mg_2, mi_3, mg_3, mi_4, mg_4, mi_5, mg_5, mi_6, mg_6, mi_7, mg_7, mi_8, mg_8, mi_9, mg_9, mi_10, mg_10, mi_11, mg_11, mi_12, mg_12, mi_13, mg_13, mi_14, mg_14, mi_15, mg_15, mi_16, mg_16, mi_17, mg_17, mi_18, mg_18, mi_19, mg_19, mi_20, mg_20, mi_21, mg_21, mi_22, mg_22, mi_23, mg_23, mi_24, mg_24, mi_25, mg_25, mi_26, mg_26, mi_27, mg_27, mi_28, mg_28, mi_29, mg_29, mi_30, mg_30, mi_31, mg_31, mi_32, mg_32, mq_0, mq_1, mq_2, mq_3, mq_4, mq_20, mq_21, mq_22, mq_23, mq_24, mq_27, mq_28, mq_29, mq_31, mq_32, mrc, ud_s, ud_n, ud_u, up_n, ↓reduceIte, kl_i, kl_r, kl_n, kl_a, kl_l, up_s, up_up, is_0, is_s, gv_0, gv_s, pv_o, rc_o, okI_i, okI_x, okS_i, okB_x, gi_i, pi_i, okL_l, gl_l, pl_l, okA_2, okA_3, ga_a, arr_0, arr_1, arr_10, arr_11, len_a, sw_0, sw_i, sw_r, sw_l, fit_i, fit_z0, fit_z1, nz_0, nz_1, ni_K_s, ni_K_n, Nat.ble_eq, Nat.zero_le, Nat.zero_add, true_and, and_true, and_self, Bool.and_true, Bool.true_and, Bool.and_self, not_true_eq_false, not_false_eq_true, Int32.reduceLE, Int32.reduceLT, Int32.reduceAdd, Int32.reduceSub, Int32.reduceToNatClampNeg, Nat.reduceLeDiff, Nat.reduceAdd, Nat.reduceEqDiff, Nat.reduceSub, List.set_cons_zero, List.set_cons_succ, false_and, and_false]
      · exact fun i a b => up_n (by omega)
theorem C_hand (x y : Int32) : fs_Inv J h → fs_C J z 74 136 [.ref 0, .int x, .int y] [.ref 49, .int x, .int y] h := by
  intro hI
  obtain ⟨hE, n, w, im, lf, u, v, mu, ran, tr, rf, hl, hd, so, szf, sh, kp, g, sz, ee, ce, X, M, P⟩ := hI
  have X' := X
  have M' := M
  have P' := P
  obtain ⟨x0, x1, xT, xV, xD, xM, x29, x30, x31, x32, xS, xL⟩ := X'
  obtain ⟨mT, m50, m57, m58, m59, m60, m61, m62, m63, m64, m65, m66, m67⟩ := M'
  have mT' := mT
  obtain ⟨m49, m51, m52, m53, m54, m55, m56, g0, g1, g2, g3⟩ := mT'
  have xT' := xT
  obtain ⟨t2, t3, t4, tH⟩ := xT'
  obtain ⟨pG, pR, p4, p31, p32, pr, pI, pS⟩ := P'
  have pG' := pG
  obtain ⟨u60, n4, u61, wn, cel, cel5, cdis, hnd⟩ := pG'
  have pR' := pR
  obtain ⟨r6, r0, rH⟩ := pR'
  have gn : g 0 = nI n := (g0.trans (r6 0 (by decide))).trans u60
  have gw : g 1 = nI w := (g1.trans (r6 1 (by decide))).trans u61
  have gf : g 2 = u 6 2 := g2.trans (r6 2 (by decide))
  have gs : g 3 = u 6 3 := g3.trans (r6 3 (by decide))
  rw [u60, u61] at t2
  rw [r0] at m56
  simp only [Nat.reduceAdd] at t2 t3 t4
  rcases pk_ix x (n := 7) (by decide) with q | q | ⟨a, ha, rfl⟩
  · refine C_r hE X M P (r := .int (-1)) (c := -1) (fun d Q => ?_) (fun h' N d Q => ?_)
    · simp +decide only [s74_0, s74_1, s74_4, s74_5, s74_7, s74_10, s74_11, s74_12, s74_15, s74_16, s74_17, s74_20, s74_21, s74_23, s74_26, s74_27, s74_29, s74_32, s74_33, s74_34, s74_37, s74_40, s74_43, s74_44, s74_46, s74_49, s74_50, s74_51, s74_54, s74_55, s74_56, s74_59, x0, t2, q, X_refuse x0 x32 no_1, ↓reduceIte, kl_i, kl_r, kl_n, kl_a, kl_l, up_s, up_up, is_0, is_s, gv_0, gv_s, pv_o, rc_o, okI_i, okI_x, okS_i, okB_x, gi_i, pi_i, okL_l, gl_l, pl_l, okA_2, okA_3, ga_a, arr_0, arr_1, arr_10, arr_11, len_a, sw_0, sw_i, sw_r, sw_l, fit_i, fit_z0, fit_z1, nz_0, nz_1, ni_K_s, ni_K_n, Nat.ble_eq, Nat.zero_le, Nat.zero_add, true_and, and_true, and_self, Bool.and_true, Bool.true_and, Bool.and_self, not_true_eq_false, not_false_eq_true, Int32.reduceLE, Int32.reduceLT, Int32.reduceAdd, Int32.reduceSub, Int32.reduceToNatClampNeg, Nat.reduceLeDiff, Nat.reduceAdd, Nat.reduceEqDiff, Nat.reduceSub, List.set_cons_zero, List.set_cons_succ, false_and, and_false]
    · obtain ⟨⟨k49, k51, k52, k53, k54, k55, k56, -, -, -, -⟩, k50, k57, k58, k59, k60, k61, k62, k63, k64, k65, k66, k67⟩ := N
      rw [r0] at k56
      simp +decide only [s136_0, s136_1, s136_4, s136_5, s136_7, s136_10, s136_11, s136_12, s136_15, s136_16, s136_17, s136_20, s136_21, s136_23, s136_26, s136_27, s136_29, s136_32, s136_33, s136_34, s136_37, s136_38, s136_41, s136_42, s136_44, s136_47, s136_50, s136_51, s136_52, s136_53, s136_56, k49, gn, fs_b, q, M_no k49 k50 no_1, Bool.false_eq_true, mi_0, mg_0, mi_1, mg_1, mi_2, mg_2, mi_3, mg_3, mi_4, mg_4, mi_5, mg_5, mi_6, mg_6, mi_7, mg_7, mi_8, mg_8, mi_9, mg_9, mi_10, mg_10, mi_11, mg_11, mi_12, mg_12, mi_13, mg_13, mi_14, mg_14, mi_15, mg_15, mi_16, mg_16, mi_17, mg_17, mi_18, mg_18, mi_19, mg_19, mi_20, mg_20, mi_21, mg_21, mi_22, mg_22, mi_23, mg_23, mi_24, mg_24, mi_25, mg_25, mi_26, mg_26, mi_27, mg_27, mi_28, mg_28, mi_29, mg_29, mi_30, mg_30, mi_31, mg_31, mi_32, mg_32, mq_0, mq_1, mq_2, mq_3, mq_4, mq_20, mq_21, mq_22, mq_23, mq_24, mq_27, mq_28, mq_29, mq_31, mq_32, mrc, ud_s, ud_n, ud_u, up_n, ↓reduceIte, kl_i, kl_r, kl_n, kl_a, kl_l, up_s, up_up, is_0, is_s, gv_0, gv_s, pv_o, rc_o, okI_i, okI_x, okS_i, okB_x, gi_i, pi_i, okL_l, gl_l, pl_l, okA_2, okA_3, ga_a, arr_0, arr_1, arr_10, arr_11, len_a, sw_0, sw_i, sw_r, sw_l, fit_i, fit_z0, fit_z1, nz_0, nz_1, ni_K_s, ni_K_n, Nat.ble_eq, Nat.zero_le, Nat.zero_add, true_and, and_true, and_self, Bool.and_true, Bool.true_and, Bool.and_self, not_true_eq_false, not_false_eq_true, Int32.reduceLE, Int32.reduceLT, Int32.reduceAdd, Int32.reduceSub, Int32.reduceToNatClampNeg, Nat.reduceLeDiff, Nat.reduceAdd, Nat.reduceEqDiff, Nat.reduceSub, List.set_cons_zero, List.set_cons_succ, false_and, and_false]
  · have q2 : (7 : Int32) ≤ x := q
    have q1 : ¬ x < 0 := fun e => absurd (Int32.lt_of_le_of_lt q2 e) (by decide)
    have q3 : 6 < x := Int32.lt_of_lt_of_le (by decide) q2
    have q4 : ¬ x < 7 := Int32.not_lt.mpr q2
    have q5 : ¬ x ≤ 6 := Int32.not_le.mpr q3
    refine C_r hE X M P (r := .int (-1)) (c := -1) (fun d Q => ?_) (fun h' N d Q => ?_)
    · simp +decide only [s74_0, s74_1, s74_4, s74_5, s74_7, s74_10, s74_11, s74_12, s74_15, s74_16, s74_17, s74_20, s74_21, s74_23, s74_26, s74_27, s74_29, s74_32, s74_33, s74_34, s74_37, s74_40, s74_43, s74_44, s74_46, s74_49, s74_50, s74_51, s74_54, s74_55, s74_56, s74_59, x0, t2, q1, q2, q3, q4, q5, X_refuse x0 x32 no_1, ↓reduceIte, kl_i, kl_r, kl_n, kl_a, kl_l, up_s, up_up, is_0, is_s, gv_0, gv_s, pv_o, rc_o, okI_i, okI_x, okS_i, okB_x, gi_i, pi_i, okL_l, gl_l, pl_l, okA_2, okA_3, ga_a, arr_0, arr_1, arr_10, arr_11, len_a, sw_0, sw_i, sw_r, sw_l, fit_i, fit_z0, fit_z1, nz_0, nz_1, ni_K_s, ni_K_n, Nat.ble_eq, Nat.zero_le, Nat.zero_add, true_and, and_true, and_self, Bool.and_true, Bool.true_and, Bool.and_self, not_true_eq_false, not_false_eq_true, Int32.reduceLE, Int32.reduceLT, Int32.reduceAdd, Int32.reduceSub, Int32.reduceToNatClampNeg, Nat.reduceLeDiff, Nat.reduceAdd, Nat.reduceEqDiff, Nat.reduceSub, List.set_cons_zero, List.set_cons_succ, false_and, and_false]
    · obtain ⟨⟨k49, k51, k52, k53, k54, k55, k56, -, -, -, -⟩, k50, k57, k58, k59, k60, k61, k62, k63, k64, k65, k66, k67⟩ := N
      rw [r0] at k56
      simp +decide only [s136_0, s136_1, s136_4, s136_5, s136_7, s136_10, s136_11, s136_12, s136_15, s136_16, s136_17, s136_20, s136_21, s136_23, s136_26, s136_27, s136_29, s136_32, s136_33, s136_34, s136_37, s136_38, s136_41, s136_42, s136_44, s136_47, s136_50, s136_51, s136_52, s136_53, s136_56, k49, gn, fs_b, q1, q2, q3, q4, q5, M_no k49 k50 no_1, Bool.false_eq_true, mi_0, mg_0, mi_1, mg_1, mi_2, mg_2, mi_3, mg_3, mi_4, mg_4, mi_5, mg_5, mi_6, mg_6, mi_7, mg_7, mi_8, mg_8, mi_9, mg_9, mi_10, mg_10, mi_11, mg_11, mi_12, mg_12, mi_13, mg_13, mi_14, mg_14, mi_15, mg_15, mi_16, mg_16, mi_17, mg_17, mi_18, mg_18, mi_19, mg_19, mi_20, mg_20, mi_21, mg_21, mi_22, mg_22, mi_23, mg_23, mi_24, mg_24, mi_25, mg_25, mi_26, mg_26, mi_27, mg_27, mi_28, mg_28, mi_29, mg_29, mi_30, mg_30, mi_31, mg_31, mi_32, mg_32, mq_0, mq_1, mq_2, mq_3, mq_4, mq_20, mq_21, mq_22, mq_23, mq_24, mq_27, mq_28, mq_29, mq_31, mq_32, mrc, ud_s, ud_n, ud_u, up_n, ↓reduceIte, kl_i, kl_r, kl_n, kl_a, kl_l, up_s, up_up, is_0, is_s, gv_0, gv_s, pv_o, rc_o, okI_i, okI_x, okS_i, okB_x, gi_i, pi_i, okL_l, gl_l, pl_l, okA_2, okA_3, ga_a, arr_0, arr_1, arr_10, arr_11, len_a, sw_0, sw_i, sw_r, sw_l, fit_i, fit_z0, fit_z1, nz_0, nz_1, ni_K_s, ni_K_n, Nat.ble_eq, Nat.zero_le, Nat.zero_add, true_and, and_true, and_self, Bool.and_true, Bool.true_and, Bool.and_self, not_true_eq_false, not_false_eq_true, Int32.reduceLE, Int32.reduceLT, Int32.reduceAdd, Int32.reduceSub, Int32.reduceToNatClampNeg, Nat.reduceLeDiff, Nat.reduceAdd, Nat.reduceEqDiff, Nat.reduceSub, List.set_cons_zero, List.set_cons_succ, false_and, and_false]
  · have a1 : ¬ nI a < 0 := nI_pos (by omega)
    have a2 : ¬ (7 : Int32) ≤ nI a := nI_ge (a := a) (b := 7) ha (by decide)
    have a3 : ¬ 6 < nI a := nI_nlt (a := 6) (b := a) (by omega) (by decide)
    have a4 : nI a < 7 := nI_lt (a := a) (b := 7) ha (by decide)
    have a5 : nI a ≤ 6 := Int32.not_lt.mp a3
    rcases pk_ix y (n := 10) (by decide) with q | q | ⟨b, hb, rfl⟩
    · refine C_r hE X M P (r := .int (-6)) (c := -6) (fun d Q => ?_) (fun h' N d Q => ?_)
      · simp +decide only [s74_0, s74_1, s74_4, s74_5, s74_7, s74_10, s74_11, s74_12, s74_15, s74_16, s74_17, s74_20, s74_21, s74_23, s74_26, s74_27, s74_29, s74_32, s74_33, s74_34, s74_37, s74_40, s74_43, s74_44, s74_46, s74_49, s74_50, s74_51, s74_54, s74_55, s74_56, s74_59, x0, t2, a1, a2, a3, a4, a5, q, X_refuse x0 x32 no_6, ↓reduceIte, kl_i, kl_r, kl_n, kl_a, kl_l, up_s, up_up, is_0, is_s, gv_0, gv_s, pv_o, rc_o, okI_i, okI_x, okS_i, okB_x, gi_i, pi_i, okL_l, gl_l, pl_l, okA_2, okA_3, ga_a, arr_0, arr_1, arr_10, arr_11, len_a, sw_0, sw_i, sw_r, sw_l, fit_i, fit_z0, fit_z1, nz_0, nz_1, ni_K_s, ni_K_n, Nat.ble_eq, Nat.zero_le, Nat.zero_add, true_and, and_true, and_self, Bool.and_true, Bool.true_and, Bool.and_self, not_true_eq_false, not_false_eq_true, Int32.reduceLE, Int32.reduceLT, Int32.reduceAdd, Int32.reduceSub, Int32.reduceToNatClampNeg, Nat.reduceLeDiff, Nat.reduceAdd, Nat.reduceEqDiff, Nat.reduceSub, List.set_cons_zero, List.set_cons_succ, false_and, and_false]
      · obtain ⟨⟨k49, k51, k52, k53, k54, k55, k56, -, -, -, -⟩, k50, k57, k58, k59, k60, k61, k62, k63, k64, k65, k66, k67⟩ := N
        rw [r0] at k56
        simp +decide only [s136_0, s136_1, s136_4, s136_5, s136_7, s136_10, s136_11, s136_12, s136_15, s136_16, s136_17, s136_20, s136_21, s136_23, s136_26, s136_27, s136_29, s136_32, s136_33, s136_34, s136_37, s136_38, s136_41, s136_42, s136_44, s136_47, s136_50, s136_51, s136_52, s136_53, s136_56, k49, gn, fs_b, a1, a2, a3, a4, a5, q, M_no k49 k50 no_6, Bool.false_eq_true, mi_0, mg_0, mi_1, mg_1, mi_2, mg_2, mi_3, mg_3, mi_4, mg_4, mi_5, mg_5, mi_6, mg_6, mi_7, mg_7, mi_8, mg_8, mi_9, mg_9, mi_10, mg_10, mi_11, mg_11, mi_12, mg_12, mi_13, mg_13, mi_14, mg_14, mi_15, mg_15, mi_16, mg_16, mi_17, mg_17, mi_18, mg_18, mi_19, mg_19, mi_20, mg_20, mi_21, mg_21, mi_22, mg_22, mi_23, mg_23, mi_24, mg_24, mi_25, mg_25, mi_26, mg_26, mi_27, mg_27, mi_28, mg_28, mi_29, mg_29, mi_30, mg_30, mi_31, mg_31, mi_32, mg_32, mq_0, mq_1, mq_2, mq_3, mq_4, mq_20, mq_21, mq_22, mq_23, mq_24, mq_27, mq_28, mq_29, mq_31, mq_32, mrc, ud_s, ud_n, ud_u, up_n, ↓reduceIte, kl_i, kl_r, kl_n, kl_a, kl_l, up_s, up_up, is_0, is_s, gv_0, gv_s, pv_o, rc_o, okI_i, okI_x, okS_i, okB_x, gi_i, pi_i, okL_l, gl_l, pl_l, okA_2, okA_3, ga_a, arr_0, arr_1, arr_10, arr_11, len_a, sw_0, sw_i, sw_r, sw_l, fit_i, fit_z0, fit_z1, nz_0, nz_1, ni_K_s, ni_K_n, Nat.ble_eq, Nat.zero_le, Nat.zero_add, true_and, and_true, and_self, Bool.and_true, Bool.true_and, Bool.and_self, not_true_eq_false, not_false_eq_true, Int32.reduceLE, Int32.reduceLT, Int32.reduceAdd, Int32.reduceSub, Int32.reduceToNatClampNeg, Nat.reduceLeDiff, Nat.reduceAdd, Nat.reduceEqDiff, Nat.reduceSub, List.set_cons_zero, List.set_cons_succ, false_and, and_false]
    · have q2 : (10 : Int32) ≤ y := q
      have q1 : ¬ y < 0 := fun e => absurd (Int32.lt_of_le_of_lt q2 e) (by decide)
      have q3 : 9 < y := Int32.lt_of_lt_of_le (by decide) q2
      have q4 : ¬ y < 10 := Int32.not_lt.mpr q2
      have q5 : ¬ y ≤ 9 := Int32.not_le.mpr q3
      refine C_r hE X M P (r := .int (-6)) (c := -6) (fun d Q => ?_) (fun h' N d Q => ?_)
      · simp +decide only [s74_0, s74_1, s74_4, s74_5, s74_7, s74_10, s74_11, s74_12, s74_15, s74_16, s74_17, s74_20, s74_21, s74_23, s74_26, s74_27, s74_29, s74_32, s74_33, s74_34, s74_37, s74_40, s74_43, s74_44, s74_46, s74_49, s74_50, s74_51, s74_54, s74_55, s74_56, s74_59, x0, t2, a1, a2, a3, a4, a5, q1, q2, q3, q4, q5, X_refuse x0 x32 no_6, ↓reduceIte, kl_i, kl_r, kl_n, kl_a, kl_l, up_s, up_up, is_0, is_s, gv_0, gv_s, pv_o, rc_o, okI_i, okI_x, okS_i, okB_x, gi_i, pi_i, okL_l, gl_l, pl_l, okA_2, okA_3, ga_a, arr_0, arr_1, arr_10, arr_11, len_a, sw_0, sw_i, sw_r, sw_l, fit_i, fit_z0, fit_z1, nz_0, nz_1, ni_K_s, ni_K_n, Nat.ble_eq, Nat.zero_le, Nat.zero_add, true_and, and_true, and_self, Bool.and_true, Bool.true_and, Bool.and_self, not_true_eq_false, not_false_eq_true, Int32.reduceLE, Int32.reduceLT, Int32.reduceAdd, Int32.reduceSub, Int32.reduceToNatClampNeg, Nat.reduceLeDiff, Nat.reduceAdd, Nat.reduceEqDiff, Nat.reduceSub, List.set_cons_zero, List.set_cons_succ, false_and, and_false]
      · obtain ⟨⟨k49, k51, k52, k53, k54, k55, k56, -, -, -, -⟩, k50, k57, k58, k59, k60, k61, k62, k63, k64, k65, k66, k67⟩ := N
        rw [r0] at k56
        simp +decide only [s136_0, s136_1, s136_4, s136_5, s136_7, s136_10, s136_11, s136_12, s136_15, s136_16, s136_17, s136_20, s136_21, s136_23, s136_26, s136_27, s136_29, s136_32, s136_33, s136_34, s136_37, s136_38, s136_41, s136_42, s136_44, s136_47, s136_50, s136_51, s136_52, s136_53, s136_56, k49, gn, fs_b, a1, a2, a3, a4, a5, q1, q2, q3, q4, q5, M_no k49 k50 no_6, Bool.false_eq_true, mi_0, mg_0, mi_1, mg_1, mi_2, mg_2, mi_3, mg_3, mi_4, mg_4, mi_5, mg_5, mi_6, mg_6, mi_7, mg_7, mi_8, mg_8, mi_9, mg_9, mi_10, mg_10, mi_11, mg_11, mi_12, mg_12, mi_13, mg_13, mi_14, mg_14, mi_15, mg_15, mi_16, mg_16, mi_17, mg_17, mi_18, mg_18, mi_19, mg_19, mi_20, mg_20, mi_21, mg_21, mi_22, mg_22, mi_23, mg_23, mi_24, mg_24, mi_25, mg_25, mi_26, mg_26, mi_27, mg_27, mi_28, mg_28, mi_29, mg_29, mi_30, mg_30, mi_31, mg_31, mi_32, mg_32, mq_0, mq_1, mq_2, mq_3, mq_4, mq_20, mq_21, mq_22, mq_23, mq_24, mq_27, mq_28, mq_29, mq_31, mq_32, mrc, ud_s, ud_n, ud_u, up_n, ↓reduceIte, kl_i, kl_r, kl_n, kl_a, kl_l, up_s, up_up, is_0, is_s, gv_0, gv_s, pv_o, rc_o, okI_i, okI_x, okS_i, okB_x, gi_i, pi_i, okL_l, gl_l, pl_l, okA_2, okA_3, ga_a, arr_0, arr_1, arr_10, arr_11, len_a, sw_0, sw_i, sw_r, sw_l, fit_i, fit_z0, fit_z1, nz_0, nz_1, ni_K_s, ni_K_n, Nat.ble_eq, Nat.zero_le, Nat.zero_add, true_and, and_true, and_self, Bool.and_true, Bool.true_and, Bool.and_self, not_true_eq_false, not_false_eq_true, Int32.reduceLE, Int32.reduceLT, Int32.reduceAdd, Int32.reduceSub, Int32.reduceToNatClampNeg, Nat.reduceLeDiff, Nat.reduceAdd, Nat.reduceEqDiff, Nat.reduceSub, List.set_cons_zero, List.set_cons_succ, false_and, and_false]
    · have b1 : ¬ nI b < 0 := nI_pos (by omega)
      have b2 : ¬ (10 : Int32) ≤ nI b := nI_ge (a := b) (b := 10) hb (by decide)
      have b3 : ¬ 9 < nI b := nI_nlt (a := 9) (b := b) (by omega) (by decide)
      have b4 : nI b < 10 := nI_lt (a := b) (b := 10) hb (by decide)
      have b5 : nI b ≤ 9 := Int32.not_lt.mp b3
      by_cases q4 : n = 4
      · have h4 : decide (nI n < 4) = false := by rw [q4]; decide
        have e4 : nI n = 4 := by rw [q4]; rfl
        refine C_r hE X M P (r := .int (-7)) (c := -7) (fun d Q => ?_) (fun h' N d Q => ?_)
        · simp +decide only [s74_0, s74_1, s74_4, s74_5, s74_7, s74_10, s74_11, s74_12, s74_15, s74_16, s74_17, s74_20, s74_21, s74_23, s74_26, s74_27, s74_29, s74_32, s74_33, s74_34, s74_37, s74_40, s74_43, s74_44, s74_46, s74_49, s74_50, s74_51, s74_54, s74_55, s74_56, s74_59, x0, t2, a1, a2, a3, a4, a5, b1, b2, b3, b4, b5, X_hasRoom (t := 2) t2, h4, fs_b, X_refuse x0 x32 no_7, ↓reduceIte, kl_i, kl_r, kl_n, kl_a, kl_l, up_s, up_up, is_0, is_s, gv_0, gv_s, pv_o, rc_o, okI_i, okI_x, okS_i, okB_x, gi_i, pi_i, okL_l, gl_l, pl_l, okA_2, okA_3, ga_a, arr_0, arr_1, arr_10, arr_11, len_a, sw_0, sw_i, sw_r, sw_l, fit_i, fit_z0, fit_z1, nz_0, nz_1, ni_K_s, ni_K_n, Nat.ble_eq, Nat.zero_le, Nat.zero_add, true_and, and_true, and_self, Bool.and_true, Bool.true_and, Bool.and_self, not_true_eq_false, not_false_eq_true, Int32.reduceLE, Int32.reduceLT, Int32.reduceAdd, Int32.reduceSub, Int32.reduceToNatClampNeg, Nat.reduceLeDiff, Nat.reduceAdd, Nat.reduceEqDiff, Nat.reduceSub, List.set_cons_zero, List.set_cons_succ, false_and, and_false]
        · obtain ⟨⟨k49, k51, k52, k53, k54, k55, k56, -, -, -, -⟩, k50, k57, k58, k59, k60, k61, k62, k63, k64, k65, k66, k67⟩ := N
          rw [r0] at k56
          simp +decide only [s136_0, s136_1, s136_4, s136_5, s136_7, s136_10, s136_11, s136_12, s136_15, s136_16, s136_17, s136_20, s136_21, s136_23, s136_26, s136_27, s136_29, s136_32, s136_33, s136_34, s136_37, s136_38, s136_41, s136_42, s136_44, s136_47, s136_50, s136_51, s136_52, s136_53, s136_56, k49, gn, fs_b, a1, a2, a3, a4, a5, b1, b2, b3, b4, b5, e4, M_no k49 k50 no_7, Bool.false_eq_true, mi_0, mg_0, mi_1, mg_1, mi_2, mg_2, mi_3, mg_3, mi_4, mg_4, mi_5, mg_5, mi_6, mg_6, mi_7, mg_7, mi_8, mg_8, mi_9, mg_9, mi_10, mg_10, mi_11, mg_11, mi_12, mg_12, mi_13, mg_13, mi_14, mg_14, mi_15, mg_15, mi_16, mg_16, mi_17, mg_17, mi_18, mg_18, mi_19, mg_19, mi_20, mg_20, mi_21, mg_21, mi_22, mg_22, mi_23, mg_23, mi_24, mg_24, mi_25, mg_25, mi_26, mg_26, mi_27, mg_27, mi_28, mg_28, mi_29, mg_29, mi_30, mg_30, mi_31, mg_31, mi_32, mg_32, mq_0, mq_1, mq_2, mq_3, mq_4, mq_20, mq_21, mq_22, mq_23, mq_24, mq_27, mq_28, mq_29, mq_31, mq_32, mrc, ud_s, ud_n, ud_u, up_n, ↓reduceIte, kl_i, kl_r, kl_n, kl_a, kl_l, up_s, up_up, is_0, is_s, gv_0, gv_s, pv_o, rc_o, okI_i, okI_x, okS_i, okB_x, gi_i, pi_i, okL_l, gl_l, pl_l, okA_2, okA_3, ga_a, arr_0, arr_1, arr_10, arr_11, len_a, sw_0, sw_i, sw_r, sw_l, fit_i, fit_z0, fit_z1, nz_0, nz_1, ni_K_s, ni_K_n, Nat.ble_eq, Nat.zero_le, Nat.zero_add, true_and, and_true, and_self, Bool.and_true, Bool.true_and, Bool.and_self, not_true_eq_false, not_false_eq_true, Int32.reduceLE, Int32.reduceLT, Int32.reduceAdd, Int32.reduceSub, Int32.reduceToNatClampNeg, Nat.reduceLeDiff, Nat.reduceAdd, Nat.reduceEqDiff, Nat.reduceSub, List.set_cons_zero, List.set_cons_succ, false_and, and_false]
      · have n3 : n < 4 := by omega
        have h4 : decide (nI n < 4) = true := decide_eq_true (nI_lt (a := n) (b := 4) n3 (by decide))
        have e4 : ¬ nI n = 4 := fun e => q4 ((nI_eq (a := n) (b := 4) (by omega) (by decide)).mp e)
        have xa := fun (d : Nat) (Q : ni_Q) => X_add (t := 2) (d := d) (z := z) (Q := Q) (k := n) (x := nI a) (y := nI b) t2 t4 n3 (tH n n3)
        have tA := tab_a (t := 2) (x := nI a) (y := nI b) xT n3
        rw [u61] at tA
        simp only [Nat.reduceAdd] at xa tA
        generalize hh1 : ni_up (ni_up h (5 + n) (ni_O 1 [.int (nI n), .int (nI a), .int (nI b), .int 1, .int 0, .int 0])) 2 (ni_O 5 [.ref 3, .ref 4, .int (nI (n + 1)), .int (nI w), .int (u 6 2), .int (u 6 3)]) = h1 at xa tA
        have f1 : ∀ i, (i < 2 ∨ 8 < i) → h1 i = h i := fun i hi => by rw [← hh1, up_n (by omega), up_n (by omega)]
        have N := mtb_h (h' := h1) mT (fun i _ _ => f1 i (by omega))
        have ma := fun (d : Nat) (Q : ni_Q) => M_adds (d := d) (z := z) (Q := Q) (k := n) (x := nI a) (y := nI b) N.1 gn n3 N.2.1 N.2.2.1 N.2.2.2.1 N.2.2.2.2.1 N.2.2.2.2.2.1
        refine C_t hE X M P (r := .int (nI n)) (h1 := h1) (h2 := ni_up (ni_up (ni_up (ni_up (ni_up (ni_up h1 51 (ni_I 4 (upd (mu 1) n (nI a)))) 52 (ni_I 4 (upd (mu 2) n (nI b)))) 53 (ni_I 4 (upd (mu 3) n 1))) 54 (ni_I 4 (upd (mu 4) n 0))) 55 (ni_I 4 (upd (mu 5) n 0))) 49 (fs_mo (upd g 0 (nI (n + 1))))) (fun d Q => ?_) (fun i a b => f1 i a) (mind_h xM (fun i a b => f1 i (by omega))) tA (fun d Q => ?_) ?_ (mu' := fs_uh mu n (nI a) (nI b)) (g' := upd g 0 (nI (n + 1))) ?_ (ud_n (by decide)) (ud_n (by decide)) (ud_n (by decide)) (good_hand (good_J pG (show J ≤ J + 100 by omega)) n3 (kd_of a1 a5) (by omega)) (rel_uh pR (nI a) (nI b)) (Nat.le_succ _)
        · simp +decide only [s74_0, s74_1, s74_4, s74_5, s74_7, s74_10, s74_11, s74_12, s74_15, s74_16, s74_17, s74_20, s74_21, s74_23, s74_26, s74_27, s74_29, s74_32, s74_33, s74_34, s74_37, s74_40, s74_43, s74_44, s74_46, s74_49, s74_50, s74_51, s74_54, s74_55, s74_56, s74_59, x0, t2, a1, a2, a3, a4, a5, b1, b2, b3, b4, b5, X_hasRoom (t := 2) t2, h4, fs_b, xa, ↓reduceIte, kl_i, kl_r, kl_n, kl_a, kl_l, up_s, up_up, is_0, is_s, gv_0, gv_s, pv_o, rc_o, okI_i, okI_x, okS_i, okB_x, gi_i, pi_i, okL_l, gl_l, pl_l, okA_2, okA_3, ga_a, arr_0, arr_1, arr_10, arr_11, len_a, sw_0, sw_i, sw_r, sw_l, fit_i, fit_z0, fit_z1, nz_0, nz_1, ni_K_s, ni_K_n, Nat.ble_eq, Nat.zero_le, Nat.zero_add, true_and, and_true, and_self, Bool.and_true, Bool.true_and, Bool.and_self, not_true_eq_false, not_false_eq_true, Int32.reduceLE, Int32.reduceLT, Int32.reduceAdd, Int32.reduceSub, Int32.reduceToNatClampNeg, Nat.reduceLeDiff, Nat.reduceAdd, Nat.reduceEqDiff, Nat.reduceSub, List.set_cons_zero, List.set_cons_succ, false_and, and_false]
        · simp +decide only [s136_0, s136_1, s136_4, s136_5, s136_7, s136_10, s136_11, s136_12, s136_15, s136_16, s136_17, s136_20, s136_21, s136_23, s136_26, s136_27, s136_29, s136_32, s136_33, s136_34, s136_37, s136_38, s136_41, s136_42, s136_44, s136_47, s136_50, s136_51, s136_52, s136_53, s136_56, N.1, gn, a1, a2, a3, a4, a5, b1, b2, b3, b4, b5, e4, ma, mi_0, mg_0, mi_1, mg_1, mi_2, mg_2, mi_3, mg_3, mi_4, mg_4, mi_5, mg_5, mi_6, mg_6, mi_7, mg_7, mi_8, mg_8, mi_9, mg_9, mi_10, mg_10, mi_11, mg_11, mi_12, mg_12, mi_13, mg_13, mi_14, mg_14, mi_15, mg_15, mi_16, mg_16, mi_17, mg_17, mi_18, mg_18, mi_19, mg_19, mi_20, mg_20, mi_21, mg_21, mi_22, mg_22, mi_23, mg_23, mi_24, mg_24, mi_25, mg_25, mi_26, mg_26, mi_27, mg_27, mi_28, mg_28, mi_29, mg_29, mi_30, mg_30, mi_31, mg_31, mi_32, mg_32, mq_0, mq_1, mq_2, mq_3, mq_4, mq_20, mq_21, mq_22, mq_23, mq_24, mq_27, mq_28, mq_29, mq_31, mq_32, mrc, ud_s, ud_n, ud_u, up_n, ↓reduceIte, kl_i, kl_r, kl_n, kl_a, kl_l, up_s, up_up, is_0, is_s, gv_0, gv_s, pv_o, rc_o, okI_i, okI_x, okS_i, okB_x, gi_i, pi_i, okL_l, gl_l, pl_l, okA_2, okA_3, ga_a, arr_0, arr_1, arr_10, arr_11, len_a, sw_0, sw_i, sw_r, sw_l, fit_i, fit_z0, fit_z1, nz_0, nz_1, ni_K_s, ni_K_n, Nat.ble_eq, Nat.zero_le, Nat.zero_add, true_and, and_true, and_self, Bool.and_true, Bool.true_and, Bool.and_self, not_true_eq_false, not_false_eq_true, Int32.reduceLE, Int32.reduceLT, Int32.reduceAdd, Int32.reduceSub, Int32.reduceToNatClampNeg, Nat.reduceLeDiff, Nat.reduceAdd, Nat.reduceEqDiff, Nat.reduceSub, List.set_cons_zero, List.set_cons_succ, false_and, and_false]
        · intro i c1 c2
          rw [up_n c1, up_n (by omega), up_n (by omega), up_n (by omega), up_n (by omega), up_n (by omega)]
        · obtain ⟨c0, c1, c2, c3, c4, c5, c6, d0, d1, d2, d3⟩ := N
          unfold fs_uh
          refine ⟨up_s, ?_, ?_, ?_, ?_, ?_, ?_, by rw [ud_s, fu_s, ud_s], by rw [ud_n (by decide), fu_s, ud_n (by decide)]; exact d1, by rw [ud_n (by decide), fu_s, ud_n (by decide)]; exact d2, by rw [ud_n (by decide), fu_s, ud_n (by decide)]; exact d3⟩
          all_goals simp +decide only [up_s, up_n, fu_s, fu_n]
          exact c6
theorem C_stone (x y : Int32) : fs_Inv J h → fs_C J z 76 139 [.ref 0, .int x, .int y, .retAddr 0] [.ref 49, .int x, .int y, .retAddr 0] h := by
  intro hI
  obtain ⟨hE, n, w, im, lf, u, v, mu, ran, tr, rf, hl, hd, so, szf, sh, kp, g, sz, ee, ce, X, M, P⟩ := hI
  have X' := X
  have M' := M
  have P' := P
  obtain ⟨x0, x1, xT, xV, xD, xM, x29, x30, x31, x32, xS, xL⟩ := X'
  obtain ⟨mT, m50, m57, m58, m59, m60, m61, m62, m63, m64, m65, m66, m67⟩ := M'
  have mT' := mT
  obtain ⟨m49, m51, m52, m53, m54, m55, m56, g0, g1, g2, g3⟩ := mT'
  have xT' := xT
  obtain ⟨t2, t3, t4, tH⟩ := xT'
  obtain ⟨pG, pR, p4, p31, p32, pr, pI, pS⟩ := P'
  have pG' := pG
  obtain ⟨u60, n4, u61, wn, cel, cel5, cdis, hnd⟩ := pG'
  have pR' := pR
  obtain ⟨r6, r0, rH⟩ := pR'
  have gn : g 0 = nI n := (g0.trans (r6 0 (by decide))).trans u60
  have gw : g 1 = nI w := (g1.trans (r6 1 (by decide))).trans u61
  have gf : g 2 = u 6 2 := g2.trans (r6 2 (by decide))
  have gs : g 3 = u 6 3 := g3.trans (r6 3 (by decide))
  rw [u60, u61] at t2
  rw [r0] at m56
  simp only [Nat.reduceAdd] at t2 t3 t4
  rcases pk_ix x (n := 5) (by decide) with q | q | ⟨k, hk, rfl⟩
  · have hx : fs_isSo x = false := by simp [fs_isSo, q]
    refine C_r hE X M P (r := .int (-11)) (c := -1) (fun d Q => ?_) (fun h' N d Q => ?_)
    · simp +decide only [s76_0, s76_1, s76_4, s76_5, s76_6, s76_9, s76_10, s76_11, s76_14, s76_15, s76_16, s76_17, s76_20, s76_21, s76_24, s76_25, s76_26, s76_29, s76_32, s76_33, s76_35, s76_38, s76_39, s76_40, s76_43, s76_46, s76_47, s76_48, s76_49, s76_50, s76_53, s76_56, s76_57, s76_58, s76_59, s76_60, x0, t2, q, X_refuseA x0 x32 no_1, ↓reduceIte, kl_i, kl_r, kl_n, kl_a, kl_l, up_s, up_up, is_0, is_s, gv_0, gv_s, pv_o, rc_o, okI_i, okI_x, okS_i, okB_x, gi_i, pi_i, okL_l, gl_l, pl_l, okA_2, okA_3, ga_a, arr_0, arr_1, arr_10, arr_11, len_a, sw_0, sw_i, sw_r, sw_l, fit_i, fit_z0, fit_z1, nz_0, nz_1, ni_K_s, ni_K_n, Nat.ble_eq, Nat.zero_le, Nat.zero_add, true_and, and_true, and_self, Bool.and_true, Bool.true_and, Bool.and_self, not_true_eq_false, not_false_eq_true, Int32.reduceLE, Int32.reduceLT, Int32.reduceAdd, Int32.reduceSub, Int32.reduceToNatClampNeg, Nat.reduceLeDiff, Nat.reduceAdd, Nat.reduceEqDiff, Nat.reduceSub, List.set_cons_zero, List.set_cons_succ, false_and, and_false]
    · obtain ⟨⟨k49, k51, k52, k53, k54, k55, k56, -, -, -, -⟩, k50, k57, k58, k59, k60, k61, k62, k63, k64, k65, k66, k67⟩ := N
      rw [r0] at k56
      simp +decide only [s139_0, s139_1, s139_2, s139_5, s139_8, s139_9, s139_10, s139_13, s139_14, s139_15, s139_16, s139_19, s139_20, s139_22, s139_25, s139_26, s139_27, s139_30, s139_31, s139_32, s139_33, s139_36, s139_39, s139_40, s139_42, s139_45, s139_46, s139_47, s139_50, s139_51, s139_52, s139_53, s139_54, s139_57, s139_58, s139_59, s139_60, s139_61, k49, gn, fs_b, M_isStone, hx, M_noTen k49 k50 no_1, Bool.false_eq_true, mi_0, mg_0, mi_1, mg_1, mi_2, mg_2, mi_3, mg_3, mi_4, mg_4, mi_5, mg_5, mi_6, mg_6, mi_7, mg_7, mi_8, mg_8, mi_9, mg_9, mi_10, mg_10, mi_11, mg_11, mi_12, mg_12, mi_13, mg_13, mi_14, mg_14, mi_15, mg_15, mi_16, mg_16, mi_17, mg_17, mi_18, mg_18, mi_19, mg_19, mi_20, mg_20, mi_21, mg_21, mi_22, mg_22, mi_23, mg_23, mi_24, mg_24, mi_25, mg_25, mi_26, mg_26, mi_27, mg_27, mi_28, mg_28, mi_29, mg_29, mi_30, mg_30, mi_31, mg_31, mi_32, mg_32, mq_0, mq_1, mq_2, mq_3, mq_4, mq_20, mq_21, mq_22, mq_23, mq_24, mq_27, mq_28, mq_29, mq_31, mq_32, mrc, ud_s, ud_n, ud_u, up_n, ↓reduceIte, kl_i, kl_r, kl_n, kl_a, kl_l, up_s, up_up, is_0, is_s, gv_0, gv_s, pv_o, rc_o, okI_i, okI_x, okS_i, okB_x, gi_i, pi_i, okL_l, gl_l, pl_l, okA_2, okA_3, ga_a, arr_0, arr_1, arr_10, arr_11, len_a, sw_0, sw_i, sw_r, sw_l, fit_i, fit_z0, fit_z1, nz_0, nz_1, ni_K_s, ni_K_n, Nat.ble_eq, Nat.zero_le, Nat.zero_add, true_and, and_true, and_self, Bool.and_true, Bool.true_and, Bool.and_self, not_true_eq_false, not_false_eq_true, Int32.reduceLE, Int32.reduceLT, Int32.reduceAdd, Int32.reduceSub, Int32.reduceToNatClampNeg, Nat.reduceLeDiff, Nat.reduceAdd, Nat.reduceEqDiff, Nat.reduceSub, List.set_cons_zero, List.set_cons_succ, false_and, and_false]
  · have q2 : (5 : Int32) ≤ x := q
    have q1 : ¬ x < 0 := fun e => absurd (Int32.lt_of_le_of_lt q2 e) (by decide)
    have q3 : 4 < x := Int32.lt_of_lt_of_le (by decide) q2
    have q4 : ¬ x < 5 := Int32.not_lt.mpr q2
    have q5 : ¬ x ≤ 4 := Int32.not_le.mpr q3
    have hx : fs_isSo x = false := by simp [fs_isSo, q2]
    refine C_r hE X M P (r := .int (-11)) (c := -1) (fun d Q => ?_) (fun h' N d Q => ?_)
    · simp +decide only [s76_0, s76_1, s76_4, s76_5, s76_6, s76_9, s76_10, s76_11, s76_14, s76_15, s76_16, s76_17, s76_20, s76_21, s76_24, s76_25, s76_26, s76_29, s76_32, s76_33, s76_35, s76_38, s76_39, s76_40, s76_43, s76_46, s76_47, s76_48, s76_49, s76_50, s76_53, s76_56, s76_57, s76_58, s76_59, s76_60, x0, t2, q1, q2, q3, q4, q5, X_refuseA x0 x32 no_1, ↓reduceIte, kl_i, kl_r, kl_n, kl_a, kl_l, up_s, up_up, is_0, is_s, gv_0, gv_s, pv_o, rc_o, okI_i, okI_x, okS_i, okB_x, gi_i, pi_i, okL_l, gl_l, pl_l, okA_2, okA_3, ga_a, arr_0, arr_1, arr_10, arr_11, len_a, sw_0, sw_i, sw_r, sw_l, fit_i, fit_z0, fit_z1, nz_0, nz_1, ni_K_s, ni_K_n, Nat.ble_eq, Nat.zero_le, Nat.zero_add, true_and, and_true, and_self, Bool.and_true, Bool.true_and, Bool.and_self, not_true_eq_false, not_false_eq_true, Int32.reduceLE, Int32.reduceLT, Int32.reduceAdd, Int32.reduceSub, Int32.reduceToNatClampNeg, Nat.reduceLeDiff, Nat.reduceAdd, Nat.reduceEqDiff, Nat.reduceSub, List.set_cons_zero, List.set_cons_succ, false_and, and_false]
    · obtain ⟨⟨k49, k51, k52, k53, k54, k55, k56, -, -, -, -⟩, k50, k57, k58, k59, k60, k61, k62, k63, k64, k65, k66, k67⟩ := N
      rw [r0] at k56
      simp +decide only [s139_0, s139_1, s139_2, s139_5, s139_8, s139_9, s139_10, s139_13, s139_14, s139_15, s139_16, s139_19, s139_20, s139_22, s139_25, s139_26, s139_27, s139_30, s139_31, s139_32, s139_33, s139_36, s139_39, s139_40, s139_42, s139_45, s139_46, s139_47, s139_50, s139_51, s139_52, s139_53, s139_54, s139_57, s139_58, s139_59, s139_60, s139_61, k49, gn, fs_b, M_isStone, hx, M_noTen k49 k50 no_1, Bool.false_eq_true, mi_0, mg_0, mi_1, mg_1, mi_2, mg_2, mi_3, mg_3, mi_4, mg_4, mi_5, mg_5, mi_6, mg_6, mi_7, mg_7, mi_8, mg_8, mi_9, mg_9, mi_10, mg_10, mi_11, mg_11, mi_12, mg_12, mi_13, mg_13, mi_14, mg_14, mi_15, mg_15, mi_16, mg_16, mi_17, mg_17, mi_18, mg_18, mi_19, mg_19, mi_20, mg_20, mi_21, mg_21, mi_22, mg_22, mi_23, mg_23, mi_24, mg_24, mi_25, mg_25, mi_26, mg_26, mi_27, mg_27, mi_28, mg_28, mi_29, mg_29, mi_30, mg_30, mi_31, mg_31, mi_32, mg_32, mq_0, mq_1, mq_2, mq_3, mq_4, mq_20, mq_21, mq_22, mq_23, mq_24, mq_27, mq_28, mq_29, mq_31, mq_32, mrc, ud_s, ud_n, ud_u, up_n, ↓reduceIte, kl_i, kl_r, kl_n, kl_a, kl_l, up_s, up_up, is_0, is_s, gv_0, gv_s, pv_o, rc_o, okI_i, okI_x, okS_i, okB_x, gi_i, pi_i, okL_l, gl_l, pl_l, okA_2, okA_3, ga_a, arr_0, arr_1, arr_10, arr_11, len_a, sw_0, sw_i, sw_r, sw_l, fit_i, fit_z0, fit_z1, nz_0, nz_1, ni_K_s, ni_K_n, Nat.ble_eq, Nat.zero_le, Nat.zero_add, true_and, and_true, and_self, Bool.and_true, Bool.true_and, Bool.and_self, not_true_eq_false, not_false_eq_true, Int32.reduceLE, Int32.reduceLT, Int32.reduceAdd, Int32.reduceSub, Int32.reduceToNatClampNeg, Nat.reduceLeDiff, Nat.reduceAdd, Nat.reduceEqDiff, Nat.reduceSub, List.set_cons_zero, List.set_cons_succ, false_and, and_false]
  · have k1 : ¬ nI k < 0 := nI_pos (by omega)
    have k2 : ¬ (5 : Int32) ≤ nI k := nI_ge (a := k) (b := 5) hk (by decide)
    have k3 : nI k < 5 := nI_lt (a := k) (b := 5) hk (by decide)
    have hx : fs_isSo (nI k) = true := by simp [fs_isSo, k1, k2]
    have ok : ∀ (y' : Int32), (y' = -1 ∨ fs_ce y') → (∀ j, j < 5 → j ≠ k → u 0 j = y' → y' = -1) → (∀ (d : Nat) (Q : ni_Q), ni_T (d + 40) 76 0 [.ref 0, .int (nI k), .int y', .retAddr 0] [] z h Q = Q (some (.int (u 0 k))) z (ni_up h 3 (ni_I 5 (upd (u 0) k y')))) → (∀ (h' : ni_H), fs_mtb mu g h' → ∀ (d : Nat) (Q : ni_Q), ni_T (d + 40) 139 0 [.ref 49, .int (nI k), .int y', .retAddr 0] [] z h' Q = Q (some (.int (u 0 k))) z (ni_up h' 56 (ni_I 5 (upd (mu 0) k y')))) → fs_C J z 76 139 [.ref 0, .int (nI k), .int y', .retAddr 0] [.ref 49, .int (nI k), .int y', .retAddr 0] h := by
      intro y' c1 c2 e1 e2
      have N := mtb_h (h' := ni_up h 3 (ni_I 5 (upd (u 0) k y'))) mT (fun i _ _ => up_n (by omega))
      exact C_t hE X M P e1 (fun i a b => up_n (by omega)) (mind_h xM (fun i a b => up_n (by omega))) (tab_c (t := 2) xT k y') (e2 _ N) (fun i a b => up_n (by omega)) (mtb_0 N k y') rfl rfl rfl (good_cell (good_J pG (show J ≤ J + 100 by omega)) hk c1 c2) (rel_u pR 0 k y') (Nat.le_refl _)
    by_cases y1 : y = -1
    · subst y1
      refine ok (-1) (Or.inl rfl) (fun _ _ _ _ => rfl) (fun d Q => ?_) (fun h' N d Q => ?_)
      · simp +decide only [s76_0, s76_1, s76_4, s76_5, s76_6, s76_9, s76_10, s76_11, s76_14, s76_15, s76_16, s76_17, s76_20, s76_21, s76_24, s76_25, s76_26, s76_29, s76_32, s76_33, s76_35, s76_38, s76_39, s76_40, s76_43, s76_46, s76_47, s76_48, s76_49, s76_50, s76_53, s76_56, s76_57, s76_58, s76_59, s76_60, x0, t2, t3, k1, k3, in_n (k := k) (n := 5) hk (by decide), nI_clamp (n := k) (by omega), ↓reduceIte, kl_i, kl_r, kl_n, kl_a, kl_l, up_s, up_up, is_0, is_s, gv_0, gv_s, pv_o, rc_o, okI_i, okI_x, okS_i, okB_x, gi_i, pi_i, okL_l, gl_l, pl_l, okA_2, okA_3, ga_a, arr_0, arr_1, arr_10, arr_11, len_a, sw_0, sw_i, sw_r, sw_l, fit_i, fit_z0, fit_z1, nz_0, nz_1, ni_K_s, ni_K_n, Nat.ble_eq, Nat.zero_le, Nat.zero_add, true_and, and_true, and_self, Bool.and_true, Bool.true_and, Bool.and_self, not_true_eq_false, not_false_eq_true, Int32.reduceLE, Int32.reduceLT, Int32.reduceAdd, Int32.reduceSub, Int32.reduceToNatClampNeg, Nat.reduceLeDiff, Nat.reduceAdd, Nat.reduceEqDiff, Nat.reduceSub, List.set_cons_zero, List.set_cons_succ, false_and, and_false]
      · have N6 := N.2.2.2.2.2.2.1
        simp +decide only [s139_0, s139_1, s139_2, s139_5, s139_8, s139_9, s139_10, s139_13, s139_14, s139_15, s139_16, s139_19, s139_20, s139_22, s139_25, s139_26, s139_27, s139_30, s139_31, s139_32, s139_33, s139_36, s139_39, s139_40, s139_42, s139_45, s139_46, s139_47, s139_50, s139_51, s139_52, s139_53, s139_54, s139_57, s139_58, s139_59, s139_60, s139_61, N.1, N6, r0, M_isStone, hx, fs_b, in_n (k := k) (n := 5) hk (by decide), nI_clamp (n := k) (by omega), mi_0, mg_0, mi_1, mg_1, mi_2, mg_2, mi_3, mg_3, mi_4, mg_4, mi_5, mg_5, mi_6, mg_6, mi_7, mg_7, mi_8, mg_8, mi_9, mg_9, mi_10, mg_10, mi_11, mg_11, mi_12, mg_12, mi_13, mg_13, mi_14, mg_14, mi_15, mg_15, mi_16, mg_16, mi_17, mg_17, mi_18, mg_18, mi_19, mg_19, mi_20, mg_20, mi_21, mg_21, mi_22, mg_22, mi_23, mg_23, mi_24, mg_24, mi_25, mg_25, mi_26, mg_26, mi_27, mg_27, mi_28, mg_28, mi_29, mg_29, mi_30, mg_30, mi_31, mg_31, mi_32, mg_32, mq_0, mq_1, mq_2, mq_3, mq_4, mq_20, mq_21, mq_22, mq_23, mq_24, mq_27, mq_28, mq_29, mq_31, mq_32, mrc, ud_s, ud_n, ud_u, up_n, ↓reduceIte, kl_i, kl_r, kl_n, kl_a, kl_l, up_s, up_up, is_0, is_s, gv_0, gv_s, pv_o, rc_o, okI_i, okI_x, okS_i, okB_x, gi_i, pi_i, okL_l, gl_l, pl_l, okA_2, okA_3, ga_a, arr_0, arr_1, arr_10, arr_11, len_a, sw_0, sw_i, sw_r, sw_l, fit_i, fit_z0, fit_z1, nz_0, nz_1, ni_K_s, ni_K_n, Nat.ble_eq, Nat.zero_le, Nat.zero_add, true_and, and_true, and_self, Bool.and_true, Bool.true_and, Bool.and_self, not_true_eq_false, not_false_eq_true, Int32.reduceLE, Int32.reduceLT, Int32.reduceAdd, Int32.reduceSub, Int32.reduceToNatClampNeg, Nat.reduceLeDiff, Nat.reduceAdd, Nat.reduceEqDiff, Nat.reduceSub, List.set_cons_zero, List.set_cons_succ, false_and, and_false]
    · rcases pk_ix y (n := 36) (by decide) with q | q | ⟨p, hp, rfl⟩
      · have q2 : y < -1 := by
          rcases Int32.lt_or_eq_of_le (show y ≤ -1 from by
            apply Int32.le_iff_toInt_le.mpr
            have := Int32.lt_iff_toInt_lt.mp q
            rw [show (0 : Int32).toInt = 0 from rfl] at this
            rw [show (-1 : Int32).toInt = -1 from rfl]
            omega) with e | e
          · exact e
          · exact absurd e y1
        have fr : fs_free (u 0) (nI k) y = false := by simp [fs_free, q]
        refine C_r hE X M P (r := .int (-16)) (c := -6) (fun d Q => ?_) (fun h' N d Q => ?_)
        · simp +decide only [s76_0, s76_1, s76_4, s76_5, s76_6, s76_9, s76_10, s76_11, s76_14, s76_15, s76_16, s76_17, s76_20, s76_21, s76_24, s76_25, s76_26, s76_29, s76_32, s76_33, s76_35, s76_38, s76_39, s76_40, s76_43, s76_46, s76_47, s76_48, s76_49, s76_50, s76_53, s76_56, s76_57, s76_58, s76_59, s76_60, x0, t2, k1, k3, y1, X_free (t := 2) t2 t3, fr, fs_b, X_refuseA x0 x32 no_6, ↓reduceIte, kl_i, kl_r, kl_n, kl_a, kl_l, up_s, up_up, is_0, is_s, gv_0, gv_s, pv_o, rc_o, okI_i, okI_x, okS_i, okB_x, gi_i, pi_i, okL_l, gl_l, pl_l, okA_2, okA_3, ga_a, arr_0, arr_1, arr_10, arr_11, len_a, sw_0, sw_i, sw_r, sw_l, fit_i, fit_z0, fit_z1, nz_0, nz_1, ni_K_s, ni_K_n, Nat.ble_eq, Nat.zero_le, Nat.zero_add, true_and, and_true, and_self, Bool.and_true, Bool.true_and, Bool.and_self, not_true_eq_false, not_false_eq_true, Int32.reduceLE, Int32.reduceLT, Int32.reduceAdd, Int32.reduceSub, Int32.reduceToNatClampNeg, Nat.reduceLeDiff, Nat.reduceAdd, Nat.reduceEqDiff, Nat.reduceSub, List.set_cons_zero, List.set_cons_succ, false_and, and_false]
        · obtain ⟨⟨k49, k51, k52, k53, k54, k55, k56, -, -, -, -⟩, k50, k57, k58, k59, k60, k61, k62, k63, k64, k65, k66, k67⟩ := N
          rw [r0] at k56
          simp +decide only [s139_0, s139_1, s139_2, s139_5, s139_8, s139_9, s139_10, s139_13, s139_14, s139_15, s139_16, s139_19, s139_20, s139_22, s139_25, s139_26, s139_27, s139_30, s139_31, s139_32, s139_33, s139_36, s139_39, s139_40, s139_42, s139_45, s139_46, s139_47, s139_50, s139_51, s139_52, s139_53, s139_54, s139_57, s139_58, s139_59, s139_60, s139_61, k49, gn, fs_b, M_isStone, hx, q2, Int32.not_le.mpr q2, M_noTen k49 k50 no_6, Bool.false_eq_true, mi_0, mg_0, mi_1, mg_1, mi_2, mg_2, mi_3, mg_3, mi_4, mg_4, mi_5, mg_5, mi_6, mg_6, mi_7, mg_7, mi_8, mg_8, mi_9, mg_9, mi_10, mg_10, mi_11, mg_11, mi_12, mg_12, mi_13, mg_13, mi_14, mg_14, mi_15, mg_15, mi_16, mg_16, mi_17, mg_17, mi_18, mg_18, mi_19, mg_19, mi_20, mg_20, mi_21, mg_21, mi_22, mg_22, mi_23, mg_23, mi_24, mg_24, mi_25, mg_25, mi_26, mg_26, mi_27, mg_27, mi_28, mg_28, mi_29, mg_29, mi_30, mg_30, mi_31, mg_31, mi_32, mg_32, mq_0, mq_1, mq_2, mq_3, mq_4, mq_20, mq_21, mq_22, mq_23, mq_24, mq_27, mq_28, mq_29, mq_31, mq_32, mrc, ud_s, ud_n, ud_u, up_n, ↓reduceIte, kl_i, kl_r, kl_n, kl_a, kl_l, up_s, up_up, is_0, is_s, gv_0, gv_s, pv_o, rc_o, okI_i, okI_x, okS_i, okB_x, gi_i, pi_i, okL_l, gl_l, pl_l, okA_2, okA_3, ga_a, arr_0, arr_1, arr_10, arr_11, len_a, sw_0, sw_i, sw_r, sw_l, fit_i, fit_z0, fit_z1, nz_0, nz_1, ni_K_s, ni_K_n, Nat.ble_eq, Nat.zero_le, Nat.zero_add, true_and, and_true, and_self, Bool.and_true, Bool.true_and, Bool.and_self, not_true_eq_false, not_false_eq_true, Int32.reduceLE, Int32.reduceLT, Int32.reduceAdd, Int32.reduceSub, Int32.reduceToNatClampNeg, Nat.reduceLeDiff, Nat.reduceAdd, Nat.reduceEqDiff, Nat.reduceSub, List.set_cons_zero, List.set_cons_succ, false_and, and_false]
      · have q2 : (36 : Int32) ≤ y := q
        have q3 : 35 < y := Int32.lt_of_lt_of_le (by decide) q2
        have q4 : ¬ y < 36 := Int32.not_lt.mpr q2
        have q5 : ¬ y < -1 := fun e => absurd (Int32.lt_of_le_of_lt q2 e) (by decide)
        have fr : fs_free (u 0) (nI k) y = false := by simp [fs_free, q4]
        refine C_r hE X M P (r := .int (-16)) (c := -6) (fun d Q => ?_) (fun h' N d Q => ?_)
        · simp +decide only [s76_0, s76_1, s76_4, s76_5, s76_6, s76_9, s76_10, s76_11, s76_14, s76_15, s76_16, s76_17, s76_20, s76_21, s76_24, s76_25, s76_26, s76_29, s76_32, s76_33, s76_35, s76_38, s76_39, s76_40, s76_43, s76_46, s76_47, s76_48, s76_49, s76_50, s76_53, s76_56, s76_57, s76_58, s76_59, s76_60, x0, t2, k1, k3, y1, X_free (t := 2) t2 t3, fr, fs_b, X_refuseA x0 x32 no_6, ↓reduceIte, kl_i, kl_r, kl_n, kl_a, kl_l, up_s, up_up, is_0, is_s, gv_0, gv_s, pv_o, rc_o, okI_i, okI_x, okS_i, okB_x, gi_i, pi_i, okL_l, gl_l, pl_l, okA_2, okA_3, ga_a, arr_0, arr_1, arr_10, arr_11, len_a, sw_0, sw_i, sw_r, sw_l, fit_i, fit_z0, fit_z1, nz_0, nz_1, ni_K_s, ni_K_n, Nat.ble_eq, Nat.zero_le, Nat.zero_add, true_and, and_true, and_self, Bool.and_true, Bool.true_and, Bool.and_self, not_true_eq_false, not_false_eq_true, Int32.reduceLE, Int32.reduceLT, Int32.reduceAdd, Int32.reduceSub, Int32.reduceToNatClampNeg, Nat.reduceLeDiff, Nat.reduceAdd, Nat.reduceEqDiff, Nat.reduceSub, List.set_cons_zero, List.set_cons_succ, false_and, and_false]
        · obtain ⟨⟨k49, k51, k52, k53, k54, k55, k56, -, -, -, -⟩, k50, k57, k58, k59, k60, k61, k62, k63, k64, k65, k66, k67⟩ := N
          rw [r0] at k56
          simp +decide only [s139_0, s139_1, s139_2, s139_5, s139_8, s139_9, s139_10, s139_13, s139_14, s139_15, s139_16, s139_19, s139_20, s139_22, s139_25, s139_26, s139_27, s139_30, s139_31, s139_32, s139_33, s139_36, s139_39, s139_40, s139_42, s139_45, s139_46, s139_47, s139_50, s139_51, s139_52, s139_53, s139_54, s139_57, s139_58, s139_59, s139_60, s139_61, k49, gn, fs_b, M_isStone, hx, q5, q3, Int32.not_le.mpr q3, Int32.not_lt.mp q5, M_noTen k49 k50 no_6, Bool.false_eq_true, mi_0, mg_0, mi_1, mg_1, mi_2, mg_2, mi_3, mg_3, mi_4, mg_4, mi_5, mg_5, mi_6, mg_6, mi_7, mg_7, mi_8, mg_8, mi_9, mg_9, mi_10, mg_10, mi_11, mg_11, mi_12, mg_12, mi_13, mg_13, mi_14, mg_14, mi_15, mg_15, mi_16, mg_16, mi_17, mg_17, mi_18, mg_18, mi_19, mg_19, mi_20, mg_20, mi_21, mg_21, mi_22, mg_22, mi_23, mg_23, mi_24, mg_24, mi_25, mg_25, mi_26, mg_26, mi_27, mg_27, mi_28, mg_28, mi_29, mg_29, mi_30, mg_30, mi_31, mg_31, mi_32, mg_32, mq_0, mq_1, mq_2, mq_3, mq_4, mq_20, mq_21, mq_22, mq_23, mq_24, mq_27, mq_28, mq_29, mq_31, mq_32, mrc, ud_s, ud_n, ud_u, up_n, ↓reduceIte, kl_i, kl_r, kl_n, kl_a, kl_l, up_s, up_up, is_0, is_s, gv_0, gv_s, pv_o, rc_o, okI_i, okI_x, okS_i, okB_x, gi_i, pi_i, okL_l, gl_l, pl_l, okA_2, okA_3, ga_a, arr_0, arr_1, arr_10, arr_11, len_a, sw_0, sw_i, sw_r, sw_l, fit_i, fit_z0, fit_z1, nz_0, nz_1, ni_K_s, ni_K_n, Nat.ble_eq, Nat.zero_le, Nat.zero_add, true_and, and_true, and_self, Bool.and_true, Bool.true_and, Bool.and_self, not_true_eq_false, not_false_eq_true, Int32.reduceLE, Int32.reduceLT, Int32.reduceAdd, Int32.reduceSub, Int32.reduceToNatClampNeg, Nat.reduceLeDiff, Nat.reduceAdd, Nat.reduceEqDiff, Nat.reduceSub, List.set_cons_zero, List.set_cons_succ, false_and, and_false]
      · have q5 : ¬ nI p < -1 := fun e => absurd (Int32.lt_trans e (by decide)) (nI_pos (n := p) (by omega))
        have q6 : ¬ 35 < nI p := nI_nlt (a := 35) (b := p) (by omega) (by decide)
        have fr0 := free_n (c := u 0) (s := nI k) hp
        cases fr : fs_fr (u 0) (nI k) (nI p) 5 0
        · rw [fr] at fr0
          refine C_r hE X M P (r := .int (-16)) (c := -6) (fun d Q => ?_) (fun h' N d Q => ?_)
          · simp +decide only [s76_0, s76_1, s76_4, s76_5, s76_6, s76_9, s76_10, s76_11, s76_14, s76_15, s76_16, s76_17, s76_20, s76_21, s76_24, s76_25, s76_26, s76_29, s76_32, s76_33, s76_35, s76_38, s76_39, s76_40, s76_43, s76_46, s76_47, s76_48, s76_49, s76_50, s76_53, s76_56, s76_57, s76_58, s76_59, s76_60, x0, t2, k1, k3, y1, X_free (t := 2) t2 t3, fr0, fs_b, X_refuseA x0 x32 no_6, ↓reduceIte, kl_i, kl_r, kl_n, kl_a, kl_l, up_s, up_up, is_0, is_s, gv_0, gv_s, pv_o, rc_o, okI_i, okI_x, okS_i, okB_x, gi_i, pi_i, okL_l, gl_l, pl_l, okA_2, okA_3, ga_a, arr_0, arr_1, arr_10, arr_11, len_a, sw_0, sw_i, sw_r, sw_l, fit_i, fit_z0, fit_z1, nz_0, nz_1, ni_K_s, ni_K_n, Nat.ble_eq, Nat.zero_le, Nat.zero_add, true_and, and_true, and_self, Bool.and_true, Bool.true_and, Bool.and_self, not_true_eq_false, not_false_eq_true, Int32.reduceLE, Int32.reduceLT, Int32.reduceAdd, Int32.reduceSub, Int32.reduceToNatClampNeg, Nat.reduceLeDiff, Nat.reduceAdd, Nat.reduceEqDiff, Nat.reduceSub, List.set_cons_zero, List.set_cons_succ, false_and, and_false]
          · obtain ⟨⟨k49, k51, k52, k53, k54, k55, k56, -, -, -, -⟩, k50, k57, k58, k59, k60, k61, k62, k63, k64, k65, k66, k67⟩ := N
            rw [r0] at k56
            simp +decide only [s139_0, s139_1, s139_2, s139_5, s139_8, s139_9, s139_10, s139_13, s139_14, s139_15, s139_16, s139_19, s139_20, s139_22, s139_25, s139_26, s139_27, s139_30, s139_31, s139_32, s139_33, s139_36, s139_39, s139_40, s139_42, s139_45, s139_46, s139_47, s139_50, s139_51, s139_52, s139_53, s139_54, s139_57, s139_58, s139_59, s139_60, s139_61, k49, gn, fs_b, M_isStone, hx, q5, q6, Int32.not_lt.mp q6, Int32.not_lt.mp q5, y1, M_free k49 k56, fr, M_noTen k49 k50 no_6, Bool.false_eq_true, mi_0, mg_0, mi_1, mg_1, mi_2, mg_2, mi_3, mg_3, mi_4, mg_4, mi_5, mg_5, mi_6, mg_6, mi_7, mg_7, mi_8, mg_8, mi_9, mg_9, mi_10, mg_10, mi_11, mg_11, mi_12, mg_12, mi_13, mg_13, mi_14, mg_14, mi_15, mg_15, mi_16, mg_16, mi_17, mg_17, mi_18, mg_18, mi_19, mg_19, mi_20, mg_20, mi_21, mg_21, mi_22, mg_22, mi_23, mg_23, mi_24, mg_24, mi_25, mg_25, mi_26, mg_26, mi_27, mg_27, mi_28, mg_28, mi_29, mg_29, mi_30, mg_30, mi_31, mg_31, mi_32, mg_32, mq_0, mq_1, mq_2, mq_3, mq_4, mq_20, mq_21, mq_22, mq_23, mq_24, mq_27, mq_28, mq_29, mq_31, mq_32, mrc, ud_s, ud_n, ud_u, up_n, ↓reduceIte, kl_i, kl_r, kl_n, kl_a, kl_l, up_s, up_up, is_0, is_s, gv_0, gv_s, pv_o, rc_o, okI_i, okI_x, okS_i, okB_x, gi_i, pi_i, okL_l, gl_l, pl_l, okA_2, okA_3, ga_a, arr_0, arr_1, arr_10, arr_11, len_a, sw_0, sw_i, sw_r, sw_l, fit_i, fit_z0, fit_z1, nz_0, nz_1, ni_K_s, ni_K_n, Nat.ble_eq, Nat.zero_le, Nat.zero_add, true_and, and_true, and_self, Bool.and_true, Bool.true_and, Bool.and_self, not_true_eq_false, not_false_eq_true, Int32.reduceLE, Int32.reduceLT, Int32.reduceAdd, Int32.reduceSub, Int32.reduceToNatClampNeg, Nat.reduceLeDiff, Nat.reduceAdd, Nat.reduceEqDiff, Nat.reduceSub, List.set_cons_zero, List.set_cons_succ, false_and, and_false]
        · rw [fr] at fr0
          refine ok (nI p) (Or.inr ⟨p, hp, rfl⟩) (fun j hj hjk e => ?_) (fun d Q => ?_) (fun h' N d Q => ?_)
          · exfalso
            have : ∀ (m i : Nat), i ≤ j → j < i + m → fs_fr (u 0) (nI k) (nI p) m i = false := by
              intro m
              induction m with
              | zero => intro i _ _; omega
              | succ m ih =>
                intro i h1 h2
                rw [fs_fr]
                rcases Nat.eq_or_lt_of_le h1 with e2 | e2
                · subst e2
                  rw [decide_eq_false (show ¬ nI i = nI k from fun q => hjk ((nI_eq (by omega) (by omega)).mp q)), decide_eq_true e]
                  rfl
                · rw [ih (i + 1) e2 (by omega), Bool.and_false]
            rw [this 5 0 (by omega) (by omega)] at fr
            cases fr
          · simp +decide only [s76_0, s76_1, s76_4, s76_5, s76_6, s76_9, s76_10, s76_11, s76_14, s76_15, s76_16, s76_17, s76_20, s76_21, s76_24, s76_25, s76_26, s76_29, s76_32, s76_33, s76_35, s76_38, s76_39, s76_40, s76_43, s76_46, s76_47, s76_48, s76_49, s76_50, s76_53, s76_56, s76_57, s76_58, s76_59, s76_60, x0, t2, t3, k1, k3, y1, X_free (t := 2) t2 t3, fr0, fs_b, in_n (k := k) (n := 5) hk (by decide), nI_clamp (n := k) (by omega), ↓reduceIte, kl_i, kl_r, kl_n, kl_a, kl_l, up_s, up_up, is_0, is_s, gv_0, gv_s, pv_o, rc_o, okI_i, okI_x, okS_i, okB_x, gi_i, pi_i, okL_l, gl_l, pl_l, okA_2, okA_3, ga_a, arr_0, arr_1, arr_10, arr_11, len_a, sw_0, sw_i, sw_r, sw_l, fit_i, fit_z0, fit_z1, nz_0, nz_1, ni_K_s, ni_K_n, Nat.ble_eq, Nat.zero_le, Nat.zero_add, true_and, and_true, and_self, Bool.and_true, Bool.true_and, Bool.and_self, not_true_eq_false, not_false_eq_true, Int32.reduceLE, Int32.reduceLT, Int32.reduceAdd, Int32.reduceSub, Int32.reduceToNatClampNeg, Nat.reduceLeDiff, Nat.reduceAdd, Nat.reduceEqDiff, Nat.reduceSub, List.set_cons_zero, List.set_cons_succ, false_and, and_false]
          · have N6 := N.2.2.2.2.2.2.1
            rw [r0] at N6
            simp +decide only [s139_0, s139_1, s139_2, s139_5, s139_8, s139_9, s139_10, s139_13, s139_14, s139_15, s139_16, s139_19, s139_20, s139_22, s139_25, s139_26, s139_27, s139_30, s139_31, s139_32, s139_33, s139_36, s139_39, s139_40, s139_42, s139_45, s139_46, s139_47, s139_50, s139_51, s139_52, s139_53, s139_54, s139_57, s139_58, s139_59, s139_60, s139_61, N.1, N6, r0, M_isStone, hx, q5, q6, Int32.not_lt.mp q6, Int32.not_lt.mp q5, y1, M_free N.1 N6, fr, fs_b, in_n (k := k) (n := 5) hk (by decide), nI_clamp (n := k) (by omega), mi_0, mg_0, mi_1, mg_1, mi_2, mg_2, mi_3, mg_3, mi_4, mg_4, mi_5, mg_5, mi_6, mg_6, mi_7, mg_7, mi_8, mg_8, mi_9, mg_9, mi_10, mg_10, mi_11, mg_11, mi_12, mg_12, mi_13, mg_13, mi_14, mg_14, mi_15, mg_15, mi_16, mg_16, mi_17, mg_17, mi_18, mg_18, mi_19, mg_19, mi_20, mg_20, mi_21, mg_21, mi_22, mg_22, mi_23, mg_23, mi_24, mg_24, mi_25, mg_25, mi_26, mg_26, mi_27, mg_27, mi_28, mg_28, mi_29, mg_29, mi_30, mg_30, mi_31, mg_31, mi_32, mg_32, mq_0, mq_1, mq_2, mq_3, mq_4, mq_20, mq_21, mq_22, mq_23, mq_24, mq_27, mq_28, mq_29, mq_31, mq_32, mrc, ud_s, ud_n, ud_u, up_n, ↓reduceIte, kl_i, kl_r, kl_n, kl_a, kl_l, up_s, up_up, is_0, is_s, gv_0, gv_s, pv_o, rc_o, okI_i, okI_x, okS_i, okB_x, gi_i, pi_i, okL_l, gl_l, pl_l, okA_2, okA_3, ga_a, arr_0, arr_1, arr_10, arr_11, len_a, sw_0, sw_i, sw_r, sw_l, fit_i, fit_z0, fit_z1, nz_0, nz_1, ni_K_s, ni_K_n, Nat.ble_eq, Nat.zero_le, Nat.zero_add, true_and, and_true, and_self, Bool.and_true, Bool.true_and, Bool.and_self, not_true_eq_false, not_false_eq_true, Int32.reduceLE, Int32.reduceLT, Int32.reduceAdd, Int32.reduceSub, Int32.reduceToNatClampNeg, Nat.reduceLeDiff, Nat.reduceAdd, Nat.reduceEqDiff, Nat.reduceSub, List.set_cons_zero, List.set_cons_succ, false_and, and_false]
end
