set_option maxRecDepth 100000
set_option maxHeartbeats 1000000
/-! ===== calls: the small ones ===== -/
section
variable {J n w : Nat} {z : ni_Z} {mx mm : Nat} {ax am : List Value} {h : ni_H} {r : Value} {im lf : Int32} {u v mu : Nat → Nat → Int32} {ran : Nat} {tr rf hl hd so szf sh kp g : Nat → Int32} {sz : Nat → Nat} {ee : Nat → Nat → Int64} {ce : Nat → Int64}
theorem C_p (hE : fs_IE h) (X : fs_IX h im lf u v ran tr rf hl hd so sz ee) (M : fs_IM h g mu tr rf hl so szf sh kp ce) (P : fs_IP J n w im lf u v mu ran g kp hl hd so szf sh sz ee ce) (e1 : ∀ (d : Nat) (Q : ni_Q), ni_T (d + 40) mx 0 ax [] z h Q = Q (some r) z h) (e2 : ∀ (d : Nat) (Q : ni_Q), ni_T (d + 40) mm 0 am [] z h Q = Q (some r) z h) (hv : fs_vk mx r = true := by rfl) : fs_C J z mx mm ax am h :=
  C_q hE X M P e1 (qx_0 X.2.2.2.2.2.1 X.2.2.2.2.2.2.2.2.2.1) e2 (qm_0 M.1.1 M.2.1) hv
theorem C_r {c : Int32} (hE : fs_IE h) (X : fs_IX h im lf u v ran tr rf hl hd so sz ee) (M : fs_IM h g mu tr rf hl so szf sh kp ce) (P : fs_IP J n w im lf u v mu ran g kp hl hd so szf sh sz ee ce) (e1 : ∀ (d : Nat) (Q : ni_Q), ni_T (d + 40) mx 0 ax [] z h Q = Q (some r) z (ni_up h 32 (ni_I 8 (fs_rf rf c)))) (e2 : ∀ (h : ni_H), fs_IM h g mu tr rf hl so szf sh kp ce → ∀ (d : Nat) (Q : ni_Q), ni_T (d + 40) mm 0 am [] z h Q = Q (some r) z (ni_up h 50 (ni_I 8 (fs_rf rf c)))) (hv : fs_vk mx r = true := by rfl) : fs_C J z mx mm ax am h := by
  have N : fs_IM (ni_up h 32 (ni_I 8 (fs_rf rf c))) g mu tr rf hl so szf sh kp ce := IM_h M (fun i a b => up_n (by omega))
  exact C_q hE X M P e1 (qx_r X.2.2.2.2.2.1) (e2 _ N) (qm_r N.1.1) hv
/-- a call that changes the table alone -/
theorem C_t {h1 h2 : ni_H} {u' mu' : Nat → Nat → Int32} {g' : Nat → Int32} {n' w' : Nat} (hE : fs_IE h) (X : fs_IX h im lf u v ran tr rf hl hd so sz ee) (M : fs_IM h g mu tr rf hl so szf sh kp ce) (P : fs_IP J n w im lf u v mu ran g kp hl hd so szf sh sz ee ce) (e1 : ∀ (d : Nat) (Q : ni_Q), ni_T (d + 40) mx 0 ax [] z h Q = Q (some r) z h1) (f1 : ∀ i, (i < 2 ∨ 8 < i) → (i < 23 ∨ 28 < i) → h1 i = h i) (md : fs_mind h1) (t1 : fs_tab 2 u' h1) (e2 : ∀ (d : Nat) (Q : ni_Q), ni_T (d + 40) mm 0 am [] z h1 Q = Q (some r) z h2) (f2 : ∀ i, i ≠ 49 → (i < 51 ∨ 56 < i) → h2 i = h1 i) (m2 : fs_mtb mu' g' h2) (k4 : g' 4 = g 4) (k31 : g' 31 = g 31) (k32 : g' 32 = g 32) (hG : fs_good (J + 100) n' w' u') (hR : fs_rel n' u' mu') (hn : n ≤ n') (hv : fs_vk mx r = true := by rfl) : fs_C J z mx mm ax am h := by
  have ff : ∀ i, (i < 2 ∨ 8 < i) → (i < 23 ∨ 28 < i) → i ≠ 49 → (i < 51 ∨ 56 < i) → h2 i = h i := fun i a b c d => by rw [f2 i c d, f1 i a b]
  refine ⟨r, h1, h2, e1, e2, hv, (fun i hi => ff i (by omega) (by omega) (by omega) (by omega)), IE_h hE (fun i hi => ff i (by omega) (by omega) (by omega) (by omega)), n', w', im, lf, u', v, mu', ran, tr, rf, hl, hd, so, szf, sh, kp, g', sz, ee, ce, ?_, ?_, ?_⟩
  · obtain ⟨a, b, c, d, ⟨e, e'⟩, f, k0, k, ⟨l, m, o, p⟩, q, r, s⟩ := X
    exact ⟨by rw [ff _ (by omega) (by omega) (by omega) (by omega)]; exact a, by rw [ff _ (by omega) (by omega) (by omega) (by omega)]; exact b, fs_tab_h (k := 0) t1 (fun i h1 h2 => f2 i (by omega) (by omega)), fs_tab_h (k := 0) d (fun i h1 h2 => ff i (by omega) (by omega) (by omega) (by omega)), ⟨e, fs_tab_h (k := 0) e' (fun i h1 h2 => ff i (by omega) (by omega) (by omega) (by omega))⟩, mind_h md (fun i h1 h2 => f2 i (by omega) (by omega)), by rw [ff _ (by omega) (by omega) (by omega) (by omega)]; exact k0, by rw [ff _ (by omega) (by omega) (by omega) (by omega)]; exact k, ⟨l, m, o, by rw [ff _ (by omega) (by omega) (by omega) (by omega)]; exact p⟩, by rw [ff _ (by omega) (by omega) (by omega) (by omega)]; exact q, fun s hs => by rw [ff _ (by omega) (by omega) (by omega) (by omega)]; exact r s hs, fun t ht => by rw [ff _ (by omega) (by omega) (by omega) (by omega)]; exact s t ht⟩
  · obtain ⟨a, b, c, d, e, f, i, ⟨k, k'⟩, ⟨l, l1, l2⟩, ⟨m, m'⟩, ⟨o, o'⟩, q, r⟩ := M
    exact ⟨m2, by rw [ff _ (by omega) (by omega) (by omega) (by omega)]; exact b, by rw [ff _ (by omega) (by omega) (by omega) (by omega)]; exact c, by rw [ff _ (by omega) (by omega) (by omega) (by omega)]; exact d, by rw [ff _ (by omega) (by omega) (by omega) (by omega)]; exact e, by rw [ff _ (by omega) (by omega) (by omega) (by omega)]; exact f, by rw [ff _ (by omega) (by omega) (by omega) (by omega)]; exact i, ⟨k, by rw [ff _ (by omega) (by omega) (by omega) (by omega)]; exact k'⟩, ⟨l, by rw [ff _ (by omega) (by omega) (by omega) (by omega)]; exact l1, l2⟩, ⟨m, by rw [ff _ (by omega) (by omega) (by omega) (by omega)]; exact m'⟩, ⟨o, by rw [ff _ (by omega) (by omega) (by omega) (by omega)]; exact o'⟩, by rw [ff _ (by omega) (by omega) (by omega) (by omega)]; exact q, by rw [ff _ (by omega) (by omega) (by omega) (by omega)]; exact r⟩
  · obtain ⟨a, b, c, d, e, f, i, j⟩ := IP_J P (show J ≤ J + 100 by omega)
    refine ⟨hG, hR, k4.trans c, k31.trans d, k32.trans e, f, i, fun s hs => ?_⟩
    obtain ⟨j1, j2, j3, j4, j5, j6⟩ := j s hs
    exact ⟨j1, j2, j3, j4, fun q => ⟨(j5 q).1, by obtain ⟨k, k1, k2⟩ := (j5 q).2; exact ⟨k, by omega, k2⟩⟩, j6⟩
end
section
variable {J : Nat} {z : ni_Z} {h : ni_H} (hI : fs_Inv J h)
theorem C_fault : fs_Inv J h → fs_C J z 81 155 [.ref 0] [.ref 49] h := by
  intro hI
  obtain ⟨hE, n, w, im, lf, u, v, mu, ran, tr, rf, hl, hd, so, szf, sh, kp, g, sz, ee, ce, X, M, P⟩ := hI
  have X' := X
  have M' := M
  have P' := P
  obtain ⟨x0, x1, xT, xV, xD, xM, x29, x30, x31, x32, xS, xL⟩ := X'
  obtain ⟨mT, m50, m57, m58, m59, m60, m61, m62, m63, m64, m65, m66, m67⟩ := M'
  have mT' := mT
  obtain ⟨m49, m51, m52, m53, m54, m55, m56, g0, g1, g2, g3⟩ := mT'
  have xT' := xT
  obtain ⟨t2, t3, t4, tH⟩ := xT'
  obtain ⟨pG, pR, p4, p31, p32, pr, pI, pS⟩ := P'
  have pG' := pG
  obtain ⟨u60, n4, u61, wn, cel, cel5, cdis, hnd⟩ := pG'
  have pR' := pR
  obtain ⟨r6, r0, rH⟩ := pR'
  have gn : g 0 = nI n := (g0.trans (r6 0 (by decide))).trans u60
  have gw : g 1 = nI w := (g1.trans (r6 1 (by decide))).trans u61
  have gf : g 2 = u 6 2 := g2.trans (r6 2 (by decide))
  have gs : g 3 = u 6 3 := g3.trans (r6 3 (by decide))
  rw [u60, u61] at t2
  rw [r0] at m56
  simp only [Nat.reduceAdd] at t2 t3 t4
  refine C_p hE X M P (r := .int lf) (fun d Q => ?_) (fun d Q => ?_)
  · simp +decide only [s81_0, s81_1, s81_4, x0, ↓reduceIte, kl_i, kl_r, kl_n, kl_a, kl_l, up_s, up_up, is_0, is_s, gv_0, gv_s, pv_o, rc_o, okI_i, okI_x, okS_i, okB_x, gi_i, pi_i, okL_l, gl_l, pl_l, okA_2, okA_3, ga_a, arr_0, arr_1, arr_10, arr_11, len_a, sw_0, sw_i, sw_r, sw_l, fit_i, fit_z0, fit_z1, nz_0, nz_1, ni_K_s, ni_K_n, Nat.ble_eq, Nat.zero_le, Nat.zero_add, true_and, and_true, and_self, Bool.and_true, Bool.true_and, Bool.and_self, not_true_eq_false, not_false_eq_true, Int32.reduceLE, Int32.reduceLT, Int32.reduceAdd, Int32.reduceSub, Int32.reduceToNatClampNeg, Nat.reduceLeDiff, Nat.reduceAdd, Nat.reduceEqDiff, Nat.reduceSub, List.set_cons_zero, List.set_cons_succ, false_and, and_false]
  · simp +decide only [s155_0, s155_1, s155_4, m49, p4, mi_0, mg_0, mi_1, mg_1, mi_2, mg_2, mi_3, mg_3, mi_4, mg_4, mi_5, mg_5, mi_6, mg_6, mi_7, mg_7, mi_8, mg_8, mi_9, mg_9, mi_10, mg_10, mi_11, mg_11, mi_12, mg_12, mi_13, mg_13, mi_14, mg_14, mi_15, mg_15, mi_16, mg_16, mi_17, mg_17, mi_18, mg_18, mi_19, mg_19, mi_20, mg_20, mi_21, mg_21, mi_22, mg_22, mi_23, mg_23, mi_24, mg_24, mi_25, mg_25, mi_26, mg_26, mi_27, mg_27, mi_28, mg_28, mi_29, mg_29, mi_30, mg_30, mi_31, mg_31, mi_32, mg_32, mq_0, mq_1, mq_2, mq_3, mq_4, mq_20, mq_21, mq_22, mq_23, mq_24, mq_27, mq_28, mq_29, mq_31, mq_32, mrc, ud_s, ud_n, ud_u, up_n, ↓reduceIte, kl_i, kl_r, kl_n, kl_a, kl_l, up_s, up_up, is_0, is_s, gv_0, gv_s, pv_o, rc_o, okI_i, okI_x, okS_i, okB_x, gi_i, pi_i, okL_l, gl_l, pl_l, okA_2, okA_3, ga_a, arr_0, arr_1, arr_10, arr_11, len_a, sw_0, sw_i, sw_r, sw_l, fit_i, fit_z0, fit_z1, nz_0, nz_1, ni_K_s, ni_K_n, Nat.ble_eq, Nat.zero_le, Nat.zero_add, true_and, and_true, and_self, Bool.and_true, Bool.true_and, Bool.and_self, not_true_eq_false, not_false_eq_true, Int32.reduceLE, Int32.reduceLT, Int32.reduceAdd, Int32.reduceSub, Int32.reduceToNatClampNeg, Nat.reduceLeDiff, Nat.reduceAdd, Nat.reduceEqDiff, Nat.reduceSub, List.set_cons_zero, List.set_cons_succ, false_and, and_false]
theorem C_trace (x : Int32) : fs_Inv J h → fs_C J z 101 195 [.ref 0, .int x] [.ref 49, .int x] h := by
  intro hI
  obtain ⟨hE, n, w, im, lf, u, v, mu, ran, tr, rf, hl, hd, so, szf, sh, kp, g, sz, ee, ce, X, M, P⟩ := hI
  have X' := X
  have M' := M
  have P' := P
  obtain ⟨x0, x1, xT, xV, xD, xM, x29, x30, x31, x32, xS, xL⟩ := X'
  obtain ⟨mT, m50, m57, m58, m59, m60, m61, m62, m63, m64, m65, m66, m67⟩ := M'
  have mT' := mT
  obtain ⟨m49, m51, m52, m53, m54, m55, m56, g0, g1, g2, g3⟩ := mT'
  have xT' := xT
  obtain ⟨t2, t3, t4, tH⟩ := xT'
  obtain ⟨pG, pR, p4, p31, p32, pr, pI, pS⟩ := P'
  have pG' := pG
  obtain ⟨u60, n4, u61, wn, cel, cel5, cdis, hnd⟩ := pG'
  have pR' := pR
  obtain ⟨r6, r0, rH⟩ := pR'
  have gn : g 0 = nI n := (g0.trans (r6 0 (by decide))).trans u60
  have gw : g 1 = nI w := (g1.trans (r6 1 (by decide))).trans u61
  have gf : g 2 = u 6 2 := g2.trans (r6 2 (by decide))
  have gs : g 3 = u 6 3 := g3.trans (r6 3 (by decide))
  rw [u60, u61] at t2
  rw [r0] at m56
  simp only [Nat.reduceAdd] at t2 t3 t4
  refine C_p hE X M P (r := .int (if x < 0 then -1 else if nI ran ≤ x then -1 else if 20 ≤ x then -1 else tr x.toNatClampNeg)) (fun d Q => ?_) (fun d Q => ?_)
  · simp +decide only [s101_0, s101_1, s101_4, s101_5, s101_8, x0, x29, X_body pr x29 x30, ↓reduceIte, kl_i, kl_r, kl_n, kl_a, kl_l, up_s, up_up, is_0, is_s, gv_0, gv_s, pv_o, rc_o, okI_i, okI_x, okS_i, okB_x, gi_i, pi_i, okL_l, gl_l, pl_l, okA_2, okA_3, ga_a, arr_0, arr_1, arr_10, arr_11, len_a, sw_0, sw_i, sw_r, sw_l, fit_i, fit_z0, fit_z1, nz_0, nz_1, ni_K_s, ni_K_n, Nat.ble_eq, Nat.zero_le, Nat.zero_add, true_and, and_true, and_self, Bool.and_true, Bool.true_and, Bool.and_self, not_true_eq_false, not_false_eq_true, Int32.reduceLE, Int32.reduceLT, Int32.reduceAdd, Int32.reduceSub, Int32.reduceToNatClampNeg, Nat.reduceLeDiff, Nat.reduceAdd, Nat.reduceEqDiff, Nat.reduceSub, List.set_cons_zero, List.set_cons_succ, false_and, and_false]
  · exact M_trace m49 p31 pr m67
theorem C_seed (x : Int32) : fs_Inv J h → fs_C J z 99 189 [.ref 0, .int x, .retAddr 0] [.ref 49, .int x, .retAddr 0] h := by
  intro hI
  obtain ⟨hE, n, w, im, lf, u, v, mu, ran, tr, rf, hl, hd, so, szf, sh, kp, g, sz, ee, ce, X, M, P⟩ := hI
  have X' := X
  have M' := M
  have P' := P
  obtain ⟨x0, x1, xT, xV, xD, xM, x29, x30, x31, x32, xS, xL⟩ := X'
  obtain ⟨mT, m50, m57, m58, m59, m60, m61, m62, m63, m64, m65, m66, m67⟩ := M'
  have mT' := mT
  obtain ⟨m49, m51, m52, m53, m54, m55, m56, g0, g1, g2, g3⟩ := mT'
  have xT' := xT
  obtain ⟨t2, t3, t4, tH⟩ := xT'
  obtain ⟨pG, pR, p4, p31, p32, pr, pI, pS⟩ := P'
  have pG' := pG
  obtain ⟨u60, n4, u61, wn, cel, cel5, cdis, hnd⟩ := pG'
  have pR' := pR
  obtain ⟨r6, r0, rH⟩ := pR'
  have gn : g 0 = nI n := (g0.trans (r6 0 (by decide))).trans u60
  have gw : g 1 = nI w := (g1.trans (r6 1 (by decide))).trans u61
  have gf : g 2 = u 6 2 := g2.trans (r6 2 (by decide))
  have gs : g 3 = u 6 3 := g3.trans (r6 3 (by decide))
  rw [u60, u61] at t2
  rw [r0] at m56
  simp only [Nat.reduceAdd] at t2 t3 t4
  have N := mtb_h (h' := ni_up h 2 (ni_O 5 [.ref 3, .ref 4, .int (nI n), .int (nI w), .int (u 6 2), .int x])) mT (fun i _ _ => up_n (by omega))
  refine C_t hE X M P (r := .int (u 6 3)) (h1 := ni_up h 2 (ni_O 5 [.ref 3, .ref 4, .int (nI n), .int (nI w), .int (u 6 2), .int x])) (h2 := ni_up (ni_up h 2 (ni_O 5 [.ref 3, .ref 4, .int (nI n), .int (nI w), .int (u 6 2), .int x])) 49 (fs_mo (upd g 3 x))) (u' := fs_u u 6 3 x) (mu' := fs_u mu 6 3 x) (g' := upd g 3 x) (n' := n) (w' := w) (fun d Q => X_seed x0 t2) (fun i a b => up_n (by omega)) (mind_h xM (fun i a b => up_n (by omega))) ?_ (fun d Q => ?_) (fun i a b => up_n a) ?_ (ud_n (by decide)) (ud_n (by decide)) (ud_n (by decide)) ?_ ?_ (Nat.le_refl _)
  · have := tab_6 xT 3 x
    rw [ud_n (by decide), ud_n (by decide), ud_n (by decide), ud_s, u60, u61] at this
    exact this
  · have := M_seed (d := d + 40) (z := z) (Q := Q) (x := x) N.1
    rw [gs] at this
    exact this
  · obtain ⟨a0, a1, a2, a3, a4, a5, a6, b0, b1, b2, b3⟩ := N
    refine ⟨up_s, ?_, ?_, ?_, ?_, ?_, ?_, ?_, ?_, ?_, ?_⟩
    all_goals simp +decide only [fu_n, fu_s, ud_s, ud_n, up_n]
    all_goals assumption
  · obtain ⟨q1, q2, q3, q4, q5, q6, q7, q8⟩ := good_J pG (show J ≤ J + 100 by omega)
    exact ⟨by rw [fu_s, ud_n (by decide)]; exact q1, q2, by rw [fu_s, ud_n (by decide)]; exact q3, q4, by rw [fu_n (by decide)]; exact q5, by rw [fu_n (by decide)]; exact q6, by rw [fu_n (by decide)]; exact q7, fun k hk => by simp +decide only [fu_n]; exact q8 k hk⟩
  · refine ⟨fun i hi => ?_, by rw [fu_n (by decide), fu_n (by decide)]; exact r0, fun i k a b c => by rw [fu_n (by omega), fu_n (by omega)]; exact rH i k a b c⟩
    rw [fu_s, fu_s]
    unfold upd
    split
    · rfl
    · exact r6 i hi
theorem C_stoneAt (x : Int32) : fs_Inv J h → fs_C J z 77 140 [.ref 0, .int x] [.ref 49, .int x] h := by
  intro hI
  obtain ⟨hE, n, w, im, lf, u, v, mu, ran, tr, rf, hl, hd, so, szf, sh, kp, g, sz, ee, ce, X, M, P⟩ := hI
  have X' := X
  have M' := M
  have P' := P
  obtain ⟨x0, x1, xT, xV, xD, xM, x29, x30, x31, x32, xS, xL⟩ := X'
  obtain ⟨mT, m50, m57, m58, m59, m60, m61, m62, m63, m64, m65, m66, m67⟩ := M'
  have mT' := mT
  obtain ⟨m49, m51, m52, m53, m54, m55, m56, g0, g1, g2, g3⟩ := mT'
  have xT' := xT
  obtain ⟨t2, t3, t4, tH⟩ := xT'
  obtain ⟨pG, pR, p4, p31, p32, pr, pI, pS⟩ := P'
  have pG' := pG
  obtain ⟨u60, n4, u61, wn, cel, cel5, cdis, hnd⟩ := pG'
  have pR' := pR
  obtain ⟨r6, r0, rH⟩ := pR'
  have gn : g 0 = nI n := (g0.trans (r6 0 (by decide))).trans u60
  have gw : g 1 = nI w := (g1.trans (r6 1 (by decide))).trans u61
  have gf : g 2 = u 6 2 := g2.trans (r6 2 (by decide))
  have gs : g 3 = u 6 3 := g3.trans (r6 3 (by decide))
  rw [u60, u61] at t2
  rw [r0] at m56
  simp only [Nat.reduceAdd] at t2 t3 t4
  rcases pk_ix x (n := 5) (by decide) with q | q | ⟨k, hk, rfl⟩
  · have hx : fs_isSo x = false := by simp [fs_isSo, q]
    exact C_r hE X M P (r := .int (-11)) (c := -1) (fun d Q => X_stoneAtN x0 x32 hx) (fun h' N d Q => M_stoneAtN N.1.1 N.2.1 hx)
  · have hx : fs_isSo x = false := by
      have q' : (5 : Int32) ≤ x := q
      simp [fs_isSo, q']
    exact C_r hE X M P (r := .int (-11)) (c := -1) (fun d Q => X_stoneAtN x0 x32 hx) (fun h' N d Q => M_stoneAtN N.1.1 N.2.1 hx)
  · exact C_p hE X M P (r := .int (u 0 k)) (fun d Q => X_stoneAtS x0 t2 t3 hk) (fun d Q => M_stoneAtS m49 m56 hk)
end
