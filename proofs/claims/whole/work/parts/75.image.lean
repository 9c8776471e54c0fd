set_option maxRecDepth 100000
set_option maxHeartbeats 1000000
/-! ===== image, restore ===== -/
section
variable {J : Nat} {z : ni_Z} {h : ni_H}
theorem C_image : fs_Inv J h → fs_C J z 102 196 [.ref 0] [.ref 49] h := by
  intro hI
  obtain ⟨hE, n, w, im, lf, u, v, mu, ran, tr, rf, hl, hd, so, szf, sh, kp, g, sz, ee, ce, X, M, P⟩ := hI
  have X' := X
  have M' := M
  have P' := P
  obtain ⟨x0, x1, xT, xV, xD, xM, x29, x30, x31, x32, xS, xL⟩ := X'
  obtain ⟨mT, m50, m57, m58, m59, m60, m61, m62, m63, m64, m65, m66, m67⟩ := M'
  have mT' := mT
  obtain ⟨m49, m51, m52, m53, m54, m55, m56, g0, g1, g2, g3⟩ := mT'
  have xT' := xT
  obtain ⟨t2, t3, t4, tH⟩ := xT'
  obtain ⟨pG, pR, p4, p31, p32, pr, pI, pS⟩ := P'
  have pG' := pG
  obtain ⟨u60, n4, u61, wn, cel, cel5, cdis, hnd⟩ := pG'
  have pR' := pR
  obtain ⟨r6, r0, rH⟩ := pR'
  have gn : g 0 = nI n := (g0.trans (r6 0 (by decide))).trans u60
  have gw : g 1 = nI w := (g1.trans (r6 1 (by decide))).trans u61
  have gf : g 2 = u 6 2 := g2.trans (r6 2 (by decide))
  have gs : g 3 = u 6 3 := g3.trans (r6 3 (by decide))
  rw [u60, u61] at t2
  rw [r0] at m56
  simp only [Nat.reduceAdd] at t2 t3 t4
  obtain ⟨h1, r1, f1, T1⟩ := XC_9_2 (z := z) xV xT nz_5 cel5
  have x01 := (f1 0 (by omega)).trans x0
  have t21 := (f1 2 (by omega)).trans t2
  have fr : ∀ i, (i < 9 ∨ 16 ≤ i) → i ≠ 0 → ni_up h1 0 (ni_O 6 [.ref 1, .ref 2, .ref 9, .ref 16, .ref 23, .ref 29, .ref 31, .ref 32, .int 1, .int lf]) i = h i := fun i a b => by rw [up_n b, f1 i a]
  have N : fs_IM (ni_up h1 0 (ni_O 6 [.ref 1, .ref 2, .ref 9, .ref 16, .ref 23, .ref 29, .ref 31, .ref 32, .int 1, .int lf])) g mu tr rf hl so szf sh kp ce := IM_h M (fun i a b => fr i (by omega) (by omega))
  have t22 := (fr 2 (by omega) (by omega)).trans t2
  have hx : ∀ (d : Nat) (Q : ni_Q), ni_T (d + 40) 102 0 [.ref 0] [] z h Q = Q (some (.int (nI n))) z (ni_up h1 0 (ni_O 6 [.ref 1, .ref 2, .ref 9, .ref 16, .ref 23, .ref 29, .ref 31, .ref 32, .int 1, .int lf])) := by
    intro d Q
    have V9 := xV.1
    simp only [Nat.reduceAdd] at V9
    simp +decide only [s102_0, s102_1, s102_4, s102_5, s102_8, s102_8N0, s102_11, s102_12, s102_13, s102_16, s102_17, s102_20, s102_23, x0, V9, t2, r1, x01, t21, up_n, ↓reduceIte, kl_i, kl_r, kl_n, kl_a, kl_l, up_s, up_up, is_0, is_s, gv_0, gv_s, pv_o, rc_o, okI_i, okI_x, okS_i, okB_x, gi_i, pi_i, okL_l, gl_l, pl_l, okA_2, okA_3, ga_a, arr_0, arr_1, arr_10, arr_11, len_a, sw_0, sw_i, sw_r, sw_l, fit_i, fit_z0, fit_z1, nz_0, nz_1, ni_K_s, ni_K_n, Nat.ble_eq, Nat.zero_le, Nat.zero_add, true_and, and_true, and_self, Bool.and_true, Bool.true_and, Bool.and_self, not_true_eq_false, not_false_eq_true, Int32.reduceLE, Int32.reduceLT, Int32.reduceAdd, Int32.reduceSub, Int32.reduceToNatClampNeg, Nat.reduceLeDiff, Nat.reduceAdd, Nat.reduceEqDiff, Nat.reduceSub, List.set_cons_zero, List.set_cons_succ, false_and, and_false]
  have T9 : fs_tab 9 (fs_nz u) (ni_up h1 0 (ni_O 6 [.ref 1, .ref 2, .ref 9, .ref 16, .ref 23, .ref 29, .ref 31, .ref 32, .int 1, .int lf])) := by rw [nz_id cel5, fs_tab_n (by decide)]; exact T1
  have u0 : ni_up h1 0 (ni_O 6 [.ref 1, .ref 2, .ref 9, .ref 16, .ref 23, .ref 29, .ref 31, .ref 32, .int 1, .int lf]) 0 = ni_O 6 [.ref 1, .ref 2, .ref 9, .ref 16, .ref 23, .ref 29, .ref 31, .ref 32, .int 1, .int lf] := up_s
  generalize ni_up h1 0 (ni_O 6 [.ref 1, .ref 2, .ref 9, .ref 16, .ref 23, .ref 29, .ref 31, .ref 32, .int 1, .int lf]) = h2 at fr N t22 hx T9 u0
  have N' := N
  obtain ⟨kT, k50, k57, k58, k59, k60, k61, k62, k63, k64, k65, k66, k67⟩ := N'
  have kT2 : fs_mtb mu (upd g 32 1) (ni_up h2 49 (fs_mo (upd g 32 1))) := mtb_g kT (fun i hi => ud_n (by omega))
  obtain ⟨kp', hkp, rm⟩ := M_allF_66 (z := z) kT2 (by rw [up_n (by decide)]; exact k66)
  have fr2 : ∀ i, i ≠ 49 → i ≠ 66 → ni_up (ni_up h2 49 (fs_mo (upd g 32 1))) 66 (ni_I 30 kp') i = h2 i := fun i a b => by rw [up_n b, up_n a]
  refine ⟨.int (nI n), h2, ni_up (ni_up h2 49 (fs_mo (upd g 32 1))) 66 (ni_I 30 kp'), hx, fun d Q => ?_, rfl, ?_⟩
  · have e0 : upd g 32 1 0 = nI n := by rw [ud_n (by decide)]; exact gn
    simp +decide only [s196_0, s196_1, s196_2, s196_5, s196_6, s196_7, s196_10, s196_11, s196_11N0, s196_14, s196_15, s196_18, kT.1, fit_z1, mi_0, mg_0, mi_1, mg_1, mi_2, mg_2, mi_3, mg_3, mi_4, mg_4, mi_5, mg_5, mi_6, mg_6, mi_7, mg_7, mi_8, mg_8, mi_9, mg_9, mi_10, mg_10, mi_11, mg_11, mi_12, mg_12, mi_13, mg_13, mi_14, mg_14, mi_15, mg_15, mi_16, mg_16, mi_17, mg_17, mi_18, mg_18, mi_19, mg_19, mi_20, mg_20, mi_21, mg_21, mi_22, mg_22, mi_23, mg_23, mi_24, mg_24, mi_25, mg_25, mi_26, mg_26, mi_27, mg_27, mi_28, mg_28, mi_29, mg_29, mi_30, mg_30, mi_31, mg_31, mi_32, mg_32, mq_0, mq_1, mq_2, mq_3, mq_4, mq_20, mq_21, mq_22, mq_23, mq_24, mq_27, mq_28, mq_29, mq_31, mq_32, mrc, ud_s, ud_n, ud_u, up_n, ↓reduceIte, kl_i, kl_r, kl_n, kl_a, kl_l, up_s, up_up, is_0, is_s, gv_0, gv_s, pv_o, rc_o, okI_i, okI_x, okS_i, okB_x, gi_i, pi_i, okL_l, gl_l, pl_l, okA_2, okA_3, ga_a, arr_0, arr_1, arr_10, arr_11, len_a, sw_0, sw_i, sw_r, sw_l, fit_i, fit_z0, fit_z1, nz_0, nz_1, ni_K_s, ni_K_n, Nat.ble_eq, Nat.zero_le, Nat.zero_add, true_and, and_true, and_self, Bool.and_true, Bool.true_and, Bool.and_self, not_true_eq_false, not_false_eq_true, Int32.reduceLE, Int32.reduceLT, Int32.reduceAdd, Int32.reduceSub, Int32.reduceToNatClampNeg, Nat.reduceLeDiff, Nat.reduceAdd, Nat.reduceEqDiff, Nat.reduceSub, List.set_cons_zero, List.set_cons_succ, false_and, and_false]
    simp +decide only [s196_0, s196_1, s196_2, s196_5, s196_6, s196_7, s196_10, s196_11, s196_11N0, s196_14, s196_15, s196_18, rm, e0, gn, up_n, mi_0, mg_0, mi_1, mg_1, mi_2, mg_2, mi_3, mg_3, mi_4, mg_4, mi_5, mg_5, mi_6, mg_6, mi_7, mg_7, mi_8, mg_8, mi_9, mg_9, mi_10, mg_10, mi_11, mg_11, mi_12, mg_12, mi_13, mg_13, mi_14, mg_14, mi_15, mg_15, mi_16, mg_16, mi_17, mg_17, mi_18, mg_18, mi_19, mg_19, mi_20, mg_20, mi_21, mg_21, mi_22, mg_22, mi_23, mg_23, mi_24, mg_24, mi_25, mg_25, mi_26, mg_26, mi_27, mg_27, mi_28, mg_28, mi_29, mg_29, mi_30, mg_30, mi_31, mg_31, mi_32, mg_32, mq_0, mq_1, mq_2, mq_3, mq_4, mq_20, mq_21, mq_22, mq_23, mq_24, mq_27, mq_28, mq_29, mq_31, mq_32, mrc, ud_s, ud_n, ud_u, up_n, ↓reduceIte, kl_i, kl_r, kl_n, kl_a, kl_l, up_s, up_up, is_0, is_s, gv_0, gv_s, pv_o, rc_o, okI_i, okI_x, okS_i, okB_x, gi_i, pi_i, okL_l, gl_l, pl_l, okA_2, okA_3, ga_a, arr_0, arr_1, arr_10, arr_11, len_a, sw_0, sw_i, sw_r, sw_l, fit_i, fit_z0, fit_z1, nz_0, nz_1, ni_K_s, ni_K_n, Nat.ble_eq, Nat.zero_le, Nat.zero_add, true_and, and_true, and_self, Bool.and_true, Bool.true_and, Bool.and_self, not_true_eq_false, not_false_eq_true, Int32.reduceLE, Int32.reduceLT, Int32.reduceAdd, Int32.reduceSub, Int32.reduceToNatClampNeg, Nat.reduceLeDiff, Nat.reduceAdd, Nat.reduceEqDiff, Nat.reduceSub, List.set_cons_zero, List.set_cons_succ, false_and, and_false]
  · generalize hh3 : ni_up (ni_up h2 49 (fs_mo (upd g 32 1))) 66 (ni_I 30 kp') = h3 at fr2
    have H3 : fs_mtb mu (upd g 32 1) h3 := by rw [← hh3]; exact mtb_h kT2 (fun i a b => up_n (by omega))
    have k3 : h3 66 = ni_I 30 kp' := by rw [← hh3]; exact up_s
    have fa : ∀ i, (i < 9 ∨ 16 ≤ i) → i ≠ 0 → i ≠ 49 → i ≠ 66 → h3 i = h i := fun i a b c d => by rw [fr2 i c d, fr i a b]
    refine ⟨(fun i hi => fa i (by omega) (by omega) (by omega) (by omega)), IE_h hE (fun i hi => fa i (by omega) (by omega) (by omega) (by omega)), n, w, 1, lf, u, u, mu, ran, tr, rf, hl, hd, so, szf, sh, kp', upd g 32 1, sz, ee, ce, ?_, ?_, ?_⟩
    · obtain ⟨e, e'⟩ := xD
      obtain ⟨l, m, o, p⟩ := x31
      exact ⟨by rw [fr2 _ (by omega) (by omega)]; exact u0, by rw [fa _ (by omega) (by omega) (by omega) (by omega)]; exact x1, fs_tab_h (k := 0) xT (fun i h1 h2 => fa i (by omega) (by omega) (by omega) (by omega)), fs_tab_h (k := 0) T9 (fun i h1 h2 => fr2 i (by omega) (by omega)), ⟨e, fs_tab_h (k := 0) e' (fun i h1 h2 => fa i (by omega) (by omega) (by omega) (by omega))⟩, mind_h xM (fun i h1 h2 => fa i (by omega) (by omega) (by omega) (by omega)), by rw [fa _ (by omega) (by omega) (by omega) (by omega)]; exact x29, by rw [fa _ (by omega) (by omega) (by omega) (by omega)]; exact x30, ⟨l, m, o, by rw [fa _ (by omega) (by omega) (by omega) (by omega)]; exact p⟩, by rw [fa _ (by omega) (by omega) (by omega) (by omega)]; exact x32, fun s hs => by rw [fa _ (by omega) (by omega) (by omega) (by omega)]; exact xS s hs, fun t ht => by rw [fa _ (by omega) (by omega) (by omega) (by omega)]; exact xL t ht⟩
    · obtain ⟨ca, hca⟩ := k62
      obtain ⟨wv, w1, w2⟩ := k63
      obtain ⟨te, hte⟩ := k64
      obtain ⟨wa, hwa⟩ := k65
      exact ⟨H3, by rw [fr2 _ (by omega) (by omega)]; exact k50, by rw [fr2 _ (by omega) (by omega)]; exact k57, by rw [fr2 _ (by omega) (by omega)]; exact k58, by rw [fr2 _ (by omega) (by omega)]; exact k59, by rw [fr2 _ (by omega) (by omega)]; exact k60, by rw [fr2 _ (by omega) (by omega)]; exact k61, ⟨ca, by rw [fr2 _ (by omega) (by omega)]; exact hca⟩, ⟨wv, by rw [fr2 _ (by omega) (by omega)]; exact w1, w2⟩, ⟨te, by rw [fr2 _ (by omega) (by omega)]; exact hte⟩, ⟨wa, by rw [fr2 _ (by omega) (by omega)]; exact hwa⟩, k3, by rw [fr2 _ (by omega) (by omega)]; exact k67⟩
    · have G := good_J pG (show J ≤ J + 100 by omega)
      exact ⟨G, pR, by rw [ud_n (by decide)]; exact p4, by rw [ud_n (by decide)]; exact p31, ud_s, pr, Or.inr ⟨rfl, n, w, mu, G, pR, hkp⟩, pS⟩
/-- what shelves hold once hands are fewer -/
def fs_rh (n : Nat) (hl sh : Nat → Int32) (s : Nat) : Nat → Int32 := fun t => if s ≤ t ∧ t < 8 ∧ hl t = 2 ∧ nI n ≤ sh t then 0 else hl t
theorem rh_s {n s : Nat} {hl sh : Nat → Int32} (hs : s < 8) (q : hl s = 2 ∧ nI n ≤ sh s) : fs_rh n (upd hl s 0) sh (s + 1) = fs_rh n hl sh s := by
  funext t
  unfold fs_rh
  by_cases e : t = s
  · subst e
    rw [if_neg (by omega), ud_s, if_pos ⟨Nat.le_refl _, hs, q⟩]
  · rw [ud_n e]
    by_cases c : s + 1 ≤ t ∧ t < 8 ∧ hl t = 2 ∧ nI n ≤ sh t
    · rw [if_pos c, if_pos ⟨by omega, c.2⟩]
    · rw [if_neg c, if_neg (fun x => c ⟨by omega, x.2⟩)]
theorem rh_n {n s : Nat} {hl sh : Nat → Int32} (q : ¬ (hl s = 2 ∧ nI n ≤ sh s)) : fs_rh n hl sh (s + 1) = fs_rh n hl sh s := by
  funext t
  unfold fs_rh
  by_cases e : t = s
  · subst e
    rw [if_neg (by omega), if_neg (fun x => q x.2.2)]
  · by_cases c : s + 1 ≤ t ∧ t < 8 ∧ hl t = 2 ∧ nI n ≤ sh t
    · rw [if_pos c, if_pos ⟨by omega, c.2⟩]
    · rw [if_neg c, if_neg (fun x => c ⟨by omega, x.2⟩)]
theorem L_xrs {im lf : Int32} {n : Nat} {w fa sd : Int32} {hd so sh : Nat → Int32} {sz : Nat → Nat} (n4 : n ≤ 4) : ∀ (m s : Nat) (hl : Nat → Int32) (h : ni_H), s + m = 8 → (∀ t, t < 8 → hl t = 2 → hd t = sh t ∧ ∃ k : Nat, k < 2 ^ 31 ∧ hd t = nI k) → h 0 = ni_O 6 [.ref 1, .ref 2, .ref 9, .ref 16, .ref 23, .ref 29, .ref 31, .ref 32, .int im, .int lf] → h 1 = ni_R 2 8 [some 33, some 35, some 37, some 39, some 41, some 43, some 45, some 47] → h 2 = ni_O 5 [.ref 3, .ref 4, .int (nI n), .int w, .int fa, .int sd] → h 4 = ni_R 3 4 [some 5, some 6, some 7, some 8] → (∀ s, s < 8 → h (33 + 2 * s) = ni_O 4 [.ref (33 + 2 * s + 1), .int (hl s), .int (hd s), .int (so s), .int (nI (sz s))]) → ∃ h' : ni_H, (∀ (d : Nat) (Q : ni_Q), ni_T (d + 2) 103 27 [.ref 0, .int (nI s)] [] z h Q = Q (some (.int (nI n))) z h') ∧ (∀ i, (∀ s, s < 8 → i ≠ 33 + 2 * s) → h' i = h i) ∧ (∀ t, t < 8 → h' (33 + 2 * t) = ni_O 4 [.ref (33 + 2 * t + 1), .int (fs_rh n hl sh s t), .int (hd t), .int (so t), .int (nI (sz t))]) := by
  intro m
  induction m with
  | zero =>
    intro s hl h e hh x0 x1 t2 t4 xS
    obtain rfl : s = 8 := by omega
    refine ⟨h, fun d Q => ?_, fun _ _ => rfl, fun t ht => ?_⟩
    · rw [s103_27]
      simp +decide only [s103_0, s103_1, s103_4, s103_7, s103_8, s103_10, s103_13, s103_14, s103_15, s103_18, s103_19, s103_22, s103_22N0, s103_25, s103_26, s103_28, s103_30, s103_33, s103_34, s103_37, s103_38, s103_39, s103_42, s103_43, s103_46, s103_47, s103_50, s103_51, s103_54, s103_55, s103_56, s103_59, s103_62N, s103_62, s103_65, s103_66, s103_69, s103_70, s103_71, s103_72, s103_75, s103_78, s103_81, s103_82, s103_85, s103_88, show nI 8 = 8 from rfl, x0, t2, ↓reduceIte, kl_i, kl_r, kl_n, kl_a, kl_l, up_s, up_up, is_0, is_s, gv_0, gv_s, pv_o, rc_o, okI_i, okI_x, okS_i, okB_x, gi_i, pi_i, okL_l, gl_l, pl_l, okA_2, okA_3, ga_a, arr_0, arr_1, arr_10, arr_11, len_a, sw_0, sw_i, sw_r, sw_l, fit_i, fit_z0, fit_z1, nz_0, nz_1, ni_K_s, ni_K_n, Nat.ble_eq, Nat.zero_le, Nat.zero_add, true_and, and_true, and_self, Bool.and_true, Bool.true_and, Bool.and_self, not_true_eq_false, not_false_eq_true, Int32.reduceLE, Int32.reduceLT, Int32.reduceAdd, Int32.reduceSub, Int32.reduceToNatClampNeg, Nat.reduceLeDiff, Nat.reduceAdd, Nat.reduceEqDiff, Nat.reduceSub, List.set_cons_zero, List.set_cons_succ, false_and, and_false]
    · have : fs_rh n hl sh 8 t = hl t := by unfold fs_rh; rw [if_neg (by omega)]
      rw [this]; exact xS t ht
  | succ m ih =>
    intro s hl h e hh x0 x1 t2 t4 xS
    have hs : s < 8 := by omega
    have q1 : ¬ (8 : Int32) ≤ nI s := nI_ge (a := s) (b := 8) hs (by decide)
    have hS := xS s hs
    have g8 := sh_8 hs
    by_cases c2 : hl s = 2
    · obtain ⟨e1, k, k1, e2⟩ := hh s hs c2
      by_cases c3 : nI n ≤ sh s
      · have hN := fun (d : Nat) (Q : ni_Q) => X_handN (t := 2) (d := d) (z := z) (Q := Q) (i := hd s) t2 (Or.inr (by rw [e1]; exact c3))
        obtain ⟨h', r, f, a⟩ := ih (s + 1) (upd hl s 0) (ni_up h (33 + 2 * s) (ni_O 4 [.ref (33 + 2 * s + 1), .int 0, .int (hd s), .int (so s), .int (nI (sz s))])) (by omega) (fun t ht q => by
          by_cases e : t = s
          · subst e; rw [ud_s] at q; exact absurd q (by decide)
          · rw [ud_n e] at q; exact hh t ht q) (by rw [up_n (by omega)]; exact x0) (by rw [up_n (by omega)]; exact x1) (by rw [up_n (by omega)]; exact t2) (by rw [up_n (by omega)]; exact t4) (fun t ht => by
          by_cases e : t = s
          · subst e; rw [up_s, ud_s]
          · rw [up_n (by omega), ud_n e]; exact xS t ht)
        refine ⟨h', fun d Q => ?_, fun i hi => by rw [f i hi, up_n (hi s hs)], fun t ht => by rw [a t ht, rh_s hs ⟨c2, c3⟩]⟩
        rw [s103_27]
        simp +decide only [s103_0, s103_1, s103_4, s103_7, s103_8, s103_10, s103_13, s103_14, s103_15, s103_18, s103_19, s103_22, s103_22N0, s103_25, s103_26, s103_28, s103_30, s103_33, s103_34, s103_37, s103_38, s103_39, s103_42, s103_43, s103_46, s103_47, s103_50, s103_51, s103_54, s103_55, s103_56, s103_59, s103_62N, s103_62, s103_65, s103_66, s103_69, s103_70, s103_71, s103_72, s103_75, s103_78, s103_81, s103_82, s103_85, s103_88, q1, x0, x1, t2, hS, c2, hN, g8, nI_1, r, in_n (k := s) (n := 8) hs (by decide), nI_clamp (n := s) (by omega), ↓reduceIte, kl_i, kl_r, kl_n, kl_a, kl_l, up_s, up_up, is_0, is_s, gv_0, gv_s, pv_o, rc_o, okI_i, okI_x, okS_i, okB_x, gi_i, pi_i, okL_l, gl_l, pl_l, okA_2, okA_3, ga_a, arr_0, arr_1, arr_10, arr_11, len_a, sw_0, sw_i, sw_r, sw_l, fit_i, fit_z0, fit_z1, nz_0, nz_1, ni_K_s, ni_K_n, Nat.ble_eq, Nat.zero_le, Nat.zero_add, true_and, and_true, and_self, Bool.and_true, Bool.true_and, Bool.and_self, not_true_eq_false, not_false_eq_true, Int32.reduceLE, Int32.reduceLT, Int32.reduceAdd, Int32.reduceSub, Int32.reduceToNatClampNeg, Nat.reduceLeDiff, Nat.reduceAdd, Nat.reduceEqDiff, Nat.reduceSub, List.set_cons_zero, List.set_cons_succ, false_and, and_false]
      · have hkn : k < n := by
          rcases Nat.lt_or_ge k n with q | q
          · exact q
          · exact absurd (by rw [← e1, e2]; exact nI_le q k1) c3
        have hN := fun (d : Nat) (Q : ni_Q) => X_handS (t := 2) (d := d) (z := z) (Q := Q) t2 t4 hkn n4
        rw [← e2] at hN
        obtain ⟨h', r, f, a⟩ := ih (s + 1) hl h (by omega) hh x0 x1 t2 t4 xS
        refine ⟨h', fun d Q => ?_, f, fun t ht => by rw [a t ht, rh_n (fun x => c3 x.2)]⟩
        rw [s103_27]
        simp +decide only [s103_0, s103_1, s103_4, s103_7, s103_8, s103_10, s103_13, s103_14, s103_15, s103_18, s103_19, s103_22, s103_22N0, s103_25, s103_26, s103_28, s103_30, s103_33, s103_34, s103_37, s103_38, s103_39, s103_42, s103_43, s103_46, s103_47, s103_50, s103_51, s103_54, s103_55, s103_56, s103_59, s103_62N, s103_62, s103_65, s103_66, s103_69, s103_70, s103_71, s103_72, s103_75, s103_78, s103_81, s103_82, s103_85, s103_88, q1, x0, x1, t2, hS, c2, hN, g8, nI_1, r, in_n (k := s) (n := 8) hs (by decide), nI_clamp (n := s) (by omega), ↓reduceIte, kl_i, kl_r, kl_n, kl_a, kl_l, up_s, up_up, is_0, is_s, gv_0, gv_s, pv_o, rc_o, okI_i, okI_x, okS_i, okB_x, gi_i, pi_i, okL_l, gl_l, pl_l, okA_2, okA_3, ga_a, arr_0, arr_1, arr_10, arr_11, len_a, sw_0, sw_i, sw_r, sw_l, fit_i, fit_z0, fit_z1, nz_0, nz_1, ni_K_s, ni_K_n, Nat.ble_eq, Nat.zero_le, Nat.zero_add, true_and, and_true, and_self, Bool.and_true, Bool.true_and, Bool.and_self, not_true_eq_false, not_false_eq_true, Int32.reduceLE, Int32.reduceLT, Int32.reduceAdd, Int32.reduceSub, Int32.reduceToNatClampNeg, Nat.reduceLeDiff, Nat.reduceAdd, Nat.reduceEqDiff, Nat.reduceSub, List.set_cons_zero, List.set_cons_succ, false_and, and_false]
    · obtain ⟨h', r, f, a⟩ := ih (s + 1) hl h (by omega) hh x0 x1 t2 t4 xS
      refine ⟨h', fun d Q => ?_, f, fun t ht => by rw [a t ht, rh_n (fun x => c2 x.1)]⟩
      rw [s103_27]
      simp +decide only [s103_0, s103_1, s103_4, s103_7, s103_8, s103_10, s103_13, s103_14, s103_15, s103_18, s103_19, s103_22, s103_22N0, s103_25, s103_26, s103_28, s103_30, s103_33, s103_34, s103_37, s103_38, s103_39, s103_42, s103_43, s103_46, s103_47, s103_50, s103_51, s103_54, s103_55, s103_56, s103_59, s103_62N, s103_62, s103_65, s103_66, s103_69, s103_70, s103_71, s103_72, s103_75, s103_78, s103_81, s103_82, s103_85, s103_88, q1, x0, x1, hS, c2, g8, nI_1, r, in_n (k := s) (n := 8) hs (by decide), nI_clamp (n := s) (by omega), ↓reduceIte, kl_i, kl_r, kl_n, kl_a, kl_l, up_s, up_up, is_0, is_s, gv_0, gv_s, pv_o, rc_o, okI_i, okI_x, okS_i, okB_x, gi_i, pi_i, okL_l, gl_l, pl_l, okA_2, okA_3, ga_a, arr_0, arr_1, arr_10, arr_11, len_a, sw_0, sw_i, sw_r, sw_l, fit_i, fit_z0, fit_z1, nz_0, nz_1, ni_K_s, ni_K_n, Nat.ble_eq, Nat.zero_le, Nat.zero_add, true_and, and_true, and_self, Bool.and_true, Bool.true_and, Bool.and_self, not_true_eq_false, not_false_eq_true, Int32.reduceLE, Int32.reduceLT, Int32.reduceAdd, Int32.reduceSub, Int32.reduceToNatClampNeg, Nat.reduceLeDiff, Nat.reduceAdd, Nat.reduceEqDiff, Nat.reduceSub, List.set_cons_zero, List.set_cons_succ, false_and, and_false]
theorem L_mrs {n : Nat} {g sh : Nat → Int32} (gn : g 0 = nI n) : ∀ (m s : Nat) (hl : Nat → Int32) (h : ni_H), s + m = 8 → h 49 = fs_mo g → h 57 = ni_I 8 hl → h 60 = ni_I 8 sh → ∀ (d : Nat) (Q : ni_Q), ni_T d 197 25 [.ref 49, .int (nI s)] [] z h Q = Q (some (.int (nI n))) z (ni_up h 57 (ni_I 8 (fs_rh n hl sh s))) := by
  intro m
  induction m with
  | zero =>
    intro s hl h e hM hL hS d Q
    obtain rfl : s = 8 := by omega
    have e1 : fs_rh n hl sh 8 = hl := by funext t; unfold fs_rh; rw [if_neg (by omega)]
    rw [s197_25]
    simp +decide only [s197_0, s197_1, s197_4, s197_7, s197_8, s197_10, s197_13, s197_14, s197_15, s197_16, s197_19, s197_20, s197_20N0, s197_23, s197_24, s197_26, s197_28, s197_31, s197_32, s197_35, s197_36, s197_37, s197_38, s197_41, s197_42, s197_45, s197_46, s197_47, s197_48, s197_51, s197_54, s197_55, s197_58, s197_59, s197_60, s197_61, s197_64, s197_67, s197_68, s197_71, show nI 8 = 8 from rfl, hM, gn, mi_0, mg_0, mi_1, mg_1, mi_2, mg_2, mi_3, mg_3, mi_4, mg_4, mi_5, mg_5, mi_6, mg_6, mi_7, mg_7, mi_8, mg_8, mi_9, mg_9, mi_10, mg_10, mi_11, mg_11, mi_12, mg_12, mi_13, mg_13, mi_14, mg_14, mi_15, mg_15, mi_16, mg_16, mi_17, mg_17, mi_18, mg_18, mi_19, mg_19, mi_20, mg_20, mi_21, mg_21, mi_22, mg_22, mi_23, mg_23, mi_24, mg_24, mi_25, mg_25, mi_26, mg_26, mi_27, mg_27, mi_28, mg_28, mi_29, mg_29, mi_30, mg_30, mi_31, mg_31, mi_32, mg_32, mq_0, mq_1, mq_2, mq_3, mq_4, mq_20, mq_21, mq_22, mq_23, mq_24, mq_27, mq_28, mq_29, mq_31, mq_32, mrc, ud_s, ud_n, ud_u, up_n, ↓reduceIte, kl_i, kl_r, kl_n, kl_a, kl_l, up_s, up_up, is_0, is_s, gv_0, gv_s, pv_o, rc_o, okI_i, okI_x, okS_i, okB_x, gi_i, pi_i, okL_l, gl_l, pl_l, okA_2, okA_3, ga_a, arr_0, arr_1, arr_10, arr_11, len_a, sw_0, sw_i, sw_r, sw_l, fit_i, fit_z0, fit_z1, nz_0, nz_1, ni_K_s, ni_K_n, Nat.ble_eq, Nat.zero_le, Nat.zero_add, true_and, and_true, and_self, Bool.and_true, Bool.true_and, Bool.and_self, not_true_eq_false, not_false_eq_true, Int32.reduceLE, Int32.reduceLT, Int32.reduceAdd, Int32.reduceSub, Int32.reduceToNatClampNeg, Nat.reduceLeDiff, Nat.reduceAdd, Nat.reduceEqDiff, Nat.reduceSub, List.set_cons_zero, List.set_cons_succ, false_and, and_false]
    rw [e1, up_id hL]
  | succ m ih =>
    intro s hl h e hM hL hS d Q
    have hs : s < 8 := by omega
    have q1 : ¬ (8 : Int32) ≤ nI s := nI_ge (a := s) (b := 8) hs (by decide)
    rw [s197_25]
    by_cases c2 : hl s = 2
    · by_cases c3 : nI n ≤ sh s
      · have c3' : ¬ sh s < nI n := Int32.not_lt.mpr c3
        simp +decide only [s197_0, s197_1, s197_4, s197_7, s197_8, s197_10, s197_13, s197_14, s197_15, s197_16, s197_19, s197_20, s197_20N0, s197_23, s197_24, s197_26, s197_28, s197_31, s197_32, s197_35, s197_36, s197_37, s197_38, s197_41, s197_42, s197_45, s197_46, s197_47, s197_48, s197_51, s197_54, s197_55, s197_58, s197_59, s197_60, s197_61, s197_64, s197_67, s197_68, s197_71, q1, hM, hL, hS, gn, c2, c3, c3', nI_1, in_n (k := s) (n := 8) hs (by decide), nI_clamp (n := s) (by omega), mi_0, mg_0, mi_1, mg_1, mi_2, mg_2, mi_3, mg_3, mi_4, mg_4, mi_5, mg_5, mi_6, mg_6, mi_7, mg_7, mi_8, mg_8, mi_9, mg_9, mi_10, mg_10, mi_11, mg_11, mi_12, mg_12, mi_13, mg_13, mi_14, mg_14, mi_15, mg_15, mi_16, mg_16, mi_17, mg_17, mi_18, mg_18, mi_19, mg_19, mi_20, mg_20, mi_21, mg_21, mi_22, mg_22, mi_23, mg_23, mi_24, mg_24, mi_25, mg_25, mi_26, mg_26, mi_27, mg_27, mi_28, mg_28, mi_29, mg_29, mi_30, mg_30, mi_31, mg_31, mi_32, mg_32, mq_0, mq_1, mq_2, mq_3, mq_4, mq_20, mq_21, mq_22, mq_23, mq_24, mq_27, mq_28, mq_29, mq_31, mq_32, mrc, ud_s, ud_n, ud_u, up_n, ↓reduceIte, kl_i, kl_r, kl_n, kl_a, kl_l, up_s, up_up, is_0, is_s, gv_0, gv_s, pv_o, rc_o, okI_i, okI_x, okS_i, okB_x, gi_i, pi_i, okL_l, gl_l, pl_l, okA_2, okA_3, ga_a, arr_0, arr_1, arr_10, arr_11, len_a, sw_0, sw_i, sw_r, sw_l, fit_i, fit_z0, fit_z1, nz_0, nz_1, ni_K_s, ni_K_n, Nat.ble_eq, Nat.zero_le, Nat.zero_add, true_and, and_true, and_self, Bool.and_true, Bool.true_and, Bool.and_self, not_true_eq_false, not_false_eq_true, Int32.reduceLE, Int32.reduceLT, Int32.reduceAdd, Int32.reduceSub, Int32.reduceToNatClampNeg, Nat.reduceLeDiff, Nat.reduceAdd, Nat.reduceEqDiff, Nat.reduceSub, List.set_cons_zero, List.set_cons_succ, false_and, and_false]
        rw [ih (s + 1) (upd hl s 0) _ (by omega) (by rw [up_n (by decide)]; exact hM) up_s (by rw [up_n (by decide)]; exact hS), up_up, rh_s hs ⟨c2, c3⟩]
      · have c3' : sh s < nI n := Int32.not_le.mp c3
        simp +decide only [s197_0, s197_1, s197_4, s197_7, s197_8, s197_10, s197_13, s197_14, s197_15, s197_16, s197_19, s197_20, s197_20N0, s197_23, s197_24, s197_26, s197_28, s197_31, s197_32, s197_35, s197_36, s197_37, s197_38, s197_41, s197_42, s197_45, s197_46, s197_47, s197_48, s197_51, s197_54, s197_55, s197_58, s197_59, s197_60, s197_61, s197_64, s197_67, s197_68, s197_71, q1, hM, hL, hS, gn, c2, c3, c3', nI_1, in_n (k := s) (n := 8) hs (by decide), nI_clamp (n := s) (by omega), mi_0, mg_0, mi_1, mg_1, mi_2, mg_2, mi_3, mg_3, mi_4, mg_4, mi_5, mg_5, mi_6, mg_6, mi_7, mg_7, mi_8, mg_8, mi_9, mg_9, mi_10, mg_10, mi_11, mg_11, mi_12, mg_12, mi_13, mg_13, mi_14, mg_14, mi_15, mg_15, mi_16, mg_16, mi_17, mg_17, mi_18, mg_18, mi_19, mg_19, mi_20, mg_20, mi_21, mg_21, mi_22, mg_22, mi_23, mg_23, mi_24, mg_24, mi_25, mg_25, mi_26, mg_26, mi_27, mg_27, mi_28, mg_28, mi_29, mg_29, mi_30, mg_30, mi_31, mg_31, mi_32, mg_32, mq_0, mq_1, mq_2, mq_3, mq_4, mq_20, mq_21, mq_22, mq_23, mq_24, mq_27, mq_28, mq_29, mq_31, mq_32, mrc, ud_s, ud_n, ud_u, up_n, ↓reduceIte, kl_i, kl_r, kl_n, kl_a, kl_l, up_s, up_up, is_0, is_s, gv_0, gv_s, pv_o, rc_o, okI_i, okI_x, okS_i, okB_x, gi_i, pi_i, okL_l, gl_l, pl_l, okA_2, okA_3, ga_a, arr_0, arr_1, arr_10, arr_11, len_a, sw_0, sw_i, sw_r, sw_l, fit_i, fit_z0, fit_z1, nz_0, nz_1, ni_K_s, ni_K_n, Nat.ble_eq, Nat.zero_le, Nat.zero_add, true_and, and_true, and_self, Bool.and_true, Bool.true_and, Bool.and_self, not_true_eq_false, not_false_eq_true, Int32.reduceLE, Int32.reduceLT, Int32.reduceAdd, Int32.reduceSub, Int32.reduceToNatClampNeg, Nat.reduceLeDiff, Nat.reduceAdd, Nat.reduceEqDiff, Nat.reduceSub, List.set_cons_zero, List.set_cons_succ, false_and, and_false]
        rw [ih (s + 1) hl h (by omega) hM hL hS, rh_n (fun x => c3 x.2)]
    · simp +decide only [s197_0, s197_1, s197_4, s197_7, s197_8, s197_10, s197_13, s197_14, s197_15, s197_16, s197_19, s197_20, s197_20N0, s197_23, s197_24, s197_26, s197_28, s197_31, s197_32, s197_35, s197_36, s197_37, s197_38, s197_41, s197_42, s197_45, s197_46, s197_47, s197_48, s197_51, s197_54, s197_55, s197_58, s197_59, s197_60, s197_61, s197_64, s197_67, s197_68, s197_71, q1, hM, hL, c2, nI_1, in_n (k := s) (n := 8) hs (by decide), nI_clamp (n := s) (by omega), mi_0, mg_0, mi_1, mg_1, mi_2, mg_2, mi_3, mg_3, mi_4, mg_4, mi_5, mg_5, mi_6, mg_6, mi_7, mg_7, mi_8, mg_8, mi_9, mg_9, mi_10, mg_10, mi_11, mg_11, mi_12, mg_12, mi_13, mg_13, mi_14, mg_14, mi_15, mg_15, mi_16, mg_16, mi_17, mg_17, mi_18, mg_18, mi_19, mg_19, mi_20, mg_20, mi_21, mg_21, mi_22, mg_22, mi_23, mg_23, mi_24, mg_24, mi_25, mg_25, mi_26, mg_26, mi_27, mg_27, mi_28, mg_28, mi_29, mg_29, mi_30, mg_30, mi_31, mg_31, mi_32, mg_32, mq_0, mq_1, mq_2, mq_3, mq_4, mq_20, mq_21, mq_22, mq_23, mq_24, mq_27, mq_28, mq_29, mq_31, mq_32, mrc, ud_s, ud_n, ud_u, up_n, ↓reduceIte, kl_i, kl_r, kl_n, kl_a, kl_l, up_s, up_up, is_0, is_s, gv_0, gv_s, pv_o, rc_o, okI_i, okI_x, okS_i, okB_x, gi_i, pi_i, okL_l, gl_l, pl_l, okA_2, okA_3, ga_a, arr_0, arr_1, arr_10, arr_11, len_a, sw_0, sw_i, sw_r, sw_l, fit_i, fit_z0, fit_z1, nz_0, nz_1, ni_K_s, ni_K_n, Nat.ble_eq, Nat.zero_le, Nat.zero_add, true_and, and_true, and_self, Bool.and_true, Bool.true_and, Bool.and_self, not_true_eq_false, not_false_eq_true, Int32.reduceLE, Int32.reduceLT, Int32.reduceAdd, Int32.reduceSub, Int32.reduceToNatClampNeg, Nat.reduceLeDiff, Nat.reduceAdd, Nat.reduceEqDiff, Nat.reduceSub, List.set_cons_zero, List.set_cons_succ, false_and, and_false]
      rw [ih (s + 1) hl h (by omega) hM hL hS, rh_n (fun x => c2 x.1)]
theorem C_restore : fs_Inv J h → fs_C J z 103 197 [.ref 0, .retAddr 0] [.ref 49, .retAddr 0] h := by
  intro hI
  obtain ⟨hE, n, w, im, lf, u, v, mu, ran, tr, rf, hl, hd, so, szf, sh, kp, g, sz, ee, ce, X, M, P⟩ := hI
  have X' := X
  have M' := M
  have P' := P
  obtain ⟨x0, x1, xT, xV, xD, xM, x29, x30, x31, x32, xS, xL⟩ := X'
  obtain ⟨mT, m50, m57, m58, m59, m60, m61, m62, m63, m64, m65, m66, m67⟩ := M'
  have mT' := mT
  obtain ⟨m49, m51, m52, m53, m54, m55, m56, g0, g1, g2, g3⟩ := mT'
  have xT' := xT
  obtain ⟨t2, t3, t4, tH⟩ := xT'
  obtain ⟨pG, pR, p4, p31, p32, pr, pI, pS⟩ := P'
  have pG' := pG
  obtain ⟨u60, n4, u61, wn, cel, cel5, cdis, hnd⟩ := pG'
  have pR' := pR
  obtain ⟨r6, r0, rH⟩ := pR'
  have gn : g 0 = nI n := (g0.trans (r6 0 (by decide))).trans u60
  have gw : g 1 = nI w := (g1.trans (r6 1 (by decide))).trans u61
  have gf : g 2 = u 6 2 := g2.trans (r6 2 (by decide))
  have gs : g 3 = u 6 3 := g3.trans (r6 3 (by decide))
  rw [u60, u61] at t2
  rw [r0] at m56
  simp only [Nat.reduceAdd] at t2 t3 t4
  rcases pI with i0 | ⟨i1, n', w', mv, vG, vR, vK⟩
  · subst i0
    refine C_r hE X M P (r := .int (-6)) (c := -6) (fun d Q => ?_) (fun h' N d Q => ?_)
    · simp +decide only [s103_0, s103_1, s103_4, s103_7, s103_8, s103_10, s103_13, s103_14, s103_15, s103_18, s103_19, s103_22, s103_22N0, s103_25, s103_26, s103_27, s103_28, s103_30, s103_33, s103_34, s103_37, s103_38, s103_39, s103_42, s103_43, s103_46, s103_47, s103_50, s103_51, s103_54, s103_55, s103_56, s103_59, s103_62N, s103_62, s103_65, s103_66, s103_69, s103_70, s103_71, s103_72, s103_75, s103_78, s103_81, s103_82, s103_85, s103_88, x0, t2,  X_refuse x0 x32 no_6, ↓reduceIte, kl_i, kl_r, kl_n, kl_a, kl_l, up_s, up_up, is_0, is_s, gv_0, gv_s, pv_o, rc_o, okI_i, okI_x, okS_i, okB_x, gi_i, pi_i, okL_l, gl_l, pl_l, okA_2, okA_3, ga_a, arr_0, arr_1, arr_10, arr_11, len_a, sw_0, sw_i, sw_r, sw_l, fit_i, fit_z0, fit_z1, nz_0, nz_1, ni_K_s, ni_K_n, Nat.ble_eq, Nat.zero_le, Nat.zero_add, true_and, and_true, and_self, Bool.and_true, Bool.true_and, Bool.and_self, not_true_eq_false, not_false_eq_true, Int32.reduceLE, Int32.reduceLT, Int32.reduceAdd, Int32.reduceSub, Int32.reduceToNatClampNeg, Nat.reduceLeDiff, Nat.reduceAdd, Nat.reduceEqDiff, Nat.reduceSub, List.set_cons_zero, List.set_cons_succ, false_and, and_false]
    · obtain ⟨⟨k49, k51, k52, k53, k54, k55, k56, -, -, -, -⟩, k50, k57, k58, k59, k60, k61, k62, k63, k64, k65, k66, k67⟩ := N
      rw [r0] at k56
      simp +decide only [s197_0, s197_1, s197_4, s197_7, s197_8, s197_10, s197_13, s197_14, s197_15, s197_16, s197_19, s197_20, s197_20N0, s197_23, s197_24, s197_25, s197_26, s197_28, s197_31, s197_32, s197_35, s197_36, s197_37, s197_38, s197_41, s197_42, s197_45, s197_46, s197_47, s197_48, s197_51, s197_54, s197_55, s197_58, s197_59, s197_60, s197_61, s197_64, s197_67, s197_68, s197_71, k49, gn, fs_b, p32, M_no k49 k50 no_6, Bool.false_eq_true, mi_0, mg_0, mi_1, mg_1, mi_2, mg_2, mi_3, mg_3, mi_4, mg_4, mi_5, mg_5, mi_6, mg_6, mi_7, mg_7, mi_8, mg_8, mi_9, mg_9, mi_10, mg_10, mi_11, mg_11, mi_12, mg_12, mi_13, mg_13, mi_14, mg_14, mi_15, mg_15, mi_16, mg_16, mi_17, mg_17, mi_18, mg_18, mi_19, mg_19, mi_20, mg_20, mi_21, mg_21, mi_22, mg_22, mi_23, mg_23, mi_24, mg_24, mi_25, mg_25, mi_26, mg_26, mi_27, mg_27, mi_28, mg_28, mi_29, mg_29, mi_30, mg_30, mi_31, mg_31, mi_32, mg_32, mq_0, mq_1, mq_2, mq_3, mq_4, mq_20, mq_21, mq_22, mq_23, mq_24, mq_27, mq_28, mq_29, mq_31, mq_32, mrc, ud_s, ud_n, ud_u, up_n, ↓reduceIte, kl_i, kl_r, kl_n, kl_a, kl_l, up_s, up_up, is_0, is_s, gv_0, gv_s, pv_o, rc_o, okI_i, okI_x, okS_i, okB_x, gi_i, pi_i, okL_l, gl_l, pl_l, okA_2, okA_3, ga_a, arr_0, arr_1, arr_10, arr_11, len_a, sw_0, sw_i, sw_r, sw_l, fit_i, fit_z0, fit_z1, nz_0, nz_1, ni_K_s, ni_K_n, Nat.ble_eq, Nat.zero_le, Nat.zero_add, true_and, and_true, and_self, Bool.and_true, Bool.true_and, Bool.and_self, not_true_eq_false, not_false_eq_true, Int32.reduceLE, Int32.reduceLT, Int32.reduceAdd, Int32.reduceSub, Int32.reduceToNatClampNeg, Nat.reduceLeDiff, Nat.reduceAdd, Nat.reduceEqDiff, Nat.reduceSub, List.set_cons_zero, List.set_cons_succ, false_and, and_false]
  · subst i1
    have hv5 := vG.2.2.2.2.2.1
    rw [nz_id hv5] at xV
    obtain ⟨h1, r1, f1, T1⟩ := XC_2_9 (z := z) xT xV cel5 hv5
    have vG' := vG
    obtain ⟨v60, v4, v61, vw, vcel, vcel5, vcdis, vhnd⟩ := vG'
    have T1' := T1
    obtain ⟨b2, b3, b4, bH⟩ := T1'
    rw [v60, v61] at b2
    simp only [Nat.reduceAdd] at b2 b3 b4
    have V9 := xV.1
    simp only [Nat.reduceAdd] at V9
    obtain ⟨h2, r2, f2, a2⟩ := L_xrs (z := z) (sh := sh) (hd := hd) (so := so) (sz := sz) v4 8 0 hl h1 rfl (fun t ht q => by
      obtain ⟨_, _, _, _, s5, _⟩ := pS t ht
      obtain ⟨e5, k, hk, ek⟩ := s5 q
      exact ⟨e5, k, by omega, ek⟩) ((f1 0 (by omega)).trans x0) ((f1 1 (by omega)).trans x1) b2 b4 (fun s hs => (f1 _ (by omega)).trans (xS s hs))
    rw [nI_0] at r2
    have f12 : ∀ i, (i < 2 ∨ 9 ≤ i) → (∀ s, s < 8 → i ≠ 33 + 2 * s) → h2 i = h i := fun i a b => by rw [f2 i b, f1 i (by omega)]
    have N : fs_IM h2 g mu tr rf hl so szf sh kp ce := IM_h M (fun i a b => f12 i (by omega) (fun s hs => by omega))
    have N' := N
    obtain ⟨kT, k50, k57, k58, k59, k60, k61, k62, k63, k64, k65, k66, k67⟩ := N'
    obtain ⟨h3, g', mu', r3, f3, H3, e1, e2, e3, e4, gk⟩ := M_allB_66 (z := z) kT k66 vK
    have gn' : g' 0 = nI n' := by rw [H3.2.2.2.2.2.2.2.1, e4 0 (by decide), vR.1 0 (by decide)]; exact v60
    have rm := fun (d : Nat) (Q : ni_Q) => L_mrs (z := z) gn' 8 0 hl h3 rfl H3.1 ((f3 57 (by omega) (by omega)).trans k57) ((f3 60 (by omega) (by omega)).trans k60) d Q
    rw [nI_0] at rm
    have R' : fs_rel n' v mu' := by
      refine ⟨fun i hi => by rw [e4 i hi]; exact vR.1 i hi, ?_, fun i k a b c => by rw [e1 i k a b (by omega)]; exact vR.2.2 i k a b c⟩
      funext j
      rcases Nat.lt_or_ge j 5 with q | q
      · rw [e2 j q, vR.2.1]
      · rw [e3 j q, r0, cel5 j q, vcel5 j q]
    have fb : ∀ i, (i < 2 ∨ 9 ≤ i) → (∀ s, s < 8 → i ≠ 33 + 2 * s) → i ≠ 49 → (i < 51 ∨ 58 ≤ i) → ni_up h3 57 (ni_I 8 (fs_rh n' hl sh 0)) i = h i := fun i a b c d => by rw [up_n (by omega), f3 i c (by omega), f12 i a b]
    refine ⟨.int (nI n'), h2, ni_up h3 57 (ni_I 8 (fs_rh n' hl sh 0)), fun d Q => ?_, fun d Q => ?_, rfl, ?_⟩
    · simp +decide only [s103_0, s103_1, s103_4, s103_7, s103_8, s103_10, s103_13, s103_14, s103_15, s103_18, s103_19, s103_22, s103_22N0, s103_25, s103_26, s103_28, s103_30, s103_33, s103_34, s103_37, s103_38, s103_39, s103_42, s103_43, s103_46, s103_47, s103_50, s103_51, s103_54, s103_55, s103_56, s103_59, s103_62N, s103_62, s103_65, s103_66, s103_69, s103_70, s103_71, s103_72, s103_75, s103_78, s103_81, s103_82, s103_85, s103_88, x0, t2, V9, r1, r2, ↓reduceIte, kl_i, kl_r, kl_n, kl_a, kl_l, up_s, up_up, is_0, is_s, gv_0, gv_s, pv_o, rc_o, okI_i, okI_x, okS_i, okB_x, gi_i, pi_i, okL_l, gl_l, pl_l, okA_2, okA_3, ga_a, arr_0, arr_1, arr_10, arr_11, len_a, sw_0, sw_i, sw_r, sw_l, fit_i, fit_z0, fit_z1, nz_0, nz_1, ni_K_s, ni_K_n, Nat.ble_eq, Nat.zero_le, Nat.zero_add, true_and, and_true, and_self, Bool.and_true, Bool.true_and, Bool.and_self, not_true_eq_false, not_false_eq_true, Int32.reduceLE, Int32.reduceLT, Int32.reduceAdd, Int32.reduceSub, Int32.reduceToNatClampNeg, Nat.reduceLeDiff, Nat.reduceAdd, Nat.reduceEqDiff, Nat.reduceSub, List.set_cons_zero, List.set_cons_succ, false_and, and_false]
    · simp +decide only [s197_0, s197_1, s197_4, s197_7, s197_8, s197_10, s197_13, s197_14, s197_15, s197_16, s197_19, s197_20, s197_20N0, s197_23, s197_24, s197_26, s197_28, s197_31, s197_32, s197_35, s197_36, s197_37, s197_38, s197_41, s197_42, s197_45, s197_46, s197_47, s197_48, s197_51, s197_54, s197_55, s197_58, s197_59, s197_60, s197_61, s197_64, s197_67, s197_68, s197_71, kT.1, p32, r3, rm, mi_0, mg_0, mi_1, mg_1, mi_2, mg_2, mi_3, mg_3, mi_4, mg_4, mi_5, mg_5, mi_6, mg_6, mi_7, mg_7, mi_8, mg_8, mi_9, mg_9, mi_10, mg_10, mi_11, mg_11, mi_12, mg_12, mi_13, mg_13, mi_14, mg_14, mi_15, mg_15, mi_16, mg_16, mi_17, mg_17, mi_18, mg_18, mi_19, mg_19, mi_20, mg_20, mi_21, mg_21, mi_22, mg_22, mi_23, mg_23, mi_24, mg_24, mi_25, mg_25, mi_26, mg_26, mi_27, mg_27, mi_28, mg_28, mi_29, mg_29, mi_30, mg_30, mi_31, mg_31, mi_32, mg_32, mq_0, mq_1, mq_2, mq_3, mq_4, mq_20, mq_21, mq_22, mq_23, mq_24, mq_27, mq_28, mq_29, mq_31, mq_32, mrc, ud_s, ud_n, ud_u, up_n, ↓reduceIte, kl_i, kl_r, kl_n, kl_a, kl_l, up_s, up_up, is_0, is_s, gv_0, gv_s, pv_o, rc_o, okI_i, okI_x, okS_i, okB_x, gi_i, pi_i, okL_l, gl_l, pl_l, okA_2, okA_3, ga_a, arr_0, arr_1, arr_10, arr_11, len_a, sw_0, sw_i, sw_r, sw_l, fit_i, fit_z0, fit_z1, nz_0, nz_1, ni_K_s, ni_K_n, Nat.ble_eq, Nat.zero_le, Nat.zero_add, true_and, and_true, and_self, Bool.and_true, Bool.true_and, Bool.and_self, not_true_eq_false, not_false_eq_true, Int32.reduceLE, Int32.reduceLT, Int32.reduceAdd, Int32.reduceSub, Int32.reduceToNatClampNeg, Nat.reduceLeDiff, Nat.reduceAdd, Nat.reduceEqDiff, Nat.reduceSub, List.set_cons_zero, List.set_cons_succ, false_and, and_false]
    · generalize hh4 : ni_up h3 57 (ni_I 8 (fs_rh n' hl sh 0)) = h4 at fb
      have f34 : ∀ i, i ≠ 57 → h4 i = h3 i := fun i hi => by rw [← hh4, up_n hi]
      have f24 : ∀ i, i ≠ 49 → i < 51 → h4 i = h2 i := fun i a b => by rw [f34 i (by omega), f3 i a (by omega)]
      refine ⟨(fun i hi => fb i (by omega) (fun s hs => by omega) (by omega) (by omega)), IE_h hE (fun i hi => fb i (by omega) (fun s hs => by omega) (by omega) (by omega)), n', w', 1, lf, v, v, mu', ran, tr, rf, fs_rh n' hl sh 0, hd, so, szf, sh, kp, g', sz, ee, ce, ?_, ?_, ?_⟩
      · obtain ⟨e, e'⟩ := xD
        obtain ⟨l, m, o, p⟩ := x31
        exact ⟨by rw [fb _ (by omega) (fun s hs => by omega) (by omega) (by omega)]; exact x0, by rw [fb _ (by omega) (fun s hs => by omega) (by omega) (by omega)]; exact x1, fs_tab_h (k := 0) T1 (fun i a b => by rw [f24 i (by omega) (by omega), f2 i (fun s hs => by omega)]), by rw [nz_id vcel5]; exact fs_tab_h (k := 0) xV (fun i h1 h2 => fb i (by omega) (fun s hs => by omega) (by omega) (by omega)), ⟨e, fs_tab_h (k := 0) e' (fun i h1 h2 => fb i (by omega) (fun s hs => by omega) (by omega) (by omega))⟩, mind_h xM (fun i h1 h2 => fb i (by omega) (fun s hs => by omega) (by omega) (by omega)), by rw [fb _ (by omega) (fun s hs => by omega) (by omega) (by omega)]; exact x29, by rw [fb _ (by omega) (fun s hs => by omega) (by omega) (by omega)]; exact x30, ⟨l, m, o, by rw [fb _ (by omega) (fun s hs => by omega) (by omega) (by omega)]; exact p⟩, by rw [fb _ (by omega) (fun s hs => by omega) (by omega) (by omega)]; exact x32, fun s hs => by rw [f24 _ (by omega) (by omega)]; exact a2 s hs, fun t ht => by rw [fb _ (by omega) (fun s hs => by omega) (by omega) (by omega)]; exact xL t ht⟩
      · obtain ⟨ca, hca⟩ := k62
        obtain ⟨wv, w1, w2⟩ := k63
        obtain ⟨te, hte⟩ := k64
        obtain ⟨wa, hwa⟩ := k65
        have fc : ∀ i, i ≠ 49 → i ≠ 57 → (i < 51 ∨ 57 ≤ i) → h4 i = h2 i := fun i a b c => by rw [f34 i b, f3 i a c]
        exact ⟨mtb_h H3 (fun i a b => f34 i (by omega)), by rw [fc _ (by omega) (by omega) (by omega)]; exact k50, by rw [← hh4]; exact up_s, by rw [fc _ (by omega) (by omega) (by omega)]; exact k58, by rw [fc _ (by omega) (by omega) (by omega)]; exact k59, by rw [fc _ (by omega) (by omega) (by omega)]; exact k60, by rw [fc _ (by omega) (by omega) (by omega)]; exact k61, ⟨ca, by rw [fc _ (by omega) (by omega) (by omega)]; exact hca⟩, ⟨wv, by rw [fc _ (by omega) (by omega) (by omega)]; exact w1, w2⟩, ⟨te, by rw [fc _ (by omega) (by omega) (by omega)]; exact hte⟩, ⟨wa, by rw [fc _ (by omega) (by omega) (by omega)]; exact hwa⟩, by rw [fc _ (by omega) (by omega) (by omega)]; exact k66, by rw [fc _ (by omega) (by omega) (by omega)]; exact k67⟩
      · have G := good_J vG (show J ≤ J + 100 by omega)
        refine ⟨G, R', (gk _ (by decide) (by decide) (by decide) (by decide)).trans p4, (gk _ (by decide) (by decide) (by decide) (by decide)).trans p31, (gk _ (by decide) (by decide) (by decide) (by decide)).trans p32, pr, Or.inr ⟨rfl, n', w', mv, G, vR, vK⟩, fun s hs => ?_⟩
        obtain ⟨s1, s2, s3, s4, s5, s6⟩ := pS s hs
        unfold fs_rh
        by_cases c : 0 ≤ s ∧ s < 8 ∧ hl s = 2 ∧ nI n' ≤ sh s
        · rw [if_pos c]
          exact ⟨Or.inl rfl, s2, s3, s4, fun q => absurd q (by decide), s6⟩
        · rw [if_neg c]
          refine ⟨s1, s2, s3, s4, fun q => ?_, s6⟩
          obtain ⟨e5, k, hk, ek⟩ := s5 q
          refine ⟨e5, k, ?_, ek⟩
          rcases Nat.lt_or_ge k n' with q2 | q2
          · exact q2
          · exact absurd ⟨Nat.zero_le _, hs, q, by rw [← e5, ek]; exact nI_le q2 (by omega)⟩ c
end
