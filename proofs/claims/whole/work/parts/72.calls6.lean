set_option maxRecDepth 100000
set_option maxHeartbeats 1000000
/-! ===== calls: toss, throwDown ===== -/
theorem fr_t {c : Nat → Int32} {s x : Int32} : ∀ (m j : Nat), fs_fr c s x m j = true → ∀ t, j ≤ t → t < j + m → nI t ≠ s → c t ≠ x := by
  intro m
  induction m with
  | zero => intro j _ t h1 h2; omega
  | succ m ih =>
    intro j h t h1 h2 h3
    rw [fs_fr, Bool.and_eq_true] at h
    rcases Nat.eq_or_lt_of_le h1 with e | e
    · subst e
      intro q
      rw [decide_eq_false h3, decide_eq_true q] at h
      exact absurd h.1 (by decide)
    · exact ih (j + 1) h.2 t e (by omega) h3
theorem cok_th {F : Nat} (hF : F ≤ 2) : ∀ (m j : Nat) (c : Nat → Int32) (s b : Int32), j + m = 5 → fs_cok c → fs_cok (fs_th (nI F) m j c s b).1 := by
  intro m
  induction m with
  | zero => intro j c s b _ h; rw [fs_th]; exact h
  | succ m ih =>
    intro j c s b e h
    rw [fs_th]
    split
    · obtain ⟨p, hp, ep⟩ := th_p hF (fs_draw s) (fs_draw (fs_draw s))
      rw [ep]
      have hf := nf_free (c := c) (s := j) (by omega) hp
      generalize fs_nf c (nI j) 36 (nI p) = x at hf
      unfold fs_free at hf
      rw [Bool.and_eq_true, Bool.and_eq_true] at hf
      obtain ⟨f1, f2, f3⟩ := hf
      have f1' : ¬ x < 0 := by simpa using f1
      have f2' : x < 36 := of_decide_eq_true f2
      obtain ⟨a, ha, rfl⟩ := nI_of f1'
      have ha36 : a < 36 := (nI_ltI (a := a) (b := 36) ha (by decide)).mp f2'
      refine ih (j + 1) _ _ _ (by omega) ⟨fun i hi => ?_, fun i hi => ?_, fun i k hi hk hn => ?_⟩
      · by_cases q : i = j
        · rw [q, ud_s]; exact Or.inr ⟨a, ha36, rfl⟩
        · rw [ud_n q]; exact h.1 i hi
      · rw [ud_n (by omega)]; exact h.2.1 i hi
      · have key : ∀ t, t < 5 → t ≠ j → c t ≠ nI a := fun t ht hne => fr_t 5 0 f3 t (by omega) (by omega) (fun q => hne ((nI_eq (by omega) (by omega)).mp q))
        by_cases q : i = j
        · rw [q, ud_s, ud_n (by omega)]
          intro q2
          exact absurd q2.symm (key k hk (by omega))
        · rw [ud_n q]
          by_cases q2 : k = j
          · rw [q2, ud_s]
            intro q3
            exact absurd q3 (key i hi q)
          · rw [ud_n q2]; exact h.2.2 i k hi hk hn
    · exact ih (j + 1) c s b (by omega) h
/-- a throw -/
def fs_tw (F : Nat) (u : Nat → Nat → Int32) : Nat → Nat → Int32 := fs_u (fs_ur u (fs_th (nI F) 5 0 (u 0) (u 6 3) 0).1) 6 3 (fs_th (nI F) 5 0 (u 0) (u 6 3) 0).2.1
theorem good_tw {J n w F : Nat} {u : Nat → Nat → Int32} (hF : F ≤ 2) (h : fs_good J n w u) : fs_good J n w (fs_tw F u) := good_6 (good_r h (cok_th hF 5 0 _ _ _ rfl (cok_u h))) (Or.inr rfl)
section
variable {z : ni_Z}
theorem XW {h : ni_H} {n w F J : Nat} {u : Nat → Nat → Int32} (hF : F ≤ 2) (hG : fs_good J n w u) (T : fs_tab 2 u h) : ∃ h' : ni_H, (∀ (d : Nat) (Q : ni_Q), ni_T (d + 2) 64 0 [.ref 2, .int (nI F), .retAddr 0, .retAddr 0, .retAddr 0, .retAddr 0] [] z h Q = Q (some (.int (fs_th (nI F) 5 0 (u 0) (u 6 3) 0).2.2)) z h') ∧ (∀ i, (i < 2 ∨ 8 < i) → h' i = h i) ∧ fs_tab 2 (fs_tw F u) h' := by
  obtain ⟨t2, t3, t4, tH⟩ := T
  have T := (⟨t2, t3, t4, tH⟩ : fs_tab 2 u h)
  have hx : ¬ 2 * nI F + 2 ≤ 0 := by
    rw [show (2 : Int32) = nI 2 from rfl, pk_mul, nI_add]
    exact nI_nle (by omega) (by omega)
  have T1 := tab_6 (tab_r T (fs_th (nI F) 5 0 (u 0) (u 6 3) 0).1) 3 (fs_th (nI F) 5 0 (u 0) (u 6 3) 0).2.1
  refine ⟨_, fun d Q => X_throw (t := 2) hx t2 t3, fun i hi => by rw [up_n (by omega), up_n (by omega)], ?_⟩
  simp +decide only [ur_n, ud_s, ud_n] at T1
  exact T1
theorem MW {h : ni_H} {n w F J : Nat} {u mu : Nat → Nat → Int32} {g : Nat → Int32} (hF : F ≤ 2) (hG : fs_good J n w u) (hR : fs_rel n u mu) (H : fs_mtb mu g h) : ∃ (h' : ni_H) (g' : Nat → Int32) (mu' : Nat → Nat → Int32), (∀ (d : Nat) (Q : ni_Q), ni_T (d + 2) 186 0 [.ref 49, .int (nI F), .retAddr 0, .retAddr 0, .retAddr 0, .retAddr 0, .retAddr 0] [] z h Q = Q (some (.int (fs_th (nI F) 5 0 (u 0) (u 6 3) 0).2.2)) z h') ∧ (∀ i, i ≠ 49 → (i < 51 ∨ 56 < i) → h' i = h i) ∧ fs_mtb mu' g' h' ∧ fs_rel n (fs_tw F u) mu' ∧ (∀ i, i ≠ 3 → g' i = g i) := by
  have m56 := H.2.2.2.2.2.2.1
  have g3 := H.2.2.2.2.2.2.2.2.2.2
  rw [hR.2.1] at m56
  have gs : g 3 = u 6 3 := g3.trans (hR.1 3 (by decide))
  have r := fun (d : Nat) (Q : ni_Q) => M_throw (z := z) (d := d) (Q := Q) hF H.1 m56
  rw [gs] at r
  have T1 := mtb_6 (mtb_r H (fs_th (nI F) 5 0 (u 0) (u 6 3) 0).1) 3 (by decide) (fs_th (nI F) 5 0 (u 0) (u 6 3) 0).2.1
  exact ⟨_, _, _, r, fun i h1 h2 => by rw [up_n h1, up_n (by omega)], T1, rel_u (rel_r hR _) 6 3 _, fun i hi => ud_n hi⟩
end
section
variable {J : Nat} {z : ni_Z} {h : ni_H}
theorem C_throwDown (x : Int32) : fs_Inv J h → fs_C J z 97 187 [.ref 0, .int x] [.ref 49, .int x] h := by
  intro hI
  obtain ⟨hE, n, w, im, lf, u, v, mu, ran, tr, rf, hl, hd, so, szf, sh, kp, g, sz, ee, ce, X, M, P⟩ := hI
  have X' := X
  have M' := M
  have P' := P
  obtain ⟨x0, x1, xT, xV, xD, xM, x29, x30, x31, x32, xS, xL⟩ := X'
  obtain ⟨mT, m50, m57, m58, m59, m60, m61, m62, m63, m64, m65, m66, m67⟩ := M'
  have mT' := mT
  obtain ⟨m49, m51, m52, m53, m54, m55, m56, g0, g1, g2, g3⟩ := mT'
  have xT' := xT
  obtain ⟨t2, t3, t4, tH⟩ := xT'
  obtain ⟨pG, pR, p4, p31, p32, pr, pI, pS⟩ := P'
  have pG' := pG
  obtain ⟨u60, n4, u61, wn, cel, cel5, cdis, hnd⟩ := pG'
  have pR' := pR
  obtain ⟨r6, r0, rH⟩ := pR'
  have gn : g 0 = nI n := (g0.trans (r6 0 (by decide))).trans u60
  have gw : g 1 = nI w := (g1.trans (r6 1 (by decide))).trans u61
  have gf : g 2 = u 6 2 := g2.trans (r6 2 (by decide))
  have gs : g 3 = u 6 3 := g3.trans (r6 3 (by decide))
  rw [u60, u61] at t2
  rw [r0] at m56
  simp only [Nat.reduceAdd] at t2 t3 t4
  rcases pk_ix x (n := 3) (by decide) with q | q | ⟨a, ha, rfl⟩
  · refine C_r hE X M P (r := .int (-6)) (c := -6) (fun d Q => ?_) (fun h' N d Q => ?_)
    · simp +decide only [s97_0, s97_1, s97_4, s97_5, s97_6, s97_9, s97_10, s97_12, s97_15, s97_16, s97_17, s97_20, s97_21, s97_24, x0, t2, q, X_refuse x0 x32 no_6, ↓reduceIte, kl_i, kl_r, kl_n, kl_a, kl_l, up_s, up_up, is_0, is_s, gv_0, gv_s, pv_o, rc_o, okI_i, okI_x, okS_i, okB_x, gi_i, pi_i, okL_l, gl_l, pl_l, okA_2, okA_3, ga_a, arr_0, arr_1, arr_10, arr_11, len_a, sw_0, sw_i, sw_r, sw_l, fit_i, fit_z0, fit_z1, nz_0, nz_1, ni_K_s, ni_K_n, Nat.ble_eq, Nat.zero_le, Nat.zero_add, true_and, and_true, and_self, Bool.and_true, Bool.true_and, Bool.and_self, not_true_eq_false, not_false_eq_true, Int32.reduceLE, Int32.reduceLT, Int32.reduceAdd, Int32.reduceSub, Int32.reduceToNatClampNeg, Nat.reduceLeDiff, Nat.reduceAdd, Nat.reduceEqDiff, Nat.reduceSub, List.set_cons_zero, List.set_cons_succ, false_and, and_false]
    · obtain ⟨⟨k49, k51, k52, k53, k54, k55, k56, -, -, -, -⟩, k50, k57, k58, k59, k60, k61, k62, k63, k64, k65, k66, k67⟩ := N
      rw [r0] at k56
      simp +decide only [s187_0, s187_1, s187_4, s187_5, s187_6, s187_9, s187_10, s187_11, s187_14, s187_17, s187_18, s187_20, s187_23, k49, gn, fs_b, q, M_no k49 k50 no_6, Bool.false_eq_true, mi_0, mg_0, mi_1, mg_1, mi_2, mg_2, mi_3, mg_3, mi_4, mg_4, mi_5, mg_5, mi_6, mg_6, mi_7, mg_7, mi_8, mg_8, mi_9, mg_9, mi_10, mg_10, mi_11, mg_11, mi_12, mg_12, mi_13, mg_13, mi_14, mg_14, mi_15, mg_15, mi_16, mg_16, mi_17, mg_17, mi_18, mg_18, mi_19, mg_19, mi_20, mg_20, mi_21, mg_21, mi_22, mg_22, mi_23, mg_23, mi_24, mg_24, mi_25, mg_25, mi_26, mg_26, mi_27, mg_27, mi_28, mg_28, mi_29, mg_29, mi_30, mg_30, mi_31, mg_31, mi_32, mg_32, mq_0, mq_1, mq_2, mq_3, mq_4, mq_20, mq_21, mq_22, mq_23, mq_24, mq_27, mq_28, mq_29, mq_31, mq_32, mrc, ud_s, ud_n, ud_u, up_n, ↓reduceIte, kl_i, kl_r, kl_n, kl_a, kl_l, up_s, up_up, is_0, is_s, gv_0, gv_s, pv_o, rc_o, okI_i, okI_x, okS_i, okB_x, gi_i, pi_i, okL_l, gl_l, pl_l, okA_2, okA_3, ga_a, arr_0, arr_1, arr_10, arr_11, len_a, sw_0, sw_i, sw_r, sw_l, fit_i, fit_z0, fit_z1, nz_0, nz_1, ni_K_s, ni_K_n, Nat.ble_eq, Nat.zero_le, Nat.zero_add, true_and, and_true, and_self, Bool.and_true, Bool.true_and, Bool.and_self, not_true_eq_false, not_false_eq_true, Int32.reduceLE, Int32.reduceLT, Int32.reduceAdd, Int32.reduceSub, Int32.reduceToNatClampNeg, Nat.reduceLeDiff, Nat.reduceAdd, Nat.reduceEqDiff, Nat.reduceSub, List.set_cons_zero, List.set_cons_succ, false_and, and_false]
  · have q2 : (3 : Int32) ≤ x := q
    have q1 : ¬ x < 0 := fun e => absurd (Int32.lt_of_le_of_lt q2 e) (by decide)
    have q3 : 2 < x := Int32.lt_of_lt_of_le (by decide) q2
    have q4 : ¬ x < 3 := Int32.not_lt.mpr q2
    have q5 : ¬ x ≤ 2 := Int32.not_le.mpr q3
    refine C_r hE X M P (r := .int (-6)) (c := -6) (fun d Q => ?_) (fun h' N d Q => ?_)
    · simp +decide only [s97_0, s97_1, s97_4, s97_5, s97_6, s97_9, s97_10, s97_12, s97_15, s97_16, s97_17, s97_20, s97_21, s97_24, x0, t2, q1, q2, q3, q4, q5, X_refuse x0 x32 no_6, ↓reduceIte, kl_i, kl_r, kl_n, kl_a, kl_l, up_s, up_up, is_0, is_s, gv_0, gv_s, pv_o, rc_o, okI_i, okI_x, okS_i, okB_x, gi_i, pi_i, okL_l, gl_l, pl_l, okA_2, okA_3, ga_a, arr_0, arr_1, arr_10, arr_11, len_a, sw_0, sw_i, sw_r, sw_l, fit_i, fit_z0, fit_z1, nz_0, nz_1, ni_K_s, ni_K_n, Nat.ble_eq, Nat.zero_le, Nat.zero_add, true_and, and_true, and_self, Bool.and_true, Bool.true_and, Bool.and_self, not_true_eq_false, not_false_eq_true, Int32.reduceLE, Int32.reduceLT, Int32.reduceAdd, Int32.reduceSub, Int32.reduceToNatClampNeg, Nat.reduceLeDiff, Nat.reduceAdd, Nat.reduceEqDiff, Nat.reduceSub, List.set_cons_zero, List.set_cons_succ, false_and, and_false]
    · obtain ⟨⟨k49, k51, k52, k53, k54, k55, k56, -, -, -, -⟩, k50, k57, k58, k59, k60, k61, k62, k63, k64, k65, k66, k67⟩ := N
      rw [r0] at k56
      simp +decide only [s187_0, s187_1, s187_4, s187_5, s187_6, s187_9, s187_10, s187_11, s187_14, s187_17, s187_18, s187_20, s187_23, k49, gn, fs_b, q1, q2, q3, q4, q5, M_no k49 k50 no_6, Bool.false_eq_true, mi_0, mg_0, mi_1, mg_1, mi_2, mg_2, mi_3, mg_3, mi_4, mg_4, mi_5, mg_5, mi_6, mg_6, mi_7, mg_7, mi_8, mg_8, mi_9, mg_9, mi_10, mg_10, mi_11, mg_11, mi_12, mg_12, mi_13, mg_13, mi_14, mg_14, mi_15, mg_15, mi_16, mg_16, mi_17, mg_17, mi_18, mg_18, mi_19, mg_19, mi_20, mg_20, mi_21, mg_21, mi_22, mg_22, mi_23, mg_23, mi_24, mg_24, mi_25, mg_25, mi_26, mg_26, mi_27, mg_27, mi_28, mg_28, mi_29, mg_29, mi_30, mg_30, mi_31, mg_31, mi_32, mg_32, mq_0, mq_1, mq_2, mq_3, mq_4, mq_20, mq_21, mq_22, mq_23, mq_24, mq_27, mq_28, mq_29, mq_31, mq_32, mrc, ud_s, ud_n, ud_u, up_n, ↓reduceIte, kl_i, kl_r, kl_n, kl_a, kl_l, up_s, up_up, is_0, is_s, gv_0, gv_s, pv_o, rc_o, okI_i, okI_x, okS_i, okB_x, gi_i, pi_i, okL_l, gl_l, pl_l, okA_2, okA_3, ga_a, arr_0, arr_1, arr_10, arr_11, len_a, sw_0, sw_i, sw_r, sw_l, fit_i, fit_z0, fit_z1, nz_0, nz_1, ni_K_s, ni_K_n, Nat.ble_eq, Nat.zero_le, Nat.zero_add, true_and, and_true, and_self, Bool.and_true, Bool.true_and, Bool.and_self, not_true_eq_false, not_false_eq_true, Int32.reduceLE, Int32.reduceLT, Int32.reduceAdd, Int32.reduceSub, Int32.reduceToNatClampNeg, Nat.reduceLeDiff, Nat.reduceAdd, Nat.reduceEqDiff, Nat.reduceSub, List.set_cons_zero, List.set_cons_succ, false_and, and_false]
  · have a1 : ¬ nI a < 0 := nI_pos (by omega)
    have a2 : ¬ (3 : Int32) ≤ nI a := nI_ge (a := a) (b := 3) ha (by decide)
    have a3 : ¬ 2 < nI a := nI_nlt (a := 2) (b := a) (by omega) (by decide)
    have a4 : nI a < 3 := nI_lt (a := a) (b := 3) ha (by decide)
    have a5 : nI a ≤ 2 := Int32.not_lt.mp a3
    obtain ⟨h1, r1, f1, T1⟩ := XW (z := z) (F := a) (by omega) pG xT
    obtain ⟨h2, g', mu', r2, f2, H2, R2, gk⟩ := MW (z := z) (F := a) (by omega) pG pR (mtb_h (h' := h1) mT (fun i _ _ => f1 i (by omega)))
    have k49 := (f1 49 (by omega)).trans m49
    exact C_t hE X M P (r := .int (fs_th (nI a) 5 0 (u 0) (u 6 3) 0).2.2) (h1 := h1) (h2 := h2) (fun d Q => by simp +decide only [s97_0, s97_1, s97_4, s97_5, s97_6, s97_9, s97_10, s97_12, s97_15, s97_16, s97_17, s97_20, s97_21, s97_24, x0, t2, a1, a2, a3, a4, a5, r1, ↓reduceIte, kl_i, kl_r, kl_n, kl_a, kl_l, up_s, up_up, is_0, is_s, gv_0, gv_s, pv_o, rc_o, okI_i, okI_x, okS_i, okB_x, gi_i, pi_i, okL_l, gl_l, pl_l, okA_2, okA_3, ga_a, arr_0, arr_1, arr_10, arr_11, len_a, sw_0, sw_i, sw_r, sw_l, fit_i, fit_z0, fit_z1, nz_0, nz_1, ni_K_s, ni_K_n, Nat.ble_eq, Nat.zero_le, Nat.zero_add, true_and, and_true, and_self, Bool.and_true, Bool.true_and, Bool.and_self, not_true_eq_false, not_false_eq_true, Int32.reduceLE, Int32.reduceLT, Int32.reduceAdd, Int32.reduceSub, Int32.reduceToNatClampNeg, Nat.reduceLeDiff, Nat.reduceAdd, Nat.reduceEqDiff, Nat.reduceSub, List.set_cons_zero, List.set_cons_succ, false_and, and_false]) (fun i c _ => f1 i c) (mind_h xM (fun i a b => f1 i (by omega))) T1 (fun d Q => by simp +decide only [s187_0, s187_1, s187_4, s187_5, s187_6, s187_9, s187_10, s187_11, s187_14, s187_17, s187_18, s187_20, s187_23, k49, a1, a2, a3, a4, a5, r2, mi_0, mg_0, mi_1, mg_1, mi_2, mg_2, mi_3, mg_3, mi_4, mg_4, mi_5, mg_5, mi_6, mg_6, mi_7, mg_7, mi_8, mg_8, mi_9, mg_9, mi_10, mg_10, mi_11, mg_11, mi_12, mg_12, mi_13, mg_13, mi_14, mg_14, mi_15, mg_15, mi_16, mg_16, mi_17, mg_17, mi_18, mg_18, mi_19, mg_19, mi_20, mg_20, mi_21, mg_21, mi_22, mg_22, mi_23, mg_23, mi_24, mg_24, mi_25, mg_25, mi_26, mg_26, mi_27, mg_27, mi_28, mg_28, mi_29, mg_29, mi_30, mg_30, mi_31, mg_31, mi_32, mg_32, mq_0, mq_1, mq_2, mq_3, mq_4, mq_20, mq_21, mq_22, mq_23, mq_24, mq_27, mq_28, mq_29, mq_31, mq_32, mrc, ud_s, ud_n, ud_u, up_n, ↓reduceIte, kl_i, kl_r, kl_n, kl_a, kl_l, up_s, up_up, is_0, is_s, gv_0, gv_s, pv_o, rc_o, okI_i, okI_x, okS_i, okB_x, gi_i, pi_i, okL_l, gl_l, pl_l, okA_2, okA_3, ga_a, arr_0, arr_1, arr_10, arr_11, len_a, sw_0, sw_i, sw_r, sw_l, fit_i, fit_z0, fit_z1, nz_0, nz_1, ni_K_s, ni_K_n, Nat.ble_eq, Nat.zero_le, Nat.zero_add, true_and, and_true, and_self, Bool.and_true, Bool.true_and, Bool.and_self, not_true_eq_false, not_false_eq_true, Int32.reduceLE, Int32.reduceLT, Int32.reduceAdd, Int32.reduceSub, Int32.reduceToNatClampNeg, Nat.reduceLeDiff, Nat.reduceAdd, Nat.reduceEqDiff, Nat.reduceSub, List.set_cons_zero, List.set_cons_succ, false_and, and_false]) f2 H2 (gk _ (by decide)) (gk _ (by decide)) (gk _ (by decide)) (good_tw (by omega) (good_J pG (show J ≤ J + 100 by omega))) R2 (Nat.le_refl _)
theorem C_toss (x y : Int32) : fs_Inv J h → fs_C J z 96 185 [.ref 0, .int x, .int y, .retAddr 0] [.ref 49, .int x, .int y] h := by
  intro hI
  obtain ⟨hE, n, w, im, lf, u, v, mu, ran, tr, rf, hl, hd, so, szf, sh, kp, g, sz, ee, ce, X, M, P⟩ := hI
  have X' := X
  have M' := M
  have P' := P
  obtain ⟨x0, x1, xT, xV, xD, xM, x29, x30, x31, x32, xS, xL⟩ := X'
  obtain ⟨mT, m50, m57, m58, m59, m60, m61, m62, m63, m64, m65, m66, m67⟩ := M'
  have mT' := mT
  obtain ⟨m49, m51, m52, m53, m54, m55, m56, g0, g1, g2, g3⟩ := mT'
  have xT' := xT
  obtain ⟨t2, t3, t4, tH⟩ := xT'
  obtain ⟨pG, pR, p4, p31, p32, pr, pI, pS⟩ := P'
  have pG' := pG
  obtain ⟨u60, n4, u61, wn, cel, cel5, cdis, hnd⟩ := pG'
  have pR' := pR
  obtain ⟨r6, r0, rH⟩ := pR'
  have gn : g 0 = nI n := (g0.trans (r6 0 (by decide))).trans u60
  have gw : g 1 = nI w := (g1.trans (r6 1 (by decide))).trans u61
  have gf : g 2 = u 6 2 := g2.trans (r6 2 (by decide))
  have gs : g 3 = u 6 3 := g3.trans (r6 3 (by decide))
  rw [u60, u61] at t2
  rw [r0] at m56
  simp only [Nat.reduceAdd] at t2 t3 t4
  by_cases n0 : n = 0
  · have e0 : nI n = 0 := by rw [n0]; rfl
    have hN : nI w < 0 ∨ nI n ≤ nI w := Or.inr (nI_le (by omega) (by omega))
    refine C_r hE X M P (r := .int (-5)) (c := -5) (fun d Q => ?_) (fun h' N d Q => ?_)
    · simp +decide only [s96_0, s96_1, s96_4, s96_5, s96_8, s96_11, s96_14, s96_14N, s96_15, s96_15N, s96_16N, s96_16, s96_19, s96_20, s96_22, s96_25, s96_26, s96_27, s96_30, s96_33, s96_34, s96_37, s96_38, s96_41, s96_42, s96_45, s96_48, s96_49, s96_51, s96_54, s96_55, s96_56, s96_59, s96_60, s96_63, s96_63N0, s96_66, s96_67, s96_67N, s96_68, s96_69, s96_70, s96_70N0, s96_73, s96_76, s96_77, s96_80, s96_81, x0, t2, X_handN (t := 2) t2 hN, X_refuse x0 x32 no_5, ↓reduceIte, kl_i, kl_r, kl_n, kl_a, kl_l, up_s, up_up, is_0, is_s, gv_0, gv_s, pv_o, rc_o, okI_i, okI_x, okS_i, okB_x, gi_i, pi_i, okL_l, gl_l, pl_l, okA_2, okA_3, ga_a, arr_0, arr_1, arr_10, arr_11, len_a, sw_0, sw_i, sw_r, sw_l, fit_i, fit_z0, fit_z1, nz_0, nz_1, ni_K_s, ni_K_n, Nat.ble_eq, Nat.zero_le, Nat.zero_add, true_and, and_true, and_self, Bool.and_true, Bool.true_and, Bool.and_self, not_true_eq_false, not_false_eq_true, Int32.reduceLE, Int32.reduceLT, Int32.reduceAdd, Int32.reduceSub, Int32.reduceToNatClampNeg, Nat.reduceLeDiff, Nat.reduceAdd, Nat.reduceEqDiff, Nat.reduceSub, List.set_cons_zero, List.set_cons_succ, false_and, and_false]
    · obtain ⟨⟨k49, k51, k52, k53, k54, k55, k56, -, -, -, -⟩, k50, k57, k58, k59, k60, k61, k62, k63, k64, k65, k66, k67⟩ := N
      rw [r0] at k56
      simp +decide only [s185_0, s185_1, s185_4, s185_7, s185_8, s185_10, s185_13, s185_14, s185_15, s185_16, s185_19, s185_20, s185_22, s185_25, s185_26, s185_29, s185_30, s185_31, s185_34, s185_37, s185_38, s185_40, s185_43, s185_44, s185_45, s185_46, s185_47, s185_50, s185_53, s185_54, s185_57, s185_58, k49, gn, fs_b, e0, M_no k49 k50 no_5, Bool.false_eq_true, mi_0, mg_0, mi_1, mg_1, mi_2, mg_2, mi_3, mg_3, mi_4, mg_4, mi_5, mg_5, mi_6, mg_6, mi_7, mg_7, mi_8, mg_8, mi_9, mg_9, mi_10, mg_10, mi_11, mg_11, mi_12, mg_12, mi_13, mg_13, mi_14, mg_14, mi_15, mg_15, mi_16, mg_16, mi_17, mg_17, mi_18, mg_18, mi_19, mg_19, mi_20, mg_20, mi_21, mg_21, mi_22, mg_22, mi_23, mg_23, mi_24, mg_24, mi_25, mg_25, mi_26, mg_26, mi_27, mg_27, mi_28, mg_28, mi_29, mg_29, mi_30, mg_30, mi_31, mg_31, mi_32, mg_32, mq_0, mq_1, mq_2, mq_3, mq_4, mq_20, mq_21, mq_22, mq_23, mq_24, mq_27, mq_28, mq_29, mq_31, mq_32, mrc, ud_s, ud_n, ud_u, up_n, ↓reduceIte, kl_i, kl_r, kl_n, kl_a, kl_l, up_s, up_up, is_0, is_s, gv_0, gv_s, pv_o, rc_o, okI_i, okI_x, okS_i, okB_x, gi_i, pi_i, okL_l, gl_l, pl_l, okA_2, okA_3, ga_a, arr_0, arr_1, arr_10, arr_11, len_a, sw_0, sw_i, sw_r, sw_l, fit_i, fit_z0, fit_z1, nz_0, nz_1, ni_K_s, ni_K_n, Nat.ble_eq, Nat.zero_le, Nat.zero_add, true_and, and_true, and_self, Bool.and_true, Bool.true_and, Bool.and_self, not_true_eq_false, not_false_eq_true, Int32.reduceLE, Int32.reduceLT, Int32.reduceAdd, Int32.reduceSub, Int32.reduceToNatClampNeg, Nat.reduceLeDiff, Nat.reduceAdd, Nat.reduceEqDiff, Nat.reduceSub, List.set_cons_zero, List.set_cons_succ, false_and, and_false]
  have e0 : ¬ nI n = 0 := nI_ne0 (by omega) (by omega)
  have hw : w < n := by omega
  have hS' := fun (d : Nat) (Q : ni_Q) => X_handS (t := 2) (d := d) (z := z) (Q := Q) t2 t4 hw n4
  have al := fun (d : Nat) (Q : ni_Q) => X_allLie (t := 2) (d := d) (z := z) (Q := Q) (x := x) t2 t3
  rw [lb_n] at al
  by_cases h1' : y < 1
  · have hh : fs_isHt y = false := by simp [fs_isHt, h1']
    refine C_r hE X M P (r := .int (-6)) (c := -6) (fun d Q => ?_) (fun h' N d Q => ?_)
    · simp +decide only [s96_0, s96_1, s96_4, s96_5, s96_8, s96_11, s96_14, s96_14N, s96_15, s96_15N, s96_16N, s96_16, s96_19, s96_20, s96_22, s96_25, s96_26, s96_27, s96_30, s96_33, s96_34, s96_37, s96_38, s96_41, s96_42, s96_45, s96_48, s96_49, s96_51, s96_54, s96_55, s96_56, s96_59, s96_60, s96_63, s96_63N0, s96_66, s96_67, s96_67N, s96_68, s96_69, s96_70, s96_70N0, s96_73, s96_76, s96_77, s96_80, s96_81, x0, t2, hS', X_isHeight, hh, fs_b, X_refuse x0 x32 no_6, ↓reduceIte, kl_i, kl_r, kl_n, kl_a, kl_l, up_s, up_up, is_0, is_s, gv_0, gv_s, pv_o, rc_o, okI_i, okI_x, okS_i, okB_x, gi_i, pi_i, okL_l, gl_l, pl_l, okA_2, okA_3, ga_a, arr_0, arr_1, arr_10, arr_11, len_a, sw_0, sw_i, sw_r, sw_l, fit_i, fit_z0, fit_z1, nz_0, nz_1, ni_K_s, ni_K_n, Nat.ble_eq, Nat.zero_le, Nat.zero_add, true_and, and_true, and_self, Bool.and_true, Bool.true_and, Bool.and_self, not_true_eq_false, not_false_eq_true, Int32.reduceLE, Int32.reduceLT, Int32.reduceAdd, Int32.reduceSub, Int32.reduceToNatClampNeg, Nat.reduceLeDiff, Nat.reduceAdd, Nat.reduceEqDiff, Nat.reduceSub, List.set_cons_zero, List.set_cons_succ, false_and, and_false]
    · obtain ⟨⟨k49, k51, k52, k53, k54, k55, k56, -, -, -, -⟩, k50, k57, k58, k59, k60, k61, k62, k63, k64, k65, k66, k67⟩ := N
      rw [r0] at k56
      simp +decide only [s185_0, s185_1, s185_4, s185_7, s185_8, s185_10, s185_13, s185_14, s185_15, s185_16, s185_19, s185_20, s185_22, s185_25, s185_26, s185_29, s185_30, s185_31, s185_34, s185_37, s185_38, s185_40, s185_43, s185_44, s185_45, s185_46, s185_47, s185_50, s185_53, s185_54, s185_57, s185_58, k49, gn, fs_b, e0, h1', M_no k49 k50 no_6, Bool.false_eq_true, mi_0, mg_0, mi_1, mg_1, mi_2, mg_2, mi_3, mg_3, mi_4, mg_4, mi_5, mg_5, mi_6, mg_6, mi_7, mg_7, mi_8, mg_8, mi_9, mg_9, mi_10, mg_10, mi_11, mg_11, mi_12, mg_12, mi_13, mg_13, mi_14, mg_14, mi_15, mg_15, mi_16, mg_16, mi_17, mg_17, mi_18, mg_18, mi_19, mg_19, mi_20, mg_20, mi_21, mg_21, mi_22, mg_22, mi_23, mg_23, mi_24, mg_24, mi_25, mg_25, mi_26, mg_26, mi_27, mg_27, mi_28, mg_28, mi_29, mg_29, mi_30, mg_30, mi_31, mg_31, mi_32, mg_32, mq_0, mq_1, mq_2, mq_3, mq_4, mq_20, mq_21, mq_22, mq_23, mq_24, mq_27, mq_28, mq_29, mq_31, mq_32, mrc, ud_s, ud_n, ud_u, up_n, ↓reduceIte, kl_i, kl_r, kl_n, kl_a, kl_l, up_s, up_up, is_0, is_s, gv_0, gv_s, pv_o, rc_o, okI_i, okI_x, okS_i, okB_x, gi_i, pi_i, okL_l, gl_l, pl_l, okA_2, okA_3, ga_a, arr_0, arr_1, arr_10, arr_11, len_a, sw_0, sw_i, sw_r, sw_l, fit_i, fit_z0, fit_z1, nz_0, nz_1, ni_K_s, ni_K_n, Nat.ble_eq, Nat.zero_le, Nat.zero_add, true_and, and_true, and_self, Bool.and_true, Bool.true_and, Bool.and_self, not_true_eq_false, not_false_eq_true, Int32.reduceLE, Int32.reduceLT, Int32.reduceAdd, Int32.reduceSub, Int32.reduceToNatClampNeg, Nat.reduceLeDiff, Nat.reduceAdd, Nat.reduceEqDiff, Nat.reduceSub, List.set_cons_zero, List.set_cons_succ, false_and, and_false]
  by_cases h9' : 9 < y
  · have hh : fs_isHt y = false := by simp [fs_isHt, h9']
    have h9'' : ¬ y ≤ 9 := Int32.not_le.mpr h9'
    refine C_r hE X M P (r := .int (-6)) (c := -6) (fun d Q => ?_) (fun h' N d Q => ?_)
    · simp +decide only [s96_0, s96_1, s96_4, s96_5, s96_8, s96_11, s96_14, s96_14N, s96_15, s96_15N, s96_16N, s96_16, s96_19, s96_20, s96_22, s96_25, s96_26, s96_27, s96_30, s96_33, s96_34, s96_37, s96_38, s96_41, s96_42, s96_45, s96_48, s96_49, s96_51, s96_54, s96_55, s96_56, s96_59, s96_60, s96_63, s96_63N0, s96_66, s96_67, s96_67N, s96_68, s96_69, s96_70, s96_70N0, s96_73, s96_76, s96_77, s96_80, s96_81, x0, t2, hS', X_isHeight, hh, fs_b, X_refuse x0 x32 no_6, ↓reduceIte, kl_i, kl_r, kl_n, kl_a, kl_l, up_s, up_up, is_0, is_s, gv_0, gv_s, pv_o, rc_o, okI_i, okI_x, okS_i, okB_x, gi_i, pi_i, okL_l, gl_l, pl_l, okA_2, okA_3, ga_a, arr_0, arr_1, arr_10, arr_11, len_a, sw_0, sw_i, sw_r, sw_l, fit_i, fit_z0, fit_z1, nz_0, nz_1, ni_K_s, ni_K_n, Nat.ble_eq, Nat.zero_le, Nat.zero_add, true_and, and_true, and_self, Bool.and_true, Bool.true_and, Bool.and_self, not_true_eq_false, not_false_eq_true, Int32.reduceLE, Int32.reduceLT, Int32.reduceAdd, Int32.reduceSub, Int32.reduceToNatClampNeg, Nat.reduceLeDiff, Nat.reduceAdd, Nat.reduceEqDiff, Nat.reduceSub, List.set_cons_zero, List.set_cons_succ, false_and, and_false]
    · obtain ⟨⟨k49, k51, k52, k53, k54, k55, k56, -, -, -, -⟩, k50, k57, k58, k59, k60, k61, k62, k63, k64, k65, k66, k67⟩ := N
      rw [r0] at k56
      simp +decide only [s185_0, s185_1, s185_4, s185_7, s185_8, s185_10, s185_13, s185_14, s185_15, s185_16, s185_19, s185_20, s185_22, s185_25, s185_26, s185_29, s185_30, s185_31, s185_34, s185_37, s185_38, s185_40, s185_43, s185_44, s185_45, s185_46, s185_47, s185_50, s185_53, s185_54, s185_57, s185_58, k49, gn, fs_b, e0, h1', h9', h9'', M_no k49 k50 no_6, Bool.false_eq_true, mi_0, mg_0, mi_1, mg_1, mi_2, mg_2, mi_3, mg_3, mi_4, mg_4, mi_5, mg_5, mi_6, mg_6, mi_7, mg_7, mi_8, mg_8, mi_9, mg_9, mi_10, mg_10, mi_11, mg_11, mi_12, mg_12, mi_13, mg_13, mi_14, mg_14, mi_15, mg_15, mi_16, mg_16, mi_17, mg_17, mi_18, mg_18, mi_19, mg_19, mi_20, mg_20, mi_21, mg_21, mi_22, mg_22, mi_23, mg_23, mi_24, mg_24, mi_25, mg_25, mi_26, mg_26, mi_27, mg_27, mi_28, mg_28, mi_29, mg_29, mi_30, mg_30, mi_31, mg_31, mi_32, mg_32, mq_0, mq_1, mq_2, mq_3, mq_4, mq_20, mq_21, mq_22, mq_23, mq_24, mq_27, mq_28, mq_29, mq_31, mq_32, mrc, ud_s, ud_n, ud_u, up_n, ↓reduceIte, kl_i, kl_r, kl_n, kl_a, kl_l, up_s, up_up, is_0, is_s, gv_0, gv_s, pv_o, rc_o, okI_i, okI_x, okS_i, okB_x, gi_i, pi_i, okL_l, gl_l, pl_l, okA_2, okA_3, ga_a, arr_0, arr_1, arr_10, arr_11, len_a, sw_0, sw_i, sw_r, sw_l, fit_i, fit_z0, fit_z1, nz_0, nz_1, ni_K_s, ni_K_n, Nat.ble_eq, Nat.zero_le, Nat.zero_add, true_and, and_true, and_self, Bool.and_true, Bool.true_and, Bool.and_self, not_true_eq_false, not_false_eq_true, Int32.reduceLE, Int32.reduceLT, Int32.reduceAdd, Int32.reduceSub, Int32.reduceToNatClampNeg, Nat.reduceLeDiff, Nat.reduceAdd, Nat.reduceEqDiff, Nat.reduceSub, List.set_cons_zero, List.set_cons_succ, false_and, and_false]
  have hh : fs_isHt y = true := by simp [fs_isHt, h1', h9']
  have h9'' : y ≤ 9 := Int32.not_lt.mp h9'
  by_cases z0 : x = 0
  · subst z0
    refine C_r hE X M P (r := .int (-6)) (c := -6) (fun d Q => ?_) (fun h' N d Q => ?_)
    · simp +decide only [s96_0, s96_1, s96_4, s96_5, s96_8, s96_11, s96_14, s96_14N, s96_15, s96_15N, s96_16N, s96_16, s96_19, s96_20, s96_22, s96_25, s96_26, s96_27, s96_30, s96_33, s96_34, s96_37, s96_38, s96_41, s96_42, s96_45, s96_48, s96_49, s96_51, s96_54, s96_55, s96_56, s96_59, s96_60, s96_63, s96_63N0, s96_66, s96_67, s96_67N, s96_68, s96_69, s96_70, s96_70N0, s96_73, s96_76, s96_77, s96_80, s96_81, x0, t2, hS', X_isHeight, hh, fs_b, X_refuse x0 x32 no_6, ↓reduceIte, kl_i, kl_r, kl_n, kl_a, kl_l, up_s, up_up, is_0, is_s, gv_0, gv_s, pv_o, rc_o, okI_i, okI_x, okS_i, okB_x, gi_i, pi_i, okL_l, gl_l, pl_l, okA_2, okA_3, ga_a, arr_0, arr_1, arr_10, arr_11, len_a, sw_0, sw_i, sw_r, sw_l, fit_i, fit_z0, fit_z1, nz_0, nz_1, ni_K_s, ni_K_n, Nat.ble_eq, Nat.zero_le, Nat.zero_add, true_and, and_true, and_self, Bool.and_true, Bool.true_and, Bool.and_self, not_true_eq_false, not_false_eq_true, Int32.reduceLE, Int32.reduceLT, Int32.reduceAdd, Int32.reduceSub, Int32.reduceToNatClampNeg, Nat.reduceLeDiff, Nat.reduceAdd, Nat.reduceEqDiff, Nat.reduceSub, List.set_cons_zero, List.set_cons_succ, false_and, and_false]
    · obtain ⟨⟨k49, k51, k52, k53, k54, k55, k56, -, -, -, -⟩, k50, k57, k58, k59, k60, k61, k62, k63, k64, k65, k66, k67⟩ := N
      rw [r0] at k56
      simp +decide only [s185_0, s185_1, s185_4, s185_7, s185_8, s185_10, s185_13, s185_14, s185_15, s185_16, s185_19, s185_20, s185_22, s185_25, s185_26, s185_29, s185_30, s185_31, s185_34, s185_37, s185_38, s185_40, s185_43, s185_44, s185_45, s185_46, s185_47, s185_50, s185_53, s185_54, s185_57, s185_58, k49, gn, fs_b, e0, h1', h9', h9'', M_no k49 k50 no_6, Bool.false_eq_true, mi_0, mg_0, mi_1, mg_1, mi_2, mg_2, mi_3, mg_3, mi_4, mg_4, mi_5, mg_5, mi_6, mg_6, mi_7, mg_7, mi_8, mg_8, mi_9, mg_9, mi_10, mg_10, mi_11, mg_11, mi_12, mg_12, mi_13, mg_13, mi_14, mg_14, mi_15, mg_15, mi_16, mg_16, mi_17, mg_17, mi_18, mg_18, mi_19, mg_19, mi_20, mg_20, mi_21, mg_21, mi_22, mg_22, mi_23, mg_23, mi_24, mg_24, mi_25, mg_25, mi_26, mg_26, mi_27, mg_27, mi_28, mg_28, mi_29, mg_29, mi_30, mg_30, mi_31, mg_31, mi_32, mg_32, mq_0, mq_1, mq_2, mq_3, mq_4, mq_20, mq_21, mq_22, mq_23, mq_24, mq_27, mq_28, mq_29, mq_31, mq_32, mrc, ud_s, ud_n, ud_u, up_n, ↓reduceIte, kl_i, kl_r, kl_n, kl_a, kl_l, up_s, up_up, is_0, is_s, gv_0, gv_s, pv_o, rc_o, okI_i, okI_x, okS_i, okB_x, gi_i, pi_i, okL_l, gl_l, pl_l, okA_2, okA_3, ga_a, arr_0, arr_1, arr_10, arr_11, len_a, sw_0, sw_i, sw_r, sw_l, fit_i, fit_z0, fit_z1, nz_0, nz_1, ni_K_s, ni_K_n, Nat.ble_eq, Nat.zero_le, Nat.zero_add, true_and, and_true, and_self, Bool.and_true, Bool.true_and, Bool.and_self, not_true_eq_false, not_false_eq_true, Int32.reduceLE, Int32.reduceLT, Int32.reduceAdd, Int32.reduceSub, Int32.reduceToNatClampNeg, Nat.reduceLeDiff, Nat.reduceAdd, Nat.reduceEqDiff, Nat.reduceSub, List.set_cons_zero, List.set_cons_succ, false_and, and_false]
  cases sb : fs_sub x (nI (fs_lb (u 0)))
  · rw [sb] at al
    refine C_r hE X M P (r := .int (-6)) (c := -6) (fun d Q => ?_) (fun h' N d Q => ?_)
    · simp +decide only [s96_0, s96_1, s96_4, s96_5, s96_8, s96_11, s96_14, s96_14N, s96_15, s96_15N, s96_16N, s96_16, s96_19, s96_20, s96_22, s96_25, s96_26, s96_27, s96_30, s96_33, s96_34, s96_37, s96_38, s96_41, s96_42, s96_45, s96_48, s96_49, s96_51, s96_54, s96_55, s96_56, s96_59, s96_60, s96_63, s96_63N0, s96_66, s96_67, s96_67N, s96_68, s96_69, s96_70, s96_70N0, s96_73, s96_76, s96_77, s96_80, s96_81, x0, t2, hS', X_isHeight, hh, z0, al, fs_b, X_refuse x0 x32 no_6, ↓reduceIte, kl_i, kl_r, kl_n, kl_a, kl_l, up_s, up_up, is_0, is_s, gv_0, gv_s, pv_o, rc_o, okI_i, okI_x, okS_i, okB_x, gi_i, pi_i, okL_l, gl_l, pl_l, okA_2, okA_3, ga_a, arr_0, arr_1, arr_10, arr_11, len_a, sw_0, sw_i, sw_r, sw_l, fit_i, fit_z0, fit_z1, nz_0, nz_1, ni_K_s, ni_K_n, Nat.ble_eq, Nat.zero_le, Nat.zero_add, true_and, and_true, and_self, Bool.and_true, Bool.true_and, Bool.and_self, not_true_eq_false, not_false_eq_true, Int32.reduceLE, Int32.reduceLT, Int32.reduceAdd, Int32.reduceSub, Int32.reduceToNatClampNeg, Nat.reduceLeDiff, Nat.reduceAdd, Nat.reduceEqDiff, Nat.reduceSub, List.set_cons_zero, List.set_cons_succ, false_and, and_false]
    · obtain ⟨⟨k49, k51, k52, k53, k54, k55, k56, -, -, -, -⟩, k50, k57, k58, k59, k60, k61, k62, k63, k64, k65, k66, k67⟩ := N
      rw [r0] at k56
      simp +decide only [s185_0, s185_1, s185_4, s185_7, s185_8, s185_10, s185_13, s185_14, s185_15, s185_16, s185_19, s185_20, s185_22, s185_25, s185_26, s185_29, s185_30, s185_31, s185_34, s185_37, s185_38, s185_40, s185_43, s185_44, s185_45, s185_46, s185_47, s185_50, s185_53, s185_54, s185_57, s185_58, k49, gn, fs_b, e0, h1', h9', h9'', z0, M_isSet k49 k56, sb, M_no k49 k50 no_6, Bool.false_eq_true, mi_0, mg_0, mi_1, mg_1, mi_2, mg_2, mi_3, mg_3, mi_4, mg_4, mi_5, mg_5, mi_6, mg_6, mi_7, mg_7, mi_8, mg_8, mi_9, mg_9, mi_10, mg_10, mi_11, mg_11, mi_12, mg_12, mi_13, mg_13, mi_14, mg_14, mi_15, mg_15, mi_16, mg_16, mi_17, mg_17, mi_18, mg_18, mi_19, mg_19, mi_20, mg_20, mi_21, mg_21, mi_22, mg_22, mi_23, mg_23, mi_24, mg_24, mi_25, mg_25, mi_26, mg_26, mi_27, mg_27, mi_28, mg_28, mi_29, mg_29, mi_30, mg_30, mi_31, mg_31, mi_32, mg_32, mq_0, mq_1, mq_2, mq_3, mq_4, mq_20, mq_21, mq_22, mq_23, mq_24, mq_27, mq_28, mq_29, mq_31, mq_32, mrc, ud_s, ud_n, ud_u, up_n, ↓reduceIte, kl_i, kl_r, kl_n, kl_a, kl_l, up_s, up_up, is_0, is_s, gv_0, gv_s, pv_o, rc_o, okI_i, okI_x, okS_i, okB_x, gi_i, pi_i, okL_l, gl_l, pl_l, okA_2, okA_3, ga_a, arr_0, arr_1, arr_10, arr_11, len_a, sw_0, sw_i, sw_r, sw_l, fit_i, fit_z0, fit_z1, nz_0, nz_1, ni_K_s, ni_K_n, Nat.ble_eq, Nat.zero_le, Nat.zero_add, true_and, and_true, and_self, Bool.and_true, Bool.true_and, Bool.and_self, not_true_eq_false, not_false_eq_true, Int32.reduceLE, Int32.reduceLT, Int32.reduceAdd, Int32.reduceSub, Int32.reduceToNatClampNeg, Nat.reduceLeDiff, Nat.reduceAdd, Nat.reduceEqDiff, Nat.reduceSub, List.set_cons_zero, List.set_cons_succ, false_and, and_false]
  · rw [sb] at al
    obtain ⟨eT, lT⟩ := fs_sub_nI (lb_lt (u 0)) sb
    generalize x.toNatClampNeg = T at eT lT
    subst eT
    obtain ⟨h1, fo, wy, ch, pl, ne, pa, rl, f1, L⟩ := X_lookQ (z := z) cel xM t2 t3
    have rc23 : ni_rc (h 23) 2 = true := by obtain ⟨_, _, _, _, _, _, _, a, _⟩ := xM; rw [a]; rfl
    obtain ⟨h2, r2, f2, T2⟩ := XT (z := z) (ht := y) pG hw ((f1 0 (by omega)).trans x0) (fs_tab_h (k := 0) xT (fun i a b => f1 i (by omega))) L lT sb
    have f12 : ∀ i, (i < 2 ∨ 8 < i) → (i < 23 ∨ 28 < i) → h2 i = h i := fun i a b => by rw [f2 i a, f1 i b]
    have k49 := (f12 49 (by omega) (by omega)).trans m49
    have k56 := (f12 56 (by omega) (by omega)).trans m56
    obtain ⟨h3, g', mu', r3, f3, H3, R3, gk⟩ := MT (z := z) (S := T) (ht := y) pG pR hw (mtb_h (h' := h2) mT (fun i _ _ => f12 i (by omega) (by omega))) lT
    obtain ⟨w', w1, -, G'⟩ := good_tu (S := T) (dn := fs_dn u w T y) pG hw
    have hO1 := (f1 0 (by omega)).trans x0
    refine C_t hE X M P (r := .int (fs_b (fs_dn u w T y))) (h1 := h2) (h2 := h3) (fun d Q => ?_) f12 (mind_h (lkd_mind L) (fun i a b => f2 i (by omega))) T2 (fun d Q => ?_) f3 H3 (gk _ (by decide) (by decide) (by decide) (by decide)) (gk _ (by decide) (by decide) (by decide) (by decide)) (gk _ (by decide) (by decide) (by decide) (by decide)) (good_J G' (by omega)) R3 (Nat.le_refl _)
    · simp only [Nat.reduceAdd] at r2
      cases dn : fs_dn u w T y <;> rw [dn] at r2 <;> simp +decide only [s96_0, s96_1, s96_4, s96_5, s96_8, s96_11, s96_14, s96_14N, s96_15, s96_15N, s96_16N, s96_16, s96_19, s96_20, s96_22, s96_25, s96_26, s96_27, s96_30, s96_33, s96_34, s96_37, s96_38, s96_41, s96_42, s96_45, s96_48, s96_49, s96_51, s96_54, s96_55, s96_56, s96_59, s96_60, s96_63, s96_63N0, s96_66, s96_67, s96_67N, s96_68, s96_69, s96_70, s96_70N0, s96_73, s96_76, s96_77, s96_80, s96_81, x0, t2, hS', X_isHeight, hh, z0, al, rl, rc23, hO1, r2, fs_b, ↓reduceIte, kl_i, kl_r, kl_n, kl_a, kl_l, up_s, up_up, is_0, is_s, gv_0, gv_s, pv_o, rc_o, okI_i, okI_x, okS_i, okB_x, gi_i, pi_i, okL_l, gl_l, pl_l, okA_2, okA_3, ga_a, arr_0, arr_1, arr_10, arr_11, len_a, sw_0, sw_i, sw_r, sw_l, fit_i, fit_z0, fit_z1, nz_0, nz_1, ni_K_s, ni_K_n, Nat.ble_eq, Nat.zero_le, Nat.zero_add, true_and, and_true, and_self, Bool.and_true, Bool.true_and, Bool.and_self, not_true_eq_false, not_false_eq_true, Int32.reduceLE, Int32.reduceLT, Int32.reduceAdd, Int32.reduceSub, Int32.reduceToNatClampNeg, Nat.reduceLeDiff, Nat.reduceAdd, Nat.reduceEqDiff, Nat.reduceSub, List.set_cons_zero, List.set_cons_succ, false_and, and_false]
    · cases dn : fs_dn u w T y <;> rw [dn] at r3 <;> simp +decide only [s185_0, s185_1, s185_4, s185_7, s185_8, s185_10, s185_13, s185_14, s185_15, s185_16, s185_19, s185_20, s185_22, s185_25, s185_26, s185_29, s185_30, s185_31, s185_34, s185_37, s185_38, s185_40, s185_43, s185_44, s185_45, s185_46, s185_47, s185_50, s185_53, s185_54, s185_57, s185_58, k49, gn, e0, h1', h9', h9'', z0, M_isSet k49 k56, sb, r3, fs_b, mi_0, mg_0, mi_1, mg_1, mi_2, mg_2, mi_3, mg_3, mi_4, mg_4, mi_5, mg_5, mi_6, mg_6, mi_7, mg_7, mi_8, mg_8, mi_9, mg_9, mi_10, mg_10, mi_11, mg_11, mi_12, mg_12, mi_13, mg_13, mi_14, mg_14, mi_15, mg_15, mi_16, mg_16, mi_17, mg_17, mi_18, mg_18, mi_19, mg_19, mi_20, mg_20, mi_21, mg_21, mi_22, mg_22, mi_23, mg_23, mi_24, mg_24, mi_25, mg_25, mi_26, mg_26, mi_27, mg_27, mi_28, mg_28, mi_29, mg_29, mi_30, mg_30, mi_31, mg_31, mi_32, mg_32, mq_0, mq_1, mq_2, mq_3, mq_4, mq_20, mq_21, mq_22, mq_23, mq_24, mq_27, mq_28, mq_29, mq_31, mq_32, mrc, ud_s, ud_n, ud_u, up_n, ↓reduceIte, kl_i, kl_r, kl_n, kl_a, kl_l, up_s, up_up, is_0, is_s, gv_0, gv_s, pv_o, rc_o, okI_i, okI_x, okS_i, okB_x, gi_i, pi_i, okL_l, gl_l, pl_l, okA_2, okA_3, ga_a, arr_0, arr_1, arr_10, arr_11, len_a, sw_0, sw_i, sw_r, sw_l, fit_i, fit_z0, fit_z1, nz_0, nz_1, ni_K_s, ni_K_n, Nat.ble_eq, Nat.zero_le, Nat.zero_add, true_and, and_true, and_self, Bool.and_true, Bool.true_and, Bool.and_self, not_true_eq_false, not_false_eq_true, Int32.reduceLE, Int32.reduceLT, Int32.reduceAdd, Int32.reduceSub, Int32.reduceToNatClampNeg, Nat.reduceLeDiff, Nat.reduceAdd, Nat.reduceEqDiff, Nat.reduceSub, List.set_cons_zero, List.set_cons_succ, false_and, and_false]
end
