set_option maxRecDepth 100000
set_option maxHeartbeats 1000000
/-! ===== tosses in truth, throws ===== -/
/-- a table with other cells -/
def fs_ur (u : Nat → Nat → Int32) (c : Nat → Int32) : Nat → Nat → Int32 := fun i => if i = 0 then c else u i
theorem ur_0 {u : Nat → Nat → Int32} {c : Nat → Int32} : fs_ur u c 0 = c := rfl
theorem ur_n {u : Nat → Nat → Int32} {c : Nat → Int32} {i : Nat} (h : i ≠ 0) : fs_ur u c i = u i := if_neg h
theorem tab_r {t : Nat} {u : Nat → Nat → Int32} {h : ni_H} (H : fs_tab t u h) (c : Nat → Int32) : fs_tab t (fs_ur u c) (ni_up h (t + 1) (ni_I 5 c)) := by
  obtain ⟨a, b, c', d⟩ := H
  refine ⟨by rw [up_n (by omega)]; exact a, up_s, by rw [up_n (by omega)]; exact c', fun k hk => by rw [up_n (by omega)]; exact d k hk⟩
theorem rel_r {n : Nat} {u mu : Nat → Nat → Int32} (h : fs_rel n u mu) (c : Nat → Int32) : fs_rel n (fs_ur u c) (fs_ur mu c) := by
  obtain ⟨a, b, c'⟩ := h
  refine ⟨fun i hi => by rw [ur_n (by decide), ur_n (by decide)]; exact a i hi, rfl, fun i k h1 h2 h3 => by rw [ur_n (by omega), ur_n (by omega)]; exact c' i k h1 h2 h3⟩
theorem mtb_r {mu : Nat → Nat → Int32} {g : Nat → Int32} {h : ni_H} (H : fs_mtb mu g h) (c : Nat → Int32) : fs_mtb (fs_ur mu c) g (ni_up h 56 (ni_I 5 c)) := by
  obtain ⟨a0, a1, a2, a3, a4, a5, a6, b⟩ := H
  refine ⟨by rw [up_n (by decide)]; exact a0, ?_, ?_, ?_, ?_, ?_, up_s, b⟩
  · rw [ur_n (by decide), up_n (by decide)]; exact a1
  · rw [ur_n (by decide), up_n (by decide)]; exact a2
  · rw [ur_n (by decide), up_n (by decide)]; exact a3
  · rw [ur_n (by decide), up_n (by decide)]; exact a4
  · rw [ur_n (by decide), up_n (by decide)]; exact a5
/-- cells that may be -/
def fs_cok (c : Nat → Int32) : Prop := (∀ j, j < 5 → c j = -1 ∨ fs_ce (c j)) ∧ (∀ j, 5 ≤ j → c j = 0) ∧ (∀ i j, i < 5 → j < 5 → i ≠ j → c i = c j → c i = -1)
theorem good_r {J n w : Nat} {u : Nat → Nat → Int32} {c : Nat → Int32} (h : fs_good J n w u) (hc : fs_cok c) : fs_good J n w (fs_ur u c) := by
  obtain ⟨q1, q2, q3, q4, q5, q6, q7, q8⟩ := h
  exact ⟨by rw [ur_n (by decide)]; exact q1, q2, by rw [ur_n (by decide)]; exact q3, q4, hc.1, hc.2.1, hc.2.2, fun k hk => by simp +decide only [ur_n]; exact q8 k hk⟩
theorem cok_u {J n w : Nat} {u : Nat → Nat → Int32} (h : fs_good J n w u) : fs_cok (u 0) := ⟨h.2.2.2.2.1, h.2.2.2.2.2.1, h.2.2.2.2.2.2.1⟩
theorem cok_up {c : Nat → Int32} (h : fs_cok c) : fs_cok (fun j => if j < 5 then -1 else c j) := by
  refine ⟨fun j hj => Or.inl (if_pos hj), fun j hj => ?_, fun i j hi hj _ _ => if_pos hi⟩
  simp only
  rw [if_neg (by omega)]
  exact h.2.1 j hj
theorem cok_set {c : Nat → Int32} {k : Nat} (h : fs_cok c) (hk : k < 5) : fs_cok (upd c k (-1)) := by
  refine ⟨fun j hj => ?_, fun j hj => ?_, fun i j hi hj hn => ?_⟩
  · by_cases e : j = k
    · rw [e, ud_s]; exact Or.inl rfl
    · rw [ud_n e]; exact h.1 j hj
  · rw [ud_n (by omega)]; exact h.2.1 j hj
  · by_cases e : i = k
    · rw [e, ud_s]; intro _; rfl
    · rw [ud_n e]
      by_cases e2 : j = k
      · rw [e2, ud_s]; exact id
      · rw [ud_n e2]; exact h.2.2 i j hi hj hn
theorem cok_pk {x : Int32} : ∀ (m j : Nat) (c : Nat → Int32), j + m = 5 → fs_cok c → fs_cok (fs_pk x m j c) := by
  intro m
  induction m with
  | zero => intro j c _ h; rw [fs_pk]; exact h
  | succ m ih =>
    intro j c e h
    rw [fs_pk]
    split
    · exact ih (j + 1) _ (by omega) (cok_set h (by omega))
    · exact ih (j + 1) _ (by omega) h
def fs_tu1 (w : Nat) (u : Nat → Nat → Int32) : Nat → Nat → Int32 := fs_u (fs_u u 6 3 (fs_draw (u 6 3))) 5 w (u 5 w + 1)
/-- a toss: done or not -/
def fs_tu (dn : Bool) (S n w : Nat) (u : Nat → Nat → Int32) : Nat → Nat → Int32 :=
  if dn = true then (if fs_lie (fs_pk (nI S) 5 0 (u 0)) = 0 then (if u 3 w = 4 then fs_u (fs_u (fs_ur (fs_tu1 w u) (fs_pk (nI S) 5 0 (u 0))) 3 w 1) 4 w (u 4 w + 1) else fs_u (fs_u (fs_ur (fs_tu1 w u) (fs_pk (nI S) 5 0 (u 0))) 3 w (u 3 w + 1)) 4 w (u 4 w)) else fs_ur (fs_tu1 w u) (fs_pk (nI S) 5 0 (u 0)))
  else fs_u (fs_u (fs_ur (fs_tu1 w u) (fun j => if j < 5 then -1 else u 0 j)) 6 2 (u 6 2 + 1)) 6 1 (fs_next (nI n) (nI w))
def fs_dn (u : Nat → Nat → Int32) (w S : Nat) (ht : Int32) : Bool := !decide (fs_odds (u 0) (u 1 w) (u 2 w) (u 5 w) (fs_lb (u 0)) S ht ≤ fs_low (fs_draw (u 6 3)) 100)
theorem good_tu {J n w S : Nat} {dn : Bool} {u : Nat → Nat → Int32} (h : fs_good J n w u) (hw : w < n) : ∃ w', (w' < n) ∧ (dn = true → w' = w) ∧ fs_good (J + 1) n w' (fs_tu dn S n w u) := by
  have h1 := good_J h (show J ≤ J + 1 by omega)
  obtain ⟨t, t1, t2⟩ := (h.2.2.2.2.2.2.2 w hw).2.2.2
  have g1 : fs_good (J + 1) n w (fs_tu1 w u) := by
    unfold fs_tu1
    rw [t2, nI_1]
    exact good_ts (good_6 h1 (Or.inr rfl)) (by omega)
  obtain ⟨l, l1, l2, l3⟩ := (h.2.2.2.2.2.2.2 w hw).2.2.1
  unfold fs_tu
  cases dn
  · simp only [Bool.false_eq_true, if_false]
    rw [nx_n hw h.2.1]
    exact ⟨(w + 1) % n, Nat.mod_lt _ (by omega), fun q => (by cases q), good_turn (good_6 (good_r g1 (cok_up (cok_u h))) (Or.inl rfl)) (Nat.mod_lt _ (by omega))⟩
  · simp only [if_true]
    refine ⟨w, hw, fun _ => rfl, ?_⟩
    have g2 := good_r g1 (cok_pk (x := nI S) 5 0 (u 0) rfl (cok_u h))
    split
    · split
      · exact good_rd (good_stage g2 (l := 1) (by decide) (by decide))
      · next q =>
        rw [l3, nI_1]
        have : l ≠ 4 := fun e => q (by rw [l3, e]; rfl)
        exact good_rd (good_stage g2 (by omega) (by omega))
    · exact g2
section
variable {z : ni_Z}
theorem XT {h : ni_H} {im lf : Int32} {J n w S : Nat} {ht : Int32} {u : Nat → Nat → Int32} {fo : Int32} {wy ch pl ne pa : Nat → Int32} (hG : fs_good J n w u) (hw : w < n) (x0 : h 0 = ni_O 6 [.ref 1, .ref 2, .ref 9, .ref 16, .ref 23, .ref 29, .ref 31, .ref 32, .int im, .int lf]) (T : fs_tab 2 u h) (L : fs_lkd (u 0) h fo wy ch pl ne pa) (hS : S < 32) (hs : fs_sub (nI S) (nI (fs_lb (u 0))) = true) : ∃ h' : ni_H, (∀ (d : Nat) (Q : ni_Q), ni_T (d + 3) 115 0 [.ref 0, .ref (2 + 3 + w), .int (nI S), .int ht, .retAddr 0] [] z h Q = Q (some (.int (fs_b (fs_dn u w S ht)))) z h') ∧ (∀ i, (i < 2 ∨ 8 < i) → h' i = h i) ∧ fs_tab 2 (fs_tu (fs_dn u w S ht) S n w u) h' := by
  obtain ⟨u60, n4, u61, wn, cel, cel5, cdis, hnd⟩ := hG
  obtain ⟨t2, t3, t4, tH⟩ := T
  have T := (⟨t2, t3, t4, tH⟩ : fs_tab 2 u h)
  rw [u60, u61] at t2
  simp only [Nat.reduceAdd] at t2 t3 t4
  have hO := tH w (by omega)
  have hK := (hnd w hw).1
  obtain ⟨l, l1, l4, el⟩ := (hnd w hw).2.2.1
  have xd := fun (d : Nat) (Q : ni_Q) => X_draw (t := 2) (d := d) (z := z) (Q := Q) (x := 100) t2 (by decide)
  have T1 := tab_6 T 3 (fs_draw (u 6 3))
  rw [ud_n (by decide), ud_n (by decide), ud_n (by decide), ud_s, u60, u61] at T1
  simp only [Nat.reduceAdd] at xd T1
  generalize hh1 : ni_up h 2 (ni_O 5 [.ref 3, .ref 4, .int (nI n), .int (nI w), .int (u 6 2), .int (fs_draw (u 6 3))]) = h1 at xd T1
  have f1 : ∀ i, i ≠ 2 → h1 i = h i := fun i hi => by rw [← hh1, up_n hi]
  have x01 := (f1 0 (by omega)).trans x0
  have hO1 := (f1 (2 + 3 + w) (by omega)).trans hO
  have eo : fs_oc wy ne (u 1 w) (u 2 w) (u 5 w) S (nI (fs_lb (u 0))) ht = fs_odds (u 0) (u 1 w) (u 2 w) (u 5 w) (fs_lb (u 0)) S ht := lkd_oc cel L (lb_lt _) (sub_self' _ (lb_lt _)) hS hs
  have L23 := (f1 23 (by omega)).trans L.1
  have xo := fun (d : Nat) (Q : ni_Q) => X_odds (d := d) (z := z) (Q := Q) (S := S) (ly := nI (fs_lb (u 0))) (ht := ht) hO1 hK L23 ((f1 24 (by omega)).trans L.2.1) ((f1 27 (by omega)).trans L.2.2.2.2.1) hS
  rw [eo] at xo
  have T2 := tab_h (t := 2) (j := w) (v := fs_tu1 w u) T1 (by omega) (by unfold fs_tu1; rw [fu_n (by decide)]) (by unfold fs_tu1; rw [fu_n (by decide)]) (fun i k hk => by unfold fs_tu1; rw [fu_k hk])
  have v1 : fs_tu1 w u 1 w = u 1 w := by unfold fs_tu1; rw [fu_n (by decide), fu_n (by decide)]
  have v2 : fs_tu1 w u 2 w = u 2 w := by unfold fs_tu1; rw [fu_n (by decide), fu_n (by decide)]
  have v3 : fs_tu1 w u 3 w = u 3 w := by unfold fs_tu1; rw [fu_n (by decide), fu_n (by decide)]
  have v4 : fs_tu1 w u 4 w = u 4 w := by unfold fs_tu1; rw [fu_n (by decide), fu_n (by decide)]
  have v5 : fs_tu1 w u 5 w = u 5 w + 1 := by unfold fs_tu1; rw [fu_s, ud_s]
  have v0 : fs_tu1 w u 0 = u 0 := by unfold fs_tu1; rw [fu_n (by decide), fu_n (by decide)]
  have v60 : fs_tu1 w u 6 0 = nI n := by unfold fs_tu1; rw [fu_n (by decide), fu_s, ud_n (by decide)]; exact u60
  have v61 : fs_tu1 w u 6 1 = nI w := by unfold fs_tu1; rw [fu_n (by decide), fu_s, ud_n (by decide)]; exact u61
  have v62 : fs_tu1 w u 6 2 = u 6 2 := by unfold fs_tu1; rw [fu_n (by decide), fu_s, ud_n (by decide)]
  rw [v1, v2, v3, v4, v5] at T2
  generalize hh2 : ni_up h1 (2 + 3 + w) (ni_O 1 [.int (nI w), .int (u 1 w), .int (u 2 w), .int (u 3 w), .int (u 4 w), .int (u 5 w + 1)]) = h2 at T2
  have f2 : ∀ i, i ≠ 2 + 3 + w → h2 i = h1 i := fun i hi => by rw [← hh2, up_n hi]
  have x02 := (f2 0 (by omega)).trans x01
  have step : ∀ (d : Nat) (Q : ni_Q), ni_T (d + 3) 115 0 [.ref 0, .ref (2 + 3 + w), .int (nI S), .int ht, .retAddr 0] [] z h Q = ni_T (d + 3) 115 46 [.ref 0, .ref (2 + 3 + w), .int (nI S), .int ht, .int (fs_b (fs_dn u w S ht))] [] z h2 Q := by
    intro d Q
    simp only [Nat.reduceAdd] at hO1 xo hh2
    simp only [Nat.reduceAdd]
    by_cases q : fs_odds (u 0) (u 1 w) (u 2 w) (u 5 w) (fs_lb (u 0)) S ht ≤ fs_low (fs_draw (u 6 3)) 100
    · have e : fs_b (fs_dn u w S ht) = 0 := by unfold fs_dn; rw [decide_eq_true q]; rfl
      rw [e]
      simp +decide only [s115_0, s115_1, s115_4, s115_6, s115_9, s115_10, s115_13, s115_13N, s115_14, s115_15, s115_16, s115_19, s115_22, s115_23, s115_23N0, s115_26, s115_29, s115_30, s115_33, s115_34, s115_36, s115_36N, s115_37, s115_37i, s115_38, s115_41, s115_42, s115_43, s115_48, s115_51, s115_52, s115_55, s115_56, s115_59, s115_60, s115_63, s115_66, s115_69, s115_69N, s115_70, s115_73, s115_76, s115_77, s115_80, s115_83, s115_85, x0, x01, t2, xd, L23, xo, q, hO1, hh2, ↓reduceIte, kl_i, kl_r, kl_n, kl_a, kl_l, up_s, up_up, is_0, is_s, gv_0, gv_s, pv_o, rc_o, okI_i, okI_x, okS_i, okB_x, gi_i, pi_i, okL_l, gl_l, pl_l, okA_2, okA_3, ga_a, arr_0, arr_1, arr_10, arr_11, len_a, sw_0, sw_i, sw_r, sw_l, fit_i, fit_z0, fit_z1, nz_0, nz_1, ni_K_s, ni_K_n, Nat.ble_eq, Nat.zero_le, Nat.zero_add, true_and, and_true, and_self, Bool.and_true, Bool.true_and, Bool.and_self, not_true_eq_false, not_false_eq_true, Int32.reduceLE, Int32.reduceLT, Int32.reduceAdd, Int32.reduceSub, Int32.reduceToNatClampNeg, Nat.reduceLeDiff, Nat.reduceAdd, Nat.reduceEqDiff, Nat.reduceSub, List.set_cons_zero, List.set_cons_succ, false_and, and_false]
    · have e : fs_b (fs_dn u w S ht) = 1 := by unfold fs_dn; rw [decide_eq_false q]; rfl
      rw [e]
      simp +decide only [s115_0, s115_1, s115_4, s115_6, s115_9, s115_10, s115_13, s115_13N, s115_14, s115_15, s115_16, s115_19, s115_22, s115_23, s115_23N0, s115_26, s115_29, s115_30, s115_33, s115_34, s115_36, s115_36N, s115_37, s115_37i, s115_38, s115_41, s115_42, s115_43, s115_48, s115_51, s115_52, s115_55, s115_56, s115_59, s115_60, s115_63, s115_66, s115_69, s115_69N, s115_70, s115_73, s115_76, s115_77, s115_80, s115_83, s115_85, x0, x01, t2, xd, L23, xo, q, hO1, hh2, ↓reduceIte, kl_i, kl_r, kl_n, kl_a, kl_l, up_s, up_up, is_0, is_s, gv_0, gv_s, pv_o, rc_o, okI_i, okI_x, okS_i, okB_x, gi_i, pi_i, okL_l, gl_l, pl_l, okA_2, okA_3, ga_a, arr_0, arr_1, arr_10, arr_11, len_a, sw_0, sw_i, sw_r, sw_l, fit_i, fit_z0, fit_z1, nz_0, nz_1, ni_K_s, ni_K_n, Nat.ble_eq, Nat.zero_le, Nat.zero_add, true_and, and_true, and_self, Bool.and_true, Bool.true_and, Bool.and_self, not_true_eq_false, not_false_eq_true, Int32.reduceLE, Int32.reduceLT, Int32.reduceAdd, Int32.reduceSub, Int32.reduceToNatClampNeg, Nat.reduceLeDiff, Nat.reduceAdd, Nat.reduceEqDiff, Nat.reduceSub, List.set_cons_zero, List.set_cons_succ, false_and, and_false]
  have T2' := T2
  obtain ⟨a2, a3, a4, aH⟩ := T2'
  rw [v60, v61, v62] at a2
  rw [v0] at a3
  simp only [Nat.reduceAdd] at a2 a3 a4
  cases dn : fs_dn u w S ht
  · rw [dn] at step
    have xf := fun (d : Nat) (Q : ni_Q) => X_fail (t := 2) (d := d) (z := z) (Q := Q) a2 a3
    have T3 := tab_6 (tab_6 (tab_r T2 (fun j => if j < 5 then -1 else u 0 j)) 2 (u 6 2 + 1)) 1 (fs_next (nI n) (nI w))
    simp +decide only [fu_s, fu_n, ur_n, ud_s, ud_n, up_up, Nat.reduceAdd, v60, v61, v62] at T3
    simp only [Nat.reduceAdd] at xf
    refine ⟨ni_up (ni_up h2 3 (ni_I 5 (fun j => if j < 5 then -1 else u 0 j))) 2 (ni_O 5 [.ref 3, .ref 4, .int (nI n), .int (fs_next (nI n) (nI w)), .int (u 6 2 + 1), .int (fs_tu1 w u 6 3)]), fun d Q => ?_, fun i hi => by rw [up_n (by omega), up_n (by omega), f2 i (by omega), f1 i (by omega)], by simp only [fs_tu, Bool.false_eq_true, if_false]; exact T3⟩
    rw [step]
    simp +decide only [s115_1, s115_4, s115_6, s115_9, s115_10, s115_13, s115_13N, s115_14, s115_15, s115_16, s115_19, s115_22, s115_23, s115_23N0, s115_26, s115_29, s115_30, s115_33, s115_34, s115_36, s115_36N, s115_37, s115_37i, s115_38, s115_41, s115_42, s115_43, s115_46, s115_48, s115_51, s115_52, s115_55, s115_56, s115_59, s115_60, s115_63, s115_66, s115_69, s115_69N, s115_70, s115_73, s115_76, s115_77, s115_80, s115_83, s115_85, fs_b, x02, a2, xf, ↓reduceIte, kl_i, kl_r, kl_n, kl_a, kl_l, up_s, up_up, is_0, is_s, gv_0, gv_s, pv_o, rc_o, okI_i, okI_x, okS_i, okB_x, gi_i, pi_i, okL_l, gl_l, pl_l, okA_2, okA_3, ga_a, arr_0, arr_1, arr_10, arr_11, len_a, sw_0, sw_i, sw_r, sw_l, fit_i, fit_z0, fit_z1, nz_0, nz_1, ni_K_s, ni_K_n, Nat.ble_eq, Nat.zero_le, Nat.zero_add, true_and, and_true, and_self, Bool.and_true, Bool.true_and, Bool.and_self, not_true_eq_false, not_false_eq_true, Int32.reduceLE, Int32.reduceLT, Int32.reduceAdd, Int32.reduceSub, Int32.reduceToNatClampNeg, Nat.reduceLeDiff, Nat.reduceAdd, Nat.reduceEqDiff, Nat.reduceSub, List.set_cons_zero, List.set_cons_succ, false_and, and_false]
  · rw [dn] at step
    have xp := fun (d : Nat) (Q : ni_Q) => X_pick (t := 2) (d := d) (z := z) (Q := Q) (x := nI S) a2 a3
    have T3 := tab_r T2 (fs_pk (nI S) 5 0 (u 0))
    simp only [Nat.reduceAdd] at xp T3
    generalize hh3 : ni_up h2 3 (ni_I 5 (fs_pk (nI S) 5 0 (u 0))) = h3 at xp T3
    have f3 : ∀ i, i ≠ 3 → h3 i = h2 i := fun i hi => by rw [← hh3, up_n hi]
    have T3' := T3
    obtain ⟨b2, b3, b4, bH⟩ := T3'
    rw [ur_n (by decide), v60, v61, v62] at b2
    rw [ur_0] at b3
    simp only [Nat.reduceAdd] at b2 b3 b4
    have x03 := (f3 0 (by omega)).trans x02
    have xl := fun (d : Nat) (Q : ni_Q) => X_lie (t := 2) (d := d) (z := z) (Q := Q) b2 b3
    have hO3 : h3 (2 + 3 + w) = ni_O 1 [.int (nI w), .int (u 1 w), .int (u 2 w), .int (u 3 w), .int (u 4 w), .int (u 5 w + 1)] := by
      have := bH w (by omega)
      simp +decide only [ur_n, v1, v2, v3, v4, v5] at this
      exact this
    by_cases ql : fs_lie (fs_pk (nI S) 5 0 (u 0)) = 0
    · have xr := fun (d : Nat) (Q : ni_Q) => X_rise (d := d) (z := z) (Q := Q) hO3
      by_cases q4 : u 3 w = 4
      · have T4 := tab_h (t := 2) (j := w) (v := fs_u (fs_u (fs_ur (fs_tu1 w u) (fs_pk (nI S) 5 0 (u 0))) 3 w 1) 4 w (u 4 w + 1)) T3 (by omega) (by rw [fu_n (by decide), fu_n (by decide)]) (by rw [fu_n (by decide), fu_n (by decide)]) (fun i k hk => by rw [fu_k hk, fu_k hk])
        simp +decide only [fu_s, fu_n, ur_n, ud_s, v1, v2, v5] at T4
        refine ⟨ni_up h3 (2 + 3 + w) (ni_O 1 [.int (nI w), .int (u 1 w), .int (u 2 w), .int 1, .int (u 4 w + 1), .int (u 5 w + 1)]), fun d Q => ?_, ?_, by simp only [fs_tu, if_true, ql, q4]; exact T4⟩
        · rw [step]
          have q5 : ¬ u 3 w + 1 ≤ 4 := by rw [q4]; decide
          rw [if_neg q5] at xr
          simp +decide only [s115_1, s115_4, s115_6, s115_9, s115_10, s115_13, s115_13N, s115_14, s115_15, s115_16, s115_19, s115_22, s115_23, s115_23N0, s115_26, s115_29, s115_30, s115_33, s115_34, s115_36, s115_36N, s115_37, s115_37i, s115_38, s115_41, s115_42, s115_43, s115_46, s115_48, s115_51, s115_52, s115_55, s115_56, s115_59, s115_60, s115_63, s115_66, s115_69, s115_69N, s115_70, s115_73, s115_76, s115_77, s115_80, s115_83, s115_85, fs_b, x02, x03, a2, b2, xp, xl, ql, hO3, xr, ↓reduceIte, kl_i, kl_r, kl_n, kl_a, kl_l, up_s, up_up, is_0, is_s, gv_0, gv_s, pv_o, rc_o, okI_i, okI_x, okS_i, okB_x, gi_i, pi_i, okL_l, gl_l, pl_l, okA_2, okA_3, ga_a, arr_0, arr_1, arr_10, arr_11, len_a, sw_0, sw_i, sw_r, sw_l, fit_i, fit_z0, fit_z1, nz_0, nz_1, ni_K_s, ni_K_n, Nat.ble_eq, Nat.zero_le, Nat.zero_add, true_and, and_true, and_self, Bool.and_true, Bool.true_and, Bool.and_self, not_true_eq_false, not_false_eq_true, Int32.reduceLE, Int32.reduceLT, Int32.reduceAdd, Int32.reduceSub, Int32.reduceToNatClampNeg, Nat.reduceLeDiff, Nat.reduceAdd, Nat.reduceEqDiff, Nat.reduceSub, List.set_cons_zero, List.set_cons_succ, false_and, and_false]
        · intro i hi
          rw [up_n (by omega), f3 i (by omega), f2 i (by omega), f1 i (by omega)]
      · have T4 := tab_h (t := 2) (j := w) (v := fs_u (fs_u (fs_ur (fs_tu1 w u) (fs_pk (nI S) 5 0 (u 0))) 3 w (u 3 w + 1)) 4 w (u 4 w)) T3 (by omega) (by rw [fu_n (by decide), fu_n (by decide)]) (by rw [fu_n (by decide), fu_n (by decide)]) (fun i k hk => by rw [fu_k hk, fu_k hk])
        simp +decide only [fu_s, fu_n, ur_n, ud_s, v1, v2, v5] at T4
        refine ⟨ni_up h3 (2 + 3 + w) (ni_O 1 [.int (nI w), .int (u 1 w), .int (u 2 w), .int (u 3 w + 1), .int (u 4 w), .int (u 5 w + 1)]), fun d Q => ?_, ?_, by simp only [fs_tu, if_true, ql, q4, if_false]; exact T4⟩
        · rw [step]
          have q5 : u 3 w + 1 ≤ 4 := by
            rw [el, nI_1]
            have : l ≠ 4 := fun e => q4 (by rw [el, e]; rfl)
            exact nI_le (a := l + 1) (b := 4) (by omega) (by decide)
          rw [if_pos q5] at xr
          simp +decide only [s115_1, s115_4, s115_6, s115_9, s115_10, s115_13, s115_13N, s115_14, s115_15, s115_16, s115_19, s115_22, s115_23, s115_23N0, s115_26, s115_29, s115_30, s115_33, s115_34, s115_36, s115_36N, s115_37, s115_37i, s115_38, s115_41, s115_42, s115_43, s115_46, s115_48, s115_51, s115_52, s115_55, s115_56, s115_59, s115_60, s115_63, s115_66, s115_69, s115_69N, s115_70, s115_73, s115_76, s115_77, s115_80, s115_83, s115_85, fs_b, x02, x03, a2, b2, xp, xl, ql, hO3, xr, ↓reduceIte, kl_i, kl_r, kl_n, kl_a, kl_l, up_s, up_up, is_0, is_s, gv_0, gv_s, pv_o, rc_o, okI_i, okI_x, okS_i, okB_x, gi_i, pi_i, okL_l, gl_l, pl_l, okA_2, okA_3, ga_a, arr_0, arr_1, arr_10, arr_11, len_a, sw_0, sw_i, sw_r, sw_l, fit_i, fit_z0, fit_z1, nz_0, nz_1, ni_K_s, ni_K_n, Nat.ble_eq, Nat.zero_le, Nat.zero_add, true_and, and_true, and_self, Bool.and_true, Bool.true_and, Bool.and_self, not_true_eq_false, not_false_eq_true, Int32.reduceLE, Int32.reduceLT, Int32.reduceAdd, Int32.reduceSub, Int32.reduceToNatClampNeg, Nat.reduceLeDiff, Nat.reduceAdd, Nat.reduceEqDiff, Nat.reduceSub, List.set_cons_zero, List.set_cons_succ, false_and, and_false]
        · intro i hi
          rw [up_n (by omega), f3 i (by omega), f2 i (by omega), f1 i (by omega)]
    · refine ⟨h3, fun d Q => ?_, ?_, by simp only [fs_tu, if_true, ql, if_false]; exact T3⟩
      · rw [step]
        simp +decide only [s115_1, s115_4, s115_6, s115_9, s115_10, s115_13, s115_13N, s115_14, s115_15, s115_16, s115_19, s115_22, s115_23, s115_23N0, s115_26, s115_29, s115_30, s115_33, s115_34, s115_36, s115_36N, s115_37, s115_37i, s115_38, s115_41, s115_42, s115_43, s115_46, s115_48, s115_51, s115_52, s115_55, s115_56, s115_59, s115_60, s115_63, s115_66, s115_69, s115_69N, s115_70, s115_73, s115_76, s115_77, s115_80, s115_83, s115_85, fs_b, x02, x03, a2, b2, xp, xl, ql, ↓reduceIte, kl_i, kl_r, kl_n, kl_a, kl_l, up_s, up_up, is_0, is_s, gv_0, gv_s, pv_o, rc_o, okI_i, okI_x, okS_i, okB_x, gi_i, pi_i, okL_l, gl_l, pl_l, okA_2, okA_3, ga_a, arr_0, arr_1, arr_10, arr_11, len_a, sw_0, sw_i, sw_r, sw_l, fit_i, fit_z0, fit_z1, nz_0, nz_1, ni_K_s, ni_K_n, Nat.ble_eq, Nat.zero_le, Nat.zero_add, true_and, and_true, and_self, Bool.and_true, Bool.true_and, Bool.and_self, not_true_eq_false, not_false_eq_true, Int32.reduceLE, Int32.reduceLT, Int32.reduceAdd, Int32.reduceSub, Int32.reduceToNatClampNeg, Nat.reduceLeDiff, Nat.reduceAdd, Nat.reduceEqDiff, Nat.reduceSub, List.set_cons_zero, List.set_cons_succ, false_and, and_false]
      · intro i hi
        rw [f3 i (by omega), f2 i (by omega), f1 i (by omega)]
theorem MT {h : ni_H} {J n w S : Nat} {ht : Int32} {u mu : Nat → Nat → Int32} {g : Nat → Int32} (hG : fs_good J n w u) (hR : fs_rel n u mu) (hw : w < n) (H : fs_mtb mu g h) (hS : S < 32) : ∃ (h' : ni_H) (g' : Nat → Int32) (mu' : Nat → Nat → Int32), (∀ (d : Nat) (Q : ni_Q), ni_T (d + 8) 184 0 [.ref 49, .int (nI S), .int ht, .retAddr 0, .retAddr 0, .retAddr 0, .retAddr 0] [] z h Q = Q (some (.int (fs_b (fs_dn u w S ht)))) z h') ∧ (∀ i, i ≠ 49 → (i < 51 ∨ 56 < i) → h' i = h i) ∧ fs_mtb mu' g' h' ∧ fs_rel n (fs_tu (fs_dn u w S ht) S n w u) mu' ∧ (∀ i, i ≠ 1 → i ≠ 2 → i ≠ 3 → i ≠ 27 → g' i = g i) := by
  obtain ⟨u60, n4, u61, wn, cel, cel5, cdis, hnd⟩ := hG
  have hR' := hR
  obtain ⟨r6, r0, rH⟩ := hR'
  have H' := H
  obtain ⟨m49, m51, m52, m53, m54, m55, m56, g0, g1, g2, g3⟩ := H'
  have gn : g 0 = nI n := (g0.trans (r6 0 (by decide))).trans u60
  have gw : g 1 = nI w := (g1.trans (r6 1 (by decide))).trans u61
  have gf : g 2 = u 6 2 := g2.trans (r6 2 (by decide))
  have gs : g 3 = u 6 3 := g3.trans (r6 3 (by decide))
  rw [r0] at m56
  have r1 := rH 1 w (by decide) (by decide) hw
  have r2 := rH 2 w (by decide) (by decide) hw
  have r3 := rH 3 w (by decide) (by decide) hw
  have r4 := rH 4 w (by decide) (by decide) hw
  have r5 := rH 5 w (by decide) (by decide) hw
  have hK' : fs_kd (mu 1 w) := by rw [r1]; exact (hnd w hw).1
  have R1 : fs_rel n (fs_tu1 w u) (fs_u (fs_u mu 6 3 (fs_draw (u 6 3))) 5 w (u 5 w + 1)) := rel_u (rel_u hR 6 3 _) 5 w _
  cases dn : fs_dn u w S ht
  · have hd : fs_odds (u 0) (mu 1 w) (mu 2 w) (mu 5 w) (fs_lb (u 0)) S ht ≤ fs_low (fs_draw (g 3)) 100 := by
      rw [r1, r2, r5, gs]
      unfold fs_dn at dn
      exact of_decide_eq_true (by simpa using dn)
    obtain ⟨ga, g', a1, a2, a3, a4, r⟩ := M_guF (z := z) (k := w) m49 gn gw m56 m51 m52 m55 hw n4 hK' hS hd
    refine ⟨_, g', fs_u (fs_u (fs_ur (fs_u (fs_u mu 6 3 (fs_draw (u 6 3))) 5 w (u 5 w + 1)) (fun j => if j < 5 then -1 else u 0 j)) 6 2 (u 6 2 + 1)) 6 1 (fs_next (nI n) (nI w)), r, fun i h1 h2 => by rw [up_n h1, up_n (by omega), up_n (by omega), up_n h1], ?_, ?_, a1⟩
    · refine ⟨up_s, ?_, ?_, ?_, ?_, ?_, ?_, ?_, ?_, ?_, ?_⟩
      all_goals simp +decide only [fu_s, fu_n, ur_n, ur_0, up_s, up_n, ud_s, ud_n, a2, a3, a4, gs, gf, r5]
      · exact m51
      · exact m52
      · exact m53
      · exact m54
      · rw [a1 0 (by decide) (by decide) (by decide) (by decide)]; exact g0
    · exact rel_u (rel_u (rel_r R1 _) 6 2 _) 6 1 _
  · have hd : ¬ fs_odds (u 0) (mu 1 w) (mu 2 w) (mu 5 w) (fs_lb (u 0)) S ht ≤ fs_low (fs_draw (g 3)) 100 := by
      rw [r1, r2, r5, gs]
      unfold fs_dn at dn
      intro q
      rw [decide_eq_true q] at dn
      cases dn
    by_cases ql : fs_lie (fs_pk (nI S) 5 0 (u 0)) = 0
    · obtain ⟨l, l1, l2, l3⟩ := (hnd w hw).2.2.1
      have hg : mu 3 w = 1 ∨ mu 3 w = 2 ∨ mu 3 w = 3 ∨ mu 3 w = 4 := by
        rw [r3, l3]
        have : ∀ l, l < 5 → 1 ≤ l → nI l = 1 ∨ nI l = 2 ∨ nI l = 3 ∨ nI l = 4 := by decide +kernel
        exact this l (by omega) l1
      obtain ⟨g', a1, a2, r⟩ := M_guU (z := z) (k := w) m49 gw m56 m51 m52 m53 m54 m55 (show w < 4 by omega) hK' hS hd ql hg
      by_cases q4 : u 3 w = 4
      · refine ⟨_, g', fs_u (fs_u (fs_ur (fs_u (fs_u mu 6 3 (fs_draw (u 6 3))) 5 w (u 5 w + 1)) (fs_pk (nI S) 5 0 (u 0))) 3 w 1) 4 w (u 4 w + 1), r, fun i h1 h2 => by rw [up_n (by omega), up_n (by omega), up_n (by omega), up_n (by omega), up_n h1], ?_, ?_, fun i _ _ b3 b4 => a1 i b3 b4⟩
        · refine ⟨by simp +decide only [up_n, up_s], ?_, ?_, ?_, ?_, ?_, ?_, ?_, ?_, ?_, ?_⟩
          all_goals simp +decide only [fu_s, fu_n, ur_n, ur_0, up_s, up_n, ud_s, ud_n, a2, gs, r3, r4, r5, q4, if_true]
          · exact m51
          · exact m52
          · rw [a1 0 (by decide) (by decide)]; exact g0
          · rw [a1 1 (by decide) (by decide)]; exact g1
          · rw [a1 2 (by decide) (by decide)]; exact g2
        · simp only [fs_tu, if_true, ql, q4]
          exact rel_u (rel_u (rel_r R1 _) 3 w _) 4 w _
      · refine ⟨_, g', fs_u (fs_u (fs_ur (fs_u (fs_u mu 6 3 (fs_draw (u 6 3))) 5 w (u 5 w + 1)) (fs_pk (nI S) 5 0 (u 0))) 3 w (u 3 w + 1)) 4 w (u 4 w), r, fun i h1 h2 => by rw [up_n (by omega), up_n (by omega), up_n (by omega), up_n (by omega), up_n h1], ?_, ?_, fun i _ _ b3 b4 => a1 i b3 b4⟩
        · refine ⟨by simp +decide only [up_n, up_s], ?_, ?_, ?_, ?_, ?_, ?_, ?_, ?_, ?_, ?_⟩
          all_goals simp +decide only [fu_s, fu_n, ur_n, ur_0, up_s, up_n, ud_s, ud_n, a2, gs, r3, r4, r5, q4, if_false]
          · exact m51
          · exact m52
          · rw [a1 0 (by decide) (by decide)]; exact g0
          · rw [a1 1 (by decide) (by decide)]; exact g1
          · rw [a1 2 (by decide) (by decide)]; exact g2
        · simp only [fs_tu, if_true, ql, q4, if_false]
          exact rel_u (rel_u (rel_r R1 _) 3 w _) 4 w _
    · obtain ⟨g', a1, a2, r⟩ := M_guT (z := z) (k := w) m49 gw m56 m51 m52 m55 (show w < 4 by omega) hK' hS hd ql
      refine ⟨_, g', fs_ur (fs_u (fs_u mu 6 3 (fs_draw (u 6 3))) 5 w (u 5 w + 1)) (fs_pk (nI S) 5 0 (u 0)), r, fun i h1 h2 => by rw [up_n (by omega), up_n (by omega), up_n h1], ?_, ?_, fun i _ _ b3 b4 => a1 i b3 b4⟩
      · refine ⟨by simp +decide only [up_n, up_s], ?_, ?_, ?_, ?_, ?_, ?_, ?_, ?_, ?_, ?_⟩
        all_goals simp +decide only [fu_s, fu_n, ur_n, ur_0, up_s, up_n, ud_s, ud_n, a2, gs, r5]
        · exact m51
        · exact m52
        · exact m53
        · exact m54
        · rw [a1 0 (by decide) (by decide)]; exact g0
        · rw [a1 1 (by decide) (by decide)]; exact g1
        · rw [a1 2 (by decide) (by decide)]; exact g2
      · simp only [fs_tu, if_true, ql, if_false]
        exact rel_r R1 _
end
