set_option maxRecDepth 100000
set_option maxHeartbeats 1000000
/-! ===== plays ===== -/
/-- the plan of the hand w, and its height -/
def fs_ps (u : Nat → Nat → Int32) (w : Nat) : Nat := (fs_cg fs_lm (fs_om (u 0) (u 1 w) (u 2 w) (u 5 w)) (u 3 w).toNatClampNeg 5 (fs_lb (u 0))).2
def fs_ph (u : Nat → Nat → Int32) (w : Nat) : Int32 := fs_high (u 0) (u 1 w) (u 2 w) (u 5 w) (fs_lb (u 0)) (fs_ps u w)
/-- one planned toss -/
def fs_p1 (n w : Nat) (u : Nat → Nat → Int32) : Nat → Nat → Int32 := fs_tu (fs_dn u w (fs_ps u w) (fs_ph u w)) (fs_ps u w) n w u
def fs_rl (n w : Nat) : Nat → (Nat → Nat → Int32) → (Nat → Nat → Int32)
  | 0, u => u
  | f + 1, u => if fs_lb (u 0) = 0 then u else fs_rl n w f (fs_p1 n w u)
theorem rl_0 {n w f : Nat} {u : Nat → Nat → Int32} (h : fs_lb (u 0) = 0) : fs_rl n w f u = u := by
  cases f with
  | zero => rw [fs_rl]
  | succ f => rw [fs_rl, if_pos h]
theorem lb_up (c : Nat → Int32) : fs_lb (fun j => if j < 5 then -1 else c j) = 0 := by
  unfold fs_lb
  simp
theorem tu_F {S n w : Nat} {u : Nat → Nat → Int32} : fs_tu false S n w u 0 = fun j => if j < 5 then -1 else u 0 j := by
  simp only [fs_tu, Bool.false_eq_true, if_false]
  rw [fu_n (by decide), fu_n (by decide), ur_0]
theorem tu_T {S n w : Nat} {u : Nat → Nat → Int32} : fs_tu true S n w u 0 = fs_pk (nI S) 5 0 (u 0) := by
  simp only [fs_tu, if_true]
  split
  · split
    · rw [fu_n (by decide), fu_n (by decide), ur_0]
    · rw [fu_n (by decide), fu_n (by decide), ur_0]
  · rw [ur_0]
theorem pk_c {S : Nat} (hS : S < 32) : ∀ (m j : Nat) (c : Nat → Int32), j + m = 5 → ∀ i, i < 5 → fs_pk (nI S) m j c i = if j ≤ i ∧ S.testBit i = true then -1 else c i := by
  intro m
  induction m with
  | zero => intro j c e i hi; rw [fs_pk, if_neg (by omega)]
  | succ m ih =>
    intro j c e i hi
    have hb := bt_1 S hS j (by omega)
    rw [fs_pk, hb]
    cases q : S.testBit j
    · simp only [Bool.false_eq_true, if_false]
      rw [if_neg (by decide), ih (j + 1) c (by omega) i hi]
      by_cases e2 : i = j
      · subst e2; rw [if_neg (by omega), if_neg (by rw [q]; simp)]
      · by_cases e3 : j + 1 ≤ i ∧ S.testBit i = true
        · rw [if_pos e3, if_pos ⟨by omega, e3.2⟩]
        · rw [if_neg e3, if_neg (fun x => e3 ⟨by omega, x.2⟩)]
    · simp only [if_true]
      rw [ih (j + 1) _ (by omega) i hi]
      by_cases e2 : i = j
      · subst e2; rw [if_neg (by omega), ud_s, if_pos ⟨Nat.le_refl _, q⟩]
      · rw [ud_n e2]
        by_cases e3 : j + 1 ≤ i ∧ S.testBit i = true
        · rw [if_pos e3, if_pos ⟨by omega, e3.2⟩]
        · rw [if_neg e3, if_neg (fun x => e3 ⟨by omega, x.2⟩)]
theorem eq5 {a b : Nat} (ha : a < 32) (hb : b < 32) (h : ∀ j, j < 5 → a.testBit j = b.testBit j) : a = b := by
  apply Nat.eq_of_testBit_eq
  intro i
  rcases Nat.lt_or_ge i 5 with q | q
  · exact h i q
  · have : 2 ^ 5 ≤ 2 ^ i := Nat.pow_le_pow_right (by decide) q
    rw [Nat.testBit_lt_two_pow (by omega), Nat.testBit_lt_two_pow (by omega)]
theorem lb_pk {S : Nat} (hS : S < 32) (c : Nat → Int32) : fs_lb (fs_pk (nI S) 5 0 c) = fs_lb c &&& (31 - S) := by
  refine eq5 (lb_lt _) (b5_and_lt _ (lb_lt c) _ (by omega)) (fun j hj => ?_)
  rw [lb_t _ j hj, Nat.testBit_and, lb_t c j hj, b5_not S hS j hj, pk_c hS 5 0 c rfl j hj]
  cases q : S.testBit j
  · rw [if_neg (by simp)]; simp
  · rw [if_pos ⟨Nat.zero_le _, rfl⟩]; simp
/-- the plan can be tossed -/
theorem ps_ok {J n w : Nat} {u : Nat → Nat → Int32} (hJ : J ≤ 1000000) (hG : fs_good J n w u) (hw : w < n) : fs_ps u w < 32 ∧ fs_sub (nI (fs_ps u w)) (nI (fs_lb (u 0))) = true ∧ (fs_lb (u 0) ≠ 0 → fs_ps u w ≠ 0) ∧ fs_sl (fs_slip (u 1 w) (u 5 w)) := by
  obtain ⟨u60, n4, u61, wn, cel, cel5, cdis, hnd⟩ := hG
  obtain ⟨hK, _, ⟨l, l1, l4, el⟩, ⟨t, t1, t2⟩⟩ := hnd w hw
  have hsl := slip_ok hK t2 (by omega)
  have hL := lb_lt (u 0)
  obtain ⟨⟨x, p, e1, e2, e3, e4, e5⟩, elm, _⟩ := cg_n (od := fs_om (u 0) (u 1 w) (u 2 w) (u 5 w)) (k := l) hL (by omega) l4 (fun S _ _ N _ _ => om_b hsl) 5 (fs_lb (u 0)) hL (sub_self' _ hL) (bt_pc5 _ hL)
  have ep : fs_ps u w = p := by
    unfold fs_ps
    rw [el, nI_clamp (by omega), elm, e5]
  rw [ep]
  exact ⟨e2, e3, e4, hsl⟩
theorem good_rl {n w : Nat} (hw : w < n) : ∀ (f J : Nat) (u : Nat → Nat → Int32), fs_good J n w u → ∃ w', w' < n ∧ fs_good (J + f) n w' (fs_rl n w f u) := by
  intro f
  induction f with
  | zero => intro J u h; exact ⟨w, hw, by rw [fs_rl]; exact h⟩
  | succ f ih =>
    intro J u h
    rw [fs_rl]
    split
    · exact ⟨w, hw, good_J h (by omega)⟩
    · unfold fs_p1
      obtain ⟨w', w1, w2, G⟩ := good_tu (S := fs_ps u w) (dn := fs_dn u w (fs_ps u w) (fs_ph u w)) h hw
      cases dn : fs_dn u w (fs_ps u w) (fs_ph u w)
      · rw [dn] at G
        rw [rl_0 (by rw [tu_F, lb_up])]
        exact ⟨w', w1, good_J G (by omega)⟩
      · rw [dn] at G w2
        obtain rfl := w2 rfl
        obtain ⟨w3, w4, G2⟩ := ih (J + 1) _ G
        exact ⟨w3, w4, good_J G2 (by omega)⟩
section
variable {z : ni_Z}
theorem L_xr {im lf : Int32} {n w : Nat} (hw : w < n) : ∀ (f t J : Nat) (u : Nat → Nat → Int32) (a3 : Value) (h : ni_H), t + f = 5 → J + f ≤ 1000000 → fs_good J n w u → h 0 = ni_O 6 [.ref 1, .ref 2, .ref 9, .ref 16, .ref 23, .ref 29, .ref 31, .ref 32, .int im, .int lf] → fs_tab 2 u h → fs_mind h → ∃ h' : ni_H, (∀ (d : Nat) (Q : ni_Q), ni_T (d + 5) 116 26 [.ref 0, .ref (2 + 3 + w), .int (nI t), a3] [] z h Q = Q none z h') ∧ (∀ i, (i < 2 ∨ 8 < i) → (i < 23 ∨ 28 < i) → h' i = h i) ∧ fs_mind h' ∧ fs_tab 2 (fs_rl n w f u) h' := by
  intro f
  induction f with
  | zero =>
    intro t J u a3 h e hJ hG x0 T hm
    obtain rfl : t = 5 := by omega
    refine ⟨h, fun d Q => ?_, fun _ _ _ => rfl, hm, by rw [fs_rl]; exact T⟩
    rw [s116_26]
    simp +decide only [s116_0, s116_1, s116_4, s116_5, s116_8, s116_8i, s116_9, s116_10, s116_13, s116_14, s116_17, s116_20, s116_23, s116_23N, s116_24, s116_25, s116_27, s116_28, s116_31, s116_31N, s116_32N, s116_32, s116_35, s116_36, s116_39, s116_42, s116_45, s116_46, s116_49, s116_50, s116_53, s116_53N0, s116_56, s116_57, s116_60, s116_60N, s116_61, s116_61N, s116_62, s116_65, s116_65N0, s116_68, s116_69, s116_72, s116_75, s116_76, s116_79, s116_82, s116_83, s116_84, s116_85, s116_85N, s116_86, s116_87, s116_88, s116_91, s116_91N, s116_92, s116_93, s116_94, s116_97, s116_100, s116_100N0, s116_103, s116_103N0, s116_106, s116_106i, s116_107, s116_110, s116_113, show nI 5 = 5 from rfl, ↓reduceIte, kl_i, kl_r, kl_n, kl_a, kl_l, up_s, up_up, is_0, is_s, gv_0, gv_s, pv_o, rc_o, okI_i, okI_x, okS_i, okB_x, gi_i, pi_i, okL_l, gl_l, pl_l, okA_2, okA_3, ga_a, arr_0, arr_1, arr_10, arr_11, len_a, sw_0, sw_i, sw_r, sw_l, fit_i, fit_z0, fit_z1, nz_0, nz_1, ni_K_s, ni_K_n, Nat.ble_eq, Nat.zero_le, Nat.zero_add, true_and, and_true, and_self, Bool.and_true, Bool.true_and, Bool.and_self, not_true_eq_false, not_false_eq_true, Int32.reduceLE, Int32.reduceLT, Int32.reduceAdd, Int32.reduceSub, Int32.reduceToNatClampNeg, Nat.reduceLeDiff, Nat.reduceAdd, Nat.reduceEqDiff, Nat.reduceSub, List.set_cons_zero, List.set_cons_succ, false_and, and_false]
  | succ f ih =>
    intro t J u a3 h e hJ hG x0 T hm
    have q1 : ¬ (5 : Int32) ≤ nI t := nI_ge (a := t) (b := 5) (by omega) (by decide)
    have hG' := hG
    obtain ⟨u60, n4, u61, wn, cel, cel5, cdis, hnd⟩ := hG'
    have T' := T
    obtain ⟨t2, t3, t4, tH⟩ := T'
    simp only [Nat.reduceAdd] at t2 t3 t4
    have xl := fun (d : Nat) (Q : ni_Q) => X_lie (t := 2) (d := d) (z := z) (Q := Q) t2 t3
    rw [lb_n] at xl
    rw [fs_rl]
    by_cases q0 : fs_lb (u 0) = 0
    · rw [if_pos q0]
      rw [q0, nI_0] at xl
      refine ⟨h, fun d Q => ?_, fun _ _ _ => rfl, hm, T⟩
      rw [s116_26]
      simp +decide only [s116_0, s116_1, s116_4, s116_5, s116_8, s116_8i, s116_9, s116_10, s116_13, s116_14, s116_17, s116_20, s116_23, s116_23N, s116_24, s116_25, s116_27, s116_28, s116_31, s116_31N, s116_32N, s116_32, s116_35, s116_36, s116_39, s116_42, s116_45, s116_46, s116_49, s116_50, s116_53, s116_53N0, s116_56, s116_57, s116_60, s116_60N, s116_61, s116_61N, s116_62, s116_65, s116_65N0, s116_68, s116_69, s116_72, s116_75, s116_76, s116_79, s116_82, s116_83, s116_84, s116_85, s116_85N, s116_86, s116_87, s116_88, s116_91, s116_91N, s116_92, s116_93, s116_94, s116_97, s116_100, s116_100N0, s116_103, s116_103N0, s116_106, s116_106i, s116_107, s116_110, s116_113, q1, x0, t2, xl, ↓reduceIte, kl_i, kl_r, kl_n, kl_a, kl_l, up_s, up_up, is_0, is_s, gv_0, gv_s, pv_o, rc_o, okI_i, okI_x, okS_i, okB_x, gi_i, pi_i, okL_l, gl_l, pl_l, okA_2, okA_3, ga_a, arr_0, arr_1, arr_10, arr_11, len_a, sw_0, sw_i, sw_r, sw_l, fit_i, fit_z0, fit_z1, nz_0, nz_1, ni_K_s, ni_K_n, Nat.ble_eq, Nat.zero_le, Nat.zero_add, true_and, and_true, and_self, Bool.and_true, Bool.true_and, Bool.and_self, not_true_eq_false, not_false_eq_true, Int32.reduceLE, Int32.reduceLT, Int32.reduceAdd, Int32.reduceSub, Int32.reduceToNatClampNeg, Nat.reduceLeDiff, Nat.reduceAdd, Nat.reduceEqDiff, Nat.reduceSub, List.set_cons_zero, List.set_cons_succ, false_and, and_false]
    · rw [if_neg q0]
      have Lb := lb_lt (u 0)
      have q0' : ¬ nI (fs_lb (u 0)) = 0 := nI_ne0 (by omega) (by omega)
      have hO := tH w (by omega)
      obtain ⟨hK, _, ⟨l, l1, l4, el⟩, ⟨tt, tt1, tt2⟩⟩ := hnd w hw
      obtain ⟨p32, psub, pne, hsl⟩ := ps_ok (show J ≤ 1000000 by omega) hG hw
      obtain ⟨h1, fo, wy, ch, pl, ne, pa, rl, f1, L⟩ := X_lookQ (z := z) cel hm t2 t3
      have rc23 : ni_rc (h 23) 2 = true := by obtain ⟨_, _, _, _, _, _, _, a, _⟩ := hm; rw [a]; rfl
      have hO1 := (f1 (2 + 3 + w) (by omega)).trans hO
      obtain ⟨h2, ch', pl', rt, f2, L2, ec, ep, -⟩ := X_ttQ (z := z) cel L (show 2 + 3 + w < 23 by omega) hO1 hK hsl (show 0 < l by omega) l4
      have f12 : ∀ i, (i < 23 ∨ 28 < i) → h2 i = h i := fun i hi => by rw [f2 i hi, f1 i hi]
      have hO2 := (f12 (2 + 3 + w) (by omega)).trans hO
      have x01 := (f1 0 (by omega)).trans x0
      have x02 := (f12 0 (by omega)).trans x0
      have epl : pl' (fs_lb (u 0)) = nI (fs_ps u w) := by rw [ep]; unfold fs_ps; rw [el, nI_clamp (by omega)]
      obtain ⟨eh, -, -⟩ := high_eq (c := u 0) (a := u 2 w) (F := fs_lb (u 0)) (S := fs_ps u w) (wy := wy) (ne := ne) hsl (fun ht => lkd_oc cel L2 Lb (sub_self' _ Lb) p32 psub)
      have xb := fun (d : Nat) (Q : ni_Q) => X_bh (d := d) (z := z) (Q := Q) (S := fs_ps u w) (ly := nI (fs_lb (u 0))) hO2 hK L2.1 L2.2.1 L2.2.2.2.2.1 p32
      rw [eh] at xb
      have xb' : ∀ (d : Nat) (Q : ni_Q), _ = Q (some (.int (fs_ph u w))) z h2 := xb
      obtain ⟨h3, r3, f3, T3⟩ := XT (z := z) (ht := fs_ph u w) hG hw x02 (fs_tab_h (k := 0) T (fun i a b => f12 i (by omega))) L2 p32 psub
      have m3 : fs_mind h3 := mind_h (lkd_mind L2) (fun i a b => f3 i (by omega))
      have f13 : ∀ i, (i < 2 ∨ 8 < i) → (i < 23 ∨ 28 < i) → h3 i = h i := fun i a b => by rw [f3 i a, f12 i b]
      have x03 := (f13 0 (by omega) (by omega)).trans x0
      rw [el] at hO1
      have step : ∀ (d : Nat) (Q : ni_Q), ni_T (d + 5) 116 26 [.ref 0, .ref (2 + 3 + w), .int (nI t), a3] [] z h Q = ni_T (d + 5) 116 26 [.ref 0, .ref (2 + 3 + w), .int (nI (t + 1)), .int (nI (fs_ps u w))] [] z h3 Q := by
        intro d Q
        simp only [Nat.reduceAdd] at hO1 rt xb' r3
        simp only [Nat.reduceAdd]
        rw [s116_26]
        simp +decide only [s116_0, s116_1, s116_4, s116_5, s116_8, s116_8i, s116_9, s116_10, s116_13, s116_14, s116_17, s116_20, s116_23, s116_23N, s116_24, s116_25, s116_27, s116_28, s116_31, s116_31N, s116_32N, s116_32, s116_35, s116_36, s116_39, s116_42, s116_45, s116_46, s116_49, s116_50, s116_53, s116_53N0, s116_56, s116_57, s116_60, s116_60N, s116_61, s116_61N, s116_62, s116_65, s116_65N0, s116_68, s116_69, s116_72, s116_75, s116_76, s116_79, s116_82, s116_83, s116_84, s116_85, s116_85N, s116_86, s116_87, s116_88, s116_91, s116_91N, s116_92, s116_93, s116_94, s116_97, s116_100, s116_100N0, s116_103, s116_103N0, s116_106, s116_106i, s116_107, s116_110, s116_113, q1, x0, x01, x02, t2, xl, q0', rl, rc23, L.1, hO1, rt, L2.1, L2.2.2.2.1, epl, xb', r3, nI_1, in_n (k := fs_lb (u 0)) (n := 32) Lb (by decide), nI_clamp (n := fs_lb (u 0)) (by omega), ↓reduceIte, kl_i, kl_r, kl_n, kl_a, kl_l, up_s, up_up, is_0, is_s, gv_0, gv_s, pv_o, rc_o, okI_i, okI_x, okS_i, okB_x, gi_i, pi_i, okL_l, gl_l, pl_l, okA_2, okA_3, ga_a, arr_0, arr_1, arr_10, arr_11, len_a, sw_0, sw_i, sw_r, sw_l, fit_i, fit_z0, fit_z1, nz_0, nz_1, ni_K_s, ni_K_n, Nat.ble_eq, Nat.zero_le, Nat.zero_add, true_and, and_true, and_self, Bool.and_true, Bool.true_and, Bool.and_self, not_true_eq_false, not_false_eq_true, Int32.reduceLE, Int32.reduceLT, Int32.reduceAdd, Int32.reduceSub, Int32.reduceToNatClampNeg, Nat.reduceLeDiff, Nat.reduceAdd, Nat.reduceEqDiff, Nat.reduceSub, List.set_cons_zero, List.set_cons_succ, false_and, and_false]
      obtain ⟨w', w1, w2, G3⟩ := good_tu (S := fs_ps u w) (dn := fs_dn u w (fs_ps u w) (fs_ph u w)) hG hw
      cases dn : fs_dn u w (fs_ps u w) (fs_ph u w)
      · rw [dn] at T3 G3
        have e0 : fs_lb (fs_tu false (fs_ps u w) n w u 0) = 0 := by rw [tu_F, lb_up]
        have ep1 : fs_p1 n w u = fs_tu false (fs_ps u w) n w u := by unfold fs_p1; rw [dn]
        rw [ep1, rl_0 e0]
        have T3' := T3
        obtain ⟨b2, b3, b4, bH⟩ := T3'
        simp only [Nat.reduceAdd] at b2 b3
        have xl3 := fun (d : Nat) (Q : ni_Q) => X_lie (t := 2) (d := d) (z := z) (Q := Q) b2 b3
        rw [lb_n, e0, nI_0] at xl3
        refine ⟨h3, fun d Q => ?_, f13, m3, T3⟩
        rw [step, s116_26]
        by_cases q5 : (5 : Int32) ≤ nI (t + 1)
        · simp +decide only [s116_0, s116_1, s116_4, s116_5, s116_8, s116_8i, s116_9, s116_10, s116_13, s116_14, s116_17, s116_20, s116_23, s116_23N, s116_24, s116_25, s116_27, s116_28, s116_31, s116_31N, s116_32N, s116_32, s116_35, s116_36, s116_39, s116_42, s116_45, s116_46, s116_49, s116_50, s116_53, s116_53N0, s116_56, s116_57, s116_60, s116_60N, s116_61, s116_61N, s116_62, s116_65, s116_65N0, s116_68, s116_69, s116_72, s116_75, s116_76, s116_79, s116_82, s116_83, s116_84, s116_85, s116_85N, s116_86, s116_87, s116_88, s116_91, s116_91N, s116_92, s116_93, s116_94, s116_97, s116_100, s116_100N0, s116_103, s116_103N0, s116_106, s116_106i, s116_107, s116_110, s116_113, q5, ↓reduceIte, kl_i, kl_r, kl_n, kl_a, kl_l, up_s, up_up, is_0, is_s, gv_0, gv_s, pv_o, rc_o, okI_i, okI_x, okS_i, okB_x, gi_i, pi_i, okL_l, gl_l, pl_l, okA_2, okA_3, ga_a, arr_0, arr_1, arr_10, arr_11, len_a, sw_0, sw_i, sw_r, sw_l, fit_i, fit_z0, fit_z1, nz_0, nz_1, ni_K_s, ni_K_n, Nat.ble_eq, Nat.zero_le, Nat.zero_add, true_and, and_true, and_self, Bool.and_true, Bool.true_and, Bool.and_self, not_true_eq_false, not_false_eq_true, Int32.reduceLE, Int32.reduceLT, Int32.reduceAdd, Int32.reduceSub, Int32.reduceToNatClampNeg, Nat.reduceLeDiff, Nat.reduceAdd, Nat.reduceEqDiff, Nat.reduceSub, List.set_cons_zero, List.set_cons_succ, false_and, and_false]
        · simp +decide only [s116_0, s116_1, s116_4, s116_5, s116_8, s116_8i, s116_9, s116_10, s116_13, s116_14, s116_17, s116_20, s116_23, s116_23N, s116_24, s116_25, s116_27, s116_28, s116_31, s116_31N, s116_32N, s116_32, s116_35, s116_36, s116_39, s116_42, s116_45, s116_46, s116_49, s116_50, s116_53, s116_53N0, s116_56, s116_57, s116_60, s116_60N, s116_61, s116_61N, s116_62, s116_65, s116_65N0, s116_68, s116_69, s116_72, s116_75, s116_76, s116_79, s116_82, s116_83, s116_84, s116_85, s116_85N, s116_86, s116_87, s116_88, s116_91, s116_91N, s116_92, s116_93, s116_94, s116_97, s116_100, s116_100N0, s116_103, s116_103N0, s116_106, s116_106i, s116_107, s116_110, s116_113, q5, x03, b2, xl3, ↓reduceIte, kl_i, kl_r, kl_n, kl_a, kl_l, up_s, up_up, is_0, is_s, gv_0, gv_s, pv_o, rc_o, okI_i, okI_x, okS_i, okB_x, gi_i, pi_i, okL_l, gl_l, pl_l, okA_2, okA_3, ga_a, arr_0, arr_1, arr_10, arr_11, len_a, sw_0, sw_i, sw_r, sw_l, fit_i, fit_z0, fit_z1, nz_0, nz_1, ni_K_s, ni_K_n, Nat.ble_eq, Nat.zero_le, Nat.zero_add, true_and, and_true, and_self, Bool.and_true, Bool.true_and, Bool.and_self, not_true_eq_false, not_false_eq_true, Int32.reduceLE, Int32.reduceLT, Int32.reduceAdd, Int32.reduceSub, Int32.reduceToNatClampNeg, Nat.reduceLeDiff, Nat.reduceAdd, Nat.reduceEqDiff, Nat.reduceSub, List.set_cons_zero, List.set_cons_succ, false_and, and_false]
      · rw [dn] at T3 G3 w2
        obtain rfl := w2 rfl
        have ep1 : fs_p1 n w' u = fs_tu true (fs_ps u w') n w' u := by unfold fs_p1; rw [dn]
        rw [ep1]
        obtain ⟨h4, r4, f4, m4, T4⟩ := ih (t + 1) (J + 1) _ (.int (nI (fs_ps u w'))) h3 (by omega) (by omega) G3 x03 T3 m3
        exact ⟨h4, fun d Q => by rw [step, r4], fun i a b => by rw [f4 i a b, f13 i a b], m4, T4⟩
/-- a round -/
def fs_rr (n : Nat) (u : Nat → Nat → Int32) : Nat → Nat → Int32 := fs_rl n (u 6 1).toNatClampNeg 5 (fs_tw 1 u)
theorem XR {im lf : Int32} {n w J : Nat} {u : Nat → Nat → Int32} {h : ni_H} (hw : w < n) (hJ : J + 5 ≤ 1000000) (hG : fs_good J n w u) (x0 : h 0 = ni_O 6 [.ref 1, .ref 2, .ref 9, .ref 16, .ref 23, .ref 29, .ref 31, .ref 32, .int im, .int lf]) (T : fs_tab 2 u h) (hm : fs_mind h) : ∃ h' : ni_H, (∀ (d : Nat) (Q : ni_Q), ni_T (d + 5) 116 0 [.ref 0, .retAddr 0, .retAddr 0, .retAddr 0] [] z h Q = Q none z h') ∧ (∀ i, (i < 2 ∨ 8 < i) → (i < 23 ∨ 28 < i) → h' i = h i) ∧ fs_mind h' ∧ fs_tab 2 (fs_rr n u) h' := by
  obtain ⟨h1, r1, f1, T1⟩ := XW (z := z) (F := 1) (by decide) hG T
  have G1 := good_tw (F := 1) (by decide) hG
  have x01 := (f1 0 (by omega)).trans x0
  obtain ⟨h2, r2, f2, m2, T2⟩ := L_xr (z := z) hw 5 0 J (fs_tw 1 u) (.retAddr 0) h1 rfl hJ G1 x01 T1 (mind_h hm (fun i a b => f1 i (by omega)))
  have ew : (u 6 1).toNatClampNeg = w := by rw [hG.2.2.1, nI_clamp (by have := hG.2.1; omega)]
  refine ⟨h2, fun d Q => ?_, fun i a b => by rw [f2 i a b, f1 i a], m2, by unfold fs_rr; rw [ew]; exact T2⟩
  have T' := T
  obtain ⟨t2, t3, t4, tH⟩ := T'
  obtain ⟨b2, b3, b4, bH⟩ := T1
  rw [G1.1, G1.2.2.1] at b2
  simp only [Nat.reduceAdd] at t2 b2 b4
  have xs := fun (d : Nat) (Q : ni_Q) => X_handS (t := 2) (d := d) (z := z) (Q := Q) b2 b4 hw hG.2.1
  rw [nI_0] at r2
  rw [show nI 1 = 1 from rfl] at r1
  simp only [Nat.reduceAdd] at r2 xs
  simp +decide only [s116_0, s116_1, s116_4, s116_5, s116_8, s116_8i, s116_9, s116_10, s116_13, s116_14, s116_17, s116_20, s116_23, s116_23N, s116_24, s116_25, s116_27, s116_28, s116_31, s116_31N, s116_32N, s116_32, s116_35, s116_36, s116_39, s116_42, s116_45, s116_46, s116_49, s116_50, s116_53, s116_53N0, s116_56, s116_57, s116_60, s116_60N, s116_61, s116_61N, s116_62, s116_65, s116_65N0, s116_68, s116_69, s116_72, s116_75, s116_76, s116_79, s116_82, s116_83, s116_84, s116_85, s116_85N, s116_86, s116_87, s116_88, s116_91, s116_91N, s116_92, s116_93, s116_94, s116_97, s116_100, s116_100N0, s116_103, s116_103N0, s116_106, s116_106i, s116_107, s116_110, s116_113, x0, x01, t2, r1, b2, xs, r2, ↓reduceIte, kl_i, kl_r, kl_n, kl_a, kl_l, up_s, up_up, is_0, is_s, gv_0, gv_s, pv_o, rc_o, okI_i, okI_x, okS_i, okB_x, gi_i, pi_i, okL_l, gl_l, pl_l, okA_2, okA_3, ga_a, arr_0, arr_1, arr_10, arr_11, len_a, sw_0, sw_i, sw_r, sw_l, fit_i, fit_z0, fit_z1, nz_0, nz_1, ni_K_s, ni_K_n, Nat.ble_eq, Nat.zero_le, Nat.zero_add, true_and, and_true, and_self, Bool.and_true, Bool.true_and, Bool.and_self, not_true_eq_false, not_false_eq_true, Int32.reduceLE, Int32.reduceLT, Int32.reduceAdd, Int32.reduceSub, Int32.reduceToNatClampNeg, Nat.reduceLeDiff, Nat.reduceAdd, Nat.reduceEqDiff, Nat.reduceSub, List.set_cons_zero, List.set_cons_succ, false_and, and_false]
theorem mtb_g {mu : Nat → Nat → Int32} {g g' : Nat → Int32} {h : ni_H} (H : fs_mtb mu g h) (hg : ∀ i, i < 4 → g' i = g i) : fs_mtb mu g' (ni_up h 49 (fs_mo g')) := by
  obtain ⟨a0, a1, a2, a3, a4, a5, a6, b0, b1, b2, b3⟩ := H
  exact ⟨up_s, by rw [up_n (by decide)]; exact a1, by rw [up_n (by decide)]; exact a2, by rw [up_n (by decide)]; exact a3, by rw [up_n (by decide)]; exact a4, by rw [up_n (by decide)]; exact a5, by rw [up_n (by decide)]; exact a6, (hg 0 (by decide)).trans b0, (hg 1 (by decide)).trans b1, (hg 2 (by decide)).trans b2, (hg 3 (by decide)).trans b3⟩
theorem L_mr {n w : Nat} {N had r : Int32} (hw : w < n) : ∀ (f J : Nat) (u mu : Nat → Nat → Int32) (g : Nat → Int32) (a5 a6 : Value) (h : ni_H), fs_pc (fs_lb (u 0)) ≤ f → J + f ≤ 1000000 → fs_good J n w u → fs_rel n u mu → fs_mtb mu g h → ∃ (h' : ni_H) (g' : Nat → Int32) (mu' : Nat → Nat → Int32) (on : Int32) (a5' a6' : Value), (∀ (d : Nat) (Q : ni_Q), ni_T (d + 16) 188 53 [.ref 49, .int N, .int had, .int r, .int 1, a5, a6] [] z h Q = ni_T (d + 16) 188 118 [.ref 49, .int N, .int had, .int r, .int on, a5', a6'] [] z h' Q) ∧ (∀ i, i ≠ 49 → (i < 51 ∨ 56 < i) → h' i = h i) ∧ fs_mtb mu' g' h' ∧ fs_rel n (fs_rl n w f u) mu' ∧ (∀ i, i ≠ 1 → i ≠ 2 → i ≠ 3 → i ≠ 27 → i ≠ 28 → g' i = g i) := by
  intro f
  induction f with
  | zero =>
    intro J u mu g a5 a6 h hp hJ hG hR H
    have q0 : fs_lb (u 0) = 0 := bt_7 _ (lb_lt _) (by omega)
    have m56 := H.2.2.2.2.2.2.1
    rw [hR.2.1] at m56
    have ml := fun (d : Nat) (Q : ni_Q) => M_lies (d := d) (z := z) (Q := Q) H.1 m56
    rw [lb_n, q0, nI_0] at ml
    refine ⟨h, g, mu, 1, a5, a6, fun d Q => ?_, fun _ _ _ => rfl, H, by rw [fs_rl]; exact hR, fun _ _ _ _ _ _ => rfl⟩
    rw [s188_53]
    simp +decide only [s188_0, s188_1, s188_4, s188_7, s188_8, s188_10, s188_13, s188_14, s188_15, s188_16, s188_19, s188_20, s188_22, s188_25, s188_26, s188_28, s188_31, s188_32, s188_33, s188_36, s188_37, s188_38, s188_39, s188_40, s188_41, s188_44, s188_45, s188_46, s188_49, s188_49i, s188_50, s188_51, s188_55, s188_58, s188_59, s188_62, s188_65, s188_66, s188_69, s188_71, s188_72, s188_74, s188_75, s188_78, s188_80, s188_81, s188_84, s188_84i, s188_85, s188_86, s188_89, s188_91, s188_92, s188_93, s188_96, s188_99, s188_100, s188_102, s188_103, s188_105, s188_107, s188_110, s188_113, s188_115, s188_121, s188_124, s188_125, s188_128, s188_129, s188_130, H.1, ml, mi_0, mg_0, mi_1, mg_1, mi_2, mg_2, mi_3, mg_3, mi_4, mg_4, mi_5, mg_5, mi_6, mg_6, mi_7, mg_7, mi_8, mg_8, mi_9, mg_9, mi_10, mg_10, mi_11, mg_11, mi_12, mg_12, mi_13, mg_13, mi_14, mg_14, mi_15, mg_15, mi_16, mg_16, mi_17, mg_17, mi_18, mg_18, mi_19, mg_19, mi_20, mg_20, mi_21, mg_21, mi_22, mg_22, mi_23, mg_23, mi_24, mg_24, mi_25, mg_25, mi_26, mg_26, mi_27, mg_27, mi_28, mg_28, mi_29, mg_29, mi_30, mg_30, mi_31, mg_31, mi_32, mg_32, mq_0, mq_1, mq_2, mq_3, mq_4, mq_20, mq_21, mq_22, mq_23, mq_24, mq_27, mq_28, mq_29, mq_31, mq_32, mrc, ud_s, ud_n, ud_u, up_n, ↓reduceIte, kl_i, kl_r, kl_n, kl_a, kl_l, up_s, up_up, is_0, is_s, gv_0, gv_s, pv_o, rc_o, okI_i, okI_x, okS_i, okB_x, gi_i, pi_i, okL_l, gl_l, pl_l, okA_2, okA_3, ga_a, arr_0, arr_1, arr_10, arr_11, len_a, sw_0, sw_i, sw_r, sw_l, fit_i, fit_z0, fit_z1, nz_0, nz_1, ni_K_s, ni_K_n, Nat.ble_eq, Nat.zero_le, Nat.zero_add, true_and, and_true, and_self, Bool.and_true, Bool.true_and, Bool.and_self, not_true_eq_false, not_false_eq_true, Int32.reduceLE, Int32.reduceLT, Int32.reduceAdd, Int32.reduceSub, Int32.reduceToNatClampNeg, Nat.reduceLeDiff, Nat.reduceAdd, Nat.reduceEqDiff, Nat.reduceSub, List.set_cons_zero, List.set_cons_succ, false_and, and_false]
  | succ f ih =>
    intro J u mu g a5 a6 h hp hJ hG hR H
    have H' := H
    obtain ⟨m49, m51, m52, m53, m54, m55, m56, g0, g1, g2, g3⟩ := H'
    have hG' := hG
    obtain ⟨u60, n4, u61, wn, cel, cel5, cdis, hnd⟩ := hG'
    have hR' := hR
    obtain ⟨r6, r0, rH⟩ := hR'
    rw [r0] at m56
    have gw : g 1 = nI w := (g1.trans (r6 1 (by decide))).trans u61
    have ml := fun (d : Nat) (Q : ni_Q) => M_lies (d := d) (z := z) (Q := Q) m49 m56
    rw [lb_n] at ml
    rw [fs_rl]
    by_cases q0 : fs_lb (u 0) = 0
    · rw [q0, nI_0] at ml
      refine ⟨h, g, mu, 1, a5, a6, fun d Q => ?_, fun _ _ _ => rfl, H, by rw [if_pos q0]; exact hR, fun _ _ _ _ _ _ => rfl⟩
      rw [s188_53]
      simp +decide only [s188_0, s188_1, s188_4, s188_7, s188_8, s188_10, s188_13, s188_14, s188_15, s188_16, s188_19, s188_20, s188_22, s188_25, s188_26, s188_28, s188_31, s188_32, s188_33, s188_36, s188_37, s188_38, s188_39, s188_40, s188_41, s188_44, s188_45, s188_46, s188_49, s188_49i, s188_50, s188_51, s188_55, s188_58, s188_59, s188_62, s188_65, s188_66, s188_69, s188_71, s188_72, s188_74, s188_75, s188_78, s188_80, s188_81, s188_84, s188_84i, s188_85, s188_86, s188_89, s188_91, s188_92, s188_93, s188_96, s188_99, s188_100, s188_102, s188_103, s188_105, s188_107, s188_110, s188_113, s188_115, s188_121, s188_124, s188_125, s188_128, s188_129, s188_130, m49, ml, mi_0, mg_0, mi_1, mg_1, mi_2, mg_2, mi_3, mg_3, mi_4, mg_4, mi_5, mg_5, mi_6, mg_6, mi_7, mg_7, mi_8, mg_8, mi_9, mg_9, mi_10, mg_10, mi_11, mg_11, mi_12, mg_12, mi_13, mg_13, mi_14, mg_14, mi_15, mg_15, mi_16, mg_16, mi_17, mg_17, mi_18, mg_18, mi_19, mg_19, mi_20, mg_20, mi_21, mg_21, mi_22, mg_22, mi_23, mg_23, mi_24, mg_24, mi_25, mg_25, mi_26, mg_26, mi_27, mg_27, mi_28, mg_28, mi_29, mg_29, mi_30, mg_30, mi_31, mg_31, mi_32, mg_32, mq_0, mq_1, mq_2, mq_3, mq_4, mq_20, mq_21, mq_22, mq_23, mq_24, mq_27, mq_28, mq_29, mq_31, mq_32, mrc, ud_s, ud_n, ud_u, up_n, ↓reduceIte, kl_i, kl_r, kl_n, kl_a, kl_l, up_s, up_up, is_0, is_s, gv_0, gv_s, pv_o, rc_o, okI_i, okI_x, okS_i, okB_x, gi_i, pi_i, okL_l, gl_l, pl_l, okA_2, okA_3, ga_a, arr_0, arr_1, arr_10, arr_11, len_a, sw_0, sw_i, sw_r, sw_l, fit_i, fit_z0, fit_z1, nz_0, nz_1, ni_K_s, ni_K_n, Nat.ble_eq, Nat.zero_le, Nat.zero_add, true_and, and_true, and_self, Bool.and_true, Bool.true_and, Bool.and_self, not_true_eq_false, not_false_eq_true, Int32.reduceLE, Int32.reduceLT, Int32.reduceAdd, Int32.reduceSub, Int32.reduceToNatClampNeg, Nat.reduceLeDiff, Nat.reduceAdd, Nat.reduceEqDiff, Nat.reduceSub, List.set_cons_zero, List.set_cons_succ, false_and, and_false]
    · rw [if_neg q0]
      have Lb := lb_lt (u 0)
      have q0' : ¬ nI (fs_lb (u 0)) = 0 := nI_ne0 (by omega) (by omega)
      have r1 := rH 1 w (by decide) (by decide) hw
      have r2 := rH 2 w (by decide) (by decide) hw
      have r3 := rH 3 w (by decide) (by decide) hw
      have r5 := rH 5 w (by decide) (by decide) hw
      obtain ⟨hK, _, ⟨l, l1, l4, el⟩, ⟨tt, tt1, tt2⟩⟩ := hnd w hw
      have hK' : fs_kd (mu 1 w) := by rw [r1]; exact hK
      obtain ⟨p32, psub, pne, hsl⟩ := ps_ok (show J ≤ 1000000 by omega) hG hw
      obtain ⟨ga, gk, g28, rm⟩ := M_by (z := z) (kk := w) (k := l) (show w < 4 by omega) hK' (by omega) l4 m49 m56 m51 m52 m55
      rw [r1, r2, r5] at rm g28
      have e28 : ga 28 = nI (fs_ps u w) := by rw [g28]; unfold fs_ps; rw [el, nI_clamp (by omega)]
      have Ha : fs_mtb mu ga (ni_up h 49 (fs_mo ga)) := mtb_g H (fun i hi => gk i (by omega) (by omega))
      have a56 := Ha.2.2.2.2.2.2.1
      rw [r0] at a56
      have mla := fun (d : Nat) (Q : ni_Q) => M_lies (d := d) (z := z) (Q := Q) Ha.1 a56
      rw [lb_n] at mla
      have Hb : fs_mtb mu (upd ga 27 (nI (fs_lb (u 0)))) (ni_up h 49 (fs_mo (upd ga 27 (nI (fs_lb (u 0)))))) := mtb_g H (fun i hi => by rw [ud_n (by omega)]; exact gk i (by omega) (by omega))
      have b56 := Hb.2.2.2.2.2.2.1
      rw [r0] at b56
      have mh := fun (d : Nat) (Q : ni_Q) => M_high (d := d) (z := z) (Q := Q) (k := w) (S := fs_ps u w) Hb.1 ud_s Lb b56 Hb.2.1 Hb.2.2.1 Hb.2.2.2.2.2.1 (show w < 4 by omega) hK' p32
      rw [r1, r2, r5] at mh
      have mh' : ∀ (d : Nat) (Q : ni_Q), _ = Q (some (.int (fs_ph u w))) z (ni_up h 49 (fs_mo (upd ga 27 (nI (fs_lb (u 0)))))) := mh
      obtain ⟨h3, g', mu', r4, f3, H3, R3, gk3⟩ := MT (z := z) (S := fs_ps u w) (ht := fs_ph u w) hG hR hw Hb p32
      have step : ∀ (d : Nat) (Q : ni_Q), ni_T (d + 16) 188 53 [.ref 49, .int N, .int had, .int r, .int 1, a5, a6] [] z h Q = ni_T (d + 16) 188 53 [.ref 49, .int N, .int had, .int r, .int (fs_b (fs_dn u w (fs_ps u w) (fs_ph u w))), .int (nI w), .int (nI (fs_ps u w))] [] z h3 Q := by
        intro d Q
        rw [s188_53]
        simp +decide only [s188_0, s188_1, s188_4, s188_7, s188_8, s188_10, s188_13, s188_14, s188_15, s188_16, s188_19, s188_20, s188_22, s188_25, s188_26, s188_28, s188_31, s188_32, s188_33, s188_36, s188_37, s188_38, s188_39, s188_40, s188_41, s188_44, s188_45, s188_46, s188_49, s188_49i, s188_50, s188_51, s188_55, s188_58, s188_59, s188_62, s188_65, s188_66, s188_69, s188_71, s188_72, s188_74, s188_75, s188_78, s188_80, s188_81, s188_84, s188_84i, s188_85, s188_86, s188_89, s188_91, s188_92, s188_93, s188_96, s188_99, s188_100, s188_102, s188_103, s188_105, s188_107, s188_110, s188_113, s188_115, s188_118, s188_121, s188_124, s188_125, s188_128, s188_129, s188_130, m49, m53, ml, q0', gw, r3, el, in_n (k := w) (n := 4) (by omega) (by decide), nI_clamp (n := w) (by omega), rm, mi_0, mg_0, mi_1, mg_1, mi_2, mg_2, mi_3, mg_3, mi_4, mg_4, mi_5, mg_5, mi_6, mg_6, mi_7, mg_7, mi_8, mg_8, mi_9, mg_9, mi_10, mg_10, mi_11, mg_11, mi_12, mg_12, mi_13, mg_13, mi_14, mg_14, mi_15, mg_15, mi_16, mg_16, mi_17, mg_17, mi_18, mg_18, mi_19, mg_19, mi_20, mg_20, mi_21, mg_21, mi_22, mg_22, mi_23, mg_23, mi_24, mg_24, mi_25, mg_25, mi_26, mg_26, mi_27, mg_27, mi_28, mg_28, mi_29, mg_29, mi_30, mg_30, mi_31, mg_31, mi_32, mg_32, mq_0, mq_1, mq_2, mq_3, mq_4, mq_20, mq_21, mq_22, mq_23, mq_24, mq_27, mq_28, mq_29, mq_31, mq_32, mrc, ud_s, ud_n, ud_u, up_n, ↓reduceIte, kl_i, kl_r, kl_n, kl_a, kl_l, up_s, up_up, is_0, is_s, gv_0, gv_s, pv_o, rc_o, okI_i, okI_x, okS_i, okB_x, gi_i, pi_i, okL_l, gl_l, pl_l, okA_2, okA_3, ga_a, arr_0, arr_1, arr_10, arr_11, len_a, sw_0, sw_i, sw_r, sw_l, fit_i, fit_z0, fit_z1, nz_0, nz_1, ni_K_s, ni_K_n, Nat.ble_eq, Nat.zero_le, Nat.zero_add, true_and, and_true, and_self, Bool.and_true, Bool.true_and, Bool.and_self, not_true_eq_false, not_false_eq_true, Int32.reduceLE, Int32.reduceLT, Int32.reduceAdd, Int32.reduceSub, Int32.reduceToNatClampNeg, Nat.reduceLeDiff, Nat.reduceAdd, Nat.reduceEqDiff, Nat.reduceSub, List.set_cons_zero, List.set_cons_succ, false_and, and_false]
        simp +decide only [s188_0, s188_1, s188_4, s188_7, s188_8, s188_10, s188_13, s188_14, s188_15, s188_16, s188_19, s188_20, s188_22, s188_25, s188_26, s188_28, s188_31, s188_32, s188_33, s188_36, s188_37, s188_38, s188_39, s188_40, s188_41, s188_44, s188_45, s188_46, s188_49, s188_49i, s188_50, s188_51, s188_55, s188_58, s188_59, s188_62, s188_65, s188_66, s188_69, s188_71, s188_72, s188_74, s188_75, s188_78, s188_80, s188_81, s188_84, s188_84i, s188_85, s188_86, s188_89, s188_91, s188_92, s188_93, s188_96, s188_99, s188_100, s188_102, s188_103, s188_105, s188_107, s188_110, s188_113, s188_115, s188_118, s188_121, s188_124, s188_125, s188_128, s188_129, s188_130, e28, mla, fit_i, up_up, mi_0, mg_0, mi_1, mg_1, mi_2, mg_2, mi_3, mg_3, mi_4, mg_4, mi_5, mg_5, mi_6, mg_6, mi_7, mg_7, mi_8, mg_8, mi_9, mg_9, mi_10, mg_10, mi_11, mg_11, mi_12, mg_12, mi_13, mg_13, mi_14, mg_14, mi_15, mg_15, mi_16, mg_16, mi_17, mg_17, mi_18, mg_18, mi_19, mg_19, mi_20, mg_20, mi_21, mg_21, mi_22, mg_22, mi_23, mg_23, mi_24, mg_24, mi_25, mg_25, mi_26, mg_26, mi_27, mg_27, mi_28, mg_28, mi_29, mg_29, mi_30, mg_30, mi_31, mg_31, mi_32, mg_32, mq_0, mq_1, mq_2, mq_3, mq_4, mq_20, mq_21, mq_22, mq_23, mq_24, mq_27, mq_28, mq_29, mq_31, mq_32, mrc, ud_s, ud_n, ud_u, up_n, ↓reduceIte, kl_i, kl_r, kl_n, kl_a, kl_l, up_s, up_up, is_0, is_s, gv_0, gv_s, pv_o, rc_o, okI_i, okI_x, okS_i, okB_x, gi_i, pi_i, okL_l, gl_l, pl_l, okA_2, okA_3, ga_a, arr_0, arr_1, arr_10, arr_11, len_a, sw_0, sw_i, sw_r, sw_l, fit_i, fit_z0, fit_z1, nz_0, nz_1, ni_K_s, ni_K_n, Nat.ble_eq, Nat.zero_le, Nat.zero_add, true_and, and_true, and_self, Bool.and_true, Bool.true_and, Bool.and_self, not_true_eq_false, not_false_eq_true, Int32.reduceLE, Int32.reduceLT, Int32.reduceAdd, Int32.reduceSub, Int32.reduceToNatClampNeg, Nat.reduceLeDiff, Nat.reduceAdd, Nat.reduceEqDiff, Nat.reduceSub, List.set_cons_zero, List.set_cons_succ, false_and, and_false]
        simp +decide only [s188_0, s188_1, s188_4, s188_7, s188_8, s188_10, s188_13, s188_14, s188_15, s188_16, s188_19, s188_20, s188_22, s188_25, s188_26, s188_28, s188_31, s188_32, s188_33, s188_36, s188_37, s188_38, s188_39, s188_40, s188_41, s188_44, s188_45, s188_46, s188_49, s188_49i, s188_50, s188_51, s188_55, s188_58, s188_59, s188_62, s188_65, s188_66, s188_69, s188_71, s188_72, s188_74, s188_75, s188_78, s188_80, s188_81, s188_84, s188_84i, s188_85, s188_86, s188_89, s188_91, s188_92, s188_93, s188_96, s188_99, s188_100, s188_102, s188_103, s188_105, s188_107, s188_110, s188_113, s188_115, s188_118, s188_121, s188_124, s188_125, s188_128, s188_129, s188_130, mh', r4, mi_0, mg_0, mi_1, mg_1, mi_2, mg_2, mi_3, mg_3, mi_4, mg_4, mi_5, mg_5, mi_6, mg_6, mi_7, mg_7, mi_8, mg_8, mi_9, mg_9, mi_10, mg_10, mi_11, mg_11, mi_12, mg_12, mi_13, mg_13, mi_14, mg_14, mi_15, mg_15, mi_16, mg_16, mi_17, mg_17, mi_18, mg_18, mi_19, mg_19, mi_20, mg_20, mi_21, mg_21, mi_22, mg_22, mi_23, mg_23, mi_24, mg_24, mi_25, mg_25, mi_26, mg_26, mi_27, mg_27, mi_28, mg_28, mi_29, mg_29, mi_30, mg_30, mi_31, mg_31, mi_32, mg_32, mq_0, mq_1, mq_2, mq_3, mq_4, mq_20, mq_21, mq_22, mq_23, mq_24, mq_27, mq_28, mq_29, mq_31, mq_32, mrc, ud_s, ud_n, ud_u, up_n, ↓reduceIte, kl_i, kl_r, kl_n, kl_a, kl_l, up_s, up_up, is_0, is_s, gv_0, gv_s, pv_o, rc_o, okI_i, okI_x, okS_i, okB_x, gi_i, pi_i, okL_l, gl_l, pl_l, okA_2, okA_3, ga_a, arr_0, arr_1, arr_10, arr_11, len_a, sw_0, sw_i, sw_r, sw_l, fit_i, fit_z0, fit_z1, nz_0, nz_1, ni_K_s, ni_K_n, Nat.ble_eq, Nat.zero_le, Nat.zero_add, true_and, and_true, and_self, Bool.and_true, Bool.true_and, Bool.and_self, not_true_eq_false, not_false_eq_true, Int32.reduceLE, Int32.reduceLT, Int32.reduceAdd, Int32.reduceSub, Int32.reduceToNatClampNeg, Nat.reduceLeDiff, Nat.reduceAdd, Nat.reduceEqDiff, Nat.reduceSub, List.set_cons_zero, List.set_cons_succ, false_and, and_false]
      have ff : ∀ i, i ≠ 49 → (i < 51 ∨ 56 < i) → h3 i = h i := fun i a b => by rw [f3 i a b, up_n a]
      have gg : ∀ i, i ≠ 1 → i ≠ 2 → i ≠ 3 → i ≠ 27 → i ≠ 28 → g' i = g i := fun i a b c d e => by rw [gk3 i a b c d, ud_n d, gk i d e]
      obtain ⟨w', w1, w2, G3⟩ := good_tu (S := fs_ps u w) (dn := fs_dn u w (fs_ps u w) (fs_ph u w)) hG hw
      cases dn : fs_dn u w (fs_ps u w) (fs_ph u w)
      · rw [dn] at R3 step
        have e0 : fs_lb (fs_tu false (fs_ps u w) n w u 0) = 0 := by rw [tu_F, lb_up]
        have ep1 : fs_p1 n w u = fs_tu false (fs_ps u w) n w u := by unfold fs_p1; rw [dn]
        rw [ep1, rl_0 e0]
        refine ⟨h3, g', mu', 0, .int (nI w), .int (nI (fs_ps u w)), fun d Q => ?_, ff, H3, R3, gg⟩
        rw [step, s188_53]
        simp +decide only [s188_0, s188_1, s188_4, s188_7, s188_8, s188_10, s188_13, s188_14, s188_15, s188_16, s188_19, s188_20, s188_22, s188_25, s188_26, s188_28, s188_31, s188_32, s188_33, s188_36, s188_37, s188_38, s188_39, s188_40, s188_41, s188_44, s188_45, s188_46, s188_49, s188_49i, s188_50, s188_51, s188_55, s188_58, s188_59, s188_62, s188_65, s188_66, s188_69, s188_71, s188_72, s188_74, s188_75, s188_78, s188_80, s188_81, s188_84, s188_84i, s188_85, s188_86, s188_89, s188_91, s188_92, s188_93, s188_96, s188_99, s188_100, s188_102, s188_103, s188_105, s188_107, s188_110, s188_113, s188_115, s188_121, s188_124, s188_125, s188_128, s188_129, s188_130, fs_b, mi_0, mg_0, mi_1, mg_1, mi_2, mg_2, mi_3, mg_3, mi_4, mg_4, mi_5, mg_5, mi_6, mg_6, mi_7, mg_7, mi_8, mg_8, mi_9, mg_9, mi_10, mg_10, mi_11, mg_11, mi_12, mg_12, mi_13, mg_13, mi_14, mg_14, mi_15, mg_15, mi_16, mg_16, mi_17, mg_17, mi_18, mg_18, mi_19, mg_19, mi_20, mg_20, mi_21, mg_21, mi_22, mg_22, mi_23, mg_23, mi_24, mg_24, mi_25, mg_25, mi_26, mg_26, mi_27, mg_27, mi_28, mg_28, mi_29, mg_29, mi_30, mg_30, mi_31, mg_31, mi_32, mg_32, mq_0, mq_1, mq_2, mq_3, mq_4, mq_20, mq_21, mq_22, mq_23, mq_24, mq_27, mq_28, mq_29, mq_31, mq_32, mrc, ud_s, ud_n, ud_u, up_n, ↓reduceIte, kl_i, kl_r, kl_n, kl_a, kl_l, up_s, up_up, is_0, is_s, gv_0, gv_s, pv_o, rc_o, okI_i, okI_x, okS_i, okB_x, gi_i, pi_i, okL_l, gl_l, pl_l, okA_2, okA_3, ga_a, arr_0, arr_1, arr_10, arr_11, len_a, sw_0, sw_i, sw_r, sw_l, fit_i, fit_z0, fit_z1, nz_0, nz_1, ni_K_s, ni_K_n, Nat.ble_eq, Nat.zero_le, Nat.zero_add, true_and, and_true, and_self, Bool.and_true, Bool.true_and, Bool.and_self, not_true_eq_false, not_false_eq_true, Int32.reduceLE, Int32.reduceLT, Int32.reduceAdd, Int32.reduceSub, Int32.reduceToNatClampNeg, Nat.reduceLeDiff, Nat.reduceAdd, Nat.reduceEqDiff, Nat.reduceSub, List.set_cons_zero, List.set_cons_succ, false_and, and_false]
      · rw [dn] at R3 step G3 w2
        obtain rfl := w2 rfl
        have ep1 : fs_p1 n w' u = fs_tu true (fs_ps u w') n w' u := by unfold fs_p1; rw [dn]
        rw [ep1]
        have hp2 : fs_pc (fs_lb (fs_tu true (fs_ps u w') n w' u 0)) ≤ f := by
          rw [tu_T, lb_pk p32]
          have h9 := bt_9 _ Lb _ p32 psub
          have h10 := bt_10 _ p32 (Nat.pos_of_ne_zero (pne q0))
          omega
        obtain ⟨h4, g4, mu4, on, b5, b6, r5', f4, H4, R4, gk4⟩ := ih (J + 1) _ mu' g' (.int (nI w')) (.int (nI (fs_ps u w'))) h3 hp2 (by omega) G3 R3 H3
        exact ⟨h4, g4, mu4, on, b5, b6, fun d Q => by rw [step]; exact r5' d Q, fun i a b => by rw [f4 i a b, ff i a b], H4, R4, fun i a b c d e => by rw [gk4 i a b c d e, gg i a b c d e]⟩
def fs_rs (n : Nat) : Nat → (Nat → Nat → Int32) → (Nat → Nat → Int32)
  | 0, u => u
  | m + 1, u => fs_rs n m (fs_rr n u)
theorem L_xpl {im lf : Int32} {n N : Nat} {had : Int32} (hN : N ≤ 20) : ∀ (m t J w : Nat) (u : Nat → Nat → Int32) (h : ni_H), t + m = N → J + 5 * m ≤ 1000000 → w < n → fs_good J n w u → h 0 = ni_O 6 [.ref 1, .ref 2, .ref 9, .ref 16, .ref 23, .ref 29, .ref 31, .ref 32, .int im, .int lf] → fs_tab 2 u h → fs_mind h → ∃ h' : ni_H, (∀ (d : Nat) (Q : ni_Q), ni_T (d + 6) 98 45 [.ref 0, .int (nI N), .int had, .int (nI t)] [] z h Q = Q (some (.int (fs_rs n m u 6 2 - had))) z h') ∧ (∀ i, (i < 2 ∨ 8 < i) → (i < 23 ∨ 28 < i) → h' i = h i) ∧ fs_mind h' ∧ fs_tab 2 (fs_rs n m u) h' ∧ ∃ w', w' < n ∧ fs_good (J + 5 * m) n w' (fs_rs n m u) := by
  intro m
  induction m with
  | zero =>
    intro t J w u h e hJ hw hG x0 T hm
    obtain rfl : t = N := by omega
    have h1 : nI t ≤ nI t := Int32.le_refl _
    have T' := T
    obtain ⟨t2, t3, t4, tH⟩ := T'
    simp only [Nat.reduceAdd] at t2
    refine ⟨h, fun d Q => ?_, fun _ _ _ => rfl, hm, T, w, hw, by rw [fs_rs]; exact hG⟩
    rw [s98_45]
    simp +decide only [s98_0, s98_1, s98_4, s98_7, s98_10, s98_11, s98_13, s98_16, s98_17, s98_18, s98_19, s98_22, s98_23, s98_25, s98_28, s98_29, s98_31, s98_34, s98_35, s98_36, s98_39, s98_42, s98_43, s98_44, s98_46, s98_47, s98_50, s98_51, s98_54, s98_57, s98_60, s98_61, s98_64, s98_67, s98_68, s98_69, h1, x0, t2, ↓reduceIte, kl_i, kl_r, kl_n, kl_a, kl_l, up_s, up_up, is_0, is_s, gv_0, gv_s, pv_o, rc_o, okI_i, okI_x, okS_i, okB_x, gi_i, pi_i, okL_l, gl_l, pl_l, okA_2, okA_3, ga_a, arr_0, arr_1, arr_10, arr_11, len_a, sw_0, sw_i, sw_r, sw_l, fit_i, fit_z0, fit_z1, nz_0, nz_1, ni_K_s, ni_K_n, Nat.ble_eq, Nat.zero_le, Nat.zero_add, true_and, and_true, and_self, Bool.and_true, Bool.true_and, Bool.and_self, not_true_eq_false, not_false_eq_true, Int32.reduceLE, Int32.reduceLT, Int32.reduceAdd, Int32.reduceSub, Int32.reduceToNatClampNeg, Nat.reduceLeDiff, Nat.reduceAdd, Nat.reduceEqDiff, Nat.reduceSub, List.set_cons_zero, List.set_cons_succ, false_and, and_false, fs_rs]
  | succ m ih =>
    intro t J w u h e hJ hw hG x0 T hm
    have q1 : ¬ nI N ≤ nI t := nI_ge (by omega) (by omega)
    obtain ⟨h1, r1, f1, m1, T1⟩ := XR (z := z) hw (by omega) hG x0 T hm
    have ew : (u 6 1).toNatClampNeg = w := by rw [hG.2.2.1, nI_clamp (by have := hG.2.1; omega)]
    obtain ⟨w1, w2, G1⟩ := good_rl hw 5 J _ (good_tw (F := 1) (by decide) hG)
    have G1' : fs_good (J + 5) n w1 (fs_rr n u) := by unfold fs_rr; rw [ew]; exact G1
    obtain ⟨h2, r2, f2, m2, T2, w', w3, G2⟩ := ih (t + 1) (J + 5) w1 (fs_rr n u) h1 (by omega) (by omega) w2 G1' ((f1 0 (by omega) (by omega)).trans x0) T1 m1
    refine ⟨h2, fun d Q => ?_, fun i a b => by rw [f2 i a b, f1 i a b], m2, T2, w', w3, good_J G2 (by omega)⟩
    rw [s98_45]
    simp +decide only [s98_0, s98_1, s98_4, s98_7, s98_10, s98_11, s98_13, s98_16, s98_17, s98_18, s98_19, s98_22, s98_23, s98_25, s98_28, s98_29, s98_31, s98_34, s98_35, s98_36, s98_39, s98_42, s98_43, s98_44, s98_46, s98_47, s98_50, s98_51, s98_54, s98_57, s98_60, s98_61, s98_64, s98_67, s98_68, s98_69, q1, x0, r1, nI_1, r2, ↓reduceIte, kl_i, kl_r, kl_n, kl_a, kl_l, up_s, up_up, is_0, is_s, gv_0, gv_s, pv_o, rc_o, okI_i, okI_x, okS_i, okB_x, gi_i, pi_i, okL_l, gl_l, pl_l, okA_2, okA_3, ga_a, arr_0, arr_1, arr_10, arr_11, len_a, sw_0, sw_i, sw_r, sw_l, fit_i, fit_z0, fit_z1, nz_0, nz_1, ni_K_s, ni_K_n, Nat.ble_eq, Nat.zero_le, Nat.zero_add, true_and, and_true, and_self, Bool.and_true, Bool.true_and, Bool.and_self, not_true_eq_false, not_false_eq_true, Int32.reduceLE, Int32.reduceLT, Int32.reduceAdd, Int32.reduceSub, Int32.reduceToNatClampNeg, Nat.reduceLeDiff, Nat.reduceAdd, Nat.reduceEqDiff, Nat.reduceSub, List.set_cons_zero, List.set_cons_succ, false_and, and_false, fs_rs]
theorem L_mpl {n N : Nat} {had : Int32} (hN : N ≤ 20) : ∀ (m t J w : Nat) (u mu : Nat → Nat → Int32) (g : Nat → Int32) (a4 a5 a6 : Value) (h : ni_H), t + m = N → J + 5 * m ≤ 1000000 → w < n → fs_good J n w u → fs_rel n u mu → fs_mtb mu g h → ∃ (h' : ni_H) (g' : Nat → Int32) (mu' : Nat → Nat → Int32), (∀ (d : Nat) (Q : ni_Q), ni_T (d + 16) 188 39 [.ref 49, .int (nI N), .int had, .int (nI t), a4, a5, a6] [] z h Q = Q (some (.int (fs_rs n m u 6 2 - had))) z h') ∧ (∀ i, i ≠ 49 → (i < 51 ∨ 56 < i) → h' i = h i) ∧ fs_mtb mu' g' h' ∧ fs_rel n (fs_rs n m u) mu' ∧ (∀ i, i ≠ 1 → i ≠ 2 → i ≠ 3 → i ≠ 27 → i ≠ 28 → g' i = g i) := by
  intro m
  induction m with
  | zero =>
    intro t J w u mu g a4 a5 a6 h e hJ hw hG hR H
    obtain rfl : t = N := by omega
    have h1 : nI t ≤ nI t := Int32.le_refl _
    have gf : g 2 = u 6 2 := H.2.2.2.2.2.2.2.2.2.1.trans (hR.1 2 (by decide))
    refine ⟨h, g, mu, fun d Q => ?_, fun _ _ _ => rfl, H, by rw [fs_rs]; exact hR, fun _ _ _ _ _ _ => rfl⟩
    rw [s188_39]
    simp +decide only [s188_0, s188_1, s188_4, s188_7, s188_8, s188_10, s188_13, s188_14, s188_15, s188_16, s188_19, s188_20, s188_22, s188_25, s188_26, s188_28, s188_31, s188_32, s188_33, s188_36, s188_37, s188_38, s188_40, s188_41, s188_44, s188_45, s188_46, s188_49, s188_49i, s188_50, s188_51, s188_53, s188_55, s188_58, s188_59, s188_62, s188_65, s188_66, s188_69, s188_71, s188_72, s188_74, s188_75, s188_78, s188_80, s188_81, s188_84, s188_84i, s188_85, s188_86, s188_89, s188_91, s188_92, s188_93, s188_96, s188_99, s188_100, s188_102, s188_103, s188_105, s188_107, s188_110, s188_113, s188_115, s188_118, s188_121, s188_124, s188_125, s188_128, s188_129, s188_130, h1, H.1, gf, mi_0, mg_0, mi_1, mg_1, mi_2, mg_2, mi_3, mg_3, mi_4, mg_4, mi_5, mg_5, mi_6, mg_6, mi_7, mg_7, mi_8, mg_8, mi_9, mg_9, mi_10, mg_10, mi_11, mg_11, mi_12, mg_12, mi_13, mg_13, mi_14, mg_14, mi_15, mg_15, mi_16, mg_16, mi_17, mg_17, mi_18, mg_18, mi_19, mg_19, mi_20, mg_20, mi_21, mg_21, mi_22, mg_22, mi_23, mg_23, mi_24, mg_24, mi_25, mg_25, mi_26, mg_26, mi_27, mg_27, mi_28, mg_28, mi_29, mg_29, mi_30, mg_30, mi_31, mg_31, mi_32, mg_32, mq_0, mq_1, mq_2, mq_3, mq_4, mq_20, mq_21, mq_22, mq_23, mq_24, mq_27, mq_28, mq_29, mq_31, mq_32, mrc, ud_s, ud_n, ud_u, up_n, ↓reduceIte, kl_i, kl_r, kl_n, kl_a, kl_l, up_s, up_up, is_0, is_s, gv_0, gv_s, pv_o, rc_o, okI_i, okI_x, okS_i, okB_x, gi_i, pi_i, okL_l, gl_l, pl_l, okA_2, okA_3, ga_a, arr_0, arr_1, arr_10, arr_11, len_a, sw_0, sw_i, sw_r, sw_l, fit_i, fit_z0, fit_z1, nz_0, nz_1, ni_K_s, ni_K_n, Nat.ble_eq, Nat.zero_le, Nat.zero_add, true_and, and_true, and_self, Bool.and_true, Bool.true_and, Bool.and_self, not_true_eq_false, not_false_eq_true, Int32.reduceLE, Int32.reduceLT, Int32.reduceAdd, Int32.reduceSub, Int32.reduceToNatClampNeg, Nat.reduceLeDiff, Nat.reduceAdd, Nat.reduceEqDiff, Nat.reduceSub, List.set_cons_zero, List.set_cons_succ, false_and, and_false, fs_rs]
  | succ m ih =>
    intro t J w u mu g a4 a5 a6 h e hJ hw hG hR H
    have q1 : ¬ nI N ≤ nI t := nI_ge (by omega) (by omega)
    obtain ⟨h1, ga, mua, r1, f1, H1, R1, gka⟩ := MW (z := z) (F := 1) (by decide) hG hR H
    have Gw := good_tw (F := 1) (by decide) hG
    have ew : (u 6 1).toNatClampNeg = w := by rw [hG.2.2.1, nI_clamp (by have := hG.2.1; omega)]
    obtain ⟨w1, w2, G1⟩ := good_rl hw 5 J _ Gw
    have G1' : fs_good (J + 5) n w1 (fs_rr n u) := by unfold fs_rr; rw [ew]; exact G1
    obtain ⟨h2, gb, mub, on, b5, b6, r2, f2, H2, R2, gkb⟩ := L_mr (z := z) (N := nI N) (had := had) (r := nI t) hw 5 J (fs_tw 1 u) mua ga a5 a6 h1 (bt_pc5 _ (lb_lt _)) (by omega) Gw R1 H1
    have R2' : fs_rel n (fs_rr n u) mub := by unfold fs_rr; rw [ew]; exact R2
    obtain ⟨h3, gc, muc, r3, f3, H3, R3, gkc⟩ := ih (t + 1) (J + 5) w1 (fs_rr n u) mub gb (.int on) b5 b6 h2 (by omega) (by omega) w2 G1' R2' H2
    refine ⟨h3, gc, muc, fun d Q => ?_, fun i a b => by rw [f3 i a b, f2 i a b, f1 i a b], H3, R3, fun i a b c d e => by rw [gkc i a b c d e, gkb i a b c d e, gka i c]⟩
    rw [show nI 1 = 1 from rfl] at r1
    rw [s188_39]
    simp +decide only [s188_0, s188_1, s188_4, s188_7, s188_8, s188_10, s188_13, s188_14, s188_15, s188_16, s188_19, s188_20, s188_22, s188_25, s188_26, s188_28, s188_31, s188_32, s188_33, s188_36, s188_37, s188_38, s188_40, s188_41, s188_44, s188_45, s188_46, s188_49, s188_49i, s188_50, s188_51, s188_55, s188_58, s188_59, s188_62, s188_65, s188_66, s188_69, s188_71, s188_72, s188_74, s188_75, s188_78, s188_80, s188_81, s188_84, s188_84i, s188_85, s188_86, s188_89, s188_91, s188_92, s188_93, s188_96, s188_99, s188_100, s188_102, s188_103, s188_105, s188_107, s188_110, s188_113, s188_115, s188_118, s188_121, s188_124, s188_125, s188_128, s188_129, s188_130, q1, H.1, r1, mi_0, mg_0, mi_1, mg_1, mi_2, mg_2, mi_3, mg_3, mi_4, mg_4, mi_5, mg_5, mi_6, mg_6, mi_7, mg_7, mi_8, mg_8, mi_9, mg_9, mi_10, mg_10, mi_11, mg_11, mi_12, mg_12, mi_13, mg_13, mi_14, mg_14, mi_15, mg_15, mi_16, mg_16, mi_17, mg_17, mi_18, mg_18, mi_19, mg_19, mi_20, mg_20, mi_21, mg_21, mi_22, mg_22, mi_23, mg_23, mi_24, mg_24, mi_25, mg_25, mi_26, mg_26, mi_27, mg_27, mi_28, mg_28, mi_29, mg_29, mi_30, mg_30, mi_31, mg_31, mi_32, mg_32, mq_0, mq_1, mq_2, mq_3, mq_4, mq_20, mq_21, mq_22, mq_23, mq_24, mq_27, mq_28, mq_29, mq_31, mq_32, mrc, ud_s, ud_n, ud_u, up_n, ↓reduceIte, kl_i, kl_r, kl_n, kl_a, kl_l, up_s, up_up, is_0, is_s, gv_0, gv_s, pv_o, rc_o, okI_i, okI_x, okS_i, okB_x, gi_i, pi_i, okL_l, gl_l, pl_l, okA_2, okA_3, ga_a, arr_0, arr_1, arr_10, arr_11, len_a, sw_0, sw_i, sw_r, sw_l, fit_i, fit_z0, fit_z1, nz_0, nz_1, ni_K_s, ni_K_n, Nat.ble_eq, Nat.zero_le, Nat.zero_add, true_and, and_true, and_self, Bool.and_true, Bool.true_and, Bool.and_self, not_true_eq_false, not_false_eq_true, Int32.reduceLE, Int32.reduceLT, Int32.reduceAdd, Int32.reduceSub, Int32.reduceToNatClampNeg, Nat.reduceLeDiff, Nat.reduceAdd, Nat.reduceEqDiff, Nat.reduceSub, List.set_cons_zero, List.set_cons_succ, false_and, and_false]
    simp +decide only [r2, s188_0, s188_1, s188_4, s188_7, s188_8, s188_10, s188_13, s188_14, s188_15, s188_16, s188_19, s188_20, s188_22, s188_25, s188_26, s188_28, s188_31, s188_32, s188_33, s188_36, s188_37, s188_38, s188_40, s188_41, s188_44, s188_45, s188_46, s188_49, s188_49i, s188_50, s188_51, s188_55, s188_58, s188_59, s188_62, s188_65, s188_66, s188_69, s188_71, s188_72, s188_74, s188_75, s188_78, s188_80, s188_81, s188_84, s188_84i, s188_85, s188_86, s188_89, s188_91, s188_92, s188_93, s188_96, s188_99, s188_100, s188_102, s188_103, s188_105, s188_107, s188_110, s188_113, s188_115, s188_118, s188_121, s188_124, s188_125, s188_128, s188_129, s188_130, nI_1, r3, mi_0, mg_0, mi_1, mg_1, mi_2, mg_2, mi_3, mg_3, mi_4, mg_4, mi_5, mg_5, mi_6, mg_6, mi_7, mg_7, mi_8, mg_8, mi_9, mg_9, mi_10, mg_10, mi_11, mg_11, mi_12, mg_12, mi_13, mg_13, mi_14, mg_14, mi_15, mg_15, mi_16, mg_16, mi_17, mg_17, mi_18, mg_18, mi_19, mg_19, mi_20, mg_20, mi_21, mg_21, mi_22, mg_22, mi_23, mg_23, mi_24, mg_24, mi_25, mg_25, mi_26, mg_26, mi_27, mg_27, mi_28, mg_28, mi_29, mg_29, mi_30, mg_30, mi_31, mg_31, mi_32, mg_32, mq_0, mq_1, mq_2, mq_3, mq_4, mq_20, mq_21, mq_22, mq_23, mq_24, mq_27, mq_28, mq_29, mq_31, mq_32, mrc, ud_s, ud_n, ud_u, up_n, ↓reduceIte, kl_i, kl_r, kl_n, kl_a, kl_l, up_s, up_up, is_0, is_s, gv_0, gv_s, pv_o, rc_o, okI_i, okI_x, okS_i, okB_x, gi_i, pi_i, okL_l, gl_l, pl_l, okA_2, okA_3, ga_a, arr_0, arr_1, arr_10, arr_11, len_a, sw_0, sw_i, sw_r, sw_l, fit_i, fit_z0, fit_z1, nz_0, nz_1, ni_K_s, ni_K_n, Nat.ble_eq, Nat.zero_le, Nat.zero_add, true_and, and_true, and_self, Bool.and_true, Bool.true_and, Bool.and_self, not_true_eq_false, not_false_eq_true, Int32.reduceLE, Int32.reduceLT, Int32.reduceAdd, Int32.reduceSub, Int32.reduceToNatClampNeg, Nat.reduceLeDiff, Nat.reduceAdd, Nat.reduceEqDiff, Nat.reduceSub, List.set_cons_zero, List.set_cons_succ, false_and, and_false, fs_rs]
end
section
variable {J : Nat} {z : ni_Z} {h : ni_H}
theorem C_plays (x : Int32) (hJ : J ≤ 900000) : fs_Inv J h → fs_C J z 98 188 [.ref 0, .int x, .retAddr 0, .retAddr 0] [.ref 49, .int x, .retAddr 0, .retAddr 0, .retAddr 0, .retAddr 0, .retAddr 0] h := by
  intro hI
  obtain ⟨hE, n, w, im, lf, u, v, mu, ran, tr, rf, hl, hd, so, szf, sh, kp, g, sz, ee, ce, X, M, P⟩ := hI
  have X' := X
  have M' := M
  have P' := P
  obtain ⟨x0, x1, xT, xV, xD, xM, x29, x30, x31, x32, xS, xL⟩ := X'
  obtain ⟨mT, m50, m57, m58, m59, m60, m61, m62, m63, m64, m65, m66, m67⟩ := M'
  have mT' := mT
  obtain ⟨m49, m51, m52, m53, m54, m55, m56, g0, g1, g2, g3⟩ := mT'
  have xT' := xT
  obtain ⟨t2, t3, t4, tH⟩ := xT'
  obtain ⟨pG, pR, p4, p31, p32, pr, pI, pS⟩ := P'
  have pG' := pG
  obtain ⟨u60, n4, u61, wn, cel, cel5, cdis, hnd⟩ := pG'
  have pR' := pR
  obtain ⟨r6, r0, rH⟩ := pR'
  have gn : g 0 = nI n := (g0.trans (r6 0 (by decide))).trans u60
  have gw : g 1 = nI w := (g1.trans (r6 1 (by decide))).trans u61
  have gf : g 2 = u 6 2 := g2.trans (r6 2 (by decide))
  have gs : g 3 = u 6 3 := g3.trans (r6 3 (by decide))
  rw [u60, u61] at t2
  rw [r0] at m56
  simp only [Nat.reduceAdd] at t2 t3 t4
  by_cases n0 : n = 0
  · have e0 : nI n = 0 := by rw [n0]; rfl
    refine C_r hE X M P (r := .int (-5)) (c := -5) (fun d Q => ?_) (fun h' N d Q => ?_)
    · simp +decide only [s98_0, s98_1, s98_4, s98_7, s98_10, s98_11, s98_13, s98_16, s98_17, s98_18, s98_19, s98_22, s98_23, s98_25, s98_28, s98_29, s98_31, s98_34, s98_35, s98_36, s98_39, s98_42, s98_43, s98_44, s98_45, s98_46, s98_47, s98_50, s98_51, s98_54, s98_57, s98_60, s98_61, s98_64, s98_67, s98_68, s98_69, x0, t2, e0, X_refuse x0 x32 no_5, ↓reduceIte, kl_i, kl_r, kl_n, kl_a, kl_l, up_s, up_up, is_0, is_s, gv_0, gv_s, pv_o, rc_o, okI_i, okI_x, okS_i, okB_x, gi_i, pi_i, okL_l, gl_l, pl_l, okA_2, okA_3, ga_a, arr_0, arr_1, arr_10, arr_11, len_a, sw_0, sw_i, sw_r, sw_l, fit_i, fit_z0, fit_z1, nz_0, nz_1, ni_K_s, ni_K_n, Nat.ble_eq, Nat.zero_le, Nat.zero_add, true_and, and_true, and_self, Bool.and_true, Bool.true_and, Bool.and_self, not_true_eq_false, not_false_eq_true, Int32.reduceLE, Int32.reduceLT, Int32.reduceAdd, Int32.reduceSub, Int32.reduceToNatClampNeg, Nat.reduceLeDiff, Nat.reduceAdd, Nat.reduceEqDiff, Nat.reduceSub, List.set_cons_zero, List.set_cons_succ, false_and, and_false]
    · obtain ⟨⟨k49, k51, k52, k53, k54, k55, k56, -, -, -, -⟩, k50, k57, k58, k59, k60, k61, k62, k63, k64, k65, k66, k67⟩ := N
      rw [r0] at k56
      simp +decide only [s188_0, s188_1, s188_4, s188_7, s188_8, s188_10, s188_13, s188_14, s188_15, s188_16, s188_19, s188_20, s188_22, s188_25, s188_26, s188_28, s188_31, s188_32, s188_33, s188_36, s188_37, s188_38, s188_39, s188_40, s188_41, s188_44, s188_45, s188_46, s188_49, s188_49i, s188_50, s188_51, s188_53, s188_55, s188_58, s188_59, s188_62, s188_65, s188_66, s188_69, s188_71, s188_72, s188_74, s188_75, s188_78, s188_80, s188_81, s188_84, s188_84i, s188_85, s188_86, s188_89, s188_91, s188_92, s188_93, s188_96, s188_99, s188_100, s188_102, s188_103, s188_105, s188_107, s188_110, s188_113, s188_115, s188_118, s188_121, s188_124, s188_125, s188_128, s188_129, s188_130, k49, gn, fs_b, e0, M_no k49 k50 no_5, Bool.false_eq_true, mi_0, mg_0, mi_1, mg_1, mi_2, mg_2, mi_3, mg_3, mi_4, mg_4, mi_5, mg_5, mi_6, mg_6, mi_7, mg_7, mi_8, mg_8, mi_9, mg_9, mi_10, mg_10, mi_11, mg_11, mi_12, mg_12, mi_13, mg_13, mi_14, mg_14, mi_15, mg_15, mi_16, mg_16, mi_17, mg_17, mi_18, mg_18, mi_19, mg_19, mi_20, mg_20, mi_21, mg_21, mi_22, mg_22, mi_23, mg_23, mi_24, mg_24, mi_25, mg_25, mi_26, mg_26, mi_27, mg_27, mi_28, mg_28, mi_29, mg_29, mi_30, mg_30, mi_31, mg_31, mi_32, mg_32, mq_0, mq_1, mq_2, mq_3, mq_4, mq_20, mq_21, mq_22, mq_23, mq_24, mq_27, mq_28, mq_29, mq_31, mq_32, mrc, ud_s, ud_n, ud_u, up_n, ↓reduceIte, kl_i, kl_r, kl_n, kl_a, kl_l, up_s, up_up, is_0, is_s, gv_0, gv_s, pv_o, rc_o, okI_i, okI_x, okS_i, okB_x, gi_i, pi_i, okL_l, gl_l, pl_l, okA_2, okA_3, ga_a, arr_0, arr_1, arr_10, arr_11, len_a, sw_0, sw_i, sw_r, sw_l, fit_i, fit_z0, fit_z1, nz_0, nz_1, ni_K_s, ni_K_n, Nat.ble_eq, Nat.zero_le, Nat.zero_add, true_and, and_true, and_self, Bool.and_true, Bool.true_and, Bool.and_self, not_true_eq_false, not_false_eq_true, Int32.reduceLE, Int32.reduceLT, Int32.reduceAdd, Int32.reduceSub, Int32.reduceToNatClampNeg, Nat.reduceLeDiff, Nat.reduceAdd, Nat.reduceEqDiff, Nat.reduceSub, List.set_cons_zero, List.set_cons_succ, false_and, and_false]
  have e0 : ¬ nI n = 0 := nI_ne0 (by omega) (by omega)
  have hw : w < n := by omega
  by_cases h1' : x < 1
  · refine C_r hE X M P (r := .int (-6)) (c := -6) (fun d Q => ?_) (fun h' N d Q => ?_)
    · simp +decide only [s98_0, s98_1, s98_4, s98_7, s98_10, s98_11, s98_13, s98_16, s98_17, s98_18, s98_19, s98_22, s98_23, s98_25, s98_28, s98_29, s98_31, s98_34, s98_35, s98_36, s98_39, s98_42, s98_43, s98_44, s98_45, s98_46, s98_47, s98_50, s98_51, s98_54, s98_57, s98_60, s98_61, s98_64, s98_67, s98_68, s98_69, x0, t2, e0, h1', X_refuse x0 x32 no_6, ↓reduceIte, kl_i, kl_r, kl_n, kl_a, kl_l, up_s, up_up, is_0, is_s, gv_0, gv_s, pv_o, rc_o, okI_i, okI_x, okS_i, okB_x, gi_i, pi_i, okL_l, gl_l, pl_l, okA_2, okA_3, ga_a, arr_0, arr_1, arr_10, arr_11, len_a, sw_0, sw_i, sw_r, sw_l, fit_i, fit_z0, fit_z1, nz_0, nz_1, ni_K_s, ni_K_n, Nat.ble_eq, Nat.zero_le, Nat.zero_add, true_and, and_true, and_self, Bool.and_true, Bool.true_and, Bool.and_self, not_true_eq_false, not_false_eq_true, Int32.reduceLE, Int32.reduceLT, Int32.reduceAdd, Int32.reduceSub, Int32.reduceToNatClampNeg, Nat.reduceLeDiff, Nat.reduceAdd, Nat.reduceEqDiff, Nat.reduceSub, List.set_cons_zero, List.set_cons_succ, false_and, and_false]
    · obtain ⟨⟨k49, k51, k52, k53, k54, k55, k56, -, -, -, -⟩, k50, k57, k58, k59, k60, k61, k62, k63, k64, k65, k66, k67⟩ := N
      rw [r0] at k56
      simp +decide only [s188_0, s188_1, s188_4, s188_7, s188_8, s188_10, s188_13, s188_14, s188_15, s188_16, s188_19, s188_20, s188_22, s188_25, s188_26, s188_28, s188_31, s188_32, s188_33, s188_36, s188_37, s188_38, s188_39, s188_40, s188_41, s188_44, s188_45, s188_46, s188_49, s188_49i, s188_50, s188_51, s188_53, s188_55, s188_58, s188_59, s188_62, s188_65, s188_66, s188_69, s188_71, s188_72, s188_74, s188_75, s188_78, s188_80, s188_81, s188_84, s188_84i, s188_85, s188_86, s188_89, s188_91, s188_92, s188_93, s188_96, s188_99, s188_100, s188_102, s188_103, s188_105, s188_107, s188_110, s188_113, s188_115, s188_118, s188_121, s188_124, s188_125, s188_128, s188_129, s188_130, k49, gn, fs_b, e0, h1', M_no k49 k50 no_6, Bool.false_eq_true, mi_0, mg_0, mi_1, mg_1, mi_2, mg_2, mi_3, mg_3, mi_4, mg_4, mi_5, mg_5, mi_6, mg_6, mi_7, mg_7, mi_8, mg_8, mi_9, mg_9, mi_10, mg_10, mi_11, mg_11, mi_12, mg_12, mi_13, mg_13, mi_14, mg_14, mi_15, mg_15, mi_16, mg_16, mi_17, mg_17, mi_18, mg_18, mi_19, mg_19, mi_20, mg_20, mi_21, mg_21, mi_22, mg_22, mi_23, mg_23, mi_24, mg_24, mi_25, mg_25, mi_26, mg_26, mi_27, mg_27, mi_28, mg_28, mi_29, mg_29, mi_30, mg_30, mi_31, mg_31, mi_32, mg_32, mq_0, mq_1, mq_2, mq_3, mq_4, mq_20, mq_21, mq_22, mq_23, mq_24, mq_27, mq_28, mq_29, mq_31, mq_32, mrc, ud_s, ud_n, ud_u, up_n, ↓reduceIte, kl_i, kl_r, kl_n, kl_a, kl_l, up_s, up_up, is_0, is_s, gv_0, gv_s, pv_o, rc_o, okI_i, okI_x, okS_i, okB_x, gi_i, pi_i, okL_l, gl_l, pl_l, okA_2, okA_3, ga_a, arr_0, arr_1, arr_10, arr_11, len_a, sw_0, sw_i, sw_r, sw_l, fit_i, fit_z0, fit_z1, nz_0, nz_1, ni_K_s, ni_K_n, Nat.ble_eq, Nat.zero_le, Nat.zero_add, true_and, and_true, and_self, Bool.and_true, Bool.true_and, Bool.and_self, not_true_eq_false, not_false_eq_true, Int32.reduceLE, Int32.reduceLT, Int32.reduceAdd, Int32.reduceSub, Int32.reduceToNatClampNeg, Nat.reduceLeDiff, Nat.reduceAdd, Nat.reduceEqDiff, Nat.reduceSub, List.set_cons_zero, List.set_cons_succ, false_and, and_false]
  by_cases h9' : 20 < x
  · have h9'' : ¬ x ≤ 20 := Int32.not_le.mpr h9'
    refine C_r hE X M P (r := .int (-6)) (c := -6) (fun d Q => ?_) (fun h' N d Q => ?_)
    · simp +decide only [s98_0, s98_1, s98_4, s98_7, s98_10, s98_11, s98_13, s98_16, s98_17, s98_18, s98_19, s98_22, s98_23, s98_25, s98_28, s98_29, s98_31, s98_34, s98_35, s98_36, s98_39, s98_42, s98_43, s98_44, s98_45, s98_46, s98_47, s98_50, s98_51, s98_54, s98_57, s98_60, s98_61, s98_64, s98_67, s98_68, s98_69, x0, t2, e0, h1', h9', h9'', X_refuse x0 x32 no_6, ↓reduceIte, kl_i, kl_r, kl_n, kl_a, kl_l, up_s, up_up, is_0, is_s, gv_0, gv_s, pv_o, rc_o, okI_i, okI_x, okS_i, okB_x, gi_i, pi_i, okL_l, gl_l, pl_l, okA_2, okA_3, ga_a, arr_0, arr_1, arr_10, arr_11, len_a, sw_0, sw_i, sw_r, sw_l, fit_i, fit_z0, fit_z1, nz_0, nz_1, ni_K_s, ni_K_n, Nat.ble_eq, Nat.zero_le, Nat.zero_add, true_and, and_true, and_self, Bool.and_true, Bool.true_and, Bool.and_self, not_true_eq_false, not_false_eq_true, Int32.reduceLE, Int32.reduceLT, Int32.reduceAdd, Int32.reduceSub, Int32.reduceToNatClampNeg, Nat.reduceLeDiff, Nat.reduceAdd, Nat.reduceEqDiff, Nat.reduceSub, List.set_cons_zero, List.set_cons_succ, false_and, and_false]
    · obtain ⟨⟨k49, k51, k52, k53, k54, k55, k56, -, -, -, -⟩, k50, k57, k58, k59, k60, k61, k62, k63, k64, k65, k66, k67⟩ := N
      rw [r0] at k56
      simp +decide only [s188_0, s188_1, s188_4, s188_7, s188_8, s188_10, s188_13, s188_14, s188_15, s188_16, s188_19, s188_20, s188_22, s188_25, s188_26, s188_28, s188_31, s188_32, s188_33, s188_36, s188_37, s188_38, s188_39, s188_40, s188_41, s188_44, s188_45, s188_46, s188_49, s188_49i, s188_50, s188_51, s188_53, s188_55, s188_58, s188_59, s188_62, s188_65, s188_66, s188_69, s188_71, s188_72, s188_74, s188_75, s188_78, s188_80, s188_81, s188_84, s188_84i, s188_85, s188_86, s188_89, s188_91, s188_92, s188_93, s188_96, s188_99, s188_100, s188_102, s188_103, s188_105, s188_107, s188_110, s188_113, s188_115, s188_118, s188_121, s188_124, s188_125, s188_128, s188_129, s188_130, k49, gn, fs_b, e0, h1', h9', h9'', M_no k49 k50 no_6, Bool.false_eq_true, mi_0, mg_0, mi_1, mg_1, mi_2, mg_2, mi_3, mg_3, mi_4, mg_4, mi_5, mg_5, mi_6, mg_6, mi_7, mg_7, mi_8, mg_8, mi_9, mg_9, mi_10, mg_10, mi_11, mg_11, mi_12, mg_12, mi_13, mg_13, mi_14, mg_14, mi_15, mg_15, mi_16, mg_16, mi_17, mg_17, mi_18, mg_18, mi_19, mg_19, mi_20, mg_20, mi_21, mg_21, mi_22, mg_22, mi_23, mg_23, mi_24, mg_24, mi_25, mg_25, mi_26, mg_26, mi_27, mg_27, mi_28, mg_28, mi_29, mg_29, mi_30, mg_30, mi_31, mg_31, mi_32, mg_32, mq_0, mq_1, mq_2, mq_3, mq_4, mq_20, mq_21, mq_22, mq_23, mq_24, mq_27, mq_28, mq_29, mq_31, mq_32, mrc, ud_s, ud_n, ud_u, up_n, ↓reduceIte, kl_i, kl_r, kl_n, kl_a, kl_l, up_s, up_up, is_0, is_s, gv_0, gv_s, pv_o, rc_o, okI_i, okI_x, okS_i, okB_x, gi_i, pi_i, okL_l, gl_l, pl_l, okA_2, okA_3, ga_a, arr_0, arr_1, arr_10, arr_11, len_a, sw_0, sw_i, sw_r, sw_l, fit_i, fit_z0, fit_z1, nz_0, nz_1, ni_K_s, ni_K_n, Nat.ble_eq, Nat.zero_le, Nat.zero_add, true_and, and_true, and_self, Bool.and_true, Bool.true_and, Bool.and_self, not_true_eq_false, not_false_eq_true, Int32.reduceLE, Int32.reduceLT, Int32.reduceAdd, Int32.reduceSub, Int32.reduceToNatClampNeg, Nat.reduceLeDiff, Nat.reduceAdd, Nat.reduceEqDiff, Nat.reduceSub, List.set_cons_zero, List.set_cons_succ, false_and, and_false]
  have h9'' : x ≤ 20 := Int32.not_lt.mp h9'
  obtain ⟨N, hN, rfl⟩ := nI_of2 (M := 20) (n := 20) (x := x) rfl (fun e => h1' (Int32.lt_trans e (by decide))) h9''
  obtain ⟨h1, r1, f1, m1, T1, w', w1, G1⟩ := L_xpl (z := z) (had := u 6 2) hN N 0 J w u h (by omega) (by omega) hw pG x0 xT xM
  obtain ⟨h2, g', mu', r2, f2, H2, R2, gk⟩ := L_mpl (z := z) (had := u 6 2) hN N 0 J w u mu g (.retAddr 0) (.retAddr 0) (.retAddr 0) h1 (by omega) (by omega) hw pG pR (mtb_h (h' := h1) mT (fun i _ _ => f1 i (by omega) (by omega)))
  have k49 := (f1 49 (by omega) (by omega)).trans m49
  rw [nI_0] at r1 r2
  refine C_t hE X M P (r := .int (fs_rs n N u 6 2 - u 6 2)) (h1 := h1) (h2 := h2) (fun d Q => ?_) f1 m1 T1 (fun d Q => ?_) f2 H2 (gk _ (by decide) (by decide) (by decide) (by decide) (by decide)) (gk _ (by decide) (by decide) (by decide) (by decide) (by decide)) (gk _ (by decide) (by decide) (by decide) (by decide) (by decide)) (good_J G1 (by omega)) R2 (Nat.le_refl _)
  · simp +decide only [s98_0, s98_1, s98_4, s98_7, s98_10, s98_11, s98_13, s98_16, s98_17, s98_18, s98_19, s98_22, s98_23, s98_25, s98_28, s98_29, s98_31, s98_34, s98_35, s98_36, s98_39, s98_42, s98_43, s98_44, s98_46, s98_47, s98_50, s98_51, s98_54, s98_57, s98_60, s98_61, s98_64, s98_67, s98_68, s98_69, x0, t2, e0, h1', h9', h9'', r1, ↓reduceIte, kl_i, kl_r, kl_n, kl_a, kl_l, up_s, up_up, is_0, is_s, gv_0, gv_s, pv_o, rc_o, okI_i, okI_x, okS_i, okB_x, gi_i, pi_i, okL_l, gl_l, pl_l, okA_2, okA_3, ga_a, arr_0, arr_1, arr_10, arr_11, len_a, sw_0, sw_i, sw_r, sw_l, fit_i, fit_z0, fit_z1, nz_0, nz_1, ni_K_s, ni_K_n, Nat.ble_eq, Nat.zero_le, Nat.zero_add, true_and, and_true, and_self, Bool.and_true, Bool.true_and, Bool.and_self, not_true_eq_false, not_false_eq_true, Int32.reduceLE, Int32.reduceLT, Int32.reduceAdd, Int32.reduceSub, Int32.reduceToNatClampNeg, Nat.reduceLeDiff, Nat.reduceAdd, Nat.reduceEqDiff, Nat.reduceSub, List.set_cons_zero, List.set_cons_succ, false_and, and_false]
  · simp +decide only [s188_0, s188_1, s188_4, s188_7, s188_8, s188_10, s188_13, s188_14, s188_15, s188_16, s188_19, s188_20, s188_22, s188_25, s188_26, s188_28, s188_31, s188_32, s188_33, s188_36, s188_37, s188_38, s188_40, s188_41, s188_44, s188_45, s188_46, s188_49, s188_49i, s188_50, s188_51, s188_53, s188_55, s188_58, s188_59, s188_62, s188_65, s188_66, s188_69, s188_71, s188_72, s188_74, s188_75, s188_78, s188_80, s188_81, s188_84, s188_84i, s188_85, s188_86, s188_89, s188_91, s188_92, s188_93, s188_96, s188_99, s188_100, s188_102, s188_103, s188_105, s188_107, s188_110, s188_113, s188_115, s188_118, s188_121, s188_124, s188_125, s188_128, s188_129, s188_130, k49, gn, gf, e0, h1', h9', h9'', r2, mi_0, mg_0, mi_1, mg_1, mi_2, mg_2, mi_3, mg_3, mi_4, mg_4, mi_5, mg_5, mi_6, mg_6, mi_7, mg_7, mi_8, mg_8, mi_9, mg_9, mi_10, mg_10, mi_11, mg_11, mi_12, mg_12, mi_13, mg_13, mi_14, mg_14, mi_15, mg_15, mi_16, mg_16, mi_17, mg_17, mi_18, mg_18, mi_19, mg_19, mi_20, mg_20, mi_21, mg_21, mi_22, mg_22, mi_23, mg_23, mi_24, mg_24, mi_25, mg_25, mi_26, mg_26, mi_27, mg_27, mi_28, mg_28, mi_29, mg_29, mi_30, mg_30, mi_31, mg_31, mi_32, mg_32, mq_0, mq_1, mq_2, mq_3, mq_4, mq_20, mq_21, mq_22, mq_23, mq_24, mq_27, mq_28, mq_29, mq_31, mq_32, mrc, ud_s, ud_n, ud_u, up_n, ↓reduceIte, kl_i, kl_r, kl_n, kl_a, kl_l, up_s, up_up, is_0, is_s, gv_0, gv_s, pv_o, rc_o, okI_i, okI_x, okS_i, okB_x, gi_i, pi_i, okL_l, gl_l, pl_l, okA_2, okA_3, ga_a, arr_0, arr_1, arr_10, arr_11, len_a, sw_0, sw_i, sw_r, sw_l, fit_i, fit_z0, fit_z1, nz_0, nz_1, ni_K_s, ni_K_n, Nat.ble_eq, Nat.zero_le, Nat.zero_add, true_and, and_true, and_self, Bool.and_true, Bool.true_and, Bool.and_self, not_true_eq_false, not_false_eq_true, Int32.reduceLE, Int32.reduceLT, Int32.reduceAdd, Int32.reduceSub, Int32.reduceToNatClampNeg, Nat.reduceLeDiff, Nat.reduceAdd, Nat.reduceEqDiff, Nat.reduceSub, List.set_cons_zero, List.set_cons_succ, false_and, and_false]
end
