set_option maxRecDepth 100000
set_option maxHeartbeats 4000000
/-! ===== the class reads a game ===== -/
def fs_cn (u : Nat → Nat → Int32) : Nat := (u 6 0).toNatClampNeg
def fs_gm (tx : Nat → Int32) (le : Nat) : Nat → Nat → Nat → (Nat → Nat → Int32) → Nat ⊕ (Nat × (Nat → Nat → Int32))
  | 0, _, _, _ => .inl 0
  | f + 1, p, k, u => match fs_item tx p (fs_cn u) (u 0) with
    | .inl q => .inl q
    | .inr (w, a, b, e) => if le ≤ e then .inr (k, fs_ai w a b u) else if tx e = 59 then fs_gm tx le f (e + 1) (k + 1) (fs_ai w a b u) else .inl e
theorem num_lb {tx : Nat → Int32} {p q : Nat} {ok : Nat → Bool} (h : fs_num tx p ok = .inl q) : q ≤ p + 1 := by
  unfold fs_num at h
  split at h
  · split at h
    · split at h
      · cases h
      · cases h; omega
    · cases h; omega
  · cases h; omega
theorem num_rb {tx : Nat → Int32} {p v e : Nat} {ok : Nat → Bool} (h : fs_num tx p ok = .inr (v, e)) : ok v = true ∧ v ≤ 99 ∧ p + 2 ≤ e ∧ e ≤ p + 3 := by
  unfold fs_num at h
  split at h
  · split at h
    · next h2 =>
      split at h
      · next h3 =>
        have h4 : fs_nv tx (p + 1) = (v, e) := Sum.inr.inj h
        have h6 := nv_le tx (p + 1)
        have h7 := nv_gt tx (p + 1) h2
        rw [h4] at h3 h6 h7
        simp only at h3 h6 h7
        exact ⟨h3, h6.1, by omega, by omega⟩
      · cases h
    · cases h
  · cases h
theorem item_l {tx : Nat → Int32} {p n q : Nat} {c : Nat → Int32} (h : fs_item tx p n c = .inl q) : q ≤ p + 10 := by
  have hk : (fs_wd tx p).2 ≤ 5 := by
    rcases wd_cases tx p with e | e | e | e | e | ⟨k, k5, e⟩ <;> rw [e] <;> simp only <;> omega
  unfold fs_item at h
  split at h
  · cases h; omega
  · split at h
    · cases h; omega
    · split at h
      · next hm => cases h; have := num_lb hm; omega
      · next a e hm =>
        have h1 := num_rb hm
        split at h
        · cases h
        · split at h
          · next hm2 => cases h; have := num_lb hm2; omega
          · cases h
/-- what is known of an item that can stand -/
theorem item_r {tx : Nat → Int32} {p n w a b e : Nat} {c : Nat → Int32} (h : fs_item tx p n c = .inr (w, a, b, e)) : p + 4 ≤ e ∧ e ≤ p + 11 ∧ ((w = 0 ∧ n ≠ 4 ∧ a ≤ 6 ∧ b ≤ 9) ∨ (w = 1 ∧ a < 5 ∧ b < 36 ∧ fs_fr c (nI a) (nI b) 5 0 = true) ∨ (w = 2 ∧ a < 5) ∨ (w = 3 ∧ a < n ∧ 1 ≤ b ∧ b ≤ 4) ∨ (w = 4 ∧ a < n)) := by
  unfold fs_item at h
  rcases wd_cases tx p with q | q | q | q | q | ⟨k, k5, q⟩ <;> rw [q] at h <;> simp only at h
  · split at h
    · next q2 => cases q2
    split at h
    · cases h
    · next q3 =>
      split at h
      · cases h
      · next a' e' hm =>
        have h1 := num_rb hm
        split at h
        · next q4 => rcases q4 with q4 | q4 <;> cases q4
        · split at h
          · cases h
          · next b' e2 hm2 =>
            have h2 := num_rb hm2
            cases h
            refine ⟨by omega, by omega, Or.inl ⟨rfl, fun q => q3 ⟨trivial, q⟩, of_decide_eq_true h1.1, of_decide_eq_true h2.1⟩⟩
  · split at h
    · next q2 => cases q2
    split at h
    · cases h
    · next q3 =>
      split at h
      · cases h
      · next a' e' hm =>
        have h1 := num_rb hm
        split at h
        · next q4 => rcases q4 with q4 | q4 <;> cases q4
        · split at h
          · cases h
          · next b' e2 hm2 =>
            have h2 := num_rb hm2
            cases h
            have h3 : (decide (b < 36) && fs_fr c (nI a) (nI b) 5 0) = true := h2.1
            rw [Bool.and_eq_true] at h3
            refine ⟨by omega, by omega, Or.inr (Or.inl ⟨rfl, of_decide_eq_true h1.1, of_decide_eq_true h3.1, h3.2⟩)⟩
  · split at h
    · next q2 => cases q2
    split at h
    · cases h
    · next q3 =>
      split at h
      · cases h
      · next a' e' hm =>
        have h1 := num_rb hm
        split at h
        · cases h
          refine ⟨by omega, by omega, Or.inr (Or.inr (Or.inl ⟨rfl, of_decide_eq_true h1.1⟩))⟩
        · next q4 => exact absurd (Or.inl trivial) q4
  · split at h
    · next q2 => cases q2
    split at h
    · cases h
    · next q3 =>
      split at h
      · cases h
      · next a' e' hm =>
        have h1 := num_rb hm
        split at h
        · next q4 => rcases q4 with q4 | q4 <;> cases q4
        · split at h
          · cases h
          · next b' e2 hm2 =>
            have h2 := num_rb hm2
            cases h
            have h3 : 1 ≤ b ∧ b ≤ 4 := of_decide_eq_true h2.1
            refine ⟨by omega, by omega, Or.inr (Or.inr (Or.inr (Or.inl ⟨rfl, of_decide_eq_true h1.1, h3⟩)))⟩
  · split at h
    · next q2 => cases q2
    split at h
    · cases h
    · next q3 =>
      split at h
      · cases h
      · next a' e' hm =>
        have h1 := num_rb hm
        split at h
        · cases h
          refine ⟨by omega, by omega, Or.inr (Or.inr (Or.inr (Or.inr ⟨rfl, of_decide_eq_true h1.1⟩)))⟩
        · next q4 => exact absurd (Or.inr trivial) q4
  · split at h
    · cases h
    · next q2 => exact absurd trivial q2
/-- the count behind an item -/
theorem ai_n {w a b n : Nat} {u : Nat → Nat → Int32} (hn : u 6 0 = nI n) (n4 : n ≤ 4) (hw : w = 0 → n ≠ 4) : ∃ n', fs_ai w a b u 6 0 = nI n' ∧ n' ≤ 4 := by
  unfold fs_ai
  by_cases q0 : w = 0
  · have := hw q0
    rw [if_pos q0, hn, nI_clamp (by omega)]
    refine ⟨n + 1, ?_, by omega⟩
    unfold fs_uh
    rw [fu_s, ud_s]
  · rw [if_neg q0]
    refine ⟨n, ?_, n4⟩
    rw [← hn]
    repeat' split
    · rw [fu_n (by decide)]
    · rw [fu_n (by decide)]
    · rw [fu_n (by decide)]
    · rw [fu_s, ud_n (by decide)]
theorem ai_5 {w a b n : Nat} {u : Nat → Nat → Int32} (b3 : (w = 0 ∧ n ≠ 4 ∧ a ≤ 6 ∧ b ≤ 9) ∨ (w = 1 ∧ a < 5 ∧ b < 36 ∧ fs_fr (u 0) (nI a) (nI b) 5 0 = true) ∨ (w = 2 ∧ a < 5) ∨ (w = 3 ∧ a < n ∧ 1 ≤ b ∧ b ≤ 4) ∨ (w = 4 ∧ a < n)) : ∀ j, 5 ≤ j → fs_ai w a b u 0 j = u 0 j := by
  intro j hj
  unfold fs_ai
  rcases b3 with q | q | q | q | q
  · rw [if_pos q.1]; unfold fs_uh; simp +decide only [fu_n]
  · rw [if_neg (by omega), if_pos q.1, fu_s, ud_n (by omega)]
  · rw [if_neg (by omega), if_neg (by omega), if_pos q.1, fu_s, ud_n (by omega)]
  · rw [if_neg (by omega), if_neg (by omega), if_neg (by omega), if_pos q.1, fu_n (by decide)]
  · rw [if_neg (by omega), if_neg (by omega), if_neg (by omega), if_neg (by omega), fu_n (by decide)]
section
variable {le p n : Nat} {z : ni_Z} {wh hd so nu : Int32} {f : Nat → Int64}
theorem X_item {h : ni_H} {u : Nat → Nat → Int32} {tx : Nat → Int32} (htx : tx = fun i => fs_int f (nI le) (nI i)) (sp : Nat) (s33 : 33 ≤ sp) (hp : p < 800) (hle : le ≤ 160) (hO : ∀ w, w < 5 → h (1010 + w) = ni_O 100 [.ref (1020 + w), .int 0]) (hB : ∀ w, w < 5 → h (1020 + w) = .inl (11, fs_wl w, .inl (fs_wb w))) (hR : h 31 = ni_O 3 [.int (-1), .int (nI p), .int nu]) (hs : h sp = ni_O 4 [.ref (sp + 1), .int wh, .int hd, .int so, .int (nI le)]) (he : h (sp + 1) = ni_L 160 f) (H : fs_tab 16 u h) (hn : u 6 0 = nI n) (n4 : n ≤ 4) : (∀ q, fs_item tx p n (u 0) = .inl q → fs_PL z sp h u q) ∧ (∀ w a b e, fs_item tx p n (u 0) = .inr (w, a, b, e) → fs_PR z sp h u w a b e) := by
  rcases wd_cases tx p with q | q | q | q | q | ⟨k, k5, q⟩
  · exact X_item0 htx sp (by omega) (by omega) (by omega) hp hle hO hB hR hs he H hn n4 q
  · exact X_item1 htx sp (by omega) (by omega) (by omega) hp hle hO hB hR hs he H hn n4 q
  · exact X_item2 htx sp (by omega) (by omega) (by omega) hp hle hO hB hR hs he H hn n4 q
  · exact X_item3 htx sp (by omega) (by omega) (by omega) hp hle hO hB hR hs he H hn n4 q
  · exact X_item4 htx sp (by omega) (by omega) (by omega) hp hle hO hB hR hs he H hn n4 q
  · have := X_item5 (z := z) htx sp (by omega) (by omega) (by omega) hp hle hO hB hR hs he H hn n4 k5 q
    have e : fs_item tx p n (u 0) = .inl (p + k) := by unfold fs_item; rw [q]; simp
    rw [e]
    exact ⟨fun q' h' => by cases h'; exact this, fun _ _ _ _ h' => by cases h'⟩
theorem L_read {tx : Nat → Int32} (htx : tx = fun i => fs_int f (nI le) (nI i)) (sp : Nat) (s33 : 33 ≤ sp) (s48 : sp < 900) (hle : le ≤ 160) : ∀ (fu p k n : Nat) (u : Nat → Nat → Int32) (nu : Int32) (h : ni_H), k + fu = 161 → 160 ≤ fu + p → 1 ≤ fu → p ≤ 160 → (∀ w, w < 5 → h (1010 + w) = ni_O 100 [.ref (1020 + w), .int 0]) → (∀ w, w < 5 → h (1020 + w) = .inl (11, fs_wl w, .inl (fs_wb w))) → h 31 = ni_O 3 [.int (-1), .int (nI p), .int nu] → h sp = ni_O 4 [.ref (sp + 1), .int wh, .int hd, .int so, .int (nI le)] → h (sp + 1) = ni_L 160 f → fs_tab 16 u h → u 6 0 = nI n → n ≤ 4 → ∃ (h' : ni_H) (r : Int32), (∀ (d : Nat) (Q : ni_Q), ni_T (d + 7) 28 12 [.ref 31, .ref sp, .ref 16, .int (nI k)] [] z h Q = Q (some (.int r)) z h') ∧ fs_fI h h' ∧ (∀ q, fs_gm tx le fu p k u = .inl q → q ≤ 200 ∧ (∃ u', fs_tab 16 u' h' ∧ ∀ j, 5 ≤ j → u' 0 j = u 0 j) ∧ ∃ a b : Int32, h' 31 = ni_O 3 [.int (nI q), .int a, .int b]) ∧ (∀ k' u', fs_gm tx le fu p k u = .inr (k', u') → r = nI k' ∧ fs_tab 16 u' h' ∧ ∃ a b : Int32, h' 31 = ni_O 3 [.int (-1), .int a, .int b]) := by
  intro fu
  induction fu with
  | zero => intro p k n u nu h e1 e2 e3; omega
  | succ fu ih =>
    intro p k n u nu h e1 e2 e3 hp hO hB hR hs he H hn n4
    have k1 : ¬ (160 : Int32) < nI k := nI_nlt (a := 160) (b := k) (by omega) (by omega)
    have hcn : fs_cn u = n := by unfold fs_cn; rw [hn, nI_clamp (by omega)]
    have it := X_item (z := z) htx sp s33 (by omega) hle hO hB hR hs he H hn n4
    rw [fs_gm, hcn]
    cases hi : fs_item tx p n (u 0) with
    | inl q =>
      obtain ⟨h', hr, hf, ht, a, b, h31⟩ := it.1 q hi
      have hq := item_l hi
      have nm : ¬ nI q = -1 := nI_m1 (by omega)
      refine ⟨h', nI k, fun d Q => ?_, hf, fun q' hq' => ?_, fun k' u' hq' => by cases hq'⟩
      · rw [s28_12]
        simp +decide only [s28_0, s28_1, s28_2, s28_5, s28_6, s28_7, s28_10, s28_11, s28_13, s28_16, s28_19, s28_20, s28_20N, s28_21, s28_21N, s28_22, s28_22N1, s28_22N0, s28_22N0N1, s28_25, s28_26, s28_29, s28_30, s28_33, s28_34, s28_37, s28_37N, s28_38, s28_41, s28_44, s28_45, s28_46, s28_47, s28_47N, s28_48, s28_50, s28_50N0, s28_53, s28_54, s28_57, s28_58, s28_61, s28_62, s28_63, s28_66, s28_69, s28_70, k1, hR, hr, h31, nm, ↓reduceIte, kl_i, kl_r, kl_n, kl_a, kl_l, up_s, up_up, is_0, is_s, gv_0, gv_s, pv_o, rc_o, okI_i, okI_x, okS_i, okB_x, gi_i, pi_i, okL_l, gl_l, pl_l, okA_2, okA_3, ga_a, arr_0, arr_1, arr_10, arr_11, len_a, sw_0, sw_i, sw_r, sw_l, fit_i, fit_z0, fit_z1, nz_0, nz_1, ni_K_s, ni_K_n, Nat.ble_eq, Nat.zero_le, Nat.zero_add, true_and, and_true, and_self, Bool.and_true, Bool.true_and, Bool.and_self, not_true_eq_false, not_false_eq_true, Int32.reduceLE, Int32.reduceLT, Int32.reduceAdd, Int32.reduceSub, Int32.reduceToNatClampNeg, Nat.reduceLeDiff, Nat.reduceAdd, Nat.reduceEqDiff, Nat.reduceSub, List.set_cons_zero, List.set_cons_succ, false_and, and_false]
      · cases hq'
        exact ⟨by omega, ⟨u, ht, fun _ _ => rfl⟩, a, b, h31⟩
    | inr v =>
      obtain ⟨w, a, b, e⟩ := v
      obtain ⟨h', hr, hf, ht, nu', h31⟩ := it.2 w a b e hi
      obtain ⟨b1, b2, b3⟩ := item_r hi
      obtain ⟨n', hn', n4'⟩ := ai_n (w := w) (a := a) (b := b) hn n4 (by rcases b3 with q | q | q | q | q <;> omega)
      have hs' := (hf sp (by omega) (by omega)).trans hs
      have he' := (hf (sp + 1) (by omega) (by omega)).trans he
      simp only
      by_cases q1 : le ≤ e
      · have q1' : ¬ nI e < nI le := nI_nlt q1 (by omega)
        rw [if_pos q1]
        refine ⟨h', nI k, fun d Q => ?_, hf, fun q' hq' => (by cases hq'), fun k' u' hq' => ?_⟩
        · rw [s28_12]
          simp +decide only [s28_0, s28_1, s28_2, s28_5, s28_6, s28_7, s28_10, s28_11, s28_13, s28_16, s28_19, s28_20, s28_20N, s28_21, s28_21N, s28_22, s28_22N1, s28_22N0, s28_22N0N1, s28_25, s28_26, s28_29, s28_30, s28_33, s28_34, s28_37, s28_37N, s28_38, s28_41, s28_44, s28_45, s28_46, s28_47, s28_47N, s28_48, s28_50, s28_50N0, s28_53, s28_54, s28_57, s28_58, s28_61, s28_62, s28_63, s28_66, s28_69, s28_70, k1, hR, hr, h31, hs', q1', ↓reduceIte, kl_i, kl_r, kl_n, kl_a, kl_l, up_s, up_up, is_0, is_s, gv_0, gv_s, pv_o, rc_o, okI_i, okI_x, okS_i, okB_x, gi_i, pi_i, okL_l, gl_l, pl_l, okA_2, okA_3, ga_a, arr_0, arr_1, arr_10, arr_11, len_a, sw_0, sw_i, sw_r, sw_l, fit_i, fit_z0, fit_z1, nz_0, nz_1, ni_K_s, ni_K_n, Nat.ble_eq, Nat.zero_le, Nat.zero_add, true_and, and_true, and_self, Bool.and_true, Bool.true_and, Bool.and_self, not_true_eq_false, not_false_eq_true, Int32.reduceLE, Int32.reduceLT, Int32.reduceAdd, Int32.reduceSub, Int32.reduceToNatClampNeg, Nat.reduceLeDiff, Nat.reduceAdd, Nat.reduceEqDiff, Nat.reduceSub, List.set_cons_zero, List.set_cons_succ, false_and, and_false]
        · cases hq'
          exact ⟨rfl, ht, _, _, h31⟩
      · have q1' : nI e < nI le := nI_lt (by omega) (by omega)
        have tk := fun (d : Nat) (Q : ni_Q) => X_take (d := d) (z := z) (Q := Q) (x := 59) hle h31 hs' he'
        simp only [if_true] at tk
        rw [if_neg q1]
        have etx : tx e = fs_int f (nI le) (nI e) := by rw [htx]
        by_cases q2 : tx e = 59
        · rw [etx] at q2
          rw [etx, if_pos q2]
          simp only [q2, if_true] at tk
          have g1 : fs_fI h (ni_up h' 31 (ni_O 3 [.int (-1), .int (nI (e + 1)), .int nu'])) := fun i h1 h2 => by rw [up_n h1]; exact hf i h1 h2
          obtain ⟨h2, r, c1, c2, c3, c4⟩ := ih (e + 1) (k + 1) n' (fs_ai w a b u) nu' (ni_up h' 31 (ni_O 3 [.int (-1), .int (nI (e + 1)), .int nu'])) (by omega) (by omega) (by omega) (by omega) (fun w hw => by rw [g1 _ (by omega) (by omega)]; exact hO w hw) (fun w hw => by rw [g1 _ (by omega) (by omega)]; exact hB w hw) up_s (by rw [up_n (by omega)]; exact hs') (by rw [up_n (by omega)]; exact he') (by rw [fs_tab_n (by decide)]; exact ht) hn' n4'
          refine ⟨h2, r, fun d Q => ?_, fun i h1 h3 => by rw [c2 i h1 h3, g1 i h1 h3], fun q hq => ?_, c4⟩
          rotate_left
          · obtain ⟨x1, ⟨u', x2, x3⟩, x4⟩ := c3 q hq
            exact ⟨x1, ⟨u', x2, fun j hj => by rw [x3 j hj, ai_5 b3 j hj]⟩, x4⟩
          have c1' := c1 d Q
          rw [s28_12]
          simp +decide only [s28_0, s28_1, s28_2, s28_5, s28_6, s28_7, s28_10, s28_11, s28_13, s28_16, s28_19, s28_20, s28_20N, s28_21, s28_21N, s28_22, s28_22N1, s28_22N0, s28_22N0N1, s28_25, s28_26, s28_29, s28_30, s28_33, s28_34, s28_37, s28_37N, s28_38, s28_41, s28_44, s28_45, s28_46, s28_47, s28_47N, s28_48, s28_50, s28_50N0, s28_53, s28_54, s28_57, s28_58, s28_61, s28_62, s28_63, s28_66, s28_69, s28_70, k1, hR, hr, h31, hs', q1', tk, nI_1, c1', up_n, ↓reduceIte, kl_i, kl_r, kl_n, kl_a, kl_l, up_s, up_up, is_0, is_s, gv_0, gv_s, pv_o, rc_o, okI_i, okI_x, okS_i, okB_x, gi_i, pi_i, okL_l, gl_l, pl_l, okA_2, okA_3, ga_a, arr_0, arr_1, arr_10, arr_11, len_a, sw_0, sw_i, sw_r, sw_l, fit_i, fit_z0, fit_z1, nz_0, nz_1, ni_K_s, ni_K_n, Nat.ble_eq, Nat.zero_le, Nat.zero_add, true_and, and_true, and_self, Bool.and_true, Bool.true_and, Bool.and_self, not_true_eq_false, not_false_eq_true, Int32.reduceLE, Int32.reduceLT, Int32.reduceAdd, Int32.reduceSub, Int32.reduceToNatClampNeg, Nat.reduceLeDiff, Nat.reduceAdd, Nat.reduceEqDiff, Nat.reduceSub, List.set_cons_zero, List.set_cons_succ, false_and, and_false]
        · rw [if_neg q2]
          rw [etx] at q2
          simp only [q2, if_false] at tk
          have nm : ¬ nI e = -1 := nI_m1 (by omega)
          refine ⟨ni_up h' 31 (ni_O 3 [.int (nI e), .int (nI e), .int nu']), nI k, fun d Q => ?_, fun i h1 h2 => by rw [up_n h1]; exact hf i h1 h2, fun q' hq' => ?_, fun k' u' hq' => by cases hq'⟩
          · rw [s28_12]
            simp +decide only [s28_0, s28_1, s28_2, s28_5, s28_6, s28_7, s28_10, s28_11, s28_13, s28_16, s28_19, s28_20, s28_20N, s28_21, s28_21N, s28_22, s28_22N1, s28_22N0, s28_22N0N1, s28_25, s28_26, s28_29, s28_30, s28_33, s28_34, s28_37, s28_37N, s28_38, s28_41, s28_44, s28_45, s28_46, s28_47, s28_47N, s28_48, s28_50, s28_50N0, s28_53, s28_54, s28_57, s28_58, s28_61, s28_62, s28_63, s28_66, s28_69, s28_70, k1, hR, hr, h31, hs', q1', tk, nm, up_n, ↓reduceIte, kl_i, kl_r, kl_n, kl_a, kl_l, up_s, up_up, is_0, is_s, gv_0, gv_s, pv_o, rc_o, okI_i, okI_x, okS_i, okB_x, gi_i, pi_i, okL_l, gl_l, pl_l, okA_2, okA_3, ga_a, arr_0, arr_1, arr_10, arr_11, len_a, sw_0, sw_i, sw_r, sw_l, fit_i, fit_z0, fit_z1, nz_0, nz_1, ni_K_s, ni_K_n, Nat.ble_eq, Nat.zero_le, Nat.zero_add, true_and, and_true, and_self, Bool.and_true, Bool.true_and, Bool.and_self, not_true_eq_false, not_false_eq_true, Int32.reduceLE, Int32.reduceLT, Int32.reduceAdd, Int32.reduceSub, Int32.reduceToNatClampNeg, Nat.reduceLeDiff, Nat.reduceAdd, Nat.reduceEqDiff, Nat.reduceSub, List.set_cons_zero, List.set_cons_succ, false_and, and_false]
          · cases hq'
            exact ⟨by omega, ⟨_, by rw [fs_tab_n (by decide)]; exact ht, ai_5 b3⟩, _, _, up_s⟩
theorem X_read {tx : Nat → Int32} {h : ni_H} {u : Nat → Nat → Int32} {f0 a0 : Int32} (htx : tx = fun i => fs_int f (nI le) (nI i)) (sp : Nat) (s33 : 33 ≤ sp) (s48 : sp < 900) (hle : le ≤ 160) (hO : ∀ w, w < 5 → h (1010 + w) = ni_O 100 [.ref (1020 + w), .int 0]) (hB : ∀ w, w < 5 → h (1020 + w) = .inl (11, fs_wl w, .inl (fs_wb w))) (hR : h 31 = ni_O 3 [.int f0, .int a0, .int nu]) (hs : h sp = ni_O 4 [.ref (sp + 1), .int wh, .int hd, .int so, .int (nI le)]) (he : h (sp + 1) = ni_L 160 f) (H : fs_tab 16 u h) (hn : u 6 0 = nI n) (n4 : n ≤ 4) : ∃ (h' : ni_H) (r : Int32), (∀ (d : Nat) (Q : ni_Q), ni_T (d + 7) 28 0 [.ref 31, .ref sp, .ref 16, .retAddr 0] [] z h Q = Q (some (.int r)) z h') ∧ fs_fI h h' ∧ (∀ q, fs_gm tx le 160 0 1 u = .inl q → q ≤ 200 ∧ (∃ u', fs_tab 16 u' h' ∧ ∀ j, 5 ≤ j → u' 0 j = u 0 j) ∧ ∃ a b : Int32, h' 31 = ni_O 3 [.int (nI q), .int a, .int b]) ∧ (∀ k' u', fs_gm tx le 160 0 1 u = .inr (k', u') → r = nI k' ∧ fs_tab 16 u' h' ∧ ∃ a b : Int32, h' 31 = ni_O 3 [.int (-1), .int a, .int b]) := by
  obtain ⟨h2, r, c1, c2, c3, c4⟩ := L_read (z := z) (wh := wh) (hd := hd) (so := so) htx sp s33 s48 hle 160 0 1 n u nu (ni_up h 31 (ni_O 3 [.int (-1), .int 0, .int nu])) (by decide) (by decide) (by decide) (by decide) (fun w hw => by rw [up_n (by omega)]; exact hO w hw) (fun w hw => by rw [up_n (by omega)]; exact hB w hw) up_s (by rw [up_n (by omega)]; exact hs) (by rw [up_n (by omega)]; exact he) (by rw [fs_tab_n (by decide)]; exact H) hn n4
  refine ⟨h2, r, fun d Q => ?_, fun i h1 h3 => by rw [c2 i h1 h3, up_n h1], c3, c4⟩
  have c1' := c1 d Q
  rw [show nI 1 = 1 from rfl] at c1'
  simp +decide only [s28_0, s28_1, s28_2, s28_5, s28_6, s28_7, s28_10, s28_11, s28_13, s28_16, s28_19, s28_20, s28_20N, s28_21, s28_21N, s28_22, s28_22N1, s28_22N0, s28_22N0N1, s28_25, s28_26, s28_29, s28_30, s28_33, s28_34, s28_37, s28_37N, s28_38, s28_41, s28_44, s28_45, s28_46, s28_47, s28_47N, s28_48, s28_50, s28_50N0, s28_53, s28_54, s28_57, s28_58, s28_61, s28_62, s28_63, s28_66, s28_69, s28_70, hR, c1', up_up, ↓reduceIte, kl_i, kl_r, kl_n, kl_a, kl_l, up_s, up_up, is_0, is_s, gv_0, gv_s, pv_o, rc_o, okI_i, okI_x, okS_i, okB_x, gi_i, pi_i, okL_l, gl_l, pl_l, okA_2, okA_3, ga_a, arr_0, arr_1, arr_10, arr_11, len_a, sw_0, sw_i, sw_r, sw_l, fit_i, fit_z0, fit_z1, nz_0, nz_1, ni_K_s, ni_K_n, Nat.ble_eq, Nat.zero_le, Nat.zero_add, true_and, and_true, and_self, Bool.and_true, Bool.true_and, Bool.and_self, not_true_eq_false, not_false_eq_true, Int32.reduceLE, Int32.reduceLT, Int32.reduceAdd, Int32.reduceSub, Int32.reduceToNatClampNeg, Nat.reduceLeDiff, Nat.reduceAdd, Nat.reduceEqDiff, Nat.reduceSub, List.set_cons_zero, List.set_cons_succ, false_and, and_false]
end
