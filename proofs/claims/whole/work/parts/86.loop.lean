set_option maxRecDepth 100000
set_option maxHeartbeats 400000
/-! ===== the law's loop ===== -/
section
variable {J i N : Nat} {z : ni_Z} {f : Nat → Int32} {h : ni_H}
theorem six_lt (hN : N ≤ 3072) (hi : i ≤ 4000) : (Int32.ofNat N - 6 < nI i) ↔ N < i + 6 := by
  have a : (Int32.ofNat N - 6).toInt = (N : Int) - 6 := by
    have e : (nI N).toInt = (N : Int) := nI_toInt (by omega)
    have e' : (Int32.ofNat N).toInt = (N : Int) := e
    rw [Int32.toInt_sub, e', show (6 : Int32).toInt = 6 from rfl]
    simp only [Int.bmod]
    omega
  have b : (nI i).toInt = (i : Int) := nI_toInt (by omega)
  rw [Int32.lt_iff_toInt_lt, a, b]
  omega
theorem L_out (hs : h 1000 = .inl (10, N, .inl f)) (hN : N ≤ 3072) (hi : i ≤ 4000) (hq : N < i + 6) (d : Nat) (Q : ni_Q) : ni_T (d + 41) 199 18 [.ref 1000, .ref 0, .ref 49, .int (nI i)] [] z h Q = Q (some (.int 1)) z h := by
  have c : Int32.ofNat N - 6 < nI i := (six_lt hN hi).mpr hq
  simp +decide only [s199_18, s199_19, s199_20, s199_21, s199_23, s199_24, s199_1382, s199_1383, hs, c, ↓reduceIte, kl_i, kl_r, kl_n, kl_a, kl_l, up_s, up_up, is_0, is_s, gv_0, gv_s, pv_o, rc_o, okI_i, okI_x, okS_i, okB_x, gi_i, pi_i, okL_l, gl_l, pl_l, okA_2, okA_3, ga_a, arr_0, arr_1, arr_10, arr_11, len_a, sw_0, sw_i, sw_r, sw_l, fit_i, fit_z0, fit_z1, nz_0, nz_1, ni_K_s, ni_K_n, Nat.ble_eq, Nat.zero_le, Nat.zero_add, true_and, and_true, and_self, Bool.and_true, Bool.true_and, Bool.and_self, not_true_eq_false, not_false_eq_true, Int32.reduceLE, Int32.reduceLT, Int32.reduceAdd, Int32.reduceSub, Int32.reduceToNatClampNeg, Nat.reduceLeDiff, Nat.reduceAdd, Nat.reduceEqDiff, Nat.reduceSub, List.set_cons_zero, List.set_cons_succ, false_and, and_false]
theorem L_in (hs : h 1000 = .inl (10, N, .inl f)) (hN : N ≤ 3072) (hi : i ≤ 4000) (hq : ¬ N < i + 6) (d : Nat) (Q : ni_Q) : ni_T (d + 41) 199 18 [.ref 1000, .ref 0, .ref 49, .int (nI i)] [] z h Q = ni_T (d + 41) 199 33 [.ref 1000, .ref 0, .ref 49, .int (nI i)] [.int (f i &&& 63)] z h Q := by
  have c : ¬ Int32.ofNat N - 6 < nI i := fun e => hq ((six_lt hN hi).mp e)
  have b : ni_in (nI i) N = true := in_n (by omega) (by omega)
  have e : (nI i).toNatClampNeg = i := nI_clamp (by omega)
  simp +decide only [s199_18, s199_19, s199_20, s199_21, s199_23, s199_24, s199_27, s199_28, s199_29, s199_30, s199_32, hs, c, b, e, ↓reduceIte, kl_i, kl_r, kl_n, kl_a, kl_l, up_s, up_up, is_0, is_s, gv_0, gv_s, pv_o, rc_o, okI_i, okI_x, okS_i, okB_x, gi_i, pi_i, okL_l, gl_l, pl_l, okA_2, okA_3, ga_a, arr_0, arr_1, arr_10, arr_11, len_a, sw_0, sw_i, sw_r, sw_l, fit_i, fit_z0, fit_z1, nz_0, nz_1, ni_K_s, ni_K_n, Nat.ble_eq, Nat.zero_le, Nat.zero_add, true_and, and_true, and_self, Bool.and_true, Bool.true_and, Bool.and_self, not_true_eq_false, not_false_eq_true, Int32.reduceLE, Int32.reduceLT, Int32.reduceAdd, Int32.reduceSub, Int32.reduceToNatClampNeg, Nat.reduceLeDiff, Nat.reduceAdd, Nat.reduceEqDiff, Nat.reduceSub, List.set_cons_zero, List.set_cons_succ, false_and, and_false]
theorem L_end (d : Nat) (Q : ni_Q) : ni_T (d + 41) 199 1376 [.ref 1000, .ref 0, .ref 49, .int (nI i)] [] z h Q = ni_T (d + 41) 199 18 [.ref 1000, .ref 0, .ref 49, .int (nI (i + 6))] [] z h Q := by
  have a : nI i + 6 = nI (i + 6) := nI_add i 6
  simp only [s199_1376, s199_1379, a, kl_r]
theorem L_sw (hI : fs_Inv J h) (hJ : J ≤ 900000) (hz : 50 ≤ z.1) (hs : h 1000 = .inl (10, N, .inl f)) (hi : i + 5 < N) (hN : N ≤ 3072) : ∀ k, k < 38 → ∃ h2 : ni_H, fs_Inv (J + 100) h2 ∧ (∀ i, 1000 ≤ i → h2 i = h i) ∧ ∀ (d : Nat) (Q : ni_Q), ni_T (d + 41) 199 33 [.ref 1000, .ref 0, .ref 49, .int (nI i)] [.int (nI k)] z h Q = ni_T (d + 41) 199 1376 [.ref 1000, .ref 0, .ref 49, .int (nI i)] [] z h2 Q := by
  intro k hk
  match k, hk with
  | 0, _ =>
    obtain ⟨h2, a, b, c⟩ := L_0 hI hJ hz hs hi hN
    exact ⟨h2, a, b, fun d Q => by rw [show nI 0 = (0 : Int32) from rfl, s199_33_0]; exact c d Q⟩
  | 1, _ =>
    obtain ⟨h2, a, b, c⟩ := L_1 hI hJ hz hs hi hN
    exact ⟨h2, a, b, fun d Q => by rw [show nI 1 = (1 : Int32) from rfl, s199_33_1]; exact c d Q⟩
  | 2, _ =>
    obtain ⟨h2, a, b, c⟩ := L_2 hI hJ hz hs hi hN
    exact ⟨h2, a, b, fun d Q => by rw [show nI 2 = (2 : Int32) from rfl, s199_33_2]; exact c d Q⟩
  | 3, _ =>
    obtain ⟨h2, a, b, c⟩ := L_3 hI hJ hz hs hi hN
    exact ⟨h2, a, b, fun d Q => by rw [show nI 3 = (3 : Int32) from rfl, s199_33_3]; exact c d Q⟩
  | 4, _ =>
    obtain ⟨h2, a, b, c⟩ := L_4 hI hJ hz hs hi hN
    exact ⟨h2, a, b, fun d Q => by rw [show nI 4 = (4 : Int32) from rfl, s199_33_4]; exact c d Q⟩
  | 5, _ =>
    obtain ⟨h2, a, b, c⟩ := L_5 hI hJ hz hs hi hN
    exact ⟨h2, a, b, fun d Q => by rw [show nI 5 = (5 : Int32) from rfl, s199_33_5]; exact c d Q⟩
  | 6, _ =>
    obtain ⟨h2, a, b, c⟩ := L_6 hI hJ hz hs hi hN
    exact ⟨h2, a, b, fun d Q => by rw [show nI 6 = (6 : Int32) from rfl, s199_33_6]; exact c d Q⟩
  | 7, _ =>
    obtain ⟨h2, a, b, c⟩ := L_7 hI hJ hz hs hi hN
    exact ⟨h2, a, b, fun d Q => by rw [show nI 7 = (7 : Int32) from rfl, s199_33_7]; exact c d Q⟩
  | 8, _ =>
    obtain ⟨h2, a, b, c⟩ := L_8 hI hJ hz hs hi hN
    exact ⟨h2, a, b, fun d Q => by rw [show nI 8 = (8 : Int32) from rfl, s199_33_8]; exact c d Q⟩
  | 9, _ =>
    obtain ⟨h2, a, b, c⟩ := L_9 hI hJ hz hs hi hN
    exact ⟨h2, a, b, fun d Q => by rw [show nI 9 = (9 : Int32) from rfl, s199_33_9]; exact c d Q⟩
  | 10, _ =>
    obtain ⟨h2, a, b, c⟩ := L_10 hI hJ hz hs hi hN
    exact ⟨h2, a, b, fun d Q => by rw [show nI 10 = (10 : Int32) from rfl, s199_33_10]; exact c d Q⟩
  | 11, _ =>
    obtain ⟨h2, a, b, c⟩ := L_11 hI hJ hz hs hi hN
    exact ⟨h2, a, b, fun d Q => by rw [show nI 11 = (11 : Int32) from rfl, s199_33_11]; exact c d Q⟩
  | 12, _ =>
    obtain ⟨h2, a, b, c⟩ := L_12 hI hJ hz hs hi hN
    exact ⟨h2, a, b, fun d Q => by rw [show nI 12 = (12 : Int32) from rfl, s199_33_12]; exact c d Q⟩
  | 13, _ =>
    obtain ⟨h2, a, b, c⟩ := L_13 hI hJ hz hs hi hN
    exact ⟨h2, a, b, fun d Q => by rw [show nI 13 = (13 : Int32) from rfl, s199_33_13]; exact c d Q⟩
  | 14, _ =>
    obtain ⟨h2, a, b, c⟩ := L_14 hI hJ hz hs hi hN
    exact ⟨h2, a, b, fun d Q => by rw [show nI 14 = (14 : Int32) from rfl, s199_33_14]; exact c d Q⟩
  | 15, _ =>
    obtain ⟨h2, a, b, c⟩ := L_15 hI hJ hz hs hi hN
    exact ⟨h2, a, b, fun d Q => by rw [show nI 15 = (15 : Int32) from rfl, s199_33_15]; exact c d Q⟩
  | 16, _ =>
    obtain ⟨h2, a, b, c⟩ := L_16 hI hJ hz hs hi hN
    exact ⟨h2, a, b, fun d Q => by rw [show nI 16 = (16 : Int32) from rfl, s199_33_16]; exact c d Q⟩
  | 17, _ =>
    obtain ⟨h2, a, b, c⟩ := L_17 hI hJ hz hs hi hN
    exact ⟨h2, a, b, fun d Q => by rw [show nI 17 = (17 : Int32) from rfl, s199_33_17]; exact c d Q⟩
  | 18, _ =>
    obtain ⟨h2, a, b, c⟩ := L_18 hI hJ hz hs hi hN
    exact ⟨h2, a, b, fun d Q => by rw [show nI 18 = (18 : Int32) from rfl, s199_33_18]; exact c d Q⟩
  | 19, _ =>
    obtain ⟨h2, a, b, c⟩ := L_19 hI hJ hz hs hi hN
    exact ⟨h2, a, b, fun d Q => by rw [show nI 19 = (19 : Int32) from rfl, s199_33_19]; exact c d Q⟩
  | 20, _ =>
    obtain ⟨h2, a, b, c⟩ := L_20 hI hJ hz hs hi hN
    exact ⟨h2, a, b, fun d Q => by rw [show nI 20 = (20 : Int32) from rfl, s199_33_20]; exact c d Q⟩
  | 21, _ =>
    obtain ⟨h2, a, b, c⟩ := L_21 hI hJ hz hs hi hN
    exact ⟨h2, a, b, fun d Q => by rw [show nI 21 = (21 : Int32) from rfl, s199_33_21]; exact c d Q⟩
  | 22, _ =>
    obtain ⟨h2, a, b, c⟩ := L_22 hI hJ hz hs hi hN
    exact ⟨h2, a, b, fun d Q => by rw [show nI 22 = (22 : Int32) from rfl, s199_33_22]; exact c d Q⟩
  | 23, _ =>
    obtain ⟨h2, a, b, c⟩ := L_23 hI hJ hz hs hi hN
    exact ⟨h2, a, b, fun d Q => by rw [show nI 23 = (23 : Int32) from rfl, s199_33_23]; exact c d Q⟩
  | 24, _ =>
    obtain ⟨h2, a, b, c⟩ := L_24 hI hJ hz hs hi hN
    exact ⟨h2, a, b, fun d Q => by rw [show nI 24 = (24 : Int32) from rfl, s199_33_24]; exact c d Q⟩
  | 25, _ =>
    obtain ⟨h2, a, b, c⟩ := L_25 hI hJ hz hs hi hN
    exact ⟨h2, a, b, fun d Q => by rw [show nI 25 = (25 : Int32) from rfl, s199_33_25]; exact c d Q⟩
  | 26, _ =>
    obtain ⟨h2, a, b, c⟩ := L_26 hI hJ hz hs hi hN
    exact ⟨h2, a, b, fun d Q => by rw [show nI 26 = (26 : Int32) from rfl, s199_33_26]; exact c d Q⟩
  | 27, _ =>
    obtain ⟨h2, a, b, c⟩ := L_27 hI hJ hz hs hi hN
    exact ⟨h2, a, b, fun d Q => by rw [show nI 27 = (27 : Int32) from rfl, s199_33_27]; exact c d Q⟩
  | 28, _ =>
    obtain ⟨h2, a, b, c⟩ := L_28 hI hJ hz hs hi hN
    exact ⟨h2, a, b, fun d Q => by rw [show nI 28 = (28 : Int32) from rfl, s199_33_28]; exact c d Q⟩
  | 29, _ =>
    obtain ⟨h2, a, b, c⟩ := L_29 hI hJ hz hs hi hN
    exact ⟨h2, a, b, fun d Q => by rw [show nI 29 = (29 : Int32) from rfl, s199_33_29]; exact c d Q⟩
  | 30, _ =>
    obtain ⟨h2, a, b, c⟩ := L_30 hI hJ hz hs hi hN
    exact ⟨h2, a, b, fun d Q => by rw [show nI 30 = (30 : Int32) from rfl, s199_33_30]; exact c d Q⟩
  | 31, _ =>
    obtain ⟨h2, a, b, c⟩ := L_31 hI hJ hz hs hi hN
    exact ⟨h2, a, b, fun d Q => by rw [show nI 31 = (31 : Int32) from rfl, s199_33_31]; exact c d Q⟩
  | 32, _ =>
    obtain ⟨h2, a, b, c⟩ := L_32 hI hJ hz hs hi hN
    exact ⟨h2, a, b, fun d Q => by rw [show nI 32 = (32 : Int32) from rfl, s199_33_32]; exact c d Q⟩
  | 33, _ =>
    obtain ⟨h2, a, b, c⟩ := L_33 hI hJ hz hs hi hN
    exact ⟨h2, a, b, fun d Q => by rw [show nI 33 = (33 : Int32) from rfl, s199_33_33]; exact c d Q⟩
  | 34, _ =>
    obtain ⟨h2, a, b, c⟩ := L_34 hI hJ hz hs hi hN
    exact ⟨h2, a, b, fun d Q => by rw [show nI 34 = (34 : Int32) from rfl, s199_33_34]; exact c d Q⟩
  | 35, _ =>
    obtain ⟨h2, a, b, c⟩ := L_35 hI hJ hz hs hi hN
    exact ⟨h2, a, b, fun d Q => by rw [show nI 35 = (35 : Int32) from rfl, s199_33_35]; exact c d Q⟩
  | 36, _ =>
    obtain ⟨h2, a, b, c⟩ := L_36 hI hJ hz hs hi hN
    exact ⟨h2, a, b, fun d Q => by rw [show nI 36 = (36 : Int32) from rfl, s199_33_36]; exact c d Q⟩
  | 37, _ =>
    obtain ⟨h2, a, b, c⟩ := L_37 hI hJ hz hs hi hN
    exact ⟨h2, a, b, fun d Q => by rw [show nI 37 = (37 : Int32) from rfl, s199_33_37]; exact c d Q⟩
  | k + 38, h => omega
theorem L_loop (hN : N ≤ 3072) (hz : 50 ≤ z.1) : ∀ (k i J : Nat) (h : ni_H), fs_Inv J h → J + 100 * k ≤ 900000 → h 1000 = .inl (10, N, .inl f) → i + 6 * k ≤ 4000 → N < i + 6 * k + 6 → ∃ h' : ni_H, ∀ (d : Nat) (Q : ni_Q), ni_T (d + 41) 199 18 [.ref 1000, .ref 0, .ref 49, .int (nI i)] [] z h Q = Q (some (.int 1)) z h' := by
  intro k
  induction k with
  | zero =>
    intro i J h hI hJ hs hi hq
    exact ⟨h, fun d Q => L_out hs hN (by omega) (by omega) d Q⟩
  | succ k ih =>
    intro i J h hI hJ hs hi hq
    by_cases c : N < i + 6
    · exact ⟨h, fun d Q => L_out hs hN (by omega) c d Q⟩
    have hcase : ∃ h2 : ni_H, fs_Inv (J + 100) h2 ∧ (∀ i, 1000 ≤ i → h2 i = h i) ∧ ∀ (d : Nat) (Q : ni_Q), ni_T (d + 41) 199 33 [.ref 1000, .ref 0, .ref 49, .int (nI i)] [.int (f i &&& 63)] z h Q = ni_T (d + 41) 199 1376 [.ref 1000, .ref 0, .ref 49, .int (nI i)] [] z h2 Q := by
      have dead : (f i &&& 63 < 0 ∨ nI 38 ≤ f i &&& 63) → ∃ h2 : ni_H, fs_Inv (J + 100) h2 ∧ (∀ i, 1000 ≤ i → h2 i = h i) ∧ ∀ (d : Nat) (Q : ni_Q), ni_T (d + 41) 199 33 [.ref 1000, .ref 0, .ref 49, .int (nI i)] [.int (f i &&& 63)] z h Q = ni_T (d + 41) 199 1376 [.ref 1000, .ref 0, .ref 49, .int (nI i)] [] z h2 Q := by
        intro q
        have q2 := ix_d (K := 38) (by decide) q
        obtain ⟨hE, n, w, im, lf, u, v, mu, ran, tr, rf, hl, hd, so, szf, sh, kp, g, sz, ee, ce, X, M, P⟩ := hI
        refine ⟨h, ⟨hE, n, w, im, lf, u, v, mu, ran, tr, rf, hl, hd, so, szf, sh, kp, g, sz, ee, ce, X, M, IP_J P (by omega)⟩, fun _ _ => rfl, fun d Q => s199_33_d (by omega)⟩
      rcases pk_ix (f i &&& 63) (n := 38) (by decide) with q | q | ⟨j, hj, q⟩
      · exact dead (Or.inl q)
      · exact dead (Or.inr q)
      · rw [q]
        exact L_sw hI (by omega) hz hs (by omega) hN j hj
    obtain ⟨h2, I2, fr, e⟩ := hcase
    obtain ⟨h', e'⟩ := ih (i + 6) (J + 100) h2 I2 (by omega) ((fr 1000 (by omega)).trans hs) (by omega) (by omega)
    exact ⟨h', fun d Q => by rw [L_in hs hN (by omega) c, e, L_end, e']⟩
end
