set_option maxRecDepth 100000
set_option maxHeartbeats 4000000
/-! ===== items of the class's reader ===== -/
theorem wd_cases (tx : Nat → Int32) (p : Nat) : fs_wd tx p = (0, 4) ∨ fs_wd tx p = (1, 5) ∨ fs_wd tx p = (2, 2) ∨ fs_wd tx p = (3, 5) ∨ fs_wd tx p = (4, 4) ∨ ∃ k, k ≤ 5 ∧ fs_wd tx p = (5, k) := by
  have b0 := cw_le tx p 0 (by decide)
  have b1 := cw_le tx p 1 (by decide)
  have b2 := cw_le tx p 2 (by decide)
  have b3 := cw_le tx p 3 (by decide)
  have b4 := cw_le tx p 4 (by decide)
  unfold fs_wd
  repeat' split
  · simp
  · simp
  · simp
  · simp
  · simp
  · exact Or.inr (Or.inr (Or.inr (Or.inr (Or.inr ⟨_, by omega, rfl⟩))))
theorem ok_lt (K : Nat) (hK : K ≤ 99) : ∀ v, v ≤ 99 → ((¬ nI v < 0 ∧ nI v ≤ nI K) ↔ decide (v < K + 1) = true) := by
  intro v hv
  rw [ok_hi K hK v hv, decide_eq_true_iff, decide_eq_true_iff]
  omega
theorem ok_14 : ∀ v, v ≤ 99 → ((¬ nI v < 1 ∧ nI v ≤ 4) ↔ decide (1 ≤ v ∧ v ≤ 4) = true) := by
  have : ∀ v, v < 100 → ((¬ nI v < 1 ∧ nI v ≤ 4) ↔ decide (1 ≤ v ∧ v ≤ 4) = true) := by decide +kernel
  intro v hv
  exact this v (by omega)
theorem num_and {tx : Nat → Int32} {p : Nat} {o1 o2 : Nat → Bool} : fs_num tx p (fun v => o1 v && o2 v) = match fs_num tx p o1 with
    | .inl q => .inl q
    | .inr (v, e) => if o2 v = true then .inr (v, e) else .inl (p + 1) := by
  unfold fs_num
  by_cases h1 : tx p = 32
  · by_cases h2 : fs_dg (tx (p + 1)) = true
    · cases h3 : o1 (fs_nv tx (p + 1)).1
      · simp [h1, h2, h3]
      · cases h4 : o2 (fs_nv tx (p + 1)).1 <;> simp [h1, h2, h3, h4]
    · simp [h1, h2]
  · simp [h1]
/-- what an item does, wrong or not -/
def fs_PL (z : ni_Z) (sp : Nat) (h : ni_H) (u : Nat → Nat → Int32) (q : Nat) : Prop := ∃ h' : ni_H, (∀ (d : Nat) (Q : ni_Q), ni_T (d + 6) 29 0 [.ref 31, .ref sp, .ref 16, .retAddr 0, .retAddr 0] [] z h Q = Q none z h') ∧ fs_fI h h' ∧ fs_tab 16 u h' ∧ ∃ a b : Int32, h' 31 = ni_O 3 [.int (nI q), .int a, .int b]
def fs_PR (z : ni_Z) (sp : Nat) (h : ni_H) (u : Nat → Nat → Int32) (w a b e : Nat) : Prop := ∃ h' : ni_H, (∀ (d : Nat) (Q : ni_Q), ni_T (d + 6) 29 0 [.ref 31, .ref sp, .ref 16, .retAddr 0, .retAddr 0] [] z h Q = Q none z h') ∧ fs_fI h h' ∧ fs_tab 16 (fs_ai w a b u) h' ∧ ∃ nu : Int32, h' 31 = ni_O 3 [.int (-1), .int (nI e), .int nu]
section
variable {s le p n : Nat} {z : ni_Z} {h : ni_H} {wh hd so nu : Int32} {f : Nat → Int64} {u : Nat → Nat → Int32}
theorem pl_up {sp q : Nat} {a b : Int32} (H : fs_tab 16 u h) (hr : ∀ (d : Nat) (Q : ni_Q), ni_T (d + 6) 29 0 [.ref 31, .ref sp, .ref 16, .retAddr 0, .retAddr 0] [] z h Q = Q none z (ni_up h 31 (ni_O 3 [.int (nI q), .int a, .int b]))) : fs_PL z sp h u q :=
  ⟨_, hr, fun i h1 h2 => up_n h1, by rw [fs_tab_n (by decide)]; exact H, a, b, up_s⟩
theorem X_item5 {tx : Nat → Int32} {k : Nat} (htx : tx = fun i => fs_int f (nI le) (nI i)) (sp : Nat) (s31 : sp ≠ 31) (s30 : sp + 1 ≠ 31) (sf : sp < 16 ∨ 23 ≤ sp) (hp : p < 800) (hle : le ≤ 160) (hO : ∀ w, w < 5 → h (1010 + w) = ni_O 100 [.ref (1020 + w), .int 0]) (hB : ∀ w, w < 5 → h (1020 + w) = .inl (11, fs_wl w, .inl (fs_wb w))) (hR : h 31 = ni_O 3 [.int (-1), .int (nI p), .int nu]) (hs : h sp = ni_O 4 [.ref (sp + 1), .int wh, .int hd, .int so, .int (nI le)]) (he : h (sp + 1) = ni_L 160 f) (H : fs_tab 16 u h) (hn : u 6 0 = nI n) (n4 : n ≤ 4) (k5 : k ≤ 5) (hw : fs_wd tx p = (5, k)) : fs_PL z sp h u (p + k) := by
  have r := fun (d : Nat) (Q : ni_Q) => X_rw (d := d) (z := z) (Q := Q) hle hO hB hR hs he
  rw [← htx, hw] at r
  simp only [if_true] at r
  have nm : ¬ nI (p + k) = -1 := nI_m1 (by omega)
  refine pl_up (a := nI p) (b := nu) H (fun d Q => ?_)
  simp +decide only [s29_0, s29_1, s29_4, s29_5, s29_6, s29_6N, s29_7, s29_7N0, s29_10, s29_12, s29_14, s29_17, s29_17N, s29_18, s29_21, s29_24, s29_25, s29_26, s29_29, s29_30, s29_33, s29_34, s29_37, s29_38, s29_40_0, s29_40_1, s29_40_2, s29_40_3, s29_72, s29_73, s29_73N, s29_74, s29_74N, s29_75, s29_75N1, s29_75N0, s29_75N0N1, s29_78, s29_81, s29_82, s29_82N, s29_83, s29_83N, s29_84, s29_84N1, s29_84N0, s29_84N0N1, s29_87, s29_90, s29_91, s29_91N, s29_92, s29_92N, s29_93, s29_93N1, s29_93N0, s29_93N0N1, s29_96, s29_99, s29_100, s29_100N, s29_101, s29_101N, s29_102, s29_102N1, s29_102N0, s29_102N0N1, s29_105, s29_108, s29_109, s29_109N, s29_110, s29_110N, s29_111, s29_111N1, s29_111N0, s29_111N0N1, s29_114, hR, r, nm, ↓reduceIte, kl_i, kl_r, kl_n, kl_a, kl_l, up_s, up_up, is_0, is_s, gv_0, gv_s, pv_o, rc_o, okI_i, okI_x, okS_i, okB_x, gi_i, pi_i, okL_l, gl_l, pl_l, okA_2, okA_3, ga_a, arr_0, arr_1, arr_10, arr_11, len_a, sw_0, sw_i, sw_r, sw_l, fit_i, fit_z0, fit_z1, nz_0, nz_1, ni_K_s, ni_K_n, Nat.ble_eq, Nat.zero_le, Nat.zero_add, true_and, and_true, and_self, Bool.and_true, Bool.true_and, Bool.and_self, not_true_eq_false, not_false_eq_true, Int32.reduceLE, Int32.reduceLT, Int32.reduceAdd, Int32.reduceSub, Int32.reduceToNatClampNeg, Nat.reduceLeDiff, Nat.reduceAdd, Nat.reduceEqDiff, Nat.reduceSub, List.set_cons_zero, List.set_cons_succ, false_and, and_false]
theorem X_item0 {tx : Nat → Int32} (htx : tx = fun i => fs_int f (nI le) (nI i)) (sp : Nat) (s31 : sp ≠ 31) (s30 : sp + 1 ≠ 31) (sf : sp < 16 ∨ 23 ≤ sp) (hp : p < 800) (hle : le ≤ 160) (hO : ∀ w, w < 5 → h (1010 + w) = ni_O 100 [.ref (1020 + w), .int 0]) (hB : ∀ w, w < 5 → h (1020 + w) = .inl (11, fs_wl w, .inl (fs_wb w))) (hR : h 31 = ni_O 3 [.int (-1), .int (nI p), .int nu]) (hs : h sp = ni_O 4 [.ref (sp + 1), .int wh, .int hd, .int so, .int (nI le)]) (he : h (sp + 1) = ni_L 160 f) (H : fs_tab 16 u h) (hn : u 6 0 = nI n) (n4 : n ≤ 4) (hw : fs_wd tx p = (0, 4)) : (∀ q, fs_item tx p n (u 0) = .inl q → fs_PL z sp h u q) ∧ (∀ w a b e, fs_item tx p n (u 0) = .inr (w, a, b, e) → fs_PR z sp h u w a b e) := by
  have r := fun (d : Nat) (Q : ni_Q) => X_rw (d := d) (z := z) (Q := Q) hle hO hB hR hs he
  rw [← htx, hw] at r
  simp only [Nat.reduceEqDiff, if_false, show nI 0 = 0 from rfl] at r
  have hR1 : ni_up h 31 (ni_O 3 [.int (-1), .int (nI (p + 4)), .int nu]) 31 = ni_O 3 [.int (-1), .int (nI (p + 4)), .int nu] := up_s
  have hs1 : ni_up h 31 (ni_O 3 [.int (-1), .int (nI (p + 4)), .int nu]) sp = _ := (up_n s31).trans hs
  have he1 : ni_up h 31 (ni_O 3 [.int (-1), .int (nI (p + 4)), .int nu]) (sp + 1) = _ := (up_n s30).trans he
  have H1 : fs_tab 16 u (ni_up h 31 (ni_O 3 [.int (-1), .int (nI (p + 4)), .int nu])) := by rw [fs_tab_n (by decide)]; exact H
  have t0 := H.1
  have T1 : ni_up h 31 (ni_O 3 [.int (-1), .int (nI (p + 4)), .int nu]) 16 = _ := (up_n (by decide)).trans t0
  have ei : fs_item tx p n (u 0) = _ := rfl
  conv at ei => rhs; unfold fs_item
  rw [hw] at ei
  by_cases q4 : n = 4
  · have e4 : fs_item tx p n (u 0) = .inl p := by rw [ei]; simp [q4]
    rw [e4]
    refine ⟨fun q hq => ?_, fun w a b e hq => by cases hq⟩
    cases hq
    have room := fun (d : Nat) (Q : ni_Q) => X_hasRoom (t := 16) (d := d) (z := z) (Q := Q) T1
    have hd4 : decide (u 6 0 < 4) = false := by rw [hn, q4]; decide
    rw [hd4] at room
    have nm : ¬ nI p = -1 := nI_m1 (by omega)
    refine pl_up (q := p) (a := nI (p + 4)) (b := nu) H (fun d Q => ?_)
    simp +decide only [s29_0, s29_1, s29_4, s29_5, s29_6, s29_6N, s29_7, s29_7N0, s29_10, s29_12, s29_14, s29_17, s29_17N, s29_18, s29_21, s29_24, s29_25, s29_26, s29_29, s29_30, s29_33, s29_34, s29_37, s29_38, s29_40_0, s29_40_1, s29_40_2, s29_40_3, s29_72, s29_73, s29_73N, s29_74, s29_74N, s29_75, s29_75N1, s29_75N0, s29_75N0N1, s29_78, s29_81, s29_82, s29_82N, s29_83, s29_83N, s29_84, s29_84N1, s29_84N0, s29_84N0N1, s29_87, s29_90, s29_91, s29_91N, s29_92, s29_92N, s29_93, s29_93N1, s29_93N0, s29_93N0N1, s29_96, s29_99, s29_100, s29_100N, s29_101, s29_101N, s29_102, s29_102N1, s29_102N0, s29_102N0N1, s29_105, s29_108, s29_109, s29_109N, s29_110, s29_110N, s29_111, s29_111N1, s29_111N0, s29_111N0N1, s29_114, hR, T1, r, room, nm, fs_b, up_up, ↓reduceIte, kl_i, kl_r, kl_n, kl_a, kl_l, up_s, up_up, is_0, is_s, gv_0, gv_s, pv_o, rc_o, okI_i, okI_x, okS_i, okB_x, gi_i, pi_i, okL_l, gl_l, pl_l, okA_2, okA_3, ga_a, arr_0, arr_1, arr_10, arr_11, len_a, sw_0, sw_i, sw_r, sw_l, fit_i, fit_z0, fit_z1, nz_0, nz_1, ni_K_s, ni_K_n, Nat.ble_eq, Nat.zero_le, Nat.zero_add, true_and, and_true, and_self, Bool.and_true, Bool.true_and, Bool.and_self, not_true_eq_false, not_false_eq_true, Int32.reduceLE, Int32.reduceLT, Int32.reduceAdd, Int32.reduceSub, Int32.reduceToNatClampNeg, Nat.reduceLeDiff, Nat.reduceAdd, Nat.reduceEqDiff, Nat.reduceSub, List.set_cons_zero, List.set_cons_succ, false_and, and_false]
  have n3 : n < 4 := by omega
  have room := fun (d : Nat) (Q : ni_Q) => X_hasRoom (t := 16) (d := d) (z := z) (Q := Q) T1
  have hd4 : decide (u 6 0 < 4) = true := by rw [hn]; exact decide_eq_true (nI_lt (a := n) (b := 4) n3 (by decide))
  rw [hd4] at room
  simp only [q4, and_false, if_false, Nat.reduceEqDiff, false_or, or_false] at ei
  cases m1 : fs_num tx (p + 4) (fs_ok1 0 n) with
  | inl q1 =>
    have ei1 : fs_item tx p n (u 0) = .inl q1 := by rw [ei, m1]
    rw [ei1]
    refine ⟨fun q hq => ?_, fun w a b e hq => by cases hq⟩
    cases hq
    obtain ⟨⟨r1, e1, nu1, hr1⟩, hq1⟩ := num_l (lo := 0) (hi := 6) (nu := nu) (ok_hi 6 (by decide)) m1
    have nm : ¬ nI q1 = -1 := nI_m1 (by omega)
    have hr2 : fs_rn tx 0 (9) (nI q1) e1 nu1 = (-1, nI q1, e1, nu1) := rn_f nm
    have rd := X_rdHand (z := z) htx (show p + 4 < 900 by omega) hle hR1 hs1 he1 s31 s30 H1 hn n3 hr1 hr2
    simp only [nm, if_false, up_up] at rd
    refine pl_up (q := q1) (a := nI e1) (b := nu1) H (fun d Q => ?_)
    simp +decide only [s29_0, s29_1, s29_4, s29_5, s29_6, s29_6N, s29_7, s29_7N0, s29_10, s29_12, s29_14, s29_17, s29_17N, s29_18, s29_21, s29_24, s29_25, s29_26, s29_29, s29_30, s29_33, s29_34, s29_37, s29_38, s29_40_0, s29_40_1, s29_40_2, s29_40_3, s29_72, s29_73, s29_73N, s29_74, s29_74N, s29_75, s29_75N1, s29_75N0, s29_75N0N1, s29_78, s29_81, s29_82, s29_82N, s29_83, s29_83N, s29_84, s29_84N1, s29_84N0, s29_84N0N1, s29_87, s29_90, s29_91, s29_91N, s29_92, s29_92N, s29_93, s29_93N1, s29_93N0, s29_93N0N1, s29_96, s29_99, s29_100, s29_100N, s29_101, s29_101N, s29_102, s29_102N1, s29_102N0, s29_102N0N1, s29_105, s29_108, s29_109, s29_109N, s29_110, s29_110N, s29_111, s29_111N1, s29_111N0, s29_111N0N1, s29_114, hR, r, room, fs_b, T1, rd, up_up, ↓reduceIte, kl_i, kl_r, kl_n, kl_a, kl_l, up_s, up_up, is_0, is_s, gv_0, gv_s, pv_o, rc_o, okI_i, okI_x, okS_i, okB_x, gi_i, pi_i, okL_l, gl_l, pl_l, okA_2, okA_3, ga_a, arr_0, arr_1, arr_10, arr_11, len_a, sw_0, sw_i, sw_r, sw_l, fit_i, fit_z0, fit_z1, nz_0, nz_1, ni_K_s, ni_K_n, Nat.ble_eq, Nat.zero_le, Nat.zero_add, true_and, and_true, and_self, Bool.and_true, Bool.true_and, Bool.and_self, not_true_eq_false, not_false_eq_true, Int32.reduceLE, Int32.reduceLT, Int32.reduceAdd, Int32.reduceSub, Int32.reduceToNatClampNeg, Nat.reduceLeDiff, Nat.reduceAdd, Nat.reduceEqDiff, Nat.reduceSub, List.set_cons_zero, List.set_cons_succ, false_and, and_false]
  | inr v1 =>
    obtain ⟨a, e⟩ := v1
    obtain ⟨hr1, hok1, ha99, he1a, he1b⟩ := num_r (lo := 0) (hi := 6) (nu := nu) (ok_hi 6 (by decide)) m1
    cases m2 : fs_num tx e (fs_ok2 0 (u 0) a) with
    | inl q2 =>
      have ei1 : fs_item tx p n (u 0) = .inl q2 := by rw [ei, m1]; simp only; rw [m2]
      rw [ei1]
      refine ⟨fun q hq => ?_, fun w a b e hq => by cases hq⟩
      cases hq
      obtain ⟨⟨r2, e2, nu2, hr2⟩, hq2⟩ := num_l (lo := 0) (hi := 9) (nu := nI (p + 4 + 1)) (ok_hi 9 (by decide)) m2
      have nm : ¬ nI q2 = -1 := nI_m1 (by omega)
      have rd := X_rdHand (z := z) htx (show p + 4 < 900 by omega) hle hR1 hs1 he1 s31 s30 H1 hn n3 hr1 hr2 
      simp only [nm, if_false, up_up] at rd
      refine pl_up (q := q2) (a := nI e2) (b := nu2) H (fun d Q => ?_)
      simp +decide only [s29_0, s29_1, s29_4, s29_5, s29_6, s29_6N, s29_7, s29_7N0, s29_10, s29_12, s29_14, s29_17, s29_17N, s29_18, s29_21, s29_24, s29_25, s29_26, s29_29, s29_30, s29_33, s29_34, s29_37, s29_38, s29_40_0, s29_40_1, s29_40_2, s29_40_3, s29_72, s29_73, s29_73N, s29_74, s29_74N, s29_75, s29_75N1, s29_75N0, s29_75N0N1, s29_78, s29_81, s29_82, s29_82N, s29_83, s29_83N, s29_84, s29_84N1, s29_84N0, s29_84N0N1, s29_87, s29_90, s29_91, s29_91N, s29_92, s29_92N, s29_93, s29_93N1, s29_93N0, s29_93N0N1, s29_96, s29_99, s29_100, s29_100N, s29_101, s29_101N, s29_102, s29_102N1, s29_102N0, s29_102N0N1, s29_105, s29_108, s29_109, s29_109N, s29_110, s29_110N, s29_111, s29_111N1, s29_111N0, s29_111N0N1, s29_114, hR, r, room, fs_b, T1, rd, up_up, ↓reduceIte, kl_i, kl_r, kl_n, kl_a, kl_l, up_s, up_up, is_0, is_s, gv_0, gv_s, pv_o, rc_o, okI_i, okI_x, okS_i, okB_x, gi_i, pi_i, okL_l, gl_l, pl_l, okA_2, okA_3, ga_a, arr_0, arr_1, arr_10, arr_11, len_a, sw_0, sw_i, sw_r, sw_l, fit_i, fit_z0, fit_z1, nz_0, nz_1, ni_K_s, ni_K_n, Nat.ble_eq, Nat.zero_le, Nat.zero_add, true_and, and_true, and_self, Bool.and_true, Bool.true_and, Bool.and_self, not_true_eq_false, not_false_eq_true, Int32.reduceLE, Int32.reduceLT, Int32.reduceAdd, Int32.reduceSub, Int32.reduceToNatClampNeg, Nat.reduceLeDiff, Nat.reduceAdd, Nat.reduceEqDiff, Nat.reduceSub, List.set_cons_zero, List.set_cons_succ, false_and, and_false]
    | inr v2 =>
      obtain ⟨b, e2⟩ := v2
      obtain ⟨hr2, hok2, hb99, he2a, he2b⟩ := num_r (lo := 0) (hi := 9) (nu := nI (p + 4 + 1)) (ok_hi 9 (by decide)) m2
      have ei1 : fs_item tx p n (u 0) = .inr (0, a, b, e2) := by rw [ei, m1]; simp only; rw [m2]
      rw [ei1]
      refine ⟨fun q hq => (by cases hq), fun w a' b' e' hq => ?_⟩
      cases hq
      have rd := X_rdHand (z := z) htx (show p + 4 < 900 by omega) hle hR1 hs1 he1 s31 s30 H1 hn n3 hr1 hr2
      simp only [if_true, up_up] at rd
      refine ⟨ni_up (ni_up (ni_up h 31 (ni_O 3 [.int (-1), .int (nI e2), .int (nI (e + 1))])) (16 + 3 + n) (ni_O 1 [.int (nI n), .int (nI a), .int (nI b), .int 1, .int 0, .int 0])) 16 (ni_O 5 [.ref 17, .ref 18, .int (nI (n + 1)), .int (u 6 1), .int (u 6 2), .int (u 6 3)]), fun d Q => ?_, fun i h1 h2 => by rw [up_n (by omega), up_n (by omega), up_n h1], ?_, _, by rw [up_n (by decide), up_n (by omega)]; exact up_s⟩
      · simp +decide only [s29_0, s29_1, s29_4, s29_5, s29_6, s29_6N, s29_7, s29_7N0, s29_10, s29_12, s29_14, s29_17, s29_17N, s29_18, s29_21, s29_24, s29_25, s29_26, s29_29, s29_30, s29_33, s29_34, s29_37, s29_38, s29_40_0, s29_40_1, s29_40_2, s29_40_3, s29_72, s29_73, s29_73N, s29_74, s29_74N, s29_75, s29_75N1, s29_75N0, s29_75N0N1, s29_78, s29_81, s29_82, s29_82N, s29_83, s29_83N, s29_84, s29_84N1, s29_84N0, s29_84N0N1, s29_87, s29_90, s29_91, s29_91N, s29_92, s29_92N, s29_93, s29_93N1, s29_93N0, s29_93N0N1, s29_96, s29_99, s29_100, s29_100N, s29_101, s29_101N, s29_102, s29_102N1, s29_102N0, s29_102N0N1, s29_105, s29_108, s29_109, s29_109N, s29_110, s29_110N, s29_111, s29_111N1, s29_111N0, s29_111N0N1, s29_114, hR, r, room, fs_b, T1, rd, up_up, ↓reduceIte, kl_i, kl_r, kl_n, kl_a, kl_l, up_s, up_up, is_0, is_s, gv_0, gv_s, pv_o, rc_o, okI_i, okI_x, okS_i, okB_x, gi_i, pi_i, okL_l, gl_l, pl_l, okA_2, okA_3, ga_a, arr_0, arr_1, arr_10, arr_11, len_a, sw_0, sw_i, sw_r, sw_l, fit_i, fit_z0, fit_z1, nz_0, nz_1, ni_K_s, ni_K_n, Nat.ble_eq, Nat.zero_le, Nat.zero_add, true_and, and_true, and_self, Bool.and_true, Bool.true_and, Bool.and_self, not_true_eq_false, not_false_eq_true, Int32.reduceLE, Int32.reduceLT, Int32.reduceAdd, Int32.reduceSub, Int32.reduceToNatClampNeg, Nat.reduceLeDiff, Nat.reduceAdd, Nat.reduceEqDiff, Nat.reduceSub, List.set_cons_zero, List.set_cons_succ, false_and, and_false]
      · have := tab_a (t := 16) (x := nI a) (y := nI b) (show fs_tab 16 u (ni_up h 31 (ni_O 3 [.int (-1), .int (nI e2), .int (nI (e + 1))])) by rw [fs_tab_n (by decide)]; exact H) n3
        unfold fs_ai
        rw [if_pos rfl, hn, nI_clamp (by omega)]
        exact this
theorem X_item1 {tx : Nat → Int32} (htx : tx = fun i => fs_int f (nI le) (nI i)) (sp : Nat) (s31 : sp ≠ 31) (s30 : sp + 1 ≠ 31) (sf : sp < 16 ∨ 23 ≤ sp) (hp : p < 800) (hle : le ≤ 160) (hO : ∀ w, w < 5 → h (1010 + w) = ni_O 100 [.ref (1020 + w), .int 0]) (hB : ∀ w, w < 5 → h (1020 + w) = .inl (11, fs_wl w, .inl (fs_wb w))) (hR : h 31 = ni_O 3 [.int (-1), .int (nI p), .int nu]) (hs : h sp = ni_O 4 [.ref (sp + 1), .int wh, .int hd, .int so, .int (nI le)]) (he : h (sp + 1) = ni_L 160 f) (H : fs_tab 16 u h) (hn : u 6 0 = nI n) (n4 : n ≤ 4) (hw : fs_wd tx p = (1, 5)) : (∀ q, fs_item tx p n (u 0) = .inl q → fs_PL z sp h u q) ∧ (∀ w a b e, fs_item tx p n (u 0) = .inr (w, a, b, e) → fs_PR z sp h u w a b e) := by
  have r := fun (d : Nat) (Q : ni_Q) => X_rw (d := d) (z := z) (Q := Q) hle hO hB hR hs he
  rw [← htx, hw] at r
  simp only [Nat.reduceEqDiff, if_false, show nI 1 = 1 from rfl] at r
  have hR1 : ni_up h 31 (ni_O 3 [.int (-1), .int (nI (p + 5)), .int nu]) 31 = ni_O 3 [.int (-1), .int (nI (p + 5)), .int nu] := up_s
  have hs1 : ni_up h 31 (ni_O 3 [.int (-1), .int (nI (p + 5)), .int nu]) sp = _ := (up_n s31).trans hs
  have he1 : ni_up h 31 (ni_O 3 [.int (-1), .int (nI (p + 5)), .int nu]) (sp + 1) = _ := (up_n s30).trans he
  have H1 : fs_tab 16 u (ni_up h 31 (ni_O 3 [.int (-1), .int (nI (p + 5)), .int nu])) := by rw [fs_tab_n (by decide)]; exact H
  have t0 := H.1
  have T1 : ni_up h 31 (ni_O 3 [.int (-1), .int (nI (p + 5)), .int nu]) 16 = _ := (up_n (by decide)).trans t0
  have ei : fs_item tx p n (u 0) = _ := rfl
  conv at ei => rhs; unfold fs_item
  rw [hw] at ei
  simp only [Nat.reduceEqDiff, false_and, if_false, if_true, or_self, or_true, true_or, false_or, or_false] at ei
  cases m1 : fs_num tx (p + 5) (fs_ok1 1 n) with
  | inl q1 =>
    have ei1 : fs_item tx p n (u 0) = .inl q1 := by rw [ei, m1]
    rw [ei1]
    refine ⟨fun q hq => ?_, fun w a b e hq => by cases hq⟩
    cases hq
    obtain ⟨⟨r1, e1, nu1, hr1⟩, hq1⟩ := num_l (lo := 0) (hi := 4) (nu := nu) (ok_lt 4 (by decide)) m1
    have nm : ¬ nI q1 = -1 := nI_m1 (by omega)
    have hr2 : fs_rn tx 0 (35) (nI q1) e1 nu1 = (-1, nI q1, e1, nu1) := rn_f nm
    have rd := X_rdStone (z := z) htx (show p + 5 < 900 by omega) hle hR1 hs1 he1 s31 s30 H1 hr1 hr2 (fun e => absurd e nm) 
    simp only [nm, if_false, up_up] at rd
    refine pl_up (q := q1) (a := nI e1) (b := nu1) H (fun d Q => ?_)
    simp +decide only [s29_0, s29_1, s29_4, s29_5, s29_6, s29_6N, s29_7, s29_7N0, s29_10, s29_12, s29_14, s29_17, s29_17N, s29_18, s29_21, s29_24, s29_25, s29_26, s29_29, s29_30, s29_33, s29_34, s29_37, s29_38, s29_40_0, s29_40_1, s29_40_2, s29_40_3, s29_72, s29_73, s29_73N, s29_74, s29_74N, s29_75, s29_75N1, s29_75N0, s29_75N0N1, s29_78, s29_81, s29_82, s29_82N, s29_83, s29_83N, s29_84, s29_84N1, s29_84N0, s29_84N0N1, s29_87, s29_90, s29_91, s29_91N, s29_92, s29_92N, s29_93, s29_93N1, s29_93N0, s29_93N0N1, s29_96, s29_99, s29_100, s29_100N, s29_101, s29_101N, s29_102, s29_102N1, s29_102N0, s29_102N0N1, s29_105, s29_108, s29_109, s29_109N, s29_110, s29_110N, s29_111, s29_111N1, s29_111N0, s29_111N0N1, s29_114, hR, r, rd, up_up, ↓reduceIte, kl_i, kl_r, kl_n, kl_a, kl_l, up_s, up_up, is_0, is_s, gv_0, gv_s, pv_o, rc_o, okI_i, okI_x, okS_i, okB_x, gi_i, pi_i, okL_l, gl_l, pl_l, okA_2, okA_3, ga_a, arr_0, arr_1, arr_10, arr_11, len_a, sw_0, sw_i, sw_r, sw_l, fit_i, fit_z0, fit_z1, nz_0, nz_1, ni_K_s, ni_K_n, Nat.ble_eq, Nat.zero_le, Nat.zero_add, true_and, and_true, and_self, Bool.and_true, Bool.true_and, Bool.and_self, not_true_eq_false, not_false_eq_true, Int32.reduceLE, Int32.reduceLT, Int32.reduceAdd, Int32.reduceSub, Int32.reduceToNatClampNeg, Nat.reduceLeDiff, Nat.reduceAdd, Nat.reduceEqDiff, Nat.reduceSub, List.set_cons_zero, List.set_cons_succ, false_and, and_false]
  | inr v1 =>
    obtain ⟨a, e⟩ := v1
    obtain ⟨hr1, hok1, ha99, he1a, he1b⟩ := num_r (lo := 0) (hi := 4) (nu := nu) (ok_lt 4 (by decide)) m1
    have a5 : a < 5 := of_decide_eq_true hok1
    have e2s : fs_num tx e (fs_ok2 1 (u 0) a) = fs_num tx e (fun v => decide (v < 36) && fs_fr (u 0) (nI a) (nI v) 5 0) := rfl
    rw [num_and] at e2s
    cases m2 : fs_num tx e (fun v => decide (v < 36)) with
    | inl q2 =>
      rw [m2] at e2s
      have ei1 : fs_item tx p n (u 0) = .inl q2 := by rw [ei, m1]; simp only; rw [e2s]
      rw [ei1]
      refine ⟨fun q hq => ?_, fun w a b e hq => by cases hq⟩
      cases hq
      obtain ⟨⟨r2, e2, nu2, hr2⟩, hq2⟩ := num_l (lo := 0) (hi := 35) (nu := nI (p + 5 + 1)) (ok_lt 35 (by decide)) m2
      have nm : ¬ nI q2 = -1 := nI_m1 (by omega)
      have rd := X_rdStone (z := z) htx (show p + 5 < 900 by omega) hle hR1 hs1 he1 s31 s30 H1 hr1 hr2 (fun e => absurd e nm)
      simp only [nm, if_false, up_up] at rd
      refine pl_up (q := q2) (a := nI e2) (b := nu2) H (fun d Q => ?_)
      simp +decide only [s29_0, s29_1, s29_4, s29_5, s29_6, s29_6N, s29_7, s29_7N0, s29_10, s29_12, s29_14, s29_17, s29_17N, s29_18, s29_21, s29_24, s29_25, s29_26, s29_29, s29_30, s29_33, s29_34, s29_37, s29_38, s29_40_0, s29_40_1, s29_40_2, s29_40_3, s29_72, s29_73, s29_73N, s29_74, s29_74N, s29_75, s29_75N1, s29_75N0, s29_75N0N1, s29_78, s29_81, s29_82, s29_82N, s29_83, s29_83N, s29_84, s29_84N1, s29_84N0, s29_84N0N1, s29_87, s29_90, s29_91, s29_91N, s29_92, s29_92N, s29_93, s29_93N1, s29_93N0, s29_93N0N1, s29_96, s29_99, s29_100, s29_100N, s29_101, s29_101N, s29_102, s29_102N1, s29_102N0, s29_102N0N1, s29_105, s29_108, s29_109, s29_109N, s29_110, s29_110N, s29_111, s29_111N1, s29_111N0, s29_111N0N1, s29_114, hR, r, rd, up_up, ↓reduceIte, kl_i, kl_r, kl_n, kl_a, kl_l, up_s, up_up, is_0, is_s, gv_0, gv_s, pv_o, rc_o, okI_i, okI_x, okS_i, okB_x, gi_i, pi_i, okL_l, gl_l, pl_l, okA_2, okA_3, ga_a, arr_0, arr_1, arr_10, arr_11, len_a, sw_0, sw_i, sw_r, sw_l, fit_i, fit_z0, fit_z1, nz_0, nz_1, ni_K_s, ni_K_n, Nat.ble_eq, Nat.zero_le, Nat.zero_add, true_and, and_true, and_self, Bool.and_true, Bool.true_and, Bool.and_self, not_true_eq_false, not_false_eq_true, Int32.reduceLE, Int32.reduceLT, Int32.reduceAdd, Int32.reduceSub, Int32.reduceToNatClampNeg, Nat.reduceLeDiff, Nat.reduceAdd, Nat.reduceEqDiff, Nat.reduceSub, List.set_cons_zero, List.set_cons_succ, false_and, and_false]
    | inr v2 =>
      obtain ⟨b, e2⟩ := v2
      obtain ⟨hr2, hok2, hb99, he2a, he2b⟩ := num_r (lo := 0) (hi := 35) (nu := nI (p + 5 + 1)) (ok_lt 35 (by decide)) m2
      rw [m2] at e2s
      have b36 : b < 36 := of_decide_eq_true hok2
      cases fr : fs_fr (u 0) (nI a) (nI b) 5 0
      · simp only [fr, Bool.false_eq_true, if_false] at e2s
        have ei1 : fs_item tx p n (u 0) = .inl (e + 1) := by rw [ei, m1]; simp only; rw [e2s]
        rw [ei1]
        refine ⟨fun q hq => ?_, fun w a b e hq => by cases hq⟩
        cases hq
        have rd := X_rdStone (z := z) htx (show p + 5 < 900 by omega) hle hR1 hs1 he1 s31 s30 H1 hr1 hr2 (fun _ => ⟨a, a5, rfl⟩)
        simp only [if_true, up_up, free_n b36, fr, Bool.false_eq_true, if_false] at rd
        refine pl_up (q := e + 1) (a := nI e2) (b := nI (e + 1)) H (fun d Q => ?_)
        simp +decide only [s29_0, s29_1, s29_4, s29_5, s29_6, s29_6N, s29_7, s29_7N0, s29_10, s29_12, s29_14, s29_17, s29_17N, s29_18, s29_21, s29_24, s29_25, s29_26, s29_29, s29_30, s29_33, s29_34, s29_37, s29_38, s29_40_0, s29_40_1, s29_40_2, s29_40_3, s29_72, s29_73, s29_73N, s29_74, s29_74N, s29_75, s29_75N1, s29_75N0, s29_75N0N1, s29_78, s29_81, s29_82, s29_82N, s29_83, s29_83N, s29_84, s29_84N1, s29_84N0, s29_84N0N1, s29_87, s29_90, s29_91, s29_91N, s29_92, s29_92N, s29_93, s29_93N1, s29_93N0, s29_93N0N1, s29_96, s29_99, s29_100, s29_100N, s29_101, s29_101N, s29_102, s29_102N1, s29_102N0, s29_102N0N1, s29_105, s29_108, s29_109, s29_109N, s29_110, s29_110N, s29_111, s29_111N1, s29_111N0, s29_111N0N1, s29_114, hR, r, rd, up_up, ↓reduceIte, kl_i, kl_r, kl_n, kl_a, kl_l, up_s, up_up, is_0, is_s, gv_0, gv_s, pv_o, rc_o, okI_i, okI_x, okS_i, okB_x, gi_i, pi_i, okL_l, gl_l, pl_l, okA_2, okA_3, ga_a, arr_0, arr_1, arr_10, arr_11, len_a, sw_0, sw_i, sw_r, sw_l, fit_i, fit_z0, fit_z1, nz_0, nz_1, ni_K_s, ni_K_n, Nat.ble_eq, Nat.zero_le, Nat.zero_add, true_and, and_true, and_self, Bool.and_true, Bool.true_and, Bool.and_self, not_true_eq_false, not_false_eq_true, Int32.reduceLE, Int32.reduceLT, Int32.reduceAdd, Int32.reduceSub, Int32.reduceToNatClampNeg, Nat.reduceLeDiff, Nat.reduceAdd, Nat.reduceEqDiff, Nat.reduceSub, List.set_cons_zero, List.set_cons_succ, false_and, and_false]
      · simp only [fr, if_true] at e2s
        have ei1 : fs_item tx p n (u 0) = .inr (1, a, b, e2) := by rw [ei, m1]; simp only; rw [e2s]
        rw [ei1]
        refine ⟨fun q hq => (by cases hq), fun w a' b' e' hq => ?_⟩
        cases hq
        have rd := X_rdStone (z := z) htx (show p + 5 < 900 by omega) hle hR1 hs1 he1 s31 s30 H1 hr1 hr2 (fun _ => ⟨a, a5, rfl⟩)
        simp only [if_true, up_up, free_n b36, fr, nI_clamp (n := a) (show a < 2 ^ 31 by omega)] at rd
        refine ⟨ni_up (ni_up h 31 (ni_O 3 [.int (-1), .int (nI e2), .int (nI (e + 1))])) 17 (ni_I 5 (upd (u 0) a (nI b))), fun d Q => ?_, fun i h1 h2 => by rw [up_n (by omega), up_n h1], ?_, _, by rw [up_n (by decide)]; exact up_s⟩
        · simp +decide only [s29_0, s29_1, s29_4, s29_5, s29_6, s29_6N, s29_7, s29_7N0, s29_10, s29_12, s29_14, s29_17, s29_17N, s29_18, s29_21, s29_24, s29_25, s29_26, s29_29, s29_30, s29_33, s29_34, s29_37, s29_38, s29_40_0, s29_40_1, s29_40_2, s29_40_3, s29_72, s29_73, s29_73N, s29_74, s29_74N, s29_75, s29_75N1, s29_75N0, s29_75N0N1, s29_78, s29_81, s29_82, s29_82N, s29_83, s29_83N, s29_84, s29_84N1, s29_84N0, s29_84N0N1, s29_87, s29_90, s29_91, s29_91N, s29_92, s29_92N, s29_93, s29_93N1, s29_93N0, s29_93N0N1, s29_96, s29_99, s29_100, s29_100N, s29_101, s29_101N, s29_102, s29_102N1, s29_102N0, s29_102N0N1, s29_105, s29_108, s29_109, s29_109N, s29_110, s29_110N, s29_111, s29_111N1, s29_111N0, s29_111N0N1, s29_114, hR, r, rd, up_up, ↓reduceIte, kl_i, kl_r, kl_n, kl_a, kl_l, up_s, up_up, is_0, is_s, gv_0, gv_s, pv_o, rc_o, okI_i, okI_x, okS_i, okB_x, gi_i, pi_i, okL_l, gl_l, pl_l, okA_2, okA_3, ga_a, arr_0, arr_1, arr_10, arr_11, len_a, sw_0, sw_i, sw_r, sw_l, fit_i, fit_z0, fit_z1, nz_0, nz_1, ni_K_s, ni_K_n, Nat.ble_eq, Nat.zero_le, Nat.zero_add, true_and, and_true, and_self, Bool.and_true, Bool.true_and, Bool.and_self, not_true_eq_false, not_false_eq_true, Int32.reduceLE, Int32.reduceLT, Int32.reduceAdd, Int32.reduceSub, Int32.reduceToNatClampNeg, Nat.reduceLeDiff, Nat.reduceAdd, Nat.reduceEqDiff, Nat.reduceSub, List.set_cons_zero, List.set_cons_succ, false_and, and_false]
        · exact tab_c (t := 16) (by rw [fs_tab_n (by decide)]; exact H) a (nI b)
theorem X_item2 {tx : Nat → Int32} (htx : tx = fun i => fs_int f (nI le) (nI i)) (sp : Nat) (s31 : sp ≠ 31) (s30 : sp + 1 ≠ 31) (sf : sp < 16 ∨ 23 ≤ sp) (hp : p < 800) (hle : le ≤ 160) (hO : ∀ w, w < 5 → h (1010 + w) = ni_O 100 [.ref (1020 + w), .int 0]) (hB : ∀ w, w < 5 → h (1020 + w) = .inl (11, fs_wl w, .inl (fs_wb w))) (hR : h 31 = ni_O 3 [.int (-1), .int (nI p), .int nu]) (hs : h sp = ni_O 4 [.ref (sp + 1), .int wh, .int hd, .int so, .int (nI le)]) (he : h (sp + 1) = ni_L 160 f) (H : fs_tab 16 u h) (hn : u 6 0 = nI n) (n4 : n ≤ 4) (hw : fs_wd tx p = (2, 2)) : (∀ q, fs_item tx p n (u 0) = .inl q → fs_PL z sp h u q) ∧ (∀ w a b e, fs_item tx p n (u 0) = .inr (w, a, b, e) → fs_PR z sp h u w a b e) := by
  have r := fun (d : Nat) (Q : ni_Q) => X_rw (d := d) (z := z) (Q := Q) hle hO hB hR hs he
  rw [← htx, hw] at r
  simp only [Nat.reduceEqDiff, if_false, show nI 2 = 2 from rfl] at r
  have hR1 : ni_up h 31 (ni_O 3 [.int (-1), .int (nI (p + 2)), .int nu]) 31 = ni_O 3 [.int (-1), .int (nI (p + 2)), .int nu] := up_s
  have hs1 : ni_up h 31 (ni_O 3 [.int (-1), .int (nI (p + 2)), .int nu]) sp = _ := (up_n s31).trans hs
  have he1 : ni_up h 31 (ni_O 3 [.int (-1), .int (nI (p + 2)), .int nu]) (sp + 1) = _ := (up_n s30).trans he
  have H1 : fs_tab 16 u (ni_up h 31 (ni_O 3 [.int (-1), .int (nI (p + 2)), .int nu])) := by rw [fs_tab_n (by decide)]; exact H
  have t0 := H.1
  have T1 : ni_up h 31 (ni_O 3 [.int (-1), .int (nI (p + 2)), .int nu]) 16 = _ := (up_n (by decide)).trans t0
  have ei : fs_item tx p n (u 0) = _ := rfl
  conv at ei => rhs; unfold fs_item
  rw [hw] at ei
  simp only [Nat.reduceEqDiff, false_and, if_false, if_true, or_self, or_true, true_or, false_or, or_false] at ei
  cases m1 : fs_num tx (p + 2) (fs_ok1 2 n) with
  | inl q1 =>
    have ei1 : fs_item tx p n (u 0) = .inl q1 := by rw [ei, m1]
    rw [ei1]
    refine ⟨fun q hq => ?_, fun w a b e hq => by cases hq⟩
    cases hq
    obtain ⟨⟨r1, e1, nu1, hr1⟩, hq1⟩ := num_l (lo := 0) (hi := 4) (nu := nu) (ok_lt 4 (by decide)) m1
    have nm : ¬ nI q1 = -1 := nI_m1 (by omega)
    have rd := X_rdUp (z := z) htx (show p + 2 < 900 by omega) hle hR1 hs1 he1 s31 s30 H1 hr1 (fun e => absurd e nm)
    simp only [nm, if_false, up_up] at rd
    refine pl_up (q := q1) (a := nI e1) (b := nu1) H (fun d Q => ?_)
    simp +decide only [s29_0, s29_1, s29_4, s29_5, s29_6, s29_6N, s29_7, s29_7N0, s29_10, s29_12, s29_14, s29_17, s29_17N, s29_18, s29_21, s29_24, s29_25, s29_26, s29_29, s29_30, s29_33, s29_34, s29_37, s29_38, s29_40_0, s29_40_1, s29_40_2, s29_40_3, s29_72, s29_73, s29_73N, s29_74, s29_74N, s29_75, s29_75N1, s29_75N0, s29_75N0N1, s29_78, s29_81, s29_82, s29_82N, s29_83, s29_83N, s29_84, s29_84N1, s29_84N0, s29_84N0N1, s29_87, s29_90, s29_91, s29_91N, s29_92, s29_92N, s29_93, s29_93N1, s29_93N0, s29_93N0N1, s29_96, s29_99, s29_100, s29_100N, s29_101, s29_101N, s29_102, s29_102N1, s29_102N0, s29_102N0N1, s29_105, s29_108, s29_109, s29_109N, s29_110, s29_110N, s29_111, s29_111N1, s29_111N0, s29_111N0N1, s29_114, hR, r, rd, up_up, ↓reduceIte, kl_i, kl_r, kl_n, kl_a, kl_l, up_s, up_up, is_0, is_s, gv_0, gv_s, pv_o, rc_o, okI_i, okI_x, okS_i, okB_x, gi_i, pi_i, okL_l, gl_l, pl_l, okA_2, okA_3, ga_a, arr_0, arr_1, arr_10, arr_11, len_a, sw_0, sw_i, sw_r, sw_l, fit_i, fit_z0, fit_z1, nz_0, nz_1, ni_K_s, ni_K_n, Nat.ble_eq, Nat.zero_le, Nat.zero_add, true_and, and_true, and_self, Bool.and_true, Bool.true_and, Bool.and_self, not_true_eq_false, not_false_eq_true, Int32.reduceLE, Int32.reduceLT, Int32.reduceAdd, Int32.reduceSub, Int32.reduceToNatClampNeg, Nat.reduceLeDiff, Nat.reduceAdd, Nat.reduceEqDiff, Nat.reduceSub, List.set_cons_zero, List.set_cons_succ, false_and, and_false]
  | inr v1 =>
    obtain ⟨a, e⟩ := v1
    obtain ⟨hr1, hok1, ha99, he1a, he1b⟩ := num_r (lo := 0) (hi := 4) (nu := nu) (ok_lt 4 (by decide)) m1
    have ei1 : fs_item tx p n (u 0) = .inr (2, a, 0, e) := by rw [ei, m1]
    rw [ei1]
    refine ⟨fun q hq => (by cases hq), fun w a' b' e' hq => ?_⟩
    cases hq
    have a5 : a < 5 := of_decide_eq_true hok1
    have rd := X_rdUp (z := z) htx (show p + 2 < 900 by omega) hle hR1 hs1 he1 s31 s30 H1 hr1 (fun _ => ⟨a, a5, rfl⟩)
    simp only [if_true, up_up, nI_clamp (n := a) (show a < 2 ^ 31 by omega)] at rd
    refine ⟨ni_up (ni_up h 31 (ni_O 3 [.int (-1), .int (nI e), .int (nI (p + 2 + 1))])) 17 (ni_I 5 (upd (u 0) a (-1))), fun d Q => ?_, fun i h1 h2 => by rw [up_n (by omega), up_n h1], ?_, _, by rw [up_n (by decide)]; exact up_s⟩
    · simp +decide only [s29_0, s29_1, s29_4, s29_5, s29_6, s29_6N, s29_7, s29_7N0, s29_10, s29_12, s29_14, s29_17, s29_17N, s29_18, s29_21, s29_24, s29_25, s29_26, s29_29, s29_30, s29_33, s29_34, s29_37, s29_38, s29_40_0, s29_40_1, s29_40_2, s29_40_3, s29_72, s29_73, s29_73N, s29_74, s29_74N, s29_75, s29_75N1, s29_75N0, s29_75N0N1, s29_78, s29_81, s29_82, s29_82N, s29_83, s29_83N, s29_84, s29_84N1, s29_84N0, s29_84N0N1, s29_87, s29_90, s29_91, s29_91N, s29_92, s29_92N, s29_93, s29_93N1, s29_93N0, s29_93N0N1, s29_96, s29_99, s29_100, s29_100N, s29_101, s29_101N, s29_102, s29_102N1, s29_102N0, s29_102N0N1, s29_105, s29_108, s29_109, s29_109N, s29_110, s29_110N, s29_111, s29_111N1, s29_111N0, s29_111N0N1, s29_114, hR, r, rd, up_up, ↓reduceIte, kl_i, kl_r, kl_n, kl_a, kl_l, up_s, up_up, is_0, is_s, gv_0, gv_s, pv_o, rc_o, okI_i, okI_x, okS_i, okB_x, gi_i, pi_i, okL_l, gl_l, pl_l, okA_2, okA_3, ga_a, arr_0, arr_1, arr_10, arr_11, len_a, sw_0, sw_i, sw_r, sw_l, fit_i, fit_z0, fit_z1, nz_0, nz_1, ni_K_s, ni_K_n, Nat.ble_eq, Nat.zero_le, Nat.zero_add, true_and, and_true, and_self, Bool.and_true, Bool.true_and, Bool.and_self, not_true_eq_false, not_false_eq_true, Int32.reduceLE, Int32.reduceLT, Int32.reduceAdd, Int32.reduceSub, Int32.reduceToNatClampNeg, Nat.reduceLeDiff, Nat.reduceAdd, Nat.reduceEqDiff, Nat.reduceSub, List.set_cons_zero, List.set_cons_succ, false_and, and_false]
    · exact tab_c (t := 16) (by rw [fs_tab_n (by decide)]; exact H) a (-1)
theorem X_item3 {tx : Nat → Int32} (htx : tx = fun i => fs_int f (nI le) (nI i)) (sp : Nat) (s31 : sp ≠ 31) (s30 : sp + 1 ≠ 31) (sf : sp < 16 ∨ 23 ≤ sp) (hp : p < 800) (hle : le ≤ 160) (hO : ∀ w, w < 5 → h (1010 + w) = ni_O 100 [.ref (1020 + w), .int 0]) (hB : ∀ w, w < 5 → h (1020 + w) = .inl (11, fs_wl w, .inl (fs_wb w))) (hR : h 31 = ni_O 3 [.int (-1), .int (nI p), .int nu]) (hs : h sp = ni_O 4 [.ref (sp + 1), .int wh, .int hd, .int so, .int (nI le)]) (he : h (sp + 1) = ni_L 160 f) (H : fs_tab 16 u h) (hn : u 6 0 = nI n) (n4 : n ≤ 4) (hw : fs_wd tx p = (3, 5)) : (∀ q, fs_item tx p n (u 0) = .inl q → fs_PL z sp h u q) ∧ (∀ w a b e, fs_item tx p n (u 0) = .inr (w, a, b, e) → fs_PR z sp h u w a b e) := by
  have r := fun (d : Nat) (Q : ni_Q) => X_rw (d := d) (z := z) (Q := Q) hle hO hB hR hs he
  rw [← htx, hw] at r
  simp only [Nat.reduceEqDiff, if_false, show nI 3 = 3 from rfl] at r
  have hR1 : ni_up h 31 (ni_O 3 [.int (-1), .int (nI (p + 5)), .int nu]) 31 = ni_O 3 [.int (-1), .int (nI (p + 5)), .int nu] := up_s
  have hs1 : ni_up h 31 (ni_O 3 [.int (-1), .int (nI (p + 5)), .int nu]) sp = _ := (up_n s31).trans hs
  have he1 : ni_up h 31 (ni_O 3 [.int (-1), .int (nI (p + 5)), .int nu]) (sp + 1) = _ := (up_n s30).trans he
  have H1 : fs_tab 16 u (ni_up h 31 (ni_O 3 [.int (-1), .int (nI (p + 5)), .int nu])) := by rw [fs_tab_n (by decide)]; exact H
  have t0 := H.1
  have T1 : ni_up h 31 (ni_O 3 [.int (-1), .int (nI (p + 5)), .int nu]) 16 = _ := (up_n (by decide)).trans t0
  have ei : fs_item tx p n (u 0) = _ := rfl
  conv at ei => rhs; unfold fs_item
  rw [hw] at ei
  simp only [Nat.reduceEqDiff, false_and, if_false, if_true, or_self, or_true, true_or, false_or, or_false] at ei
  cases m1 : fs_num tx (p + 5) (fs_ok1 3 n) with
  | inl q1 =>
    have ei1 : fs_item tx p n (u 0) = .inl q1 := by rw [ei, m1]
    rw [ei1]
    refine ⟨fun q hq => ?_, fun w a b e hq => by cases hq⟩
    cases hq
    obtain ⟨⟨r1, e1, nu1, hr1⟩, hq1⟩ := num_l (lo := 0) (hi := nI n - 1) (nu := nu) (fun v hv => nh_lt n4 hv) m1
    have nm : ¬ nI q1 = -1 := nI_m1 (by omega)
    rw [← hn] at hr1
    have hr2 : fs_rn tx 1 (4) (nI q1) e1 nu1 = (-1, nI q1, e1, nu1) := rn_f nm
    have rd := X_rdStage (z := z) htx (show p + 5 < 900 by omega) hle hR1 hs1 he1 s31 s30 H1 hn n4 hr1 hr2 (fun e => absurd e nm) 
    simp only [nm, if_false, up_up] at rd
    refine pl_up (q := q1) (a := nI e1) (b := nu1) H (fun d Q => ?_)
    simp +decide only [s29_0, s29_1, s29_4, s29_5, s29_6, s29_6N, s29_7, s29_7N0, s29_10, s29_12, s29_14, s29_17, s29_17N, s29_18, s29_21, s29_24, s29_25, s29_26, s29_29, s29_30, s29_33, s29_34, s29_37, s29_38, s29_40_0, s29_40_1, s29_40_2, s29_40_3, s29_72, s29_73, s29_73N, s29_74, s29_74N, s29_75, s29_75N1, s29_75N0, s29_75N0N1, s29_78, s29_81, s29_82, s29_82N, s29_83, s29_83N, s29_84, s29_84N1, s29_84N0, s29_84N0N1, s29_87, s29_90, s29_91, s29_91N, s29_92, s29_92N, s29_93, s29_93N1, s29_93N0, s29_93N0N1, s29_96, s29_99, s29_100, s29_100N, s29_101, s29_101N, s29_102, s29_102N1, s29_102N0, s29_102N0N1, s29_105, s29_108, s29_109, s29_109N, s29_110, s29_110N, s29_111, s29_111N1, s29_111N0, s29_111N0N1, s29_114, hR, r, rd, up_up, ↓reduceIte, kl_i, kl_r, kl_n, kl_a, kl_l, up_s, up_up, is_0, is_s, gv_0, gv_s, pv_o, rc_o, okI_i, okI_x, okS_i, okB_x, gi_i, pi_i, okL_l, gl_l, pl_l, okA_2, okA_3, ga_a, arr_0, arr_1, arr_10, arr_11, len_a, sw_0, sw_i, sw_r, sw_l, fit_i, fit_z0, fit_z1, nz_0, nz_1, ni_K_s, ni_K_n, Nat.ble_eq, Nat.zero_le, Nat.zero_add, true_and, and_true, and_self, Bool.and_true, Bool.true_and, Bool.and_self, not_true_eq_false, not_false_eq_true, Int32.reduceLE, Int32.reduceLT, Int32.reduceAdd, Int32.reduceSub, Int32.reduceToNatClampNeg, Nat.reduceLeDiff, Nat.reduceAdd, Nat.reduceEqDiff, Nat.reduceSub, List.set_cons_zero, List.set_cons_succ, false_and, and_false]
  | inr v1 =>
    obtain ⟨a, e⟩ := v1
    obtain ⟨hr1, hok1, ha99, he1a, he1b⟩ := num_r (lo := 0) (hi := nI n - 1) (nu := nu) (fun v hv => nh_lt n4 hv) m1
    rw [← hn] at hr1
    have an : a < n := of_decide_eq_true hok1
    cases m2 : fs_num tx e (fs_ok2 3 (u 0) a) with
    | inl q2 =>
      have ei1 : fs_item tx p n (u 0) = .inl q2 := by rw [ei, m1]; simp only; rw [m2]
      rw [ei1]
      refine ⟨fun q hq => ?_, fun w a b e hq => by cases hq⟩
      cases hq
      obtain ⟨⟨r2, e2, nu2, hr2⟩, hq2⟩ := num_l (lo := 1) (hi := 4) (nu := nI (p + 5 + 1)) (ok_14) m2
      have nm : ¬ nI q2 = -1 := nI_m1 (by omega)
      have rd := X_rdStage (z := z) htx (show p + 5 < 900 by omega) hle hR1 hs1 he1 s31 s30 H1 hn n4 hr1 hr2 (fun e => absurd e nm)
      simp only [nm, if_false, up_up] at rd
      refine pl_up (q := q2) (a := nI e2) (b := nu2) H (fun d Q => ?_)
      simp +decide only [s29_0, s29_1, s29_4, s29_5, s29_6, s29_6N, s29_7, s29_7N0, s29_10, s29_12, s29_14, s29_17, s29_17N, s29_18, s29_21, s29_24, s29_25, s29_26, s29_29, s29_30, s29_33, s29_34, s29_37, s29_38, s29_40_0, s29_40_1, s29_40_2, s29_40_3, s29_72, s29_73, s29_73N, s29_74, s29_74N, s29_75, s29_75N1, s29_75N0, s29_75N0N1, s29_78, s29_81, s29_82, s29_82N, s29_83, s29_83N, s29_84, s29_84N1, s29_84N0, s29_84N0N1, s29_87, s29_90, s29_91, s29_91N, s29_92, s29_92N, s29_93, s29_93N1, s29_93N0, s29_93N0N1, s29_96, s29_99, s29_100, s29_100N, s29_101, s29_101N, s29_102, s29_102N1, s29_102N0, s29_102N0N1, s29_105, s29_108, s29_109, s29_109N, s29_110, s29_110N, s29_111, s29_111N1, s29_111N0, s29_111N0N1, s29_114, hR, r, rd, up_up, ↓reduceIte, kl_i, kl_r, kl_n, kl_a, kl_l, up_s, up_up, is_0, is_s, gv_0, gv_s, pv_o, rc_o, okI_i, okI_x, okS_i, okB_x, gi_i, pi_i, okL_l, gl_l, pl_l, okA_2, okA_3, ga_a, arr_0, arr_1, arr_10, arr_11, len_a, sw_0, sw_i, sw_r, sw_l, fit_i, fit_z0, fit_z1, nz_0, nz_1, ni_K_s, ni_K_n, Nat.ble_eq, Nat.zero_le, Nat.zero_add, true_and, and_true, and_self, Bool.and_true, Bool.true_and, Bool.and_self, not_true_eq_false, not_false_eq_true, Int32.reduceLE, Int32.reduceLT, Int32.reduceAdd, Int32.reduceSub, Int32.reduceToNatClampNeg, Nat.reduceLeDiff, Nat.reduceAdd, Nat.reduceEqDiff, Nat.reduceSub, List.set_cons_zero, List.set_cons_succ, false_and, and_false]
    | inr v2 =>
      obtain ⟨b, e2⟩ := v2
      obtain ⟨hr2, hok2, hb99, he2a, he2b⟩ := num_r (lo := 1) (hi := 4) (nu := nI (p + 5 + 1)) (ok_14) m2
      have ei1 : fs_item tx p n (u 0) = .inr (3, a, b, e2) := by rw [ei, m1]; simp only; rw [m2]
      rw [ei1]
      refine ⟨fun q hq => (by cases hq), fun w a' b' e' hq => ?_⟩
      cases hq
      have rd := X_rdStage (z := z) htx (show p + 5 < 900 by omega) hle hR1 hs1 he1 s31 s30 H1 hn n4 hr1 hr2 (fun _ => ⟨a, an, rfl⟩)
      simp only [if_true, up_up, nI_clamp (n := a) (show a < 2 ^ 31 by omega)] at rd
      refine ⟨ni_up (ni_up h 31 (ni_O 3 [.int (-1), .int (nI e2), .int (nI (e + 1))])) (16 + 3 + a) (ni_O 1 [.int (nI a), .int (u 1 a), .int (u 2 a), .int (nI b), .int (u 4 a), .int (u 5 a)]), fun d Q => ?_, fun i h1 h2 => by rw [up_n (by omega), up_n h1], ?_, _, by rw [up_n (by omega)]; exact up_s⟩
      · simp +decide only [s29_0, s29_1, s29_4, s29_5, s29_6, s29_6N, s29_7, s29_7N0, s29_10, s29_12, s29_14, s29_17, s29_17N, s29_18, s29_21, s29_24, s29_25, s29_26, s29_29, s29_30, s29_33, s29_34, s29_37, s29_38, s29_40_0, s29_40_1, s29_40_2, s29_40_3, s29_72, s29_73, s29_73N, s29_74, s29_74N, s29_75, s29_75N1, s29_75N0, s29_75N0N1, s29_78, s29_81, s29_82, s29_82N, s29_83, s29_83N, s29_84, s29_84N1, s29_84N0, s29_84N0N1, s29_87, s29_90, s29_91, s29_91N, s29_92, s29_92N, s29_93, s29_93N1, s29_93N0, s29_93N0N1, s29_96, s29_99, s29_100, s29_100N, s29_101, s29_101N, s29_102, s29_102N1, s29_102N0, s29_102N0N1, s29_105, s29_108, s29_109, s29_109N, s29_110, s29_110N, s29_111, s29_111N1, s29_111N0, s29_111N0N1, s29_114, hR, r, rd, up_up, ↓reduceIte, kl_i, kl_r, kl_n, kl_a, kl_l, up_s, up_up, is_0, is_s, gv_0, gv_s, pv_o, rc_o, okI_i, okI_x, okS_i, okB_x, gi_i, pi_i, okL_l, gl_l, pl_l, okA_2, okA_3, ga_a, arr_0, arr_1, arr_10, arr_11, len_a, sw_0, sw_i, sw_r, sw_l, fit_i, fit_z0, fit_z1, nz_0, nz_1, ni_K_s, ni_K_n, Nat.ble_eq, Nat.zero_le, Nat.zero_add, true_and, and_true, and_self, Bool.and_true, Bool.true_and, Bool.and_self, not_true_eq_false, not_false_eq_true, Int32.reduceLE, Int32.reduceLT, Int32.reduceAdd, Int32.reduceSub, Int32.reduceToNatClampNeg, Nat.reduceLeDiff, Nat.reduceAdd, Nat.reduceEqDiff, Nat.reduceSub, List.set_cons_zero, List.set_cons_succ, false_and, and_false]
      · have := tab_h (t := 16) (j := a) (v := fs_u u 3 a (nI b)) (show fs_tab 16 u (ni_up h 31 (ni_O 3 [.int (-1), .int (nI e2), .int (nI (e + 1))])) by rw [fs_tab_n (by decide)]; exact H) (by omega) (fu_n (by decide)) (fu_n (by decide)) (fun i k hk => fu_k hk)
        simp +decide only [fu_s, fu_n, ud_s, ne_eq, Nat.reduceEqDiff, not_false_eq_true] at this
        exact this
theorem X_item4 {tx : Nat → Int32} (htx : tx = fun i => fs_int f (nI le) (nI i)) (sp : Nat) (s31 : sp ≠ 31) (s30 : sp + 1 ≠ 31) (sf : sp < 16 ∨ 23 ≤ sp) (hp : p < 800) (hle : le ≤ 160) (hO : ∀ w, w < 5 → h (1010 + w) = ni_O 100 [.ref (1020 + w), .int 0]) (hB : ∀ w, w < 5 → h (1020 + w) = .inl (11, fs_wl w, .inl (fs_wb w))) (hR : h 31 = ni_O 3 [.int (-1), .int (nI p), .int nu]) (hs : h sp = ni_O 4 [.ref (sp + 1), .int wh, .int hd, .int so, .int (nI le)]) (he : h (sp + 1) = ni_L 160 f) (H : fs_tab 16 u h) (hn : u 6 0 = nI n) (n4 : n ≤ 4) (hw : fs_wd tx p = (4, 4)) : (∀ q, fs_item tx p n (u 0) = .inl q → fs_PL z sp h u q) ∧ (∀ w a b e, fs_item tx p n (u 0) = .inr (w, a, b, e) → fs_PR z sp h u w a b e) := by
  have r := fun (d : Nat) (Q : ni_Q) => X_rw (d := d) (z := z) (Q := Q) hle hO hB hR hs he
  rw [← htx, hw] at r
  simp only [Nat.reduceEqDiff, if_false, show nI 4 = 4 from rfl] at r
  have hR1 : ni_up h 31 (ni_O 3 [.int (-1), .int (nI (p + 4)), .int nu]) 31 = ni_O 3 [.int (-1), .int (nI (p + 4)), .int nu] := up_s
  have hs1 : ni_up h 31 (ni_O 3 [.int (-1), .int (nI (p + 4)), .int nu]) sp = _ := (up_n s31).trans hs
  have he1 : ni_up h 31 (ni_O 3 [.int (-1), .int (nI (p + 4)), .int nu]) (sp + 1) = _ := (up_n s30).trans he
  have H1 : fs_tab 16 u (ni_up h 31 (ni_O 3 [.int (-1), .int (nI (p + 4)), .int nu])) := by rw [fs_tab_n (by decide)]; exact H
  have t0 := H.1
  have T1 : ni_up h 31 (ni_O 3 [.int (-1), .int (nI (p + 4)), .int nu]) 16 = _ := (up_n (by decide)).trans t0
  have ei : fs_item tx p n (u 0) = _ := rfl
  conv at ei => rhs; unfold fs_item
  rw [hw] at ei
  simp only [Nat.reduceEqDiff, false_and, if_false, if_true, or_self, or_true, true_or, false_or, or_false] at ei
  cases m1 : fs_num tx (p + 4) (fs_ok1 4 n) with
  | inl q1 =>
    have ei1 : fs_item tx p n (u 0) = .inl q1 := by rw [ei, m1]
    rw [ei1]
    refine ⟨fun q hq => ?_, fun w a b e hq => by cases hq⟩
    cases hq
    obtain ⟨⟨r1, e1, nu1, hr1⟩, hq1⟩ := num_l (lo := 0) (hi := nI n - 1) (nu := nu) (fun v hv => nh_lt n4 hv) m1
    have nm : ¬ nI q1 = -1 := nI_m1 (by omega)
    rw [← hn] at hr1
    have rd := X_rdTurn (z := z) htx (show p + 4 < 900 by omega) hle hR1 hs1 he1 s31 s30 H1 hr1 
    simp only [nm, if_false, up_up] at rd
    refine pl_up (q := q1) (a := nI e1) (b := nu1) H (fun d Q => ?_)
    simp +decide only [s29_0, s29_1, s29_4, s29_5, s29_6, s29_6N, s29_7, s29_7N0, s29_10, s29_12, s29_14, s29_17, s29_17N, s29_18, s29_21, s29_24, s29_25, s29_26, s29_29, s29_30, s29_33, s29_34, s29_37, s29_38, s29_40_0, s29_40_1, s29_40_2, s29_40_3, s29_72, s29_73, s29_73N, s29_74, s29_74N, s29_75, s29_75N1, s29_75N0, s29_75N0N1, s29_78, s29_81, s29_82, s29_82N, s29_83, s29_83N, s29_84, s29_84N1, s29_84N0, s29_84N0N1, s29_87, s29_90, s29_91, s29_91N, s29_92, s29_92N, s29_93, s29_93N1, s29_93N0, s29_93N0N1, s29_96, s29_99, s29_100, s29_100N, s29_101, s29_101N, s29_102, s29_102N1, s29_102N0, s29_102N0N1, s29_105, s29_108, s29_109, s29_109N, s29_110, s29_110N, s29_111, s29_111N1, s29_111N0, s29_111N0N1, s29_114, s29_40_d (x := 4) (by decide), hR, r, rd, up_up, ↓reduceIte, kl_i, kl_r, kl_n, kl_a, kl_l, up_s, up_up, is_0, is_s, gv_0, gv_s, pv_o, rc_o, okI_i, okI_x, okS_i, okB_x, gi_i, pi_i, okL_l, gl_l, pl_l, okA_2, okA_3, ga_a, arr_0, arr_1, arr_10, arr_11, len_a, sw_0, sw_i, sw_r, sw_l, fit_i, fit_z0, fit_z1, nz_0, nz_1, ni_K_s, ni_K_n, Nat.ble_eq, Nat.zero_le, Nat.zero_add, true_and, and_true, and_self, Bool.and_true, Bool.true_and, Bool.and_self, not_true_eq_false, not_false_eq_true, Int32.reduceLE, Int32.reduceLT, Int32.reduceAdd, Int32.reduceSub, Int32.reduceToNatClampNeg, Nat.reduceLeDiff, Nat.reduceAdd, Nat.reduceEqDiff, Nat.reduceSub, List.set_cons_zero, List.set_cons_succ, false_and, and_false]
  | inr v1 =>
    obtain ⟨a, e⟩ := v1
    obtain ⟨hr1, hok1, ha99, he1a, he1b⟩ := num_r (lo := 0) (hi := nI n - 1) (nu := nu) (fun v hv => nh_lt n4 hv) m1
    rw [← hn] at hr1
    have ei1 : fs_item tx p n (u 0) = .inr (4, a, 0, e) := by rw [ei, m1]
    rw [ei1]
    refine ⟨fun q hq => (by cases hq), fun w a' b' e' hq => ?_⟩
    cases hq
    have rd := X_rdTurn (z := z) htx (show p + 4 < 900 by omega) hle hR1 hs1 he1 s31 s30 H1 hr1
    simp only [if_true, up_up] at rd
    refine ⟨ni_up (ni_up h 31 (ni_O 3 [.int (-1), .int (nI e), .int (nI (p + 4 + 1))])) 16 (ni_O 5 [.ref 17, .ref 18, .int (u 6 0), .int (nI a), .int (u 6 2), .int (u 6 3)]), fun d Q => ?_, fun i h1 h2 => by rw [up_n (by omega), up_n h1], ?_, _, by rw [up_n (by decide)]; exact up_s⟩
    · simp +decide only [s29_0, s29_1, s29_4, s29_5, s29_6, s29_6N, s29_7, s29_7N0, s29_10, s29_12, s29_14, s29_17, s29_17N, s29_18, s29_21, s29_24, s29_25, s29_26, s29_29, s29_30, s29_33, s29_34, s29_37, s29_38, s29_40_0, s29_40_1, s29_40_2, s29_40_3, s29_72, s29_73, s29_73N, s29_74, s29_74N, s29_75, s29_75N1, s29_75N0, s29_75N0N1, s29_78, s29_81, s29_82, s29_82N, s29_83, s29_83N, s29_84, s29_84N1, s29_84N0, s29_84N0N1, s29_87, s29_90, s29_91, s29_91N, s29_92, s29_92N, s29_93, s29_93N1, s29_93N0, s29_93N0N1, s29_96, s29_99, s29_100, s29_100N, s29_101, s29_101N, s29_102, s29_102N1, s29_102N0, s29_102N0N1, s29_105, s29_108, s29_109, s29_109N, s29_110, s29_110N, s29_111, s29_111N1, s29_111N0, s29_111N0N1, s29_114, s29_40_d (x := 4) (by decide), hR, r, rd, up_up, ↓reduceIte, kl_i, kl_r, kl_n, kl_a, kl_l, up_s, up_up, is_0, is_s, gv_0, gv_s, pv_o, rc_o, okI_i, okI_x, okS_i, okB_x, gi_i, pi_i, okL_l, gl_l, pl_l, okA_2, okA_3, ga_a, arr_0, arr_1, arr_10, arr_11, len_a, sw_0, sw_i, sw_r, sw_l, fit_i, fit_z0, fit_z1, nz_0, nz_1, ni_K_s, ni_K_n, Nat.ble_eq, Nat.zero_le, Nat.zero_add, true_and, and_true, and_self, Bool.and_true, Bool.true_and, Bool.and_self, not_true_eq_false, not_false_eq_true, Int32.reduceLE, Int32.reduceLT, Int32.reduceAdd, Int32.reduceSub, Int32.reduceToNatClampNeg, Nat.reduceLeDiff, Nat.reduceAdd, Nat.reduceEqDiff, Nat.reduceSub, List.set_cons_zero, List.set_cons_succ, false_and, and_false]
    · exact tab_6 (t := 16) (by rw [fs_tab_n (by decide)]; exact H) 1 (nI a)
end
