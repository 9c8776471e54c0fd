set_option maxRecDepth 100000
set_option maxHeartbeats 4000000
section
variable {d : Nat} {z : ni_Z} {Q : ni_Q} {li fo n w fa sd : Int32} {c : Nat → Int32}
def fs_nr1 (c : Nat → Int32) (k : Nat) : Nat → Nat → (Nat → Int32) → (Nat → Int32)
  | 0, _, ne => ne
  | m + 1, j, ne => fs_nr1 c k m (j + 1) (if nI j = nI k then ne else if fs_near c k j = true then upd ne k (ne k ||| (1 <<< (nI j &&& 31))) else ne)
theorem L_lk1 {k : Nat} (hk : k < 5) : ∀ (m j : Nat) (ne : Nat → Int32) (h : ni_H), j + m = 5 → h 23 = ni_O 2 [.ref 24, .ref 25, .ref 26, .ref 27, .ref 28, .int li, .int fo] → h 27 = ni_I 5 ne → h 2 = ni_O 5 [.ref 3, .ref 4, .int n, .int w, .int fa, .int sd] → h 3 = ni_I 5 c → ni_T (d + 3) 16 24 [.ref 23, .ref 2, .int (nI k), .int (nI j)] [] z h Q = ni_T (d + 3) 16 10 [.ref 23, .ref 2, .int (nI (k + 1)), .int 5] [] z (ni_up h 27 (ni_I 5 (fs_nr1 c k m j ne))) Q := by
  intro m
  induction m with
  | zero =>
    intro j ne h e hI hN hT hC
    obtain rfl : j = 5 := by omega
    simp +decide only [s16_0, s16_1, s16_1N, s16_2, s16_5, s16_8, s16_9, s16_11, s16_12, s16_15, s16_16, s16_19, s16_20, s16_21, s16_22, s16_23, s16_24, s16_25, s16_26, s16_29, s16_30, s16_31, s16_34, s16_34N, s16_35, s16_36, s16_37, s16_40, s16_43, s16_44, s16_47, s16_48, s16_49, s16_50, s16_51, s16_52, s16_53, s16_54, s16_55, s16_58, s16_61, s16_64, s16_67, s16_68, s16_71, s16_72, s16_73, s16_74, s16_75, s16_76, s16_77, s16_78, s16_81, s16_84, s16_85, s16_87, s16_90, s16_91, s16_92, s16_95, s16_98, s16_101, s16_102, s16_105, s16_106, s16_107, s16_107N, s16_108, s16_111, s16_112, s16_112N0, s16_115, s16_116, s16_119, s16_122, show nI 5 = 5 from rfl, nI_1, ↓reduceIte, kl_i, kl_r, kl_n, kl_a, kl_l, up_s, up_up, is_0, is_s, gv_0, gv_s, pv_o, rc_o, okI_i, okI_x, okS_i, okB_x, gi_i, pi_i, okL_l, gl_l, pl_l, okA_2, okA_3, ga_a, arr_0, arr_1, arr_10, arr_11, len_a, sw_0, sw_i, sw_r, sw_l, fit_i, fit_z0, fit_z1, nz_0, nz_1, ni_K_s, ni_K_n, Nat.ble_eq, Nat.zero_le, Nat.zero_add, true_and, and_true, and_self, Bool.and_true, Bool.true_and, Bool.and_self, not_true_eq_false, not_false_eq_true, Int32.reduceLE, Int32.reduceLT, Int32.reduceAdd, Int32.reduceSub, Int32.reduceToNatClampNeg, Nat.reduceLeDiff, Nat.reduceAdd, Nat.reduceEqDiff, Nat.reduceSub, List.set_cons_zero, List.set_cons_succ, false_and, and_false, fs_nr1]
    rw [up_id hN]
  | succ m ih =>
    intro j ne h e hI hN hT hC
    have h1 : ¬ (5 : Int32) ≤ nI j := nI_ge (a := j) (b := 5) (by omega) (by omega)
    have hnr := fun (d : Nat) (Q : ni_Q) => X_near (t := 2) (d := d) (z := z) (Q := Q) (i := k) (j := j) hT hC hk (by omega)
    have ihs := ih (j + 1) ne h (by omega) hI hN hT hC
    rw [s16_24]
    by_cases q : nI j = nI k
    · obtain rfl : j = k := (nI_eq (by omega) (by omega)).mp q
      simp +decide only [s16_0, s16_1, s16_1N, s16_2, s16_5, s16_8, s16_9, s16_11, s16_12, s16_15, s16_16, s16_19, s16_20, s16_21, s16_22, s16_23, s16_25, s16_26, s16_29, s16_30, s16_31, s16_34, s16_34N, s16_35, s16_36, s16_37, s16_40, s16_43, s16_44, s16_47, s16_48, s16_49, s16_50, s16_51, s16_52, s16_53, s16_54, s16_55, s16_58, s16_61, s16_64, s16_67, s16_68, s16_71, s16_72, s16_73, s16_74, s16_75, s16_76, s16_77, s16_78, s16_81, s16_84, s16_85, s16_87, s16_90, s16_91, s16_92, s16_95, s16_98, s16_101, s16_102, s16_105, s16_106, s16_107, s16_107N, s16_108, s16_111, s16_112, s16_112N0, s16_115, s16_116, s16_119, s16_122, h1, eq_self, nI_1, ↓reduceIte, kl_i, kl_r, kl_n, kl_a, kl_l, up_s, up_up, is_0, is_s, gv_0, gv_s, pv_o, rc_o, okI_i, okI_x, okS_i, okB_x, gi_i, pi_i, okL_l, gl_l, pl_l, okA_2, okA_3, ga_a, arr_0, arr_1, arr_10, arr_11, len_a, sw_0, sw_i, sw_r, sw_l, fit_i, fit_z0, fit_z1, nz_0, nz_1, ni_K_s, ni_K_n, Nat.ble_eq, Nat.zero_le, Nat.zero_add, true_and, and_true, and_self, Bool.and_true, Bool.true_and, Bool.and_self, not_true_eq_false, not_false_eq_true, Int32.reduceLE, Int32.reduceLT, Int32.reduceAdd, Int32.reduceSub, Int32.reduceToNatClampNeg, Nat.reduceLeDiff, Nat.reduceAdd, Nat.reduceEqDiff, Nat.reduceSub, List.set_cons_zero, List.set_cons_succ, false_and, and_false, fs_nr1]
      rw [ihs]
    · cases q2 : fs_near c k j
      · simp +decide only [s16_0, s16_1, s16_1N, s16_2, s16_5, s16_8, s16_9, s16_11, s16_12, s16_15, s16_16, s16_19, s16_20, s16_21, s16_22, s16_23, s16_25, s16_26, s16_29, s16_30, s16_31, s16_34, s16_34N, s16_35, s16_36, s16_37, s16_40, s16_43, s16_44, s16_47, s16_48, s16_49, s16_50, s16_51, s16_52, s16_53, s16_54, s16_55, s16_58, s16_61, s16_64, s16_67, s16_68, s16_71, s16_72, s16_73, s16_74, s16_75, s16_76, s16_77, s16_78, s16_81, s16_84, s16_85, s16_87, s16_90, s16_91, s16_92, s16_95, s16_98, s16_101, s16_102, s16_105, s16_106, s16_107, s16_107N, s16_108, s16_111, s16_112, s16_112N0, s16_115, s16_116, s16_119, s16_122, h1, q, q2, hT, hnr, fs_b, nI_1, ↓reduceIte, kl_i, kl_r, kl_n, kl_a, kl_l, up_s, up_up, is_0, is_s, gv_0, gv_s, pv_o, rc_o, okI_i, okI_x, okS_i, okB_x, gi_i, pi_i, okL_l, gl_l, pl_l, okA_2, okA_3, ga_a, arr_0, arr_1, arr_10, arr_11, len_a, sw_0, sw_i, sw_r, sw_l, fit_i, fit_z0, fit_z1, nz_0, nz_1, ni_K_s, ni_K_n, Nat.ble_eq, Nat.zero_le, Nat.zero_add, true_and, and_true, and_self, Bool.and_true, Bool.true_and, Bool.and_self, not_true_eq_false, not_false_eq_true, Int32.reduceLE, Int32.reduceLT, Int32.reduceAdd, Int32.reduceSub, Int32.reduceToNatClampNeg, Nat.reduceLeDiff, Nat.reduceAdd, Nat.reduceEqDiff, Nat.reduceSub, List.set_cons_zero, List.set_cons_succ, false_and, and_false, fs_nr1, Bool.false_eq_true]
        rw [ihs]
      · simp +decide only [s16_0, s16_1, s16_1N, s16_2, s16_5, s16_8, s16_9, s16_11, s16_12, s16_15, s16_16, s16_19, s16_20, s16_21, s16_22, s16_23, s16_25, s16_26, s16_29, s16_30, s16_31, s16_34, s16_34N, s16_35, s16_36, s16_37, s16_40, s16_43, s16_44, s16_47, s16_48, s16_49, s16_50, s16_51, s16_52, s16_53, s16_54, s16_55, s16_58, s16_61, s16_64, s16_67, s16_68, s16_71, s16_72, s16_73, s16_74, s16_75, s16_76, s16_77, s16_78, s16_81, s16_84, s16_85, s16_87, s16_90, s16_91, s16_92, s16_95, s16_98, s16_101, s16_102, s16_105, s16_106, s16_107, s16_107N, s16_108, s16_111, s16_112, s16_112N0, s16_115, s16_116, s16_119, s16_122, h1, q, q2, hI, hN, hT, hnr, fs_b, in_n (k := k) (n := 5) hk (by decide), nI_clamp (n := k) (by omega), nI_1, ↓reduceIte, kl_i, kl_r, kl_n, kl_a, kl_l, up_s, up_up, is_0, is_s, gv_0, gv_s, pv_o, rc_o, okI_i, okI_x, okS_i, okB_x, gi_i, pi_i, okL_l, gl_l, pl_l, okA_2, okA_3, ga_a, arr_0, arr_1, arr_10, arr_11, len_a, sw_0, sw_i, sw_r, sw_l, fit_i, fit_z0, fit_z1, nz_0, nz_1, ni_K_s, ni_K_n, Nat.ble_eq, Nat.zero_le, Nat.zero_add, true_and, and_true, and_self, Bool.and_true, Bool.true_and, Bool.and_self, not_true_eq_false, not_false_eq_true, Int32.reduceLE, Int32.reduceLT, Int32.reduceAdd, Int32.reduceSub, Int32.reduceToNatClampNeg, Nat.reduceLeDiff, Nat.reduceAdd, Nat.reduceEqDiff, Nat.reduceSub, List.set_cons_zero, List.set_cons_succ, false_and, and_false, fs_nr1]
        rw [ih (j + 1) _ _ (by omega) (by rw [up_n (by decide)]; exact hI) up_s (by rw [up_n (by decide)]; exact hT) (by rw [up_n (by decide)]; exact hC), up_up]
end
section
variable {d : Nat} {z : ni_Z} {Q : ni_Q} {li fo n w fa sd : Int32} {c : Nat → Int32}
def fs_nr (c : Nat → Int32) : Nat → Nat → (Nat → Int32) → (Nat → Int32)
  | 0, _, ne => ne
  | m + 1, k, ne => fs_nr c m (k + 1) (fs_nr1 c k 5 0 (upd ne k 0))
theorem L_lk2 : ∀ (m k : Nat) (ne : Nat → Int32) (a3 : Value) (h : ni_H), k + m = 5 → h 23 = ni_O 2 [.ref 24, .ref 25, .ref 26, .ref 27, .ref 28, .int li, .int fo] → h 27 = ni_I 5 ne → h 2 = ni_O 5 [.ref 3, .ref 4, .int n, .int w, .int fa, .int sd] → h 3 = ni_I 5 c → ∃ a3' : Value, ni_T (d + 3) 16 10 [.ref 23, .ref 2, .int (nI k), a3] [] z h Q = ni_T (d + 3) 16 67 [.ref 23, .ref 2, .int 5, a3'] [] z (ni_up h 27 (ni_I 5 (fs_nr c m k ne))) Q := by
  intro m
  induction m with
  | zero =>
    intro k ne a3 h e hI hN hT hC
    obtain rfl : k = 5 := by omega
    refine ⟨a3, ?_⟩
    rw [s16_10]
    simp +decide only [s16_0, s16_1, s16_1N, s16_2, s16_5, s16_8, s16_9, s16_11, s16_12, s16_15, s16_16, s16_19, s16_20, s16_21, s16_22, s16_23, s16_25, s16_26, s16_29, s16_30, s16_31, s16_34, s16_34N, s16_35, s16_36, s16_37, s16_40, s16_43, s16_44, s16_47, s16_48, s16_49, s16_50, s16_51, s16_52, s16_53, s16_54, s16_55, s16_58, s16_61, s16_64, s16_68, s16_71, s16_72, s16_73, s16_74, s16_75, s16_76, s16_77, s16_78, s16_81, s16_84, s16_85, s16_87, s16_90, s16_91, s16_92, s16_95, s16_98, s16_101, s16_102, s16_105, s16_106, s16_107, s16_107N, s16_108, s16_111, s16_112, s16_112N0, s16_115, s16_116, s16_119, s16_122, show nI 5 = 5 from rfl, ↓reduceIte, kl_i, kl_r, kl_n, kl_a, kl_l, up_s, up_up, is_0, is_s, gv_0, gv_s, pv_o, rc_o, okI_i, okI_x, okS_i, okB_x, gi_i, pi_i, okL_l, gl_l, pl_l, okA_2, okA_3, ga_a, arr_0, arr_1, arr_10, arr_11, len_a, sw_0, sw_i, sw_r, sw_l, fit_i, fit_z0, fit_z1, nz_0, nz_1, ni_K_s, ni_K_n, Nat.ble_eq, Nat.zero_le, Nat.zero_add, true_and, and_true, and_self, Bool.and_true, Bool.true_and, Bool.and_self, not_true_eq_false, not_false_eq_true, Int32.reduceLE, Int32.reduceLT, Int32.reduceAdd, Int32.reduceSub, Int32.reduceToNatClampNeg, Nat.reduceLeDiff, Nat.reduceAdd, Nat.reduceEqDiff, Nat.reduceSub, List.set_cons_zero, List.set_cons_succ, false_and, and_false, fs_nr]
    rw [up_id hN]
  | succ m ih =>
    intro k ne a3 h e hI hN hT hC
    have h1 : ¬ (5 : Int32) ≤ nI k := nI_ge (a := k) (b := 5) (by omega) (by omega)
    have l1 := L_lk1 (d := d) (z := z) (Q := Q) (li := li) (fo := fo) (n := n) (w := w) (fa := fa) (sd := sd) (c := c) (k := k) (by omega) 5 0 (upd ne k 0) (ni_up h 27 (ni_I 5 (upd ne k 0))) rfl (by rw [up_n (by decide)]; exact hI) up_s (by rw [up_n (by decide)]; exact hT) (by rw [up_n (by decide)]; exact hC)
    rw [nI_0, up_up] at l1
    obtain ⟨a3', l2⟩ := ih (k + 1) (fs_nr1 c k 5 0 (upd ne k 0)) (.int 5) (ni_up h 27 (ni_I 5 (fs_nr1 c k 5 0 (upd ne k 0)))) (by omega) (by rw [up_n (by decide)]; exact hI) up_s (by rw [up_n (by decide)]; exact hT) (by rw [up_n (by decide)]; exact hC)
    refine ⟨a3', ?_⟩
    rw [s16_10]
    simp +decide only [s16_0, s16_1, s16_1N, s16_2, s16_5, s16_8, s16_9, s16_11, s16_12, s16_15, s16_16, s16_19, s16_20, s16_21, s16_22, s16_23, s16_25, s16_26, s16_29, s16_30, s16_31, s16_34, s16_34N, s16_35, s16_36, s16_37, s16_40, s16_43, s16_44, s16_47, s16_48, s16_49, s16_50, s16_51, s16_52, s16_53, s16_54, s16_55, s16_58, s16_61, s16_64, s16_68, s16_71, s16_72, s16_73, s16_74, s16_75, s16_76, s16_77, s16_78, s16_81, s16_84, s16_85, s16_87, s16_90, s16_91, s16_92, s16_95, s16_98, s16_101, s16_102, s16_105, s16_106, s16_107, s16_107N, s16_108, s16_111, s16_112, s16_112N0, s16_115, s16_116, s16_119, s16_122, h1, hI, hN, in_n (k := k) (n := 5) (by omega) (by decide), nI_clamp (n := k) (by omega), ↓reduceIte, kl_i, kl_r, kl_n, kl_a, kl_l, up_s, up_up, is_0, is_s, gv_0, gv_s, pv_o, rc_o, okI_i, okI_x, okS_i, okB_x, gi_i, pi_i, okL_l, gl_l, pl_l, okA_2, okA_3, ga_a, arr_0, arr_1, arr_10, arr_11, len_a, sw_0, sw_i, sw_r, sw_l, fit_i, fit_z0, fit_z1, nz_0, nz_1, ni_K_s, ni_K_n, Nat.ble_eq, Nat.zero_le, Nat.zero_add, true_and, and_true, and_self, Bool.and_true, Bool.true_and, Bool.and_self, not_true_eq_false, not_false_eq_true, Int32.reduceLE, Int32.reduceLT, Int32.reduceAdd, Int32.reduceSub, Int32.reduceToNatClampNeg, Nat.reduceLeDiff, Nat.reduceAdd, Nat.reduceEqDiff, Nat.reduceSub, List.set_cons_zero, List.set_cons_succ, false_and, and_false]
    rw [l1, l2, up_up]
    rfl
end
