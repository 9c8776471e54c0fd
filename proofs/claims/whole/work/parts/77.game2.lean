set_option maxRecDepth 100000
set_option maxHeartbeats 1000000
/-! ===== game, the call ===== -/
theorem sm_congr {e1 e2 : Nat → Bool} : ∀ (m j : Nat), (∀ i, j ≤ i → i < j + m → e1 i = e2 i) → fs_sm e1 m j = fs_sm e2 m j := by
  intro m
  induction m with
  | zero => intro j _; rfl
  | succ m ih =>
    intro j h
    rw [fs_sm, fs_sm, h j (by omega) (by omega), ih (j + 1) (fun i a b => h i (by omega) (by omega))]
section
variable {tx tx' : Nat → Int32} (h : ∀ i, i < 1000 → tx i = tx' i)
theorem cw_tx (h : ∀ i, i < 1000 → tx i = tx' i) {p w : Nat} (hp : p < 900) (hw : w < 5) : fs_cw tx p w = fs_cw tx' p w := by
  have := wl_5 w hw
  exact sm_congr _ _ (fun i _ hi => by rw [h (p + i) (by omega)])
theorem wd_tx (h : ∀ i, i < 1000 → tx i = tx' i) {p : Nat} (hp : p < 900) : fs_wd tx p = fs_wd tx' p := by
  unfold fs_wd
  rw [cw_tx h hp (by decide), cw_tx h hp (by decide), cw_tx h hp (by decide), cw_tx h hp (by decide), cw_tx h hp (by decide)]
theorem num_tx (h : ∀ i, i < 1000 → tx i = tx' i) {p : Nat} {ok : Nat → Bool} (hp : p < 900) : fs_num tx p ok = fs_num tx' p ok := by
  have e : fs_nv tx (p + 1) = fs_nv tx' (p + 1) := by unfold fs_nv; rw [h (p + 1) (by omega), h (p + 1 + 1) (by omega)]
  unfold fs_num
  rw [h p (by omega), h (p + 1) (by omega), e]
theorem item_tx (h : ∀ i, i < 1000 → tx i = tx' i) {p n : Nat} {c : Nat → Int32} (hp : p < 800) : fs_item tx p n c = fs_item tx' p n c := by
  have hk : (fs_wd tx' p).2 ≤ 5 := by
    rcases wd_cases tx' p with e | e | e | e | e | ⟨k, k5, e⟩ <;> rw [e] <;> simp only <;> omega
  unfold fs_item
  rw [wd_tx h (by omega), num_tx h (p := p + (fs_wd tx' p).2) (by omega)]
  split
  · rfl
  · split
    · rfl
    · cases hm : fs_num tx' (p + (fs_wd tx' p).2) (fs_ok1 (fs_wd tx' p).1 n) with
      | inl q => rfl
      | inr v =>
        obtain ⟨a, e⟩ := v
        have := num_rb hm
        simp only
        rw [num_tx h (p := e) (by omega)]
theorem gm_tx (h : ∀ i, i < 1000 → tx i = tx' i) {le : Nat} (hle : le ≤ 160) : ∀ (f p k : Nat) (u : Nat → Nat → Int32), p ≤ 160 → fs_gm tx le f p k u = fs_gm tx' le f p k u := by
  intro f
  induction f with
  | zero => intro p k u _; rw [fs_gm, fs_gm]
  | succ f ih =>
    intro p k u hp
    rw [fs_gm, fs_gm, item_tx h (by omega)]
    cases hi : fs_item tx' p (fs_cn u) (u 0) with
    | inl q => rfl
    | inr v =>
      obtain ⟨wd, a, b, e⟩ := v
      simp only
      by_cases q1 : le ≤ e
      · rw [if_pos q1, if_pos q1]
      · rw [if_neg q1, if_neg q1, h e (by omega), ih (e + 1) (k + 1) _ (by omega)]
end
section
variable {J : Nat} {z : ni_Z} {h : ni_H}
theorem C_game (x : Int32) : fs_Inv J h → fs_C J z 80 154 [.ref 0, .int x, .retAddr 0, .retAddr 0, .retAddr 0] [.ref 49, .int x, .retAddr 0, .retAddr 0, .retAddr 0] h := by
  intro hI
  obtain ⟨hE, n, w, im, lf, u, v, mu, ran, tr, rf, hl, hd, so, szf, sh, kp, g, sz, ee, ce, X, M, P⟩ := hI
  have X' := X
  have M' := M
  have P' := P
  obtain ⟨x0, x1, xT, xV, xD, xM, x29, x30, x31, x32, xS, xL⟩ := X'
  obtain ⟨mT, m50, m57, m58, m59, m60, m61, m62, m63, m64, m65, m66, m67⟩ := M'
  have mT' := mT
  obtain ⟨m49, m51, m52, m53, m54, m55, m56, g0, g1, g2, g3⟩ := mT'
  have xT' := xT
  obtain ⟨t2, t3, t4, tH⟩ := xT'
  obtain ⟨pG, pR, p4, p31, p32, pr, pI, pS⟩ := P'
  have pG' := pG
  obtain ⟨u60, n4, u61, wn, cel, cel5, cdis, hnd⟩ := pG'
  have pR' := pR
  obtain ⟨r6, r0, rH⟩ := pR'
  have gn : g 0 = nI n := (g0.trans (r6 0 (by decide))).trans u60
  have gw : g 1 = nI w := (g1.trans (r6 1 (by decide))).trans u61
  have gf : g 2 = u 6 2 := g2.trans (r6 2 (by decide))
  have gs : g 3 = u 6 3 := g3.trans (r6 3 (by decide))
  rw [u60, u61] at t2
  rw [r0] at m56
  simp only [Nat.reduceAdd] at t2 t3 t4
  rcases ix8 x with q | ⟨k, hk, rfl⟩
  · refine C_r hE X M P (r := .int (-1)) (c := -1) (fun d Q => ?_) (fun h' N d Q => ?_)
    · simp +decide only [s80_0, s80_1, s80_2, s80_5, s80_5N, s80_6, s80_6N, s80_7, s80_7N0, s80_10, s80_11, s80_12, s80_15, s80_16, s80_17, s80_20, s80_21, s80_22, s80_25, s80_26, s80_29, s80_29N0, s80_32, s80_33, s80_36, s80_36N, s80_37, s80_38, s80_41, s80_41N1, s80_41N0, s80_41N0N1, s80_44, s80_46, s80_47, s80_48, s80_51, s80_54, s80_57, s80_58, s80_61, s80_62, s80_65, s80_66, s80_68, s80_71, s80_72, s80_73, s80_76, s80_77, s80_80, s80_80N0, s80_83, s80_85, x0, t2, X_shelfN q, X_noRowN, X_refuse x0 x32 no_1, ↓reduceIte, kl_i, kl_r, kl_n, kl_a, kl_l, up_s, up_up, is_0, is_s, gv_0, gv_s, pv_o, rc_o, okI_i, okI_x, okS_i, okB_x, gi_i, pi_i, okL_l, gl_l, pl_l, okA_2, okA_3, ga_a, arr_0, arr_1, arr_10, arr_11, len_a, sw_0, sw_i, sw_r, sw_l, fit_i, fit_z0, fit_z1, nz_0, nz_1, ni_K_s, ni_K_n, Nat.ble_eq, Nat.zero_le, Nat.zero_add, true_and, and_true, and_self, Bool.and_true, Bool.true_and, Bool.and_self, not_true_eq_false, not_false_eq_true, Int32.reduceLE, Int32.reduceLT, Int32.reduceAdd, Int32.reduceSub, Int32.reduceToNatClampNeg, Nat.reduceLeDiff, Nat.reduceAdd, Nat.reduceEqDiff, Nat.reduceSub, List.set_cons_zero, List.set_cons_succ, false_and, and_false]
    · obtain ⟨⟨k49, k51, k52, k53, k54, k55, k56, -, -, -, -⟩, k50, k57, k58, k59, k60, k61, k62, k63, k64, k65, k66, k67⟩ := N
      rw [r0] at k56
      simp +decide only [s154_0, s154_1, s154_2, s154_5, s154_6, s154_7, s154_10, s154_11, s154_12, s154_15, s154_16, s154_17, s154_18, s154_21, s154_22, s154_22N0, s154_25, s154_26, s154_29, s154_30, s154_31, s154_34, s154_35, s154_36, s154_39, s154_40, s154_41, s154_44, s154_45, s154_46, s154_49, s154_50, s154_51, s154_54, s154_55, s154_56, s154_57, s154_60, s154_62, s154_64, s154_67, s154_68, s154_71, s154_72, s154_75, s154_78, s154_79, s154_82, s154_83, s154_86, s154_87, s154_90, s154_91, s154_92, s154_93, s154_95, s154_98, s154_99, s154_100, s154_103, s154_106, s154_108, s154_111, s154_112, s154_112i, s154_113, s154_116, s154_117, s154_118, s154_121, s154_124, s154_125, s154_128, s154_130, s154_133, s154_135, s154_138, s154_139, s154_140, s154_141, s154_142, s154_145, s154_146, s154_146N0, s154_149, s154_150, s154_151, s154_154, s154_157, s154_158, s154_160, s154_163, k49, gn, fs_b, M_wantedN (isSh_f q), mrc, M_no k49 k50 no_1, Bool.false_eq_true, mi_0, mg_0, mi_1, mg_1, mi_2, mg_2, mi_3, mg_3, mi_4, mg_4, mi_5, mg_5, mi_6, mg_6, mi_7, mg_7, mi_8, mg_8, mi_9, mg_9, mi_10, mg_10, mi_11, mg_11, mi_12, mg_12, mi_13, mg_13, mi_14, mg_14, mi_15, mg_15, mi_16, mg_16, mi_17, mg_17, mi_18, mg_18, mi_19, mg_19, mi_20, mg_20, mi_21, mg_21, mi_22, mg_22, mi_23, mg_23, mi_24, mg_24, mi_25, mg_25, mi_26, mg_26, mi_27, mg_27, mi_28, mg_28, mi_29, mg_29, mi_30, mg_30, mi_31, mg_31, mi_32, mg_32, mq_0, mq_1, mq_2, mq_3, mq_4, mq_20, mq_21, mq_22, mq_23, mq_24, mq_27, mq_28, mq_29, mq_31, mq_32, mrc, ud_s, ud_n, ud_u, up_n, ↓reduceIte, kl_i, kl_r, kl_n, kl_a, kl_l, up_s, up_up, is_0, is_s, gv_0, gv_s, pv_o, rc_o, okI_i, okI_x, okS_i, okB_x, gi_i, pi_i, okL_l, gl_l, pl_l, okA_2, okA_3, ga_a, arr_0, arr_1, arr_10, arr_11, len_a, sw_0, sw_i, sw_r, sw_l, fit_i, fit_z0, fit_z1, nz_0, nz_1, ni_K_s, ni_K_n, Nat.ble_eq, Nat.zero_le, Nat.zero_add, true_and, and_true, and_self, Bool.and_true, Bool.true_and, Bool.and_self, not_true_eq_false, not_false_eq_true, Int32.reduceLE, Int32.reduceLT, Int32.reduceAdd, Int32.reduceSub, Int32.reduceToNatClampNeg, Nat.reduceLeDiff, Nat.reduceAdd, Nat.reduceEqDiff, Nat.reduceSub, List.set_cons_zero, List.set_cons_succ, false_and, and_false]
  have hs := xS k hk
  have he := xL k hk
  obtain ⟨s1, s2, s3, s4, s5, s6⟩ := pS k hk
  rcases s1 with e | e | e
  · have nr : fs_noRow (hl k) = -3 := by rw [e]; rfl
    refine C_r hE X M P (r := .int (-3)) (c := -3) (fun d Q => ?_) (fun h' N d Q => ?_)
    · simp +decide only [s80_0, s80_1, s80_2, s80_5, s80_5N, s80_6, s80_6N, s80_7, s80_7N0, s80_10, s80_11, s80_12, s80_15, s80_16, s80_17, s80_20, s80_21, s80_22, s80_25, s80_26, s80_29, s80_29N0, s80_32, s80_33, s80_36, s80_36N, s80_37, s80_38, s80_41, s80_41N1, s80_41N0, s80_41N0N1, s80_44, s80_46, s80_47, s80_48, s80_51, s80_54, s80_57, s80_58, s80_61, s80_62, s80_65, s80_66, s80_68, s80_71, s80_72, s80_73, s80_76, s80_77, s80_80, s80_80N0, s80_83, s80_85, x0, t2, X_shelfS x0 x1 hk, X_noRowS hs, nr, X_refuse x0 x32 no_3, ↓reduceIte, kl_i, kl_r, kl_n, kl_a, kl_l, up_s, up_up, is_0, is_s, gv_0, gv_s, pv_o, rc_o, okI_i, okI_x, okS_i, okB_x, gi_i, pi_i, okL_l, gl_l, pl_l, okA_2, okA_3, ga_a, arr_0, arr_1, arr_10, arr_11, len_a, sw_0, sw_i, sw_r, sw_l, fit_i, fit_z0, fit_z1, nz_0, nz_1, ni_K_s, ni_K_n, Nat.ble_eq, Nat.zero_le, Nat.zero_add, true_and, and_true, and_self, Bool.and_true, Bool.true_and, Bool.and_self, not_true_eq_false, not_false_eq_true, Int32.reduceLE, Int32.reduceLT, Int32.reduceAdd, Int32.reduceSub, Int32.reduceToNatClampNeg, Nat.reduceLeDiff, Nat.reduceAdd, Nat.reduceEqDiff, Nat.reduceSub, List.set_cons_zero, List.set_cons_succ, false_and, and_false]
    · obtain ⟨⟨k49, k51, k52, k53, k54, k55, k56, -, -, -, -⟩, k50, k57, k58, k59, k60, k61, k62, k63, k64, k65, k66, k67⟩ := N
      rw [r0] at k56
      simp +decide only [s154_0, s154_1, s154_2, s154_5, s154_6, s154_7, s154_10, s154_11, s154_12, s154_15, s154_16, s154_17, s154_18, s154_21, s154_22, s154_22N0, s154_25, s154_26, s154_29, s154_30, s154_31, s154_34, s154_35, s154_36, s154_39, s154_40, s154_41, s154_44, s154_45, s154_46, s154_49, s154_50, s154_51, s154_54, s154_55, s154_56, s154_57, s154_60, s154_62, s154_64, s154_67, s154_68, s154_71, s154_72, s154_75, s154_78, s154_79, s154_82, s154_83, s154_86, s154_87, s154_90, s154_91, s154_92, s154_93, s154_95, s154_98, s154_99, s154_100, s154_103, s154_106, s154_108, s154_111, s154_112, s154_112i, s154_113, s154_116, s154_117, s154_118, s154_121, s154_124, s154_125, s154_128, s154_130, s154_133, s154_135, s154_138, s154_139, s154_140, s154_141, s154_142, s154_145, s154_146, s154_146N0, s154_149, s154_150, s154_151, s154_154, s154_157, s154_158, s154_160, s154_163, k49, gn, fs_b, M_wantedS k49 k57 hk, nr, M_no k49 k50 no_3, Bool.false_eq_true, mi_0, mg_0, mi_1, mg_1, mi_2, mg_2, mi_3, mg_3, mi_4, mg_4, mi_5, mg_5, mi_6, mg_6, mi_7, mg_7, mi_8, mg_8, mi_9, mg_9, mi_10, mg_10, mi_11, mg_11, mi_12, mg_12, mi_13, mg_13, mi_14, mg_14, mi_15, mg_15, mi_16, mg_16, mi_17, mg_17, mi_18, mg_18, mi_19, mg_19, mi_20, mg_20, mi_21, mg_21, mi_22, mg_22, mi_23, mg_23, mi_24, mg_24, mi_25, mg_25, mi_26, mg_26, mi_27, mg_27, mi_28, mg_28, mi_29, mg_29, mi_30, mg_30, mi_31, mg_31, mi_32, mg_32, mq_0, mq_1, mq_2, mq_3, mq_4, mq_20, mq_21, mq_22, mq_23, mq_24, mq_27, mq_28, mq_29, mq_31, mq_32, mrc, ud_s, ud_n, ud_u, up_n, ↓reduceIte, kl_i, kl_r, kl_n, kl_a, kl_l, up_s, up_up, is_0, is_s, gv_0, gv_s, pv_o, rc_o, okI_i, okI_x, okS_i, okB_x, gi_i, pi_i, okL_l, gl_l, pl_l, okA_2, okA_3, ga_a, arr_0, arr_1, arr_10, arr_11, len_a, sw_0, sw_i, sw_r, sw_l, fit_i, fit_z0, fit_z1, nz_0, nz_1, ni_K_s, ni_K_n, Nat.ble_eq, Nat.zero_le, Nat.zero_add, true_and, and_true, and_self, Bool.and_true, Bool.true_and, Bool.and_self, not_true_eq_false, not_false_eq_true, Int32.reduceLE, Int32.reduceLT, Int32.reduceAdd, Int32.reduceSub, Int32.reduceToNatClampNeg, Nat.reduceLeDiff, Nat.reduceAdd, Nat.reduceEqDiff, Nat.reduceSub, List.set_cons_zero, List.set_cons_succ, false_and, and_false]
  rotate_left
  · have nr : fs_noRow (hl k) = -2 := by rw [e]; rfl
    refine C_r hE X M P (r := .int (-2)) (c := -2) (fun d Q => ?_) (fun h' N d Q => ?_)
    · simp +decide only [s80_0, s80_1, s80_2, s80_5, s80_5N, s80_6, s80_6N, s80_7, s80_7N0, s80_10, s80_11, s80_12, s80_15, s80_16, s80_17, s80_20, s80_21, s80_22, s80_25, s80_26, s80_29, s80_29N0, s80_32, s80_33, s80_36, s80_36N, s80_37, s80_38, s80_41, s80_41N1, s80_41N0, s80_41N0N1, s80_44, s80_46, s80_47, s80_48, s80_51, s80_54, s80_57, s80_58, s80_61, s80_62, s80_65, s80_66, s80_68, s80_71, s80_72, s80_73, s80_76, s80_77, s80_80, s80_80N0, s80_83, s80_85, x0, t2, X_shelfS x0 x1 hk, X_noRowS hs, nr, X_refuse x0 x32 no_2, ↓reduceIte, kl_i, kl_r, kl_n, kl_a, kl_l, up_s, up_up, is_0, is_s, gv_0, gv_s, pv_o, rc_o, okI_i, okI_x, okS_i, okB_x, gi_i, pi_i, okL_l, gl_l, pl_l, okA_2, okA_3, ga_a, arr_0, arr_1, arr_10, arr_11, len_a, sw_0, sw_i, sw_r, sw_l, fit_i, fit_z0, fit_z1, nz_0, nz_1, ni_K_s, ni_K_n, Nat.ble_eq, Nat.zero_le, Nat.zero_add, true_and, and_true, and_self, Bool.and_true, Bool.true_and, Bool.and_self, not_true_eq_false, not_false_eq_true, Int32.reduceLE, Int32.reduceLT, Int32.reduceAdd, Int32.reduceSub, Int32.reduceToNatClampNeg, Nat.reduceLeDiff, Nat.reduceAdd, Nat.reduceEqDiff, Nat.reduceSub, List.set_cons_zero, List.set_cons_succ, false_and, and_false]
    · obtain ⟨⟨k49, k51, k52, k53, k54, k55, k56, -, -, -, -⟩, k50, k57, k58, k59, k60, k61, k62, k63, k64, k65, k66, k67⟩ := N
      rw [r0] at k56
      simp +decide only [s154_0, s154_1, s154_2, s154_5, s154_6, s154_7, s154_10, s154_11, s154_12, s154_15, s154_16, s154_17, s154_18, s154_21, s154_22, s154_22N0, s154_25, s154_26, s154_29, s154_30, s154_31, s154_34, s154_35, s154_36, s154_39, s154_40, s154_41, s154_44, s154_45, s154_46, s154_49, s154_50, s154_51, s154_54, s154_55, s154_56, s154_57, s154_60, s154_62, s154_64, s154_67, s154_68, s154_71, s154_72, s154_75, s154_78, s154_79, s154_82, s154_83, s154_86, s154_87, s154_90, s154_91, s154_92, s154_93, s154_95, s154_98, s154_99, s154_100, s154_103, s154_106, s154_108, s154_111, s154_112, s154_112i, s154_113, s154_116, s154_117, s154_118, s154_121, s154_124, s154_125, s154_128, s154_130, s154_133, s154_135, s154_138, s154_139, s154_140, s154_141, s154_142, s154_145, s154_146, s154_146N0, s154_149, s154_150, s154_151, s154_154, s154_157, s154_158, s154_160, s154_163, k49, gn, fs_b, M_wantedS k49 k57 hk, nr, M_no k49 k50 no_2, Bool.false_eq_true, mi_0, mg_0, mi_1, mg_1, mi_2, mg_2, mi_3, mg_3, mi_4, mg_4, mi_5, mg_5, mi_6, mg_6, mi_7, mg_7, mi_8, mg_8, mi_9, mg_9, mi_10, mg_10, mi_11, mg_11, mi_12, mg_12, mi_13, mg_13, mi_14, mg_14, mi_15, mg_15, mi_16, mg_16, mi_17, mg_17, mi_18, mg_18, mi_19, mg_19, mi_20, mg_20, mi_21, mg_21, mi_22, mg_22, mi_23, mg_23, mi_24, mg_24, mi_25, mg_25, mi_26, mg_26, mi_27, mg_27, mi_28, mg_28, mi_29, mg_29, mi_30, mg_30, mi_31, mg_31, mi_32, mg_32, mq_0, mq_1, mq_2, mq_3, mq_4, mq_20, mq_21, mq_22, mq_23, mq_24, mq_27, mq_28, mq_29, mq_31, mq_32, mrc, ud_s, ud_n, ud_u, up_n, ↓reduceIte, kl_i, kl_r, kl_n, kl_a, kl_l, up_s, up_up, is_0, is_s, gv_0, gv_s, pv_o, rc_o, okI_i, okI_x, okS_i, okB_x, gi_i, pi_i, okL_l, gl_l, pl_l, okA_2, okA_3, ga_a, arr_0, arr_1, arr_10, arr_11, len_a, sw_0, sw_i, sw_r, sw_l, fit_i, fit_z0, fit_z1, nz_0, nz_1, ni_K_s, ni_K_n, Nat.ble_eq, Nat.zero_le, Nat.zero_add, true_and, and_true, and_self, Bool.and_true, Bool.true_and, Bool.and_self, not_true_eq_false, not_false_eq_true, Int32.reduceLE, Int32.reduceLT, Int32.reduceAdd, Int32.reduceSub, Int32.reduceToNatClampNeg, Nat.reduceLeDiff, Nat.reduceAdd, Nat.reduceEqDiff, Nat.reduceSub, List.set_cons_zero, List.set_cons_succ, false_and, and_false]
  have nr : fs_noRow (hl k) = 0 := by rw [e]; rfl
  have txe : ∀ i, i < 1000 → fs_int (ee k) (nI (sz k)) (nI i) = fs_mt ce (160 * k) (sz k) i := by
    intro i hi
    have a1 : ¬ nI i < 0 := nI_pos (by omega)
    unfold fs_int fs_mt
    rw [if_neg a1]
    by_cases q : i < sz k
    · rw [if_neg (nI_ge q (by omega)), if_pos q, nI_clamp (by omega), s6 i (by omega)]
    · rw [if_pos (nI_le (by omega) (by omega)), if_neg q]
  obtain ⟨wd, xD'⟩ := xD
  obtain ⟨h1, r1, f1, T1⟩ := XC_16_2 (z := z) xD' xT nz_5 cel5
  obtain ⟨ra, rb, rc, x31'⟩ := x31
  obtain ⟨h2, rr, r2, f2, cI, cR⟩ := X_read (z := z) (tx := fun i => fs_int (ee k) (nI (sz k)) (nI i)) (n := n) rfl (33 + 2 * k) (by omega) (by omega) s3 (fun w hw => (f1 _ (by omega)).trans (hE.2.2.1 w hw)) (fun w hw => (f1 _ (by omega)).trans (hE.2.2.2 w hw)) ((f1 31 (by omega)).trans x31') ((f1 _ (by omega)).trans hs) ((f1 _ (by omega)).trans he) T1 u60 n4
  have f12 : ∀ i, i ≠ 31 → (i < 16 ∨ 23 ≤ i) → h2 i = h i := fun i a b => by rw [f2 i a b, f1 i (by omega)]
  have x02 := (f12 0 (by omega) (by omega)).trans x0
  have x01 := (f1 0 (by omega)).trans x0
  have V16 := xD'.1
  simp only [Nat.reduceAdd] at V16
  have W16 := T1.1
  simp only [Nat.reduceAdd] at W16
  have rc31 : ni_rc (h1 31) 3 = true := by rw [f1 31 (by omega), x31']; rfl
  obtain ⟨wv, wv1, wv2⟩ := m63
  obtain ⟨te, hte⟩ := m64
  obtain ⟨wa, hwa⟩ := m65
  obtain ⟨ca, hca⟩ := m62
  -- the reference up to its first item
  have MM : ∀ (h' : ni_H), (∀ i, 49 ≤ i → i < 68 → h' i = h i) → ∃ (kw g1 : Nat → Int32), fs_kp kw mu ∧ g1 0 = nI n ∧ g1 20 = nI (160 * k) ∧ g1 21 = nI 0 ∧ g1 22 = nI (sz k) ∧ g1 4 = -1 ∧ (∀ i, i ≠ 20 → i ≠ 21 → i ≠ 22 → i ≠ 4 → g1 i = g i) ∧ fs_mtb mu g1 (ni_up (ni_up h' 65 (ni_I 30 kw)) 49 (fs_mo g1)) ∧ ∀ (d : Nat) (Q : ni_Q), ni_T (d + 40) 154 0 [.ref 49, .int (nI k), .retAddr 0, .retAddr 0, .retAddr 0] [] z h' Q = ni_T (d + 40) 154 56 [.ref 49, .int (nI k), .int 0, .int 1, .retAddr 0] [] z (ni_up (ni_up h' 65 (ni_I 30 kw)) 49 (fs_mo g1)) Q := by
    intro h' hh
    have N := IM_h M (h' := h') hh
    obtain ⟨kT, k50, k57, k58, k59, k60, k61, k62, k63, k64, k65, k66, k67⟩ := N
    obtain ⟨wa', hwa'⟩ := k65
    obtain ⟨kw, hkw, rw1⟩ := M_allF_65 (z := z) kT hwa'
    have kT1 : fs_mtb mu g (ni_up h' 65 (ni_I 30 kw)) := mtb_h kT (fun i a b => up_n (by omega))
    have e160 : 160 * nI k = nI (160 * k) := by rw [show (160 : Int32) = nI 160 from rfl, pk_mul]
    refine ⟨kw, upd (upd (upd (upd g 20 (nI (160 * k))) 21 0) 22 (nI (sz k))) 4 (-1), hkw, ?_, ?_, ?_, ?_, ud_s, fun i a b c d => by rw [ud_n d, ud_n c, ud_n b, ud_n a], mtb_g kT1 (fun i hi => by rw [ud_n (by omega), ud_n (by omega), ud_n (by omega), ud_n (by omega)]), fun d Q => ?_⟩
    · simp +decide only [ud_n]; exact gn
    · simp +decide only [ud_n, ud_s]
    · simp +decide only [ud_n, ud_s]
    · simp +decide only [ud_n, ud_s]
    · simp +decide only [s154_0, s154_1, s154_2, s154_5, s154_6, s154_7, s154_10, s154_11, s154_12, s154_15, s154_16, s154_17, s154_18, s154_21, s154_22, s154_22N0, s154_25, s154_26, s154_29, s154_30, s154_31, s154_34, s154_35, s154_36, s154_39, s154_40, s154_41, s154_44, s154_45, s154_46, s154_49, s154_50, s154_51, s154_54, s154_55, s154_57, s154_60, s154_62, s154_64, s154_67, s154_68, s154_71, s154_72, s154_75, s154_78, s154_79, s154_82, s154_83, s154_86, s154_87, s154_90, s154_91, s154_92, s154_93, s154_95, s154_98, s154_99, s154_100, s154_103, s154_106, s154_108, s154_111, s154_112, s154_112i, s154_113, s154_116, s154_117, s154_118, s154_121, s154_124, s154_125, s154_128, s154_130, s154_133, s154_135, s154_138, s154_139, s154_140, s154_141, s154_142, s154_145, s154_146, s154_146N0, s154_149, s154_150, s154_151, s154_154, s154_157, s154_158, s154_160, s154_163, kT.1, M_wantedS kT.1 k57 hk, nr, rw1, mi_0, mg_0, mi_1, mg_1, mi_2, mg_2, mi_3, mg_3, mi_4, mg_4, mi_5, mg_5, mi_6, mg_6, mi_7, mg_7, mi_8, mg_8, mi_9, mg_9, mi_10, mg_10, mi_11, mg_11, mi_12, mg_12, mi_13, mg_13, mi_14, mg_14, mi_15, mg_15, mi_16, mg_16, mi_17, mg_17, mi_18, mg_18, mi_19, mg_19, mi_20, mg_20, mi_21, mg_21, mi_22, mg_22, mi_23, mg_23, mi_24, mg_24, mi_25, mg_25, mi_26, mg_26, mi_27, mg_27, mi_28, mg_28, mi_29, mg_29, mi_30, mg_30, mi_31, mg_31, mi_32, mg_32, mq_0, mq_1, mq_2, mq_3, mq_4, mq_20, mq_21, mq_22, mq_23, mq_24, mq_27, mq_28, mq_29, mq_31, mq_32, mrc, ud_s, ud_n, ud_u, up_n, ↓reduceIte, kl_i, kl_r, kl_n, kl_a, kl_l, up_s, up_up, is_0, is_s, gv_0, gv_s, pv_o, rc_o, okI_i, okI_x, okS_i, okB_x, gi_i, pi_i, okL_l, gl_l, pl_l, okA_2, okA_3, ga_a, arr_0, arr_1, arr_10, arr_11, len_a, sw_0, sw_i, sw_r, sw_l, fit_i, fit_z0, fit_z1, nz_0, nz_1, ni_K_s, ni_K_n, Nat.ble_eq, Nat.zero_le, Nat.zero_add, true_and, and_true, and_self, Bool.and_true, Bool.true_and, Bool.and_self, not_true_eq_false, not_false_eq_true, Int32.reduceLE, Int32.reduceLT, Int32.reduceAdd, Int32.reduceSub, Int32.reduceToNatClampNeg, Nat.reduceLeDiff, Nat.reduceAdd, Nat.reduceEqDiff, Nat.reduceSub, List.set_cons_zero, List.set_cons_succ, false_and, and_false]
      simp +decide only [s154_0, s154_1, s154_2, s154_5, s154_6, s154_7, s154_10, s154_11, s154_12, s154_15, s154_16, s154_17, s154_18, s154_21, s154_22, s154_22N0, s154_25, s154_26, s154_29, s154_30, s154_31, s154_34, s154_35, s154_36, s154_39, s154_40, s154_41, s154_44, s154_45, s154_46, s154_49, s154_50, s154_51, s154_54, s154_55, s154_57, s154_60, s154_62, s154_64, s154_67, s154_68, s154_71, s154_72, s154_75, s154_78, s154_79, s154_82, s154_83, s154_86, s154_87, s154_90, s154_91, s154_92, s154_93, s154_95, s154_98, s154_99, s154_100, s154_103, s154_106, s154_108, s154_111, s154_112, s154_112i, s154_113, s154_116, s154_117, s154_118, s154_121, s154_124, s154_125, s154_128, s154_130, s154_133, s154_135, s154_138, s154_139, s154_140, s154_141, s154_142, s154_145, s154_146, s154_146N0, s154_149, s154_150, s154_151, s154_154, s154_157, s154_158, s154_160, s154_163, kT1.1, k59, s4, e160, fit_i, in_n (k := k) (n := 8) hk (by decide), nI_clamp (n := k) (by omega), up_n, up_up, mi_0, mg_0, mi_1, mg_1, mi_2, mg_2, mi_3, mg_3, mi_4, mg_4, mi_5, mg_5, mi_6, mg_6, mi_7, mg_7, mi_8, mg_8, mi_9, mg_9, mi_10, mg_10, mi_11, mg_11, mi_12, mg_12, mi_13, mg_13, mi_14, mg_14, mi_15, mg_15, mi_16, mg_16, mi_17, mg_17, mi_18, mg_18, mi_19, mg_19, mi_20, mg_20, mi_21, mg_21, mi_22, mg_22, mi_23, mg_23, mi_24, mg_24, mi_25, mg_25, mi_26, mg_26, mi_27, mg_27, mi_28, mg_28, mi_29, mg_29, mi_30, mg_30, mi_31, mg_31, mi_32, mg_32, mq_0, mq_1, mq_2, mq_3, mq_4, mq_20, mq_21, mq_22, mq_23, mq_24, mq_27, mq_28, mq_29, mq_31, mq_32, mrc, ud_s, ud_n, ud_u, up_n, ↓reduceIte, kl_i, kl_r, kl_n, kl_a, kl_l, up_s, up_up, is_0, is_s, gv_0, gv_s, pv_o, rc_o, okI_i, okI_x, okS_i, okB_x, gi_i, pi_i, okL_l, gl_l, pl_l, okA_2, okA_3, ga_a, arr_0, arr_1, arr_10, arr_11, len_a, sw_0, sw_i, sw_r, sw_l, fit_i, fit_z0, fit_z1, nz_0, nz_1, ni_K_s, ni_K_n, Nat.ble_eq, Nat.zero_le, Nat.zero_add, true_and, and_true, and_self, Bool.and_true, Bool.true_and, Bool.and_self, not_true_eq_false, not_false_eq_true, Int32.reduceLE, Int32.reduceLT, Int32.reduceAdd, Int32.reduceSub, Int32.reduceToNatClampNeg, Nat.reduceLeDiff, Nat.reduceAdd, Nat.reduceEqDiff, Nat.reduceSub, List.set_cons_zero, List.set_cons_succ, false_and, and_false]
  cases hg : fs_gm (fun i => fs_int (ee k) (nI (sz k)) (nI i)) (sz k) 160 0 1 u with
  | inl q =>
    obtain ⟨q200, ⟨u', T', u5⟩, a, b, h31⟩ := cI q hg
    have nm : ¬ nI q = -1 := nI_m1 (by omega)
    have eg : fs_gm (fs_mt ce (160 * k) (sz k)) (sz k) 160 0 1 mu = .inl q := by
      rw [← gm_tx txe s3 160 0 1 mu (by decide)]
      exact (gm_rel 160 0 1 n w u mu pG pR).1 q hg
    have hr0 := fun (d : Nat) (Q : ni_Q) => X_refuse (d := d) (z := z) (Q := Q) (x := -6) (h := ni_up h2 0 (ni_O 6 [.ref 1, .ref 2, .ref 9, .ref 16, .ref 23, .ref 29, .ref 31, .ref 32, .int im, .int (nI q)])) (im := im) (lf := nI q) (rf := rf) up_s (by rw [up_n (by decide), f12 32 (by omega) (by omega)]; exact x32) no_6
    generalize hh3 : ni_up (ni_up h2 0 (ni_O 6 [.ref 1, .ref 2, .ref 9, .ref 16, .ref 23, .ref 29, .ref 31, .ref 32, .int im, .int (nI q)])) 32 (ni_I 8 (fs_rf rf (-6))) = h3 at hr0
    have f23 : ∀ i, i ≠ 0 → i ≠ 32 → h3 i = h2 i := fun i a b => by rw [← hh3, up_n b, up_n a]
    have f3 : ∀ i, i ≠ 0 → i ≠ 32 → i ≠ 31 → (i < 16 ∨ 23 ≤ i) → h3 i = h i := fun i a b c d => by rw [f23 i a b, f12 i c d]
    have y0 : h3 0 = ni_O 6 [.ref 1, .ref 2, .ref 9, .ref 16, .ref 23, .ref 29, .ref 31, .ref 32, .int im, .int (nI q)] := by rw [← hh3, up_n (by decide)]; exact up_s
    have y32 : h3 32 = ni_I 8 (fs_rf rf (-6)) := by rw [← hh3]; exact up_s
    obtain ⟨kw, g1, hkw, w0, w20, w21, w22, w4, wk, H1, rM⟩ := MM h3 (fun i a b => f3 i (by omega) (by omega) (by omega) (by omega))
    have fK : ∀ i, i ≠ 49 → i ≠ 65 → ni_up (ni_up h3 65 (ni_I 30 kw)) 49 (fs_mo g1) i = h3 i := fun i a b => by rw [up_n a, up_n b]
    obtain ⟨h4, g4, m1, ⟨te4, hte4⟩, m3, m4, -⟩ := M_gm (z := z) (sv := nI k) (n := n) (u := mu) rfl wv2 s3 (show 160 * k + sz k ≤ 1280 by omega) H1 ((r6 0 (by decide)).trans u60) n4 w21 w22 w20 (by rw [fK _ (by decide) (by decide), f3 _ (by omega) (by omega) (by omega) (by omega)]; exact m61) (by rw [fK _ (by decide) (by decide), f3 _ (by omega) (by omega) (by omega) (by omega)]; exact wv1) (by rw [fK _ (by decide) (by decide), f3 _ (by omega) (by omega) (by omega) (by omega)]; exact hte)
    obtain ⟨v24, ⟨u4, H4, H4'⟩, kx, rG⟩ := m4 q eg
    have k65 : h4 65 = ni_I 30 kw := by rw [m1 65 (by decide) (by decide) (by decide), up_n (by decide)]; exact up_s
    obtain ⟨h5, g5, mu5, rB, f5, H5, e1, e2, e3, e4, gk5⟩ := M_allB_65 (z := z) H4 k65 hkw
    have ff5 : ∀ i, i ≠ 49 → i ≠ 64 → i ≠ 65 → (i < 51 ∨ 57 ≤ i) → h5 i = h3 i := fun i a b c d => by rw [f5 i a d, m1 i a b d, fK i a c]
    have v24' : g5 24 = nI q := (gk5 24 (by decide) (by decide) (by decide) (by decide)).trans v24
    have H6 : fs_mtb mu5 (upd g5 4 (nI q)) (ni_up h5 49 (fs_mo (upd g5 4 (nI q)))) := mtb_g H5 (fun i hi => by
      by_cases c : i = 4
      · omega
      · rw [ud_n c])
    have k50 : ni_up h5 49 (fs_mo (upd g5 4 (nI q))) 50 = ni_I 8 rf := by rw [up_n (by decide), ff5 50 (by decide) (by decide) (by decide) (by decide), f3 _ (by omega) (by omega) (by omega) (by omega)]; exact m50
    have mn := fun (d : Nat) (Q : ni_Q) => M_no (d := d) (z := z) (Q := Q) (x := -6) H6.1 k50 no_6
    generalize hh7 : ni_up (ni_up h5 49 (fs_mo (upd g5 4 (nI q)))) 50 (ni_I 8 (fs_rf rf (-6))) = h7 at mn
    have f7 : ∀ i, i ≠ 49 → i ≠ 50 → h7 i = h5 i := fun i a b => by rw [← hh7, up_n b, up_n a]
    have F7 : ∀ i, i ≠ 49 → i ≠ 50 → i ≠ 64 → i ≠ 65 → (i < 51 ∨ 57 ≤ i) → h7 i = h3 i := fun i a b c d e => by rw [f7 i a b, ff5 i a c d e]
    have G7 : ∀ i, i ≠ 0 → i ≠ 32 → i ≠ 31 → (i < 16 ∨ 23 ≤ i) → i ≠ 49 → i ≠ 50 → i ≠ 64 → i ≠ 65 → (i < 51 ∨ 57 ≤ i) → h7 i = h i := fun i a b c d e f g h j => by rw [F7 i e f g h j, f3 i a b c d]
    refine ⟨.int (-6), h3, h7, fun d Q => ?_, fun d Q => ?_, rfl, ?_⟩
    · simp +decide only [s80_0, s80_1, s80_2, s80_5, s80_5N, s80_6, s80_6N, s80_7, s80_7N0, s80_10, s80_11, s80_12, s80_15, s80_16, s80_17, s80_20, s80_21, s80_22, s80_25, s80_26, s80_29, s80_29N0, s80_32, s80_33, s80_36, s80_36N, s80_37, s80_38, s80_41, s80_41N1, s80_41N0, s80_41N0N1, s80_44, s80_46, s80_47, s80_48, s80_51, s80_54, s80_57, s80_58, s80_61, s80_62, s80_65, s80_66, s80_68, s80_71, s80_72, s80_73, s80_76, s80_77, s80_80, s80_80N0, s80_83, s80_85, x0, X_shelfS x0 x1 hk, X_noRowS hs, nr, V16, r1, x01, rc31, r2, x02, h31, nm, hr0, up_n, ↓reduceIte, kl_i, kl_r, kl_n, kl_a, kl_l, up_s, up_up, is_0, is_s, gv_0, gv_s, pv_o, rc_o, okI_i, okI_x, okS_i, okB_x, gi_i, pi_i, okL_l, gl_l, pl_l, okA_2, okA_3, ga_a, arr_0, arr_1, arr_10, arr_11, len_a, sw_0, sw_i, sw_r, sw_l, fit_i, fit_z0, fit_z1, nz_0, nz_1, ni_K_s, ni_K_n, Nat.ble_eq, Nat.zero_le, Nat.zero_add, true_and, and_true, and_self, Bool.and_true, Bool.true_and, Bool.and_self, not_true_eq_false, not_false_eq_true, Int32.reduceLE, Int32.reduceLT, Int32.reduceAdd, Int32.reduceSub, Int32.reduceToNatClampNeg, Nat.reduceLeDiff, Nat.reduceAdd, Nat.reduceEqDiff, Nat.reduceSub, List.set_cons_zero, List.set_cons_succ, false_and, and_false]
    · rw [rM, rG]
      simp +decide only [s154_0, s154_1, s154_2, s154_5, s154_6, s154_7, s154_10, s154_11, s154_12, s154_15, s154_16, s154_17, s154_18, s154_21, s154_22, s154_22N0, s154_25, s154_26, s154_29, s154_30, s154_31, s154_34, s154_35, s154_36, s154_39, s154_40, s154_41, s154_44, s154_45, s154_46, s154_49, s154_50, s154_51, s154_54, s154_55, s154_57, s154_60, s154_62, s154_64, s154_67, s154_68, s154_71, s154_72, s154_75, s154_78, s154_79, s154_82, s154_83, s154_86, s154_87, s154_90, s154_91, s154_92, s154_93, s154_95, s154_98, s154_99, s154_100, s154_103, s154_106, s154_108, s154_111, s154_112, s154_112i, s154_113, s154_116, s154_117, s154_118, s154_121, s154_124, s154_125, s154_128, s154_130, s154_133, s154_135, s154_138, s154_139, s154_140, s154_141, s154_142, s154_145, s154_146, s154_146N0, s154_149, s154_150, s154_151, s154_154, s154_157, s154_158, s154_160, s154_163, H4.1, rB, mi_0, mg_0, mi_1, mg_1, mi_2, mg_2, mi_3, mg_3, mi_4, mg_4, mi_5, mg_5, mi_6, mg_6, mi_7, mg_7, mi_8, mg_8, mi_9, mg_9, mi_10, mg_10, mi_11, mg_11, mi_12, mg_12, mi_13, mg_13, mi_14, mg_14, mi_15, mg_15, mi_16, mg_16, mi_17, mg_17, mi_18, mg_18, mi_19, mg_19, mi_20, mg_20, mi_21, mg_21, mi_22, mg_22, mi_23, mg_23, mi_24, mg_24, mi_25, mg_25, mi_26, mg_26, mi_27, mg_27, mi_28, mg_28, mi_29, mg_29, mi_30, mg_30, mi_31, mg_31, mi_32, mg_32, mq_0, mq_1, mq_2, mq_3, mq_4, mq_20, mq_21, mq_22, mq_23, mq_24, mq_27, mq_28, mq_29, mq_31, mq_32, mrc, ud_s, ud_n, ud_u, up_n, ↓reduceIte, kl_i, kl_r, kl_n, kl_a, kl_l, up_s, up_up, is_0, is_s, gv_0, gv_s, pv_o, rc_o, okI_i, okI_x, okS_i, okB_x, gi_i, pi_i, okL_l, gl_l, pl_l, okA_2, okA_3, ga_a, arr_0, arr_1, arr_10, arr_11, len_a, sw_0, sw_i, sw_r, sw_l, fit_i, fit_z0, fit_z1, nz_0, nz_1, ni_K_s, ni_K_n, Nat.ble_eq, Nat.zero_le, Nat.zero_add, true_and, and_true, and_self, Bool.and_true, Bool.true_and, Bool.and_self, not_true_eq_false, not_false_eq_true, Int32.reduceLE, Int32.reduceLT, Int32.reduceAdd, Int32.reduceSub, Int32.reduceToNatClampNeg, Nat.reduceLeDiff, Nat.reduceAdd, Nat.reduceEqDiff, Nat.reduceSub, List.set_cons_zero, List.set_cons_succ, false_and, and_false]
      simp +decide only [s154_0, s154_1, s154_2, s154_5, s154_6, s154_7, s154_10, s154_11, s154_12, s154_15, s154_16, s154_17, s154_18, s154_21, s154_22, s154_22N0, s154_25, s154_26, s154_29, s154_30, s154_31, s154_34, s154_35, s154_36, s154_39, s154_40, s154_41, s154_44, s154_45, s154_46, s154_49, s154_50, s154_51, s154_54, s154_55, s154_57, s154_60, s154_62, s154_64, s154_67, s154_68, s154_71, s154_72, s154_75, s154_78, s154_79, s154_82, s154_83, s154_86, s154_87, s154_90, s154_91, s154_92, s154_93, s154_95, s154_98, s154_99, s154_100, s154_103, s154_106, s154_108, s154_111, s154_112, s154_112i, s154_113, s154_116, s154_117, s154_118, s154_121, s154_124, s154_125, s154_128, s154_130, s154_133, s154_135, s154_138, s154_139, s154_140, s154_141, s154_142, s154_145, s154_146, s154_146N0, s154_149, s154_150, s154_151, s154_154, s154_157, s154_158, s154_160, s154_163, H5.1, v24', fit_i, mn, mi_0, mg_0, mi_1, mg_1, mi_2, mg_2, mi_3, mg_3, mi_4, mg_4, mi_5, mg_5, mi_6, mg_6, mi_7, mg_7, mi_8, mg_8, mi_9, mg_9, mi_10, mg_10, mi_11, mg_11, mi_12, mg_12, mi_13, mg_13, mi_14, mg_14, mi_15, mg_15, mi_16, mg_16, mi_17, mg_17, mi_18, mg_18, mi_19, mg_19, mi_20, mg_20, mi_21, mg_21, mi_22, mg_22, mi_23, mg_23, mi_24, mg_24, mi_25, mg_25, mi_26, mg_26, mi_27, mg_27, mi_28, mg_28, mi_29, mg_29, mi_30, mg_30, mi_31, mg_31, mi_32, mg_32, mq_0, mq_1, mq_2, mq_3, mq_4, mq_20, mq_21, mq_22, mq_23, mq_24, mq_27, mq_28, mq_29, mq_31, mq_32, mrc, ud_s, ud_n, ud_u, up_n, ↓reduceIte, kl_i, kl_r, kl_n, kl_a, kl_l, up_s, up_up, is_0, is_s, gv_0, gv_s, pv_o, rc_o, okI_i, okI_x, okS_i, okB_x, gi_i, pi_i, okL_l, gl_l, pl_l, okA_2, okA_3, ga_a, arr_0, arr_1, arr_10, arr_11, len_a, sw_0, sw_i, sw_r, sw_l, fit_i, fit_z0, fit_z1, nz_0, nz_1, ni_K_s, ni_K_n, Nat.ble_eq, Nat.zero_le, Nat.zero_add, true_and, and_true, and_self, Bool.and_true, Bool.true_and, Bool.and_self, not_true_eq_false, not_false_eq_true, Int32.reduceLE, Int32.reduceLT, Int32.reduceAdd, Int32.reduceSub, Int32.reduceToNatClampNeg, Nat.reduceLeDiff, Nat.reduceAdd, Nat.reduceEqDiff, Nat.reduceSub, List.set_cons_zero, List.set_cons_succ, false_and, and_false]
    · refine ⟨(fun i hi => G7 i (by omega) (by omega) (by omega) (by omega) (by omega) (by omega) (by omega) (by omega) (by omega)), IE_h hE (fun i hi => G7 i (by omega) (by omega) (by omega) (by omega) (by omega) (by omega) (by omega) (by omega) (by omega)), n, w, im, nI q, u, v, mu5, ran, tr, fs_rf rf (-6), hl, hd, so, szf, sh, kp, upd g5 4 (nI q), sz, ee, ce, ?_, ?_, ?_⟩
      · refine ⟨by rw [F7 _ (by omega) (by omega) (by omega) (by omega) (by omega)]; exact y0, by rw [G7 _ (by omega) (by omega) (by omega) (by omega) (by omega) (by omega) (by omega) (by omega) (by omega)]; exact x1, fs_tab_h (k := 0) xT (fun i h1 h2 => G7 i (by omega) (by omega) (by omega) (by omega) (by omega) (by omega) (by omega) (by omega) (by omega)), fs_tab_h (k := 0) xV (fun i h1 h2 => G7 i (by omega) (by omega) (by omega) (by omega) (by omega) (by omega) (by omega) (by omega) (by omega)), ⟨u', ?_⟩, mind_h xM (fun i h1 h2 => G7 i (by omega) (by omega) (by omega) (by omega) (by omega) (by omega) (by omega) (by omega) (by omega)), by rw [G7 _ (by omega) (by omega) (by omega) (by omega) (by omega) (by omega) (by omega) (by omega) (by omega)]; exact x29, by rw [G7 _ (by omega) (by omega) (by omega) (by omega) (by omega) (by omega) (by omega) (by omega) (by omega)]; exact x30, ⟨nI q, a, b, by rw [F7 _ (by omega) (by omega) (by omega) (by omega) (by omega), f23 _ (by omega) (by omega)]; exact h31⟩, by rw [F7 _ (by omega) (by omega) (by omega) (by omega) (by omega)]; exact y32, fun s hs => by rw [G7 _ (by omega) (by omega) (by omega) (by omega) (by omega) (by omega) (by omega) (by omega) (by omega)]; exact xS s hs, fun t ht => by rw [G7 _ (by omega) (by omega) (by omega) (by omega) (by omega) (by omega) (by omega) (by omega) (by omega)]; exact xL t ht⟩
        rw [nz_id (fun j hj => (u5 j hj).trans (cel5 j hj))]
        exact fs_tab_h (k := 0) T' (fun i h1 h2 => by rw [F7 i (by omega) (by omega) (by omega) (by omega) (by omega), f23 i (by omega) (by omega)])
      · have z50 : h7 50 = ni_I 8 (fs_rf rf (-6)) := by rw [← hh7]; exact up_s
        have z7 : fs_mtb mu5 (upd g5 4 (nI q)) h7 := by
          rw [← hh7]
          obtain ⟨c0, c1, c2, c3, c4, c5, c6, cb⟩ := H6
          exact ⟨by rw [up_n (by decide)]; exact c0, by rw [up_n (by decide)]; exact c1, by rw [up_n (by decide)]; exact c2, by rw [up_n (by decide)]; exact c3, by rw [up_n (by decide)]; exact c4, by rw [up_n (by decide)]; exact c5, by rw [up_n (by decide)]; exact c6, cb⟩
        exact ⟨z7, z50, by rw [G7 _ (by omega) (by omega) (by omega) (by omega) (by omega) (by omega) (by omega) (by omega) (by omega)]; exact m57, by rw [G7 _ (by omega) (by omega) (by omega) (by omega) (by omega) (by omega) (by omega) (by omega) (by omega)]; exact m58, by rw [G7 _ (by omega) (by omega) (by omega) (by omega) (by omega) (by omega) (by omega) (by omega) (by omega)]; exact m59, by rw [G7 _ (by omega) (by omega) (by omega) (by omega) (by omega) (by omega) (by omega) (by omega) (by omega)]; exact m60, by rw [G7 _ (by omega) (by omega) (by omega) (by omega) (by omega) (by omega) (by omega) (by omega) (by omega)]; exact m61, ⟨ca, by rw [G7 _ (by omega) (by omega) (by omega) (by omega) (by omega) (by omega) (by omega) (by omega) (by omega)]; exact hca⟩, ⟨wv, by rw [G7 _ (by omega) (by omega) (by omega) (by omega) (by omega) (by omega) (by omega) (by omega) (by omega)]; exact wv1, wv2⟩, ⟨te4, by rw [f7 64 (by decide) (by decide), f5 64 (by decide) (by decide)]; exact hte4⟩, ⟨kw, by rw [f7 65 (by decide) (by decide), f5 65 (by decide) (by decide)]; exact k65⟩, by rw [G7 _ (by omega) (by omega) (by omega) (by omega) (by omega) (by omega) (by omega) (by omega) (by omega)]; exact m66, by rw [G7 _ (by omega) (by omega) (by omega) (by omega) (by omega) (by omega) (by omega) (by omega) (by omega)]; exact m67⟩
      · obtain ⟨a1, a2, a3, a4, a5, a6, a7, a8⟩ := IP_J P (show J ≤ J + 100 by omega)
        have gg : ∀ i, i = 31 ∨ i = 32 → upd g5 4 (nI q) i = g i := fun i hi => by
          rw [ud_n (by omega), gk5 i (by omega) (by omega) (by omega) (by omega), m3 i (by omega) (by omega) (by omega) (by omega) (by omega), wk i (by omega) (by omega) (by omega) (by omega)]
        refine ⟨a1, ⟨fun i hi => by rw [e4 i hi]; exact r6 i hi, ?_, fun i k c1 c2 c3 => by rw [e1 i k c1 c2 (by omega)]; exact rH i k c1 c2 c3⟩, ud_s, (gg 31 (Or.inl rfl)).trans p31, (gg 32 (Or.inr rfl)).trans p32, a6, a7, a8⟩
        funext j
        rcases Nat.lt_or_ge j 5 with c | c
        · rw [e2 j c, r0]
        · rw [e3 j c, H4' j c, r0]
  | inr v' =>
    obtain ⟨k', u'⟩ := v'
    obtain ⟨er, T', a, b, h31⟩ := cR k' u' hg
    subst er
    obtain ⟨mu', n', w', hn', eg, G', R'⟩ := (gm_rel 160 0 1 n w u mu pG pR).2 k' u' hg
    rw [gm_tx txe s3 160 0 1 mu (by decide)] at eg
    have u'5 := G'.2.2.2.2.2.1
    have f23 : ∀ i, i ≠ 0 → ni_up h2 0 (ni_O 6 [.ref 1, .ref 2, .ref 9, .ref 16, .ref 23, .ref 29, .ref 31, .ref 32, .int im, .int (-1)]) i = h2 i := fun i a => up_n a
    have y0 : ni_up h2 0 (ni_O 6 [.ref 1, .ref 2, .ref 9, .ref 16, .ref 23, .ref 29, .ref 31, .ref 32, .int im, .int (-1)]) 0 = ni_O 6 [.ref 1, .ref 2, .ref 9, .ref 16, .ref 23, .ref 29, .ref 31, .ref 32, .int im, .int (-1)] := up_s
    obtain ⟨h4, r4, f4, T4⟩ := XC_2_16 (z := z) (h := ni_up h2 0 (ni_O 6 [.ref 1, .ref 2, .ref 9, .ref 16, .ref 23, .ref 29, .ref 31, .ref 32, .int im, .int (-1)])) (fs_tab_h (k := 0) xT (fun i a b => by rw [f23 i (by omega), f12 i (by omega) (by omega)])) (fs_tab_h (k := 0) T' (fun i a b => f23 i (by omega))) cel5 u'5
    have f24 : ∀ i, i ≠ 0 → (i < 2 ∨ 9 ≤ i) → h4 i = h2 i := fun i a b => by rw [f4 i (by omega), f23 i a]
    have f3 : ∀ i, i ≠ 0 → (i < 2 ∨ 9 ≤ i) → i ≠ 31 → (i < 16 ∨ 23 ≤ i) → h4 i = h i := fun i a b c d => by rw [f24 i a b, f12 i c d]
    obtain ⟨kw, g1, hkw, w0, w20, w21, w22, w4, wk, H1, rM⟩ := MM h4 (fun i a b => f3 i (by omega) (by omega) (by omega) (by omega))
    have fK : ∀ i, i ≠ 49 → i ≠ 65 → ni_up (ni_up h4 65 (ni_I 30 kw)) 49 (fs_mo g1) i = h4 i := fun i a b => by rw [up_n a, up_n b]
    obtain ⟨h5, g5, m1, ⟨te4, hte4⟩, m3, -, m4⟩ := M_gm (z := z) (sv := nI k) (n := n) (u := mu) rfl wv2 s3 (show 160 * k + sz k ≤ 1280 by omega) H1 ((r6 0 (by decide)).trans u60) n4 w21 w22 w20 (by rw [fK _ (by decide) (by decide), f3 _ (by omega) (by omega) (by omega) (by omega)]; exact m61) (by rw [fK _ (by decide) (by decide), f3 _ (by omega) (by omega) (by omega) (by omega)]; exact wv1) (by rw [fK _ (by decide) (by decide), f3 _ (by omega) (by omega) (by omega) (by omega)]; exact hte)
    obtain ⟨H5, rG⟩ := m4 k' mu' eg
    have k65 : h5 65 = ni_I 30 kw := by rw [m1 65 (by decide) (by decide) (by decide), up_n (by decide)]; exact up_s
    have F5 : ∀ i, i ≠ 49 → i ≠ 64 → i ≠ 65 → (i < 51 ∨ 57 ≤ i) → h5 i = h4 i := fun i a b c d => by rw [m1 i a b d, fK i a c]
    have G5 : ∀ i, i ≠ 0 → (i < 2 ∨ 9 ≤ i) → i ≠ 31 → (i < 16 ∨ 23 ≤ i) → i ≠ 49 → i ≠ 64 → i ≠ 65 → (i < 51 ∨ 57 ≤ i) → h5 i = h i := fun i a b c d e f g h => by rw [F5 i e f g h, f3 i a b c d]
    refine ⟨.int (nI k'), h4, h5, fun d Q => ?_, fun d Q => ?_, rfl, ?_⟩
    · simp +decide only [s80_0, s80_1, s80_2, s80_5, s80_5N, s80_6, s80_6N, s80_7, s80_7N0, s80_10, s80_11, s80_12, s80_15, s80_16, s80_17, s80_20, s80_21, s80_22, s80_25, s80_26, s80_29, s80_29N0, s80_32, s80_33, s80_36, s80_36N, s80_37, s80_38, s80_41, s80_41N1, s80_41N0, s80_41N0N1, s80_44, s80_46, s80_47, s80_48, s80_51, s80_54, s80_57, s80_58, s80_61, s80_62, s80_65, s80_66, s80_68, s80_71, s80_72, s80_73, s80_76, s80_77, s80_80, s80_80N0, s80_83, s80_85, x0, X_shelfS x0 x1 hk, X_noRowS hs, nr, V16, r1, x01, rc31, r2, x02, h31, f12 2 (by omega) (by omega), t2, r4, up_n, ↓reduceIte, kl_i, kl_r, kl_n, kl_a, kl_l, up_s, up_up, is_0, is_s, gv_0, gv_s, pv_o, rc_o, okI_i, okI_x, okS_i, okB_x, gi_i, pi_i, okL_l, gl_l, pl_l, okA_2, okA_3, ga_a, arr_0, arr_1, arr_10, arr_11, len_a, sw_0, sw_i, sw_r, sw_l, fit_i, fit_z0, fit_z1, nz_0, nz_1, ni_K_s, ni_K_n, Nat.ble_eq, Nat.zero_le, Nat.zero_add, true_and, and_true, and_self, Bool.and_true, Bool.true_and, Bool.and_self, not_true_eq_false, not_false_eq_true, Int32.reduceLE, Int32.reduceLT, Int32.reduceAdd, Int32.reduceSub, Int32.reduceToNatClampNeg, Nat.reduceLeDiff, Nat.reduceAdd, Nat.reduceEqDiff, Nat.reduceSub, List.set_cons_zero, List.set_cons_succ, false_and, and_false]
    · rw [rM, rG]
    · refine ⟨(fun i hi => G5 i (by omega) (by omega) (by omega) (by omega) (by omega) (by omega) (by omega) (by omega)), IE_h hE (fun i hi => G5 i (by omega) (by omega) (by omega) (by omega) (by omega) (by omega) (by omega) (by omega)), n', w', im, -1, u', v, mu', ran, tr, rf, hl, hd, so, szf, sh, kp, g5, sz, ee, ce, ?_, ?_, ?_⟩
      · refine ⟨by rw [F5 _ (by omega) (by omega) (by omega) (by omega), f4 0 (by omega)]; exact y0, by rw [G5 _ (by omega) (by omega) (by omega) (by omega) (by omega) (by omega) (by omega) (by omega)]; exact x1, fs_tab_h (k := 0) T4 (fun i h1 h2 => F5 i (by omega) (by omega) (by omega) (by omega)), fs_tab_h (k := 0) xV (fun i h1 h2 => G5 i (by omega) (by omega) (by omega) (by omega) (by omega) (by omega) (by omega) (by omega)), ⟨u', ?_⟩, mind_h xM (fun i h1 h2 => G5 i (by omega) (by omega) (by omega) (by omega) (by omega) (by omega) (by omega) (by omega)), by rw [G5 _ (by omega) (by omega) (by omega) (by omega) (by omega) (by omega) (by omega) (by omega)]; exact x29, by rw [G5 _ (by omega) (by omega) (by omega) (by omega) (by omega) (by omega) (by omega) (by omega)]; exact x30, ⟨-1, a, b, by rw [F5 _ (by omega) (by omega) (by omega) (by omega), f24 _ (by omega) (by omega)]; exact h31⟩, by rw [G5 _ (by omega) (by omega) (by omega) (by omega) (by omega) (by omega) (by omega) (by omega)]; exact x32, fun s hs => by rw [G5 _ (by omega) (by omega) (by omega) (by omega) (by omega) (by omega) (by omega) (by omega)]; exact xS s hs, fun t ht => by rw [G5 _ (by omega) (by omega) (by omega) (by omega) (by omega) (by omega) (by omega) (by omega)]; exact xL t ht⟩
        rw [nz_id u'5]
        exact fs_tab_h (k := 0) T' (fun i h1 h2 => by rw [F5 i (by omega) (by omega) (by omega) (by omega), f24 i (by omega) (by omega)])
      · exact ⟨H5, by rw [G5 _ (by omega) (by omega) (by omega) (by omega) (by omega) (by omega) (by omega) (by omega)]; exact m50, by rw [G5 _ (by omega) (by omega) (by omega) (by omega) (by omega) (by omega) (by omega) (by omega)]; exact m57, by rw [G5 _ (by omega) (by omega) (by omega) (by omega) (by omega) (by omega) (by omega) (by omega)]; exact m58, by rw [G5 _ (by omega) (by omega) (by omega) (by omega) (by omega) (by omega) (by omega) (by omega)]; exact m59, by rw [G5 _ (by omega) (by omega) (by omega) (by omega) (by omega) (by omega) (by omega) (by omega)]; exact m60, by rw [G5 _ (by omega) (by omega) (by omega) (by omega) (by omega) (by omega) (by omega) (by omega)]; exact m61, ⟨ca, by rw [G5 _ (by omega) (by omega) (by omega) (by omega) (by omega) (by omega) (by omega) (by omega)]; exact hca⟩, ⟨wv, by rw [G5 _ (by omega) (by omega) (by omega) (by omega) (by omega) (by omega) (by omega) (by omega)]; exact wv1, wv2⟩, ⟨te4, hte4⟩, ⟨kw, k65⟩, by rw [G5 _ (by omega) (by omega) (by omega) (by omega) (by omega) (by omega) (by omega) (by omega)]; exact m66, by rw [G5 _ (by omega) (by omega) (by omega) (by omega) (by omega) (by omega) (by omega) (by omega)]; exact m67⟩
      · obtain ⟨a1, a2, a3, a4, a5, a6, a7, a8⟩ := IP_J P (show J ≤ J + 100 by omega)
        have gg : ∀ i, i = 31 ∨ i = 32 → g5 i = g i := fun i hi => by
          rw [m3 i (by omega) (by omega) (by omega) (by omega) (by omega), wk i (by omega) (by omega) (by omega) (by omega)]
        refine ⟨good_J G' (by omega), R', (m3 4 (by decide) (by decide) (by decide) (by decide) (by decide)).trans w4, (gg 31 (Or.inl rfl)).trans p31, (gg 32 (Or.inr rfl)).trans p32, a6, a7, fun s hs => ?_⟩
        obtain ⟨j1, j2, j3, j4, j5, j6⟩ := a8 s hs
        exact ⟨j1, j2, j3, j4, fun q => ⟨(j5 q).1, by obtain ⟨k, k1, k2⟩ := (j5 q).2; exact ⟨k, by omega, k2⟩⟩, j6⟩
end
