set_option maxRecDepth 100000
set_option maxHeartbeats 4000000
/-! ===== the reference reads a game ===== -/
section
variable {z : ni_Z} {wv : Nat → Int32} {ce : Nat → Int64} {le base : Nat}
theorem M_item {h : ni_H} {u : Nat → Nat → Int32} {g te : Nat → Int32} {p n : Nat} {tx : Nat → Int32} (htx : tx = fs_mt ce base le) (H : fs_mtb u g h) (hn : u 6 0 = nI n) (n4 : n ≤ 4) (hat : g 21 = nI p) (ha : g 22 = nI le) (hb : g 20 = nI base) (hE : h 61 = ni_L 1280 ce) (hW : h 63 = ni_I 30 wv) (hT : h 64 = ni_I 2 te) (hv : ∀ i, i < 30 → wv i = fs_wrd i) (hp : p < 700) (hle : le ≤ 160) (hbs : base + le ≤ 1280) : (∀ q, fs_item tx p n (u 0) = .inl q → fs_QL z h u g q) ∧ (∀ w a b e, fs_item tx p n (u 0) = .inr (w, a, b, e) → fs_QR z h u g w a b e) := by
  rcases wd_cases tx p with q | q | q | q | q | ⟨k, k5, q⟩
  · exact M_item0 htx H hn n4 hat ha hb hE hW hT hv hp hle hbs q
  · exact M_item1 htx H hn n4 hat ha hb hE hW hT hv hp hle hbs q
  · exact M_item2 htx H hn n4 hat ha hb hE hW hT hv hp hle hbs q
  · exact M_item3 htx H hn n4 hat ha hb hE hW hT hv hp hle hbs q
  · exact M_item4 htx H hn n4 hat ha hb hE hW hT hv hp hle hbs q
  · have := M_item5 (z := z) htx H hn n4 hat ha hb hE hW hT hv hp hle hbs q
    have e : fs_item tx p n (u 0) = .inl (p + k) := by unfold fs_item; rw [q]; simp
    rw [e]
    exact ⟨fun q' h' => by cases h'; exact this, fun _ _ _ _ h' => by cases h'⟩
/-- behind an item that ends at e -/
def fs_g2 (tx : Nat → Int32) (le fu e k : Nat) (u : Nat → Nat → Int32) : Nat ⊕ (Nat × (Nat → Nat → Int32)) := if le ≤ e then .inr (k, u) else if tx e = 59 then fs_gm tx le fu (e + 1) (k + 1) u else .inl e
theorem gm_g2 {tx : Nat → Int32} {fu p k : Nat} {u : Nat → Nat → Int32} : fs_gm tx le (fu + 1) p k u = match fs_item tx p (fs_cn u) (u 0) with
    | .inl q => .inl q
    | .inr (w, a, b, e) => fs_g2 tx le fu e k (fs_ai w a b u) := rfl
theorem L_mg {tx : Nat → Int32} {sv : Int32} (htx : tx = fs_mt ce base le) (hv : ∀ i, i < 30 → wv i = fs_wrd i) (hle : le ≤ 160) (hbs : base + le ≤ 1280) : ∀ (fu e k n : Nat) (u : Nat → Nat → Int32) (g te : Nat → Int32) (h : ni_H), 163 ≤ fu + e → k + fu ≤ 160 → e ≤ 172 → fs_mtb u g h → u 6 0 = nI n → n ≤ 4 → g 21 = nI e → g 22 = nI le → g 20 = nI base → h 61 = ni_L 1280 ce → h 63 = ni_I 30 wv → h 64 = ni_I 2 te → ∃ (h' : ni_H) (g' : Nat → Int32), fs_fM h h' ∧ (∃ te : Nat → Int32, h' 64 = ni_I 2 te) ∧ fs_gk g g' ∧ (∀ q, fs_g2 tx le fu e k u = .inl q → g' 24 = nI q ∧ (∃ u', fs_mtb u' g' h' ∧ (∀ j, 5 ≤ j → u' 0 j = u 0 j)) ∧ ∃ kx : Int32, ∀ (d : Nat) (Q : ni_Q), ni_T (d + 5) 154 62 [.ref 49, .int sv, .int 0, .int (nI k), .int 1] [] z h Q = ni_T (d + 5) 154 140 [.ref 49, .int sv, .int 0, .int kx, .int 0] [] z h' Q) ∧ (∀ k' u', fs_g2 tx le fu e k u = .inr (k', u') → fs_mtb u' g' h' ∧ ∀ (d : Nat) (Q : ni_Q), ni_T (d + 5) 154 62 [.ref 49, .int sv, .int 0, .int (nI k), .int 1] [] z h Q = Q (some (.int (nI k'))) z h') := by
  intro fu
  induction fu with
  | zero =>
    intro e k n u g te h i1 i2 i3 H hn n4 hat ha hb hE hW hT
    have hM := H.1
    have q1 : le ≤ e := by omega
    have q1' : nI le ≤ nI e := nI_le q1 (by omega)
    refine ⟨h, g, fun _ _ _ _ => rfl, ⟨te, hT⟩, fun _ _ _ _ _ _ => rfl, fun q hq => ?_, fun k' u' hq => ?_⟩
    · unfold fs_g2 at hq; rw [if_pos q1] at hq; cases hq
    · unfold fs_g2 at hq
      rw [if_pos q1] at hq
      cases hq
      refine ⟨H, fun d Q => ?_⟩
      rw [s154_62]
      simp +decide only [s154_0, s154_1, s154_2, s154_5, s154_6, s154_7, s154_10, s154_11, s154_12, s154_15, s154_16, s154_17, s154_18, s154_21, s154_22, s154_22N0, s154_25, s154_26, s154_29, s154_30, s154_31, s154_34, s154_35, s154_36, s154_39, s154_40, s154_41, s154_44, s154_45, s154_46, s154_49, s154_50, s154_51, s154_54, s154_55, s154_56, s154_57, s154_60, s154_64, s154_67, s154_68, s154_71, s154_72, s154_75, s154_78, s154_79, s154_82, s154_83, s154_86, s154_87, s154_90, s154_91, s154_92, s154_93, s154_95, s154_98, s154_99, s154_100, s154_103, s154_106, s154_108, s154_111, s154_112, s154_112i, s154_113, s154_116, s154_117, s154_118, s154_121, s154_124, s154_125, s154_128, s154_130, s154_133, s154_135, s154_138, s154_139, s154_140, s154_141, s154_142, s154_145, s154_146, s154_146N0, s154_149, s154_150, s154_151, s154_154, s154_157, s154_158, s154_160, s154_163, hM, hat, ha, q1', mi_0, mg_0, mi_1, mg_1, mi_2, mg_2, mi_3, mg_3, mi_4, mg_4, mi_5, mg_5, mi_6, mg_6, mi_7, mg_7, mi_8, mg_8, mi_9, mg_9, mi_10, mg_10, mi_11, mg_11, mi_12, mg_12, mi_13, mg_13, mi_14, mg_14, mi_15, mg_15, mi_16, mg_16, mi_17, mg_17, mi_18, mg_18, mi_19, mg_19, mi_20, mg_20, mi_21, mg_21, mi_22, mg_22, mi_23, mg_23, mi_24, mg_24, mi_25, mg_25, mi_26, mg_26, mi_27, mg_27, mi_28, mg_28, mi_29, mg_29, mi_30, mg_30, mi_31, mg_31, mi_32, mg_32, mq_0, mq_1, mq_2, mq_3, mq_4, mq_20, mq_21, mq_22, mq_23, mq_24, mq_27, mq_28, mq_29, mq_31, mq_32, mrc, ud_s, ud_n, ud_u, up_n, ↓reduceIte, kl_i, kl_r, kl_n, kl_a, kl_l, up_s, up_up, is_0, is_s, gv_0, gv_s, pv_o, rc_o, okI_i, okI_x, okS_i, okB_x, gi_i, pi_i, okL_l, gl_l, pl_l, okA_2, okA_3, ga_a, arr_0, arr_1, arr_10, arr_11, len_a, sw_0, sw_i, sw_r, sw_l, fit_i, fit_z0, fit_z1, nz_0, nz_1, ni_K_s, ni_K_n, Nat.ble_eq, Nat.zero_le, Nat.zero_add, true_and, and_true, and_self, Bool.and_true, Bool.true_and, Bool.and_self, not_true_eq_false, not_false_eq_true, Int32.reduceLE, Int32.reduceLT, Int32.reduceAdd, Int32.reduceSub, Int32.reduceToNatClampNeg, Nat.reduceLeDiff, Nat.reduceAdd, Nat.reduceEqDiff, Nat.reduceSub, List.set_cons_zero, List.set_cons_succ, false_and, and_false]
  | succ fu ih =>
    intro e k n u g te h i1 i2 i3 H hn n4 hat ha hb hE hW hT
    have hM := H.1
    have ete : tx e = if e < le then (ce (base + e)).toInt32 else 0 := by rw [htx]; rfl
    unfold fs_g2
    by_cases q1 : le ≤ e
    · have q1' : nI le ≤ nI e := nI_le q1 (by omega)
      rw [if_pos q1]
      refine ⟨h, g, fun _ _ _ _ => rfl, ⟨te, hT⟩, fun _ _ _ _ _ _ => rfl, fun q hq => (by cases hq), fun k' u' hq => ?_⟩
      cases hq
      refine ⟨H, fun d Q => ?_⟩
      rw [s154_62]
      simp +decide only [s154_0, s154_1, s154_2, s154_5, s154_6, s154_7, s154_10, s154_11, s154_12, s154_15, s154_16, s154_17, s154_18, s154_21, s154_22, s154_22N0, s154_25, s154_26, s154_29, s154_30, s154_31, s154_34, s154_35, s154_36, s154_39, s154_40, s154_41, s154_44, s154_45, s154_46, s154_49, s154_50, s154_51, s154_54, s154_55, s154_56, s154_57, s154_60, s154_64, s154_67, s154_68, s154_71, s154_72, s154_75, s154_78, s154_79, s154_82, s154_83, s154_86, s154_87, s154_90, s154_91, s154_92, s154_93, s154_95, s154_98, s154_99, s154_100, s154_103, s154_106, s154_108, s154_111, s154_112, s154_112i, s154_113, s154_116, s154_117, s154_118, s154_121, s154_124, s154_125, s154_128, s154_130, s154_133, s154_135, s154_138, s154_139, s154_140, s154_141, s154_142, s154_145, s154_146, s154_146N0, s154_149, s154_150, s154_151, s154_154, s154_157, s154_158, s154_160, s154_163, hM, hat, ha, q1', mi_0, mg_0, mi_1, mg_1, mi_2, mg_2, mi_3, mg_3, mi_4, mg_4, mi_5, mg_5, mi_6, mg_6, mi_7, mg_7, mi_8, mg_8, mi_9, mg_9, mi_10, mg_10, mi_11, mg_11, mi_12, mg_12, mi_13, mg_13, mi_14, mg_14, mi_15, mg_15, mi_16, mg_16, mi_17, mg_17, mi_18, mg_18, mi_19, mg_19, mi_20, mg_20, mi_21, mg_21, mi_22, mg_22, mi_23, mg_23, mi_24, mg_24, mi_25, mg_25, mi_26, mg_26, mi_27, mg_27, mi_28, mg_28, mi_29, mg_29, mi_30, mg_30, mi_31, mg_31, mi_32, mg_32, mq_0, mq_1, mq_2, mq_3, mq_4, mq_20, mq_21, mq_22, mq_23, mq_24, mq_27, mq_28, mq_29, mq_31, mq_32, mrc, ud_s, ud_n, ud_u, up_n, ↓reduceIte, kl_i, kl_r, kl_n, kl_a, kl_l, up_s, up_up, is_0, is_s, gv_0, gv_s, pv_o, rc_o, okI_i, okI_x, okS_i, okB_x, gi_i, pi_i, okL_l, gl_l, pl_l, okA_2, okA_3, ga_a, arr_0, arr_1, arr_10, arr_11, len_a, sw_0, sw_i, sw_r, sw_l, fit_i, fit_z0, fit_z1, nz_0, nz_1, ni_K_s, ni_K_n, Nat.ble_eq, Nat.zero_le, Nat.zero_add, true_and, and_true, and_self, Bool.and_true, Bool.true_and, Bool.and_self, not_true_eq_false, not_false_eq_true, Int32.reduceLE, Int32.reduceLT, Int32.reduceAdd, Int32.reduceSub, Int32.reduceToNatClampNeg, Nat.reduceLeDiff, Nat.reduceAdd, Nat.reduceEqDiff, Nat.reduceSub, List.set_cons_zero, List.set_cons_succ, false_and, and_false]
    · have q1' : ¬ nI le ≤ nI e := nI_ge (by omega) (by omega)
      rw [if_pos (by omega)] at ete
      rw [if_neg q1]
      by_cases q2 : tx e = 59
      · rw [if_pos q2]
        have q2' := q2
        rw [ete] at q2'
        have G1 : ∃ g1 : Nat → Int32, g1 = upd g 21 (nI (e + 1)) := ⟨_, rfl⟩
        obtain ⟨g1, hg1⟩ := G1
        have a21 : g1 21 = nI (e + 1) := by rw [hg1, ud_s]
        have ao : ∀ i, i ≠ 21 → g1 i = g i := fun i q => by rw [hg1, ud_n q]
        have H1 : fs_mtb u g1 (ni_up h 49 (fs_mo g1)) := by
          have := mtb_k (T := ni_I 2 te) H (g' := g1) (fun i _ _ q _ _ => ao i q) (ao 0 (by decide)) (ao 1 (by decide))
          rw [up_id hT] at this
          exact this
        have it := M_item (z := z) htx H1 hn n4 a21 ((ao _ (by decide)).trans ha) ((ao _ (by decide)).trans hb) (by rw [up_n (by decide)]; exact hE) (by rw [up_n (by decide)]; exact hW) (by rw [up_n (by decide)]; exact hT) hv (show e + 1 < 700 by omega) hle hbs
        have step : ∀ (on : Int32) (h2 : ni_H), (∀ (d : Nat) (Q : ni_Q), ni_T (d + 4) 151 0 [.ref 49, .retAddr 0, .retAddr 0, .retAddr 0, .retAddr 0] [] z (ni_up h 49 (fs_mo g1)) Q = Q (some (.int on)) z h2) → ∀ (d : Nat) (Q : ni_Q), ni_T (d + 5) 154 62 [.ref 49, .int sv, .int 0, .int (nI k), .int 1] [] z h Q = ni_T (d + 5) 154 62 [.ref 49, .int sv, .int 0, .int (nI (k + 1)), .int on] [] z h2 Q := by
          intro on h2 hr d Q
          rw [hg1] at hr
          rw [s154_62]
          simp +decide only [s154_0, s154_1, s154_2, s154_5, s154_6, s154_7, s154_10, s154_11, s154_12, s154_15, s154_16, s154_17, s154_18, s154_21, s154_22, s154_22N0, s154_25, s154_26, s154_29, s154_30, s154_31, s154_34, s154_35, s154_36, s154_39, s154_40, s154_41, s154_44, s154_45, s154_46, s154_49, s154_50, s154_51, s154_54, s154_55, s154_56, s154_57, s154_60, s154_64, s154_67, s154_68, s154_71, s154_72, s154_75, s154_78, s154_79, s154_82, s154_83, s154_86, s154_87, s154_90, s154_91, s154_92, s154_93, s154_95, s154_98, s154_99, s154_100, s154_103, s154_106, s154_108, s154_111, s154_112, s154_112i, s154_113, s154_116, s154_117, s154_118, s154_121, s154_124, s154_125, s154_128, s154_130, s154_133, s154_135, s154_138, s154_139, s154_140, s154_141, s154_142, s154_145, s154_146, s154_146N0, s154_149, s154_150, s154_151, s154_154, s154_157, s154_158, s154_160, s154_163, hM, hat, ha, hb, hE, q1', q2', nI_add, nI_1, in_n (k := base + e) (n := 1280) (by omega) (by decide), nI_clamp (n := base + e) (by omega), fit_i, hr, up_up, mi_0, mg_0, mi_1, mg_1, mi_2, mg_2, mi_3, mg_3, mi_4, mg_4, mi_5, mg_5, mi_6, mg_6, mi_7, mg_7, mi_8, mg_8, mi_9, mg_9, mi_10, mg_10, mi_11, mg_11, mi_12, mg_12, mi_13, mg_13, mi_14, mg_14, mi_15, mg_15, mi_16, mg_16, mi_17, mg_17, mi_18, mg_18, mi_19, mg_19, mi_20, mg_20, mi_21, mg_21, mi_22, mg_22, mi_23, mg_23, mi_24, mg_24, mi_25, mg_25, mi_26, mg_26, mi_27, mg_27, mi_28, mg_28, mi_29, mg_29, mi_30, mg_30, mi_31, mg_31, mi_32, mg_32, mq_0, mq_1, mq_2, mq_3, mq_4, mq_20, mq_21, mq_22, mq_23, mq_24, mq_27, mq_28, mq_29, mq_31, mq_32, mrc, ud_s, ud_n, ud_u, up_n, ↓reduceIte, kl_i, kl_r, kl_n, kl_a, kl_l, up_s, up_up, is_0, is_s, gv_0, gv_s, pv_o, rc_o, okI_i, okI_x, okS_i, okB_x, gi_i, pi_i, okL_l, gl_l, pl_l, okA_2, okA_3, ga_a, arr_0, arr_1, arr_10, arr_11, len_a, sw_0, sw_i, sw_r, sw_l, fit_i, fit_z0, fit_z1, nz_0, nz_1, ni_K_s, ni_K_n, Nat.ble_eq, Nat.zero_le, Nat.zero_add, true_and, and_true, and_self, Bool.and_true, Bool.true_and, Bool.and_self, not_true_eq_false, not_false_eq_true, Int32.reduceLE, Int32.reduceLT, Int32.reduceAdd, Int32.reduceSub, Int32.reduceToNatClampNeg, Nat.reduceLeDiff, Nat.reduceAdd, Nat.reduceEqDiff, Nat.reduceSub, List.set_cons_zero, List.set_cons_succ, false_and, and_false]
        have hcn : fs_cn u = n := by unfold fs_cn; rw [hn, nI_clamp (by omega)]
        rw [gm_g2, hcn]
        cases hi : fs_item tx (e + 1) n (u 0) with
        | inl q =>
          obtain ⟨h2, g2, r, f2, t2, te2, w24, k2⟩ := it.1 q hi
          refine ⟨h2, g2, fun i h1 h3 h4 => by rw [f2 i h1 h3 h4, up_n h1], te2, fun i x0 x1 x2 x3 x4 => by rw [k2 i x0 x1 x2 x3 x4, ao i x2], fun q' hq => ?_, fun k' u' hq => by cases hq⟩
          cases hq
          refine ⟨w24, ⟨u, t2, fun _ _ => rfl⟩, nI (k + 1), fun d Q => ?_⟩
          rw [step 0 h2 r]
          simp +decide only [s154_0, s154_1, s154_2, s154_5, s154_6, s154_7, s154_10, s154_11, s154_12, s154_15, s154_16, s154_17, s154_18, s154_21, s154_22, s154_22N0, s154_25, s154_26, s154_29, s154_30, s154_31, s154_34, s154_35, s154_36, s154_39, s154_40, s154_41, s154_44, s154_45, s154_46, s154_49, s154_50, s154_51, s154_54, s154_55, s154_56, s154_57, s154_60, s154_62, s154_64, s154_67, s154_68, s154_71, s154_72, s154_75, s154_78, s154_79, s154_82, s154_83, s154_86, s154_87, s154_90, s154_91, s154_92, s154_93, s154_95, s154_98, s154_99, s154_100, s154_103, s154_106, s154_108, s154_111, s154_112, s154_112i, s154_113, s154_116, s154_117, s154_118, s154_121, s154_124, s154_125, s154_128, s154_130, s154_133, s154_135, s154_138, s154_139, s154_141, s154_142, s154_145, s154_146, s154_146N0, s154_149, s154_150, s154_151, s154_154, s154_157, s154_158, s154_160, s154_163, mi_0, mg_0, mi_1, mg_1, mi_2, mg_2, mi_3, mg_3, mi_4, mg_4, mi_5, mg_5, mi_6, mg_6, mi_7, mg_7, mi_8, mg_8, mi_9, mg_9, mi_10, mg_10, mi_11, mg_11, mi_12, mg_12, mi_13, mg_13, mi_14, mg_14, mi_15, mg_15, mi_16, mg_16, mi_17, mg_17, mi_18, mg_18, mi_19, mg_19, mi_20, mg_20, mi_21, mg_21, mi_22, mg_22, mi_23, mg_23, mi_24, mg_24, mi_25, mg_25, mi_26, mg_26, mi_27, mg_27, mi_28, mg_28, mi_29, mg_29, mi_30, mg_30, mi_31, mg_31, mi_32, mg_32, mq_0, mq_1, mq_2, mq_3, mq_4, mq_20, mq_21, mq_22, mq_23, mq_24, mq_27, mq_28, mq_29, mq_31, mq_32, mrc, ud_s, ud_n, ud_u, up_n, ↓reduceIte, kl_i, kl_r, kl_n, kl_a, kl_l, up_s, up_up, is_0, is_s, gv_0, gv_s, pv_o, rc_o, okI_i, okI_x, okS_i, okB_x, gi_i, pi_i, okL_l, gl_l, pl_l, okA_2, okA_3, ga_a, arr_0, arr_1, arr_10, arr_11, len_a, sw_0, sw_i, sw_r, sw_l, fit_i, fit_z0, fit_z1, nz_0, nz_1, ni_K_s, ni_K_n, Nat.ble_eq, Nat.zero_le, Nat.zero_add, true_and, and_true, and_self, Bool.and_true, Bool.true_and, Bool.and_self, not_true_eq_false, not_false_eq_true, Int32.reduceLE, Int32.reduceLT, Int32.reduceAdd, Int32.reduceSub, Int32.reduceToNatClampNeg, Nat.reduceLeDiff, Nat.reduceAdd, Nat.reduceEqDiff, Nat.reduceSub, List.set_cons_zero, List.set_cons_succ, false_and, and_false]
        | inr v =>
          obtain ⟨w, a, b, e'⟩ := v
          obtain ⟨h2, g2, r, f2, t2, ⟨te2, hT2⟩, w21, k2⟩ := it.2 w a b e' hi
          obtain ⟨b1, b2, b3⟩ := item_r hi
          obtain ⟨n', hn', n4'⟩ := ai_n (w := w) (a := a) (b := b) hn n4 (by rcases b3 with q | q | q | q | q <;> omega)
          have ffr : ∀ i, i ≠ 49 → i ≠ 64 → (i < 51 ∨ 57 ≤ i) → h2 i = h i := fun i h1 h3 h4 => by rw [f2 i h1 h3 h4, up_n h1]
          obtain ⟨h3, g3, c1, c2, c3, c4, c5⟩ := ih e' (k + 1) n' (fs_ai w a b u) g2 te2 h2 (by omega) (by omega) (by omega) t2 hn' n4' w21 ((k2 _ (by decide) (by decide) (by decide) (by decide) (by decide)).trans ((ao _ (by decide)).trans ha)) ((k2 _ (by decide) (by decide) (by decide) (by decide) (by decide)).trans ((ao _ (by decide)).trans hb)) ((ffr _ (by decide) (by decide) (by decide)).trans hE) ((ffr _ (by decide) (by decide) (by decide)).trans hW) hT2
          have cell5 : ∀ j, 5 ≤ j → fs_ai w a b u 0 j = u 0 j := by
            intro j hj
            unfold fs_ai
            rcases b3 with q | q | q | q | q
            · rw [if_pos q.1]; unfold fs_uh; simp +decide only [fu_n]
            · rw [if_neg (by omega), if_pos q.1, fu_s, ud_n (by omega)]
            · rw [if_neg (by omega), if_neg (by omega), if_pos q.1, fu_s, ud_n (by omega)]
            · rw [if_neg (by omega), if_neg (by omega), if_neg (by omega), if_pos q.1, fu_n (by decide)]
            · rw [if_neg (by omega), if_neg (by omega), if_neg (by omega), if_neg (by omega), fu_n (by decide)]
          refine ⟨h3, g3, fun i x1 x2 x3 => by rw [c1 i x1 x2 x3, ffr i x1 x2 x3], c2, fun i x0 x1 x2 x3 x4 => by rw [c3 i x0 x1 x2 x3 x4, k2 i x0 x1 x2 x3 x4, ao i x2], fun q hq => ?_, fun k' u' hq => ?_⟩
          · obtain ⟨d1, ⟨u', d2, d2'⟩, kx, d3⟩ := c4 q hq
            exact ⟨d1, ⟨u', d2, fun j hj => by rw [d2' j hj, cell5 j hj]⟩, kx, fun d Q => by rw [step 1 h2 r, d3]⟩
          · obtain ⟨d2, d3⟩ := c5 k' u' hq
            exact ⟨d2, fun d Q => by rw [step 1 h2 r, d3]⟩
      · rw [if_neg q2]
        have q2' := q2
        rw [ete] at q2'
        refine ⟨ni_up h 49 (fs_mo (upd g 24 (nI e))), upd g 24 (nI e), fun i h1 _ _ => up_n h1, ⟨te, by rw [up_n (by decide)]; exact hT⟩, fun i _ _ _ _ q => ud_n q, fun q hq => ?_, fun k' u' hq => by cases hq⟩
        cases hq
        have H1 : fs_mtb u (upd g 24 (nI e)) (ni_up h 49 (fs_mo (upd g 24 (nI e)))) := by
          have := mtb_k (T := ni_I 2 te) H (g' := upd g 24 (nI e)) (fun i _ _ _ _ q => ud_n q) (ud_n (by decide)) (ud_n (by decide))
          rw [up_id hT] at this
          exact this
        refine ⟨ud_s, ⟨u, H1, fun _ _ => rfl⟩, nI k, fun d Q => ?_⟩
        rw [s154_62]
        simp +decide only [s154_0, s154_1, s154_2, s154_5, s154_6, s154_7, s154_10, s154_11, s154_12, s154_15, s154_16, s154_17, s154_18, s154_21, s154_22, s154_22N0, s154_25, s154_26, s154_29, s154_30, s154_31, s154_34, s154_35, s154_36, s154_39, s154_40, s154_41, s154_44, s154_45, s154_46, s154_49, s154_50, s154_51, s154_54, s154_55, s154_56, s154_57, s154_60, s154_62, s154_64, s154_67, s154_68, s154_71, s154_72, s154_75, s154_78, s154_79, s154_82, s154_83, s154_86, s154_87, s154_90, s154_91, s154_92, s154_93, s154_95, s154_98, s154_99, s154_100, s154_103, s154_106, s154_108, s154_111, s154_112, s154_112i, s154_113, s154_116, s154_117, s154_118, s154_121, s154_124, s154_125, s154_128, s154_130, s154_133, s154_135, s154_138, s154_139, s154_141, s154_142, s154_145, s154_146, s154_146N0, s154_149, s154_150, s154_151, s154_154, s154_157, s154_158, s154_160, s154_163, s145_0, s145_1, s145_2, s145_5, s145_6, hM, hat, ha, hb, hE, q1', q2', nI_add, in_n (k := base + e) (n := 1280) (by omega) (by decide), nI_clamp (n := base + e) (by omega), fit_i, mi_0, mg_0, mi_1, mg_1, mi_2, mg_2, mi_3, mg_3, mi_4, mg_4, mi_5, mg_5, mi_6, mg_6, mi_7, mg_7, mi_8, mg_8, mi_9, mg_9, mi_10, mg_10, mi_11, mg_11, mi_12, mg_12, mi_13, mg_13, mi_14, mg_14, mi_15, mg_15, mi_16, mg_16, mi_17, mg_17, mi_18, mg_18, mi_19, mg_19, mi_20, mg_20, mi_21, mg_21, mi_22, mg_22, mi_23, mg_23, mi_24, mg_24, mi_25, mg_25, mi_26, mg_26, mi_27, mg_27, mi_28, mg_28, mi_29, mg_29, mi_30, mg_30, mi_31, mg_31, mi_32, mg_32, mq_0, mq_1, mq_2, mq_3, mq_4, mq_20, mq_21, mq_22, mq_23, mq_24, mq_27, mq_28, mq_29, mq_31, mq_32, mrc, ud_s, ud_n, ud_u, up_n, ↓reduceIte, kl_i, kl_r, kl_n, kl_a, kl_l, up_s, up_up, is_0, is_s, gv_0, gv_s, pv_o, rc_o, okI_i, okI_x, okS_i, okB_x, gi_i, pi_i, okL_l, gl_l, pl_l, okA_2, okA_3, ga_a, arr_0, arr_1, arr_10, arr_11, len_a, sw_0, sw_i, sw_r, sw_l, fit_i, fit_z0, fit_z1, nz_0, nz_1, ni_K_s, ni_K_n, Nat.ble_eq, Nat.zero_le, Nat.zero_add, true_and, and_true, and_self, Bool.and_true, Bool.true_and, Bool.and_self, not_true_eq_false, not_false_eq_true, Int32.reduceLE, Int32.reduceLT, Int32.reduceAdd, Int32.reduceSub, Int32.reduceToNatClampNeg, Nat.reduceLeDiff, Nat.reduceAdd, Nat.reduceEqDiff, Nat.reduceSub, List.set_cons_zero, List.set_cons_succ, false_and, and_false]
end
