set_option maxRecDepth 100000
set_option maxHeartbeats 1000000
/-! ===== game ===== -/
/-- what an item keeps -/
theorem good_ai {J n w wd a b p e : Nat} {tx : Nat → Int32} {u : Nat → Nat → Int32} (h : fs_good J n w u) (hi : fs_item tx p n (u 0) = .inr (wd, a, b, e)) : ∃ n' w', n ≤ n' ∧ fs_good J n' w' (fs_ai wd a b u) ∧ ∀ mu, fs_rel n u mu → fs_rel n' (fs_ai wd a b u) (fs_ai wd a b mu) := by
  obtain ⟨-, -, b3⟩ := item_r hi
  have hn := h.1
  have n4 := h.2.1
  have c60 : (u 6 0).toNatClampNeg = n := by rw [hn, nI_clamp (by omega)]
  have c60m : ∀ mu, fs_rel n u mu → (mu 6 0).toNatClampNeg = n := fun mu hR => by rw [hR.1 0 (by decide)]; exact c60
  rcases b3 with ⟨q, q1, q2, q3⟩ | ⟨q, q1, q2, q3⟩ | ⟨q, q1⟩ | ⟨q, q1, q2, q3⟩ | ⟨q, q1⟩ <;> subst q
  · have e : ∀ v, (v 6 0).toNatClampNeg = n → fs_ai 0 a b v = fs_uh v n (nI a) (nI b) := fun v hv => by unfold fs_ai; rw [if_pos rfl, hv]
    rw [e u c60]
    refine ⟨n + 1, w, by omega, good_hand h (by omega) (kd_of (nI_pos (by omega)) (nI_le (a := a) (b := 6) q2 (by decide))) q3, fun mu hR => ?_⟩
    rw [e mu (c60m mu hR)]
    exact rel_uh hR _ _
  · have e : ∀ v, fs_ai 1 a b v = fs_u v 0 a (nI b) := fun v => by unfold fs_ai; rw [if_neg (by decide), if_pos rfl]
    rw [e]
    refine ⟨n, w, Nat.le_refl _, good_cell h q1 (Or.inr ⟨b, q2, rfl⟩) (fun j hj hne ec => ?_), fun mu hR => by rw [e]; exact rel_u hR _ _ _⟩
    exact absurd ec (fr_t 5 0 q3 j (by omega) (by omega) (fun x => hne ((nI_eq (by omega) (by omega)).mp x)))
  · have e : ∀ v, fs_ai 2 a b v = fs_u v 0 a (-1) := fun v => by unfold fs_ai; rw [if_neg (by decide), if_neg (by decide), if_pos rfl]
    rw [e]
    exact ⟨n, w, Nat.le_refl _, good_cell h q1 (Or.inl rfl) (fun _ _ _ _ => rfl), fun mu hR => by rw [e]; exact rel_u hR _ _ _⟩
  · have e : ∀ v, fs_ai 3 a b v = fs_u v 3 a (nI b) := fun v => by unfold fs_ai; rw [if_neg (by decide), if_neg (by decide), if_neg (by decide), if_pos rfl]
    rw [e]
    exact ⟨n, w, Nat.le_refl _, good_stage h q2 q3, fun mu hR => by rw [e]; exact rel_u hR _ _ _⟩
  · have e : ∀ v, fs_ai 4 a b v = fs_u v 6 1 (nI a) := fun v => by unfold fs_ai; rw [if_neg (by decide), if_neg (by decide), if_neg (by decide), if_neg (by decide)]
    rw [e]
    exact ⟨n, a, Nat.le_refl _, good_turn h q1, fun mu hR => by rw [e]; exact rel_u hR _ _ _⟩
/-- the class's reading and the reference's -/
theorem gm_rel {J le : Nat} {tx : Nat → Int32} : ∀ (f p k n w : Nat) (u mu : Nat → Nat → Int32), fs_good J n w u → fs_rel n u mu → (∀ q, fs_gm tx le f p k u = .inl q → fs_gm tx le f p k mu = .inl q) ∧ (∀ k' u', fs_gm tx le f p k u = .inr (k', u') → ∃ (mu' : Nat → Nat → Int32) (n' w' : Nat), n ≤ n' ∧ fs_gm tx le f p k mu = .inr (k', mu') ∧ fs_good J n' w' u' ∧ fs_rel n' u' mu') := by
  intro f
  induction f with
  | zero => intro p k n w u mu _ _; rw [fs_gm, fs_gm]; exact ⟨fun q h => h, fun k' u' h => by cases h⟩
  | succ f ih =>
    intro p k n w u mu hG hR
    have c1 : fs_cn u = n := by unfold fs_cn; rw [hG.1, nI_clamp (by have := hG.2.1; omega)]
    have c2 : fs_cn mu = n := by unfold fs_cn; rw [hR.1 0 (by decide), hG.1, nI_clamp (by have := hG.2.1; omega)]
    rw [fs_gm, fs_gm, c1, c2, hR.2.1]
    cases hi : fs_item tx p n (u 0) with
    | inl q => exact ⟨fun q' h => h, fun k' u' h => by cases h⟩
    | inr v =>
      obtain ⟨wd, a, b, e⟩ := v
      obtain ⟨n', w', h1, G, R⟩ := good_ai hG hi
      simp only
      by_cases q1 : le ≤ e
      · rw [if_pos q1, if_pos q1]
        refine ⟨fun q h => (by cases h), fun k' u' h => ?_⟩
        cases h
        exact ⟨_, n', w', h1, rfl, G, R mu hR⟩
      · rw [if_neg q1, if_neg q1]
        by_cases q2 : tx e = 59
        · rw [if_pos q2, if_pos q2]
          obtain ⟨a1, a2⟩ := ih (e + 1) (k + 1) n' w' _ _ G (R mu hR)
          refine ⟨a1, fun k' u' h => ?_⟩
          obtain ⟨mu', n2, w2, b1, b2, b3, b4⟩ := a2 k' u' h
          exact ⟨mu', n2, w2, by omega, b2, b3, b4⟩
        · rw [if_neg q2, if_neg q2]
          exact ⟨fun q h => h, fun k' u' h => by cases h⟩
/-- the reference reads, from the first item on -/
theorem M_gm {z : ni_Z} {wv : Nat → Int32} {ce : Nat → Int64} {le base n : Nat} {sv : Int32} {u : Nat → Nat → Int32} {g te : Nat → Int32} {h : ni_H} {tx : Nat → Int32} (htx : tx = fs_mt ce base le) (hv : ∀ i, i < 30 → wv i = fs_wrd i) (hle : le ≤ 160) (hbs : base + le ≤ 1280) (H : fs_mtb u g h) (hn : u 6 0 = nI n) (n4 : n ≤ 4) (hat : g 21 = nI 0) (ha : g 22 = nI le) (hb : g 20 = nI base) (hE : h 61 = ni_L 1280 ce) (hW : h 63 = ni_I 30 wv) (hT : h 64 = ni_I 2 te) : ∃ (h' : ni_H) (g' : Nat → Int32), fs_fM h h' ∧ (∃ te : Nat → Int32, h' 64 = ni_I 2 te) ∧ fs_gk g g' ∧ (∀ q, fs_gm tx le 160 0 1 u = .inl q → g' 24 = nI q ∧ (∃ u', fs_mtb u' g' h' ∧ (∀ j, 5 ≤ j → u' 0 j = u 0 j)) ∧ ∃ kx : Int32, ∀ (d : Nat) (Q : ni_Q), ni_T (d + 5) 154 56 [.ref 49, .int sv, .int 0, .int 1, .retAddr 0] [] z h Q = ni_T (d + 5) 154 140 [.ref 49, .int sv, .int 0, .int kx, .int 0] [] z h' Q) ∧ (∀ k' u', fs_gm tx le 160 0 1 u = .inr (k', u') → fs_mtb u' g' h' ∧ ∀ (d : Nat) (Q : ni_Q), ni_T (d + 5) 154 56 [.ref 49, .int sv, .int 0, .int 1, .retAddr 0] [] z h Q = Q (some (.int (nI k'))) z h') := by
  have it := M_item (z := z) htx H hn n4 hat ha hb hE hW hT hv (by decide) hle hbs
  have hcn : fs_cn u = n := by unfold fs_cn; rw [hn, nI_clamp (by omega)]
  have step : ∀ (on : Int32) (h2 : ni_H), (∀ (d : Nat) (Q : ni_Q), ni_T (d + 4) 151 0 [.ref 49, .retAddr 0, .retAddr 0, .retAddr 0, .retAddr 0] [] z h Q = Q (some (.int on)) z h2) → ∀ (d : Nat) (Q : ni_Q), ni_T (d + 5) 154 56 [.ref 49, .int sv, .int 0, .int 1, .retAddr 0] [] z h Q = ni_T (d + 5) 154 62 [.ref 49, .int sv, .int 0, .int 1, .int on] [] z h2 Q := by
    intro on h2 hr d Q
    simp +decide only [s154_0, s154_1, s154_2, s154_5, s154_6, s154_7, s154_10, s154_11, s154_12, s154_15, s154_16, s154_17, s154_18, s154_21, s154_22, s154_22N0, s154_25, s154_26, s154_29, s154_30, s154_31, s154_34, s154_35, s154_36, s154_39, s154_40, s154_41, s154_44, s154_45, s154_46, s154_49, s154_50, s154_51, s154_54, s154_55, s154_56, s154_57, s154_60, s154_64, s154_67, s154_68, s154_71, s154_72, s154_75, s154_78, s154_79, s154_82, s154_83, s154_86, s154_87, s154_90, s154_91, s154_92, s154_93, s154_95, s154_98, s154_99, s154_100, s154_103, s154_106, s154_108, s154_111, s154_112, s154_112i, s154_113, s154_116, s154_117, s154_118, s154_121, s154_124, s154_125, s154_128, s154_130, s154_133, s154_135, s154_138, s154_139, s154_140, s154_141, s154_142, s154_145, s154_146, s154_146N0, s154_149, s154_150, s154_151, s154_154, s154_157, s154_158, s154_160, s154_163, H.1, hr, mi_0, mg_0, mi_1, mg_1, mi_2, mg_2, mi_3, mg_3, mi_4, mg_4, mi_5, mg_5, mi_6, mg_6, mi_7, mg_7, mi_8, mg_8, mi_9, mg_9, mi_10, mg_10, mi_11, mg_11, mi_12, mg_12, mi_13, mg_13, mi_14, mg_14, mi_15, mg_15, mi_16, mg_16, mi_17, mg_17, mi_18, mg_18, mi_19, mg_19, mi_20, mg_20, mi_21, mg_21, mi_22, mg_22, mi_23, mg_23, mi_24, mg_24, mi_25, mg_25, mi_26, mg_26, mi_27, mg_27, mi_28, mg_28, mi_29, mg_29, mi_30, mg_30, mi_31, mg_31, mi_32, mg_32, mq_0, mq_1, mq_2, mq_3, mq_4, mq_20, mq_21, mq_22, mq_23, mq_24, mq_27, mq_28, mq_29, mq_31, mq_32, mrc, ud_s, ud_n, ud_u, up_n, ↓reduceIte, kl_i, kl_r, kl_n, kl_a, kl_l, up_s, up_up, is_0, is_s, gv_0, gv_s, pv_o, rc_o, okI_i, okI_x, okS_i, okB_x, gi_i, pi_i, okL_l, gl_l, pl_l, okA_2, okA_3, ga_a, arr_0, arr_1, arr_10, arr_11, len_a, sw_0, sw_i, sw_r, sw_l, fit_i, fit_z0, fit_z1, nz_0, nz_1, ni_K_s, ni_K_n, Nat.ble_eq, Nat.zero_le, Nat.zero_add, true_and, and_true, and_self, Bool.and_true, Bool.true_and, Bool.and_self, not_true_eq_false, not_false_eq_true, Int32.reduceLE, Int32.reduceLT, Int32.reduceAdd, Int32.reduceSub, Int32.reduceToNatClampNeg, Nat.reduceLeDiff, Nat.reduceAdd, Nat.reduceEqDiff, Nat.reduceSub, List.set_cons_zero, List.set_cons_succ, false_and, and_false]
  rw [gm_g2, hcn]
  cases hi : fs_item tx 0 n (u 0) with
  | inl q =>
    obtain ⟨h2, g2, r, f2, t2, te2, w24, k2⟩ := it.1 q hi
    refine ⟨h2, g2, f2, te2, k2, fun q' hq => ?_, fun k' u' hq => by cases hq⟩
    cases hq
    refine ⟨w24, ⟨u, t2, fun _ _ => rfl⟩, 1, fun d Q => ?_⟩
    rw [step 0 h2 r]
    simp +decide only [s154_0, s154_1, s154_2, s154_5, s154_6, s154_7, s154_10, s154_11, s154_12, s154_15, s154_16, s154_17, s154_18, s154_21, s154_22, s154_22N0, s154_25, s154_26, s154_29, s154_30, s154_31, s154_34, s154_35, s154_36, s154_39, s154_40, s154_41, s154_44, s154_45, s154_46, s154_49, s154_50, s154_51, s154_54, s154_55, s154_56, s154_57, s154_60, s154_62, s154_64, s154_67, s154_68, s154_71, s154_72, s154_75, s154_78, s154_79, s154_82, s154_83, s154_86, s154_87, s154_90, s154_91, s154_92, s154_93, s154_95, s154_98, s154_99, s154_100, s154_103, s154_106, s154_108, s154_111, s154_112, s154_112i, s154_113, s154_116, s154_117, s154_118, s154_121, s154_124, s154_125, s154_128, s154_130, s154_133, s154_135, s154_138, s154_139, s154_141, s154_142, s154_145, s154_146, s154_146N0, s154_149, s154_150, s154_151, s154_154, s154_157, s154_158, s154_160, s154_163, mi_0, mg_0, mi_1, mg_1, mi_2, mg_2, mi_3, mg_3, mi_4, mg_4, mi_5, mg_5, mi_6, mg_6, mi_7, mg_7, mi_8, mg_8, mi_9, mg_9, mi_10, mg_10, mi_11, mg_11, mi_12, mg_12, mi_13, mg_13, mi_14, mg_14, mi_15, mg_15, mi_16, mg_16, mi_17, mg_17, mi_18, mg_18, mi_19, mg_19, mi_20, mg_20, mi_21, mg_21, mi_22, mg_22, mi_23, mg_23, mi_24, mg_24, mi_25, mg_25, mi_26, mg_26, mi_27, mg_27, mi_28, mg_28, mi_29, mg_29, mi_30, mg_30, mi_31, mg_31, mi_32, mg_32, mq_0, mq_1, mq_2, mq_3, mq_4, mq_20, mq_21, mq_22, mq_23, mq_24, mq_27, mq_28, mq_29, mq_31, mq_32, mrc, ud_s, ud_n, ud_u, up_n, ↓reduceIte, kl_i, kl_r, kl_n, kl_a, kl_l, up_s, up_up, is_0, is_s, gv_0, gv_s, pv_o, rc_o, okI_i, okI_x, okS_i, okB_x, gi_i, pi_i, okL_l, gl_l, pl_l, okA_2, okA_3, ga_a, arr_0, arr_1, arr_10, arr_11, len_a, sw_0, sw_i, sw_r, sw_l, fit_i, fit_z0, fit_z1, nz_0, nz_1, ni_K_s, ni_K_n, Nat.ble_eq, Nat.zero_le, Nat.zero_add, true_and, and_true, and_self, Bool.and_true, Bool.true_and, Bool.and_self, not_true_eq_false, not_false_eq_true, Int32.reduceLE, Int32.reduceLT, Int32.reduceAdd, Int32.reduceSub, Int32.reduceToNatClampNeg, Nat.reduceLeDiff, Nat.reduceAdd, Nat.reduceEqDiff, Nat.reduceSub, List.set_cons_zero, List.set_cons_succ, false_and, and_false]
  | inr v =>
    obtain ⟨wd, a, b, e'⟩ := v
    obtain ⟨h2, g2, r, f2, t2, ⟨te2, hT2⟩, w21, k2⟩ := it.2 wd a b e' hi
    obtain ⟨b1, b2, b3⟩ := item_r hi
    obtain ⟨n', hn', n4'⟩ := ai_n (w := wd) (a := a) (b := b) hn n4 (by rcases b3 with q | q | q | q | q <;> omega)
    obtain ⟨h3, g3, c1, c2, c3, c4, c5⟩ := L_mg (z := z) (sv := sv) htx hv hle hbs 159 e' 1 n' (fs_ai wd a b u) g2 te2 h2 (by omega) (by decide) (by omega) t2 hn' n4' w21 ((k2 _ (by decide) (by decide) (by decide) (by decide) (by decide)).trans ha) ((k2 _ (by decide) (by decide) (by decide) (by decide) (by decide)).trans hb) ((f2 _ (by decide) (by decide) (by decide)).trans hE) ((f2 _ (by decide) (by decide) (by decide)).trans hW) hT2
    rw [show nI 1 = 1 from rfl] at c4 c5
    have cell5 : ∀ j, 5 ≤ j → fs_ai wd a b u 0 j = u 0 j := by
      intro j hj
      unfold fs_ai
      rcases b3 with q | q | q | q | q
      · rw [if_pos q.1]; unfold fs_uh; simp +decide only [fu_n]
      · rw [if_neg (by omega), if_pos q.1, fu_s, ud_n (by omega)]
      · rw [if_neg (by omega), if_neg (by omega), if_pos q.1, fu_s, ud_n (by omega)]
      · rw [if_neg (by omega), if_neg (by omega), if_neg (by omega), if_pos q.1, fu_n (by decide)]
      · rw [if_neg (by omega), if_neg (by omega), if_neg (by omega), if_neg (by omega), fu_n (by decide)]
    refine ⟨h3, g3, fun i x1 x2 x3 => by rw [c1 i x1 x2 x3, f2 i x1 x2 x3], c2, fun i x0 x1 x2 x3 x4 => by rw [c3 i x0 x1 x2 x3 x4, k2 i x0 x1 x2 x3 x4], fun q hq => ?_, fun k' u' hq => ?_⟩
    · obtain ⟨d1, ⟨u', d2, d2'⟩, kx, d3⟩ := c4 q hq
      exact ⟨d1, ⟨u', d2, fun j hj => by rw [d2' j hj, cell5 j hj]⟩, kx, fun d Q => by rw [step 1 h2 r, d3]⟩
    · obtain ⟨d2, d3⟩ := c5 k' u' hq
      exact ⟨d2, fun d Q => by rw [step 1 h2 r, d3]⟩
