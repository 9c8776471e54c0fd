set_option maxRecDepth 100000
set_option maxHeartbeats 4000000
/-! ===== the reference: chances by a stage, throws, tosses in truth, told turns ===== -/
theorem nI_bv (x : Int32) : x = nI x.toBitVec.toNat := by
  apply Int32.toBitVec_inj.mp
  rw [show (nI x.toBitVec.toNat).toBitVec = BitVec.ofNat 32 x.toBitVec.toNat from rfl, BitVec.ofNat_toNat, BitVec.setWidth_eq]
theorem lw_n {s : Int32} {n : Nat} (h0 : 0 < n) (hn : n < 2 ^ 31) : ∃ k, k < n ∧ fs_low s (nI n) = nI k := by
  have e : (s.toUInt32 >>> ((16 : Int32).toUInt32 &&& Int32.toUInt32 31)).toInt32 = nI (s.toUInt32.toNat / 65536) := by
    refine (nI_bv _).trans ?_
    congr 1
    show (s.toUInt32 >>> ((16 : Int32).toUInt32 &&& Int32.toUInt32 31)).toNat = _
    rw [UInt32.toNat_shiftRight, show ((16 : Int32).toUInt32 &&& Int32.toUInt32 31).toNat % 32 = 16 from rfl, Nat.shiftRight_eq_div_pow]
  have hl : s.toUInt32.toNat / 65536 < 65536 := by
    have := s.toUInt32.toNat_lt
    omega
  refine ⟨s.toUInt32.toNat / 65536 % n, Nat.mod_lt _ h0, ?_⟩
  unfold fs_low
  rw [e]
  exact pk_rem (by omega) h0 hn
/-- the stones that lie, as a number below 32 -/
def fs_lb (c : Nat → Int32) : Nat := (if c 0 = -1 then 0 else 1) + (if c 1 = -1 then 0 else 2) + (if c 2 = -1 then 0 else 4) + (if c 3 = -1 then 0 else 8) + (if c 4 = -1 then 0 else 16)
theorem lb_lt (c : Nat → Int32) : fs_lb c < 32 := by
  unfold fs_lb
  repeat' split
  all_goals omega
theorem lb_n (c : Nat → Int32) : fs_lie c = nI (fs_lb c) := by
  unfold fs_lie fs_lb
  simp only [fs_lies, fs_bit, Nat.zero_add, Nat.reduceAdd]
  by_cases q0 : c 0 = -1 <;> by_cases q1 : c 1 = -1 <;> by_cases q2 : c 2 = -1 <;> by_cases q3 : c 3 = -1 <;> by_cases q4 : c 4 = -1 <;> simp only [q0, q1, q2, q3, q4, if_true, if_false] <;> decide
theorem lb_t (c : Nat → Int32) : ∀ j, j < 5 → (fs_lb c).testBit j = !decide (c j = -1) := by
  intro j hj
  unfold fs_lb
  match j, hj with
  | 0, _ => by_cases q0 : c 0 = -1 <;> by_cases q1 : c 1 = -1 <;> by_cases q2 : c 2 = -1 <;> by_cases q3 : c 3 = -1 <;> by_cases q4 : c 4 = -1 <;> simp only [q0, q1, q2, q3, q4, if_true, if_false] <;> decide
  | 1, _ => by_cases q0 : c 0 = -1 <;> by_cases q1 : c 1 = -1 <;> by_cases q2 : c 2 = -1 <;> by_cases q3 : c 3 = -1 <;> by_cases q4 : c 4 = -1 <;> simp only [q0, q1, q2, q3, q4, if_true, if_false] <;> decide
  | 2, _ => by_cases q0 : c 0 = -1 <;> by_cases q1 : c 1 = -1 <;> by_cases q2 : c 2 = -1 <;> by_cases q3 : c 3 = -1 <;> by_cases q4 : c 4 = -1 <;> simp only [q0, q1, q2, q3, q4, if_true, if_false] <;> decide
  | 3, _ => by_cases q0 : c 0 = -1 <;> by_cases q1 : c 1 = -1 <;> by_cases q2 : c 2 = -1 <;> by_cases q3 : c 3 = -1 <;> by_cases q4 : c 4 = -1 <;> simp only [q0, q1, q2, q3, q4, if_true, if_false] <;> decide
  | 4, _ => by_cases q0 : c 0 = -1 <;> by_cases q1 : c 1 = -1 <;> by_cases q2 : c 2 = -1 <;> by_cases q3 : c 3 = -1 <;> by_cases q4 : c 4 = -1 <;> simp only [q0, q1, q2, q3, q4, if_true, if_false] <;> decide
  | j + 5, h => omega
section
variable {kk k : Nat} {z : ni_Z} {c kd pt ts : Nat → Int32}
theorem M_by {g : Nat → Int32} {h : ni_H} (hkk : kk < 4) (hq : fs_kd (kd kk)) (k0 : 0 < k) (k4 : k ≤ 4) (hM : h 49 = fs_mo g) (hC : h 56 = ni_I 5 c) (hK : h 51 = ni_I 4 kd) (hP : h 52 = ni_I 4 pt) (hT : h 55 = ni_I 4 ts) : ∃ g' : Nat → Int32, (∀ i, i ≠ 27 → i ≠ 28 → g' i = g i) ∧ g' 28 = nI (fs_cg fs_lm (fs_om c (kd kk) (pt kk) (ts kk)) k 5 (fs_lb c)).2 ∧ ∀ (d : Nat) (Q : ni_Q), ni_T (d + 15) 168 0 [.ref 49, .int (nI kk), .int (nI k), .retAddr 0, .retAddr 0] [] z h Q = Q (some (.int (fs_cg fs_lm (fs_om c (kd kk) (pt kk) (ts kk)) k 5 (fs_lb c)).1)) z (ni_up h 49 (fs_mo g')) := by
  have hl := lb_lt c
  have hp := bt_pc5 _ hl
  obtain ⟨g', a, b, cc⟩ := M_ch (kk := kk) (z := z) (pt := pt) (c := c) hkk hq k0 k4 5 (fs_lb c) hl hp (upd g 28 0) (ni_up h 49 (fs_mo (upd g 28 0))) up_s (by rw [up_n (by decide)]; exact hC) (by rw [up_n (by decide)]; exact hK) (by rw [up_n (by decide)]; exact hP) (by rw [up_n (by decide)]; exact hT)
  refine ⟨g', fun i q q' => by rw [a i q q', ud_n q'], ?_, fun d Q => ?_⟩
  · rw [b]
    by_cases q : fs_lb c = 0
    · rw [if_pos q, ud_s, q]; rfl
    · rw [if_neg q]
  · have hlie := fun (d : Nat) (Q : ni_Q) => M_lies (d := d) (z := z) (Q := Q) (h := ni_up h 49 (fs_mo (upd g 28 0))) (g := upd g 28 0) (c := c) up_s (by rw [up_n (by decide)]; exact hC)
    have kz : ¬ nI k = 0 := nI_ne0 k0 (by omega)
    have hrem : nI (fs_pc (fs_lb c)) - nI (fs_pc (fs_lb c)) / nI k * nI k = nI (fs_pc (fs_lb c) % k) := pk_rem (by omega) k0 (by omega)
    simp +decide only [s168_0, s168_1, s168_2, s168_5, s168_6, s168_9, s168_10, s168_11, s168_12, s168_15, s168_17, s168_18, s168_19, s168_20, s168_21, s168_23, s168_24, s168_25, s168_28, hM, fit_i, mi_0, mg_0, mi_1, mg_1, mi_2, mg_2, mi_3, mg_3, mi_4, mg_4, mi_5, mg_5, mi_6, mg_6, mi_7, mg_7, mi_8, mg_8, mi_9, mg_9, mi_10, mg_10, mi_11, mg_11, mi_12, mg_12, mi_13, mg_13, mi_14, mg_14, mi_15, mg_15, mi_16, mg_16, mi_17, mg_17, mi_18, mg_18, mi_19, mg_19, mi_20, mg_20, mi_21, mg_21, mi_22, mg_22, mi_23, mg_23, mi_24, mg_24, mi_25, mg_25, mi_26, mg_26, mi_27, mg_27, mi_28, mg_28, mi_29, mg_29, mi_30, mg_30, mi_31, mg_31, mi_32, mg_32, mp_0, mp_1, mp_2, mp_3, mp_4, mp_20, mp_21, mp_22, mp_23, mp_24, mp_27, mp_28, mp_29, mp_31, mp_32, mrc, ud_s, ud_n, ud_u, up_n, ↓reduceIte, kl_i, kl_r, kl_n, kl_a, kl_l, up_s, up_up, is_0, is_s, gv_0, gv_s, pv_o, rc_o, okI_i, okI_x, okS_i, okB_x, gi_i, pi_i, okL_l, gl_l, pl_l, okA_2, okA_3, ga_a, arr_0, arr_1, arr_10, arr_11, len_a, sw_0, sw_i, sw_r, sw_l, fit_i, fit_z0, fit_z1, nz_0, nz_1, ni_K_s, ni_K_n, Nat.ble_eq, Nat.zero_le, Nat.zero_add, true_and, and_true, and_self, Bool.and_true, Bool.true_and, Bool.and_self, not_true_eq_false, not_false_eq_true, Int32.reduceLE, Int32.reduceLT, Int32.reduceAdd, Int32.reduceSub, Int32.reduceToNatClampNeg, Nat.reduceLeDiff, Nat.reduceAdd, Nat.reduceEqDiff, Nat.reduceSub, List.set_cons_zero, List.set_cons_succ, false_and, and_false]
    simp +decide only [s168_0, s168_1, s168_2, s168_5, s168_6, s168_9, s168_10, s168_11, s168_12, s168_15, s168_17, s168_18, s168_19, s168_20, s168_21, s168_23, s168_24, s168_25, s168_28, hlie, lb_n, M_count, bt_5 _ hl, kz, hrem, cc, up_up, mi_0, mg_0, mi_1, mg_1, mi_2, mg_2, mi_3, mg_3, mi_4, mg_4, mi_5, mg_5, mi_6, mg_6, mi_7, mg_7, mi_8, mg_8, mi_9, mg_9, mi_10, mg_10, mi_11, mg_11, mi_12, mg_12, mi_13, mg_13, mi_14, mg_14, mi_15, mg_15, mi_16, mg_16, mi_17, mg_17, mi_18, mg_18, mi_19, mg_19, mi_20, mg_20, mi_21, mg_21, mi_22, mg_22, mi_23, mg_23, mi_24, mg_24, mi_25, mg_25, mi_26, mg_26, mi_27, mg_27, mi_28, mg_28, mi_29, mg_29, mi_30, mg_30, mi_31, mg_31, mi_32, mg_32, mp_0, mp_1, mp_2, mp_3, mp_4, mp_20, mp_21, mp_22, mp_23, mp_24, mp_27, mp_28, mp_29, mp_31, mp_32, mrc, ud_s, ud_n, ud_u, up_n, ↓reduceIte, kl_i, kl_r, kl_n, kl_a, kl_l, up_s, up_up, is_0, is_s, gv_0, gv_s, pv_o, rc_o, okI_i, okI_x, okS_i, okB_x, gi_i, pi_i, okL_l, gl_l, pl_l, okA_2, okA_3, ga_a, arr_0, arr_1, arr_10, arr_11, len_a, sw_0, sw_i, sw_r, sw_l, fit_i, fit_z0, fit_z1, nz_0, nz_1, ni_K_s, ni_K_n, Nat.ble_eq, Nat.zero_le, Nat.zero_add, true_and, and_true, and_self, Bool.and_true, Bool.true_and, Bool.and_self, not_true_eq_false, not_false_eq_true, Int32.reduceLE, Int32.reduceLT, Int32.reduceAdd, Int32.reduceSub, Int32.reduceToNatClampNeg, Nat.reduceLeDiff, Nat.reduceAdd, Nat.reduceEqDiff, Nat.reduceSub, List.set_cons_zero, List.set_cons_succ, false_and, and_false]
end
theorem fr_ex {c : Nat → Int32} {s x : Int32} : ∀ (m j : Nat), fs_fr c s x m j = false → ∃ t, j ≤ t ∧ t < j + m ∧ nI t ≠ s ∧ c t = x := by
  intro m
  induction m with
  | zero => intro j h; simp [fs_fr] at h
  | succ m ih =>
    intro j h
    rw [fs_fr] at h
    by_cases q : nI j = s ∨ ¬ c j = x
    · have h2 : fs_fr c s x m (j + 1) = false := by
        rcases q with q | q <;> simpa [q] using h
      obtain ⟨t, a, b, cc⟩ := ih (j + 1) h2
      exact ⟨t, by omega, by omega, cc⟩
    · have q2 : ¬ nI j = s ∧ c j = x := by
        constructor
        · intro e; exact q (Or.inl e)
        · exact Classical.byContradiction fun e => q (Or.inr e)
      exact ⟨j, Nat.le_refl _, by omega, q2⟩
theorem ex_free : ∀ (n : Nat) (L : List Nat) (p : Nat), L.length ≤ n → n < 36 → ∃ i, i ≤ n ∧ (p + i) % 36 ∉ L := by
  intro n
  induction n with
  | zero =>
    intro L p h _
    refine ⟨0, Nat.le_refl _, ?_⟩
    have : L = [] := List.eq_nil_of_length_eq_zero (by omega)
    rw [this]; simp
  | succ n ih =>
    intro L p h hn
    by_cases q : p % 36 ∈ L
    · have hl := List.length_erase_of_mem q
      obtain ⟨i, h1, h2⟩ := ih (L.erase (p % 36)) (p + 1) (by omega) (by omega)
      refine ⟨i + 1, by omega, fun h3 => h2 ?_⟩
      rw [show p + 1 + i = p + (i + 1) by omega]
      refine (List.mem_erase_of_ne ?_).mpr h3
      omega
    · exact ⟨0, by omega, by simpa using q⟩
def fs_ol (c : Nat → Int32) (s : Nat) : List Nat := ((List.range 5).filter (fun t => decide (t ≠ s))).map (fun t => (c t).toNatClampNeg)
theorem ol_len {c : Nat → Int32} : ∀ s, s < 5 → (fs_ol c s).length ≤ 4 := by
  intro s hs
  unfold fs_ol
  rw [List.length_map]
  have : ∀ s, s < 5 → ((List.range 5).filter (fun t => decide (t ≠ s))).length ≤ 4 := by decide
  exact this s hs
theorem fr_ol {c : Nat → Int32} {s p : Nat} (hs : s < 5) (hp : p < 36) (h : p ∉ fs_ol c s) : fs_fr c (nI s) (nI p) 5 0 = true := by
  cases q : fs_fr c (nI s) (nI p) 5 0
  · exfalso
    obtain ⟨t, -, ht, hn, hc⟩ := fr_ex 5 0 q
    apply h
    refine List.mem_map.mpr ⟨t, List.mem_filter.mpr ⟨List.mem_range.mpr (by omega), ?_⟩, ?_⟩
    · refine decide_eq_true fun e => hn (by rw [e])
    · rw [hc, nI_clamp (by omega)]
  · rfl
theorem free_n {c : Nat → Int32} {s : Int32} {p : Nat} (hp : p < 36) : fs_free c s (nI p) = fs_fr c s (nI p) 5 0 := by
  have q1 : ¬ nI p < 0 := nI_pos (by omega)
  have q2 : nI p < 36 := nI_lt (a := p) (b := 36) hp (by omega)
  simp [fs_free, q1, q2]
theorem nf_step {p : Nat} (hp : p < 36) : (if (36 : Int32) ≤ nI p + 1 then (0 : Int32) else nI p + 1) = nI ((p + 1) % 36) := by
  rw [nI_1]
  by_cases q : p = 35
  · subst q; decide
  · have hn : ¬ (36 : Int32) ≤ nI (p + 1) := nI_ge (a := p + 1) (b := 36) (by omega) (by omega)
    rw [if_neg hn, Nat.mod_eq_of_lt (by omega)]
theorem nf_ok {c : Nat → Int32} {s : Int32} : ∀ (m p : Nat), p < 36 → (∃ i, i ≤ m ∧ fs_free c s (nI ((p + i) % 36)) = true) → fs_free c s (fs_nf c s m (nI p)) = true := by
  intro m
  induction m with
  | zero =>
    rintro p hp ⟨i, hi, h⟩
    obtain rfl : i = 0 := by omega
    rw [Nat.add_zero, Nat.mod_eq_of_lt hp] at h
    exact h
  | succ m ih =>
    rintro p hp ⟨i, hi, h⟩
    rw [fs_nf]
    by_cases q : fs_free c s (nI p) = true
    · rw [if_pos q]; exact q
    · rw [if_neg q, nf_step hp]
      refine ih _ (Nat.mod_lt _ (by decide)) ?_
      cases i with
      | zero => rw [Nat.add_zero, Nat.mod_eq_of_lt hp] at h; exact absurd h q
      | succ i => exact ⟨i, by omega, by rw [Nat.mod_add_mod, show p + 1 + i = p + (i + 1) by omega]; exact h⟩
theorem nf_free {c : Nat → Int32} {s p : Nat} (hs : s < 5) (hp : p < 36) : fs_free c (nI s) (fs_nf c (nI s) 36 (nI p)) = true := by
  refine nf_ok 36 p hp ?_
  obtain ⟨i, h1, h2⟩ := ex_free 4 (fs_ol c s) p (ol_len s hs) (by decide)
  exact ⟨i, by omega, by rw [free_n (Nat.mod_lt _ (by decide))]; exact fr_ol hs (Nat.mod_lt _ (by decide)) h2⟩
/-- where a throw of force F comes down -/
theorem th_p {F : Nat} (hF : F ≤ 2) (s t : Int32) : ∃ p, p < 36 ∧ 6 * (2 + fs_low s (2 * nI F + 2) - nI F) + (2 + fs_low t (2 * nI F + 2) - nI F) = nI p := by
  have e : 2 * nI F + 2 = nI (2 * F + 2) := by rw [show (2 : Int32) = nI 2 from rfl, pk_mul, nI_add]
  rw [e]
  obtain ⟨a, ha, ea⟩ := lw_n (s := s) (n := 2 * F + 2) (by omega) (by omega)
  obtain ⟨b, hb, eb⟩ := lw_n (s := t) (n := 2 * F + 2) (by omega) (by omega)
  rw [ea, eb]
  refine ⟨6 * (2 + a - F) + (2 + b - F), by omega, ?_⟩
  rw [show (2 : Int32) = nI 2 from rfl, show (6 : Int32) = nI 6 from rfl, nI_add, nI_add, pk_sub (by omega), pk_sub (by omega), pk_mul, nI_add]
section
variable {z : ni_Z} {a1 a2 a4 : Value} {y : Int32}
theorem L_mnf {c g : Nat → Int32} {h : ni_H} {s : Int32} (hM : h 49 = fs_mo g) (hC : h 56 = ni_I 5 c) : ∀ (m p : Nat), p < 36 → fs_free c s (fs_nf c s m (nI p)) = true → ∀ (d : Nat) (Q : ni_Q), ni_T (d + 1) 186 62 [.ref 49, a1, a2, .int s, a4, .int y, .int (nI p)] [] z h Q = ni_T (d + 1) 186 84 [.ref 49, a1, a2, .int s, a4, .int y, .int (fs_nf c s m (nI p))] [] z h Q := by
  intro m
  induction m with
  | zero =>
    intro p hp hf d Q
    have hf' : fs_fr c s (nI p) 5 0 = true := by rw [fs_nf, free_n hp] at hf; exact hf
    rw [s186_62]
    simp +decide only [s186_0, s186_1, s186_2, s186_3, s186_4, s186_5, s186_6, s186_9, s186_10, s186_13, s186_14, s186_15, s186_16, s186_19, s186_22, s186_23, s186_24, s186_25, s186_26, s186_27, s186_28, s186_29, s186_32, s186_33, s186_34, s186_35, s186_37, s186_38, s186_39, s186_40, s186_41, s186_42, s186_43, s186_44, s186_47, s186_48, s186_49, s186_50, s186_52, s186_54, s186_56, s186_57, s186_59, s186_60, s186_63, s186_64, s186_66, s186_69, s186_72, s186_74, s186_75, s186_76, s186_78, s186_79, s186_81, s186_85, s186_88, s186_89, s186_91, s186_92, s186_95, s186_98, s186_101, s186_102, hM, M_free hM hC, hf', fs_b, mi_0, mg_0, mi_1, mg_1, mi_2, mg_2, mi_3, mg_3, mi_4, mg_4, mi_5, mg_5, mi_6, mg_6, mi_7, mg_7, mi_8, mg_8, mi_9, mg_9, mi_10, mg_10, mi_11, mg_11, mi_12, mg_12, mi_13, mg_13, mi_14, mg_14, mi_15, mg_15, mi_16, mg_16, mi_17, mg_17, mi_18, mg_18, mi_19, mg_19, mi_20, mg_20, mi_21, mg_21, mi_22, mg_22, mi_23, mg_23, mi_24, mg_24, mi_25, mg_25, mi_26, mg_26, mi_27, mg_27, mi_28, mg_28, mi_29, mg_29, mi_30, mg_30, mi_31, mg_31, mi_32, mg_32, mp_0, mp_1, mp_2, mp_3, mp_4, mp_20, mp_21, mp_22, mp_23, mp_24, mp_27, mp_28, mp_29, mp_31, mp_32, mrc, ud_s, ud_n, ud_u, up_n, ↓reduceIte, kl_i, kl_r, kl_n, kl_a, kl_l, up_s, up_up, is_0, is_s, gv_0, gv_s, pv_o, rc_o, okI_i, okI_x, okS_i, okB_x, gi_i, pi_i, okL_l, gl_l, pl_l, okA_2, okA_3, ga_a, arr_0, arr_1, arr_10, arr_11, len_a, sw_0, sw_i, sw_r, sw_l, fit_i, fit_z0, fit_z1, nz_0, nz_1, ni_K_s, ni_K_n, Nat.ble_eq, Nat.zero_le, Nat.zero_add, true_and, and_true, and_self, Bool.and_true, Bool.true_and, Bool.and_self, not_true_eq_false, not_false_eq_true, Int32.reduceLE, Int32.reduceLT, Int32.reduceAdd, Int32.reduceSub, Int32.reduceToNatClampNeg, Nat.reduceLeDiff, Nat.reduceAdd, Nat.reduceEqDiff, Nat.reduceSub, List.set_cons_zero, List.set_cons_succ, false_and, and_false, fs_nf]
  | succ m ih =>
    intro p hp hf d Q
    rw [fs_nf] at hf
    rw [s186_62]
    cases q : fs_free c s (nI p)
    · rw [q, if_neg (by decide), nf_step hp] at hf
      have hf' : fs_fr c s (nI p) 5 0 = false := by rw [← free_n hp]; exact q
      have e36 : nI (p + 1) - nI (p + 1) / 36 * 36 = nI ((p + 1) % 36) := pk_rem (d := 36) (by omega) (by decide) (by decide)
      have ih2 := ih ((p + 1) % 36) (Nat.mod_lt _ (by decide)) hf
      simp +decide only [s186_0, s186_1, s186_2, s186_3, s186_4, s186_5, s186_6, s186_9, s186_10, s186_13, s186_14, s186_15, s186_16, s186_19, s186_22, s186_23, s186_24, s186_25, s186_26, s186_27, s186_28, s186_29, s186_32, s186_33, s186_34, s186_35, s186_37, s186_38, s186_39, s186_40, s186_41, s186_42, s186_43, s186_44, s186_47, s186_48, s186_49, s186_50, s186_52, s186_54, s186_56, s186_57, s186_59, s186_60, s186_63, s186_64, s186_66, s186_69, s186_72, s186_74, s186_75, s186_76, s186_78, s186_79, s186_81, s186_85, s186_88, s186_89, s186_91, s186_92, s186_95, s186_98, s186_101, s186_102, hM, M_free hM hC, hf', fs_b, nI_1, e36, ih2, mi_0, mg_0, mi_1, mg_1, mi_2, mg_2, mi_3, mg_3, mi_4, mg_4, mi_5, mg_5, mi_6, mg_6, mi_7, mg_7, mi_8, mg_8, mi_9, mg_9, mi_10, mg_10, mi_11, mg_11, mi_12, mg_12, mi_13, mg_13, mi_14, mg_14, mi_15, mg_15, mi_16, mg_16, mi_17, mg_17, mi_18, mg_18, mi_19, mg_19, mi_20, mg_20, mi_21, mg_21, mi_22, mg_22, mi_23, mg_23, mi_24, mg_24, mi_25, mg_25, mi_26, mg_26, mi_27, mg_27, mi_28, mg_28, mi_29, mg_29, mi_30, mg_30, mi_31, mg_31, mi_32, mg_32, mp_0, mp_1, mp_2, mp_3, mp_4, mp_20, mp_21, mp_22, mp_23, mp_24, mp_27, mp_28, mp_29, mp_31, mp_32, mrc, ud_s, ud_n, ud_u, up_n, ↓reduceIte, kl_i, kl_r, kl_n, kl_a, kl_l, up_s, up_up, is_0, is_s, gv_0, gv_s, pv_o, rc_o, okI_i, okI_x, okS_i, okB_x, gi_i, pi_i, okL_l, gl_l, pl_l, okA_2, okA_3, ga_a, arr_0, arr_1, arr_10, arr_11, len_a, sw_0, sw_i, sw_r, sw_l, fit_i, fit_z0, fit_z1, nz_0, nz_1, ni_K_s, ni_K_n, Nat.ble_eq, Nat.zero_le, Nat.zero_add, true_and, and_true, and_self, Bool.and_true, Bool.true_and, Bool.and_self, not_true_eq_false, not_false_eq_true, Int32.reduceLE, Int32.reduceLT, Int32.reduceAdd, Int32.reduceSub, Int32.reduceToNatClampNeg, Nat.reduceLeDiff, Nat.reduceAdd, Nat.reduceEqDiff, Nat.reduceSub, List.set_cons_zero, List.set_cons_succ, false_and, and_false]
      rw [fs_nf, q, if_neg (by decide), nf_step hp]
    · have hf' : fs_fr c s (nI p) 5 0 = true := by rw [← free_n hp]; exact q
      simp +decide only [s186_0, s186_1, s186_2, s186_3, s186_4, s186_5, s186_6, s186_9, s186_10, s186_13, s186_14, s186_15, s186_16, s186_19, s186_22, s186_23, s186_24, s186_25, s186_26, s186_27, s186_28, s186_29, s186_32, s186_33, s186_34, s186_35, s186_37, s186_38, s186_39, s186_40, s186_41, s186_42, s186_43, s186_44, s186_47, s186_48, s186_49, s186_50, s186_52, s186_54, s186_56, s186_57, s186_59, s186_60, s186_63, s186_64, s186_66, s186_69, s186_72, s186_74, s186_75, s186_76, s186_78, s186_79, s186_81, s186_85, s186_88, s186_89, s186_91, s186_92, s186_95, s186_98, s186_101, s186_102, hM, M_free hM hC, hf', fs_b, mi_0, mg_0, mi_1, mg_1, mi_2, mg_2, mi_3, mg_3, mi_4, mg_4, mi_5, mg_5, mi_6, mg_6, mi_7, mg_7, mi_8, mg_8, mi_9, mg_9, mi_10, mg_10, mi_11, mg_11, mi_12, mg_12, mi_13, mg_13, mi_14, mg_14, mi_15, mg_15, mi_16, mg_16, mi_17, mg_17, mi_18, mg_18, mi_19, mg_19, mi_20, mg_20, mi_21, mg_21, mi_22, mg_22, mi_23, mg_23, mi_24, mg_24, mi_25, mg_25, mi_26, mg_26, mi_27, mg_27, mi_28, mg_28, mi_29, mg_29, mi_30, mg_30, mi_31, mg_31, mi_32, mg_32, mp_0, mp_1, mp_2, mp_3, mp_4, mp_20, mp_21, mp_22, mp_23, mp_24, mp_27, mp_28, mp_29, mp_31, mp_32, mrc, ud_s, ud_n, ud_u, up_n, ↓reduceIte, kl_i, kl_r, kl_n, kl_a, kl_l, up_s, up_up, is_0, is_s, gv_0, gv_s, pv_o, rc_o, okI_i, okI_x, okS_i, okB_x, gi_i, pi_i, okL_l, gl_l, pl_l, okA_2, okA_3, ga_a, arr_0, arr_1, arr_10, arr_11, len_a, sw_0, sw_i, sw_r, sw_l, fit_i, fit_z0, fit_z1, nz_0, nz_1, ni_K_s, ni_K_n, Nat.ble_eq, Nat.zero_le, Nat.zero_add, true_and, and_true, and_self, Bool.and_true, Bool.true_and, Bool.and_self, not_true_eq_false, not_false_eq_true, Int32.reduceLE, Int32.reduceLT, Int32.reduceAdd, Int32.reduceSub, Int32.reduceToNatClampNeg, Nat.reduceLeDiff, Nat.reduceAdd, Nat.reduceEqDiff, Nat.reduceSub, List.set_cons_zero, List.set_cons_succ, false_and, and_false]
      rw [fs_nf, q, if_pos rfl]
theorem L_mthrow {F : Nat} (hF : F ≤ 2) : ∀ (m j : Nat) (c g : Nat → Int32) (b : Int32) (a4 a5 a6 : Value) (h : ni_H), j + m = 5 → h 49 = fs_mo g → h 56 = ni_I 5 c → ∀ (d : Nat) (Q : ni_Q), ni_T (d + 2) 186 4 [.ref 49, .int (nI F), .int b, .int (nI j), a4, a5, a6] [] z h Q = Q (some (.int (fs_th (nI F) m j c (g 3) b).2.2)) z (ni_up (ni_up h 56 (ni_I 5 (fs_th (nI F) m j c (g 3) b).1)) 49 (fs_mo (upd g 3 (fs_th (nI F) m j c (g 3) b).2.1))) := by
  intro m
  induction m with
  | zero =>
    intro j c g b a4 a5 a6 h e hM hC d Q
    obtain rfl : j = 5 := by omega
    have e3 : upd g 3 (g 3) = g := by funext i; unfold upd; split <;> simp_all
    rw [s186_4]
    simp +decide only [s186_0, s186_1, s186_2, s186_3, s186_5, s186_6, s186_9, s186_10, s186_13, s186_14, s186_15, s186_16, s186_19, s186_22, s186_23, s186_24, s186_25, s186_26, s186_27, s186_28, s186_29, s186_32, s186_33, s186_34, s186_35, s186_37, s186_38, s186_39, s186_40, s186_41, s186_42, s186_43, s186_44, s186_47, s186_48, s186_49, s186_50, s186_52, s186_54, s186_56, s186_57, s186_59, s186_60, s186_62, s186_63, s186_64, s186_66, s186_69, s186_72, s186_74, s186_75, s186_76, s186_78, s186_79, s186_81, s186_84, s186_85, s186_88, s186_89, s186_91, s186_92, s186_95, s186_98, s186_101, s186_102, show nI 5 = 5 from rfl, ↓reduceIte, kl_i, kl_r, kl_n, kl_a, kl_l, up_s, up_up, is_0, is_s, gv_0, gv_s, pv_o, rc_o, okI_i, okI_x, okS_i, okB_x, gi_i, pi_i, okL_l, gl_l, pl_l, okA_2, okA_3, ga_a, arr_0, arr_1, arr_10, arr_11, len_a, sw_0, sw_i, sw_r, sw_l, fit_i, fit_z0, fit_z1, nz_0, nz_1, ni_K_s, ni_K_n, Nat.ble_eq, Nat.zero_le, Nat.zero_add, true_and, and_true, and_self, Bool.and_true, Bool.true_and, Bool.and_self, not_true_eq_false, not_false_eq_true, Int32.reduceLE, Int32.reduceLT, Int32.reduceAdd, Int32.reduceSub, Int32.reduceToNatClampNeg, Nat.reduceLeDiff, Nat.reduceAdd, Nat.reduceEqDiff, Nat.reduceSub, List.set_cons_zero, List.set_cons_succ, false_and, and_false, fs_th]
    rw [up_id hC, e3, up_id hM]
  | succ m ih =>
    intro j c g b a4 a5 a6 h e hM hC d Q
    have h1 : ¬ (5 : Int32) ≤ nI j := nI_ge (a := j) (b := 5) (by omega) (by omega)
    have hx : ¬ 2 * nI F + 2 = 0 := by
      rw [show (2 : Int32) = nI 2 from rfl, pk_mul, nI_add]
      exact nI_ne0 (by omega) (by omega)
    rw [s186_4]
    by_cases q : c j = -1
    · obtain ⟨p, hp, ep⟩ := th_p hF (fs_draw (g 3)) (fs_draw (fs_draw (g 3)))
      have hnf := nf_free (c := c) (s := j) (by omega) hp
      have hl := L_mnf (z := z) (a1 := .int (nI F)) (a2 := .int b) (a4 := .int (2 + fs_low (fs_draw (g 3)) (2 * nI F + 2) - nI F)) (y := 2 + fs_low (fs_draw (fs_draw (g 3))) (2 * nI F + 2) - nI F) (h := ni_up h 49 (fs_mo (upd g 3 (fs_draw (fs_draw (g 3)))))) (c := c) (g := upd g 3 (fs_draw (fs_draw (g 3)))) (s := nI j) up_s (by rw [up_n (by decide)]; exact hC) 36 p hp hnf
      simp +decide only [s186_0, s186_1, s186_2, s186_3, s186_5, s186_6, s186_9, s186_10, s186_13, s186_14, s186_15, s186_16, s186_19, s186_22, s186_23, s186_24, s186_25, s186_26, s186_27, s186_28, s186_29, s186_32, s186_33, s186_34, s186_35, s186_37, s186_38, s186_39, s186_40, s186_41, s186_42, s186_43, s186_44, s186_47, s186_48, s186_49, s186_50, s186_52, s186_54, s186_56, s186_57, s186_59, s186_60, s186_63, s186_64, s186_66, s186_69, s186_72, s186_74, s186_75, s186_76, s186_78, s186_79, s186_81, s186_85, s186_88, s186_89, s186_91, s186_92, s186_95, s186_98, s186_101, s186_102, h1, q, hM, hC, M_draw hM hx, in_n (k := j) (n := 5) (by omega) (by decide), nI_clamp (n := j) (by omega), up_n, mi_0, mg_0, mi_1, mg_1, mi_2, mg_2, mi_3, mg_3, mi_4, mg_4, mi_5, mg_5, mi_6, mg_6, mi_7, mg_7, mi_8, mg_8, mi_9, mg_9, mi_10, mg_10, mi_11, mg_11, mi_12, mg_12, mi_13, mg_13, mi_14, mg_14, mi_15, mg_15, mi_16, mg_16, mi_17, mg_17, mi_18, mg_18, mi_19, mg_19, mi_20, mg_20, mi_21, mg_21, mi_22, mg_22, mi_23, mg_23, mi_24, mg_24, mi_25, mg_25, mi_26, mg_26, mi_27, mg_27, mi_28, mg_28, mi_29, mg_29, mi_30, mg_30, mi_31, mg_31, mi_32, mg_32, mp_0, mp_1, mp_2, mp_3, mp_4, mp_20, mp_21, mp_22, mp_23, mp_24, mp_27, mp_28, mp_29, mp_31, mp_32, mrc, ud_s, ud_n, ud_u, up_n, ↓reduceIte, kl_i, kl_r, kl_n, kl_a, kl_l, up_s, up_up, is_0, is_s, gv_0, gv_s, pv_o, rc_o, okI_i, okI_x, okS_i, okB_x, gi_i, pi_i, okL_l, gl_l, pl_l, okA_2, okA_3, ga_a, arr_0, arr_1, arr_10, arr_11, len_a, sw_0, sw_i, sw_r, sw_l, fit_i, fit_z0, fit_z1, nz_0, nz_1, ni_K_s, ni_K_n, Nat.ble_eq, Nat.zero_le, Nat.zero_add, true_and, and_true, and_self, Bool.and_true, Bool.true_and, Bool.and_self, not_true_eq_false, not_false_eq_true, Int32.reduceLE, Int32.reduceLT, Int32.reduceAdd, Int32.reduceSub, Int32.reduceToNatClampNeg, Nat.reduceLeDiff, Nat.reduceAdd, Nat.reduceEqDiff, Nat.reduceSub, List.set_cons_zero, List.set_cons_succ, false_and, and_false, fs_th]
      rw [M_draw up_s hx]
      simp +decide only [s186_0, s186_1, s186_2, s186_3, s186_5, s186_6, s186_9, s186_10, s186_13, s186_14, s186_15, s186_16, s186_19, s186_22, s186_23, s186_24, s186_25, s186_26, s186_27, s186_28, s186_29, s186_32, s186_33, s186_34, s186_35, s186_37, s186_38, s186_39, s186_40, s186_41, s186_42, s186_43, s186_44, s186_47, s186_48, s186_49, s186_50, s186_52, s186_54, s186_56, s186_57, s186_59, s186_60, s186_63, s186_64, s186_66, s186_69, s186_72, s186_74, s186_75, s186_76, s186_78, s186_79, s186_81, s186_85, s186_88, s186_89, s186_91, s186_92, s186_95, s186_98, s186_101, s186_102, ud_s, ud_u, up_up, ep, hl, mi_0, mg_0, mi_1, mg_1, mi_2, mg_2, mi_3, mg_3, mi_4, mg_4, mi_5, mg_5, mi_6, mg_6, mi_7, mg_7, mi_8, mg_8, mi_9, mg_9, mi_10, mg_10, mi_11, mg_11, mi_12, mg_12, mi_13, mg_13, mi_14, mg_14, mi_15, mg_15, mi_16, mg_16, mi_17, mg_17, mi_18, mg_18, mi_19, mg_19, mi_20, mg_20, mi_21, mg_21, mi_22, mg_22, mi_23, mg_23, mi_24, mg_24, mi_25, mg_25, mi_26, mg_26, mi_27, mg_27, mi_28, mg_28, mi_29, mg_29, mi_30, mg_30, mi_31, mg_31, mi_32, mg_32, mp_0, mp_1, mp_2, mp_3, mp_4, mp_20, mp_21, mp_22, mp_23, mp_24, mp_27, mp_28, mp_29, mp_31, mp_32, mrc, ud_s, ud_n, ud_u, up_n, ↓reduceIte, kl_i, kl_r, kl_n, kl_a, kl_l, up_s, up_up, is_0, is_s, gv_0, gv_s, pv_o, rc_o, okI_i, okI_x, okS_i, okB_x, gi_i, pi_i, okL_l, gl_l, pl_l, okA_2, okA_3, ga_a, arr_0, arr_1, arr_10, arr_11, len_a, sw_0, sw_i, sw_r, sw_l, fit_i, fit_z0, fit_z1, nz_0, nz_1, ni_K_s, ni_K_n, Nat.ble_eq, Nat.zero_le, Nat.zero_add, true_and, and_true, and_self, Bool.and_true, Bool.true_and, Bool.and_self, not_true_eq_false, not_false_eq_true, Int32.reduceLE, Int32.reduceLT, Int32.reduceAdd, Int32.reduceSub, Int32.reduceToNatClampNeg, Nat.reduceLeDiff, Nat.reduceAdd, Nat.reduceEqDiff, Nat.reduceSub, List.set_cons_zero, List.set_cons_succ, false_and, and_false]
      simp +decide only [s186_0, s186_1, s186_2, s186_3, s186_5, s186_6, s186_9, s186_10, s186_13, s186_14, s186_15, s186_16, s186_19, s186_22, s186_23, s186_24, s186_25, s186_26, s186_27, s186_28, s186_29, s186_32, s186_33, s186_34, s186_35, s186_37, s186_38, s186_39, s186_40, s186_41, s186_42, s186_43, s186_44, s186_47, s186_48, s186_49, s186_50, s186_52, s186_54, s186_56, s186_57, s186_59, s186_60, s186_63, s186_64, s186_66, s186_69, s186_72, s186_74, s186_75, s186_76, s186_78, s186_79, s186_81, s186_84, s186_85, s186_88, s186_89, s186_91, s186_92, s186_95, s186_98, s186_101, s186_102, hC, in_n (k := j) (n := 5) (by omega) (by decide), nI_clamp (n := j) (by omega), nI_1, up_n, mi_0, mg_0, mi_1, mg_1, mi_2, mg_2, mi_3, mg_3, mi_4, mg_4, mi_5, mg_5, mi_6, mg_6, mi_7, mg_7, mi_8, mg_8, mi_9, mg_9, mi_10, mg_10, mi_11, mg_11, mi_12, mg_12, mi_13, mg_13, mi_14, mg_14, mi_15, mg_15, mi_16, mg_16, mi_17, mg_17, mi_18, mg_18, mi_19, mg_19, mi_20, mg_20, mi_21, mg_21, mi_22, mg_22, mi_23, mg_23, mi_24, mg_24, mi_25, mg_25, mi_26, mg_26, mi_27, mg_27, mi_28, mg_28, mi_29, mg_29, mi_30, mg_30, mi_31, mg_31, mi_32, mg_32, mp_0, mp_1, mp_2, mp_3, mp_4, mp_20, mp_21, mp_22, mp_23, mp_24, mp_27, mp_28, mp_29, mp_31, mp_32, mrc, ud_s, ud_n, ud_u, up_n, ↓reduceIte, kl_i, kl_r, kl_n, kl_a, kl_l, up_s, up_up, is_0, is_s, gv_0, gv_s, pv_o, rc_o, okI_i, okI_x, okS_i, okB_x, gi_i, pi_i, okL_l, gl_l, pl_l, okA_2, okA_3, ga_a, arr_0, arr_1, arr_10, arr_11, len_a, sw_0, sw_i, sw_r, sw_l, fit_i, fit_z0, fit_z1, nz_0, nz_1, ni_K_s, ni_K_n, Nat.ble_eq, Nat.zero_le, Nat.zero_add, true_and, and_true, and_self, Bool.and_true, Bool.true_and, Bool.and_self, not_true_eq_false, not_false_eq_true, Int32.reduceLE, Int32.reduceLT, Int32.reduceAdd, Int32.reduceSub, Int32.reduceToNatClampNeg, Nat.reduceLeDiff, Nat.reduceAdd, Nat.reduceEqDiff, Nat.reduceSub, List.set_cons_zero, List.set_cons_succ, false_and, and_false]
      rw [ih (j + 1) (upd c j (fs_nf c (nI j) 36 (nI p))) (upd g 3 (fs_draw (fs_draw (g 3)))) _ _ _ _ _ (by omega) (by rw [up_n (by decide)]; exact up_s) up_s]
      rw [up_4 (by decide), ud_u, ud_s]
    · simp +decide only [s186_0, s186_1, s186_2, s186_3, s186_5, s186_6, s186_9, s186_10, s186_13, s186_14, s186_15, s186_16, s186_19, s186_22, s186_23, s186_24, s186_25, s186_26, s186_27, s186_28, s186_29, s186_32, s186_33, s186_34, s186_35, s186_37, s186_38, s186_39, s186_40, s186_41, s186_42, s186_43, s186_44, s186_47, s186_48, s186_49, s186_50, s186_52, s186_54, s186_56, s186_57, s186_59, s186_60, s186_63, s186_64, s186_66, s186_69, s186_72, s186_74, s186_75, s186_76, s186_78, s186_79, s186_81, s186_85, s186_88, s186_89, s186_91, s186_92, s186_95, s186_98, s186_101, s186_102, h1, q, hM, hC, in_n (k := j) (n := 5) (by omega) (by decide), nI_clamp (n := j) (by omega), nI_1, mi_0, mg_0, mi_1, mg_1, mi_2, mg_2, mi_3, mg_3, mi_4, mg_4, mi_5, mg_5, mi_6, mg_6, mi_7, mg_7, mi_8, mg_8, mi_9, mg_9, mi_10, mg_10, mi_11, mg_11, mi_12, mg_12, mi_13, mg_13, mi_14, mg_14, mi_15, mg_15, mi_16, mg_16, mi_17, mg_17, mi_18, mg_18, mi_19, mg_19, mi_20, mg_20, mi_21, mg_21, mi_22, mg_22, mi_23, mg_23, mi_24, mg_24, mi_25, mg_25, mi_26, mg_26, mi_27, mg_27, mi_28, mg_28, mi_29, mg_29, mi_30, mg_30, mi_31, mg_31, mi_32, mg_32, mp_0, mp_1, mp_2, mp_3, mp_4, mp_20, mp_21, mp_22, mp_23, mp_24, mp_27, mp_28, mp_29, mp_31, mp_32, mrc, ud_s, ud_n, ud_u, up_n, ↓reduceIte, kl_i, kl_r, kl_n, kl_a, kl_l, up_s, up_up, is_0, is_s, gv_0, gv_s, pv_o, rc_o, okI_i, okI_x, okS_i, okB_x, gi_i, pi_i, okL_l, gl_l, pl_l, okA_2, okA_3, ga_a, arr_0, arr_1, arr_10, arr_11, len_a, sw_0, sw_i, sw_r, sw_l, fit_i, fit_z0, fit_z1, nz_0, nz_1, ni_K_s, ni_K_n, Nat.ble_eq, Nat.zero_le, Nat.zero_add, true_and, and_true, and_self, Bool.and_true, Bool.true_and, Bool.and_self, not_true_eq_false, not_false_eq_true, Int32.reduceLE, Int32.reduceLT, Int32.reduceAdd, Int32.reduceSub, Int32.reduceToNatClampNeg, Nat.reduceLeDiff, Nat.reduceAdd, Nat.reduceEqDiff, Nat.reduceSub, List.set_cons_zero, List.set_cons_succ, false_and, and_false, fs_th]
      rw [ih (j + 1) c g b a4 a5 a6 h (by omega) hM hC]
theorem M_throw {F : Nat} {c g : Nat → Int32} {h : ni_H} {d : Nat} {Q : ni_Q} (hF : F ≤ 2) (hM : h 49 = fs_mo g) (hC : h 56 = ni_I 5 c) : ni_T (d + 2) 186 0 [.ref 49, .int (nI F), .retAddr 0, .retAddr 0, .retAddr 0, .retAddr 0, .retAddr 0] [] z h Q = Q (some (.int (fs_th (nI F) 5 0 c (g 3) 0).2.2)) z (ni_up (ni_up h 56 (ni_I 5 (fs_th (nI F) 5 0 c (g 3) 0).1)) 49 (fs_mo (upd g 3 (fs_th (nI F) 5 0 c (g 3) 0).2.1))) := by
  have e := L_mthrow (z := z) hF 5 0 c g 0 (.retAddr 0) (.retAddr 0) (.retAddr 0) h rfl hM hC d Q
  rw [nI_0] at e
  simp +decide only [s186_0, s186_1, s186_2, s186_3, s186_5, s186_6, s186_9, s186_10, s186_13, s186_14, s186_15, s186_16, s186_19, s186_22, s186_23, s186_24, s186_25, s186_26, s186_27, s186_28, s186_29, s186_32, s186_33, s186_34, s186_35, s186_37, s186_38, s186_39, s186_40, s186_41, s186_42, s186_43, s186_44, s186_47, s186_48, s186_49, s186_50, s186_52, s186_54, s186_56, s186_57, s186_59, s186_60, s186_63, s186_64, s186_66, s186_69, s186_72, s186_74, s186_75, s186_76, s186_78, s186_79, s186_81, s186_85, s186_88, s186_89, s186_91, s186_92, s186_95, s186_98, s186_101, s186_102, e, ↓reduceIte, kl_i, kl_r, kl_n, kl_a, kl_l, up_s, up_up, is_0, is_s, gv_0, gv_s, pv_o, rc_o, okI_i, okI_x, okS_i, okB_x, gi_i, pi_i, okL_l, gl_l, pl_l, okA_2, okA_3, ga_a, arr_0, arr_1, arr_10, arr_11, len_a, sw_0, sw_i, sw_r, sw_l, fit_i, fit_z0, fit_z1, nz_0, nz_1, ni_K_s, ni_K_n, Nat.ble_eq, Nat.zero_le, Nat.zero_add, true_and, and_true, and_self, Bool.and_true, Bool.true_and, Bool.and_self, not_true_eq_false, not_false_eq_true, Int32.reduceLE, Int32.reduceLT, Int32.reduceAdd, Int32.reduceSub, Int32.reduceToNatClampNeg, Nat.reduceLeDiff, Nat.reduceAdd, Nat.reduceEqDiff, Nat.reduceSub, List.set_cons_zero, List.set_cons_succ, false_and, and_false]
end
