set_option maxRecDepth 100000
set_option maxHeartbeats 1000000
/-! ===== the start: objects are made ===== -/
def fo_k (n : Nat) (h : ni_H) : Prop := ∀ m, n ≤ m → ∀ i, ni_oke m (h i) = true
def fe_k (n : Nat) (e : ni_E) : Prop := ∀ m, n ≤ m → ni_oke m e = true
theorem fo_m {n m : Nat} {h : ni_H} (a : fo_k n h) (b : n ≤ m) : fo_k m h := fun k hk i => a k (Nat.le_trans b hk) i
theorem fo_u {n i : Nat} {h : ni_H} {e : ni_E} (a : fo_k n h) (b : fe_k n e) : fo_k n (ni_up h i e) := by
  intro m hm j
  unfold ni_up
  split
  · exact b m hm
  · exact a m hm j
theorem okv_m {n m : Nat} {v : Value} (h : n ≤ m) (a : ni_okv n v = true) : ni_okv m v = true := by
  cases v with
  | ref i =>
    simp only [ni_okv, Bool.or_eq_true] at a ⊢
    rcases a with a | a
    · exact Or.inl (Nat.ble_eq_true_of_le (Nat.le_trans (Nat.le_of_ble_eq_true a) h))
    · exact Or.inr a
  | _ => rfl
theorem fe_i {n t k : Nat} {f : Nat → Int32} : fe_k n (.inl (t, k, .inl f)) := fun _ _ => rfl
theorem fe_l {n t k : Nat} {f : Nat → Int64} : fe_k n (.inl (t, k, .inr (.inl f))) := fun _ _ => rfl
def fo_o (n : Nat) (o : Option Nat) : Bool := match o with
  | some i => Nat.ble (i + 1) n
  | none => true
theorem fe_r {n t k : Nat} {l : List (Option Nat)} (a : l.all (fo_o n) = true) : fe_k n (.inl (t, k, .inr (.inr l))) := by
  intro m hm
  simp only [ni_oke]
  refine List.all_eq_true.mpr (fun o ho => ?_)
  have b := List.all_eq_true.mp a o ho
  cases o with
  | none => rfl
  | some i => exact Nat.ble_eq_true_of_le (Nat.le_trans (Nat.le_of_ble_eq_true b) hm)
theorem fe_o {n c : Nat} {l : List Value} (a : l.all (ni_okv n) = true) : fe_k n (.inr (c, l)) := by
  intro m hm
  simp only [ni_oke]
  exact List.all_eq_true.mpr (fun o ho => okv_m hm (List.all_eq_true.mp a o ho))
theorem ok_t {n : Nat} {ls st : List Value} {h : ni_H} (k : fo_k n h) (a : ls.all (ni_okv n) = true) (b : st.all (ni_okv n) = true) : ni_ok n ls st h = true := by
  unfold ni_ok
  rw [a, b]
  simp only [Bool.true_and]
  exact List.all_eq_true.mpr (fun i _ => k n (Nat.le_refl _) i)
theorem okv_i {n : Nat} {x : Int32} : ni_okv n (.int x) = true := rfl
theorem okv_l {n : Nat} {x : Int64} : ni_okv n (.long x) = true := rfl
theorem okv_n {n : Nat} : ni_okv n .null = true := rfl
theorem okv_a {n k : Nat} : ni_okv n (.retAddr k) = true := rfl
theorem fit_ar {t : FieldType} {i : Nat} : ni_fit (.array t) (.ref i) = true := by simp [ni_fit, narrow, fits]
theorem fit_ob {c : String} {i : Nat} : ni_fit (.object c) (.ref i) = true := by simp [ni_fit, narrow, fits]
theorem tag_a {t n : Nat} {a : (Nat → Int32) ⊕ ((Nat → Int64) ⊕ List (Option Nat))} : ni_tag (.inl (t, n, a)) = t := rfl
theorem elt_2 : ni_elt 2 = 4 := rfl
theorem elt_3 : ni_elt 3 = 1 := rfl
theorem ll_a {t n : Nat} {l : List (Option Nat)} : ni_ll (.inl (t, n, .inr (.inr l))) = l.length := rfl
theorem pa_a {t n x : Nat} {l : List (Option Nat)} {i : Int32} : ni_pa (.inl (t, n, .inr (.inr l))) i x = .inl (t, n, .inr (.inr (l.set i.toNatClampNeg (some x)))) := rfl
theorem rep_4 : List.replicate 4 (none : Option Nat) = [none, none, none, none] := rfl
theorem rep_8 : List.replicate 8 (none : Option Nat) = [none, none, none, none, none, none, none, none] := rfl
theorem dfs_0 : ni_dfs 0 = [.null, .int 0] := rfl
theorem dfs_1 : ni_dfs 1 = [.int 0, .int 0, .int 0, .int 0, .int 0, .int 0] := rfl
theorem dfs_2 : ni_dfs 2 = [.null, .null, .null, .null, .null, .int 0, .int 0] := rfl
theorem dfs_3 : ni_dfs 3 = [.int 0, .int 0, .int 0] := rfl
theorem dfs_4 : ni_dfs 4 = [.null, .int 0, .int 0, .int 0, .int 0] := rfl
theorem dfs_5 : ni_dfs 5 = [.null, .null, .int 0, .int 0, .int 0, .int 0] := rfl
theorem dfs_6 : ni_dfs 6 = [.null, .null, .null, .null, .null, .null, .null, .null, .int 0, .int 0] := rfl
theorem dfs_7 : ni_dfs 7 = [.int 0, .int 0, .int 0, .int 0, .int 0, .null, .null, .null, .null, .null, .null, .null, .null, .null, .null, .null, .null, .null, .null, .null, .int 0, .int 0, .int 0, .int 0, .int 0, .null, .null, .int 0, .int 0, .int 0, .null, .int 0, .int 0] := rfl
/-- a table at its start -/
def fs_u0 (i j : Nat) : Int32 := if i = 0 then (if j < 5 then -1 else 0) else if i = 3 then 1 else if i = 6 ∧ j = 3 then 1 else 0
theorem u0_0 : fs_u0 0 = fun j => if j < 5 then -1 else 0 := by
  funext j
  simp [fs_u0]
theorem u0_nz : fs_nz fs_u0 = fs_u0 := by
  funext i j
  unfold fs_nz fs_u0
  by_cases a : i = 0
  · by_cases b : j < 5
    · have : ¬ 5 ≤ j := by omega
      simp [a, this]
    · have : 5 ≤ j := by omega
      simp [a, b, this]
  · simp [a]
section
variable {d s : Nat} {h : ni_H} {Q : ni_Q}
theorem X_tinit_2 (ho : fo_k 3 h) (hT : h 2 = .inr (5, ni_dfs 5)) (hQ : ∀ (s' : Nat) (h' : ni_H), s' ≤ s + 60 → fs_tab 2 fs_u0 h' → (∀ i, i < 2 ∨ 9 ≤ i → h' i = h i) → fo_k 9 h' → Q none (9, s') h') : ni_T (d + 3) 46 0 [.ref 2, .retAddr 0] [] (3, s) h Q := by
  rw [dfs_5] at hT
  simp +decide (maxDischargeDepth := 200) only [s46_0, s46_1, s46_4, s46_5, s46_6, s46_8, s46_11, s46_12, s46_13, s46_16, s46_19, s46_20, s46_21, s46_24, s46_25, s46_26, s46_29, s46_30, s46_31, s46_34, s46_35, s46_36, s46_39, s46_40, s46_43, s46_44, s46_44N0, s46_47, s46_48, s46_49, s46_50, s46_51, s46_54, s46_55, s46_58, s46_59, s46_62, s46_62i, s46_63, s46_64, s46_67, s46_68, s46_71, s46_74, s6_0, s6_1, s6_4, s6_5, s6_6, s6_9, s6_10, s6_11, s6_14, s6_15, s6_16, s6_19, s6_20, s6_21, s6_24, s6_25, s6_26, s6_29, s6_30, s6_31, s6_34, X_fillI (o := 3) (n := 5) (f := fun _ => 0) (by decide), hT, fo_m ho, ok_t, fo_u, fe_i, fe_l, fe_r, fe_o, List.all_cons, List.all_nil, okv_i, okv_l, okv_n, okv_a, fit_ar, fit_ob, tag_a, elt_2, elt_3, ll_a, pa_a, rep_4, rep_8, dfs_0, dfs_1, dfs_2, dfs_3, dfs_4, dfs_5, dfs_6, dfs_7, ni_K_no, up_n, List.length_cons, List.length_nil, ↓reduceIte, kl_i, kl_r, kl_n, kl_a, kl_l, up_s, up_up, is_0, is_s, gv_0, gv_s, pv_o, rc_o, okI_i, okI_x, okS_i, okB_x, gi_i, pi_i, okL_l, gl_l, pl_l, okA_2, okA_3, ga_a, arr_0, arr_1, arr_10, arr_11, len_a, sw_0, sw_i, sw_r, sw_l, fit_i, fit_z0, fit_z1, nz_0, nz_1, ni_K_s, ni_K_n, Nat.ble_eq, Nat.zero_le, Nat.zero_add, true_and, and_true, and_self, Bool.and_true, Bool.true_and, Bool.and_self, not_true_eq_false, not_false_eq_true, Int32.reduceLE, Int32.reduceLT, Int32.reduceAdd, Int32.reduceSub, Int32.reduceToNatClampNeg, Nat.reduceLeDiff, Nat.reduceAdd, Nat.reduceEqDiff, Nat.reduceSub, List.set_cons_zero, List.set_cons_succ, false_and, and_false]
  refine hQ _ _ ?_ ?_ ?_ ?_
  · omega
  · refine ⟨?_, ?_, ?_, ?_⟩
    · simp +decide only [up_s, up_n]
      rfl
    · simp +decide only [up_s, up_n, u0_0]
    · simp +decide only [up_s, up_n]
    · intro k hk
      match k, hk with
      | 0, _ => simp +decide only [up_s, up_n]; rfl
      | 1, _ => simp +decide only [up_s, up_n]; rfl
      | 2, _ => simp +decide only [up_s, up_n]; rfl
      | 3, _ => simp +decide only [up_s, up_n]; rfl
      | k + 4, h => omega
  · intro i hi
    repeat rw [up_n (by omega)]
  · simp +decide (maxDischargeDepth := 200) only [fo_m ho, ok_t, fo_u, fe_i, fe_l, fe_r, fe_o, List.all_cons, List.all_nil, okv_i, okv_l, okv_n, okv_a, fit_ar, fit_ob, tag_a, elt_2, elt_3, ll_a, pa_a, rep_4, rep_8, dfs_0, dfs_1, dfs_2, dfs_3, dfs_4, dfs_5, dfs_6, dfs_7, ni_K_no, up_n, List.length_cons, List.length_nil, ↓reduceIte, kl_i, kl_r, kl_n, kl_a, kl_l, up_s, up_up, is_0, is_s, gv_0, gv_s, pv_o, rc_o, okI_i, okI_x, okS_i, okB_x, gi_i, pi_i, okL_l, gl_l, pl_l, okA_2, okA_3, ga_a, arr_0, arr_1, arr_10, arr_11, len_a, sw_0, sw_i, sw_r, sw_l, fit_i, fit_z0, fit_z1, nz_0, nz_1, ni_K_s, ni_K_n, Nat.ble_eq, Nat.zero_le, Nat.zero_add, true_and, and_true, and_self, Bool.and_true, Bool.true_and, Bool.and_self, not_true_eq_false, not_false_eq_true, Int32.reduceLE, Int32.reduceLT, Int32.reduceAdd, Int32.reduceSub, Int32.reduceToNatClampNeg, Nat.reduceLeDiff, Nat.reduceAdd, Nat.reduceEqDiff, Nat.reduceSub, List.set_cons_zero, List.set_cons_succ, false_and, and_false]
theorem X_tinit_9 (ho : fo_k 10 h) (hT : h 9 = .inr (5, ni_dfs 5)) (hQ : ∀ (s' : Nat) (h' : ni_H), s' ≤ s + 60 → fs_tab 9 fs_u0 h' → (∀ i, i < 9 ∨ 16 ≤ i → h' i = h i) → fo_k 16 h' → Q none (16, s') h') : ni_T (d + 3) 46 0 [.ref 9, .retAddr 0] [] (10, s) h Q := by
  rw [dfs_5] at hT
  simp +decide (maxDischargeDepth := 200) only [s46_0, s46_1, s46_4, s46_5, s46_6, s46_8, s46_11, s46_12, s46_13, s46_16, s46_19, s46_20, s46_21, s46_24, s46_25, s46_26, s46_29, s46_30, s46_31, s46_34, s46_35, s46_36, s46_39, s46_40, s46_43, s46_44, s46_44N0, s46_47, s46_48, s46_49, s46_50, s46_51, s46_54, s46_55, s46_58, s46_59, s46_62, s46_62i, s46_63, s46_64, s46_67, s46_68, s46_71, s46_74, s6_0, s6_1, s6_4, s6_5, s6_6, s6_9, s6_10, s6_11, s6_14, s6_15, s6_16, s6_19, s6_20, s6_21, s6_24, s6_25, s6_26, s6_29, s6_30, s6_31, s6_34, X_fillI (o := 10) (n := 5) (f := fun _ => 0) (by decide), hT, fo_m ho, ok_t, fo_u, fe_i, fe_l, fe_r, fe_o, List.all_cons, List.all_nil, okv_i, okv_l, okv_n, okv_a, fit_ar, fit_ob, tag_a, elt_2, elt_3, ll_a, pa_a, rep_4, rep_8, dfs_0, dfs_1, dfs_2, dfs_3, dfs_4, dfs_5, dfs_6, dfs_7, ni_K_no, up_n, List.length_cons, List.length_nil, ↓reduceIte, kl_i, kl_r, kl_n, kl_a, kl_l, up_s, up_up, is_0, is_s, gv_0, gv_s, pv_o, rc_o, okI_i, okI_x, okS_i, okB_x, gi_i, pi_i, okL_l, gl_l, pl_l, okA_2, okA_3, ga_a, arr_0, arr_1, arr_10, arr_11, len_a, sw_0, sw_i, sw_r, sw_l, fit_i, fit_z0, fit_z1, nz_0, nz_1, ni_K_s, ni_K_n, Nat.ble_eq, Nat.zero_le, Nat.zero_add, true_and, and_true, and_self, Bool.and_true, Bool.true_and, Bool.and_self, not_true_eq_false, not_false_eq_true, Int32.reduceLE, Int32.reduceLT, Int32.reduceAdd, Int32.reduceSub, Int32.reduceToNatClampNeg, Nat.reduceLeDiff, Nat.reduceAdd, Nat.reduceEqDiff, Nat.reduceSub, List.set_cons_zero, List.set_cons_succ, false_and, and_false]
  refine hQ _ _ ?_ ?_ ?_ ?_
  · omega
  · refine ⟨?_, ?_, ?_, ?_⟩
    · simp +decide only [up_s, up_n]
      rfl
    · simp +decide only [up_s, up_n, u0_0]
    · simp +decide only [up_s, up_n]
    · intro k hk
      match k, hk with
      | 0, _ => simp +decide only [up_s, up_n]; rfl
      | 1, _ => simp +decide only [up_s, up_n]; rfl
      | 2, _ => simp +decide only [up_s, up_n]; rfl
      | 3, _ => simp +decide only [up_s, up_n]; rfl
      | k + 4, h => omega
  · intro i hi
    repeat rw [up_n (by omega)]
  · simp +decide (maxDischargeDepth := 200) only [fo_m ho, ok_t, fo_u, fe_i, fe_l, fe_r, fe_o, List.all_cons, List.all_nil, okv_i, okv_l, okv_n, okv_a, fit_ar, fit_ob, tag_a, elt_2, elt_3, ll_a, pa_a, rep_4, rep_8, dfs_0, dfs_1, dfs_2, dfs_3, dfs_4, dfs_5, dfs_6, dfs_7, ni_K_no, up_n, List.length_cons, List.length_nil, ↓reduceIte, kl_i, kl_r, kl_n, kl_a, kl_l, up_s, up_up, is_0, is_s, gv_0, gv_s, pv_o, rc_o, okI_i, okI_x, okS_i, okB_x, gi_i, pi_i, okL_l, gl_l, pl_l, okA_2, okA_3, ga_a, arr_0, arr_1, arr_10, arr_11, len_a, sw_0, sw_i, sw_r, sw_l, fit_i, fit_z0, fit_z1, nz_0, nz_1, ni_K_s, ni_K_n, Nat.ble_eq, Nat.zero_le, Nat.zero_add, true_and, and_true, and_self, Bool.and_true, Bool.true_and, Bool.and_self, not_true_eq_false, not_false_eq_true, Int32.reduceLE, Int32.reduceLT, Int32.reduceAdd, Int32.reduceSub, Int32.reduceToNatClampNeg, Nat.reduceLeDiff, Nat.reduceAdd, Nat.reduceEqDiff, Nat.reduceSub, List.set_cons_zero, List.set_cons_succ, false_and, and_false]
theorem X_tinit_16 (ho : fo_k 17 h) (hT : h 16 = .inr (5, ni_dfs 5)) (hQ : ∀ (s' : Nat) (h' : ni_H), s' ≤ s + 60 → fs_tab 16 fs_u0 h' → (∀ i, i < 16 ∨ 23 ≤ i → h' i = h i) → fo_k 23 h' → Q none (23, s') h') : ni_T (d + 3) 46 0 [.ref 16, .retAddr 0] [] (17, s) h Q := by
  rw [dfs_5] at hT
  simp +decide (maxDischargeDepth := 200) only [s46_0, s46_1, s46_4, s46_5, s46_6, s46_8, s46_11, s46_12, s46_13, s46_16, s46_19, s46_20, s46_21, s46_24, s46_25, s46_26, s46_29, s46_30, s46_31, s46_34, s46_35, s46_36, s46_39, s46_40, s46_43, s46_44, s46_44N0, s46_47, s46_48, s46_49, s46_50, s46_51, s46_54, s46_55, s46_58, s46_59, s46_62, s46_62i, s46_63, s46_64, s46_67, s46_68, s46_71, s46_74, s6_0, s6_1, s6_4, s6_5, s6_6, s6_9, s6_10, s6_11, s6_14, s6_15, s6_16, s6_19, s6_20, s6_21, s6_24, s6_25, s6_26, s6_29, s6_30, s6_31, s6_34, X_fillI (o := 17) (n := 5) (f := fun _ => 0) (by decide), hT, fo_m ho, ok_t, fo_u, fe_i, fe_l, fe_r, fe_o, List.all_cons, List.all_nil, okv_i, okv_l, okv_n, okv_a, fit_ar, fit_ob, tag_a, elt_2, elt_3, ll_a, pa_a, rep_4, rep_8, dfs_0, dfs_1, dfs_2, dfs_3, dfs_4, dfs_5, dfs_6, dfs_7, ni_K_no, up_n, List.length_cons, List.length_nil, ↓reduceIte, kl_i, kl_r, kl_n, kl_a, kl_l, up_s, up_up, is_0, is_s, gv_0, gv_s, pv_o, rc_o, okI_i, okI_x, okS_i, okB_x, gi_i, pi_i, okL_l, gl_l, pl_l, okA_2, okA_3, ga_a, arr_0, arr_1, arr_10, arr_11, len_a, sw_0, sw_i, sw_r, sw_l, fit_i, fit_z0, fit_z1, nz_0, nz_1, ni_K_s, ni_K_n, Nat.ble_eq, Nat.zero_le, Nat.zero_add, true_and, and_true, and_self, Bool.and_true, Bool.true_and, Bool.and_self, not_true_eq_false, not_false_eq_true, Int32.reduceLE, Int32.reduceLT, Int32.reduceAdd, Int32.reduceSub, Int32.reduceToNatClampNeg, Nat.reduceLeDiff, Nat.reduceAdd, Nat.reduceEqDiff, Nat.reduceSub, List.set_cons_zero, List.set_cons_succ, false_and, and_false]
  refine hQ _ _ ?_ ?_ ?_ ?_
  · omega
  · refine ⟨?_, ?_, ?_, ?_⟩
    · simp +decide only [up_s, up_n]
      rfl
    · simp +decide only [up_s, up_n, u0_0]
    · simp +decide only [up_s, up_n]
    · intro k hk
      match k, hk with
      | 0, _ => simp +decide only [up_s, up_n]; rfl
      | 1, _ => simp +decide only [up_s, up_n]; rfl
      | 2, _ => simp +decide only [up_s, up_n]; rfl
      | 3, _ => simp +decide only [up_s, up_n]; rfl
      | k + 4, h => omega
  · intro i hi
    repeat rw [up_n (by omega)]
  · simp +decide (maxDischargeDepth := 200) only [fo_m ho, ok_t, fo_u, fe_i, fe_l, fe_r, fe_o, List.all_cons, List.all_nil, okv_i, okv_l, okv_n, okv_a, fit_ar, fit_ob, tag_a, elt_2, elt_3, ll_a, pa_a, rep_4, rep_8, dfs_0, dfs_1, dfs_2, dfs_3, dfs_4, dfs_5, dfs_6, dfs_7, ni_K_no, up_n, List.length_cons, List.length_nil, ↓reduceIte, kl_i, kl_r, kl_n, kl_a, kl_l, up_s, up_up, is_0, is_s, gv_0, gv_s, pv_o, rc_o, okI_i, okI_x, okS_i, okB_x, gi_i, pi_i, okL_l, gl_l, pl_l, okA_2, okA_3, ga_a, arr_0, arr_1, arr_10, arr_11, len_a, sw_0, sw_i, sw_r, sw_l, fit_i, fit_z0, fit_z1, nz_0, nz_1, ni_K_s, ni_K_n, Nat.ble_eq, Nat.zero_le, Nat.zero_add, true_and, and_true, and_self, Bool.and_true, Bool.true_and, Bool.and_self, not_true_eq_false, not_false_eq_true, Int32.reduceLE, Int32.reduceLT, Int32.reduceAdd, Int32.reduceSub, Int32.reduceToNatClampNeg, Nat.reduceLeDiff, Nat.reduceAdd, Nat.reduceEqDiff, Nat.reduceSub, List.set_cons_zero, List.set_cons_succ, false_and, and_false]
theorem X_sh_0 (h0 : h 0 = ni_O 6 [.ref 1, .ref 2, .ref 9, .ref 16, .ref 23, .ref 29, .ref 31, .ref 32, .int 0, .int (-1)]) (h1 : h 1 = ni_R 2 8 [none, none, none, none, none, none, none, none]) (ho : fo_k 33 h) (hQ : ∀ (s' : Nat) (h' : ni_H), s' ≤ s + 170 → h' 1 = ni_R 2 8 [some 33, none, none, none, none, none, none, none] → h' 33 = ni_O 4 [.ref 34, .int 0, .int (-1), .int 0, .int 0] → h' 34 = ni_L 160 (fun _ => 0) → (∀ i, i ≠ 1 → (i < 33 ∨ 35 ≤ i) → h' i = h i) → fo_k 35 h' → ni_T (d + 4) 66 99 [.ref 0, .int 1] [] (35, s') h' Q) : ni_T (d + 4) 66 99 [.ref 0, .int 0] [] (33, s) h Q := by
  rw [s66_99]
  simp +decide (maxDischargeDepth := 200) only [s66_100, s66_102, s66_105, s66_106, s66_109, s66_110, s66_113, s66_113i, s66_114, s66_117, s66_118, s66_121, s66_124, s41_0, s41_1, s41_4, s41_5, s41_8, s41_10, s41_13, s41_14, s41_15, s41_18, s41_19, s41_20, s41_23, s41_24, s41_25, s41_28, s41_29, s41_30, s41_33, h0, h1, fo_m ho, ok_t, fo_u, fe_i, fe_l, fe_r, fe_o, List.all_cons, List.all_nil, okv_i, okv_l, okv_n, okv_a, fit_ar, fit_ob, tag_a, elt_2, elt_3, ll_a, pa_a, rep_4, rep_8, dfs_0, dfs_1, dfs_2, dfs_3, dfs_4, dfs_5, dfs_6, dfs_7, ni_K_no, up_n, List.length_cons, List.length_nil, ↓reduceIte, kl_i, kl_r, kl_n, kl_a, kl_l, up_s, up_up, is_0, is_s, gv_0, gv_s, pv_o, rc_o, okI_i, okI_x, okS_i, okB_x, gi_i, pi_i, okL_l, gl_l, pl_l, okA_2, okA_3, ga_a, arr_0, arr_1, arr_10, arr_11, len_a, sw_0, sw_i, sw_r, sw_l, fit_i, fit_z0, fit_z1, nz_0, nz_1, ni_K_s, ni_K_n, Nat.ble_eq, Nat.zero_le, Nat.zero_add, true_and, and_true, and_self, Bool.and_true, Bool.true_and, Bool.and_self, not_true_eq_false, not_false_eq_true, Int32.reduceLE, Int32.reduceLT, Int32.reduceAdd, Int32.reduceSub, Int32.reduceToNatClampNeg, Nat.reduceLeDiff, Nat.reduceAdd, Nat.reduceEqDiff, Nat.reduceSub, List.set_cons_zero, List.set_cons_succ, false_and, and_false]
  refine hQ _ _ ?_ ?_ ?_ ?_ ?_ ?_
  · omega
  · simp +decide only [up_s, up_n]
  · simp +decide only [up_s, up_n]
  · simp +decide only [up_s, up_n]
  · intro i hi hj
    repeat rw [up_n (by omega)]
  · simp +decide (maxDischargeDepth := 200) only [fo_m ho, ok_t, fo_u, fe_i, fe_l, fe_r, fe_o, List.all_cons, List.all_nil, okv_i, okv_l, okv_n, okv_a, fit_ar, fit_ob, tag_a, elt_2, elt_3, ll_a, pa_a, rep_4, rep_8, dfs_0, dfs_1, dfs_2, dfs_3, dfs_4, dfs_5, dfs_6, dfs_7, ni_K_no, up_n, List.length_cons, List.length_nil, ↓reduceIte, kl_i, kl_r, kl_n, kl_a, kl_l, up_s, up_up, is_0, is_s, gv_0, gv_s, pv_o, rc_o, okI_i, okI_x, okS_i, okB_x, gi_i, pi_i, okL_l, gl_l, pl_l, okA_2, okA_3, ga_a, arr_0, arr_1, arr_10, arr_11, len_a, sw_0, sw_i, sw_r, sw_l, fit_i, fit_z0, fit_z1, nz_0, nz_1, ni_K_s, ni_K_n, Nat.ble_eq, Nat.zero_le, Nat.zero_add, true_and, and_true, and_self, Bool.and_true, Bool.true_and, Bool.and_self, not_true_eq_false, not_false_eq_true, Int32.reduceLE, Int32.reduceLT, Int32.reduceAdd, Int32.reduceSub, Int32.reduceToNatClampNeg, Nat.reduceLeDiff, Nat.reduceAdd, Nat.reduceEqDiff, Nat.reduceSub, List.set_cons_zero, List.set_cons_succ, false_and, and_false]
theorem X_sh_1 (h0 : h 0 = ni_O 6 [.ref 1, .ref 2, .ref 9, .ref 16, .ref 23, .ref 29, .ref 31, .ref 32, .int 0, .int (-1)]) (h1 : h 1 = ni_R 2 8 [some 33, none, none, none, none, none, none, none]) (ho : fo_k 35 h) (hQ : ∀ (s' : Nat) (h' : ni_H), s' ≤ s + 170 → h' 1 = ni_R 2 8 [some 33, some 35, none, none, none, none, none, none] → h' 35 = ni_O 4 [.ref 36, .int 0, .int (-1), .int 0, .int 0] → h' 36 = ni_L 160 (fun _ => 0) → (∀ i, i ≠ 1 → (i < 35 ∨ 37 ≤ i) → h' i = h i) → fo_k 37 h' → ni_T (d + 4) 66 99 [.ref 0, .int 2] [] (37, s') h' Q) : ni_T (d + 4) 66 99 [.ref 0, .int 1] [] (35, s) h Q := by
  rw [s66_99]
  simp +decide (maxDischargeDepth := 200) only [s66_100, s66_102, s66_105, s66_106, s66_109, s66_110, s66_113, s66_113i, s66_114, s66_117, s66_118, s66_121, s66_124, s41_0, s41_1, s41_4, s41_5, s41_8, s41_10, s41_13, s41_14, s41_15, s41_18, s41_19, s41_20, s41_23, s41_24, s41_25, s41_28, s41_29, s41_30, s41_33, h0, h1, fo_m ho, ok_t, fo_u, fe_i, fe_l, fe_r, fe_o, List.all_cons, List.all_nil, okv_i, okv_l, okv_n, okv_a, fit_ar, fit_ob, tag_a, elt_2, elt_3, ll_a, pa_a, rep_4, rep_8, dfs_0, dfs_1, dfs_2, dfs_3, dfs_4, dfs_5, dfs_6, dfs_7, ni_K_no, up_n, List.length_cons, List.length_nil, ↓reduceIte, kl_i, kl_r, kl_n, kl_a, kl_l, up_s, up_up, is_0, is_s, gv_0, gv_s, pv_o, rc_o, okI_i, okI_x, okS_i, okB_x, gi_i, pi_i, okL_l, gl_l, pl_l, okA_2, okA_3, ga_a, arr_0, arr_1, arr_10, arr_11, len_a, sw_0, sw_i, sw_r, sw_l, fit_i, fit_z0, fit_z1, nz_0, nz_1, ni_K_s, ni_K_n, Nat.ble_eq, Nat.zero_le, Nat.zero_add, true_and, and_true, and_self, Bool.and_true, Bool.true_and, Bool.and_self, not_true_eq_false, not_false_eq_true, Int32.reduceLE, Int32.reduceLT, Int32.reduceAdd, Int32.reduceSub, Int32.reduceToNatClampNeg, Nat.reduceLeDiff, Nat.reduceAdd, Nat.reduceEqDiff, Nat.reduceSub, List.set_cons_zero, List.set_cons_succ, false_and, and_false]
  refine hQ _ _ ?_ ?_ ?_ ?_ ?_ ?_
  · omega
  · simp +decide only [up_s, up_n]
  · simp +decide only [up_s, up_n]
  · simp +decide only [up_s, up_n]
  · intro i hi hj
    repeat rw [up_n (by omega)]
  · simp +decide (maxDischargeDepth := 200) only [fo_m ho, ok_t, fo_u, fe_i, fe_l, fe_r, fe_o, List.all_cons, List.all_nil, okv_i, okv_l, okv_n, okv_a, fit_ar, fit_ob, tag_a, elt_2, elt_3, ll_a, pa_a, rep_4, rep_8, dfs_0, dfs_1, dfs_2, dfs_3, dfs_4, dfs_5, dfs_6, dfs_7, ni_K_no, up_n, List.length_cons, List.length_nil, ↓reduceIte, kl_i, kl_r, kl_n, kl_a, kl_l, up_s, up_up, is_0, is_s, gv_0, gv_s, pv_o, rc_o, okI_i, okI_x, okS_i, okB_x, gi_i, pi_i, okL_l, gl_l, pl_l, okA_2, okA_3, ga_a, arr_0, arr_1, arr_10, arr_11, len_a, sw_0, sw_i, sw_r, sw_l, fit_i, fit_z0, fit_z1, nz_0, nz_1, ni_K_s, ni_K_n, Nat.ble_eq, Nat.zero_le, Nat.zero_add, true_and, and_true, and_self, Bool.and_true, Bool.true_and, Bool.and_self, not_true_eq_false, not_false_eq_true, Int32.reduceLE, Int32.reduceLT, Int32.reduceAdd, Int32.reduceSub, Int32.reduceToNatClampNeg, Nat.reduceLeDiff, Nat.reduceAdd, Nat.reduceEqDiff, Nat.reduceSub, List.set_cons_zero, List.set_cons_succ, false_and, and_false]
theorem X_sh_2 (h0 : h 0 = ni_O 6 [.ref 1, .ref 2, .ref 9, .ref 16, .ref 23, .ref 29, .ref 31, .ref 32, .int 0, .int (-1)]) (h1 : h 1 = ni_R 2 8 [some 33, some 35, none, none, none, none, none, none]) (ho : fo_k 37 h) (hQ : ∀ (s' : Nat) (h' : ni_H), s' ≤ s + 170 → h' 1 = ni_R 2 8 [some 33, some 35, some 37, none, none, none, none, none] → h' 37 = ni_O 4 [.ref 38, .int 0, .int (-1), .int 0, .int 0] → h' 38 = ni_L 160 (fun _ => 0) → (∀ i, i ≠ 1 → (i < 37 ∨ 39 ≤ i) → h' i = h i) → fo_k 39 h' → ni_T (d + 4) 66 99 [.ref 0, .int 3] [] (39, s') h' Q) : ni_T (d + 4) 66 99 [.ref 0, .int 2] [] (37, s) h Q := by
  rw [s66_99]
  simp +decide (maxDischargeDepth := 200) only [s66_100, s66_102, s66_105, s66_106, s66_109, s66_110, s66_113, s66_113i, s66_114, s66_117, s66_118, s66_121, s66_124, s41_0, s41_1, s41_4, s41_5, s41_8, s41_10, s41_13, s41_14, s41_15, s41_18, s41_19, s41_20, s41_23, s41_24, s41_25, s41_28, s41_29, s41_30, s41_33, h0, h1, fo_m ho, ok_t, fo_u, fe_i, fe_l, fe_r, fe_o, List.all_cons, List.all_nil, okv_i, okv_l, okv_n, okv_a, fit_ar, fit_ob, tag_a, elt_2, elt_3, ll_a, pa_a, rep_4, rep_8, dfs_0, dfs_1, dfs_2, dfs_3, dfs_4, dfs_5, dfs_6, dfs_7, ni_K_no, up_n, List.length_cons, List.length_nil, ↓reduceIte, kl_i, kl_r, kl_n, kl_a, kl_l, up_s, up_up, is_0, is_s, gv_0, gv_s, pv_o, rc_o, okI_i, okI_x, okS_i, okB_x, gi_i, pi_i, okL_l, gl_l, pl_l, okA_2, okA_3, ga_a, arr_0, arr_1, arr_10, arr_11, len_a, sw_0, sw_i, sw_r, sw_l, fit_i, fit_z0, fit_z1, nz_0, nz_1, ni_K_s, ni_K_n, Nat.ble_eq, Nat.zero_le, Nat.zero_add, true_and, and_true, and_self, Bool.and_true, Bool.true_and, Bool.and_self, not_true_eq_false, not_false_eq_true, Int32.reduceLE, Int32.reduceLT, Int32.reduceAdd, Int32.reduceSub, Int32.reduceToNatClampNeg, Nat.reduceLeDiff, Nat.reduceAdd, Nat.reduceEqDiff, Nat.reduceSub, List.set_cons_zero, List.set_cons_succ, false_and, and_false]
  refine hQ _ _ ?_ ?_ ?_ ?_ ?_ ?_
  · omega
  · simp +decide only [up_s, up_n]
  · simp +decide only [up_s, up_n]
  · simp +decide only [up_s, up_n]
  · intro i hi hj
    repeat rw [up_n (by omega)]
  · simp +decide (maxDischargeDepth := 200) only [fo_m ho, ok_t, fo_u, fe_i, fe_l, fe_r, fe_o, List.all_cons, List.all_nil, okv_i, okv_l, okv_n, okv_a, fit_ar, fit_ob, tag_a, elt_2, elt_3, ll_a, pa_a, rep_4, rep_8, dfs_0, dfs_1, dfs_2, dfs_3, dfs_4, dfs_5, dfs_6, dfs_7, ni_K_no, up_n, List.length_cons, List.length_nil, ↓reduceIte, kl_i, kl_r, kl_n, kl_a, kl_l, up_s, up_up, is_0, is_s, gv_0, gv_s, pv_o, rc_o, okI_i, okI_x, okS_i, okB_x, gi_i, pi_i, okL_l, gl_l, pl_l, okA_2, okA_3, ga_a, arr_0, arr_1, arr_10, arr_11, len_a, sw_0, sw_i, sw_r, sw_l, fit_i, fit_z0, fit_z1, nz_0, nz_1, ni_K_s, ni_K_n, Nat.ble_eq, Nat.zero_le, Nat.zero_add, true_and, and_true, and_self, Bool.and_true, Bool.true_and, Bool.and_self, not_true_eq_false, not_false_eq_true, Int32.reduceLE, Int32.reduceLT, Int32.reduceAdd, Int32.reduceSub, Int32.reduceToNatClampNeg, Nat.reduceLeDiff, Nat.reduceAdd, Nat.reduceEqDiff, Nat.reduceSub, List.set_cons_zero, List.set_cons_succ, false_and, and_false]
theorem X_sh_3 (h0 : h 0 = ni_O 6 [.ref 1, .ref 2, .ref 9, .ref 16, .ref 23, .ref 29, .ref 31, .ref 32, .int 0, .int (-1)]) (h1 : h 1 = ni_R 2 8 [some 33, some 35, some 37, none, none, none, none, none]) (ho : fo_k 39 h) (hQ : ∀ (s' : Nat) (h' : ni_H), s' ≤ s + 170 → h' 1 = ni_R 2 8 [some 33, some 35, some 37, some 39, none, none, none, none] → h' 39 = ni_O 4 [.ref 40, .int 0, .int (-1), .int 0, .int 0] → h' 40 = ni_L 160 (fun _ => 0) → (∀ i, i ≠ 1 → (i < 39 ∨ 41 ≤ i) → h' i = h i) → fo_k 41 h' → ni_T (d + 4) 66 99 [.ref 0, .int 4] [] (41, s') h' Q) : ni_T (d + 4) 66 99 [.ref 0, .int 3] [] (39, s) h Q := by
  rw [s66_99]
  simp +decide (maxDischargeDepth := 200) only [s66_100, s66_102, s66_105, s66_106, s66_109, s66_110, s66_113, s66_113i, s66_114, s66_117, s66_118, s66_121, s66_124, s41_0, s41_1, s41_4, s41_5, s41_8, s41_10, s41_13, s41_14, s41_15, s41_18, s41_19, s41_20, s41_23, s41_24, s41_25, s41_28, s41_29, s41_30, s41_33, h0, h1, fo_m ho, ok_t, fo_u, fe_i, fe_l, fe_r, fe_o, List.all_cons, List.all_nil, okv_i, okv_l, okv_n, okv_a, fit_ar, fit_ob, tag_a, elt_2, elt_3, ll_a, pa_a, rep_4, rep_8, dfs_0, dfs_1, dfs_2, dfs_3, dfs_4, dfs_5, dfs_6, dfs_7, ni_K_no, up_n, List.length_cons, List.length_nil, ↓reduceIte, kl_i, kl_r, kl_n, kl_a, kl_l, up_s, up_up, is_0, is_s, gv_0, gv_s, pv_o, rc_o, okI_i, okI_x, okS_i, okB_x, gi_i, pi_i, okL_l, gl_l, pl_l, okA_2, okA_3, ga_a, arr_0, arr_1, arr_10, arr_11, len_a, sw_0, sw_i, sw_r, sw_l, fit_i, fit_z0, fit_z1, nz_0, nz_1, ni_K_s, ni_K_n, Nat.ble_eq, Nat.zero_le, Nat.zero_add, true_and, and_true, and_self, Bool.and_true, Bool.true_and, Bool.and_self, not_true_eq_false, not_false_eq_true, Int32.reduceLE, Int32.reduceLT, Int32.reduceAdd, Int32.reduceSub, Int32.reduceToNatClampNeg, Nat.reduceLeDiff, Nat.reduceAdd, Nat.reduceEqDiff, Nat.reduceSub, List.set_cons_zero, List.set_cons_succ, false_and, and_false]
  refine hQ _ _ ?_ ?_ ?_ ?_ ?_ ?_
  · omega
  · simp +decide only [up_s, up_n]
  · simp +decide only [up_s, up_n]
  · simp +decide only [up_s, up_n]
  · intro i hi hj
    repeat rw [up_n (by omega)]
  · simp +decide (maxDischargeDepth := 200) only [fo_m ho, ok_t, fo_u, fe_i, fe_l, fe_r, fe_o, List.all_cons, List.all_nil, okv_i, okv_l, okv_n, okv_a, fit_ar, fit_ob, tag_a, elt_2, elt_3, ll_a, pa_a, rep_4, rep_8, dfs_0, dfs_1, dfs_2, dfs_3, dfs_4, dfs_5, dfs_6, dfs_7, ni_K_no, up_n, List.length_cons, List.length_nil, ↓reduceIte, kl_i, kl_r, kl_n, kl_a, kl_l, up_s, up_up, is_0, is_s, gv_0, gv_s, pv_o, rc_o, okI_i, okI_x, okS_i, okB_x, gi_i, pi_i, okL_l, gl_l, pl_l, okA_2, okA_3, ga_a, arr_0, arr_1, arr_10, arr_11, len_a, sw_0, sw_i, sw_r, sw_l, fit_i, fit_z0, fit_z1, nz_0, nz_1, ni_K_s, ni_K_n, Nat.ble_eq, Nat.zero_le, Nat.zero_add, true_and, and_true, and_self, Bool.and_true, Bool.true_and, Bool.and_self, not_true_eq_false, not_false_eq_true, Int32.reduceLE, Int32.reduceLT, Int32.reduceAdd, Int32.reduceSub, Int32.reduceToNatClampNeg, Nat.reduceLeDiff, Nat.reduceAdd, Nat.reduceEqDiff, Nat.reduceSub, List.set_cons_zero, List.set_cons_succ, false_and, and_false]
theorem X_sh_4 (h0 : h 0 = ni_O 6 [.ref 1, .ref 2, .ref 9, .ref 16, .ref 23, .ref 29, .ref 31, .ref 32, .int 0, .int (-1)]) (h1 : h 1 = ni_R 2 8 [some 33, some 35, some 37, some 39, none, none, none, none]) (ho : fo_k 41 h) (hQ : ∀ (s' : Nat) (h' : ni_H), s' ≤ s + 170 → h' 1 = ni_R 2 8 [some 33, some 35, some 37, some 39, some 41, none, none, none] → h' 41 = ni_O 4 [.ref 42, .int 0, .int (-1), .int 0, .int 0] → h' 42 = ni_L 160 (fun _ => 0) → (∀ i, i ≠ 1 → (i < 41 ∨ 43 ≤ i) → h' i = h i) → fo_k 43 h' → ni_T (d + 4) 66 99 [.ref 0, .int 5] [] (43, s') h' Q) : ni_T (d + 4) 66 99 [.ref 0, .int 4] [] (41, s) h Q := by
  rw [s66_99]
  simp +decide (maxDischargeDepth := 200) only [s66_100, s66_102, s66_105, s66_106, s66_109, s66_110, s66_113, s66_113i, s66_114, s66_117, s66_118, s66_121, s66_124, s41_0, s41_1, s41_4, s41_5, s41_8, s41_10, s41_13, s41_14, s41_15, s41_18, s41_19, s41_20, s41_23, s41_24, s41_25, s41_28, s41_29, s41_30, s41_33, h0, h1, fo_m ho, ok_t, fo_u, fe_i, fe_l, fe_r, fe_o, List.all_cons, List.all_nil, okv_i, okv_l, okv_n, okv_a, fit_ar, fit_ob, tag_a, elt_2, elt_3, ll_a, pa_a, rep_4, rep_8, dfs_0, dfs_1, dfs_2, dfs_3, dfs_4, dfs_5, dfs_6, dfs_7, ni_K_no, up_n, List.length_cons, List.length_nil, ↓reduceIte, kl_i, kl_r, kl_n, kl_a, kl_l, up_s, up_up, is_0, is_s, gv_0, gv_s, pv_o, rc_o, okI_i, okI_x, okS_i, okB_x, gi_i, pi_i, okL_l, gl_l, pl_l, okA_2, okA_3, ga_a, arr_0, arr_1, arr_10, arr_11, len_a, sw_0, sw_i, sw_r, sw_l, fit_i, fit_z0, fit_z1, nz_0, nz_1, ni_K_s, ni_K_n, Nat.ble_eq, Nat.zero_le, Nat.zero_add, true_and, and_true, and_self, Bool.and_true, Bool.true_and, Bool.and_self, not_true_eq_false, not_false_eq_true, Int32.reduceLE, Int32.reduceLT, Int32.reduceAdd, Int32.reduceSub, Int32.reduceToNatClampNeg, Nat.reduceLeDiff, Nat.reduceAdd, Nat.reduceEqDiff, Nat.reduceSub, List.set_cons_zero, List.set_cons_succ, false_and, and_false]
  refine hQ _ _ ?_ ?_ ?_ ?_ ?_ ?_
  · omega
  · simp +decide only [up_s, up_n]
  · simp +decide only [up_s, up_n]
  · simp +decide only [up_s, up_n]
  · intro i hi hj
    repeat rw [up_n (by omega)]
  · simp +decide (maxDischargeDepth := 200) only [fo_m ho, ok_t, fo_u, fe_i, fe_l, fe_r, fe_o, List.all_cons, List.all_nil, okv_i, okv_l, okv_n, okv_a, fit_ar, fit_ob, tag_a, elt_2, elt_3, ll_a, pa_a, rep_4, rep_8, dfs_0, dfs_1, dfs_2, dfs_3, dfs_4, dfs_5, dfs_6, dfs_7, ni_K_no, up_n, List.length_cons, List.length_nil, ↓reduceIte, kl_i, kl_r, kl_n, kl_a, kl_l, up_s, up_up, is_0, is_s, gv_0, gv_s, pv_o, rc_o, okI_i, okI_x, okS_i, okB_x, gi_i, pi_i, okL_l, gl_l, pl_l, okA_2, okA_3, ga_a, arr_0, arr_1, arr_10, arr_11, len_a, sw_0, sw_i, sw_r, sw_l, fit_i, fit_z0, fit_z1, nz_0, nz_1, ni_K_s, ni_K_n, Nat.ble_eq, Nat.zero_le, Nat.zero_add, true_and, and_true, and_self, Bool.and_true, Bool.true_and, Bool.and_self, not_true_eq_false, not_false_eq_true, Int32.reduceLE, Int32.reduceLT, Int32.reduceAdd, Int32.reduceSub, Int32.reduceToNatClampNeg, Nat.reduceLeDiff, Nat.reduceAdd, Nat.reduceEqDiff, Nat.reduceSub, List.set_cons_zero, List.set_cons_succ, false_and, and_false]
theorem X_sh_5 (h0 : h 0 = ni_O 6 [.ref 1, .ref 2, .ref 9, .ref 16, .ref 23, .ref 29, .ref 31, .ref 32, .int 0, .int (-1)]) (h1 : h 1 = ni_R 2 8 [some 33, some 35, some 37, some 39, some 41, none, none, none]) (ho : fo_k 43 h) (hQ : ∀ (s' : Nat) (h' : ni_H), s' ≤ s + 170 → h' 1 = ni_R 2 8 [some 33, some 35, some 37, some 39, some 41, some 43, none, none] → h' 43 = ni_O 4 [.ref 44, .int 0, .int (-1), .int 0, .int 0] → h' 44 = ni_L 160 (fun _ => 0) → (∀ i, i ≠ 1 → (i < 43 ∨ 45 ≤ i) → h' i = h i) → fo_k 45 h' → ni_T (d + 4) 66 99 [.ref 0, .int 6] [] (45, s') h' Q) : ni_T (d + 4) 66 99 [.ref 0, .int 5] [] (43, s) h Q := by
  rw [s66_99]
  simp +decide (maxDischargeDepth := 200) only [s66_100, s66_102, s66_105, s66_106, s66_109, s66_110, s66_113, s66_113i, s66_114, s66_117, s66_118, s66_121, s66_124, s41_0, s41_1, s41_4, s41_5, s41_8, s41_10, s41_13, s41_14, s41_15, s41_18, s41_19, s41_20, s41_23, s41_24, s41_25, s41_28, s41_29, s41_30, s41_33, h0, h1, fo_m ho, ok_t, fo_u, fe_i, fe_l, fe_r, fe_o, List.all_cons, List.all_nil, okv_i, okv_l, okv_n, okv_a, fit_ar, fit_ob, tag_a, elt_2, elt_3, ll_a, pa_a, rep_4, rep_8, dfs_0, dfs_1, dfs_2, dfs_3, dfs_4, dfs_5, dfs_6, dfs_7, ni_K_no, up_n, List.length_cons, List.length_nil, ↓reduceIte, kl_i, kl_r, kl_n, kl_a, kl_l, up_s, up_up, is_0, is_s, gv_0, gv_s, pv_o, rc_o, okI_i, okI_x, okS_i, okB_x, gi_i, pi_i, okL_l, gl_l, pl_l, okA_2, okA_3, ga_a, arr_0, arr_1, arr_10, arr_11, len_a, sw_0, sw_i, sw_r, sw_l, fit_i, fit_z0, fit_z1, nz_0, nz_1, ni_K_s, ni_K_n, Nat.ble_eq, Nat.zero_le, Nat.zero_add, true_and, and_true, and_self, Bool.and_true, Bool.true_and, Bool.and_self, not_true_eq_false, not_false_eq_true, Int32.reduceLE, Int32.reduceLT, Int32.reduceAdd, Int32.reduceSub, Int32.reduceToNatClampNeg, Nat.reduceLeDiff, Nat.reduceAdd, Nat.reduceEqDiff, Nat.reduceSub, List.set_cons_zero, List.set_cons_succ, false_and, and_false]
  refine hQ _ _ ?_ ?_ ?_ ?_ ?_ ?_
  · omega
  · simp +decide only [up_s, up_n]
  · simp +decide only [up_s, up_n]
  · simp +decide only [up_s, up_n]
  · intro i hi hj
    repeat rw [up_n (by omega)]
  · simp +decide (maxDischargeDepth := 200) only [fo_m ho, ok_t, fo_u, fe_i, fe_l, fe_r, fe_o, List.all_cons, List.all_nil, okv_i, okv_l, okv_n, okv_a, fit_ar, fit_ob, tag_a, elt_2, elt_3, ll_a, pa_a, rep_4, rep_8, dfs_0, dfs_1, dfs_2, dfs_3, dfs_4, dfs_5, dfs_6, dfs_7, ni_K_no, up_n, List.length_cons, List.length_nil, ↓reduceIte, kl_i, kl_r, kl_n, kl_a, kl_l, up_s, up_up, is_0, is_s, gv_0, gv_s, pv_o, rc_o, okI_i, okI_x, okS_i, okB_x, gi_i, pi_i, okL_l, gl_l, pl_l, okA_2, okA_3, ga_a, arr_0, arr_1, arr_10, arr_11, len_a, sw_0, sw_i, sw_r, sw_l, fit_i, fit_z0, fit_z1, nz_0, nz_1, ni_K_s, ni_K_n, Nat.ble_eq, Nat.zero_le, Nat.zero_add, true_and, and_true, and_self, Bool.and_true, Bool.true_and, Bool.and_self, not_true_eq_false, not_false_eq_true, Int32.reduceLE, Int32.reduceLT, Int32.reduceAdd, Int32.reduceSub, Int32.reduceToNatClampNeg, Nat.reduceLeDiff, Nat.reduceAdd, Nat.reduceEqDiff, Nat.reduceSub, List.set_cons_zero, List.set_cons_succ, false_and, and_false]
theorem X_sh_6 (h0 : h 0 = ni_O 6 [.ref 1, .ref 2, .ref 9, .ref 16, .ref 23, .ref 29, .ref 31, .ref 32, .int 0, .int (-1)]) (h1 : h 1 = ni_R 2 8 [some 33, some 35, some 37, some 39, some 41, some 43, none, none]) (ho : fo_k 45 h) (hQ : ∀ (s' : Nat) (h' : ni_H), s' ≤ s + 170 → h' 1 = ni_R 2 8 [some 33, some 35, some 37, some 39, some 41, some 43, some 45, none] → h' 45 = ni_O 4 [.ref 46, .int 0, .int (-1), .int 0, .int 0] → h' 46 = ni_L 160 (fun _ => 0) → (∀ i, i ≠ 1 → (i < 45 ∨ 47 ≤ i) → h' i = h i) → fo_k 47 h' → ni_T (d + 4) 66 99 [.ref 0, .int 7] [] (47, s') h' Q) : ni_T (d + 4) 66 99 [.ref 0, .int 6] [] (45, s) h Q := by
  rw [s66_99]
  simp +decide (maxDischargeDepth := 200) only [s66_100, s66_102, s66_105, s66_106, s66_109, s66_110, s66_113, s66_113i, s66_114, s66_117, s66_118, s66_121, s66_124, s41_0, s41_1, s41_4, s41_5, s41_8, s41_10, s41_13, s41_14, s41_15, s41_18, s41_19, s41_20, s41_23, s41_24, s41_25, s41_28, s41_29, s41_30, s41_33, h0, h1, fo_m ho, ok_t, fo_u, fe_i, fe_l, fe_r, fe_o, List.all_cons, List.all_nil, okv_i, okv_l, okv_n, okv_a, fit_ar, fit_ob, tag_a, elt_2, elt_3, ll_a, pa_a, rep_4, rep_8, dfs_0, dfs_1, dfs_2, dfs_3, dfs_4, dfs_5, dfs_6, dfs_7, ni_K_no, up_n, List.length_cons, List.length_nil, ↓reduceIte, kl_i, kl_r, kl_n, kl_a, kl_l, up_s, up_up, is_0, is_s, gv_0, gv_s, pv_o, rc_o, okI_i, okI_x, okS_i, okB_x, gi_i, pi_i, okL_l, gl_l, pl_l, okA_2, okA_3, ga_a, arr_0, arr_1, arr_10, arr_11, len_a, sw_0, sw_i, sw_r, sw_l, fit_i, fit_z0, fit_z1, nz_0, nz_1, ni_K_s, ni_K_n, Nat.ble_eq, Nat.zero_le, Nat.zero_add, true_and, and_true, and_self, Bool.and_true, Bool.true_and, Bool.and_self, not_true_eq_false, not_false_eq_true, Int32.reduceLE, Int32.reduceLT, Int32.reduceAdd, Int32.reduceSub, Int32.reduceToNatClampNeg, Nat.reduceLeDiff, Nat.reduceAdd, Nat.reduceEqDiff, Nat.reduceSub, List.set_cons_zero, List.set_cons_succ, false_and, and_false]
  refine hQ _ _ ?_ ?_ ?_ ?_ ?_ ?_
  · omega
  · simp +decide only [up_s, up_n]
  · simp +decide only [up_s, up_n]
  · simp +decide only [up_s, up_n]
  · intro i hi hj
    repeat rw [up_n (by omega)]
  · simp +decide (maxDischargeDepth := 200) only [fo_m ho, ok_t, fo_u, fe_i, fe_l, fe_r, fe_o, List.all_cons, List.all_nil, okv_i, okv_l, okv_n, okv_a, fit_ar, fit_ob, tag_a, elt_2, elt_3, ll_a, pa_a, rep_4, rep_8, dfs_0, dfs_1, dfs_2, dfs_3, dfs_4, dfs_5, dfs_6, dfs_7, ni_K_no, up_n, List.length_cons, List.length_nil, ↓reduceIte, kl_i, kl_r, kl_n, kl_a, kl_l, up_s, up_up, is_0, is_s, gv_0, gv_s, pv_o, rc_o, okI_i, okI_x, okS_i, okB_x, gi_i, pi_i, okL_l, gl_l, pl_l, okA_2, okA_3, ga_a, arr_0, arr_1, arr_10, arr_11, len_a, sw_0, sw_i, sw_r, sw_l, fit_i, fit_z0, fit_z1, nz_0, nz_1, ni_K_s, ni_K_n, Nat.ble_eq, Nat.zero_le, Nat.zero_add, true_and, and_true, and_self, Bool.and_true, Bool.true_and, Bool.and_self, not_true_eq_false, not_false_eq_true, Int32.reduceLE, Int32.reduceLT, Int32.reduceAdd, Int32.reduceSub, Int32.reduceToNatClampNeg, Nat.reduceLeDiff, Nat.reduceAdd, Nat.reduceEqDiff, Nat.reduceSub, List.set_cons_zero, List.set_cons_succ, false_and, and_false]
theorem X_sh_7 (h0 : h 0 = ni_O 6 [.ref 1, .ref 2, .ref 9, .ref 16, .ref 23, .ref 29, .ref 31, .ref 32, .int 0, .int (-1)]) (h1 : h 1 = ni_R 2 8 [some 33, some 35, some 37, some 39, some 41, some 43, some 45, none]) (ho : fo_k 47 h) (hQ : ∀ (s' : Nat) (h' : ni_H), s' ≤ s + 170 → h' 1 = ni_R 2 8 [some 33, some 35, some 37, some 39, some 41, some 43, some 45, some 47] → h' 47 = ni_O 4 [.ref 48, .int 0, .int (-1), .int 0, .int 0] → h' 48 = ni_L 160 (fun _ => 0) → (∀ i, i ≠ 1 → (i < 47 ∨ 49 ≤ i) → h' i = h i) → fo_k 49 h' → ni_T (d + 4) 66 99 [.ref 0, .int 8] [] (49, s') h' Q) : ni_T (d + 4) 66 99 [.ref 0, .int 7] [] (47, s) h Q := by
  rw [s66_99]
  simp +decide (maxDischargeDepth := 200) only [s66_100, s66_102, s66_105, s66_106, s66_109, s66_110, s66_113, s66_113i, s66_114, s66_117, s66_118, s66_121, s66_124, s41_0, s41_1, s41_4, s41_5, s41_8, s41_10, s41_13, s41_14, s41_15, s41_18, s41_19, s41_20, s41_23, s41_24, s41_25, s41_28, s41_29, s41_30, s41_33, h0, h1, fo_m ho, ok_t, fo_u, fe_i, fe_l, fe_r, fe_o, List.all_cons, List.all_nil, okv_i, okv_l, okv_n, okv_a, fit_ar, fit_ob, tag_a, elt_2, elt_3, ll_a, pa_a, rep_4, rep_8, dfs_0, dfs_1, dfs_2, dfs_3, dfs_4, dfs_5, dfs_6, dfs_7, ni_K_no, up_n, List.length_cons, List.length_nil, ↓reduceIte, kl_i, kl_r, kl_n, kl_a, kl_l, up_s, up_up, is_0, is_s, gv_0, gv_s, pv_o, rc_o, okI_i, okI_x, okS_i, okB_x, gi_i, pi_i, okL_l, gl_l, pl_l, okA_2, okA_3, ga_a, arr_0, arr_1, arr_10, arr_11, len_a, sw_0, sw_i, sw_r, sw_l, fit_i, fit_z0, fit_z1, nz_0, nz_1, ni_K_s, ni_K_n, Nat.ble_eq, Nat.zero_le, Nat.zero_add, true_and, and_true, and_self, Bool.and_true, Bool.true_and, Bool.and_self, not_true_eq_false, not_false_eq_true, Int32.reduceLE, Int32.reduceLT, Int32.reduceAdd, Int32.reduceSub, Int32.reduceToNatClampNeg, Nat.reduceLeDiff, Nat.reduceAdd, Nat.reduceEqDiff, Nat.reduceSub, List.set_cons_zero, List.set_cons_succ, false_and, and_false]
  refine hQ _ _ ?_ ?_ ?_ ?_ ?_ ?_
  · omega
  · simp +decide only [up_s, up_n]
  · simp +decide only [up_s, up_n]
  · simp +decide only [up_s, up_n]
  · intro i hi hj
    repeat rw [up_n (by omega)]
  · simp +decide (maxDischargeDepth := 200) only [fo_m ho, ok_t, fo_u, fe_i, fe_l, fe_r, fe_o, List.all_cons, List.all_nil, okv_i, okv_l, okv_n, okv_a, fit_ar, fit_ob, tag_a, elt_2, elt_3, ll_a, pa_a, rep_4, rep_8, dfs_0, dfs_1, dfs_2, dfs_3, dfs_4, dfs_5, dfs_6, dfs_7, ni_K_no, up_n, List.length_cons, List.length_nil, ↓reduceIte, kl_i, kl_r, kl_n, kl_a, kl_l, up_s, up_up, is_0, is_s, gv_0, gv_s, pv_o, rc_o, okI_i, okI_x, okS_i, okB_x, gi_i, pi_i, okL_l, gl_l, pl_l, okA_2, okA_3, ga_a, arr_0, arr_1, arr_10, arr_11, len_a, sw_0, sw_i, sw_r, sw_l, fit_i, fit_z0, fit_z1, nz_0, nz_1, ni_K_s, ni_K_n, Nat.ble_eq, Nat.zero_le, Nat.zero_add, true_and, and_true, and_self, Bool.and_true, Bool.true_and, Bool.and_self, not_true_eq_false, not_false_eq_true, Int32.reduceLE, Int32.reduceLT, Int32.reduceAdd, Int32.reduceSub, Int32.reduceToNatClampNeg, Nat.reduceLeDiff, Nat.reduceAdd, Nat.reduceEqDiff, Nat.reduceSub, List.set_cons_zero, List.set_cons_succ, false_and, and_false]
end
