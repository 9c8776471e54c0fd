set_option maxRecDepth 100000
set_option maxHeartbeats 4000000
/-! ===== the class's reader: signs, numbers, words ===== -/
/-- how far two rows are the same -/
def fs_sm (eq : Nat → Bool) : Nat → Nat → Nat
  | 0, j => j
  | m + 1, j => if eq j = true then fs_sm eq m (j + 1) else j
def fs_wbs (w : Nat) : List Int32 := ([[104, 97, 110, 100], [115, 116, 111, 110, 101], [117, 112], [115, 116, 97, 103, 101], [116, 117, 114, 110]] : List (List Int32)).getD w []
def fs_wb (w j : Nat) : Int32 := (fs_wbs w).getD j 32
def fs_wl (w : Nat) : Nat := (fs_wbs w).length
def fs_ch (x : Int32) : Int32 := ((x &&& 255).toUInt32 % 65536).toInt32
theorem wb_ch : ∀ w, w < 5 → ∀ j, j < fs_wl w → fs_ch (fs_wb w j) = fs_wb w j := by decide +kernel
theorem wb_nar : ∀ w, w < 5 → ∀ j, j < fs_wl w → narrow .char (.int (fs_wb w j)) = .int (fs_wb w j) := by decide +kernel
theorem wl_5 : ∀ w, w < 5 → fs_wl w ≤ 5 := by decide
theorem wl_sh : ∀ w, w < 5 → Int32.ofNat (fs_wl w) >>> (0 &&& 31) = nI (fs_wl w) := by decide +kernel
section
variable {d : Nat} {a0 a1 : Value} {x0 x1 : Int32} {st : List Value} {z : ni_Z} {h : ni_H} {Q : ni_Q}
theorem s205_5R : ni_T (d + 1) 205 5 [a0, a1] (.retAddr 7 :: .int x1 :: .int x0 :: st) z h Q = (Nat.ble (ni_sw st) 8 = true ∧ ni_T d 207 0 [.int x0, .int x1, .retAddr 7] [] z h (ni_K (d + 1) 205 8 [a0, a1] st z Q)) := ni_T_cse [.int x0, .int x1, .retAddr 7] rfl rfl rfl rfl rfl rfl rfl rfl rfl
theorem s206_8' {o : Nat} {x : Int32} {a0 a1 : Value} : ni_T d 206 8 [a0, a1] (.int x :: .ref o :: st) z h Q = (ni_okB (h o) x = true ∧ ni_T d 206 9 [a0, a1] (.int (ni_gi (h o) x) :: st) z h Q) := s206_8
end
section
variable {d w : Nat} {z : ni_Z} {h : ni_H} {Q : ni_Q}
theorem nz_y0 : (narrow .byte (.int 0) = .int 0) = True := by simp [narrow]
theorem X_len (hw : w < 5) (hO : h (1010 + w) = ni_O 100 [.ref (1020 + w), .int 0]) (hB : h (1020 + w) = .inl (11, fs_wl w, .inl (fs_wb w))) : ni_T (d + 1) 201 0 [.ref (1010 + w)] [] z h Q = Q (some (.int (nI (fs_wl w)))) z h := by
  simp +decide only [s201_0, s201_1, s201_4, s201_5, s201_6, s201_9, s201_10, s203_0, s203_3, s203_6, s203_7, s203_10, s203_13, s203_14, hO, hB, nz_y0, wl_sh w hw, ↓reduceIte, kl_i, kl_r, kl_n, kl_a, kl_l, up_s, up_up, is_0, is_s, gv_0, gv_s, pv_o, rc_o, okI_i, okI_x, okS_i, okB_x, gi_i, pi_i, okL_l, gl_l, pl_l, okA_2, okA_3, ga_a, arr_0, arr_1, arr_10, arr_11, len_a, sw_0, sw_i, sw_r, sw_l, fit_i, fit_z0, fit_z1, nz_0, nz_1, ni_K_s, ni_K_n, Nat.ble_eq, Nat.zero_le, Nat.zero_add, true_and, and_true, and_self, Bool.and_true, Bool.true_and, Bool.and_self, not_true_eq_false, not_false_eq_true, Int32.reduceLE, Int32.reduceLT, Int32.reduceAdd, Int32.reduceSub, Int32.reduceToNatClampNeg, Nat.reduceLeDiff, Nat.reduceAdd, Nat.reduceEqDiff, Nat.reduceSub, List.set_cons_zero, List.set_cons_succ, false_and, and_false]
theorem X_chr {j : Nat} (hw : w < 5) (hj : j < fs_wl w) (hO : h (1010 + w) = ni_O 100 [.ref (1020 + w), .int 0]) (hB : h (1020 + w) = .inl (11, fs_wl w, .inl (fs_wb w))) : ni_T (d + 3) 202 0 [.ref (1010 + w), .int (nI j)] [] z h Q = Q (some (.int (fs_wb w j))) z h := by
  have hl := wl_5 w hw
  have q1 : ¬ nI j < 0 := nI_pos (by omega)
  have q2 : nI j < nI (fs_wl w) := nI_lt hj (by omega)
  have q2' : nI j < Int32.ofNat (fs_wl w) := q2
  have e := wb_ch w hw j hj
  have e' : ((fs_wb w j &&& 255).toUInt32 % 65536).toInt32 = fs_wb w j := e
  have en : (narrow .char (.int (fs_wb w j)) = .int (fs_wb w j)) = True := eq_true (wb_nar w hw j hj)
  simp +decide only [s202_0, s202_1, s202_4, s202_7, s202_8, s202_11, s202_12, s202_12N0, s202_15, s202_16, s202_17, s202_20, s202_24, s204_0, s204_3, s204_6, s204_7, s204_10, s204_13, s204_14, s204_17, s204_18, s206_0, s206_1, s206_2, s206_3, s206_6, s206_7, s206_8, s206_9, s206_12, s206_13, s206_14, s205_0, s205_1, s205_2, s205_5, s205_5N2, s205_8, s205_8i, s205_9, s205_5R, s207_0, s207_1, s207_4, s207_5, s207_6, s207_9, s207_9N, s207_10, s207_11, s207_16, s207_17, hO, hB, q1, q2', in_n (k := j) (n := fs_wl w) hj (by omega), nI_clamp (n := j) (by omega), e', en, ↓reduceIte, kl_i, kl_r, kl_n, kl_a, kl_l, up_s, up_up, is_0, is_s, gv_0, gv_s, pv_o, rc_o, okI_i, okI_x, okS_i, okB_x, gi_i, pi_i, okL_l, gl_l, pl_l, okA_2, okA_3, ga_a, arr_0, arr_1, arr_10, arr_11, len_a, sw_0, sw_i, sw_r, sw_l, fit_i, fit_z0, fit_z1, nz_0, nz_1, ni_K_s, ni_K_n, Nat.ble_eq, Nat.zero_le, Nat.zero_add, true_and, and_true, and_self, Bool.and_true, Bool.true_and, Bool.and_self, not_true_eq_false, not_false_eq_true, Int32.reduceLE, Int32.reduceLT, Int32.reduceAdd, Int32.reduceSub, Int32.reduceToNatClampNeg, Nat.reduceLeDiff, Nat.reduceAdd, Nat.reduceEqDiff, Nat.reduceSub, List.set_cons_zero, List.set_cons_succ, false_and, and_false]
end
section
variable {d sp at' : Nat} {z : ni_Z} {h : ni_H} {Q : ni_Q} {wh hd so fa nu : Int32} {f : Nat → Int64}
theorem L_same {w le p : Nat} (hw : w < 5) (hle : le ≤ 160) (hO : h (1010 + w) = ni_O 100 [.ref (1020 + w), .int 0]) (hB : h (1020 + w) = .inl (11, fs_wl w, .inl (fs_wb w))) (hR : h 31 = ni_O 3 [.int fa, .int (nI p), .int nu]) (hs : h sp = ni_O 4 [.ref (sp + 1), .int wh, .int hd, .int so, .int (nI le)]) (he : h (sp + 1) = ni_L 160 f) : ∀ (m j : Nat), j + m = fs_wl w → ni_T (d + 4) 36 2 [.ref 31, .ref sp, .ref (1010 + w), .int (nI j)] [] z h Q = Q (some (.int (nI (fs_sm (fun j => decide (fs_int f (nI le) (nI (p + j)) = fs_wb w j)) m j)))) z h := by
  have hl := wl_5 w hw
  intro m
  induction m with
  | zero =>
    intro j e
    obtain rfl : j = fs_wl w := by omega
    have h1 : nI (fs_wl w) ≤ nI (fs_wl w) := Int32.le_refl _
    rw [s36_2]
    simp +decide only [s36_0, s36_1, s36_3, s36_3N, s36_4, s36_7, s36_10, s36_10N, s36_11, s36_12, s36_15, s36_16, s36_17, s36_20, s36_20N, s36_21, s36_22, s36_25, s36_28, s36_31, s36_34, s36_35, X_len hw hO hB, hO, h1, ↓reduceIte, kl_i, kl_r, kl_n, kl_a, kl_l, up_s, up_up, is_0, is_s, gv_0, gv_s, pv_o, rc_o, okI_i, okI_x, okS_i, okB_x, gi_i, pi_i, okL_l, gl_l, pl_l, okA_2, okA_3, ga_a, arr_0, arr_1, arr_10, arr_11, len_a, sw_0, sw_i, sw_r, sw_l, fit_i, fit_z0, fit_z1, nz_0, nz_1, ni_K_s, ni_K_n, Nat.ble_eq, Nat.zero_le, Nat.zero_add, true_and, and_true, and_self, Bool.and_true, Bool.true_and, Bool.and_self, not_true_eq_false, not_false_eq_true, Int32.reduceLE, Int32.reduceLT, Int32.reduceAdd, Int32.reduceSub, Int32.reduceToNatClampNeg, Nat.reduceLeDiff, Nat.reduceAdd, Nat.reduceEqDiff, Nat.reduceSub, List.set_cons_zero, List.set_cons_succ, false_and, and_false, fs_sm]
  | succ m ih =>
    intro j e
    have h1 : ¬ nI (fs_wl w) ≤ nI j := nI_ge (by omega) (by omega)
    have hi := fun (d : Nat) (Q : ni_Q) => X_intAt (d := d) (z := z) (Q := Q) (i := nI (p + j)) hs he hle
    have ih2 := ih (j + 1) (by omega)
    rw [s36_2]
    by_cases q : fs_int f (nI le) (nI (p + j)) = fs_wb w j
    · simp +decide only [s36_0, s36_1, s36_3, s36_3N, s36_4, s36_7, s36_10, s36_10N, s36_11, s36_12, s36_15, s36_16, s36_17, s36_20, s36_20N, s36_21, s36_22, s36_25, s36_28, s36_31, s36_34, s36_35, X_len hw hO hB, X_chr hw (show j < fs_wl w by omega) hO hB, hO, hR, hs, nI_add, hi, h1, q, nI_1, ih2, ↓reduceIte, kl_i, kl_r, kl_n, kl_a, kl_l, up_s, up_up, is_0, is_s, gv_0, gv_s, pv_o, rc_o, okI_i, okI_x, okS_i, okB_x, gi_i, pi_i, okL_l, gl_l, pl_l, okA_2, okA_3, ga_a, arr_0, arr_1, arr_10, arr_11, len_a, sw_0, sw_i, sw_r, sw_l, fit_i, fit_z0, fit_z1, nz_0, nz_1, ni_K_s, ni_K_n, Nat.ble_eq, Nat.zero_le, Nat.zero_add, true_and, and_true, and_self, Bool.and_true, Bool.true_and, Bool.and_self, not_true_eq_false, not_false_eq_true, Int32.reduceLE, Int32.reduceLT, Int32.reduceAdd, Int32.reduceSub, Int32.reduceToNatClampNeg, Nat.reduceLeDiff, Nat.reduceAdd, Nat.reduceEqDiff, Nat.reduceSub, List.set_cons_zero, List.set_cons_succ, false_and, and_false, fs_sm, decide_true, eq_self]
    · simp +decide only [s36_0, s36_1, s36_3, s36_3N, s36_4, s36_7, s36_10, s36_10N, s36_11, s36_12, s36_15, s36_16, s36_17, s36_20, s36_20N, s36_21, s36_22, s36_25, s36_28, s36_31, s36_34, s36_35, X_len hw hO hB, X_chr hw (show j < fs_wl w by omega) hO hB, hO, hR, hs, nI_add, hi, h1, q, ↓reduceIte, kl_i, kl_r, kl_n, kl_a, kl_l, up_s, up_up, is_0, is_s, gv_0, gv_s, pv_o, rc_o, okI_i, okI_x, okS_i, okB_x, gi_i, pi_i, okL_l, gl_l, pl_l, okA_2, okA_3, ga_a, arr_0, arr_1, arr_10, arr_11, len_a, sw_0, sw_i, sw_r, sw_l, fit_i, fit_z0, fit_z1, nz_0, nz_1, ni_K_s, ni_K_n, Nat.ble_eq, Nat.zero_le, Nat.zero_add, true_and, and_true, and_self, Bool.and_true, Bool.true_and, Bool.and_self, not_true_eq_false, not_false_eq_true, Int32.reduceLE, Int32.reduceLT, Int32.reduceAdd, Int32.reduceSub, Int32.reduceToNatClampNeg, Nat.reduceLeDiff, Nat.reduceAdd, Nat.reduceEqDiff, Nat.reduceSub, List.set_cons_zero, List.set_cons_succ, false_and, and_false, fs_sm, decide_false, Bool.false_eq_true]
/-- how much of the word w stands at p -/
def fs_cw (tx : Nat → Int32) (p w : Nat) : Nat := fs_sm (fun j => decide (tx (p + j) = fs_wb w j)) (fs_wl w) 0
theorem X_same {w le p : Nat} (hw : w < 5) (hle : le ≤ 160) (hO : h (1010 + w) = ni_O 100 [.ref (1020 + w), .int 0]) (hB : h (1020 + w) = .inl (11, fs_wl w, .inl (fs_wb w))) (hR : h 31 = ni_O 3 [.int fa, .int (nI p), .int nu]) (hs : h sp = ni_O 4 [.ref (sp + 1), .int wh, .int hd, .int so, .int (nI le)]) (he : h (sp + 1) = ni_L 160 f) : ni_T (d + 4) 36 0 [.ref 31, .ref sp, .ref (1010 + w), .retAddr 0] [] z h Q = Q (some (.int (nI (fs_cw (fun i => fs_int f (nI le) (nI i)) p w)))) z h := by
  have e := L_same (d := d) (z := z) (Q := Q) hw hle hO hB hR hs he (fs_wl w) 0 (by omega)
  rw [nI_0] at e
  simp +decide only [s36_0, s36_1, s36_3, s36_3N, s36_4, s36_7, s36_10, s36_10N, s36_11, s36_12, s36_15, s36_16, s36_17, s36_20, s36_20N, s36_21, s36_22, s36_25, s36_28, s36_31, s36_34, s36_35, e, ↓reduceIte, kl_i, kl_r, kl_n, kl_a, kl_l, up_s, up_up, is_0, is_s, gv_0, gv_s, pv_o, rc_o, okI_i, okI_x, okS_i, okB_x, gi_i, pi_i, okL_l, gl_l, pl_l, okA_2, okA_3, ga_a, arr_0, arr_1, arr_10, arr_11, len_a, sw_0, sw_i, sw_r, sw_l, fit_i, fit_z0, fit_z1, nz_0, nz_1, ni_K_s, ni_K_n, Nat.ble_eq, Nat.zero_le, Nat.zero_add, true_and, and_true, and_self, Bool.and_true, Bool.true_and, Bool.and_self, not_true_eq_false, not_false_eq_true, Int32.reduceLE, Int32.reduceLT, Int32.reduceAdd, Int32.reduceSub, Int32.reduceToNatClampNeg, Nat.reduceLeDiff, Nat.reduceAdd, Nat.reduceEqDiff, Nat.reduceSub, List.set_cons_zero, List.set_cons_succ, false_and, and_false]
  rfl
/-- the word at p, and how far it goes; 5: none -/
def fs_wd (tx : Nat → Int32) (p : Nat) : Nat × Nat := if fs_cw tx p 0 = 4 then (0, 4) else if fs_cw tx p 1 = 5 then (1, 5) else if fs_cw tx p 2 = 2 then (2, 2) else if fs_cw tx p 3 = 5 then (3, 5) else if fs_cw tx p 4 = 4 then (4, 4) else (5, max (max (max (max (fs_cw tx p 0) (fs_cw tx p 1)) (fs_cw tx p 2)) (fs_cw tx p 3)) (fs_cw tx p 4))
theorem sm_le (eq : Nat → Bool) : ∀ (m j : Nat), fs_sm eq m j ≤ j + m := by
  intro m
  induction m with
  | zero => intro j; exact Nat.le_refl _
  | succ m ih =>
    intro j
    rw [fs_sm]
    split
    · have := ih (j + 1); omega
    · omega
theorem cw_le (tx : Nat → Int32) (p w : Nat) (hw : w < 5) : fs_cw tx p w ≤ 5 := Nat.le_trans (sm_le _ _ _) (by have := wl_5 w hw; omega)
theorem mx_n {a b : Nat} (ha : a ≤ 5) (hb : b ≤ 5) : (if nI a < nI b then nI b else nI a) = nI (max a b) := by
  have : ∀ a, a < 6 → ∀ b, b < 6 → (if nI a < nI b then nI b else nI a) = nI (max a b) := by decide +kernel
  exact this a (by omega) b (by omega)
theorem X_rw {le p : Nat} (hle : le ≤ 160) (hO : ∀ w, w < 5 → h (1010 + w) = ni_O 100 [.ref (1020 + w), .int 0]) (hB : ∀ w, w < 5 → h (1020 + w) = .inl (11, fs_wl w, .inl (fs_wb w))) (hR : h 31 = ni_O 3 [.int (-1), .int (nI p), .int nu]) (hs : h sp = ni_O 4 [.ref (sp + 1), .int wh, .int hd, .int so, .int (nI le)]) (he : h (sp + 1) = ni_L 160 f) : ni_T (d + 5) 35 0 [.ref 31, .ref sp, .retAddr 0, .retAddr 0, .retAddr 0, .retAddr 0] [] z h Q = if (fs_wd (fun i => fs_int f (nI le) (nI i)) p).1 = 5 then Q (some (.int (-1))) z (ni_up h 31 (ni_O 3 [.int (nI (p + (fs_wd (fun i => fs_int f (nI le) (nI i)) p).2)), .int (nI p), .int nu])) else Q (some (.int (nI (fs_wd (fun i => fs_int f (nI le) (nI i)) p).1))) z (ni_up h 31 (ni_O 3 [.int (-1), .int (nI (p + (fs_wd (fun i => fs_int f (nI le) (nI i)) p).2)), .int nu])) := by
  have hS := fun (w : Nat) (hw : w < 5) (d : Nat) (Q : ni_Q) => X_same (d := d) (z := z) (Q := Q) hw hle (hO w hw) (hB w hw) hR hs he
  have hL := fun (w : Nat) (hw : w < 5) (d : Nat) (Q : ni_Q) => X_len (d := d) (z := z) (Q := Q) hw (hO w hw) (hB w hw)
  have c0 := hS 0 (by decide)
  have c1 := hS 1 (by decide)
  have c2 := hS 2 (by decide)
  have c3 := hS 3 (by decide)
  have c4 := hS 4 (by decide)
  have l0 := hL 0 (by decide)
  have l1 := hL 1 (by decide)
  have l2 := hL 2 (by decide)
  have l3 := hL 3 (by decide)
  have l4 := hL 4 (by decide)
  have o0 := hO 0 (by decide)
  have o1 := hO 1 (by decide)
  have o2 := hO 2 (by decide)
  have o3 := hO 3 (by decide)
  have o4 := hO 4 (by decide)
  simp only [Nat.reduceAdd, Nat.add_zero, show fs_wl 0 = 4 from rfl, show fs_wl 1 = 5 from rfl, show fs_wl 2 = 2 from rfl, show fs_wl 3 = 5 from rfl, show fs_wl 4 = 4 from rfl] at c0 c1 c2 c3 c4 l0 l1 l2 l3 l4 o0 o1 o2 o3 o4
  generalize fs_int f (nI le) = tx at *
  have b0 := cw_le (fun i => tx (nI i)) p 0 (by decide)
  have b1 := cw_le (fun i => tx (nI i)) p 1 (by decide)
  have b2 := cw_le (fun i => tx (nI i)) p 2 (by decide)
  have b3 := cw_le (fun i => tx (nI i)) p 3 (by decide)
  have b4 := cw_le (fun i => tx (nI i)) p 4 (by decide)
  unfold fs_wd
  generalize fs_cw (fun i => tx (nI i)) p 0 = n0 at *
  generalize fs_cw (fun i => tx (nI i)) p 1 = n1 at *
  generalize fs_cw (fun i => tx (nI i)) p 2 = n2 at *
  generalize fs_cw (fun i => tx (nI i)) p 3 = n3 at *
  generalize fs_cw (fun i => tx (nI i)) p 4 = n4 at *
  have e : ∀ a b : Nat, a ≤ 5 → b ≤ 5 → (nI a = nI b) = (a = b) := fun a b ha hb => propext (nI_eq (by omega) (by omega))
  have k0 := e n0 4 b0 (by decide)
  have k1 := e n1 5 b1 (by decide)
  have k2 := e n2 2 b2 (by decide)
  have k3 := e n3 5 b3 (by decide)
  have k4 := e n4 4 b4 (by decide)
  have m0 : (if 0 < nI n0 then nI n0 else 0) = nI n0 := by
    have := mx_n (a := 0) (b := n0) (by decide) b0
    rw [nI_0, Nat.zero_max] at this
    exact this
  have mx0 : (if nI n0 < nI n1 then nI n1 else nI n0) = nI (max n0 n1) := mx_n b0 b1
  have mx1 : (if nI (max n0 n1) < nI n2 then nI n2 else nI (max n0 n1)) = nI (max (max n0 n1) n2) := mx_n (by omega) b2
  have mx2 : (if nI (max (max n0 n1) n2) < nI n3 then nI n3 else nI (max (max n0 n1) n2)) = nI (max (max (max n0 n1) n2) n3) := mx_n (by omega) b3
  have mx3 : (if nI (max (max (max n0 n1) n2) n3) < nI n4 then nI n4 else nI (max (max (max n0 n1) n2) n3)) = nI (max (max (max (max n0 n1) n2) n3) n4) := mx_n (by omega) b4
  rw [show nI 4 = 4 from rfl] at k0 k4
  rw [show nI 5 = 5 from rfl] at k1 k3
  rw [show nI 2 = 2 from rfl] at k2
  by_cases q0 : n0 = 4
  · rw [eq_true q0] at k0
    simp +decide only [s35_0, s35_1, s35_2, s35_3, s35_4, s35_5, s35_6, s35_9, s35_10, s35_13, s35_13N, s35_15, s35_16, s35_16N, s35_17, s35_17N, s35_19, s35_19N1, s35_19N0, s35_19N0N1, s35_22, s35_24, s35_26, s35_26N, s35_28, s35_31, s35_34, s35_35, s35_35i, s35_36, s35_39, s35_41, s35_42, s35_45, s35_46, s35_47, s35_48, s35_50, s35_53, s35_54, s35_57, s35_60, s35_61, s35_62, s35_65, s35_66, s35_67, s35_70, s35_71, s37_0, s37_1_0, s37_1_1, s37_1_2, s37_1_3, s37_32, s37_34, s37_34N, s37_35, s37_37, s37_37N, s37_38, s37_40, s37_40N, s37_41, s37_43, s37_43N, s37_44, s37_46, s37_46N, s37_1_d, hR, c0, c1, c2, c3, c4, l0, l1, l2, l3, l4, o0, o1, o2, o3, o4, nI_add, nI_0, show nI 1 = 1 from rfl, show nI 2 = 2 from rfl, show nI 3 = 3 from rfl, show nI 4 = 4 from rfl, show nI 5 = 5 from rfl, m0, ↓reduceIte, kl_i, kl_r, kl_n, kl_a, kl_l, up_s, up_up, is_0, is_s, gv_0, gv_s, pv_o, rc_o, okI_i, okI_x, okS_i, okB_x, gi_i, pi_i, okL_l, gl_l, pl_l, okA_2, okA_3, ga_a, arr_0, arr_1, arr_10, arr_11, len_a, sw_0, sw_i, sw_r, sw_l, fit_i, fit_z0, fit_z1, nz_0, nz_1, ni_K_s, ni_K_n, Nat.ble_eq, Nat.zero_le, Nat.zero_add, true_and, and_true, and_self, Bool.and_true, Bool.true_and, Bool.and_self, not_true_eq_false, not_false_eq_true, Int32.reduceLE, Int32.reduceLT, Int32.reduceAdd, Int32.reduceSub, Int32.reduceToNatClampNeg, Nat.reduceLeDiff, Nat.reduceAdd, Nat.reduceEqDiff, Nat.reduceSub, List.set_cons_zero, List.set_cons_succ, false_and, and_false, k0, q0]
    rw [← nI_add p 4]
    rfl
  · rw [eq_false q0] at k0
    by_cases q1 : n1 = 5
    · rw [eq_true q1] at k1
      simp +decide only [s35_0, s35_1, s35_2, s35_3, s35_4, s35_5, s35_6, s35_9, s35_10, s35_13, s35_13N, s35_15, s35_16, s35_16N, s35_17, s35_17N, s35_19, s35_19N1, s35_19N0, s35_19N0N1, s35_22, s35_24, s35_26, s35_26N, s35_28, s35_31, s35_34, s35_35, s35_35i, s35_36, s35_39, s35_41, s35_42, s35_45, s35_46, s35_47, s35_48, s35_50, s35_53, s35_54, s35_57, s35_60, s35_61, s35_62, s35_65, s35_66, s35_67, s35_70, s35_71, s37_0, s37_1_0, s37_1_1, s37_1_2, s37_1_3, s37_32, s37_34, s37_34N, s37_35, s37_37, s37_37N, s37_38, s37_40, s37_40N, s37_41, s37_43, s37_43N, s37_44, s37_46, s37_46N, s37_1_d, hR, c0, c1, c2, c3, c4, l0, l1, l2, l3, l4, o0, o1, o2, o3, o4, nI_add, nI_0, show nI 1 = 1 from rfl, show nI 2 = 2 from rfl, show nI 3 = 3 from rfl, show nI 4 = 4 from rfl, show nI 5 = 5 from rfl, m0, ↓reduceIte, kl_i, kl_r, kl_n, kl_a, kl_l, up_s, up_up, is_0, is_s, gv_0, gv_s, pv_o, rc_o, okI_i, okI_x, okS_i, okB_x, gi_i, pi_i, okL_l, gl_l, pl_l, okA_2, okA_3, ga_a, arr_0, arr_1, arr_10, arr_11, len_a, sw_0, sw_i, sw_r, sw_l, fit_i, fit_z0, fit_z1, nz_0, nz_1, ni_K_s, ni_K_n, Nat.ble_eq, Nat.zero_le, Nat.zero_add, true_and, and_true, and_self, Bool.and_true, Bool.true_and, Bool.and_self, not_true_eq_false, not_false_eq_true, Int32.reduceLE, Int32.reduceLT, Int32.reduceAdd, Int32.reduceSub, Int32.reduceToNatClampNeg, Nat.reduceLeDiff, Nat.reduceAdd, Nat.reduceEqDiff, Nat.reduceSub, List.set_cons_zero, List.set_cons_succ, false_and, and_false, k0, k1, q0, q1, mx0]
      rw [← nI_add p 5]
      rfl
    · rw [eq_false q1] at k1
      by_cases q2 : n2 = 2
      · rw [eq_true q2] at k2
        simp +decide only [s35_0, s35_1, s35_2, s35_3, s35_4, s35_5, s35_6, s35_9, s35_10, s35_13, s35_13N, s35_15, s35_16, s35_16N, s35_17, s35_17N, s35_19, s35_19N1, s35_19N0, s35_19N0N1, s35_22, s35_24, s35_26, s35_26N, s35_28, s35_31, s35_34, s35_35, s35_35i, s35_36, s35_39, s35_41, s35_42, s35_45, s35_46, s35_47, s35_48, s35_50, s35_53, s35_54, s35_57, s35_60, s35_61, s35_62, s35_65, s35_66, s35_67, s35_70, s35_71, s37_0, s37_1_0, s37_1_1, s37_1_2, s37_1_3, s37_32, s37_34, s37_34N, s37_35, s37_37, s37_37N, s37_38, s37_40, s37_40N, s37_41, s37_43, s37_43N, s37_44, s37_46, s37_46N, s37_1_d, hR, c0, c1, c2, c3, c4, l0, l1, l2, l3, l4, o0, o1, o2, o3, o4, nI_add, nI_0, show nI 1 = 1 from rfl, show nI 2 = 2 from rfl, show nI 3 = 3 from rfl, show nI 4 = 4 from rfl, show nI 5 = 5 from rfl, m0, ↓reduceIte, kl_i, kl_r, kl_n, kl_a, kl_l, up_s, up_up, is_0, is_s, gv_0, gv_s, pv_o, rc_o, okI_i, okI_x, okS_i, okB_x, gi_i, pi_i, okL_l, gl_l, pl_l, okA_2, okA_3, ga_a, arr_0, arr_1, arr_10, arr_11, len_a, sw_0, sw_i, sw_r, sw_l, fit_i, fit_z0, fit_z1, nz_0, nz_1, ni_K_s, ni_K_n, Nat.ble_eq, Nat.zero_le, Nat.zero_add, true_and, and_true, and_self, Bool.and_true, Bool.true_and, Bool.and_self, not_true_eq_false, not_false_eq_true, Int32.reduceLE, Int32.reduceLT, Int32.reduceAdd, Int32.reduceSub, Int32.reduceToNatClampNeg, Nat.reduceLeDiff, Nat.reduceAdd, Nat.reduceEqDiff, Nat.reduceSub, List.set_cons_zero, List.set_cons_succ, false_and, and_false, k0, k1, k2, q0, q1, q2, mx0, mx1]
        rw [← nI_add p 2]
        rfl
      · rw [eq_false q2] at k2
        by_cases q3 : n3 = 5
        · rw [eq_true q3] at k3
          simp +decide only [s35_0, s35_1, s35_2, s35_3, s35_4, s35_5, s35_6, s35_9, s35_10, s35_13, s35_13N, s35_15, s35_16, s35_16N, s35_17, s35_17N, s35_19, s35_19N1, s35_19N0, s35_19N0N1, s35_22, s35_24, s35_26, s35_26N, s35_28, s35_31, s35_34, s35_35, s35_35i, s35_36, s35_39, s35_41, s35_42, s35_45, s35_46, s35_47, s35_48, s35_50, s35_53, s35_54, s35_57, s35_60, s35_61, s35_62, s35_65, s35_66, s35_67, s35_70, s35_71, s37_0, s37_1_0, s37_1_1, s37_1_2, s37_1_3, s37_32, s37_34, s37_34N, s37_35, s37_37, s37_37N, s37_38, s37_40, s37_40N, s37_41, s37_43, s37_43N, s37_44, s37_46, s37_46N, s37_1_d, hR, c0, c1, c2, c3, c4, l0, l1, l2, l3, l4, o0, o1, o2, o3, o4, nI_add, nI_0, show nI 1 = 1 from rfl, show nI 2 = 2 from rfl, show nI 3 = 3 from rfl, show nI 4 = 4 from rfl, show nI 5 = 5 from rfl, m0, ↓reduceIte, kl_i, kl_r, kl_n, kl_a, kl_l, up_s, up_up, is_0, is_s, gv_0, gv_s, pv_o, rc_o, okI_i, okI_x, okS_i, okB_x, gi_i, pi_i, okL_l, gl_l, pl_l, okA_2, okA_3, ga_a, arr_0, arr_1, arr_10, arr_11, len_a, sw_0, sw_i, sw_r, sw_l, fit_i, fit_z0, fit_z1, nz_0, nz_1, ni_K_s, ni_K_n, Nat.ble_eq, Nat.zero_le, Nat.zero_add, true_and, and_true, and_self, Bool.and_true, Bool.true_and, Bool.and_self, not_true_eq_false, not_false_eq_true, Int32.reduceLE, Int32.reduceLT, Int32.reduceAdd, Int32.reduceSub, Int32.reduceToNatClampNeg, Nat.reduceLeDiff, Nat.reduceAdd, Nat.reduceEqDiff, Nat.reduceSub, List.set_cons_zero, List.set_cons_succ, false_and, and_false, k0, k1, k2, k3, q0, q1, q2, q3, mx0, mx1, mx2]
          rw [← nI_add p 5]
          rfl
        · rw [eq_false q3] at k3
          by_cases q4 : n4 = 4
          · rw [eq_true q4] at k4
            simp +decide only [s35_0, s35_1, s35_2, s35_3, s35_4, s35_5, s35_6, s35_9, s35_10, s35_13, s35_13N, s35_15, s35_16, s35_16N, s35_17, s35_17N, s35_19, s35_19N1, s35_19N0, s35_19N0N1, s35_22, s35_24, s35_26, s35_26N, s35_28, s35_31, s35_34, s35_35, s35_35i, s35_36, s35_39, s35_41, s35_42, s35_45, s35_46, s35_47, s35_48, s35_50, s35_53, s35_54, s35_57, s35_60, s35_61, s35_62, s35_65, s35_66, s35_67, s35_70, s35_71, s37_0, s37_1_0, s37_1_1, s37_1_2, s37_1_3, s37_32, s37_34, s37_34N, s37_35, s37_37, s37_37N, s37_38, s37_40, s37_40N, s37_41, s37_43, s37_43N, s37_44, s37_46, s37_46N, s37_1_d, hR, c0, c1, c2, c3, c4, l0, l1, l2, l3, l4, o0, o1, o2, o3, o4, nI_add, nI_0, show nI 1 = 1 from rfl, show nI 2 = 2 from rfl, show nI 3 = 3 from rfl, show nI 4 = 4 from rfl, show nI 5 = 5 from rfl, m0, ↓reduceIte, kl_i, kl_r, kl_n, kl_a, kl_l, up_s, up_up, is_0, is_s, gv_0, gv_s, pv_o, rc_o, okI_i, okI_x, okS_i, okB_x, gi_i, pi_i, okL_l, gl_l, pl_l, okA_2, okA_3, ga_a, arr_0, arr_1, arr_10, arr_11, len_a, sw_0, sw_i, sw_r, sw_l, fit_i, fit_z0, fit_z1, nz_0, nz_1, ni_K_s, ni_K_n, Nat.ble_eq, Nat.zero_le, Nat.zero_add, true_and, and_true, and_self, Bool.and_true, Bool.true_and, Bool.and_self, not_true_eq_false, not_false_eq_true, Int32.reduceLE, Int32.reduceLT, Int32.reduceAdd, Int32.reduceSub, Int32.reduceToNatClampNeg, Nat.reduceLeDiff, Nat.reduceAdd, Nat.reduceEqDiff, Nat.reduceSub, List.set_cons_zero, List.set_cons_succ, false_and, and_false, k0, k1, k2, k3, k4, q0, q1, q2, q3, q4, mx0, mx1, mx2, mx3]
            rw [← nI_add p 4]
            rfl
          · rw [eq_false q4] at k4
            simp +decide only [s35_0, s35_1, s35_2, s35_3, s35_4, s35_5, s35_6, s35_9, s35_10, s35_13, s35_13N, s35_15, s35_16, s35_16N, s35_17, s35_17N, s35_19, s35_19N1, s35_19N0, s35_19N0N1, s35_22, s35_24, s35_26, s35_26N, s35_28, s35_31, s35_34, s35_35, s35_35i, s35_36, s35_39, s35_41, s35_42, s35_45, s35_46, s35_47, s35_48, s35_50, s35_53, s35_54, s35_57, s35_60, s35_61, s35_62, s35_65, s35_66, s35_67, s35_70, s35_71, s37_0, s37_1_0, s37_1_1, s37_1_2, s37_1_3, s37_32, s37_34, s37_34N, s37_35, s37_37, s37_37N, s37_38, s37_40, s37_40N, s37_41, s37_43, s37_43N, s37_44, s37_46, s37_46N, s37_1_d, hR, c0, c1, c2, c3, c4, l0, l1, l2, l3, l4, o0, o1, o2, o3, o4, nI_add, nI_0, show nI 1 = 1 from rfl, show nI 2 = 2 from rfl, show nI 3 = 3 from rfl, show nI 4 = 4 from rfl, show nI 5 = 5 from rfl, m0, ↓reduceIte, kl_i, kl_r, kl_n, kl_a, kl_l, up_s, up_up, is_0, is_s, gv_0, gv_s, pv_o, rc_o, okI_i, okI_x, okS_i, okB_x, gi_i, pi_i, okL_l, gl_l, pl_l, okA_2, okA_3, ga_a, arr_0, arr_1, arr_10, arr_11, len_a, sw_0, sw_i, sw_r, sw_l, fit_i, fit_z0, fit_z1, nz_0, nz_1, ni_K_s, ni_K_n, Nat.ble_eq, Nat.zero_le, Nat.zero_add, true_and, and_true, and_self, Bool.and_true, Bool.true_and, Bool.and_self, not_true_eq_false, not_false_eq_true, Int32.reduceLE, Int32.reduceLT, Int32.reduceAdd, Int32.reduceSub, Int32.reduceToNatClampNeg, Nat.reduceLeDiff, Nat.reduceAdd, Nat.reduceEqDiff, Nat.reduceSub, List.set_cons_zero, List.set_cons_succ, false_and, and_false, k0, k1, k2, k3, k4, q0, q1, q2, q3, q4, mx0, mx1, mx2, mx3]
end
