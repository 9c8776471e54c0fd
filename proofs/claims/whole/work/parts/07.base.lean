/-! ===== rows for simp: cells, locals ===== -/
theorem kl_i {x : Int32} : ni_kl (.int x) = .int x := rfl
theorem kl_r {x : Nat} : ni_kl (.ref x) = .ref x := rfl
theorem kl_n : ni_kl .null = .null := rfl
theorem kl_a {x : Nat} : ni_kl (.retAddr x) = .retAddr x := rfl
theorem kl_l {x : Int64} : ni_kl (.long x) = .retAddr 0 := rfl
theorem up_s {h : ni_H} {i : Nat} {e : ni_E} : ni_up h i e i = e := by simp [ni_up]
theorem up_n {h : ni_H} {i j : Nat} {e : ni_E} (q : j ≠ i) : ni_up h i e j = h j := by simp [ni_up, q]
theorem up_up {h : ni_H} {i : Nat} {e e' : ni_E} : ni_up (ni_up h i e) i e' = ni_up h i e' := by
  funext j
  unfold ni_up
  split <;> rfl
theorem up_id {h : ni_H} {i : Nat} {e : ni_E} (q : h i = e) : ni_up h i e = h := by
  funext j
  unfold ni_up
  split
  · next c => rw [c, q]
  · rfl
theorem is_0 {c : Nat} {a : Value} {l : List Value} : ni_is (.inr (c, a :: l)) c 0 = true := by simp [ni_is]
theorem is_s {c k : Nat} {a : Value} {l : List Value} : ni_is (.inr (c, a :: l)) c (k + 1) = ni_is (.inr (c, l)) c k := rfl
theorem gv_0 {c : Nat} {a : Value} {l : List Value} : ni_gv (.inr (c, a :: l)) 0 = a := rfl
theorem gv_s {c k : Nat} {a : Value} {l : List Value} : ni_gv (.inr (c, a :: l)) (k + 1) = ni_gv (.inr (c, l)) k := rfl
theorem pv_o {c k : Nat} {l : List Value} {v : Value} : ni_pv (.inr (c, l)) k v = .inr (c, l.set k v) := rfl
theorem rc_o {c : Nat} {l : List Value} : ni_rc (.inr (c, l)) c = true := by simp [ni_rc]
theorem okI_i {n : Nat} {f : Nat → Int32} {i : Int32} : ni_okI (.inl (0, n, .inl f)) i = ni_in i n := by simp [ni_okI]
theorem okI_x {n : Nat} {f : Nat → Int32} {i : Int32} : ni_okI (.inl (10, n, .inl f)) i = ni_in i n := by simp [ni_okI]
theorem okS_i {n : Nat} {f : Nat → Int32} {i : Int32} : ni_okS (.inl (0, n, .inl f)) i = ni_in i n := by simp [ni_okS]
theorem okB_x {n : Nat} {f : Nat → Int32} {i : Int32} : ni_okB (.inl (11, n, .inl f)) i = ni_in i n := by simp [ni_okB]
theorem gi_i {t n : Nat} {f : Nat → Int32} {i : Int32} : ni_gi (.inl (t, n, .inl f)) i = f i.toNatClampNeg := rfl
theorem pi_i {t n : Nat} {f : Nat → Int32} {i x : Int32} : ni_pi (.inl (t, n, .inl f)) i x = .inl (t, n, .inl (upd f i.toNatClampNeg x)) := rfl
theorem okL_l {n : Nat} {f : Nat → Int64} {i : Int32} : ni_okL (.inl (1, n, .inr (.inl f))) i = ni_in i n := by simp [ni_okL]
theorem gl_l {t n : Nat} {f : Nat → Int64} {i : Int32} : ni_gl (.inl (t, n, .inr (.inl f))) i = f i.toNatClampNeg := rfl
theorem pl_l {t n : Nat} {f : Nat → Int64} {i : Int32} {x : Int64} : ni_pl (.inl (t, n, .inr (.inl f))) i x = .inl (t, n, .inr (.inl (vp_updL f i.toNatClampNeg x))) := rfl
theorem okA_2 {n : Nat} {l : List (Option Nat)} {i : Int32} : ni_okA (.inl (2, n, .inr (.inr l))) i = ni_in i n := by simp [ni_okA]
theorem okA_3 {n : Nat} {l : List (Option Nat)} {i : Int32} : ni_okA (.inl (3, n, .inr (.inr l))) i = ni_in i n := by simp [ni_okA]
theorem ga_a {t n : Nat} {l : List (Option Nat)} {i : Int32} : ni_ga (.inl (t, n, .inr (.inr l))) i = va_rf (l.getD i.toNatClampNeg none) := rfl
theorem arr_0 {n : Nat} {a : (Nat → Int32) ⊕ ((Nat → Int64) ⊕ List (Option Nat))} : ni_arr (.inl (0, n, a)) = true := rfl
theorem arr_1 {n : Nat} {a : (Nat → Int32) ⊕ ((Nat → Int64) ⊕ List (Option Nat))} : ni_arr (.inl (1, n, a)) = true := rfl
theorem arr_10 {n : Nat} {a : (Nat → Int32) ⊕ ((Nat → Int64) ⊕ List (Option Nat))} : ni_arr (.inl (10, n, a)) = true := rfl
theorem arr_11 {n : Nat} {a : (Nat → Int32) ⊕ ((Nat → Int64) ⊕ List (Option Nat))} : ni_arr (.inl (11, n, a)) = true := rfl
theorem len_a {t n : Nat} {a : (Nat → Int32) ⊕ ((Nat → Int64) ⊕ List (Option Nat))} : ni_len (.inl (t, n, a)) = n := rfl
theorem sw_0 : ni_sw [] = 0 := rfl
theorem sw_i {x : Int32} {l : List Value} : ni_sw (.int x :: l) = ni_sw l + 1 := by simp [ni_sw, Value.category]; omega
theorem sw_r {x : Nat} {l : List Value} : ni_sw (.ref x :: l) = ni_sw l + 1 := by simp [ni_sw, Value.category]; omega
theorem sw_l {x : Int64} {l : List Value} : ni_sw (.long x :: l) = ni_sw l + 2 := by simp [ni_sw, Value.category]; omega
theorem fit_i {x : Int32} : ni_fit .int (.int x) = true := by simp [ni_fit, narrow, fits]
theorem fit_z0 : ni_fit .boolean (.int 0) = true := by decide
theorem fit_z1 : ni_fit .boolean (.int 1) = true := by decide
theorem nz_0 : (narrow .boolean (.int 0) = .int 0) = True := by simp [narrow]
theorem nz_1 : (narrow .boolean (.int 1) = .int 1) = True := by simp [narrow]
theorem in_n {k n : Nat} (h : k < n) (hn : n < 2 ^ 31) : ni_in (nI k) n = true := ni_in_iff.mpr (vp_in_nI h hn)
