set_option maxRecDepth 100000
set_option maxHeartbeats 4000000
/-! ===== items of a text; a table's picture ===== -/
def fs_num (tx : Nat → Int32) (p : Nat) (ok : Nat → Bool) : Nat ⊕ (Nat × Nat) := if tx p = 32 then (if fs_dg (tx (p + 1)) = true then (if ok (fs_nv tx (p + 1)).1 = true then .inr (fs_nv tx (p + 1)) else .inl (p + 1)) else .inl (p + 1)) else .inl p
def fs_ok1 (w n v : Nat) : Bool := if w = 0 then decide (v ≤ 6) else if w = 1 ∨ w = 2 then decide (v < 5) else decide (v < n)
def fs_ok2 (w : Nat) (c : Nat → Int32) (a v : Nat) : Bool := if w = 0 then decide (v ≤ 9) else if w = 1 then decide (v < 36) && fs_fr c (nI a) (nI v) 5 0 else decide (1 ≤ v ∧ v ≤ 4)
/-- an item at p: where it is wrong, or its word, its numbers and its end -/
def fs_item (tx : Nat → Int32) (p n : Nat) (c : Nat → Int32) : Nat ⊕ (Nat × Nat × Nat × Nat) :=
  if (fs_wd tx p).1 = 5 then .inl (p + (fs_wd tx p).2) else if (fs_wd tx p).1 = 0 ∧ n = 4 then .inl p else
  match fs_num tx (p + (fs_wd tx p).2) (fs_ok1 (fs_wd tx p).1 n) with
  | .inl q => .inl q
  | .inr (a, e) => if (fs_wd tx p).1 = 2 ∨ (fs_wd tx p).1 = 4 then .inr ((fs_wd tx p).1, a, 0, e) else match fs_num tx e (fs_ok2 (fs_wd tx p).1 c a) with
    | .inl q => .inl q
    | .inr (b, e2) => .inr ((fs_wd tx p).1, a, b, e2)
theorem nv_le (tx : Nat → Int32) (q : Nat) : (fs_nv tx q).1 ≤ 99 ∧ q ≤ (fs_nv tx q).2 ∧ (fs_nv tx q).2 ≤ q + 2 := by
  unfold fs_nv
  split
  · next h1 =>
    have w1 := (dg_v h1).2
    split
    · next h2 =>
      have w2 := (dg_v h2).2
      simp only
      omega
    · simp only
      omega
  · simp only
    omega
theorem nv_gt (tx : Nat → Int32) (q : Nat) (h : fs_dg (tx q) = true) : q + 1 ≤ (fs_nv tx q).2 := by
  unfold fs_nv
  rw [if_pos h]
  split <;> simp only <;> omega
theorem num_l {tx : Nat → Int32} {p q : Nat} {ok : Nat → Bool} {lo hi nu : Int32} (hok : ∀ v, v ≤ 99 → ((¬ nI v < lo ∧ nI v ≤ hi) ↔ ok v = true)) (h : fs_num tx p ok = .inl q) : (∃ (r : Int32) (e : Nat) (nu' : Int32), fs_rn tx lo hi (-1) p nu = (r, nI q, e, nu')) ∧ q ≤ p + 1 := by
  unfold fs_num at h
  unfold fs_rn
  rw [if_pos rfl]
  by_cases h1 : tx p = 32
  · rw [if_pos h1] at h ⊢
    by_cases h2 : fs_dg (tx (p + 1)) = true
    · rw [if_pos h2] at h
      by_cases h3 : ok (fs_nv tx (p + 1)).1 = true
      · rw [if_pos h3] at h; cases h
      · rw [if_neg h3] at h
        cases h
        have := mt (hok _ (nv_le tx (p + 1)).1).mp h3
        rw [if_neg (fun q => this q.2)]
        exact ⟨⟨_, _, _, rfl⟩, Nat.le_refl _⟩
    · rw [if_neg h2] at h
      cases h
      rw [if_neg (fun q => h2 q.1)]
      exact ⟨⟨_, _, _, rfl⟩, Nat.le_refl _⟩
  · rw [if_neg h1] at h ⊢
    cases h
    exact ⟨⟨_, _, _, rfl⟩, by omega⟩
theorem num_r {tx : Nat → Int32} {p v e : Nat} {ok : Nat → Bool} {lo hi nu : Int32} (hok : ∀ v, v ≤ 99 → ((¬ nI v < lo ∧ nI v ≤ hi) ↔ ok v = true)) (h : fs_num tx p ok = .inr (v, e)) : fs_rn tx lo hi (-1) p nu = (nI v, -1, e, nI (p + 1)) ∧ ok v = true ∧ v ≤ 99 ∧ p + 2 ≤ e ∧ e ≤ p + 3 := by
  unfold fs_num at h
  unfold fs_rn
  rw [if_pos rfl]
  by_cases h1 : tx p = 32
  · rw [if_pos h1] at h ⊢
    by_cases h2 : fs_dg (tx (p + 1)) = true
    · rw [if_pos h2] at h
      by_cases h3 : ok (fs_nv tx (p + 1)).1 = true
      · rw [if_pos h3] at h
        have h4 : fs_nv tx (p + 1) = (v, e) := Sum.inr.inj h
        have h5 := (hok _ (nv_le tx (p + 1)).1).mpr h3
        have h6 := nv_le tx (p + 1)
        have h7 := nv_gt tx (p + 1) h2
        rw [if_pos ⟨h2, h5⟩]
        rw [h4] at h3 h6 h7 ⊢
        exact ⟨rfl, h3, h6.1, h7, by have := h6.2.2; simp only at this; omega⟩
      · rw [if_neg h3] at h; cases h
    · rw [if_neg h2] at h; cases h
  · rw [if_neg h1] at h; cases h
theorem rn_f {tx : Nat → Int32} {lo hi fa nu : Int32} {p : Nat} (h : ¬ fa = -1) : fs_rn tx lo hi fa p nu = (-1, fa, p, nu) := by
  unfold fs_rn
  rw [if_neg h]
theorem rn_le (tx : Nat → Int32) (lo hi fa nu : Int32) (p : Nat) : (fs_rn tx lo hi fa p nu).2.2.1 ≤ p + 3 := by
  have := nv_le tx (p + 1)
  unfold fs_rn
  repeat' split
  all_goals simp only
  all_goals omega
theorem nI_m1 {k : Nat} (hk : k < 2 ^ 31) : ¬ nI k = -1 := by
  intro e
  have := congrArg Int32.toInt e
  rw [nI_toInt hk] at this
  simp at this
/-- a table's picture: cells in row 0, hands in rows 1 to 5, count, whose turn, faults and seed in row 6 -/
def fs_tab (t : Nat) (u : Nat → Nat → Int32) (h : ni_H) : Prop := h t = ni_O 5 [.ref (t + 1), .ref (t + 2), .int (u 6 0), .int (u 6 1), .int (u 6 2), .int (u 6 3)] ∧ h (t + 1) = ni_I 5 (u 0) ∧ h (t + 2) = ni_R 3 4 [some (t + 3), some (t + 4), some (t + 5), some (t + 6)] ∧ ∀ k, k < 4 → h (t + 3 + k) = ni_O 1 [.int (nI k), .int (u 1 k), .int (u 2 k), .int (u 3 k), .int (u 4 k), .int (u 5 k)]
def fs_u (u : Nat → Nat → Int32) (i k : Nat) (x : Int32) : Nat → Nat → Int32 := fun i' => if i' = i then upd (u i) k x else u i'
theorem fu_s {u : Nat → Nat → Int32} {i k : Nat} {x : Int32} : fs_u u i k x i = upd (u i) k x := by simp [fs_u]
theorem fu_n {u : Nat → Nat → Int32} {i j k : Nat} {x : Int32} (h : j ≠ i) : fs_u u i k x j = u j := by simp [fs_u, h]
theorem fu_k {u : Nat → Nat → Int32} {i j k l : Nat} {x : Int32} (h : l ≠ k) : fs_u u i k x j l = u j l := by
  unfold fs_u
  split
  · next q => rw [q, ud_n h]
  · rfl
theorem fs_tab_n {t i : Nat} {u : Nat → Nat → Int32} {h : ni_H} {e : ni_E} (hi : i < t ∨ t + 7 ≤ i) : fs_tab t u (ni_up h i e) = fs_tab t u h := by
  unfold fs_tab
  rw [up_n (by omega), up_n (by omega), up_n (by omega)]
  have : (∀ k, k < 4 → ni_up h i e (t + 3 + k) = ni_O 1 [.int (nI k), .int (u 1 k), .int (u 2 k), .int (u 3 k), .int (u 4 k), .int (u 5 k)]) = ∀ k, k < 4 → h (t + 3 + k) = ni_O 1 [.int (nI k), .int (u 1 k), .int (u 2 k), .int (u 3 k), .int (u 4 k), .int (u 5 k)] := by
    apply propext
    constructor <;> intro q k hk
    · rw [← q k hk, up_n (by omega)]
    · rw [up_n (by omega)]; exact q k hk
  rw [this]
theorem fs_tab_h {t k : Nat} {u : Nat → Nat → Int32} {h h' : ni_H} (H : fs_tab t u h) (hh : ∀ i, t ≤ i → i < t + 7 → h' i = h i) : fs_tab t u h' := by
  obtain ⟨a, b, c, d⟩ := H
  exact ⟨by rw [hh t (by omega) (by omega)]; exact a, by rw [hh _ (by omega) (by omega)]; exact b, by rw [hh _ (by omega) (by omega)]; exact c, fun k hk => by rw [hh _ (by omega) (by omega)]; exact d k hk⟩
/-- a cell put -/
theorem tab_c {t : Nat} {u : Nat → Nat → Int32} {h : ni_H} (H : fs_tab t u h) (k : Nat) (x : Int32) : fs_tab t (fs_u u 0 k x) (ni_up h (t + 1) (ni_I 5 (upd (u 0) k x))) := by
  obtain ⟨a, b, c, d⟩ := H
  refine ⟨by rw [up_n (by omega)]; exact a, up_s, by rw [up_n (by omega)]; exact c, fun k hk => by rw [up_n (by omega)]; exact d k hk⟩
/-- a scalar put -/
theorem tab_6 {t : Nat} {u : Nat → Nat → Int32} {h : ni_H} (H : fs_tab t u h) (k : Nat) (x : Int32) : fs_tab t (fs_u u 6 k x) (ni_up h t (ni_O 5 [.ref (t + 1), .ref (t + 2), .int (upd (u 6) k x 0), .int (upd (u 6) k x 1), .int (upd (u 6) k x 2), .int (upd (u 6) k x 3)])) := by
  obtain ⟨a, b, c, d⟩ := H
  refine ⟨up_s, by rw [up_n (by omega)]; exact b, by rw [up_n (by omega)]; exact c, fun k hk => by rw [up_n (by omega)]; exact d k hk⟩
/-- a hand put -/
theorem tab_h {t j : Nat} {u v : Nat → Nat → Int32} {h : ni_H} (H : fs_tab t u h) (hj : j < 4) (h0 : v 0 = u 0) (h6 : v 6 = u 6) (hv : ∀ i k, k ≠ j → v i k = u i k) : fs_tab t v (ni_up h (t + 3 + j) (ni_O 1 [.int (nI j), .int (v 1 j), .int (v 2 j), .int (v 3 j), .int (v 4 j), .int (v 5 j)])) := by
  obtain ⟨a, b, c, d⟩ := H
  refine ⟨by rw [up_n (by omega), h6]; exact a, by rw [up_n (by omega), h0]; exact b, by rw [up_n (by omega)]; exact c, fun k hk => ?_⟩
  by_cases q : k = j
  · subst q; exact up_s
  · rw [up_n (by omega), d k hk, hv 1 k q, hv 2 k q, hv 3 k q, hv 4 k q, hv 5 k q]
/-- a new hand -/
def fs_uh (u : Nat → Nat → Int32) (n : Nat) (x y : Int32) : Nat → Nat → Int32 := fs_u (fs_u (fs_u (fs_u (fs_u (fs_u u 1 n x) 2 n y) 3 n 1) 4 n 0) 5 n 0) 6 0 (nI (n + 1))
theorem tab_a {t n : Nat} {u : Nat → Nat → Int32} {h : ni_H} {x y : Int32} (H : fs_tab t u h) (hn : n < 4) : fs_tab t (fs_uh u n x y) (ni_up (ni_up h (t + 3 + n) (ni_O 1 [.int (nI n), .int x, .int y, .int 1, .int 0, .int 0])) t (ni_O 5 [.ref (t + 1), .ref (t + 2), .int (nI (n + 1)), .int (u 6 1), .int (u 6 2), .int (u 6 3)])) := by
  have H1 := tab_h (v := fs_u (fs_u (fs_u (fs_u (fs_u u 1 n x) 2 n y) 3 n 1) 4 n 0) 5 n 0) H hn (by simp [fs_u]) (by simp [fs_u]) (fun i k hk => by rw [fu_k hk, fu_k hk, fu_k hk, fu_k hk, fu_k hk])
  have H2 := tab_6 H1 0 (nI (n + 1))
  simp +decide only [fu_s, fu_n, ud_s, ud_n, ne_eq, Nat.reduceEqDiff, not_false_eq_true] at H2
  exact H2
/-- what an item does to a table -/
def fs_ai (w a b : Nat) (u : Nat → Nat → Int32) : Nat → Nat → Int32 := if w = 0 then fs_uh u (u 6 0).toNatClampNeg (nI a) (nI b) else if w = 1 then fs_u u 0 a (nI b) else if w = 2 then fs_u u 0 a (-1) else if w = 3 then fs_u u 3 a (nI b) else fs_u u 6 1 (nI a)
