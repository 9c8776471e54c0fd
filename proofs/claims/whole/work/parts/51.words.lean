set_option maxRecDepth 100000
set_option maxHeartbeats 4000000
/-! ===== words with and without the blank behind them ===== -/
theorem sm_ext (eq : Nat → Bool) : ∀ (m j : Nat), fs_sm eq (m + 1) j = if fs_sm eq m j = j + m then (if eq (j + m) = true then j + m + 1 else j + m) else fs_sm eq m j := by
  intro m
  induction m with
  | zero =>
    intro j
    simp only [fs_sm, Nat.add_zero, if_true]
  | succ m ih =>
    intro j
    have e1 : fs_sm eq (m + 1 + 1) j = if eq j = true then fs_sm eq (m + 1) (j + 1) else j := rfl
    have e2 : fs_sm eq (m + 1) j = if eq j = true then fs_sm eq m (j + 1) else j := rfl
    rw [e1, e2]
    cases q : eq j
    · simp
    · simp only [if_true]
      rw [ih (j + 1), show j + 1 + m = j + (m + 1) by omega]
theorem sm_ge (eq : Nat → Bool) : ∀ (m j : Nat), j ≤ fs_sm eq m j := by
  intro m
  induction m with
  | zero => intro j; exact Nat.le_refl _
  | succ m ih =>
    intro j
    rw [fs_sm]
    split
    · have := ih (j + 1); omega
    · omega
theorem sm_all (eq : Nat → Bool) : ∀ (m j i : Nat), j ≤ i → i < fs_sm eq m j → eq i = true := by
  intro m
  induction m with
  | zero => intro j i h1 h2; simp only [fs_sm] at h2; omega
  | succ m ih =>
    intro j i h1 h2
    rw [fs_sm] at h2
    split at h2
    · next q =>
      by_cases e : i = j
      · rw [e]; exact q
      · exact ih (j + 1) i (by omega) h2
    · omega
/-- how much of the word w, with its blank, stands at p -/
def fs_mw (tx : Nat → Int32) (p w : Nat) : Nat := fs_sm (fun j => decide (tx (p + j) = fs_wb w j)) (fs_wl w + 1) 0
theorem mw_cw (tx : Nat → Int32) (p w : Nat) : fs_mw tx p w = if fs_cw tx p w = fs_wl w then (if tx (p + fs_wl w) = 32 then fs_wl w + 1 else fs_wl w) else fs_cw tx p w := by
  unfold fs_mw fs_cw
  rw [sm_ext, Nat.zero_add]
  have : fs_wb w (fs_wl w) = 32 := by unfold fs_wb fs_wl; rw [List.getD_eq_getElem?_getD, List.getElem?_eq_none (Nat.le_refl _)]; rfl
  simp only [this, decide_eq_true_iff]
theorem cw_at {tx : Nat → Int32} {p w i : Nat} (h : i < fs_cw tx p w) : tx (p + i) = fs_wb w i := of_decide_eq_true (sm_all _ _ 0 i (Nat.zero_le _) h)
def fs_mwd (tx : Nat → Int32) (p : Nat) : Nat × Nat := if fs_mw tx p 0 = 5 then (0, 5) else if fs_mw tx p 1 = 6 then (1, 6) else if fs_mw tx p 2 = 3 then (2, 3) else if fs_mw tx p 3 = 6 then (3, 6) else if fs_mw tx p 4 = 5 then (4, 5) else (5, max (max (max (max (fs_mw tx p 0) (fs_mw tx p 1)) (fs_mw tx p 2)) (fs_mw tx p 3)) (fs_mw tx p 4))
/-- the first signs of the words -/
theorem cw_first {tx : Nat → Int32} {p v w : Nat} (hv : v < 5) (hw : w < 5) (h1 : 0 < fs_cw tx p v) (hn : fs_wb v 0 ≠ fs_wb w 0) : fs_cw tx p w = 0 := by
  rcases Nat.eq_zero_or_pos (fs_cw tx p w) with q | q
  · exact q
  · exact absurd ((cw_at h1).symm.trans (cw_at q)) hn
theorem cw_13 {tx : Nat → Int32} {p : Nat} (h : fs_cw tx p 1 = 5) : fs_cw tx p 3 ≤ 2 := by
  rcases Nat.lt_or_ge 2 (fs_cw tx p 3) with q | q
  · exact absurd ((cw_at (w := 1) (i := 2) (show 2 < fs_cw tx p 1 by omega)).symm.trans (cw_at (w := 3) q)) (by decide)
  · exact q
theorem cw_31 {tx : Nat → Int32} {p : Nat} (h : fs_cw tx p 3 = 5) : fs_cw tx p 1 ≤ 2 := by
  rcases Nat.lt_or_ge 2 (fs_cw tx p 1) with q | q
  · exact absurd ((cw_at (w := 3) (i := 2) (show 2 < fs_cw tx p 3 by omega)).symm.trans (cw_at (w := 1) q)) (by decide)
  · exact q
theorem mwd_5 {tx : Nat → Int32} {p k : Nat} (h : fs_wd tx p = (5, k)) : fs_mwd tx p = (5, k) := by
  have l0 : fs_wl 0 = 4 := rfl
  have l1 : fs_wl 1 = 5 := rfl
  have l2 : fs_wl 2 = 2 := rfl
  have l3 : fs_wl 3 = 5 := rfl
  have l4 : fs_wl 4 = 4 := rfl
  have b0 := sm_le (fun j => decide (tx (p + j) = fs_wb 0 j)) (fs_wl 0) 0
  have b1 := sm_le (fun j => decide (tx (p + j) = fs_wb 1 j)) (fs_wl 1) 0
  have b2 := sm_le (fun j => decide (tx (p + j) = fs_wb 2 j)) (fs_wl 2) 0
  have b3 := sm_le (fun j => decide (tx (p + j) = fs_wb 3 j)) (fs_wl 3) 0
  have b4 := sm_le (fun j => decide (tx (p + j) = fs_wb 4 j)) (fs_wl 4) 0
  change fs_cw tx p 0 ≤ _ at b0
  change fs_cw tx p 1 ≤ _ at b1
  change fs_cw tx p 2 ≤ _ at b2
  change fs_cw tx p 3 ≤ _ at b3
  change fs_cw tx p 4 ≤ _ at b4
  rw [l0] at b0
  rw [l1] at b1
  rw [l2] at b2
  rw [l3] at b3
  rw [l4] at b4
  unfold fs_wd at h
  by_cases q0 : fs_cw tx p 0 = 4
  · rw [if_pos q0] at h; cases h
  by_cases q1 : fs_cw tx p 1 = 5
  · rw [if_neg q0, if_pos q1] at h; cases h
  by_cases q2 : fs_cw tx p 2 = 2
  · rw [if_neg q0, if_neg q1, if_pos q2] at h; cases h
  by_cases q3 : fs_cw tx p 3 = 5
  · rw [if_neg q0, if_neg q1, if_neg q2, if_pos q3] at h; cases h
  by_cases q4 : fs_cw tx p 4 = 4
  · rw [if_neg q0, if_neg q1, if_neg q2, if_neg q3, if_pos q4] at h; cases h
  rw [if_neg q0, if_neg q1, if_neg q2, if_neg q3, if_neg q4] at h
  unfold fs_mwd
  rw [mw_cw, mw_cw, mw_cw, mw_cw, mw_cw, l0, l1, l2, l3, l4, if_neg q0, if_neg q1, if_neg q2, if_neg q3, if_neg q4]
  rw [if_neg (by omega), if_neg (by omega), if_neg (by omega), if_neg (by omega), if_neg (by omega)]
  exact h
theorem mwd_w {tx : Nat → Int32} {p w L : Nat} (hw : w < 5) (h : fs_wd tx p = (w, L)) : fs_mwd tx p = if tx (p + L) = 32 then (w, L + 1) else (5, L) := by
  have l0 : fs_wl 0 = 4 := rfl
  have l1 : fs_wl 1 = 5 := rfl
  have l2 : fs_wl 2 = 2 := rfl
  have l3 : fs_wl 3 = 5 := rfl
  have l4 : fs_wl 4 = 4 := rfl
  have F := fun (v w : Nat) (hv : v < 5) (hw : w < 5) (hn : fs_wb v 0 ≠ fs_wb w 0) (h : 0 < fs_cw tx p v) => cw_first (tx := tx) (p := p) hv hw h hn
  unfold fs_wd at h
  unfold fs_mwd
  by_cases q0 : fs_cw tx p 0 = 4
  · rw [if_pos q0] at h
    cases h
    have c1 := F 0 1 (by decide) (by decide) (by decide) (by omega)
    have c2 := F 0 2 (by decide) (by decide) (by decide) (by omega)
    have c3 := F 0 3 (by decide) (by decide) (by decide) (by omega)
    have c4 := F 0 4 (by decide) (by decide) (by decide) (by omega)
    rw [mw_cw, mw_cw, mw_cw, mw_cw, mw_cw, l0, l1, l2, l3, l4, q0, c1, c2, c3, c4]
    by_cases q : tx (p + 4) = 32 <;> simp [q]
  by_cases q1 : fs_cw tx p 1 = 5
  · rw [if_neg q0, if_pos q1] at h
    cases h
    have c0 := F 1 0 (by decide) (by decide) (by decide) (by omega)
    have c2 := F 1 2 (by decide) (by decide) (by decide) (by omega)
    have c3 := cw_13 q1
    have c4 := F 1 4 (by decide) (by decide) (by decide) (by omega)
    rw [mw_cw, mw_cw, mw_cw, mw_cw, mw_cw, l0, l1, l2, l3, l4, q1, c0, c2, c4, if_neg (show ¬ fs_cw tx p 3 = 5 by omega)]
    by_cases q : tx (p + 5) = 32
    · simp [q]
    · simp [q, show ¬ fs_cw tx p 3 = 6 by omega]
      omega
  by_cases q2 : fs_cw tx p 2 = 2
  · rw [if_neg q0, if_neg q1, if_pos q2] at h
    cases h
    have c0 := F 2 0 (by decide) (by decide) (by decide) (by omega)
    have c1 := F 2 1 (by decide) (by decide) (by decide) (by omega)
    have c3 := F 2 3 (by decide) (by decide) (by decide) (by omega)
    have c4 := F 2 4 (by decide) (by decide) (by decide) (by omega)
    rw [mw_cw, mw_cw, mw_cw, mw_cw, mw_cw, l0, l1, l2, l3, l4, q2, c0, c1, c3, c4]
    by_cases q : tx (p + 2) = 32 <;> simp [q]
  by_cases q3 : fs_cw tx p 3 = 5
  · rw [if_neg q0, if_neg q1, if_neg q2, if_pos q3] at h
    cases h
    have c0 := F 3 0 (by decide) (by decide) (by decide) (by omega)
    have c1 := cw_31 q3
    have c2 := F 3 2 (by decide) (by decide) (by decide) (by omega)
    have c4 := F 3 4 (by decide) (by decide) (by decide) (by omega)
    rw [mw_cw, mw_cw, mw_cw, mw_cw, mw_cw, l0, l1, l2, l3, l4, q3, c0, c2, c4, if_neg (show ¬ fs_cw tx p 1 = 5 by omega)]
    by_cases q : tx (p + 5) = 32
    · simp [q, show ¬ fs_cw tx p 1 = 6 by omega]
    · simp [q, show ¬ fs_cw tx p 1 = 6 by omega]
      omega
  by_cases q4 : fs_cw tx p 4 = 4
  · rw [if_neg q0, if_neg q1, if_neg q2, if_neg q3, if_pos q4] at h
    cases h
    have c0 := F 4 0 (by decide) (by decide) (by decide) (by omega)
    have c1 := F 4 1 (by decide) (by decide) (by decide) (by omega)
    have c2 := F 4 2 (by decide) (by decide) (by decide) (by omega)
    have c3 := F 4 3 (by decide) (by decide) (by decide) (by omega)
    rw [mw_cw, mw_cw, mw_cw, mw_cw, mw_cw, l0, l1, l2, l3, l4, q4, c0, c1, c2, c3]
    by_cases q : tx (p + 4) = 32 <;> simp [q]
  · rw [if_neg q0, if_neg q1, if_neg q2, if_neg q3, if_neg q4] at h
    cases h
    omega
theorem mw_le (tx : Nat → Int32) (p w : Nat) (hw : w < 5) : fs_mw tx p w ≤ 6 := Nat.le_trans (sm_le _ _ _) (by have := wl_5 w hw; omega)
