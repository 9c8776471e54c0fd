set_option maxRecDepth 100000
set_option maxHeartbeats 1000000
/-! ===== what holds between two calls ===== -/
def fs_mind (h : ni_H) : Prop := ∃ (li fo : Int32) (wy ch pl ne pa : Nat → Int32), h 23 = ni_O 2 [.ref 24, .ref 25, .ref 26, .ref 27, .ref 28, .int li, .int fo] ∧ h 24 = ni_I 32 wy ∧ h 25 = ni_I 32 ch ∧ h 26 = ni_I 32 pl ∧ h 27 = ni_I 5 ne ∧ h 28 = ni_I 160 pa
def fs_IE (h : ni_H) : Prop := h 1001 = .inl (10, 7, .inl fs_above) ∧ h 1002 = .inl (10, 21, .inl fs_bod) ∧ (∀ w, w < 5 → h (1010 + w) = ni_O 100 [.ref (1020 + w), .int 0]) ∧ (∀ w, w < 5 → h (1020 + w) = .inl (11, fs_wl w, .inl (fs_wb w)))
/-- a table whose cells end behind the fifth -/
def fs_nz (u : Nat → Nat → Int32) : Nat → Nat → Int32 := fun i j => if i = 0 ∧ 5 ≤ j then 0 else u i j
/-- the class's cells: im imaged, lf the latest fault, u table, v image, hl what shelves hold, hd hands, so sorts, sz sizes, ee elements -/
def fs_IX (h : ni_H) (im lf : Int32) (u v : Nat → Nat → Int32) (ran : Nat) (tr rf hl hd so : Nat → Int32) (sz : Nat → Nat) (ee : Nat → Nat → Int64) : Prop :=
  h 0 = ni_O 6 [.ref 1, .ref 2, .ref 9, .ref 16, .ref 23, .ref 29, .ref 31, .ref 32, .int im, .int lf] ∧ h 1 = ni_R 2 8 [some 33, some 35, some 37, some 39, some 41, some 43, some 45, some 47] ∧ fs_tab 2 u h ∧ fs_tab 9 (fs_nz v) h ∧ (∃ w, fs_tab 16 (fs_nz w) h) ∧ fs_mind h ∧ h 29 = ni_O 0 [.ref 30, .int (nI ran)] ∧ h 30 = ni_I 20 tr ∧ (∃ a b c : Int32, h 31 = ni_O 3 [.int a, .int b, .int c]) ∧ h 32 = ni_I 8 rf ∧ (∀ s, s < 8 → h (33 + 2 * s) = ni_O 4 [.ref (33 + 2 * s + 1), .int (hl s), .int (hd s), .int (so s), .int (nI (sz s))]) ∧ (∀ s, s < 8 → h (33 + 2 * s + 1) = ni_L 160 (ee s))
/-- the reference's cells -/
def fs_IM (h : ni_H) (g : Nat → Int32) (mu : Nat → Nat → Int32) (tr rf hl so : Nat → Int32) (szf sh kp : Nat → Int32) (ce : Nat → Int64) : Prop :=
  fs_mtb mu g h ∧ h 50 = ni_I 8 rf ∧ h 57 = ni_I 8 hl ∧ h 58 = ni_I 8 so ∧ h 59 = ni_I 8 szf ∧ h 60 = ni_I 8 sh ∧ h 61 = ni_L 1280 ce ∧ (∃ ca : Nat → Int64, h 62 = ni_L 160 ca) ∧ (∃ wv : Nat → Int32, h 63 = ni_I 30 wv ∧ ∀ i, i < 30 → wv i = fs_wrd i) ∧ (∃ te : Nat → Int32, h 64 = ni_I 2 te) ∧ (∃ wa : Nat → Int32, h 65 = ni_I 30 wa) ∧ h 66 = ni_I 30 kp ∧ h 67 = ni_I 20 tr
/-- a table as the calls leave it: n hands, whose turn w, at most J tosses a hand -/
def fs_good (J n w : Nat) (u : Nat → Nat → Int32) : Prop := u 6 0 = nI n ∧ n ≤ 4 ∧ u 6 1 = nI w ∧ (w < n ∨ (n = 0 ∧ w = 0)) ∧ (∀ j, j < 5 → u 0 j = -1 ∨ fs_ce (u 0 j)) ∧ (∀ j, 5 ≤ j → u 0 j = 0) ∧ (∀ i j, i < 5 → j < 5 → i ≠ j → u 0 i = u 0 j → u 0 i = -1) ∧ (∀ k, k < n → fs_kd (u 1 k) ∧ (∃ a, a ≤ 9 ∧ u 2 k = nI a) ∧ (∃ l, 1 ≤ l ∧ l ≤ 4 ∧ u 3 k = nI l) ∧ (∃ t, t ≤ J ∧ u 5 k = nI t))
def fs_rel (n : Nat) (u mu : Nat → Nat → Int32) : Prop := (∀ i, i < 4 → mu 6 i = u 6 i) ∧ mu 0 = u 0 ∧ ∀ i k, 1 ≤ i → i ≤ 5 → k < n → mu i k = u i k
def fs_shok (n : Nat) (hl hd so szf sh : Nat → Int32) (sz : Nat → Nat) (ee : Nat → Nat → Int64) (ce : Nat → Int64) : Prop := ∀ s, s < 8 → (hl s = 0 ∨ hl s = 1 ∨ hl s = 2) ∧ (so s = 0 ∨ so s = 1 ∨ so s = 2 ∨ so s = 3) ∧ sz s ≤ 160 ∧ szf s = nI (sz s) ∧ (hl s = 2 → hd s = sh s ∧ ∃ k, k < n ∧ hd s = nI k) ∧ ∀ i, i < 160 → ce (160 * s + i) = ee s i
def fs_IP (J n w : Nat) (im lf : Int32) (u v mu : Nat → Nat → Int32) (ran : Nat) (g kp hl hd so szf sh : Nat → Int32) (sz : Nat → Nat) (ee : Nat → Nat → Int64) (ce : Nat → Int64) : Prop :=
  fs_good J n w u ∧ fs_rel n u mu ∧ g 4 = lf ∧ g 31 = nI ran ∧ g 32 = im ∧ ran < 2 ^ 31 ∧ (im = 0 ∨ (im = 1 ∧ ∃ (n' w' : Nat) (mv : Nat → Nat → Int32), fs_good J n' w' v ∧ fs_rel n' v mv ∧ fs_kp kp mv)) ∧ fs_shok n hl hd so szf sh sz ee ce
def fs_Inv (J : Nat) (h : ni_H) : Prop := fs_IE h ∧ ∃ (n w : Nat) (im lf : Int32) (u v mu : Nat → Nat → Int32) (ran : Nat) (tr rf hl hd so szf sh kp g : Nat → Int32) (sz : Nat → Nat) (ee : Nat → Nat → Int64) (ce : Nat → Int64), fs_IX h im lf u v ran tr rf hl hd so sz ee ∧ fs_IM h g mu tr rf hl so szf sh kp ce ∧ fs_IP J n w im lf u v mu ran g kp hl hd so szf sh sz ee ce
def fs_vk (mx : Nat) (r : Value) : Bool := match r with
  | .int _ => mx != 70 && mx != 92
  | .long _ => mx == 70 || mx == 92
  | _ => false
/-- one call of both: the same answer, and what holds goes on -/
def fs_C (J : Nat) (z : ni_Z) (mx mm : Nat) (ax am : List Value) (h : ni_H) : Prop := ∃ (r : Value) (h1 h2 : ni_H), (∀ (d : Nat) (Q : ni_Q), ni_T (d + 40) mx 0 ax [] z h Q = Q (some r) z h1) ∧ (∀ (d : Nat) (Q : ni_Q), ni_T (d + 40) mm 0 am [] z h1 Q = Q (some r) z h2) ∧ fs_vk mx r = true ∧ (∀ i, 1000 ≤ i → h2 i = h i) ∧ fs_Inv (J + 100) h2
theorem good_J {J J' n w : Nat} {u : Nat → Nat → Int32} (h : fs_good J n w u) (hj : J ≤ J') : fs_good J' n w u := by
  obtain ⟨a, b, c, d, e, f, g, k⟩ := h
  exact ⟨a, b, c, d, e, f, g, fun i hi => ⟨(k i hi).1, (k i hi).2.1, (k i hi).2.2.1, by obtain ⟨t, h1, h2⟩ := (k i hi).2.2.2; exact ⟨t, by omega, h2⟩⟩⟩
theorem IP_J {J J' n w : Nat} {im lf : Int32} {u v mu : Nat → Nat → Int32} {ran : Nat} {g kp hl hd so szf sh : Nat → Int32} {sz : Nat → Nat} {ee : Nat → Nat → Int64} {ce : Nat → Int64} (h : fs_IP J n w im lf u v mu ran g kp hl hd so szf sh sz ee ce) (hj : J ≤ J') : fs_IP J' n w im lf u v mu ran g kp hl hd so szf sh sz ee ce := by
  obtain ⟨a, b, c, d, e, f, i, k⟩ := h
  refine ⟨good_J a hj, b, c, d, e, f, ?_, k⟩
  rcases i with i | ⟨i, n', w', mv, q1, q2⟩
  · exact Or.inl i
  · exact Or.inr ⟨i, n', w', mv, good_J q1 hj, q2⟩
theorem IE_h {h h' : ni_H} (H : fs_IE h) (hh : ∀ i, 1000 ≤ i → h' i = h i) : fs_IE h' := by
  obtain ⟨a, b, c, d⟩ := H
  exact ⟨by rw [hh _ (by omega)]; exact a, by rw [hh _ (by omega)]; exact b, fun w hw => by rw [hh _ (by omega)]; exact c w hw, fun w hw => by rw [hh _ (by omega)]; exact d w hw⟩
theorem mind_h {h h' : ni_H} (H : fs_mind h) (hh : ∀ i, 23 ≤ i → i < 29 → h' i = h i) : fs_mind h' := by
  obtain ⟨li, fo, wy, ch, pl, ne, pa, a, b, c, d, e, f⟩ := H
  exact ⟨li, fo, wy, ch, pl, ne, pa, by rw [hh _ (by omega) (by omega)]; exact a, by rw [hh _ (by omega) (by omega)]; exact b, by rw [hh _ (by omega) (by omega)]; exact c, by rw [hh _ (by omega) (by omega)]; exact d, by rw [hh _ (by omega) (by omega)]; exact e, by rw [hh _ (by omega) (by omega)]; exact f⟩
theorem mtb_h {h h' : ni_H} {u : Nat → Nat → Int32} {g : Nat → Int32} (H : fs_mtb u g h) (hh : ∀ i, 49 ≤ i → i < 57 → h' i = h i) : fs_mtb u g h' := by
  obtain ⟨a0, a1, a2, a3, a4, a5, a6, b⟩ := H
  exact ⟨by rw [hh _ (by omega) (by omega)]; exact a0, by rw [hh _ (by omega) (by omega)]; exact a1, by rw [hh _ (by omega) (by omega)]; exact a2, by rw [hh _ (by omega) (by omega)]; exact a3, by rw [hh _ (by omega) (by omega)]; exact a4, by rw [hh _ (by omega) (by omega)]; exact a5, by rw [hh _ (by omega) (by omega)]; exact a6, b⟩
theorem IM_h {h h' : ni_H} {g : Nat → Int32} {mu : Nat → Nat → Int32} {tr rf hl so szf sh kp : Nat → Int32} {ce : Nat → Int64} (H : fs_IM h g mu tr rf hl so szf sh kp ce) (hh : ∀ i, 49 ≤ i → i < 68 → h' i = h i) : fs_IM h' g mu tr rf hl so szf sh kp ce := by
  obtain ⟨a, b, c, d, e, f, i, ⟨k, k'⟩, ⟨l, l1, l2⟩, ⟨m, m'⟩, ⟨o, o'⟩, q, r⟩ := H
  exact ⟨mtb_h a (fun i h1 h2 => hh i h1 (by omega)), by rw [hh _ (by omega) (by omega)]; exact b, by rw [hh _ (by omega) (by omega)]; exact c, by rw [hh _ (by omega) (by omega)]; exact d, by rw [hh _ (by omega) (by omega)]; exact e, by rw [hh _ (by omega) (by omega)]; exact f, by rw [hh _ (by omega) (by omega)]; exact i, ⟨k, by rw [hh _ (by omega) (by omega)]; exact k'⟩, ⟨l, by rw [hh _ (by omega) (by omega)]; exact l1, l2⟩, ⟨m, by rw [hh _ (by omega) (by omega)]; exact m'⟩, ⟨o, by rw [hh _ (by omega) (by omega)]; exact o'⟩, by rw [hh _ (by omega) (by omega)]; exact q, by rw [hh _ (by omega) (by omega)]; exact r⟩
theorem IX_h {h h' : ni_H} {im lf : Int32} {u v : Nat → Nat → Int32} {ran : Nat} {tr rf hl hd so : Nat → Int32} {sz : Nat → Nat} {ee : Nat → Nat → Int64} (H : fs_IX h im lf u v ran tr rf hl hd so sz ee) (hh : ∀ i, i < 49 → h' i = h i) : fs_IX h' im lf u v ran tr rf hl hd so sz ee := by
  obtain ⟨a, b, c, d, ⟨e, e'⟩, f, g, k, ⟨l, m, o, p⟩, q, r, s⟩ := H
  exact ⟨by rw [hh _ (by omega)]; exact a, by rw [hh _ (by omega)]; exact b, fs_tab_h (k := 0) c (fun i h1 h2 => hh i (by omega)), fs_tab_h (k := 0) d (fun i h1 h2 => hh i (by omega)), ⟨e, fs_tab_h (k := 0) e' (fun i h1 h2 => hh i (by omega))⟩, mind_h f (fun i h1 h2 => hh i (by omega)), by rw [hh _ (by omega)]; exact g, by rw [hh _ (by omega)]; exact k, ⟨l, m, o, by rw [hh _ (by omega)]; exact p⟩, by rw [hh _ (by omega)]; exact q, fun s hs => by rw [hh _ (by omega)]; exact r s hs, fun t ht => by rw [hh _ (by omega)]; exact s t ht⟩
/-- a call that only thinks, or refuses: the class's side -/
def fs_qx (h h' : ni_H) (rf : Nat → Int32) : Prop := (∀ i, (i < 23 ∨ 28 < i) → i ≠ 32 → h' i = h i) ∧ fs_mind h' ∧ h' 32 = ni_I 8 rf
def fs_qm (h h' : ni_H) (g rf : Nat → Int32) : Prop := (∀ i, i ≠ 49 → i ≠ 50 → h' i = h i) ∧ h' 50 = ni_I 8 rf ∧ ∃ g' : Nat → Int32, h' 49 = fs_mo g' ∧ ∀ i, i ≠ 27 → i ≠ 28 → i ≠ 29 → g' i = g i
theorem qx_0 {h : ni_H} {rf : Nat → Int32} (a : fs_mind h) (b : h 32 = ni_I 8 rf) : fs_qx h h rf := ⟨fun _ _ _ => rfl, a, b⟩
theorem qx_r {h : ni_H} {rf : Nat → Int32} (a : fs_mind h) : fs_qx h (ni_up h 32 (ni_I 8 rf)) rf := ⟨fun i _ q => up_n q, mind_h a (fun i h1 h2 => up_n (by omega)), up_s⟩
theorem qm_0 {h : ni_H} {g rf : Nat → Int32} (a : h 49 = fs_mo g) (b : h 50 = ni_I 8 rf) : fs_qm h h g rf := ⟨fun _ _ _ => rfl, b, g, a, fun _ _ _ _ => rfl⟩
theorem qm_r {h : ni_H} {g rf : Nat → Int32} (a : h 49 = fs_mo g) : fs_qm h (ni_up h 50 (ni_I 8 rf)) g rf := ⟨fun i _ q => up_n q, up_s, g, by rw [up_n (by decide)]; exact a, fun _ _ _ _ => rfl⟩
theorem qm_g {h : ni_H} {g g' rf : Nat → Int32} (b : h 50 = ni_I 8 rf) (hg : ∀ i, i ≠ 27 → i ≠ 28 → i ≠ 29 → g' i = g i) : fs_qm h (ni_up h 49 (fs_mo g')) g rf := ⟨fun i q _ => up_n q, by rw [up_n (by decide)]; exact b, g', up_s, hg⟩
/-- the end of such a call -/
theorem C_q {J n w : Nat} {z : ni_Z} {mx mm : Nat} {ax am : List Value} {h h1 h2 : ni_H} {r : Value} {im lf : Int32} {u v mu : Nat → Nat → Int32} {ran : Nat} {tr rf rf' hl hd so szf sh kp g : Nat → Int32} {sz : Nat → Nat} {ee : Nat → Nat → Int64} {ce : Nat → Int64} (hE : fs_IE h) (X : fs_IX h im lf u v ran tr rf hl hd so sz ee) (M : fs_IM h g mu tr rf hl so szf sh kp ce) (P : fs_IP J n w im lf u v mu ran g kp hl hd so szf sh sz ee ce) (e1 : ∀ (d : Nat) (Q : ni_Q), ni_T (d + 40) mx 0 ax [] z h Q = Q (some r) z h1) (q1 : fs_qx h h1 rf') (e2 : ∀ (d : Nat) (Q : ni_Q), ni_T (d + 40) mm 0 am [] z h1 Q = Q (some r) z h2) (q2 : fs_qm h1 h2 g rf') (hv : fs_vk mx r = true := by rfl) : fs_C J z mx mm ax am h := by
  obtain ⟨f1, md, r32⟩ := q1
  obtain ⟨f2, r50, g', hg, gk⟩ := q2
  have ff : ∀ i, (i < 23 ∨ 28 < i) → i ≠ 32 → i ≠ 49 → i ≠ 50 → h2 i = h i := fun i a b c d => by rw [f2 i c d, f1 i a b]
  refine ⟨r, h1, h2, e1, e2, hv, (fun i hi => ff i (by omega) (by omega) (by omega) (by omega)), IE_h hE (fun i hi => ff i (by omega) (by omega) (by omega) (by omega)), n, w, im, lf, u, v, mu, ran, tr, rf', hl, hd, so, szf, sh, kp, g', sz, ee, ce, ?_, ?_, ?_⟩
  · obtain ⟨a, b, c, d, ⟨e, e'⟩, f, k0, k, ⟨l, m, o, p⟩, q, r, s⟩ := X
    exact ⟨by rw [ff _ (by omega) (by omega) (by omega) (by omega)]; exact a, by rw [ff _ (by omega) (by omega) (by omega) (by omega)]; exact b, fs_tab_h (k := 0) c (fun i h1 h2 => ff i (by omega) (by omega) (by omega) (by omega)), fs_tab_h (k := 0) d (fun i h1 h2 => ff i (by omega) (by omega) (by omega) (by omega)), ⟨e, fs_tab_h (k := 0) e' (fun i h1 h2 => ff i (by omega) (by omega) (by omega) (by omega))⟩, mind_h md (fun i h1 h2 => f2 i (by omega) (by omega)), by rw [ff _ (by omega) (by omega) (by omega) (by omega)]; exact k0, by rw [ff _ (by omega) (by omega) (by omega) (by omega)]; exact k, ⟨l, m, o, by rw [ff _ (by omega) (by omega) (by omega) (by omega)]; exact p⟩, by rw [f2 _ (by omega) (by omega)]; exact r32, fun s hs => by rw [ff _ (by omega) (by omega) (by omega) (by omega)]; exact r s hs, fun t ht => by rw [ff _ (by omega) (by omega) (by omega) (by omega)]; exact s t ht⟩
  · obtain ⟨a, b, c, d, e, f, i, ⟨k, k'⟩, ⟨l, l1, l2⟩, ⟨m, m'⟩, ⟨o, o'⟩, q, r⟩ := M
    obtain ⟨a0, a1, a2, a3, a4, a5, a6, b0, b1, b2, b3⟩ := a
    refine ⟨⟨hg, by rw [ff _ (by omega) (by omega) (by omega) (by omega)]; exact a1, by rw [ff _ (by omega) (by omega) (by omega) (by omega)]; exact a2, by rw [ff _ (by omega) (by omega) (by omega) (by omega)]; exact a3, by rw [ff _ (by omega) (by omega) (by omega) (by omega)]; exact a4, by rw [ff _ (by omega) (by omega) (by omega) (by omega)]; exact a5, by rw [ff _ (by omega) (by omega) (by omega) (by omega)]; exact a6, (gk _ (by decide) (by decide) (by decide)).trans b0, (gk _ (by decide) (by decide) (by decide)).trans b1, (gk _ (by decide) (by decide) (by decide)).trans b2, (gk _ (by decide) (by decide) (by decide)).trans b3⟩, r50, by rw [ff _ (by omega) (by omega) (by omega) (by omega)]; exact c, by rw [ff _ (by omega) (by omega) (by omega) (by omega)]; exact d, by rw [ff _ (by omega) (by omega) (by omega) (by omega)]; exact e, by rw [ff _ (by omega) (by omega) (by omega) (by omega)]; exact f, by rw [ff _ (by omega) (by omega) (by omega) (by omega)]; exact i, ⟨k, by rw [ff _ (by omega) (by omega) (by omega) (by omega)]; exact k'⟩, ⟨l, by rw [ff _ (by omega) (by omega) (by omega) (by omega)]; exact l1, l2⟩, ⟨m, by rw [ff _ (by omega) (by omega) (by omega) (by omega)]; exact m'⟩, ⟨o, by rw [ff _ (by omega) (by omega) (by omega) (by omega)]; exact o'⟩, by rw [ff _ (by omega) (by omega) (by omega) (by omega)]; exact q, by rw [ff _ (by omega) (by omega) (by omega) (by omega)]; exact r⟩
  · obtain ⟨a, b, c, d, e, f⟩ := IP_J P (show J ≤ J + 100 by omega)
    exact ⟨a, b, (gk _ (by decide) (by decide) (by decide)).trans c, (gk _ (by decide) (by decide) (by decide)).trans d, (gk _ (by decide) (by decide) (by decide)).trans e, f⟩
theorem no_1 : fs_no (-1) := Or.inl rfl
theorem no_2 : fs_no (-2) := Or.inr (Or.inl rfl)
theorem no_3 : fs_no (-3) := Or.inr (Or.inr (Or.inl rfl))
theorem no_4 : fs_no (-4) := Or.inr (Or.inr (Or.inr (Or.inl rfl)))
theorem no_5 : fs_no (-5) := Or.inr (Or.inr (Or.inr (Or.inr (Or.inl rfl))))
theorem no_6 : fs_no (-6) := Or.inr (Or.inr (Or.inr (Or.inr (Or.inr (Or.inl rfl)))))
theorem no_7 : fs_no (-7) := Or.inr (Or.inr (Or.inr (Or.inr (Or.inr (Or.inr rfl)))))
theorem isHd_f {n : Nat} {x : Int32} (h : x < 0 ∨ nI n ≤ x) : fs_isHd (nI n) x = false := by
  rcases h with h | h <;> simp [fs_isHd, h]
theorem isHd_t {n k : Nat} (h : k < n) (hn : n ≤ 4) : fs_isHd (nI n) (nI k) = true := by
  have a : ¬ nI k < 0 := nI_pos (by omega)
  have b : ¬ nI n ≤ nI k := nI_ge h (by omega)
  simp [fs_isHd, a, b]
theorem isSh_f {x : Int32} (h : x < 0 ∨ (8 : Int32) ≤ x) : fs_isSh x = false := by
  rcases h with h | h <;> simp [fs_isSh, h]
theorem isSh_t {k : Nat} (h : k < 8) : fs_isSh (nI k) = true := by
  have a : ¬ nI k < 0 := nI_pos (by omega)
  have b : ¬ (8 : Int32) ≤ nI k := nI_ge (a := k) (b := 8) h (by omega)
  simp [fs_isSh, a, b]
theorem ix8 (x : Int32) : (x < 0 ∨ (8 : Int32) ≤ x) ∨ ∃ k, k < 8 ∧ x = nI k := by
  rcases pk_ix x (n := 8) (by decide) with h | h | h
  · exact Or.inl (Or.inl h)
  · exact Or.inl (Or.inr h)
  · exact Or.inr h
theorem ixn (x : Int32) {n : Nat} (hn : n ≤ 4) : (x < 0 ∨ nI n ≤ x) ∨ ∃ k, k < n ∧ x = nI k := by
  rcases pk_ix x (n := n) (by omega) with h | h | h
  · exact Or.inl (Or.inl h)
  · exact Or.inl (Or.inr h)
  · exact Or.inr h
