set_option maxRecDepth 100000
set_option maxHeartbeats 400000
/-! ===== the class's ways are the reference's ===== -/
theorem far_n : ∀ p, p < 36 → ∀ q, q < 36 → ∃ k, k < 11 ∧ fs_far (nI p) (nI q) = nI k := by
  have : ∀ p, p < 36 → ∀ q, q < 36 → fs_far (nI p) (nI q) = nI (fs_far (nI p) (nI q)).toNatClampNeg ∧ (fs_far (nI p) (nI q)).toNatClampNeg < 11 := by decide +kernel
  intro p hp q hq
  obtain ⟨a, b⟩ := this p hp q hq
  exact ⟨_, b, a⟩
theorem far_c : ∀ p, p < 36 → ∀ q, q < 36 → fs_far (nI p) (nI q) = fs_far (nI q) (nI p) := by decide +kernel
/-- a cell -/
def fs_ce (x : Int32) : Prop := ∃ p, p < 36 ∧ x = nI p
theorem ce_33 : fs_ce 33 := ⟨33, by decide, rfl⟩
theorem far_s {x y : Int32} (hx : fs_ce x) (hy : fs_ce y) : fs_far x y = fs_far y x := by
  obtain ⟨p, hp, rfl⟩ := hx
  obtain ⟨q, hq, rfl⟩ := hy
  exact far_c p hp q hq
theorem far_b {x y : Int32} (hx : fs_ce x) (hy : fs_ce y) : ∃ k, k < 11 ∧ fs_far x y = nI k := by
  obtain ⟨p, hp, rfl⟩ := hx
  obtain ⟨q, hq, rfl⟩ := hy
  exact far_n p hp q hq
theorem wm_congr {S : Nat} {v v' : Nat → Int32} : ∀ (m j : Nat) (b : Int32), (∀ i, j ≤ i → i < j + m → S.testBit i = true → v i = v' i) → fs_wm S v m j b = fs_wm S v' m j b := by
  intro m
  induction m with
  | zero => intro j b _; rfl
  | succ m ih =>
    intro j b h
    rw [fs_wm, fs_wm, ih (j + 1) _ (fun i h1 h2 h3 => h i (by omega) (by omega) h3)]
    cases q : S.testBit j
    · simp only [Bool.false_eq_true, if_false]
    · rw [h j (by omega) (by omega) q]
theorem pm_congr {S : Nat} {v v' : Nat → Int32} : ∀ (m j : Nat) (b : Int32), (∀ i, j ≤ i → i < j + m → S.testBit i = true → v i = v' i) → fs_pm S v m j b = fs_pm S v' m j b := by
  intro m
  induction m with
  | zero => intro j b _; rfl
  | succ m ih =>
    intro j b h
    rw [fs_pm, fs_pm, ih (j + 1) _ (fun i h1 h2 h3 => h i (by omega) (by omega) h3)]
    cases q : S.testBit j
    · simp only [Bool.false_eq_true, if_false]
    · rw [h j (by omega) (by omega) q]
theorem wm_pm {S : Nat} {v : Nat → Int32} : ∀ (m j : Nat) (b : Int32), fs_wm S v m j b = fs_pm S v m j b := by
  intro m
  induction m with
  | zero => intro j b; rfl
  | succ m ih =>
    intro j b
    rw [fs_wm, fs_pm, ih]
    congr 1
    by_cases q : S.testBit j = true
    · rw [if_pos q, if_pos q]
      unfold fs_min
      by_cases q2 : b ≤ v j
      · rw [if_pos q2, if_neg (Int32.not_lt.mpr q2)]
      · rw [if_neg q2, if_pos (Int32.not_le.mp q2)]
    · rw [if_neg q, if_neg q]
theorem wm_st {S : Nat} {v : Nat → Int32} : ∀ (m j : Nat), (∀ i, j ≤ i → i < j + m → S.testBit i = true → ∃ n, n < 100 ∧ v i = nI n) → (∃ i, j ≤ i ∧ i < j + m ∧ S.testBit i = true) → fs_wm S v m j 1000 = fs_pm S v m j 100 := by
  intro m
  induction m with
  | zero => rintro j _ ⟨i, h1, h2, _⟩; omega
  | succ m ih =>
    rintro j h ⟨i, h1, h2, h3⟩
    rw [fs_wm, fs_pm]
    by_cases q : S.testBit j = true
    · rw [if_pos q, if_pos q]
      obtain ⟨n, hn, e⟩ := h j (by omega) (by omega) q
      have a1 : ¬ (1000 : Int32) ≤ v j := by rw [e]; exact nI_ge (a := n) (b := 1000) (by omega) (by decide)
      have a2 : v j < 100 := by rw [e]; exact nI_lt (a := n) (b := 100) hn (by decide)
      rw [if_neg a1, fs_min, if_pos a2]
      exact wm_pm m (j + 1) (v j)
    · rw [if_neg q, if_neg q]
      refine ih (j + 1) (fun i a b c => h i (by omega) (by omega) c) ⟨i, ?_, by omega, h3⟩
      rcases Nat.eq_or_lt_of_le h1 with e | e
      · subst e; exact absurd h3 q
      · omega
theorem wm_b {S B : Nat} {v : Nat → Int32} (hB : B < 1000) : ∀ (m j n : Nat), n ≤ 1000 → (∀ i, j ≤ i → i < j + m → S.testBit i = true → ∃ k, k ≤ B ∧ v i = nI k) → ∃ r, fs_wm S v m j (nI n) = nI r ∧ r ≤ n ∧ ((∃ i, j ≤ i ∧ i < j + m ∧ S.testBit i = true) → r ≤ B) := by
  intro m
  induction m with
  | zero => intro j n hn _; exact ⟨n, rfl, Nat.le_refl _, fun ⟨i, h1, h2, _⟩ => by omega⟩
  | succ m ih =>
    intro j n hn h
    rw [fs_wm]
    by_cases q : S.testBit j = true
    · obtain ⟨k, hk, e⟩ := h j (by omega) (by omega) q
      rw [if_pos q, e]
      by_cases q2 : n ≤ k
      · rw [if_pos (nI_le q2 (by omega))]
        obtain ⟨r, r1, r2, r3⟩ := ih (j + 1) n hn (fun i a b c => h i (by omega) (by omega) c)
        exact ⟨r, r1, r2, fun _ => by omega⟩
      · rw [if_neg (nI_ge (by omega) (by omega))]
        obtain ⟨r, r1, r2, r3⟩ := ih (j + 1) k (by omega) (fun i a b c => h i (by omega) (by omega) c)
        exact ⟨r, r1, by omega, fun _ => by omega⟩
    · rw [if_neg q]
      obtain ⟨r, r1, r2, r3⟩ := ih (j + 1) n hn (fun i a b c => h i (by omega) (by omega) c)
      refine ⟨r, r1, r2, fun ⟨i, h1, h2, h3⟩ => r3 ⟨i, ?_, by omega, h3⟩⟩
      rcases Nat.eq_or_lt_of_le h1 with e | e
      · subst e; exact absurd h3 q
      · omega
theorem bt_ex : ∀ s, s < 32 → s ≠ 0 → ∃ i, 0 ≤ i ∧ i < 0 + 5 ∧ s.testBit i = true := by
  have : ∀ s, s < 32 → s ≠ 0 → (s.testBit 0 || (s.testBit 1 || (s.testBit 2 || (s.testBit 3 || s.testBit 4)))) = true := by decide +kernel
  intro s hs h0
  have := this s hs h0
  simp only [Bool.or_eq_true] at this
  rcases this with q | q | q | q | q
  · exact ⟨0, by omega, by omega, q⟩
  · exact ⟨1, by omega, by omega, q⟩
  · exact ⟨2, by omega, by omega, q⟩
  · exact ⟨3, by omega, by omega, q⟩
  · exact ⟨4, by omega, by omega, q⟩
/-- stones of a set lie -/
def fs_cs (c : Nat → Int32) (S : Nat) : Prop := ∀ j, j < 5 → S.testBit j = true → fs_ce (c j)
theorem bt_sub : ∀ s, s < 32 → ∀ j, j < 5 → ∀ i, i < 5 → (s &&& (31 - 2 ^ j)).testBit i = (s.testBit i && !decide (i = j)) := by decide +kernel
theorem cs_sub {c : Nat → Int32} {S j : Nat} (hS : S < 32) (hj : j < 5) (h : fs_cs c S) : fs_cs c (S &&& (31 - 2 ^ j)) := by
  intro i hi q
  rw [bt_sub S hS j hj i hi, Bool.and_eq_true] at q
  exact h i hi q.1
theorem wf_b {c : Nat → Int32} : ∀ (f : Nat), f ≤ 5 → ∀ (x : Int32) (S : Nat), S < 32 → fs_ce x → fs_cs c S → ∃ w, w ≤ 10 * (f + 1) ∧ fs_wf c f x S = nI w := by
  intro f
  induction f with
  | zero =>
    intro _ x S hS hx hc
    obtain ⟨k, hk, e⟩ := far_b hx ce_33
    exact ⟨k, by omega, e⟩
  | succ f ih =>
    intro hf x S hS hx hc
    rw [fs_wf]
    by_cases q : S = 0
    · rw [if_pos q]
      obtain ⟨k, hk, e⟩ := far_b hx ce_33
      exact ⟨k, by omega, e⟩
    · rw [if_neg q]
      obtain ⟨r, r1, r2, r3⟩ := wm_b (S := S) (B := 10 * (f + 1 + 1)) (v := fun j => fs_far x (c j) + fs_wf c f (c j) (S &&& (31 - 2 ^ j))) (by omega) 5 0 1000 (by omega) (by
        intro i _ hi hb
        obtain ⟨k, hk, e⟩ := far_b hx (hc i (by omega) hb)
        obtain ⟨w, hw, e2⟩ := ih (by omega) (c i) (S &&& (31 - 2 ^ i)) (by have := (bt_6 S hS i (by omega) hb).2; omega) (hc i (by omega) hb) (cs_sub hS (by omega) hc)
        refine ⟨k + w, by omega, ?_⟩
        try simp only
        rw [e, e2, nI_add])
      exact ⟨r, r3 (bt_ex S hS q), r1⟩
theorem wf_0 {c : Nat → Int32} (f : Nat) (x : Int32) : fs_wf c f x 0 = fs_far x 33 := by
  cases f with
  | zero => rw [fs_wf]
  | succ f => rw [fs_wf, if_pos rfl]
theorem wf_f {c : Nat → Int32} : ∀ (f : Nat) (x : Int32) (S : Nat), S < 32 → fs_pc S ≤ f → fs_wf c (f + 1) x S = fs_wf c f x S := by
  intro f
  induction f with
  | zero =>
    intro x S hS hp
    obtain rfl : S = 0 := bt_7 S hS (by omega)
    rw [wf_0, wf_0]
  | succ f ih =>
    intro x S hS hp
    by_cases q : S = 0
    · subst q; rw [wf_0, wf_0]
    · have e1 : fs_wf c (f + 1 + 1) x S = fs_wm S (fun j => fs_far x (c j) + fs_wf c (f + 1) (c j) (S &&& (31 - 2 ^ j))) 5 0 1000 := by rw [fs_wf, if_neg q]
      have e2 : fs_wf c (f + 1) x S = fs_wm S (fun j => fs_far x (c j) + fs_wf c f (c j) (S &&& (31 - 2 ^ j))) 5 0 1000 := by rw [fs_wf, if_neg q]
      rw [e1, e2]
      refine wm_congr 5 0 1000 (fun i _ hi hb => ?_)
      have h6 := bt_6 S hS i (by omega) hb
      try simp only
      rw [ih (c i) _ (by omega) (by omega)]
theorem wf_rec {c : Nat → Int32} {x : Int32} {S : Nat} (hS : S < 32) (q : S ≠ 0) : fs_wf c 5 x S = fs_wm S (fun j => fs_far x (c j) + fs_wf c 5 (c j) (S &&& (31 - 2 ^ j))) 5 0 1000 := by
  have e1 : fs_wf c 5 x S = fs_wm S (fun j => fs_far x (c j) + fs_wf c 4 (c j) (S &&& (31 - 2 ^ j))) 5 0 1000 := by rw [fs_wf, if_neg q]
  rw [e1]
  refine wm_congr 5 0 1000 (fun i _ hi hb => ?_)
  have h6 := bt_6 S hS i (by omega) hb
  have h5 := bt_pc5 S hS
  try simp only
  rw [wf_f 4 (c i) _ (by omega) (by omega)]
/-- the row of paths is good for the sets below -/
def fs_gp (c pa : Nat → Int32) (T : Nat) : Prop := ∀ l, l < 5 → T.testBit l = true → pa (T * 5 + l) = fs_wf c 5 (c l) (T &&& (31 - 2 ^ l))
theorem pt_W {c pa : Nat → Int32} {S l : Nat} (hS : S < 32) (hl : l < 5) (hb : S.testBit l = true) (hc : fs_cs c S) (hg : S &&& (31 - 2 ^ l) ≠ 0 → fs_gp c pa (S &&& (31 - 2 ^ l))) : fs_pt pa c S l = fs_wf c 5 (c l) (S &&& (31 - 2 ^ l)) := by
  have cl := hc l hl hb
  have h6 := bt_6 S hS l hl hb
  unfold fs_pt
  by_cases q : S &&& (31 - 2 ^ l) = 0
  · rw [if_pos q, q, far_s ce_33 cl, wf_0]
  · rw [if_neg q, wf_rec (by omega) q, wm_st 5 0 ?_ (bt_ex _ (by omega) q)]
    · refine pm_congr 5 0 _ (fun i _ hi hb2 => ?_)
      have ci := (cs_sub hS hl hc) i (by omega) hb2
      try simp only
      rw [hg q i (by omega) hb2, far_s ci cl, Int32.add_comm]
    · intro i _ hi hb2
      have ci := (cs_sub hS hl hc) i (by omega) hb2
      obtain ⟨k, hk, e⟩ := far_b cl ci
      obtain ⟨w, hw, e2⟩ := wf_b 5 (by omega) (c i) (S &&& (31 - 2 ^ l) &&& (31 - 2 ^ i)) (by have := (bt_6 (S &&& (31 - 2 ^ l)) (by omega) i (by omega) hb2).2; omega) ci (cs_sub (by omega) (by omega) (cs_sub hS hl hc))
      refine ⟨k + w, by omega, ?_⟩
      try simp only
      rw [e, e2, nI_add]
theorem wt_W {c : Nat → Int32} {S : Nat} (hS : S < 32) (hc : fs_cs c S) : ∀ (m l : Nat) (b : Int32) (pa : Nat → Int32), l + m = 5 → (∀ i, i < 5 → S.testBit i = true → S &&& (31 - 2 ^ i) ≠ 0 → fs_gp c pa (S &&& (31 - 2 ^ i))) → (fs_wt c S m l b pa).1 = fs_pm S (fun l => fs_wf c 5 (c l) (S &&& (31 - 2 ^ l)) + fs_far (c l) 33) m l b ∧ (∀ T i, i < 5 → T ≠ S → (fs_wt c S m l b pa).2 (T * 5 + i) = pa (T * 5 + i)) ∧ (∀ i, i < l → (fs_wt c S m l b pa).2 (S * 5 + i) = pa (S * 5 + i)) ∧ (∀ i, l ≤ i → i < 5 → S.testBit i = true → (fs_wt c S m l b pa).2 (S * 5 + i) = fs_wf c 5 (c i) (S &&& (31 - 2 ^ i))) := by
  intro m
  induction m with
  | zero =>
    intro l b pa e hg
    exact ⟨rfl, fun _ _ _ _ => rfl, fun _ _ => rfl, fun i h1 h2 _ => by omega⟩
  | succ m ih =>
    intro l b pa e hg
    rw [fs_wt, fs_pm]
    by_cases q : S.testBit l = true
    · have hp := pt_W hS (show l < 5 by omega) q hc (hg l (by omega) q)
      rw [if_pos q, if_pos q, hp]
      obtain ⟨a1, a2, a3, a4⟩ := ih (l + 1) (fs_min b (fs_wf c 5 (c l) (S &&& (31 - 2 ^ l)) + fs_far (c l) 33)) (upd pa (S * 5 + l) (fs_wf c 5 (c l) (S &&& (31 - 2 ^ l)))) (by omega) (by
        intro i hi hb h0 k hk hb2
        have := (bt_6 S hS i hi hb).2
        rw [ud_n (by omega)]
        exact hg i hi hb h0 k hk hb2)
      refine ⟨a1, fun T i hi hT => ?_, fun i hi => ?_, fun i h1 h2 hb => ?_⟩
      · rw [a2 T i hi hT, ud_n (by omega)]
      · rw [a3 i (by omega), ud_n (by omega)]
      · rcases Nat.eq_or_lt_of_le h1 with e2 | e2
        · subst e2
          rw [a3 l (by omega), ud_s]
        · exact a4 i (by omega) h2 hb
    · rw [if_neg q, if_neg q]
      obtain ⟨a1, a2, a3, a4⟩ := ih (l + 1) b pa (by omega) hg
      refine ⟨a1, a2, fun i hi => a3 i (by omega), fun i h1 h2 hb => ?_⟩
      rcases Nat.eq_or_lt_of_le h1 with e2 | e2
      · subst e2; exact absurd hb q
      · exact a4 i (by omega) h2 hb
theorem sub_t : ∀ s, s < 32 → ∀ t, t < 32 → fs_sub (nI t) (nI s) = true → t ≤ s ∧ ∀ i, i < 5 → t.testBit i = true → s.testBit i = true := by decide +kernel
theorem sub_r : ∀ s, s < 32 → ∀ t, t < 32 → fs_sub (nI t) (nI s) = true → ∀ i, i < 5 → fs_sub (nI (t &&& (31 - 2 ^ i))) (nI s) = true := by decide +kernel
theorem lk_W {c : Nat → Int32} {L : Nat} (hL : L < 32) (hc : fs_cs c L) : ∀ (m j : Nat) (wy pa : Nat → Int32), 1 ≤ j → j + m = 32 → (∀ T, T < j → fs_sub (nI T) (nI L) = true → wy T = fs_wf c 5 33 T) → (∀ T, T < j → T ≠ 0 → fs_sub (nI T) (nI L) = true → fs_gp c pa T) → ∀ T, T < 32 → fs_sub (nI T) (nI L) = true → (fs_lk c L m j wy pa).1 T = fs_wf c 5 33 T := by
  intro m
  induction m with
  | zero =>
    intro j wy pa j1 e h1 h2 T hT hs
    exact h1 T (by omega) hs
  | succ m ih =>
    intro j wy pa j1 e h1 h2 T hT hs
    rw [fs_lk]
    by_cases q : nI L < nI j
    · rw [if_pos q]
      have := (nI_ltI (by omega) (by omega)).mp q
      have := (sub_t L hL T hT hs).1
      exact h1 T (by omega) hs
    · rw [if_neg q]
      by_cases q2 : fs_sub (nI j) (nI L) = true
      · rw [if_pos q2]
        have hj : j < 32 := by omega
        have cj : fs_cs c j := fun i hi hb => hc i hi ((sub_t L hL j hj q2).2 i hi hb)
        obtain ⟨a1, a2, a3, a4⟩ := wt_W hj cj 5 0 100 pa rfl (by
          intro i hi hb h0
          have := (bt_6 j hj i hi hb).2
          exact h2 _ (by omega) h0 (sub_r L hL j hj q2 i hi))
        refine ih (j + 1) _ _ (by omega) (by omega) (fun T hT hs => ?_) (fun T hT h0 hs l hl hb => ?_) T hT hs
        · by_cases e2 : T = j
          · subst e2
            rw [ud_s, a1]
            have t0 : T ≠ 0 := by omega
            · rw [wf_rec hj t0, wm_st 5 0 ?_ (bt_ex T hj t0)]
              · refine pm_congr 5 0 _ (fun i _ hi hb => ?_)
                try simp only
                rw [far_s (cj i (by omega) hb) ce_33, Int32.add_comm]
              · intro i _ hi hb
                obtain ⟨k, hk, e⟩ := far_b ce_33 (cj i (by omega) hb)
                obtain ⟨w, hw, e2⟩ := wf_b 5 (by omega) (c i) (T &&& (31 - 2 ^ i)) (by have := (bt_6 T hj i (by omega) hb).2; omega) (cj i (by omega) hb) (cs_sub hj (by omega) cj)
                refine ⟨k + w, by omega, ?_⟩
                try simp only
                rw [e, e2, nI_add]
          · rw [ud_n e2]
            exact h1 T (by omega) hs
        · by_cases e2 : T = j
          · subst e2
            exact a4 l (by omega) hl hb
          · rw [a2 T l hl e2]
            exact h2 T (by omega) h0 hs l hl hb
      · rw [if_neg q2]
        refine ih (j + 1) wy pa (by omega) (by omega) (fun T hT hs => ?_) (fun T hT h0 hs => ?_) T hT hs
        · by_cases e2 : T = j
          · subst e2; exact absurd hs q2
          · exact h1 T (by omega) hs
        · by_cases e2 : T = j
          · subst e2; exact absurd hs q2
          · exact h2 T (by omega) h0 hs
/-- look: the row of ways -/
theorem look_W {c wy pa : Nat → Int32} {L : Nat} (hL : L < 32) (hc : fs_cs c L) : ∀ T, T < 32 → fs_sub (nI T) (nI L) = true → (fs_lk c L 31 1 (upd wy 0 0) pa).1 T = fs_way c T := by
  refine lk_W hL hc 31 1 _ _ (by decide) rfl (fun T hT _ => ?_) (fun T hT h0 => by omega)
  obtain rfl : T = 0 := by omega
  rw [ud_s]
  rw [wf_0]
  decide
