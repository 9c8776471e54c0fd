set_option maxRecDepth 100000
set_option maxHeartbeats 1000000
/-! ===== the class's odds are the reference's ===== -/
theorem b5_or : ∀ a, a < 32 → ∀ b, b < 32 → nI a ||| nI b = nI (a ||| b) := by decide +kernel
theorem b5_or_lt : ∀ a, a < 32 → ∀ b, b < 32 → a ||| b < 32 := by decide +kernel
theorem b5_and : ∀ a, a < 32 → ∀ b, b < 32 → nI a &&& nI b = nI (a &&& b) := by decide +kernel
theorem b5_and_lt : ∀ a, a < 32 → ∀ b, b < 32 → a &&& b < 32 := by decide +kernel
theorem b5_sh : ∀ j, j < 5 → (1 : Int32) <<< (nI j &&& 31) = nI (2 ^ j) ∧ 2 ^ j < 32 := by decide +kernel
theorem b5_tb : ∀ j, j < 5 → ∀ i, i < 5 → (2 ^ j).testBit i = decide (i = j) := by decide +kernel
theorem b5_not : ∀ s, s < 32 → ∀ i, i < 5 → (31 - s).testBit i = !s.testBit i := by decide +kernel
/-- the row of nears: stone k -/
theorem nr1_m {c : Nat → Int32} {k : Nat} (hk : k < 5) : ∀ (m j : Nat) (ne : Nat → Int32) (x : Nat), j + m = 5 → x < 32 → ne k = nI x → ∃ y, y < 32 ∧ fs_nr1 c k m j ne k = nI y ∧ (∀ i, i < 5 → y.testBit i = (x.testBit i || (decide (j ≤ i) && (!decide (i = k) && fs_near c k i)))) ∧ ∀ q, q ≠ k → fs_nr1 c k m j ne q = ne q := by
  intro m
  induction m with
  | zero =>
    intro j ne x e hx hn
    refine ⟨x, hx, hn, fun i hi => ?_, fun _ _ => rfl⟩
    rw [decide_eq_false (show ¬ j ≤ i by omega), Bool.false_and, Bool.or_false]
  | succ m ih =>
    intro j ne x e hx hn
    have hs := b5_sh j (by omega)
    rw [fs_nr1]
    by_cases q : nI j = nI k
    · have q' : j = k := (nI_eq (by omega) (by omega)).mp q
      rw [if_pos q]
      obtain ⟨y, y1, y2, y3, y4⟩ := ih (j + 1) ne x (by omega) hx hn
      refine ⟨y, y1, y2, fun i hi => ?_, y4⟩
      rw [y3 i hi]
      by_cases e2 : i = j
      · rw [decide_eq_false (show ¬ j + 1 ≤ i by omega), decide_eq_true (show i = k by omega)]
        simp
      · congr 2
        exact decide_eq_decide.mpr (by omega)
    · have q' : j ≠ k := fun e => q (by rw [e])
      rw [if_neg q]
      cases q2 : fs_near c k j
      · simp only [Bool.false_eq_true, if_false]
        obtain ⟨y, y1, y2, y3, y4⟩ := ih (j + 1) ne x (by omega) hx hn
        refine ⟨y, y1, y2, fun i hi => ?_, y4⟩
        rw [y3 i hi]
        by_cases e2 : i = j
        · rw [e2, q2, decide_eq_false (show ¬ j + 1 ≤ j by omega)]
          simp
        · congr 2
          exact decide_eq_decide.mpr (by omega)
      · simp only [if_true]
        obtain ⟨y, y1, y2, y3, y4⟩ := ih (j + 1) (upd ne k (ne k ||| (1 <<< (nI j &&& 31)))) (x ||| 2 ^ j) (by omega) (b5_or_lt x hx _ hs.2) (by rw [ud_s, hn, hs.1, b5_or x hx _ hs.2])
        refine ⟨y, y1, y2, fun i hi => ?_, fun q hq => by rw [y4 q hq, ud_n hq]⟩
        rw [y3 i hi, Nat.testBit_or, b5_tb j (by omega) i hi]
        by_cases e2 : i = j
        · rw [e2, q2, decide_eq_false (show ¬ j + 1 ≤ j by omega), decide_eq_true (show j ≤ j by omega), decide_eq_false q']
          simp
        · rw [decide_eq_false e2, Bool.or_false]
          congr 2
          exact decide_eq_decide.mpr (by omega)
theorem nr_m {c : Nat → Int32} : ∀ (m k : Nat) (ne : Nat → Int32), k + m = 5 → (∀ q, q < k → fs_nr c m k ne q = ne q) ∧ ∀ q, k ≤ q → q < 5 → ∃ y, y < 32 ∧ fs_nr c m k ne q = nI y ∧ ∀ i, i < 5 → y.testBit i = (!decide (i = q) && fs_near c q i) := by
  intro m
  induction m with
  | zero => intro k ne e; exact ⟨fun _ _ => rfl, fun q h1 h2 => by omega⟩
  | succ m ih =>
    intro k ne e
    rw [fs_nr]
    obtain ⟨y, y1, y2, y3, y4⟩ := nr1_m (c := c) (k := k) (by omega) 5 0 (upd ne k 0) 0 rfl (by decide) (by rw [ud_s, nI_0])
    obtain ⟨a1, a2⟩ := ih (k + 1) (fs_nr1 c k 5 0 (upd ne k 0)) (by omega)
    refine ⟨fun q hq => by rw [a1 q (by omega), y4 q (by omega), ud_n (by omega)], fun q h1 h2 => ?_⟩
    by_cases e2 : q = k
    · subst e2
      refine ⟨y, y1, by rw [a1 q (by omega)]; exact y2, fun i hi => ?_⟩
      rw [y3 i hi, Nat.zero_testBit, Bool.false_or, decide_eq_true (Nat.zero_le i), Bool.true_and]
    · exact a2 q (by omega) h2
/-- those whom the stones of S touch, of m stones from j on -/
theorem tb_m {c ne : Nat → Int32} {S : Nat} (hne : ∀ q, q < 5 → ∃ y, y < 32 ∧ ne q = nI y ∧ ∀ i, i < 5 → y.testBit i = (!decide (i = q) && fs_near c q i)) : ∀ (m j x : Nat), j + m = 5 → x < 32 → ∃ y, y < 32 ∧ fs_tb ne S m j (nI x) = nI y ∧ ∀ i, i < 5 → (y.testBit i = true ↔ (x.testBit i = true ∨ ∃ t, j ≤ t ∧ t < 5 ∧ S.testBit t = true ∧ i ≠ t ∧ fs_near c t i = true)) := by
  intro m
  induction m with
  | zero => intro j x e hx; exact ⟨x, hx, rfl, fun i hi => ⟨Or.inl, fun h => h.elim id (fun ⟨t, h1, h2, _⟩ => by omega)⟩⟩
  | succ m ih =>
    intro j x e hx
    rw [fs_tb]
    by_cases q : S.testBit j = true
    · rw [if_pos q]
      obtain ⟨y, y1, y2, y3⟩ := hne j (by omega)
      rw [y2, b5_or x hx y y1]
      obtain ⟨w, w1, w2, w3⟩ := ih (j + 1) (x ||| y) (by omega) (b5_or_lt x hx y y1)
      refine ⟨w, w1, w2, fun i hi => ?_⟩
      rw [w3 i hi, Nat.testBit_or, Bool.or_eq_true, y3 i hi, Bool.and_eq_true]
      constructor
      · rintro ((h | ⟨h1, h2⟩) | ⟨t, h1, h2, h3⟩)
        · exact Or.inl h
        · exact Or.inr ⟨j, by omega, by omega, q, by simpa using h1, h2⟩
        · exact Or.inr ⟨t, by omega, h2, h3⟩
      · rintro (h | ⟨t, h1, h2, h3, h4, h5⟩)
        · exact Or.inl (Or.inl h)
        · rcases Nat.eq_or_lt_of_le h1 with e2 | e2
          · subst e2; exact Or.inl (Or.inr ⟨by simpa using h4, h5⟩)
          · exact Or.inr ⟨t, by omega, h2, h3, h4, h5⟩
    · rw [if_neg q]
      obtain ⟨w, w1, w2, w3⟩ := ih (j + 1) x (by omega) hx
      refine ⟨w, w1, w2, fun i hi => ?_⟩
      rw [w3 i hi]
      constructor
      · rintro (h | ⟨t, h1, h2, h3⟩)
        · exact Or.inl h
        · exact Or.inr ⟨t, by omega, h2, h3⟩
      · rintro (h | ⟨t, h1, h2, h3, h4⟩)
        · exact Or.inl h
        · rcases Nat.eq_or_lt_of_le h1 with e2 | e2
          · subst e2; exact absurd h3 q
          · exact Or.inr ⟨t, by omega, h2, h3, h4⟩
theorem an_m {c : Nat → Int32} {k S : Nat} : ∀ (m j : Nat) (b : Bool), j + m = 5 → (fs_an c k S m j b = true ↔ (b = true ∨ ∃ t, j ≤ t ∧ t < 5 ∧ S.testBit t = true ∧ fs_far (c k) (c t) = 1)) := by
  intro m
  induction m with
  | zero => intro j b e; exact ⟨Or.inl, fun h => h.elim id (fun ⟨t, h1, h2, _⟩ => by omega)⟩
  | succ m ih =>
    intro j b e
    rw [fs_an, ih (j + 1) _ (by omega), Bool.or_eq_true, Bool.and_eq_true, decide_eq_true_iff]
    constructor
    · rintro ((h | ⟨h1, h2⟩) | ⟨t, h1, h2, h3⟩)
      · exact Or.inl h
      · exact Or.inr ⟨j, by omega, by omega, h1, h2⟩
      · exact Or.inr ⟨t, by omega, h2, h3⟩
    · rintro (h | ⟨t, h1, h2, h3, h4⟩)
      · exact Or.inl (Or.inl h)
      · rcases Nat.eq_or_lt_of_le h1 with e2 | e2
        · subst e2; exact Or.inl (Or.inr ⟨h3, h4⟩)
        · exact Or.inr ⟨t, by omega, h2, h3, h4⟩
theorem six (v : Int32) : ∀ n, n < 6 → v + (-6) - 6 * nI n = v - 6 * nI (n + 1) := by
  intro n hn
  have e : (-6 : Int32) - 6 * nI n = -(6 * nI (n + 1)) := by
    have : ∀ n, n < 6 → (-6 : Int32) - 6 * nI n = -(6 * nI (n + 1)) := by decide +kernel
    exact this n hn
  rw [Int32.sub_eq_add_neg, Int32.add_assoc, ← Int32.sub_eq_add_neg, e, ← Int32.sub_eq_add_neg]
/-- how many of m bits from j on -/
def fs_pj (x : Nat) : Nat → Nat → Nat
  | 0, _ => 0
  | m + 1, j => (x.testBit j).toNat + fs_pj x m (j + 1)
theorem pj_5 : ∀ x, x < 32 → fs_pj x 5 0 = fs_pc x := by decide +kernel
theorem pj_le (x : Nat) : ∀ (m j : Nat), fs_pj x m j ≤ m := by
  intro m
  induction m with
  | zero => intro j; exact Nat.le_refl _
  | succ m ih =>
    intro j
    have := ih (j + 1)
    rw [fs_pj]
    cases x.testBit j <;> simp <;> omega
theorem tc_m {c : Nat → Int32} {F S x : Nat} (hx : ∀ j, j < 5 → (F.testBit j && (!S.testBit j && fs_an c j S 5 0 false)) = x.testBit j) : ∀ (m j : Nat) (v : Int32), j + m = 5 → fs_tc c F S m j v = v - 6 * nI (fs_pj x m j) := by
  intro m
  induction m with
  | zero => intro j v e; rw [fs_tc, fs_pj, nI_0, Int32.mul_zero, Int32.sub_zero]
  | succ m ih =>
    intro j v e
    rw [fs_tc, hx j (by omega), ih (j + 1) _ (by omega), fs_pj]
    have := pj_le x m (j + 1)
    cases q : x.testBit j
    · simp
    · simp only [if_true, Bool.toNat_true]
      rw [six v _ (by omega), Nat.add_comm]
/-- the odds by the rows that look has laid -/
theorem oc_odds {c wy ne : Nat → Int32} {k a n ht : Int32} {F S : Nat} (hF : F < 32) (hS : S < 32) (hc : fs_cs c F) (hm : ∀ j, j < 5 → F.testBit j = true → ¬ c j = -1) (hs : fs_sub (nI S) (nI F) = true) (hw : wy S = fs_way c S) (hne : ∀ q, q < 5 → ∃ y, y < 32 ∧ ne q = nI y ∧ ∀ i, i < 5 → y.testBit i = (!decide (i = q) && fs_near c q i)) : fs_oc wy ne k a n S (nI F) ht = fs_odds c k a n F S ht := by
  have hsub := (sub_t F hF S hS hs).2
  obtain ⟨X, X1, X2, X3⟩ := tb_m (S := S) hne 5 0 0 rfl (by decide)
  rw [nI_0] at X2
  have h31 : 31 - S < 32 := by omega
  have e1 : nI S ^^^ (-1) = nI S ^^^ (-1) := rfl
  have t2 : fs_tv2 ne S (nI F) = nI (X &&& F &&& (31 - S)) := by
    unfold fs_tv2
    rw [X2, b5_and X X1 F hF, bt_3 _ (b5_and_lt X X1 F hF) S hS]
  have hY : X &&& F &&& (31 - S) < 32 := b5_and_lt _ (b5_and_lt X X1 F hF) _ h31
  have hY5 := bt_pc5 _ hY
  have bits : ∀ j, j < 5 → (F.testBit j && (!S.testBit j && fs_an c j S 5 0 false)) = (X &&& F &&& (31 - S)).testBit j := by
    intro j hj
    rw [Nat.testBit_and, Nat.testBit_and, b5_not S hS j hj]
    cases f : F.testBit j
    · simp
    · cases s : S.testBit j
      · simp only [Bool.true_and, Bool.not_false, Bool.and_true]
        rw [Bool.eq_iff_iff, an_m 5 0 false rfl, X3 j hj]
        simp only [Bool.false_eq_true, false_or, Nat.zero_testBit]
        constructor
        · rintro ⟨t, h1, h2, h3, h4⟩
          have ft := hsub t h2 h3
          refine ⟨t, h1, h2, h3, fun e => ?_, ?_⟩
          · rw [e, h3] at s; cases s
          · unfold fs_near
            rw [far_s (hc t h2 ft) (hc j hj f), decide_eq_false (hm t h2 ft), decide_eq_false (hm j hj f), decide_eq_true h4]
            rfl
        · rintro ⟨t, h1, h2, h3, h4, h5⟩
          have ft := hsub t h2 h3
          refine ⟨t, h1, h2, h3, ?_⟩
          unfold fs_near at h5
          simp only [Bool.and_eq_true, decide_eq_true_iff] at h5
          rw [far_s (hc j hj f) (hc t h2 ft)]
          exact h5.2.2
      · simp
  have tc := fun v => tc_m (c := c) (F := F) (S := S) bits 5 0 v rfl
  unfold fs_oc fs_odds
  rw [hw, t2, bc_5 _ hY, tc, pj_5 _ hY]
  generalize 100 - fs_slip k n * ht - 6 * nI (fs_pc (X &&& F &&& (31 - S))) = y
  congr 3
  by_cases q : 0 < y
  · rw [if_pos q, if_pos (Int32.le_of_lt q)]
  · rw [if_neg q]
    by_cases q2 : 0 ≤ y
    · rw [if_pos q2]
      exact (Int32.le_antisymm (Int32.not_lt.mp q) q2).symm
    · rw [if_neg q2]
