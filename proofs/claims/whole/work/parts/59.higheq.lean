set_option maxRecDepth 100000
set_option maxHeartbeats 1000000
/-! ===== the class's best heights are the reference's ===== -/
theorem tc_ex {c : Nat → Int32} {F S : Nat} : ∀ (m j : Nat), m ≤ 5 → ∃ t, t ≤ m ∧ ∀ v, fs_tc c F S m j v = v - 6 * nI t := by
  intro m
  induction m with
  | zero => intro j _; exact ⟨0, Nat.le_refl _, fun v => by rw [fs_tc, nI_0, Int32.mul_zero, Int32.sub_zero]⟩
  | succ m ih =>
    intro j hm
    obtain ⟨t, ht, h⟩ := ih (j + 1) (by omega)
    by_cases q : (F.testBit j && (!S.testBit j && fs_an c j S 5 0 false)) = true
    · exact ⟨t + 1, by omega, fun v => by rw [fs_tc, if_pos q, h, six v t (by omega)]⟩
    · exact ⟨t, by omega, fun v => by rw [fs_tc, if_neg q, h]⟩
theorem sub_ss (a b c : Int32) : a - b - c = a - (b + c) := by
  rw [Int32.sub_eq_add_neg, Int32.sub_eq_add_neg, Int32.sub_eq_add_neg, Int32.neg_add, Int32.add_assoc, Int32.sub_eq_add_neg]
/-- a slip that may be -/
def fs_sl (x : Int32) : Prop := ∃ s, 1 ≤ s ∧ s ≤ 1000000 ∧ x = nI s
theorem slip_ok {k n : Int32} {t : Nat} (hk : fs_kd k) (hn : n = nI t) (ht : t ≤ 1000000) : fs_sl (fs_slip k n) := by
  unfold fs_slip
  have e : n / 10 = nI (t / 10) := by rw [hn]; exact pk_div (d := 10) (by omega) (by decide) (by decide)
  by_cases q3 : k = 3
  · rw [if_pos q3]; exact ⟨2, by decide, by decide, rfl⟩
  · rw [if_neg q3]
    by_cases q4 : k = 4 ∨ k = 6
    · rw [if_pos q4, e, show (3 : Int32) = nI 3 from rfl, nI_add]
      exact ⟨3 + t / 10, by omega, by omega, rfl⟩
    · rw [if_neg q4]
      by_cases q5 : k = 5
      · rw [if_pos q5]; exact ⟨5, by decide, by decide, rfl⟩
      · rw [if_neg q5]; exact ⟨3, by decide, by decide, rfl⟩
/-- the odds at a height, once they can be -/
theorem od_form {c : Nat → Int32} {k a n : Int32} {F S : Nat} (hs : fs_sl (fs_slip k n)) : ∃ B : Nat → Nat, (∀ i j, i ≤ j → j ≤ 9 → B i ≤ B j) ∧ (∀ i, i ≤ 9 → B i < 2 ^ 29) ∧ ∀ h, h ≤ 9 → fs_odds c k a n F S (nI h) = 0 ∨ (B h ≤ 100 ∧ fs_odds c k a n F S (nI h) = nI (100 - B h)) := by
  obtain ⟨s, s1, s2, es⟩ := hs
  obtain ⟨t, ht, h⟩ := tc_ex (c := c) (F := F) (S := S) 5 0 (by decide)
  refine ⟨fun i => s * i + 6 * t, fun i j h1 _ => ?_, fun i hi => ?_, fun x hx => ?_⟩
  · have := Nat.mul_le_mul_left s h1; simp only; omega
  · have : s * i ≤ 1000000 * 9 := Nat.mul_le_mul s2 hi
    simp only; omega
  · unfold fs_odds
    by_cases q1 : S = 0
    · rw [if_pos q1]; exact Or.inl rfl
    · rw [if_neg q1]
      by_cases q2 : fs_time k a (nI x) < fs_way c S
      · rw [if_pos q2]; exact Or.inl rfl
      · rw [if_neg q2]
        by_cases q3 : nI (fs_pc S) ≤ fs_most k a
        · rw [if_pos q3, h, es, pk_mul, show (6 : Int32) = nI 6 from rfl, pk_mul, sub_ss, nI_add]
          have hb : s * x ≤ 1000000 * 9 := Nat.mul_le_mul s2 hx
          have e0 : (100 : Int32) - nI (s * x + 6 * t) = nI 100 - nI (s * x + 6 * t) := rfl
          rw [e0]
          by_cases q4 : s * x + 6 * t ≤ 100
          · rw [pk_sub q4, if_pos (nI_pos' (by omega))]
            exact Or.inr ⟨q4, rfl⟩
          · have := pk_sneg (a := 100) (b := s * x + 6 * t) (by omega) (by omega)
            rw [if_neg (Int32.not_le.mpr this)]
            exact Or.inl rfl
        · rw [if_neg q3]; exact Or.inl rfl
theorem od_b {c : Nat → Int32} {k a n : Int32} {F S h : Nat} (hs : fs_sl (fs_slip k n)) (hh : h ≤ 9) : ∃ o, o ≤ 100 ∧ fs_odds c k a n F S (nI h) = nI o := by
  obtain ⟨B, _, _, b3⟩ := od_form (c := c) (k := k) (a := a) (n := n) (F := F) (S := S) hs
  rcases b3 h hh with e | ⟨_, e⟩
  · exact ⟨0, by decide, by rw [e]; rfl⟩
  · exact ⟨100 - B h, by omega, e⟩
theorem od_mono {c : Nat → Int32} {k a n : Int32} {F S i j : Nat} (hs : fs_sl (fs_slip k n)) (h1 : i ≤ j) (h2 : j ≤ 9) (hp : 0 < fs_odds c k a n F S (nI i)) : fs_odds c k a n F S (nI j) ≤ fs_odds c k a n F S (nI i) := by
  obtain ⟨B, b1, b2, b3⟩ := od_form (c := c) (k := k) (a := a) (n := n) (F := F) (S := S) hs
  rcases b3 i (by omega) with e | ⟨l, e⟩
  · rw [e] at hp; exact absurd hp (by decide)
  · rcases b3 j h2 with e2 | ⟨l2, e2⟩
    · rw [e2]; exact Int32.le_of_lt hp
    · rw [e, e2]
      have := b1 i j h1 h2
      exact nI_le (by omega) (by omega)
section
variable {o : Int32 → Int32}
theorem hi_A (hm : ∀ i j, 1 ≤ i → i ≤ j → j ≤ 9 → 0 < o (nI i) → o (nI j) ≤ o (nI i)) : ∀ (m j i : Nat), j + m = 10 → i < j → 1 ≤ i → 0 < o (nI i) → fs_hi o m j (nI i) = nI i := by
  intro m
  induction m with
  | zero => intro j i _ _ _ _; rfl
  | succ m ih =>
    intro j i e h1 h2 h3
    rw [fs_hi, if_pos (hm i j h2 (by omega) (by omega) h3)]
    exact ih (j + 1) i (by omega) (by omega) h2 h3
theorem hi_B (hp : ∀ i, i ≤ 9 → 0 ≤ o (nI i)) (hm : ∀ i j, 1 ≤ i → i ≤ j → j ≤ 9 → 0 < o (nI i) → o (nI j) ≤ o (nI i)) (h1 : o (nI 1) ≤ 0) : ∀ (m j : Nat), j + m = 10 → 1 ≤ j → fs_hi o m j 1 = fs_bh o m j ∧ fs_bo o m j 0 = o (fs_bh o m j) := by
  have e1 : o 1 = 0 := Int32.le_antisymm h1 (hp 1 (by decide))
  intro m
  induction m with
  | zero => intro j _ _; exact ⟨rfl, e1.symm⟩
  | succ m ih =>
    intro j e hj
    obtain ⟨a, b⟩ := ih (j + 1) (by omega) (by omega)
    rw [fs_hi, fs_bh, fs_bo, if_pos rfl, e1]
    by_cases q : o (nI j) ≤ 0
    · rw [if_pos q, if_pos q, Int32.le_antisymm q (hp j (by omega))]
      exact ⟨a, b⟩
    · rw [if_neg q, if_neg q]
      have q' := Int32.not_le.mp q
      refine ⟨hi_A hm m (j + 1) j (by omega) (by omega) hj q', ?_⟩
      have : ¬ o (nI j) = 0 := fun e => q (by rw [e]; decide)
      cases m with
      | zero => rfl
      | succ m => rw [fs_bo, if_neg this]
theorem hi_bh (hp : ∀ i, i ≤ 9 → 0 ≤ o (nI i)) (hm : ∀ i j, 1 ≤ i → i ≤ j → j ≤ 9 → 0 < o (nI i) → o (nI j) ≤ o (nI i)) : fs_hi o 8 2 1 = fs_bh o 9 1 ∧ fs_bo o 9 1 0 = o (fs_bh o 9 1) := by
  rw [fs_bh, fs_bo, if_pos rfl]
  by_cases q : o (nI 1) ≤ 0
  · rw [if_pos q, Int32.le_antisymm q (hp 1 (by decide))]
    exact hi_B hp hm q 8 2 rfl (by decide)
  · rw [if_neg q]
    have : ¬ o (nI 1) = 0 := fun e => q (by rw [e]; decide)
    refine ⟨hi_A hm 8 2 1 rfl (by decide) (by decide) (Int32.not_le.mp q), ?_⟩
    rw [fs_bo, if_neg this]
end
/-- a height -/
theorem bh_h (o : Int32 → Int32) : ∀ (m j : Nat), 1 ≤ j → j + m ≤ 10 → ∃ h, 1 ≤ h ∧ h ≤ 9 ∧ fs_bh o m j = nI h := by
  intro m
  induction m with
  | zero => intro j _ _; exact ⟨1, by decide, by decide, rfl⟩
  | succ m ih =>
    intro j h1 h2
    rw [fs_bh]
    split
    · exact ih (j + 1) (by omega) (by omega)
    · exact ⟨j, h1, by omega, rfl⟩
theorem high_eq {c wy ne : Nat → Int32} {k a n : Int32} {F S : Nat} (hs : fs_sl (fs_slip k n)) (he : ∀ ht, fs_oc wy ne k a n S (nI F) ht = fs_odds c k a n F S ht) : fs_bh (fs_oc wy ne k a n S (nI F)) 9 1 = fs_high c k a n F S ∧ fs_bo (fs_oc wy ne k a n S (nI F)) 9 1 0 = fs_om c k a n F S ∧ ∃ h, 1 ≤ h ∧ h ≤ 9 ∧ fs_high c k a n F S = nI h := by
  have ee : fs_oc wy ne k a n S (nI F) = fs_odds c k a n F S := funext he
  rw [ee]
  obtain ⟨x, y⟩ := hi_bh (o := fs_odds c k a n F S) (fun i hi => by
    obtain ⟨o, ho, e⟩ := od_b (c := c) (a := a) (F := F) (S := S) hs hi
    rw [e]; exact nI_pos' (by omega)) (fun i j _ h2 h3 h4 => od_mono hs h2 h3 h4)
  unfold fs_om fs_high
  rw [x]
  exact ⟨rfl, y, bh_h _ 9 1 (by decide) (by decide)⟩
theorem om_b {c : Nat → Int32} {k a n : Int32} {F S : Nat} (hs : fs_sl (fs_slip k n)) : ∃ o, o ≤ 100 ∧ fs_om c k a n F S = nI o := by
  unfold fs_om fs_high
  obtain ⟨x, y⟩ := hi_bh (o := fs_odds c k a n F S) (fun i hi => by
    obtain ⟨o, ho, e⟩ := od_b (c := c) (a := a) (F := F) (S := S) hs hi
    rw [e]; exact nI_pos' (by omega)) (fun i j _ h2 h3 h4 => od_mono hs h2 h3 h4)
  obtain ⟨h, h1, h2, e⟩ := bh_h (fs_odds c k a n F S) 9 1 (by decide) (by decide)
  rw [x, e]
  exact od_b hs h2
