set_option maxRecDepth 100000
set_option maxHeartbeats 1000000
/-! ===== the class's chances are the reference's ===== -/
def fs_im (x y : Int32) : Int32 := x * y / 100
theorem im_n {a b : Nat} (ha : a ≤ 1000000) (hb : b ≤ 100) : fs_im (nI a) (nI b) = nI (a * b / 100) := by
  have h : a * b ≤ 1000000 * 100 := Nat.mul_le_mul ha hb
  unfold fs_im
  rw [pk_mul]
  exact pk_div (d := 100) (by omega) (by decide) (by decide)
theorem lm_n {a b : Nat} (ha : a ≤ 1000000) (hb : b ≤ 100) : fs_lm (nI a) (nI b) = nI (a * b / 100) := by
  have h : a * b ≤ 1000000 * 100 := Nat.mul_le_mul ha hb
  unfold fs_lm
  rw [nI_l (by omega), nI_l (by omega), lN_mul]
  have e : lN (a * b) / 100 = lN (a * b / 100) := by
    apply Int64.toInt_inj.mp
    rw [Int64.toInt_div_of_ne_right _ _ (by decide), lN_toInt (by omega), lN_toInt (by omega), show (100 : Int64).toInt = 100 from rfl]
    rw [Int.ofNat_tdiv (a * b) 100]
    rfl
  rw [e, lN_i]
theorem mu_le {a b : Nat} (ha : a ≤ 1000000) (hb : b ≤ 100) : a * b / 100 ≤ 1000000 := by
  have h : a * b ≤ 1000000 * 100 := Nat.mul_le_mul ha hb
  omega
theorem sub_iff {s t : Nat} (hs : s < 32) (ht : t < 32) : fs_sub (nI s) (nI t) = true ↔ s &&& t = s := by
  unfold fs_sub
  rw [decide_eq_true_iff]
  exact bt_4 s hs t ht
theorem sub_tr {a b c : Nat} (ha : a < 32) (hb : b < 32) (hc : c < 32) (h1 : fs_sub (nI a) (nI b) = true) (h2 : fs_sub (nI b) (nI c) = true) : fs_sub (nI a) (nI c) = true := by
  rw [sub_iff ha hb] at h1
  rw [sub_iff hb hc] at h2
  rw [sub_iff ha hc]
  rw [← h1, Nat.and_assoc, h2]
theorem sub_d : ∀ s, s < 32 → ∀ t, t < 32 → fs_sub (nI (s &&& (31 - t))) (nI s) = true := by decide +kernel
theorem cand_ex : ∀ S, S < 32 → S ≠ 0 → ∀ k, k < 5 → 0 < k → ∃ i, 1 ≤ i ∧ i < 1 + S ∧ fs_sub (nI i) (nI S) = true ∧ fs_mb i S k = true := by
  have : ∀ S, S < 32 → S ≠ 0 → ∀ k, k < 5 → 0 < k → ((List.range 32).any fun i => decide (1 ≤ i ∧ i < 1 + S) && (fs_sub (nI i) (nI S) && fs_mb i S k)) = true := by decide +kernel
  intro S h1 h2 k h3 h4
  obtain ⟨i, _, hi⟩ := List.any_eq_true.mp (this S h1 h2 k h3 h4)
  rw [Bool.and_eq_true, Bool.and_eq_true, decide_eq_true_iff] at hi
  exact ⟨i, hi.1.1, hi.1.2, hi.2.1, hi.2.2⟩
/-- sets that may be next -/
def fs_nx (S k i : Nat) : Prop := fs_sub (nI i) (nI S) = true ∧ fs_mb i S k = true
theorem cq_congr {mu mu' : Int32 → Int32 → Int32} {od od' ch ch' : Nat → Int32} {S k : Nat} : ∀ (m j : Nat) (b : Int32) (p : Nat), (∀ i, j ≤ i → i < j + m → fs_nx S k i → mu (ch (S &&& (31 - i))) (od i) = mu' (ch' (S &&& (31 - i))) (od' i)) → fs_cq mu od ch S k m j b p = fs_cq mu' od' ch' S k m j b p := by
  intro m
  induction m with
  | zero => intro j b p _; rw [fs_cq, fs_cq]
  | succ m ih =>
    intro j b p h
    have ih2 := fun b p => ih (j + 1) b p (fun i h1 h2 h3 => h i (by omega) (by omega) h3)
    rw [fs_cq, fs_cq]
    by_cases q1 : fs_sub (nI j) (nI S) = true
    · rw [if_pos q1, if_pos q1]
      by_cases q2 : fs_mb j S k = true
      · rw [if_pos q2, if_pos q2, h j (by omega) (by omega) ⟨q1, q2⟩, ih2, ih2]
      · rw [if_neg q2, if_neg q2, ih2]
    · rw [if_neg q1, if_neg q1, ih2]
/-- what comes out -/
theorem cq_r1 {mu : Int32 → Int32 → Int32} {od ch : Nat → Int32} {S k : Nat} (P : Nat → Prop) : ∀ (m j x p : Nat), x ≤ 1000000 → P p → (∀ i, j ≤ i → i < j + m → fs_nx S k i → P i ∧ ∃ y, y ≤ 1000000 ∧ mu (ch (S &&& (31 - i))) (od i) = nI y) → ∃ x' p', x' ≤ 1000000 ∧ P p' ∧ fs_cq mu od ch S k m j (nI x) p = (nI x', p') := by
  intro m
  induction m with
  | zero => intro j x p hx hp _; exact ⟨x, p, hx, hp, by rw [fs_cq]⟩
  | succ m ih =>
    intro j x p hx hp h
    have h' := fun i (h1 : j + 1 ≤ i) (h2 : i < j + 1 + m) h3 => h i (by omega) (by omega) h3
    rw [fs_cq]
    by_cases q1 : fs_sub (nI j) (nI S) = true
    · rw [if_pos q1]
      by_cases q2 : fs_mb j S k = true
      · rw [if_pos q2]
        obtain ⟨pj, y, hy, e⟩ := h j (by omega) (by omega) ⟨q1, q2⟩
        rw [e]
        by_cases q3 : nI y ≤ nI x
        · rw [if_pos q3]; exact ih (j + 1) x p hx hp h'
        · rw [if_neg q3]; exact ih (j + 1) y j hy pj h'
      · rw [if_neg q2]; exact ih (j + 1) x p hx hp h'
    · rw [if_neg q1]; exact ih (j + 1) x p hx hp h'
theorem nI_m1l {y : Nat} (hy : y ≤ 1000000) : ¬ nI y ≤ -1 := by
  intro e
  have h1 := Int32.le_iff_toInt_le.mp e
  rw [nI_toInt (by omega), show (-1 : Int32).toInt = -1 from rfl] at h1
  omega
theorem cq_r2 {mu : Int32 → Int32 → Int32} {od ch : Nat → Int32} {S k : Nat} (P : Nat → Prop) : ∀ (m j p : Nat), (∃ i, j ≤ i ∧ i < j + m ∧ fs_nx S k i) → (∀ i, j ≤ i → i < j + m → fs_nx S k i → P i ∧ ∃ y, y ≤ 1000000 ∧ mu (ch (S &&& (31 - i))) (od i) = nI y) → ∃ x' p', x' ≤ 1000000 ∧ P p' ∧ fs_cq mu od ch S k m j (-1) p = (nI x', p') := by
  intro m
  induction m with
  | zero => rintro j p ⟨i, h1, h2, _⟩; omega
  | succ m ih =>
    rintro j p ⟨i, i1, i2, i3⟩ h
    have h' := fun i (h1 : j + 1 ≤ i) (h2 : i < j + 1 + m) h3 => h i (by omega) (by omega) h3
    rw [fs_cq]
    by_cases q : fs_nx S k j
    · obtain ⟨pj, y, hy, e⟩ := h j (by omega) (by omega) q
      rw [if_pos q.1, if_pos q.2, e, if_neg (nI_m1l hy)]
      exact cq_r1 P m (j + 1) y j hy pj h'
    · have ij : j + 1 ≤ i := by
        rcases Nat.eq_or_lt_of_le i1 with e | e
        · subst e; exact absurd i3 q
        · exact e
      have r := ih (j + 1) p ⟨i, ij, by omega, i3⟩ h'
      by_cases q1 : fs_sub (nI j) (nI S) = true
      · rw [if_pos q1, if_neg (fun e => q ⟨q1, e⟩)]; exact r
      · rw [if_neg q1]; exact r
/-- the class's row and the reference's -/
theorem we_cq1 {od ch : Nat → Int32} {S k : Nat} : ∀ (m j : Nat) (b : Int32) (p : Nat) (pl : Nat → Int32), pl S = nI p → (fs_we od ch S k m j b pl).1 = (fs_cq fs_im od ch S k m j b p).1 ∧ (fs_we od ch S k m j b pl).2 S = nI (fs_cq fs_im od ch S k m j b p).2 ∧ ∀ T, T ≠ S → (fs_we od ch S k m j b pl).2 T = pl T := by
  intro m
  induction m with
  | zero => intro j b p pl h; rw [fs_we, fs_cq]; exact ⟨rfl, h, fun _ _ => rfl⟩
  | succ m ih =>
    intro j b p pl h
    rw [fs_we, fs_cq]
    by_cases q1 : fs_sub (nI j) (nI S) = true
    · rw [if_pos q1, if_pos q1]
      by_cases q2 : fs_mb j S k = true
      · rw [if_pos q2, if_pos q2]
        have ei : fs_im (ch (S &&& (31 - j))) (od j) = ch (S &&& (31 - j)) * od j / 100 := rfl
        rw [ei]
        by_cases q3 : ch (S &&& (31 - j)) * od j / 100 ≤ b
        · rw [if_pos q3, if_pos q3]; exact ih (j + 1) b p pl h
        · rw [if_neg q3, if_neg q3]
          obtain ⟨a, b', c⟩ := ih (j + 1) (ch (S &&& (31 - j)) * od j / 100) j (upd pl S (nI j)) ud_s
          exact ⟨a, b', fun T hT => by rw [c T hT, ud_n hT]⟩
      · rw [if_neg q2, if_neg q2]; exact ih (j + 1) b p pl h
    · rw [if_neg q1, if_neg q1]; exact ih (j + 1) b p pl h
theorem we_cq2 {od ch : Nat → Int32} {S k : Nat} : ∀ (m j p : Nat) (pl : Nat → Int32), (∃ i, j ≤ i ∧ i < j + m ∧ fs_nx S k i) → (∀ i, j ≤ i → i < j + m → fs_nx S k i → ∃ y, y ≤ 1000000 ∧ fs_im (ch (S &&& (31 - i))) (od i) = nI y) → (fs_we od ch S k m j (-1) pl).1 = (fs_cq fs_im od ch S k m j (-1) p).1 ∧ (fs_we od ch S k m j (-1) pl).2 S = nI (fs_cq fs_im od ch S k m j (-1) p).2 ∧ ∀ T, T ≠ S → (fs_we od ch S k m j (-1) pl).2 T = pl T := by
  intro m
  induction m with
  | zero => rintro j p pl ⟨i, h1, h2, _⟩; omega
  | succ m ih =>
    rintro j p pl ⟨i, i1, i2, i3⟩ h
    have h' := fun i (h1 : j + 1 ≤ i) (h2 : i < j + 1 + m) h3 => h i (by omega) (by omega) h3
    rw [fs_we, fs_cq]
    by_cases q : fs_nx S k j
    · obtain ⟨y, hy, e⟩ := h j (by omega) (by omega) q
      have e' : ch (S &&& (31 - j)) * od j / 100 = nI y := e
      rw [if_pos q.1, if_pos q.2, if_pos q.1, if_pos q.2, e, e', if_neg (nI_m1l hy), if_neg (nI_m1l hy)]
      obtain ⟨a, b', c⟩ := we_cq1 (od := od) (ch := ch) (S := S) (k := k) m (j + 1) (nI y) j (upd pl S (nI j)) ud_s
      exact ⟨a, b', fun T hT => by rw [c T hT, ud_n hT]⟩
    · have ij : j + 1 ≤ i := by
        rcases Nat.eq_or_lt_of_le i1 with e | e
        · subst e; exact absurd i3 q
        · exact e
      have r := ih (j + 1) p pl ⟨i, ij, by omega, i3⟩ h'
      by_cases q1 : fs_sub (nI j) (nI S) = true
      · rw [if_pos q1, if_pos q1, if_neg (fun e => q ⟨q1, e⟩), if_neg (fun e => q ⟨q1, e⟩)]; exact r
      · rw [if_neg q1, if_neg q1]; exact r
section
variable {od : Nat → Nat → Int32} {L k : Nat}
theorem cg_0 {mu : Int32 → Int32 → Int32} (f : Nat) : fs_cg mu od k f 0 = (1000000, 0) := by
  cases f with
  | zero => rw [fs_cg]
  | succ f => rw [fs_cg, if_pos rfl]
/-- chances: bounded, the same by ints and by longs, the same with more fuel -/
theorem cg_n (hL : L < 32) (k0 : 0 < k) (k4 : k ≤ 4) (ho : ∀ S, S < 32 → fs_sub (nI S) (nI L) = true → ∀ N, N < 32 → fs_sub (nI N) (nI S) = true → ∃ o, o ≤ 100 ∧ od S N = nI o) : ∀ (f S : Nat), S < 32 → fs_sub (nI S) (nI L) = true → fs_pc S ≤ f → (∃ x p, x ≤ 1000000 ∧ p < 32 ∧ fs_sub (nI p) (nI S) = true ∧ (S ≠ 0 → p ≠ 0) ∧ fs_cg fs_im od k f S = (nI x, p)) ∧ fs_cg fs_lm od k f S = fs_cg fs_im od k f S ∧ fs_cg fs_im od k (f + 1) S = fs_cg fs_im od k f S := by
  intro f
  induction f with
  | zero =>
    intro S hS hs hp
    obtain rfl : S = 0 := bt_7 S hS (by omega)
    rw [cg_0, cg_0, cg_0]
    exact ⟨⟨1000000, 0, by decide, by decide, by decide, fun h => h, rfl⟩, rfl, rfl⟩
  | succ f ih =>
    intro S hS hs hp
    by_cases q : S = 0
    · subst q
      rw [cg_0, cg_0, cg_0]
      exact ⟨⟨1000000, 0, by decide, by decide, by decide, fun h => h, rfl⟩, rfl, rfl⟩
    · have e1 : ∀ mu g, fs_cg mu od k (g + 1) S = fs_cq mu (od S) (fun R => (fs_cg mu od k g R).1) S k S 1 (-1) 0 := fun mu g => by rw [fs_cg, if_neg q]
      have sub : ∀ i, 1 ≤ i → i < 1 + S → fs_nx S k i → i < 32 ∧ S &&& (31 - i) < 32 ∧ fs_sub (nI (S &&& (31 - i))) (nI L) = true ∧ fs_pc (S &&& (31 - i)) ≤ f := by
        intro i h1 h2 h3
        have hi : i < 32 := by omega
        have h9 := bt_9 S hS i hi h3.1
        have h10 := bt_10 i hi (by omega)
        exact ⟨hi, bt_8 S hS i hi, sub_tr (bt_8 S hS i hi) hS hL (sub_d S hS i hi) hs, by omega⟩
      have val : ∀ i, 1 ≤ i → i < 1 + S → fs_nx S k i → (i < 32 ∧ fs_sub (nI i) (nI S) = true ∧ i ≠ 0) ∧ ∃ y, y ≤ 1000000 ∧ fs_im ((fs_cg fs_im od k f (S &&& (31 - i))).1) (od S i) = nI y := by
        intro i h1 h2 h3
        obtain ⟨hi, r1, r2, r3⟩ := sub i h1 h2 h3
        obtain ⟨⟨x, p, hx, _, _, _, e⟩, _, _⟩ := ih _ r1 r2 r3
        obtain ⟨o, hO, eo⟩ := ho S hS hs i hi h3.1
        refine ⟨⟨hi, h3.1, by omega⟩, x * o / 100, mu_le hx hO, ?_⟩
        rw [e, eo]
        exact im_n hx hO
      obtain ⟨i, i1, i2, i3, i4⟩ := cand_ex S hS q k (by omega) k0
      obtain ⟨x, p, hx, hP, e⟩ := cq_r2 (mu := fs_im) (od := od S) (ch := fun R => (fs_cg fs_im od k f R).1) (S := S) (k := k) (fun i => i < 32 ∧ fs_sub (nI i) (nI S) = true ∧ i ≠ 0) S 1 0 ⟨i, i1, i2, i3, i4⟩ val
      refine ⟨⟨x, p, hx, hP.1, hP.2.1, fun _ => hP.2.2, by rw [e1]; exact e⟩, ?_, ?_⟩
      · rw [e1, e1]
        refine cq_congr S 1 (-1) 0 (fun i h1 h2 h3 => ?_)
        obtain ⟨hi, r1, r2, r3⟩ := sub i h1 h2 h3
        obtain ⟨⟨x, p, hx, _, _, _, e⟩, e2, _⟩ := ih _ r1 r2 r3
        obtain ⟨o, hO, eo⟩ := ho S hS hs i hi h3.1
        try simp only
        rw [e2, e, eo, im_n hx hO, lm_n hx hO]
      · rw [e1, e1]
        refine cq_congr S 1 (-1) 0 (fun i h1 h2 h3 => ?_)
        obtain ⟨hi, r1, r2, r3⟩ := sub i h1 h2 h3
        obtain ⟨_, _, e3⟩ := ih _ r1 r2 r3
        try simp only
        rw [e3]
theorem tt_cg (hL : L < 32) (k0 : 0 < k) (k4 : k ≤ 4) (ho : ∀ S, S < 32 → fs_sub (nI S) (nI L) = true → ∀ N, N < 32 → fs_sub (nI N) (nI S) = true → ∃ o, o ≤ 100 ∧ od S N = nI o) : ∀ (m j : Nat) (ch pl : Nat → Int32), 1 ≤ j → j + m = 32 → (∀ T, T < j → fs_sub (nI T) (nI L) = true → ch T = (fs_cg fs_im od k 5 T).1 ∧ pl T = nI (fs_cg fs_im od k 5 T).2) → ∀ T, T < 32 → fs_sub (nI T) (nI L) = true → (fs_tt od L k m j ch pl).1 T = (fs_cg fs_im od k 5 T).1 ∧ (fs_tt od L k m j ch pl).2 T = nI (fs_cg fs_im od k 5 T).2 := by
  intro m
  induction m with
  | zero => intro j ch pl _ e h T hT hs; rw [fs_tt]; exact h T (by omega) hs
  | succ m ih =>
    intro j ch pl j1 e h T hT hs
    rw [fs_tt]
    by_cases q : nI L < nI j
    · rw [if_pos q]
      have := (nI_ltI (by omega) (by omega)).mp q
      have := (sub_t L hL T hT hs).1
      exact h T (by omega) hs
    · rw [if_neg q]
      by_cases q2 : fs_sub (nI j) (nI L) = true
      · rw [if_pos q2]
        have hj : j < 32 := by omega
        have h5 := bt_pc5 j hj
        have e1 : fs_cg fs_im od k 5 j = fs_cq fs_im (od j) (fun R => (fs_cg fs_im od k 4 R).1) j k j 1 (-1) 0 := by rw [fs_cg, if_neg (by omega)]
        have val : ∀ i, 1 ≤ i → i < 1 + j → fs_nx j k i → j &&& (31 - i) < j ∧ ch (j &&& (31 - i)) = (fs_cg fs_im od k 4 (j &&& (31 - i))).1 ∧ ∃ y, y ≤ 1000000 ∧ fs_im (ch (j &&& (31 - i))) (od j i) = nI y := by
          intro i i1 i2 i3
          have hi : i < 32 := by omega
          have h9 := bt_9 j hj i hi i3.1
          have h10 := bt_10 i hi (by omega)
          have hs2 := sub_tr (bt_8 j hj i hi) hj hL (sub_d j hj i hi) q2
          have hle := (sub_t j hj _ (bt_8 j hj i hi) (sub_d j hj i hi)).1
          have hlt : j &&& (31 - i) < j := by
            rcases Nat.eq_or_lt_of_le hle with x | x
            · rw [x] at h9; omega
            · exact x
          obtain ⟨⟨x, p, hx, _, _, _, ex⟩, _, e3⟩ := cg_n hL k0 k4 ho 4 (j &&& (31 - i)) (bt_8 j hj i hi) hs2 (by omega)
          have hc := (h _ hlt hs2).1
          rw [e3] at hc
          obtain ⟨o, hO, eo⟩ := ho j hj q2 i hi i3.1
          refine ⟨hlt, hc, x * o / 100, mu_le hx hO, ?_⟩
          rw [hc, ex, eo]
          exact im_n hx hO
        obtain ⟨i, i1, i2, i3, i4⟩ := cand_ex j hj (by omega) k (by omega) k0
        obtain ⟨a1, a2, a3⟩ := we_cq2 (od := od j) (ch := ch) (S := j) (k := k) j 1 0 pl ⟨i, i1, i2, i3, i4⟩ (fun i x1 x2 x3 => (val i x1 x2 x3).2.2)
        have e2 : fs_cq fs_im (od j) ch j k j 1 (-1) 0 = fs_cg fs_im od k 5 j := by
          rw [e1]
          refine cq_congr j 1 (-1) 0 (fun i x1 x2 x3 => ?_)
          rw [(val i x1 x2 x3).2.1]
        rw [e2] at a1 a2
        refine ih (j + 1) _ _ (by omega) (by omega) (fun T hT hs => ?_) T hT hs
        by_cases e3 : T = j
        · subst e3
          rw [ud_s]
          exact ⟨a1, a2⟩
        · rw [ud_n e3, a3 T e3]
          exact h T (by omega) hs
      · rw [if_neg q2]
        refine ih (j + 1) ch pl (by omega) (by omega) (fun T hT hs => ?_) T hT hs
        by_cases e2 : T = j
        · subst e2; exact absurd hs q2
        · exact h T (by omega) hs
end
