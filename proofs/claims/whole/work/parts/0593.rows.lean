/-- the chunks of a method end -/
theorem ni_find_in {α : Type} : ∀ (l : List (Nat × α)) (k : Nat) (x : α), ni_find l k = some x → (k, x) ∈ l := by
  intro l
  induction l with
  | nil => intro k x h; cases h
  | cons e l ih =>
    intro k x h
    obtain ⟨a, b⟩ := e
    unfold ni_find at h
    cases hb : Nat.beq a k with
    | true =>
      simp only [hb, cond_true] at h
      cases h
      rw [Nat.eq_of_beq_eq_true hb]
      exact List.mem_cons_self
    | false =>
      simp only [hb, cond_false] at h
      exact List.mem_cons_of_mem _ (ih k x h)
theorem ni_rvL : ∀ c, c < 22 → (ni_code 199 c).all (ni_rv 199) = true := by
  intro c hc
  match c, hc with
  | 0, _ => exact ni_rvL_0
  | 1, _ => exact ni_rvL_1
  | 2, _ => exact ni_rvL_2
  | 3, _ => exact ni_rvL_3
  | 4, _ => exact ni_rvL_4
  | 5, _ => exact ni_rvL_5
  | 6, _ => exact ni_rvL_6
  | 7, _ => exact ni_rvL_7
  | 8, _ => exact ni_rvL_8
  | 9, _ => exact ni_rvL_9
  | 10, _ => exact ni_rvL_10
  | 11, _ => exact ni_rvL_11
  | 12, _ => exact ni_rvL_12
  | 13, _ => exact ni_rvL_13
  | 14, _ => exact ni_rvL_14
  | 15, _ => exact ni_rvL_15
  | 16, _ => exact ni_rvL_16
  | 17, _ => exact ni_rvL_17
  | 18, _ => exact ni_rvL_18
  | 19, _ => exact ni_rvL_19
  | 20, _ => exact ni_rvL_20
  | 21, _ => exact ni_rvL_21
  | c + 22, h => exact absurd h (by omega)
theorem ni_rv_all : ∀ m c, m < 211 → c < 22 → (ni_code m c).all (ni_rv m) = true := by
  intro m c hm hc
  rcases Nat.lt_or_ge m 4 with h0 | h0
  · have q := ni_rv_0 (m - 0) (by omega) c hc
    rwa [show 0 + (m - 0) = m by omega] at q
  rcases Nat.lt_or_ge m 14 with h1 | h1
  · have q := ni_rv_1 (m - 4) (by omega) c hc
    rwa [show 4 + (m - 4) = m by omega] at q
  rcases Nat.lt_or_ge m 19 with h2 | h2
  · have q := ni_rv_2 (m - 14) (by omega) c hc
    rwa [show 14 + (m - 14) = m by omega] at q
  rcases Nat.lt_or_ge m 26 with h3 | h3
  · have q := ni_rv_3 (m - 19) (by omega) c hc
    rwa [show 19 + (m - 19) = m by omega] at q
  rcases Nat.lt_or_ge m 32 with h4 | h4
  · have q := ni_rv_4 (m - 26) (by omega) c hc
    rwa [show 26 + (m - 26) = m by omega] at q
  rcases Nat.lt_or_ge m 40 with h5 | h5
  · have q := ni_rv_5 (m - 32) (by omega) c hc
    rwa [show 32 + (m - 32) = m by omega] at q
  rcases Nat.lt_or_ge m 49 with h6 | h6
  · have q := ni_rv_6 (m - 40) (by omega) c hc
    rwa [show 40 + (m - 40) = m by omega] at q
  rcases Nat.lt_or_ge m 59 with h7 | h7
  · have q := ni_rv_7 (m - 49) (by omega) c hc
    rwa [show 49 + (m - 49) = m by omega] at q
  rcases Nat.lt_or_ge m 66 with h8 | h8
  · have q := ni_rv_8 (m - 59) (by omega) c hc
    rwa [show 59 + (m - 59) = m by omega] at q
  rcases Nat.lt_or_ge m 72 with h9 | h9
  · have q := ni_rv_9 (m - 66) (by omega) c hc
    rwa [show 66 + (m - 66) = m by omega] at q
  rcases Nat.lt_or_ge m 79 with h10 | h10
  · have q := ni_rv_10 (m - 72) (by omega) c hc
    rwa [show 72 + (m - 72) = m by omega] at q
  rcases Nat.lt_or_ge m 87 with h11 | h11
  · have q := ni_rv_11 (m - 79) (by omega) c hc
    rwa [show 79 + (m - 79) = m by omega] at q
  rcases Nat.lt_or_ge m 91 with h12 | h12
  · have q := ni_rv_12 (m - 87) (by omega) c hc
    rwa [show 87 + (m - 87) = m by omega] at q
  rcases Nat.lt_or_ge m 96 with h13 | h13
  · have q := ni_rv_13 (m - 91) (by omega) c hc
    rwa [show 91 + (m - 91) = m by omega] at q
  rcases Nat.lt_or_ge m 105 with h14 | h14
  · have q := ni_rv_14 (m - 96) (by omega) c hc
    rwa [show 96 + (m - 96) = m by omega] at q
  rcases Nat.lt_or_ge m 116 with h15 | h15
  · have q := ni_rv_15 (m - 105) (by omega) c hc
    rwa [show 105 + (m - 105) = m by omega] at q
  rcases Nat.lt_or_ge m 120 with h16 | h16
  · have q := ni_rv_16 (m - 116) (by omega) c hc
    rwa [show 116 + (m - 116) = m by omega] at q
  rcases Nat.lt_or_ge m 128 with h17 | h17
  · have q := ni_rv_17 (m - 120) (by omega) c hc
    rwa [show 120 + (m - 120) = m by omega] at q
  rcases Nat.lt_or_ge m 133 with h18 | h18
  · have q := ni_rv_18 (m - 128) (by omega) c hc
    rwa [show 128 + (m - 128) = m by omega] at q
  rcases Nat.lt_or_ge m 140 with h19 | h19
  · have q := ni_rv_19 (m - 133) (by omega) c hc
    rwa [show 133 + (m - 133) = m by omega] at q
  rcases Nat.lt_or_ge m 148 with h20 | h20
  · have q := ni_rv_20 (m - 140) (by omega) c hc
    rwa [show 140 + (m - 140) = m by omega] at q
  rcases Nat.lt_or_ge m 152 with h21 | h21
  · have q := ni_rv_21 (m - 148) (by omega) c hc
    rwa [show 148 + (m - 148) = m by omega] at q
  rcases Nat.lt_or_ge m 155 with h22 | h22
  · have q := ni_rv_22 (m - 152) (by omega) c hc
    rwa [show 152 + (m - 152) = m by omega] at q
  rcases Nat.lt_or_ge m 164 with h23 | h23
  · have q := ni_rv_23 (m - 155) (by omega) c hc
    rwa [show 155 + (m - 155) = m by omega] at q
  rcases Nat.lt_or_ge m 168 with h24 | h24
  · have q := ni_rv_24 (m - 164) (by omega) c hc
    rwa [show 164 + (m - 164) = m by omega] at q
  rcases Nat.lt_or_ge m 176 with h25 | h25
  · have q := ni_rv_25 (m - 168) (by omega) c hc
    rwa [show 168 + (m - 168) = m by omega] at q
  rcases Nat.lt_or_ge m 179 with h26 | h26
  · have q := ni_rv_26 (m - 176) (by omega) c hc
    rwa [show 176 + (m - 176) = m by omega] at q
  rcases Nat.lt_or_ge m 182 with h27 | h27
  · have q := ni_rv_27 (m - 179) (by omega) c hc
    rwa [show 179 + (m - 179) = m by omega] at q
  rcases Nat.lt_or_ge m 187 with h28 | h28
  · have q := ni_rv_28 (m - 182) (by omega) c hc
    rwa [show 182 + (m - 182) = m by omega] at q
  rcases Nat.lt_or_ge m 193 with h29 | h29
  · have q := ni_rv_29 (m - 187) (by omega) c hc
    rwa [show 187 + (m - 187) = m by omega] at q
  rcases Nat.lt_or_ge m 199 with h30 | h30
  · have q := ni_rv_30 (m - 193) (by omega) c hc
    rwa [show 193 + (m - 193) = m by omega] at q
  rcases Nat.lt_or_ge m 200 with h31 | h31
  · rw [show m = 199 by omega]
    exact ni_rvL c hc
  have q := ni_rv_32 (m - 200) (by omega) c hc
  rwa [show 200 + (m - 200) = m by omega] at q
theorem ni_row {m pc : Nat} {w : ni_W} (h : ni_at m pc = some w) : ni_rv m (pc, w) = true := by
  unfold ni_at at h
  cases hb : Nat.blt pc 1408 with
  | false => rw [hb] at h; cases h
  | true =>
    rw [hb] at h
    have hp : pc < 1408 := Nat.le_of_ble_eq_true hb
    have hin := ni_find_in _ _ _ h
    rcases Nat.lt_or_ge m 211 with hm | hm
    · exact List.all_eq_true.mp (ni_rv_all m (pc / 64) hm (by omega)) _ hin
    · have e : ni_code m (pc / 64) = [] := by
        unfold ni_code
        cases hq : Nat.blt m 211 with
        | false => rfl
        | true =>
          have := Nat.le_of_ble_eq_true hq
          omega
      rw [e] at hin
      cases hin
