set_option maxRecDepth 100000
set_option maxHeartbeats 400000
/-! ===== what no run changes: the outside, and the class of an object ===== -/
def fk_c (e e' : ni_E) : Prop := (ni_ex e = true → e' = e) ∧ ∀ c, ni_rc e c = true → ni_rc e' c = true
theorem kc_rf {e : ni_E} : fk_c e e := ⟨fun _ => rfl, fun _ h => h⟩
theorem kc_tr {a b c : ni_E} (h : fk_c a b) (k : fk_c b c) : fk_c a c := ⟨fun e => (k.1 (by rw [h.1 e]; exact e)).trans (h.1 e), fun c q => k.2 c (h.2 c q)⟩
theorem kc_up {h : ni_H} {o : Nat} {e : ni_E} (q : fk_c (h o) e) (i : Nat) : fk_c (h i) (ni_up h o e i) := by
  by_cases c : i = o
  · rw [c, up_s]; exact q
  · rw [up_n c]; exact kc_rf
theorem kc_pv {e : ni_E} {a b : Nat} {w : Value} {t : Bool} (g : (Nat.ble a 7 && ni_is e a b && t) = true) : fk_c e (ni_pv e b w) := by
  simp only [Bool.and_eq_true] at g
  obtain ⟨⟨g1, g2⟩, -⟩ := g
  match e, g2 with
  | .inr (c, fs), g2 =>
    simp only [ni_is, Bool.and_eq_true] at g2
    have h1 : c = a := Nat.eq_of_beq_eq_true g2.1
    have h2 : a ≤ 7 := Nat.le_of_ble_eq_true g1
    refine ⟨fun e => ?_, fun c' q => q⟩
    simp only [ni_ex] at e
    have := Nat.eq_of_beq_eq_true e
    omega
theorem kc_pi {e : ni_E} {i x : Int32} (g : ni_okS e i = true) : fk_c e (ni_pi e i x) := by
  match e, g with
  | .inl (t, n, .inl f), g =>
    simp only [ni_okS, Bool.and_eq_true] at g
    have h1 : t = 0 := Nat.eq_of_beq_eq_true g.1
    subst h1
    exact ⟨fun e => absurd e (by simp [ni_ex]), fun c q => absurd q (by simp [ni_rc])⟩
theorem kc_pl {e : ni_E} {i : Int32} {x : Int64} (g : ni_okL e i = true) : fk_c e (ni_pl e i x) := by
  match e, g with
  | .inl (t, n, .inr (.inl f)), g =>
    simp only [ni_okL, Bool.and_eq_true] at g
    have h1 : t = 1 := Nat.eq_of_beq_eq_true g.1
    subst h1
    exact ⟨fun e => absurd e (by simp [ni_ex]), fun c q => absurd q (by simp [ni_rc])⟩
theorem kc_pa {e : ni_E} {i : Int32} {x : Nat} {t : Bool} (g : (ni_okA e i && t) = true) : fk_c e (ni_pa e i x) := by
  simp only [Bool.and_eq_true] at g
  obtain ⟨g, -⟩ := g
  match e, g with
  | .inl (t, n, .inr (.inr f)), g =>
    simp only [ni_okA, Bool.and_eq_true, Bool.or_eq_true] at g
    refine ⟨fun e => ?_, fun c q => absurd q (by simp [ni_rc])⟩
    simp only [ni_ex] at e
    have := Nat.eq_of_beq_eq_true e
    rcases g.1 with g | g <;> (have := Nat.eq_of_beq_eq_true g; omega)
theorem kc_cpy {e0 e1 e : ni_E} {sp dp n : Int32} (g : ni_cpy e0 e1 sp dp n = some e) : fk_c e1 e := by
  unfold ni_cpy at g
  split at g
  · exact ⟨fun e => absurd e (by simp [ni_ex]), fun c q => absurd q (by simp [ni_rc])⟩
  · exact ⟨fun e => absurd e (by simp [ni_ex]), fun c q => absurd q (by simp [ni_rc])⟩
  · cases g
theorem fk_h {ins : Instr} {a b : Nat} {v : Value} {ty : FieldType} {d : Nat} {st st' : List Value} {h h' : ni_H} (g : ni_h ins a b v ty d st h = some (st', h')) (i : Nat) : fk_c (h i) (h' i) := by
  cases ins <;> simp only [ni_h, reduceCtorEq] at g
  case putfield =>
    split at g
    · split at g
      · next c => cases g; exact kc_up (kc_pv c) i
      · cases g
    · cases g
  case iastore =>
    split at g
    · split at g
      · next c => cases g; exact kc_up (kc_pi c) i
      · cases g
    · cases g
  case lastore =>
    split at g
    · split at g
      · next c => cases g; exact kc_up (kc_pl c) i
      · cases g
    · cases g
  case aastore =>
    split at g
    · split at g
      · next c => cases g; exact kc_up (kc_pa c) i
      · cases g
    · cases g
  case invokespecial =>
    cases q : Nat.beq a 901 <;> rw [q] at g <;> simp only [cond_true, cond_false, reduceCtorEq] at g
    split at g
    · split at g
      · cases g; exact kc_rf
      · cases g
    · cases g
  case invokestatic =>
    cases q : Nat.beq a 900 <;> rw [q] at g <;> simp only [cond_true, cond_false] at g
    · cases q : Nat.beq a 902 <;> rw [q] at g <;> simp only [cond_true, cond_false] at g
      · cases q : Nat.beq a 903 <;> rw [q] at g <;> simp only [cond_true, cond_false] at g
        · cases q : Nat.beq a 904 <;> rw [q] at g <;> simp only [cond_true, cond_false, reduceCtorEq] at g
          split at g
          · split at g
            · cases g; exact kc_rf
            · cases g
          · cases g
        · split at g
          · split at g
            · cases g; exact kc_rf
            · cases g
          · cases g
      · split at g
        · split at g
          · cases g; exact kc_rf
          · cases g
        · cases g
    · split at g
      · split at g
        · split at g
          · next c => cases g; exact kc_up (kc_cpy c) i
          · cases g
        · cases g
      · cases g
  all_goals first
    | (cases g; exact kc_rf)
    | (split at g <;> first | (cases g; done) | (cases g; exact kc_rf) | (split at g <;> first | (cases g; done) | (cases g; exact kc_rf)))
theorem fk_n {ins : Instr} {a : Nat} {ls st st' : List Value} {dfs : Nat → List Value} {z z' : ni_Z} {h h' : ni_H} (g : ni_n ins a ls st dfs z h = some (st', z', h')) (i : Nat) (hi : i < z.1 ∨ 900 ≤ i) : fk_c (h i) (h' i) ∧ z.1 ≤ z'.1 := by
  unfold ni_n at g
  split at g
  · split at g
    · next c =>
      cases g
      simp only [Bool.and_eq_true] at c
      have := Nat.le_of_ble_eq_true c.1.2
      exact ⟨by rw [up_n (by omega)]; exact kc_rf, by simp⟩
    · cases g
  · split at g
    · split at g
      · next c =>
        cases g
        simp only [Bool.and_eq_true] at c
        have := Nat.le_of_ble_eq_true c.1.1.2
        exact ⟨by rw [up_n (by omega)]; exact kc_rf, by simp⟩
      · cases g
    · cases g
  · split at g
    · split at g
      · next c =>
        cases g
        simp only [Bool.and_eq_true] at c
        have := Nat.le_of_ble_eq_true c.1.1.2
        exact ⟨by rw [up_n (by omega)]; exact kc_rf, by simp⟩
      · cases g
    · cases g
  · split at g
    · split at g
      · next c =>
        cases g
        simp only [Bool.and_eq_true] at c
        have := Nat.le_of_ble_eq_true c.1.1.1.2
        exact ⟨by rw [up_n (by omega)]; exact kc_rf, by simp⟩
      · cases g
    · cases g
  · cases g
theorem fk_run : ∀ (n d m pc : Nat) (ls st : List Value) (z : ni_Z) (h : ni_H) (r : Option Value) (z' : ni_Z) (h' : ni_H), ni_run n d m pc ls st z h = some (r, z', h') → ∀ i, (i < z.1 ∨ 900 ≤ i) → fk_c (h i) (h' i) := by
  intro n
  induction n with
  | zero => intro d m pc ls st z h r z' h' g; simp [ni_run] at g
  | succ n ih =>
    intro d m pc ls st z h r z' h' g i hi
    simp only [ni_run] at g
    split at g
    · cases g
    · split at g
      · exact ih _ _ _ _ _ _ _ _ _ _ g i hi
      · split at g
        · next hh => exact kc_tr (fk_h hh i) (ih _ _ _ _ _ _ _ _ _ _ g i hi)
        · split at g
          · next hn =>
            have k := fk_n hn i hi
            exact kc_tr k.1 (ih _ _ _ _ _ _ _ _ _ _ g i (by omega))
          · split at g
            · cases g; exact kc_rf
            · split at g
              · split at g
                · split at g
                  · next hr =>
                    split at g
                    · have hz := ni_run_mono _ _ _ _ _ _ _ _ _ _ _ hr
                      exact kc_tr (ih _ _ _ _ _ _ _ _ _ _ hr i hi) (ih _ _ _ _ _ _ _ _ _ _ g i (by omega))
                    · cases g
                  · cases g
                · cases g
              · cases g
theorem C_kc {mx : Nat} {ax : List Value} {z z1 : ni_Z} {h h1 : ni_H} {r : Option Value} {k : Nat} (e1 : ∀ (d : Nat) (Q : ni_Q), ni_T (d + k) mx 0 ax [] z h Q = Q r z1 h1) (i : Nat) (hi : i < z.1 ∨ 900 ≤ i) : fk_c (h i) (h1 i) := by
  have t : ni_T (0 + k) mx 0 ax [] z h (fun _ _ h' => h' = h1) := by rw [e1]
  obtain ⟨n, r', z', h', e, q⟩ := t
  have q : h' = h1 := q
  subst q
  exact fk_run _ _ _ _ _ _ _ _ _ _ _ e i hi
