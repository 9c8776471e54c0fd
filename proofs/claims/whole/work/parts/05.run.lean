/-! ===== a run, and T: it comes to an end with Q ===== -/
/-- the number of the class that a receiver must be of -/
def ni_rk (own : Nat) : Nat := bif Nat.beq own 10 then 100 else own
def ni_run : Nat → Nat → Nat → Nat → List Value → List Value → ni_Z → ni_H → Option (Option Value × ni_Z × ni_H)
  | 0, _, _, _, _, _, _, _ => none
  | n + 1, d, m, pc, ls, st, z, h => match ni_at m pc with
    | none => none
    | some (ins, len, a, b, v, ty) => match ni_p ins len a pc ls st with
      | some (pc', ls', st') => ni_run n d m pc' ls' st' z h
      | none => match ni_h ins a b v ty d st h with
        | some (st', h') => ni_run n d m (pc + len) ls st' z h'
        | none => match ni_n ins a ls st ni_dfs z h with
          | some (st', z', h') => ni_run n d m (pc + len) ls st' z' h'
          | none => match ni_r (ni_mt m).2.2.2.1 ins st with
            | some r => some (r, z, h)
            | none => match d, ni_c ins (ni_rk (ni_mt a).2.2.2.2) b st h with
              | d' + 1, some (as, rest) =>
                if Nat.ble (ni_sw rest) 8 && (Nat.ble ((ni_sl as).length) (ni_mt a).2.2.1 && Nat.ble (a + 1) 900) then
                  match ni_run n d' a 0 (ni_ent (ni_mt a).2.2.1 as) [] z h with
                  | some (r, z1, h1) => if decide (z1 = z) || (ls.all (ni_okv z.1) && rest.all (ni_okv z.1)) then ni_run n (d' + 1) m (pc + len) ls (r.toList ++ rest) z1 h1 else none
                  | none => none
                else none
              | _, _ => none
abbrev ni_Q : Type := Option Value → ni_Z → ni_H → Prop
def ni_T (d m pc : Nat) (ls st : List Value) (z : ni_Z) (h : ni_H) (Q : ni_Q) : Prop := ∃ n r z' h', ni_run n d m pc ls st z h = some (r, z', h') ∧ Q r z' h'
/-- what goes on behind a call -/
def ni_K (d m pc : Nat) (ls st : List Value) (z0 : ni_Z) (Q : ni_Q) : ni_Q := fun r z h => (z = z0 ∨ (ls.all (ni_okv z0.1) && st.all (ni_okv z0.1)) = true) ∧ ni_T d m pc ls (r.toList ++ st) z h Q
theorem ni_T_mono {d m pc : Nat} {ls st : List Value} {z : ni_Z} {h : ni_H} {Q Q' : ni_Q} (hq : ∀ r z h, Q r z h → Q' r z h) (t : ni_T d m pc ls st z h Q) : ni_T d m pc ls st z h Q' := by
  obtain ⟨n, r, z', h', e, q⟩ := t
  exact ⟨n, r, z', h', e, hq _ _ _ q⟩
/-- one step of a run that isn't a call: the run is that of the next state -/
theorem ni_T_next {d m pc pc' : Nat} {ls ls' st st' : List Value} {z z' : ni_Z} {h h' : ni_H} {Q : ni_Q} (e : ∀ n, ni_run (n + 1) d m pc ls st z h = ni_run n d m pc' ls' st' z' h') : ni_T d m pc ls st z h Q = ni_T d m pc' ls' st' z' h' Q := by
  apply propext
  constructor
  · rintro ⟨n, r, z1, h1, g, q⟩
    cases n with
    | zero => simp [ni_run] at g
    | succ n => exact ⟨n, r, z1, h1, by rw [← e]; exact g, q⟩
  · rintro ⟨n, r, z1, h1, g, q⟩
    exact ⟨n + 1, r, z1, h1, by rw [e]; exact g, q⟩
theorem ni_T_stuck {d m pc : Nat} {ls st : List Value} {z : ni_Z} {h : ni_H} {Q : ni_Q} (e : ∀ n, ni_run (n + 1) d m pc ls st z h = none) : ni_T d m pc ls st z h Q = False := by
  apply propext
  constructor
  · rintro ⟨n, r, z1, h1, g, q⟩
    cases n with
    | zero => simp [ni_run] at g
    | succ n => rw [e] at g; cases g
  · exact False.elim
theorem ni_T_p {d m pc len a b pc' : Nat} {ins : Instr} {v : Value} {ty : FieldType} {ls ls' st st' : List Value} {z : ni_Z} {h : ni_H} {Q : ni_Q} (hat : ni_at m pc = some (ins, len, a, b, v, ty)) (hp : ni_p ins len a pc ls st = some (pc', ls', st')) : ni_T d m pc ls st z h Q = ni_T d m pc' ls' st' z h Q := by
  apply ni_T_next
  intro n
  simp only [ni_run, hat, hp]
theorem ni_T_b {d m pc len a b p1 p2 : Nat} {c : Prop} [Decidable c] {ins : Instr} {v : Value} {ty : FieldType} {ls ls' st st' : List Value} {z : ni_Z} {h : ni_H} {Q : ni_Q} (hat : ni_at m pc = some (ins, len, a, b, v, ty)) (hp : ni_p ins len a pc ls st = some (if c then p1 else p2, ls', st')) : ni_T d m pc ls st z h Q = if c then ni_T d m p1 ls' st' z h Q else ni_T d m p2 ls' st' z h Q := by
  rw [ni_T_p hat hp]
  split <;> rfl
/-- a step of ni_h under a test -/
theorem ni_T_h {d m pc len a b : Nat} {c : Bool} {ins : Instr} {v : Value} {ty : FieldType} {ls st st' : List Value} {z : ni_Z} {h h' : ni_H} {Q : ni_Q} (hat : ni_at m pc = some (ins, len, a, b, v, ty)) (hp : ni_p ins len a pc ls st = none) (hh : ni_h ins a b v ty d st h = if c = true then some (st', h') else none) (hn : ni_n ins a ls st ni_dfs z h = none) (hr : ni_r (ni_mt m).2.2.2.1 ins st = none) (hc : ni_c ins (ni_rk (ni_mt a).2.2.2.2) b st h = none) : ni_T d m pc ls st z h Q = (c = true ∧ ni_T d m (pc + len) ls st' z h' Q) := by
  cases c with
  | true =>
    simp only [true_and]
    apply ni_T_next
    intro n
    simp only [ni_run, hat, hp, hh, if_true]
  | false =>
    rw [ni_T_stuck]
    · simp
    · intro n
      simp only [ni_run, hat, hp, hh, Bool.false_eq_true, if_false, hn, hr, hc]
theorem ni_T_hs {d m pc len a b : Nat} {ins : Instr} {v : Value} {ty : FieldType} {ls st st' : List Value} {z : ni_Z} {h h' : ni_H} {Q : ni_Q} (hat : ni_at m pc = some (ins, len, a, b, v, ty)) (hp : ni_p ins len a pc ls st = none) (hh : ni_h ins a b v ty d st h = some (st', h')) : ni_T d m pc ls st z h Q = ni_T d m (pc + len) ls st' z h' Q := by
  apply ni_T_next
  intro n
  simp only [ni_run, hat, hp, hh]
/-- what every row of the code that reads or writes cells says -/
theorem ni_T_getf {d m pc a b i : Nat} {v : Value} {ty : FieldType} {ls st : List Value} {o : Nat} {z : ni_Z} {h : ni_H} {Q : ni_Q} (hat : ni_at m pc = some (.getfield i, 3, a, b, v, ty)) : ni_T d m pc ls (.ref o :: st) z h Q = (ni_is (h o) a b = true ∧ ni_T d m (pc + 3) ls (ni_gv (h o) b :: st) z h Q) :=
  ni_T_h hat rfl rfl rfl rfl rfl
theorem ni_T_putf {d m pc a b i : Nat} {v w : Value} {ty : FieldType} {ls st : List Value} {o : Nat} {z : ni_Z} {h : ni_H} {Q : ni_Q} (hat : ni_at m pc = some (.putfield i, 3, a, b, v, ty)) : ni_T d m pc ls (w :: .ref o :: st) z h Q = ((Nat.ble a 7 && ni_is (h o) a b && ni_fit ty w) = true ∧ ni_T d m (pc + 3) ls st z (ni_up h o (ni_pv (h o) b w)) Q) :=
  ni_T_h hat rfl rfl rfl rfl rfl
theorem ni_T_iald {d m pc a b : Nat} {v : Value} {ty : FieldType} {ls st : List Value} {o : Nat} {i : Int32} {z : ni_Z} {h : ni_H} {Q : ni_Q} (hat : ni_at m pc = some (.iaload, 1, a, b, v, ty)) : ni_T d m pc ls (.int i :: .ref o :: st) z h Q = (ni_okI (h o) i = true ∧ ni_T d m (pc + 1) ls (.int (ni_gi (h o) i) :: st) z h Q) :=
  ni_T_h hat rfl rfl rfl rfl rfl
theorem ni_T_bald {d m pc a b : Nat} {v : Value} {ty : FieldType} {ls st : List Value} {o : Nat} {i : Int32} {z : ni_Z} {h : ni_H} {Q : ni_Q} (hat : ni_at m pc = some (.baload, 1, a, b, v, ty)) : ni_T d m pc ls (.int i :: .ref o :: st) z h Q = (ni_okB (h o) i = true ∧ ni_T d m (pc + 1) ls (.int (ni_gi (h o) i) :: st) z h Q) :=
  ni_T_h hat rfl rfl rfl rfl rfl
theorem ni_T_lald {d m pc a b : Nat} {v : Value} {ty : FieldType} {ls st : List Value} {o : Nat} {i : Int32} {z : ni_Z} {h : ni_H} {Q : ni_Q} (hat : ni_at m pc = some (.laload, 1, a, b, v, ty)) : ni_T d m pc ls (.int i :: .ref o :: st) z h Q = (ni_okL (h o) i = true ∧ ni_T d m (pc + 1) ls (.long (ni_gl (h o) i) :: st) z h Q) :=
  ni_T_h hat rfl rfl rfl rfl rfl
theorem ni_T_aald {d m pc a b : Nat} {v : Value} {ty : FieldType} {ls st : List Value} {o : Nat} {i : Int32} {z : ni_Z} {h : ni_H} {Q : ni_Q} (hat : ni_at m pc = some (.aaload, 1, a, b, v, ty)) : ni_T d m pc ls (.int i :: .ref o :: st) z h Q = (ni_okA (h o) i = true ∧ ni_T d m (pc + 1) ls (ni_ga (h o) i :: st) z h Q) :=
  ni_T_h hat rfl rfl rfl rfl rfl
theorem ni_T_iast {d m pc a b : Nat} {v : Value} {ty : FieldType} {ls st : List Value} {o : Nat} {i x : Int32} {z : ni_Z} {h : ni_H} {Q : ni_Q} (hat : ni_at m pc = some (.iastore, 1, a, b, v, ty)) : ni_T d m pc ls (.int x :: .int i :: .ref o :: st) z h Q = (ni_okS (h o) i = true ∧ ni_T d m (pc + 1) ls st z (ni_up h o (ni_pi (h o) i x)) Q) :=
  ni_T_h hat rfl rfl rfl rfl rfl
theorem ni_T_last {d m pc a b : Nat} {v : Value} {ty : FieldType} {ls st : List Value} {o : Nat} {i : Int32} {x : Int64} {z : ni_Z} {h : ni_H} {Q : ni_Q} (hat : ni_at m pc = some (.lastore, 1, a, b, v, ty)) : ni_T d m pc ls (.long x :: .int i :: .ref o :: st) z h Q = (ni_okL (h o) i = true ∧ ni_T d m (pc + 1) ls st z (ni_up h o (ni_pl (h o) i x)) Q) :=
  ni_T_h hat rfl rfl rfl rfl rfl
theorem ni_T_aast {d m pc a b : Nat} {v : Value} {ty : FieldType} {ls st : List Value} {o x : Nat} {i : Int32} {z : ni_Z} {h : ni_H} {Q : ni_Q} (hat : ni_at m pc = some (.aastore, 1, a, b, v, ty)) : ni_T d m pc ls (.ref x :: .int i :: .ref o :: st) z h Q = ((ni_okA (h o) i && (ni_rc (h x) (ni_elt (ni_tag (h o))) && Nat.ble (i.toNatClampNeg + 1) (ni_ll (h o)))) = true ∧ ni_T d m (pc + 1) ls st z (ni_up h o (ni_pa (h o) i x)) Q) :=
  ni_T_h hat rfl rfl rfl rfl rfl
theorem ni_T_alen {d m pc a b : Nat} {v : Value} {ty : FieldType} {ls st : List Value} {o : Nat} {z : ni_Z} {h : ni_H} {Q : ni_Q} (hat : ni_at m pc = some (.arraylength, 1, a, b, v, ty)) : ni_T d m pc ls (.ref o :: st) z h Q = (ni_arr (h o) = true ∧ ni_T d m (pc + 1) ls (.int (Int32.ofNat (ni_len (h o))) :: st) z h Q) :=
  ni_T_h hat rfl rfl rfl rfl rfl
theorem ni_T_div {d m pc len a b : Nat} {c : Prop} [Decidable c] {ins : Instr} {v : Value} {ty : FieldType} {ls st st' : List Value} {z : ni_Z} {h h' : ni_H} {Q : ni_Q} (hat : ni_at m pc = some (ins, len, a, b, v, ty)) (hp : ni_p ins len a pc ls st = none) (hh : ni_h ins a b v ty d st h = if c then none else some (st', h')) (hn : ni_n ins a ls st ni_dfs z h = none) (hr : ni_r (ni_mt m).2.2.2.1 ins st = none) (hc : ni_c ins (ni_rk (ni_mt a).2.2.2.2) b st h = none) : ni_T d m pc ls st z h Q = (¬ c ∧ ni_T d m (pc + len) ls st' z h' Q) := by
  by_cases e : c
  · rw [ni_T_stuck]
    · simp [e]
    · intro n
      simp only [ni_run, hat, hp, hh, if_pos e, hn, hr, hc]
  · rw [if_neg e] at hh
    rw [ni_T_hs hat hp hh]
    simp [e]
theorem ni_T_idiv {d m pc a b : Nat} {v : Value} {ty : FieldType} {ls st : List Value} {x y : Int32} {z : ni_Z} {h : ni_H} {Q : ni_Q} (hat : ni_at m pc = some (.idiv, 1, a, b, v, ty)) : ni_T d m pc ls (.int y :: .int x :: st) z h Q = (¬ y = 0 ∧ ni_T d m (pc + 1) ls (.int (x / y) :: st) z h Q) :=
  ni_T_div hat rfl rfl rfl rfl rfl
theorem ni_T_irem {d m pc a b : Nat} {v : Value} {ty : FieldType} {ls st : List Value} {x y : Int32} {z : ni_Z} {h : ni_H} {Q : ni_Q} (hat : ni_at m pc = some (.irem, 1, a, b, v, ty)) : ni_T d m pc ls (.int y :: .int x :: st) z h Q = (¬ y = 0 ∧ ni_T d m (pc + 1) ls (.int (x - x / y * y) :: st) z h Q) :=
  ni_T_div hat rfl rfl rfl rfl rfl
theorem ni_T_ldiv {d m pc a b : Nat} {v : Value} {ty : FieldType} {ls st : List Value} {x y : Int64} {z : ni_Z} {h : ni_H} {Q : ni_Q} (hat : ni_at m pc = some (.ldiv, 1, a, b, v, ty)) : ni_T d m pc ls (.long y :: .long x :: st) z h Q = (¬ y = 0 ∧ ni_T d m (pc + 1) ls (.long (x / y) :: st) z h Q) :=
  ni_T_div hat rfl rfl rfl rfl rfl
/-- an end -/
theorem ni_T_r {d m pc len a b : Nat} {ins : Instr} {v : Value} {ty : FieldType} {ls st : List Value} {r : Option Value} {z : ni_Z} {h : ni_H} {Q : ni_Q} (hat : ni_at m pc = some (ins, len, a, b, v, ty)) (hp : ni_p ins len a pc ls st = none) (hh : ni_h ins a b v ty d st h = none) (hn : ni_n ins a ls st ni_dfs z h = none) (hr : ni_r (ni_mt m).2.2.2.1 ins st = some r) : ni_T d m pc ls st z h Q = Q r z h := by
  apply propext
  constructor
  · rintro ⟨n, r1, z1, h1, g, q⟩
    cases n with
    | zero => simp [ni_run] at g
    | succ n =>
      simp only [ni_run, hat, hp, hh, hn, hr] at g
      cases g
      exact q
  · intro q
    exact ⟨1, r, z, h, by simp only [ni_run, hat, hp, hh, hn, hr], q⟩
theorem ni_T_v {d m pc a b : Nat} {v : Value} {ty : FieldType} {ls : List Value} {z : ni_Z} {h : ni_H} {Q : ni_Q} (hat : ni_at m pc = some (.return_, 1, a, b, v, ty)) (hm : (ni_mt m).2.2.2.1 = none) : ni_T d m pc ls [] z h Q = Q none z h :=
  ni_T_r hat rfl rfl rfl (by rw [hm]; rfl)
theorem ni_T_i {d m pc a b : Nat} {v : Value} {x : Int32} {ty : FieldType} {ls : List Value} {z : ni_Z} {h : ni_H} {Q : ni_Q} (hat : ni_at m pc = some (.ireturn, 1, a, b, v, ty)) (hm : (ni_mt m).2.2.2.1 = some .int) : ni_T d m pc ls [.int x] z h Q = Q (some (.int x)) z h :=
  ni_T_r hat rfl rfl rfl (by rw [hm]; simp [ni_r, narrow])
theorem ni_T_z {d m pc a b : Nat} {v : Value} {x : Int32} {rt : FieldType} {ty : FieldType} {ls : List Value} {z : ni_Z} {h : ni_H} {Q : ni_Q} (hat : ni_at m pc = some (.ireturn, 1, a, b, v, ty)) (hm : (ni_mt m).2.2.2.1 = some rt) : ni_T d m pc ls [.int x] z h Q = (narrow rt (.int x) = .int x ∧ Q (some (.int x)) z h) := by
  by_cases e : narrow rt (.int x) = .int x
  · rw [ni_T_r (r := some (.int x)) hat rfl rfl rfl (by rw [hm]; simp [ni_r, e])]
    simp [e]
  · rw [ni_T_stuck]
    · simp [e]
    · intro n
      have h1 : ni_r (ni_mt m).2.2.2.1 .ireturn [.int x] = none := by rw [hm]; simp [ni_r, e]
      simp only [ni_run, hat, h1]
      cases d <;> rfl
theorem ni_T_l {d m pc a b : Nat} {v : Value} {x : Int64} {ty : FieldType} {ls : List Value} {z : ni_Z} {h : ni_H} {Q : ni_Q} (hat : ni_at m pc = some (.lreturn, 1, a, b, v, ty)) (hm : (ni_mt m).2.2.2.1 = some .long) : ni_T d m pc ls [.long x] z h Q = Q (some (.long x)) z h :=
  ni_T_r hat rfl rfl rfl (by rw [hm]; rfl)
theorem ni_T_a {d m pc a b : Nat} {v : Value} {x : Nat} {C : String} {ty : FieldType} {ls : List Value} {z : ni_Z} {h : ni_H} {Q : ni_Q} (hat : ni_at m pc = some (.areturn, 1, a, b, v, ty)) (hm : (ni_mt m).2.2.2.1 = some (.object C)) : ni_T d m pc ls [.ref x] z h Q = Q (some (.ref x)) z h :=
  ni_T_r hat rfl rfl rfl (by rw [hm]; rfl)
theorem ni_T_aN {d m pc a b : Nat} {v : Value} {C : String} {ty : FieldType} {ls : List Value} {z : ni_Z} {h : ni_H} {Q : ni_Q} (hat : ni_at m pc = some (.areturn, 1, a, b, v, ty)) (hm : (ni_mt m).2.2.2.1 = some (.object C)) : ni_T d m pc ls [.null] z h Q = Q (some .null) z h :=
  ni_T_r hat rfl rfl rfl (by rw [hm]; rfl)
/-- more fuel -/
theorem ni_run_more : ∀ (n k d m pc : Nat) (ls st : List Value) (z : ni_Z) (h : ni_H) (q : Option Value × ni_Z × ni_H), ni_run n d m pc ls st z h = some q → ni_run (n + k) d m pc ls st z h = some q := by
  intro n
  induction n with
  | zero => intro k d m pc ls st z h q g; simp [ni_run] at g
  | succ n ih =>
    intro k d m pc ls st z h q g
    rw [show n + 1 + k = (n + k) + 1 by omega]
    simp only [ni_run] at g ⊢
    split at g
    · cases g
    · split at g
      · exact ih _ _ _ _ _ _ _ _ _ g
      · split at g
        · exact ih _ _ _ _ _ _ _ _ _ g
        · split at g
          · exact ih _ _ _ _ _ _ _ _ _ g
          · split at g
            · exact g
            · split at g
              · split at g
                · next hif =>
                  rw [if_pos hif]
                  split at g
                  · next hr =>
                    rw [ih _ _ _ _ _ _ _ _ _ hr]
                    split at g
                    · next hif2 =>
                      simp only
                      rw [if_pos hif2]
                      exact ih _ _ _ _ _ _ _ _ _ g
                    · cases g
                  · cases g
                · cases g
              · cases g
/-- a call -/
theorem ni_T_c {d m pc len a b : Nat} {ins : Instr} {v : Value} {ty : FieldType} {ls st as rest : List Value} {z : ni_Z} {h : ni_H} {Q : ni_Q} {c : Bool} (hat : ni_at m pc = some (ins, len, a, b, v, ty)) (hp : ni_p ins len a pc ls st = none) (hh : ni_h ins a b v ty (d + 1) st h = none) (hn : ni_n ins a ls st ni_dfs z h = none) (hr : ni_r (ni_mt m).2.2.2.1 ins st = none) (hc : ni_c ins (ni_rk (ni_mt a).2.2.2.2) b st h = if c = true then some (as, rest) else none) (hl : (Nat.ble ((ni_sl as).length) (ni_mt a).2.2.1 && Nat.ble (a + 1) 900) = true) : ni_T (d + 1) m pc ls st z h Q = (c = true ∧ Nat.ble (ni_sw rest) 8 = true ∧ ni_T d a 0 (ni_ent (ni_mt a).2.2.1 as) [] z h (ni_K (d + 1) m (pc + len) ls rest z Q)) := by
  cases c with
  | false =>
    rw [ni_T_stuck]
    · simp
    · intro n
      simp only [ni_run, hat, hp, hh, hn, hr, hc, Bool.false_eq_true, if_false]
  | true =>
    simp only [if_true] at hc
    by_cases hs : Nat.ble (ni_sw rest) 8 = true
    · have e : ∀ n, ni_run (n + 1) (d + 1) m pc ls st z h = match ni_run n d a 0 (ni_ent (ni_mt a).2.2.1 as) [] z h with
          | some (r, z1, h1) => if decide (z1 = z) || (ls.all (ni_okv z.1) && rest.all (ni_okv z.1)) then ni_run n (d + 1) m (pc + len) ls (r.toList ++ rest) z1 h1 else none
          | none => none := by
        intro n
        simp only [ni_run, hat, hp, hh, hn, hr, hc, hs, hl, Bool.and_true, if_true]
      simp only [hs, true_and]
      apply propext
      constructor
      · rintro ⟨n, r, z1, h1, g, q⟩
        cases n with
        | zero => simp [ni_run] at g
        | succ n =>
          rw [e] at g
          split at g
          · next r2 z2 h2 hr2 =>
            split at g
            · next hif =>
              refine ⟨n, r2, z2, h2, hr2, ?_, n, r, z1, h1, g, q⟩
              simpa using hif
            · cases g
          · cases g
      · rintro ⟨n, r2, z2, h2, hr2, hif, n3, r, z1, h1, g, q⟩
        refine ⟨n + n3 + 1, r, z1, h1, ?_, q⟩
        rw [e, ni_run_more _ n3 _ _ _ _ _ _ _ _ hr2]
        simp only
        rw [if_pos (by simpa using hif), show n + n3 = n3 + n by omega]
        exact ni_run_more _ n _ _ _ _ _ _ _ _ g
    · rw [ni_T_stuck]
      · simp [hs]
      · intro n
        simp only [ni_run, hat, hp, hh, hn, hr, hc, hs, Bool.false_and, Bool.false_eq_true, if_false]
theorem ni_K_s {d m pc : Nat} {ls st : List Value} {z : ni_Z} {h : ni_H} {Q : ni_Q} {v : Value} : ni_K d m pc ls st z Q (some v) z h = ni_T d m pc ls (v :: st) z h Q := by
  simp [ni_K]
theorem ni_K_n {d m pc : Nat} {ls st : List Value} {z : ni_Z} {h : ni_H} {Q : ni_Q} : ni_K d m pc ls st z Q none z h = ni_T d m pc ls st z h Q := by
  simp [ni_K]
theorem ni_K_so {d m pc : Nat} {ls st : List Value} {z0 z : ni_Z} {h : ni_H} {Q : ni_Q} {v : Value} (ho : (ls.all (ni_okv z0.1) && st.all (ni_okv z0.1)) = true) : ni_K d m pc ls st z0 Q (some v) z h = ni_T d m pc ls (v :: st) z h Q := by
  simp only [ni_K, ho]
  simp
theorem ni_K_no {d m pc : Nat} {ls st : List Value} {z0 z : ni_Z} {h : ni_H} {Q : ni_Q} (ho : (ls.all (ni_okv z0.1) && st.all (ni_okv z0.1)) = true) : ni_K d m pc ls st z0 Q none z h = ni_T d m pc ls st z h Q := by
  simp only [ni_K, ho]
  simp
/-- a call of a static method -/
theorem ni_T_cs {d m pc len a b : Nat} {ins : Instr} {v : Value} {ty : FieldType} {ls st as rest : List Value} {z : ni_Z} {h : ni_H} {Q : ni_Q} (hat : ni_at m pc = some (ins, len, a, b, v, ty)) (hp : ni_p ins len a pc ls st = none) (hh : ni_h ins a b v ty (d + 1) st h = none) (hn : ni_n ins a ls st ni_dfs z h = none) (hr : ni_r (ni_mt m).2.2.2.1 ins st = none) (hc : ni_c ins (ni_rk (ni_mt a).2.2.2.2) b st h = some (as, rest)) (hl : (Nat.ble ((ni_sl as).length) (ni_mt a).2.2.1 && Nat.ble (a + 1) 900) = true) : ni_T (d + 1) m pc ls st z h Q = (Nat.ble (ni_sw rest) 8 = true ∧ ni_T d a 0 (ni_ent (ni_mt a).2.2.1 as) [] z h (ni_K (d + 1) m (pc + len) ls rest z Q)) := by
  rw [ni_T_c (c := true) hat hp hh hn hr (by rw [hc]; rfl) hl]
  simp
/-- making -/
theorem ni_T_n {d m pc len a b : Nat} {c : Bool} {ins : Instr} {v : Value} {ty : FieldType} {ls st st' : List Value} {z z' : ni_Z} {h h' : ni_H} {Q : ni_Q} (hat : ni_at m pc = some (ins, len, a, b, v, ty)) (hp : ni_p ins len a pc ls st = none) (hh : ni_h ins a b v ty d st h = none) (hn : ni_n ins a ls st ni_dfs z h = if c = true then some (st', z', h') else none) (hr : ni_r (ni_mt m).2.2.2.1 ins st = none) (hc : ni_c ins (ni_rk (ni_mt a).2.2.2.2) b st h = none) : ni_T d m pc ls st z h Q = (c = true ∧ ni_T d m (pc + len) ls st' z' h' Q) := by
  cases c with
  | true =>
    simp only [true_and]
    apply ni_T_next
    intro n
    simp only [ni_run, hat, hp, hh, hn, if_true]
  | false =>
    rw [ni_T_stuck]
    · simp
    · intro n
      simp only [ni_run, hat, hp, hh, Bool.false_eq_true, if_false, hn, hr, hc]
/-- a switch's other way -/
theorem ni_T_tsw {d m pc len a b t : Nat} {df lo hi : Int} {offs : Array Int} {x : Int32} {v : Value} {ty : FieldType} {ls st : List Value} {z : ni_Z} {h : ni_H} {Q : ni_Q} (hat : ni_at m pc = some (.tableswitch df lo hi offs, len, a, b, v, ty)) (hx : x.toInt < lo ∨ hi < x.toInt) (h0 : 0 ≤ (pc : Int) + df) (ht : ((pc : Int) + df).toNat = t) : ni_T d m pc ls (.int x :: st) z h Q = ni_T d m t ls st z h Q := by
  refine ni_T_p hat ?_
  simp only [ni_p, ni_tsw, if_pos hx, if_pos h0, ht]
theorem ni_T_ce {d m pc len a b pc2 : Nat} {ins : Instr} {v : Value} {ty : FieldType} {ls st rest ent : List Value} {z : ni_Z} {h : ni_H} {Q : ni_Q} {c : Bool} (as : List Value) (hat : ni_at m pc = some (ins, len, a, b, v, ty)) (hp : ni_p ins len a pc ls st = none) (hh : ni_h ins a b v ty (d + 1) st h = none) (hn : ni_n ins a ls st ni_dfs z h = none) (hr : ni_r (ni_mt m).2.2.2.1 ins st = none) (hc : ni_c ins (ni_rk (ni_mt a).2.2.2.2) b st h = if c = true then some (as, rest) else none) (hl : (Nat.ble ((ni_sl as).length) (ni_mt a).2.2.1 && Nat.ble (a + 1) 900) = true) (he : ni_ent (ni_mt a).2.2.1 as = ent) (h2 : pc + len = pc2) : ni_T (d + 1) m pc ls st z h Q = (c = true ∧ Nat.ble (ni_sw rest) 8 = true ∧ ni_T d a 0 ent [] z h (ni_K (d + 1) m pc2 ls rest z Q)) := by
  rw [← he, ← h2]
  exact ni_T_c hat hp hh hn hr hc hl
theorem ni_T_cse {d m pc len a b pc2 : Nat} {ins : Instr} {v : Value} {ty : FieldType} {ls st rest ent : List Value} {z : ni_Z} {h : ni_H} {Q : ni_Q} (as : List Value) (hat : ni_at m pc = some (ins, len, a, b, v, ty)) (hp : ni_p ins len a pc ls st = none) (hh : ni_h ins a b v ty (d + 1) st h = none) (hn : ni_n ins a ls st ni_dfs z h = none) (hr : ni_r (ni_mt m).2.2.2.1 ins st = none) (hc : ni_c ins (ni_rk (ni_mt a).2.2.2.2) b st h = some (as, rest)) (hl : (Nat.ble ((ni_sl as).length) (ni_mt a).2.2.1 && Nat.ble (a + 1) 900) = true) (he : ni_ent (ni_mt a).2.2.1 as = ent) (h2 : pc + len = pc2) : ni_T (d + 1) m pc ls st z h Q = (Nat.ble (ni_sw rest) 8 = true ∧ ni_T d a 0 ent [] z h (ni_K (d + 1) m pc2 ls rest z Q)) := by
  rw [← he, ← h2]
  exact ni_T_cs hat hp hh hn hr hc hl
theorem ni_T_hse {d m pc len a b pc2 : Nat} {ins : Instr} {v : Value} {ty : FieldType} {ls st st' : List Value} {z : ni_Z} {h h' : ni_H} {Q : ni_Q} (hat : ni_at m pc = some (ins, len, a, b, v, ty)) (hp : ni_p ins len a pc ls st = none) (hh : ni_h ins a b v ty d st h = some (st', h')) (h2 : pc + len = pc2) : ni_T d m pc ls st z h Q = ni_T d m pc2 ls st' z h' Q := by
  rw [← h2]
  exact ni_T_hs hat hp hh
theorem ni_T_he {d m pc len a b pc2 : Nat} {c : Bool} {ins : Instr} {v : Value} {ty : FieldType} {ls st st' : List Value} {z : ni_Z} {h h' : ni_H} {Q : ni_Q} (hat : ni_at m pc = some (ins, len, a, b, v, ty)) (hp : ni_p ins len a pc ls st = none) (hh : ni_h ins a b v ty d st h = if c = true then some (st', h') else none) (hn : ni_n ins a ls st ni_dfs z h = none) (hr : ni_r (ni_mt m).2.2.2.1 ins st = none) (hc : ni_c ins (ni_rk (ni_mt a).2.2.2.2) b st h = none) (h2 : pc + len = pc2) : ni_T d m pc ls st z h Q = (c = true ∧ ni_T d m pc2 ls st' z h' Q) := by
  rw [← h2]
  exact ni_T_h hat hp hh hn hr hc
theorem ni_T_ne {d m pc len a b pc2 : Nat} {c : Bool} {ins : Instr} {v : Value} {ty : FieldType} {ls st st' : List Value} {z z' : ni_Z} {h h' : ni_H} {Q : ni_Q} (hat : ni_at m pc = some (ins, len, a, b, v, ty)) (hp : ni_p ins len a pc ls st = none) (hh : ni_h ins a b v ty d st h = none) (hn : ni_n ins a ls st ni_dfs z h = if c = true then some (st', z', h') else none) (hr : ni_r (ni_mt m).2.2.2.1 ins st = none) (hc : ni_c ins (ni_rk (ni_mt a).2.2.2.2) b st h = none) (h2 : pc + len = pc2) : ni_T d m pc ls st z h Q = (c = true ∧ ni_T d m pc2 ls st' z' h' Q) := by
  rw [← h2]
  exact ni_T_n hat hp hh hn hr hc
/-- the constructor of Object -/
theorem ni_T_oi {d m pc b i pc2 : Nat} {v : Value} {ty : FieldType} {ls st : List Value} {o : Nat} {z : ni_Z} {h : ni_H} {Q : ni_Q} (hat : ni_at m pc = some (.invokespecial i, 3, 901, b, v, ty)) (hd : Nat.ble 1 d = true) (hs : Nat.ble (ni_sw st) 8 = true) (h2 : pc + 3 = pc2) : ni_T d m pc ls (.ref o :: st) z h Q = ni_T d m pc2 ls st z h Q := by
  rw [← h2]
  refine ni_T_hs hat rfl ?_
  simp [ni_h, hd, hs]
/-- System.arraycopy -/
theorem ni_T_ac {d m pc b i pc2 : Nat} {v : Value} {ty : FieldType} {ls st : List Value} {o0 o1 : Nat} {n dp sp : Int32} {e : ni_E} {z : ni_Z} {h : ni_H} {Q : ni_Q} (hat : ni_at m pc = some (.invokestatic i, 3, 900, b, v, ty)) (hd : Nat.ble 1 d = true) (hs : Nat.ble (ni_sw st) 8 = true) (he : ni_cpy (h o0) (h o1) sp dp n = some e) (h2 : pc + 3 = pc2) : ni_T d m pc ls (.int n :: .int dp :: .ref o1 :: .int sp :: .ref o0 :: st) z h Q = ni_T d m pc2 ls st z (ni_up h o1 e) Q := by
  rw [← h2]
  refine ni_T_hs hat rfl ?_
  simp [ni_h, hd, hs, he]
/-- Math.abs, max, min -/
theorem ni_T_mabs {d m pc b i pc2 : Nat} {v : Value} {ty : FieldType} {ls st : List Value} {x : Int32} {z : ni_Z} {h : ni_H} {Q : ni_Q} (hat : ni_at m pc = some (.invokestatic i, 3, 902, b, v, ty)) (hs : Nat.ble (ni_sw st) 8 = true) (h2 : pc + 3 = pc2) : ni_T (d + 1) m pc ls (.int x :: st) z h Q = ni_T (d + 1) m pc2 ls (.int (if 0 ≤ x then x else 0 - x) :: st) z h Q := by
  rw [← h2]
  refine ni_T_hs hat rfl ?_
  simp [ni_h, hs, show Nat.beq 902 900 = false from by decide, show Nat.beq 903 900 = false from by decide, show Nat.beq 903 902 = false from by decide, show Nat.beq 904 900 = false from by decide, show Nat.beq 904 902 = false from by decide, show Nat.beq 904 903 = false from by decide]
theorem ni_T_mmax {d m pc b i pc2 : Nat} {v : Value} {ty : FieldType} {ls st : List Value} {x y : Int32} {z : ni_Z} {h : ni_H} {Q : ni_Q} (hat : ni_at m pc = some (.invokestatic i, 3, 903, b, v, ty)) (hs : Nat.ble (ni_sw st) 8 = true) (h2 : pc + 3 = pc2) : ni_T (d + 1) m pc ls (.int y :: .int x :: st) z h Q = ni_T (d + 1) m pc2 ls (.int (if x < y then y else x) :: st) z h Q := by
  rw [← h2]
  refine ni_T_hs hat rfl ?_
  simp [ni_h, hs, show Nat.beq 902 900 = false from by decide, show Nat.beq 903 900 = false from by decide, show Nat.beq 903 902 = false from by decide, show Nat.beq 904 900 = false from by decide, show Nat.beq 904 902 = false from by decide, show Nat.beq 904 903 = false from by decide]
theorem ni_T_mmin {d m pc b i pc2 : Nat} {v : Value} {ty : FieldType} {ls st : List Value} {x y : Int32} {z : ni_Z} {h : ni_H} {Q : ni_Q} (hat : ni_at m pc = some (.invokestatic i, 3, 904, b, v, ty)) (hs : Nat.ble (ni_sw st) 8 = true) (h2 : pc + 3 = pc2) : ni_T (d + 1) m pc ls (.int y :: .int x :: st) z h Q = ni_T (d + 1) m pc2 ls (.int (if y < x then y else x) :: st) z h Q := by
  rw [← h2]
  refine ni_T_hs hat rfl ?_
  simp [ni_h, hs, show Nat.beq 902 900 = false from by decide, show Nat.beq 903 900 = false from by decide, show Nat.beq 903 902 = false from by decide, show Nat.beq 904 900 = false from by decide, show Nat.beq 904 902 = false from by decide, show Nat.beq 904 903 = false from by decide]
