theorem ni_T_mc {d m pc b i a pc2 : Nat} {v : Value} {ty : FieldType} {ls st rest : List Value} {w : Value} {z : ni_Z} {h : ni_H} {Q : ni_Q} (hat : ni_at m pc = some (.invokestatic i, 3, a, b, v, ty)) (ha : Nat.ble (a + 1) 900 = false) (hh : ni_h (.invokestatic i) a b v ty (d + 1) st h = if (Nat.ble 1 (d + 1) && Nat.ble (ni_sw rest) 8) = true then some (w :: rest, h) else none) (h2 : pc + 3 = pc2) : ni_T (d + 1) m pc ls st z h Q = (Nat.ble (ni_sw rest) 8 = true ∧ ni_T (d + 1) m pc2 ls (w :: rest) z h Q) := by
  cases hs : Nat.ble (ni_sw rest) 8 with
  | true =>
    rw [hs] at hh
    rw [← h2, ni_T_hs hat rfl hh]
    simp
  | false =>
    rw [hs] at hh
    rw [ni_T_stuck]
    · simp
    · intro n
      have hh2 : ni_h (.invokestatic i) a b v ty (d + 1) st h = none := by rw [hh]; simp
      have hn : ni_n (.invokestatic i) a ls st ni_dfs z h = none := rfl
      have hr : ni_r (ni_mt m).2.2.2.1 (.invokestatic i) st = none := rfl
      have hp : ni_p (.invokestatic i) 3 a pc ls st = none := rfl
      simp only [ni_run, hat, hp, hh2, hn, hr, ha, Bool.and_false, Bool.false_eq_true, if_false]
      split <;> rfl
theorem ni_T_mabsc {d m pc b i pc2 : Nat} {v : Value} {ty : FieldType} {ls st : List Value} {x : Int32} {z : ni_Z} {h : ni_H} {Q : ni_Q} (hat : ni_at m pc = some (.invokestatic i, 3, 902, b, v, ty)) (h2 : pc + 3 = pc2) : ni_T (d + 1) m pc ls (.int x :: st) z h Q = (Nat.ble (ni_sw st) 8 = true ∧ ni_T (d + 1) m pc2 ls (.int (if 0 ≤ x then x else 0 - x) :: st) z h Q) := by
  refine ni_T_mc hat (by decide) ?_ h2
  simp [ni_h, show Nat.beq 902 900 = false from by decide]
theorem ni_T_mmaxc {d m pc b i pc2 : Nat} {v : Value} {ty : FieldType} {ls st : List Value} {x y : Int32} {z : ni_Z} {h : ni_H} {Q : ni_Q} (hat : ni_at m pc = some (.invokestatic i, 3, 903, b, v, ty)) (h2 : pc + 3 = pc2) : ni_T (d + 1) m pc ls (.int y :: .int x :: st) z h Q = (Nat.ble (ni_sw st) 8 = true ∧ ni_T (d + 1) m pc2 ls (.int (if x < y then y else x) :: st) z h Q) := by
  refine ni_T_mc hat (by decide) ?_ h2
  simp [ni_h, show Nat.beq 903 900 = false from by decide, show Nat.beq 903 902 = false from by decide]
theorem ni_T_mminc {d m pc b i pc2 : Nat} {v : Value} {ty : FieldType} {ls st : List Value} {x y : Int32} {z : ni_Z} {h : ni_H} {Q : ni_Q} (hat : ni_at m pc = some (.invokestatic i, 3, 904, b, v, ty)) (h2 : pc + 3 = pc2) : ni_T (d + 1) m pc ls (.int y :: .int x :: st) z h Q = (Nat.ble (ni_sw st) 8 = true ∧ ni_T (d + 1) m pc2 ls (.int (if y < x then y else x) :: st) z h Q) := by
  refine ni_T_mc hat (by decide) ?_ h2
  simp [ni_h, show Nat.beq 904 900 = false from by decide, show Nat.beq 904 902 = false from by decide, show Nat.beq 904 903 = false from by decide]
theorem ni_T_sp {d m pc b a : Nat} {ins : Instr} {v : Value} {ty : FieldType} {ls st : List Value} {z : ni_Z} {h : ni_H} {Q : ni_Q} (hat : ni_at m pc = some (ins, 3, a, b, v, ty)) (ha : Nat.ble (a + 1) 900 = false) (hh : ni_h ins a b v ty (d + 1) st h = none) (hn : ni_n ins a ls st ni_dfs z h = none) (hr : ni_r (ni_mt m).2.2.2.1 ins st = none) (hp : ni_p ins 3 a pc ls st = none) : ni_T (d + 1) m pc ls st z h Q = False := by
  apply ni_T_stuck
  intro n
  simp only [ni_run, hat, hp, hh, hn, hr, ha, Bool.and_false, Bool.false_eq_true, if_false]
  split <;> rfl
theorem ni_T_oic {d m pc b i pc2 : Nat} {v : Value} {ty : FieldType} {ls st : List Value} {o : Nat} {z : ni_Z} {h : ni_H} {Q : ni_Q} (hat : ni_at m pc = some (.invokespecial i, 3, 901, b, v, ty)) (h2 : pc + 3 = pc2) : ni_T (d + 1) m pc ls (.ref o :: st) z h Q = (Nat.ble (ni_sw st) 8 = true ∧ ni_T (d + 1) m pc2 ls st z h Q) := by
  cases hs : Nat.ble (ni_sw st) 8 with
  | true => rw [ni_T_oi hat (by rfl) hs h2]; simp
  | false =>
    rw [ni_T_sp hat (by decide) (by simp [ni_h, hs]) rfl rfl rfl]
    simp
theorem ni_T_acc {d m pc b i pc2 : Nat} {v : Value} {ty : FieldType} {ls st : List Value} {o0 o1 : Nat} {n dp sp : Int32} {z : ni_Z} {h : ni_H} {Q : ni_Q} (hat : ni_at m pc = some (.invokestatic i, 3, 900, b, v, ty)) (h2 : pc + 3 = pc2) : ni_T (d + 1) m pc ls (.int n :: .int dp :: .ref o1 :: .int sp :: .ref o0 :: st) z h Q = (Nat.ble (ni_sw st) 8 = true ∧ ∃ e, ni_cpy (h o0) (h o1) sp dp n = some e ∧ ni_T (d + 1) m pc2 ls st z (ni_up h o1 e) Q) := by
  cases hs : Nat.ble (ni_sw st) 8 with
  | true =>
    cases he : ni_cpy (h o0) (h o1) sp dp n with
    | some e => rw [ni_T_ac hat (by rfl) hs he h2]; simp
    | none =>
      rw [ni_T_sp hat (by decide) (by simp [ni_h, he]) rfl rfl rfl]
      simp
  | false =>
    rw [ni_T_sp hat (by decide) (by simp [ni_h, hs]) rfl rfl rfl]
    simp
