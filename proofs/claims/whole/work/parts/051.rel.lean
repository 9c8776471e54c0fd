/-! ===== what the abstract cells stand for ===== -/
def ni_cv (ad : Nat → Nat) (fm : Value) (v : Value) : Value := match v with
  | .ref i => .ref (ad i)
  | .retAddr _ => fm
  | v => v
def ni_ce (ad : Nat → Nat) (fm : Value) (ct : ClassId) (e : ni_E) : va_E := match e with
  | .inl (_, n, .inl f) => .inl (ct, n, .inl f)
  | .inl (_, n, .inr (.inl f)) => .inl (ct, n, .inr (.inl f))
  | .inl (_, n, .inr (.inr l)) => .inl (ct, n, .inr (.inr (.inr (.inr (fun j => (l.getD j none).map ad)))))
  | .inr (c, fs) => .inr (c, fs.map (ni_cv ad fm))
def ni_ws (ad : Nat → Nat) (fm : Value) (ct : Nat → ClassId) (n : Nat) (h : ni_H) : va_W := (List.range n).map fun i => (ad i, ni_ce ad fm (ct i) (h i))
theorem ni_ws_get {ad : Nat → Nat} {fm : Value} {ct : Nat → ClassId} {n i : Nat} {h : ni_H} (hi : i < n) : (ni_ws ad fm ct n h)[i]? = some (ad i, ni_ce ad fm (ct i) (h i)) := by
  simp [ni_ws, hi]
theorem ni_ws_lt {ad : Nat → Nat} {fm : Value} {ct : Nat → ClassId} {n i : Nat} {h : ni_H} {q : Nat × va_E} (hq : (ni_ws ad fm ct n h)[i]? = some q) : i < n ∧ q = (ad i, ni_ce ad fm (ct i) (h i)) := by
  have h1 : i < n := by
    have := (List.getElem?_eq_some_iff.mp hq).1
    simpa [ni_ws] using this
  rw [ni_ws_get h1] at hq
  exact ⟨h1, (Option.some.inj hq).symm⟩
theorem ni_ws_set {ad : Nat → Nat} {fm : Value} {ct : Nat → ClassId} {n i : Nat} {h : ni_H} {e : ni_E} (hi : i < n) : (ni_ws ad fm ct n h).set i (ad i, ni_ce ad fm (ct i) e) = ni_ws ad fm ct n (ni_up h i e) := by
  apply List.ext_getElem?
  intro j
  by_cases hj : j < n
  · by_cases hji : j = i
    · subst hji
      rw [List.getElem?_set_self (by simpa [ni_ws] using hj), ni_ws_get hj]
      simp [ni_up]
    · rw [List.getElem?_set_ne (Ne.symm hji), ni_ws_get hj, ni_ws_get hj]
      simp [ni_up, hji]
  · rw [List.getElem?_eq_none (by simp [ni_ws]; omega), List.getElem?_eq_none (by simp [ni_ws]; omega)]
/-- nothing known -/
def ni_un (v : Value) : Bool := match v with
  | .retAddr _ => true
  | _ => false
def ni_lr (cv : Value → Value) (als : Array Slot) (ls : List Value) : Prop := als.size = ls.length ∧ lv_wf als ∧ ∀ (i : Nat) (v : Value), ls[i]? = some v → ni_un v = false → als[i]? = some (.val (cv v))
def ni_al (cv : Value → Value) (ls : List Value) : List (Nat × Value) := (List.range ls.length).filterMap fun i => match ls[i]? with
  | some v => if ni_un v = true then none else some (i, cv v)
  | none => none
theorem ni_al_mem {cv : Value → Value} {ls : List Value} {i : Nat} {v : Value} (h : ls[i]? = some v) (hu : ni_un v = false) : (i, cv v) ∈ ni_al cv ls := by
  refine List.mem_filterMap.mpr ⟨i, List.mem_range.mpr (List.getElem?_eq_some_iff.mp h).1, ?_⟩
  simp [h, hu]
theorem ni_al_of {cv : Value → Value} {ls : List Value} {q : Nat × Value} (h : q ∈ ni_al cv ls) : ∃ v, ls[q.1]? = some v ∧ ni_un v = false ∧ q.2 = cv v := by
  obtain ⟨i, -, hi⟩ := List.mem_filterMap.mp h
  split at hi
  · next v hv =>
    split at hi
    · cases hi
    · next hu =>
      cases hi
      exact ⟨v, hv, by simpa using hu, rfl⟩
  · cases hi
theorem ni_lr_has {cv : Value → Value} {als : Array Slot} {ls : List Value} (h : ni_lr cv als ls) : lv_has als ls.length (ni_al cv ls) := by
  refine ⟨h.1, h.2.1, fun q hq => ?_⟩
  obtain ⟨v, h1, h2, h3⟩ := ni_al_of hq
  rw [h3]
  exact h.2.2 _ _ h1 h2
theorem ni_sto_get : ∀ (i : Nat) (v : Value) (ls : List Value) (j : Nat), i < ls.length → (ni_sto i v ls)[j]? = if j = i then some v else if j + 1 = i then (ls[j]?).map ni_kl else ls[j]? := by
  intro i
  induction i with
  | zero =>
    intro v ls j hi
    cases ls with
    | nil => simp at hi
    | cons a L =>
      cases j with
      | zero => simp [ni_sto]
      | succ j => simp [ni_sto]
  | succ i ih =>
    intro v ls j hi
    cases ls with
    | nil => simp at hi
    | cons a L =>
      cases i with
      | zero =>
        cases L with
        | nil => simp at hi
        | cons b L =>
          match j with
          | 0 => simp [ni_sto]
          | 1 => simp [ni_sto]
          | j + 2 => simp [ni_sto]
      | succ i =>
        have hi' : i + 1 < L.length := by simpa using hi
        cases j with
        | zero => simp [ni_sto]
        | succ j =>
          simp only [ni_sto, List.getElem?_cons_succ]
          rw [ih v L j hi']
          have e1 : (j = i + 1) = (j + 1 = i + 1 + 1) := by simp
          have e2 : (j + 1 = i + 1) = (j + 1 + 1 = i + 1 + 1) := by simp
          simp only [e1, e2]
theorem ni_sto_len : ∀ (i : Nat) (v : Value) (ls : List Value), (ni_sto i v ls).length = ls.length := by
  intro i
  induction i with
  | zero => intro v ls; cases ls <;> simp [ni_sto]
  | succ i ih =>
    intro v ls
    cases i with
    | zero =>
      cases ls with
      | nil => simp [ni_sto]
      | cons a L => cases L <;> simp [ni_sto]
    | succ i =>
      cases ls with
      | nil => simp [ni_sto]
      | cons a L => simp [ni_sto, ih]
theorem ni_lr_sto {cv : Value → Value} {als : Array Slot} {ls : List Value} {i : Nat} {v : Value} {w : Value} (hw : cv v = w) (hcv : ∀ v, ni_un v = false → (cv v).category = 2 → ∃ x, ni_kl v = .retAddr x) (hi : i < ls.length) (h : lv_has als ls.length ((i, w) :: (ni_al cv ls).filter (fun q => !(q.1 == i) && !(q.1 + 1 == i && q.2.category == 2)))) : ni_lr cv als (ni_sto i v ls) := by
  refine ⟨by rw [ni_sto_len]; exact h.1, h.2.1, fun j u hj hu => ?_⟩
  rw [ni_sto_get i v ls j hi] at hj
  by_cases e : j = i
  · rw [if_pos e] at hj
    cases hj
    rw [e, hw]
    exact h.2.2 _ List.mem_cons_self
  · rw [if_neg e] at hj
    by_cases e2 : j + 1 = i
    · rw [if_pos e2] at hj
      cases hv : ls[j]? with
      | none => rw [hv] at hj; cases hj
      | some u0 =>
        rw [hv] at hj
        have hk : ni_kl u0 = u := by simpa using hj
        have hu0 : u = u0 := by
          cases u0 <;> simp [ni_kl] at hk <;> first | exact hk.symm | (subst hk; simp [ni_un] at hu)
        subst hu0
        refine h.2.2 (j, cv u) (List.mem_cons_of_mem _ (List.mem_filter.mpr ⟨ni_al_mem hv hu, ?_⟩))
        have hc : ¬ (cv u).category = 2 := by
          intro hc
          obtain ⟨x, hx⟩ := hcv u hu hc
          rw [hk] at hx
          subst hx
          simp [ni_un] at hu
        simp [e, hc]
    · rw [if_neg e2] at hj
      refine h.2.2 (j, cv u) (List.mem_cons_of_mem _ (List.mem_filter.mpr ⟨ni_al_mem hj hu, ?_⟩))
      simp [e, e2]
theorem ni_lr_stl {cv : Value → Value} {als : Array Slot} {ls : List Value} {i : Nat} {x : Int64} (hw : cv (.long x) = .long x) (hcv : ∀ v, ni_un v = false → (cv v).category = 2 → ∃ x, ni_kl v = .retAddr x) (hi : i + 1 < ls.length) (h : lv_has als ls.length ((i, Value.long x) :: (ni_al cv ls).filter (fun q => !(q.1 == i) && (!(q.1 == i + 1) && !(q.1 + 1 == i && q.2.category == 2))))) : ni_lr cv als ((ni_sto i (.long x) ls).set (i + 1) (.retAddr 1)) := by
  refine ⟨by rw [List.length_set, ni_sto_len]; exact h.1, h.2.1, fun j u hj hu => ?_⟩
  by_cases e1 : j = i + 1
  · rw [e1, List.getElem?_set_self (by rw [ni_sto_len]; exact hi)] at hj
    cases hj
    simp [ni_un] at hu
  · rw [List.getElem?_set_ne (Ne.symm e1), ni_sto_get i _ ls j (by omega)] at hj
    by_cases e : j = i
    · rw [if_pos e] at hj
      cases hj
      rw [e, hw]
      exact h.2.2 _ List.mem_cons_self
    · rw [if_neg e] at hj
      by_cases e2 : j + 1 = i
      · rw [if_pos e2] at hj
        cases hv : ls[j]? with
        | none => rw [hv] at hj; cases hj
        | some u0 =>
          rw [hv] at hj
          have hk : ni_kl u0 = u := by simpa using hj
          have hu0 : u = u0 := by
            cases u0 <;> simp [ni_kl] at hk <;> first | exact hk.symm | (subst hk; simp [ni_un] at hu)
          subst hu0
          refine h.2.2 (j, cv u) (List.mem_cons_of_mem _ (List.mem_filter.mpr ⟨ni_al_mem hv hu, ?_⟩))
          have hc : ¬ (cv u).category = 2 := by
            intro hc
            obtain ⟨x, hx⟩ := hcv u hu hc
            rw [hk] at hx
            subst hx
            simp [ni_un] at hu
          simp [e, e1, hc]
      · rw [if_neg e2] at hj
        refine h.2.2 (j, cv u) (List.mem_cons_of_mem _ (List.mem_filter.mpr ⟨ni_al_mem hj hu, ?_⟩))
        simp [e, e1, e2]
theorem ni_cv_cat {ad : Nat → Nat} {fm : Value} (v : Value) (hu : ni_un v = false) (hc : (ni_cv ad fm v).category = 2) : ∃ x, ni_kl v = .retAddr x := by
  cases v with
  | long x => exact ⟨0, rfl⟩
  | ref i => simp [ni_cv, Value.category] at hc
  | int x => simp [ni_cv, Value.category] at hc
  | null => simp [ni_cv, Value.category] at hc
  | float x => simp [ni_cv, Value.category] at hc
  | double x => exact ⟨0, rfl⟩
  | retAddr x => simp [ni_un] at hu
theorem ni_cv_c {ad : Nat → Nat} {fm : Value} (hfm : fm.category = 1) (v : Value) : (ni_cv ad fm v).category = v.category := by
  cases v <;> simp [ni_cv, Value.category] at hfm ⊢
  exact hfm
