/-! ===== a run of the interpreter is a run of the machine ===== -/
theorem ni_run_mono : ∀ (n d m pc : Nat) (ls st : List Value) (z : ni_Z) (h : ni_H) (r : Option Value) (z' : ni_Z) (h' : ni_H), ni_run n d m pc ls st z h = some (r, z', h') → z.1 ≤ z'.1 ∧ z.2 ≤ z'.2 := by
  intro n
  induction n with
  | zero => intro d m pc ls st z h r z' h' g; simp [ni_run] at g
  | succ n ih =>
    intro d m pc ls st z h r z' h' g
    simp only [ni_run] at g
    split at g
    · cases g
    · split at g
      · exact ih _ _ _ _ _ _ _ _ _ _ g
      · split at g
        · exact ih _ _ _ _ _ _ _ _ _ _ g
        · split at g
          · next st1 z1 h1 hn =>
            have h2 := ih _ _ _ _ _ _ _ _ _ _ g
            have h3 : z.1 ≤ z1.1 ∧ z.2 ≤ z1.2 := by
              unfold ni_n at hn
              split at hn
              · split at hn
                · cases hn; simp
                · cases hn
              · split at hn
                · split at hn
                  · cases hn; simp
                  · cases hn
                · cases hn
              · split at hn
                · split at hn
                  · cases hn; simp
                  · cases hn
                · cases hn
              · split at hn
                · split at hn
                  · cases hn; simp
                  · cases hn
                · cases hn
              · cases hn
            omega
          · split at g
            · cases g; exact ⟨Nat.le_refl _, Nat.le_refl _⟩
            · split at g
              · split at g
                · split at g
                  · next r1 z1 h1 hr =>
                    split at g
                    · have h2 := ih _ _ _ _ _ _ _ _ _ _ hr
                      have h3 := ih _ _ _ _ _ _ _ _ _ _ g
                      omega
                    · cases g
                  · cases g
                · cases g
              · cases g
/-- how a run ends: at a return -/
def ni_Ret (l : Launch) (D : va_G) (fm : Value) (x : ni_H) (p : Program) (e : Env) (R : Room) (s : State) (m : MethodId) (args : Array Value) (below : List Frame) (meth : Method) (c : Code) (Qz : State → Prop) (A : Nat → Prop) (ad : Nat → Nat) (mm n n' cells slots : Nat) (r : Option Value) (h' : ni_H) : Prop :=
  ∀ (ad' : Nat → Nat) (ct' : Nat → ClassId) (H1 : Heap) (locs1 : List Loc) (pc1 : Nat) (als1 : Array Slot) (ins : Instr) (st1 : List Value), (∀ i, i < n ∨ n' ≤ i → ad' i = ad i) → ni_Wd D ad' fm ct' x A n' h' s H1 → va_S A s.heap H1 locs1 → decode (ni_mt mm).2.1 pc1 = .ok (ins, 1) → ni_r (ni_mt mm).2.2.2.1 ins st1 = some r → W p l e R s m args below meth c H1 locs1 cells slots Qz (F0 m pc1 als1 (st1.map (ni_cv ad' fm)))
def ni_Snd (l : Launch) (D : va_G) (fm : Value) (x : ni_H) (nn : Nat) : Prop :=
  ∀ (d mm pc : Nat) (ls st : List Value) (z : ni_Z) (h : ni_H) (r : Option Value) (z' : ni_Z) (h' : ni_H), ni_run nn d mm pc ls st z h = some (r, z', h') →
  ∀ (p : Program) (e : Env) (R : Room) (s : State) (m : MethodId) (args : Array Value) (below : List Frame) (meth : Method) (c : Code) (H : Heap) (locs : List Loc) (cells slots : Nat) (Qz : State → Prop) (A : Nat → Prop) (ad : Nat → Nat) (ct : Nat → ClassId) (als : Array Slot),
  p.tables.exec = Jvm.exec → c.code = (ni_mt mm).2.1 → c.maxLocals = als.size → (∀ w ∈ ni_TB, w.before args s = true) → s.vm.findClass (ni_cn (ni_own mm)) = some m.cls → meth.name = (ni_mt mm).1.name → ni_Cx D ad fm x A s → ni_Wd D ad fm ct x A z.1 h s H → va_S A s.heap H locs → (∀ q, s.heap.size ≤ q → A q) → d ≤ R.frames → 40 * d ≤ R.locals → cells + (z'.1 - z.1) ≤ R.cells → slots + (z'.2 - z.2) ≤ R.slots → ni_lr (ni_cv ad fm) als ls →
  ni_Ret l D fm x p e R s m args below meth c Qz A ad mm z.1 z'.1 (cells + (z'.1 - z.1)) (slots + (z'.2 - z.2)) r h' →
  W p l e R s m args below meth c H locs cells slots Qz (F0 m pc als (st.map (ni_cv ad fm)))
/-- the contract of a method: its start and its end -/
def ni_Pc (D : va_G) (fm : Value) (x : ni_H) (ad : Nat → Nat) (ct : Nat → ClassId) (as : List Value) (n sz : Nat) (h : ni_H) : Array Value → State → Prop :=
  va_Pc (as.map (ni_cv ad fm)) (fun U => U.heap.size = sz ∧ ni_Cx D ad fm x (va_A (ni_ws ad fm ct n h) sz) U ∧ ni_Wd D ad fm ct x (va_A (ni_ws ad fm ct n h) sz) n h U U.heap)
def ni_Qc (D : va_G) (fm : Value) (x : ni_H) (ad : Nat → Nat) (ct : Nat → ClassId) (n sz : Nat) (h : ni_H) (r : Option Value) (n' : Nat) (h' : ni_H) : Array Value → State → Outcome → State → Prop := fun _ st oc t =>
  (∃ (ad' : Nat → Nat) (ct' : Nat → ClassId), (∀ i, i < n ∨ n' ≤ i → ad' i = ad i) ∧ oc = .returned (r.map (ni_cv ad' fm)) ∧ ni_Wd D ad' fm ct' x (va_A (ni_ws ad fm ct n h) sz) n' h' t t.heap) ∧ va_F (va_A (ni_ws ad fm ct n h) sz) st t
theorem ni_Wd_same {D : va_G} {ad : Nat → Nat} {fm : Value} {ct : Nat → ClassId} {x : ni_H} {A : Nat → Prop} {n : Nat} {h : ni_H} {s U : State} {H : Heap} (w : ni_Wd D ad fm ct x A n h s H) (hvm : s.vm.Alike U.vm) : ni_Wd D ad fm ct x A n h U H := by
  obtain ⟨h1, h2, h3, h4, h5, h6, h7, h8⟩ := w
  exact ⟨h1, h2, h3, h4, h5, h6, h7, fun i t a hi e => ⟨arrOfT_moved hvm (h8 i t a hi e).1, (h8 i t a hi e).2.moved hvm⟩⟩
theorem ni_Wd_A {D : va_G} {ad : Nat → Nat} {fm : Value} {ct : Nat → ClassId} {x : ni_H} {A B : Nat → Prop} {n : Nat} {h : ni_H} {s : State} {H : Heap} (w : ni_Wd D ad fm ct x A n h s H) (hAB : ∀ (k : Nat) (q : Nat × va_E), (ni_ws ad fm ct n h)[k]? = some q → A q.1 → B q.1) : ni_Wd D ad fm ct x B n h s H := by
  obtain ⟨h1, h2, h3⟩ := w
  exact ⟨h1, h2.weaken hAB, h3⟩
theorem ni_Pc_blind {D : va_G} {fm : Value} {x : ni_H} {ad : Nat → Nat} {ct : Nat → ClassId} {as : List Value} {n sz : Nat} {h : ni_H} : FrameBlind (ni_Pc D fm x ad ct as n sz h) := by
  intro a U g mk q
  obtain ⟨q0, q1, q2, q3⟩ := q
  exact ⟨q0, q1, ni_Cx_same q2 rfl rfl, ni_Wd_same q3 (Vm.Alike.refl U.vm)⟩
/-- a method's words -/
def ni_mw (m : Nat) : List Cond := ni_cw m :: ni_TB
theorem ni_TB_good : GoodIn ni_TB ni_TB := fun w hw => ⟨hw, good_of_word (List.mem_filter.mp hw).2⟩
theorem ni_mw_good {m : Nat} (h : ni_cw m ∈ lw_tbl) : GoodIn ni_TB (ni_mw m) := by
  intro w hw
  rcases List.mem_cons.mp hw with rfl | hw
  · exact ⟨List.mem_filter.mpr ⟨h, rfl⟩, good_of_word rfl⟩
  · exact ni_TB_good w hw
/-- the locals at a start -/
theorem ni_sl_get {ad : Nat → Nat} {fm : Value} (hfm : fm.category = 1) : ∀ (as : List Value) (i : Nat) (v : Value), (ni_sl as)[i]? = some v → ni_un v = false → (lg_sl (as.map (ni_cv ad fm)))[i]? = some (.val (ni_cv ad fm v)) := by
  intro as
  induction as with
  | nil => intro i v h; simp [ni_sl] at h
  | cons a as ih =>
    intro i v h hu
    have hc := ni_cv_c (ad := ad) hfm a
    by_cases h2 : a.category = 2
    · have e1 : ni_sl (a :: as) = a :: .retAddr 1 :: ni_sl as := by simp [ni_sl, h2]
      have e2 : lg_sl ((a :: as).map (ni_cv ad fm)) = .val (ni_cv ad fm a) :: .second :: lg_sl (as.map (ni_cv ad fm)) := by simp [lg_sl, hc, h2]
      rw [e1] at h
      rw [e2]
      match i, h with
      | 0, h => cases h; rfl
      | 1, h => cases h; simp [ni_un] at hu
      | i + 2, h => exact ih i v h hu
    · have e1 : ni_sl (a :: as) = a :: ni_sl as := by simp [ni_sl, h2]
      have e2 : lg_sl ((a :: as).map (ni_cv ad fm)) = .val (ni_cv ad fm a) :: lg_sl (as.map (ni_cv ad fm)) := by simp [lg_sl, hc, h2]
      rw [e1] at h
      rw [e2]
      match i, h with
      | 0, h => cases h; rfl
      | i + 1, h => exact ih i v h hu
theorem ni_sl_len {ad : Nat → Nat} {fm : Value} (hfm : fm.category = 1) : ∀ (as : List Value), (lg_sl (as.map (ni_cv ad fm))).length = (ni_sl as).length := by
  intro as
  induction as with
  | nil => rfl
  | cons a as ih =>
    have hc := ni_cv_c (ad := ad) hfm a
    by_cases h2 : a.category = 2
    · have e1 : ni_sl (a :: as) = a :: .retAddr 1 :: ni_sl as := by simp [ni_sl, h2]
      have e2 : lg_sl ((a :: as).map (ni_cv ad fm)) = .val (ni_cv ad fm a) :: .second :: lg_sl (as.map (ni_cv ad fm)) := by simp [lg_sl, hc, h2]
      rw [e1, e2]
      simp [ih]
    · have e1 : ni_sl (a :: as) = a :: ni_sl as := by simp [ni_sl, h2]
      have e2 : lg_sl ((a :: as).map (ni_cv ad fm)) = .val (ni_cv ad fm a) :: lg_sl (as.map (ni_cv ad fm)) := by simp [lg_sl, hc, h2]
      rw [e1, e2]
      simp [ih]
theorem ni_lr_entry {ad : Nat → Nat} {fm : Value} (hfm : fm.category = 1) (as : List Value) (n : Nat) (h : (ni_sl as).length ≤ n) : ni_lr (ni_cv ad fm) (lg_sl (as.map (ni_cv ad fm)) ++ List.replicate (n - (lg_sl (as.map (ni_cv ad fm))).length) Slot.unset).toArray (ni_ent n as) := by
  have h1 := lv_entry (as.map (ni_cv ad fm)) (n := n) (by rw [ni_sl_len hfm]; exact h)
  refine ⟨?_, h1.2.1, fun i v hv hu => ?_⟩
  · simp [ni_ent, ni_sl_len hfm]
  · unfold ni_ent at hv
    rcases Nat.lt_or_ge i (ni_sl as).length with hi | hi
    · rw [List.getElem?_append_left hi] at hv
      rw [List.getElem?_toArray, List.getElem?_append_left (by rw [ni_sl_len hfm]; exact hi)]
      exact ni_sl_get hfm as i v hv hu
    · rw [List.getElem?_append_right hi] at hv
      have := List.eq_of_mem_replicate (List.mem_of_getElem? hv)
      subst this
      simp [ni_un] at hu
/-- a method's rows out of the tables -/
theorem ni_ism_ok {a k np : Nat} (h : ni_ism a k np = true) : ni_cw a ∈ lw_tbl ∧ (ni_mt a).1.cls = ni_cn (ni_own a) ∧ plainName (ni_mt a).1.cls = true ∧ ((ni_mt a).1.cls ≠ "java/lang/invoke/MethodHandle" ∧ (ni_mt a).1.cls ≠ "java/lang/invoke/VarHandle" ∧ (parseMethodDescriptor (ni_mt a).1.desc).map (fun d => d.parameters.length) = some np) ∧ (ni_mt a).2.2.1 ≤ 20 ∧ Cond.initialized (ni_mt a).1.cls ∈ ni_TB ∧ (k = 0 → Cond.static (ni_mt a).1 ∈ ni_TB) ∧ (k = 1 → Cond.instanceMethod (ni_mt a).1 ∈ ni_TB ∧ Cond.selects (ni_mt a).1.cls (ni_mt a).1 (ni_mt a).1 ∈ ni_TB) ∧ (k = 2 → Cond.instanceMethod (ni_mt a).1 ∈ ni_TB ∧ (ni_mt a).1.name = "<init>") := by
  unfold ni_ism at h
  obtain ⟨q, hq, h1⟩ := List.any_eq_true.mp h
  simp only [Bool.and_eq_true] at h1
  obtain ⟨e1, e2, e3⟩ := h1
  have h2 := List.all_eq_true.mp ni_mf_ok q hq
  have h3 := ni_cw_ok q hq
  obtain ⟨m, k', p0, p1, p2, p3, np'⟩ := q
  have e1 : m = a := Nat.eq_of_beq_eq_true e1
  have e2 : k' = k := Nat.eq_of_beq_eq_true e2
  have e3 : np' = np := Nat.eq_of_beq_eq_true e3
  subst e1; subst e2; subst e3
  unfold ni_mfc at h2
  simp only [Bool.and_eq_true, decide_eq_true_eq] at h2
  obtain ⟨⟨⟨⟨⟨⟨⟨g1, g2⟩, g3⟩, g4⟩, g5⟩, g6⟩, g7⟩, g8⟩ := h2
  refine ⟨h3, g3, g4, ⟨g5, g6, g7⟩, Nat.le_of_ble_eq_true g8, ni_TB_mem g2 rfl, ?_, ?_, ?_⟩
  · intro hk; subst hk
    exact ni_TB_mem (by simpa using g1) rfl
  · intro hk; subst hk
    simp only [Bool.and_eq_true, decide_eq_true_eq] at g1
    exact ⟨ni_TB_mem g1.1 rfl, ni_TB_mem g1.2 rfl⟩
  · intro hk; subst hk
    simp only [Bool.and_eq_true, decide_eq_true_eq] at g1
    exact ⟨ni_TB_mem g1.1 rfl, g1.2⟩
/-- a method that ends by the interpreter meets its contract -/
theorem ni_met {l : Launch} {D : va_G} {fm : Value} {x : ni_H} {nn : Nat} (hfm : fm = .null ∨ ∃ t, fm = .ref t) (IH : ni_Snd l D fm x nn) {d a : Nat} {as : List Value} {z z' : ni_Z} {h h' : ni_H} {r : Option Value} (hrun : ni_run nn d a 0 (ni_ent (ni_mt a).2.2.1 as) [] z h = some (r, z', h')) (hpl : plainName (ni_mt a).1.cls = true) (hcl : (ni_mt a).1.cls = ni_cn (ni_own a)) (hlen : (ni_sl as).length ≤ (ni_mt a).2.2.1) (ad : Nat → Nat) (ct : Nat → ClassId) (sz : Nat) :
    Met l (ni_mt a).1 (ni_mw a) { frames := d, cells := z'.1 - z.1, slots := z'.2 - z.2, locals := 40 * d } (ni_Pc D fm x ad ct as z.1 sz h) (ni_Qc D fm x ad ct z.1 sz h r z'.1 h') (z'.1 - z.1) (z'.2 - z.2) (va_A (ni_ws ad fm ct z.1 h) sz) := by
  have hfc : fm.category = 1 := by rcases hfm with rfl | ⟨t, rfl⟩ <;> rfl
  refine Met.ofW (cc := (ni_mt a).2.1) (maxL := (ni_mt a).2.2.1) (ret := (ni_mt a).2.2.2.1) hpl rfl ?_
  intro p e s m args below meth c s₁ B hml hv
  obtain ⟨rfl, hsz, hCx, hWd⟩ := hv
  have hx := B.exec
  have hb := B.bytes
  have hr := B.returns
  have hts := atoms_spec (ws := ni_mw a) B.pre
  have hown : s.vm.findClass (ni_mt a).1.cls = some m.cls := findClass_of_methodNamed B.named
  have hlocks := B.notSynchronized
  have hin : meth.name = (ni_mt a).1.name := (name_of_methodNamed B.named B.method).1
  subst hsz
  rw [lg_entry_eq]
  have hl := ni_lr_entry (ad := ad) hfc as (ni_mt a).2.2.1 hlen
  have hsz2 : ((lg_sl (as.map (ni_cv ad fm)) ++ List.replicate ((ni_mt a).2.2.1 - (lg_sl (as.map (ni_cv ad fm))).length) Slot.unset).toArray).size = (ni_mt a).2.2.1 := by
    rw [hl.1]
    simp [ni_ent]
    omega
  refine IH d a 0 _ [] z h r z' h' hrun p e _ s m _ below meth c s.heap [] 0 0 _ (va_A (ni_ws ad fm ct z.1 h) s.heap.size) ad ct _ hx hb (by rw [hsz2]; exact hml) (fun w hw => hts w (List.mem_cons_of_mem _ hw)) (by rw [← hcl]; exact hown) hin hCx hWd va_S.rf (fun q hq => Or.inr hq) (Nat.le_refl _) (Nat.le_refl _) (by simp [headSpec]) (by simp [headSpec]) hl ?_
  intro ad' ct' H1 locs1 pc1 als1 ins st1 ha hW1 hS1 hdg hret
  rw [Nat.zero_add, Nat.zero_add]
  have post : ∀ t : State, t.heap = H1 → s.WarmedH t.vm → ni_Qc D fm x ad ct z.1 s.heap.size h r z'.1 h' (as.map (ni_cv ad fm)).toArray s (.returned (r.map (ni_cv ad' fm))) t := by
    intro t ht hW
    refine ⟨⟨ad', ct', ha, rfl, ?_⟩, hS1.F ht⟩
    rw [ht]
    exact ni_Wd_same hW1 hW.alike
  cases ins <;> simp only [ni_r, reduceCtorEq] at hret
  case return_ =>
    split at hret
    · next e1 =>
      cases hret
      rw [e1] at hr
      exact W.vret hx hb hr (fun t ht hW => post t ht hW) hS1.2.2 hdg
    · cases hret
  case ireturn =>
    split at hret
    · next ty v e1 =>
      split at hret
      · next e2 =>
        cases hret
        rw [e1] at hr
        exact W.zret hx hb hr e2 (fun t ht hW => post t ht hW) hS1.2.2 hdg
      · cases hret
    · cases hret
  case lreturn =>
    split at hret
    · next v e1 =>
      cases hret
      rw [e1] at hr
      exact W.lret hx hb hr (fun t ht hW => post t ht hW) hS1.2.2 hdg
    · cases hret
  case areturn =>
    split at hret
    · next C v e1 =>
      cases hret
      rw [e1] at hr
      exact W.aret hx hb hr (Or.inl ⟨C, rfl⟩) (Or.inr ⟨_, rfl⟩) (fun t ht hW => post t ht hW) hS1.2.2 hdg
    · next C e1 =>
      cases hret
      rw [e1] at hr
      exact W.aret hx hb hr (Or.inl ⟨C, rfl⟩) (Or.inl rfl) (fun t ht hW => post t ht hW) hS1.2.2 hdg
    · cases hret
