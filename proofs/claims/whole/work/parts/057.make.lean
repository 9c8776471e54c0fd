/-! ===== making cells ===== -/
theorem ni_cv_okv {ad ad' : Nat → Nat} {fm : Value} {n : Nat} (hn : n < 1000) (ha : ∀ i, i ≠ n → ad' i = ad i) {v : Value} (h : ni_okv n v = true) : ni_cv ad' fm v = ni_cv ad fm v := by
  cases v with
  | ref i =>
    simp only [ni_okv, Bool.or_eq_true] at h
    simp only [ni_cv]
    rw [ha i ?_]
    rcases h with h | h
    · have := Nat.le_of_ble_eq_true h; omega
    · have := Nat.le_of_ble_eq_true h; omega
  | _ => rfl
theorem ni_map_okv {ad ad' : Nat → Nat} {fm : Value} {n : Nat} (hn : n < 1000) (ha : ∀ i, i ≠ n → ad' i = ad i) {l : List Value} (h : l.all (ni_okv n) = true) : l.map (ni_cv ad' fm) = l.map (ni_cv ad fm) := by
  apply List.map_congr_left
  intro v hv
  exact ni_cv_okv hn ha (List.all_eq_true.mp h v hv)
theorem ni_ce_oke {ad ad' : Nat → Nat} {fm : Value} {n : Nat} {c : ClassId} (hn : n < 1000) (ha : ∀ i, i ≠ n → ad' i = ad i) {e : ni_E} (h : ni_oke n e = true) : ni_ce ad' fm c e = ni_ce ad fm c e := by
  match e, h with
  | .inl (_, _, .inl _), _ => rfl
  | .inl (_, _, .inr (.inl _)), _ => rfl
  | .inl (t, N, .inr (.inr l)), h =>
    simp only [ni_oke] at h
    simp only [ni_ce]
    congr 6
    congr 1
    funext j
    cases hj : l[j]? with
    | none => simp [hj]
    | some o =>
      cases o with
      | none => simp [hj]
      | some i =>
        have h1 := List.all_eq_true.mp h (some i) (List.mem_of_getElem? hj)
        have h2 := Nat.le_of_ble_eq_true h1
        simp [hj, ha i (by omega)]
  | .inr (c2, fs), h =>
    simp only [ni_ce]
    rw [ni_map_okv hn ha h]
theorem ni_ws_push {ad ad' : Nat → Nat} {fm : Value} {ct ct' : Nat → ClassId} {n : Nat} {h : ni_H} {e : ni_E} (hn : n < 1000) (ha : ∀ i, i ≠ n → ad' i = ad i) (hc : ∀ i, i ≠ n → ct' i = ct i) (hok : ∀ i, i < n → ni_oke n (h i) = true) : ni_ws ad' fm ct' (n + 1) (ni_up h n e) = ni_ws ad fm ct n h ++ [(ad' n, ni_ce ad' fm (ct' n) e)] := by
  unfold ni_ws
  rw [List.range_succ, List.map_append]
  congr 1
  · apply List.map_congr_left
    intro i hi
    have hi := List.mem_range.mp hi
    have hne : i ≠ n := by omega
    simp only [ni_up, if_neg hne]
    rw [ha i hne, hc i hne, ni_ce_oke hn ha (hok i hi)]
  · simp [ni_up]
theorem ni_dfs_ok {ci : Nat} {C : String} {T : u_T} {N : Nat} (h : vwCl[ci]? = some (C, T, N)) : ∃ ty0 : Nat → FieldType, (∀ k, k < N → parseFieldDescriptor (T k).2.2.1 = some (ty0 k)) ∧ (∀ j, j < N → defaultValue (ty0 j) = vp_V (ni_dfs ci) j) ∧ (ni_dfs ci).length = N ∧ ∀ ad fm, (ni_dfs ci).map (ni_cv ad fm) = ni_dfs ci := by
  match ci, h with
  | 0, h => cases h; exact ⟨tyX0, tyX0_ok, by decide, rfl, fun _ _ => rfl⟩
  | 1, h => cases h; exact ⟨tyX1, tyX1_ok, by decide, rfl, fun _ _ => rfl⟩
  | 2, h => cases h; exact ⟨tyX2, tyX2_ok, by decide, rfl, fun _ _ => rfl⟩
  | 3, h => cases h; exact ⟨tyX3, tyX3_ok, by decide, rfl, fun _ _ => rfl⟩
  | 4, h => cases h; exact ⟨tyX4, tyX4_ok, by decide, rfl, fun _ _ => rfl⟩
  | 5, h => cases h; exact ⟨tyX5, tyX5_ok, by decide, rfl, fun _ _ => rfl⟩
  | 6, h => cases h; exact ⟨tyX6, tyX6_ok, by decide, rfl, fun _ _ => rfl⟩
  | 7, h => cases h; exact ⟨tyX7, tyX7_ok, by decide, rfl, fun _ _ => rfl⟩
  | k + 8, h => simp at h
theorem ni_isw_ok {own i a : Nat} (h : ni_isw own i a = true) : ∃ (C : String) (T : u_T) (N : Nat), vwCl[a]? = some (C, T, N) ∧ Cond.classLink (ni_cn own) i C ∈ ni_TB ∧ Cond.instantiable C N ∈ ni_TB ∧ Cond.initialized C ∈ ni_TB := by
  unfold ni_isw at h
  obtain ⟨q, hq, h1⟩ := List.any_eq_true.mp h
  simp only [Bool.and_eq_true] at h1
  obtain ⟨e1, e2, e3⟩ := h1
  have h2 := List.all_eq_true.mp ni_nw_ok q hq
  unfold ni_nwc at h2
  rw [Nat.eq_of_beq_eq_true e1, Nat.eq_of_beq_eq_true e2, Nat.eq_of_beq_eq_true e3] at h2
  split at h2
  · next C T N hc =>
    simp only [Bool.and_eq_true, decide_eq_true_eq] at h2
    exact ⟨C, T, N, hc, ni_TB_mem h2.1.1.1 rfl, ni_TB_mem h2.1.1.2 rfl, ni_TB_mem h2.1.2 rfl⟩
  · cases h2
theorem ni_isa_ok {own i a : Nat} (h : ni_isa own i a = true) : Cond.classLink (ni_cn own) i (ni_ec a) ∈ ni_TB := by
  unfold ni_isa at h
  obtain ⟨q, hq, h1⟩ := List.any_eq_true.mp h
  simp only [Bool.and_eq_true] at h1
  obtain ⟨e1, e2, e3⟩ := h1
  have h2 := List.all_eq_true.mp ni_aw_ok q hq
  unfold ni_awc at h2
  rw [Nat.eq_of_beq_eq_true e1, Nat.eq_of_beq_eq_true e2, Nat.eq_of_beq_eq_true e3] at h2
  exact ni_TB_mem (by simpa using h2) rfl
theorem ni_lr_okv {ad ad' : Nat → Nat} {fm : Value} {n : Nat} (hn : n < 1000) (ha : ∀ i, i ≠ n → ad' i = ad i) {als : Array Slot} {ls : List Value} (h : ls.all (ni_okv n) = true) (hl : ni_lr (ni_cv ad fm) als ls) : ni_lr (ni_cv ad' fm) als ls := by
  refine ⟨hl.1, hl.2.1, fun i v hv hu => ?_⟩
  rw [ni_cv_okv hn ha (List.all_eq_true.mp h v (List.mem_of_getElem? hv))]
  exact hl.2.2 i v hv hu
theorem ni_ok_ok {n : Nat} {ls st : List Value} {h : ni_H} (hk : ni_ok n ls st h = true) : ls.all (ni_okv n) = true ∧ st.all (ni_okv n) = true ∧ ∀ i, i < n → ni_oke n (h i) = true := by
  unfold ni_ok at hk
  simp only [Bool.and_eq_true] at hk
  exact ⟨hk.1.1, hk.1.2, fun i hi => List.all_eq_true.mp hk.2 i (List.mem_range.mpr hi)⟩
section
variable {p : Program} {l : Launch} {e : Env} {R : Room} {s : State} {m : MethodId} {args : Array Value} {below : List Frame} {meth : Method} {c : Code} {H : Heap} {locs : List Loc} {cells slots : Nat} {Qz : State → Prop}
/-- a new cell at the end of the world -/
theorem ni_Wd.push {D : va_G} {ad : Nat → Nat} {fm : Value} {ct : Nat → ClassId} {x : ni_H} {A : Nat → Prop} {n q : Nat} {cA : ClassId} {h : ni_H} {H1 : Heap} {en : ni_E} (w : ni_Wd D ad fm ct x A n h s H) (hn : n < 900) (hok : ∀ i, i < n → ni_oke n (h i) = true) (hk : ni_wk en = true) (hp : va_P D vwCl (ni_ws ad fm ct n h ++ [(q, ni_ce (fun i => if i = n then q else ad i) fm cA en)]) H1) (hd : va_D A (ni_ws ad fm ct n h ++ [(q, ni_ce (fun i => if i = n then q else ad i) fm cA en)])) (ht : ∀ (t : Nat) (a : ni_A), en = .inl (t, a) → ArrOfT s cA (ni_ty t) ∧ va_RA s cA (ni_ty t)) : ni_Wd D (fun i => if i = n then q else ad i) fm (fun i => if i = n then cA else ct i) x A (n + 1) (ni_up h n en) s H1 := by
  have hw := ni_ws_push (ad := ad) (ad' := fun i => if i = n then q else ad i) (fm := fm) (ct := ct) (ct' := fun i => if i = n then cA else ct i) (n := n) (h := h) (e := en) (by omega) (fun i hi => by simp [hi]) (fun i hi => by simp [hi]) hok
  simp only [if_true] at hw
  obtain ⟨h1, h2, h3, h4, h5, h6, h7, h8⟩ := w
  refine ⟨by rw [hw]; exact hp, by rw [hw]; exact hd, by omega, fun j hj => ?_, fun j hj => ?_, h6, h7, fun j t a hj e2 => ?_⟩
  · unfold ni_up
    split
    · exact hk
    · exact h4 j (by omega)
  · unfold ni_up
    rw [if_neg (by omega)]
    exact h5 j (by omega)
  · unfold ni_up at e2
    split at e2
    · next hj2 => simp only [if_pos hj2]; exact ht t a e2
    · next hj2 => simp only [if_neg hj2]; exact h8 j t a (by omega) e2
set_option maxHeartbeats 4000000 in
theorem ni_n_ok {D : va_G} {ad : Nat → Nat} {fm : Value} {ct : Nat → ClassId} {x : ni_H} {A : Nat → Prop} {mm : Nat} {z z' : ni_Z} {h h' : ni_H} (hx : p.tables.exec = Jvm.exec) (hb : c.code = (ni_mt mm).2.1) (hts : ∀ w ∈ ni_TB, w.before args s = true) (hown : s.vm.findClass (ni_cn (ni_own mm)) = some m.cls) (hCx : ni_Cx D ad fm x A s) (hWd : ni_Wd D ad fm ct x A z.1 h s H) (hS : va_S A s.heap H locs) (hA : ∀ q, s.heap.size ≤ q → A q) (hcl : cells + 1 ≤ R.cells)
    {ins : Instr} {len a b pc : Nat} {v : Value} {ty : FieldType} {ls st st' : List Value} {als : Array Slot} (hdg : decode (ni_mt mm).2.1 pc = .ok (ins, len)) (hlen : ni_ln ins = 0 ∨ ni_ln ins = len) (hlk : ni_lk mm ins a b v ty = true) (hl : ni_lr (ni_cv ad fm) als ls) (hh : ni_n ins a ls st ni_dfs z h = some (st', z', h')) (hsl : slots + (z'.2 - z.2) ≤ R.slots)
    (k : ∀ (q : Nat) (cA : ClassId) (H1 : Heap), z.1 < 900 → z'.1 = z.1 + 1 → z.2 ≤ z'.2 → ni_Cx D (fun i => if i = z.1 then q else ad i) fm x A s → ni_Wd D (fun i => if i = z.1 then q else ad i) fm (fun i => if i = z.1 then cA else ct i) x A z'.1 h' s H1 → va_S A s.heap H1 locs → ni_lr (ni_cv (fun i => if i = z.1 then q else ad i) fm) als ls → W p l e R s m args below meth c H1 locs (cells + 1) (slots + (z'.2 - z.2)) Qz (F0 m (pc + len) als (st'.map (ni_cv (fun i => if i = z.1 then q else ad i) fm)))) : W p l e R s m args below meth c H locs cells slots Qz (F0 m pc als (st.map (ni_cv ad fm))) := by
  have hK := hCx.1
  obtain ⟨hP, hD, hn9, hwk, hge, hex, hx0, hAr⟩ := id hWd
  cases ins <;> simp only [ni_n] at hh <;> simp only [ni_ln] at hlen <;> (try (rcases hlen with hlen | hlen; · exact absurd hlen (by decide))) <;> (try subst hlen) <;> (try simp only [ni_lk] at hlk)
  case new i =>
    split at hh
    · next h1 =>
      simp only [Option.some.injEq, Prod.mk.injEq] at hh
      obtain ⟨q7, q8, q9⟩ := hh
      subst q7
      subst q8
      subst q9
      simp only [Bool.and_eq_true] at h1
      obtain ⟨⟨h11, h12⟩, h13⟩ := h1
      obtain ⟨o1, o2, o3⟩ := ni_ok_ok h11
      have h12 := Nat.le_of_ble_eq_true h12
      obtain ⟨C, T, N, c1, c2, c3, c4⟩ := ni_isw_ok hlk
      obtain ⟨ty0, t1, t2, t3, t4⟩ := ni_dfs_ok c1
      have hsl' : slots + N ≤ R.slots := by rw [← t3]; simp only at hsl; omega
      refine va_new hx hb hts (ni_hin c1) ty0 t1 hown (hts _ c2) (hts _ c3) (hts _ c4) hK hP hD hS hA c1 (fs := ni_dfs a) t2 hcl hsl' hdg (fun q H1 q1 q2 q3 => ?_)
      have kk := k q (ct 0) H1 (by omega) rfl (by simp) (ni_Cx_ad hCx (fun i hi => by rw [if_neg (by omega)]) hx0) (hWd.push (by omega) o3 h13 (by simp only [ni_ce, t4]; exact q1) (by simp only [ni_ce, t4]; exact q2) (fun t a' e9 => by cases e9)) q3 (ni_lr_okv (by omega) (fun i hi => by rw [if_neg hi]) o1 hl)
      simp only [List.map_cons, ni_cv, if_true] at kk
      rw [show z.2 + (ni_dfs a).length - z.2 = N from by rw [t3]; omega] at kk
      rw [ni_map_okv (ad := ad) (n := z.1) (by omega) (fun i hi => by rw [if_neg hi]) o2] at kk
      exact kk
    · cases hh
  case newarray ty1 =>
    cases ty1 <;> simp only [reduceCtorEq] at hh
    case int =>
      split at hh
      · next n1 r =>
        split at hh
        · next h1 =>
          simp only [Option.some.injEq, Prod.mk.injEq] at hh
          obtain ⟨q7, q8, q9⟩ := hh
          subst q7
          subst q8
          subst q9
          simp only [Bool.and_eq_true, Bool.not_eq_true', decide_eq_false_iff_not] at h1
          obtain ⟨⟨⟨h11, h12⟩, h13⟩, h14⟩ := h1
          obtain ⟨o1, o2, o3⟩ := ni_ok_ok h11
          have h12 := Nat.le_of_ble_eq_true h12
          have h14 := Nat.le_of_ble_eq_true h14
          have hcb : componentBytes .int ≤ 8 := by decide
          have hsl' : slots + n1.toNatClampNeg ≤ R.slots := by simp only at hsl; omega
          refine va_newa (atype := .int) (ty := .int) (a0 := (n1.toNatClampNeg, .inl (fun _ => 0))) hx hb (hts _ tb_aI) rfl hK hP hD hS hA (fun _ => rfl) h13 rfl (Nat.le_trans (Nat.mul_le_mul h14 hcb) (by decide)) hcl hsl' hdg (fun q cA H1 q0 q1 q2 q3 => ?_)
          have kk := k q cA H1 (by omega) rfl (by simp) (ni_Cx_ad hCx (fun i hi => by rw [if_neg (by omega)]) hx0) (hWd.push (by omega) o3 rfl q1 q2 (fun t a' e9 => by cases e9; exact q0.2 0 _ rfl)) q3 (ni_lr_okv (by omega) (fun i hi => by rw [if_neg hi]) o1 hl)
          simp only [List.map_cons, ni_cv, if_true] at kk
          rw [show z.2 + n1.toNatClampNeg - z.2 = n1.toNatClampNeg from by omega] at kk
          rw [ni_map_okv (ad := ad) (n := z.1) (by omega) (fun i hi => by rw [if_neg hi]) o2] at kk
          exact kk
        · cases hh
      · cases hh
    case long =>
      split at hh
      · next n1 r =>
        split at hh
        · next h1 =>
          simp only [Option.some.injEq, Prod.mk.injEq] at hh
          obtain ⟨q7, q8, q9⟩ := hh
          subst q7
          subst q8
          subst q9
          simp only [Bool.and_eq_true, Bool.not_eq_true', decide_eq_false_iff_not] at h1
          obtain ⟨⟨⟨h11, h12⟩, h13⟩, h14⟩ := h1
          obtain ⟨o1, o2, o3⟩ := ni_ok_ok h11
          have h12 := Nat.le_of_ble_eq_true h12
          have h14 := Nat.le_of_ble_eq_true h14
          have hcb : componentBytes .long ≤ 8 := by decide
          have hsl' : slots + n1.toNatClampNeg ≤ R.slots := by simp only at hsl; omega
          refine va_newa (atype := .long) (ty := .long) (a0 := (n1.toNatClampNeg, .inr (.inl (fun _ => 0)))) hx hb (hts _ tb_aJ) rfl hK hP hD hS hA (fun _ => rfl) h13 rfl (Nat.le_trans (Nat.mul_le_mul h14 hcb) (by decide)) hcl hsl' hdg (fun q cA H1 q0 q1 q2 q3 => ?_)
          have kk := k q cA H1 (by omega) rfl (by simp) (ni_Cx_ad hCx (fun i hi => by rw [if_neg (by omega)]) hx0) (hWd.push (by omega) o3 rfl q1 q2 (fun t a' e9 => by cases e9; exact q0.2 0 _ rfl)) q3 (ni_lr_okv (by omega) (fun i hi => by rw [if_neg hi]) o1 hl)
          simp only [List.map_cons, ni_cv, if_true] at kk
          rw [show z.2 + n1.toNatClampNeg - z.2 = n1.toNatClampNeg from by omega] at kk
          rw [ni_map_okv (ad := ad) (n := z.1) (by omega) (fun i hi => by rw [if_neg hi]) o2] at kk
          exact kk
        · cases hh
      · cases hh
  case anewarray i =>
    split at hh
    · next n1 r =>
      split at hh
      · next h1 =>
        simp only [Option.some.injEq, Prod.mk.injEq] at hh
        obtain ⟨q7, q8, q9⟩ := hh
        subst q7
        subst q8
        subst q9
        simp only [Bool.and_eq_true, Bool.or_eq_true, Bool.not_eq_true', decide_eq_false_iff_not] at h1
        obtain ⟨⟨⟨⟨h11, h12⟩, h13⟩, h14⟩, h15⟩ := h1
        obtain ⟨o1, o2, o3⟩ := ni_ok_ok h11
        have h12 := Nat.le_of_ble_eq_true h12
        have h14 := Nat.le_of_ble_eq_true h14
        have h4 := ni_isa_ok hlk
        have hsl' : slots + n1.toNatClampNeg ≤ R.slots := by simp only at hsl; omega
        have hfun : ∀ ad2 : Nat → Nat, (fun j => ((List.replicate n1.toNatClampNeg (none : Option Nat)).getD j none).map ad2) = fun _ => none := by
          intro ad2
          funext j
          simp only [List.getD_eq_getElem?_getD, List.getElem?_replicate]
          split <;> rfl
        have hover : va_AO (ni_ec a) s := by
          rcases h15 with q | q
          · rw [Nat.eq_of_beq_eq_true q]; exact hCx.2.2.2.1.1
          · rw [Nat.eq_of_beq_eq_true q]; exact hCx.2.2.2.1.2
        have hty : FieldType.object (ni_ec a) = ni_ty a := by
          rcases h15 with q | q
          · rw [Nat.eq_of_beq_eq_true q]; rfl
          · rw [Nat.eq_of_beq_eq_true q]; rfl
        refine va_newq (C := ni_ec a) hx hb hown (hts _ h4) hover hK hP hD hS hA h13 rfl (by omega) hcl hsl' hdg (fun q cA H1 q0 q1 q2 q3 => ?_)
        have kk := k q cA H1 (by omega) rfl (by simp) (ni_Cx_ad hCx (fun i hi => by rw [if_neg (by omega)]) hx0) (hWd.push (by omega) o3 (by simp only [ni_wk, Bool.or_eq_true]; exact h15) (by simp only [ni_ce, hfun]; exact q1) (by simp only [ni_ce, hfun]; exact q2) (fun t a' e9 => by cases e9; rw [← hty]; exact q0.2 0 _ rfl)) q3 (ni_lr_okv (by omega) (fun i hi => by rw [if_neg hi]) o1 hl)
        simp only [List.map_cons, ni_cv, if_true] at kk
        rw [show z.2 + n1.toNatClampNeg - z.2 = n1.toNatClampNeg from by omega] at kk
        rw [ni_map_okv (ad := ad) (n := z.1) (by omega) (fun i hi => by rw [if_neg hi]) o2] at kk
        exact kk
      · cases hh
    · cases hh
  all_goals (first | (cases hh; done) | skip)
end
