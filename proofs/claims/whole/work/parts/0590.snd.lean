theorem ni_mf_own : ni_mf.all (fun e => Nat.ble (ni_mt e.1).2.2.2.2 20 && (!(Nat.beq e.2.1 2) || (ni_mt e.1).2.2.2.1.isNone)) = true := by decide +kernel
theorem ni_mf_more {a k np : Nat} (h : ni_ism a k np = true) : (ni_mt a).2.2.2.2 ≤ 20 ∧ (k = 2 → (ni_mt a).2.2.2.1 = none) := by
  unfold ni_ism at h
  obtain ⟨q, hq, h1⟩ := List.any_eq_true.mp h
  simp only [Bool.and_eq_true] at h1
  obtain ⟨e1, e2, e3⟩ := h1
  have h2 := List.all_eq_true.mp ni_mf_own q hq
  rw [Nat.eq_of_beq_eq_true e1, Nat.eq_of_beq_eq_true e2] at h2
  simp only [Bool.and_eq_true, Bool.or_eq_true] at h2
  refine ⟨Nat.le_of_ble_eq_true h2.1, fun hk => ?_⟩
  subst hk
  rcases h2.2 with q2 | q2
  · simp at q2
  · exact Option.isNone_iff_eq_none.mp q2
/-- what a call gives: the run of the called method, by its contract -/
theorem ni_c_ok {l : Launch} {D : va_G} {fm : Value} {x : ni_H} {nn : Nat} (hfm : fm = .null ∨ ∃ t, fm = .ref t) (IH : ni_Snd l D fm x nn) {p : Program} {e : Env} {R : Room} {s : State} {m : MethodId} {args : Array Value} {below : List Frame} {meth : Method} {c : Code} {H : Heap} {locs : List Loc} {cells slots : Nat} {A : Nat → Prop} {ad : Nat → Nat} {ct : Nat → ClassId} {mm d a b pc len : Nat} {ins : Instr} {v : Value} {ty : FieldType} {st as rest : List Value} {z z1 : ni_Z} {h h1 : ni_H} {r1 : Option Value} {als : Array Slot}
    (hx : p.tables.exec = Jvm.exec) (hb : c.code = (ni_mt mm).2.1) (hml : c.maxLocals = als.size) (hts : ∀ w ∈ ni_TB, w.before args s = true) (hown : s.vm.findClass (ni_cn (ni_own mm)) = some m.cls) (hCx : ni_Cx D ad fm x A s) (hWd : ni_Wd D ad fm ct x A z.1 h s H) (hS : va_S A s.heap H locs) (hA : ∀ q, s.heap.size ≤ q → A q) (hRf : d + 1 ≤ R.frames) (hRl : 40 * (d + 1) ≤ R.locals) (hcl : cells + (z1.1 - z.1) ≤ R.cells) (hsl : slots + (z1.2 - z.2) ≤ R.slots)
    (hdg : decode (ni_mt mm).2.1 pc = .ok (ins, len)) (hln : ni_ln ins = 0 ∨ ni_ln ins = len) (hlk : ni_lk mm ins a b v ty = true) (hc : ni_c ins (ni_rk (ni_mt a).2.2.2.2) b st h = some (as, rest)) (hsw : ni_sw rest ≤ 8) (hlen : (ni_sl as).length ≤ (ni_mt a).2.2.1) (ha9 : a < 900)
    (hrun : ni_run nn d a 0 (ni_ent (ni_mt a).2.2.1 as) [] z h = some (r1, z1, h1)) :
    len = 3 ∧ va_Run p l e R s m args below meth c H locs cells slots (z1.1 - z.1) (z1.2 - z.2) (F0 m pc als (st.map (ni_cv ad fm))) (rest.map (ni_cv ad fm)) (ni_Qc D fm x ad ct z.1 H.size h r1 z1.1 h1 (as.map (ni_cv ad fm)).toArray) (va_A (ni_ws ad fm ct z.1 h) H.size) := by
  have h9 : Nat.ble 900 a = false := by
    cases hq : Nat.ble 900 a with
    | false => rfl
    | true => have := Nat.le_of_ble_eq_true hq; omega
  have hAA : ∀ q, va_A (ni_ws ad fm ct z.1 h) H.size q → A q := by
    rintro q (⟨k, e9, hk⟩ | hq)
    · exact hWd.2.1.2 k _ hk
    · exact hA q (Nat.le_trans hS.1 hq)
  have hpre : ∀ U : State, U.heap = H → s.WarmedH U.vm → ni_Pc D fm x ad ct as z.1 H.size h (as.map (ni_cv ad fm)).toArray U := by
    intro U hU hW
    refine ⟨rfl, by rw [hU], ni_Cx_call hCx hW hU hS hAA, ?_⟩
    have w2 : ni_Wd D ad fm ct x (va_A (ni_ws ad fm ct z.1 h) H.size) z.1 h s H := ⟨hWd.1, hWd.2.1.self, hWd.2.2⟩
    rw [hU]
    exact ni_Wd_same w2 hW.alike
  have hroom : ∀ n, 2 * (F0 m pc als (st.map (ni_cv ad fm))).monitorRoom + ((rest.map (ni_cv ad fm)).map fun v => v.category).sum ≤ n + 8 := by
    intro n
    have : 2 * (F0 m pc als (st.map (ni_cv ad fm))).monitorRoom + ((rest.map (ni_cv ad fm)).map fun v => v.category).sum ≤ 8 := lv_room (by rw [ni_cats hfm]; exact hsw)
    omega
  have hS0 : CallFix p m c (ni_mt mm).2.1 als.size s args ni_TB (ni_cn (ni_own mm)) := ⟨hx, hb, hml, hown, hts⟩
  cases ins <;> simp only [ni_c, reduceCtorEq] at hc <;> simp only [ni_ln] at hln <;> (try (rcases hln with hln | hln; · exact absurd hln (by decide))) <;> (try subst hln) <;> (try simp only [ni_lk, h9, cond_false, Bool.and_eq_true] at hlk)
  case invokestatic i =>
    refine ⟨rfl, ?_⟩
    obtain ⟨g1, g2, g3, g4, g5, g6, g7, -, -⟩ := ni_ism_ok hlk.2
    obtain ⟨bs, b1, b2, b3⟩ := ni_args_ok _ _ _ _ _ hc
    rw [List.append_nil] at b2
    subst b2
    have hM := ni_met hfm IH hrun g3 g2 hlen ad ct H.size
    have hst : st.map (ni_cv ad fm) = (as.map (ni_cv ad fm)).reverse ++ rest.map (ni_cv ad fm) := by rw [b3, List.map_append, List.map_reverse]
    rcases Bool.or_eq_true_iff.mp hlk.1 with q | q
    · exact va_runS hS0 hM ⟨callB_of b hts (ni_mw_good g1) rfl rfl rfl (hts _ g6) (hts _ (ni_isl_ok q)) g4 ⟨by simp only; omega, by simp only; omega⟩, hts _ (g7 rfl)⟩ ⟨ni_Pc_blind, hpre⟩ rfl (by rw [List.length_map]; exact b1) rfl hst (hroom 0) hdg ⟨hcl, hsl⟩
    · exact va_runSN hS0 hM ⟨va_cnB b hts (ni_mw_good g1) rfl rfl rfl (hCx.2.1 _ (ni_isn_ok q)) (hts _ g6) g4 ⟨by simp only; omega, by simp only; omega⟩, hts _ (g7 rfl), trivial⟩ ⟨ni_Pc_blind, hpre⟩ rfl (by rw [List.length_map]; exact b1) rfl hst (hroom 0) hdg ⟨hcl, hsl⟩
  case invokespecial i =>
    refine ⟨rfl, ?_⟩
    obtain ⟨g1, g2, g3, g4, g5, g6, -, -, g7⟩ := ni_ism_ok hlk.2
    split at hc
    · next o vs r0 hc2 =>
      simp only [Option.some.injEq, Prod.mk.injEq] at hc
      obtain ⟨q8, q9⟩ := hc
      subst q8
      subst q9
      obtain ⟨bs, b1, b2, b3⟩ := ni_args_ok _ _ _ _ _ hc2
      rw [List.append_nil] at b2
      subst b2
      have hM := ni_met hfm IH hrun g3 g2 hlen ad ct H.size
      have hst : st.map (ni_cv ad fm) = (vs.map (ni_cv ad fm)).reverse ++ .ref (ad o) :: r0.map (ni_cv ad fm) := by
        rw [b3, List.map_append, List.map_reverse]
        simp [ni_cv]
      have hn : (vs.map (ni_cv ad fm)).length = b := by
        rw [List.length_map]
        simpa using b1
      have hnone := (ni_mf_more hlk.2).2 rfl
      have hw : ni_mw a = Cond.code (ni_mt a).1 (ni_mt a).2.1 (ni_mt a).2.2.1 none :: ni_TB := by
        unfold ni_mw ni_cw
        rw [hnone]
      rcases Bool.or_eq_true_iff.mp hlk.1 with q | q
      · exact va_runI hS0 hM ⟨callB_of b hts (ni_mw_good g1) hw rfl rfl (hts _ g6) (hts _ (ni_isl_ok q)) g4 ⟨by simp only; omega, by simp only; omega⟩, (g7 rfl).2, hts _ (g7 rfl).1⟩ ⟨ni_Pc_blind, hpre⟩ rfl hn rfl hst (hroom 0) hdg ⟨hcl, hsl⟩
      · exact va_runIN hS0 hM ⟨va_cnB b hts (ni_mw_good g1) hw rfl rfl (hCx.2.1 _ (ni_isn_ok q)) (hts _ g6) g4 ⟨by simp only; omega, by simp only; omega⟩, (g7 rfl).2, hts _ (g7 rfl).1⟩ ⟨ni_Pc_blind, hpre⟩ rfl hn rfl hst (hroom 0) hdg ⟨hcl, hsl⟩
    · cases hc
  case invokevirtual i =>
    refine ⟨rfl, ?_⟩
    obtain ⟨g1, g2, g3, g4, g5, g6, -, g7, -⟩ := ni_ism_ok hlk.2
    split at hc
    · next o vs r0 hc2 =>
      split at hc
      · next hrc =>
        simp only [Option.some.injEq, Prod.mk.injEq] at hc
        obtain ⟨q8, q9⟩ := hc
        subst q8
        subst q9
        obtain ⟨bs, b1, b2, b3⟩ := ni_args_ok _ _ _ _ _ hc2
        rw [List.append_nil] at b2
        subst b2
        have hM := ni_met hfm IH hrun g3 g2 hlen ad ct H.size
        have hst : st.map (ni_cv ad fm) = (vs.map (ni_cv ad fm)).reverse ++ .ref (ad o) :: r0.map (ni_cv ad fm) := by
          rw [b3, List.map_append, List.map_reverse]
          simp [ni_cv]
        have hn : (vs.map (ni_cv ad fm)).length = b := by
          rw [List.length_map]
          simpa using b1
        have hcell : ∃ cellB : Cell, H[ad o]? = some cellB ∧ cellB.vm.isStatics = false ∧ s.vm.findClass (ni_mt a).1.cls = some cellB.cls := by
          obtain ⟨fs, e1⟩ := ni_rc_ok hrc
          rw [g2]
          unfold ni_rk at e1
          cases hq : Nat.beq (ni_mt a).2.2.2.2 10 with
          | true =>
            rw [hq] at e1
            have e3 : x o = h o := hWd.ge (by rw [e1]; rfl)
            obtain ⟨-, ⟨cell, k1, k2, k3, k4⟩, -, -⟩ := hCx.2.2.2.2.2.2.2 o fs (e3.trans e1)
            refine ⟨cell, ?_, k2, ?_⟩
            · rw [hS.2.1 _ (Array.getElem?_eq_some_iff.mp k1).1 k4]
              exact k1
            · show s.vm.findClass (ni_cn (ni_mt a).2.2.2.2) = _
              rw [Nat.eq_of_beq_eq_true hq]
              exact k3
          | false =>
            rw [hq] at e1
            simp only [cond_false] at e1
            have hlt : o < z.1 ∨ ni_ex (h o) = true := by
              cases hh : ni_ex (h o) with
              | true => exact Or.inr rfl
              | false => exact Or.inl (hWd.lt hh)
            rcases hlt with ho | ho
            · have hk := hWd.2.2.2.1 o ho
              rw [e1] at hk
              have hk : (ni_mt a).2.2.2.2 ≤ 7 := Nat.le_of_ble_eq_true hk
              have hg := ni_ws_get (ad := ad) (fm := fm) (ct := ct) (h := h) ho
              rw [e1] at hg
              obtain ⟨q2, hq2, hq3⟩ : ∃ q2, vwCl[(ni_mt a).2.2.2.2]? = some q2 ∧ q2.1 = ni_cn (ni_own a) := by
                have : ∀ k, k ≤ 7 → ∃ q2 : vw_C, vwCl[k]? = some q2 ∧ q2.1 = ni_cn k := by
                  intro k hk
                  match k, hk with
                  | 0, _ => exact ⟨_, rfl, rfl⟩
                  | 1, _ => exact ⟨_, rfl, rfl⟩
                  | 2, _ => exact ⟨_, rfl, rfl⟩
                  | 3, _ => exact ⟨_, rfl, rfl⟩
                  | 4, _ => exact ⟨_, rfl, rfl⟩
                  | 5, _ => exact ⟨_, rfl, rfl⟩
                  | 6, _ => exact ⟨_, rfl, rfl⟩
                  | 7, _ => exact ⟨_, rfl, rfl⟩
                  | k + 8, h9 => omega
                exact this _ hk
              have h5 := va_recv hCx.1 hWd.1 hq2 hg
              rw [hq3] at h5
              exact h5
            · rw [e1] at ho
              simp only [ni_ex] at ho
              have h5 := (ni_mf_more hlk.2).1
              have h6 := Nat.eq_of_beq_eq_true ho
              omega
        exact va_runV hS0 hM ⟨callB_of b hts (ni_mw_good g1) rfl rfl rfl (hts _ g6) (hts _ (ni_isl_ok hlk.1)) g4 ⟨by simp only; omega, by simp only; omega⟩, hts _ (g7 rfl).1, hts _ (g7 rfl).2⟩ ⟨ni_Pc_blind, hcell, hpre⟩ rfl hn rfl hst (hroom 0) hdg ⟨hcl, hsl⟩
      · cases hc
    · cases hc
set_option maxHeartbeats 4000000 in
theorem ni_sound {l : Launch} {D : va_G} {fm : Value} {x : ni_H} (hfm : fm = .null ∨ ∃ t, fm = .ref t) (hrows : ∀ (m pc : Nat) (w : ni_W), ni_at m pc = some w → ni_rv m (pc, w) = true) : ∀ nn, ni_Snd l D fm x nn := by
  have hfc : fm.category = 1 := by rcases hfm with rfl | ⟨t, rfl⟩ <;> rfl
  intro nn
  induction nn with
  | zero => intro d mm pc ls st z h r z' h' g; simp [ni_run] at g
  | succ nn IH =>
    intro d mm pc ls st z h r z' h' g p e R s m args below meth c H locs cells slots Qz A ad ct als hx hb hml hts hown hname hCx hWd hS hA hRf hRl hcl hsl hlr hret
    simp only [ni_run] at g
    cases hat : ni_at mm pc with
    | none => rw [hat] at g; cases g
    | some w =>
      obtain ⟨ins, len, a, b, v, ty⟩ := w
      rw [hat] at g
      simp only at g
      have hrow := hrows mm pc _ hat
      unfold ni_rv at hrow
      simp only [Bool.and_eq_true, Bool.or_eq_true, decide_eq_true_eq] at hrow
      obtain ⟨hdg, hln, htg, hlk⟩ := hrow
      have hln : ni_ln ins = 0 ∨ ni_ln ins = len := hln.imp Nat.eq_of_beq_eq_true Nat.eq_of_beq_eq_true
      split at g
      · next pc' ls' st' hp =>
        refine ni_p_ok hfc hx hb hdg hln htg hp hlr (fun als' hl' => ?_)
        exact IH d mm pc' ls' st' z h r z' h' g p e R s m args below meth c H locs cells slots Qz A ad ct als' hx hb (by rw [hml, hlr.1, hl'.1, ni_p_len hp]) hts hown hname hCx hWd hS hA hRf hRl hcl hsl hl' hret
      · split at g
        · next st' h1 hh =>
          exact ni_h_ok hfm hx hb hts hown hname hCx hWd hS hRf hRl (by omega) (by omega) hml hdg hln hlk hh (fun H1 locs1 w1 s1 => IH d mm _ ls st' z h1 r z' h' g p e R s m args below meth c H1 locs1 cells slots Qz A ad ct als hx hb hml hts hown hname hCx w1 s1 hA hRf hRl hcl hsl hlr hret)
        · split at g
          · next st' z1 h1 hn =>
            have hz := ni_n_z hn
            have hz2 := ni_run_mono _ _ _ _ _ _ _ _ _ _ _ g
            refine ni_n_ok hx hb hts hown hCx hWd hS hA (by omega) hdg hln hlk hlr hn (by omega) (fun q cA H1 k1 k2 k3 cx1 w1 s1 l1 => ?_)
            have e1 : cells + 1 + (z'.1 - z1.1) = cells + (z'.1 - z.1) := by omega
            have e2 : slots + (z1.2 - z.2) + (z'.2 - z1.2) = slots + (z'.2 - z.2) := by omega
            refine IH d mm _ ls st' z1 h1 r z' h' g p e R s m args below meth c H1 locs (cells + 1) (slots + (z1.2 - z.2)) Qz A _ _ als hx hb hml hts hown hname cx1 w1 s1 hA hRf hRl (by omega) (by omega) l1 ?_
            rw [e1, e2]
            intro ad' ct' H2 locs2 pc1 als1 ins1 st1 ha
            refine hret ad' ct' H2 locs2 pc1 als1 ins1 st1 (fun i hi => ?_)
            have hne : ¬ i = z.1 := by omega
            have hor : i < z1.1 ∨ z'.1 ≤ i := by omega
            rw [ha i hor]
            exact if_neg hne
          · split at g
            · next r1 hr =>
              simp only [Option.some.injEq, Prod.mk.injEq] at g
              obtain ⟨q7, q8, q9⟩ := g
              subst q7
              subst q8
              subst q9
              have hl1 : len = 1 := by
                cases ins <;> simp only [ni_r, reduceCtorEq] at hr <;> simp only [ni_ln] at hln <;> omega
              subst hl1
              have := hret ad ct H locs pc als ins st (fun _ _ => rfl) hWd hS hdg hr
              simpa using this
            · cases hc : ni_c ins (ni_rk (ni_mt a).2.2.2.2) b st h with
              | none => rw [hc] at g; cases d <;> cases g
              | some q =>
                obtain ⟨as, rest⟩ := q
                rw [hc] at g
                cases d with
                | zero => cases g
                | succ d' =>
                  simp only at g
                  split at g
                  · next hif =>
                    split at g
                    · next r1 z1 h1 hrun =>
                      split at g
                      · next hok =>
                        simp only [Bool.and_eq_true] at hif
                        obtain ⟨i1, i2, i3⟩ := hif
                        have hz1 := ni_run_mono _ _ _ _ _ _ _ _ _ _ _ hrun
                        have hz2 := ni_run_mono _ _ _ _ _ _ _ _ _ _ _ g
                        obtain ⟨hl3, hR⟩ := ni_c_ok (len := len) (v := v) (ty := ty) (cells := cells) (slots := slots) (below := below) (meth := meth) (als := als) hfm IH hx hb hml hts hown hCx hWd hS hA hRf hRl (by omega) (by omega) hdg hln hlk hc (Nat.le_of_ble_eq_true i1) (Nat.le_of_ble_eq_true i2) (Nat.le_of_ble_eq_true i3) hrun
                        subst hl3
                        refine ni_go hR hWd hS hA (fun ad' ct' H1 locs1 ha w1 s1 => ?_)
                        have hn9 := w1.2.2.1
                        have hagree : rest.map (ni_cv ad' fm) = rest.map (ni_cv ad fm) ∧ ni_lr (ni_cv ad' fm) als ls := by
                          simp only [Bool.or_eq_true, decide_eq_true_eq, Bool.and_eq_true] at hok
                          rcases hok with hok | ⟨hok1, hok2⟩
                          · have hadd : ad' = ad := by
                              funext i
                              rw [hok] at ha
                              exact ha i (by omega)
                            rw [hadd]
                            exact ⟨rfl, hlr⟩
                          · have hcv : ∀ v, ni_okv z.1 v = true → ni_cv ad' fm v = ni_cv ad fm v := by
                              intro v hv
                              cases v with
                              | ref i =>
                                simp only [ni_okv, Bool.or_eq_true] at hv
                                simp only [ni_cv]
                                rw [ha i]
                                rcases hv with hv | hv
                                · have := Nat.le_of_ble_eq_true hv; omega
                                · have := Nat.le_of_ble_eq_true hv; omega
                              | _ => rfl
                            refine ⟨List.map_congr_left (fun v hv => hcv v (List.all_eq_true.mp hok2 v hv)), hlr.1, hlr.2.1, fun i v hv hu => ?_⟩
                            rw [hcv v (List.all_eq_true.mp hok1 v (List.mem_of_getElem? hv))]
                            exact hlr.2.2 i v hv hu
                        have e1 : cells + (z1.1 - z.1) + (z'.1 - z1.1) = cells + (z'.1 - z.1) := by omega
                        have e2 : slots + (z1.2 - z.2) + (z'.2 - z1.2) = slots + (z'.2 - z.2) := by omega
                        have hst : (r1.map (ni_cv ad' fm)).toList ++ rest.map (ni_cv ad fm) = (r1.toList ++ rest).map (ni_cv ad' fm) := by
                          rw [List.map_append, hagree.1]
                          cases r1 <;> rfl
                        rw [hst]
                        refine IH (d' + 1) mm _ ls (r1.toList ++ rest) z1 h1 r z' h' g p e R s m args below meth c H1 locs1 _ _ Qz A ad' ct' als hx hb hml hts hown hname (ni_Cx_ad hCx (fun i hi => ha i (by omega)) hWd.2.2.2.2.2.2.1) w1 s1 hA hRf hRl (by omega) (by omega) hagree.2 ?_
                        rw [e1, e2]
                        intro ad2 ct2 H2 locs2 pc1 als1 ins1 st1 ha2
                        refine hret ad2 ct2 H2 locs2 pc1 als1 ins1 st1 (fun i hi => ?_)
                        rw [ha2 i (by omega), ha i (by omega)]
                      · cases g
                    · cases g
                  · cases g
