/-! ===== links out of the tables ===== -/
theorem ni_isf_ok {own i a b : Nat} (h : ni_isf own i a b = true) : ∃ (C : String) (T : u_T) (N : Nat), vwCl[a]? = some (C, T, N) ∧ b < N ∧ Cond.fieldLink (ni_cn own) i C (T b).2.1 (T b).2.2.1 ∈ ni_TB ∧ (T b).1 = C := by
  unfold ni_isf at h
  obtain ⟨q, hq, h1⟩ := List.any_eq_true.mp h
  simp only [Bool.and_eq_true] at h1
  obtain ⟨e1, e2, e3, e4⟩ := h1
  have h2 := List.all_eq_true.mp ni_fl_ok q hq
  unfold ni_flc at h2
  rw [Nat.eq_of_beq_eq_true e1, Nat.eq_of_beq_eq_true e2, Nat.eq_of_beq_eq_true e3, Nat.eq_of_beq_eq_true e4] at h2
  split at h2
  · next C T N hc =>
    simp only [Bool.and_eq_true, decide_eq_true_eq] at h2
    exact ⟨C, T, N, hc, Nat.le_of_ble_eq_true h2.1.1, ni_TB_mem h2.1.2 rfl, h2.2⟩
  · cases h2
theorem ni_isk_ok {own i : Nat} {v : Value} (h : ni_isk own i v = true) : (∀ x, v = .int x → Cond.constant (ni_cn own) i x ∈ ni_TB) ∧ (∀ x, v = .long x → Cond.constantLong (ni_cn own) i x ∈ ni_TB) := by
  unfold ni_isk at h
  obtain ⟨q, hq, h1⟩ := List.any_eq_true.mp h
  simp only [Bool.and_eq_true, decide_eq_true_eq] at h1
  obtain ⟨e1, e2, e3⟩ := h1
  have h2 := List.all_eq_true.mp ni_kc_ok q hq
  unfold ni_kcc at h2
  rw [Nat.eq_of_beq_eq_true e1, Nat.eq_of_beq_eq_true e2, e3] at h2
  constructor
  · intro x hx
    subst hx
    exact ni_TB_mem (by simpa using h2) rfl
  · intro x hx
    subst hx
    exact ni_TB_mem (by simpa using h2) rfl
theorem ni_isp_ok {own i a : Nat} (h : ni_isp own i a = true) : Cond.methodLink (ni_cn own) i (ni_spn a) ∈ ni_TB := by
  unfold ni_isp at h
  obtain ⟨q, hq, h1⟩ := List.any_eq_true.mp h
  simp only [Bool.and_eq_true] at h1
  obtain ⟨e1, e2, e3⟩ := h1
  have h2 := List.all_eq_true.mp ni_sp_ok q hq
  unfold ni_spc at h2
  rw [Nat.eq_of_beq_eq_true e1, Nat.eq_of_beq_eq_true e2, Nat.eq_of_beq_eq_true e3] at h2
  exact ni_TB_mem (by simpa using h2) rfl
theorem ni_okI_ok {e : ni_E} {i : Int32} (h : ni_okI e i = true) : ∃ (t n : Nat) (f : Nat → Int32), e = .inl (t, n, .inl f) ∧ (t = 0 ∨ t = 10) ∧ vp_in i n := by
  unfold ni_okI at h
  split at h
  · next t n f =>
    simp only [Bool.and_eq_true, Bool.or_eq_true] at h
    exact ⟨t, n, f, rfl, h.1.imp Nat.eq_of_beq_eq_true Nat.eq_of_beq_eq_true, ni_in_iff.mp h.2⟩
  · cases h
theorem ni_okS_ok {e : ni_E} {i : Int32} (h : ni_okS e i = true) : ∃ (n : Nat) (f : Nat → Int32), e = .inl (0, n, .inl f) ∧ vp_in i n := by
  unfold ni_okS at h
  split at h
  · next t n f =>
    simp only [Bool.and_eq_true] at h
    rw [Nat.eq_of_beq_eq_true h.1]
    exact ⟨n, f, rfl, ni_in_iff.mp h.2⟩
  · cases h
theorem ni_okB_ok {e : ni_E} {i : Int32} (h : ni_okB e i = true) : ∃ (n : Nat) (f : Nat → Int32), e = .inl (11, n, .inl f) ∧ vp_in i n := by
  unfold ni_okB at h
  split at h
  · next t n f =>
    simp only [Bool.and_eq_true] at h
    rw [Nat.eq_of_beq_eq_true h.1]
    exact ⟨n, f, rfl, ni_in_iff.mp h.2⟩
  · cases h
theorem ni_okL_ok {e : ni_E} {i : Int32} (h : ni_okL e i = true) : ∃ (n : Nat) (f : Nat → Int64), e = .inl (1, n, .inr (.inl f)) ∧ vp_in i n := by
  unfold ni_okL at h
  split at h
  · next t n f =>
    simp only [Bool.and_eq_true] at h
    rw [Nat.eq_of_beq_eq_true h.1]
    exact ⟨n, f, rfl, ni_in_iff.mp h.2⟩
  · cases h
theorem ni_okA_ok {e : ni_E} {i : Int32} (h : ni_okA e i = true) : ∃ (t n : Nat) (l : List (Option Nat)), e = .inl (t, n, .inr (.inr l)) ∧ (t = 2 ∨ t = 3) ∧ vp_in i n := by
  unfold ni_okA at h
  split at h
  · next t n l =>
    simp only [Bool.and_eq_true, Bool.or_eq_true] at h
    exact ⟨t, n, l, rfl, h.1.imp Nat.eq_of_beq_eq_true Nat.eq_of_beq_eq_true, ni_in_iff.mp h.2⟩
  · cases h
theorem ni_is_ok {e : ni_E} {a b : Nat} (h : ni_is e a b = true) : ∃ fs, e = .inr (a, fs) ∧ b < fs.length := by
  unfold ni_is at h
  split at h
  · next c fs =>
    simp only [Bool.and_eq_true] at h
    rw [Nat.eq_of_beq_eq_true h.1]
    exact ⟨fs, rfl, Nat.le_of_ble_eq_true h.2⟩
  · cases h
theorem ni_rc_ok {e : ni_E} {a : Nat} (h : ni_rc e a = true) : ∃ fs, e = .inr (a, fs) := by
  unfold ni_rc at h
  split at h
  · next c fs =>
    rw [Nat.eq_of_beq_eq_true h]
    exact ⟨fs, rfl⟩
  · cases h
theorem ni_fit_ok {ad : Nat → Nat} {fm : Value} {ty : FieldType} {v : Value} (hfm : fm = .null ∨ ∃ t, fm = .ref t) (h : ni_fit ty v = true) : narrow ty (ni_cv ad fm v) = ni_cv ad fm v ∧ fits ty (ni_cv ad fm v) = true := by
  unfold ni_fit at h
  simp only [Bool.and_eq_true, decide_eq_true_eq] at h
  obtain ⟨h1, h2⟩ := h
  cases v with
  | ref i => cases ty <;> simp [fits] at h2 <;> exact ⟨rfl, rfl⟩
  | retAddr i => cases ty <;> simp [fits] at h2
  | _ => exact ⟨h1, h2⟩
theorem ni_cats {ad : Nat → Nat} {fm : Value} (hfm : fm = .null ∨ ∃ t, fm = .ref t) (r : List Value) : ((r.map (ni_cv ad fm)).map fun v => v.category).sum = ni_sw r := by
  have h1 : fm.category = 1 := by rcases hfm with rfl | ⟨t, rfl⟩ <;> rfl
  unfold ni_sw
  rw [List.map_map]
  congr 1
  apply List.map_congr_left
  intro v _
  exact ni_cv_c h1 v
theorem ni_spn_0 : ni_spn 900 = arraycopyName := by simp [ni_spn]
theorem ni_spn_1 : ni_spn 901 = Lib.objectInit := by simp [ni_spn, show Nat.beq 901 900 = false from by decide]
theorem ni_spn_2 : ni_spn 902 = Lib.Math.abs.name := by simp [ni_spn, show Nat.beq 902 900 = false from by decide, show Nat.beq 902 901 = false from by decide]
theorem ni_spn_3 : ni_spn 903 = Lib.Math.max.name := by simp [ni_spn, show Nat.beq 903 900 = false from by decide, show Nat.beq 903 901 = false from by decide, show Nat.beq 903 902 = false from by decide]
theorem ni_spn_4 : ni_spn 904 = Lib.Math.min.name := by simp [ni_spn, show Nat.beq 904 900 = false from by decide, show Nat.beq 904 901 = false from by decide, show Nat.beq 904 902 = false from by decide, show Nat.beq 904 903 = false from by decide]
theorem ni_cpy_ok {e0 e1 e : ni_E} {sp dp n : Int32} (h : ni_cpy e0 e1 sp dp n = some e) : (∃ (n0 n1 : Nat) (f g : Nat → Int32), e0 = .inl (0, n0, .inl f) ∧ e1 = .inl (0, n1, .inl g) ∧ e = .inl (0, n1, .inl (va_cpy f g sp.toNatClampNeg dp.toNatClampNeg n.toNatClampNeg)) ∧ ¬ sp < 0 ∧ ¬ dp < 0 ∧ ¬ n < 0 ∧ sp.toNatClampNeg + n.toNatClampNeg ≤ n0 ∧ dp.toNatClampNeg + n.toNatClampNeg ≤ n1) ∨ (∃ (n0 n1 : Nat) (f g : Nat → Int64), e0 = .inl (1, n0, .inr (.inl f)) ∧ e1 = .inl (1, n1, .inr (.inl g)) ∧ e = .inl (1, n1, .inr (.inl (va_cpy f g sp.toNatClampNeg dp.toNatClampNeg n.toNatClampNeg))) ∧ ¬ sp < 0 ∧ ¬ dp < 0 ∧ ¬ n < 0 ∧ sp.toNatClampNeg + n.toNatClampNeg ≤ n0 ∧ dp.toNatClampNeg + n.toNatClampNeg ≤ n1) := by
  unfold ni_cpy at h
  split at h
  · split at h
    · cases h
    · next hc =>
      cases h
      simp only [Bool.or_eq_true, decide_eq_true_eq, Bool.not_eq_true', not_or] at hc
      obtain ⟨⟨⟨⟨c1, c2⟩, c3⟩, c4⟩, c5⟩ := hc
      exact Or.inl ⟨_, _, _, _, rfl, rfl, rfl, c1, c2, c3, Nat.le_of_ble_eq_true (by simpa using c4), Nat.le_of_ble_eq_true (by simpa using c5)⟩
  · split at h
    · cases h
    · next hc =>
      cases h
      simp only [Bool.or_eq_true, decide_eq_true_eq, Bool.not_eq_true', not_or] at hc
      obtain ⟨⟨⟨⟨c1, c2⟩, c3⟩, c4⟩, c5⟩ := hc
      exact Or.inr ⟨_, _, _, _, rfl, rfl, rfl, c1, c2, c3, Nat.le_of_ble_eq_true (by simpa using c4), Nat.le_of_ble_eq_true (by simpa using c5)⟩
  · cases h
section
variable {p : Program} {l : Launch} {e : Env} {R : Room} {s : State} {m : MethodId} {args : Array Value} {below : List Frame} {meth : Method} {c : Code} {H : Heap} {locs : List Loc} {cells slots : Nat} {Qz : State → Prop}
set_option maxHeartbeats 4000000 in
theorem ni_h_ok {D : va_G} {ad : Nat → Nat} {fm : Value} {ct : Nat → ClassId} {x : ni_H} {A : Nat → Prop} {n mm d : Nat} {h h' : ni_H} (hfm : fm = .null ∨ ∃ t, fm = .ref t) (hx : p.tables.exec = Jvm.exec) (hb : c.code = (ni_mt mm).2.1) (hts : ∀ w ∈ ni_TB, w.before args s = true) (hown : s.vm.findClass (ni_cn (ni_own mm)) = some m.cls) (hname : meth.name = (ni_mt mm).1.name) (hCx : ni_Cx D ad fm x A s) (hWd : ni_Wd D ad fm ct x A n h s H) (hS : va_S A s.heap H locs) (hRf : d ≤ R.frames) (hRl : 40 * d ≤ R.locals) (hcl : cells ≤ R.cells) (hsl : slots ≤ R.slots)
    {ins : Instr} {len a b pc : Nat} {v : Value} {ty : FieldType} {st st' : List Value} {als : Array Slot} (hml : c.maxLocals = als.size) (hdg : decode (ni_mt mm).2.1 pc = .ok (ins, len)) (hlen : ni_ln ins = 0 ∨ ni_ln ins = len) (hlk : ni_lk mm ins a b v ty = true) (hh : ni_h ins a b v ty d st h = some (st', h'))
    (k : ∀ (H1 : Heap) (locs1 : List Loc), ni_Wd D ad fm ct x A n h' s H1 → va_S A s.heap H1 locs1 → W p l e R s m args below meth c H1 locs1 cells slots Qz (F0 m (pc + len) als (st'.map (ni_cv ad fm)))) : W p l e R s m args below meth c H locs cells slots Qz (F0 m pc als (st.map (ni_cv ad fm))) := by
  have hK := hCx.1
  obtain ⟨hP, hD, hn9, hwk, hge, hex, hx0, hAr⟩ := id hWd
  cases ins <;> simp only [ni_h] at hh <;> simp only [ni_ln] at hlen <;> (try (rcases hlen with hlen | hlen; · exact absurd hlen (by decide))) <;> (try subst hlen) <;> (try simp only [ni_lk] at hlk)
  case ldc i =>
    cases hh
    simp only [Bool.or_eq_true, Bool.and_eq_true] at hlk
    rcases hlk with ⟨h1, h2⟩ | ⟨h1, h2⟩
    · cases v <;> simp [ni_vi] at h2
      exact lv_ldc hx hb hown (hts _ ((ni_isk_ok h1).1 _ rfl)) hdg (k H locs hWd hS)
    · unfold ni_iss at h2
      obtain ⟨q, hq, h3⟩ := List.any_eq_true.mp h2
      simp only [Bool.and_eq_true, decide_eq_true_eq] at h3
      have h4 := hCx.2.2.1 q hq
      have e0 : ni_own mm = 3 := Nat.eq_of_beq_eq_true h1
      rw [e0] at hown
      rw [Nat.eq_of_beq_eq_true h3.1] at h4
      have kk := k H locs hWd hS
      rw [← h3.2] at kk
      exact va_ldcS hx hb hown h4 hdg kk
  case ldc_w i =>
    cases hh
    simp only [Bool.and_eq_true] at hlk
    cases v <;> simp [ni_vi] at hlk
    exact lv_ldcw hx hb hown (hts _ ((ni_isk_ok hlk).1 _ rfl)) hdg (k H locs hWd hS)
  case ldc2_w i =>
    cases hh
    simp only [Bool.and_eq_true] at hlk
    cases v <;> simp [ni_vl] at hlk
    exact lv_ldc2 hx hb hown (hts _ ((ni_isk_ok hlk).2 _ rfl)) hdg (k H locs hWd hS)
  case getstatic i =>
    cases hh
    unfold ni_ist at hlk
    obtain ⟨q, hq, h1⟩ := List.any_eq_true.mp hlk
    simp only [Bool.and_eq_true, decide_eq_true_eq] at h1
    obtain ⟨e1, e2, e3⟩ := h1
    have hZ := hCx.2.2.2.2.1 q hq
    rw [e3] at hZ
    have h2 := List.all_eq_true.mp ni_st_ok q hq
    unfold ni_stc at h2
    simp only [Bool.or_eq_true, decide_eq_true_eq] at h2
    rcases h2 with h2 | h2
    · have h3 := hCx.2.1 _ (ni_st_in q hq (Nat.eq_of_beq_eq_true h2))
      rw [Nat.eq_of_beq_eq_true e1, Nat.eq_of_beq_eq_true e2] at h3
      exact va_getsN hx hb hZ hS hown (va_Nw.use rfl h3) (fun _ h9 => h9) hdg (k H locs hWd hS)
    · have h3 := ni_TB_mem h2 rfl
      rw [Nat.eq_of_beq_eq_true e1, Nat.eq_of_beq_eq_true e2] at h3
      exact va_gets hx hb hZ hS hown (hts _ h3) (fun _ h9 => h9) hdg (k H locs hWd hS)
  case getfield i =>
    split at hh
    · next o r =>
      split at hh
      · next h1 =>
        cases hh
        obtain ⟨fs, e1, e2⟩ := ni_is_ok h1
        have kk := k H locs hWd hS
        rw [e1] at kk
        cases hb0 : Nat.beq a 100 with
        | true =>
          rw [hb0] at hlk
          have ha := Nat.eq_of_beq_eq_true hb0
          subst ha
          simp only [cond_true, Bool.and_eq_true, Bool.or_eq_true] at hlk
          have e3 : x o = h o := hWd.ge (by rw [e1]; rfl)
          obtain ⟨g1, g2, g3, g4⟩ := hCx.2.2.2.2.2.2.2 o fs (e3.trans e1)
          have e0 : ni_own mm = 10 := Nat.eq_of_beq_eq_true hlk.1
          rw [e0] at hown
          subst g1
          rcases hlk.2 with ⟨i1, i2⟩ | ⟨i1, i2⟩
          · have i1 := Nat.eq_of_beq_eq_true i1
            have i2 := Nat.eq_of_beq_eq_true i2
            subst i1; subst i2
            exact vk_getf hx hb g4 hS hown (hts _ tb_sv) (fun _ h9 => h9) hdg kk
          · have i1 := Nat.eq_of_beq_eq_true i1
            have i2 := Nat.eq_of_beq_eq_true i2
            subst i1; subst i2
            exact vk_getf hx hb g3 hS hown (hts _ tb_sc) (fun _ h9 => h9) hdg kk
        | false =>
          rw [hb0] at hlk
          simp only [cond_false] at hlk
          obtain ⟨C, T, N, c1, c2, c3, c4⟩ := ni_isf_ok hlk
          have ho : o < n := hWd.lt (by rw [e1]; exact hb0)
          have hg := ni_ws_get (ad := ad) (fm := fm) (ct := ct) (h := h) ho
          rw [e1] at hg
          have e5 : (fs.map (ni_cv ad fm))[b]? = some (ni_cv ad fm (ni_gv (.inr (a, fs)) b)) := by
            rw [List.getElem?_map]
            simp [ni_gv, e2]
          exact va_get hx hb hts (ni_hin c1) hown hK hP o hg c1 b c2 (hts _ c3) (fun z hz => by rw [c4] at hz; exact hz) e5 hdg kk
      · cases hh
    · cases hh
  case putfield i =>
    split at hh
    · next w o r =>
      split at hh
      · next h1 =>
        simp only [Option.some.injEq, Prod.mk.injEq] at hh
        obtain ⟨q8, q9⟩ := hh
        subst q8
        subst q9
        simp only [Bool.and_eq_true] at h1 hlk
        obtain ⟨⟨h10, h11⟩, h12⟩ := h1
        obtain ⟨fs, e1, e2⟩ := ni_is_ok h11
        obtain ⟨C, T, N, c1, c2, c3, c4⟩ := ni_isf_ok hlk.1
        obtain ⟨ty0, t1, t2⟩ := ni_hty c1
        have hf := hlk.2
        unfold ni_fin at hf
        rw [c1] at hf
        simp only [Bool.and_eq_true, Bool.or_eq_true, decide_eq_true_eq] at hf
        have ha7 : a ≤ 7 := Nat.le_of_ble_eq_true h10
        have ho : o < n := hWd.lt (by
          rw [e1]
          show Nat.beq a 100 = false
          cases hq : Nat.beq a 100 with
          | false => rfl
          | true => have := Nat.eq_of_beq_eq_true hq; omega)
        have hg := ni_ws_get (ad := ad) (fm := fm) (ct := ct) (h := h) ho
        rw [e1] at hg
        obtain ⟨f1, f2⟩ := ni_fit_ok (ad := ad) hfm h12
        have kk : ∀ (H1 : Heap) (locs1 : List Loc), va_P D vwCl ((ni_ws ad fm ct n h).set o (ad o, .inr (a, (fs.map (ni_cv ad fm)).set b (ni_cv ad fm w)))) H1 → va_D A ((ni_ws ad fm ct n h).set o (ad o, .inr (a, (fs.map (ni_cv ad fm)).set b (ni_cv ad fm w)))) → va_S A s.heap H1 locs1 → W p l e R s m args below meth c H1 locs1 cells slots Qz (F0 m (pc + 3) als (r.map (ni_cv ad fm))) := by
          intro H1 locs1 q1 q2 q3
          refine k H1 locs1 (hWd.up ho ?_ ?_ ?_ ?_) q3
          · rw [e1]; exact h10
          · rw [e1]
            show va_P D vwCl ((ni_ws ad fm ct n h).set o (ad o, .inr (a, (fs.set b w).map (ni_cv ad fm)))) H1
            rw [List.map_set]
            exact q1
          · rw [e1]
            show va_D A ((ni_ws ad fm ct n h).set o (ad o, .inr (a, (fs.set b w).map (ni_cv ad fm))))
            rw [List.map_set]
            exact q2
          · intro t a' e9
            rw [e1] at e9
            cases e9
        cases hfi : (T b).2.2.2 with
        | false => exact va_put hx hb hts (ni_hin c1) ty0 t1 t2 hown hK hP hD hS o hg c1 b c2 (hts _ c3) (fun z hz => by rw [c4] at hz; exact hz) hfi hf.1 f1 f2 (by rw [List.length_map]; exact e2) hdg kk
        | true =>
          rw [hfi] at hf
          simp at hf
          obtain ⟨hf1, hf2, hf3⟩ := hf
          have hC : ni_cn a = C := by
            have : ∀ a, a < 8 → ∀ q, vwCl[a]? = some q → ni_cn a = q.1 := by
              intro a ha
              match a, ha with
              | 0, _ => intro q h9; cases h9; rfl
              | 1, _ => intro q h9; cases h9; rfl
              | 2, _ => intro q h9; cases h9; rfl
              | 3, _ => intro q h9; cases h9; rfl
              | 4, _ => intro q h9; cases h9; rfl
              | 5, _ => intro q h9; cases h9; rfl
              | 6, _ => intro q h9; cases h9; rfl
              | 7, _ => intro q h9; cases h9; rfl
              | k + 8, h9 => omega
            exact this a (by omega) _ c1
          exact va_putF hx hb hts (ni_hin c1) ty0 t1 t2 hown hK hP hD hS o hg c1 b c2 (hts _ c3) (fun z hz => by rw [c4] at hz; exact hz) hfi (hname.trans hf3) (by rw [c4, ← hC, hf2]) hf1 f1 f2 (by rw [List.length_map]; exact e2) hdg kk
      · cases hh
    · cases hh
  case iaload =>
    split at hh
    · next i o r =>
      split at hh
      · next h1 =>
        cases hh
        obtain ⟨t, N, f, e1, e2, e3⟩ := ni_okI_ok h1
        have kk := k H locs hWd hS
        rw [e1] at kk
        rcases e2 with e2 | e2
        · subst e2
          have ho : o < n := hWd.lt (by rw [e1]; rfl)
          have hg := ni_ws_get (ad := ad) (fm := fm) (ct := ct) (h := h) ho
          rw [e1] at hg
          exact va_iald hx hb (ni_K1 hK (hAr o 0 _ ho e1)) hP o 0 hg rfl e3 hdg kk
        · subst e2
          have e4 : x o = h o := hWd.ge (by rw [e1]; rfl)
          exact va_ti hx hb (hCx.2.2.2.2.2.1 o N f (e4.trans e1)) hS e3 rfl hdg kk
      · cases hh
    · cases hh
  case baload =>
    split at hh
    · next i o r =>
      split at hh
      · next h1 =>
        cases hh
        obtain ⟨N, f, e1, e3⟩ := ni_okB_ok h1
        have kk := k H locs hWd hS
        rw [e1] at kk
        have e4 : x o = h o := hWd.ge (by rw [e1]; rfl)
        exact va_tb hx hb (hCx.2.2.2.2.2.2.1 o N f (e4.trans e1)) hS e3 rfl hdg kk
      · cases hh
    · cases hh
  case laload =>
    split at hh
    · next i o r =>
      split at hh
      · next h1 =>
        cases hh
        obtain ⟨N, f, e1, e3⟩ := ni_okL_ok h1
        have kk := k H locs hWd hS
        rw [e1] at kk
        have ho : o < n := hWd.lt (by rw [e1]; rfl)
        have hg := ni_ws_get (ad := ad) (fm := fm) (ct := ct) (h := h) ho
        rw [e1] at hg
        exact va_lald hx hb (ni_K1 hK (hAr o 1 _ ho e1)) hP o 0 hg rfl e3 hdg kk
      · cases hh
    · cases hh
  case aaload =>
    split at hh
    · next i o r =>
      split at hh
      · next h1 =>
        cases hh
        obtain ⟨t, N, l2, e1, e2, e3⟩ := ni_okA_ok h1
        have kk := k H locs hWd hS
        rw [e1] at kk
        have ho : o < n := hWd.lt (by rw [e1]; rcases e2 with rfl | rfl <;> rfl)
        have hg := ni_ws_get (ad := ad) (fm := fm) (ct := ct) (h := h) ho
        rw [e1] at hg
        have ev : ni_cv ad fm (ni_ga (.inl (t, N, .inr (.inr l2))) i) = va_rf ((l2.getD i.toNatClampNeg none).map ad) := by
          simp only [ni_ga]
          cases l2.getD i.toNatClampNeg none <;> rfl
        simp only [List.map_cons, ev] at kk
        rcases e2 with e2 | e2
        · subst e2
          exact va_aldq (C := "FiveStones$Shelf") hx hb (ni_K1 hK (hAr o 2 _ ho e1)) hP o 0 hg rfl e3 hdg kk
        · subst e2
          exact va_aldq (C := "FiveStones$Hand") hx hb (ni_K1 hK (hAr o 3 _ ho e1)) hP o 0 hg rfl e3 hdg kk
      · cases hh
    · cases hh
  case iastore =>
    split at hh
    · next y i o r =>
      split at hh
      · next h1 =>
        cases hh
        obtain ⟨N, f, e1, e3⟩ := ni_okS_ok h1
        have ho : o < n := hWd.lt (by rw [e1]; rfl)
        have hg := ni_ws_get (ad := ad) (fm := fm) (ct := ct) (h := h) ho
        rw [e1] at hg
        refine va_iast hx hb (ni_K1 hK (hAr o 0 _ ho e1)) hP hD hS o 0 hg rfl e3 hdg (fun H1 locs1 q1 q2 q3 => k H1 locs1 (hWd.up ho ?_ ?_ ?_ ?_) q3)
        · rw [e1]; rfl
        · rw [e1]; exact q1
        · rw [e1]; exact q2
        · intro t a' e9
          rw [e1] at e9
          cases e9
          exact ⟨_, e1⟩
      · cases hh
    · cases hh
  case lastore =>
    split at hh
    · next y i o r =>
      split at hh
      · next h1 =>
        cases hh
        obtain ⟨N, f, e1, e3⟩ := ni_okL_ok h1
        have ho : o < n := hWd.lt (by rw [e1]; rfl)
        have hg := ni_ws_get (ad := ad) (fm := fm) (ct := ct) (h := h) ho
        rw [e1] at hg
        refine va_last hx hb (ni_K1 hK (hAr o 1 _ ho e1)) hP hD hS o 0 hg rfl e3 hdg (fun H1 locs1 q1 q2 q3 => k H1 locs1 (hWd.up ho ?_ ?_ ?_ ?_) q3)
        · rw [e1]; rfl
        · rw [e1]; exact q1
        · rw [e1]; exact q2
        · intro t a' e9
          rw [e1] at e9
          cases e9
          exact ⟨_, e1⟩
      · cases hh
    · cases hh
  case aastore =>
    split at hh
    · next x1 i o r =>
      split at hh
      · next h1 =>
        simp only [Option.some.injEq, Prod.mk.injEq] at hh
        obtain ⟨q8, q9⟩ := hh
        subst q8
        subst q9
        simp only [Bool.and_eq_true] at h1
        obtain ⟨h11, h12, h13⟩ := h1
        obtain ⟨t, N, l2, e1, e2, e3⟩ := ni_okA_ok h11
        rw [e1] at h12 h13
        obtain ⟨fs, e4⟩ := ni_rc_ok h12
        have hlt : i.toNatClampNeg < l2.length := Nat.le_of_ble_eq_true h13
        have ho : o < n := hWd.lt (by rw [e1]; rcases e2 with rfl | rfl <;> rfl)
        have ho1 : x1 < n := hWd.lt (by rw [e4]; rcases e2 with rfl | rfl <;> rfl)
        have hg := ni_ws_get (ad := ad) (fm := fm) (ct := ct) (h := h) ho
        rw [e1] at hg
        have hg1 := ni_ws_get (ad := ad) (fm := fm) (ct := ct) (h := h) ho1
        rw [e4] at hg1
        have ef : va_up (fun j => (l2.getD j none).map ad) i.toNatClampNeg (some (ad x1)) = fun j => ((l2.set i.toNatClampNeg (some x1)).getD j none).map ad := by
          funext j
          unfold va_up
          by_cases hj : j = i.toNatClampNeg
          · rw [if_pos hj, hj]
            simp [hlt]
          · rw [if_neg hj]
            simp [List.getElem?_set_ne (Ne.symm hj)]
        have kk : ∀ (H1 : Heap) (locs1 : List Loc), va_P D vwCl ((ni_ws ad fm ct n h).set o (ad o, .inl (ct o, N, .inr (.inr (.inr (.inr (va_up (fun j => (l2.getD j none).map ad) i.toNatClampNeg (some (ad x1))))))))) H1 → va_D A ((ni_ws ad fm ct n h).set o (ad o, .inl (ct o, N, .inr (.inr (.inr (.inr (va_up (fun j => (l2.getD j none).map ad) i.toNatClampNeg (some (ad x1))))))))) → va_S A s.heap H1 locs1 → W p l e R s m args below meth c H1 locs1 cells slots Qz (F0 m (pc + 1) als (r.map (ni_cv ad fm))) := by
          intro H1 locs1 q1 q2 q3
          rw [ef] at q1 q2
          refine k H1 locs1 (hWd.up ho ?_ ?_ ?_ ?_) q3
          · rw [e1]; rcases e2 with rfl | rfl <;> rfl
          · rw [e1]; exact q1
          · rw [e1]; exact q2
          · intro t' a' e9
            rw [e1] at e9
            cases e9
            exact ⟨_, e1⟩
        rcases e2 with e2 | e2
        · subst e2
          exact va_astq (r := (RX4, TX4, 5)) hx hb (ni_K1 hK (hAr o 2 _ ho e1)) hP hD hS o 0 x1 4 hg rfl hg1 rfl e3 hdg kk
        · subst e2
          exact va_astq (r := (RX1, TX1, 6)) hx hb (ni_K1 hK (hAr o 3 _ ho e1)) hP hD hS o 0 x1 1 hg rfl hg1 rfl e3 hdg kk
      · cases hh
    · cases hh
  case arraylength =>
    split at hh
    · next o r =>
      split at hh
      · next h1 =>
        cases hh
        have kk := k H locs hWd hS
        rcases Nat.lt_or_ge o n with ho | ho
        · have hg := ni_ws_get (ad := ad) (fm := fm) (ct := ct) (h := h) ho
          cases ho1 : h o with
          | inr q => rw [ho1] at h1; cases h1
          | inl q =>
            obtain ⟨t, N, q⟩ := q
            rw [ho1] at hg kk
            match q, hg with
            | .inl f, hg => exact va_alen hx hb (ni_K1 hK (hAr o t _ ho ho1)) hP o 0 hg rfl rfl hdg kk
            | .inr (.inl f), hg => exact va_alen hx hb (ni_K1 hK (hAr o t _ ho ho1)) hP o 0 hg rfl rfl hdg kk
            | .inr (.inr f), hg => exact va_alen hx hb (ni_K1 hK (hAr o t _ ho ho1)) hP o 0 hg rfl rfl hdg kk
        · have e4 := hge o ho
          have e5 := hex o
          rw [← e4] at e5
          cases ho1 : h o with
          | inr q => rw [ho1] at h1; cases h1
          | inl q =>
            obtain ⟨t, N, q⟩ := q
            rw [ho1] at e5 h1 kk
            match q with
            | .inl f =>
              simp only [ni_ex, Bool.or_eq_true] at e5
              rcases e5 with e5 | e5
              · have e5 := Nat.eq_of_beq_eq_true e5
                subst e5
                exact va_tlen hx hb (hCx.2.2.2.2.2.1 o N f (e4.symm.trans ho1)) hS rfl hdg kk
              · have e5 := Nat.eq_of_beq_eq_true e5
                subst e5
                exact va_tlen hx hb (hCx.2.2.2.2.2.2.1 o N f (e4.symm.trans ho1)) hS rfl hdg kk
            | .inr q =>
              simp only [ni_ex] at e5
              simp only [ni_arr, e5] at h1
              cases h1
      · cases hh
    · cases hh
  case idiv =>
    split at hh
    · next y x1 r =>
      split at hh
      · cases hh
      · next h1 => cases hh; exact lv_idiv hx hb hdg h1 (k H locs hWd hS)
    · cases hh
  case irem =>
    split at hh
    · next y x1 r =>
      split at hh
      · cases hh
      · next h1 => cases hh; exact lv_irem hx hb hdg h1 (k H locs hWd hS)
    · cases hh
  case ldiv =>
    split at hh
    · next y x1 r =>
      split at hh
      · cases hh
      · next h1 => cases hh; exact lv_ldiv hx hb hdg h1 (k H locs hWd hS)
    · cases hh
  case invokespecial i =>
    cases hb0 : Nat.beq a 901 with
    | false => rw [hb0] at hh; cases hh
    | true =>
      rw [hb0] at hh
      have ha := Nat.eq_of_beq_eq_true hb0
      subst ha
      simp only [cond_true] at hh
      split at hh
      · next o r =>
        split at hh
        · next h1 =>
          simp only [Option.some.injEq, Prod.mk.injEq] at hh
          obtain ⟨q8, q9⟩ := hh
          subst q8
          subst q9
          simp only [Bool.and_eq_true] at h1
          have hd1 := Nat.le_of_ble_eq_true h1.1
          have hr8 := Nat.le_of_ble_eq_true h1.2
          simp only [show Nat.ble 900 901 = true from by decide, cond_true, show Nat.beq 901 999 = false from by decide, Bool.false_or] at hlk
          have h4 := ni_isp_ok hlk
          rw [ni_spn_1] at h4
          have h5 : ((r.map (ni_cv ad fm)).map fun v => v.category).sum ≤ 8 := by rw [ni_cats hfm]; exact hr8
          have h6 : 2 * (F0 m pc als (.ref (ad o) :: r.map (ni_cv ad fm))).monitorRoom + ((r.map (ni_cv ad fm)).map fun v => v.category).sum ≤ 8 := lv_room h5
          exact W.objInit (g := F0 m pc als (.ref (ad o) :: r.map (ni_cv ad fm))) hx hb hown (hts _ h4) (hts _ tb_oi) (hts _ tb_oc) rfl hml.symm rfl hdg (by omega) (by omega) (k H locs hWd hS)
        · cases hh
      · cases hh
  case invokestatic i =>
    cases hb0 : Nat.beq a 900 with
    | true =>
      rw [hb0] at hh
      have ha := Nat.eq_of_beq_eq_true hb0
      subst ha
      simp only [cond_true] at hh
      split at hh
      · next n1 dp o1 sp o0 r =>
        split at hh
        · next h1 =>
          split at hh
          · next e9 he9 =>
            simp only [Option.some.injEq, Prod.mk.injEq] at hh
            obtain ⟨q8, q9⟩ := hh
            subst q8
            subst q9
            simp only [Bool.and_eq_true] at h1
            have hd1 := Nat.le_of_ble_eq_true h1.1
            have hr8 := Nat.le_of_ble_eq_true h1.2
            simp only [show Nat.ble 900 900 = true from by decide, cond_true, show Nat.beq 900 999 = false from by decide, Bool.false_or] at hlk
            have h4 := ni_isp_ok hlk
            rw [ni_spn_0] at h4
            have h5 : ((r.map (ni_cv ad fm)).map fun v => v.category).sum ≤ 8 := by rw [ni_cats hfm]; exact hr8
            have h7 : nativeFrameWords "java/lang/System" "arraycopy" 5 = 7 := by decide
            rcases ni_cpy_ok he9 with ⟨n0, n2, f, g, c0, c1, c2, c3, c4, c5, c6, c7⟩ | ⟨n0, n2, f, g, c0, c1, c2, c3, c4, c5, c6, c7⟩
            · have hz0 : o0 < n := hWd.lt (by rw [c0]; rfl)
              have hz1 : o1 < n := hWd.lt (by rw [c1]; rfl)
              have hg0 := ni_ws_get (ad := ad) (fm := fm) (ct := ct) (h := h) hz0
              rw [c0] at hg0
              have hg1 := ni_ws_get (ad := ad) (fm := fm) (ct := ct) (h := h) hz1
              rw [c1] at hg1
              refine va_copyi (ty := .int) hx hb hml hown (hts _ h4) (hts _ tb_an) (hts _ tb_as) (hts _ tb_ai) (ni_K2 hK (hAr o0 0 _ hz0 c0) (hAr o1 0 _ hz1 c1)) hP hD hS o0 o1 0 1 hg0 hg1 rfl rfl rfl c3 c4 c5 c6 c7 (fun _ _ => rfl) (by omega) (by rw [h7]; omega) hdg (fun H1 locs1 q1 q2 q3 => k H1 locs1 (hWd.up hz1 ?_ ?_ ?_ ?_) q3)
              · rw [c2]; rfl
              · rw [c2]; exact q1
              · rw [c2]; exact q2
              · intro t a' e8
                rw [c2] at e8
                cases e8
                exact ⟨_, c1⟩
            · have hz0 : o0 < n := hWd.lt (by rw [c0]; rfl)
              have hz1 : o1 < n := hWd.lt (by rw [c1]; rfl)
              have hg0 := ni_ws_get (ad := ad) (fm := fm) (ct := ct) (h := h) hz0
              rw [c0] at hg0
              have hg1 := ni_ws_get (ad := ad) (fm := fm) (ct := ct) (h := h) hz1
              rw [c1] at hg1
              refine va_copyl (ty := .long) hx hb hml hown (hts _ h4) (hts _ tb_an) (hts _ tb_as) (hts _ tb_ai) (ni_K2 hK (hAr o0 1 _ hz0 c0) (hAr o1 1 _ hz1 c1)) hP hD hS o0 o1 0 1 hg0 hg1 rfl rfl rfl c3 c4 c5 c6 c7 (fun _ _ => rfl) (by omega) (by rw [h7]; omega) hdg (fun H1 locs1 q1 q2 q3 => k H1 locs1 (hWd.up hz1 ?_ ?_ ?_ ?_) q3)
              · rw [c2]; rfl
              · rw [c2]; exact q1
              · rw [c2]; exact q2
              · intro t a' e8
                rw [c2] at e8
                cases e8
                exact ⟨_, c1⟩
          · cases hh
        · cases hh
      · cases hh
    | false =>
      rw [hb0] at hh
      simp only [cond_false] at hh
      cases hb2 : Nat.beq a 902 with
      | true =>
        rw [hb2] at hh
        have ha := Nat.eq_of_beq_eq_true hb2
        subst ha
        simp only [cond_true] at hh
        split at hh
        · next x1 r =>
          split at hh
          · next h1 =>
            simp only [Option.some.injEq, Prod.mk.injEq] at hh
            obtain ⟨q8, q9⟩ := hh
            subst q8
            subst q9
            simp only [Bool.and_eq_true] at h1
            have hd1 := Nat.le_of_ble_eq_true h1.1
            have hr8 := Nat.le_of_ble_eq_true h1.2
            simp only [show Nat.ble 900 902 = true from by decide, cond_true, show Nat.beq 902 999 = false from by decide, Bool.false_or] at hlk
            have h4 := ni_isp_ok hlk
            rw [ni_spn_2] at h4
            have h5 : ((r.map (ni_cv ad fm)).map fun v => v.category).sum ≤ 8 := by rw [ni_cats hfm]; exact hr8
            exact va_mabs hx hb hml hown (hts _ h4) (hts _ tb_abss) (hts _ tb_mi) (hts _ tb_absc) (by omega) (by omega) hcl hsl hdg (k H locs hWd hS)
          · cases hh
        · cases hh
      | false =>
        rw [hb2] at hh
        simp only [cond_false] at hh
        cases hb3 : Nat.beq a 903 with
        | true =>
          rw [hb3] at hh
          have ha := Nat.eq_of_beq_eq_true hb3
          subst ha
          simp only [cond_true] at hh
          split at hh
          · next y1 x1 r =>
            split at hh
            · next h1 =>
              simp only [Option.some.injEq, Prod.mk.injEq] at hh
              obtain ⟨q8, q9⟩ := hh
              subst q8
              subst q9
              simp only [Bool.and_eq_true] at h1
              have hd1 := Nat.le_of_ble_eq_true h1.1
              have hr8 := Nat.le_of_ble_eq_true h1.2
              simp only [show Nat.ble 900 903 = true from by decide, cond_true, show Nat.beq 903 999 = false from by decide, Bool.false_or] at hlk
              have h4 := ni_isp_ok hlk
              rw [ni_spn_3] at h4
              have h5 : ((r.map (ni_cv ad fm)).map fun v => v.category).sum ≤ 8 := by rw [ni_cats hfm]; exact hr8
              exact va_mmax hx hb hml hown (hts _ h4) (hts _ tb_maxs) (hts _ tb_mi) (hts _ tb_maxc) (by omega) (by omega) hcl hsl hdg (k H locs hWd hS)
            · cases hh
          · cases hh
        | false =>
          rw [hb3] at hh
          simp only [cond_false] at hh
          cases hb4 : Nat.beq a 904 with
          | false => rw [hb4] at hh; cases hh
          | true =>
            rw [hb4] at hh
            have ha := Nat.eq_of_beq_eq_true hb4
            subst ha
            simp only [cond_true] at hh
            split at hh
            · next y1 x1 r =>
              split at hh
              · next h1 =>
                simp only [Option.some.injEq, Prod.mk.injEq] at hh
                obtain ⟨q8, q9⟩ := hh
                subst q8
                subst q9
                simp only [Bool.and_eq_true] at h1
                have hd1 := Nat.le_of_ble_eq_true h1.1
                have hr8 := Nat.le_of_ble_eq_true h1.2
                simp only [show Nat.ble 900 904 = true from by decide, cond_true, show Nat.beq 904 999 = false from by decide, Bool.false_or] at hlk
                have h4 := ni_isp_ok hlk
                rw [ni_spn_4] at h4
                have h5 : ((r.map (ni_cv ad fm)).map fun v => v.category).sum ≤ 8 := by rw [ni_cats hfm]; exact hr8
                exact va_mmin hx hb hml hown (hts _ h4) (hts _ tb_mins) (hts _ tb_mi) (hts _ tb_minc) (by omega) (by omega) hcl hsl hdg (k H locs hWd hS)
              · cases hh
            · cases hh
  all_goals cases hh
end
