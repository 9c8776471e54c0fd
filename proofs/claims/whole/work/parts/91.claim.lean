set_option maxRecDepth 100000
/-! THE CLAIM OUT OF ONE WALK OF THE LAW'S BODY. Your part is whole_start (and what it stands on); all else here is the same for every law, but numbers. -/
def R_law : String := "FiveStonesLaw"
def lw_P (b : Addr) (xs : List Int32) (args : Array Value) (s : State) : Prop := args = #[.ref b] ∧ s.IntsAt b xs ∧ xs.length ≤ 3072 ∧ (Jvm.Cond.and given_1 narrow_1).before args s = true
def lw_Q (_ : Array Value) (s : State) (o : Outcome) (t : State) : Prop := o = .returned (some (.int 1)) ∧ Framed s o t [] 600000 7302250
def lw_Z (below : List Frame) (a : Array Value) (s : State) : State → Prop := fun t => ∃ o, t.status = .running ∧ Ended t below o ∧ lw_Q a s o t
/-- the law's own end, with 1 on the stack, nothing written that was there before, its room as the claim has it -/
theorem lw_ret {p : Program} {l : Launch} {e : Env} {s : State} {m : MethodId} {below : List Frame} {meth : Method} {c : Code} {b : Nat} (hx : p.tables.exec = Jvm.exec) (hb : c.code = code) (hr : meth.sig.returnType = ret) (hlocks : meth.locks = false) {pc : Nat} {H : Heap} {ls : Array Slot} (hdg : decode code pc = .ok (.ireturn, 1)) : W p l e room_1 s m #[Value.ref b] below meth c H [] 600000 7302250 (lw_Z below #[Value.ref b] s) (F0 m pc ls [.int 1]) := by
  intro T hT X
  obtain ⟨fs, hret, hrun, hended, hW, hframe⟩ := X.leave (v := some (.int 1)) (hlocks := hlocks) (fun h => by rw [hr] at h; cases h)
  have hmeth' : T.vm.method? m = some meth := X.method'
  refine ⟨T.setFrames fs, ?_, .returned (some (.int 1)), hrun, hended, rfl, ⟨_, rfl⟩, hW, hframe⟩
  jvm_step X.here [X.here.top, hx, hb, hdg, hmeth', hr, ret, narrow_b1]
  (try refine ⟨rfl, ?_⟩); (try refine ⟨rfl, ?_⟩)
  first | (intro acts; rw [hret _ acts rfl rfl rfl]) | rw [hret _ _ rfl rfl rfl]
  exact Steps.refl _
/-- what holds at the law's entry: the machine, the code, the tables' words (any of lw_tbl by 'hts w (by decide +kernel)'), the script of L ints xs at the cell b, what the Statement gives of the start (any of its parts by flat_of_before) -/
def lw_At (p : Program) (s : State) (m : MethodId) (meth : Method) (c : Code) (b L : Nat) (xs : Nat → Int32) : Prop :=
  p.tables.exec = Jvm.exec ∧ c.code = code ∧ meth.sig.returnType = ret ∧ c.maxLocals = 4 ∧ s.vm.findClass R_law = some m.cls ∧ (∀ w ∈ lw_tbl, w.before #[Value.ref b] s = true) ∧ va_X b L xs s s.heap ∧ b < s.heap.size ∧ meth.locks = false ∧ (Jvm.Cond.and given_1 narrow_1).before #[Value.ref b] s = true
section
set_option maxHeartbeats 1000000
def fx_x (L : Nat) (xs : Nat → Int32) : ni_H := fun i => if i = 1000 then .inl (10, L, .inl xs) else if i = 1001 then .inl (10, 7, .inl fs_above) else if i = 1002 then .inl (10, 21, .inl fs_bod) else if 1010 ≤ i ∧ i < 1015 then .inr (100, [.ref (i + 10), .int 0]) else if 1020 ≤ i ∧ i < 1025 then .inl (11, fs_wl (i - 1020), .inl (fs_wb (i - 1020))) else ni_dead
def fx_ad (b tA tB : Nat) (adK adV : Nat → Nat) : Nat → Nat := fun i => if i = 1000 then b else if i = 1001 then tA else if i = 1002 then tB else if i < 1015 then adK (i - 1010) else adV (i - 1020)
theorem fx_s {L : Nat} {xs : Nat → Int32} {w : Nat} (hw : w < 5) : fx_x L xs (1010 + w) = ni_O 100 [.ref (1020 + w), .int 0] := by
  have e : 1010 + w + 10 = 1020 + w := by omega
  unfold fx_x
  rw [if_neg (by omega), if_neg (by omega), if_neg (by omega), if_pos (by omega), e]
theorem fx_v {L : Nat} {xs : Nat → Int32} {w : Nat} (hw : w < 5) : fx_x L xs (1020 + w) = .inl (11, fs_wl w, .inl (fs_wb w)) := by
  have e : 1020 + w - 1020 = w := by omega
  unfold fx_x
  rw [if_neg (by omega), if_neg (by omega), if_neg (by omega), if_neg (by omega), if_pos (by omega), e]
theorem fx_d {L : Nat} {xs : Nat → Int32} {i : Nat} (hi : i < 1000) : fx_x L xs i = ni_dead := by
  unfold fx_x
  rw [if_neg (by omega), if_neg (by omega), if_neg (by omega), if_neg (by omega), if_neg (by omega)]
/-- which cells of the outside there are -/
theorem fx_c {L : Nat} {xs : Nat → Int32} (i : Nat) : (i = 1000 ∧ fx_x L xs i = .inl (10, L, .inl xs)) ∨ (i = 1001 ∧ fx_x L xs i = .inl (10, 7, .inl fs_above)) ∨ (i = 1002 ∧ fx_x L xs i = .inl (10, 21, .inl fs_bod)) ∨ (∃ w, w < 5 ∧ i = 1010 + w ∧ fx_x L xs i = ni_O 100 [.ref (1020 + w), .int 0]) ∨ (∃ w, w < 5 ∧ i = 1020 + w ∧ fx_x L xs i = .inl (11, fs_wl w, .inl (fs_wb w))) ∨ fx_x L xs i = ni_dead := by
  by_cases h1 : i = 1000
  · exact Or.inl ⟨h1, by rw [h1]; rfl⟩
  by_cases h2 : i = 1001
  · exact Or.inr (Or.inl ⟨h2, by rw [h2]; rfl⟩)
  by_cases h3 : i = 1002
  · exact Or.inr (Or.inr (Or.inl ⟨h3, by rw [h3]; rfl⟩))
  by_cases h4 : 1010 ≤ i ∧ i < 1015
  · have e : i = 1010 + (i - 1010) := by omega
    exact Or.inr (Or.inr (Or.inr (Or.inl ⟨i - 1010, by omega, e, by rw [e]; simpa using fx_s (L := L) (xs := xs) (w := i - 1010) (by omega)⟩)))
  by_cases h5 : 1020 ≤ i ∧ i < 1025
  · have e : i = 1020 + (i - 1020) := by omega
    exact Or.inr (Or.inr (Or.inr (Or.inr (Or.inl ⟨i - 1020, by omega, e, by rw [e]; simpa using fx_v (L := L) (xs := xs) (w := i - 1020) (by omega)⟩))))
  refine Or.inr (Or.inr (Or.inr (Or.inr (Or.inr ?_))))
  unfold fx_x
  rw [if_neg h1, if_neg h2, if_neg h3, if_neg h4, if_neg h5]
theorem fx_ex {L : Nat} {xs : Nat → Int32} (i : Nat) : ni_ex (fx_x L xs i) = true := by
  rcases fx_c (L := L) (xs := xs) i with ⟨-, e⟩ | ⟨-, e⟩ | ⟨-, e⟩ | ⟨w, -, -, e⟩ | ⟨w, -, -, e⟩ | e <;> rw [e] <;> rfl
theorem fx_k {L : Nat} {xs : Nat → Int32} : fo_k 0 (fx_x L xs) := by
  intro m hm i
  rcases fx_c (L := L) (xs := xs) i with ⟨-, e⟩ | ⟨-, e⟩ | ⟨-, e⟩ | ⟨w, -, -, e⟩ | ⟨w, -, -, e⟩ | e <;> rw [e]
  · rfl
  · rfl
  · rfl
  · have h : Nat.ble 1000 (1020 + w) = true := Nat.ble_eq_true_of_le (by omega)
    simp only [ni_oke, List.all_cons, List.all_nil, ni_okv, h, Bool.or_true, Bool.and_self]
  · rfl
  · rfl
theorem fx_E {L : Nat} {xs : Nat → Int32} : fs_IE (fx_x L xs) := ⟨rfl, rfl, fun _ hw => fx_s hw, fun _ hw => fx_v hw⟩
/-- what holds of the outside at the start -/
theorem fx_Cx {s : State} {b L : Nat} {xs : Nat → Int32} (hts : ∀ w ∈ lw_tbl, w.before #[Value.ref b] s = true) (hX : va_X b L xs s s.heap) (hbl : b < s.heap.size) (hgv : (Jvm.Cond.and given_1 narrow_1).before #[Value.ref b] s = true) : ∃ (D : va_G) (ad : Nat → Nat) (fm : Value), (fm = .null ∨ ∃ t, fm = .ref t) ∧ ad 1000 = b ∧ ni_Cx D ad fm (fx_x L xs) (fun q => s.heap.size ≤ q) s := by
  have hA : ∀ a : Nat, a < s.heap.size → ¬ (fun q => s.heap.size ≤ q) a := fun a h1 h2 => Nat.lt_irrefl _ (Nat.lt_of_lt_of_le h1 h2)
  have hs := flat_of_before _ hgv
  have tw : ∀ {w : Cond} {i : Nat}, lw_tbl[i]? = some w → w.before #[Value.ref b] s = true := fun h => hts _ (List.mem_of_getElem? h)
  obtain ⟨D, hK⟩ := st_K hts
  obtain ⟨adK, adV, hS⟩ := st_str hgv hA
  obtain ⟨tA, eA, vA⟩ := st_above hgv hA
  obtain ⟨tB, eB, vB⟩ := st_bodies hgv hA
  have hF : ∃ fm : Value, (fm = .null ∨ ∃ t, fm = .ref t) ∧ va_Z "jdk/internal/util/Preconditions" "SIOOBE_FORMATTER" "Ljava/util/function/BiFunction;" fm (fun q => s.heap.size ≤ q) s s.heap := by
    rcases va_Zqof (tw st_l4) (tw st_i4) (hs _ st_c2) hA with h | ⟨t, h⟩
    · exact ⟨.null, Or.inl rfl, h⟩
    · exact ⟨.ref t, Or.inr ⟨t, rfl⟩, h⟩
  obtain ⟨fm, hfm, vF⟩ := hF
  have aK : ∀ w, w < 5 → fx_ad b tA tB adK adV (1010 + w) = adK w := fun w hw => by
    have e : 1010 + w - 1010 = w := by omega
    unfold fx_ad
    rw [if_neg (by omega), if_neg (by omega), if_neg (by omega), if_pos (by omega), e]
  have aV : ∀ w, w < 5 → fx_ad b tA tB adK adV (1020 + w) = adV w := fun w hw => by
    have e : 1020 + w - 1020 = w := by omega
    unfold fx_ad
    rw [if_neg (by omega), if_neg (by omega), if_neg (by omega), if_neg (by omega), e]
  refine ⟨D, fx_ad b tA tB adK adV, fm, hfm, rfl, hK, ?_, ?_, ⟨va_AO.of (tw st_o1), va_AO.of (tw st_o2)⟩, ?_, ?_, ?_, ?_⟩
  · intro w hw
    have h9 : w.onTables = true := by
      have : ∀ w ∈ ni_nest, w.onTables = true := by decide +kernel
      exact this w hw
    exact va_Nw.of h9 (hts w (ni_nest_in w hw))
  · unfold ni_ks
    simp only [List.forall_mem_cons]
    have vs : ∀ (k i : Nat) (tx : String), i < 5 → k = 116 + 2 * i → (Cond.stringRef "FiveStones$Reader" k tx).before #[Value.ref b] s = true → vk_R "FiveStones$Reader" k tx (fx_ad b tA tB adK adV (1010 + i)) s := by
      intro k i tx hi hk hr
      rw [aK i hi]
      refine vk_R.of hr ?_
      rw [hk]
      exact (hS i hi).1
    exact ⟨vs 116 0 _ (by decide) rfl (tw st_s0), vs 118 1 _ (by decide) rfl (tw st_s1), vs 120 2 _ (by decide) rfl (tw st_s2), vs 122 3 _ (by decide) rfl (tw st_s3), vs 124 4 _ (by decide) rfl (tw st_s4), fun _ h => absurd h List.not_mem_nil⟩
  · unfold ni_st
    simp only [List.forall_mem_cons]
    exact ⟨va_Zof (tw st_l2) (tw st_i2) eB hA, va_Zof (tw st_l1) (tw st_i1) eA hA, va_Zof (tw st_l1) (tw st_i1) eA hA, va_Zof (tw st_l3) (tw st_i3) (va_eqt (hs _ st_c1)) hA, vF, fun _ h => absurd h List.not_mem_nil⟩
  · intro i N f e
    rcases fx_c (L := L) (xs := xs) i with ⟨q, e2⟩ | ⟨q, e2⟩ | ⟨q, e2⟩ | ⟨w, hw, q, e2⟩ | ⟨w, hw, q, e2⟩ | e2 <;> rw [e2] at e <;> cases e
    · rw [q]
      obtain ⟨scr, x1, x2, x3, x4, x5⟩ := hX
      exact ⟨scr, x1, x2, x3, Nat.le_of_eq x4.symm, by rw [x4], x5, hA b hbl⟩
    · rw [q]; exact vA
    · rw [q]; exact vB
  · intro i N f e
    rcases fx_c (L := L) (xs := xs) i with ⟨q, e2⟩ | ⟨q, e2⟩ | ⟨q, e2⟩ | ⟨w, hw, q, e2⟩ | ⟨w, hw, q, e2⟩ | e2 <;> rw [e2] at e <;> cases e
    rw [q, aV w hw]
    exact (hS w hw).2.2.2.2
  · intro i fs e
    rcases fx_c (L := L) (xs := xs) i with ⟨q, e2⟩ | ⟨q, e2⟩ | ⟨q, e2⟩ | ⟨w, hw, q, e2⟩ | ⟨w, hw, q, e2⟩ | e2 <;> rw [e2] at e <;> cases e
    have e10 : 1010 + w + 10 = 1020 + w := by omega
    rw [q, e10, aK w hw, aV w hw]
    exact ⟨rfl, (hS w hw).2.1, (hS w hw).2.2.1, (hS w hw).2.2.2.1⟩
theorem whole_start {p : Program} {e : Env} {s : State} {m : MethodId} {below : List Frame} {meth : Method} {c : Code} (l : Launch) {b L : Nat} {xs : Nat → Int32} (hL : L ≤ 3072) (hname : meth.name = (ni_mt 199).1.name) (C0 : lw_At p s m meth c b L xs) : W p l e room_1 s m #[Value.ref b] below meth c s.heap [] 0 0 (lw_Z below #[Value.ref b] s) (entryFrame m ([Value.ref b] : List Value).toArray 4) := by
  obtain ⟨hx, hb, hr, hml, hown, hts, hX, hbl, hlocks, hgv⟩ := C0
  obtain ⟨D, ad, fm, hfm, had, hCx⟩ := fx_Cx hts hX hbl hgv
  have hfc : fm.category = 1 := by rcases hfm with rfl | ⟨t, rfl⟩ <;> rfl
  have hrun := L_start (d := 20) (h := fx_x L xs) (f := xs) hL (fun i hi => fx_d hi) fx_k fx_E rfl
  obtain ⟨n, r, z', h', er, hr1, hz1, hz2⟩ := hrun
  subst hr1
  obtain ⟨z1, z2⟩ := z'
  have hz1 : z1 = 68 := hz1
  have hz2 : z2 ≤ 7000 := hz2
  subst hz1
  rw [lg_entry_eq]
  have hl := ni_lr_entry (ad := ad) hfc [.ref 1000] 4 (by decide)
  have hmap : ([.ref 1000] : List Value).map (ni_cv ad fm) = [Value.ref b] := by
    show [Value.ref (ad 1000)] = _
    rw [had]
  rw [hmap] at hl
  refine ni_sound (x := fx_x L xs) hfm (fun m pc w h => ni_row h) n 80 199 0 _ [] (0, 0) _ _ (68, z2) h' er p e room_1 s m #[Value.ref b] below meth c s.heap [] 0 0 _ (fun q => s.heap.size ≤ q) ad (fun _ => m.cls) _ hx hb ?_ (fun w hw => hts w (List.mem_filter.mp hw).1) hown hname hCx ?_ va_S.rf (fun q hq => hq) ?_ ?_ ?_ ?_ hl ?_
  · rw [hl.1, hml]
    rfl
  · refine ⟨fun k q hk => ?_, ⟨fun i j p q hi => ?_, fun k q hk => ?_⟩, Nat.zero_le _, fun i hi => absurd hi (Nat.not_lt_zero i), fun i _ => rfl, fx_ex, fun i hi => fx_d hi, fun i t a hi => absurd hi (Nat.not_lt_zero i)⟩
    · simp [ni_ws] at hk
    · simp [ni_ws] at hi
    · simp [ni_ws] at hk
  · exact Nat.le_of_ble_eq_true rfl
  · exact Nat.le_of_ble_eq_true rfl
  · exact Nat.le_of_ble_eq_true rfl
  · show 0 + (z2 - 0) ≤ 7302250
    omega
  · intro ad' ct' H1 locs1 pc1 als1 ins st1 ha hW1 hS1 hdg hret
    have hst : ins = .ireturn ∧ st1 = [.int 1] := by
      have e1 : (ni_mt 199).2.2.2.1 = some .boolean := rfl
      rw [e1] at hret
      cases ins <;> simp only [ni_r, reduceCtorEq] at hret
      case ireturn =>
        split at hret
        · split at hret
          · cases hret
            exact ⟨rfl, rfl⟩
          · cases hret
        · cases hret
    obtain ⟨rfl, rfl⟩ := hst
    refine va_forget (fun q hq => hS1.2.2 q hq) ?_
    refine W.widen (k := 600000) (n := 7302250) (Nat.le_of_ble_eq_true rfl) ?_ (lw_ret hx hb hr hlocks hdg)
    show 0 + (z2 - 0) ≤ 7302250
    omega
end
set_option maxHeartbeats 4000000 in
theorem lw_walk (l : Launch) (hflags : l.flags = flags0) (b : Addr) (xs : List Int32) : MetFree l x (headSpec (Jvm.Cond.code x code maxLocals ret :: tables_1) room_1) (lw_P b xs) (fun _ _ _ _ _ => True) lw_Q := by
  refine MetFree.of_bodyS (code := code) (maxLocals := maxLocals) (ret := ret) (by decide) ?_ ?_
  · intro args s m h hn
    obtain ⟨meth, c, h1, h2, h3, h4, h5, h6, -, -⟩ := Cond.code_spec hn (atoms_spec (ws := Jvm.Cond.code x code maxLocals ret :: tables_1) h _ List.mem_cons_self)
    exact ⟨meth, c, h1, h2, h3, h4, h5, h6⟩
  · intro p e s m args below meth c s₁ B hml0 hP _
    obtain ⟨rfl, hx, hbd, hgv⟩ := hP
    obtain ⟨scr, harrAt, hlist, hof, hsmall⟩ := hx
    obtain ⟨hcb, hkn, -, -⟩ := State.arrayAt?_spec harrAt
    have hown : s.vm.findClass R_law = some m.cls := findClass_of_methodNamed B.named
    have hts0 : ∀ c ∈ (Jvm.Cond.code x code maxLocals ret :: tables_1), c.before #[Value.ref b] s = true := atoms_spec (ws := Jvm.Cond.code x code maxLocals ret :: tables_1) B.pre
    have hts : ∀ w ∈ lw_tbl, w.before #[Value.ref b] s = true := k2_hts_sels lw_privs (fun w hw => hts0 w (List.mem_cons_of_mem _ hw)) lw_privs_ok
    have hml : c.maxLocals = 4 := B.maxLocals_eq (hts0 _ List.mem_cons_self)
    have X₀ : Stand p l e room_1 s m #[Value.ref b] below meth c s₁ [] 0 0 := Stand.of_body B
    have hh0 : s₁.heap = s.heap := by rw [B.state]; rfl
    have hsz : scr.slots.size = xs.length := by rw [← Array.length_toList, hlist, List.length_map]
    have hval : ∀ j : Nat, j < xs.length → scr.slots[j]? = some (.int (xs.getD j 0)) := fun j hj => by
      rw [← Array.getElem?_toList, hlist]
      simp [hj]
    have hbl : b < s.heap.size := (Array.getElem?_eq_some_iff.mp hcb).1
    have hX : va_X b xs.length (fun j => xs.getD j 0) s s.heap := ⟨scr, hcb, hof, hkn, hsz, hval⟩
    have K : W p l e room_1 s m #[Value.ref b] below meth c s₁.heap [] 0 0 (lw_Z below #[Value.ref b] s) (entryFrame m ([Value.ref b] : List Value).toArray 4) := by
      rw [hh0]
      exact whole_start l hbd (name_of_methodNamed B.named B.method).1 ⟨B.exec, B.bytes, B.returns, hml, hown, hts, hX, hbl, B.notSynchronized, hgv⟩
    obtain ⟨t, a1, o, b1, b2, b3⟩ := K s₁ rfl X₀
    exact ⟨t, o, a1, b1, b2, b3⟩
theorem lw_pre_spec {args : Array Value} {s : State} (h : (Jvm.Cond.and given_1 narrow_1).before args s = true) (hr : rest_1_c.before args s = true) : ∃ (b : Addr) (xs : List Int32), lw_P b xs args s := by
  have hs := flat_of_before _ h
  have hq := flat_of_before _ hr
  have hc : (Cond.count 1).before args s = true := hs _ (by decide +kernel)
  have harr : (Cond.arrayOf (.arg 0) .int).before args s = true := hs _ (by decide +kernel)
  have hle : (Cond.le (.length (.arg 0)) (.int 3072)).before args s = true := hs _ (by decide +kernel)
  have hlen : (Cond.isInt (.length (.arg 0))).before args s = true := hq _ (by decide +kernel)
  have hall : (Cond.all (.arg 0) (.isInt (.elem (.arg 0) (.index 0)))).before args s = true := hq _ (by decide +kernel)
  obtain ⟨b, xs, hb, hx⟩ := State.ints_of_pre rfl harr hlen hall
  have hsm : xs.length < 2 ^ 31 := hx.choose_spec.2.2.2
  have hev : (Term.length (.arg 0)).eval args s none [] s = some (.int xs.length.toInt32) := hx.length_eval hb
  have hv := Cond.le_ints hev (show (Term.int 3072).eval args s none [] s = some (.int 3072) from rfl)
  have hd : xs.length.toInt32 ≤ 3072 := by
    simpa [Cond.before, Cond.holds, hv] using hle
  have hN : xs.length ≤ 3072 := (Int32.ofNat_le_ofNat hsm (by decide)).mp (show Int32.ofNat xs.length ≤ Int32.ofNat 3072 from hd)
  exact ⟨b, xs, Cond.one_arg hc (show args[0]? = some (.ref b) from hb), hx, hN, h⟩
theorem lw_comes (l : Launch) (hflags : l.flags = flags0) : Comes l x (Jvm.Cond.code x code maxLocals ret :: tables_1) room_1 (fun tb e args s => Calls_1 tb e args s ∧ rest_1 tb e args s ∧ Pre_1 tb e args s)
    (fun _ _ args s o t => lw_Q args s o t) := by
  intro p e ha hc hk s m args below hf hfit hheap happ hpre
  obtain ⟨b, xs, hP⟩ := lw_pre_spec hpre.2.2 hpre.2.1
  obtain ⟨k, o, h1, h2, h3, hQ⟩ := lw_walk l hflags b xs p e ha hc hk s m args below hf ((Spec.applies_iff_loose hf).mp happ).1 hP trivial
  exact ⟨k, o, h1, h2, h3, hQ⟩
theorem lw_frame {s t : State} {o : Outcome} {args : Array Value} (h : Framed s o t [] 600000 7302250) :
    Framed s o t (fieldLocs frame_1_writes args s ++ arrayLocs frame_1_arrays args s ++ staticLocs frame_1_statics s) 600000 7302250 := h
theorem lw_limb (L : Cond) (hL : ∀ (args : Array Value) (s t : State), L.after args s (.returned (some (.int 1))) t = true) :
    ArmFor flags0 classFile x code maxLocals ret World_1 tables_1 room_1 Calls_1 rest_1 Pre_1
      (fun tb e a s o t => postC L tb e a s o t ∧ Framed s o t (fieldLocs frame_1_writes a s ++ arrayLocs frame_1_arrays a s ++ staticLocs frame_1_statics s) 600000 7302250) := by
  intro l hflags _ _ p e ha hc hk s m args below hf hfit hheap happ hpre
  obtain ⟨k, o, h1, h2, h3, rfl, hF⟩ := lw_comes l hflags p e ha hc hk s m args below hf hfit hheap happ hpre
  exact ⟨k, _, h1, h2, h3, hL args s _, lw_frame hF⟩
theorem i_vc : Claimed_1_1 ∧ Claimed_1_2 := ⟨lw_limb limb_1_1 (fun args s t => by simp [limb_1_1, Cond.after, Cond.holds, Cond.value]), lw_limb limb_1_2 (fun args s t => Cond.after_iff.mpr (by
  first | (rw [show limb_1_2 = Cond.eq .result (.int 1) from rfl, Cond.eq_ints (x := 1) (y := 1) rfl rfl]; simp; done) | (simp [limb_1_2, Cond.value, Term.eval]; done)))⟩
