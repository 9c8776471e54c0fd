/-! ===== instructions that touch locals and stack alone ===== -/
/-- the length of an instruction -/
def ni_ln (ins : Instr) : Nat := match ins with
  | .iconst _ => 1 | .bipush _ => 2 | .sipush _ => 3 | .lconst _ => 1 | .aconst_null => 1
  | .iload _ => 2 | .iload_n _ => 1 | .aload _ => 2 | .aload_n _ => 1 | .lload_n _ => 1
  | .istore _ => 2 | .istore_n _ => 1 | .astore _ => 2 | .astore_n _ => 1 | .lstore_n _ => 1 | .iinc _ _ => 3
  | .goto _ => 3 | .if_icmp _ _ => 3 | .ifCond _ _ => 3 | .ifnull _ => 3 | .ifnonnull _ => 3
  | .tableswitch .. => 0 | .lookupswitch .. => 0
  | .ldc _ => 2 | .ldc_w _ => 3 | .ldc2_w _ => 3 | .getstatic _ => 3 | .getfield _ => 3 | .putfield _ => 3
  | .invokevirtual _ => 3 | .invokestatic _ => 3 | .invokespecial _ => 3 | .new _ => 3 | .newarray _ => 2 | .anewarray _ => 3
  | _ => 1
/-- a branch's target -/
def ni_tgt (ins : Instr) (pc a : Nat) : Bool := match ins with
  | .goto o => decide ((pc : Int) + o = (a : Int))
  | .if_icmp _ o => decide ((pc : Int) + o = (a : Int))
  | .ifCond _ o => decide ((pc : Int) + o = (a : Int))
  | .ifnull o => decide ((pc : Int) + o = (a : Int))
  | .ifnonnull o => decide ((pc : Int) + o = (a : Int))
  | _ => true
section
variable {p : Program} {l : Launch} {e : Env} {R : Room} {s : State} {m : MethodId} {args : Array Value} {below : List Frame} {meth : Method} {c : Code} {H : Heap} {locs : List Loc} {cells slots : Nat} {Qz : State → Prop} {cc : ByteArray}
set_option maxHeartbeats 4000000 in
theorem ni_p_ok {ad : Nat → Nat} {fm : Value} (hfm : fm.category = 1) (hx : p.tables.exec = Jvm.exec) (hb : c.code = cc) {ins : Instr} {len a pc pc' : Nat} {ls ls' st st' : List Value} (hdg : decode cc pc = .ok (ins, len)) (hlen : ni_ln ins = 0 ∨ ni_ln ins = len) (ht : ni_tgt ins pc a = true) (hp : ni_p ins len a pc ls st = some (pc', ls', st')) {als : Array Slot} (hl : ni_lr (ni_cv ad fm) als ls)
    (k : ∀ als' : Array Slot, ni_lr (ni_cv ad fm) als' ls' → W p l e R s m args below meth c H locs cells slots Qz (F0 m pc' als' (st'.map (ni_cv ad fm)))) : W p l e R s m args below meth c H locs cells slots Qz (F0 m pc als (st.map (ni_cv ad fm))) := by
  have hcat := fun v => ni_cv_cat (ad := ad) (fm := fm) v
  have hcc := fun v => ni_cv_c (ad := ad) hfm v
  have hlh := ni_lr_has hl
  cases ins <;> simp only [ni_p] at hp <;> simp only [ni_ln] at hlen <;> (try (rcases hlen with hlen | hlen; · exact absurd hlen (by decide))) <;> (try subst hlen) <;> (try simp only [ni_tgt, decide_eq_true_eq] at ht)
  case iconst i => cases hp; exact lv_iconst hx hb hdg rfl (k als hl)
  case bipush i => cases hp; exact lv_bipush hx hb hdg rfl (k als hl)
  case sipush i => cases hp; exact lv_sipush hx hb hdg rfl (k als hl)
  case lconst i => cases hp; exact lv_lconst hx hb hdg rfl (k als hl)
  case aconst_null => cases hp; exact lv_null hx hb hdg (k als hl)
  case iload i =>
    unfold ni_ldi at hp
    split at hp
    · next x hv => cases hp; exact lv_iload hx hb hdg (hl.2.2 _ _ hv rfl) (k als hl)
    · cases hp
  case iload_n i =>
    unfold ni_ldi at hp
    split at hp
    · next x hv => cases hp; exact lv_iload_n hx hb hdg rfl (hl.2.2 _ _ hv rfl) (k als hl)
    · cases hp
  case aload i =>
    unfold ni_lda at hp
    split at hp
    · next x hv => cases hp; exact lv_aload hx hb hdg (hl.2.2 _ _ hv rfl) (k als hl)
    · next hv => cases hp; exact lv_aloadN hx hb hdg (hl.2.2 _ _ hv rfl) (k als hl)
    · cases hp
  case aload_n i =>
    unfold ni_lda at hp
    split at hp
    · next x hv => cases hp; exact lv_aload_n hx hb hdg rfl (hl.2.2 _ _ hv rfl) (k als hl)
    · next hv => cases hp; exact lv_aload_nN hx hb hdg rfl (hl.2.2 _ _ hv rfl) (k als hl)
    · cases hp
  case lload_n i =>
    unfold ni_ldl at hp
    split at hp
    · next x hv => cases hp; exact lv_lload_n hx hb hdg rfl (hl.2.2 _ _ hv rfl) (k als hl)
    · cases hp
  case istore i =>
    unfold ni_sti at hp
    split at hp
    · next x r =>
      split at hp
      · next hi =>
        cases hp
        have hi := Nat.le_of_ble_eq_true hi
        exact lv_istore hx hb hdg hlh hi rfl (fun als' h' => k als' (ni_lr_sto rfl hcat hi h'))
      · cases hp
    · cases hp
  case istore_n i =>
    unfold ni_sti at hp
    split at hp
    · next x r =>
      split at hp
      · next hi =>
        cases hp
        have hi := Nat.le_of_ble_eq_true hi
        exact lv_istore_n hx hb hdg rfl hlh hi rfl (fun als' h' => k als' (ni_lr_sto rfl hcat hi h'))
      · cases hp
    · cases hp
  case astore i =>
    unfold ni_sta at hp
    split at hp
    · next x r =>
      split at hp
      · next hi =>
        cases hp
        have hi := Nat.le_of_ble_eq_true hi
        exact lv_astore hx hb hdg hlh hi rfl (fun als' h' => k als' (ni_lr_sto rfl hcat hi h'))
      · cases hp
    · next r =>
      split at hp
      · next hi =>
        cases hp
        have hi := Nat.le_of_ble_eq_true hi
        exact lv_astoreN hx hb hdg hlh hi rfl (fun als' h' => k als' (ni_lr_sto rfl hcat hi h'))
      · cases hp
    · cases hp
  case astore_n i =>
    unfold ni_sta at hp
    split at hp
    · next x r =>
      split at hp
      · next hi =>
        cases hp
        have hi := Nat.le_of_ble_eq_true hi
        exact lv_astore_n hx hb hdg rfl hlh hi rfl (fun als' h' => k als' (ni_lr_sto rfl hcat hi h'))
      · cases hp
    · next r =>
      split at hp
      · next hi =>
        cases hp
        have hi := Nat.le_of_ble_eq_true hi
        exact lv_astore_nN hx hb hdg rfl hlh hi rfl (fun als' h' => k als' (ni_lr_sto rfl hcat hi h'))
      · cases hp
    · cases hp
  case lstore_n i =>
    unfold ni_stl at hp
    split at hp
    · next x r =>
      split at hp
      · next hi =>
        cases hp
        have hi := Nat.le_of_ble_eq_true hi
        exact lv_lstore_n hx hb hdg rfl hlh hi rfl (fun als' h' => k als' (ni_lr_stl rfl hcat hi h'))
      · cases hp
    · cases hp
  case iinc i n =>
    split at hp
    · next x hv =>
      cases hp
      have hi : i < ls.length := (List.getElem?_eq_some_iff.mp hv).1
      obtain ⟨j, hj⟩ := List.getElem?_of_mem (ni_al_mem (cv := ni_cv ad fm) hv rfl)
      exact lv_iinc hx hb hdg hlh hj rfl hi rfl (fun als' h' => k als' (ni_lr_sto rfl hcat hi h'))
    · cases hp
  case iadd =>
    unfold ni_b2 at hp
    split at hp
    · next y x r => cases hp; exact lv_iadd hx hb hdg (k als hl)
    · cases hp
  case isub =>
    unfold ni_b2 at hp
    split at hp
    · next y x r => cases hp; exact lv_isub hx hb hdg (k als hl)
    · cases hp
  case imul =>
    unfold ni_b2 at hp
    split at hp
    · next y x r => cases hp; exact lv_imul hx hb hdg (k als hl)
    · cases hp
  case iand =>
    unfold ni_b2 at hp
    split at hp
    · next y x r => cases hp; exact lv_iand hx hb hdg (k als hl)
    · cases hp
  case ior =>
    unfold ni_b2 at hp
    split at hp
    · next y x r => cases hp; exact lv_ior hx hb hdg (k als hl)
    · cases hp
  case ixor =>
    unfold ni_b2 at hp
    split at hp
    · next y x r => cases hp; exact lv_ixor hx hb hdg (k als hl)
    · cases hp
  case ishl =>
    unfold ni_b2 at hp
    split at hp
    · next y x r => cases hp; exact lv_ishl hx hb hdg (k als hl)
    · cases hp
  case ishr =>
    unfold ni_b2 at hp
    split at hp
    · next y x r => cases hp; exact lv_ishr hx hb hdg (k als hl)
    · cases hp
  case iushr =>
    unfold ni_b2 at hp
    split at hp
    · next y x r => cases hp; exact lv_iushr hx hb hdg rfl (k als hl)
    · cases hp
  case ineg =>
    unfold ni_u1 at hp
    split at hp
    · next x r => cases hp; exact lv_ineg hx hb hdg (k als hl)
    · cases hp
  case i2l =>
    unfold ni_u1 at hp
    split at hp
    · next x r => cases hp; exact lv_i2l hx hb hdg rfl (k als hl)
    · cases hp
  case i2b =>
    unfold ni_u1 at hp
    split at hp
    · next x r => cases hp; exact lv_i2b hx hb hdg rfl (k als hl)
    · cases hp
  case i2s =>
    unfold ni_u1 at hp
    split at hp
    · next x r => cases hp; exact lv_i2s hx hb hdg rfl (k als hl)
    · cases hp
  case i2c =>
    unfold ni_u1 at hp
    split at hp
    · next x r => cases hp; exact lv_i2c hx hb hdg rfl (k als hl)
    · cases hp
  case ladd =>
    unfold ni_l2 at hp
    split at hp
    · next y x r => cases hp; exact lv_ladd hx hb hdg (k als hl)
    · cases hp
  case lmul =>
    unfold ni_l2 at hp
    split at hp
    · next y x r => cases hp; exact lv_lmul hx hb hdg (k als hl)
    · cases hp
  case land =>
    unfold ni_l2 at hp
    split at hp
    · next y x r => cases hp; exact lv_land hx hb hdg (k als hl)
    · cases hp
  case lor =>
    unfold ni_l2 at hp
    split at hp
    · next y x r => cases hp; exact lv_lor hx hb hdg (k als hl)
    · cases hp
  case l2i =>
    split at hp
    · next x r => cases hp; exact lv_l2i hx hb hdg rfl (k als hl)
    · cases hp
  case lshl =>
    split at hp
    · next y x r => cases hp; exact lv_lshl hx hb hdg rfl (k als hl)
    · cases hp
  case lcmp =>
    split at hp
    · next y x r => cases hp; exact W.lcmp hx hb hdg (k als hl)
    · cases hp
  case dup =>
    split at hp
    · next v r =>
      split at hp
      · next hv => cases hp; exact lv_dup hx hb hdg ((hcc v).trans (Nat.eq_of_beq_eq_true hv)) (k als hl)
      · cases hp
    · cases hp
  case pop =>
    split at hp
    · next v r =>
      split at hp
      · next hv => cases hp; exact lv_pop hx hb hdg ((hcc v).trans (Nat.eq_of_beq_eq_true hv)) (k als hl)
      · cases hp
    · cases hp
  case dup_x1 =>
    split at hp
    · next v w r =>
      split at hp
      · next hv =>
        cases hp
        have hv := Bool.and_eq_true_iff.mp hv
        exact lv_dup_x1 hx hb hdg ((hcc v).trans (Nat.eq_of_beq_eq_true hv.1)) ((hcc w).trans (Nat.eq_of_beq_eq_true hv.2)) (k als hl)
      · cases hp
    · cases hp
  case dup2 =>
    split at hp
    · next v w r =>
      split at hp
      · next hv =>
        cases hp
        have hv := Bool.and_eq_true_iff.mp hv
        exact lv_dup2_11 hx hb hdg ((hcc v).trans (Nat.eq_of_beq_eq_true hv.1)) ((hcc w).trans (Nat.eq_of_beq_eq_true hv.2)) (k als hl)
      · cases hp
    · cases hp
  case goto o => cases hp; exact lv_goto hx hb hdg ht (k als hl)
  case ifnull o =>
    split at hp
    · next r => cases hp; exact lv_ifnullN hx hb hdg ht (k als hl)
    · next x r => cases hp; exact lv_ifnull hx hb hdg (k als hl)
    · cases hp
  case ifnonnull o =>
    split at hp
    · next r => cases hp; exact lv_ifnonnullN hx hb hdg (k als hl)
    · next x r => cases hp; exact lv_ifnonnull hx hb hdg ht (k als hl)
    · cases hp
  case if_icmp cd o =>
    split at hp
    · next y x r =>
      cases hp
      have kk := k als hl
      cases cd <;> simp only [ni_br] at kk
      · refine lv_icmp_eq hx hb hdg ht (fun q => ?_) (fun q => ?_)
        · rw [if_pos q] at kk; exact kk
        · rw [if_neg q] at kk; exact kk
      · refine lv_icmp_ne hx hb hdg ht (fun q => ?_) (fun q => ?_)
        · rw [if_neg q] at kk; exact kk
        · rw [if_pos q] at kk; exact kk
      · refine lv_icmp_lt hx hb hdg ht (fun q => ?_) (fun q => ?_)
        · rw [if_pos q] at kk; exact kk
        · rw [if_neg q] at kk; exact kk
      · refine lv_icmp_ge hx hb hdg ht (fun q => ?_) (fun q => ?_)
        · rw [if_pos q] at kk; exact kk
        · rw [if_neg q] at kk; exact kk
      · refine lv_icmp_gt hx hb hdg ht (fun q => ?_) (fun q => ?_)
        · rw [if_pos q] at kk; exact kk
        · rw [if_neg q] at kk; exact kk
      · refine lv_icmp_le hx hb hdg ht (fun q => ?_) (fun q => ?_)
        · rw [if_pos q] at kk; exact kk
        · rw [if_neg q] at kk; exact kk
    · cases hp
  case ifCond cd o =>
    split at hp
    · next x r =>
      cases hp
      have kk := k als hl
      cases cd <;> simp only [ni_br] at kk
      · refine lv_if_eq hx hb hdg ht (fun q => ?_) (fun q => ?_)
        · rw [if_pos q] at kk; exact kk
        · rw [if_neg q] at kk; exact kk
      · refine lv_if_ne hx hb hdg ht (fun q => ?_) (fun q => ?_)
        · rw [if_neg q] at kk; exact kk
        · rw [if_pos q] at kk; exact kk
      · refine lv_if_lt hx hb hdg ht (fun q => ?_) (fun q => ?_)
        · rw [if_pos q] at kk; exact kk
        · rw [if_neg q] at kk; exact kk
      · refine lv_if_ge hx hb hdg ht (fun q => ?_) (fun q => ?_)
        · rw [if_pos q] at kk; exact kk
        · rw [if_neg q] at kk; exact kk
      · refine lv_if_gt hx hb hdg ht (fun q => ?_) (fun q => ?_)
        · rw [if_pos q] at kk; exact kk
        · rw [if_neg q] at kk; exact kk
      · refine lv_if_le hx hb hdg ht (fun q => ?_) (fun q => ?_)
        · rw [if_pos q] at kk; exact kk
        · rw [if_neg q] at kk; exact kk
    · cases hp
  case tableswitch df lo hi offs =>
    split at hp
    · next x r =>
      split at hp
      · next t ht2 =>
        cases hp
        have kk := k als hl
        unfold ni_tsw at ht2
        simp only at ht2
        by_cases hc : x.toInt < lo ∨ hi < x.toInt
        · rw [if_pos hc] at ht2
          simp only at ht2
          split at ht2
          · next h0 =>
            cases ht2
            exact lv_tableOut hx hb hdg hc (Int.toNat_of_nonneg h0).symm kk
          · cases ht2
        · rw [if_neg hc] at ht2
          split at ht2
          · next o ho =>
            split at ht2
            · next h0 =>
              cases ht2
              exact lv_tableIn hx hb hdg (fun q => hc (Or.inl q)) (fun q => hc (Or.inr q)) ho (Int.toNat_of_nonneg h0).symm kk
            · cases ht2
          · cases ht2
      · cases hp
    · cases hp
  case lookupswitch df ps =>
    split at hp
    · next x r =>
      split at hp
      · next t ht2 =>
        cases hp
        have kk := k als hl
        unfold ni_lsw at ht2
        split at ht2
        · next h1 =>
          simp only at ht2
          split at ht2
          · next h0 =>
            cases ht2
            exact lv_lookup hx hb hdg h1 rfl (Int.toNat_of_nonneg h0).symm kk
          · cases ht2
        · cases ht2
      · cases hp
    · cases hp
  all_goals (first | (cases hp; done) | skip)
end
