/-! ===== the main theorem ===== -/
theorem ni_p_len {ins : Instr} {len a pc pc' : Nat} {ls ls' st st' : List Value} (hp : ni_p ins len a pc ls st = some (pc', ls', st')) : ls'.length = ls.length := by
  cases ins <;> simp only [ni_p, reduceCtorEq] at hp
  all_goals first
    | (cases hp; rfl)
    | (unfold ni_ldi at hp; split at hp <;> first | (cases hp; rfl) | (cases hp; done))
    | (unfold ni_lda at hp; split at hp <;> first | (cases hp; rfl) | (cases hp; done))
    | (unfold ni_ldl at hp; split at hp <;> first | (cases hp; rfl) | (cases hp; done))
    | (unfold ni_sti at hp; split at hp <;> first | (split at hp <;> first | (cases hp; exact ni_sto_len _ _ _) | (cases hp; done)) | (cases hp; done))
    | (unfold ni_sta at hp; split at hp <;> first | (split at hp <;> first | (cases hp; exact ni_sto_len _ _ _) | (cases hp; done)) | (cases hp; done))
    | (unfold ni_stl at hp; split at hp <;> first | (split at hp <;> first | (cases hp; rw [List.length_set]; exact ni_sto_len _ _ _) | (cases hp; done)) | (cases hp; done))
    | (unfold ni_b2 at hp; split at hp <;> first | (cases hp; rfl) | (cases hp; done))
    | (unfold ni_l2 at hp; split at hp <;> first | (cases hp; rfl) | (cases hp; done))
    | (unfold ni_u1 at hp; split at hp <;> first | (cases hp; rfl) | (cases hp; done))
    | (split at hp <;> first | (cases hp; rfl) | (cases hp; exact ni_sto_len _ _ _) | (cases hp; done) | (split at hp <;> first | (cases hp; rfl) | (cases hp; done)))
theorem ni_n_z {ins : Instr} {a : Nat} {ls st st' : List Value} {dfs : Nat → List Value} {z z' : ni_Z} {h h' : ni_H} (hn : ni_n ins a ls st dfs z h = some (st', z', h')) : z'.1 = z.1 + 1 ∧ z.2 ≤ z'.2 := by
  unfold ni_n at hn
  split at hn
  · split at hn
    · cases hn; simp
    · cases hn
  · split at hn
    · split at hn
      · cases hn; simp
      · cases hn
    · cases hn
  · split at hn
    · split at hn
      · cases hn; simp
      · cases hn
    · cases hn
  · split at hn
    · split at hn
      · cases hn; simp
      · cases hn
    · cases hn
  · cases hn
theorem ni_args_ok : ∀ (n : Nat) (acc st as rest : List Value), ni_args n acc st = some (as, rest) → ∃ bs, bs.length = n ∧ as = bs ++ acc ∧ st = bs.reverse ++ rest := by
  intro n
  induction n with
  | zero => intro acc st as rest h; cases h; exact ⟨[], rfl, rfl, rfl⟩
  | succ n ih =>
    intro acc st as rest h
    cases st with
    | nil => cases h
    | cons v st =>
      obtain ⟨bs, h1, h2, h3⟩ := ih (v :: acc) st as rest h
      refine ⟨bs ++ [v], by simp [h1], by rw [h2]; simp, by rw [h3]; simp⟩
section
variable {p : Program} {l : Launch} {e : Env} {R : Room} {s : State} {m : MethodId} {args : Array Value} {below : List Frame} {meth : Method} {c : Code} {H : Heap} {locs : List Loc} {cells slots : Nat} {Qz : State → Prop}
/-- behind a call -/
theorem ni_go {D : va_G} {ad : Nat → Nat} {fm : Value} {ct : Nat → ClassId} {x : ni_H} {A : Nat → Prop} {n n' mc ms pc : Nat} {h h' : ni_H} {r : Option Value} {av : Array Value} {als : Array Slot} {st0 rest : List Value} (hr : va_Run p l e R s m args below meth c H locs cells slots mc ms (F0 m pc als st0) rest (ni_Qc D fm x ad ct n H.size h r n' h' av) (va_A (ni_ws ad fm ct n h) H.size)) (hWd : ni_Wd D ad fm ct x A n h s H) (hS : va_S A s.heap H locs) (hA : ∀ q, s.heap.size ≤ q → A q)
    (kk : ∀ (ad' : Nat → Nat) (ct' : Nat → ClassId) (H1 : Heap) (locs1 : List Loc), (∀ i, i < n ∨ n' ≤ i → ad' i = ad i) → ni_Wd D ad' fm ct' x A n' h' s H1 → va_S A s.heap H1 locs1 → W p l e R s m args below meth c H1 locs1 (cells + mc) (slots + ms) Qz (F0 m (pc + 3) als ((r.map (ni_cv ad' fm)).toList ++ rest))) : W p l e R s m args below meth c H locs cells slots Qz (F0 m pc als st0) := by
  have hAA : ∀ q, va_A (ni_ws ad fm ct n h) H.size q → A q := by
    rintro q (⟨k, e9, hk⟩ | hq)
    · exact hWd.2.1.2 k _ hk
    · exact hA q (Nat.le_trans hS.1 hq)
  intro T hT X
  obtain ⟨v, st₀, t, T', L, h0, X', hL, e1, e2, ⟨⟨ad', ct', ha, hv, hw⟩, hz, hk⟩, st⟩ := hr T hT X
  cases hv
  rw [h0] at hz hk
  have hw2 : ni_Wd D ad' fm ct' x A n' h' s T'.heap := by
    rw [e1]
    exact ni_Wd_A (ni_Wd_same hw (by rw [← e2]; exact X'.warmed.alike.symm)) (fun k q _ hq => hAA _ hq)
  obtain ⟨t2, a1, b1⟩ := kk ad' ct' T'.heap (locs ++ L) ha hw2
    ⟨Nat.le_trans hS.1 (by rw [e1]; exact hz), fun q h1 h2 => by rw [e1, hk q (Nat.lt_of_lt_of_le h1 hS.1) (fun z => h2 (hAA q z))]; exact hS.2.1 q h1 h2, fun q hq => by
      rcases List.mem_append.mp hq with h | h
      · exact hS.2.2 q h
      · exact hAA _ (hL q h)⟩ T' rfl X'
  exact ⟨t2, st t2 a1, b1⟩
end
theorem ni_isl_ok {own i a : Nat} (h : ni_isl own i a = true) : Cond.methodLink (ni_cn own) i (ni_mt a).1 ∈ ni_TB := by
  unfold ni_isl at h
  obtain ⟨q, hq, h1⟩ := List.any_eq_true.mp h
  simp only [Bool.and_eq_true] at h1
  obtain ⟨e1, e2, e3⟩ := h1
  have h2 := List.all_eq_true.mp ni_ml_ok q hq
  unfold ni_mlc at h2
  rw [Nat.eq_of_beq_eq_true e1, Nat.eq_of_beq_eq_true e2, Nat.eq_of_beq_eq_true e3] at h2
  exact ni_TB_mem (by simpa using h2) rfl
theorem ni_isn_ok {own i a : Nat} (h : ni_isn own i a = true) : Cond.methodLinkNest (ni_cn own) i (ni_mt a).1 "FiveStones" ∈ ni_nest := by
  unfold ni_isn at h
  obtain ⟨q, hq, h1⟩ := List.any_eq_true.mp h
  simp only [Bool.and_eq_true] at h1
  obtain ⟨e1, e2, e3⟩ := h1
  have h2 := ni_mn_in q hq
  rw [Nat.eq_of_beq_eq_true e1, Nat.eq_of_beq_eq_true e2, Nat.eq_of_beq_eq_true e3] at h2
  exact h2
