/-! ===== the world: cells, the outside, and how both go on ===== -/
def ni_ty (t : Nat) : FieldType := match t with
  | 0 => .int
  | 1 => .long
  | 2 => .object "FiveStones$Shelf"
  | _ => .object "FiveStones$Hand"
/-- a cell of the world; a cell of the outside -/
def ni_wk (e : ni_E) : Bool := match e with
  | .inl (t, _, .inl _) => Nat.beq t 0
  | .inl (t, _, .inr (.inl _)) => Nat.beq t 1
  | .inl (t, _, .inr (.inr _)) => Nat.beq t 2 || Nat.beq t 3
  | .inr (c, _) => Nat.ble c 7
def ni_ex (e : ni_E) : Bool := match e with
  | .inl (t, _, .inl _) => Nat.beq t 10 || Nat.beq t 11
  | .inl (t, _, .inr _) => Nat.beq t 9
  | .inr (c, _) => Nat.beq c 100
/-- what holds of a state that a method begins with, of the outside -/
def ni_Cx (D : va_G) (ad : Nat → Nat) (fm : Value) (x : ni_H) (A : Nat → Prop) (U : State) : Prop :=
  va_K D vwCl [] U ∧ (∀ w ∈ ni_nest, va_Nw w U) ∧ (∀ e ∈ ni_ks, vk_R "FiveStones$Reader" e.1 e.2.1 (ad e.2.2) U) ∧ (va_AO "FiveStones$Shelf" U ∧ va_AO "FiveStones$Hand" U) ∧
  (∀ q ∈ ni_st, va_Z q.2.2.1 q.2.2.2.1 q.2.2.2.2.1 (ni_cv ad fm q.2.2.2.2.2.2.2) A U U.heap) ∧
  (∀ (i N : Nat) (f : Nat → Int32), x i = .inl (10, N, .inl f) → va_T .int (ad i) N (fun j => .int (f j)) A U U.heap) ∧
  (∀ (i N : Nat) (f : Nat → Int32), x i = .inl (11, N, .inl f) → va_T .byte (ad i) N (fun j => .int (f j)) A U U.heap) ∧
  (∀ (i : Nat) (fs : List Value), x i = .inr (100, fs) → fs = [.ref (i + 10), .int 0] ∧ va_O "java/lang/String" (ad i) A U U.heap ∧ va_OF "java/lang/String" "coder" "B" (.int 0) (ad i) A U U.heap ∧ va_OF "java/lang/String" "value" "[B" (.ref (ad (i + 10))) (ad i) A U U.heap)
theorem ni_nest_warm {s U : State} (hW : s.WarmedH U.vm) (h : ∀ w ∈ ni_nest, va_Nw w s) : ∀ w ∈ ni_nest, va_Nw w U := by
  unfold ni_nest at h ⊢
  simp only [List.forall_mem_cons] at h ⊢
  obtain ⟨h1, h2, h3, h4, h5, h6, h7, h8, h9, h10, h11, -⟩ := h
  exact ⟨va_Nw.warmM hW h1, va_Nw.warmM hW h2, va_Nw.warmM hW h3, va_Nw.warmM hW h4, va_Nw.warmM hW h5, va_Nw.warmM hW h6, va_Nw.warmM hW h7, va_Nw.warmM hW h8, va_Nw.warmM hW h9, va_Nw.warmF hW h10, va_Nw.warmF hW h11, fun _ h => absurd h List.not_mem_nil⟩
/-- at a call: the context of the called method -/
theorem ni_Cx_call {D : va_G} {ad : Nat → Nat} {fm : Value} {x : ni_H} {A B : Nat → Prop} {s U : State} {H : Heap} {locs : List Loc} (h : ni_Cx D ad fm x A s) (hW : s.WarmedH U.vm) (hU : U.heap = H) (hS : va_S A s.heap H locs) (hAB : ∀ q, B q → A q) : ni_Cx D ad fm x B U := by
  have hq : ∀ a : Nat, a < s.heap.size → ¬ A a → U.heap[a]? = s.heap[a]? := fun a h1 h2 => by rw [hU]; exact hS.2.1 a h1 h2
  have hvm := hW.alike
  obtain ⟨h1, h2, h3, h4, h5, h6, h7, h8⟩ := h
  refine ⟨va_K.moved hvm h1, ni_nest_warm hW h2, fun e he => (h3 e he).warm hW, ⟨h4.1.moved hvm, h4.2.moved hvm⟩, fun q hq' => (((h5 q hq').kept hq).moved hvm).narrow hAB, fun i N f e => (((h6 i N f e).kept hq).moved hvm).narrow hAB, fun i N f e => (((h7 i N f e).kept hq).moved hvm).narrow hAB, fun i fs e => ?_⟩
  obtain ⟨g1, g2, g3, g4⟩ := h8 i fs e
  exact ⟨g1, ((g2.kept hq).moved hvm).narrow hAB, ((g3.kept hq).moved hvm).narrow hAB, ((g4.kept hq).moved hvm).narrow hAB⟩
theorem ni_Cx_same {D : va_G} {ad : Nat → Nat} {fm : Value} {x : ni_H} {A : Nat → Prop} {s U : State} (h : ni_Cx D ad fm x A s) (hv : U.vm = s.vm) (hU : U.heap = s.heap) : ni_Cx D ad fm x A U := by
  have hvm : s.vm.Alike U.vm := by rw [hv]; exact Vm.Alike.refl _
  have hq : ∀ a : Nat, a < s.heap.size → ¬ A a → U.heap[a]? = s.heap[a]? := fun a h1 h2 => by rw [hU]
  obtain ⟨h1, h2, h3, h4, h5, h6, h7, h8⟩ := h
  refine ⟨va_K.moved hvm h1, fun w hw => ?_, fun e he => (h3 e he).same hv, ⟨h4.1.moved hvm, h4.2.moved hvm⟩, fun q hq' => ((h5 q hq').kept hq).moved hvm, fun i N f e => ((h6 i N f e).kept hq).moved hvm, fun i N f e => ((h7 i N f e).kept hq).moved hvm, fun i fs e => ?_⟩
  · have h9 : w.onTables = true := by
      have : ∀ w ∈ ni_nest, w.onTables = true := by decide +kernel
      exact this w hw
    exact va_Nw.same h9 hv.symm (h2 w hw)
  · obtain ⟨g1, g2, g3, g4⟩ := h8 i fs e
    exact ⟨g1, (g2.kept hq).moved hvm, (g3.kept hq).moved hvm, (g4.kept hq).moved hvm⟩
def ni_big (v : Value) : Bool := match v with
  | .ref i => Nat.ble 1000 i
  | _ => true
theorem ni_st_big : ni_st.all (fun q => ni_big q.2.2.2.2.2.2.2) = true := by decide +kernel
/-- other places for cells of the world leave the outside as it is -/
theorem ni_Cx_ad {D : va_G} {ad ad' : Nat → Nat} {fm : Value} {x : ni_H} {A : Nat → Prop} {s : State} (h : ni_Cx D ad fm x A s) (ha : ∀ i, 1000 ≤ i → ad' i = ad i) (hx : ∀ i, i < 1000 → x i = ni_dead) : ni_Cx D ad' fm x A s := by
  obtain ⟨h1, h2, h3, h4, h5, h6, h7, h8⟩ := h
  have big : ∀ i, x i ≠ ni_dead → 1000 ≤ i := fun i hi => by
    rcases Nat.lt_or_ge i 1000 with q | q
    · exact absurd (hx i q) hi
    · exact q
  refine ⟨h1, h2, fun e he => ?_, h4, fun q hq => ?_, fun i N f e => ?_, fun i N f e => ?_, fun i fs e => ?_⟩
  · have : ∀ e ∈ ni_ks, 1000 ≤ e.2.2 := by decide +kernel
    rw [ha _ (this e he)]
    exact h3 e he
  · have e : ni_cv ad' fm q.2.2.2.2.2.2.2 = ni_cv ad fm q.2.2.2.2.2.2.2 := by
      have h9 := List.all_eq_true.mp ni_st_big q hq
      generalize q.2.2.2.2.2.2.2 = v at h9
      cases v <;> simp only [ni_cv]
      rw [ha _ (Nat.le_of_ble_eq_true h9)]
    rw [e]
    exact h5 q hq
  · rw [ha i (big i (by rw [e]; simp [ni_dead]))]
    exact h6 i N f e
  · rw [ha i (big i (by rw [e]; simp [ni_dead]))]
    exact h7 i N f e
  · have hi := big i (by rw [e]; simp [ni_dead])
    rw [ha i hi, ha (i + 10) (by omega)]
    exact h8 i fs e
def ni_Wd (D : va_G) (ad : Nat → Nat) (fm : Value) (ct : Nat → ClassId) (x : ni_H) (A : Nat → Prop) (n : Nat) (h : ni_H) (s : State) (H : Heap) : Prop :=
  va_P D vwCl (ni_ws ad fm ct n h) H ∧ va_D A (ni_ws ad fm ct n h) ∧ n ≤ 900 ∧ (∀ i, i < n → ni_wk (h i) = true) ∧ (∀ i, n ≤ i → h i = x i) ∧ (∀ i, ni_ex (x i) = true) ∧ (∀ i, i < 1000 → x i = ni_dead) ∧
  ∀ (i : Nat) (t : Nat) (a : ni_A), i < n → h i = .inl (t, a) → ArrOfT s (ct i) (ni_ty t) ∧ va_RA s (ct i) (ni_ty t)
theorem ni_K1 {D : va_G} {s : State} {c : ClassId} {ty : FieldType} (hK : va_K D vwCl [] s) (h : ArrOfT s c ty ∧ va_RA s c ty) : va_K D vwCl [(c, ty)] s := by
  refine ⟨hK.1, fun k q hk => ?_⟩
  cases k with
  | zero => cases hk; exact h
  | succ k => simp at hk
theorem ni_K2 {D : va_G} {s : State} {c c' : ClassId} {ty ty' : FieldType} (hK : va_K D vwCl [] s) (h : ArrOfT s c ty ∧ va_RA s c ty) (h' : ArrOfT s c' ty' ∧ va_RA s c' ty') : va_K D vwCl [(c, ty), (c', ty')] s := by
  refine ⟨hK.1, fun k q hk => ?_⟩
  match k, hk with
  | 0, hk => cases hk; exact h
  | 1, hk => cases hk; exact h'
  | k + 2, hk => simp at hk
/-- which side a cell is of -/
theorem ni_Wd.lt {D : va_G} {ad : Nat → Nat} {fm : Value} {ct : Nat → ClassId} {x : ni_H} {A : Nat → Prop} {n : Nat} {h : ni_H} {s : State} {H : Heap} (w : ni_Wd D ad fm ct x A n h s H) {i : Nat} (hi : ni_ex (h i) = false) : i < n := by
  obtain ⟨-, -, -, -, h5, h6, -⟩ := w
  rcases Nat.lt_or_ge i n with q | q
  · exact q
  · rw [h5 i q, h6 i] at hi; cases hi
theorem ni_Wd.ge {D : va_G} {ad : Nat → Nat} {fm : Value} {ct : Nat → ClassId} {x : ni_H} {A : Nat → Prop} {n : Nat} {h : ni_H} {s : State} {H : Heap} (w : ni_Wd D ad fm ct x A n h s H) {i : Nat} (hi : ni_wk (h i) = false) : x i = h i := by
  obtain ⟨-, -, -, h4, h5, -⟩ := w
  rcases Nat.lt_or_ge i n with q | q
  · rw [h4 i q] at hi; cases hi
  · exact (h5 i q).symm
/-- a cell's contents are others -/
theorem ni_Wd.up {D : va_G} {ad : Nat → Nat} {fm : Value} {ct : Nat → ClassId} {x : ni_H} {A : Nat → Prop} {n : Nat} {h : ni_H} {s : State} {H H1 : Heap} {i : Nat} {e : ni_E} (w : ni_Wd D ad fm ct x A n h s H) (hi : i < n) (hk : ni_wk e = true) (hp : va_P D vwCl ((ni_ws ad fm ct n h).set i (ad i, ni_ce ad fm (ct i) e)) H1) (hd : va_D A ((ni_ws ad fm ct n h).set i (ad i, ni_ce ad fm (ct i) e))) (ht : ∀ (t : Nat) (a : ni_A), e = .inl (t, a) → ∃ a', h i = .inl (t, a')) : ni_Wd D ad fm ct x A n (ni_up h i e) s H1 := by
  obtain ⟨h1, h2, h3, h4, h5, h6, h7, h8⟩ := w
  rw [ni_ws_set hi] at hp hd
  refine ⟨hp, hd, h3, fun j hj => ?_, fun j hj => ?_, h6, h7, fun j t a hj e2 => ?_⟩
  · unfold ni_up
    split
    · exact hk
    · exact h4 j hj
  · unfold ni_up
    rw [if_neg (by omega)]
    exact h5 j hj
  · unfold ni_up at e2
    split at e2
    · next q =>
      subst q
      obtain ⟨a', e3⟩ := ht t a e2
      exact h8 j t a' hj e3
    · exact h8 j t a hj e2
/-- the classes' tables -/
theorem ni_hin {ci : Nat} {C : String} {T : u_T} {N : Nat} (h : vwCl[ci]? = some (C, T, N)) : ∀ w ∈ u_ws C T N, w ∈ ni_TB := by
  match ci, h with
  | 0, h => cases h; decide +kernel
  | 1, h => cases h; decide +kernel
  | 2, h => cases h; decide +kernel
  | 3, h => cases h; decide +kernel
  | 4, h => cases h; decide +kernel
  | 5, h => cases h; decide +kernel
  | 6, h => cases h; decide +kernel
  | 7, h => cases h; decide +kernel
  | k + 8, h => simp at h
theorem ni_hty {ci : Nat} {C : String} {T : u_T} {N : Nat} (h : vwCl[ci]? = some (C, T, N)) : ∃ ty0 : Nat → FieldType, (∀ k, k < N → parseFieldDescriptor (T k).2.2.1 = some (ty0 k)) ∧ (∀ a, a < N → ∀ b, b < N → a ≠ b → (T a).2.1 ≠ (T b).2.1) := by
  match ci, h with
  | 0, h => cases h; exact ⟨tyX0, tyX0_ok, nmX0⟩
  | 1, h => cases h; exact ⟨tyX1, tyX1_ok, nmX1⟩
  | 2, h => cases h; exact ⟨tyX2, tyX2_ok, nmX2⟩
  | 3, h => cases h; exact ⟨tyX3, tyX3_ok, nmX3⟩
  | 4, h => cases h; exact ⟨tyX4, tyX4_ok, nmX4⟩
  | 5, h => cases h; exact ⟨tyX5, tyX5_ok, nmX5⟩
  | 6, h => cases h; exact ⟨tyX6, tyX6_ok, nmX6⟩
  | 7, h => cases h; exact ⟨tyX7, tyX7_ok, nmX7⟩
  | k + 8, h => simp at h
