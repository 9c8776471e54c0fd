set_option maxRecDepth 100000
set_option maxHeartbeats 1000000
/-! ===== the outside at the start ===== -/
section
variable {s : State} {args : Array Value}
theorem st_K (hts : ∀ w ∈ lw_tbl, w.before args s = true) : ∃ D : va_G, va_K D vwCl [] s := by
  have hT : ∀ w ∈ ni_TB, w.before args s = true := fun w hw => hts w (List.mem_filter.mp hw).1
  obtain ⟨c0, i0, k0⟩ := u_known hT (ni_hin (ci := 0) rfl) (hT (Cond.instantiable "FiveStones$Acts" 2) (ni_TB_mem (i := 200) (by decide +kernel) rfl))
  obtain ⟨c1, i1, k1⟩ := u_known hT (ni_hin (ci := 1) rfl) (hT (Cond.instantiable "FiveStones$Hand" 6) (ni_TB_mem (i := 102) (by decide +kernel) rfl))
  obtain ⟨c2, i2, k2⟩ := u_known hT (ni_hin (ci := 2) rfl) (hT (Cond.instantiable "FiveStones$Mind" 7) (ni_TB_mem (i := 167) (by decide +kernel) rfl))
  obtain ⟨c3, i3, k3⟩ := u_known hT (ni_hin (ci := 3) rfl) (hT (Cond.instantiable "FiveStones$Reader" 3) (ni_TB_mem (i := 214) (by decide +kernel) rfl))
  obtain ⟨c4, i4, k4⟩ := u_known hT (ni_hin (ci := 4) rfl) (hT (Cond.instantiable "FiveStones$Shelf" 5) (ni_TB_mem (i := 230) (by decide +kernel) rfl))
  obtain ⟨c5, i5, k5⟩ := u_known hT (ni_hin (ci := 5) rfl) (hT (Cond.instantiable "FiveStones$Table" 6) (ni_TB_mem (i := 92) (by decide +kernel) rfl))
  obtain ⟨c6, i6, k6⟩ := u_known hT (ni_hin (ci := 6) rfl) (hT (Cond.instantiable "FiveStones" 10) (ni_TB_mem (i := 82) (by decide +kernel) rfl))
  obtain ⟨c7, i7, k7⟩ := u_known hT (ni_hin (ci := 7) rfl) (hT (Cond.instantiable "FiveStonesModel" 33) (ni_TB_mem (i := 842) (by decide +kernel) rfl))
  have h0 : ∀ c : Nat, ∃ q : ClassId × (Nat → Nat), ∀ q', vwCl[c]? = some q' → u_Kn s q'.1 q'.2.1 q'.2.2 q.1 q.2 := by
    intro c
    match c with
    | 0 => exact ⟨(c0, i0), fun q' h => by cases h; exact k0⟩
    | 1 => exact ⟨(c1, i1), fun q' h => by cases h; exact k1⟩
    | 2 => exact ⟨(c2, i2), fun q' h => by cases h; exact k2⟩
    | 3 => exact ⟨(c3, i3), fun q' h => by cases h; exact k3⟩
    | 4 => exact ⟨(c4, i4), fun q' h => by cases h; exact k4⟩
    | 5 => exact ⟨(c5, i5), fun q' h => by cases h; exact k5⟩
    | 6 => exact ⟨(c6, i6), fun q' h => by cases h; exact k6⟩
    | 7 => exact ⟨(c7, i7), fun q' h => by cases h; exact k7⟩
    | c + 8 => exact ⟨(c0, i0), fun q' h => by simp at h⟩
  obtain ⟨f, hf⟩ := Classical.axiomOfChoice h0
  exact ⟨(fun c => (f c).1, fun c => (f c).2), fun c q hq => hf c q hq, fun k q hq => by simp at hq⟩
def st_tm (i : Nat) : Term := Term.string "FiveStones$Reader" (116 + 2 * i)
def st_len : List Nat := [4, 5, 2, 5, 4]
def st_byt : List (List Int32) := [[104, 97, 110, 100], [115, 116, 111, 110, 101], [117, 112], [115, 116, 97, 103, 101], [116, 117, 114, 110]]
theorem st_m1 : ∀ i, i < 5 → Cond.exactly (st_tm i) "java/lang/String" ∈ flatC (Jvm.Cond.and given_1 narrow_1) := by decide +kernel
theorem st_m2 : ∀ i, i < 5 → Cond.eq (.field (st_tm i) "java/lang/String" "coder" "B") (.int 0) ∈ flatC (Jvm.Cond.and given_1 narrow_1) := by decide +kernel
theorem st_m3 : ∀ i, i < 5 → Cond.arrayOf (.field (st_tm i) "java/lang/String" "value" "[B") .byte ∈ flatC (Jvm.Cond.and given_1 narrow_1) := by decide +kernel
theorem st_m4 : ∀ i, i < 5 → Cond.eq (.length (.field (st_tm i) "java/lang/String" "value" "[B")) (.int (Int32.ofNat (st_len.getD i 0))) ∈ flatC (Jvm.Cond.and given_1 narrow_1) := by decide +kernel
theorem st_m5 : ∀ i, i < 5 → ∀ j, j < st_len.getD i 0 → Cond.eq (.elem (.field (st_tm i) "java/lang/String" "value" "[B") (.int (Int32.ofNat j))) (.int ((st_byt.getD i []).getD j 0)) ∈ flatC (Jvm.Cond.and given_1 narrow_1) := by decide +kernel
theorem st_m6 : ∀ i, i < 5 → ∀ j, j < 5 → i ≠ j → (Cond.not (Cond.eq (st_tm i) (st_tm j)) ∈ flatC (Jvm.Cond.and given_1 narrow_1) ∨ Cond.not (Cond.eq (st_tm j) (st_tm i)) ∈ flatC (Jvm.Cond.and given_1 narrow_1)) := by decide +kernel
theorem st_w1 : ∀ i, i < 5 → fs_wl i = st_len.getD i 0 := by decide +kernel
theorem st_w2 : ∀ i, i < 5 → ∀ j, j < st_len.getD i 0 → (st_byt.getD i []).getD j 0 = fs_wb i j := by decide +kernel
theorem st_str {A : Nat → Prop} (hgv : (Jvm.Cond.and given_1 narrow_1).before args s = true) (hA : ∀ a : Nat, a < s.heap.size → ¬ A a) : ∃ adK adV : Nat → Nat, ∀ i, i < 5 → (st_tm i).eval args s none [] s = some (.ref (adK i)) ∧ va_O "java/lang/String" (adK i) A s s.heap ∧ va_OF "java/lang/String" "coder" "B" (.int 0) (adK i) A s s.heap ∧ va_OF "java/lang/String" "value" "[B" (.ref (adV i)) (adK i) A s s.heap ∧ va_T .byte (adV i) (fs_wl i) (fun j => .int (fs_wb i j)) A s s.heap := by
  have hs := flat_of_before _ hgv
  obtain ⟨adK, adV, hS, hE⟩ := vk_Sof (args := args) (s := s) (N := 5) (tm := st_tm) (len := st_len) (byt := st_byt) (A := A) (by decide +kernel) (fun i hi => hs _ (st_m1 i hi)) (fun i hi => hs _ (st_m2 i hi)) (fun i hi => hs _ (st_m3 i hi)) (fun i hi => hs _ (st_m4 i hi)) (fun i hi j hj => hs _ (st_m5 i hi j hj)) (fun i j hi hj hne => (st_m6 i hi j hj hne).imp (hs _) (hs _)) hA
  refine ⟨adK, adV, fun i hi => ?_⟩
  obtain ⟨a, b, c, cell, t1, t2, t3, t4, t5, t6, t7⟩ := hS.1 i hi
  refine ⟨hE i hi, a, b, c, cell, t1, t2, t3, ?_, ?_, ?_, t7⟩
  · rw [st_w1 i hi]; exact t4
  · rw [st_w1 i hi]; exact t5
  · intro j hj
    rw [st_w1 i hi] at hj
    refine (t6 j hj).trans ?_
    show some (Value.int ((st_byt.getD i []).getD j 0)) = some (Value.int (fs_wb i j))
    rw [st_w2 i hi j hj]
theorem st_a1 : Cond.arrayOf (.static "FiveStones" "ABOVE" "[I") .int ∈ flatC (Jvm.Cond.and given_1 narrow_1) := by decide +kernel
theorem st_a2 : Cond.eq (.length (.static "FiveStones" "ABOVE" "[I")) (.int (Int32.ofNat 7)) ∈ flatC (Jvm.Cond.and given_1 narrow_1) := by decide +kernel
theorem st_a3 : ∀ j, j < 7 → Cond.eq (.elem (.static "FiveStones" "ABOVE" "[I") (.int (Int32.ofNat j))) (.int (fs_above j)) ∈ flatC (Jvm.Cond.and given_1 narrow_1) := by decide +kernel
theorem st_b1 : Cond.arrayOf (.static "FiveStones$Acts" "BODIES" "[I") .int ∈ flatC (Jvm.Cond.and given_1 narrow_1) := by decide +kernel
theorem st_b2 : Cond.eq (.length (.static "FiveStones$Acts" "BODIES" "[I")) (.int (Int32.ofNat 21)) ∈ flatC (Jvm.Cond.and given_1 narrow_1) := by decide +kernel
theorem st_b3 : ∀ j, j < 21 → Cond.eq (.elem (.static "FiveStones$Acts" "BODIES" "[I") (.int (Int32.ofNat j))) (.int (fs_bod j)) ∈ flatC (Jvm.Cond.and given_1 narrow_1) := by decide +kernel
theorem st_c1 : Cond.eq (.static "java/lang/String" "COMPACT_STRINGS" "Z") (.int 1) ∈ flatC (Jvm.Cond.and given_1 narrow_1) := by decide +kernel
theorem st_c2 : Cond.isRef (.static "jdk/internal/util/Preconditions" "SIOOBE_FORMATTER" "Ljava/util/function/BiFunction;") ∈ flatC (Jvm.Cond.and given_1 narrow_1) := by decide +kernel
theorem st_above {A : Nat → Prop} (hgv : (Jvm.Cond.and given_1 narrow_1).before args s = true) (hA : ∀ a : Nat, a < s.heap.size → ¬ A a) : ∃ t : Nat, (Term.static "FiveStones" "ABOVE" "[I").eval args s none [] s = some (.ref t) ∧ va_T .int t 7 (fun j => .int (fs_above j)) A s s.heap := by
  have hs := flat_of_before _ hgv
  exact va_Tof (by decide) (hs _ st_a1) (va_eqt (hs _ st_a2)) (fun j hj => va_eqt (hs _ (st_a3 j hj))) hA
theorem st_bodies {A : Nat → Prop} (hgv : (Jvm.Cond.and given_1 narrow_1).before args s = true) (hA : ∀ a : Nat, a < s.heap.size → ¬ A a) : ∃ t : Nat, (Term.static "FiveStones$Acts" "BODIES" "[I").eval args s none [] s = some (.ref t) ∧ va_T .int t 21 (fun j => .int (fs_bod j)) A s s.heap := by
  have hs := flat_of_before _ hgv
  exact va_Tof (by decide) (hs _ st_b1) (va_eqt (hs _ st_b2)) (fun j hj => va_eqt (hs _ (st_b3 j hj))) hA
theorem st_l1 : lw_tbl[358]? = some (Cond.laysStatic "FiveStones" "ABOVE" "[I") := by decide +kernel
theorem st_l2 : lw_tbl[811]? = some (Cond.laysStatic "FiveStones$Acts" "BODIES" "[I") := by decide +kernel
theorem st_l3 : lw_tbl[474]? = some (Cond.laysStatic "java/lang/String" "COMPACT_STRINGS" "Z") := by decide +kernel
theorem st_l4 : lw_tbl[494]? = some (Cond.laysStatic "jdk/internal/util/Preconditions" "SIOOBE_FORMATTER" "Ljava/util/function/BiFunction;") := by decide +kernel
theorem st_i1 : lw_tbl[65]? = some (Cond.initialized "FiveStones") := by decide +kernel
theorem st_i2 : lw_tbl[70]? = some (Cond.initialized "FiveStones$Acts") := by decide +kernel
theorem st_i3 : lw_tbl[75]? = some (Cond.initialized "java/lang/String") := by decide +kernel
theorem st_i4 : lw_tbl[77]? = some (Cond.initialized "jdk/internal/util/Preconditions") := by decide +kernel
theorem st_o1 : lw_tbl[90]? = some (Cond.arrayOver (.object "FiveStones$Shelf")) := by decide +kernel
theorem st_o2 : lw_tbl[98]? = some (Cond.arrayOver (.object "FiveStones$Hand")) := by decide +kernel
theorem st_s0 : lw_tbl[456]? = some (Cond.stringRef "FiveStones$Reader" 116 "hand") := by decide +kernel
theorem st_s1 : lw_tbl[457]? = some (Cond.stringRef "FiveStones$Reader" 118 "stone") := by decide +kernel
theorem st_s2 : lw_tbl[458]? = some (Cond.stringRef "FiveStones$Reader" 120 "up") := by decide +kernel
theorem st_s3 : lw_tbl[459]? = some (Cond.stringRef "FiveStones$Reader" 122 "stage") := by decide +kernel
theorem st_s4 : lw_tbl[460]? = some (Cond.stringRef "FiveStones$Reader" 124 "turn") := by decide +kernel
end
