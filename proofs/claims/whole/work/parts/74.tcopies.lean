set_option maxRecDepth 100000
set_option maxHeartbeats 1000000
/-! ===== one table out of another: pictures ===== -/
theorem nz_5 {u : Nat → Nat → Int32} : ∀ j, 5 ≤ j → fs_nz u 0 j = 0 := fun j hj => by unfold fs_nz; rw [if_pos ⟨rfl, hj⟩]
theorem nz_id {u : Nat → Nat → Int32} (h : ∀ j, 5 ≤ j → u 0 j = 0) : fs_nz u = u := by
  funext i j
  unfold fs_nz
  split
  · next q => rw [q.1, h j q.2]
  · rfl
theorem cpy_c {f g : Nat → Int32} (hf : ∀ j, 5 ≤ j → f j = 0) (hg : ∀ j, 5 ≤ j → g j = 0) : va_cpy f g 0 0 5 = f := by
  funext j
  rcases Nat.lt_or_ge j 5 with q | q
  · rw [pk_cpy_in (by omega) (by omega)]
    congr 1
    omega
  · rw [pk_cpy_out (by omega), hg j q, hf j q]
section
variable {z : ni_Z} {h : ni_H} {u v : Nat → Nat → Int32}
theorem XC_16_2 (V : fs_tab 16 v h) (U : fs_tab 2 u h) (hv : ∀ j, 5 ≤ j → v 0 j = 0) (hu : ∀ j, 5 ≤ j → u 0 j = 0) : ∃ h' : ni_H, (∀ (d : Nat) (Q : ni_Q), ni_T (d + 1) 47 0 [.ref 16, .ref 2, .retAddr 0] [] z h Q = Q none z h') ∧ (∀ i, (i < 16 ∨ 23 ≤ i) → h' i = h i) ∧ fs_tab 16 u h' := by
  obtain ⟨a2, a3, a4, aH⟩ := V
  obtain ⟨b2, b3, b4, bH⟩ := U
  have a0 : h 19 = ni_O 1 [.int 0, .int (v 1 0), .int (v 2 0), .int (v 3 0), .int (v 4 0), .int (v 5 0)] := aH 0 (by decide)
  have a1 : h 20 = ni_O 1 [.int 1, .int (v 1 1), .int (v 2 1), .int (v 3 1), .int (v 4 1), .int (v 5 1)] := aH 1 (by decide)
  have a2' : h 21 = ni_O 1 [.int 2, .int (v 1 2), .int (v 2 2), .int (v 3 2), .int (v 4 2), .int (v 5 2)] := aH 2 (by decide)
  have a3' : h 22 = ni_O 1 [.int 3, .int (v 1 3), .int (v 2 3), .int (v 3 3), .int (v 4 3), .int (v 5 3)] := aH 3 (by decide)
  have b0 : h 5 = ni_O 1 [.int 0, .int (u 1 0), .int (u 2 0), .int (u 3 0), .int (u 4 0), .int (u 5 0)] := bH 0 (by decide)
  have b1 : h 6 = ni_O 1 [.int 1, .int (u 1 1), .int (u 2 1), .int (u 3 1), .int (u 4 1), .int (u 5 1)] := bH 1 (by decide)
  have b2' : h 7 = ni_O 1 [.int 2, .int (u 1 2), .int (u 2 2), .int (u 3 2), .int (u 4 2), .int (u 5 2)] := bH 2 (by decide)
  have b3' : h 8 = ni_O 1 [.int 3, .int (u 1 3), .int (u 2 3), .int (u 3 3), .int (u 4 3), .int (u 5 3)] := bH 3 (by decide)
  simp only [Nat.reduceAdd] at a2 a3 a4 b2 b3 b4
  refine ⟨_, fun d Q => X_tcopy_16_2 (hf := fun k i => v i k) (hf2 := fun k i => u i k) a2 a3 a4 a0 a1 a2' a3' b2 b3 b4 b0 b1 b2' b3', fun i hi => by rw [up_n (by omega), up_n (by omega), up_n (by omega), up_n (by omega), up_n (by omega), up_n (by omega)], ?_, ?_, ?_, fun k hk => ?_⟩
  · exact up_s
  · simp +decide only [up_n, up_s]
    rw [cpy_c hu hv]
  · simp +decide only [up_n]
    exact a4
  · match k, hk with
    | 0, _ => simp +decide only [up_n, up_s]; rfl
    | 1, _ => simp +decide only [up_n, up_s]; rfl
    | 2, _ => simp +decide only [up_n, up_s]; rfl
    | 3, _ => simp +decide only [up_n, up_s]; rfl
    | k + 4, h => omega
theorem XC_2_16 (V : fs_tab 2 v h) (U : fs_tab 16 u h) (hv : ∀ j, 5 ≤ j → v 0 j = 0) (hu : ∀ j, 5 ≤ j → u 0 j = 0) : ∃ h' : ni_H, (∀ (d : Nat) (Q : ni_Q), ni_T (d + 1) 47 0 [.ref 2, .ref 16, .retAddr 0] [] z h Q = Q none z h') ∧ (∀ i, (i < 2 ∨ 9 ≤ i) → h' i = h i) ∧ fs_tab 2 u h' := by
  obtain ⟨a2, a3, a4, aH⟩ := V
  obtain ⟨b2, b3, b4, bH⟩ := U
  have a0 : h 5 = ni_O 1 [.int 0, .int (v 1 0), .int (v 2 0), .int (v 3 0), .int (v 4 0), .int (v 5 0)] := aH 0 (by decide)
  have a1 : h 6 = ni_O 1 [.int 1, .int (v 1 1), .int (v 2 1), .int (v 3 1), .int (v 4 1), .int (v 5 1)] := aH 1 (by decide)
  have a2' : h 7 = ni_O 1 [.int 2, .int (v 1 2), .int (v 2 2), .int (v 3 2), .int (v 4 2), .int (v 5 2)] := aH 2 (by decide)
  have a3' : h 8 = ni_O 1 [.int 3, .int (v 1 3), .int (v 2 3), .int (v 3 3), .int (v 4 3), .int (v 5 3)] := aH 3 (by decide)
  have b0 : h 19 = ni_O 1 [.int 0, .int (u 1 0), .int (u 2 0), .int (u 3 0), .int (u 4 0), .int (u 5 0)] := bH 0 (by decide)
  have b1 : h 20 = ni_O 1 [.int 1, .int (u 1 1), .int (u 2 1), .int (u 3 1), .int (u 4 1), .int (u 5 1)] := bH 1 (by decide)
  have b2' : h 21 = ni_O 1 [.int 2, .int (u 1 2), .int (u 2 2), .int (u 3 2), .int (u 4 2), .int (u 5 2)] := bH 2 (by decide)
  have b3' : h 22 = ni_O 1 [.int 3, .int (u 1 3), .int (u 2 3), .int (u 3 3), .int (u 4 3), .int (u 5 3)] := bH 3 (by decide)
  simp only [Nat.reduceAdd] at a2 a3 a4 b2 b3 b4
  refine ⟨_, fun d Q => X_tcopy_2_16 (hf := fun k i => v i k) (hf2 := fun k i => u i k) a2 a3 a4 a0 a1 a2' a3' b2 b3 b4 b0 b1 b2' b3', fun i hi => by rw [up_n (by omega), up_n (by omega), up_n (by omega), up_n (by omega), up_n (by omega), up_n (by omega)], ?_, ?_, ?_, fun k hk => ?_⟩
  · exact up_s
  · simp +decide only [up_n, up_s]
    rw [cpy_c hu hv]
  · simp +decide only [up_n]
    exact a4
  · match k, hk with
    | 0, _ => simp +decide only [up_n, up_s]; rfl
    | 1, _ => simp +decide only [up_n, up_s]; rfl
    | 2, _ => simp +decide only [up_n, up_s]; rfl
    | 3, _ => simp +decide only [up_n, up_s]; rfl
    | k + 4, h => omega
theorem XC_9_2 (V : fs_tab 9 v h) (U : fs_tab 2 u h) (hv : ∀ j, 5 ≤ j → v 0 j = 0) (hu : ∀ j, 5 ≤ j → u 0 j = 0) : ∃ h' : ni_H, (∀ (d : Nat) (Q : ni_Q), ni_T (d + 1) 47 0 [.ref 9, .ref 2, .retAddr 0] [] z h Q = Q none z h') ∧ (∀ i, (i < 9 ∨ 16 ≤ i) → h' i = h i) ∧ fs_tab 9 u h' := by
  obtain ⟨a2, a3, a4, aH⟩ := V
  obtain ⟨b2, b3, b4, bH⟩ := U
  have a0 : h 12 = ni_O 1 [.int 0, .int (v 1 0), .int (v 2 0), .int (v 3 0), .int (v 4 0), .int (v 5 0)] := aH 0 (by decide)
  have a1 : h 13 = ni_O 1 [.int 1, .int (v 1 1), .int (v 2 1), .int (v 3 1), .int (v 4 1), .int (v 5 1)] := aH 1 (by decide)
  have a2' : h 14 = ni_O 1 [.int 2, .int (v 1 2), .int (v 2 2), .int (v 3 2), .int (v 4 2), .int (v 5 2)] := aH 2 (by decide)
  have a3' : h 15 = ni_O 1 [.int 3, .int (v 1 3), .int (v 2 3), .int (v 3 3), .int (v 4 3), .int (v 5 3)] := aH 3 (by decide)
  have b0 : h 5 = ni_O 1 [.int 0, .int (u 1 0), .int (u 2 0), .int (u 3 0), .int (u 4 0), .int (u 5 0)] := bH 0 (by decide)
  have b1 : h 6 = ni_O 1 [.int 1, .int (u 1 1), .int (u 2 1), .int (u 3 1), .int (u 4 1), .int (u 5 1)] := bH 1 (by decide)
  have b2' : h 7 = ni_O 1 [.int 2, .int (u 1 2), .int (u 2 2), .int (u 3 2), .int (u 4 2), .int (u 5 2)] := bH 2 (by decide)
  have b3' : h 8 = ni_O 1 [.int 3, .int (u 1 3), .int (u 2 3), .int (u 3 3), .int (u 4 3), .int (u 5 3)] := bH 3 (by decide)
  simp only [Nat.reduceAdd] at a2 a3 a4 b2 b3 b4
  refine ⟨_, fun d Q => X_tcopy_9_2 (hf := fun k i => v i k) (hf2 := fun k i => u i k) a2 a3 a4 a0 a1 a2' a3' b2 b3 b4 b0 b1 b2' b3', fun i hi => by rw [up_n (by omega), up_n (by omega), up_n (by omega), up_n (by omega), up_n (by omega), up_n (by omega)], ?_, ?_, ?_, fun k hk => ?_⟩
  · exact up_s
  · simp +decide only [up_n, up_s]
    rw [cpy_c hu hv]
  · simp +decide only [up_n]
    exact a4
  · match k, hk with
    | 0, _ => simp +decide only [up_n, up_s]; rfl
    | 1, _ => simp +decide only [up_n, up_s]; rfl
    | 2, _ => simp +decide only [up_n, up_s]; rfl
    | 3, _ => simp +decide only [up_n, up_s]; rfl
    | k + 4, h => omega
theorem XC_2_9 (V : fs_tab 2 v h) (U : fs_tab 9 u h) (hv : ∀ j, 5 ≤ j → v 0 j = 0) (hu : ∀ j, 5 ≤ j → u 0 j = 0) : ∃ h' : ni_H, (∀ (d : Nat) (Q : ni_Q), ni_T (d + 1) 47 0 [.ref 2, .ref 9, .retAddr 0] [] z h Q = Q none z h') ∧ (∀ i, (i < 2 ∨ 9 ≤ i) → h' i = h i) ∧ fs_tab 2 u h' := by
  obtain ⟨a2, a3, a4, aH⟩ := V
  obtain ⟨b2, b3, b4, bH⟩ := U
  have a0 : h 5 = ni_O 1 [.int 0, .int (v 1 0), .int (v 2 0), .int (v 3 0), .int (v 4 0), .int (v 5 0)] := aH 0 (by decide)
  have a1 : h 6 = ni_O 1 [.int 1, .int (v 1 1), .int (v 2 1), .int (v 3 1), .int (v 4 1), .int (v 5 1)] := aH 1 (by decide)
  have a2' : h 7 = ni_O 1 [.int 2, .int (v 1 2), .int (v 2 2), .int (v 3 2), .int (v 4 2), .int (v 5 2)] := aH 2 (by decide)
  have a3' : h 8 = ni_O 1 [.int 3, .int (v 1 3), .int (v 2 3), .int (v 3 3), .int (v 4 3), .int (v 5 3)] := aH 3 (by decide)
  have b0 : h 12 = ni_O 1 [.int 0, .int (u 1 0), .int (u 2 0), .int (u 3 0), .int (u 4 0), .int (u 5 0)] := bH 0 (by decide)
  have b1 : h 13 = ni_O 1 [.int 1, .int (u 1 1), .int (u 2 1), .int (u 3 1), .int (u 4 1), .int (u 5 1)] := bH 1 (by decide)
  have b2' : h 14 = ni_O 1 [.int 2, .int (u 1 2), .int (u 2 2), .int (u 3 2), .int (u 4 2), .int (u 5 2)] := bH 2 (by decide)
  have b3' : h 15 = ni_O 1 [.int 3, .int (u 1 3), .int (u 2 3), .int (u 3 3), .int (u 4 3), .int (u 5 3)] := bH 3 (by decide)
  simp only [Nat.reduceAdd] at a2 a3 a4 b2 b3 b4
  refine ⟨_, fun d Q => X_tcopy_2_9 (hf := fun k i => v i k) (hf2 := fun k i => u i k) a2 a3 a4 a0 a1 a2' a3' b2 b3 b4 b0 b1 b2' b3', fun i hi => by rw [up_n (by omega), up_n (by omega), up_n (by omega), up_n (by omega), up_n (by omega), up_n (by omega)], ?_, ?_, ?_, fun k hk => ?_⟩
  · exact up_s
  · simp +decide only [up_n, up_s]
    rw [cpy_c hu hv]
  · simp +decide only [up_n]
    exact a4
  · match k, hk with
    | 0, _ => simp +decide only [up_n, up_s]; rfl
    | 1, _ => simp +decide only [up_n, up_s]; rfl
    | 2, _ => simp +decide only [up_n, up_s]; rfl
    | 3, _ => simp +decide only [up_n, up_s]; rfl
    | k + 4, h => omega
end
