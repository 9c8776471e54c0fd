set_option maxRecDepth 100000
set_option maxHeartbeats 4000000
section
variable {d o s n : Nat} {z : ni_Z} {Q : ni_Q} {nu kd a lv ro ts wh hd so le : Int32} {wy ne : Nat → Int32} {f : Nat → Int64}
theorem fs_sub_nI {x : Int32} {L : Nat} (hL : L < 32) (q : fs_sub x (nI L) = true) : x = nI x.toNatClampNeg ∧ x.toNatClampNeg < 32 := by
  have q1 : x &&& (nI L ^^^ (-1)) = 0 := of_decide_eq_true q
  have q2 : x = x &&& nI L := by
    apply Int32.toBitVec_inj.mp
    have q3 := congrArg Int32.toBitVec q1
    rw [Int32.toBitVec_and, Int32.toBitVec_xor] at q3
    rw [Int32.toBitVec_and]
    apply BitVec.eq_of_getLsbD_eq
    intro i hi
    have q4 := congrArg (fun b => BitVec.getLsbD b i) q3
    have q5 : (Int32.toBitVec (-1)).getLsbD i = true := by
      rw [show Int32.toBitVec (-1) = BitVec.allOnes 32 from rfl, BitVec.getLsbD_allOnes]; exact decide_eq_true hi
    simp only [BitVec.getLsbD_and, BitVec.getLsbD_xor, q5] at q4
    rw [BitVec.getLsbD_and]
    have q6 : (Int32.toBitVec 0).getLsbD i = false := by rw [show Int32.toBitVec 0 = 0#32 from rfl, BitVec.getLsbD_zero]
    rw [q6] at q4
    revert q4
    cases x.toBitVec.getLsbD i <;> cases (nI L).toBitVec.getLsbD i <;> simp
  have q7 : x.toBitVec.toNat ≤ L := by
    rw [q2, Int32.toBitVec_and, BitVec.toNat_and]
    refine Nat.le_trans Nat.and_le_right ?_
    have : ∀ l, l < 32 → (nI l).toBitVec.toNat ≤ l := by decide +kernel
    exact this L hL
  have q8 : x = nI x.toBitVec.toNat := by
    apply Int32.toBitVec_inj.mp
    have : ∀ l, l < 32 → (nI l).toBitVec = BitVec.ofNat 32 l := by decide +kernel
    rw [this _ (by omega), BitVec.ofNat_toNat, BitVec.setWidth_eq]
  have q9 : ∀ l, l < 32 → (nI l).toNatClampNeg = l := by decide +kernel
  have q10 : x.toNatClampNeg = x.toBitVec.toNat := by
    conv => lhs; rw [q8]
    exact q9 _ (by omega)
  rw [q10]
  exact ⟨q8, by omega⟩
end
