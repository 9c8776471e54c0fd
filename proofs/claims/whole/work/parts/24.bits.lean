set_option maxRecDepth 100000
set_option maxHeartbeats 4000000
/-! ===== sets of five as numbers below 32 ===== -/
theorem bt_1 : ∀ s, s < 32 → ∀ j, j < 5 → (nI s >>> (nI j &&& 31)) &&& 1 = if s.testBit j then 1 else 0 := by decide +kernel
theorem bt_2 : ∀ s, s < 32 → ∀ j, j < 5 → nI s &&& ((1 <<< (nI j &&& 31)) ^^^ (-1)) = nI (s &&& (31 - 2 ^ j)) := by decide +kernel
theorem bt_3 : ∀ s, s < 32 → ∀ t, t < 32 → nI s &&& (nI t ^^^ (-1)) = nI (s &&& (31 - t)) := by decide +kernel
theorem bt_4 : ∀ s, s < 32 → ∀ t, t < 32 → ((nI s &&& (nI t ^^^ (-1)) = 0) ↔ s &&& t = s) := by decide +kernel
/-- how many -/
def fs_pc (s : Nat) : Nat := (s.testBit 0).toNat + (s.testBit 1).toNat + (s.testBit 2).toNat + (s.testBit 3).toNat + (s.testBit 4).toNat
theorem bt_5 : ∀ s, s < 32 → fs_cnt (nI s) 5 0 0 = nI (fs_pc s) := by decide +kernel
theorem bt_6 : ∀ s, s < 32 → ∀ j, j < 5 → s.testBit j = true → fs_pc (s &&& (31 - 2 ^ j)) + 1 = fs_pc s ∧ s &&& (31 - 2 ^ j) < s := by decide +kernel
theorem bt_7 : ∀ s, s < 32 → fs_pc s = 0 → s = 0 := by decide +kernel
theorem bt_8 : ∀ s, s < 32 → ∀ t, t < 32 → s &&& (31 - t) < 32 := by decide +kernel
