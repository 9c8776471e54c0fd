set_option maxRecDepth 100000
set_option maxHeartbeats 8000000
/-! ===== the reference: its object, its small methods ===== -/
/-- the object of the reference, with its ints g -/
def fs_mo (g : Nat → Int32) : ni_E := ni_O 7 [.int (g 0), .int (g 1), .int (g 2), .int (g 3), .int (g 4), .ref 50, .ref 51, .ref 52, .ref 53, .ref 54, .ref 55, .ref 56, .ref 57, .ref 58, .ref 59, .ref 60, .ref 61, .ref 62, .ref 63, .ref 64, .int (g 20), .int (g 21), .int (g 22), .int (g 23), .int (g 24), .ref 65, .ref 66, .int (g 27), .int (g 28), .int (g 29), .ref 67, .int (g 31), .int (g 32)]
theorem mi_0 {g : Nat → Int32} : ni_is (fs_mo g) 7 0 = true := rfl
theorem mg_0 {g : Nat → Int32} : ni_gv (fs_mo g) 0 = .int (g 0) := rfl
theorem mi_1 {g : Nat → Int32} : ni_is (fs_mo g) 7 1 = true := rfl
theorem mg_1 {g : Nat → Int32} : ni_gv (fs_mo g) 1 = .int (g 1) := rfl
theorem mi_2 {g : Nat → Int32} : ni_is (fs_mo g) 7 2 = true := rfl
theorem mg_2 {g : Nat → Int32} : ni_gv (fs_mo g) 2 = .int (g 2) := rfl
theorem mi_3 {g : Nat → Int32} : ni_is (fs_mo g) 7 3 = true := rfl
theorem mg_3 {g : Nat → Int32} : ni_gv (fs_mo g) 3 = .int (g 3) := rfl
theorem mi_4 {g : Nat → Int32} : ni_is (fs_mo g) 7 4 = true := rfl
theorem mg_4 {g : Nat → Int32} : ni_gv (fs_mo g) 4 = .int (g 4) := rfl
theorem mi_5 {g : Nat → Int32} : ni_is (fs_mo g) 7 5 = true := rfl
theorem mg_5 {g : Nat → Int32} : ni_gv (fs_mo g) 5 = .ref 50 := rfl
theorem mi_6 {g : Nat → Int32} : ni_is (fs_mo g) 7 6 = true := rfl
theorem mg_6 {g : Nat → Int32} : ni_gv (fs_mo g) 6 = .ref 51 := rfl
theorem mi_7 {g : Nat → Int32} : ni_is (fs_mo g) 7 7 = true := rfl
theorem mg_7 {g : Nat → Int32} : ni_gv (fs_mo g) 7 = .ref 52 := rfl
theorem mi_8 {g : Nat → Int32} : ni_is (fs_mo g) 7 8 = true := rfl
theorem mg_8 {g : Nat → Int32} : ni_gv (fs_mo g) 8 = .ref 53 := rfl
theorem mi_9 {g : Nat → Int32} : ni_is (fs_mo g) 7 9 = true := rfl
theorem mg_9 {g : Nat → Int32} : ni_gv (fs_mo g) 9 = .ref 54 := rfl
theorem mi_10 {g : Nat → Int32} : ni_is (fs_mo g) 7 10 = true := rfl
theorem mg_10 {g : Nat → Int32} : ni_gv (fs_mo g) 10 = .ref 55 := rfl
theorem mi_11 {g : Nat → Int32} : ni_is (fs_mo g) 7 11 = true := rfl
theorem mg_11 {g : Nat → Int32} : ni_gv (fs_mo g) 11 = .ref 56 := rfl
theorem mi_12 {g : Nat → Int32} : ni_is (fs_mo g) 7 12 = true := rfl
theorem mg_12 {g : Nat → Int32} : ni_gv (fs_mo g) 12 = .ref 57 := rfl
theorem mi_13 {g : Nat → Int32} : ni_is (fs_mo g) 7 13 = true := rfl
theorem mg_13 {g : Nat → Int32} : ni_gv (fs_mo g) 13 = .ref 58 := rfl
theorem mi_14 {g : Nat → Int32} : ni_is (fs_mo g) 7 14 = true := rfl
theorem mg_14 {g : Nat → Int32} : ni_gv (fs_mo g) 14 = .ref 59 := rfl
theorem mi_15 {g : Nat → Int32} : ni_is (fs_mo g) 7 15 = true := rfl
theorem mg_15 {g : Nat → Int32} : ni_gv (fs_mo g) 15 = .ref 60 := rfl
theorem mi_16 {g : Nat → Int32} : ni_is (fs_mo g) 7 16 = true := rfl
theorem mg_16 {g : Nat → Int32} : ni_gv (fs_mo g) 16 = .ref 61 := rfl
theorem mi_17 {g : Nat → Int32} : ni_is (fs_mo g) 7 17 = true := rfl
theorem mg_17 {g : Nat → Int32} : ni_gv (fs_mo g) 17 = .ref 62 := rfl
theorem mi_18 {g : Nat → Int32} : ni_is (fs_mo g) 7 18 = true := rfl
theorem mg_18 {g : Nat → Int32} : ni_gv (fs_mo g) 18 = .ref 63 := rfl
theorem mi_19 {g : Nat → Int32} : ni_is (fs_mo g) 7 19 = true := rfl
theorem mg_19 {g : Nat → Int32} : ni_gv (fs_mo g) 19 = .ref 64 := rfl
theorem mi_20 {g : Nat → Int32} : ni_is (fs_mo g) 7 20 = true := rfl
theorem mg_20 {g : Nat → Int32} : ni_gv (fs_mo g) 20 = .int (g 20) := rfl
theorem mi_21 {g : Nat → Int32} : ni_is (fs_mo g) 7 21 = true := rfl
theorem mg_21 {g : Nat → Int32} : ni_gv (fs_mo g) 21 = .int (g 21) := rfl
theorem mi_22 {g : Nat → Int32} : ni_is (fs_mo g) 7 22 = true := rfl
theorem mg_22 {g : Nat → Int32} : ni_gv (fs_mo g) 22 = .int (g 22) := rfl
theorem mi_23 {g : Nat → Int32} : ni_is (fs_mo g) 7 23 = true := rfl
theorem mg_23 {g : Nat → Int32} : ni_gv (fs_mo g) 23 = .int (g 23) := rfl
theorem mi_24 {g : Nat → Int32} : ni_is (fs_mo g) 7 24 = true := rfl
theorem mg_24 {g : Nat → Int32} : ni_gv (fs_mo g) 24 = .int (g 24) := rfl
theorem mi_25 {g : Nat → Int32} : ni_is (fs_mo g) 7 25 = true := rfl
theorem mg_25 {g : Nat → Int32} : ni_gv (fs_mo g) 25 = .ref 65 := rfl
theorem mi_26 {g : Nat → Int32} : ni_is (fs_mo g) 7 26 = true := rfl
theorem mg_26 {g : Nat → Int32} : ni_gv (fs_mo g) 26 = .ref 66 := rfl
theorem mi_27 {g : Nat → Int32} : ni_is (fs_mo g) 7 27 = true := rfl
theorem mg_27 {g : Nat → Int32} : ni_gv (fs_mo g) 27 = .int (g 27) := rfl
theorem mi_28 {g : Nat → Int32} : ni_is (fs_mo g) 7 28 = true := rfl
theorem mg_28 {g : Nat → Int32} : ni_gv (fs_mo g) 28 = .int (g 28) := rfl
theorem mi_29 {g : Nat → Int32} : ni_is (fs_mo g) 7 29 = true := rfl
theorem mg_29 {g : Nat → Int32} : ni_gv (fs_mo g) 29 = .int (g 29) := rfl
theorem mi_30 {g : Nat → Int32} : ni_is (fs_mo g) 7 30 = true := rfl
theorem mg_30 {g : Nat → Int32} : ni_gv (fs_mo g) 30 = .ref 67 := rfl
theorem mi_31 {g : Nat → Int32} : ni_is (fs_mo g) 7 31 = true := rfl
theorem mg_31 {g : Nat → Int32} : ni_gv (fs_mo g) 31 = .int (g 31) := rfl
theorem mi_32 {g : Nat → Int32} : ni_is (fs_mo g) 7 32 = true := rfl
theorem mg_32 {g : Nat → Int32} : ni_gv (fs_mo g) 32 = .int (g 32) := rfl
theorem mp_0 {g : Nat → Int32} {x : Int32} : ni_pv (fs_mo g) 0 (.int x) = fs_mo (upd g 0 x) := rfl
theorem mp_1 {g : Nat → Int32} {x : Int32} : ni_pv (fs_mo g) 1 (.int x) = fs_mo (upd g 1 x) := rfl
theorem mp_2 {g : Nat → Int32} {x : Int32} : ni_pv (fs_mo g) 2 (.int x) = fs_mo (upd g 2 x) := rfl
theorem mp_3 {g : Nat → Int32} {x : Int32} : ni_pv (fs_mo g) 3 (.int x) = fs_mo (upd g 3 x) := rfl
theorem mp_4 {g : Nat → Int32} {x : Int32} : ni_pv (fs_mo g) 4 (.int x) = fs_mo (upd g 4 x) := rfl
theorem mp_20 {g : Nat → Int32} {x : Int32} : ni_pv (fs_mo g) 20 (.int x) = fs_mo (upd g 20 x) := rfl
theorem mp_21 {g : Nat → Int32} {x : Int32} : ni_pv (fs_mo g) 21 (.int x) = fs_mo (upd g 21 x) := rfl
theorem mp_22 {g : Nat → Int32} {x : Int32} : ni_pv (fs_mo g) 22 (.int x) = fs_mo (upd g 22 x) := rfl
theorem mp_23 {g : Nat → Int32} {x : Int32} : ni_pv (fs_mo g) 23 (.int x) = fs_mo (upd g 23 x) := rfl
theorem mp_24 {g : Nat → Int32} {x : Int32} : ni_pv (fs_mo g) 24 (.int x) = fs_mo (upd g 24 x) := rfl
theorem mp_27 {g : Nat → Int32} {x : Int32} : ni_pv (fs_mo g) 27 (.int x) = fs_mo (upd g 27 x) := rfl
theorem mp_28 {g : Nat → Int32} {x : Int32} : ni_pv (fs_mo g) 28 (.int x) = fs_mo (upd g 28 x) := rfl
theorem mp_29 {g : Nat → Int32} {x : Int32} : ni_pv (fs_mo g) 29 (.int x) = fs_mo (upd g 29 x) := rfl
theorem mp_31 {g : Nat → Int32} {x : Int32} : ni_pv (fs_mo g) 31 (.int x) = fs_mo (upd g 31 x) := rfl
theorem mp_32 {g : Nat → Int32} {x : Int32} : ni_pv (fs_mo g) 32 (.int x) = fs_mo (upd g 32 x) := rfl
theorem mrc {g : Nat → Int32} : ni_rc (fs_mo g) 7 = true := rfl
theorem ud_s {f : Nat → Int32} {k : Nat} {x : Int32} : upd f k x k = x := pk_us
theorem ud_n {f : Nat → Int32} {k j : Nat} {x : Int32} (h : j ≠ k) : upd f k x j = f j := pk_un h
theorem ud_u {f : Nat → Int32} {k : Nat} {x y : Int32} : upd (upd f k x) k y = upd f k y := by
  funext j
  unfold upd
  split <;> rfl
