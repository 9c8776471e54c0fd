section
variable {d : Nat} {a0 a1 a2 a3 a4 a5 a6 a7 a8 a9 a10 a11 a12 : Value} {x y : Int32} {x0 x1 x2 x3 x4 x5 : Int32} {u w : Int64} {u0 u1 u2 u3 : Int64} {o o1 o20 o21 o22 o23 o24 o25 : Nat} {b0 b1 b2 b3 b4 b5 : Value} {st : List Value} {z : ni_Z} {h : ni_H} {Q : ni_Q}

theorem s0_0 : ni_T d 0 0 [.ref o] st z h Q = ni_T d 0 1 [.ref o] (.ref o :: st) z h Q := ni_T_p rfl rfl
theorem s0_1 : ni_T (d + 1) 0 1 [a0] (.ref o :: st) z h Q = (Nat.ble (ni_sw st) 8 = true ∧ ni_T (d + 1) 0 4 [a0] st z h Q) := ni_T_oic rfl rfl
theorem s0_4 : ni_T d 0 4 [.ref o] st z h Q = ni_T d 0 5 [.ref o] (.ref o :: st) z h Q := ni_T_p rfl rfl
theorem s0_5 : ni_T d 0 5 [a0] st z h Q = ni_T d 0 7 [a0] (.int 20 :: st) z h Q := ni_T_p rfl rfl
theorem s0_7 : ni_T d 0 7 [a0] (.int x :: st) z h Q = ((ni_ok z.1 [a0] st h && Nat.ble (z.1 + 1) 900 && !decide (x < 0) && Nat.ble x.toNatClampNeg 65536) = true ∧ ni_T d 0 9 [a0] (.ref z.1 :: st) (z.1 + 1, z.2 + x.toNatClampNeg) (ni_up h z.1 (.inl (0, x.toNatClampNeg, .inl (fun _ => 0)))) Q) := ni_T_ne rfl rfl rfl rfl rfl rfl rfl
theorem s0_9 : ni_T d 0 9 [a0] (b0 :: .ref o :: st) z h Q = ((Nat.ble 0 7 && ni_is (h o) 0 0 && ni_fit (.array .int) b0) = true ∧ ni_T d 0 12 [a0] st z (ni_up h o (ni_pv (h o) 0 b0)) Q) := ni_T_putf rfl
theorem s0_12 : ni_T d 0 12 [.ref o] st z h Q = ni_T d 0 13 [.ref o] (.ref o :: st) z h Q := ni_T_p rfl rfl
theorem s0_13 : ni_T d 0 13 [a0] st z h Q = ni_T d 0 14 [a0] (.int 0 :: st) z h Q := ni_T_p rfl rfl
theorem s0_14 : ni_T d 0 14 [a0] (b0 :: .ref o :: st) z h Q = ((Nat.ble 0 7 && ni_is (h o) 0 1 && ni_fit (.int) b0) = true ∧ ni_T d 0 17 [a0] st z (ni_up h o (ni_pv (h o) 1 b0)) Q) := ni_T_putf rfl
theorem s0_17 : ni_T d 0 17 [a0] [] z h Q = Q none z h := ni_T_v rfl rfl
theorem s1_0 : ni_T d 1 0 [.ref o, a1, a2, a3] st z h Q = ni_T d 1 1 [.ref o, a1, a2, a3] (.ref o :: st) z h Q := ni_T_p rfl rfl
theorem s1_1 : ni_T d 1 1 [a0, a1, a2, a3] st z h Q = ni_T d 1 2 [a0, a1, a2, a3] (.int 0 :: st) z h Q := ni_T_p rfl rfl
theorem s1_2 : ni_T d 1 2 [a0, a1, a2, a3] (b0 :: .ref o :: st) z h Q = ((Nat.ble 0 7 && ni_is (h o) 0 1 && ni_fit (.int) b0) = true ∧ ni_T d 1 5 [a0, a1, a2, a3] st z (ni_up h o (ni_pv (h o) 1 b0)) Q) := ni_T_putf rfl
theorem s1_5 : ni_T d 1 5 [a0, .ref o, a2, a3] st z h Q = ni_T d 1 6 [a0, .ref o, a2, a3] (.ref o :: st) z h Q := ni_T_p rfl rfl
theorem s1_5N : ni_T d 1 5 [a0, .null, a2, a3] st z h Q = ni_T d 1 6 [a0, .null, a2, a3] (.null :: st) z h Q := ni_T_p rfl rfl
theorem s1_6N : ni_T d 1 6 [a0, a1, a2, a3] (.null :: st) z h Q = ni_T d 1 18 [a0, a1, a2, a3] st z h Q := ni_T_p rfl rfl
theorem s1_6 : ni_T d 1 6 [a0, a1, a2, a3] (.ref o :: st) z h Q = ni_T d 1 9 [a0, a1, a2, a3] st z h Q := ni_T_p rfl rfl
theorem s1_9 : ni_T d 1 9 [a0, a1, .int x, a3] st z h Q = ni_T d 1 10 [a0, a1, .int x, a3] (.int x :: st) z h Q := ni_T_p rfl rfl
theorem s1_10 : ni_T d 1 10 [a0, a1, a2, a3] (.int x :: st) z h Q = if x < 0 then ni_T d 1 18 [a0, a1, a2, a3] st z h Q else ni_T d 1 13 [a0, a1, a2, a3] st z h Q := ni_T_b rfl rfl
theorem s1_13 : ni_T d 1 13 [a0, a1, .int x, a3] st z h Q = ni_T d 1 14 [a0, a1, .int x, a3] (.int x :: st) z h Q := ni_T_p rfl rfl
theorem s1_14 : ni_T d 1 14 [a0, a1, a2, a3] st z h Q = ni_T d 1 15 [a0, a1, a2, a3] (.int 2 :: st) z h Q := ni_T_p rfl rfl
theorem s1_15 : ni_T d 1 15 [a0, a1, a2, a3] (.int y :: .int x :: st) z h Q = if x ≤ y then ni_T d 1 20 [a0, a1, a2, a3] st z h Q else ni_T d 1 18 [a0, a1, a2, a3] st z h Q := ni_T_b rfl rfl
theorem s1_18 : ni_T d 1 18 [a0, a1, a2, a3] st z h Q = ni_T d 1 19 [a0, a1, a2, a3] (.int 0 :: st) z h Q := ni_T_p rfl rfl
theorem s1_19 : ni_T d 1 19 [a0, a1, a2, a3] [.int x] z h Q = Q (some (.int x)) z h := ni_T_i rfl rfl
theorem s1_20 : ni_T d 1 20 [.ref o, a1, a2, a3] st z h Q = ni_T d 1 21 [.ref o, a1, a2, a3] (.ref o :: st) z h Q := ni_T_p rfl rfl
theorem s1_21 : ni_T d 1 21 [a0, .ref o, a2, a3] st z h Q = ni_T d 1 22 [a0, .ref o, a2, a3] (.ref o :: st) z h Q := ni_T_p rfl rfl
theorem s1_21N : ni_T d 1 21 [a0, .null, a2, a3] st z h Q = ni_T d 1 22 [a0, .null, a2, a3] (.null :: st) z h Q := ni_T_p rfl rfl
theorem s1_22 : ni_T d 1 22 [a0, .ref o, a2, a3] st z h Q = ni_T d 1 23 [a0, .ref o, a2, a3] (.ref o :: st) z h Q := ni_T_p rfl rfl
theorem s1_22N : ni_T d 1 22 [a0, .null, a2, a3] st z h Q = ni_T d 1 23 [a0, .null, a2, a3] (.null :: st) z h Q := ni_T_p rfl rfl
theorem s1_23 : ni_T d 1 23 [a0, a1, a2, a3] (.ref o :: st) z h Q = (ni_is (h o) 1 1 = true ∧ ni_T d 1 26 [a0, a1, a2, a3] (ni_gv (h o) 1 :: st) z h Q) := ni_T_getf rfl
theorem s1_26 : ni_T d 1 26 [a0, a1, .int x, a3] st z h Q = ni_T d 1 27 [a0, a1, .int x, a3] (.int x :: st) z h Q := ni_T_p rfl rfl
theorem s1_27 : ni_T d 1 27 [a0, a1, a2, .int x] st z h Q = ni_T d 1 28 [a0, a1, a2, .int x] (.int x :: st) z h Q := ni_T_p rfl rfl
theorem s1_28 : ni_T d 1 28 [a0, a1, a2, a3] st z h Q = ni_T d 1 29 [a0, a1, a2, a3] (.int 0 :: st) z h Q := ni_T_p rfl rfl
theorem s1_29 : ni_T (d + 1) 1 29 [a0, a1, a2, a3] (.int x4 :: .int x3 :: .int x2 :: .int x1 :: .ref o20 :: .ref o :: st) z h Q = (ni_rc (h o) 0 = true ∧ Nat.ble (ni_sw st) 8 = true ∧ ni_T d 3 0 [.ref o, .ref o20, .int x1, .int x2, .int x3, .int x4, .retAddr 0, .retAddr 0, .retAddr 0, .retAddr 0] [] z h (ni_K (d + 1) 1 32 [a0, a1, a2, a3] st z Q)) := ni_T_ce [.ref o, .ref o20, .int x1, .int x2, .int x3, .int x4] rfl rfl rfl rfl rfl rfl rfl rfl rfl
theorem s1_29N0 : ni_T (d + 1) 1 29 [a0, a1, a2, a3] (.int x4 :: .int x3 :: .int x2 :: .int x1 :: .null :: .ref o :: st) z h Q = (ni_rc (h o) 0 = true ∧ Nat.ble (ni_sw st) 8 = true ∧ ni_T d 3 0 [.ref o, .null, .int x1, .int x2, .int x3, .int x4, .retAddr 0, .retAddr 0, .retAddr 0, .retAddr 0] [] z h (ni_K (d + 1) 1 32 [a0, a1, a2, a3] st z Q)) := ni_T_ce [.ref o, .null, .int x1, .int x2, .int x3, .int x4] rfl rfl rfl rfl rfl rfl rfl rfl rfl
theorem s1_32 : ni_T d 1 32 [a0, a1, a2, a3] [.int x] z h Q = Q (some (.int x)) z h := ni_T_i rfl rfl
theorem s2_0 : ni_T d 2 0 [a0, .int x] st z h Q = ni_T d 2 1 [a0, .int x] (.int x :: st) z h Q := ni_T_p rfl rfl
theorem s2_1 : ni_T d 2 1 [a0, a1] (.int x :: st) z h Q = if x < 0 then ni_T d 2 27 [a0, a1] st z h Q else ni_T d 2 4 [a0, a1] st z h Q := ni_T_b rfl rfl
theorem s2_4 : ni_T d 2 4 [a0, .int x] st z h Q = ni_T d 2 5 [a0, .int x] (.int x :: st) z h Q := ni_T_p rfl rfl
theorem s2_5 : ni_T d 2 5 [.ref o, a1] st z h Q = ni_T d 2 6 [.ref o, a1] (.ref o :: st) z h Q := ni_T_p rfl rfl
theorem s2_6 : ni_T d 2 6 [a0, a1] (.ref o :: st) z h Q = (ni_is (h o) 0 1 = true ∧ ni_T d 2 9 [a0, a1] (ni_gv (h o) 1 :: st) z h Q) := ni_T_getf rfl
theorem s2_9 : ni_T d 2 9 [a0, a1] (.int y :: .int x :: st) z h Q = if y ≤ x then ni_T d 2 27 [a0, a1] st z h Q else ni_T d 2 12 [a0, a1] st z h Q := ni_T_b rfl rfl
theorem s2_12 : ni_T d 2 12 [a0, .int x] st z h Q = ni_T d 2 13 [a0, .int x] (.int x :: st) z h Q := ni_T_p rfl rfl
theorem s2_13 : ni_T d 2 13 [a0, a1] st z h Q = ni_T d 2 15 [a0, a1] (.int 20 :: st) z h Q := ni_T_p rfl rfl
theorem s2_15 : ni_T d 2 15 [a0, a1] (.int y :: .int x :: st) z h Q = if y ≤ x then ni_T d 2 27 [a0, a1] st z h Q else ni_T d 2 18 [a0, a1] st z h Q := ni_T_b rfl rfl
theorem s2_18 : ni_T d 2 18 [.ref o, a1] st z h Q = ni_T d 2 19 [.ref o, a1] (.ref o :: st) z h Q := ni_T_p rfl rfl
theorem s2_19 : ni_T d 2 19 [a0, a1] (.ref o :: st) z h Q = (ni_is (h o) 0 0 = true ∧ ni_T d 2 22 [a0, a1] (ni_gv (h o) 0 :: st) z h Q) := ni_T_getf rfl
theorem s2_22 : ni_T d 2 22 [a0, .int x] st z h Q = ni_T d 2 23 [a0, .int x] (.int x :: st) z h Q := ni_T_p rfl rfl
theorem s2_23 : ni_T d 2 23 [a0, a1] (.int x :: .ref o :: st) z h Q = (ni_okI (h o) x = true ∧ ni_T d 2 24 [a0, a1] (.int (ni_gi (h o) x) :: st) z h Q) := ni_T_iald rfl
theorem s2_24 : ni_T d 2 24 [a0, a1] st z h Q = ni_T d 2 28 [a0, a1] st z h Q := ni_T_p rfl rfl
theorem s2_27 : ni_T d 2 27 [a0, a1] st z h Q = ni_T d 2 28 [a0, a1] (.int (-1) :: st) z h Q := ni_T_p rfl rfl
theorem s2_28 : ni_T d 2 28 [a0, a1] [.int x] z h Q = Q (some (.int x)) z h := ni_T_i rfl rfl
theorem s3_0 : ni_T d 3 0 [a0, a1, .int x, a3, a4, a5, a6, a7, a8, a9] st z h Q = ni_T d 3 1 [a0, a1, .int x, a3, a4, a5, a6, a7, a8, a9] (.int x :: st) z h Q := ni_T_p rfl rfl
theorem s3_1 : ni_T d 3 1 [a0, a1, a2, .int x, a4, a5, a6, a7, a8, a9] st z h Q = ni_T d 3 2 [a0, a1, a2, .int x, a4, a5, a6, a7, a8, a9] (.int x :: st) z h Q := ni_T_p rfl rfl
theorem s3_2 : ni_T (d + 1) 3 2 [a0, a1, a2, a3, a4, a5, a6, a7, a8, a9] (.int x1 :: .int x0 :: st) z h Q = (Nat.ble (ni_sw st) 8 = true ∧ ni_T d 4 0 [.int x0, .int x1, .retAddr 0, .retAddr 0] [] z h (ni_K (d + 1) 3 5 [a0, a1, a2, a3, a4, a5, a6, a7, a8, a9] st z Q)) := ni_T_cse [.int x0, .int x1] rfl rfl rfl rfl rfl rfl rfl rfl rfl
theorem s3_5 : ni_T d 3 5 [a0, a1, a2, a3, a4, a5, a6, a7, a8, a9] (.int x :: st) z h Q = ni_T d 3 7 [a0, a1, a2, a3, a4, ni_kl a5, .int x, a7, a8, a9] st z h Q := ni_T_p rfl rfl
theorem s3_7 : ni_T d 3 7 [a0, a1, a2, a3, a4, a5, .int x, a7, a8, a9] st z h Q = ni_T d 3 9 [a0, a1, a2, a3, a4, a5, .int x, a7, a8, a9] (.int x :: st) z h Q := ni_T_p rfl rfl
theorem s3_9 : ni_T d 3 9 [a0, a1, a2, a3, a4, a5, a6, a7, a8, a9] st z h Q = ni_T d 3 10 [a0, a1, a2, a3, a4, a5, a6, a7, a8, a9] (.int (-1) :: st) z h Q := ni_T_p rfl rfl
theorem s3_10 : ni_T d 3 10 [a0, a1, a2, a3, a4, a5, a6, a7, a8, a9] (.int y :: .int x :: st) z h Q = if x = y then ni_T d 3 20 [a0, a1, a2, a3, a4, a5, a6, a7, a8, a9] st z h Q else ni_T d 3 13 [a0, a1, a2, a3, a4, a5, a6, a7, a8, a9] st z h Q := ni_T_b rfl rfl
theorem s3_13 : ni_T d 3 13 [a0, a1, a2, a3, a4, .int x, a6, a7, a8, a9] st z h Q = ni_T d 3 15 [a0, a1, a2, a3, a4, .int x, a6, a7, a8, a9] (.int x :: st) z h Q := ni_T_p rfl rfl
theorem s3_15 : ni_T d 3 15 [a0, a1, a2, a3, a4, a5, a6, a7, a8, a9] st z h Q = ni_T d 3 17 [a0, a1, a2, a3, a4, a5, a6, a7, a8, a9] (.int 20 :: st) z h Q := ni_T_p rfl rfl
theorem s3_17 : ni_T d 3 17 [a0, a1, a2, a3, a4, a5, a6, a7, a8, a9] (.int y :: .int x :: st) z h Q = if x < y then ni_T d 3 22 [a0, a1, a2, a3, a4, a5, a6, a7, a8, a9] st z h Q else ni_T d 3 20 [a0, a1, a2, a3, a4, a5, a6, a7, a8, a9] st z h Q := ni_T_b rfl rfl
theorem s3_20 : ni_T d 3 20 [a0, a1, a2, a3, a4, a5, a6, a7, a8, a9] st z h Q = ni_T d 3 21 [a0, a1, a2, a3, a4, a5, a6, a7, a8, a9] (.int 0 :: st) z h Q := ni_T_p rfl rfl
theorem s3_21 : ni_T d 3 21 [a0, a1, a2, a3, a4, a5, a6, a7, a8, a9] [.int x] z h Q = Q (some (.int x)) z h := ni_T_i rfl rfl
theorem s3_22 : ni_T d 3 22 [a0, a1, a2, a3, a4, a5, a6, a7, a8, a9] st z h Q = ni_T d 3 25 [a0, a1, a2, a3, a4, a5, a6, a7, a8, a9] (.ref 1002 :: st) z h Q := ni_T_hse rfl rfl rfl rfl
theorem s3_25 : ni_T d 3 25 [a0, a1, a2, .int x, a4, a5, a6, a7, a8, a9] st z h Q = ni_T d 3 26 [a0, a1, a2, .int x, a4, a5, a6, a7, a8, a9] (.int x :: st) z h Q := ni_T_p rfl rfl
theorem s3_26 : ni_T d 3 26 [a0, a1, a2, a3, a4, a5, a6, a7, a8, a9] st z h Q = ni_T d 3 28 [a0, a1, a2, a3, a4, a5, a6, a7, a8, a9] (.int 7 :: st) z h Q := ni_T_p rfl rfl
theorem s3_28 : ni_T d 3 28 [a0, a1, a2, a3, a4, a5, a6, a7, a8, a9] (.int y :: .int x :: st) z h Q = ni_T d 3 29 [a0, a1, a2, a3, a4, a5, a6, a7, a8, a9] (.int (x * y) :: st) z h Q := ni_T_p rfl rfl
theorem s3_29 : ni_T d 3 29 [a0, a1, a2, a3, a4, a5, .int x, a7, a8, a9] st z h Q = ni_T d 3 31 [a0, a1, a2, a3, a4, a5, .int x, a7, a8, a9] (.int x :: st) z h Q := ni_T_p rfl rfl
theorem s3_31 : ni_T d 3 31 [a0, a1, a2, a3, a4, a5, a6, a7, a8, a9] (.int y :: .int x :: st) z h Q = ni_T d 3 32 [a0, a1, a2, a3, a4, a5, a6, a7, a8, a9] (.int (x + y) :: st) z h Q := ni_T_p rfl rfl
theorem s3_32 : ni_T d 3 32 [a0, a1, a2, a3, a4, a5, a6, a7, a8, a9] (.int x :: .ref o :: st) z h Q = (ni_okI (h o) x = true ∧ ni_T d 3 33 [a0, a1, a2, a3, a4, a5, a6, a7, a8, a9] (.int (ni_gi (h o) x) :: st) z h Q) := ni_T_iald rfl
theorem s3_33 : ni_T d 3 33 [a0, a1, a2, a3, a4, a5, a6, a7, a8, a9] (.int x :: st) z h Q = ni_T d 3 35 [a0, a1, a2, a3, a4, a5, ni_kl a6, .int x, a8, a9] st z h Q := ni_T_p rfl rfl
theorem s3_35 : ni_T d 3 35 [.ref o, a1, a2, a3, a4, a5, a6, a7, a8, a9] st z h Q = ni_T d 3 36 [.ref o, a1, a2, a3, a4, a5, a6, a7, a8, a9] (.ref o :: st) z h Q := ni_T_p rfl rfl
theorem s3_36 : ni_T d 3 36 [a0, a1, a2, a3, a4, a5, a6, .int x, a8, a9] st z h Q = ni_T d 3 38 [a0, a1, a2, a3, a4, a5, a6, .int x, a8, a9] (.int x :: st) z h Q := ni_T_p rfl rfl
theorem s3_38 : ni_T (d + 1) 3 38 [a0, a1, a2, a3, a4, a5, a6, a7, a8, a9] (.int x0 :: .ref o :: st) z h Q = (ni_rc (h o) 0 = true ∧ Nat.ble (ni_sw st) 8 = true ∧ ni_T d 5 0 [.ref o, .int x0] [] z h (ni_K (d + 1) 3 41 [a0, a1, a2, a3, a4, a5, a6, a7, a8, a9] st z Q)) := ni_T_ce [.ref o, .int x0] rfl rfl rfl rfl rfl rfl rfl rfl rfl
theorem s3_41 : ni_T d 3 41 [a0, a1, a2, a3, a4, a5, a6, a7, a8, a9] st z h Q = ni_T d 3 44 [a0, a1, a2, a3, a4, a5, a6, a7, a8, a9] (.ref 1001 :: st) z h Q := ni_T_hse rfl rfl rfl rfl
theorem s3_44 : ni_T d 3 44 [a0, a1, a2, a3, a4, a5, .int x, a7, a8, a9] st z h Q = ni_T d 3 46 [a0, a1, a2, a3, a4, a5, .int x, a7, a8, a9] (.int x :: st) z h Q := ni_T_p rfl rfl
theorem s3_46 : ni_T d 3 46 [a0, a1, a2, a3, a4, a5, a6, a7, a8, a9] (.int x :: .ref o :: st) z h Q = (ni_okI (h o) x = true ∧ ni_T d 3 47 [a0, a1, a2, a3, a4, a5, a6, a7, a8, a9] (.int (ni_gi (h o) x) :: st) z h Q) := ni_T_iald rfl
theorem s3_47 : ni_T d 3 47 [a0, a1, a2, a3, a4, a5, a6, a7, a8, a9] (.int x :: st) z h Q = ni_T d 3 49 [a0, a1, a2, a3, a4, a5, a6, ni_kl a7, .int x, a9] st z h Q := ni_T_p rfl rfl
theorem s3_49 : ni_T d 3 49 [a0, a1, a2, a3, a4, .int x, a6, a7, a8, a9] st z h Q = ni_T d 3 51 [a0, a1, a2, a3, a4, .int x, a6, a7, a8, a9] (.int x :: st) z h Q := ni_T_p rfl rfl
theorem s3_51 : ni_T d 3 51 [a0, a1, a2, a3, a4, a5, a6, a7, a8, a9] st z h Q = ni_T d 3 52 [a0, a1, a2, a3, a4, a5, a6, a7, a8, a9] (.int 1 :: st) z h Q := ni_T_p rfl rfl
theorem s3_52 : ni_T d 3 52 [a0, a1, a2, a3, a4, a5, a6, a7, a8, a9] (.int y :: .int x :: st) z h Q = ni_T d 3 53 [a0, a1, a2, a3, a4, a5, a6, a7, a8, a9] (.int (x + y) :: st) z h Q := ni_T_p rfl rfl
theorem s3_53 : ni_T d 3 53 [a0, a1, a2, a3, a4, a5, a6, a7, a8, a9] (.int x :: st) z h Q = ni_T d 3 55 [a0, a1, a2, a3, a4, a5, a6, a7, ni_kl a8, .int x] st z h Q := ni_T_p rfl rfl
theorem s3_55 : ni_T d 3 55 [a0, a1, a2, a3, a4, a5, a6, .int x, a8, a9] st z h Q = ni_T d 3 57 [a0, a1, a2, a3, a4, a5, a6, .int x, a8, a9] (.int x :: st) z h Q := ni_T_p rfl rfl
theorem s3_57_10 : ni_T d 3 57 [a0, a1, a2, a3, a4, a5, a6, a7, a8, a9] (.int 10 :: st) z h Q = ni_T d 3 156 [a0, a1, a2, a3, a4, a5, a6, a7, a8, a9] st z h Q := ni_T_p rfl rfl
theorem s3_57_11 : ni_T d 3 57 [a0, a1, a2, a3, a4, a5, a6, a7, a8, a9] (.int 11 :: st) z h Q = ni_T d 3 164 [a0, a1, a2, a3, a4, a5, a6, a7, a8, a9] st z h Q := ni_T_p rfl rfl
theorem s3_57_12 : ni_T d 3 57 [a0, a1, a2, a3, a4, a5, a6, a7, a8, a9] (.int 12 :: st) z h Q = ni_T d 3 181 [a0, a1, a2, a3, a4, a5, a6, a7, a8, a9] st z h Q := ni_T_p rfl rfl
theorem s3_57_20 : ni_T d 3 57 [a0, a1, a2, a3, a4, a5, a6, a7, a8, a9] (.int 20 :: st) z h Q = ni_T d 3 216 [a0, a1, a2, a3, a4, a5, a6, a7, a8, a9] st z h Q := ni_T_p rfl rfl
theorem s3_57_30 : ni_T d 3 57 [a0, a1, a2, a3, a4, a5, a6, a7, a8, a9] (.int 30 :: st) z h Q = ni_T d 3 234 [a0, a1, a2, a3, a4, a5, a6, a7, a8, a9] st z h Q := ni_T_p rfl rfl
theorem s3_57_40 : ni_T d 3 57 [a0, a1, a2, a3, a4, a5, a6, a7, a8, a9] (.int 40 :: st) z h Q = ni_T d 3 249 [a0, a1, a2, a3, a4, a5, a6, a7, a8, a9] st z h Q := ni_T_p rfl rfl
theorem s3_57_50 : ni_T d 3 57 [a0, a1, a2, a3, a4, a5, a6, a7, a8, a9] (.int 50 :: st) z h Q = ni_T d 3 264 [a0, a1, a2, a3, a4, a5, a6, a7, a8, a9] st z h Q := ni_T_p rfl rfl
theorem s3_57_51 : ni_T d 3 57 [a0, a1, a2, a3, a4, a5, a6, a7, a8, a9] (.int 51 :: st) z h Q = ni_T d 3 278 [a0, a1, a2, a3, a4, a5, a6, a7, a8, a9] st z h Q := ni_T_p rfl rfl
theorem s3_57_60 : ni_T d 3 57 [a0, a1, a2, a3, a4, a5, a6, a7, a8, a9] (.int 60 :: st) z h Q = ni_T d 3 296 [a0, a1, a2, a3, a4, a5, a6, a7, a8, a9] st z h Q := ni_T_p rfl rfl
theorem s3_57_70 : ni_T d 3 57 [a0, a1, a2, a3, a4, a5, a6, a7, a8, a9] (.int 70 :: st) z h Q = ni_T d 3 311 [a0, a1, a2, a3, a4, a5, a6, a7, a8, a9] st z h Q := ni_T_p rfl rfl
theorem s3_57_71 : ni_T d 3 57 [a0, a1, a2, a3, a4, a5, a6, a7, a8, a9] (.int 71 :: st) z h Q = ni_T d 3 326 [a0, a1, a2, a3, a4, a5, a6, a7, a8, a9] st z h Q := ni_T_p rfl rfl
theorem s3_156 : ni_T d 3 156 [a0, a1, a2, a3, .int x, a5, a6, a7, a8, a9] st z h Q = ni_T d 3 158 [a0, a1, a2, a3, .int x, a5, a6, a7, a8, a9] (.int x :: st) z h Q := ni_T_p rfl rfl
theorem s3_158 : ni_T d 3 158 [a0, .ref o, a2, a3, a4, a5, a6, a7, a8, a9] st z h Q = ni_T d 3 159 [a0, .ref o, a2, a3, a4, a5, a6, a7, a8, a9] (.ref o :: st) z h Q := ni_T_p rfl rfl
theorem s3_158N : ni_T d 3 158 [a0, .null, a2, a3, a4, a5, a6, a7, a8, a9] st z h Q = ni_T d 3 159 [a0, .null, a2, a3, a4, a5, a6, a7, a8, a9] (.null :: st) z h Q := ni_T_p rfl rfl
theorem s3_159 : ni_T d 3 159 [a0, a1, a2, a3, a4, a5, a6, a7, a8, a9] (.ref o :: st) z h Q = (ni_is (h o) 1 0 = true ∧ ni_T d 3 162 [a0, a1, a2, a3, a4, a5, a6, a7, a8, a9] (ni_gv (h o) 0 :: st) z h Q) := ni_T_getf rfl
theorem s3_162 : ni_T d 3 162 [a0, a1, a2, a3, a4, a5, a6, a7, a8, a9] (.int y :: .int x :: st) z h Q = ni_T d 3 163 [a0, a1, a2, a3, a4, a5, a6, a7, a8, a9] (.int (x + y) :: st) z h Q := ni_T_p rfl rfl
theorem s3_163 : ni_T d 3 163 [a0, a1, a2, a3, a4, a5, a6, a7, a8, a9] [.int x] z h Q = Q (some (.int x)) z h := ni_T_i rfl rfl
theorem s3_164 : ni_T d 3 164 [.ref o, a1, a2, a3, a4, a5, a6, a7, a8, a9] st z h Q = ni_T d 3 165 [.ref o, a1, a2, a3, a4, a5, a6, a7, a8, a9] (.ref o :: st) z h Q := ni_T_p rfl rfl
theorem s3_165 : ni_T d 3 165 [a0, .ref o, a2, a3, a4, a5, a6, a7, a8, a9] st z h Q = ni_T d 3 166 [a0, .ref o, a2, a3, a4, a5, a6, a7, a8, a9] (.ref o :: st) z h Q := ni_T_p rfl rfl
theorem s3_165N : ni_T d 3 165 [a0, .null, a2, a3, a4, a5, a6, a7, a8, a9] st z h Q = ni_T d 3 166 [a0, .null, a2, a3, a4, a5, a6, a7, a8, a9] (.null :: st) z h Q := ni_T_p rfl rfl
theorem s3_166 : ni_T d 3 166 [a0, .ref o, a2, a3, a4, a5, a6, a7, a8, a9] st z h Q = ni_T d 3 167 [a0, .ref o, a2, a3, a4, a5, a6, a7, a8, a9] (.ref o :: st) z h Q := ni_T_p rfl rfl
theorem s3_166N : ni_T d 3 166 [a0, .null, a2, a3, a4, a5, a6, a7, a8, a9] st z h Q = ni_T d 3 167 [a0, .null, a2, a3, a4, a5, a6, a7, a8, a9] (.null :: st) z h Q := ni_T_p rfl rfl
theorem s3_167 : ni_T d 3 167 [a0, a1, a2, a3, a4, a5, a6, a7, a8, a9] (.ref o :: st) z h Q = (ni_is (h o) 1 1 = true ∧ ni_T d 3 170 [a0, a1, a2, a3, a4, a5, a6, a7, a8, a9] (ni_gv (h o) 1 :: st) z h Q) := ni_T_getf rfl
theorem s3_170 : ni_T d 3 170 [a0, a1, a2, a3, a4, a5, a6, a7, a8, a9] st z h Q = ni_T d 3 171 [a0, a1, a2, a3, a4, a5, a6, a7, a8, a9] (.int 0 :: st) z h Q := ni_T_p rfl rfl
theorem s3_171 : ni_T d 3 171 [a0, a1, a2, a3, .int x, a5, a6, a7, a8, a9] st z h Q = ni_T d 3 173 [a0, a1, a2, a3, .int x, a5, a6, a7, a8, a9] (.int x :: st) z h Q := ni_T_p rfl rfl
theorem s3_173 : ni_T d 3 173 [a0, a1, a2, a3, a4, a5, a6, a7, a8, .int x] st z h Q = ni_T d 3 175 [a0, a1, a2, a3, a4, a5, a6, a7, a8, .int x] (.int x :: st) z h Q := ni_T_p rfl rfl
theorem s3_175 : ni_T (d + 1) 3 175 [a0, a1, a2, a3, a4, a5, a6, a7, a8, a9] (.int x4 :: .int x3 :: .int x2 :: .int x1 :: .ref o20 :: .ref o :: st) z h Q = (ni_rc (h o) 0 = true ∧ Nat.ble (ni_sw st) 8 = true ∧ ni_T d 3 0 [.ref o, .ref o20, .int x1, .int x2, .int x3, .int x4, .retAddr 0, .retAddr 0, .retAddr 0, .retAddr 0] [] z h (ni_K (d + 1) 3 178 [a0, a1, a2, a3, a4, a5, a6, a7, a8, a9] st z Q)) := ni_T_ce [.ref o, .ref o20, .int x1, .int x2, .int x3, .int x4] rfl rfl rfl rfl rfl rfl rfl rfl rfl
theorem s3_175N0 : ni_T (d + 1) 3 175 [a0, a1, a2, a3, a4, a5, a6, a7, a8, a9] (.int x4 :: .int x3 :: .int x2 :: .int x1 :: .null :: .ref o :: st) z h Q = (ni_rc (h o) 0 = true ∧ Nat.ble (ni_sw st) 8 = true ∧ ni_T d 3 0 [.ref o, .null, .int x1, .int x2, .int x3, .int x4, .retAddr 0, .retAddr 0, .retAddr 0, .retAddr 0] [] z h (ni_K (d + 1) 3 178 [a0, a1, a2, a3, a4, a5, a6, a7, a8, a9] st z Q)) := ni_T_ce [.ref o, .null, .int x1, .int x2, .int x3, .int x4] rfl rfl rfl rfl rfl rfl rfl rfl rfl
theorem s3_178 : ni_T d 3 178 [a0, a1, a2, a3, a4, a5, a6, a7, a8, a9] st z h Q = ni_T d 3 179 [a0, a1, a2, a3, a4, a5, a6, a7, a8, a9] (.int 2 :: st) z h Q := ni_T_p rfl rfl
theorem s3_179 : ni_T d 3 179 [a0, a1, a2, a3, a4, a5, a6, a7, a8, a9] (.int y :: .int x :: st) z h Q = ni_T d 3 180 [a0, a1, a2, a3, a4, a5, a6, a7, a8, a9] (.int (x * y) :: st) z h Q := ni_T_p rfl rfl
theorem s3_180 : ni_T d 3 180 [a0, a1, a2, a3, a4, a5, a6, a7, a8, a9] [.int x] z h Q = Q (some (.int x)) z h := ni_T_i rfl rfl
theorem s3_181 : ni_T d 3 181 [.ref o, a1, a2, a3, a4, a5, a6, a7, a8, a9] st z h Q = ni_T d 3 182 [.ref o, a1, a2, a3, a4, a5, a6, a7, a8, a9] (.ref o :: st) z h Q := ni_T_p rfl rfl
theorem s3_182 : ni_T d 3 182 [a0, .ref o, a2, a3, a4, a5, a6, a7, a8, a9] st z h Q = ni_T d 3 183 [a0, .ref o, a2, a3, a4, a5, a6, a7, a8, a9] (.ref o :: st) z h Q := ni_T_p rfl rfl
theorem s3_182N : ni_T d 3 182 [a0, .null, a2, a3, a4, a5, a6, a7, a8, a9] st z h Q = ni_T d 3 183 [a0, .null, a2, a3, a4, a5, a6, a7, a8, a9] (.null :: st) z h Q := ni_T_p rfl rfl
theorem s3_183 : ni_T d 3 183 [a0, .ref o, a2, a3, a4, a5, a6, a7, a8, a9] st z h Q = ni_T d 3 184 [a0, .ref o, a2, a3, a4, a5, a6, a7, a8, a9] (.ref o :: st) z h Q := ni_T_p rfl rfl
theorem s3_183N : ni_T d 3 183 [a0, .null, a2, a3, a4, a5, a6, a7, a8, a9] st z h Q = ni_T d 3 184 [a0, .null, a2, a3, a4, a5, a6, a7, a8, a9] (.null :: st) z h Q := ni_T_p rfl rfl
theorem s3_184 : ni_T d 3 184 [a0, a1, a2, a3, a4, a5, a6, a7, a8, a9] (.ref o :: st) z h Q = (ni_is (h o) 1 1 = true ∧ ni_T d 3 187 [a0, a1, a2, a3, a4, a5, a6, a7, a8, a9] (ni_gv (h o) 1 :: st) z h Q) := ni_T_getf rfl
theorem s3_187 : ni_T d 3 187 [a0, a1, a2, a3, a4, a5, a6, a7, a8, a9] st z h Q = ni_T d 3 188 [a0, a1, a2, a3, a4, a5, a6, a7, a8, a9] (.int 1 :: st) z h Q := ni_T_p rfl rfl
theorem s3_188 : ni_T d 3 188 [a0, a1, a2, a3, .int x, a5, a6, a7, a8, a9] st z h Q = ni_T d 3 190 [a0, a1, a2, a3, .int x, a5, a6, a7, a8, a9] (.int x :: st) z h Q := ni_T_p rfl rfl
theorem s3_190 : ni_T d 3 190 [a0, a1, a2, a3, a4, a5, a6, a7, a8, .int x] st z h Q = ni_T d 3 192 [a0, a1, a2, a3, a4, a5, a6, a7, a8, .int x] (.int x :: st) z h Q := ni_T_p rfl rfl
theorem s3_192 : ni_T (d + 1) 3 192 [a0, a1, a2, a3, a4, a5, a6, a7, a8, a9] (.int x4 :: .int x3 :: .int x2 :: .int x1 :: .ref o20 :: .ref o :: st) z h Q = (ni_rc (h o) 0 = true ∧ Nat.ble (ni_sw st) 8 = true ∧ ni_T d 3 0 [.ref o, .ref o20, .int x1, .int x2, .int x3, .int x4, .retAddr 0, .retAddr 0, .retAddr 0, .retAddr 0] [] z h (ni_K (d + 1) 3 195 [a0, a1, a2, a3, a4, a5, a6, a7, a8, a9] st z Q)) := ni_T_ce [.ref o, .ref o20, .int x1, .int x2, .int x3, .int x4] rfl rfl rfl rfl rfl rfl rfl rfl rfl
theorem s3_192N0 : ni_T (d + 1) 3 192 [a0, a1, a2, a3, a4, a5, a6, a7, a8, a9] (.int x4 :: .int x3 :: .int x2 :: .int x1 :: .null :: .ref o :: st) z h Q = (ni_rc (h o) 0 = true ∧ Nat.ble (ni_sw st) 8 = true ∧ ni_T d 3 0 [.ref o, .null, .int x1, .int x2, .int x3, .int x4, .retAddr 0, .retAddr 0, .retAddr 0, .retAddr 0] [] z h (ni_K (d + 1) 3 195 [a0, a1, a2, a3, a4, a5, a6, a7, a8, a9] st z Q)) := ni_T_ce [.ref o, .null, .int x1, .int x2, .int x3, .int x4] rfl rfl rfl rfl rfl rfl rfl rfl rfl
theorem s3_195 : ni_T d 3 195 [.ref o, a1, a2, a3, a4, a5, a6, a7, a8, a9] st z h Q = ni_T d 3 196 [.ref o, a1, a2, a3, a4, a5, a6, a7, a8, a9] (.ref o :: st) z h Q := ni_T_p rfl rfl
theorem s3_196 : ni_T d 3 196 [a0, .ref o, a2, a3, a4, a5, a6, a7, a8, a9] st z h Q = ni_T d 3 197 [a0, .ref o, a2, a3, a4, a5, a6, a7, a8, a9] (.ref o :: st) z h Q := ni_T_p rfl rfl
theorem s3_196N : ni_T d 3 196 [a0, .null, a2, a3, a4, a5, a6, a7, a8, a9] st z h Q = ni_T d 3 197 [a0, .null, a2, a3, a4, a5, a6, a7, a8, a9] (.null :: st) z h Q := ni_T_p rfl rfl
theorem s3_197 : ni_T d 3 197 [a0, .ref o, a2, a3, a4, a5, a6, a7, a8, a9] st z h Q = ni_T d 3 198 [a0, .ref o, a2, a3, a4, a5, a6, a7, a8, a9] (.ref o :: st) z h Q := ni_T_p rfl rfl
theorem s3_197N : ni_T d 3 197 [a0, .null, a2, a3, a4, a5, a6, a7, a8, a9] st z h Q = ni_T d 3 198 [a0, .null, a2, a3, a4, a5, a6, a7, a8, a9] (.null :: st) z h Q := ni_T_p rfl rfl
theorem s3_198 : ni_T d 3 198 [a0, a1, a2, a3, a4, a5, a6, a7, a8, a9] (.ref o :: st) z h Q = (ni_is (h o) 1 1 = true ∧ ni_T d 3 201 [a0, a1, a2, a3, a4, a5, a6, a7, a8, a9] (ni_gv (h o) 1 :: st) z h Q) := ni_T_getf rfl
theorem s3_201 : ni_T d 3 201 [a0, a1, a2, a3, a4, a5, a6, a7, a8, a9] st z h Q = ni_T d 3 202 [a0, a1, a2, a3, a4, a5, a6, a7, a8, a9] (.int 0 :: st) z h Q := ni_T_p rfl rfl
theorem s3_202 : ni_T d 3 202 [a0, a1, a2, a3, .int x, a5, a6, a7, a8, a9] st z h Q = ni_T d 3 204 [a0, a1, a2, a3, .int x, a5, a6, a7, a8, a9] (.int x :: st) z h Q := ni_T_p rfl rfl
theorem s3_204 : ni_T d 3 204 [a0, .ref o, a2, a3, a4, a5, a6, a7, a8, a9] st z h Q = ni_T d 3 205 [a0, .ref o, a2, a3, a4, a5, a6, a7, a8, a9] (.ref o :: st) z h Q := ni_T_p rfl rfl
theorem s3_204N : ni_T d 3 204 [a0, .null, a2, a3, a4, a5, a6, a7, a8, a9] st z h Q = ni_T d 3 205 [a0, .null, a2, a3, a4, a5, a6, a7, a8, a9] (.null :: st) z h Q := ni_T_p rfl rfl
theorem s3_205 : ni_T d 3 205 [a0, a1, a2, a3, a4, a5, a6, a7, a8, a9] (.ref o :: st) z h Q = (ni_is (h o) 1 2 = true ∧ ni_T d 3 208 [a0, a1, a2, a3, a4, a5, a6, a7, a8, a9] (ni_gv (h o) 2 :: st) z h Q) := ni_T_getf rfl
theorem s3_208 : ni_T d 3 208 [a0, a1, a2, a3, a4, a5, a6, a7, a8, a9] (.int y :: .int x :: st) z h Q = ni_T d 3 209 [a0, a1, a2, a3, a4, a5, a6, a7, a8, a9] (.int (x - y) :: st) z h Q := ni_T_p rfl rfl
theorem s3_209 : ni_T d 3 209 [a0, a1, a2, a3, a4, a5, a6, a7, a8, .int x] st z h Q = ni_T d 3 211 [a0, a1, a2, a3, a4, a5, a6, a7, a8, .int x] (.int x :: st) z h Q := ni_T_p rfl rfl
theorem s3_211 : ni_T (d + 1) 3 211 [a0, a1, a2, a3, a4, a5, a6, a7, a8, a9] (.int x4 :: .int x3 :: .int x2 :: .int x1 :: .ref o20 :: .ref o :: st) z h Q = (ni_rc (h o) 0 = true ∧ Nat.ble (ni_sw st) 8 = true ∧ ni_T d 3 0 [.ref o, .ref o20, .int x1, .int x2, .int x3, .int x4, .retAddr 0, .retAddr 0, .retAddr 0, .retAddr 0] [] z h (ni_K (d + 1) 3 214 [a0, a1, a2, a3, a4, a5, a6, a7, a8, a9] st z Q)) := ni_T_ce [.ref o, .ref o20, .int x1, .int x2, .int x3, .int x4] rfl rfl rfl rfl rfl rfl rfl rfl rfl
theorem s3_211N0 : ni_T (d + 1) 3 211 [a0, a1, a2, a3, a4, a5, a6, a7, a8, a9] (.int x4 :: .int x3 :: .int x2 :: .int x1 :: .null :: .ref o :: st) z h Q = (ni_rc (h o) 0 = true ∧ Nat.ble (ni_sw st) 8 = true ∧ ni_T d 3 0 [.ref o, .null, .int x1, .int x2, .int x3, .int x4, .retAddr 0, .retAddr 0, .retAddr 0, .retAddr 0] [] z h (ni_K (d + 1) 3 214 [a0, a1, a2, a3, a4, a5, a6, a7, a8, a9] st z Q)) := ni_T_ce [.ref o, .null, .int x1, .int x2, .int x3, .int x4] rfl rfl rfl rfl rfl rfl rfl rfl rfl
theorem s3_214 : ni_T d 3 214 [a0, a1, a2, a3, a4, a5, a6, a7, a8, a9] (.int y :: .int x :: st) z h Q = ni_T d 3 215 [a0, a1, a2, a3, a4, a5, a6, a7, a8, a9] (.int (x ^^^ y) :: st) z h Q := ni_T_p rfl rfl
theorem s3_215 : ni_T d 3 215 [a0, a1, a2, a3, a4, a5, a6, a7, a8, a9] [.int x] z h Q = Q (some (.int x)) z h := ni_T_i rfl rfl
theorem s3_216 : ni_T d 3 216 [.ref o, a1, a2, a3, a4, a5, a6, a7, a8, a9] st z h Q = ni_T d 3 217 [.ref o, a1, a2, a3, a4, a5, a6, a7, a8, a9] (.ref o :: st) z h Q := ni_T_p rfl rfl
theorem s3_217 : ni_T d 3 217 [a0, .ref o, a2, a3, a4, a5, a6, a7, a8, a9] st z h Q = ni_T d 3 218 [a0, .ref o, a2, a3, a4, a5, a6, a7, a8, a9] (.ref o :: st) z h Q := ni_T_p rfl rfl
theorem s3_217N : ni_T d 3 217 [a0, .null, a2, a3, a4, a5, a6, a7, a8, a9] st z h Q = ni_T d 3 218 [a0, .null, a2, a3, a4, a5, a6, a7, a8, a9] (.null :: st) z h Q := ni_T_p rfl rfl
theorem s3_218 : ni_T d 3 218 [a0, a1, a2, a3, a4, a5, a6, a7, .int x, a9] st z h Q = ni_T d 3 220 [a0, a1, a2, a3, a4, a5, a6, a7, .int x, a9] (.int x :: st) z h Q := ni_T_p rfl rfl
theorem s3_220 : ni_T d 3 220 [a0, a1, a2, a3, a4, a5, a6, a7, a8, a9] st z h Q = ni_T d 3 221 [a0, a1, a2, a3, a4, a5, a6, a7, a8, a9] (.int 0 :: st) z h Q := ni_T_p rfl rfl
theorem s3_221 : ni_T d 3 221 [a0, a1, a2, a3, .int x, a5, a6, a7, a8, a9] st z h Q = ni_T d 3 223 [a0, a1, a2, a3, .int x, a5, a6, a7, a8, a9] (.int x :: st) z h Q := ni_T_p rfl rfl
theorem s3_223 : ni_T d 3 223 [a0, a1, a2, a3, a4, a5, a6, a7, a8, .int x] st z h Q = ni_T d 3 225 [a0, a1, a2, a3, a4, a5, a6, a7, a8, .int x] (.int x :: st) z h Q := ni_T_p rfl rfl
theorem s3_225 : ni_T (d + 1) 3 225 [a0, a1, a2, a3, a4, a5, a6, a7, a8, a9] (.int x4 :: .int x3 :: .int x2 :: .int x1 :: .ref o20 :: .ref o :: st) z h Q = (ni_rc (h o) 0 = true ∧ Nat.ble (ni_sw st) 8 = true ∧ ni_T d 3 0 [.ref o, .ref o20, .int x1, .int x2, .int x3, .int x4, .retAddr 0, .retAddr 0, .retAddr 0, .retAddr 0] [] z h (ni_K (d + 1) 3 228 [a0, a1, a2, a3, a4, a5, a6, a7, a8, a9] st z Q)) := ni_T_ce [.ref o, .ref o20, .int x1, .int x2, .int x3, .int x4] rfl rfl rfl rfl rfl rfl rfl rfl rfl
theorem s3_225N0 : ni_T (d + 1) 3 225 [a0, a1, a2, a3, a4, a5, a6, a7, a8, a9] (.int x4 :: .int x3 :: .int x2 :: .int x1 :: .null :: .ref o :: st) z h Q = (ni_rc (h o) 0 = true ∧ Nat.ble (ni_sw st) 8 = true ∧ ni_T d 3 0 [.ref o, .null, .int x1, .int x2, .int x3, .int x4, .retAddr 0, .retAddr 0, .retAddr 0, .retAddr 0] [] z h (ni_K (d + 1) 3 228 [a0, a1, a2, a3, a4, a5, a6, a7, a8, a9] st z Q)) := ni_T_ce [.ref o, .null, .int x1, .int x2, .int x3, .int x4] rfl rfl rfl rfl rfl rfl rfl rfl rfl
theorem s3_228 : ni_T d 3 228 [a0, .ref o, a2, a3, a4, a5, a6, a7, a8, a9] st z h Q = ni_T d 3 229 [a0, .ref o, a2, a3, a4, a5, a6, a7, a8, a9] (.ref o :: st) z h Q := ni_T_p rfl rfl
theorem s3_228N : ni_T d 3 228 [a0, .null, a2, a3, a4, a5, a6, a7, a8, a9] st z h Q = ni_T d 3 229 [a0, .null, a2, a3, a4, a5, a6, a7, a8, a9] (.null :: st) z h Q := ni_T_p rfl rfl
theorem s3_229 : ni_T d 3 229 [a0, a1, a2, a3, a4, a5, a6, a7, a8, a9] (.ref o :: st) z h Q = (ni_is (h o) 1 2 = true ∧ ni_T d 3 232 [a0, a1, a2, a3, a4, a5, a6, a7, a8, a9] (ni_gv (h o) 2 :: st) z h Q) := ni_T_getf rfl
theorem s3_232 : ni_T d 3 232 [a0, a1, a2, a3, a4, a5, a6, a7, a8, a9] (.int y :: .int x :: st) z h Q = ni_T d 3 233 [a0, a1, a2, a3, a4, a5, a6, a7, a8, a9] (.int (x + y) :: st) z h Q := ni_T_p rfl rfl
theorem s3_233 : ni_T d 3 233 [a0, a1, a2, a3, a4, a5, a6, a7, a8, a9] [.int x] z h Q = Q (some (.int x)) z h := ni_T_i rfl rfl
theorem s3_234 : ni_T d 3 234 [.ref o, a1, a2, a3, a4, a5, a6, a7, a8, a9] st z h Q = ni_T d 3 235 [.ref o, a1, a2, a3, a4, a5, a6, a7, a8, a9] (.ref o :: st) z h Q := ni_T_p rfl rfl
theorem s3_235 : ni_T d 3 235 [a0, .ref o, a2, a3, a4, a5, a6, a7, a8, a9] st z h Q = ni_T d 3 236 [a0, .ref o, a2, a3, a4, a5, a6, a7, a8, a9] (.ref o :: st) z h Q := ni_T_p rfl rfl
theorem s3_235N : ni_T d 3 235 [a0, .null, a2, a3, a4, a5, a6, a7, a8, a9] st z h Q = ni_T d 3 236 [a0, .null, a2, a3, a4, a5, a6, a7, a8, a9] (.null :: st) z h Q := ni_T_p rfl rfl
theorem s3_236 : ni_T d 3 236 [a0, a1, a2, a3, a4, a5, a6, a7, .int x, a9] st z h Q = ni_T d 3 238 [a0, a1, a2, a3, a4, a5, a6, a7, .int x, a9] (.int x :: st) z h Q := ni_T_p rfl rfl
theorem s3_238 : ni_T d 3 238 [a0, a1, a2, a3, a4, a5, a6, a7, a8, a9] st z h Q = ni_T d 3 239 [a0, a1, a2, a3, a4, a5, a6, a7, a8, a9] (.int 1 :: st) z h Q := ni_T_p rfl rfl
theorem s3_239 : ni_T d 3 239 [a0, a1, a2, a3, .int x, a5, a6, a7, a8, a9] st z h Q = ni_T d 3 241 [a0, a1, a2, a3, .int x, a5, a6, a7, a8, a9] (.int x :: st) z h Q := ni_T_p rfl rfl
theorem s3_241 : ni_T d 3 241 [a0, a1, a2, a3, a4, a5, a6, a7, a8, .int x] st z h Q = ni_T d 3 243 [a0, a1, a2, a3, a4, a5, a6, a7, a8, .int x] (.int x :: st) z h Q := ni_T_p rfl rfl
theorem s3_243 : ni_T (d + 1) 3 243 [a0, a1, a2, a3, a4, a5, a6, a7, a8, a9] (.int x4 :: .int x3 :: .int x2 :: .int x1 :: .ref o20 :: .ref o :: st) z h Q = (ni_rc (h o) 0 = true ∧ Nat.ble (ni_sw st) 8 = true ∧ ni_T d 3 0 [.ref o, .ref o20, .int x1, .int x2, .int x3, .int x4, .retAddr 0, .retAddr 0, .retAddr 0, .retAddr 0] [] z h (ni_K (d + 1) 3 246 [a0, a1, a2, a3, a4, a5, a6, a7, a8, a9] st z Q)) := ni_T_ce [.ref o, .ref o20, .int x1, .int x2, .int x3, .int x4] rfl rfl rfl rfl rfl rfl rfl rfl rfl
theorem s3_243N0 : ni_T (d + 1) 3 243 [a0, a1, a2, a3, a4, a5, a6, a7, a8, a9] (.int x4 :: .int x3 :: .int x2 :: .int x1 :: .null :: .ref o :: st) z h Q = (ni_rc (h o) 0 = true ∧ Nat.ble (ni_sw st) 8 = true ∧ ni_T d 3 0 [.ref o, .null, .int x1, .int x2, .int x3, .int x4, .retAddr 0, .retAddr 0, .retAddr 0, .retAddr 0] [] z h (ni_K (d + 1) 3 246 [a0, a1, a2, a3, a4, a5, a6, a7, a8, a9] st z Q)) := ni_T_ce [.ref o, .null, .int x1, .int x2, .int x3, .int x4] rfl rfl rfl rfl rfl rfl rfl rfl rfl
theorem s3_246 : ni_T d 3 246 [a0, a1, a2, a3, a4, a5, a6, a7, a8, a9] st z h Q = ni_T d 3 247 [a0, a1, a2, a3, a4, a5, a6, a7, a8, a9] (.int 3 :: st) z h Q := ni_T_p rfl rfl
theorem s3_247 : ni_T d 3 247 [a0, a1, a2, a3, a4, a5, a6, a7, a8, a9] (.int y :: .int x :: st) z h Q = ni_T d 3 248 [a0, a1, a2, a3, a4, a5, a6, a7, a8, a9] (.int (x * y) :: st) z h Q := ni_T_p rfl rfl
theorem s3_248 : ni_T d 3 248 [a0, a1, a2, a3, a4, a5, a6, a7, a8, a9] [.int x] z h Q = Q (some (.int x)) z h := ni_T_i rfl rfl
theorem s3_249 : ni_T d 3 249 [.ref o, a1, a2, a3, a4, a5, a6, a7, a8, a9] st z h Q = ni_T d 3 250 [.ref o, a1, a2, a3, a4, a5, a6, a7, a8, a9] (.ref o :: st) z h Q := ni_T_p rfl rfl
theorem s3_250 : ni_T d 3 250 [a0, .ref o, a2, a3, a4, a5, a6, a7, a8, a9] st z h Q = ni_T d 3 251 [a0, .ref o, a2, a3, a4, a5, a6, a7, a8, a9] (.ref o :: st) z h Q := ni_T_p rfl rfl
theorem s3_250N : ni_T d 3 250 [a0, .null, a2, a3, a4, a5, a6, a7, a8, a9] st z h Q = ni_T d 3 251 [a0, .null, a2, a3, a4, a5, a6, a7, a8, a9] (.null :: st) z h Q := ni_T_p rfl rfl
theorem s3_251 : ni_T d 3 251 [a0, a1, a2, a3, a4, a5, a6, a7, .int x, a9] st z h Q = ni_T d 3 253 [a0, a1, a2, a3, a4, a5, a6, a7, .int x, a9] (.int x :: st) z h Q := ni_T_p rfl rfl
theorem s3_253 : ni_T d 3 253 [a0, a1, a2, a3, a4, a5, a6, a7, a8, a9] st z h Q = ni_T d 3 254 [a0, a1, a2, a3, a4, a5, a6, a7, a8, a9] (.int 1 :: st) z h Q := ni_T_p rfl rfl
theorem s3_254 : ni_T d 3 254 [a0, a1, a2, a3, .int x, a5, a6, a7, a8, a9] st z h Q = ni_T d 3 256 [a0, a1, a2, a3, .int x, a5, a6, a7, a8, a9] (.int x :: st) z h Q := ni_T_p rfl rfl
theorem s3_256 : ni_T d 3 256 [a0, a1, a2, a3, a4, a5, a6, a7, a8, a9] st z h Q = ni_T d 3 257 [a0, a1, a2, a3, a4, a5, a6, a7, a8, a9] (.int 1 :: st) z h Q := ni_T_p rfl rfl
theorem s3_257 : ni_T d 3 257 [a0, a1, a2, a3, a4, a5, a6, a7, a8, a9] (.int y :: .int x :: st) z h Q = ni_T d 3 258 [a0, a1, a2, a3, a4, a5, a6, a7, a8, a9] (.int (x + y) :: st) z h Q := ni_T_p rfl rfl
theorem s3_258 : ni_T d 3 258 [a0, a1, a2, a3, a4, a5, a6, a7, a8, .int x] st z h Q = ni_T d 3 260 [a0, a1, a2, a3, a4, a5, a6, a7, a8, .int x] (.int x :: st) z h Q := ni_T_p rfl rfl
theorem s3_260 : ni_T (d + 1) 3 260 [a0, a1, a2, a3, a4, a5, a6, a7, a8, a9] (.int x4 :: .int x3 :: .int x2 :: .int x1 :: .ref o20 :: .ref o :: st) z h Q = (ni_rc (h o) 0 = true ∧ Nat.ble (ni_sw st) 8 = true ∧ ni_T d 3 0 [.ref o, .ref o20, .int x1, .int x2, .int x3, .int x4, .retAddr 0, .retAddr 0, .retAddr 0, .retAddr 0] [] z h (ni_K (d + 1) 3 263 [a0, a1, a2, a3, a4, a5, a6, a7, a8, a9] st z Q)) := ni_T_ce [.ref o, .ref o20, .int x1, .int x2, .int x3, .int x4] rfl rfl rfl rfl rfl rfl rfl rfl rfl
theorem s3_260N0 : ni_T (d + 1) 3 260 [a0, a1, a2, a3, a4, a5, a6, a7, a8, a9] (.int x4 :: .int x3 :: .int x2 :: .int x1 :: .null :: .ref o :: st) z h Q = (ni_rc (h o) 0 = true ∧ Nat.ble (ni_sw st) 8 = true ∧ ni_T d 3 0 [.ref o, .null, .int x1, .int x2, .int x3, .int x4, .retAddr 0, .retAddr 0, .retAddr 0, .retAddr 0] [] z h (ni_K (d + 1) 3 263 [a0, a1, a2, a3, a4, a5, a6, a7, a8, a9] st z Q)) := ni_T_ce [.ref o, .null, .int x1, .int x2, .int x3, .int x4] rfl rfl rfl rfl rfl rfl rfl rfl rfl
theorem s3_263 : ni_T d 3 263 [a0, a1, a2, a3, a4, a5, a6, a7, a8, a9] [.int x] z h Q = Q (some (.int x)) z h := ni_T_i rfl rfl
theorem s3_264 : ni_T d 3 264 [.ref o, a1, a2, a3, a4, a5, a6, a7, a8, a9] st z h Q = ni_T d 3 265 [.ref o, a1, a2, a3, a4, a5, a6, a7, a8, a9] (.ref o :: st) z h Q := ni_T_p rfl rfl
theorem s3_265 : ni_T d 3 265 [a0, .ref o, a2, a3, a4, a5, a6, a7, a8, a9] st z h Q = ni_T d 3 266 [a0, .ref o, a2, a3, a4, a5, a6, a7, a8, a9] (.ref o :: st) z h Q := ni_T_p rfl rfl
theorem s3_265N : ni_T d 3 265 [a0, .null, a2, a3, a4, a5, a6, a7, a8, a9] st z h Q = ni_T d 3 266 [a0, .null, a2, a3, a4, a5, a6, a7, a8, a9] (.null :: st) z h Q := ni_T_p rfl rfl
theorem s3_266 : ni_T d 3 266 [a0, a1, a2, a3, a4, a5, a6, a7, .int x, a9] st z h Q = ni_T d 3 268 [a0, a1, a2, a3, a4, a5, a6, a7, .int x, a9] (.int x :: st) z h Q := ni_T_p rfl rfl
theorem s3_268 : ni_T d 3 268 [a0, a1, a2, a3, a4, a5, a6, a7, a8, a9] st z h Q = ni_T d 3 269 [a0, a1, a2, a3, a4, a5, a6, a7, a8, a9] (.int 2 :: st) z h Q := ni_T_p rfl rfl
theorem s3_269 : ni_T d 3 269 [a0, a1, a2, a3, .int x, a5, a6, a7, a8, a9] st z h Q = ni_T d 3 271 [a0, a1, a2, a3, .int x, a5, a6, a7, a8, a9] (.int x :: st) z h Q := ni_T_p rfl rfl
theorem s3_271 : ni_T d 3 271 [a0, a1, a2, a3, a4, a5, a6, a7, a8, .int x] st z h Q = ni_T d 3 273 [a0, a1, a2, a3, a4, a5, a6, a7, a8, .int x] (.int x :: st) z h Q := ni_T_p rfl rfl
theorem s3_273 : ni_T (d + 1) 3 273 [a0, a1, a2, a3, a4, a5, a6, a7, a8, a9] (.int x4 :: .int x3 :: .int x2 :: .int x1 :: .ref o20 :: .ref o :: st) z h Q = (ni_rc (h o) 0 = true ∧ Nat.ble (ni_sw st) 8 = true ∧ ni_T d 3 0 [.ref o, .ref o20, .int x1, .int x2, .int x3, .int x4, .retAddr 0, .retAddr 0, .retAddr 0, .retAddr 0] [] z h (ni_K (d + 1) 3 276 [a0, a1, a2, a3, a4, a5, a6, a7, a8, a9] st z Q)) := ni_T_ce [.ref o, .ref o20, .int x1, .int x2, .int x3, .int x4] rfl rfl rfl rfl rfl rfl rfl rfl rfl
theorem s3_273N0 : ni_T (d + 1) 3 273 [a0, a1, a2, a3, a4, a5, a6, a7, a8, a9] (.int x4 :: .int x3 :: .int x2 :: .int x1 :: .null :: .ref o :: st) z h Q = (ni_rc (h o) 0 = true ∧ Nat.ble (ni_sw st) 8 = true ∧ ni_T d 3 0 [.ref o, .null, .int x1, .int x2, .int x3, .int x4, .retAddr 0, .retAddr 0, .retAddr 0, .retAddr 0] [] z h (ni_K (d + 1) 3 276 [a0, a1, a2, a3, a4, a5, a6, a7, a8, a9] st z Q)) := ni_T_ce [.ref o, .null, .int x1, .int x2, .int x3, .int x4] rfl rfl rfl rfl rfl rfl rfl rfl rfl
theorem s3_276 : ni_T d 3 276 [a0, a1, a2, a3, a4, a5, a6, a7, a8, a9] (.int x :: st) z h Q = ni_T d 3 277 [a0, a1, a2, a3, a4, a5, a6, a7, a8, a9] (.int (-x) :: st) z h Q := ni_T_p rfl rfl
theorem s3_277 : ni_T d 3 277 [a0, a1, a2, a3, a4, a5, a6, a7, a8, a9] [.int x] z h Q = Q (some (.int x)) z h := ni_T_i rfl rfl
theorem s3_278 : ni_T d 3 278 [.ref o, a1, a2, a3, a4, a5, a6, a7, a8, a9] st z h Q = ni_T d 3 279 [.ref o, a1, a2, a3, a4, a5, a6, a7, a8, a9] (.ref o :: st) z h Q := ni_T_p rfl rfl
theorem s3_279 : ni_T d 3 279 [a0, .ref o, a2, a3, a4, a5, a6, a7, a8, a9] st z h Q = ni_T d 3 280 [a0, .ref o, a2, a3, a4, a5, a6, a7, a8, a9] (.ref o :: st) z h Q := ni_T_p rfl rfl
theorem s3_279N : ni_T d 3 279 [a0, .null, a2, a3, a4, a5, a6, a7, a8, a9] st z h Q = ni_T d 3 280 [a0, .null, a2, a3, a4, a5, a6, a7, a8, a9] (.null :: st) z h Q := ni_T_p rfl rfl
theorem s3_280 : ni_T d 3 280 [a0, a1, a2, a3, a4, a5, a6, a7, .int x, a9] st z h Q = ni_T d 3 282 [a0, a1, a2, a3, a4, a5, a6, a7, .int x, a9] (.int x :: st) z h Q := ni_T_p rfl rfl
theorem s3_282 : ni_T d 3 282 [a0, a1, a2, a3, a4, a5, a6, a7, a8, a9] st z h Q = ni_T d 3 283 [a0, a1, a2, a3, a4, a5, a6, a7, a8, a9] (.int 0 :: st) z h Q := ni_T_p rfl rfl
theorem s3_283 : ni_T d 3 283 [a0, a1, a2, a3, .int x, a5, a6, a7, a8, a9] st z h Q = ni_T d 3 285 [a0, a1, a2, a3, .int x, a5, a6, a7, a8, a9] (.int x :: st) z h Q := ni_T_p rfl rfl
theorem s3_285 : ni_T d 3 285 [a0, a1, a2, a3, a4, a5, a6, a7, a8, .int x] st z h Q = ni_T d 3 287 [a0, a1, a2, a3, a4, a5, a6, a7, a8, .int x] (.int x :: st) z h Q := ni_T_p rfl rfl
theorem s3_287 : ni_T (d + 1) 3 287 [a0, a1, a2, a3, a4, a5, a6, a7, a8, a9] (.int x4 :: .int x3 :: .int x2 :: .int x1 :: .ref o20 :: .ref o :: st) z h Q = (ni_rc (h o) 0 = true ∧ Nat.ble (ni_sw st) 8 = true ∧ ni_T d 3 0 [.ref o, .ref o20, .int x1, .int x2, .int x3, .int x4, .retAddr 0, .retAddr 0, .retAddr 0, .retAddr 0] [] z h (ni_K (d + 1) 3 290 [a0, a1, a2, a3, a4, a5, a6, a7, a8, a9] st z Q)) := ni_T_ce [.ref o, .ref o20, .int x1, .int x2, .int x3, .int x4] rfl rfl rfl rfl rfl rfl rfl rfl rfl
theorem s3_287N0 : ni_T (d + 1) 3 287 [a0, a1, a2, a3, a4, a5, a6, a7, a8, a9] (.int x4 :: .int x3 :: .int x2 :: .int x1 :: .null :: .ref o :: st) z h Q = (ni_rc (h o) 0 = true ∧ Nat.ble (ni_sw st) 8 = true ∧ ni_T d 3 0 [.ref o, .null, .int x1, .int x2, .int x3, .int x4, .retAddr 0, .retAddr 0, .retAddr 0, .retAddr 0] [] z h (ni_K (d + 1) 3 290 [a0, a1, a2, a3, a4, a5, a6, a7, a8, a9] st z Q)) := ni_T_ce [.ref o, .null, .int x1, .int x2, .int x3, .int x4] rfl rfl rfl rfl rfl rfl rfl rfl rfl
theorem s3_290 : ni_T d 3 290 [a0, .ref o, a2, a3, a4, a5, a6, a7, a8, a9] st z h Q = ni_T d 3 291 [a0, .ref o, a2, a3, a4, a5, a6, a7, a8, a9] (.ref o :: st) z h Q := ni_T_p rfl rfl
theorem s3_290N : ni_T d 3 290 [a0, .null, a2, a3, a4, a5, a6, a7, a8, a9] st z h Q = ni_T d 3 291 [a0, .null, a2, a3, a4, a5, a6, a7, a8, a9] (.null :: st) z h Q := ni_T_p rfl rfl
theorem s3_291 : ni_T d 3 291 [a0, a1, a2, a3, a4, a5, a6, a7, a8, a9] (.ref o :: st) z h Q = (ni_is (h o) 1 0 = true ∧ ni_T d 3 294 [a0, a1, a2, a3, a4, a5, a6, a7, a8, a9] (ni_gv (h o) 0 :: st) z h Q) := ni_T_getf rfl
theorem s3_294 : ni_T d 3 294 [a0, a1, a2, a3, a4, a5, a6, a7, a8, a9] (.int y :: .int x :: st) z h Q = ni_T d 3 295 [a0, a1, a2, a3, a4, a5, a6, a7, a8, a9] (.int (x - y) :: st) z h Q := ni_T_p rfl rfl
theorem s3_295 : ni_T d 3 295 [a0, a1, a2, a3, a4, a5, a6, a7, a8, a9] [.int x] z h Q = Q (some (.int x)) z h := ni_T_i rfl rfl
theorem s3_296 : ni_T d 3 296 [.ref o, a1, a2, a3, a4, a5, a6, a7, a8, a9] st z h Q = ni_T d 3 297 [.ref o, a1, a2, a3, a4, a5, a6, a7, a8, a9] (.ref o :: st) z h Q := ni_T_p rfl rfl
theorem s3_297 : ni_T d 3 297 [a0, .ref o, a2, a3, a4, a5, a6, a7, a8, a9] st z h Q = ni_T d 3 298 [a0, .ref o, a2, a3, a4, a5, a6, a7, a8, a9] (.ref o :: st) z h Q := ni_T_p rfl rfl
theorem s3_297N : ni_T d 3 297 [a0, .null, a2, a3, a4, a5, a6, a7, a8, a9] st z h Q = ni_T d 3 298 [a0, .null, a2, a3, a4, a5, a6, a7, a8, a9] (.null :: st) z h Q := ni_T_p rfl rfl
theorem s3_298 : ni_T d 3 298 [a0, a1, a2, a3, a4, a5, a6, a7, .int x, a9] st z h Q = ni_T d 3 300 [a0, a1, a2, a3, a4, a5, a6, a7, .int x, a9] (.int x :: st) z h Q := ni_T_p rfl rfl
theorem s3_300 : ni_T d 3 300 [a0, a1, a2, a3, a4, a5, a6, a7, a8, a9] st z h Q = ni_T d 3 301 [a0, a1, a2, a3, a4, a5, a6, a7, a8, a9] (.int 2 :: st) z h Q := ni_T_p rfl rfl
theorem s3_301 : ni_T d 3 301 [a0, a1, a2, a3, .int x, a5, a6, a7, a8, a9] st z h Q = ni_T d 3 303 [a0, a1, a2, a3, .int x, a5, a6, a7, a8, a9] (.int x :: st) z h Q := ni_T_p rfl rfl
theorem s3_303 : ni_T d 3 303 [a0, a1, a2, a3, a4, a5, a6, a7, a8, .int x] st z h Q = ni_T d 3 305 [a0, a1, a2, a3, a4, a5, a6, a7, a8, .int x] (.int x :: st) z h Q := ni_T_p rfl rfl
theorem s3_305 : ni_T (d + 1) 3 305 [a0, a1, a2, a3, a4, a5, a6, a7, a8, a9] (.int x4 :: .int x3 :: .int x2 :: .int x1 :: .ref o20 :: .ref o :: st) z h Q = (ni_rc (h o) 0 = true ∧ Nat.ble (ni_sw st) 8 = true ∧ ni_T d 3 0 [.ref o, .ref o20, .int x1, .int x2, .int x3, .int x4, .retAddr 0, .retAddr 0, .retAddr 0, .retAddr 0] [] z h (ni_K (d + 1) 3 308 [a0, a1, a2, a3, a4, a5, a6, a7, a8, a9] st z Q)) := ni_T_ce [.ref o, .ref o20, .int x1, .int x2, .int x3, .int x4] rfl rfl rfl rfl rfl rfl rfl rfl rfl
theorem s3_305N0 : ni_T (d + 1) 3 305 [a0, a1, a2, a3, a4, a5, a6, a7, a8, a9] (.int x4 :: .int x3 :: .int x2 :: .int x1 :: .null :: .ref o :: st) z h Q = (ni_rc (h o) 0 = true ∧ Nat.ble (ni_sw st) 8 = true ∧ ni_T d 3 0 [.ref o, .null, .int x1, .int x2, .int x3, .int x4, .retAddr 0, .retAddr 0, .retAddr 0, .retAddr 0] [] z h (ni_K (d + 1) 3 308 [a0, a1, a2, a3, a4, a5, a6, a7, a8, a9] st z Q)) := ni_T_ce [.ref o, .null, .int x1, .int x2, .int x3, .int x4] rfl rfl rfl rfl rfl rfl rfl rfl rfl
theorem s3_308 : ni_T d 3 308 [a0, a1, a2, a3, a4, a5, a6, a7, a8, a9] st z h Q = ni_T d 3 309 [a0, a1, a2, a3, a4, a5, a6, a7, a8, a9] (.int 5 :: st) z h Q := ni_T_p rfl rfl
theorem s3_309 : ni_T d 3 309 [a0, a1, a2, a3, a4, a5, a6, a7, a8, a9] (.int y :: .int x :: st) z h Q = ni_T d 3 310 [a0, a1, a2, a3, a4, a5, a6, a7, a8, a9] (.int (x ^^^ y) :: st) z h Q := ni_T_p rfl rfl
theorem s3_310 : ni_T d 3 310 [a0, a1, a2, a3, a4, a5, a6, a7, a8, a9] [.int x] z h Q = Q (some (.int x)) z h := ni_T_i rfl rfl
theorem s3_311 : ni_T d 3 311 [.ref o, a1, a2, a3, a4, a5, a6, a7, a8, a9] st z h Q = ni_T d 3 312 [.ref o, a1, a2, a3, a4, a5, a6, a7, a8, a9] (.ref o :: st) z h Q := ni_T_p rfl rfl
theorem s3_312 : ni_T d 3 312 [a0, .ref o, a2, a3, a4, a5, a6, a7, a8, a9] st z h Q = ni_T d 3 313 [a0, .ref o, a2, a3, a4, a5, a6, a7, a8, a9] (.ref o :: st) z h Q := ni_T_p rfl rfl
theorem s3_312N : ni_T d 3 312 [a0, .null, a2, a3, a4, a5, a6, a7, a8, a9] st z h Q = ni_T d 3 313 [a0, .null, a2, a3, a4, a5, a6, a7, a8, a9] (.null :: st) z h Q := ni_T_p rfl rfl
theorem s3_313 : ni_T d 3 313 [a0, a1, a2, a3, a4, a5, a6, a7, .int x, a9] st z h Q = ni_T d 3 315 [a0, a1, a2, a3, a4, a5, a6, a7, .int x, a9] (.int x :: st) z h Q := ni_T_p rfl rfl
theorem s3_315 : ni_T d 3 315 [a0, a1, a2, a3, a4, a5, a6, a7, a8, a9] st z h Q = ni_T d 3 316 [a0, a1, a2, a3, a4, a5, a6, a7, a8, a9] (.int 0 :: st) z h Q := ni_T_p rfl rfl
theorem s3_316 : ni_T d 3 316 [a0, a1, a2, a3, .int x, a5, a6, a7, a8, a9] st z h Q = ni_T d 3 318 [a0, a1, a2, a3, .int x, a5, a6, a7, a8, a9] (.int x :: st) z h Q := ni_T_p rfl rfl
theorem s3_318 : ni_T d 3 318 [a0, a1, a2, a3, a4, a5, a6, a7, a8, .int x] st z h Q = ni_T d 3 320 [a0, a1, a2, a3, a4, a5, a6, a7, a8, .int x] (.int x :: st) z h Q := ni_T_p rfl rfl
theorem s3_320 : ni_T (d + 1) 3 320 [a0, a1, a2, a3, a4, a5, a6, a7, a8, a9] (.int x4 :: .int x3 :: .int x2 :: .int x1 :: .ref o20 :: .ref o :: st) z h Q = (ni_rc (h o) 0 = true ∧ Nat.ble (ni_sw st) 8 = true ∧ ni_T d 3 0 [.ref o, .ref o20, .int x1, .int x2, .int x3, .int x4, .retAddr 0, .retAddr 0, .retAddr 0, .retAddr 0] [] z h (ni_K (d + 1) 3 323 [a0, a1, a2, a3, a4, a5, a6, a7, a8, a9] st z Q)) := ni_T_ce [.ref o, .ref o20, .int x1, .int x2, .int x3, .int x4] rfl rfl rfl rfl rfl rfl rfl rfl rfl
theorem s3_320N0 : ni_T (d + 1) 3 320 [a0, a1, a2, a3, a4, a5, a6, a7, a8, a9] (.int x4 :: .int x3 :: .int x2 :: .int x1 :: .null :: .ref o :: st) z h Q = (ni_rc (h o) 0 = true ∧ Nat.ble (ni_sw st) 8 = true ∧ ni_T d 3 0 [.ref o, .null, .int x1, .int x2, .int x3, .int x4, .retAddr 0, .retAddr 0, .retAddr 0, .retAddr 0] [] z h (ni_K (d + 1) 3 323 [a0, a1, a2, a3, a4, a5, a6, a7, a8, a9] st z Q)) := ni_T_ce [.ref o, .null, .int x1, .int x2, .int x3, .int x4] rfl rfl rfl rfl rfl rfl rfl rfl rfl
theorem s3_323 : ni_T d 3 323 [a0, a1, a2, a3, a4, a5, a6, a7, a8, a9] st z h Q = ni_T d 3 324 [a0, a1, a2, a3, a4, a5, a6, a7, a8, a9] (.int 2 :: st) z h Q := ni_T_p rfl rfl
theorem s3_324 : ni_T d 3 324 [a0, a1, a2, a3, a4, a5, a6, a7, a8, a9] (.int y :: .int x :: st) z h Q = ni_T d 3 325 [a0, a1, a2, a3, a4, a5, a6, a7, a8, a9] (.int (x * y) :: st) z h Q := ni_T_p rfl rfl
theorem s3_325 : ni_T d 3 325 [a0, a1, a2, a3, a4, a5, a6, a7, a8, a9] [.int x] z h Q = Q (some (.int x)) z h := ni_T_i rfl rfl
theorem s3_326 : ni_T d 3 326 [.ref o, a1, a2, a3, a4, a5, a6, a7, a8, a9] st z h Q = ni_T d 3 327 [.ref o, a1, a2, a3, a4, a5, a6, a7, a8, a9] (.ref o :: st) z h Q := ni_T_p rfl rfl
theorem s3_327 : ni_T d 3 327 [a0, .ref o, a2, a3, a4, a5, a6, a7, a8, a9] st z h Q = ni_T d 3 328 [a0, .ref o, a2, a3, a4, a5, a6, a7, a8, a9] (.ref o :: st) z h Q := ni_T_p rfl rfl
theorem s3_327N : ni_T d 3 327 [a0, .null, a2, a3, a4, a5, a6, a7, a8, a9] st z h Q = ni_T d 3 328 [a0, .null, a2, a3, a4, a5, a6, a7, a8, a9] (.null :: st) z h Q := ni_T_p rfl rfl
theorem s3_328 : ni_T d 3 328 [a0, a1, a2, a3, a4, a5, a6, a7, .int x, a9] st z h Q = ni_T d 3 330 [a0, a1, a2, a3, a4, a5, a6, a7, .int x, a9] (.int x :: st) z h Q := ni_T_p rfl rfl
theorem s3_330 : ni_T d 3 330 [a0, a1, a2, a3, a4, a5, a6, a7, a8, a9] st z h Q = ni_T d 3 331 [a0, a1, a2, a3, a4, a5, a6, a7, a8, a9] (.int 1 :: st) z h Q := ni_T_p rfl rfl
theorem s3_331 : ni_T d 3 331 [a0, a1, a2, a3, .int x, a5, a6, a7, a8, a9] st z h Q = ni_T d 3 333 [a0, a1, a2, a3, .int x, a5, a6, a7, a8, a9] (.int x :: st) z h Q := ni_T_p rfl rfl
theorem s3_333 : ni_T d 3 333 [a0, .ref o, a2, a3, a4, a5, a6, a7, a8, a9] st z h Q = ni_T d 3 334 [a0, .ref o, a2, a3, a4, a5, a6, a7, a8, a9] (.ref o :: st) z h Q := ni_T_p rfl rfl
theorem s3_333N : ni_T d 3 333 [a0, .null, a2, a3, a4, a5, a6, a7, a8, a9] st z h Q = ni_T d 3 334 [a0, .null, a2, a3, a4, a5, a6, a7, a8, a9] (.null :: st) z h Q := ni_T_p rfl rfl
theorem s3_334 : ni_T d 3 334 [a0, a1, a2, a3, a4, a5, a6, a7, a8, a9] (.ref o :: st) z h Q = (ni_is (h o) 1 2 = true ∧ ni_T d 3 337 [a0, a1, a2, a3, a4, a5, a6, a7, a8, a9] (ni_gv (h o) 2 :: st) z h Q) := ni_T_getf rfl
theorem s3_337 : ni_T d 3 337 [a0, a1, a2, a3, a4, a5, a6, a7, a8, a9] (.int y :: .int x :: st) z h Q = ni_T d 3 338 [a0, a1, a2, a3, a4, a5, a6, a7, a8, a9] (.int (x - y) :: st) z h Q := ni_T_p rfl rfl
theorem s3_338 : ni_T d 3 338 [a0, a1, a2, a3, a4, a5, a6, a7, a8, .int x] st z h Q = ni_T d 3 340 [a0, a1, a2, a3, a4, a5, a6, a7, a8, .int x] (.int x :: st) z h Q := ni_T_p rfl rfl
theorem s3_340 : ni_T (d + 1) 3 340 [a0, a1, a2, a3, a4, a5, a6, a7, a8, a9] (.int x4 :: .int x3 :: .int x2 :: .int x1 :: .ref o20 :: .ref o :: st) z h Q = (ni_rc (h o) 0 = true ∧ Nat.ble (ni_sw st) 8 = true ∧ ni_T d 3 0 [.ref o, .ref o20, .int x1, .int x2, .int x3, .int x4, .retAddr 0, .retAddr 0, .retAddr 0, .retAddr 0] [] z h (ni_K (d + 1) 3 343 [a0, a1, a2, a3, a4, a5, a6, a7, a8, a9] st z Q)) := ni_T_ce [.ref o, .ref o20, .int x1, .int x2, .int x3, .int x4] rfl rfl rfl rfl rfl rfl rfl rfl rfl
theorem s3_340N0 : ni_T (d + 1) 3 340 [a0, a1, a2, a3, a4, a5, a6, a7, a8, a9] (.int x4 :: .int x3 :: .int x2 :: .int x1 :: .null :: .ref o :: st) z h Q = (ni_rc (h o) 0 = true ∧ Nat.ble (ni_sw st) 8 = true ∧ ni_T d 3 0 [.ref o, .null, .int x1, .int x2, .int x3, .int x4, .retAddr 0, .retAddr 0, .retAddr 0, .retAddr 0] [] z h (ni_K (d + 1) 3 343 [a0, a1, a2, a3, a4, a5, a6, a7, a8, a9] st z Q)) := ni_T_ce [.ref o, .null, .int x1, .int x2, .int x3, .int x4] rfl rfl rfl rfl rfl rfl rfl rfl rfl
theorem s3_343 : ni_T d 3 343 [a0, a1, a2, a3, a4, a5, a6, a7, a8, a9] [.int x] z h Q = Q (some (.int x)) z h := ni_T_i rfl rfl
theorem s3_344 : ni_T d 3 344 [a0, a1, a2, a3, a4, a5, a6, a7, a8, a9] st z h Q = ni_T d 3 345 [a0, a1, a2, a3, a4, a5, a6, a7, a8, a9] (.int 0 :: st) z h Q := ni_T_p rfl rfl
theorem s3_345 : ni_T d 3 345 [a0, a1, a2, a3, a4, a5, a6, a7, a8, a9] [.int x] z h Q = Q (some (.int x)) z h := ni_T_i rfl rfl
theorem s4_0 : ni_T d 4 0 [.int x, a1, a2, a3] st z h Q = ni_T d 4 1 [.int x, a1, a2, a3] (.int x :: st) z h Q := ni_T_p rfl rfl
theorem s4_1 : ni_T d 4 1 [a0, a1, a2, a3] (.int x :: st) z h Q = ni_T d 4 2 [a0, ni_kl a1, .int x, a3] st z h Q := ni_T_p rfl rfl
theorem s4_2 : ni_T d 4 2 [a0, a1, a2, a3] st z h Q = ni_T d 4 3 [a0, a1, a2, a3] (.int 0 :: st) z h Q := ni_T_p rfl rfl
theorem s4_3 : ni_T d 4 3 [a0, a1, a2, a3] (.int x :: st) z h Q = ni_T d 4 4 [a0, a1, ni_kl a2, .int x] st z h Q := ni_T_p rfl rfl
theorem s4_4 : ni_T d 4 4 [a0, a1, a2, .int x] st z h Q = ni_T d 4 5 [a0, a1, a2, .int x] (.int x :: st) z h Q := ni_T_p rfl rfl
theorem s4_5 : ni_T d 4 5 [a0, a1, a2, a3] st z h Q = ni_T d 4 7 [a0, a1, a2, a3] (.int 7 :: st) z h Q := ni_T_p rfl rfl
theorem s4_7 : ni_T d 4 7 [a0, a1, a2, a3] (.int y :: .int x :: st) z h Q = if y ≤ x then ni_T d 4 47 [a0, a1, a2, a3] st z h Q else ni_T d 4 10 [a0, a1, a2, a3] st z h Q := ni_T_b rfl rfl
theorem s4_10 : ni_T d 4 10 [a0, a1, .int x, a3] st z h Q = ni_T d 4 11 [a0, a1, .int x, a3] (.int x :: st) z h Q := ni_T_p rfl rfl
theorem s4_11 : ni_T d 4 11 [a0, a1, a2, a3] (.int x :: st) z h Q = if x < 0 then ni_T d 4 47 [a0, a1, a2, a3] st z h Q else ni_T d 4 14 [a0, a1, a2, a3] st z h Q := ni_T_b rfl rfl
theorem s4_14 : ni_T d 4 14 [a0, a1, .int x, a3] st z h Q = ni_T d 4 15 [a0, a1, .int x, a3] (.int x :: st) z h Q := ni_T_p rfl rfl
theorem s4_15 : ni_T d 4 15 [a0, a1, a2, a3] st z h Q = ni_T d 4 17 [a0, a1, a2, a3] (.int 7 :: st) z h Q := ni_T_p rfl rfl
theorem s4_17 : ni_T d 4 17 [a0, a1, a2, a3] (.int y :: .int x :: st) z h Q = if y ≤ x then ni_T d 4 47 [a0, a1, a2, a3] st z h Q else ni_T d 4 20 [a0, a1, a2, a3] st z h Q := ni_T_b rfl rfl
theorem s4_20 : ni_T d 4 20 [a0, a1, a2, a3] st z h Q = ni_T d 4 23 [a0, a1, a2, a3] (.ref 1002 :: st) z h Q := ni_T_hse rfl rfl rfl rfl
theorem s4_23 : ni_T d 4 23 [a0, .int x, a2, a3] st z h Q = ni_T d 4 24 [a0, .int x, a2, a3] (.int x :: st) z h Q := ni_T_p rfl rfl
theorem s4_24 : ni_T d 4 24 [a0, a1, a2, a3] st z h Q = ni_T d 4 26 [a0, a1, a2, a3] (.int 7 :: st) z h Q := ni_T_p rfl rfl
theorem s4_26 : ni_T d 4 26 [a0, a1, a2, a3] (.int y :: .int x :: st) z h Q = ni_T d 4 27 [a0, a1, a2, a3] (.int (x * y) :: st) z h Q := ni_T_p rfl rfl
theorem s4_27 : ni_T d 4 27 [a0, a1, .int x, a3] st z h Q = ni_T d 4 28 [a0, a1, .int x, a3] (.int x :: st) z h Q := ni_T_p rfl rfl
theorem s4_28 : ni_T d 4 28 [a0, a1, a2, a3] (.int y :: .int x :: st) z h Q = ni_T d 4 29 [a0, a1, a2, a3] (.int (x + y) :: st) z h Q := ni_T_p rfl rfl
theorem s4_29 : ni_T d 4 29 [a0, a1, a2, a3] (.int x :: .ref o :: st) z h Q = (ni_okI (h o) x = true ∧ ni_T d 4 30 [a0, a1, a2, a3] (.int (ni_gi (h o) x) :: st) z h Q) := ni_T_iald rfl
theorem s4_30 : ni_T d 4 30 [a0, a1, a2, a3] (.int x :: st) z h Q = if x = 0 then ni_T d 4 35 [a0, a1, a2, a3] st z h Q else ni_T d 4 33 [a0, a1, a2, a3] st z h Q := ni_T_b rfl rfl
theorem s4_33 : ni_T d 4 33 [a0, a1, .int x, a3] st z h Q = ni_T d 4 34 [a0, a1, .int x, a3] (.int x :: st) z h Q := ni_T_p rfl rfl
theorem s4_34 : ni_T d 4 34 [a0, a1, a2, a3] [.int x] z h Q = Q (some (.int x)) z h := ni_T_i rfl rfl
theorem s4_35 : ni_T d 4 35 [a0, a1, a2, a3] st z h Q = ni_T d 4 38 [a0, a1, a2, a3] (.ref 1001 :: st) z h Q := ni_T_hse rfl rfl rfl rfl
theorem s4_38 : ni_T d 4 38 [a0, a1, .int x, a3] st z h Q = ni_T d 4 39 [a0, a1, .int x, a3] (.int x :: st) z h Q := ni_T_p rfl rfl
theorem s4_39 : ni_T d 4 39 [a0, a1, a2, a3] (.int x :: .ref o :: st) z h Q = (ni_okI (h o) x = true ∧ ni_T d 4 40 [a0, a1, a2, a3] (.int (ni_gi (h o) x) :: st) z h Q) := ni_T_iald rfl
theorem s4_40 : ni_T d 4 40 [a0, a1, a2, a3] (.int x :: st) z h Q = ni_T d 4 41 [a0, ni_kl a1, .int x, a3] st z h Q := ni_T_p rfl rfl
theorem s4_41 : ni_T d 4 41 [a0, a1, a2, .int x] st z h Q = ni_T d 4 44 [a0, a1, ni_kl a2, .int (x + 1)] st z h Q := ni_T_p rfl rfl
theorem s4_44 : ni_T d 4 44 [a0, a1, a2, a3] st z h Q = ni_T d 4 4 [a0, a1, a2, a3] st z h Q := ni_T_p rfl rfl
theorem s4_47 : ni_T d 4 47 [a0, a1, a2, a3] st z h Q = ni_T d 4 48 [a0, a1, a2, a3] (.int (-1) :: st) z h Q := ni_T_p rfl rfl
theorem s4_48 : ni_T d 4 48 [a0, a1, a2, a3] [.int x] z h Q = Q (some (.int x)) z h := ni_T_i rfl rfl
theorem s5_0 : ni_T d 5 0 [.ref o, a1] st z h Q = ni_T d 5 1 [.ref o, a1] (.ref o :: st) z h Q := ni_T_p rfl rfl
theorem s5_1 : ni_T d 5 1 [a0, a1] (.ref o :: st) z h Q = (ni_is (h o) 0 1 = true ∧ ni_T d 5 4 [a0, a1] (ni_gv (h o) 1 :: st) z h Q) := ni_T_getf rfl
theorem s5_4 : ni_T d 5 4 [a0, a1] st z h Q = ni_T d 5 6 [a0, a1] (.int 20 :: st) z h Q := ni_T_p rfl rfl
theorem s5_6 : ni_T d 5 6 [a0, a1] (.int y :: .int x :: st) z h Q = if y ≤ x then ni_T d 5 19 [a0, a1] st z h Q else ni_T d 5 9 [a0, a1] st z h Q := ni_T_b rfl rfl
theorem s5_9 : ni_T d 5 9 [.ref o, a1] st z h Q = ni_T d 5 10 [.ref o, a1] (.ref o :: st) z h Q := ni_T_p rfl rfl
theorem s5_10 : ni_T d 5 10 [a0, a1] (.ref o :: st) z h Q = (ni_is (h o) 0 0 = true ∧ ni_T d 5 13 [a0, a1] (ni_gv (h o) 0 :: st) z h Q) := ni_T_getf rfl
theorem s5_13 : ni_T d 5 13 [.ref o, a1] st z h Q = ni_T d 5 14 [.ref o, a1] (.ref o :: st) z h Q := ni_T_p rfl rfl
theorem s5_14 : ni_T d 5 14 [a0, a1] (.ref o :: st) z h Q = (ni_is (h o) 0 1 = true ∧ ni_T d 5 17 [a0, a1] (ni_gv (h o) 1 :: st) z h Q) := ni_T_getf rfl
theorem s5_17 : ni_T d 5 17 [a0, .int x] st z h Q = ni_T d 5 18 [a0, .int x] (.int x :: st) z h Q := ni_T_p rfl rfl
theorem s5_18 : ni_T d 5 18 [a0, a1] (.int y :: .int x :: .ref o :: st) z h Q = (ni_okS (h o) x = true ∧ ni_T d 5 19 [a0, a1] st z (ni_up h o (ni_pi (h o) x y)) Q) := ni_T_iast rfl
theorem s5_19 : ni_T d 5 19 [.ref o, a1] st z h Q = ni_T d 5 20 [.ref o, a1] (.ref o :: st) z h Q := ni_T_p rfl rfl
theorem s5_20 : ni_T d 5 20 [a0, a1] (.ref o :: st) z h Q = ni_T d 5 21 [a0, a1] (.ref o :: .ref o :: st) z h Q := ni_T_p rfl rfl
theorem s5_20i : ni_T d 5 20 [a0, a1] (.int x :: st) z h Q = ni_T d 5 21 [a0, a1] (.int x :: .int x :: st) z h Q := ni_T_p rfl rfl
theorem s5_21 : ni_T d 5 21 [a0, a1] (.ref o :: st) z h Q = (ni_is (h o) 0 1 = true ∧ ni_T d 5 24 [a0, a1] (ni_gv (h o) 1 :: st) z h Q) := ni_T_getf rfl
theorem s5_24 : ni_T d 5 24 [a0, a1] st z h Q = ni_T d 5 25 [a0, a1] (.int 1 :: st) z h Q := ni_T_p rfl rfl
theorem s5_25 : ni_T d 5 25 [a0, a1] (.int y :: .int x :: st) z h Q = ni_T d 5 26 [a0, a1] (.int (x + y) :: st) z h Q := ni_T_p rfl rfl
theorem s5_26 : ni_T d 5 26 [a0, a1] (b0 :: .ref o :: st) z h Q = ((Nat.ble 0 7 && ni_is (h o) 0 1 && ni_fit (.int) b0) = true ∧ ni_T d 5 29 [a0, a1] st z (ni_up h o (ni_pv (h o) 1 b0)) Q) := ni_T_putf rfl
theorem s5_29 : ni_T d 5 29 [a0, a1] [] z h Q = Q none z h := ni_T_v rfl rfl
theorem s6_0 : ni_T d 6 0 [.ref o, a1] st z h Q = ni_T d 6 1 [.ref o, a1] (.ref o :: st) z h Q := ni_T_p rfl rfl
theorem s6_1 : ni_T (d + 1) 6 1 [a0, a1] (.ref o :: st) z h Q = (Nat.ble (ni_sw st) 8 = true ∧ ni_T (d + 1) 6 4 [a0, a1] st z h Q) := ni_T_oic rfl rfl
theorem s6_4 : ni_T d 6 4 [.ref o, a1] st z h Q = ni_T d 6 5 [.ref o, a1] (.ref o :: st) z h Q := ni_T_p rfl rfl
theorem s6_5 : ni_T d 6 5 [a0, a1] st z h Q = ni_T d 6 6 [a0, a1] (.int 0 :: st) z h Q := ni_T_p rfl rfl
theorem s6_6 : ni_T d 6 6 [a0, a1] (b0 :: .ref o :: st) z h Q = ((Nat.ble 1 7 && ni_is (h o) 1 1 && ni_fit (.int) b0) = true ∧ ni_T d 6 9 [a0, a1] st z (ni_up h o (ni_pv (h o) 1 b0)) Q) := ni_T_putf rfl
theorem s6_9 : ni_T d 6 9 [.ref o, a1] st z h Q = ni_T d 6 10 [.ref o, a1] (.ref o :: st) z h Q := ni_T_p rfl rfl
theorem s6_10 : ni_T d 6 10 [a0, a1] st z h Q = ni_T d 6 11 [a0, a1] (.int 0 :: st) z h Q := ni_T_p rfl rfl
theorem s6_11 : ni_T d 6 11 [a0, a1] (b0 :: .ref o :: st) z h Q = ((Nat.ble 1 7 && ni_is (h o) 1 2 && ni_fit (.int) b0) = true ∧ ni_T d 6 14 [a0, a1] st z (ni_up h o (ni_pv (h o) 2 b0)) Q) := ni_T_putf rfl
theorem s6_14 : ni_T d 6 14 [.ref o, a1] st z h Q = ni_T d 6 15 [.ref o, a1] (.ref o :: st) z h Q := ni_T_p rfl rfl
theorem s6_15 : ni_T d 6 15 [a0, a1] st z h Q = ni_T d 6 16 [a0, a1] (.int 1 :: st) z h Q := ni_T_p rfl rfl
theorem s6_16 : ni_T d 6 16 [a0, a1] (b0 :: .ref o :: st) z h Q = ((Nat.ble 1 7 && ni_is (h o) 1 3 && ni_fit (.int) b0) = true ∧ ni_T d 6 19 [a0, a1] st z (ni_up h o (ni_pv (h o) 3 b0)) Q) := ni_T_putf rfl
theorem s6_19 : ni_T d 6 19 [.ref o, a1] st z h Q = ni_T d 6 20 [.ref o, a1] (.ref o :: st) z h Q := ni_T_p rfl rfl
theorem s6_20 : ni_T d 6 20 [a0, a1] st z h Q = ni_T d 6 21 [a0, a1] (.int 0 :: st) z h Q := ni_T_p rfl rfl
theorem s6_21 : ni_T d 6 21 [a0, a1] (b0 :: .ref o :: st) z h Q = ((Nat.ble 1 7 && ni_is (h o) 1 4 && ni_fit (.int) b0) = true ∧ ni_T d 6 24 [a0, a1] st z (ni_up h o (ni_pv (h o) 4 b0)) Q) := ni_T_putf rfl
theorem s6_24 : ni_T d 6 24 [.ref o, a1] st z h Q = ni_T d 6 25 [.ref o, a1] (.ref o :: st) z h Q := ni_T_p rfl rfl
theorem s6_25 : ni_T d 6 25 [a0, a1] st z h Q = ni_T d 6 26 [a0, a1] (.int 0 :: st) z h Q := ni_T_p rfl rfl
theorem s6_26 : ni_T d 6 26 [a0, a1] (b0 :: .ref o :: st) z h Q = ((Nat.ble 1 7 && ni_is (h o) 1 5 && ni_fit (.int) b0) = true ∧ ni_T d 6 29 [a0, a1] st z (ni_up h o (ni_pv (h o) 5 b0)) Q) := ni_T_putf rfl
theorem s6_29 : ni_T d 6 29 [.ref o, a1] st z h Q = ni_T d 6 30 [.ref o, a1] (.ref o :: st) z h Q := ni_T_p rfl rfl
theorem s6_30 : ni_T d 6 30 [a0, .int x] st z h Q = ni_T d 6 31 [a0, .int x] (.int x :: st) z h Q := ni_T_p rfl rfl
theorem s6_31 : ni_T d 6 31 [a0, a1] (b0 :: .ref o :: st) z h Q = ((Nat.ble 1 7 && ni_is (h o) 1 0 && ni_fit (.int) b0) = true ∧ ni_T d 6 34 [a0, a1] st z (ni_up h o (ni_pv (h o) 0 b0)) Q) := ni_T_putf rfl
theorem s6_34 : ni_T d 6 34 [a0, a1] [] z h Q = Q none z h := ni_T_v rfl rfl
theorem s7_0 : ni_T d 7 0 [.ref o, a1, a2] st z h Q = ni_T d 7 1 [.ref o, a1, a2] (.ref o :: st) z h Q := ni_T_p rfl rfl
theorem s7_1 : ni_T d 7 1 [a0, .int x, a2] st z h Q = ni_T d 7 2 [a0, .int x, a2] (.int x :: st) z h Q := ni_T_p rfl rfl
theorem s7_2 : ni_T d 7 2 [a0, a1, a2] (b0 :: .ref o :: st) z h Q = ((Nat.ble 1 7 && ni_is (h o) 1 1 && ni_fit (.int) b0) = true ∧ ni_T d 7 5 [a0, a1, a2] st z (ni_up h o (ni_pv (h o) 1 b0)) Q) := ni_T_putf rfl
theorem s7_5 : ni_T d 7 5 [.ref o, a1, a2] st z h Q = ni_T d 7 6 [.ref o, a1, a2] (.ref o :: st) z h Q := ni_T_p rfl rfl
theorem s7_6 : ni_T d 7 6 [a0, a1, .int x] st z h Q = ni_T d 7 7 [a0, a1, .int x] (.int x :: st) z h Q := ni_T_p rfl rfl
theorem s7_7 : ni_T d 7 7 [a0, a1, a2] (b0 :: .ref o :: st) z h Q = ((Nat.ble 1 7 && ni_is (h o) 1 2 && ni_fit (.int) b0) = true ∧ ni_T d 7 10 [a0, a1, a2] st z (ni_up h o (ni_pv (h o) 2 b0)) Q) := ni_T_putf rfl
theorem s7_10 : ni_T d 7 10 [.ref o, a1, a2] st z h Q = ni_T d 7 11 [.ref o, a1, a2] (.ref o :: st) z h Q := ni_T_p rfl rfl
theorem s7_11 : ni_T d 7 11 [a0, a1, a2] st z h Q = ni_T d 7 12 [a0, a1, a2] (.int 1 :: st) z h Q := ni_T_p rfl rfl
theorem s7_12 : ni_T d 7 12 [a0, a1, a2] (b0 :: .ref o :: st) z h Q = ((Nat.ble 1 7 && ni_is (h o) 1 3 && ni_fit (.int) b0) = true ∧ ni_T d 7 15 [a0, a1, a2] st z (ni_up h o (ni_pv (h o) 3 b0)) Q) := ni_T_putf rfl
theorem s7_15 : ni_T d 7 15 [.ref o, a1, a2] st z h Q = ni_T d 7 16 [.ref o, a1, a2] (.ref o :: st) z h Q := ni_T_p rfl rfl
theorem s7_16 : ni_T d 7 16 [a0, a1, a2] st z h Q = ni_T d 7 17 [a0, a1, a2] (.int 0 :: st) z h Q := ni_T_p rfl rfl
theorem s7_17 : ni_T d 7 17 [a0, a1, a2] (b0 :: .ref o :: st) z h Q = ((Nat.ble 1 7 && ni_is (h o) 1 4 && ni_fit (.int) b0) = true ∧ ni_T d 7 20 [a0, a1, a2] st z (ni_up h o (ni_pv (h o) 4 b0)) Q) := ni_T_putf rfl
theorem s7_20 : ni_T d 7 20 [.ref o, a1, a2] st z h Q = ni_T d 7 21 [.ref o, a1, a2] (.ref o :: st) z h Q := ni_T_p rfl rfl
theorem s7_21 : ni_T d 7 21 [a0, a1, a2] st z h Q = ni_T d 7 22 [a0, a1, a2] (.int 0 :: st) z h Q := ni_T_p rfl rfl
theorem s7_22 : ni_T d 7 22 [a0, a1, a2] (b0 :: .ref o :: st) z h Q = ((Nat.ble 1 7 && ni_is (h o) 1 5 && ni_fit (.int) b0) = true ∧ ni_T d 7 25 [a0, a1, a2] st z (ni_up h o (ni_pv (h o) 5 b0)) Q) := ni_T_putf rfl
theorem s7_25 : ni_T d 7 25 [a0, a1, a2] [] z h Q = Q none z h := ni_T_v rfl rfl
theorem s8_0 : ni_T d 8 0 [.ref o, a1] st z h Q = ni_T d 8 1 [.ref o, a1] (.ref o :: st) z h Q := ni_T_p rfl rfl
theorem s8_1 : ni_T d 8 1 [a0, .ref o] st z h Q = ni_T d 8 2 [a0, .ref o] (.ref o :: st) z h Q := ni_T_p rfl rfl
theorem s8_1N : ni_T d 8 1 [a0, .null] st z h Q = ni_T d 8 2 [a0, .null] (.null :: st) z h Q := ni_T_p rfl rfl
theorem s8_2 : ni_T d 8 2 [a0, a1] (.ref o :: st) z h Q = (ni_is (h o) 1 1 = true ∧ ni_T d 8 5 [a0, a1] (ni_gv (h o) 1 :: st) z h Q) := ni_T_getf rfl
theorem s8_5 : ni_T d 8 5 [a0, a1] (b0 :: .ref o :: st) z h Q = ((Nat.ble 1 7 && ni_is (h o) 1 1 && ni_fit (.int) b0) = true ∧ ni_T d 8 8 [a0, a1] st z (ni_up h o (ni_pv (h o) 1 b0)) Q) := ni_T_putf rfl
theorem s8_8 : ni_T d 8 8 [.ref o, a1] st z h Q = ni_T d 8 9 [.ref o, a1] (.ref o :: st) z h Q := ni_T_p rfl rfl
theorem s8_9 : ni_T d 8 9 [a0, .ref o] st z h Q = ni_T d 8 10 [a0, .ref o] (.ref o :: st) z h Q := ni_T_p rfl rfl
theorem s8_9N : ni_T d 8 9 [a0, .null] st z h Q = ni_T d 8 10 [a0, .null] (.null :: st) z h Q := ni_T_p rfl rfl
theorem s8_10 : ni_T d 8 10 [a0, a1] (.ref o :: st) z h Q = (ni_is (h o) 1 2 = true ∧ ni_T d 8 13 [a0, a1] (ni_gv (h o) 2 :: st) z h Q) := ni_T_getf rfl
theorem s8_13 : ni_T d 8 13 [a0, a1] (b0 :: .ref o :: st) z h Q = ((Nat.ble 1 7 && ni_is (h o) 1 2 && ni_fit (.int) b0) = true ∧ ni_T d 8 16 [a0, a1] st z (ni_up h o (ni_pv (h o) 2 b0)) Q) := ni_T_putf rfl
theorem s8_16 : ni_T d 8 16 [.ref o, a1] st z h Q = ni_T d 8 17 [.ref o, a1] (.ref o :: st) z h Q := ni_T_p rfl rfl
theorem s8_17 : ni_T d 8 17 [a0, .ref o] st z h Q = ni_T d 8 18 [a0, .ref o] (.ref o :: st) z h Q := ni_T_p rfl rfl
theorem s8_17N : ni_T d 8 17 [a0, .null] st z h Q = ni_T d 8 18 [a0, .null] (.null :: st) z h Q := ni_T_p rfl rfl
theorem s8_18 : ni_T d 8 18 [a0, a1] (.ref o :: st) z h Q = (ni_is (h o) 1 3 = true ∧ ni_T d 8 21 [a0, a1] (ni_gv (h o) 3 :: st) z h Q) := ni_T_getf rfl
theorem s8_21 : ni_T d 8 21 [a0, a1] (b0 :: .ref o :: st) z h Q = ((Nat.ble 1 7 && ni_is (h o) 1 3 && ni_fit (.int) b0) = true ∧ ni_T d 8 24 [a0, a1] st z (ni_up h o (ni_pv (h o) 3 b0)) Q) := ni_T_putf rfl
theorem s8_24 : ni_T d 8 24 [.ref o, a1] st z h Q = ni_T d 8 25 [.ref o, a1] (.ref o :: st) z h Q := ni_T_p rfl rfl
theorem s8_25 : ni_T d 8 25 [a0, .ref o] st z h Q = ni_T d 8 26 [a0, .ref o] (.ref o :: st) z h Q := ni_T_p rfl rfl
theorem s8_25N : ni_T d 8 25 [a0, .null] st z h Q = ni_T d 8 26 [a0, .null] (.null :: st) z h Q := ni_T_p rfl rfl
theorem s8_26 : ni_T d 8 26 [a0, a1] (.ref o :: st) z h Q = (ni_is (h o) 1 4 = true ∧ ni_T d 8 29 [a0, a1] (ni_gv (h o) 4 :: st) z h Q) := ni_T_getf rfl
theorem s8_29 : ni_T d 8 29 [a0, a1] (b0 :: .ref o :: st) z h Q = ((Nat.ble 1 7 && ni_is (h o) 1 4 && ni_fit (.int) b0) = true ∧ ni_T d 8 32 [a0, a1] st z (ni_up h o (ni_pv (h o) 4 b0)) Q) := ni_T_putf rfl
theorem s8_32 : ni_T d 8 32 [.ref o, a1] st z h Q = ni_T d 8 33 [.ref o, a1] (.ref o :: st) z h Q := ni_T_p rfl rfl
theorem s8_33 : ni_T d 8 33 [a0, .ref o] st z h Q = ni_T d 8 34 [a0, .ref o] (.ref o :: st) z h Q := ni_T_p rfl rfl
theorem s8_33N : ni_T d 8 33 [a0, .null] st z h Q = ni_T d 8 34 [a0, .null] (.null :: st) z h Q := ni_T_p rfl rfl
theorem s8_34 : ni_T d 8 34 [a0, a1] (.ref o :: st) z h Q = (ni_is (h o) 1 5 = true ∧ ni_T d 8 37 [a0, a1] (ni_gv (h o) 5 :: st) z h Q) := ni_T_getf rfl
theorem s8_37 : ni_T d 8 37 [a0, a1] (b0 :: .ref o :: st) z h Q = ((Nat.ble 1 7 && ni_is (h o) 1 5 && ni_fit (.int) b0) = true ∧ ni_T d 8 40 [a0, a1] st z (ni_up h o (ni_pv (h o) 5 b0)) Q) := ni_T_putf rfl
theorem s8_40 : ni_T d 8 40 [a0, a1] [] z h Q = Q none z h := ni_T_v rfl rfl
theorem s9_0 : ni_T d 9 0 [.ref o, a1, a2, a3] st z h Q = ni_T d 9 1 [.ref o, a1, a2, a3] (.ref o :: st) z h Q := ni_T_p rfl rfl
theorem s9_1 : ni_T d 9 1 [a0, a1, a2, a3] (.ref o :: st) z h Q = (ni_is (h o) 1 1 = true ∧ ni_T d 9 4 [a0, a1, a2, a3] (ni_gv (h o) 1 :: st) z h Q) := ni_T_getf rfl
theorem s9_4 : ni_T d 9 4 [a0, a1, a2, a3] (.int x :: st) z h Q = ni_T d 9 5 [a0, ni_kl a1, .int x, a3] st z h Q := ni_T_p rfl rfl
theorem s9_5 : ni_T d 9 5 [a0, a1, a2, a3] st z h Q = ni_T d 9 6 [a0, a1, a2, a3] (.int 0 :: st) z h Q := ni_T_p rfl rfl
theorem s9_6 : ni_T d 9 6 [a0, a1, a2, a3] (.int x :: st) z h Q = ni_T d 9 7 [a0, a1, ni_kl a2, .int x] st z h Q := ni_T_p rfl rfl
theorem s9_7 : ni_T d 9 7 [a0, a1, a2, .int x] st z h Q = ni_T d 9 8 [a0, a1, a2, .int x] (.int x :: st) z h Q := ni_T_p rfl rfl
theorem s9_8 : ni_T d 9 8 [a0, a1, a2, a3] st z h Q = ni_T d 9 10 [a0, a1, a2, a3] (.int 7 :: st) z h Q := ni_T_p rfl rfl
theorem s9_10 : ni_T d 9 10 [a0, a1, a2, a3] (.int y :: .int x :: st) z h Q = if y ≤ x then ni_T d 9 42 [a0, a1, a2, a3] st z h Q else ni_T d 9 13 [a0, a1, a2, a3] st z h Q := ni_T_b rfl rfl
theorem s9_13 : ni_T d 9 13 [a0, a1, .int x, a3] st z h Q = ni_T d 9 14 [a0, a1, .int x, a3] (.int x :: st) z h Q := ni_T_p rfl rfl
theorem s9_14 : ni_T d 9 14 [a0, a1, a2, a3] (.int x :: st) z h Q = if x < 0 then ni_T d 9 42 [a0, a1, a2, a3] st z h Q else ni_T d 9 17 [a0, a1, a2, a3] st z h Q := ni_T_b rfl rfl
theorem s9_17 : ni_T d 9 17 [a0, a1, .int x, a3] st z h Q = ni_T d 9 18 [a0, a1, .int x, a3] (.int x :: st) z h Q := ni_T_p rfl rfl
theorem s9_18 : ni_T d 9 18 [a0, a1, a2, a3] st z h Q = ni_T d 9 20 [a0, a1, a2, a3] (.int 7 :: st) z h Q := ni_T_p rfl rfl
theorem s9_20 : ni_T d 9 20 [a0, a1, a2, a3] (.int y :: .int x :: st) z h Q = if y ≤ x then ni_T d 9 42 [a0, a1, a2, a3] st z h Q else ni_T d 9 23 [a0, a1, a2, a3] st z h Q := ni_T_b rfl rfl
theorem s9_23 : ni_T d 9 23 [a0, a1, .int x, a3] st z h Q = ni_T d 9 24 [a0, a1, .int x, a3] (.int x :: st) z h Q := ni_T_p rfl rfl
theorem s9_24 : ni_T d 9 24 [a0, .int x, a2, a3] st z h Q = ni_T d 9 25 [a0, .int x, a2, a3] (.int x :: st) z h Q := ni_T_p rfl rfl
theorem s9_25 : ni_T d 9 25 [a0, a1, a2, a3] (.int y :: .int x :: st) z h Q = if x = y then ni_T d 9 28 [a0, a1, a2, a3] st z h Q else ni_T d 9 30 [a0, a1, a2, a3] st z h Q := ni_T_b rfl rfl
theorem s9_28 : ni_T d 9 28 [a0, a1, a2, a3] st z h Q = ni_T d 9 29 [a0, a1, a2, a3] (.int 1 :: st) z h Q := ni_T_p rfl rfl
theorem s9_29 : ni_T d 9 29 [a0, a1, a2, a3] [.int x] z h Q = (narrow .boolean (.int x) = .int x ∧ Q (some (.int x)) z h) := ni_T_z rfl rfl
theorem s9_30 : ni_T d 9 30 [a0, a1, a2, a3] st z h Q = ni_T d 9 33 [a0, a1, a2, a3] (.ref 1001 :: st) z h Q := ni_T_hse rfl rfl rfl rfl
theorem s9_33 : ni_T d 9 33 [a0, a1, .int x, a3] st z h Q = ni_T d 9 34 [a0, a1, .int x, a3] (.int x :: st) z h Q := ni_T_p rfl rfl
theorem s9_34 : ni_T d 9 34 [a0, a1, a2, a3] (.int x :: .ref o :: st) z h Q = (ni_okI (h o) x = true ∧ ni_T d 9 35 [a0, a1, a2, a3] (.int (ni_gi (h o) x) :: st) z h Q) := ni_T_iald rfl
theorem s9_35 : ni_T d 9 35 [a0, a1, a2, a3] (.int x :: st) z h Q = ni_T d 9 36 [a0, ni_kl a1, .int x, a3] st z h Q := ni_T_p rfl rfl
theorem s9_36 : ni_T d 9 36 [a0, a1, a2, .int x] st z h Q = ni_T d 9 39 [a0, a1, ni_kl a2, .int (x + 1)] st z h Q := ni_T_p rfl rfl
theorem s9_39 : ni_T d 9 39 [a0, a1, a2, a3] st z h Q = ni_T d 9 7 [a0, a1, a2, a3] st z h Q := ni_T_p rfl rfl
theorem s9_42 : ni_T d 9 42 [a0, a1, a2, a3] st z h Q = ni_T d 9 43 [a0, a1, a2, a3] (.int 0 :: st) z h Q := ni_T_p rfl rfl
theorem s9_43 : ni_T d 9 43 [a0, a1, a2, a3] [.int x] z h Q = (narrow .boolean (.int x) = .int x ∧ Q (some (.int x)) z h) := ni_T_z rfl rfl
theorem s10_0 : ni_T d 10 0 [.ref o, a1] st z h Q = ni_T d 10 1 [.ref o, a1] (.ref o :: st) z h Q := ni_T_p rfl rfl
theorem s10_1 : ni_T d 10 1 [a0, a1] (.ref o :: st) z h Q = (ni_is (h o) 1 1 = true ∧ ni_T d 10 4 [a0, a1] (ni_gv (h o) 1 :: st) z h Q) := ni_T_getf rfl
theorem s10_4_2 : ni_T d 10 4 [a0, a1] (.int 2 :: st) z h Q = ni_T d 10 40 [a0, a1] st z h Q := ni_T_p rfl rfl
theorem s10_4_3 : ni_T d 10 4 [a0, a1] (.int 3 :: st) z h Q = ni_T d 10 40 [a0, a1] st z h Q := ni_T_p rfl rfl
theorem s10_4_4 : ni_T d 10 4 [a0, a1] (.int 4 :: st) z h Q = ni_T d 10 58 [a0, a1] st z h Q := ni_T_p rfl rfl
theorem s10_4_5 : ni_T d 10 4 [a0, a1] (.int 5 :: st) z h Q = ni_T d 10 58 [a0, a1] st z h Q := ni_T_p rfl rfl
theorem s10_4_6 : ni_T d 10 4 [a0, a1] (.int 6 :: st) z h Q = ni_T d 10 49 [a0, a1] st z h Q := ni_T_p rfl rfl
theorem s10_4_d (hx : x.toInt < 2 ∨ 6 < x.toInt) : ni_T d 10 4 [a0, a1] (.int x :: st) z h Q = ni_T d 10 58 [a0, a1] st z h Q := ni_T_tsw rfl hx (by decide) rfl
theorem s10_40 : ni_T d 10 40 [a0, a1] st z h Q = ni_T d 10 41 [a0, a1] (.int 4 :: st) z h Q := ni_T_p rfl rfl
theorem s10_41 : ni_T d 10 41 [a0, .int x] st z h Q = ni_T d 10 42 [a0, .int x] (.int x :: st) z h Q := ni_T_p rfl rfl
theorem s10_42 : ni_T d 10 42 [a0, a1] (.int y :: .int x :: st) z h Q = ni_T d 10 43 [a0, a1] (.int (x * y) :: st) z h Q := ni_T_p rfl rfl
theorem s10_43 : ni_T d 10 43 [.ref o, a1] st z h Q = ni_T d 10 44 [.ref o, a1] (.ref o :: st) z h Q := ni_T_p rfl rfl
theorem s10_44 : ni_T d 10 44 [a0, a1] (.ref o :: st) z h Q = (ni_is (h o) 1 2 = true ∧ ni_T d 10 47 [a0, a1] (ni_gv (h o) 2 :: st) z h Q) := ni_T_getf rfl
theorem s10_47 : ni_T d 10 47 [a0, a1] (.int y :: .int x :: st) z h Q = ni_T d 10 48 [a0, a1] (.int (x + y) :: st) z h Q := ni_T_p rfl rfl
theorem s10_48 : ni_T d 10 48 [a0, a1] [.int x] z h Q = Q (some (.int x)) z h := ni_T_i rfl rfl
theorem s10_49 : ni_T d 10 49 [a0, a1] st z h Q = ni_T d 10 50 [a0, a1] (.int 4 :: st) z h Q := ni_T_p rfl rfl
theorem s10_50 : ni_T d 10 50 [a0, .int x] st z h Q = ni_T d 10 51 [a0, .int x] (.int x :: st) z h Q := ni_T_p rfl rfl
theorem s10_51 : ni_T d 10 51 [a0, a1] (.int y :: .int x :: st) z h Q = ni_T d 10 52 [a0, a1] (.int (x * y) :: st) z h Q := ni_T_p rfl rfl
theorem s10_52 : ni_T d 10 52 [.ref o, a1] st z h Q = ni_T d 10 53 [.ref o, a1] (.ref o :: st) z h Q := ni_T_p rfl rfl
theorem s10_53 : ni_T d 10 53 [a0, a1] (.ref o :: st) z h Q = (ni_is (h o) 1 2 = true ∧ ni_T d 10 56 [a0, a1] (ni_gv (h o) 2 :: st) z h Q) := ni_T_getf rfl
theorem s10_56 : ni_T d 10 56 [a0, a1] (.int y :: .int x :: st) z h Q = ni_T d 10 57 [a0, a1] (.int (x - y) :: st) z h Q := ni_T_p rfl rfl
theorem s10_57 : ni_T d 10 57 [a0, a1] [.int x] z h Q = Q (some (.int x)) z h := ni_T_i rfl rfl
theorem s10_58 : ni_T d 10 58 [a0, a1] st z h Q = ni_T d 10 59 [a0, a1] (.int 4 :: st) z h Q := ni_T_p rfl rfl
theorem s10_59 : ni_T d 10 59 [a0, .int x] st z h Q = ni_T d 10 60 [a0, .int x] (.int x :: st) z h Q := ni_T_p rfl rfl
theorem s10_60 : ni_T d 10 60 [a0, a1] (.int y :: .int x :: st) z h Q = ni_T d 10 61 [a0, a1] (.int (x * y) :: st) z h Q := ni_T_p rfl rfl
theorem s10_61 : ni_T d 10 61 [a0, a1] [.int x] z h Q = Q (some (.int x)) z h := ni_T_i rfl rfl
theorem s11_0 : ni_T d 11 0 [.ref o] st z h Q = ni_T d 11 1 [.ref o] (.ref o :: st) z h Q := ni_T_p rfl rfl
theorem s11_1 : ni_T d 11 1 [a0] (.ref o :: st) z h Q = (ni_is (h o) 1 1 = true ∧ ni_T d 11 4 [a0] (ni_gv (h o) 1 :: st) z h Q) := ni_T_getf rfl
theorem s11_4_3 : ni_T d 11 4 [a0] (.int 3 :: st) z h Q = ni_T d 11 36 [a0] st z h Q := ni_T_p rfl rfl
theorem s11_4_4 : ni_T d 11 4 [a0] (.int 4 :: st) z h Q = ni_T d 11 38 [a0] st z h Q := ni_T_p rfl rfl
theorem s11_4_5 : ni_T d 11 4 [a0] (.int 5 :: st) z h Q = ni_T d 11 48 [a0] st z h Q := ni_T_p rfl rfl
theorem s11_4_6 : ni_T d 11 4 [a0] (.int 6 :: st) z h Q = ni_T d 11 38 [a0] st z h Q := ni_T_p rfl rfl
theorem s11_4_d (hx : x.toInt < 3 ∨ 6 < x.toInt) : ni_T d 11 4 [a0] (.int x :: st) z h Q = ni_T d 11 50 [a0] st z h Q := ni_T_tsw rfl hx (by decide) rfl
theorem s11_36 : ni_T d 11 36 [a0] st z h Q = ni_T d 11 37 [a0] (.int 2 :: st) z h Q := ni_T_p rfl rfl
theorem s11_37 : ni_T d 11 37 [a0] [.int x] z h Q = Q (some (.int x)) z h := ni_T_i rfl rfl
theorem s11_38 : ni_T d 11 38 [a0] st z h Q = ni_T d 11 39 [a0] (.int 3 :: st) z h Q := ni_T_p rfl rfl
theorem s11_39 : ni_T d 11 39 [.ref o] st z h Q = ni_T d 11 40 [.ref o] (.ref o :: st) z h Q := ni_T_p rfl rfl
theorem s11_40 : ni_T d 11 40 [a0] (.ref o :: st) z h Q = (ni_is (h o) 1 5 = true ∧ ni_T d 11 43 [a0] (ni_gv (h o) 5 :: st) z h Q) := ni_T_getf rfl
theorem s11_43 : ni_T d 11 43 [a0] st z h Q = ni_T d 11 45 [a0] (.int 10 :: st) z h Q := ni_T_p rfl rfl
theorem s11_45 : ni_T d 11 45 [a0] (.int y :: .int x :: st) z h Q = (¬ y = 0 ∧ ni_T d 11 46 [a0] (.int (x / y) :: st) z h Q) := ni_T_idiv rfl
theorem s11_46 : ni_T d 11 46 [a0] (.int y :: .int x :: st) z h Q = ni_T d 11 47 [a0] (.int (x + y) :: st) z h Q := ni_T_p rfl rfl
theorem s11_47 : ni_T d 11 47 [a0] [.int x] z h Q = Q (some (.int x)) z h := ni_T_i rfl rfl
theorem s11_48 : ni_T d 11 48 [a0] st z h Q = ni_T d 11 49 [a0] (.int 5 :: st) z h Q := ni_T_p rfl rfl
theorem s11_49 : ni_T d 11 49 [a0] [.int x] z h Q = Q (some (.int x)) z h := ni_T_i rfl rfl
theorem s11_50 : ni_T d 11 50 [a0] st z h Q = ni_T d 11 51 [a0] (.int 3 :: st) z h Q := ni_T_p rfl rfl
theorem s11_51 : ni_T d 11 51 [a0] [.int x] z h Q = Q (some (.int x)) z h := ni_T_i rfl rfl
theorem s12_0 : ni_T d 12 0 [.ref o] st z h Q = ni_T d 12 1 [.ref o] (.ref o :: st) z h Q := ni_T_p rfl rfl
theorem s12_1 : ni_T d 12 1 [a0] (.ref o :: st) z h Q = (ni_is (h o) 1 1 = true ∧ ni_T d 12 4 [a0] (ni_gv (h o) 1 :: st) z h Q) := ni_T_getf rfl
theorem s12_4 : ni_T d 12 4 [a0] st z h Q = ni_T d 12 5 [a0] (.int 1 :: st) z h Q := ni_T_p rfl rfl
theorem s12_5 : ni_T d 12 5 [a0] (.int y :: .int x :: st) z h Q = if x = y then ni_T d 12 16 [a0] st z h Q else ni_T d 12 8 [a0] st z h Q := ni_T_b rfl rfl
theorem s12_8 : ni_T d 12 8 [.ref o] st z h Q = ni_T d 12 9 [.ref o] (.ref o :: st) z h Q := ni_T_p rfl rfl
theorem s12_9 : ni_T d 12 9 [a0] (.ref o :: st) z h Q = (ni_is (h o) 1 1 = true ∧ ni_T d 12 12 [a0] (ni_gv (h o) 1 :: st) z h Q) := ni_T_getf rfl
theorem s12_12 : ni_T d 12 12 [a0] st z h Q = ni_T d 12 13 [a0] (.int 5 :: st) z h Q := ni_T_p rfl rfl
theorem s12_13 : ni_T d 12 13 [a0] (.int y :: .int x :: st) z h Q = if x = y then ni_T d 12 16 [a0] st z h Q else ni_T d 12 27 [a0] st z h Q := ni_T_b rfl rfl
theorem s12_16 : ni_T d 12 16 [.ref o] st z h Q = ni_T d 12 17 [.ref o] (.ref o :: st) z h Q := ni_T_p rfl rfl
theorem s12_17 : ni_T d 12 17 [a0] (.ref o :: st) z h Q = (ni_is (h o) 1 2 = true ∧ ni_T d 12 20 [a0] (ni_gv (h o) 2 :: st) z h Q) := ni_T_getf rfl
theorem s12_20 : ni_T d 12 20 [a0] st z h Q = ni_T d 12 21 [a0] (.int 3 :: st) z h Q := ni_T_p rfl rfl
theorem s12_21 : ni_T d 12 21 [a0] (.int y :: .int x :: st) z h Q = (¬ y = 0 ∧ ni_T d 12 22 [a0] (.int (x - x / y * y) :: st) z h Q) := ni_T_irem rfl
theorem s12_22 : ni_T d 12 22 [a0] st z h Q = ni_T d 12 23 [a0] (.int 1 :: st) z h Q := ni_T_p rfl rfl
theorem s12_23 : ni_T d 12 23 [a0] (.int y :: .int x :: st) z h Q = ni_T d 12 24 [a0] (.int (x + y) :: st) z h Q := ni_T_p rfl rfl
theorem s12_24 : ni_T d 12 24 [a0] st z h Q = ni_T d 12 28 [a0] st z h Q := ni_T_p rfl rfl
theorem s12_27 : ni_T d 12 27 [a0] st z h Q = ni_T d 12 28 [a0] (.int 4 :: st) z h Q := ni_T_p rfl rfl
theorem s12_28 : ni_T d 12 28 [a0] [.int x] z h Q = Q (some (.int x)) z h := ni_T_i rfl rfl
theorem s13_0 : ni_T d 13 0 [a0, .int x] st z h Q = ni_T d 13 1 [a0, .int x] (.int x :: st) z h Q := ni_T_p rfl rfl
theorem s13_1_0 : ni_T d 13 1 [a0, a1] (.int 0 :: st) z h Q = ni_T d 13 44 [a0, a1] st z h Q := ni_T_p rfl rfl
theorem s13_1_1 : ni_T d 13 1 [a0, a1] (.int 1 :: st) z h Q = ni_T d 13 49 [a0, a1] st z h Q := ni_T_p rfl rfl
theorem s13_1_2 : ni_T d 13 1 [a0, a1] (.int 2 :: st) z h Q = ni_T d 13 54 [a0, a1] st z h Q := ni_T_p rfl rfl
theorem s13_1_3 : ni_T d 13 1 [a0, a1] (.int 3 :: st) z h Q = ni_T d 13 65 [a0, a1] st z h Q := ni_T_p rfl rfl
theorem s13_1_4 : ni_T d 13 1 [a0, a1] (.int 4 :: st) z h Q = ni_T d 13 65 [a0, a1] st z h Q := ni_T_p rfl rfl
theorem s13_1_5 : ni_T d 13 1 [a0, a1] (.int 5 :: st) z h Q = ni_T d 13 65 [a0, a1] st z h Q := ni_T_p rfl rfl
theorem s13_1_6 : ni_T d 13 1 [a0, a1] (.int 6 :: st) z h Q = ni_T d 13 60 [a0, a1] st z h Q := ni_T_p rfl rfl
theorem s13_1_d (hx : x.toInt < 0 ∨ 6 < x.toInt) : ni_T d 13 1 [a0, a1] (.int x :: st) z h Q = ni_T d 13 65 [a0, a1] st z h Q := ni_T_tsw rfl hx (by decide) rfl
theorem s13_44 : ni_T d 13 44 [.ref o, a1] st z h Q = ni_T d 13 45 [.ref o, a1] (.ref o :: st) z h Q := ni_T_p rfl rfl
theorem s13_45 : ni_T d 13 45 [a0, a1] (.ref o :: st) z h Q = (ni_is (h o) 1 5 = true ∧ ni_T d 13 48 [a0, a1] (ni_gv (h o) 5 :: st) z h Q) := ni_T_getf rfl
theorem s13_48 : ni_T d 13 48 [a0, a1] [.int x] z h Q = Q (some (.int x)) z h := ni_T_i rfl rfl
theorem s13_49 : ni_T d 13 49 [.ref o, a1] st z h Q = ni_T d 13 50 [.ref o, a1] (.ref o :: st) z h Q := ni_T_p rfl rfl
theorem s13_50 : ni_T (d + 1) 13 50 [a0, a1] (.ref o :: st) z h Q = (ni_rc (h o) 1 = true ∧ Nat.ble (ni_sw st) 8 = true ∧ ni_T d 12 0 [.ref o] [] z h (ni_K (d + 1) 13 53 [a0, a1] st z Q)) := ni_T_ce [.ref o] rfl rfl rfl rfl rfl rfl rfl rfl rfl
theorem s13_53 : ni_T d 13 53 [a0, a1] [.int x] z h Q = Q (some (.int x)) z h := ni_T_i rfl rfl
theorem s13_54 : ni_T d 13 54 [.ref o, a1] st z h Q = ni_T d 13 55 [.ref o, a1] (.ref o :: st) z h Q := ni_T_p rfl rfl
theorem s13_55 : ni_T d 13 55 [a0, a1] st z h Q = ni_T d 13 56 [a0, a1] (.int 5 :: st) z h Q := ni_T_p rfl rfl
theorem s13_56 : ni_T (d + 1) 13 56 [a0, a1] (.int x0 :: .ref o :: st) z h Q = (ni_rc (h o) 1 = true ∧ Nat.ble (ni_sw st) 8 = true ∧ ni_T d 10 0 [.ref o, .int x0] [] z h (ni_K (d + 1) 13 59 [a0, a1] st z Q)) := ni_T_ce [.ref o, .int x0] rfl rfl rfl rfl rfl rfl rfl rfl rfl
theorem s13_59 : ni_T d 13 59 [a0, a1] [.int x] z h Q = Q (some (.int x)) z h := ni_T_i rfl rfl
theorem s13_60 : ni_T d 13 60 [.ref o, a1] st z h Q = ni_T d 13 61 [.ref o, a1] (.ref o :: st) z h Q := ni_T_p rfl rfl
theorem s13_61 : ni_T d 13 61 [a0, a1] (.ref o :: st) z h Q = (ni_is (h o) 1 2 = true ∧ ni_T d 13 64 [a0, a1] (ni_gv (h o) 2 :: st) z h Q) := ni_T_getf rfl
theorem s13_64 : ni_T d 13 64 [a0, a1] [.int x] z h Q = Q (some (.int x)) z h := ni_T_i rfl rfl
theorem s13_65 : ni_T d 13 65 [.ref o, a1] st z h Q = ni_T d 13 66 [.ref o, a1] (.ref o :: st) z h Q := ni_T_p rfl rfl
theorem s13_66 : ni_T (d + 1) 13 66 [a0, a1] (.ref o :: st) z h Q = (ni_rc (h o) 1 = true ∧ Nat.ble (ni_sw st) 8 = true ∧ ni_T d 11 0 [.ref o] [] z h (ni_K (d + 1) 13 69 [a0, a1] st z Q)) := ni_T_ce [.ref o] rfl rfl rfl rfl rfl rfl rfl rfl rfl
theorem s13_69 : ni_T d 13 69 [a0, a1] [.int x] z h Q = Q (some (.int x)) z h := ni_T_i rfl rfl
theorem s14_0 : ni_T d 14 0 [.ref o] st z h Q = ni_T d 14 1 [.ref o] (.ref o :: st) z h Q := ni_T_p rfl rfl
theorem s14_1 : ni_T d 14 1 [a0] (.ref o :: st) z h Q = ni_T d 14 2 [a0] (.ref o :: .ref o :: st) z h Q := ni_T_p rfl rfl
theorem s14_1i : ni_T d 14 1 [a0] (.int x :: st) z h Q = ni_T d 14 2 [a0] (.int x :: .int x :: st) z h Q := ni_T_p rfl rfl
theorem s14_2 : ni_T d 14 2 [a0] (.ref o :: st) z h Q = (ni_is (h o) 1 3 = true ∧ ni_T d 14 5 [a0] (ni_gv (h o) 3 :: st) z h Q) := ni_T_getf rfl
theorem s14_5 : ni_T d 14 5 [a0] st z h Q = ni_T d 14 6 [a0] (.int 1 :: st) z h Q := ni_T_p rfl rfl
theorem s14_6 : ni_T d 14 6 [a0] (.int y :: .int x :: st) z h Q = ni_T d 14 7 [a0] (.int (x + y) :: st) z h Q := ni_T_p rfl rfl
theorem s14_7 : ni_T d 14 7 [a0] (b0 :: .ref o :: st) z h Q = ((Nat.ble 1 7 && ni_is (h o) 1 3 && ni_fit (.int) b0) = true ∧ ni_T d 14 10 [a0] st z (ni_up h o (ni_pv (h o) 3 b0)) Q) := ni_T_putf rfl
theorem s14_10 : ni_T d 14 10 [.ref o] st z h Q = ni_T d 14 11 [.ref o] (.ref o :: st) z h Q := ni_T_p rfl rfl
theorem s14_11 : ni_T d 14 11 [a0] (.ref o :: st) z h Q = (ni_is (h o) 1 3 = true ∧ ni_T d 14 14 [a0] (ni_gv (h o) 3 :: st) z h Q) := ni_T_getf rfl
theorem s14_14 : ni_T d 14 14 [a0] st z h Q = ni_T d 14 15 [a0] (.int 4 :: st) z h Q := ni_T_p rfl rfl
theorem s14_15 : ni_T d 14 15 [a0] (.int y :: .int x :: st) z h Q = if x ≤ y then ni_T d 14 33 [a0] st z h Q else ni_T d 14 18 [a0] st z h Q := ni_T_b rfl rfl
theorem s14_18 : ni_T d 14 18 [.ref o] st z h Q = ni_T d 14 19 [.ref o] (.ref o :: st) z h Q := ni_T_p rfl rfl
theorem s14_19 : ni_T d 14 19 [a0] st z h Q = ni_T d 14 20 [a0] (.int 1 :: st) z h Q := ni_T_p rfl rfl
theorem s14_20 : ni_T d 14 20 [a0] (b0 :: .ref o :: st) z h Q = ((Nat.ble 1 7 && ni_is (h o) 1 3 && ni_fit (.int) b0) = true ∧ ni_T d 14 23 [a0] st z (ni_up h o (ni_pv (h o) 3 b0)) Q) := ni_T_putf rfl
theorem s14_23 : ni_T d 14 23 [.ref o] st z h Q = ni_T d 14 24 [.ref o] (.ref o :: st) z h Q := ni_T_p rfl rfl
theorem s14_24 : ni_T d 14 24 [a0] (.ref o :: st) z h Q = ni_T d 14 25 [a0] (.ref o :: .ref o :: st) z h Q := ni_T_p rfl rfl
theorem s14_24i : ni_T d 14 24 [a0] (.int x :: st) z h Q = ni_T d 14 25 [a0] (.int x :: .int x :: st) z h Q := ni_T_p rfl rfl
theorem s14_25 : ni_T d 14 25 [a0] (.ref o :: st) z h Q = (ni_is (h o) 1 4 = true ∧ ni_T d 14 28 [a0] (ni_gv (h o) 4 :: st) z h Q) := ni_T_getf rfl
theorem s14_28 : ni_T d 14 28 [a0] st z h Q = ni_T d 14 29 [a0] (.int 1 :: st) z h Q := ni_T_p rfl rfl
theorem s14_29 : ni_T d 14 29 [a0] (.int y :: .int x :: st) z h Q = ni_T d 14 30 [a0] (.int (x + y) :: st) z h Q := ni_T_p rfl rfl
theorem s14_30 : ni_T d 14 30 [a0] (b0 :: .ref o :: st) z h Q = ((Nat.ble 1 7 && ni_is (h o) 1 4 && ni_fit (.int) b0) = true ∧ ni_T d 14 33 [a0] st z (ni_up h o (ni_pv (h o) 4 b0)) Q) := ni_T_putf rfl
theorem s14_33 : ni_T d 14 33 [a0] [] z h Q = Q none z h := ni_T_v rfl rfl
theorem s15_0 : ni_T d 15 0 [.ref o] st z h Q = ni_T d 15 1 [.ref o] (.ref o :: st) z h Q := ni_T_p rfl rfl
theorem s15_1 : ni_T (d + 1) 15 1 [a0] (.ref o :: st) z h Q = (Nat.ble (ni_sw st) 8 = true ∧ ni_T (d + 1) 15 4 [a0] st z h Q) := ni_T_oic rfl rfl
theorem s15_4 : ni_T d 15 4 [.ref o] st z h Q = ni_T d 15 5 [.ref o] (.ref o :: st) z h Q := ni_T_p rfl rfl
theorem s15_5 : ni_T d 15 5 [a0] st z h Q = ni_T d 15 7 [a0] (.int 32 :: st) z h Q := ni_T_p rfl rfl
theorem s15_7 : ni_T d 15 7 [a0] (.int x :: st) z h Q = ((ni_ok z.1 [a0] st h && Nat.ble (z.1 + 1) 900 && !decide (x < 0) && Nat.ble x.toNatClampNeg 65536) = true ∧ ni_T d 15 9 [a0] (.ref z.1 :: st) (z.1 + 1, z.2 + x.toNatClampNeg) (ni_up h z.1 (.inl (0, x.toNatClampNeg, .inl (fun _ => 0)))) Q) := ni_T_ne rfl rfl rfl rfl rfl rfl rfl
theorem s15_9 : ni_T d 15 9 [a0] (b0 :: .ref o :: st) z h Q = ((Nat.ble 2 7 && ni_is (h o) 2 0 && ni_fit (.array .int) b0) = true ∧ ni_T d 15 12 [a0] st z (ni_up h o (ni_pv (h o) 0 b0)) Q) := ni_T_putf rfl
theorem s15_12 : ni_T d 15 12 [.ref o] st z h Q = ni_T d 15 13 [.ref o] (.ref o :: st) z h Q := ni_T_p rfl rfl
theorem s15_13 : ni_T d 15 13 [a0] st z h Q = ni_T d 15 15 [a0] (.int 32 :: st) z h Q := ni_T_p rfl rfl
theorem s15_15 : ni_T d 15 15 [a0] (.int x :: st) z h Q = ((ni_ok z.1 [a0] st h && Nat.ble (z.1 + 1) 900 && !decide (x < 0) && Nat.ble x.toNatClampNeg 65536) = true ∧ ni_T d 15 17 [a0] (.ref z.1 :: st) (z.1 + 1, z.2 + x.toNatClampNeg) (ni_up h z.1 (.inl (0, x.toNatClampNeg, .inl (fun _ => 0)))) Q) := ni_T_ne rfl rfl rfl rfl rfl rfl rfl
theorem s15_17 : ni_T d 15 17 [a0] (b0 :: .ref o :: st) z h Q = ((Nat.ble 2 7 && ni_is (h o) 2 1 && ni_fit (.array .int) b0) = true ∧ ni_T d 15 20 [a0] st z (ni_up h o (ni_pv (h o) 1 b0)) Q) := ni_T_putf rfl
theorem s15_20 : ni_T d 15 20 [.ref o] st z h Q = ni_T d 15 21 [.ref o] (.ref o :: st) z h Q := ni_T_p rfl rfl
theorem s15_21 : ni_T d 15 21 [a0] st z h Q = ni_T d 15 23 [a0] (.int 32 :: st) z h Q := ni_T_p rfl rfl
theorem s15_23 : ni_T d 15 23 [a0] (.int x :: st) z h Q = ((ni_ok z.1 [a0] st h && Nat.ble (z.1 + 1) 900 && !decide (x < 0) && Nat.ble x.toNatClampNeg 65536) = true ∧ ni_T d 15 25 [a0] (.ref z.1 :: st) (z.1 + 1, z.2 + x.toNatClampNeg) (ni_up h z.1 (.inl (0, x.toNatClampNeg, .inl (fun _ => 0)))) Q) := ni_T_ne rfl rfl rfl rfl rfl rfl rfl
theorem s15_25 : ni_T d 15 25 [a0] (b0 :: .ref o :: st) z h Q = ((Nat.ble 2 7 && ni_is (h o) 2 2 && ni_fit (.array .int) b0) = true ∧ ni_T d 15 28 [a0] st z (ni_up h o (ni_pv (h o) 2 b0)) Q) := ni_T_putf rfl
theorem s15_28 : ni_T d 15 28 [.ref o] st z h Q = ni_T d 15 29 [.ref o] (.ref o :: st) z h Q := ni_T_p rfl rfl
theorem s15_29 : ni_T d 15 29 [a0] st z h Q = ni_T d 15 30 [a0] (.int 5 :: st) z h Q := ni_T_p rfl rfl
theorem s15_30 : ni_T d 15 30 [a0] (.int x :: st) z h Q = ((ni_ok z.1 [a0] st h && Nat.ble (z.1 + 1) 900 && !decide (x < 0) && Nat.ble x.toNatClampNeg 65536) = true ∧ ni_T d 15 32 [a0] (.ref z.1 :: st) (z.1 + 1, z.2 + x.toNatClampNeg) (ni_up h z.1 (.inl (0, x.toNatClampNeg, .inl (fun _ => 0)))) Q) := ni_T_ne rfl rfl rfl rfl rfl rfl rfl
theorem s15_32 : ni_T d 15 32 [a0] (b0 :: .ref o :: st) z h Q = ((Nat.ble 2 7 && ni_is (h o) 2 3 && ni_fit (.array .int) b0) = true ∧ ni_T d 15 35 [a0] st z (ni_up h o (ni_pv (h o) 3 b0)) Q) := ni_T_putf rfl
theorem s15_35 : ni_T d 15 35 [.ref o] st z h Q = ni_T d 15 36 [.ref o] (.ref o :: st) z h Q := ni_T_p rfl rfl
theorem s15_36 : ni_T d 15 36 [a0] st z h Q = ni_T d 15 39 [a0] (.int 160 :: st) z h Q := ni_T_p rfl rfl
theorem s15_39 : ni_T d 15 39 [a0] (.int x :: st) z h Q = ((ni_ok z.1 [a0] st h && Nat.ble (z.1 + 1) 900 && !decide (x < 0) && Nat.ble x.toNatClampNeg 65536) = true ∧ ni_T d 15 41 [a0] (.ref z.1 :: st) (z.1 + 1, z.2 + x.toNatClampNeg) (ni_up h z.1 (.inl (0, x.toNatClampNeg, .inl (fun _ => 0)))) Q) := ni_T_ne rfl rfl rfl rfl rfl rfl rfl
theorem s15_41 : ni_T d 15 41 [a0] (b0 :: .ref o :: st) z h Q = ((Nat.ble 2 7 && ni_is (h o) 2 4 && ni_fit (.array .int) b0) = true ∧ ni_T d 15 44 [a0] st z (ni_up h o (ni_pv (h o) 4 b0)) Q) := ni_T_putf rfl
theorem s15_44 : ni_T d 15 44 [.ref o] st z h Q = ni_T d 15 45 [.ref o] (.ref o :: st) z h Q := ni_T_p rfl rfl
theorem s15_45 : ni_T d 15 45 [a0] st z h Q = ni_T d 15 46 [a0] (.int 0 :: st) z h Q := ni_T_p rfl rfl
theorem s15_46 : ni_T d 15 46 [a0] (b0 :: .ref o :: st) z h Q = ((Nat.ble 2 7 && ni_is (h o) 2 5 && ni_fit (.int) b0) = true ∧ ni_T d 15 49 [a0] st z (ni_up h o (ni_pv (h o) 5 b0)) Q) := ni_T_putf rfl
theorem s15_49 : ni_T d 15 49 [.ref o] st z h Q = ni_T d 15 50 [.ref o] (.ref o :: st) z h Q := ni_T_p rfl rfl
theorem s15_50 : ni_T d 15 50 [a0] st z h Q = ni_T d 15 51 [a0] (.int 0 :: st) z h Q := ni_T_p rfl rfl
theorem s15_51 : ni_T d 15 51 [a0] (b0 :: .ref o :: st) z h Q = ((Nat.ble 2 7 && ni_is (h o) 2 6 && ni_fit (.int) b0) = true ∧ ni_T d 15 54 [a0] st z (ni_up h o (ni_pv (h o) 6 b0)) Q) := ni_T_putf rfl
theorem s15_54 : ni_T d 15 54 [a0] [] z h Q = Q none z h := ni_T_v rfl rfl
theorem s16_0 : ni_T d 16 0 [.ref o, a1, a2, a3] st z h Q = ni_T d 16 1 [.ref o, a1, a2, a3] (.ref o :: st) z h Q := ni_T_p rfl rfl
theorem s16_1 : ni_T d 16 1 [a0, .ref o, a2, a3] st z h Q = ni_T d 16 2 [a0, .ref o, a2, a3] (.ref o :: st) z h Q := ni_T_p rfl rfl
theorem s16_1N : ni_T d 16 1 [a0, .null, a2, a3] st z h Q = ni_T d 16 2 [a0, .null, a2, a3] (.null :: st) z h Q := ni_T_p rfl rfl
theorem s16_2 : ni_T (d + 1) 16 2 [a0, a1, a2, a3] (.ref o :: st) z h Q = (ni_rc (h o) 5 = true ∧ Nat.ble (ni_sw st) 8 = true ∧ ni_T d 53 0 [.ref o, .retAddr 0, .retAddr 0] [] z h (ni_K (d + 1) 16 5 [a0, a1, a2, a3] st z Q)) := ni_T_ce [.ref o] rfl rfl rfl rfl rfl rfl rfl rfl rfl
theorem s16_5 : ni_T d 16 5 [a0, a1, a2, a3] (b0 :: .ref o :: st) z h Q = ((Nat.ble 2 7 && ni_is (h o) 2 5 && ni_fit (.int) b0) = true ∧ ni_T d 16 8 [a0, a1, a2, a3] st z (ni_up h o (ni_pv (h o) 5 b0)) Q) := ni_T_putf rfl
theorem s16_8 : ni_T d 16 8 [a0, a1, a2, a3] st z h Q = ni_T d 16 9 [a0, a1, a2, a3] (.int 0 :: st) z h Q := ni_T_p rfl rfl
theorem s16_9 : ni_T d 16 9 [a0, a1, a2, a3] (.int x :: st) z h Q = ni_T d 16 10 [a0, ni_kl a1, .int x, a3] st z h Q := ni_T_p rfl rfl
theorem s16_10 : ni_T d 16 10 [a0, a1, .int x, a3] st z h Q = ni_T d 16 11 [a0, a1, .int x, a3] (.int x :: st) z h Q := ni_T_p rfl rfl
theorem s16_11 : ni_T d 16 11 [a0, a1, a2, a3] st z h Q = ni_T d 16 12 [a0, a1, a2, a3] (.int 5 :: st) z h Q := ni_T_p rfl rfl
theorem s16_12 : ni_T d 16 12 [a0, a1, a2, a3] (.int y :: .int x :: st) z h Q = if y ≤ x then ni_T d 16 67 [a0, a1, a2, a3] st z h Q else ni_T d 16 15 [a0, a1, a2, a3] st z h Q := ni_T_b rfl rfl
theorem s16_15 : ni_T d 16 15 [.ref o, a1, a2, a3] st z h Q = ni_T d 16 16 [.ref o, a1, a2, a3] (.ref o :: st) z h Q := ni_T_p rfl rfl
theorem s16_16 : ni_T d 16 16 [a0, a1, a2, a3] (.ref o :: st) z h Q = (ni_is (h o) 2 3 = true ∧ ni_T d 16 19 [a0, a1, a2, a3] (ni_gv (h o) 3 :: st) z h Q) := ni_T_getf rfl
theorem s16_19 : ni_T d 16 19 [a0, a1, .int x, a3] st z h Q = ni_T d 16 20 [a0, a1, .int x, a3] (.int x :: st) z h Q := ni_T_p rfl rfl
theorem s16_20 : ni_T d 16 20 [a0, a1, a2, a3] st z h Q = ni_T d 16 21 [a0, a1, a2, a3] (.int 0 :: st) z h Q := ni_T_p rfl rfl
theorem s16_21 : ni_T d 16 21 [a0, a1, a2, a3] (.int y :: .int x :: .ref o :: st) z h Q = (ni_okS (h o) x = true ∧ ni_T d 16 22 [a0, a1, a2, a3] st z (ni_up h o (ni_pi (h o) x y)) Q) := ni_T_iast rfl
theorem s16_22 : ni_T d 16 22 [a0, a1, a2, a3] st z h Q = ni_T d 16 23 [a0, a1, a2, a3] (.int 0 :: st) z h Q := ni_T_p rfl rfl
theorem s16_23 : ni_T d 16 23 [a0, a1, a2, a3] (.int x :: st) z h Q = ni_T d 16 24 [a0, a1, ni_kl a2, .int x] st z h Q := ni_T_p rfl rfl
theorem s16_24 : ni_T d 16 24 [a0, a1, a2, .int x] st z h Q = ni_T d 16 25 [a0, a1, a2, .int x] (.int x :: st) z h Q := ni_T_p rfl rfl
theorem s16_25 : ni_T d 16 25 [a0, a1, a2, a3] st z h Q = ni_T d 16 26 [a0, a1, a2, a3] (.int 5 :: st) z h Q := ni_T_p rfl rfl
theorem s16_26 : ni_T d 16 26 [a0, a1, a2, a3] (.int y :: .int x :: st) z h Q = if y ≤ x then ni_T d 16 61 [a0, a1, a2, a3] st z h Q else ni_T d 16 29 [a0, a1, a2, a3] st z h Q := ni_T_b rfl rfl
theorem s16_29 : ni_T d 16 29 [a0, a1, a2, .int x] st z h Q = ni_T d 16 30 [a0, a1, a2, .int x] (.int x :: st) z h Q := ni_T_p rfl rfl
theorem s16_30 : ni_T d 16 30 [a0, a1, .int x, a3] st z h Q = ni_T d 16 31 [a0, a1, .int x, a3] (.int x :: st) z h Q := ni_T_p rfl rfl
theorem s16_31 : ni_T d 16 31 [a0, a1, a2, a3] (.int y :: .int x :: st) z h Q = if x = y then ni_T d 16 55 [a0, a1, a2, a3] st z h Q else ni_T d 16 34 [a0, a1, a2, a3] st z h Q := ni_T_b rfl rfl
theorem s16_34 : ni_T d 16 34 [a0, .ref o, a2, a3] st z h Q = ni_T d 16 35 [a0, .ref o, a2, a3] (.ref o :: st) z h Q := ni_T_p rfl rfl
theorem s16_34N : ni_T d 16 34 [a0, .null, a2, a3] st z h Q = ni_T d 16 35 [a0, .null, a2, a3] (.null :: st) z h Q := ni_T_p rfl rfl
theorem s16_35 : ni_T d 16 35 [a0, a1, .int x, a3] st z h Q = ni_T d 16 36 [a0, a1, .int x, a3] (.int x :: st) z h Q := ni_T_p rfl rfl
theorem s16_36 : ni_T d 16 36 [a0, a1, a2, .int x] st z h Q = ni_T d 16 37 [a0, a1, a2, .int x] (.int x :: st) z h Q := ni_T_p rfl rfl
theorem s16_37 : ni_T (d + 1) 16 37 [a0, a1, a2, a3] (.int x1 :: .int x0 :: .ref o :: st) z h Q = (ni_rc (h o) 5 = true ∧ Nat.ble (ni_sw st) 8 = true ∧ ni_T d 58 0 [.ref o, .int x0, .int x1] [] z h (ni_K (d + 1) 16 40 [a0, a1, a2, a3] st z Q)) := ni_T_ce [.ref o, .int x0, .int x1] rfl rfl rfl rfl rfl rfl rfl rfl rfl
theorem s16_40 : ni_T d 16 40 [a0, a1, a2, a3] (.int x :: st) z h Q = if x = 0 then ni_T d 16 55 [a0, a1, a2, a3] st z h Q else ni_T d 16 43 [a0, a1, a2, a3] st z h Q := ni_T_b rfl rfl
theorem s16_43 : ni_T d 16 43 [.ref o, a1, a2, a3] st z h Q = ni_T d 16 44 [.ref o, a1, a2, a3] (.ref o :: st) z h Q := ni_T_p rfl rfl
theorem s16_44 : ni_T d 16 44 [a0, a1, a2, a3] (.ref o :: st) z h Q = (ni_is (h o) 2 3 = true ∧ ni_T d 16 47 [a0, a1, a2, a3] (ni_gv (h o) 3 :: st) z h Q) := ni_T_getf rfl
theorem s16_47 : ni_T d 16 47 [a0, a1, .int x, a3] st z h Q = ni_T d 16 48 [a0, a1, .int x, a3] (.int x :: st) z h Q := ni_T_p rfl rfl
theorem s16_48 : ni_T d 16 48 [a0, a1, a2, a3] (.int x :: .ref o :: st) z h Q = ni_T d 16 49 [a0, a1, a2, a3] (.int x :: .ref o :: .int x :: .ref o :: st) z h Q := ni_T_p rfl rfl
theorem s16_49 : ni_T d 16 49 [a0, a1, a2, a3] (.int x :: .ref o :: st) z h Q = (ni_okI (h o) x = true ∧ ni_T d 16 50 [a0, a1, a2, a3] (.int (ni_gi (h o) x) :: st) z h Q) := ni_T_iald rfl
theorem s16_50 : ni_T d 16 50 [a0, a1, a2, a3] st z h Q = ni_T d 16 51 [a0, a1, a2, a3] (.int 1 :: st) z h Q := ni_T_p rfl rfl
theorem s16_51 : ni_T d 16 51 [a0, a1, a2, .int x] st z h Q = ni_T d 16 52 [a0, a1, a2, .int x] (.int x :: st) z h Q := ni_T_p rfl rfl
theorem s16_52 : ni_T d 16 52 [a0, a1, a2, a3] (.int y :: .int x :: st) z h Q = ni_T d 16 53 [a0, a1, a2, a3] (.int (x <<< (y &&& 31)) :: st) z h Q := ni_T_p rfl rfl
theorem s16_53 : ni_T d 16 53 [a0, a1, a2, a3] (.int y :: .int x :: st) z h Q = ni_T d 16 54 [a0, a1, a2, a3] (.int (x ||| y) :: st) z h Q := ni_T_p rfl rfl
theorem s16_54 : ni_T d 16 54 [a0, a1, a2, a3] (.int y :: .int x :: .ref o :: st) z h Q = (ni_okS (h o) x = true ∧ ni_T d 16 55 [a0, a1, a2, a3] st z (ni_up h o (ni_pi (h o) x y)) Q) := ni_T_iast rfl
theorem s16_55 : ni_T d 16 55 [a0, a1, a2, .int x] st z h Q = ni_T d 16 58 [a0, a1, ni_kl a2, .int (x + 1)] st z h Q := ni_T_p rfl rfl
theorem s16_58 : ni_T d 16 58 [a0, a1, a2, a3] st z h Q = ni_T d 16 24 [a0, a1, a2, a3] st z h Q := ni_T_p rfl rfl
theorem s16_61 : ni_T d 16 61 [a0, a1, .int x, a3] st z h Q = ni_T d 16 64 [a0, ni_kl a1, .int (x + 1), a3] st z h Q := ni_T_p rfl rfl
theorem s16_64 : ni_T d 16 64 [a0, a1, a2, a3] st z h Q = ni_T d 16 10 [a0, a1, a2, a3] st z h Q := ni_T_p rfl rfl
theorem s16_67 : ni_T d 16 67 [.ref o, a1, a2, a3] st z h Q = ni_T d 16 68 [.ref o, a1, a2, a3] (.ref o :: st) z h Q := ni_T_p rfl rfl
theorem s16_68 : ni_T d 16 68 [a0, a1, a2, a3] (.ref o :: st) z h Q = (ni_is (h o) 2 0 = true ∧ ni_T d 16 71 [a0, a1, a2, a3] (ni_gv (h o) 0 :: st) z h Q) := ni_T_getf rfl
theorem s16_71 : ni_T d 16 71 [a0, a1, a2, a3] st z h Q = ni_T d 16 72 [a0, a1, a2, a3] (.int 0 :: st) z h Q := ni_T_p rfl rfl
theorem s16_72 : ni_T d 16 72 [a0, a1, a2, a3] st z h Q = ni_T d 16 73 [a0, a1, a2, a3] (.int 0 :: st) z h Q := ni_T_p rfl rfl
theorem s16_73 : ni_T d 16 73 [a0, a1, a2, a3] (.int y :: .int x :: .ref o :: st) z h Q = (ni_okS (h o) x = true ∧ ni_T d 16 74 [a0, a1, a2, a3] st z (ni_up h o (ni_pi (h o) x y)) Q) := ni_T_iast rfl
theorem s16_74 : ni_T d 16 74 [a0, a1, a2, a3] st z h Q = ni_T d 16 75 [a0, a1, a2, a3] (.int 1 :: st) z h Q := ni_T_p rfl rfl
theorem s16_75 : ni_T d 16 75 [a0, a1, a2, a3] (.int x :: st) z h Q = ni_T d 16 76 [a0, ni_kl a1, .int x, a3] st z h Q := ni_T_p rfl rfl
theorem s16_76 : ni_T d 16 76 [a0, a1, .int x, a3] st z h Q = ni_T d 16 77 [a0, a1, .int x, a3] (.int x :: st) z h Q := ni_T_p rfl rfl
theorem s16_77 : ni_T d 16 77 [.ref o, a1, a2, a3] st z h Q = ni_T d 16 78 [.ref o, a1, a2, a3] (.ref o :: st) z h Q := ni_T_p rfl rfl
theorem s16_78 : ni_T d 16 78 [a0, a1, a2, a3] (.ref o :: st) z h Q = (ni_is (h o) 2 5 = true ∧ ni_T d 16 81 [a0, a1, a2, a3] (ni_gv (h o) 5 :: st) z h Q) := ni_T_getf rfl
theorem s16_81 : ni_T d 16 81 [a0, a1, a2, a3] (.int y :: .int x :: st) z h Q = if y < x then ni_T d 16 122 [a0, a1, a2, a3] st z h Q else ni_T d 16 84 [a0, a1, a2, a3] st z h Q := ni_T_b rfl rfl
theorem s16_84 : ni_T d 16 84 [a0, a1, .int x, a3] st z h Q = ni_T d 16 85 [a0, a1, .int x, a3] (.int x :: st) z h Q := ni_T_p rfl rfl
theorem s16_85 : ni_T d 16 85 [a0, a1, a2, a3] st z h Q = ni_T d 16 87 [a0, a1, a2, a3] (.int 32 :: st) z h Q := ni_T_p rfl rfl
theorem s16_87 : ni_T d 16 87 [a0, a1, a2, a3] (.int y :: .int x :: st) z h Q = if y ≤ x then ni_T d 16 122 [a0, a1, a2, a3] st z h Q else ni_T d 16 90 [a0, a1, a2, a3] st z h Q := ni_T_b rfl rfl
theorem s16_90 : ni_T d 16 90 [a0, a1, .int x, a3] st z h Q = ni_T d 16 91 [a0, a1, .int x, a3] (.int x :: st) z h Q := ni_T_p rfl rfl
theorem s16_91 : ni_T d 16 91 [.ref o, a1, a2, a3] st z h Q = ni_T d 16 92 [.ref o, a1, a2, a3] (.ref o :: st) z h Q := ni_T_p rfl rfl
theorem s16_92 : ni_T d 16 92 [a0, a1, a2, a3] (.ref o :: st) z h Q = (ni_is (h o) 2 5 = true ∧ ni_T d 16 95 [a0, a1, a2, a3] (ni_gv (h o) 5 :: st) z h Q) := ni_T_getf rfl
theorem s16_95 : ni_T (d + 1) 16 95 [a0, a1, a2, a3] (.int x1 :: .int x0 :: st) z h Q = (Nat.ble (ni_sw st) 8 = true ∧ ni_T d 118 0 [.int x0, .int x1] [] z h (ni_K (d + 1) 16 98 [a0, a1, a2, a3] st z Q)) := ni_T_cse [.int x0, .int x1] rfl rfl rfl rfl rfl rfl rfl rfl rfl
theorem s16_98 : ni_T d 16 98 [a0, a1, a2, a3] (.int x :: st) z h Q = if x = 0 then ni_T d 16 116 [a0, a1, a2, a3] st z h Q else ni_T d 16 101 [a0, a1, a2, a3] st z h Q := ni_T_b rfl rfl
theorem s16_101 : ni_T d 16 101 [.ref o, a1, a2, a3] st z h Q = ni_T d 16 102 [.ref o, a1, a2, a3] (.ref o :: st) z h Q := ni_T_p rfl rfl
theorem s16_102 : ni_T d 16 102 [a0, a1, a2, a3] (.ref o :: st) z h Q = (ni_is (h o) 2 0 = true ∧ ni_T d 16 105 [a0, a1, a2, a3] (ni_gv (h o) 0 :: st) z h Q) := ni_T_getf rfl
theorem s16_105 : ni_T d 16 105 [a0, a1, .int x, a3] st z h Q = ni_T d 16 106 [a0, a1, .int x, a3] (.int x :: st) z h Q := ni_T_p rfl rfl
theorem s16_106 : ni_T d 16 106 [.ref o, a1, a2, a3] st z h Q = ni_T d 16 107 [.ref o, a1, a2, a3] (.ref o :: st) z h Q := ni_T_p rfl rfl
theorem s16_107 : ni_T d 16 107 [a0, .ref o, a2, a3] st z h Q = ni_T d 16 108 [a0, .ref o, a2, a3] (.ref o :: st) z h Q := ni_T_p rfl rfl
theorem s16_107N : ni_T d 16 107 [a0, .null, a2, a3] st z h Q = ni_T d 16 108 [a0, .null, a2, a3] (.null :: st) z h Q := ni_T_p rfl rfl
theorem s16_108 : ni_T d 16 108 [a0, a1, a2, a3] (.ref o :: st) z h Q = (ni_is (h o) 5 0 = true ∧ ni_T d 16 111 [a0, a1, a2, a3] (ni_gv (h o) 0 :: st) z h Q) := ni_T_getf rfl
theorem s16_111 : ni_T d 16 111 [a0, a1, .int x, a3] st z h Q = ni_T d 16 112 [a0, a1, .int x, a3] (.int x :: st) z h Q := ni_T_p rfl rfl
theorem s16_112 : ni_T (d + 1) 16 112 [a0, a1, a2, a3] (.int x1 :: .ref o20 :: .ref o :: st) z h Q = (ni_rc (h o) 2 = true ∧ Nat.ble (ni_sw st) 8 = true ∧ ni_T d 17 0 [.ref o, .ref o20, .int x1, .retAddr 0, .retAddr 0, .retAddr 0] [] z h (ni_K (d + 1) 16 115 [a0, a1, a2, a3] st z Q)) := ni_T_ce [.ref o, .ref o20, .int x1] rfl rfl rfl rfl rfl rfl rfl rfl rfl
theorem s16_112N0 : ni_T (d + 1) 16 112 [a0, a1, a2, a3] (.int x1 :: .null :: .ref o :: st) z h Q = (ni_rc (h o) 2 = true ∧ Nat.ble (ni_sw st) 8 = true ∧ ni_T d 17 0 [.ref o, .null, .int x1, .retAddr 0, .retAddr 0, .retAddr 0] [] z h (ni_K (d + 1) 16 115 [a0, a1, a2, a3] st z Q)) := ni_T_ce [.ref o, .null, .int x1] rfl rfl rfl rfl rfl rfl rfl rfl rfl
theorem s16_115 : ni_T d 16 115 [a0, a1, a2, a3] (.int y :: .int x :: .ref o :: st) z h Q = (ni_okS (h o) x = true ∧ ni_T d 16 116 [a0, a1, a2, a3] st z (ni_up h o (ni_pi (h o) x y)) Q) := ni_T_iast rfl
theorem s16_116 : ni_T d 16 116 [a0, a1, .int x, a3] st z h Q = ni_T d 16 119 [a0, ni_kl a1, .int (x + 1), a3] st z h Q := ni_T_p rfl rfl
theorem s16_119 : ni_T d 16 119 [a0, a1, a2, a3] st z h Q = ni_T d 16 76 [a0, a1, a2, a3] st z h Q := ni_T_p rfl rfl
theorem s16_122 : ni_T d 16 122 [a0, a1, a2, a3] [] z h Q = Q none z h := ni_T_v rfl rfl
theorem s17_0 : ni_T d 17 0 [a0, a1, a2, a3, a4, a5] st z h Q = ni_T d 17 2 [a0, a1, a2, a3, a4, a5] (.int 100 :: st) z h Q := ni_T_p rfl rfl
theorem s17_2 : ni_T d 17 2 [a0, a1, a2, a3, a4, a5] (.int x :: st) z h Q = ni_T d 17 3 [a0, a1, ni_kl a2, .int x, a4, a5] st z h Q := ni_T_p rfl rfl
theorem s17_3 : ni_T d 17 3 [a0, a1, a2, a3, a4, a5] st z h Q = ni_T d 17 4 [a0, a1, a2, a3, a4, a5] (.int 0 :: st) z h Q := ni_T_p rfl rfl
theorem s17_4 : ni_T d 17 4 [a0, a1, a2, a3, a4, a5] (.int x :: st) z h Q = ni_T d 17 6 [a0, a1, a2, ni_kl a3, .int x, a5] st z h Q := ni_T_p rfl rfl
theorem s17_6 : ni_T d 17 6 [a0, a1, a2, a3, .int x, a5] st z h Q = ni_T d 17 8 [a0, a1, a2, a3, .int x, a5] (.int x :: st) z h Q := ni_T_p rfl rfl
theorem s17_8 : ni_T d 17 8 [a0, a1, a2, a3, a4, a5] st z h Q = ni_T d 17 9 [a0, a1, a2, a3, a4, a5] (.int 5 :: st) z h Q := ni_T_p rfl rfl
theorem s17_9 : ni_T d 17 9 [a0, a1, a2, a3, a4, a5] (.int y :: .int x :: st) z h Q = if y ≤ x then ni_T d 17 68 [a0, a1, a2, a3, a4, a5] st z h Q else ni_T d 17 12 [a0, a1, a2, a3, a4, a5] st z h Q := ni_T_b rfl rfl
theorem s17_12 : ni_T d 17 12 [a0, a1, .int x, a3, a4, a5] st z h Q = ni_T d 17 13 [a0, a1, .int x, a3, a4, a5] (.int x :: st) z h Q := ni_T_p rfl rfl
theorem s17_13 : ni_T d 17 13 [a0, a1, a2, a3, .int x, a5] st z h Q = ni_T d 17 15 [a0, a1, a2, a3, .int x, a5] (.int x :: st) z h Q := ni_T_p rfl rfl
theorem s17_15 : ni_T d 17 15 [a0, a1, a2, a3, a4, a5] (.int y :: .int x :: st) z h Q = ni_T d 17 16 [a0, a1, a2, a3, a4, a5] (.int (x >>> (y &&& 31)) :: st) z h Q := ni_T_p rfl rfl
theorem s17_16 : ni_T d 17 16 [a0, a1, a2, a3, a4, a5] st z h Q = ni_T d 17 17 [a0, a1, a2, a3, a4, a5] (.int 1 :: st) z h Q := ni_T_p rfl rfl
theorem s17_17 : ni_T d 17 17 [a0, a1, a2, a3, a4, a5] (.int y :: .int x :: st) z h Q = ni_T d 17 18 [a0, a1, a2, a3, a4, a5] (.int (x &&& y) :: st) z h Q := ni_T_p rfl rfl
theorem s17_18 : ni_T d 17 18 [a0, a1, a2, a3, a4, a5] st z h Q = ni_T d 17 19 [a0, a1, a2, a3, a4, a5] (.int 1 :: st) z h Q := ni_T_p rfl rfl
theorem s17_19 : ni_T d 17 19 [a0, a1, a2, a3, a4, a5] (.int y :: .int x :: st) z h Q = if x = y then ni_T d 17 22 [a0, a1, a2, a3, a4, a5] st z h Q else ni_T d 17 62 [a0, a1, a2, a3, a4, a5] st z h Q := ni_T_b rfl rfl
theorem s17_22 : ni_T d 17 22 [.ref o, a1, a2, a3, a4, a5] st z h Q = ni_T d 17 23 [.ref o, a1, a2, a3, a4, a5] (.ref o :: st) z h Q := ni_T_p rfl rfl
theorem s17_23 : ni_T d 17 23 [a0, .ref o, a2, a3, a4, a5] st z h Q = ni_T d 17 24 [a0, .ref o, a2, a3, a4, a5] (.ref o :: st) z h Q := ni_T_p rfl rfl
theorem s17_23N : ni_T d 17 23 [a0, .null, a2, a3, a4, a5] st z h Q = ni_T d 17 24 [a0, .null, a2, a3, a4, a5] (.null :: st) z h Q := ni_T_p rfl rfl
theorem s17_24 : ni_T d 17 24 [a0, a1, .int x, a3, a4, a5] st z h Q = ni_T d 17 25 [a0, a1, .int x, a3, a4, a5] (.int x :: st) z h Q := ni_T_p rfl rfl
theorem s17_25 : ni_T d 17 25 [a0, a1, a2, a3, .int x, a5] st z h Q = ni_T d 17 27 [a0, a1, a2, a3, .int x, a5] (.int x :: st) z h Q := ni_T_p rfl rfl
theorem s17_27 : ni_T (d + 1) 17 27 [a0, a1, a2, a3, a4, a5] (.int x2 :: .int x1 :: .ref o20 :: .ref o :: st) z h Q = (ni_rc (h o) 2 = true ∧ Nat.ble (ni_sw st) 8 = true ∧ ni_T d 18 0 [.ref o, .ref o20, .int x1, .int x2, .retAddr 0, .retAddr 0, .retAddr 0, .retAddr 0] [] z h (ni_K (d + 1) 17 30 [a0, a1, a2, a3, a4, a5] st z Q)) := ni_T_ce [.ref o, .ref o20, .int x1, .int x2] rfl rfl rfl rfl rfl rfl rfl rfl rfl
theorem s17_27N0 : ni_T (d + 1) 17 27 [a0, a1, a2, a3, a4, a5] (.int x2 :: .int x1 :: .null :: .ref o :: st) z h Q = (ni_rc (h o) 2 = true ∧ Nat.ble (ni_sw st) 8 = true ∧ ni_T d 18 0 [.ref o, .null, .int x1, .int x2, .retAddr 0, .retAddr 0, .retAddr 0, .retAddr 0] [] z h (ni_K (d + 1) 17 30 [a0, a1, a2, a3, a4, a5] st z Q)) := ni_T_ce [.ref o, .null, .int x1, .int x2] rfl rfl rfl rfl rfl rfl rfl rfl rfl
theorem s17_30 : ni_T d 17 30 [a0, a1, a2, a3, a4, a5] (.int x :: st) z h Q = ni_T d 17 32 [a0, a1, a2, a3, ni_kl a4, .int x] st z h Q := ni_T_p rfl rfl
theorem s17_32 : ni_T d 17 32 [.ref o, a1, a2, a3, a4, a5] st z h Q = ni_T d 17 33 [.ref o, a1, a2, a3, a4, a5] (.ref o :: st) z h Q := ni_T_p rfl rfl
theorem s17_33 : ni_T d 17 33 [a0, a1, a2, a3, a4, a5] (.ref o :: st) z h Q = (ni_is (h o) 2 4 = true ∧ ni_T d 17 36 [a0, a1, a2, a3, a4, a5] (ni_gv (h o) 4 :: st) z h Q) := ni_T_getf rfl
theorem s17_36 : ni_T d 17 36 [a0, a1, .int x, a3, a4, a5] st z h Q = ni_T d 17 37 [a0, a1, .int x, a3, a4, a5] (.int x :: st) z h Q := ni_T_p rfl rfl
theorem s17_37 : ni_T d 17 37 [a0, a1, a2, a3, a4, a5] st z h Q = ni_T d 17 38 [a0, a1, a2, a3, a4, a5] (.int 5 :: st) z h Q := ni_T_p rfl rfl
theorem s17_38 : ni_T d 17 38 [a0, a1, a2, a3, a4, a5] (.int y :: .int x :: st) z h Q = ni_T d 17 39 [a0, a1, a2, a3, a4, a5] (.int (x * y) :: st) z h Q := ni_T_p rfl rfl
theorem s17_39 : ni_T d 17 39 [a0, a1, a2, a3, .int x, a5] st z h Q = ni_T d 17 41 [a0, a1, a2, a3, .int x, a5] (.int x :: st) z h Q := ni_T_p rfl rfl
theorem s17_41 : ni_T d 17 41 [a0, a1, a2, a3, a4, a5] (.int y :: .int x :: st) z h Q = ni_T d 17 42 [a0, a1, a2, a3, a4, a5] (.int (x + y) :: st) z h Q := ni_T_p rfl rfl
theorem s17_42 : ni_T d 17 42 [a0, a1, a2, a3, a4, .int x] st z h Q = ni_T d 17 44 [a0, a1, a2, a3, a4, .int x] (.int x :: st) z h Q := ni_T_p rfl rfl
theorem s17_44 : ni_T d 17 44 [a0, a1, a2, a3, a4, a5] (.int y :: .int x :: .ref o :: st) z h Q = (ni_okS (h o) x = true ∧ ni_T d 17 45 [a0, a1, a2, a3, a4, a5] st z (ni_up h o (ni_pi (h o) x y)) Q) := ni_T_iast rfl
theorem s17_45 : ni_T d 17 45 [a0, a1, a2, .int x, a4, a5] st z h Q = ni_T d 17 46 [a0, a1, a2, .int x, a4, a5] (.int x :: st) z h Q := ni_T_p rfl rfl
theorem s17_46 : ni_T d 17 46 [a0, a1, a2, a3, a4, .int x] st z h Q = ni_T d 17 48 [a0, a1, a2, a3, a4, .int x] (.int x :: st) z h Q := ni_T_p rfl rfl
theorem s17_48 : ni_T d 17 48 [a0, .ref o, a2, a3, a4, a5] st z h Q = ni_T d 17 49 [a0, .ref o, a2, a3, a4, a5] (.ref o :: st) z h Q := ni_T_p rfl rfl
theorem s17_48N : ni_T d 17 48 [a0, .null, a2, a3, a4, a5] st z h Q = ni_T d 17 49 [a0, .null, a2, a3, a4, a5] (.null :: st) z h Q := ni_T_p rfl rfl
theorem s17_49 : ni_T d 17 49 [a0, a1, a2, a3, .int x, a5] st z h Q = ni_T d 17 51 [a0, a1, a2, a3, .int x, a5] (.int x :: st) z h Q := ni_T_p rfl rfl
theorem s17_51 : ni_T d 17 51 [a0, a1, a2, a3, a4, a5] (.int x :: .ref o :: st) z h Q = (ni_okI (h o) x = true ∧ ni_T d 17 52 [a0, a1, a2, a3, a4, a5] (.int (ni_gi (h o) x) :: st) z h Q) := ni_T_iald rfl
theorem s17_52 : ni_T d 17 52 [a0, a1, a2, a3, a4, a5] st z h Q = ni_T d 17 54 [a0, a1, a2, a3, a4, a5] (.int 33 :: st) z h Q := ni_T_p rfl rfl
theorem s17_54 : ni_T (d + 1) 17 54 [a0, a1, a2, a3, a4, a5] (.int x1 :: .int x0 :: st) z h Q = (Nat.ble (ni_sw st) 8 = true ∧ ni_T d 117 0 [.int x0, .int x1] [] z h (ni_K (d + 1) 17 57 [a0, a1, a2, a3, a4, a5] st z Q)) := ni_T_cse [.int x0, .int x1] rfl rfl rfl rfl rfl rfl rfl rfl rfl
theorem s17_57 : ni_T d 17 57 [a0, a1, a2, a3, a4, a5] (.int y :: .int x :: st) z h Q = ni_T d 17 58 [a0, a1, a2, a3, a4, a5] (.int (x + y) :: st) z h Q := ni_T_p rfl rfl
theorem s17_58 : ni_T (d + 1) 17 58 [a0, a1, a2, a3, a4, a5] (.int y :: .int x :: st) z h Q = (Nat.ble (ni_sw st) 8 = true ∧ ni_T (d + 1) 17 61 [a0, a1, a2, a3, a4, a5] (.int (if y < x then y else x) :: st) z h Q) := ni_T_mminc rfl rfl
theorem s17_61 : ni_T d 17 61 [a0, a1, a2, a3, a4, a5] (.int x :: st) z h Q = ni_T d 17 62 [a0, a1, ni_kl a2, .int x, a4, a5] st z h Q := ni_T_p rfl rfl
theorem s17_62 : ni_T d 17 62 [a0, a1, a2, a3, .int x, a5] st z h Q = ni_T d 17 65 [a0, a1, a2, ni_kl a3, .int (x + 1), a5] st z h Q := ni_T_p rfl rfl
theorem s17_65 : ni_T d 17 65 [a0, a1, a2, a3, a4, a5] st z h Q = ni_T d 17 6 [a0, a1, a2, a3, a4, a5] st z h Q := ni_T_p rfl rfl
theorem s17_68 : ni_T d 17 68 [a0, a1, a2, .int x, a4, a5] st z h Q = ni_T d 17 69 [a0, a1, a2, .int x, a4, a5] (.int x :: st) z h Q := ni_T_p rfl rfl
theorem s17_69 : ni_T d 17 69 [a0, a1, a2, a3, a4, a5] [.int x] z h Q = Q (some (.int x)) z h := ni_T_i rfl rfl
theorem s18_0 : ni_T d 18 0 [a0, a1, .int x, a3, a4, a5, a6, a7] st z h Q = ni_T d 18 1 [a0, a1, .int x, a3, a4, a5, a6, a7] (.int x :: st) z h Q := ni_T_p rfl rfl
theorem s18_1 : ni_T d 18 1 [a0, a1, a2, a3, a4, a5, a6, a7] st z h Q = ni_T d 18 2 [a0, a1, a2, a3, a4, a5, a6, a7] (.int 1 :: st) z h Q := ni_T_p rfl rfl
theorem s18_2 : ni_T d 18 2 [a0, a1, a2, .int x, a4, a5, a6, a7] st z h Q = ni_T d 18 3 [a0, a1, a2, .int x, a4, a5, a6, a7] (.int x :: st) z h Q := ni_T_p rfl rfl
theorem s18_3 : ni_T d 18 3 [a0, a1, a2, a3, a4, a5, a6, a7] (.int y :: .int x :: st) z h Q = ni_T d 18 4 [a0, a1, a2, a3, a4, a5, a6, a7] (.int (x <<< (y &&& 31)) :: st) z h Q := ni_T_p rfl rfl
theorem s18_4 : ni_T d 18 4 [a0, a1, a2, a3, a4, a5, a6, a7] st z h Q = ni_T d 18 5 [a0, a1, a2, a3, a4, a5, a6, a7] (.int (-1) :: st) z h Q := ni_T_p rfl rfl
theorem s18_5 : ni_T d 18 5 [a0, a1, a2, a3, a4, a5, a6, a7] (.int y :: .int x :: st) z h Q = ni_T d 18 6 [a0, a1, a2, a3, a4, a5, a6, a7] (.int (x ^^^ y) :: st) z h Q := ni_T_p rfl rfl
theorem s18_6 : ni_T d 18 6 [a0, a1, a2, a3, a4, a5, a6, a7] (.int y :: .int x :: st) z h Q = ni_T d 18 7 [a0, a1, a2, a3, a4, a5, a6, a7] (.int (x &&& y) :: st) z h Q := ni_T_p rfl rfl
theorem s18_7 : ni_T d 18 7 [a0, a1, a2, a3, a4, a5, a6, a7] (.int x :: st) z h Q = ni_T d 18 9 [a0, a1, a2, ni_kl a3, .int x, a5, a6, a7] st z h Q := ni_T_p rfl rfl
theorem s18_9 : ni_T d 18 9 [a0, a1, a2, a3, .int x, a5, a6, a7] st z h Q = ni_T d 18 11 [a0, a1, a2, a3, .int x, a5, a6, a7] (.int x :: st) z h Q := ni_T_p rfl rfl
theorem s18_11 : ni_T d 18 11 [a0, a1, a2, a3, a4, a5, a6, a7] (.int x :: st) z h Q = if x = 0 then ni_T d 18 14 [a0, a1, a2, a3, a4, a5, a6, a7] st z h Q else ni_T d 18 23 [a0, a1, a2, a3, a4, a5, a6, a7] st z h Q := ni_T_b rfl rfl
theorem s18_14 : ni_T d 18 14 [a0, a1, a2, a3, a4, a5, a6, a7] st z h Q = ni_T d 18 16 [a0, a1, a2, a3, a4, a5, a6, a7] (.int 33 :: st) z h Q := ni_T_p rfl rfl
theorem s18_16 : ni_T d 18 16 [a0, .ref o, a2, a3, a4, a5, a6, a7] st z h Q = ni_T d 18 17 [a0, .ref o, a2, a3, a4, a5, a6, a7] (.ref o :: st) z h Q := ni_T_p rfl rfl
theorem s18_16N : ni_T d 18 16 [a0, .null, a2, a3, a4, a5, a6, a7] st z h Q = ni_T d 18 17 [a0, .null, a2, a3, a4, a5, a6, a7] (.null :: st) z h Q := ni_T_p rfl rfl
theorem s18_17 : ni_T d 18 17 [a0, a1, a2, .int x, a4, a5, a6, a7] st z h Q = ni_T d 18 18 [a0, a1, a2, .int x, a4, a5, a6, a7] (.int x :: st) z h Q := ni_T_p rfl rfl
theorem s18_18 : ni_T d 18 18 [a0, a1, a2, a3, a4, a5, a6, a7] (.int x :: .ref o :: st) z h Q = (ni_okI (h o) x = true ∧ ni_T d 18 19 [a0, a1, a2, a3, a4, a5, a6, a7] (.int (ni_gi (h o) x) :: st) z h Q) := ni_T_iald rfl
theorem s18_19 : ni_T (d + 1) 18 19 [a0, a1, a2, a3, a4, a5, a6, a7] (.int x1 :: .int x0 :: st) z h Q = (Nat.ble (ni_sw st) 8 = true ∧ ni_T d 117 0 [.int x0, .int x1] [] z h (ni_K (d + 1) 18 22 [a0, a1, a2, a3, a4, a5, a6, a7] st z Q)) := ni_T_cse [.int x0, .int x1] rfl rfl rfl rfl rfl rfl rfl rfl rfl
theorem s18_22 : ni_T d 18 22 [a0, a1, a2, a3, a4, a5, a6, a7] [.int x] z h Q = Q (some (.int x)) z h := ni_T_i rfl rfl
theorem s18_23 : ni_T d 18 23 [a0, a1, a2, a3, a4, a5, a6, a7] st z h Q = ni_T d 18 25 [a0, a1, a2, a3, a4, a5, a6, a7] (.int 100 :: st) z h Q := ni_T_p rfl rfl
theorem s18_25 : ni_T d 18 25 [a0, a1, a2, a3, a4, a5, a6, a7] (.int x :: st) z h Q = ni_T d 18 27 [a0, a1, a2, a3, ni_kl a4, .int x, a6, a7] st z h Q := ni_T_p rfl rfl
theorem s18_27 : ni_T d 18 27 [a0, a1, a2, a3, a4, a5, a6, a7] st z h Q = ni_T d 18 28 [a0, a1, a2, a3, a4, a5, a6, a7] (.int 0 :: st) z h Q := ni_T_p rfl rfl
theorem s18_28 : ni_T d 18 28 [a0, a1, a2, a3, a4, a5, a6, a7] (.int x :: st) z h Q = ni_T d 18 30 [a0, a1, a2, a3, a4, ni_kl a5, .int x, a7] st z h Q := ni_T_p rfl rfl
theorem s18_30 : ni_T d 18 30 [a0, a1, a2, a3, a4, a5, .int x, a7] st z h Q = ni_T d 18 32 [a0, a1, a2, a3, a4, a5, .int x, a7] (.int x :: st) z h Q := ni_T_p rfl rfl
theorem s18_32 : ni_T d 18 32 [a0, a1, a2, a3, a4, a5, a6, a7] st z h Q = ni_T d 18 33 [a0, a1, a2, a3, a4, a5, a6, a7] (.int 5 :: st) z h Q := ni_T_p rfl rfl
theorem s18_33 : ni_T d 18 33 [a0, a1, a2, a3, a4, a5, a6, a7] (.int y :: .int x :: st) z h Q = if y ≤ x then ni_T d 18 87 [a0, a1, a2, a3, a4, a5, a6, a7] st z h Q else ni_T d 18 36 [a0, a1, a2, a3, a4, a5, a6, a7] st z h Q := ni_T_b rfl rfl
theorem s18_36 : ni_T d 18 36 [a0, a1, a2, a3, .int x, a5, a6, a7] st z h Q = ni_T d 18 38 [a0, a1, a2, a3, .int x, a5, a6, a7] (.int x :: st) z h Q := ni_T_p rfl rfl
theorem s18_38 : ni_T d 18 38 [a0, a1, a2, a3, a4, a5, .int x, a7] st z h Q = ni_T d 18 40 [a0, a1, a2, a3, a4, a5, .int x, a7] (.int x :: st) z h Q := ni_T_p rfl rfl
theorem s18_40 : ni_T d 18 40 [a0, a1, a2, a3, a4, a5, a6, a7] (.int y :: .int x :: st) z h Q = ni_T d 18 41 [a0, a1, a2, a3, a4, a5, a6, a7] (.int (x >>> (y &&& 31)) :: st) z h Q := ni_T_p rfl rfl
theorem s18_41 : ni_T d 18 41 [a0, a1, a2, a3, a4, a5, a6, a7] st z h Q = ni_T d 18 42 [a0, a1, a2, a3, a4, a5, a6, a7] (.int 1 :: st) z h Q := ni_T_p rfl rfl
theorem s18_42 : ni_T d 18 42 [a0, a1, a2, a3, a4, a5, a6, a7] (.int y :: .int x :: st) z h Q = ni_T d 18 43 [a0, a1, a2, a3, a4, a5, a6, a7] (.int (x &&& y) :: st) z h Q := ni_T_p rfl rfl
theorem s18_43 : ni_T d 18 43 [a0, a1, a2, a3, a4, a5, a6, a7] st z h Q = ni_T d 18 44 [a0, a1, a2, a3, a4, a5, a6, a7] (.int 1 :: st) z h Q := ni_T_p rfl rfl
theorem s18_44 : ni_T d 18 44 [a0, a1, a2, a3, a4, a5, a6, a7] (.int y :: .int x :: st) z h Q = if x = y then ni_T d 18 47 [a0, a1, a2, a3, a4, a5, a6, a7] st z h Q else ni_T d 18 81 [a0, a1, a2, a3, a4, a5, a6, a7] st z h Q := ni_T_b rfl rfl
theorem s18_47 : ni_T d 18 47 [.ref o, a1, a2, a3, a4, a5, a6, a7] st z h Q = ni_T d 18 48 [.ref o, a1, a2, a3, a4, a5, a6, a7] (.ref o :: st) z h Q := ni_T_p rfl rfl
theorem s18_48 : ni_T d 18 48 [a0, a1, a2, a3, a4, a5, a6, a7] (.ref o :: st) z h Q = (ni_is (h o) 2 4 = true ∧ ni_T d 18 51 [a0, a1, a2, a3, a4, a5, a6, a7] (ni_gv (h o) 4 :: st) z h Q) := ni_T_getf rfl
theorem s18_51 : ni_T d 18 51 [a0, a1, a2, a3, .int x, a5, a6, a7] st z h Q = ni_T d 18 53 [a0, a1, a2, a3, .int x, a5, a6, a7] (.int x :: st) z h Q := ni_T_p rfl rfl
theorem s18_53 : ni_T d 18 53 [a0, a1, a2, a3, a4, a5, a6, a7] st z h Q = ni_T d 18 54 [a0, a1, a2, a3, a4, a5, a6, a7] (.int 5 :: st) z h Q := ni_T_p rfl rfl
theorem s18_54 : ni_T d 18 54 [a0, a1, a2, a3, a4, a5, a6, a7] (.int y :: .int x :: st) z h Q = ni_T d 18 55 [a0, a1, a2, a3, a4, a5, a6, a7] (.int (x * y) :: st) z h Q := ni_T_p rfl rfl
theorem s18_55 : ni_T d 18 55 [a0, a1, a2, a3, a4, a5, .int x, a7] st z h Q = ni_T d 18 57 [a0, a1, a2, a3, a4, a5, .int x, a7] (.int x :: st) z h Q := ni_T_p rfl rfl
theorem s18_57 : ni_T d 18 57 [a0, a1, a2, a3, a4, a5, a6, a7] (.int y :: .int x :: st) z h Q = ni_T d 18 58 [a0, a1, a2, a3, a4, a5, a6, a7] (.int (x + y) :: st) z h Q := ni_T_p rfl rfl
theorem s18_58 : ni_T d 18 58 [a0, a1, a2, a3, a4, a5, a6, a7] (.int x :: .ref o :: st) z h Q = (ni_okI (h o) x = true ∧ ni_T d 18 59 [a0, a1, a2, a3, a4, a5, a6, a7] (.int (ni_gi (h o) x) :: st) z h Q) := ni_T_iald rfl
theorem s18_59 : ni_T d 18 59 [a0, .ref o, a2, a3, a4, a5, a6, a7] st z h Q = ni_T d 18 60 [a0, .ref o, a2, a3, a4, a5, a6, a7] (.ref o :: st) z h Q := ni_T_p rfl rfl
theorem s18_59N : ni_T d 18 59 [a0, .null, a2, a3, a4, a5, a6, a7] st z h Q = ni_T d 18 60 [a0, .null, a2, a3, a4, a5, a6, a7] (.null :: st) z h Q := ni_T_p rfl rfl
theorem s18_60 : ni_T d 18 60 [a0, a1, a2, a3, a4, a5, .int x, a7] st z h Q = ni_T d 18 62 [a0, a1, a2, a3, a4, a5, .int x, a7] (.int x :: st) z h Q := ni_T_p rfl rfl
theorem s18_62 : ni_T d 18 62 [a0, a1, a2, a3, a4, a5, a6, a7] (.int x :: .ref o :: st) z h Q = (ni_okI (h o) x = true ∧ ni_T d 18 63 [a0, a1, a2, a3, a4, a5, a6, a7] (.int (ni_gi (h o) x) :: st) z h Q) := ni_T_iald rfl
theorem s18_63 : ni_T d 18 63 [a0, .ref o, a2, a3, a4, a5, a6, a7] st z h Q = ni_T d 18 64 [a0, .ref o, a2, a3, a4, a5, a6, a7] (.ref o :: st) z h Q := ni_T_p rfl rfl
theorem s18_63N : ni_T d 18 63 [a0, .null, a2, a3, a4, a5, a6, a7] st z h Q = ni_T d 18 64 [a0, .null, a2, a3, a4, a5, a6, a7] (.null :: st) z h Q := ni_T_p rfl rfl
theorem s18_64 : ni_T d 18 64 [a0, a1, a2, .int x, a4, a5, a6, a7] st z h Q = ni_T d 18 65 [a0, a1, a2, .int x, a4, a5, a6, a7] (.int x :: st) z h Q := ni_T_p rfl rfl
theorem s18_65 : ni_T d 18 65 [a0, a1, a2, a3, a4, a5, a6, a7] (.int x :: .ref o :: st) z h Q = (ni_okI (h o) x = true ∧ ni_T d 18 66 [a0, a1, a2, a3, a4, a5, a6, a7] (.int (ni_gi (h o) x) :: st) z h Q) := ni_T_iald rfl
theorem s18_66 : ni_T (d + 1) 18 66 [a0, a1, a2, a3, a4, a5, a6, a7] (.int x1 :: .int x0 :: st) z h Q = (Nat.ble (ni_sw st) 8 = true ∧ ni_T d 117 0 [.int x0, .int x1] [] z h (ni_K (d + 1) 18 69 [a0, a1, a2, a3, a4, a5, a6, a7] st z Q)) := ni_T_cse [.int x0, .int x1] rfl rfl rfl rfl rfl rfl rfl rfl rfl
theorem s18_69 : ni_T d 18 69 [a0, a1, a2, a3, a4, a5, a6, a7] (.int y :: .int x :: st) z h Q = ni_T d 18 70 [a0, a1, a2, a3, a4, a5, a6, a7] (.int (x + y) :: st) z h Q := ni_T_p rfl rfl
theorem s18_70 : ni_T d 18 70 [a0, a1, a2, a3, a4, a5, a6, a7] (.int x :: st) z h Q = ni_T d 18 72 [a0, a1, a2, a3, a4, a5, ni_kl a6, .int x] st z h Q := ni_T_p rfl rfl
theorem s18_72 : ni_T d 18 72 [a0, a1, a2, a3, a4, .int x, a6, a7] st z h Q = ni_T d 18 74 [a0, a1, a2, a3, a4, .int x, a6, a7] (.int x :: st) z h Q := ni_T_p rfl rfl
theorem s18_74 : ni_T d 18 74 [a0, a1, a2, a3, a4, a5, a6, .int x] st z h Q = ni_T d 18 76 [a0, a1, a2, a3, a4, a5, a6, .int x] (.int x :: st) z h Q := ni_T_p rfl rfl
theorem s18_76 : ni_T (d + 1) 18 76 [a0, a1, a2, a3, a4, a5, a6, a7] (.int y :: .int x :: st) z h Q = (Nat.ble (ni_sw st) 8 = true ∧ ni_T (d + 1) 18 79 [a0, a1, a2, a3, a4, a5, a6, a7] (.int (if y < x then y else x) :: st) z h Q) := ni_T_mminc rfl rfl
theorem s18_79 : ni_T d 18 79 [a0, a1, a2, a3, a4, a5, a6, a7] (.int x :: st) z h Q = ni_T d 18 81 [a0, a1, a2, a3, ni_kl a4, .int x, a6, a7] st z h Q := ni_T_p rfl rfl
theorem s18_81 : ni_T d 18 81 [a0, a1, a2, a3, a4, a5, .int x, a7] st z h Q = ni_T d 18 84 [a0, a1, a2, a3, a4, ni_kl a5, .int (x + 1), a7] st z h Q := ni_T_p rfl rfl
theorem s18_84 : ni_T d 18 84 [a0, a1, a2, a3, a4, a5, a6, a7] st z h Q = ni_T d 18 30 [a0, a1, a2, a3, a4, a5, a6, a7] st z h Q := ni_T_p rfl rfl
theorem s18_87 : ni_T d 18 87 [a0, a1, a2, a3, a4, .int x, a6, a7] st z h Q = ni_T d 18 89 [a0, a1, a2, a3, a4, .int x, a6, a7] (.int x :: st) z h Q := ni_T_p rfl rfl
theorem s18_89 : ni_T d 18 89 [a0, a1, a2, a3, a4, a5, a6, a7] [.int x] z h Q = Q (some (.int x)) z h := ni_T_i rfl rfl
theorem s19_0 : ni_T d 19 0 [a0, a1, .int x, a3, a4, a5] st z h Q = ni_T d 19 1 [a0, a1, .int x, a3, a4, a5] (.int x :: st) z h Q := ni_T_p rfl rfl
theorem s19_1 : ni_T d 19 1 [a0, a1, a2, a3, a4, a5] (.int x :: st) z h Q = if x ≤ 0 then ni_T d 19 36 [a0, a1, a2, a3, a4, a5] st z h Q else ni_T d 19 4 [a0, a1, a2, a3, a4, a5] st z h Q := ni_T_b rfl rfl
theorem s19_4 : ni_T d 19 4 [a0, a1, .int x, a3, a4, a5] st z h Q = ni_T d 19 5 [a0, a1, .int x, a3, a4, a5] (.int x :: st) z h Q := ni_T_p rfl rfl
theorem s19_5 : ni_T d 19 5 [a0, a1, a2, a3, a4, a5] st z h Q = ni_T d 19 7 [a0, a1, a2, a3, a4, a5] (.int 32 :: st) z h Q := ni_T_p rfl rfl
theorem s19_7 : ni_T d 19 7 [a0, a1, a2, a3, a4, a5] (.int y :: .int x :: st) z h Q = if y ≤ x then ni_T d 19 36 [a0, a1, a2, a3, a4, a5] st z h Q else ni_T d 19 10 [a0, a1, a2, a3, a4, a5] st z h Q := ni_T_b rfl rfl
theorem s19_10 : ni_T d 19 10 [.ref o, a1, a2, a3, a4, a5] st z h Q = ni_T d 19 11 [.ref o, a1, a2, a3, a4, a5] (.ref o :: st) z h Q := ni_T_p rfl rfl
theorem s19_11 : ni_T d 19 11 [a0, a1, a2, a3, a4, a5] (.ref o :: st) z h Q = (ni_is (h o) 2 0 = true ∧ ni_T d 19 14 [a0, a1, a2, a3, a4, a5] (ni_gv (h o) 0 :: st) z h Q) := ni_T_getf rfl
theorem s19_14 : ni_T d 19 14 [a0, a1, .int x, a3, a4, a5] st z h Q = ni_T d 19 15 [a0, a1, .int x, a3, a4, a5] (.int x :: st) z h Q := ni_T_p rfl rfl
theorem s19_15 : ni_T d 19 15 [a0, a1, a2, a3, a4, a5] (.int x :: .ref o :: st) z h Q = (ni_okI (h o) x = true ∧ ni_T d 19 16 [a0, a1, a2, a3, a4, a5] (.int (ni_gi (h o) x) :: st) z h Q) := ni_T_iald rfl
theorem s19_16 : ni_T d 19 16 [a0, .ref o, a2, a3, a4, a5] st z h Q = ni_T d 19 17 [a0, .ref o, a2, a3, a4, a5] (.ref o :: st) z h Q := ni_T_p rfl rfl
theorem s19_16N : ni_T d 19 16 [a0, .null, a2, a3, a4, a5] st z h Q = ni_T d 19 17 [a0, .null, a2, a3, a4, a5] (.null :: st) z h Q := ni_T_p rfl rfl
theorem s19_17 : ni_T d 19 17 [a0, a1, a2, a3, .int x, a5] st z h Q = ni_T d 19 19 [a0, a1, a2, a3, .int x, a5] (.int x :: st) z h Q := ni_T_p rfl rfl
theorem s19_19 : ni_T (d + 1) 19 19 [a0, a1, a2, a3, a4, a5] (.int x0 :: .ref o :: st) z h Q = (ni_rc (h o) 1 = true ∧ Nat.ble (ni_sw st) 8 = true ∧ ni_T d 10 0 [.ref o, .int x0] [] z h (ni_K (d + 1) 19 22 [a0, a1, a2, a3, a4, a5] st z Q)) := ni_T_ce [.ref o, .int x0] rfl rfl rfl rfl rfl rfl rfl rfl rfl
theorem s19_22 : ni_T d 19 22 [a0, a1, a2, a3, a4, a5] (.int y :: .int x :: st) z h Q = if y < x then ni_T d 19 36 [a0, a1, a2, a3, a4, a5] st z h Q else ni_T d 19 25 [a0, a1, a2, a3, a4, a5] st z h Q := ni_T_b rfl rfl
theorem s19_25 : ni_T d 19 25 [a0, a1, .int x, a3, a4, a5] st z h Q = ni_T d 19 26 [a0, a1, .int x, a3, a4, a5] (.int x :: st) z h Q := ni_T_p rfl rfl
theorem s19_26 : ni_T (d + 1) 19 26 [a0, a1, a2, a3, a4, a5] (.int x0 :: st) z h Q = (Nat.ble (ni_sw st) 8 = true ∧ ni_T d 200 0 [.int x0] [] z h (ni_K (d + 1) 19 29 [a0, a1, a2, a3, a4, a5] st z Q)) := ni_T_cse [.int x0] rfl rfl rfl rfl rfl rfl rfl rfl rfl
theorem s19_29 : ni_T d 19 29 [a0, .ref o, a2, a3, a4, a5] st z h Q = ni_T d 19 30 [a0, .ref o, a2, a3, a4, a5] (.ref o :: st) z h Q := ni_T_p rfl rfl
theorem s19_29N : ni_T d 19 29 [a0, .null, a2, a3, a4, a5] st z h Q = ni_T d 19 30 [a0, .null, a2, a3, a4, a5] (.null :: st) z h Q := ni_T_p rfl rfl
theorem s19_30 : ni_T (d + 1) 19 30 [a0, a1, a2, a3, a4, a5] (.ref o :: st) z h Q = (ni_rc (h o) 1 = true ∧ Nat.ble (ni_sw st) 8 = true ∧ ni_T d 12 0 [.ref o] [] z h (ni_K (d + 1) 19 33 [a0, a1, a2, a3, a4, a5] st z Q)) := ni_T_ce [.ref o] rfl rfl rfl rfl rfl rfl rfl rfl rfl
theorem s19_33 : ni_T d 19 33 [a0, a1, a2, a3, a4, a5] (.int y :: .int x :: st) z h Q = if x ≤ y then ni_T d 19 38 [a0, a1, a2, a3, a4, a5] st z h Q else ni_T d 19 36 [a0, a1, a2, a3, a4, a5] st z h Q := ni_T_b rfl rfl
theorem s19_36 : ni_T d 19 36 [a0, a1, a2, a3, a4, a5] st z h Q = ni_T d 19 37 [a0, a1, a2, a3, a4, a5] (.int 0 :: st) z h Q := ni_T_p rfl rfl
theorem s19_37 : ni_T d 19 37 [a0, a1, a2, a3, a4, a5] [.int x] z h Q = Q (some (.int x)) z h := ni_T_i rfl rfl
theorem s19_38 : ni_T d 19 38 [.ref o, a1, a2, a3, a4, a5] st z h Q = ni_T d 19 39 [.ref o, a1, a2, a3, a4, a5] (.ref o :: st) z h Q := ni_T_p rfl rfl
theorem s19_39 : ni_T d 19 39 [a0, a1, .int x, a3, a4, a5] st z h Q = ni_T d 19 40 [a0, a1, .int x, a3, a4, a5] (.int x :: st) z h Q := ni_T_p rfl rfl
theorem s19_40 : ni_T d 19 40 [a0, a1, a2, .int x, a4, a5] st z h Q = ni_T d 19 41 [a0, a1, a2, .int x, a4, a5] (.int x :: st) z h Q := ni_T_p rfl rfl
theorem s19_41 : ni_T (d + 1) 19 41 [a0, a1, a2, a3, a4, a5] (.int x1 :: .int x0 :: .ref o :: st) z h Q = (ni_rc (h o) 2 = true ∧ Nat.ble (ni_sw st) 8 = true ∧ ni_T d 20 0 [.ref o, .int x0, .int x1, .retAddr 0, .retAddr 0] [] z h (ni_K (d + 1) 19 44 [a0, a1, a2, a3, a4, a5] st z Q)) := ni_T_ce [.ref o, .int x0, .int x1] rfl rfl rfl rfl rfl rfl rfl rfl rfl
theorem s19_44 : ni_T (d + 1) 19 44 [a0, a1, a2, a3, a4, a5] (.int x0 :: st) z h Q = (Nat.ble (ni_sw st) 8 = true ∧ ni_T d 200 0 [.int x0] [] z h (ni_K (d + 1) 19 47 [a0, a1, a2, a3, a4, a5] st z Q)) := ni_T_cse [.int x0] rfl rfl rfl rfl rfl rfl rfl rfl rfl
theorem s19_47 : ni_T d 19 47 [a0, a1, a2, a3, a4, a5] (.int x :: st) z h Q = ni_T d 19 49 [a0, a1, a2, a3, ni_kl a4, .int x] st z h Q := ni_T_p rfl rfl
theorem s19_49 : ni_T d 19 49 [a0, a1, a2, a3, a4, a5] st z h Q = ni_T d 19 50 [a0, a1, a2, a3, a4, a5] (.int 0 :: st) z h Q := ni_T_p rfl rfl
theorem s19_50 : ni_T d 19 50 [a0, a1, a2, a3, a4, a5] st z h Q = ni_T d 19 52 [a0, a1, a2, a3, a4, a5] (.int 100 :: st) z h Q := ni_T_p rfl rfl
theorem s19_52 : ni_T d 19 52 [a0, .ref o, a2, a3, a4, a5] st z h Q = ni_T d 19 53 [a0, .ref o, a2, a3, a4, a5] (.ref o :: st) z h Q := ni_T_p rfl rfl
theorem s19_52N : ni_T d 19 52 [a0, .null, a2, a3, a4, a5] st z h Q = ni_T d 19 53 [a0, .null, a2, a3, a4, a5] (.null :: st) z h Q := ni_T_p rfl rfl
theorem s19_53 : ni_T (d + 1) 19 53 [a0, a1, a2, a3, a4, a5] (.ref o :: st) z h Q = (ni_rc (h o) 1 = true ∧ Nat.ble (ni_sw st) 8 = true ∧ ni_T d 11 0 [.ref o] [] z h (ni_K (d + 1) 19 56 [a0, a1, a2, a3, a4, a5] st z Q)) := ni_T_ce [.ref o] rfl rfl rfl rfl rfl rfl rfl rfl rfl
theorem s19_56 : ni_T d 19 56 [a0, a1, a2, a3, .int x, a5] st z h Q = ni_T d 19 58 [a0, a1, a2, a3, .int x, a5] (.int x :: st) z h Q := ni_T_p rfl rfl
theorem s19_58 : ni_T d 19 58 [a0, a1, a2, a3, a4, a5] (.int y :: .int x :: st) z h Q = ni_T d 19 59 [a0, a1, a2, a3, a4, a5] (.int (x * y) :: st) z h Q := ni_T_p rfl rfl
theorem s19_59 : ni_T d 19 59 [a0, a1, a2, a3, a4, a5] (.int y :: .int x :: st) z h Q = ni_T d 19 60 [a0, a1, a2, a3, a4, a5] (.int (x - y) :: st) z h Q := ni_T_p rfl rfl
theorem s19_60 : ni_T d 19 60 [a0, a1, a2, a3, a4, a5] st z h Q = ni_T d 19 62 [a0, a1, a2, a3, a4, a5] (.int 6 :: st) z h Q := ni_T_p rfl rfl
theorem s19_62 : ni_T d 19 62 [a0, a1, a2, a3, a4, .int x] st z h Q = ni_T d 19 64 [a0, a1, a2, a3, a4, .int x] (.int x :: st) z h Q := ni_T_p rfl rfl
theorem s19_64 : ni_T d 19 64 [a0, a1, a2, a3, a4, a5] (.int y :: .int x :: st) z h Q = ni_T d 19 65 [a0, a1, a2, a3, a4, a5] (.int (x * y) :: st) z h Q := ni_T_p rfl rfl
theorem s19_65 : ni_T d 19 65 [a0, a1, a2, a3, a4, a5] (.int y :: .int x :: st) z h Q = ni_T d 19 66 [a0, a1, a2, a3, a4, a5] (.int (x - y) :: st) z h Q := ni_T_p rfl rfl
theorem s19_66 : ni_T (d + 1) 19 66 [a0, a1, a2, a3, a4, a5] (.int y :: .int x :: st) z h Q = (Nat.ble (ni_sw st) 8 = true ∧ ni_T (d + 1) 19 69 [a0, a1, a2, a3, a4, a5] (.int (if x < y then y else x) :: st) z h Q) := ni_T_mmaxc rfl rfl
theorem s19_69 : ni_T d 19 69 [a0, a1, a2, a3, a4, a5] [.int x] z h Q = Q (some (.int x)) z h := ni_T_i rfl rfl
theorem s20_0 : ni_T d 20 0 [a0, a1, a2, a3, a4] st z h Q = ni_T d 20 1 [a0, a1, a2, a3, a4] (.int 0 :: st) z h Q := ni_T_p rfl rfl
theorem s20_1 : ni_T d 20 1 [a0, a1, a2, a3, a4] (.int x :: st) z h Q = ni_T d 20 2 [a0, a1, ni_kl a2, .int x, a4] st z h Q := ni_T_p rfl rfl
theorem s20_2 : ni_T d 20 2 [a0, a1, a2, a3, a4] st z h Q = ni_T d 20 3 [a0, a1, a2, a3, a4] (.int 0 :: st) z h Q := ni_T_p rfl rfl
theorem s20_3 : ni_T d 20 3 [a0, a1, a2, a3, a4] (.int x :: st) z h Q = ni_T d 20 5 [a0, a1, a2, ni_kl a3, .int x] st z h Q := ni_T_p rfl rfl
theorem s20_5 : ni_T d 20 5 [a0, a1, a2, a3, .int x] st z h Q = ni_T d 20 7 [a0, a1, a2, a3, .int x] (.int x :: st) z h Q := ni_T_p rfl rfl
theorem s20_7 : ni_T d 20 7 [a0, a1, a2, a3, a4] st z h Q = ni_T d 20 8 [a0, a1, a2, a3, a4] (.int 5 :: st) z h Q := ni_T_p rfl rfl
theorem s20_8 : ni_T d 20 8 [a0, a1, a2, a3, a4] (.int y :: .int x :: st) z h Q = if y ≤ x then ni_T d 20 37 [a0, a1, a2, a3, a4] st z h Q else ni_T d 20 11 [a0, a1, a2, a3, a4] st z h Q := ni_T_b rfl rfl
theorem s20_11 : ni_T d 20 11 [a0, .int x, a2, a3, a4] st z h Q = ni_T d 20 12 [a0, .int x, a2, a3, a4] (.int x :: st) z h Q := ni_T_p rfl rfl
theorem s20_12 : ni_T d 20 12 [a0, a1, a2, a3, .int x] st z h Q = ni_T d 20 14 [a0, a1, a2, a3, .int x] (.int x :: st) z h Q := ni_T_p rfl rfl
theorem s20_14 : ni_T d 20 14 [a0, a1, a2, a3, a4] (.int y :: .int x :: st) z h Q = ni_T d 20 15 [a0, a1, a2, a3, a4] (.int (x >>> (y &&& 31)) :: st) z h Q := ni_T_p rfl rfl
theorem s20_15 : ni_T d 20 15 [a0, a1, a2, a3, a4] st z h Q = ni_T d 20 16 [a0, a1, a2, a3, a4] (.int 1 :: st) z h Q := ni_T_p rfl rfl
theorem s20_16 : ni_T d 20 16 [a0, a1, a2, a3, a4] (.int y :: .int x :: st) z h Q = ni_T d 20 17 [a0, a1, a2, a3, a4] (.int (x &&& y) :: st) z h Q := ni_T_p rfl rfl
theorem s20_17 : ni_T d 20 17 [a0, a1, a2, a3, a4] st z h Q = ni_T d 20 18 [a0, a1, a2, a3, a4] (.int 1 :: st) z h Q := ni_T_p rfl rfl
theorem s20_18 : ni_T d 20 18 [a0, a1, a2, a3, a4] (.int y :: .int x :: st) z h Q = if x = y then ni_T d 20 21 [a0, a1, a2, a3, a4] st z h Q else ni_T d 20 31 [a0, a1, a2, a3, a4] st z h Q := ni_T_b rfl rfl
theorem s20_21 : ni_T d 20 21 [a0, a1, a2, .int x, a4] st z h Q = ni_T d 20 22 [a0, a1, a2, .int x, a4] (.int x :: st) z h Q := ni_T_p rfl rfl
theorem s20_22 : ni_T d 20 22 [.ref o, a1, a2, a3, a4] st z h Q = ni_T d 20 23 [.ref o, a1, a2, a3, a4] (.ref o :: st) z h Q := ni_T_p rfl rfl
theorem s20_23 : ni_T d 20 23 [a0, a1, a2, a3, a4] (.ref o :: st) z h Q = (ni_is (h o) 2 3 = true ∧ ni_T d 20 26 [a0, a1, a2, a3, a4] (ni_gv (h o) 3 :: st) z h Q) := ni_T_getf rfl
theorem s20_26 : ni_T d 20 26 [a0, a1, a2, a3, .int x] st z h Q = ni_T d 20 28 [a0, a1, a2, a3, .int x] (.int x :: st) z h Q := ni_T_p rfl rfl
theorem s20_28 : ni_T d 20 28 [a0, a1, a2, a3, a4] (.int x :: .ref o :: st) z h Q = (ni_okI (h o) x = true ∧ ni_T d 20 29 [a0, a1, a2, a3, a4] (.int (ni_gi (h o) x) :: st) z h Q) := ni_T_iald rfl
theorem s20_29 : ni_T d 20 29 [a0, a1, a2, a3, a4] (.int y :: .int x :: st) z h Q = ni_T d 20 30 [a0, a1, a2, a3, a4] (.int (x ||| y) :: st) z h Q := ni_T_p rfl rfl
theorem s20_30 : ni_T d 20 30 [a0, a1, a2, a3, a4] (.int x :: st) z h Q = ni_T d 20 31 [a0, a1, ni_kl a2, .int x, a4] st z h Q := ni_T_p rfl rfl
theorem s20_31 : ni_T d 20 31 [a0, a1, a2, a3, .int x] st z h Q = ni_T d 20 34 [a0, a1, a2, ni_kl a3, .int (x + 1)] st z h Q := ni_T_p rfl rfl
theorem s20_34 : ni_T d 20 34 [a0, a1, a2, a3, a4] st z h Q = ni_T d 20 5 [a0, a1, a2, a3, a4] st z h Q := ni_T_p rfl rfl
theorem s20_37 : ni_T d 20 37 [a0, a1, a2, .int x, a4] st z h Q = ni_T d 20 38 [a0, a1, a2, .int x, a4] (.int x :: st) z h Q := ni_T_p rfl rfl
theorem s20_38 : ni_T d 20 38 [a0, a1, .int x, a3, a4] st z h Q = ni_T d 20 39 [a0, a1, .int x, a3, a4] (.int x :: st) z h Q := ni_T_p rfl rfl
theorem s20_39 : ni_T d 20 39 [a0, a1, a2, a3, a4] (.int y :: .int x :: st) z h Q = ni_T d 20 40 [a0, a1, a2, a3, a4] (.int (x &&& y) :: st) z h Q := ni_T_p rfl rfl
theorem s20_40 : ni_T d 20 40 [a0, .int x, a2, a3, a4] st z h Q = ni_T d 20 41 [a0, .int x, a2, a3, a4] (.int x :: st) z h Q := ni_T_p rfl rfl
theorem s20_41 : ni_T d 20 41 [a0, a1, a2, a3, a4] st z h Q = ni_T d 20 42 [a0, a1, a2, a3, a4] (.int (-1) :: st) z h Q := ni_T_p rfl rfl
theorem s20_42 : ni_T d 20 42 [a0, a1, a2, a3, a4] (.int y :: .int x :: st) z h Q = ni_T d 20 43 [a0, a1, a2, a3, a4] (.int (x ^^^ y) :: st) z h Q := ni_T_p rfl rfl
theorem s20_43 : ni_T d 20 43 [a0, a1, a2, a3, a4] (.int y :: .int x :: st) z h Q = ni_T d 20 44 [a0, a1, a2, a3, a4] (.int (x &&& y) :: st) z h Q := ni_T_p rfl rfl
theorem s20_44 : ni_T d 20 44 [a0, a1, a2, a3, a4] [.int x] z h Q = Q (some (.int x)) z h := ni_T_i rfl rfl
theorem s21_0 : ni_T d 21 0 [a0, a1, a2, a3, a4] st z h Q = ni_T d 21 1 [a0, a1, a2, a3, a4] (.int 1 :: st) z h Q := ni_T_p rfl rfl
theorem s21_1 : ni_T d 21 1 [a0, a1, a2, a3, a4] (.int x :: st) z h Q = ni_T d 21 3 [a0, a1, a2, ni_kl a3, .int x] st z h Q := ni_T_p rfl rfl
theorem s21_3 : ni_T d 21 3 [a0, a1, a2, a3, .int x] st z h Q = ni_T d 21 5 [a0, a1, a2, a3, .int x] (.int x :: st) z h Q := ni_T_p rfl rfl
theorem s21_5 : ni_T d 21 5 [a0, a1, a2, a3, a4] st z h Q = ni_T d 21 7 [a0, a1, a2, a3, a4] (.int 9 :: st) z h Q := ni_T_p rfl rfl
theorem s21_7 : ni_T d 21 7 [a0, a1, a2, a3, a4] (.int y :: .int x :: st) z h Q = if y < x then ni_T d 21 31 [a0, a1, a2, a3, a4] st z h Q else ni_T d 21 10 [a0, a1, a2, a3, a4] st z h Q := ni_T_b rfl rfl
theorem s21_10 : ni_T d 21 10 [.ref o, a1, a2, a3, a4] st z h Q = ni_T d 21 11 [.ref o, a1, a2, a3, a4] (.ref o :: st) z h Q := ni_T_p rfl rfl
theorem s21_11 : ni_T d 21 11 [a0, .ref o, a2, a3, a4] st z h Q = ni_T d 21 12 [a0, .ref o, a2, a3, a4] (.ref o :: st) z h Q := ni_T_p rfl rfl
theorem s21_11N : ni_T d 21 11 [a0, .null, a2, a3, a4] st z h Q = ni_T d 21 12 [a0, .null, a2, a3, a4] (.null :: st) z h Q := ni_T_p rfl rfl
theorem s21_12 : ni_T d 21 12 [a0, a1, .int x, a3, a4] st z h Q = ni_T d 21 13 [a0, a1, .int x, a3, a4] (.int x :: st) z h Q := ni_T_p rfl rfl
theorem s21_13 : ni_T d 21 13 [a0, a1, a2, .int x, a4] st z h Q = ni_T d 21 14 [a0, a1, a2, .int x, a4] (.int x :: st) z h Q := ni_T_p rfl rfl
theorem s21_14 : ni_T d 21 14 [a0, a1, a2, a3, .int x] st z h Q = ni_T d 21 16 [a0, a1, a2, a3, .int x] (.int x :: st) z h Q := ni_T_p rfl rfl
theorem s21_16 : ni_T (d + 1) 21 16 [a0, a1, a2, a3, a4] (.int x3 :: .int x2 :: .int x1 :: .ref o20 :: .ref o :: st) z h Q = (ni_rc (h o) 2 = true ∧ Nat.ble (ni_sw st) 8 = true ∧ ni_T d 19 0 [.ref o, .ref o20, .int x1, .int x2, .int x3, .retAddr 0] [] z h (ni_K (d + 1) 21 19 [a0, a1, a2, a3, a4] st z Q)) := ni_T_ce [.ref o, .ref o20, .int x1, .int x2, .int x3] rfl rfl rfl rfl rfl rfl rfl rfl rfl
theorem s21_16N0 : ni_T (d + 1) 21 16 [a0, a1, a2, a3, a4] (.int x3 :: .int x2 :: .int x1 :: .null :: .ref o :: st) z h Q = (ni_rc (h o) 2 = true ∧ Nat.ble (ni_sw st) 8 = true ∧ ni_T d 19 0 [.ref o, .null, .int x1, .int x2, .int x3, .retAddr 0] [] z h (ni_K (d + 1) 21 19 [a0, a1, a2, a3, a4] st z Q)) := ni_T_ce [.ref o, .null, .int x1, .int x2, .int x3] rfl rfl rfl rfl rfl rfl rfl rfl rfl
theorem s21_19 : ni_T d 21 19 [a0, a1, a2, a3, a4] (.int x :: st) z h Q = if x ≤ 0 then ni_T d 21 25 [a0, a1, a2, a3, a4] st z h Q else ni_T d 21 22 [a0, a1, a2, a3, a4] st z h Q := ni_T_b rfl rfl
theorem s21_22 : ni_T d 21 22 [a0, a1, a2, a3, .int x] st z h Q = ni_T d 21 24 [a0, a1, a2, a3, .int x] (.int x :: st) z h Q := ni_T_p rfl rfl
theorem s21_24 : ni_T d 21 24 [a0, a1, a2, a3, a4] [.int x] z h Q = Q (some (.int x)) z h := ni_T_i rfl rfl
theorem s21_25 : ni_T d 21 25 [a0, a1, a2, a3, .int x] st z h Q = ni_T d 21 28 [a0, a1, a2, ni_kl a3, .int (x + 1)] st z h Q := ni_T_p rfl rfl
theorem s21_28 : ni_T d 21 28 [a0, a1, a2, a3, a4] st z h Q = ni_T d 21 3 [a0, a1, a2, a3, a4] st z h Q := ni_T_p rfl rfl
theorem s21_31 : ni_T d 21 31 [a0, a1, a2, a3, a4] st z h Q = ni_T d 21 32 [a0, a1, a2, a3, a4] (.int 1 :: st) z h Q := ni_T_p rfl rfl
theorem s21_32 : ni_T d 21 32 [a0, a1, a2, a3, a4] [.int x] z h Q = Q (some (.int x)) z h := ni_T_i rfl rfl
theorem s22_0 : ni_T d 22 0 [a0, a1, a2, a3, a4, a5] st z h Q = ni_T d 22 1 [a0, a1, a2, a3, a4, a5] (.int 0 :: st) z h Q := ni_T_p rfl rfl
theorem s22_1 : ni_T d 22 1 [a0, a1, a2, a3, a4, a5] (.int x :: st) z h Q = ni_T d 22 3 [a0, a1, a2, ni_kl a3, .int x, a5] st z h Q := ni_T_p rfl rfl
theorem s22_3 : ni_T d 22 3 [a0, a1, a2, a3, a4, a5] st z h Q = ni_T d 22 4 [a0, a1, a2, a3, a4, a5] (.int 1 :: st) z h Q := ni_T_p rfl rfl
theorem s22_4 : ni_T d 22 4 [a0, a1, a2, a3, a4, a5] (.int x :: st) z h Q = ni_T d 22 6 [a0, a1, a2, a3, ni_kl a4, .int x] st z h Q := ni_T_p rfl rfl
theorem s22_6 : ni_T d 22 6 [a0, a1, a2, a3, a4, .int x] st z h Q = ni_T d 22 8 [a0, a1, a2, a3, a4, .int x] (.int x :: st) z h Q := ni_T_p rfl rfl
theorem s22_8 : ni_T d 22 8 [a0, a1, a2, a3, a4, a5] st z h Q = ni_T d 22 10 [a0, a1, a2, a3, a4, a5] (.int 9 :: st) z h Q := ni_T_p rfl rfl
theorem s22_10 : ni_T d 22 10 [a0, a1, a2, a3, a4, a5] (.int y :: .int x :: st) z h Q = if y < x then ni_T d 22 35 [a0, a1, a2, a3, a4, a5] st z h Q else ni_T d 22 13 [a0, a1, a2, a3, a4, a5] st z h Q := ni_T_b rfl rfl
theorem s22_13 : ni_T d 22 13 [a0, a1, a2, a3, .int x, a5] st z h Q = ni_T d 22 15 [a0, a1, a2, a3, .int x, a5] (.int x :: st) z h Q := ni_T_p rfl rfl
theorem s22_15 : ni_T d 22 15 [a0, a1, a2, a3, a4, a5] (.int x :: st) z h Q = if x = 0 then ni_T d 22 18 [a0, a1, a2, a3, a4, a5] st z h Q else ni_T d 22 35 [a0, a1, a2, a3, a4, a5] st z h Q := ni_T_b rfl rfl
theorem s22_18 : ni_T d 22 18 [.ref o, a1, a2, a3, a4, a5] st z h Q = ni_T d 22 19 [.ref o, a1, a2, a3, a4, a5] (.ref o :: st) z h Q := ni_T_p rfl rfl
theorem s22_19 : ni_T d 22 19 [a0, .ref o, a2, a3, a4, a5] st z h Q = ni_T d 22 20 [a0, .ref o, a2, a3, a4, a5] (.ref o :: st) z h Q := ni_T_p rfl rfl
theorem s22_19N : ni_T d 22 19 [a0, .null, a2, a3, a4, a5] st z h Q = ni_T d 22 20 [a0, .null, a2, a3, a4, a5] (.null :: st) z h Q := ni_T_p rfl rfl
theorem s22_20 : ni_T d 22 20 [a0, a1, .int x, a3, a4, a5] st z h Q = ni_T d 22 21 [a0, a1, .int x, a3, a4, a5] (.int x :: st) z h Q := ni_T_p rfl rfl
theorem s22_21 : ni_T d 22 21 [a0, a1, a2, .int x, a4, a5] st z h Q = ni_T d 22 22 [a0, a1, a2, .int x, a4, a5] (.int x :: st) z h Q := ni_T_p rfl rfl
theorem s22_22 : ni_T d 22 22 [a0, a1, a2, a3, a4, .int x] st z h Q = ni_T d 22 24 [a0, a1, a2, a3, a4, .int x] (.int x :: st) z h Q := ni_T_p rfl rfl
theorem s22_24 : ni_T (d + 1) 22 24 [a0, a1, a2, a3, a4, a5] (.int x3 :: .int x2 :: .int x1 :: .ref o20 :: .ref o :: st) z h Q = (ni_rc (h o) 2 = true ∧ Nat.ble (ni_sw st) 8 = true ∧ ni_T d 19 0 [.ref o, .ref o20, .int x1, .int x2, .int x3, .retAddr 0] [] z h (ni_K (d + 1) 22 27 [a0, a1, a2, a3, a4, a5] st z Q)) := ni_T_ce [.ref o, .ref o20, .int x1, .int x2, .int x3] rfl rfl rfl rfl rfl rfl rfl rfl rfl
theorem s22_24N0 : ni_T (d + 1) 22 24 [a0, a1, a2, a3, a4, a5] (.int x3 :: .int x2 :: .int x1 :: .null :: .ref o :: st) z h Q = (ni_rc (h o) 2 = true ∧ Nat.ble (ni_sw st) 8 = true ∧ ni_T d 19 0 [.ref o, .null, .int x1, .int x2, .int x3, .retAddr 0] [] z h (ni_K (d + 1) 22 27 [a0, a1, a2, a3, a4, a5] st z Q)) := ni_T_ce [.ref o, .null, .int x1, .int x2, .int x3] rfl rfl rfl rfl rfl rfl rfl rfl rfl
theorem s22_27 : ni_T d 22 27 [a0, a1, a2, a3, a4, a5] (.int x :: st) z h Q = ni_T d 22 29 [a0, a1, a2, ni_kl a3, .int x, a5] st z h Q := ni_T_p rfl rfl
theorem s22_29 : ni_T d 22 29 [a0, a1, a2, a3, a4, .int x] st z h Q = ni_T d 22 32 [a0, a1, a2, a3, ni_kl a4, .int (x + 1)] st z h Q := ni_T_p rfl rfl
theorem s22_32 : ni_T d 22 32 [a0, a1, a2, a3, a4, a5] st z h Q = ni_T d 22 6 [a0, a1, a2, a3, a4, a5] st z h Q := ni_T_p rfl rfl
theorem s22_35 : ni_T d 22 35 [a0, a1, a2, a3, .int x, a5] st z h Q = ni_T d 22 37 [a0, a1, a2, a3, .int x, a5] (.int x :: st) z h Q := ni_T_p rfl rfl
theorem s22_37 : ni_T d 22 37 [a0, a1, a2, a3, a4, a5] [.int x] z h Q = Q (some (.int x)) z h := ni_T_i rfl rfl
theorem s23_0 : ni_T d 23 0 [.ref o, a1, a2, a3] st z h Q = ni_T d 23 1 [.ref o, a1, a2, a3] (.ref o :: st) z h Q := ni_T_p rfl rfl
theorem s23_1 : ni_T d 23 1 [a0, a1, a2, a3] (.ref o :: st) z h Q = (ni_is (h o) 2 1 = true ∧ ni_T d 23 4 [a0, a1, a2, a3] (ni_gv (h o) 1 :: st) z h Q) := ni_T_getf rfl
theorem s23_4 : ni_T d 23 4 [a0, a1, a2, a3] st z h Q = ni_T d 23 5 [a0, a1, a2, a3] (.int 0 :: st) z h Q := ni_T_p rfl rfl
theorem s23_5 : ni_T d 23 5 [a0, a1, a2, a3] st z h Q = ni_T d 23 7 [a0, a1, a2, a3] (.int 1000000 :: st) z h Q := ni_T_hse rfl rfl rfl rfl
theorem s23_7 : ni_T d 23 7 [a0, a1, a2, a3] (.int y :: .int x :: .ref o :: st) z h Q = (ni_okS (h o) x = true ∧ ni_T d 23 8 [a0, a1, a2, a3] st z (ni_up h o (ni_pi (h o) x y)) Q) := ni_T_iast rfl
theorem s23_8 : ni_T d 23 8 [.ref o, a1, a2, a3] st z h Q = ni_T d 23 9 [.ref o, a1, a2, a3] (.ref o :: st) z h Q := ni_T_p rfl rfl
theorem s23_9 : ni_T d 23 9 [a0, a1, a2, a3] (.ref o :: st) z h Q = (ni_is (h o) 2 2 = true ∧ ni_T d 23 12 [a0, a1, a2, a3] (ni_gv (h o) 2 :: st) z h Q) := ni_T_getf rfl
theorem s23_12 : ni_T d 23 12 [a0, a1, a2, a3] st z h Q = ni_T d 23 13 [a0, a1, a2, a3] (.int 0 :: st) z h Q := ni_T_p rfl rfl
theorem s23_13 : ni_T d 23 13 [a0, a1, a2, a3] st z h Q = ni_T d 23 14 [a0, a1, a2, a3] (.int 0 :: st) z h Q := ni_T_p rfl rfl
theorem s23_14 : ni_T d 23 14 [a0, a1, a2, a3] (.int y :: .int x :: .ref o :: st) z h Q = (ni_okS (h o) x = true ∧ ni_T d 23 15 [a0, a1, a2, a3] st z (ni_up h o (ni_pi (h o) x y)) Q) := ni_T_iast rfl
theorem s23_15 : ni_T d 23 15 [a0, a1, a2, a3] st z h Q = ni_T d 23 16 [a0, a1, a2, a3] (.int 1 :: st) z h Q := ni_T_p rfl rfl
theorem s23_16 : ni_T d 23 16 [a0, a1, a2, a3] (.int x :: st) z h Q = ni_T d 23 17 [a0, a1, ni_kl a2, .int x] st z h Q := ni_T_p rfl rfl
theorem s23_17 : ni_T d 23 17 [a0, a1, a2, .int x] st z h Q = ni_T d 23 18 [a0, a1, a2, .int x] (.int x :: st) z h Q := ni_T_p rfl rfl
theorem s23_18 : ni_T d 23 18 [.ref o, a1, a2, a3] st z h Q = ni_T d 23 19 [.ref o, a1, a2, a3] (.ref o :: st) z h Q := ni_T_p rfl rfl
theorem s23_19 : ni_T d 23 19 [a0, a1, a2, a3] (.ref o :: st) z h Q = (ni_is (h o) 2 5 = true ∧ ni_T d 23 22 [a0, a1, a2, a3] (ni_gv (h o) 5 :: st) z h Q) := ni_T_getf rfl
theorem s23_22 : ni_T d 23 22 [a0, a1, a2, a3] (.int y :: .int x :: st) z h Q = if y < x then ni_T d 23 55 [a0, a1, a2, a3] st z h Q else ni_T d 23 25 [a0, a1, a2, a3] st z h Q := ni_T_b rfl rfl
theorem s23_25 : ni_T d 23 25 [a0, a1, a2, .int x] st z h Q = ni_T d 23 26 [a0, a1, a2, .int x] (.int x :: st) z h Q := ni_T_p rfl rfl
theorem s23_26 : ni_T d 23 26 [a0, a1, a2, a3] st z h Q = ni_T d 23 28 [a0, a1, a2, a3] (.int 32 :: st) z h Q := ni_T_p rfl rfl
theorem s23_28 : ni_T d 23 28 [a0, a1, a2, a3] (.int y :: .int x :: st) z h Q = if y ≤ x then ni_T d 23 55 [a0, a1, a2, a3] st z h Q else ni_T d 23 31 [a0, a1, a2, a3] st z h Q := ni_T_b rfl rfl
theorem s23_31 : ni_T d 23 31 [a0, a1, a2, .int x] st z h Q = ni_T d 23 32 [a0, a1, a2, .int x] (.int x :: st) z h Q := ni_T_p rfl rfl
theorem s23_32 : ni_T d 23 32 [.ref o, a1, a2, a3] st z h Q = ni_T d 23 33 [.ref o, a1, a2, a3] (.ref o :: st) z h Q := ni_T_p rfl rfl
theorem s23_33 : ni_T d 23 33 [a0, a1, a2, a3] (.ref o :: st) z h Q = (ni_is (h o) 2 5 = true ∧ ni_T d 23 36 [a0, a1, a2, a3] (ni_gv (h o) 5 :: st) z h Q) := ni_T_getf rfl
theorem s23_36 : ni_T (d + 1) 23 36 [a0, a1, a2, a3] (.int x1 :: .int x0 :: st) z h Q = (Nat.ble (ni_sw st) 8 = true ∧ ni_T d 118 0 [.int x0, .int x1] [] z h (ni_K (d + 1) 23 39 [a0, a1, a2, a3] st z Q)) := ni_T_cse [.int x0, .int x1] rfl rfl rfl rfl rfl rfl rfl rfl rfl
theorem s23_39 : ni_T d 23 39 [a0, a1, a2, a3] (.int x :: st) z h Q = if x = 0 then ni_T d 23 49 [a0, a1, a2, a3] st z h Q else ni_T d 23 42 [a0, a1, a2, a3] st z h Q := ni_T_b rfl rfl
theorem s23_42 : ni_T d 23 42 [.ref o, a1, a2, a3] st z h Q = ni_T d 23 43 [.ref o, a1, a2, a3] (.ref o :: st) z h Q := ni_T_p rfl rfl
theorem s23_43 : ni_T d 23 43 [a0, .ref o, a2, a3] st z h Q = ni_T d 23 44 [a0, .ref o, a2, a3] (.ref o :: st) z h Q := ni_T_p rfl rfl
theorem s23_43N : ni_T d 23 43 [a0, .null, a2, a3] st z h Q = ni_T d 23 44 [a0, .null, a2, a3] (.null :: st) z h Q := ni_T_p rfl rfl
theorem s23_44 : ni_T d 23 44 [a0, a1, .int x, a3] st z h Q = ni_T d 23 45 [a0, a1, .int x, a3] (.int x :: st) z h Q := ni_T_p rfl rfl
theorem s23_45 : ni_T d 23 45 [a0, a1, a2, .int x] st z h Q = ni_T d 23 46 [a0, a1, a2, .int x] (.int x :: st) z h Q := ni_T_p rfl rfl
theorem s23_46 : ni_T (d + 1) 23 46 [a0, a1, a2, a3] (.int x2 :: .int x1 :: .ref o20 :: .ref o :: st) z h Q = (ni_rc (h o) 2 = true ∧ Nat.ble (ni_sw st) 8 = true ∧ ni_T d 24 0 [.ref o, .ref o20, .int x1, .int x2, .retAddr 0, .retAddr 0, .retAddr 0] [] z h (ni_K (d + 1) 23 49 [a0, a1, a2, a3] st z Q)) := ni_T_ce [.ref o, .ref o20, .int x1, .int x2] rfl rfl rfl rfl rfl rfl rfl rfl rfl
theorem s23_46N0 : ni_T (d + 1) 23 46 [a0, a1, a2, a3] (.int x2 :: .int x1 :: .null :: .ref o :: st) z h Q = (ni_rc (h o) 2 = true ∧ Nat.ble (ni_sw st) 8 = true ∧ ni_T d 24 0 [.ref o, .null, .int x1, .int x2, .retAddr 0, .retAddr 0, .retAddr 0] [] z h (ni_K (d + 1) 23 49 [a0, a1, a2, a3] st z Q)) := ni_T_ce [.ref o, .null, .int x1, .int x2] rfl rfl rfl rfl rfl rfl rfl rfl rfl
theorem s23_49 : ni_T d 23 49 [a0, a1, a2, .int x] st z h Q = ni_T d 23 52 [a0, a1, ni_kl a2, .int (x + 1)] st z h Q := ni_T_p rfl rfl
theorem s23_52 : ni_T d 23 52 [a0, a1, a2, a3] st z h Q = ni_T d 23 17 [a0, a1, a2, a3] st z h Q := ni_T_p rfl rfl
theorem s23_55 : ni_T d 23 55 [a0, a1, a2, a3] [] z h Q = Q none z h := ni_T_v rfl rfl
theorem s24_0 : ni_T d 24 0 [a0, a1, a2, a3, a4, a5, a6] st z h Q = ni_T d 24 1 [a0, a1, a2, a3, a4, a5, a6] (.int (-1) :: st) z h Q := ni_T_p rfl rfl
theorem s24_1 : ni_T d 24 1 [a0, a1, a2, a3, a4, a5, a6] (.int x :: st) z h Q = ni_T d 24 3 [a0, a1, a2, ni_kl a3, .int x, a5, a6] st z h Q := ni_T_p rfl rfl
theorem s24_3 : ni_T d 24 3 [a0, a1, a2, a3, a4, a5, a6] st z h Q = ni_T d 24 4 [a0, a1, a2, a3, a4, a5, a6] (.int 1 :: st) z h Q := ni_T_p rfl rfl
theorem s24_4 : ni_T d 24 4 [a0, a1, a2, a3, a4, a5, a6] (.int x :: st) z h Q = ni_T d 24 6 [a0, a1, a2, a3, ni_kl a4, .int x, a6] st z h Q := ni_T_p rfl rfl
theorem s24_6 : ni_T d 24 6 [a0, a1, a2, a3, a4, .int x, a6] st z h Q = ni_T d 24 8 [a0, a1, a2, a3, a4, .int x, a6] (.int x :: st) z h Q := ni_T_p rfl rfl
theorem s24_8 : ni_T d 24 8 [a0, a1, a2, .int x, a4, a5, a6] st z h Q = ni_T d 24 9 [a0, a1, a2, .int x, a4, a5, a6] (.int x :: st) z h Q := ni_T_p rfl rfl
theorem s24_9 : ni_T d 24 9 [a0, a1, a2, a3, a4, a5, a6] (.int y :: .int x :: st) z h Q = if y < x then ni_T d 24 81 [a0, a1, a2, a3, a4, a5, a6] st z h Q else ni_T d 24 12 [a0, a1, a2, a3, a4, a5, a6] st z h Q := ni_T_b rfl rfl
theorem s24_12 : ni_T d 24 12 [a0, a1, a2, a3, a4, .int x, a6] st z h Q = ni_T d 24 14 [a0, a1, a2, a3, a4, .int x, a6] (.int x :: st) z h Q := ni_T_p rfl rfl
theorem s24_14 : ni_T d 24 14 [a0, a1, a2, .int x, a4, a5, a6] st z h Q = ni_T d 24 15 [a0, a1, a2, .int x, a4, a5, a6] (.int x :: st) z h Q := ni_T_p rfl rfl
theorem s24_15 : ni_T (d + 1) 24 15 [a0, a1, a2, a3, a4, a5, a6] (.int x1 :: .int x0 :: st) z h Q = (Nat.ble (ni_sw st) 8 = true ∧ ni_T d 118 0 [.int x0, .int x1] [] z h (ni_K (d + 1) 24 18 [a0, a1, a2, a3, a4, a5, a6] st z Q)) := ni_T_cse [.int x0, .int x1] rfl rfl rfl rfl rfl rfl rfl rfl rfl
theorem s24_18 : ni_T d 24 18 [a0, a1, a2, a3, a4, a5, a6] (.int x :: st) z h Q = if x = 0 then ni_T d 24 75 [a0, a1, a2, a3, a4, a5, a6] st z h Q else ni_T d 24 21 [a0, a1, a2, a3, a4, a5, a6] st z h Q := ni_T_b rfl rfl
theorem s24_21 : ni_T d 24 21 [a0, a1, a2, a3, a4, .int x, a6] st z h Q = ni_T d 24 23 [a0, a1, a2, a3, a4, .int x, a6] (.int x :: st) z h Q := ni_T_p rfl rfl
theorem s24_23 : ni_T d 24 23 [a0, a1, a2, .int x, a4, a5, a6] st z h Q = ni_T d 24 24 [a0, a1, a2, .int x, a4, a5, a6] (.int x :: st) z h Q := ni_T_p rfl rfl
theorem s24_24 : ni_T d 24 24 [a0, a1, .int x, a3, a4, a5, a6] st z h Q = ni_T d 24 25 [a0, a1, .int x, a3, a4, a5, a6] (.int x :: st) z h Q := ni_T_p rfl rfl
theorem s24_25 : ni_T (d + 1) 24 25 [a0, a1, a2, a3, a4, a5, a6] (.int x2 :: .int x1 :: .int x0 :: st) z h Q = (Nat.ble (ni_sw st) 8 = true ∧ ni_T d 25 0 [.int x0, .int x1, .int x2, .retAddr 0] [] z h (ni_K (d + 1) 24 28 [a0, a1, a2, a3, a4, a5, a6] st z Q)) := ni_T_cse [.int x0, .int x1, .int x2] rfl rfl rfl rfl rfl rfl rfl rfl rfl
theorem s24_28 : ni_T d 24 28 [a0, a1, a2, a3, a4, a5, a6] (.int x :: st) z h Q = if x = 0 then ni_T d 24 75 [a0, a1, a2, a3, a4, a5, a6] st z h Q else ni_T d 24 31 [a0, a1, a2, a3, a4, a5, a6] st z h Q := ni_T_b rfl rfl
theorem s24_31 : ni_T d 24 31 [.ref o, a1, a2, a3, a4, a5, a6] st z h Q = ni_T d 24 32 [.ref o, a1, a2, a3, a4, a5, a6] (.ref o :: st) z h Q := ni_T_p rfl rfl
theorem s24_32 : ni_T d 24 32 [a0, a1, a2, a3, a4, a5, a6] (.ref o :: st) z h Q = (ni_is (h o) 2 1 = true ∧ ni_T d 24 35 [a0, a1, a2, a3, a4, a5, a6] (ni_gv (h o) 1 :: st) z h Q) := ni_T_getf rfl
theorem s24_35 : ni_T d 24 35 [a0, a1, a2, .int x, a4, a5, a6] st z h Q = ni_T d 24 36 [a0, a1, a2, .int x, a4, a5, a6] (.int x :: st) z h Q := ni_T_p rfl rfl
theorem s24_36 : ni_T d 24 36 [a0, a1, a2, a3, a4, .int x, a6] st z h Q = ni_T d 24 38 [a0, a1, a2, a3, a4, .int x, a6] (.int x :: st) z h Q := ni_T_p rfl rfl
theorem s24_38 : ni_T d 24 38 [a0, a1, a2, a3, a4, a5, a6] st z h Q = ni_T d 24 39 [a0, a1, a2, a3, a4, a5, a6] (.int (-1) :: st) z h Q := ni_T_p rfl rfl
theorem s24_39 : ni_T d 24 39 [a0, a1, a2, a3, a4, a5, a6] (.int y :: .int x :: st) z h Q = ni_T d 24 40 [a0, a1, a2, a3, a4, a5, a6] (.int (x ^^^ y) :: st) z h Q := ni_T_p rfl rfl
theorem s24_40 : ni_T d 24 40 [a0, a1, a2, a3, a4, a5, a6] (.int y :: .int x :: st) z h Q = ni_T d 24 41 [a0, a1, a2, a3, a4, a5, a6] (.int (x &&& y) :: st) z h Q := ni_T_p rfl rfl
theorem s24_41 : ni_T d 24 41 [a0, a1, a2, a3, a4, a5, a6] (.int x :: .ref o :: st) z h Q = (ni_okI (h o) x = true ∧ ni_T d 24 42 [a0, a1, a2, a3, a4, a5, a6] (.int (ni_gi (h o) x) :: st) z h Q) := ni_T_iald rfl
theorem s24_42 : ni_T d 24 42 [.ref o, a1, a2, a3, a4, a5, a6] st z h Q = ni_T d 24 43 [.ref o, a1, a2, a3, a4, a5, a6] (.ref o :: st) z h Q := ni_T_p rfl rfl
theorem s24_43 : ni_T d 24 43 [a0, .ref o, a2, a3, a4, a5, a6] st z h Q = ni_T d 24 44 [a0, .ref o, a2, a3, a4, a5, a6] (.ref o :: st) z h Q := ni_T_p rfl rfl
theorem s24_43N : ni_T d 24 43 [a0, .null, a2, a3, a4, a5, a6] st z h Q = ni_T d 24 44 [a0, .null, a2, a3, a4, a5, a6] (.null :: st) z h Q := ni_T_p rfl rfl
theorem s24_44 : ni_T d 24 44 [a0, a1, a2, a3, a4, .int x, a6] st z h Q = ni_T d 24 46 [a0, a1, a2, a3, a4, .int x, a6] (.int x :: st) z h Q := ni_T_p rfl rfl
theorem s24_46 : ni_T d 24 46 [a0, a1, a2, .int x, a4, a5, a6] st z h Q = ni_T d 24 47 [a0, a1, a2, .int x, a4, a5, a6] (.int x :: st) z h Q := ni_T_p rfl rfl
theorem s24_47 : ni_T (d + 1) 24 47 [a0, a1, a2, a3, a4, a5, a6] (.int x2 :: .int x1 :: .ref o20 :: .ref o :: st) z h Q = (ni_rc (h o) 2 = true ∧ Nat.ble (ni_sw st) 8 = true ∧ ni_T d 22 0 [.ref o, .ref o20, .int x1, .int x2, .retAddr 0, .retAddr 0] [] z h (ni_K (d + 1) 24 50 [a0, a1, a2, a3, a4, a5, a6] st z Q)) := ni_T_ce [.ref o, .ref o20, .int x1, .int x2] rfl rfl rfl rfl rfl rfl rfl rfl rfl
theorem s24_47N0 : ni_T (d + 1) 24 47 [a0, a1, a2, a3, a4, a5, a6] (.int x2 :: .int x1 :: .null :: .ref o :: st) z h Q = (ni_rc (h o) 2 = true ∧ Nat.ble (ni_sw st) 8 = true ∧ ni_T d 22 0 [.ref o, .null, .int x1, .int x2, .retAddr 0, .retAddr 0] [] z h (ni_K (d + 1) 24 50 [a0, a1, a2, a3, a4, a5, a6] st z Q)) := ni_T_ce [.ref o, .null, .int x1, .int x2] rfl rfl rfl rfl rfl rfl rfl rfl rfl
theorem s24_50 : ni_T d 24 50 [a0, a1, a2, a3, a4, a5, a6] (.int y :: .int x :: st) z h Q = ni_T d 24 51 [a0, a1, a2, a3, a4, a5, a6] (.int (x * y) :: st) z h Q := ni_T_p rfl rfl
theorem s24_51 : ni_T d 24 51 [a0, a1, a2, a3, a4, a5, a6] st z h Q = ni_T d 24 53 [a0, a1, a2, a3, a4, a5, a6] (.int 100 :: st) z h Q := ni_T_p rfl rfl
theorem s24_53 : ni_T d 24 53 [a0, a1, a2, a3, a4, a5, a6] (.int y :: .int x :: st) z h Q = (¬ y = 0 ∧ ni_T d 24 54 [a0, a1, a2, a3, a4, a5, a6] (.int (x / y) :: st) z h Q) := ni_T_idiv rfl
theorem s24_54 : ni_T d 24 54 [a0, a1, a2, a3, a4, a5, a6] (.int x :: st) z h Q = ni_T d 24 56 [a0, a1, a2, a3, a4, ni_kl a5, .int x] st z h Q := ni_T_p rfl rfl
theorem s24_56 : ni_T d 24 56 [a0, a1, a2, a3, a4, a5, .int x] st z h Q = ni_T d 24 58 [a0, a1, a2, a3, a4, a5, .int x] (.int x :: st) z h Q := ni_T_p rfl rfl
theorem s24_58 : ni_T d 24 58 [a0, a1, a2, a3, .int x, a5, a6] st z h Q = ni_T d 24 60 [a0, a1, a2, a3, .int x, a5, a6] (.int x :: st) z h Q := ni_T_p rfl rfl
theorem s24_60 : ni_T d 24 60 [a0, a1, a2, a3, a4, a5, a6] (.int y :: .int x :: st) z h Q = if x ≤ y then ni_T d 24 75 [a0, a1, a2, a3, a4, a5, a6] st z h Q else ni_T d 24 63 [a0, a1, a2, a3, a4, a5, a6] st z h Q := ni_T_b rfl rfl
theorem s24_63 : ni_T d 24 63 [a0, a1, a2, a3, a4, a5, .int x] st z h Q = ni_T d 24 65 [a0, a1, a2, a3, a4, a5, .int x] (.int x :: st) z h Q := ni_T_p rfl rfl
theorem s24_65 : ni_T d 24 65 [a0, a1, a2, a3, a4, a5, a6] (.int x :: st) z h Q = ni_T d 24 67 [a0, a1, a2, ni_kl a3, .int x, a5, a6] st z h Q := ni_T_p rfl rfl
theorem s24_67 : ni_T d 24 67 [.ref o, a1, a2, a3, a4, a5, a6] st z h Q = ni_T d 24 68 [.ref o, a1, a2, a3, a4, a5, a6] (.ref o :: st) z h Q := ni_T_p rfl rfl
theorem s24_68 : ni_T d 24 68 [a0, a1, a2, a3, a4, a5, a6] (.ref o :: st) z h Q = (ni_is (h o) 2 2 = true ∧ ni_T d 24 71 [a0, a1, a2, a3, a4, a5, a6] (ni_gv (h o) 2 :: st) z h Q) := ni_T_getf rfl
theorem s24_71 : ni_T d 24 71 [a0, a1, a2, .int x, a4, a5, a6] st z h Q = ni_T d 24 72 [a0, a1, a2, .int x, a4, a5, a6] (.int x :: st) z h Q := ni_T_p rfl rfl
theorem s24_72 : ni_T d 24 72 [a0, a1, a2, a3, a4, .int x, a6] st z h Q = ni_T d 24 74 [a0, a1, a2, a3, a4, .int x, a6] (.int x :: st) z h Q := ni_T_p rfl rfl
theorem s24_74 : ni_T d 24 74 [a0, a1, a2, a3, a4, a5, a6] (.int y :: .int x :: .ref o :: st) z h Q = (ni_okS (h o) x = true ∧ ni_T d 24 75 [a0, a1, a2, a3, a4, a5, a6] st z (ni_up h o (ni_pi (h o) x y)) Q) := ni_T_iast rfl
theorem s24_75 : ni_T d 24 75 [a0, a1, a2, a3, a4, .int x, a6] st z h Q = ni_T d 24 78 [a0, a1, a2, a3, ni_kl a4, .int (x + 1), a6] st z h Q := ni_T_p rfl rfl
theorem s24_78 : ni_T d 24 78 [a0, a1, a2, a3, a4, a5, a6] st z h Q = ni_T d 24 6 [a0, a1, a2, a3, a4, a5, a6] st z h Q := ni_T_p rfl rfl
theorem s24_81 : ni_T d 24 81 [.ref o, a1, a2, a3, a4, a5, a6] st z h Q = ni_T d 24 82 [.ref o, a1, a2, a3, a4, a5, a6] (.ref o :: st) z h Q := ni_T_p rfl rfl
theorem s24_82 : ni_T d 24 82 [a0, a1, a2, a3, a4, a5, a6] (.ref o :: st) z h Q = (ni_is (h o) 2 1 = true ∧ ni_T d 24 85 [a0, a1, a2, a3, a4, a5, a6] (ni_gv (h o) 1 :: st) z h Q) := ni_T_getf rfl
theorem s24_85 : ni_T d 24 85 [a0, a1, a2, .int x, a4, a5, a6] st z h Q = ni_T d 24 86 [a0, a1, a2, .int x, a4, a5, a6] (.int x :: st) z h Q := ni_T_p rfl rfl
theorem s24_86 : ni_T d 24 86 [a0, a1, a2, a3, .int x, a5, a6] st z h Q = ni_T d 24 88 [a0, a1, a2, a3, .int x, a5, a6] (.int x :: st) z h Q := ni_T_p rfl rfl
theorem s24_88 : ni_T d 24 88 [a0, a1, a2, a3, a4, a5, a6] (.int y :: .int x :: .ref o :: st) z h Q = (ni_okS (h o) x = true ∧ ni_T d 24 89 [a0, a1, a2, a3, a4, a5, a6] st z (ni_up h o (ni_pi (h o) x y)) Q) := ni_T_iast rfl
theorem s24_89 : ni_T d 24 89 [a0, a1, a2, a3, a4, a5, a6] [] z h Q = Q none z h := ni_T_v rfl rfl
theorem s25_0 : ni_T d 25 0 [.int x, a1, a2, a3] st z h Q = ni_T d 25 1 [.int x, a1, a2, a3] (.int x :: st) z h Q := ni_T_p rfl rfl
theorem s25_1 : ni_T (d + 1) 25 1 [a0, a1, a2, a3] (.int x0 :: st) z h Q = (Nat.ble (ni_sw st) 8 = true ∧ ni_T d 200 0 [.int x0] [] z h (ni_K (d + 1) 25 4 [a0, a1, a2, a3] st z Q)) := ni_T_cse [.int x0] rfl rfl rfl rfl rfl rfl rfl rfl rfl
theorem s25_4 : ni_T d 25 4 [a0, a1, a2, a3] (.int x :: st) z h Q = ni_T d 25 5 [a0, a1, ni_kl a2, .int x] st z h Q := ni_T_p rfl rfl
theorem s25_5 : ni_T d 25 5 [a0, a1, a2, .int x] st z h Q = ni_T d 25 6 [a0, a1, a2, .int x] (.int x :: st) z h Q := ni_T_p rfl rfl
theorem s25_6 : ni_T d 25 6 [a0, a1, .int x, a3] st z h Q = ni_T d 25 7 [a0, a1, .int x, a3] (.int x :: st) z h Q := ni_T_p rfl rfl
theorem s25_7 : ni_T d 25 7 [a0, a1, a2, a3] (.int y :: .int x :: st) z h Q = if x = y then ni_T d 25 24 [a0, a1, a2, a3] st z h Q else ni_T d 25 10 [a0, a1, a2, a3] st z h Q := ni_T_b rfl rfl
theorem s25_10 : ni_T d 25 10 [a0, a1, .int x, a3] st z h Q = ni_T d 25 11 [a0, a1, .int x, a3] (.int x :: st) z h Q := ni_T_p rfl rfl
theorem s25_11 : ni_T d 25 11 [a0, a1, a2, a3] (.int x :: st) z h Q = if x ≤ 0 then ni_T d 25 28 [a0, a1, a2, a3] st z h Q else ni_T d 25 14 [a0, a1, a2, a3] st z h Q := ni_T_b rfl rfl
theorem s25_14 : ni_T d 25 14 [a0, a1, a2, .int x] st z h Q = ni_T d 25 15 [a0, a1, a2, .int x] (.int x :: st) z h Q := ni_T_p rfl rfl
theorem s25_15 : ni_T d 25 15 [a0, .int x, a2, a3] st z h Q = ni_T d 25 16 [a0, .int x, a2, a3] (.int x :: st) z h Q := ni_T_p rfl rfl
theorem s25_16 : ni_T (d + 1) 25 16 [a0, a1, a2, a3] (.int x0 :: st) z h Q = (Nat.ble (ni_sw st) 8 = true ∧ ni_T d 200 0 [.int x0] [] z h (ni_K (d + 1) 25 19 [a0, a1, a2, a3] st z Q)) := ni_T_cse [.int x0] rfl rfl rfl rfl rfl rfl rfl rfl rfl
theorem s25_19 : ni_T d 25 19 [a0, a1, .int x, a3] st z h Q = ni_T d 25 20 [a0, a1, .int x, a3] (.int x :: st) z h Q := ni_T_p rfl rfl
theorem s25_20 : ni_T d 25 20 [a0, a1, a2, a3] (.int y :: .int x :: st) z h Q = (¬ y = 0 ∧ ni_T d 25 21 [a0, a1, a2, a3] (.int (x - x / y * y) :: st) z h Q) := ni_T_irem rfl
theorem s25_21 : ni_T d 25 21 [a0, a1, a2, a3] (.int y :: .int x :: st) z h Q = if x = y then ni_T d 25 24 [a0, a1, a2, a3] st z h Q else ni_T d 25 28 [a0, a1, a2, a3] st z h Q := ni_T_b rfl rfl
theorem s25_24 : ni_T d 25 24 [a0, a1, a2, a3] st z h Q = ni_T d 25 25 [a0, a1, a2, a3] (.int 1 :: st) z h Q := ni_T_p rfl rfl
theorem s25_25 : ni_T d 25 25 [a0, a1, a2, a3] st z h Q = ni_T d 25 29 [a0, a1, a2, a3] st z h Q := ni_T_p rfl rfl
theorem s25_28 : ni_T d 25 28 [a0, a1, a2, a3] st z h Q = ni_T d 25 29 [a0, a1, a2, a3] (.int 0 :: st) z h Q := ni_T_p rfl rfl
theorem s25_29 : ni_T d 25 29 [a0, a1, a2, a3] [.int x] z h Q = (narrow .boolean (.int x) = .int x ∧ Q (some (.int x)) z h) := ni_T_z rfl rfl
theorem s26_0 : ni_T d 26 0 [.ref o, a1, a2, a3, a4, a5, a6, a7, a8] st z h Q = ni_T d 26 1 [.ref o, a1, a2, a3, a4, a5, a6, a7, a8] (.ref o :: st) z h Q := ni_T_p rfl rfl
theorem s26_1 : ni_T d 26 1 [a0, a1, a2, a3, a4, a5, a6, a7, a8] (.ref o :: st) z h Q = (ni_is (h o) 2 5 = true ∧ ni_T d 26 4 [a0, a1, a2, a3, a4, a5, a6, a7, a8] (ni_gv (h o) 5 :: st) z h Q) := ni_T_getf rfl
theorem s26_4 : ni_T d 26 4 [a0, a1, a2, a3, a4, a5, a6, a7, a8] (.int x :: st) z h Q = ni_T d 26 6 [a0, a1, a2, ni_kl a3, .int x, a5, a6, a7, a8] st z h Q := ni_T_p rfl rfl
theorem s26_6 : ni_T d 26 6 [.ref o, a1, a2, a3, a4, a5, a6, a7, a8] st z h Q = ni_T d 26 7 [.ref o, a1, a2, a3, a4, a5, a6, a7, a8] (.ref o :: st) z h Q := ni_T_p rfl rfl
theorem s26_7 : ni_T d 26 7 [a0, a1, a2, a3, a4, a5, a6, a7, a8] st z h Q = ni_T d 26 9 [a0, a1, a2, a3, a4, a5, a6, a7, a8] (.int 1000000 :: st) z h Q := ni_T_hse rfl rfl rfl rfl
theorem s26_9 : ni_T d 26 9 [a0, a1, a2, a3, a4, a5, a6, a7, a8] (b0 :: .ref o :: st) z h Q = ((Nat.ble 2 7 && ni_is (h o) 2 6 && ni_fit (.int) b0) = true ∧ ni_T d 26 12 [a0, a1, a2, a3, a4, a5, a6, a7, a8] st z (ni_up h o (ni_pv (h o) 6 b0)) Q) := ni_T_putf rfl
theorem s26_12 : ni_T d 26 12 [a0, a1, a2, a3, a4, a5, a6, a7, a8] st z h Q = ni_T d 26 13 [a0, a1, a2, a3, a4, a5, a6, a7, a8] (.int 0 :: st) z h Q := ni_T_p rfl rfl
theorem s26_13 : ni_T d 26 13 [a0, a1, a2, a3, a4, a5, a6, a7, a8] (.int x :: st) z h Q = ni_T d 26 15 [a0, a1, a2, a3, ni_kl a4, .int x, a6, a7, a8] st z h Q := ni_T_p rfl rfl
theorem s26_15 : ni_T d 26 15 [a0, a1, a2, a3, a4, .int x, a6, a7, a8] st z h Q = ni_T d 26 17 [a0, a1, a2, a3, a4, .int x, a6, a7, a8] (.int x :: st) z h Q := ni_T_p rfl rfl
theorem s26_17 : ni_T d 26 17 [a0, a1, a2, .int x, a4, a5, a6, a7, a8] st z h Q = ni_T d 26 18 [a0, a1, a2, .int x, a4, a5, a6, a7, a8] (.int x :: st) z h Q := ni_T_p rfl rfl
theorem s26_18 : ni_T d 26 18 [a0, a1, a2, a3, a4, a5, a6, a7, a8] (.int y :: .int x :: st) z h Q = if y ≤ x then ni_T d 26 114 [a0, a1, a2, a3, a4, a5, a6, a7, a8] st z h Q else ni_T d 26 21 [a0, a1, a2, a3, a4, a5, a6, a7, a8] st z h Q := ni_T_b rfl rfl
theorem s26_21 : ni_T d 26 21 [a0, a1, .ref o, a3, a4, a5, a6, a7, a8] st z h Q = ni_T d 26 22 [a0, a1, .ref o, a3, a4, a5, a6, a7, a8] (.ref o :: st) z h Q := ni_T_p rfl rfl
theorem s26_21N : ni_T d 26 21 [a0, a1, .null, a3, a4, a5, a6, a7, a8] st z h Q = ni_T d 26 22 [a0, a1, .null, a3, a4, a5, a6, a7, a8] (.null :: st) z h Q := ni_T_p rfl rfl
theorem s26_22 : ni_T d 26 22 [a0, a1, a2, a3, a4, .int x, a6, a7, a8] st z h Q = ni_T d 26 24 [a0, a1, a2, a3, a4, .int x, a6, a7, a8] (.int x :: st) z h Q := ni_T_p rfl rfl
theorem s26_24 : ni_T (d + 1) 26 24 [a0, a1, a2, a3, a4, a5, a6, a7, a8] (.int x0 :: .ref o :: st) z h Q = (ni_rc (h o) 4 = true ∧ Nat.ble (ni_sw st) 8 = true ∧ ni_T d 44 0 [.ref o, .int x0] [] z h (ni_K (d + 1) 26 27 [a0, a1, a2, a3, a4, a5, a6, a7, a8] st z Q)) := ni_T_ce [.ref o, .int x0] rfl rfl rfl rfl rfl rfl rfl rfl rfl
theorem s26_27 : ni_T d 26 27 [a0, a1, a2, a3, a4, a5, a6, a7, a8] st z h Q = ni_T d 26 29 [a0, a1, a2, a3, a4, a5, a6, a7, a8] (.int 10 :: st) z h Q := ni_T_p rfl rfl
theorem s26_29 : ni_T d 26 29 [a0, a1, a2, a3, a4, a5, a6, a7, a8] (.int y :: .int x :: st) z h Q = (¬ y = 0 ∧ ni_T d 26 30 [a0, a1, a2, a3, a4, a5, a6, a7, a8] (.int (x / y) :: st) z h Q) := ni_T_idiv rfl
theorem s26_30 : ni_T d 26 30 [a0, a1, a2, a3, a4, a5, a6, a7, a8] (.int x :: st) z h Q = ni_T d 26 32 [a0, a1, a2, a3, a4, ni_kl a5, .int x, a7, a8] st z h Q := ni_T_p rfl rfl
theorem s26_32 : ni_T d 26 32 [a0, a1, .ref o, a3, a4, a5, a6, a7, a8] st z h Q = ni_T d 26 33 [a0, a1, .ref o, a3, a4, a5, a6, a7, a8] (.ref o :: st) z h Q := ni_T_p rfl rfl
theorem s26_32N : ni_T d 26 32 [a0, a1, .null, a3, a4, a5, a6, a7, a8] st z h Q = ni_T d 26 33 [a0, a1, .null, a3, a4, a5, a6, a7, a8] (.null :: st) z h Q := ni_T_p rfl rfl
theorem s26_33 : ni_T d 26 33 [a0, a1, a2, a3, a4, .int x, a6, a7, a8] st z h Q = ni_T d 26 35 [a0, a1, a2, a3, a4, .int x, a6, a7, a8] (.int x :: st) z h Q := ni_T_p rfl rfl
theorem s26_35 : ni_T (d + 1) 26 35 [a0, a1, a2, a3, a4, a5, a6, a7, a8] (.int x0 :: .ref o :: st) z h Q = (ni_rc (h o) 4 = true ∧ Nat.ble (ni_sw st) 8 = true ∧ ni_T d 44 0 [.ref o, .int x0] [] z h (ni_K (d + 1) 26 38 [a0, a1, a2, a3, a4, a5, a6, a7, a8] st z Q)) := ni_T_ce [.ref o, .int x0] rfl rfl rfl rfl rfl rfl rfl rfl rfl
theorem s26_38 : ni_T d 26 38 [a0, a1, a2, a3, a4, a5, a6, a7, a8] st z h Q = ni_T d 26 40 [a0, a1, a2, a3, a4, a5, a6, a7, a8] (.int 10 :: st) z h Q := ni_T_p rfl rfl
theorem s26_40 : ni_T d 26 40 [a0, a1, a2, a3, a4, a5, a6, a7, a8] (.int y :: .int x :: st) z h Q = (¬ y = 0 ∧ ni_T d 26 41 [a0, a1, a2, a3, a4, a5, a6, a7, a8] (.int (x - x / y * y) :: st) z h Q) := ni_T_irem rfl
theorem s26_41 : ni_T d 26 41 [a0, a1, a2, a3, a4, a5, a6, a7, a8] (.int x :: st) z h Q = ni_T d 26 43 [a0, a1, a2, a3, a4, a5, ni_kl a6, .int x, a8] st z h Q := ni_T_p rfl rfl
theorem s26_43 : ni_T d 26 43 [a0, a1, a2, a3, a4, a5, a6, .int x, a8] st z h Q = ni_T d 26 45 [a0, a1, a2, a3, a4, a5, a6, .int x, a8] (.int x :: st) z h Q := ni_T_p rfl rfl
theorem s26_45 : ni_T (d + 1) 26 45 [a0, a1, a2, a3, a4, a5, a6, a7, a8] (.int x0 :: st) z h Q = (Nat.ble (ni_sw st) 8 = true ∧ ni_T d 109 0 [.int x0] [] z h (ni_K (d + 1) 26 48 [a0, a1, a2, a3, a4, a5, a6, a7, a8] st z Q)) := ni_T_cse [.int x0] rfl rfl rfl rfl rfl rfl rfl rfl rfl
theorem s26_48 : ni_T d 26 48 [a0, a1, a2, a3, a4, a5, a6, a7, a8] (.int x :: st) z h Q = if x = 0 then ni_T d 26 61 [a0, a1, a2, a3, a4, a5, a6, a7, a8] st z h Q else ni_T d 26 51 [a0, a1, a2, a3, a4, a5, a6, a7, a8] st z h Q := ni_T_b rfl rfl
theorem s26_51 : ni_T d 26 51 [a0, a1, a2, a3, a4, a5, .int x, a7, a8] st z h Q = ni_T d 26 53 [a0, a1, a2, a3, a4, a5, .int x, a7, a8] (.int x :: st) z h Q := ni_T_p rfl rfl
theorem s26_53 : ni_T d 26 53 [a0, a1, a2, a3, .int x, a5, a6, a7, a8] st z h Q = ni_T d 26 55 [a0, a1, a2, a3, .int x, a5, a6, a7, a8] (.int x :: st) z h Q := ni_T_p rfl rfl
theorem s26_55 : ni_T (d + 1) 26 55 [a0, a1, a2, a3, a4, a5, a6, a7, a8] (.int x1 :: .int x0 :: st) z h Q = (Nat.ble (ni_sw st) 8 = true ∧ ni_T d 118 0 [.int x0, .int x1] [] z h (ni_K (d + 1) 26 58 [a0, a1, a2, a3, a4, a5, a6, a7, a8] st z Q)) := ni_T_cse [.int x0, .int x1] rfl rfl rfl rfl rfl rfl rfl rfl rfl
theorem s26_58 : ni_T d 26 58 [a0, a1, a2, a3, a4, a5, a6, a7, a8] (.int x :: st) z h Q = if x = 0 then ni_T d 26 61 [a0, a1, a2, a3, a4, a5, a6, a7, a8] st z h Q else ni_T d 26 64 [a0, a1, a2, a3, a4, a5, a6, a7, a8] st z h Q := ni_T_b rfl rfl
theorem s26_61 : ni_T d 26 61 [a0, a1, a2, a3, a4, .int x, a6, a7, a8] st z h Q = ni_T d 26 63 [a0, a1, a2, a3, a4, .int x, a6, a7, a8] (.int x :: st) z h Q := ni_T_p rfl rfl
theorem s26_63 : ni_T d 26 63 [a0, a1, a2, a3, a4, a5, a6, a7, a8] [.int x] z h Q = Q (some (.int x)) z h := ni_T_i rfl rfl
theorem s26_64 : ni_T d 26 64 [.ref o, a1, a2, a3, a4, a5, a6, a7, a8] st z h Q = ni_T d 26 65 [.ref o, a1, a2, a3, a4, a5, a6, a7, a8] (.ref o :: st) z h Q := ni_T_p rfl rfl
theorem s26_65 : ni_T d 26 65 [a0, .ref o, a2, a3, a4, a5, a6, a7, a8] st z h Q = ni_T d 26 66 [a0, .ref o, a2, a3, a4, a5, a6, a7, a8] (.ref o :: st) z h Q := ni_T_p rfl rfl
theorem s26_65N : ni_T d 26 65 [a0, .null, a2, a3, a4, a5, a6, a7, a8] st z h Q = ni_T d 26 66 [a0, .null, a2, a3, a4, a5, a6, a7, a8] (.null :: st) z h Q := ni_T_p rfl rfl
theorem s26_66 : ni_T d 26 66 [a0, a1, a2, a3, a4, a5, .int x, a7, a8] st z h Q = ni_T d 26 68 [a0, a1, a2, a3, a4, a5, .int x, a7, a8] (.int x :: st) z h Q := ni_T_p rfl rfl
theorem s26_68 : ni_T d 26 68 [a0, a1, a2, a3, .int x, a5, a6, a7, a8] st z h Q = ni_T d 26 70 [a0, a1, a2, a3, .int x, a5, a6, a7, a8] (.int x :: st) z h Q := ni_T_p rfl rfl
theorem s26_70 : ni_T d 26 70 [a0, a1, a2, a3, a4, a5, a6, .int x, a8] st z h Q = ni_T d 26 72 [a0, a1, a2, a3, a4, a5, a6, .int x, a8] (.int x :: st) z h Q := ni_T_p rfl rfl
theorem s26_72 : ni_T (d + 1) 26 72 [a0, a1, a2, a3, a4, a5, a6, a7, a8] (.int x3 :: .int x2 :: .int x1 :: .ref o20 :: .ref o :: st) z h Q = (ni_rc (h o) 2 = true ∧ Nat.ble (ni_sw st) 8 = true ∧ ni_T d 19 0 [.ref o, .ref o20, .int x1, .int x2, .int x3, .retAddr 0] [] z h (ni_K (d + 1) 26 75 [a0, a1, a2, a3, a4, a5, a6, a7, a8] st z Q)) := ni_T_ce [.ref o, .ref o20, .int x1, .int x2, .int x3] rfl rfl rfl rfl rfl rfl rfl rfl rfl
theorem s26_72N0 : ni_T (d + 1) 26 72 [a0, a1, a2, a3, a4, a5, a6, a7, a8] (.int x3 :: .int x2 :: .int x1 :: .null :: .ref o :: st) z h Q = (ni_rc (h o) 2 = true ∧ Nat.ble (ni_sw st) 8 = true ∧ ni_T d 19 0 [.ref o, .null, .int x1, .int x2, .int x3, .retAddr 0] [] z h (ni_K (d + 1) 26 75 [a0, a1, a2, a3, a4, a5, a6, a7, a8] st z Q)) := ni_T_ce [.ref o, .null, .int x1, .int x2, .int x3] rfl rfl rfl rfl rfl rfl rfl rfl rfl
theorem s26_75 : ni_T d 26 75 [a0, a1, a2, a3, a4, a5, a6, a7, a8] (.int x :: st) z h Q = ni_T d 26 77 [a0, a1, a2, a3, a4, a5, a6, ni_kl a7, .int x] st z h Q := ni_T_p rfl rfl
theorem s26_77 : ni_T d 26 77 [a0, a1, a2, a3, a4, a5, a6, a7, .int x] st z h Q = ni_T d 26 79 [a0, a1, a2, a3, a4, a5, a6, a7, .int x] (.int x :: st) z h Q := ni_T_p rfl rfl
theorem s26_79 : ni_T d 26 79 [a0, a1, a2, a3, a4, a5, a6, a7, a8] (.int x :: st) z h Q = if x = 0 then ni_T d 26 82 [a0, a1, a2, a3, a4, a5, a6, a7, a8] st z h Q else ni_T d 26 85 [a0, a1, a2, a3, a4, a5, a6, a7, a8] st z h Q := ni_T_b rfl rfl
theorem s26_82 : ni_T d 26 82 [a0, a1, a2, a3, a4, .int x, a6, a7, a8] st z h Q = ni_T d 26 84 [a0, a1, a2, a3, a4, .int x, a6, a7, a8] (.int x :: st) z h Q := ni_T_p rfl rfl
theorem s26_84 : ni_T d 26 84 [a0, a1, a2, a3, a4, a5, a6, a7, a8] [.int x] z h Q = Q (some (.int x)) z h := ni_T_i rfl rfl
theorem s26_85 : ni_T d 26 85 [.ref o, a1, a2, a3, a4, a5, a6, a7, a8] st z h Q = ni_T d 26 86 [.ref o, a1, a2, a3, a4, a5, a6, a7, a8] (.ref o :: st) z h Q := ni_T_p rfl rfl
theorem s26_86 : ni_T d 26 86 [.ref o, a1, a2, a3, a4, a5, a6, a7, a8] st z h Q = ni_T d 26 87 [.ref o, a1, a2, a3, a4, a5, a6, a7, a8] (.ref o :: st) z h Q := ni_T_p rfl rfl
theorem s26_87 : ni_T d 26 87 [a0, a1, a2, a3, a4, a5, a6, a7, a8] (.ref o :: st) z h Q = (ni_is (h o) 2 6 = true ∧ ni_T d 26 90 [a0, a1, a2, a3, a4, a5, a6, a7, a8] (ni_gv (h o) 6 :: st) z h Q) := ni_T_getf rfl
theorem s26_90 : ni_T d 26 90 [a0, a1, a2, a3, a4, a5, a6, a7, .int x] st z h Q = ni_T d 26 92 [a0, a1, a2, a3, a4, a5, a6, a7, .int x] (.int x :: st) z h Q := ni_T_p rfl rfl
theorem s26_92 : ni_T d 26 92 [a0, a1, a2, a3, a4, a5, a6, a7, a8] (.int y :: .int x :: st) z h Q = ni_T d 26 93 [a0, a1, a2, a3, a4, a5, a6, a7, a8] (.int (x * y) :: st) z h Q := ni_T_p rfl rfl
theorem s26_93 : ni_T d 26 93 [a0, a1, a2, a3, a4, a5, a6, a7, a8] st z h Q = ni_T d 26 95 [a0, a1, a2, a3, a4, a5, a6, a7, a8] (.int 100 :: st) z h Q := ni_T_p rfl rfl
theorem s26_95 : ni_T d 26 95 [a0, a1, a2, a3, a4, a5, a6, a7, a8] (.int y :: .int x :: st) z h Q = (¬ y = 0 ∧ ni_T d 26 96 [a0, a1, a2, a3, a4, a5, a6, a7, a8] (.int (x / y) :: st) z h Q) := ni_T_idiv rfl
theorem s26_96 : ni_T d 26 96 [a0, a1, a2, a3, a4, a5, a6, a7, a8] (b0 :: .ref o :: st) z h Q = ((Nat.ble 2 7 && ni_is (h o) 2 6 && ni_fit (.int) b0) = true ∧ ni_T d 26 99 [a0, a1, a2, a3, a4, a5, a6, a7, a8] st z (ni_up h o (ni_pv (h o) 6 b0)) Q) := ni_T_putf rfl
theorem s26_99 : ni_T d 26 99 [a0, a1, a2, a3, .int x, a5, a6, a7, a8] st z h Q = ni_T d 26 101 [a0, a1, a2, a3, .int x, a5, a6, a7, a8] (.int x :: st) z h Q := ni_T_p rfl rfl
theorem s26_101 : ni_T d 26 101 [a0, a1, a2, a3, a4, a5, .int x, a7, a8] st z h Q = ni_T d 26 103 [a0, a1, a2, a3, a4, a5, .int x, a7, a8] (.int x :: st) z h Q := ni_T_p rfl rfl
theorem s26_103 : ni_T d 26 103 [a0, a1, a2, a3, a4, a5, a6, a7, a8] st z h Q = ni_T d 26 104 [a0, a1, a2, a3, a4, a5, a6, a7, a8] (.int (-1) :: st) z h Q := ni_T_p rfl rfl
theorem s26_104 : ni_T d 26 104 [a0, a1, a2, a3, a4, a5, a6, a7, a8] (.int y :: .int x :: st) z h Q = ni_T d 26 105 [a0, a1, a2, a3, a4, a5, a6, a7, a8] (.int (x ^^^ y) :: st) z h Q := ni_T_p rfl rfl
theorem s26_105 : ni_T d 26 105 [a0, a1, a2, a3, a4, a5, a6, a7, a8] (.int y :: .int x :: st) z h Q = ni_T d 26 106 [a0, a1, a2, a3, a4, a5, a6, a7, a8] (.int (x &&& y) :: st) z h Q := ni_T_p rfl rfl
theorem s26_106 : ni_T d 26 106 [a0, a1, a2, a3, a4, a5, a6, a7, a8] (.int x :: st) z h Q = ni_T d 26 108 [a0, a1, a2, ni_kl a3, .int x, a5, a6, a7, a8] st z h Q := ni_T_p rfl rfl
theorem s26_108 : ni_T d 26 108 [a0, a1, a2, a3, a4, .int x, a6, a7, a8] st z h Q = ni_T d 26 111 [a0, a1, a2, a3, ni_kl a4, .int (x + 1), a6, a7, a8] st z h Q := ni_T_p rfl rfl
theorem s26_111 : ni_T d 26 111 [a0, a1, a2, a3, a4, a5, a6, a7, a8] st z h Q = ni_T d 26 15 [a0, a1, a2, a3, a4, a5, a6, a7, a8] st z h Q := ni_T_p rfl rfl
theorem s26_114 : ni_T d 26 114 [a0, a1, a2, a3, a4, a5, a6, a7, a8] st z h Q = ni_T d 26 115 [a0, a1, a2, a3, a4, a5, a6, a7, a8] (.int (-1) :: st) z h Q := ni_T_p rfl rfl
theorem s26_115 : ni_T d 26 115 [a0, a1, a2, a3, a4, a5, a6, a7, a8] [.int x] z h Q = Q (some (.int x)) z h := ni_T_i rfl rfl
theorem s27_0 : ni_T d 27 0 [.ref o] st z h Q = ni_T d 27 1 [.ref o] (.ref o :: st) z h Q := ni_T_p rfl rfl
theorem s27_1 : ni_T (d + 1) 27 1 [a0] (.ref o :: st) z h Q = (Nat.ble (ni_sw st) 8 = true ∧ ni_T (d + 1) 27 4 [a0] st z h Q) := ni_T_oic rfl rfl
theorem s27_4 : ni_T d 27 4 [.ref o] st z h Q = ni_T d 27 5 [.ref o] (.ref o :: st) z h Q := ni_T_p rfl rfl
theorem s27_5 : ni_T d 27 5 [a0] st z h Q = ni_T d 27 6 [a0] (.int (-1) :: st) z h Q := ni_T_p rfl rfl
theorem s27_6 : ni_T d 27 6 [a0] (b0 :: .ref o :: st) z h Q = ((Nat.ble 3 7 && ni_is (h o) 3 0 && ni_fit (.int) b0) = true ∧ ni_T d 27 9 [a0] st z (ni_up h o (ni_pv (h o) 0 b0)) Q) := ni_T_putf rfl
theorem s27_9 : ni_T d 27 9 [.ref o] st z h Q = ni_T d 27 10 [.ref o] (.ref o :: st) z h Q := ni_T_p rfl rfl
theorem s27_10 : ni_T d 27 10 [a0] st z h Q = ni_T d 27 11 [a0] (.int 0 :: st) z h Q := ni_T_p rfl rfl
theorem s27_11 : ni_T d 27 11 [a0] (b0 :: .ref o :: st) z h Q = ((Nat.ble 3 7 && ni_is (h o) 3 1 && ni_fit (.int) b0) = true ∧ ni_T d 27 14 [a0] st z (ni_up h o (ni_pv (h o) 1 b0)) Q) := ni_T_putf rfl
theorem s27_14 : ni_T d 27 14 [.ref o] st z h Q = ni_T d 27 15 [.ref o] (.ref o :: st) z h Q := ni_T_p rfl rfl
theorem s27_15 : ni_T d 27 15 [a0] st z h Q = ni_T d 27 16 [a0] (.int 0 :: st) z h Q := ni_T_p rfl rfl
theorem s27_16 : ni_T d 27 16 [a0] (b0 :: .ref o :: st) z h Q = ((Nat.ble 3 7 && ni_is (h o) 3 2 && ni_fit (.int) b0) = true ∧ ni_T d 27 19 [a0] st z (ni_up h o (ni_pv (h o) 2 b0)) Q) := ni_T_putf rfl
theorem s27_19 : ni_T d 27 19 [a0] [] z h Q = Q none z h := ni_T_v rfl rfl
theorem s28_0 : ni_T d 28 0 [.ref o, a1, a2, a3] st z h Q = ni_T d 28 1 [.ref o, a1, a2, a3] (.ref o :: st) z h Q := ni_T_p rfl rfl
theorem s28_1 : ni_T d 28 1 [a0, a1, a2, a3] st z h Q = ni_T d 28 2 [a0, a1, a2, a3] (.int (-1) :: st) z h Q := ni_T_p rfl rfl
theorem s28_2 : ni_T d 28 2 [a0, a1, a2, a3] (b0 :: .ref o :: st) z h Q = ((Nat.ble 3 7 && ni_is (h o) 3 0 && ni_fit (.int) b0) = true ∧ ni_T d 28 5 [a0, a1, a2, a3] st z (ni_up h o (ni_pv (h o) 0 b0)) Q) := ni_T_putf rfl
theorem s28_5 : ni_T d 28 5 [.ref o, a1, a2, a3] st z h Q = ni_T d 28 6 [.ref o, a1, a2, a3] (.ref o :: st) z h Q := ni_T_p rfl rfl
theorem s28_6 : ni_T d 28 6 [a0, a1, a2, a3] st z h Q = ni_T d 28 7 [a0, a1, a2, a3] (.int 0 :: st) z h Q := ni_T_p rfl rfl
theorem s28_7 : ni_T d 28 7 [a0, a1, a2, a3] (b0 :: .ref o :: st) z h Q = ((Nat.ble 3 7 && ni_is (h o) 3 1 && ni_fit (.int) b0) = true ∧ ni_T d 28 10 [a0, a1, a2, a3] st z (ni_up h o (ni_pv (h o) 1 b0)) Q) := ni_T_putf rfl
theorem s28_10 : ni_T d 28 10 [a0, a1, a2, a3] st z h Q = ni_T d 28 11 [a0, a1, a2, a3] (.int 1 :: st) z h Q := ni_T_p rfl rfl
theorem s28_11 : ni_T d 28 11 [a0, a1, a2, a3] (.int x :: st) z h Q = ni_T d 28 12 [a0, a1, ni_kl a2, .int x] st z h Q := ni_T_p rfl rfl
theorem s28_12 : ni_T d 28 12 [a0, a1, a2, .int x] st z h Q = ni_T d 28 13 [a0, a1, a2, .int x] (.int x :: st) z h Q := ni_T_p rfl rfl
theorem s28_13 : ni_T d 28 13 [a0, a1, a2, a3] st z h Q = ni_T d 28 16 [a0, a1, a2, a3] (.int 160 :: st) z h Q := ni_T_p rfl rfl
theorem s28_16 : ni_T d 28 16 [a0, a1, a2, a3] (.int y :: .int x :: st) z h Q = if y < x then ni_T d 28 69 [a0, a1, a2, a3] st z h Q else ni_T d 28 19 [a0, a1, a2, a3] st z h Q := ni_T_b rfl rfl
theorem s28_19 : ni_T d 28 19 [.ref o, a1, a2, a3] st z h Q = ni_T d 28 20 [.ref o, a1, a2, a3] (.ref o :: st) z h Q := ni_T_p rfl rfl
theorem s28_20 : ni_T d 28 20 [a0, .ref o, a2, a3] st z h Q = ni_T d 28 21 [a0, .ref o, a2, a3] (.ref o :: st) z h Q := ni_T_p rfl rfl
theorem s28_20N : ni_T d 28 20 [a0, .null, a2, a3] st z h Q = ni_T d 28 21 [a0, .null, a2, a3] (.null :: st) z h Q := ni_T_p rfl rfl
theorem s28_21 : ni_T d 28 21 [a0, a1, .ref o, a3] st z h Q = ni_T d 28 22 [a0, a1, .ref o, a3] (.ref o :: st) z h Q := ni_T_p rfl rfl
theorem s28_21N : ni_T d 28 21 [a0, a1, .null, a3] st z h Q = ni_T d 28 22 [a0, a1, .null, a3] (.null :: st) z h Q := ni_T_p rfl rfl
theorem s28_22 : ni_T (d + 1) 28 22 [a0, a1, a2, a3] (.ref o21 :: .ref o20 :: .ref o :: st) z h Q = (ni_rc (h o) 3 = true ∧ Nat.ble (ni_sw st) 8 = true ∧ ni_T d 29 0 [.ref o, .ref o20, .ref o21, .retAddr 0, .retAddr 0] [] z h (ni_K (d + 1) 28 25 [a0, a1, a2, a3] st z Q)) := ni_T_ce [.ref o, .ref o20, .ref o21] rfl rfl rfl rfl rfl rfl rfl rfl rfl
theorem s28_22N1 : ni_T (d + 1) 28 22 [a0, a1, a2, a3] (.null :: .ref o20 :: .ref o :: st) z h Q = (ni_rc (h o) 3 = true ∧ Nat.ble (ni_sw st) 8 = true ∧ ni_T d 29 0 [.ref o, .ref o20, .null, .retAddr 0, .retAddr 0] [] z h (ni_K (d + 1) 28 25 [a0, a1, a2, a3] st z Q)) := ni_T_ce [.ref o, .ref o20, .null] rfl rfl rfl rfl rfl rfl rfl rfl rfl
theorem s28_22N0 : ni_T (d + 1) 28 22 [a0, a1, a2, a3] (.ref o21 :: .null :: .ref o :: st) z h Q = (ni_rc (h o) 3 = true ∧ Nat.ble (ni_sw st) 8 = true ∧ ni_T d 29 0 [.ref o, .null, .ref o21, .retAddr 0, .retAddr 0] [] z h (ni_K (d + 1) 28 25 [a0, a1, a2, a3] st z Q)) := ni_T_ce [.ref o, .null, .ref o21] rfl rfl rfl rfl rfl rfl rfl rfl rfl
theorem s28_22N0N1 : ni_T (d + 1) 28 22 [a0, a1, a2, a3] (.null :: .null :: .ref o :: st) z h Q = (ni_rc (h o) 3 = true ∧ Nat.ble (ni_sw st) 8 = true ∧ ni_T d 29 0 [.ref o, .null, .null, .retAddr 0, .retAddr 0] [] z h (ni_K (d + 1) 28 25 [a0, a1, a2, a3] st z Q)) := ni_T_ce [.ref o, .null, .null] rfl rfl rfl rfl rfl rfl rfl rfl rfl
theorem s28_25 : ni_T d 28 25 [.ref o, a1, a2, a3] st z h Q = ni_T d 28 26 [.ref o, a1, a2, a3] (.ref o :: st) z h Q := ni_T_p rfl rfl
theorem s28_26 : ni_T d 28 26 [a0, a1, a2, a3] (.ref o :: st) z h Q = (ni_is (h o) 3 0 = true ∧ ni_T d 28 29 [a0, a1, a2, a3] (ni_gv (h o) 0 :: st) z h Q) := ni_T_getf rfl
theorem s28_29 : ni_T d 28 29 [a0, a1, a2, a3] st z h Q = ni_T d 28 30 [a0, a1, a2, a3] (.int (-1) :: st) z h Q := ni_T_p rfl rfl
theorem s28_30 : ni_T d 28 30 [a0, a1, a2, a3] (.int y :: .int x :: st) z h Q = if x = y then ni_T d 28 33 [a0, a1, a2, a3] st z h Q else ni_T d 28 44 [a0, a1, a2, a3] st z h Q := ni_T_b rfl rfl
theorem s28_33 : ni_T d 28 33 [.ref o, a1, a2, a3] st z h Q = ni_T d 28 34 [.ref o, a1, a2, a3] (.ref o :: st) z h Q := ni_T_p rfl rfl
theorem s28_34 : ni_T d 28 34 [a0, a1, a2, a3] (.ref o :: st) z h Q = (ni_is (h o) 3 1 = true ∧ ni_T d 28 37 [a0, a1, a2, a3] (ni_gv (h o) 1 :: st) z h Q) := ni_T_getf rfl
theorem s28_37 : ni_T d 28 37 [a0, .ref o, a2, a3] st z h Q = ni_T d 28 38 [a0, .ref o, a2, a3] (.ref o :: st) z h Q := ni_T_p rfl rfl
theorem s28_37N : ni_T d 28 37 [a0, .null, a2, a3] st z h Q = ni_T d 28 38 [a0, .null, a2, a3] (.null :: st) z h Q := ni_T_p rfl rfl
theorem s28_38 : ni_T d 28 38 [a0, a1, a2, a3] (.ref o :: st) z h Q = (ni_is (h o) 4 4 = true ∧ ni_T d 28 41 [a0, a1, a2, a3] (ni_gv (h o) 4 :: st) z h Q) := ni_T_getf rfl
theorem s28_41 : ni_T d 28 41 [a0, a1, a2, a3] (.int y :: .int x :: st) z h Q = if x < y then ni_T d 28 46 [a0, a1, a2, a3] st z h Q else ni_T d 28 44 [a0, a1, a2, a3] st z h Q := ni_T_b rfl rfl
theorem s28_44 : ni_T d 28 44 [a0, a1, a2, .int x] st z h Q = ni_T d 28 45 [a0, a1, a2, .int x] (.int x :: st) z h Q := ni_T_p rfl rfl
theorem s28_45 : ni_T d 28 45 [a0, a1, a2, a3] [.int x] z h Q = Q (some (.int x)) z h := ni_T_i rfl rfl
theorem s28_46 : ni_T d 28 46 [.ref o, a1, a2, a3] st z h Q = ni_T d 28 47 [.ref o, a1, a2, a3] (.ref o :: st) z h Q := ni_T_p rfl rfl
theorem s28_47 : ni_T d 28 47 [a0, .ref o, a2, a3] st z h Q = ni_T d 28 48 [a0, .ref o, a2, a3] (.ref o :: st) z h Q := ni_T_p rfl rfl
theorem s28_47N : ni_T d 28 47 [a0, .null, a2, a3] st z h Q = ni_T d 28 48 [a0, .null, a2, a3] (.null :: st) z h Q := ni_T_p rfl rfl
theorem s28_48 : ni_T d 28 48 [a0, a1, a2, a3] st z h Q = ni_T d 28 50 [a0, a1, a2, a3] (.int 59 :: st) z h Q := ni_T_p rfl rfl
theorem s28_50 : ni_T (d + 1) 28 50 [a0, a1, a2, a3] (.int x1 :: .ref o20 :: .ref o :: st) z h Q = (ni_rc (h o) 3 = true ∧ Nat.ble (ni_sw st) 8 = true ∧ ni_T d 39 0 [.ref o, .ref o20, .int x1] [] z h (ni_K (d + 1) 28 53 [a0, a1, a2, a3] st z Q)) := ni_T_ce [.ref o, .ref o20, .int x1] rfl rfl rfl rfl rfl rfl rfl rfl rfl
theorem s28_50N0 : ni_T (d + 1) 28 50 [a0, a1, a2, a3] (.int x1 :: .null :: .ref o :: st) z h Q = (ni_rc (h o) 3 = true ∧ Nat.ble (ni_sw st) 8 = true ∧ ni_T d 39 0 [.ref o, .null, .int x1] [] z h (ni_K (d + 1) 28 53 [a0, a1, a2, a3] st z Q)) := ni_T_ce [.ref o, .null, .int x1] rfl rfl rfl rfl rfl rfl rfl rfl rfl
theorem s28_53 : ni_T d 28 53 [.ref o, a1, a2, a3] st z h Q = ni_T d 28 54 [.ref o, a1, a2, a3] (.ref o :: st) z h Q := ni_T_p rfl rfl
theorem s28_54 : ni_T d 28 54 [a0, a1, a2, a3] (.ref o :: st) z h Q = (ni_is (h o) 3 0 = true ∧ ni_T d 28 57 [a0, a1, a2, a3] (ni_gv (h o) 0 :: st) z h Q) := ni_T_getf rfl
theorem s28_57 : ni_T d 28 57 [a0, a1, a2, a3] st z h Q = ni_T d 28 58 [a0, a1, a2, a3] (.int (-1) :: st) z h Q := ni_T_p rfl rfl
theorem s28_58 : ni_T d 28 58 [a0, a1, a2, a3] (.int y :: .int x :: st) z h Q = if x = y then ni_T d 28 63 [a0, a1, a2, a3] st z h Q else ni_T d 28 61 [a0, a1, a2, a3] st z h Q := ni_T_b rfl rfl
theorem s28_61 : ni_T d 28 61 [a0, a1, a2, .int x] st z h Q = ni_T d 28 62 [a0, a1, a2, .int x] (.int x :: st) z h Q := ni_T_p rfl rfl
theorem s28_62 : ni_T d 28 62 [a0, a1, a2, a3] [.int x] z h Q = Q (some (.int x)) z h := ni_T_i rfl rfl
theorem s28_63 : ni_T d 28 63 [a0, a1, a2, .int x] st z h Q = ni_T d 28 66 [a0, a1, ni_kl a2, .int (x + 1)] st z h Q := ni_T_p rfl rfl
theorem s28_66 : ni_T d 28 66 [a0, a1, a2, a3] st z h Q = ni_T d 28 12 [a0, a1, a2, a3] st z h Q := ni_T_p rfl rfl
theorem s28_69 : ni_T d 28 69 [a0, a1, a2, a3] st z h Q = ni_T d 28 70 [a0, a1, a2, a3] (.int 0 :: st) z h Q := ni_T_p rfl rfl
theorem s28_70 : ni_T d 28 70 [a0, a1, a2, a3] [.int x] z h Q = Q (some (.int x)) z h := ni_T_i rfl rfl
theorem s29_0 : ni_T d 29 0 [.ref o, a1, a2, a3, a4] st z h Q = ni_T d 29 1 [.ref o, a1, a2, a3, a4] (.ref o :: st) z h Q := ni_T_p rfl rfl
theorem s29_1 : ni_T d 29 1 [a0, a1, a2, a3, a4] (.ref o :: st) z h Q = (ni_is (h o) 3 1 = true ∧ ni_T d 29 4 [a0, a1, a2, a3, a4] (ni_gv (h o) 1 :: st) z h Q) := ni_T_getf rfl
theorem s29_4 : ni_T d 29 4 [a0, a1, a2, a3, a4] (.int x :: st) z h Q = ni_T d 29 5 [a0, a1, ni_kl a2, .int x, a4] st z h Q := ni_T_p rfl rfl
theorem s29_5 : ni_T d 29 5 [.ref o, a1, a2, a3, a4] st z h Q = ni_T d 29 6 [.ref o, a1, a2, a3, a4] (.ref o :: st) z h Q := ni_T_p rfl rfl
theorem s29_6 : ni_T d 29 6 [a0, .ref o, a2, a3, a4] st z h Q = ni_T d 29 7 [a0, .ref o, a2, a3, a4] (.ref o :: st) z h Q := ni_T_p rfl rfl
theorem s29_6N : ni_T d 29 6 [a0, .null, a2, a3, a4] st z h Q = ni_T d 29 7 [a0, .null, a2, a3, a4] (.null :: st) z h Q := ni_T_p rfl rfl
theorem s29_7 : ni_T (d + 1) 29 7 [a0, a1, a2, a3, a4] (.ref o20 :: .ref o :: st) z h Q = (ni_rc (h o) 3 = true ∧ Nat.ble (ni_sw st) 8 = true ∧ ni_T d 35 0 [.ref o, .ref o20, .retAddr 0, .retAddr 0, .retAddr 0, .retAddr 0] [] z h (ni_K (d + 1) 29 10 [a0, a1, a2, a3, a4] st z Q)) := ni_T_ce [.ref o, .ref o20] rfl rfl rfl rfl rfl rfl rfl rfl rfl
theorem s29_7N0 : ni_T (d + 1) 29 7 [a0, a1, a2, a3, a4] (.null :: .ref o :: st) z h Q = (ni_rc (h o) 3 = true ∧ Nat.ble (ni_sw st) 8 = true ∧ ni_T d 35 0 [.ref o, .null, .retAddr 0, .retAddr 0, .retAddr 0, .retAddr 0] [] z h (ni_K (d + 1) 29 10 [a0, a1, a2, a3, a4] st z Q)) := ni_T_ce [.ref o, .null] rfl rfl rfl rfl rfl rfl rfl rfl rfl
theorem s29_10 : ni_T d 29 10 [a0, a1, a2, a3, a4] (.int x :: st) z h Q = ni_T d 29 12 [a0, a1, a2, ni_kl a3, .int x] st z h Q := ni_T_p rfl rfl
theorem s29_12 : ni_T d 29 12 [a0, a1, a2, a3, .int x] st z h Q = ni_T d 29 14 [a0, a1, a2, a3, .int x] (.int x :: st) z h Q := ni_T_p rfl rfl
theorem s29_14 : ni_T d 29 14 [a0, a1, a2, a3, a4] (.int x :: st) z h Q = if x = 0 then ni_T d 29 17 [a0, a1, a2, a3, a4] st z h Q else ni_T d 29 29 [a0, a1, a2, a3, a4] st z h Q := ni_T_b rfl rfl
theorem s29_17 : ni_T d 29 17 [a0, a1, .ref o, a3, a4] st z h Q = ni_T d 29 18 [a0, a1, .ref o, a3, a4] (.ref o :: st) z h Q := ni_T_p rfl rfl
theorem s29_17N : ni_T d 29 17 [a0, a1, .null, a3, a4] st z h Q = ni_T d 29 18 [a0, a1, .null, a3, a4] (.null :: st) z h Q := ni_T_p rfl rfl
theorem s29_18 : ni_T (d + 1) 29 18 [a0, a1, a2, a3, a4] (.ref o :: st) z h Q = (ni_rc (h o) 5 = true ∧ Nat.ble (ni_sw st) 8 = true ∧ ni_T d 49 0 [.ref o] [] z h (ni_K (d + 1) 29 21 [a0, a1, a2, a3, a4] st z Q)) := ni_T_ce [.ref o] rfl rfl rfl rfl rfl rfl rfl rfl rfl
theorem s29_21 : ni_T d 29 21 [a0, a1, a2, a3, a4] (.int x :: st) z h Q = if x = 0 then ni_T d 29 24 [a0, a1, a2, a3, a4] st z h Q else ni_T d 29 29 [a0, a1, a2, a3, a4] st z h Q := ni_T_b rfl rfl
theorem s29_24 : ni_T d 29 24 [.ref o, a1, a2, a3, a4] st z h Q = ni_T d 29 25 [.ref o, a1, a2, a3, a4] (.ref o :: st) z h Q := ni_T_p rfl rfl
theorem s29_25 : ni_T d 29 25 [a0, a1, a2, .int x, a4] st z h Q = ni_T d 29 26 [a0, a1, a2, .int x, a4] (.int x :: st) z h Q := ni_T_p rfl rfl
theorem s29_26 : ni_T d 29 26 [a0, a1, a2, a3, a4] (b0 :: .ref o :: st) z h Q = ((Nat.ble 3 7 && ni_is (h o) 3 0 && ni_fit (.int) b0) = true ∧ ni_T d 29 29 [a0, a1, a2, a3, a4] st z (ni_up h o (ni_pv (h o) 0 b0)) Q) := ni_T_putf rfl
theorem s29_29 : ni_T d 29 29 [.ref o, a1, a2, a3, a4] st z h Q = ni_T d 29 30 [.ref o, a1, a2, a3, a4] (.ref o :: st) z h Q := ni_T_p rfl rfl
theorem s29_30 : ni_T d 29 30 [a0, a1, a2, a3, a4] (.ref o :: st) z h Q = (ni_is (h o) 3 0 = true ∧ ni_T d 29 33 [a0, a1, a2, a3, a4] (ni_gv (h o) 0 :: st) z h Q) := ni_T_getf rfl
theorem s29_33 : ni_T d 29 33 [a0, a1, a2, a3, a4] st z h Q = ni_T d 29 34 [a0, a1, a2, a3, a4] (.int (-1) :: st) z h Q := ni_T_p rfl rfl
theorem s29_34 : ni_T d 29 34 [a0, a1, a2, a3, a4] (.int y :: .int x :: st) z h Q = if x = y then ni_T d 29 38 [a0, a1, a2, a3, a4] st z h Q else ni_T d 29 37 [a0, a1, a2, a3, a4] st z h Q := ni_T_b rfl rfl
theorem s29_37 : ni_T d 29 37 [a0, a1, a2, a3, a4] [] z h Q = Q none z h := ni_T_v rfl rfl
theorem s29_38 : ni_T d 29 38 [a0, a1, a2, a3, .int x] st z h Q = ni_T d 29 40 [a0, a1, a2, a3, .int x] (.int x :: st) z h Q := ni_T_p rfl rfl
theorem s29_40_0 : ni_T d 29 40 [a0, a1, a2, a3, a4] (.int 0 :: st) z h Q = ni_T d 29 72 [a0, a1, a2, a3, a4] st z h Q := ni_T_p rfl rfl
theorem s29_40_1 : ni_T d 29 40 [a0, a1, a2, a3, a4] (.int 1 :: st) z h Q = ni_T d 29 81 [a0, a1, a2, a3, a4] st z h Q := ni_T_p rfl rfl
theorem s29_40_2 : ni_T d 29 40 [a0, a1, a2, a3, a4] (.int 2 :: st) z h Q = ni_T d 29 90 [a0, a1, a2, a3, a4] st z h Q := ni_T_p rfl rfl
theorem s29_40_3 : ni_T d 29 40 [a0, a1, a2, a3, a4] (.int 3 :: st) z h Q = ni_T d 29 99 [a0, a1, a2, a3, a4] st z h Q := ni_T_p rfl rfl
theorem s29_40_d (hx : x.toInt < 0 ∨ 3 < x.toInt) : ni_T d 29 40 [a0, a1, a2, a3, a4] (.int x :: st) z h Q = ni_T d 29 108 [a0, a1, a2, a3, a4] st z h Q := ni_T_tsw rfl hx (by decide) rfl
theorem s29_72 : ni_T d 29 72 [.ref o, a1, a2, a3, a4] st z h Q = ni_T d 29 73 [.ref o, a1, a2, a3, a4] (.ref o :: st) z h Q := ni_T_p rfl rfl
theorem s29_73 : ni_T d 29 73 [a0, .ref o, a2, a3, a4] st z h Q = ni_T d 29 74 [a0, .ref o, a2, a3, a4] (.ref o :: st) z h Q := ni_T_p rfl rfl
theorem s29_73N : ni_T d 29 73 [a0, .null, a2, a3, a4] st z h Q = ni_T d 29 74 [a0, .null, a2, a3, a4] (.null :: st) z h Q := ni_T_p rfl rfl
theorem s29_74 : ni_T d 29 74 [a0, a1, .ref o, a3, a4] st z h Q = ni_T d 29 75 [a0, a1, .ref o, a3, a4] (.ref o :: st) z h Q := ni_T_p rfl rfl
theorem s29_74N : ni_T d 29 74 [a0, a1, .null, a3, a4] st z h Q = ni_T d 29 75 [a0, a1, .null, a3, a4] (.null :: st) z h Q := ni_T_p rfl rfl
theorem s29_75 : ni_T (d + 1) 29 75 [a0, a1, a2, a3, a4] (.ref o21 :: .ref o20 :: .ref o :: st) z h Q = (ni_rc (h o) 3 = true ∧ Nat.ble (ni_sw st) 8 = true ∧ ni_T d 30 0 [.ref o, .ref o20, .ref o21, .retAddr 0, .retAddr 0] [] z h (ni_K (d + 1) 29 78 [a0, a1, a2, a3, a4] st z Q)) := ni_T_ce [.ref o, .ref o20, .ref o21] rfl rfl rfl rfl rfl rfl rfl rfl rfl
theorem s29_75N1 : ni_T (d + 1) 29 75 [a0, a1, a2, a3, a4] (.null :: .ref o20 :: .ref o :: st) z h Q = (ni_rc (h o) 3 = true ∧ Nat.ble (ni_sw st) 8 = true ∧ ni_T d 30 0 [.ref o, .ref o20, .null, .retAddr 0, .retAddr 0] [] z h (ni_K (d + 1) 29 78 [a0, a1, a2, a3, a4] st z Q)) := ni_T_ce [.ref o, .ref o20, .null] rfl rfl rfl rfl rfl rfl rfl rfl rfl
theorem s29_75N0 : ni_T (d + 1) 29 75 [a0, a1, a2, a3, a4] (.ref o21 :: .null :: .ref o :: st) z h Q = (ni_rc (h o) 3 = true ∧ Nat.ble (ni_sw st) 8 = true ∧ ni_T d 30 0 [.ref o, .null, .ref o21, .retAddr 0, .retAddr 0] [] z h (ni_K (d + 1) 29 78 [a0, a1, a2, a3, a4] st z Q)) := ni_T_ce [.ref o, .null, .ref o21] rfl rfl rfl rfl rfl rfl rfl rfl rfl
theorem s29_75N0N1 : ni_T (d + 1) 29 75 [a0, a1, a2, a3, a4] (.null :: .null :: .ref o :: st) z h Q = (ni_rc (h o) 3 = true ∧ Nat.ble (ni_sw st) 8 = true ∧ ni_T d 30 0 [.ref o, .null, .null, .retAddr 0, .retAddr 0] [] z h (ni_K (d + 1) 29 78 [a0, a1, a2, a3, a4] st z Q)) := ni_T_ce [.ref o, .null, .null] rfl rfl rfl rfl rfl rfl rfl rfl rfl
theorem s29_78 : ni_T d 29 78 [a0, a1, a2, a3, a4] st z h Q = ni_T d 29 114 [a0, a1, a2, a3, a4] st z h Q := ni_T_p rfl rfl
theorem s29_81 : ni_T d 29 81 [.ref o, a1, a2, a3, a4] st z h Q = ni_T d 29 82 [.ref o, a1, a2, a3, a4] (.ref o :: st) z h Q := ni_T_p rfl rfl
theorem s29_82 : ni_T d 29 82 [a0, .ref o, a2, a3, a4] st z h Q = ni_T d 29 83 [a0, .ref o, a2, a3, a4] (.ref o :: st) z h Q := ni_T_p rfl rfl
theorem s29_82N : ni_T d 29 82 [a0, .null, a2, a3, a4] st z h Q = ni_T d 29 83 [a0, .null, a2, a3, a4] (.null :: st) z h Q := ni_T_p rfl rfl
theorem s29_83 : ni_T d 29 83 [a0, a1, .ref o, a3, a4] st z h Q = ni_T d 29 84 [a0, a1, .ref o, a3, a4] (.ref o :: st) z h Q := ni_T_p rfl rfl
theorem s29_83N : ni_T d 29 83 [a0, a1, .null, a3, a4] st z h Q = ni_T d 29 84 [a0, a1, .null, a3, a4] (.null :: st) z h Q := ni_T_p rfl rfl
theorem s29_84 : ni_T (d + 1) 29 84 [a0, a1, a2, a3, a4] (.ref o21 :: .ref o20 :: .ref o :: st) z h Q = (ni_rc (h o) 3 = true ∧ Nat.ble (ni_sw st) 8 = true ∧ ni_T d 31 0 [.ref o, .ref o20, .ref o21, .retAddr 0, .retAddr 0] [] z h (ni_K (d + 1) 29 87 [a0, a1, a2, a3, a4] st z Q)) := ni_T_ce [.ref o, .ref o20, .ref o21] rfl rfl rfl rfl rfl rfl rfl rfl rfl
theorem s29_84N1 : ni_T (d + 1) 29 84 [a0, a1, a2, a3, a4] (.null :: .ref o20 :: .ref o :: st) z h Q = (ni_rc (h o) 3 = true ∧ Nat.ble (ni_sw st) 8 = true ∧ ni_T d 31 0 [.ref o, .ref o20, .null, .retAddr 0, .retAddr 0] [] z h (ni_K (d + 1) 29 87 [a0, a1, a2, a3, a4] st z Q)) := ni_T_ce [.ref o, .ref o20, .null] rfl rfl rfl rfl rfl rfl rfl rfl rfl
theorem s29_84N0 : ni_T (d + 1) 29 84 [a0, a1, a2, a3, a4] (.ref o21 :: .null :: .ref o :: st) z h Q = (ni_rc (h o) 3 = true ∧ Nat.ble (ni_sw st) 8 = true ∧ ni_T d 31 0 [.ref o, .null, .ref o21, .retAddr 0, .retAddr 0] [] z h (ni_K (d + 1) 29 87 [a0, a1, a2, a3, a4] st z Q)) := ni_T_ce [.ref o, .null, .ref o21] rfl rfl rfl rfl rfl rfl rfl rfl rfl
theorem s29_84N0N1 : ni_T (d + 1) 29 84 [a0, a1, a2, a3, a4] (.null :: .null :: .ref o :: st) z h Q = (ni_rc (h o) 3 = true ∧ Nat.ble (ni_sw st) 8 = true ∧ ni_T d 31 0 [.ref o, .null, .null, .retAddr 0, .retAddr 0] [] z h (ni_K (d + 1) 29 87 [a0, a1, a2, a3, a4] st z Q)) := ni_T_ce [.ref o, .null, .null] rfl rfl rfl rfl rfl rfl rfl rfl rfl
theorem s29_87 : ni_T d 29 87 [a0, a1, a2, a3, a4] st z h Q = ni_T d 29 114 [a0, a1, a2, a3, a4] st z h Q := ni_T_p rfl rfl
theorem s29_90 : ni_T d 29 90 [.ref o, a1, a2, a3, a4] st z h Q = ni_T d 29 91 [.ref o, a1, a2, a3, a4] (.ref o :: st) z h Q := ni_T_p rfl rfl
theorem s29_91 : ni_T d 29 91 [a0, .ref o, a2, a3, a4] st z h Q = ni_T d 29 92 [a0, .ref o, a2, a3, a4] (.ref o :: st) z h Q := ni_T_p rfl rfl
theorem s29_91N : ni_T d 29 91 [a0, .null, a2, a3, a4] st z h Q = ni_T d 29 92 [a0, .null, a2, a3, a4] (.null :: st) z h Q := ni_T_p rfl rfl
theorem s29_92 : ni_T d 29 92 [a0, a1, .ref o, a3, a4] st z h Q = ni_T d 29 93 [a0, a1, .ref o, a3, a4] (.ref o :: st) z h Q := ni_T_p rfl rfl
theorem s29_92N : ni_T d 29 92 [a0, a1, .null, a3, a4] st z h Q = ni_T d 29 93 [a0, a1, .null, a3, a4] (.null :: st) z h Q := ni_T_p rfl rfl
theorem s29_93 : ni_T (d + 1) 29 93 [a0, a1, a2, a3, a4] (.ref o21 :: .ref o20 :: .ref o :: st) z h Q = (ni_rc (h o) 3 = true ∧ Nat.ble (ni_sw st) 8 = true ∧ ni_T d 32 0 [.ref o, .ref o20, .ref o21, .retAddr 0] [] z h (ni_K (d + 1) 29 96 [a0, a1, a2, a3, a4] st z Q)) := ni_T_ce [.ref o, .ref o20, .ref o21] rfl rfl rfl rfl rfl rfl rfl rfl rfl
theorem s29_93N1 : ni_T (d + 1) 29 93 [a0, a1, a2, a3, a4] (.null :: .ref o20 :: .ref o :: st) z h Q = (ni_rc (h o) 3 = true ∧ Nat.ble (ni_sw st) 8 = true ∧ ni_T d 32 0 [.ref o, .ref o20, .null, .retAddr 0] [] z h (ni_K (d + 1) 29 96 [a0, a1, a2, a3, a4] st z Q)) := ni_T_ce [.ref o, .ref o20, .null] rfl rfl rfl rfl rfl rfl rfl rfl rfl
theorem s29_93N0 : ni_T (d + 1) 29 93 [a0, a1, a2, a3, a4] (.ref o21 :: .null :: .ref o :: st) z h Q = (ni_rc (h o) 3 = true ∧ Nat.ble (ni_sw st) 8 = true ∧ ni_T d 32 0 [.ref o, .null, .ref o21, .retAddr 0] [] z h (ni_K (d + 1) 29 96 [a0, a1, a2, a3, a4] st z Q)) := ni_T_ce [.ref o, .null, .ref o21] rfl rfl rfl rfl rfl rfl rfl rfl rfl
theorem s29_93N0N1 : ni_T (d + 1) 29 93 [a0, a1, a2, a3, a4] (.null :: .null :: .ref o :: st) z h Q = (ni_rc (h o) 3 = true ∧ Nat.ble (ni_sw st) 8 = true ∧ ni_T d 32 0 [.ref o, .null, .null, .retAddr 0] [] z h (ni_K (d + 1) 29 96 [a0, a1, a2, a3, a4] st z Q)) := ni_T_ce [.ref o, .null, .null] rfl rfl rfl rfl rfl rfl rfl rfl rfl
theorem s29_96 : ni_T d 29 96 [a0, a1, a2, a3, a4] st z h Q = ni_T d 29 114 [a0, a1, a2, a3, a4] st z h Q := ni_T_p rfl rfl
theorem s29_99 : ni_T d 29 99 [.ref o, a1, a2, a3, a4] st z h Q = ni_T d 29 100 [.ref o, a1, a2, a3, a4] (.ref o :: st) z h Q := ni_T_p rfl rfl
theorem s29_100 : ni_T d 29 100 [a0, .ref o, a2, a3, a4] st z h Q = ni_T d 29 101 [a0, .ref o, a2, a3, a4] (.ref o :: st) z h Q := ni_T_p rfl rfl
theorem s29_100N : ni_T d 29 100 [a0, .null, a2, a3, a4] st z h Q = ni_T d 29 101 [a0, .null, a2, a3, a4] (.null :: st) z h Q := ni_T_p rfl rfl
theorem s29_101 : ni_T d 29 101 [a0, a1, .ref o, a3, a4] st z h Q = ni_T d 29 102 [a0, a1, .ref o, a3, a4] (.ref o :: st) z h Q := ni_T_p rfl rfl
theorem s29_101N : ni_T d 29 101 [a0, a1, .null, a3, a4] st z h Q = ni_T d 29 102 [a0, a1, .null, a3, a4] (.null :: st) z h Q := ni_T_p rfl rfl
theorem s29_102 : ni_T (d + 1) 29 102 [a0, a1, a2, a3, a4] (.ref o21 :: .ref o20 :: .ref o :: st) z h Q = (ni_rc (h o) 3 = true ∧ Nat.ble (ni_sw st) 8 = true ∧ ni_T d 33 0 [.ref o, .ref o20, .ref o21, .retAddr 0, .retAddr 0] [] z h (ni_K (d + 1) 29 105 [a0, a1, a2, a3, a4] st z Q)) := ni_T_ce [.ref o, .ref o20, .ref o21] rfl rfl rfl rfl rfl rfl rfl rfl rfl
theorem s29_102N1 : ni_T (d + 1) 29 102 [a0, a1, a2, a3, a4] (.null :: .ref o20 :: .ref o :: st) z h Q = (ni_rc (h o) 3 = true ∧ Nat.ble (ni_sw st) 8 = true ∧ ni_T d 33 0 [.ref o, .ref o20, .null, .retAddr 0, .retAddr 0] [] z h (ni_K (d + 1) 29 105 [a0, a1, a2, a3, a4] st z Q)) := ni_T_ce [.ref o, .ref o20, .null] rfl rfl rfl rfl rfl rfl rfl rfl rfl
theorem s29_102N0 : ni_T (d + 1) 29 102 [a0, a1, a2, a3, a4] (.ref o21 :: .null :: .ref o :: st) z h Q = (ni_rc (h o) 3 = true ∧ Nat.ble (ni_sw st) 8 = true ∧ ni_T d 33 0 [.ref o, .null, .ref o21, .retAddr 0, .retAddr 0] [] z h (ni_K (d + 1) 29 105 [a0, a1, a2, a3, a4] st z Q)) := ni_T_ce [.ref o, .null, .ref o21] rfl rfl rfl rfl rfl rfl rfl rfl rfl
theorem s29_102N0N1 : ni_T (d + 1) 29 102 [a0, a1, a2, a3, a4] (.null :: .null :: .ref o :: st) z h Q = (ni_rc (h o) 3 = true ∧ Nat.ble (ni_sw st) 8 = true ∧ ni_T d 33 0 [.ref o, .null, .null, .retAddr 0, .retAddr 0] [] z h (ni_K (d + 1) 29 105 [a0, a1, a2, a3, a4] st z Q)) := ni_T_ce [.ref o, .null, .null] rfl rfl rfl rfl rfl rfl rfl rfl rfl
theorem s29_105 : ni_T d 29 105 [a0, a1, a2, a3, a4] st z h Q = ni_T d 29 114 [a0, a1, a2, a3, a4] st z h Q := ni_T_p rfl rfl
theorem s29_108 : ni_T d 29 108 [.ref o, a1, a2, a3, a4] st z h Q = ni_T d 29 109 [.ref o, a1, a2, a3, a4] (.ref o :: st) z h Q := ni_T_p rfl rfl
theorem s29_109 : ni_T d 29 109 [a0, .ref o, a2, a3, a4] st z h Q = ni_T d 29 110 [a0, .ref o, a2, a3, a4] (.ref o :: st) z h Q := ni_T_p rfl rfl
theorem s29_109N : ni_T d 29 109 [a0, .null, a2, a3, a4] st z h Q = ni_T d 29 110 [a0, .null, a2, a3, a4] (.null :: st) z h Q := ni_T_p rfl rfl
theorem s29_110 : ni_T d 29 110 [a0, a1, .ref o, a3, a4] st z h Q = ni_T d 29 111 [a0, a1, .ref o, a3, a4] (.ref o :: st) z h Q := ni_T_p rfl rfl
theorem s29_110N : ni_T d 29 110 [a0, a1, .null, a3, a4] st z h Q = ni_T d 29 111 [a0, a1, .null, a3, a4] (.null :: st) z h Q := ni_T_p rfl rfl
theorem s29_111 : ni_T (d + 1) 29 111 [a0, a1, a2, a3, a4] (.ref o21 :: .ref o20 :: .ref o :: st) z h Q = (ni_rc (h o) 3 = true ∧ Nat.ble (ni_sw st) 8 = true ∧ ni_T d 34 0 [.ref o, .ref o20, .ref o21, .retAddr 0] [] z h (ni_K (d + 1) 29 114 [a0, a1, a2, a3, a4] st z Q)) := ni_T_ce [.ref o, .ref o20, .ref o21] rfl rfl rfl rfl rfl rfl rfl rfl rfl
theorem s29_111N1 : ni_T (d + 1) 29 111 [a0, a1, a2, a3, a4] (.null :: .ref o20 :: .ref o :: st) z h Q = (ni_rc (h o) 3 = true ∧ Nat.ble (ni_sw st) 8 = true ∧ ni_T d 34 0 [.ref o, .ref o20, .null, .retAddr 0] [] z h (ni_K (d + 1) 29 114 [a0, a1, a2, a3, a4] st z Q)) := ni_T_ce [.ref o, .ref o20, .null] rfl rfl rfl rfl rfl rfl rfl rfl rfl
theorem s29_111N0 : ni_T (d + 1) 29 111 [a0, a1, a2, a3, a4] (.ref o21 :: .null :: .ref o :: st) z h Q = (ni_rc (h o) 3 = true ∧ Nat.ble (ni_sw st) 8 = true ∧ ni_T d 34 0 [.ref o, .null, .ref o21, .retAddr 0] [] z h (ni_K (d + 1) 29 114 [a0, a1, a2, a3, a4] st z Q)) := ni_T_ce [.ref o, .null, .ref o21] rfl rfl rfl rfl rfl rfl rfl rfl rfl
theorem s29_111N0N1 : ni_T (d + 1) 29 111 [a0, a1, a2, a3, a4] (.null :: .null :: .ref o :: st) z h Q = (ni_rc (h o) 3 = true ∧ Nat.ble (ni_sw st) 8 = true ∧ ni_T d 34 0 [.ref o, .null, .null, .retAddr 0] [] z h (ni_K (d + 1) 29 114 [a0, a1, a2, a3, a4] st z Q)) := ni_T_ce [.ref o, .null, .null] rfl rfl rfl rfl rfl rfl rfl rfl rfl
theorem s29_114 : ni_T d 29 114 [a0, a1, a2, a3, a4] [] z h Q = Q none z h := ni_T_v rfl rfl
theorem s30_0 : ni_T d 30 0 [.ref o, a1, a2, a3, a4] st z h Q = ni_T d 30 1 [.ref o, a1, a2, a3, a4] (.ref o :: st) z h Q := ni_T_p rfl rfl
theorem s30_1 : ni_T d 30 1 [a0, .ref o, a2, a3, a4] st z h Q = ni_T d 30 2 [a0, .ref o, a2, a3, a4] (.ref o :: st) z h Q := ni_T_p rfl rfl
theorem s30_1N : ni_T d 30 1 [a0, .null, a2, a3, a4] st z h Q = ni_T d 30 2 [a0, .null, a2, a3, a4] (.null :: st) z h Q := ni_T_p rfl rfl
theorem s30_2 : ni_T d 30 2 [a0, a1, a2, a3, a4] st z h Q = ni_T d 30 3 [a0, a1, a2, a3, a4] (.int 0 :: st) z h Q := ni_T_p rfl rfl
theorem s30_3 : ni_T d 30 3 [a0, a1, a2, a3, a4] st z h Q = ni_T d 30 5 [a0, a1, a2, a3, a4] (.int 6 :: st) z h Q := ni_T_p rfl rfl
theorem s30_5 : ni_T (d + 1) 30 5 [a0, a1, a2, a3, a4] (.int x2 :: .int x1 :: .ref o20 :: .ref o :: st) z h Q = (ni_rc (h o) 3 = true ∧ Nat.ble (ni_sw st) 8 = true ∧ ni_T d 38 0 [.ref o, .ref o20, .int x1, .int x2, .retAddr 0, .retAddr 0] [] z h (ni_K (d + 1) 30 8 [a0, a1, a2, a3, a4] st z Q)) := ni_T_ce [.ref o, .ref o20, .int x1, .int x2] rfl rfl rfl rfl rfl rfl rfl rfl rfl
theorem s30_5N0 : ni_T (d + 1) 30 5 [a0, a1, a2, a3, a4] (.int x2 :: .int x1 :: .null :: .ref o :: st) z h Q = (ni_rc (h o) 3 = true ∧ Nat.ble (ni_sw st) 8 = true ∧ ni_T d 38 0 [.ref o, .null, .int x1, .int x2, .retAddr 0, .retAddr 0] [] z h (ni_K (d + 1) 30 8 [a0, a1, a2, a3, a4] st z Q)) := ni_T_ce [.ref o, .null, .int x1, .int x2] rfl rfl rfl rfl rfl rfl rfl rfl rfl
theorem s30_8 : ni_T d 30 8 [a0, a1, a2, a3, a4] (.int x :: st) z h Q = ni_T d 30 9 [a0, a1, ni_kl a2, .int x, a4] st z h Q := ni_T_p rfl rfl
theorem s30_9 : ni_T d 30 9 [.ref o, a1, a2, a3, a4] st z h Q = ni_T d 30 10 [.ref o, a1, a2, a3, a4] (.ref o :: st) z h Q := ni_T_p rfl rfl
theorem s30_10 : ni_T d 30 10 [a0, .ref o, a2, a3, a4] st z h Q = ni_T d 30 11 [a0, .ref o, a2, a3, a4] (.ref o :: st) z h Q := ni_T_p rfl rfl
theorem s30_10N : ni_T d 30 10 [a0, .null, a2, a3, a4] st z h Q = ni_T d 30 11 [a0, .null, a2, a3, a4] (.null :: st) z h Q := ni_T_p rfl rfl
theorem s30_11 : ni_T d 30 11 [a0, a1, a2, a3, a4] st z h Q = ni_T d 30 12 [a0, a1, a2, a3, a4] (.int 0 :: st) z h Q := ni_T_p rfl rfl
theorem s30_12 : ni_T d 30 12 [a0, a1, a2, a3, a4] st z h Q = ni_T d 30 14 [a0, a1, a2, a3, a4] (.int 9 :: st) z h Q := ni_T_p rfl rfl
theorem s30_14 : ni_T (d + 1) 30 14 [a0, a1, a2, a3, a4] (.int x2 :: .int x1 :: .ref o20 :: .ref o :: st) z h Q = (ni_rc (h o) 3 = true ∧ Nat.ble (ni_sw st) 8 = true ∧ ni_T d 38 0 [.ref o, .ref o20, .int x1, .int x2, .retAddr 0, .retAddr 0] [] z h (ni_K (d + 1) 30 17 [a0, a1, a2, a3, a4] st z Q)) := ni_T_ce [.ref o, .ref o20, .int x1, .int x2] rfl rfl rfl rfl rfl rfl rfl rfl rfl
theorem s30_14N0 : ni_T (d + 1) 30 14 [a0, a1, a2, a3, a4] (.int x2 :: .int x1 :: .null :: .ref o :: st) z h Q = (ni_rc (h o) 3 = true ∧ Nat.ble (ni_sw st) 8 = true ∧ ni_T d 38 0 [.ref o, .null, .int x1, .int x2, .retAddr 0, .retAddr 0] [] z h (ni_K (d + 1) 30 17 [a0, a1, a2, a3, a4] st z Q)) := ni_T_ce [.ref o, .null, .int x1, .int x2] rfl rfl rfl rfl rfl rfl rfl rfl rfl
theorem s30_17 : ni_T d 30 17 [a0, a1, a2, a3, a4] (.int x :: st) z h Q = ni_T d 30 19 [a0, a1, a2, ni_kl a3, .int x] st z h Q := ni_T_p rfl rfl
theorem s30_19 : ni_T d 30 19 [.ref o, a1, a2, a3, a4] st z h Q = ni_T d 30 20 [.ref o, a1, a2, a3, a4] (.ref o :: st) z h Q := ni_T_p rfl rfl
theorem s30_20 : ni_T d 30 20 [a0, a1, a2, a3, a4] (.ref o :: st) z h Q = (ni_is (h o) 3 0 = true ∧ ni_T d 30 23 [a0, a1, a2, a3, a4] (ni_gv (h o) 0 :: st) z h Q) := ni_T_getf rfl
theorem s30_23 : ni_T d 30 23 [a0, a1, a2, a3, a4] st z h Q = ni_T d 30 24 [a0, a1, a2, a3, a4] (.int (-1) :: st) z h Q := ni_T_p rfl rfl
theorem s30_24 : ni_T d 30 24 [a0, a1, a2, a3, a4] (.int y :: .int x :: st) z h Q = if x = y then ni_T d 30 27 [a0, a1, a2, a3, a4] st z h Q else ni_T d 30 35 [a0, a1, a2, a3, a4] st z h Q := ni_T_b rfl rfl
theorem s30_27 : ni_T d 30 27 [a0, a1, .ref o, a3, a4] st z h Q = ni_T d 30 28 [a0, a1, .ref o, a3, a4] (.ref o :: st) z h Q := ni_T_p rfl rfl
theorem s30_27N : ni_T d 30 27 [a0, a1, .null, a3, a4] st z h Q = ni_T d 30 28 [a0, a1, .null, a3, a4] (.null :: st) z h Q := ni_T_p rfl rfl
theorem s30_28 : ni_T d 30 28 [a0, a1, a2, .int x, a4] st z h Q = ni_T d 30 29 [a0, a1, a2, .int x, a4] (.int x :: st) z h Q := ni_T_p rfl rfl
theorem s30_29 : ni_T d 30 29 [a0, a1, a2, a3, .int x] st z h Q = ni_T d 30 31 [a0, a1, a2, a3, .int x] (.int x :: st) z h Q := ni_T_p rfl rfl
theorem s30_31 : ni_T (d + 1) 30 31 [a0, a1, a2, a3, a4] (.int x1 :: .int x0 :: .ref o :: st) z h Q = (ni_rc (h o) 5 = true ∧ Nat.ble (ni_sw st) 8 = true ∧ ni_T d 50 0 [.ref o, .int x0, .int x1] [] z h (ni_K (d + 1) 30 34 [a0, a1, a2, a3, a4] st z Q)) := ni_T_ce [.ref o, .int x0, .int x1] rfl rfl rfl rfl rfl rfl rfl rfl rfl
theorem s30_34 : ni_T d 30 34 [a0, a1, a2, a3, a4] (.ref o :: st) z h Q = ni_T d 30 35 [a0, a1, a2, a3, a4] st z h Q := ni_T_p rfl rfl
theorem s30_34i : ni_T d 30 34 [a0, a1, a2, a3, a4] (.int x :: st) z h Q = ni_T d 30 35 [a0, a1, a2, a3, a4] st z h Q := ni_T_p rfl rfl
theorem s30_35 : ni_T d 30 35 [a0, a1, a2, a3, a4] [] z h Q = Q none z h := ni_T_v rfl rfl
theorem s31_0 : ni_T d 31 0 [.ref o, a1, a2, a3, a4] st z h Q = ni_T d 31 1 [.ref o, a1, a2, a3, a4] (.ref o :: st) z h Q := ni_T_p rfl rfl
theorem s31_1 : ni_T d 31 1 [a0, .ref o, a2, a3, a4] st z h Q = ni_T d 31 2 [a0, .ref o, a2, a3, a4] (.ref o :: st) z h Q := ni_T_p rfl rfl
theorem s31_1N : ni_T d 31 1 [a0, .null, a2, a3, a4] st z h Q = ni_T d 31 2 [a0, .null, a2, a3, a4] (.null :: st) z h Q := ni_T_p rfl rfl
theorem s31_2 : ni_T d 31 2 [a0, a1, a2, a3, a4] st z h Q = ni_T d 31 3 [a0, a1, a2, a3, a4] (.int 0 :: st) z h Q := ni_T_p rfl rfl
theorem s31_3 : ni_T d 31 3 [a0, a1, a2, a3, a4] st z h Q = ni_T d 31 4 [a0, a1, a2, a3, a4] (.int 4 :: st) z h Q := ni_T_p rfl rfl
theorem s31_4 : ni_T (d + 1) 31 4 [a0, a1, a2, a3, a4] (.int x2 :: .int x1 :: .ref o20 :: .ref o :: st) z h Q = (ni_rc (h o) 3 = true ∧ Nat.ble (ni_sw st) 8 = true ∧ ni_T d 38 0 [.ref o, .ref o20, .int x1, .int x2, .retAddr 0, .retAddr 0] [] z h (ni_K (d + 1) 31 7 [a0, a1, a2, a3, a4] st z Q)) := ni_T_ce [.ref o, .ref o20, .int x1, .int x2] rfl rfl rfl rfl rfl rfl rfl rfl rfl
theorem s31_4N0 : ni_T (d + 1) 31 4 [a0, a1, a2, a3, a4] (.int x2 :: .int x1 :: .null :: .ref o :: st) z h Q = (ni_rc (h o) 3 = true ∧ Nat.ble (ni_sw st) 8 = true ∧ ni_T d 38 0 [.ref o, .null, .int x1, .int x2, .retAddr 0, .retAddr 0] [] z h (ni_K (d + 1) 31 7 [a0, a1, a2, a3, a4] st z Q)) := ni_T_ce [.ref o, .null, .int x1, .int x2] rfl rfl rfl rfl rfl rfl rfl rfl rfl
theorem s31_7 : ni_T d 31 7 [a0, a1, a2, a3, a4] (.int x :: st) z h Q = ni_T d 31 8 [a0, a1, ni_kl a2, .int x, a4] st z h Q := ni_T_p rfl rfl
theorem s31_8 : ni_T d 31 8 [.ref o, a1, a2, a3, a4] st z h Q = ni_T d 31 9 [.ref o, a1, a2, a3, a4] (.ref o :: st) z h Q := ni_T_p rfl rfl
theorem s31_9 : ni_T d 31 9 [a0, .ref o, a2, a3, a4] st z h Q = ni_T d 31 10 [a0, .ref o, a2, a3, a4] (.ref o :: st) z h Q := ni_T_p rfl rfl
theorem s31_9N : ni_T d 31 9 [a0, .null, a2, a3, a4] st z h Q = ni_T d 31 10 [a0, .null, a2, a3, a4] (.null :: st) z h Q := ni_T_p rfl rfl
theorem s31_10 : ni_T d 31 10 [a0, a1, a2, a3, a4] st z h Q = ni_T d 31 11 [a0, a1, a2, a3, a4] (.int 0 :: st) z h Q := ni_T_p rfl rfl
theorem s31_11 : ni_T d 31 11 [a0, a1, a2, a3, a4] st z h Q = ni_T d 31 13 [a0, a1, a2, a3, a4] (.int 35 :: st) z h Q := ni_T_p rfl rfl
theorem s31_13 : ni_T (d + 1) 31 13 [a0, a1, a2, a3, a4] (.int x2 :: .int x1 :: .ref o20 :: .ref o :: st) z h Q = (ni_rc (h o) 3 = true ∧ Nat.ble (ni_sw st) 8 = true ∧ ni_T d 38 0 [.ref o, .ref o20, .int x1, .int x2, .retAddr 0, .retAddr 0] [] z h (ni_K (d + 1) 31 16 [a0, a1, a2, a3, a4] st z Q)) := ni_T_ce [.ref o, .ref o20, .int x1, .int x2] rfl rfl rfl rfl rfl rfl rfl rfl rfl
theorem s31_13N0 : ni_T (d + 1) 31 13 [a0, a1, a2, a3, a4] (.int x2 :: .int x1 :: .null :: .ref o :: st) z h Q = (ni_rc (h o) 3 = true ∧ Nat.ble (ni_sw st) 8 = true ∧ ni_T d 38 0 [.ref o, .null, .int x1, .int x2, .retAddr 0, .retAddr 0] [] z h (ni_K (d + 1) 31 16 [a0, a1, a2, a3, a4] st z Q)) := ni_T_ce [.ref o, .null, .int x1, .int x2] rfl rfl rfl rfl rfl rfl rfl rfl rfl
theorem s31_16 : ni_T d 31 16 [a0, a1, a2, a3, a4] (.int x :: st) z h Q = ni_T d 31 18 [a0, a1, a2, ni_kl a3, .int x] st z h Q := ni_T_p rfl rfl
theorem s31_18 : ni_T d 31 18 [.ref o, a1, a2, a3, a4] st z h Q = ni_T d 31 19 [.ref o, a1, a2, a3, a4] (.ref o :: st) z h Q := ni_T_p rfl rfl
theorem s31_19 : ni_T d 31 19 [a0, a1, a2, a3, a4] (.ref o :: st) z h Q = (ni_is (h o) 3 0 = true ∧ ni_T d 31 22 [a0, a1, a2, a3, a4] (ni_gv (h o) 0 :: st) z h Q) := ni_T_getf rfl
theorem s31_22 : ni_T d 31 22 [a0, a1, a2, a3, a4] st z h Q = ni_T d 31 23 [a0, a1, a2, a3, a4] (.int (-1) :: st) z h Q := ni_T_p rfl rfl
theorem s31_23 : ni_T d 31 23 [a0, a1, a2, a3, a4] (.int y :: .int x :: st) z h Q = if x = y then ni_T d 31 27 [a0, a1, a2, a3, a4] st z h Q else ni_T d 31 26 [a0, a1, a2, a3, a4] st z h Q := ni_T_b rfl rfl
theorem s31_26 : ni_T d 31 26 [a0, a1, a2, a3, a4] [] z h Q = Q none z h := ni_T_v rfl rfl
theorem s31_27 : ni_T d 31 27 [a0, a1, .ref o, a3, a4] st z h Q = ni_T d 31 28 [a0, a1, .ref o, a3, a4] (.ref o :: st) z h Q := ni_T_p rfl rfl
theorem s31_27N : ni_T d 31 27 [a0, a1, .null, a3, a4] st z h Q = ni_T d 31 28 [a0, a1, .null, a3, a4] (.null :: st) z h Q := ni_T_p rfl rfl
theorem s31_28 : ni_T d 31 28 [a0, a1, a2, .int x, a4] st z h Q = ni_T d 31 29 [a0, a1, a2, .int x, a4] (.int x :: st) z h Q := ni_T_p rfl rfl
theorem s31_29 : ni_T d 31 29 [a0, a1, a2, a3, .int x] st z h Q = ni_T d 31 31 [a0, a1, a2, a3, .int x] (.int x :: st) z h Q := ni_T_p rfl rfl
theorem s31_31 : ni_T (d + 1) 31 31 [a0, a1, a2, a3, a4] (.int x1 :: .int x0 :: .ref o :: st) z h Q = (ni_rc (h o) 5 = true ∧ Nat.ble (ni_sw st) 8 = true ∧ ni_T d 55 0 [.ref o, .int x0, .int x1, .retAddr 0] [] z h (ni_K (d + 1) 31 34 [a0, a1, a2, a3, a4] st z Q)) := ni_T_ce [.ref o, .int x0, .int x1] rfl rfl rfl rfl rfl rfl rfl rfl rfl
theorem s31_34 : ni_T d 31 34 [a0, a1, a2, a3, a4] (.int x :: st) z h Q = if x = 0 then ni_T d 31 48 [a0, a1, a2, a3, a4] st z h Q else ni_T d 31 37 [a0, a1, a2, a3, a4] st z h Q := ni_T_b rfl rfl
theorem s31_37 : ni_T d 31 37 [a0, a1, .ref o, a3, a4] st z h Q = ni_T d 31 38 [a0, a1, .ref o, a3, a4] (.ref o :: st) z h Q := ni_T_p rfl rfl
theorem s31_37N : ni_T d 31 37 [a0, a1, .null, a3, a4] st z h Q = ni_T d 31 38 [a0, a1, .null, a3, a4] (.null :: st) z h Q := ni_T_p rfl rfl
theorem s31_38 : ni_T d 31 38 [a0, a1, a2, a3, a4] (.ref o :: st) z h Q = (ni_is (h o) 5 0 = true ∧ ni_T d 31 41 [a0, a1, a2, a3, a4] (ni_gv (h o) 0 :: st) z h Q) := ni_T_getf rfl
theorem s31_41 : ni_T d 31 41 [a0, a1, a2, .int x, a4] st z h Q = ni_T d 31 42 [a0, a1, a2, .int x, a4] (.int x :: st) z h Q := ni_T_p rfl rfl
theorem s31_42 : ni_T d 31 42 [a0, a1, a2, a3, .int x] st z h Q = ni_T d 31 44 [a0, a1, a2, a3, .int x] (.int x :: st) z h Q := ni_T_p rfl rfl
theorem s31_44 : ni_T d 31 44 [a0, a1, a2, a3, a4] (.int y :: .int x :: .ref o :: st) z h Q = (ni_okS (h o) x = true ∧ ni_T d 31 45 [a0, a1, a2, a3, a4] st z (ni_up h o (ni_pi (h o) x y)) Q) := ni_T_iast rfl
theorem s31_45 : ni_T d 31 45 [a0, a1, a2, a3, a4] st z h Q = ni_T d 31 56 [a0, a1, a2, a3, a4] st z h Q := ni_T_p rfl rfl
theorem s31_48 : ni_T d 31 48 [.ref o, a1, a2, a3, a4] st z h Q = ni_T d 31 49 [.ref o, a1, a2, a3, a4] (.ref o :: st) z h Q := ni_T_p rfl rfl
theorem s31_49 : ni_T d 31 49 [.ref o, a1, a2, a3, a4] st z h Q = ni_T d 31 50 [.ref o, a1, a2, a3, a4] (.ref o :: st) z h Q := ni_T_p rfl rfl
theorem s31_50 : ni_T d 31 50 [a0, a1, a2, a3, a4] (.ref o :: st) z h Q = (ni_is (h o) 3 2 = true ∧ ni_T d 31 53 [a0, a1, a2, a3, a4] (ni_gv (h o) 2 :: st) z h Q) := ni_T_getf rfl
theorem s31_53 : ni_T d 31 53 [a0, a1, a2, a3, a4] (b0 :: .ref o :: st) z h Q = ((Nat.ble 3 7 && ni_is (h o) 3 0 && ni_fit (.int) b0) = true ∧ ni_T d 31 56 [a0, a1, a2, a3, a4] st z (ni_up h o (ni_pv (h o) 0 b0)) Q) := ni_T_putf rfl
theorem s31_56 : ni_T d 31 56 [a0, a1, a2, a3, a4] [] z h Q = Q none z h := ni_T_v rfl rfl
theorem s32_0 : ni_T d 32 0 [.ref o, a1, a2, a3] st z h Q = ni_T d 32 1 [.ref o, a1, a2, a3] (.ref o :: st) z h Q := ni_T_p rfl rfl
theorem s32_1 : ni_T d 32 1 [a0, .ref o, a2, a3] st z h Q = ni_T d 32 2 [a0, .ref o, a2, a3] (.ref o :: st) z h Q := ni_T_p rfl rfl
theorem s32_1N : ni_T d 32 1 [a0, .null, a2, a3] st z h Q = ni_T d 32 2 [a0, .null, a2, a3] (.null :: st) z h Q := ni_T_p rfl rfl
theorem s32_2 : ni_T d 32 2 [a0, a1, a2, a3] st z h Q = ni_T d 32 3 [a0, a1, a2, a3] (.int 0 :: st) z h Q := ni_T_p rfl rfl
theorem s32_3 : ni_T d 32 3 [a0, a1, a2, a3] st z h Q = ni_T d 32 4 [a0, a1, a2, a3] (.int 4 :: st) z h Q := ni_T_p rfl rfl
theorem s32_4 : ni_T (d + 1) 32 4 [a0, a1, a2, a3] (.int x2 :: .int x1 :: .ref o20 :: .ref o :: st) z h Q = (ni_rc (h o) 3 = true ∧ Nat.ble (ni_sw st) 8 = true ∧ ni_T d 38 0 [.ref o, .ref o20, .int x1, .int x2, .retAddr 0, .retAddr 0] [] z h (ni_K (d + 1) 32 7 [a0, a1, a2, a3] st z Q)) := ni_T_ce [.ref o, .ref o20, .int x1, .int x2] rfl rfl rfl rfl rfl rfl rfl rfl rfl
theorem s32_4N0 : ni_T (d + 1) 32 4 [a0, a1, a2, a3] (.int x2 :: .int x1 :: .null :: .ref o :: st) z h Q = (ni_rc (h o) 3 = true ∧ Nat.ble (ni_sw st) 8 = true ∧ ni_T d 38 0 [.ref o, .null, .int x1, .int x2, .retAddr 0, .retAddr 0] [] z h (ni_K (d + 1) 32 7 [a0, a1, a2, a3] st z Q)) := ni_T_ce [.ref o, .null, .int x1, .int x2] rfl rfl rfl rfl rfl rfl rfl rfl rfl
theorem s32_7 : ni_T d 32 7 [a0, a1, a2, a3] (.int x :: st) z h Q = ni_T d 32 8 [a0, a1, ni_kl a2, .int x] st z h Q := ni_T_p rfl rfl
theorem s32_8 : ni_T d 32 8 [.ref o, a1, a2, a3] st z h Q = ni_T d 32 9 [.ref o, a1, a2, a3] (.ref o :: st) z h Q := ni_T_p rfl rfl
theorem s32_9 : ni_T d 32 9 [a0, a1, a2, a3] (.ref o :: st) z h Q = (ni_is (h o) 3 0 = true ∧ ni_T d 32 12 [a0, a1, a2, a3] (ni_gv (h o) 0 :: st) z h Q) := ni_T_getf rfl
theorem s32_12 : ni_T d 32 12 [a0, a1, a2, a3] st z h Q = ni_T d 32 13 [a0, a1, a2, a3] (.int (-1) :: st) z h Q := ni_T_p rfl rfl
theorem s32_13 : ni_T d 32 13 [a0, a1, a2, a3] (.int y :: .int x :: st) z h Q = if x = y then ni_T d 32 16 [a0, a1, a2, a3] st z h Q else ni_T d 32 23 [a0, a1, a2, a3] st z h Q := ni_T_b rfl rfl
theorem s32_16 : ni_T d 32 16 [a0, a1, .ref o, a3] st z h Q = ni_T d 32 17 [a0, a1, .ref o, a3] (.ref o :: st) z h Q := ni_T_p rfl rfl
theorem s32_16N : ni_T d 32 16 [a0, a1, .null, a3] st z h Q = ni_T d 32 17 [a0, a1, .null, a3] (.null :: st) z h Q := ni_T_p rfl rfl
theorem s32_17 : ni_T d 32 17 [a0, a1, a2, a3] (.ref o :: st) z h Q = (ni_is (h o) 5 0 = true ∧ ni_T d 32 20 [a0, a1, a2, a3] (ni_gv (h o) 0 :: st) z h Q) := ni_T_getf rfl
theorem s32_20 : ni_T d 32 20 [a0, a1, a2, .int x] st z h Q = ni_T d 32 21 [a0, a1, a2, .int x] (.int x :: st) z h Q := ni_T_p rfl rfl
theorem s32_21 : ni_T d 32 21 [a0, a1, a2, a3] st z h Q = ni_T d 32 22 [a0, a1, a2, a3] (.int (-1) :: st) z h Q := ni_T_p rfl rfl
theorem s32_22 : ni_T d 32 22 [a0, a1, a2, a3] (.int y :: .int x :: .ref o :: st) z h Q = (ni_okS (h o) x = true ∧ ni_T d 32 23 [a0, a1, a2, a3] st z (ni_up h o (ni_pi (h o) x y)) Q) := ni_T_iast rfl
theorem s32_23 : ni_T d 32 23 [a0, a1, a2, a3] [] z h Q = Q none z h := ni_T_v rfl rfl
theorem s33_0 : ni_T d 33 0 [a0, a1, .ref o, a3, a4] st z h Q = ni_T d 33 1 [a0, a1, .ref o, a3, a4] (.ref o :: st) z h Q := ni_T_p rfl rfl
theorem s33_0N : ni_T d 33 0 [a0, a1, .null, a3, a4] st z h Q = ni_T d 33 1 [a0, a1, .null, a3, a4] (.null :: st) z h Q := ni_T_p rfl rfl
theorem s33_1 : ni_T d 33 1 [.ref o, a1, a2, a3, a4] st z h Q = ni_T d 33 2 [.ref o, a1, a2, a3, a4] (.ref o :: st) z h Q := ni_T_p rfl rfl
theorem s33_2 : ni_T d 33 2 [a0, .ref o, a2, a3, a4] st z h Q = ni_T d 33 3 [a0, .ref o, a2, a3, a4] (.ref o :: st) z h Q := ni_T_p rfl rfl
theorem s33_2N : ni_T d 33 2 [a0, .null, a2, a3, a4] st z h Q = ni_T d 33 3 [a0, .null, a2, a3, a4] (.null :: st) z h Q := ni_T_p rfl rfl
theorem s33_3 : ni_T d 33 3 [a0, a1, a2, a3, a4] st z h Q = ni_T d 33 4 [a0, a1, a2, a3, a4] (.int 0 :: st) z h Q := ni_T_p rfl rfl
theorem s33_4 : ni_T d 33 4 [a0, a1, .ref o, a3, a4] st z h Q = ni_T d 33 5 [a0, a1, .ref o, a3, a4] (.ref o :: st) z h Q := ni_T_p rfl rfl
theorem s33_4N : ni_T d 33 4 [a0, a1, .null, a3, a4] st z h Q = ni_T d 33 5 [a0, a1, .null, a3, a4] (.null :: st) z h Q := ni_T_p rfl rfl
theorem s33_5 : ni_T d 33 5 [a0, a1, a2, a3, a4] (.ref o :: st) z h Q = (ni_is (h o) 5 2 = true ∧ ni_T d 33 8 [a0, a1, a2, a3, a4] (ni_gv (h o) 2 :: st) z h Q) := ni_T_getf rfl
theorem s33_8 : ni_T d 33 8 [a0, a1, a2, a3, a4] st z h Q = ni_T d 33 9 [a0, a1, a2, a3, a4] (.int 1 :: st) z h Q := ni_T_p rfl rfl
theorem s33_9 : ni_T d 33 9 [a0, a1, a2, a3, a4] (.int y :: .int x :: st) z h Q = ni_T d 33 10 [a0, a1, a2, a3, a4] (.int (x - y) :: st) z h Q := ni_T_p rfl rfl
theorem s33_10 : ni_T (d + 1) 33 10 [a0, a1, a2, a3, a4] (.int x2 :: .int x1 :: .ref o20 :: .ref o :: st) z h Q = (ni_rc (h o) 3 = true ∧ Nat.ble (ni_sw st) 8 = true ∧ ni_T d 38 0 [.ref o, .ref o20, .int x1, .int x2, .retAddr 0, .retAddr 0] [] z h (ni_K (d + 1) 33 13 [a0, a1, a2, a3, a4] st z Q)) := ni_T_ce [.ref o, .ref o20, .int x1, .int x2] rfl rfl rfl rfl rfl rfl rfl rfl rfl
theorem s33_10N0 : ni_T (d + 1) 33 10 [a0, a1, a2, a3, a4] (.int x2 :: .int x1 :: .null :: .ref o :: st) z h Q = (ni_rc (h o) 3 = true ∧ Nat.ble (ni_sw st) 8 = true ∧ ni_T d 38 0 [.ref o, .null, .int x1, .int x2, .retAddr 0, .retAddr 0] [] z h (ni_K (d + 1) 33 13 [a0, a1, a2, a3, a4] st z Q)) := ni_T_ce [.ref o, .null, .int x1, .int x2] rfl rfl rfl rfl rfl rfl rfl rfl rfl
theorem s33_13 : ni_T (d + 1) 33 13 [a0, a1, a2, a3, a4] (.int x0 :: .ref o :: st) z h Q = (ni_rc (h o) 5 = true ∧ Nat.ble (ni_sw st) 8 = true ∧ ni_T d 48 0 [.ref o, .int x0] [] z h (ni_K (d + 1) 33 16 [a0, a1, a2, a3, a4] st z Q)) := ni_T_ce [.ref o, .int x0] rfl rfl rfl rfl rfl rfl rfl rfl rfl
theorem s33_16 : ni_T d 33 16 [a0, a1, a2, a3, a4] (.ref o :: st) z h Q = ni_T d 33 17 [a0, a1, ni_kl a2, .ref o, a4] st z h Q := ni_T_p rfl rfl
theorem s33_16N : ni_T d 33 16 [a0, a1, a2, a3, a4] (.null :: st) z h Q = ni_T d 33 17 [a0, a1, ni_kl a2, .null, a4] st z h Q := ni_T_p rfl rfl
theorem s33_17 : ni_T d 33 17 [.ref o, a1, a2, a3, a4] st z h Q = ni_T d 33 18 [.ref o, a1, a2, a3, a4] (.ref o :: st) z h Q := ni_T_p rfl rfl
theorem s33_18 : ni_T d 33 18 [a0, .ref o, a2, a3, a4] st z h Q = ni_T d 33 19 [a0, .ref o, a2, a3, a4] (.ref o :: st) z h Q := ni_T_p rfl rfl
theorem s33_18N : ni_T d 33 18 [a0, .null, a2, a3, a4] st z h Q = ni_T d 33 19 [a0, .null, a2, a3, a4] (.null :: st) z h Q := ni_T_p rfl rfl
theorem s33_19 : ni_T d 33 19 [a0, a1, a2, a3, a4] st z h Q = ni_T d 33 20 [a0, a1, a2, a3, a4] (.int 1 :: st) z h Q := ni_T_p rfl rfl
theorem s33_20 : ni_T d 33 20 [a0, a1, a2, a3, a4] st z h Q = ni_T d 33 21 [a0, a1, a2, a3, a4] (.int 4 :: st) z h Q := ni_T_p rfl rfl
theorem s33_21 : ni_T (d + 1) 33 21 [a0, a1, a2, a3, a4] (.int x2 :: .int x1 :: .ref o20 :: .ref o :: st) z h Q = (ni_rc (h o) 3 = true ∧ Nat.ble (ni_sw st) 8 = true ∧ ni_T d 38 0 [.ref o, .ref o20, .int x1, .int x2, .retAddr 0, .retAddr 0] [] z h (ni_K (d + 1) 33 24 [a0, a1, a2, a3, a4] st z Q)) := ni_T_ce [.ref o, .ref o20, .int x1, .int x2] rfl rfl rfl rfl rfl rfl rfl rfl rfl
theorem s33_21N0 : ni_T (d + 1) 33 21 [a0, a1, a2, a3, a4] (.int x2 :: .int x1 :: .null :: .ref o :: st) z h Q = (ni_rc (h o) 3 = true ∧ Nat.ble (ni_sw st) 8 = true ∧ ni_T d 38 0 [.ref o, .null, .int x1, .int x2, .retAddr 0, .retAddr 0] [] z h (ni_K (d + 1) 33 24 [a0, a1, a2, a3, a4] st z Q)) := ni_T_ce [.ref o, .null, .int x1, .int x2] rfl rfl rfl rfl rfl rfl rfl rfl rfl
theorem s33_24 : ni_T d 33 24 [a0, a1, a2, a3, a4] (.int x :: st) z h Q = ni_T d 33 26 [a0, a1, a2, ni_kl a3, .int x] st z h Q := ni_T_p rfl rfl
theorem s33_26 : ni_T d 33 26 [.ref o, a1, a2, a3, a4] st z h Q = ni_T d 33 27 [.ref o, a1, a2, a3, a4] (.ref o :: st) z h Q := ni_T_p rfl rfl
theorem s33_27 : ni_T d 33 27 [a0, a1, a2, a3, a4] (.ref o :: st) z h Q = (ni_is (h o) 3 0 = true ∧ ni_T d 33 30 [a0, a1, a2, a3, a4] (ni_gv (h o) 0 :: st) z h Q) := ni_T_getf rfl
theorem s33_30 : ni_T d 33 30 [a0, a1, a2, a3, a4] st z h Q = ni_T d 33 31 [a0, a1, a2, a3, a4] (.int (-1) :: st) z h Q := ni_T_p rfl rfl
theorem s33_31 : ni_T d 33 31 [a0, a1, a2, a3, a4] (.int y :: .int x :: st) z h Q = if x = y then ni_T d 33 34 [a0, a1, a2, a3, a4] st z h Q else ni_T d 33 44 [a0, a1, a2, a3, a4] st z h Q := ni_T_b rfl rfl
theorem s33_34 : ni_T d 33 34 [a0, a1, a2, .ref o, a4] st z h Q = ni_T d 33 35 [a0, a1, a2, .ref o, a4] (.ref o :: st) z h Q := ni_T_p rfl rfl
theorem s33_34N : ni_T d 33 34 [a0, a1, a2, .null, a4] st z h Q = ni_T d 33 35 [a0, a1, a2, .null, a4] (.null :: st) z h Q := ni_T_p rfl rfl
theorem s33_35N : ni_T d 33 35 [a0, a1, a2, a3, a4] (.null :: st) z h Q = ni_T d 33 44 [a0, a1, a2, a3, a4] st z h Q := ni_T_p rfl rfl
theorem s33_35 : ni_T d 33 35 [a0, a1, a2, a3, a4] (.ref o :: st) z h Q = ni_T d 33 38 [a0, a1, a2, a3, a4] st z h Q := ni_T_p rfl rfl
theorem s33_38 : ni_T d 33 38 [a0, a1, a2, .ref o, a4] st z h Q = ni_T d 33 39 [a0, a1, a2, .ref o, a4] (.ref o :: st) z h Q := ni_T_p rfl rfl
theorem s33_38N : ni_T d 33 38 [a0, a1, a2, .null, a4] st z h Q = ni_T d 33 39 [a0, a1, a2, .null, a4] (.null :: st) z h Q := ni_T_p rfl rfl
theorem s33_39 : ni_T d 33 39 [a0, a1, a2, a3, .int x] st z h Q = ni_T d 33 41 [a0, a1, a2, a3, .int x] (.int x :: st) z h Q := ni_T_p rfl rfl
theorem s33_41 : ni_T d 33 41 [a0, a1, a2, a3, a4] (b0 :: .ref o :: st) z h Q = ((Nat.ble 1 7 && ni_is (h o) 1 3 && ni_fit (.int) b0) = true ∧ ni_T d 33 44 [a0, a1, a2, a3, a4] st z (ni_up h o (ni_pv (h o) 3 b0)) Q) := ni_T_putf rfl
theorem s33_44 : ni_T d 33 44 [a0, a1, a2, a3, a4] [] z h Q = Q none z h := ni_T_v rfl rfl
theorem s34_0 : ni_T d 34 0 [.ref o, a1, a2, a3] st z h Q = ni_T d 34 1 [.ref o, a1, a2, a3] (.ref o :: st) z h Q := ni_T_p rfl rfl
theorem s34_1 : ni_T d 34 1 [a0, .ref o, a2, a3] st z h Q = ni_T d 34 2 [a0, .ref o, a2, a3] (.ref o :: st) z h Q := ni_T_p rfl rfl
theorem s34_1N : ni_T d 34 1 [a0, .null, a2, a3] st z h Q = ni_T d 34 2 [a0, .null, a2, a3] (.null :: st) z h Q := ni_T_p rfl rfl
theorem s34_2 : ni_T d 34 2 [a0, a1, a2, a3] st z h Q = ni_T d 34 3 [a0, a1, a2, a3] (.int 0 :: st) z h Q := ni_T_p rfl rfl
theorem s34_3 : ni_T d 34 3 [a0, a1, .ref o, a3] st z h Q = ni_T d 34 4 [a0, a1, .ref o, a3] (.ref o :: st) z h Q := ni_T_p rfl rfl
theorem s34_3N : ni_T d 34 3 [a0, a1, .null, a3] st z h Q = ni_T d 34 4 [a0, a1, .null, a3] (.null :: st) z h Q := ni_T_p rfl rfl
theorem s34_4 : ni_T d 34 4 [a0, a1, a2, a3] (.ref o :: st) z h Q = (ni_is (h o) 5 2 = true ∧ ni_T d 34 7 [a0, a1, a2, a3] (ni_gv (h o) 2 :: st) z h Q) := ni_T_getf rfl
theorem s34_7 : ni_T d 34 7 [a0, a1, a2, a3] st z h Q = ni_T d 34 8 [a0, a1, a2, a3] (.int 1 :: st) z h Q := ni_T_p rfl rfl
theorem s34_8 : ni_T d 34 8 [a0, a1, a2, a3] (.int y :: .int x :: st) z h Q = ni_T d 34 9 [a0, a1, a2, a3] (.int (x - y) :: st) z h Q := ni_T_p rfl rfl
theorem s34_9 : ni_T (d + 1) 34 9 [a0, a1, a2, a3] (.int x2 :: .int x1 :: .ref o20 :: .ref o :: st) z h Q = (ni_rc (h o) 3 = true ∧ Nat.ble (ni_sw st) 8 = true ∧ ni_T d 38 0 [.ref o, .ref o20, .int x1, .int x2, .retAddr 0, .retAddr 0] [] z h (ni_K (d + 1) 34 12 [a0, a1, a2, a3] st z Q)) := ni_T_ce [.ref o, .ref o20, .int x1, .int x2] rfl rfl rfl rfl rfl rfl rfl rfl rfl
theorem s34_9N0 : ni_T (d + 1) 34 9 [a0, a1, a2, a3] (.int x2 :: .int x1 :: .null :: .ref o :: st) z h Q = (ni_rc (h o) 3 = true ∧ Nat.ble (ni_sw st) 8 = true ∧ ni_T d 38 0 [.ref o, .null, .int x1, .int x2, .retAddr 0, .retAddr 0] [] z h (ni_K (d + 1) 34 12 [a0, a1, a2, a3] st z Q)) := ni_T_ce [.ref o, .null, .int x1, .int x2] rfl rfl rfl rfl rfl rfl rfl rfl rfl
theorem s34_12 : ni_T d 34 12 [a0, a1, a2, a3] (.int x :: st) z h Q = ni_T d 34 13 [a0, a1, ni_kl a2, .int x] st z h Q := ni_T_p rfl rfl
theorem s34_13 : ni_T d 34 13 [.ref o, a1, a2, a3] st z h Q = ni_T d 34 14 [.ref o, a1, a2, a3] (.ref o :: st) z h Q := ni_T_p rfl rfl
theorem s34_14 : ni_T d 34 14 [a0, a1, a2, a3] (.ref o :: st) z h Q = (ni_is (h o) 3 0 = true ∧ ni_T d 34 17 [a0, a1, a2, a3] (ni_gv (h o) 0 :: st) z h Q) := ni_T_getf rfl
theorem s34_17 : ni_T d 34 17 [a0, a1, a2, a3] st z h Q = ni_T d 34 18 [a0, a1, a2, a3] (.int (-1) :: st) z h Q := ni_T_p rfl rfl
theorem s34_18 : ni_T d 34 18 [a0, a1, a2, a3] (.int y :: .int x :: st) z h Q = if x = y then ni_T d 34 21 [a0, a1, a2, a3] st z h Q else ni_T d 34 26 [a0, a1, a2, a3] st z h Q := ni_T_b rfl rfl
theorem s34_21 : ni_T d 34 21 [a0, a1, .ref o, a3] st z h Q = ni_T d 34 22 [a0, a1, .ref o, a3] (.ref o :: st) z h Q := ni_T_p rfl rfl
theorem s34_21N : ni_T d 34 21 [a0, a1, .null, a3] st z h Q = ni_T d 34 22 [a0, a1, .null, a3] (.null :: st) z h Q := ni_T_p rfl rfl
theorem s34_22 : ni_T d 34 22 [a0, a1, a2, .int x] st z h Q = ni_T d 34 23 [a0, a1, a2, .int x] (.int x :: st) z h Q := ni_T_p rfl rfl
theorem s34_23 : ni_T d 34 23 [a0, a1, a2, a3] (b0 :: .ref o :: st) z h Q = ((Nat.ble 5 7 && ni_is (h o) 5 3 && ni_fit (.int) b0) = true ∧ ni_T d 34 26 [a0, a1, a2, a3] st z (ni_up h o (ni_pv (h o) 3 b0)) Q) := ni_T_putf rfl
theorem s34_26 : ni_T d 34 26 [a0, a1, a2, a3] [] z h Q = Q none z h := ni_T_v rfl rfl
theorem s35_0 : ni_T d 35 0 [a0, a1, a2, a3, a4, a5] st z h Q = ni_T d 35 1 [a0, a1, a2, a3, a4, a5] (.int 0 :: st) z h Q := ni_T_p rfl rfl
theorem s35_1 : ni_T d 35 1 [a0, a1, a2, a3, a4, a5] (.int x :: st) z h Q = ni_T d 35 2 [a0, ni_kl a1, .int x, a3, a4, a5] st z h Q := ni_T_p rfl rfl
theorem s35_2 : ni_T d 35 2 [a0, a1, a2, a3, a4, a5] st z h Q = ni_T d 35 3 [a0, a1, a2, a3, a4, a5] (.int 0 :: st) z h Q := ni_T_p rfl rfl
theorem s35_3 : ni_T d 35 3 [a0, a1, a2, a3, a4, a5] (.int x :: st) z h Q = ni_T d 35 4 [a0, a1, ni_kl a2, .int x, a4, a5] st z h Q := ni_T_p rfl rfl
theorem s35_4 : ni_T d 35 4 [a0, a1, a2, .int x, a4, a5] st z h Q = ni_T d 35 5 [a0, a1, a2, .int x, a4, a5] (.int x :: st) z h Q := ni_T_p rfl rfl
theorem s35_5 : ni_T d 35 5 [a0, a1, a2, a3, a4, a5] st z h Q = ni_T d 35 6 [a0, a1, a2, a3, a4, a5] (.int 5 :: st) z h Q := ni_T_p rfl rfl
theorem s35_6 : ni_T d 35 6 [a0, a1, a2, a3, a4, a5] (.int y :: .int x :: st) z h Q = if y ≤ x then ni_T d 35 60 [a0, a1, a2, a3, a4, a5] st z h Q else ni_T d 35 9 [a0, a1, a2, a3, a4, a5] st z h Q := ni_T_b rfl rfl
theorem s35_9 : ni_T d 35 9 [a0, a1, a2, .int x, a4, a5] st z h Q = ni_T d 35 10 [a0, a1, a2, .int x, a4, a5] (.int x :: st) z h Q := ni_T_p rfl rfl
theorem s35_10 : ni_T (d + 1) 35 10 [a0, a1, a2, a3, a4, a5] (.int x0 :: st) z h Q = (Nat.ble (ni_sw st) 8 = true ∧ ni_T d 37 0 [.int x0] [] z h (ni_K (d + 1) 35 13 [a0, a1, a2, a3, a4, a5] st z Q)) := ni_T_cse [.int x0] rfl rfl rfl rfl rfl rfl rfl rfl rfl
theorem s35_13 : ni_T d 35 13 [a0, a1, a2, a3, a4, a5] (.ref o :: st) z h Q = ni_T d 35 15 [a0, a1, a2, ni_kl a3, .ref o, a5] st z h Q := ni_T_p rfl rfl
theorem s35_13N : ni_T d 35 13 [a0, a1, a2, a3, a4, a5] (.null :: st) z h Q = ni_T d 35 15 [a0, a1, a2, ni_kl a3, .null, a5] st z h Q := ni_T_p rfl rfl
theorem s35_15 : ni_T d 35 15 [.ref o, a1, a2, a3, a4, a5] st z h Q = ni_T d 35 16 [.ref o, a1, a2, a3, a4, a5] (.ref o :: st) z h Q := ni_T_p rfl rfl
theorem s35_16 : ni_T d 35 16 [a0, .ref o, a2, a3, a4, a5] st z h Q = ni_T d 35 17 [a0, .ref o, a2, a3, a4, a5] (.ref o :: st) z h Q := ni_T_p rfl rfl
theorem s35_16N : ni_T d 35 16 [a0, .null, a2, a3, a4, a5] st z h Q = ni_T d 35 17 [a0, .null, a2, a3, a4, a5] (.null :: st) z h Q := ni_T_p rfl rfl
theorem s35_17 : ni_T d 35 17 [a0, a1, a2, a3, .ref o, a5] st z h Q = ni_T d 35 19 [a0, a1, a2, a3, .ref o, a5] (.ref o :: st) z h Q := ni_T_p rfl rfl
theorem s35_17N : ni_T d 35 17 [a0, a1, a2, a3, .null, a5] st z h Q = ni_T d 35 19 [a0, a1, a2, a3, .null, a5] (.null :: st) z h Q := ni_T_p rfl rfl
theorem s35_19 : ni_T (d + 1) 35 19 [a0, a1, a2, a3, a4, a5] (.ref o21 :: .ref o20 :: .ref o :: st) z h Q = (ni_rc (h o) 3 = true ∧ Nat.ble (ni_sw st) 8 = true ∧ ni_T d 36 0 [.ref o, .ref o20, .ref o21, .retAddr 0] [] z h (ni_K (d + 1) 35 22 [a0, a1, a2, a3, a4, a5] st z Q)) := ni_T_ce [.ref o, .ref o20, .ref o21] rfl rfl rfl rfl rfl rfl rfl rfl rfl
theorem s35_19N1 : ni_T (d + 1) 35 19 [a0, a1, a2, a3, a4, a5] (.null :: .ref o20 :: .ref o :: st) z h Q = (ni_rc (h o) 3 = true ∧ Nat.ble (ni_sw st) 8 = true ∧ ni_T d 36 0 [.ref o, .ref o20, .null, .retAddr 0] [] z h (ni_K (d + 1) 35 22 [a0, a1, a2, a3, a4, a5] st z Q)) := ni_T_ce [.ref o, .ref o20, .null] rfl rfl rfl rfl rfl rfl rfl rfl rfl
theorem s35_19N0 : ni_T (d + 1) 35 19 [a0, a1, a2, a3, a4, a5] (.ref o21 :: .null :: .ref o :: st) z h Q = (ni_rc (h o) 3 = true ∧ Nat.ble (ni_sw st) 8 = true ∧ ni_T d 36 0 [.ref o, .null, .ref o21, .retAddr 0] [] z h (ni_K (d + 1) 35 22 [a0, a1, a2, a3, a4, a5] st z Q)) := ni_T_ce [.ref o, .null, .ref o21] rfl rfl rfl rfl rfl rfl rfl rfl rfl
theorem s35_19N0N1 : ni_T (d + 1) 35 19 [a0, a1, a2, a3, a4, a5] (.null :: .null :: .ref o :: st) z h Q = (ni_rc (h o) 3 = true ∧ Nat.ble (ni_sw st) 8 = true ∧ ni_T d 36 0 [.ref o, .null, .null, .retAddr 0] [] z h (ni_K (d + 1) 35 22 [a0, a1, a2, a3, a4, a5] st z Q)) := ni_T_ce [.ref o, .null, .null] rfl rfl rfl rfl rfl rfl rfl rfl rfl
theorem s35_22 : ni_T d 35 22 [a0, a1, a2, a3, a4, a5] (.int x :: st) z h Q = ni_T d 35 24 [a0, a1, a2, a3, ni_kl a4, .int x] st z h Q := ni_T_p rfl rfl
theorem s35_24 : ni_T d 35 24 [a0, a1, a2, a3, a4, .int x] st z h Q = ni_T d 35 26 [a0, a1, a2, a3, a4, .int x] (.int x :: st) z h Q := ni_T_p rfl rfl
theorem s35_26 : ni_T d 35 26 [a0, a1, a2, a3, .ref o, a5] st z h Q = ni_T d 35 28 [a0, a1, a2, a3, .ref o, a5] (.ref o :: st) z h Q := ni_T_p rfl rfl
theorem s35_26N : ni_T d 35 26 [a0, a1, a2, a3, .null, a5] st z h Q = ni_T d 35 28 [a0, a1, a2, a3, .null, a5] (.null :: st) z h Q := ni_T_p rfl rfl
theorem s35_28 : ni_T (d + 1) 35 28 [a0, a1, a2, a3, a4, a5] (.ref o :: st) z h Q = (ni_rc (h o) 100 = true ∧ Nat.ble (ni_sw st) 8 = true ∧ ni_T d 201 0 [.ref o] [] z h (ni_K (d + 1) 35 31 [a0, a1, a2, a3, a4, a5] st z Q)) := ni_T_ce [.ref o] rfl rfl rfl rfl rfl rfl rfl rfl rfl
theorem s35_31 : ni_T d 35 31 [a0, a1, a2, a3, a4, a5] (.int y :: .int x :: st) z h Q = if x = y then ni_T d 35 34 [a0, a1, a2, a3, a4, a5] st z h Q else ni_T d 35 47 [a0, a1, a2, a3, a4, a5] st z h Q := ni_T_b rfl rfl
theorem s35_34 : ni_T d 35 34 [.ref o, a1, a2, a3, a4, a5] st z h Q = ni_T d 35 35 [.ref o, a1, a2, a3, a4, a5] (.ref o :: st) z h Q := ni_T_p rfl rfl
theorem s35_35 : ni_T d 35 35 [a0, a1, a2, a3, a4, a5] (.ref o :: st) z h Q = ni_T d 35 36 [a0, a1, a2, a3, a4, a5] (.ref o :: .ref o :: st) z h Q := ni_T_p rfl rfl
theorem s35_35i : ni_T d 35 35 [a0, a1, a2, a3, a4, a5] (.int x :: st) z h Q = ni_T d 35 36 [a0, a1, a2, a3, a4, a5] (.int x :: .int x :: st) z h Q := ni_T_p rfl rfl
theorem s35_36 : ni_T d 35 36 [a0, a1, a2, a3, a4, a5] (.ref o :: st) z h Q = (ni_is (h o) 3 1 = true ∧ ni_T d 35 39 [a0, a1, a2, a3, a4, a5] (ni_gv (h o) 1 :: st) z h Q) := ni_T_getf rfl
theorem s35_39 : ni_T d 35 39 [a0, a1, a2, a3, a4, .int x] st z h Q = ni_T d 35 41 [a0, a1, a2, a3, a4, .int x] (.int x :: st) z h Q := ni_T_p rfl rfl
theorem s35_41 : ni_T d 35 41 [a0, a1, a2, a3, a4, a5] (.int y :: .int x :: st) z h Q = ni_T d 35 42 [a0, a1, a2, a3, a4, a5] (.int (x + y) :: st) z h Q := ni_T_p rfl rfl
theorem s35_42 : ni_T d 35 42 [a0, a1, a2, a3, a4, a5] (b0 :: .ref o :: st) z h Q = ((Nat.ble 3 7 && ni_is (h o) 3 1 && ni_fit (.int) b0) = true ∧ ni_T d 35 45 [a0, a1, a2, a3, a4, a5] st z (ni_up h o (ni_pv (h o) 1 b0)) Q) := ni_T_putf rfl
theorem s35_45 : ni_T d 35 45 [a0, a1, a2, .int x, a4, a5] st z h Q = ni_T d 35 46 [a0, a1, a2, .int x, a4, a5] (.int x :: st) z h Q := ni_T_p rfl rfl
theorem s35_46 : ni_T d 35 46 [a0, a1, a2, a3, a4, a5] [.int x] z h Q = Q (some (.int x)) z h := ni_T_i rfl rfl
theorem s35_47 : ni_T d 35 47 [a0, a1, .int x, a3, a4, a5] st z h Q = ni_T d 35 48 [a0, a1, .int x, a3, a4, a5] (.int x :: st) z h Q := ni_T_p rfl rfl
theorem s35_48 : ni_T d 35 48 [a0, a1, a2, a3, a4, .int x] st z h Q = ni_T d 35 50 [a0, a1, a2, a3, a4, .int x] (.int x :: st) z h Q := ni_T_p rfl rfl
theorem s35_50 : ni_T (d + 1) 35 50 [a0, a1, a2, a3, a4, a5] (.int y :: .int x :: st) z h Q = (Nat.ble (ni_sw st) 8 = true ∧ ni_T (d + 1) 35 53 [a0, a1, a2, a3, a4, a5] (.int (if x < y then y else x) :: st) z h Q) := ni_T_mmaxc rfl rfl
theorem s35_53 : ni_T d 35 53 [a0, a1, a2, a3, a4, a5] (.int x :: st) z h Q = ni_T d 35 54 [a0, ni_kl a1, .int x, a3, a4, a5] st z h Q := ni_T_p rfl rfl
theorem s35_54 : ni_T d 35 54 [a0, a1, a2, .int x, a4, a5] st z h Q = ni_T d 35 57 [a0, a1, ni_kl a2, .int (x + 1), a4, a5] st z h Q := ni_T_p rfl rfl
theorem s35_57 : ni_T d 35 57 [a0, a1, a2, a3, a4, a5] st z h Q = ni_T d 35 4 [a0, a1, a2, a3, a4, a5] st z h Q := ni_T_p rfl rfl
theorem s35_60 : ni_T d 35 60 [.ref o, a1, a2, a3, a4, a5] st z h Q = ni_T d 35 61 [.ref o, a1, a2, a3, a4, a5] (.ref o :: st) z h Q := ni_T_p rfl rfl
theorem s35_61 : ni_T d 35 61 [.ref o, a1, a2, a3, a4, a5] st z h Q = ni_T d 35 62 [.ref o, a1, a2, a3, a4, a5] (.ref o :: st) z h Q := ni_T_p rfl rfl
theorem s35_62 : ni_T d 35 62 [a0, a1, a2, a3, a4, a5] (.ref o :: st) z h Q = (ni_is (h o) 3 1 = true ∧ ni_T d 35 65 [a0, a1, a2, a3, a4, a5] (ni_gv (h o) 1 :: st) z h Q) := ni_T_getf rfl
theorem s35_65 : ni_T d 35 65 [a0, a1, .int x, a3, a4, a5] st z h Q = ni_T d 35 66 [a0, a1, .int x, a3, a4, a5] (.int x :: st) z h Q := ni_T_p rfl rfl
theorem s35_66 : ni_T d 35 66 [a0, a1, a2, a3, a4, a5] (.int y :: .int x :: st) z h Q = ni_T d 35 67 [a0, a1, a2, a3, a4, a5] (.int (x + y) :: st) z h Q := ni_T_p rfl rfl
theorem s35_67 : ni_T d 35 67 [a0, a1, a2, a3, a4, a5] (b0 :: .ref o :: st) z h Q = ((Nat.ble 3 7 && ni_is (h o) 3 0 && ni_fit (.int) b0) = true ∧ ni_T d 35 70 [a0, a1, a2, a3, a4, a5] st z (ni_up h o (ni_pv (h o) 0 b0)) Q) := ni_T_putf rfl
theorem s35_70 : ni_T d 35 70 [a0, a1, a2, a3, a4, a5] st z h Q = ni_T d 35 71 [a0, a1, a2, a3, a4, a5] (.int (-1) :: st) z h Q := ni_T_p rfl rfl
theorem s35_71 : ni_T d 35 71 [a0, a1, a2, a3, a4, a5] [.int x] z h Q = Q (some (.int x)) z h := ni_T_i rfl rfl
theorem s36_0 : ni_T d 36 0 [a0, a1, a2, a3] st z h Q = ni_T d 36 1 [a0, a1, a2, a3] (.int 0 :: st) z h Q := ni_T_p rfl rfl
theorem s36_1 : ni_T d 36 1 [a0, a1, a2, a3] (.int x :: st) z h Q = ni_T d 36 2 [a0, a1, ni_kl a2, .int x] st z h Q := ni_T_p rfl rfl
theorem s36_2 : ni_T d 36 2 [a0, a1, a2, .int x] st z h Q = ni_T d 36 3 [a0, a1, a2, .int x] (.int x :: st) z h Q := ni_T_p rfl rfl
theorem s36_3 : ni_T d 36 3 [a0, a1, .ref o, a3] st z h Q = ni_T d 36 4 [a0, a1, .ref o, a3] (.ref o :: st) z h Q := ni_T_p rfl rfl
theorem s36_3N : ni_T d 36 3 [a0, a1, .null, a3] st z h Q = ni_T d 36 4 [a0, a1, .null, a3] (.null :: st) z h Q := ni_T_p rfl rfl
theorem s36_4 : ni_T (d + 1) 36 4 [a0, a1, a2, a3] (.ref o :: st) z h Q = (ni_rc (h o) 100 = true ∧ Nat.ble (ni_sw st) 8 = true ∧ ni_T d 201 0 [.ref o] [] z h (ni_K (d + 1) 36 7 [a0, a1, a2, a3] st z Q)) := ni_T_ce [.ref o] rfl rfl rfl rfl rfl rfl rfl rfl rfl
theorem s36_7 : ni_T d 36 7 [a0, a1, a2, a3] (.int y :: .int x :: st) z h Q = if y ≤ x then ni_T d 36 34 [a0, a1, a2, a3] st z h Q else ni_T d 36 10 [a0, a1, a2, a3] st z h Q := ni_T_b rfl rfl
theorem s36_10 : ni_T d 36 10 [a0, .ref o, a2, a3] st z h Q = ni_T d 36 11 [a0, .ref o, a2, a3] (.ref o :: st) z h Q := ni_T_p rfl rfl
theorem s36_10N : ni_T d 36 10 [a0, .null, a2, a3] st z h Q = ni_T d 36 11 [a0, .null, a2, a3] (.null :: st) z h Q := ni_T_p rfl rfl
theorem s36_11 : ni_T d 36 11 [.ref o, a1, a2, a3] st z h Q = ni_T d 36 12 [.ref o, a1, a2, a3] (.ref o :: st) z h Q := ni_T_p rfl rfl
theorem s36_12 : ni_T d 36 12 [a0, a1, a2, a3] (.ref o :: st) z h Q = (ni_is (h o) 3 1 = true ∧ ni_T d 36 15 [a0, a1, a2, a3] (ni_gv (h o) 1 :: st) z h Q) := ni_T_getf rfl
theorem s36_15 : ni_T d 36 15 [a0, a1, a2, .int x] st z h Q = ni_T d 36 16 [a0, a1, a2, .int x] (.int x :: st) z h Q := ni_T_p rfl rfl
theorem s36_16 : ni_T d 36 16 [a0, a1, a2, a3] (.int y :: .int x :: st) z h Q = ni_T d 36 17 [a0, a1, a2, a3] (.int (x + y) :: st) z h Q := ni_T_p rfl rfl
theorem s36_17 : ni_T (d + 1) 36 17 [a0, a1, a2, a3] (.int x0 :: .ref o :: st) z h Q = (ni_rc (h o) 4 = true ∧ Nat.ble (ni_sw st) 8 = true ∧ ni_T d 44 0 [.ref o, .int x0] [] z h (ni_K (d + 1) 36 20 [a0, a1, a2, a3] st z Q)) := ni_T_ce [.ref o, .int x0] rfl rfl rfl rfl rfl rfl rfl rfl rfl
theorem s36_20 : ni_T d 36 20 [a0, a1, .ref o, a3] st z h Q = ni_T d 36 21 [a0, a1, .ref o, a3] (.ref o :: st) z h Q := ni_T_p rfl rfl
theorem s36_20N : ni_T d 36 20 [a0, a1, .null, a3] st z h Q = ni_T d 36 21 [a0, a1, .null, a3] (.null :: st) z h Q := ni_T_p rfl rfl
theorem s36_21 : ni_T d 36 21 [a0, a1, a2, .int x] st z h Q = ni_T d 36 22 [a0, a1, a2, .int x] (.int x :: st) z h Q := ni_T_p rfl rfl
theorem s36_22 : ni_T (d + 1) 36 22 [a0, a1, a2, a3] (.int x0 :: .ref o :: st) z h Q = (ni_rc (h o) 100 = true ∧ Nat.ble (ni_sw st) 8 = true ∧ ni_T d 202 0 [.ref o, .int x0] [] z h (ni_K (d + 1) 36 25 [a0, a1, a2, a3] st z Q)) := ni_T_ce [.ref o, .int x0] rfl rfl rfl rfl rfl rfl rfl rfl rfl
theorem s36_25 : ni_T d 36 25 [a0, a1, a2, a3] (.int y :: .int x :: st) z h Q = if x = y then ni_T d 36 28 [a0, a1, a2, a3] st z h Q else ni_T d 36 34 [a0, a1, a2, a3] st z h Q := ni_T_b rfl rfl
theorem s36_28 : ni_T d 36 28 [a0, a1, a2, .int x] st z h Q = ni_T d 36 31 [a0, a1, ni_kl a2, .int (x + 1)] st z h Q := ni_T_p rfl rfl
theorem s36_31 : ni_T d 36 31 [a0, a1, a2, a3] st z h Q = ni_T d 36 2 [a0, a1, a2, a3] st z h Q := ni_T_p rfl rfl
theorem s36_34 : ni_T d 36 34 [a0, a1, a2, .int x] st z h Q = ni_T d 36 35 [a0, a1, a2, .int x] (.int x :: st) z h Q := ni_T_p rfl rfl
theorem s36_35 : ni_T d 36 35 [a0, a1, a2, a3] [.int x] z h Q = Q (some (.int x)) z h := ni_T_i rfl rfl
theorem s37_0 : ni_T d 37 0 [.int x] st z h Q = ni_T d 37 1 [.int x] (.int x :: st) z h Q := ni_T_p rfl rfl
theorem s37_1_0 : ni_T d 37 1 [a0] (.int 0 :: st) z h Q = ni_T d 37 32 [a0] st z h Q := ni_T_p rfl rfl
theorem s37_1_1 : ni_T d 37 1 [a0] (.int 1 :: st) z h Q = ni_T d 37 35 [a0] st z h Q := ni_T_p rfl rfl
theorem s37_1_2 : ni_T d 37 1 [a0] (.int 2 :: st) z h Q = ni_T d 37 38 [a0] st z h Q := ni_T_p rfl rfl
theorem s37_1_3 : ni_T d 37 1 [a0] (.int 3 :: st) z h Q = ni_T d 37 41 [a0] st z h Q := ni_T_p rfl rfl
theorem s37_1_d (hx : x.toInt < 0 ∨ 3 < x.toInt) : ni_T d 37 1 [a0] (.int x :: st) z h Q = ni_T d 37 44 [a0] st z h Q := ni_T_tsw rfl hx (by decide) rfl
theorem s37_32 : ni_T d 37 32 [a0] st z h Q = ni_T d 37 34 [a0] (.ref 1010 :: st) z h Q := ni_T_hse rfl rfl rfl rfl
theorem s37_34 : ni_T d 37 34 [a0] [.ref o] z h Q = Q (some (.ref o)) z h := ni_T_a rfl rfl
theorem s37_34N : ni_T d 37 34 [a0] [.null] z h Q = Q (some .null) z h := ni_T_aN rfl rfl
theorem s37_35 : ni_T d 37 35 [a0] st z h Q = ni_T d 37 37 [a0] (.ref 1011 :: st) z h Q := ni_T_hse rfl rfl rfl rfl
theorem s37_37 : ni_T d 37 37 [a0] [.ref o] z h Q = Q (some (.ref o)) z h := ni_T_a rfl rfl
theorem s37_37N : ni_T d 37 37 [a0] [.null] z h Q = Q (some .null) z h := ni_T_aN rfl rfl
theorem s37_38 : ni_T d 37 38 [a0] st z h Q = ni_T d 37 40 [a0] (.ref 1012 :: st) z h Q := ni_T_hse rfl rfl rfl rfl
theorem s37_40 : ni_T d 37 40 [a0] [.ref o] z h Q = Q (some (.ref o)) z h := ni_T_a rfl rfl
theorem s37_40N : ni_T d 37 40 [a0] [.null] z h Q = Q (some .null) z h := ni_T_aN rfl rfl
theorem s37_41 : ni_T d 37 41 [a0] st z h Q = ni_T d 37 43 [a0] (.ref 1013 :: st) z h Q := ni_T_hse rfl rfl rfl rfl
theorem s37_43 : ni_T d 37 43 [a0] [.ref o] z h Q = Q (some (.ref o)) z h := ni_T_a rfl rfl
theorem s37_43N : ni_T d 37 43 [a0] [.null] z h Q = Q (some .null) z h := ni_T_aN rfl rfl
theorem s37_44 : ni_T d 37 44 [a0] st z h Q = ni_T d 37 46 [a0] (.ref 1014 :: st) z h Q := ni_T_hse rfl rfl rfl rfl
theorem s37_46 : ni_T d 37 46 [a0] [.ref o] z h Q = Q (some (.ref o)) z h := ni_T_a rfl rfl
theorem s37_46N : ni_T d 37 46 [a0] [.null] z h Q = Q (some .null) z h := ni_T_aN rfl rfl
theorem s38_0 : ni_T d 38 0 [.ref o, a1, a2, a3, a4, a5] st z h Q = ni_T d 38 1 [.ref o, a1, a2, a3, a4, a5] (.ref o :: st) z h Q := ni_T_p rfl rfl
theorem s38_1 : ni_T d 38 1 [a0, .ref o, a2, a3, a4, a5] st z h Q = ni_T d 38 2 [a0, .ref o, a2, a3, a4, a5] (.ref o :: st) z h Q := ni_T_p rfl rfl
theorem s38_1N : ni_T d 38 1 [a0, .null, a2, a3, a4, a5] st z h Q = ni_T d 38 2 [a0, .null, a2, a3, a4, a5] (.null :: st) z h Q := ni_T_p rfl rfl
theorem s38_2 : ni_T d 38 2 [a0, a1, a2, a3, a4, a5] st z h Q = ni_T d 38 4 [a0, a1, a2, a3, a4, a5] (.int 32 :: st) z h Q := ni_T_p rfl rfl
theorem s38_4 : ni_T (d + 1) 38 4 [a0, a1, a2, a3, a4, a5] (.int x1 :: .ref o20 :: .ref o :: st) z h Q = (ni_rc (h o) 3 = true ∧ Nat.ble (ni_sw st) 8 = true ∧ ni_T d 39 0 [.ref o, .ref o20, .int x1] [] z h (ni_K (d + 1) 38 7 [a0, a1, a2, a3, a4, a5] st z Q)) := ni_T_ce [.ref o, .ref o20, .int x1] rfl rfl rfl rfl rfl rfl rfl rfl rfl
theorem s38_4N0 : ni_T (d + 1) 38 4 [a0, a1, a2, a3, a4, a5] (.int x1 :: .null :: .ref o :: st) z h Q = (ni_rc (h o) 3 = true ∧ Nat.ble (ni_sw st) 8 = true ∧ ni_T d 39 0 [.ref o, .null, .int x1] [] z h (ni_K (d + 1) 38 7 [a0, a1, a2, a3, a4, a5] st z Q)) := ni_T_ce [.ref o, .null, .int x1] rfl rfl rfl rfl rfl rfl rfl rfl rfl
theorem s38_7 : ni_T d 38 7 [.ref o, a1, a2, a3, a4, a5] st z h Q = ni_T d 38 8 [.ref o, a1, a2, a3, a4, a5] (.ref o :: st) z h Q := ni_T_p rfl rfl
theorem s38_8 : ni_T d 38 8 [a0, a1, a2, a3, a4, a5] (.ref o :: st) z h Q = (ni_is (h o) 3 0 = true ∧ ni_T d 38 11 [a0, a1, a2, a3, a4, a5] (ni_gv (h o) 0 :: st) z h Q) := ni_T_getf rfl
theorem s38_11 : ni_T d 38 11 [a0, a1, a2, a3, a4, a5] st z h Q = ni_T d 38 12 [a0, a1, a2, a3, a4, a5] (.int (-1) :: st) z h Q := ni_T_p rfl rfl
theorem s38_12 : ni_T d 38 12 [a0, a1, a2, a3, a4, a5] (.int y :: .int x :: st) z h Q = if x = y then ni_T d 38 17 [a0, a1, a2, a3, a4, a5] st z h Q else ni_T d 38 15 [a0, a1, a2, a3, a4, a5] st z h Q := ni_T_b rfl rfl
theorem s38_15 : ni_T d 38 15 [a0, a1, a2, a3, a4, a5] st z h Q = ni_T d 38 16 [a0, a1, a2, a3, a4, a5] (.int (-1) :: st) z h Q := ni_T_p rfl rfl
theorem s38_16 : ni_T d 38 16 [a0, a1, a2, a3, a4, a5] [.int x] z h Q = Q (some (.int x)) z h := ni_T_i rfl rfl
theorem s38_17 : ni_T d 38 17 [.ref o, a1, a2, a3, a4, a5] st z h Q = ni_T d 38 18 [.ref o, a1, a2, a3, a4, a5] (.ref o :: st) z h Q := ni_T_p rfl rfl
theorem s38_18 : ni_T d 38 18 [.ref o, a1, a2, a3, a4, a5] st z h Q = ni_T d 38 19 [.ref o, a1, a2, a3, a4, a5] (.ref o :: st) z h Q := ni_T_p rfl rfl
theorem s38_19 : ni_T d 38 19 [a0, a1, a2, a3, a4, a5] (.ref o :: st) z h Q = (ni_is (h o) 3 1 = true ∧ ni_T d 38 22 [a0, a1, a2, a3, a4, a5] (ni_gv (h o) 1 :: st) z h Q) := ni_T_getf rfl
theorem s38_22 : ni_T d 38 22 [a0, a1, a2, a3, a4, a5] (b0 :: .ref o :: st) z h Q = ((Nat.ble 3 7 && ni_is (h o) 3 2 && ni_fit (.int) b0) = true ∧ ni_T d 38 25 [a0, a1, a2, a3, a4, a5] st z (ni_up h o (ni_pv (h o) 2 b0)) Q) := ni_T_putf rfl
theorem s38_25 : ni_T d 38 25 [a0, a1, a2, a3, a4, a5] st z h Q = ni_T d 38 26 [a0, a1, a2, a3, a4, a5] (.int 0 :: st) z h Q := ni_T_p rfl rfl
theorem s38_26 : ni_T d 38 26 [a0, a1, a2, a3, a4, a5] (.int x :: st) z h Q = ni_T d 38 28 [a0, a1, a2, ni_kl a3, .int x, a5] st z h Q := ni_T_p rfl rfl
theorem s38_28 : ni_T d 38 28 [a0, a1, a2, a3, a4, a5] st z h Q = ni_T d 38 29 [a0, a1, a2, a3, a4, a5] (.int 0 :: st) z h Q := ni_T_p rfl rfl
theorem s38_29 : ni_T d 38 29 [a0, a1, a2, a3, a4, a5] (.int x :: st) z h Q = ni_T d 38 31 [a0, a1, a2, a3, ni_kl a4, .int x] st z h Q := ni_T_p rfl rfl
theorem s38_31 : ni_T d 38 31 [a0, a1, a2, a3, a4, .int x] st z h Q = ni_T d 38 33 [a0, a1, a2, a3, a4, .int x] (.int x :: st) z h Q := ni_T_p rfl rfl
theorem s38_33 : ni_T d 38 33 [a0, a1, a2, a3, a4, a5] st z h Q = ni_T d 38 34 [a0, a1, a2, a3, a4, a5] (.int 2 :: st) z h Q := ni_T_p rfl rfl
theorem s38_34 : ni_T d 38 34 [a0, a1, a2, a3, a4, a5] (.int y :: .int x :: st) z h Q = if y ≤ x then ni_T d 38 86 [a0, a1, a2, a3, a4, a5] st z h Q else ni_T d 38 37 [a0, a1, a2, a3, a4, a5] st z h Q := ni_T_b rfl rfl
theorem s38_37 : ni_T d 38 37 [a0, .ref o, a2, a3, a4, a5] st z h Q = ni_T d 38 38 [a0, .ref o, a2, a3, a4, a5] (.ref o :: st) z h Q := ni_T_p rfl rfl
theorem s38_37N : ni_T d 38 37 [a0, .null, a2, a3, a4, a5] st z h Q = ni_T d 38 38 [a0, .null, a2, a3, a4, a5] (.null :: st) z h Q := ni_T_p rfl rfl
theorem s38_38 : ni_T d 38 38 [.ref o, a1, a2, a3, a4, a5] st z h Q = ni_T d 38 39 [.ref o, a1, a2, a3, a4, a5] (.ref o :: st) z h Q := ni_T_p rfl rfl
theorem s38_39 : ni_T d 38 39 [a0, a1, a2, a3, a4, a5] (.ref o :: st) z h Q = (ni_is (h o) 3 1 = true ∧ ni_T d 38 42 [a0, a1, a2, a3, a4, a5] (ni_gv (h o) 1 :: st) z h Q) := ni_T_getf rfl
theorem s38_42 : ni_T (d + 1) 38 42 [a0, a1, a2, a3, a4, a5] (.int x0 :: .ref o :: st) z h Q = (ni_rc (h o) 4 = true ∧ Nat.ble (ni_sw st) 8 = true ∧ ni_T d 44 0 [.ref o, .int x0] [] z h (ni_K (d + 1) 38 45 [a0, a1, a2, a3, a4, a5] st z Q)) := ni_T_ce [.ref o, .int x0] rfl rfl rfl rfl rfl rfl rfl rfl rfl
theorem s38_45 : ni_T (d + 1) 38 45 [a0, a1, a2, a3, a4, a5] (.int x0 :: st) z h Q = (Nat.ble (ni_sw st) 8 = true ∧ ni_T d 40 0 [.int x0] [] z h (ni_K (d + 1) 38 48 [a0, a1, a2, a3, a4, a5] st z Q)) := ni_T_cse [.int x0] rfl rfl rfl rfl rfl rfl rfl rfl rfl
theorem s38_48 : ni_T d 38 48 [a0, a1, a2, a3, a4, a5] (.int x :: st) z h Q = if x = 0 then ni_T d 38 86 [a0, a1, a2, a3, a4, a5] st z h Q else ni_T d 38 51 [a0, a1, a2, a3, a4, a5] st z h Q := ni_T_b rfl rfl
theorem s38_51 : ni_T d 38 51 [a0, a1, a2, a3, a4, a5] st z h Q = ni_T d 38 53 [a0, a1, a2, a3, a4, a5] (.int 10 :: st) z h Q := ni_T_p rfl rfl
theorem s38_53 : ni_T d 38 53 [a0, a1, a2, a3, .int x, a5] st z h Q = ni_T d 38 55 [a0, a1, a2, a3, .int x, a5] (.int x :: st) z h Q := ni_T_p rfl rfl
theorem s38_55 : ni_T d 38 55 [a0, a1, a2, a3, a4, a5] (.int y :: .int x :: st) z h Q = ni_T d 38 56 [a0, a1, a2, a3, a4, a5] (.int (x * y) :: st) z h Q := ni_T_p rfl rfl
theorem s38_56 : ni_T d 38 56 [a0, .ref o, a2, a3, a4, a5] st z h Q = ni_T d 38 57 [a0, .ref o, a2, a3, a4, a5] (.ref o :: st) z h Q := ni_T_p rfl rfl
theorem s38_56N : ni_T d 38 56 [a0, .null, a2, a3, a4, a5] st z h Q = ni_T d 38 57 [a0, .null, a2, a3, a4, a5] (.null :: st) z h Q := ni_T_p rfl rfl
theorem s38_57 : ni_T d 38 57 [.ref o, a1, a2, a3, a4, a5] st z h Q = ni_T d 38 58 [.ref o, a1, a2, a3, a4, a5] (.ref o :: st) z h Q := ni_T_p rfl rfl
theorem s38_58 : ni_T d 38 58 [a0, a1, a2, a3, a4, a5] (.ref o :: st) z h Q = (ni_is (h o) 3 1 = true ∧ ni_T d 38 61 [a0, a1, a2, a3, a4, a5] (ni_gv (h o) 1 :: st) z h Q) := ni_T_getf rfl
theorem s38_61 : ni_T (d + 1) 38 61 [a0, a1, a2, a3, a4, a5] (.int x0 :: .ref o :: st) z h Q = (ni_rc (h o) 4 = true ∧ Nat.ble (ni_sw st) 8 = true ∧ ni_T d 44 0 [.ref o, .int x0] [] z h (ni_K (d + 1) 38 64 [a0, a1, a2, a3, a4, a5] st z Q)) := ni_T_ce [.ref o, .int x0] rfl rfl rfl rfl rfl rfl rfl rfl rfl
theorem s38_64 : ni_T d 38 64 [a0, a1, a2, a3, a4, a5] (.int y :: .int x :: st) z h Q = ni_T d 38 65 [a0, a1, a2, a3, a4, a5] (.int (x + y) :: st) z h Q := ni_T_p rfl rfl
theorem s38_65 : ni_T d 38 65 [a0, a1, a2, a3, a4, a5] st z h Q = ni_T d 38 67 [a0, a1, a2, a3, a4, a5] (.int 48 :: st) z h Q := ni_T_p rfl rfl
theorem s38_67 : ni_T d 38 67 [a0, a1, a2, a3, a4, a5] (.int y :: .int x :: st) z h Q = ni_T d 38 68 [a0, a1, a2, a3, a4, a5] (.int (x - y) :: st) z h Q := ni_T_p rfl rfl
theorem s38_68 : ni_T d 38 68 [a0, a1, a2, a3, a4, a5] (.int x :: st) z h Q = ni_T d 38 70 [a0, a1, a2, ni_kl a3, .int x, a5] st z h Q := ni_T_p rfl rfl
theorem s38_70 : ni_T d 38 70 [.ref o, a1, a2, a3, a4, a5] st z h Q = ni_T d 38 71 [.ref o, a1, a2, a3, a4, a5] (.ref o :: st) z h Q := ni_T_p rfl rfl
theorem s38_71 : ni_T d 38 71 [a0, a1, a2, a3, a4, a5] (.ref o :: st) z h Q = ni_T d 38 72 [a0, a1, a2, a3, a4, a5] (.ref o :: .ref o :: st) z h Q := ni_T_p rfl rfl
theorem s38_71i : ni_T d 38 71 [a0, a1, a2, a3, a4, a5] (.int x :: st) z h Q = ni_T d 38 72 [a0, a1, a2, a3, a4, a5] (.int x :: .int x :: st) z h Q := ni_T_p rfl rfl
theorem s38_72 : ni_T d 38 72 [a0, a1, a2, a3, a4, a5] (.ref o :: st) z h Q = (ni_is (h o) 3 1 = true ∧ ni_T d 38 75 [a0, a1, a2, a3, a4, a5] (ni_gv (h o) 1 :: st) z h Q) := ni_T_getf rfl
theorem s38_75 : ni_T d 38 75 [a0, a1, a2, a3, a4, a5] st z h Q = ni_T d 38 76 [a0, a1, a2, a3, a4, a5] (.int 1 :: st) z h Q := ni_T_p rfl rfl
theorem s38_76 : ni_T d 38 76 [a0, a1, a2, a3, a4, a5] (.int y :: .int x :: st) z h Q = ni_T d 38 77 [a0, a1, a2, a3, a4, a5] (.int (x + y) :: st) z h Q := ni_T_p rfl rfl
theorem s38_77 : ni_T d 38 77 [a0, a1, a2, a3, a4, a5] (b0 :: .ref o :: st) z h Q = ((Nat.ble 3 7 && ni_is (h o) 3 1 && ni_fit (.int) b0) = true ∧ ni_T d 38 80 [a0, a1, a2, a3, a4, a5] st z (ni_up h o (ni_pv (h o) 1 b0)) Q) := ni_T_putf rfl
theorem s38_80 : ni_T d 38 80 [a0, a1, a2, a3, a4, .int x] st z h Q = ni_T d 38 83 [a0, a1, a2, a3, ni_kl a4, .int (x + 1)] st z h Q := ni_T_p rfl rfl
theorem s38_83 : ni_T d 38 83 [a0, a1, a2, a3, a4, a5] st z h Q = ni_T d 38 31 [a0, a1, a2, a3, a4, a5] st z h Q := ni_T_p rfl rfl
theorem s38_86 : ni_T d 38 86 [.ref o, a1, a2, a3, a4, a5] st z h Q = ni_T d 38 87 [.ref o, a1, a2, a3, a4, a5] (.ref o :: st) z h Q := ni_T_p rfl rfl
theorem s38_87 : ni_T d 38 87 [a0, a1, a2, a3, a4, a5] (.ref o :: st) z h Q = (ni_is (h o) 3 1 = true ∧ ni_T d 38 90 [a0, a1, a2, a3, a4, a5] (ni_gv (h o) 1 :: st) z h Q) := ni_T_getf rfl
theorem s38_90 : ni_T d 38 90 [.ref o, a1, a2, a3, a4, a5] st z h Q = ni_T d 38 91 [.ref o, a1, a2, a3, a4, a5] (.ref o :: st) z h Q := ni_T_p rfl rfl
theorem s38_91 : ni_T d 38 91 [a0, a1, a2, a3, a4, a5] (.ref o :: st) z h Q = (ni_is (h o) 3 2 = true ∧ ni_T d 38 94 [a0, a1, a2, a3, a4, a5] (ni_gv (h o) 2 :: st) z h Q) := ni_T_getf rfl
theorem s38_94 : ni_T d 38 94 [a0, a1, a2, a3, a4, a5] (.int y :: .int x :: st) z h Q = if x = y then ni_T d 38 109 [a0, a1, a2, a3, a4, a5] st z h Q else ni_T d 38 97 [a0, a1, a2, a3, a4, a5] st z h Q := ni_T_b rfl rfl
theorem s38_97 : ni_T d 38 97 [a0, a1, a2, a3, .int x, a5] st z h Q = ni_T d 38 99 [a0, a1, a2, a3, .int x, a5] (.int x :: st) z h Q := ni_T_p rfl rfl
theorem s38_99 : ni_T d 38 99 [a0, a1, .int x, a3, a4, a5] st z h Q = ni_T d 38 100 [a0, a1, .int x, a3, a4, a5] (.int x :: st) z h Q := ni_T_p rfl rfl
theorem s38_100 : ni_T d 38 100 [a0, a1, a2, a3, a4, a5] (.int y :: .int x :: st) z h Q = if x < y then ni_T d 38 109 [a0, a1, a2, a3, a4, a5] st z h Q else ni_T d 38 103 [a0, a1, a2, a3, a4, a5] st z h Q := ni_T_b rfl rfl
theorem s38_103 : ni_T d 38 103 [a0, a1, a2, a3, .int x, a5] st z h Q = ni_T d 38 105 [a0, a1, a2, a3, .int x, a5] (.int x :: st) z h Q := ni_T_p rfl rfl
theorem s38_105 : ni_T d 38 105 [a0, a1, a2, .int x, a4, a5] st z h Q = ni_T d 38 106 [a0, a1, a2, .int x, a4, a5] (.int x :: st) z h Q := ni_T_p rfl rfl
theorem s38_106 : ni_T d 38 106 [a0, a1, a2, a3, a4, a5] (.int y :: .int x :: st) z h Q = if x ≤ y then ni_T d 38 117 [a0, a1, a2, a3, a4, a5] st z h Q else ni_T d 38 109 [a0, a1, a2, a3, a4, a5] st z h Q := ni_T_b rfl rfl
theorem s38_109 : ni_T d 38 109 [.ref o, a1, a2, a3, a4, a5] st z h Q = ni_T d 38 110 [.ref o, a1, a2, a3, a4, a5] (.ref o :: st) z h Q := ni_T_p rfl rfl
theorem s38_110 : ni_T d 38 110 [.ref o, a1, a2, a3, a4, a5] st z h Q = ni_T d 38 111 [.ref o, a1, a2, a3, a4, a5] (.ref o :: st) z h Q := ni_T_p rfl rfl
theorem s38_111 : ni_T d 38 111 [a0, a1, a2, a3, a4, a5] (.ref o :: st) z h Q = (ni_is (h o) 3 2 = true ∧ ni_T d 38 114 [a0, a1, a2, a3, a4, a5] (ni_gv (h o) 2 :: st) z h Q) := ni_T_getf rfl
theorem s38_114 : ni_T d 38 114 [a0, a1, a2, a3, a4, a5] (b0 :: .ref o :: st) z h Q = ((Nat.ble 3 7 && ni_is (h o) 3 0 && ni_fit (.int) b0) = true ∧ ni_T d 38 117 [a0, a1, a2, a3, a4, a5] st z (ni_up h o (ni_pv (h o) 0 b0)) Q) := ni_T_putf rfl
theorem s38_117 : ni_T d 38 117 [a0, a1, a2, a3, .int x, a5] st z h Q = ni_T d 38 119 [a0, a1, a2, a3, .int x, a5] (.int x :: st) z h Q := ni_T_p rfl rfl
theorem s38_119 : ni_T d 38 119 [a0, a1, a2, a3, a4, a5] [.int x] z h Q = Q (some (.int x)) z h := ni_T_i rfl rfl
theorem s39_0 : ni_T d 39 0 [.ref o, a1, a2] st z h Q = ni_T d 39 1 [.ref o, a1, a2] (.ref o :: st) z h Q := ni_T_p rfl rfl
theorem s39_1 : ni_T d 39 1 [a0, a1, a2] (.ref o :: st) z h Q = (ni_is (h o) 3 0 = true ∧ ni_T d 39 4 [a0, a1, a2] (ni_gv (h o) 0 :: st) z h Q) := ni_T_getf rfl
theorem s39_4 : ni_T d 39 4 [a0, a1, a2] st z h Q = ni_T d 39 5 [a0, a1, a2] (.int (-1) :: st) z h Q := ni_T_p rfl rfl
theorem s39_5 : ni_T d 39 5 [a0, a1, a2] (.int y :: .int x :: st) z h Q = if x = y then ni_T d 39 9 [a0, a1, a2] st z h Q else ni_T d 39 8 [a0, a1, a2] st z h Q := ni_T_b rfl rfl
theorem s39_8 : ni_T d 39 8 [a0, a1, a2] [] z h Q = Q none z h := ni_T_v rfl rfl
theorem s39_9 : ni_T d 39 9 [a0, .ref o, a2] st z h Q = ni_T d 39 10 [a0, .ref o, a2] (.ref o :: st) z h Q := ni_T_p rfl rfl
theorem s39_9N : ni_T d 39 9 [a0, .null, a2] st z h Q = ni_T d 39 10 [a0, .null, a2] (.null :: st) z h Q := ni_T_p rfl rfl
theorem s39_10 : ni_T d 39 10 [.ref o, a1, a2] st z h Q = ni_T d 39 11 [.ref o, a1, a2] (.ref o :: st) z h Q := ni_T_p rfl rfl
theorem s39_11 : ni_T d 39 11 [a0, a1, a2] (.ref o :: st) z h Q = (ni_is (h o) 3 1 = true ∧ ni_T d 39 14 [a0, a1, a2] (ni_gv (h o) 1 :: st) z h Q) := ni_T_getf rfl
theorem s39_14 : ni_T (d + 1) 39 14 [a0, a1, a2] (.int x0 :: .ref o :: st) z h Q = (ni_rc (h o) 4 = true ∧ Nat.ble (ni_sw st) 8 = true ∧ ni_T d 44 0 [.ref o, .int x0] [] z h (ni_K (d + 1) 39 17 [a0, a1, a2] st z Q)) := ni_T_ce [.ref o, .int x0] rfl rfl rfl rfl rfl rfl rfl rfl rfl
theorem s39_17 : ni_T d 39 17 [a0, a1, .int x] st z h Q = ni_T d 39 18 [a0, a1, .int x] (.int x :: st) z h Q := ni_T_p rfl rfl
theorem s39_18 : ni_T d 39 18 [a0, a1, a2] (.int y :: .int x :: st) z h Q = if x = y then ni_T d 39 21 [a0, a1, a2] st z h Q else ni_T d 39 34 [a0, a1, a2] st z h Q := ni_T_b rfl rfl
theorem s39_21 : ni_T d 39 21 [.ref o, a1, a2] st z h Q = ni_T d 39 22 [.ref o, a1, a2] (.ref o :: st) z h Q := ni_T_p rfl rfl
theorem s39_22 : ni_T d 39 22 [a0, a1, a2] (.ref o :: st) z h Q = ni_T d 39 23 [a0, a1, a2] (.ref o :: .ref o :: st) z h Q := ni_T_p rfl rfl
theorem s39_22i : ni_T d 39 22 [a0, a1, a2] (.int x :: st) z h Q = ni_T d 39 23 [a0, a1, a2] (.int x :: .int x :: st) z h Q := ni_T_p rfl rfl
theorem s39_23 : ni_T d 39 23 [a0, a1, a2] (.ref o :: st) z h Q = (ni_is (h o) 3 1 = true ∧ ni_T d 39 26 [a0, a1, a2] (ni_gv (h o) 1 :: st) z h Q) := ni_T_getf rfl
theorem s39_26 : ni_T d 39 26 [a0, a1, a2] st z h Q = ni_T d 39 27 [a0, a1, a2] (.int 1 :: st) z h Q := ni_T_p rfl rfl
theorem s39_27 : ni_T d 39 27 [a0, a1, a2] (.int y :: .int x :: st) z h Q = ni_T d 39 28 [a0, a1, a2] (.int (x + y) :: st) z h Q := ni_T_p rfl rfl
theorem s39_28 : ni_T d 39 28 [a0, a1, a2] (b0 :: .ref o :: st) z h Q = ((Nat.ble 3 7 && ni_is (h o) 3 1 && ni_fit (.int) b0) = true ∧ ni_T d 39 31 [a0, a1, a2] st z (ni_up h o (ni_pv (h o) 1 b0)) Q) := ni_T_putf rfl
theorem s39_31 : ni_T d 39 31 [a0, a1, a2] st z h Q = ni_T d 39 42 [a0, a1, a2] st z h Q := ni_T_p rfl rfl
theorem s39_34 : ni_T d 39 34 [.ref o, a1, a2] st z h Q = ni_T d 39 35 [.ref o, a1, a2] (.ref o :: st) z h Q := ni_T_p rfl rfl
theorem s39_35 : ni_T d 39 35 [.ref o, a1, a2] st z h Q = ni_T d 39 36 [.ref o, a1, a2] (.ref o :: st) z h Q := ni_T_p rfl rfl
theorem s39_36 : ni_T d 39 36 [a0, a1, a2] (.ref o :: st) z h Q = (ni_is (h o) 3 1 = true ∧ ni_T d 39 39 [a0, a1, a2] (ni_gv (h o) 1 :: st) z h Q) := ni_T_getf rfl
theorem s39_39 : ni_T d 39 39 [a0, a1, a2] (b0 :: .ref o :: st) z h Q = ((Nat.ble 3 7 && ni_is (h o) 3 0 && ni_fit (.int) b0) = true ∧ ni_T d 39 42 [a0, a1, a2] st z (ni_up h o (ni_pv (h o) 0 b0)) Q) := ni_T_putf rfl
theorem s39_42 : ni_T d 39 42 [a0, a1, a2] [] z h Q = Q none z h := ni_T_v rfl rfl
theorem s40_0 : ni_T d 40 0 [.int x] st z h Q = ni_T d 40 1 [.int x] (.int x :: st) z h Q := ni_T_p rfl rfl
theorem s40_1 : ni_T d 40 1 [a0] st z h Q = ni_T d 40 3 [a0] (.int 48 :: st) z h Q := ni_T_p rfl rfl
theorem s40_3 : ni_T d 40 3 [a0] (.int y :: .int x :: st) z h Q = if x < y then ni_T d 40 16 [a0] st z h Q else ni_T d 40 6 [a0] st z h Q := ni_T_b rfl rfl
theorem s40_6 : ni_T d 40 6 [.int x] st z h Q = ni_T d 40 7 [.int x] (.int x :: st) z h Q := ni_T_p rfl rfl
theorem s40_7 : ni_T d 40 7 [a0] st z h Q = ni_T d 40 9 [a0] (.int 57 :: st) z h Q := ni_T_p rfl rfl
theorem s40_9 : ni_T d 40 9 [a0] (.int y :: .int x :: st) z h Q = if y < x then ni_T d 40 16 [a0] st z h Q else ni_T d 40 12 [a0] st z h Q := ni_T_b rfl rfl
theorem s40_12 : ni_T d 40 12 [a0] st z h Q = ni_T d 40 13 [a0] (.int 1 :: st) z h Q := ni_T_p rfl rfl
theorem s40_13 : ni_T d 40 13 [a0] st z h Q = ni_T d 40 17 [a0] st z h Q := ni_T_p rfl rfl
theorem s40_16 : ni_T d 40 16 [a0] st z h Q = ni_T d 40 17 [a0] (.int 0 :: st) z h Q := ni_T_p rfl rfl
theorem s40_17 : ni_T d 40 17 [a0] [.int x] z h Q = (narrow .boolean (.int x) = .int x ∧ Q (some (.int x)) z h) := ni_T_z rfl rfl
theorem s41_0 : ni_T d 41 0 [.ref o] st z h Q = ni_T d 41 1 [.ref o] (.ref o :: st) z h Q := ni_T_p rfl rfl
theorem s41_1 : ni_T (d + 1) 41 1 [a0] (.ref o :: st) z h Q = (Nat.ble (ni_sw st) 8 = true ∧ ni_T (d + 1) 41 4 [a0] st z h Q) := ni_T_oic rfl rfl
theorem s41_4 : ni_T d 41 4 [.ref o] st z h Q = ni_T d 41 5 [.ref o] (.ref o :: st) z h Q := ni_T_p rfl rfl
theorem s41_5 : ni_T d 41 5 [a0] st z h Q = ni_T d 41 8 [a0] (.int 160 :: st) z h Q := ni_T_p rfl rfl
theorem s41_8 : ni_T d 41 8 [a0] (.int x :: st) z h Q = ((ni_ok z.1 [a0] st h && Nat.ble (z.1 + 1) 900 && !decide (x < 0) && Nat.ble x.toNatClampNeg 65536) = true ∧ ni_T d 41 10 [a0] (.ref z.1 :: st) (z.1 + 1, z.2 + x.toNatClampNeg) (ni_up h z.1 (.inl (1, x.toNatClampNeg, .inr (.inl (fun _ => 0))))) Q) := ni_T_ne rfl rfl rfl rfl rfl rfl rfl
theorem s41_10 : ni_T d 41 10 [a0] (b0 :: .ref o :: st) z h Q = ((Nat.ble 4 7 && ni_is (h o) 4 0 && ni_fit (.array .long) b0) = true ∧ ni_T d 41 13 [a0] st z (ni_up h o (ni_pv (h o) 0 b0)) Q) := ni_T_putf rfl
theorem s41_13 : ni_T d 41 13 [.ref o] st z h Q = ni_T d 41 14 [.ref o] (.ref o :: st) z h Q := ni_T_p rfl rfl
theorem s41_14 : ni_T d 41 14 [a0] st z h Q = ni_T d 41 15 [a0] (.int 0 :: st) z h Q := ni_T_p rfl rfl
theorem s41_15 : ni_T d 41 15 [a0] (b0 :: .ref o :: st) z h Q = ((Nat.ble 4 7 && ni_is (h o) 4 1 && ni_fit (.int) b0) = true ∧ ni_T d 41 18 [a0] st z (ni_up h o (ni_pv (h o) 1 b0)) Q) := ni_T_putf rfl
theorem s41_18 : ni_T d 41 18 [.ref o] st z h Q = ni_T d 41 19 [.ref o] (.ref o :: st) z h Q := ni_T_p rfl rfl
theorem s41_19 : ni_T d 41 19 [a0] st z h Q = ni_T d 41 20 [a0] (.int (-1) :: st) z h Q := ni_T_p rfl rfl
theorem s41_20 : ni_T d 41 20 [a0] (b0 :: .ref o :: st) z h Q = ((Nat.ble 4 7 && ni_is (h o) 4 2 && ni_fit (.int) b0) = true ∧ ni_T d 41 23 [a0] st z (ni_up h o (ni_pv (h o) 2 b0)) Q) := ni_T_putf rfl
theorem s41_23 : ni_T d 41 23 [.ref o] st z h Q = ni_T d 41 24 [.ref o] (.ref o :: st) z h Q := ni_T_p rfl rfl
theorem s41_24 : ni_T d 41 24 [a0] st z h Q = ni_T d 41 25 [a0] (.int 0 :: st) z h Q := ni_T_p rfl rfl
theorem s41_25 : ni_T d 41 25 [a0] (b0 :: .ref o :: st) z h Q = ((Nat.ble 4 7 && ni_is (h o) 4 3 && ni_fit (.int) b0) = true ∧ ni_T d 41 28 [a0] st z (ni_up h o (ni_pv (h o) 3 b0)) Q) := ni_T_putf rfl
theorem s41_28 : ni_T d 41 28 [.ref o] st z h Q = ni_T d 41 29 [.ref o] (.ref o :: st) z h Q := ni_T_p rfl rfl
theorem s41_29 : ni_T d 41 29 [a0] st z h Q = ni_T d 41 30 [a0] (.int 0 :: st) z h Q := ni_T_p rfl rfl
theorem s41_30 : ni_T d 41 30 [a0] (b0 :: .ref o :: st) z h Q = ((Nat.ble 4 7 && ni_is (h o) 4 4 && ni_fit (.int) b0) = true ∧ ni_T d 41 33 [a0] st z (ni_up h o (ni_pv (h o) 4 b0)) Q) := ni_T_putf rfl
theorem s41_33 : ni_T d 41 33 [a0] [] z h Q = Q none z h := ni_T_v rfl rfl
theorem s42_0 : ni_T d 42 0 [.ref o, a1, a2] st z h Q = ni_T d 42 1 [.ref o, a1, a2] (.ref o :: st) z h Q := ni_T_p rfl rfl
theorem s42_1 : ni_T d 42 1 [a0, a1, a2] st z h Q = ni_T d 42 2 [a0, a1, a2] (.int 1 :: st) z h Q := ni_T_p rfl rfl
theorem s42_2 : ni_T d 42 2 [a0, a1, a2] (b0 :: .ref o :: st) z h Q = ((Nat.ble 4 7 && ni_is (h o) 4 1 && ni_fit (.int) b0) = true ∧ ni_T d 42 5 [a0, a1, a2] st z (ni_up h o (ni_pv (h o) 1 b0)) Q) := ni_T_putf rfl
theorem s42_5 : ni_T d 42 5 [.ref o, a1, a2] st z h Q = ni_T d 42 6 [.ref o, a1, a2] (.ref o :: st) z h Q := ni_T_p rfl rfl
theorem s42_6 : ni_T d 42 6 [a0, .int x, a2] st z h Q = ni_T d 42 7 [a0, .int x, a2] (.int x :: st) z h Q := ni_T_p rfl rfl
theorem s42_7 : ni_T d 42 7 [a0, a1, a2] (b0 :: .ref o :: st) z h Q = ((Nat.ble 4 7 && ni_is (h o) 4 3 && ni_fit (.int) b0) = true ∧ ni_T d 42 10 [a0, a1, a2] st z (ni_up h o (ni_pv (h o) 3 b0)) Q) := ni_T_putf rfl
theorem s42_10 : ni_T d 42 10 [.ref o, a1, a2] st z h Q = ni_T d 42 11 [.ref o, a1, a2] (.ref o :: st) z h Q := ni_T_p rfl rfl
theorem s42_11 : ni_T d 42 11 [a0, a1, .int x] st z h Q = ni_T d 42 12 [a0, a1, .int x] (.int x :: st) z h Q := ni_T_p rfl rfl
theorem s42_12 : ni_T d 42 12 [a0, a1, a2] (b0 :: .ref o :: st) z h Q = ((Nat.ble 4 7 && ni_is (h o) 4 4 && ni_fit (.int) b0) = true ∧ ni_T d 42 15 [a0, a1, a2] st z (ni_up h o (ni_pv (h o) 4 b0)) Q) := ni_T_putf rfl
theorem s42_15 : ni_T d 42 15 [.ref o, a1, a2] st z h Q = ni_T d 42 16 [.ref o, a1, a2] (.ref o :: st) z h Q := ni_T_p rfl rfl
theorem s42_16 : ni_T d 42 16 [a0, a1, a2] (.ref o :: st) z h Q = (ni_is (h o) 4 0 = true ∧ ni_T d 42 19 [a0, a1, a2] (ni_gv (h o) 0 :: st) z h Q) := ni_T_getf rfl
theorem s42_19 : ni_T d 42 19 [a0, a1, a2] st z h Q = ni_T d 42 20 [a0, a1, a2] (.long 0 :: st) z h Q := ni_T_p rfl rfl
theorem s42_20 : ni_T (d + 1) 42 20 [a0, a1, a2] (.long u1 :: .ref o20 :: st) z h Q = (Nat.ble (ni_sw st) 8 = true ∧ ni_T d 208 0 [.ref o20, .long u1, .retAddr 1, .retAddr 0, .retAddr 0] [] z h (ni_K (d + 1) 42 23 [a0, a1, a2] st z Q)) := ni_T_cse [.ref o20, .long u1] rfl rfl rfl rfl rfl rfl rfl rfl rfl
theorem s42_20N0 : ni_T (d + 1) 42 20 [a0, a1, a2] (.long u1 :: .null :: st) z h Q = (Nat.ble (ni_sw st) 8 = true ∧ ni_T d 208 0 [.null, .long u1, .retAddr 1, .retAddr 0, .retAddr 0] [] z h (ni_K (d + 1) 42 23 [a0, a1, a2] st z Q)) := ni_T_cse [.null, .long u1] rfl rfl rfl rfl rfl rfl rfl rfl rfl
theorem s42_23 : ni_T d 42 23 [a0, a1, a2] [] z h Q = Q none z h := ni_T_v rfl rfl
theorem s43_0 : ni_T d 43 0 [.ref o, a1, a2, a3] st z h Q = ni_T d 43 1 [.ref o, a1, a2, a3] (.ref o :: st) z h Q := ni_T_p rfl rfl
theorem s43_1 : ni_T d 43 1 [a0, a1, a2, a3] (.ref o :: st) z h Q = (ni_is (h o) 4 3 = true ∧ ni_T d 43 4 [a0, a1, a2, a3] (ni_gv (h o) 3 :: st) z h Q) := ni_T_getf rfl
theorem s43_4_0 : ni_T d 43 4 [a0, a1, a2, a3] (.int 0 :: st) z h Q = ni_T d 43 32 [a0, a1, a2, a3] st z h Q := ni_T_p rfl rfl
theorem s43_4_1 : ni_T d 43 4 [a0, a1, a2, a3] (.int 1 :: st) z h Q = ni_T d 43 45 [a0, a1, a2, a3] st z h Q := ni_T_p rfl rfl
theorem s43_4_2 : ni_T d 43 4 [a0, a1, a2, a3] (.int 2 :: st) z h Q = ni_T d 43 58 [a0, a1, a2, a3] st z h Q := ni_T_p rfl rfl
theorem s43_4_d (hx : x.toInt < 0 ∨ 2 < x.toInt) : ni_T d 43 4 [a0, a1, a2, a3] (.int x :: st) z h Q = ni_T d 43 70 [a0, a1, a2, a3] st z h Q := ni_T_tsw rfl hx (by decide) rfl
theorem s43_32 : ni_T d 43 32 [.ref o, a1, a2, a3] st z h Q = ni_T d 43 33 [.ref o, a1, a2, a3] (.ref o :: st) z h Q := ni_T_p rfl rfl
theorem s43_33 : ni_T d 43 33 [a0, a1, a2, a3] (.ref o :: st) z h Q = (ni_is (h o) 4 0 = true ∧ ni_T d 43 36 [a0, a1, a2, a3] (ni_gv (h o) 0 :: st) z h Q) := ni_T_getf rfl
theorem s43_36 : ni_T d 43 36 [a0, .int x, a2, a3] st z h Q = ni_T d 43 37 [a0, .int x, a2, a3] (.int x :: st) z h Q := ni_T_p rfl rfl
theorem s43_37 : ni_T d 43 37 [a0, a1, .long u, a3] st z h Q = ni_T d 43 38 [a0, a1, .long u, a3] (.long u :: st) z h Q := ni_T_p rfl rfl
theorem s43_38 : ni_T d 43 38 [a0, a1, a2, a3] (.long u :: st) z h Q = ni_T d 43 39 [a0, a1, a2, a3] (.int u.toInt32 :: st) z h Q := ni_T_p rfl rfl
theorem s43_39 : ni_T d 43 39 [a0, a1, a2, a3] (.int x :: st) z h Q = ni_T d 43 40 [a0, a1, a2, a3] (.int x.toInt8.toInt32 :: st) z h Q := ni_T_p rfl rfl
theorem s43_40 : ni_T d 43 40 [a0, a1, a2, a3] (.int x :: st) z h Q = ni_T d 43 41 [a0, a1, a2, a3] (.long x.toInt64 :: st) z h Q := ni_T_p rfl rfl
theorem s43_41 : ni_T d 43 41 [a0, a1, a2, a3] (.long u :: .int x :: .ref o :: st) z h Q = (ni_okL (h o) x = true ∧ ni_T d 43 42 [a0, a1, a2, a3] st z (ni_up h o (ni_pl (h o) x u)) Q) := ni_T_last rfl
theorem s43_42 : ni_T d 43 42 [a0, a1, a2, a3] st z h Q = ni_T d 43 77 [a0, a1, a2, a3] st z h Q := ni_T_p rfl rfl
theorem s43_45 : ni_T d 43 45 [.ref o, a1, a2, a3] st z h Q = ni_T d 43 46 [.ref o, a1, a2, a3] (.ref o :: st) z h Q := ni_T_p rfl rfl
theorem s43_46 : ni_T d 43 46 [a0, a1, a2, a3] (.ref o :: st) z h Q = (ni_is (h o) 4 0 = true ∧ ni_T d 43 49 [a0, a1, a2, a3] (ni_gv (h o) 0 :: st) z h Q) := ni_T_getf rfl
theorem s43_49 : ni_T d 43 49 [a0, .int x, a2, a3] st z h Q = ni_T d 43 50 [a0, .int x, a2, a3] (.int x :: st) z h Q := ni_T_p rfl rfl
theorem s43_50 : ni_T d 43 50 [a0, a1, .long u, a3] st z h Q = ni_T d 43 51 [a0, a1, .long u, a3] (.long u :: st) z h Q := ni_T_p rfl rfl
theorem s43_51 : ni_T d 43 51 [a0, a1, a2, a3] (.long u :: st) z h Q = ni_T d 43 52 [a0, a1, a2, a3] (.int u.toInt32 :: st) z h Q := ni_T_p rfl rfl
theorem s43_52 : ni_T d 43 52 [a0, a1, a2, a3] (.int x :: st) z h Q = ni_T d 43 53 [a0, a1, a2, a3] (.int x.toInt16.toInt32 :: st) z h Q := ni_T_p rfl rfl
theorem s43_53 : ni_T d 43 53 [a0, a1, a2, a3] (.int x :: st) z h Q = ni_T d 43 54 [a0, a1, a2, a3] (.long x.toInt64 :: st) z h Q := ni_T_p rfl rfl
theorem s43_54 : ni_T d 43 54 [a0, a1, a2, a3] (.long u :: .int x :: .ref o :: st) z h Q = (ni_okL (h o) x = true ∧ ni_T d 43 55 [a0, a1, a2, a3] st z (ni_up h o (ni_pl (h o) x u)) Q) := ni_T_last rfl
theorem s43_55 : ni_T d 43 55 [a0, a1, a2, a3] st z h Q = ni_T d 43 77 [a0, a1, a2, a3] st z h Q := ni_T_p rfl rfl
theorem s43_58 : ni_T d 43 58 [.ref o, a1, a2, a3] st z h Q = ni_T d 43 59 [.ref o, a1, a2, a3] (.ref o :: st) z h Q := ni_T_p rfl rfl
theorem s43_59 : ni_T d 43 59 [a0, a1, a2, a3] (.ref o :: st) z h Q = (ni_is (h o) 4 0 = true ∧ ni_T d 43 62 [a0, a1, a2, a3] (ni_gv (h o) 0 :: st) z h Q) := ni_T_getf rfl
theorem s43_62 : ni_T d 43 62 [a0, .int x, a2, a3] st z h Q = ni_T d 43 63 [a0, .int x, a2, a3] (.int x :: st) z h Q := ni_T_p rfl rfl
theorem s43_63 : ni_T d 43 63 [a0, a1, .long u, a3] st z h Q = ni_T d 43 64 [a0, a1, .long u, a3] (.long u :: st) z h Q := ni_T_p rfl rfl
theorem s43_64 : ni_T d 43 64 [a0, a1, a2, a3] (.long u :: st) z h Q = ni_T d 43 65 [a0, a1, a2, a3] (.int u.toInt32 :: st) z h Q := ni_T_p rfl rfl
theorem s43_65 : ni_T d 43 65 [a0, a1, a2, a3] (.int x :: st) z h Q = ni_T d 43 66 [a0, a1, a2, a3] (.long x.toInt64 :: st) z h Q := ni_T_p rfl rfl
theorem s43_66 : ni_T d 43 66 [a0, a1, a2, a3] (.long u :: .int x :: .ref o :: st) z h Q = (ni_okL (h o) x = true ∧ ni_T d 43 67 [a0, a1, a2, a3] st z (ni_up h o (ni_pl (h o) x u)) Q) := ni_T_last rfl
theorem s43_67 : ni_T d 43 67 [a0, a1, a2, a3] st z h Q = ni_T d 43 77 [a0, a1, a2, a3] st z h Q := ni_T_p rfl rfl
theorem s43_70 : ni_T d 43 70 [.ref o, a1, a2, a3] st z h Q = ni_T d 43 71 [.ref o, a1, a2, a3] (.ref o :: st) z h Q := ni_T_p rfl rfl
theorem s43_71 : ni_T d 43 71 [a0, a1, a2, a3] (.ref o :: st) z h Q = (ni_is (h o) 4 0 = true ∧ ni_T d 43 74 [a0, a1, a2, a3] (ni_gv (h o) 0 :: st) z h Q) := ni_T_getf rfl
theorem s43_74 : ni_T d 43 74 [a0, .int x, a2, a3] st z h Q = ni_T d 43 75 [a0, .int x, a2, a3] (.int x :: st) z h Q := ni_T_p rfl rfl
theorem s43_75 : ni_T d 43 75 [a0, a1, .long u, a3] st z h Q = ni_T d 43 76 [a0, a1, .long u, a3] (.long u :: st) z h Q := ni_T_p rfl rfl
theorem s43_76 : ni_T d 43 76 [a0, a1, a2, a3] (.long u :: .int x :: .ref o :: st) z h Q = (ni_okL (h o) x = true ∧ ni_T d 43 77 [a0, a1, a2, a3] st z (ni_up h o (ni_pl (h o) x u)) Q) := ni_T_last rfl
theorem s43_77 : ni_T d 43 77 [a0, a1, a2, a3] [] z h Q = Q none z h := ni_T_v rfl rfl
theorem s44_0 : ni_T d 44 0 [a0, .int x] st z h Q = ni_T d 44 1 [a0, .int x] (.int x :: st) z h Q := ni_T_p rfl rfl
theorem s44_1 : ni_T d 44 1 [a0, a1] (.int x :: st) z h Q = if x < 0 then ni_T d 44 22 [a0, a1] st z h Q else ni_T d 44 4 [a0, a1] st z h Q := ni_T_b rfl rfl
theorem s44_4 : ni_T d 44 4 [a0, .int x] st z h Q = ni_T d 44 5 [a0, .int x] (.int x :: st) z h Q := ni_T_p rfl rfl
theorem s44_5 : ni_T d 44 5 [.ref o, a1] st z h Q = ni_T d 44 6 [.ref o, a1] (.ref o :: st) z h Q := ni_T_p rfl rfl
theorem s44_6 : ni_T d 44 6 [a0, a1] (.ref o :: st) z h Q = (ni_is (h o) 4 4 = true ∧ ni_T d 44 9 [a0, a1] (ni_gv (h o) 4 :: st) z h Q) := ni_T_getf rfl
theorem s44_9 : ni_T d 44 9 [a0, a1] (.int y :: .int x :: st) z h Q = if y ≤ x then ni_T d 44 22 [a0, a1] st z h Q else ni_T d 44 12 [a0, a1] st z h Q := ni_T_b rfl rfl
theorem s44_12 : ni_T d 44 12 [.ref o, a1] st z h Q = ni_T d 44 13 [.ref o, a1] (.ref o :: st) z h Q := ni_T_p rfl rfl
theorem s44_13 : ni_T d 44 13 [a0, a1] (.ref o :: st) z h Q = (ni_is (h o) 4 0 = true ∧ ni_T d 44 16 [a0, a1] (ni_gv (h o) 0 :: st) z h Q) := ni_T_getf rfl
theorem s44_16 : ni_T d 44 16 [a0, .int x] st z h Q = ni_T d 44 17 [a0, .int x] (.int x :: st) z h Q := ni_T_p rfl rfl
theorem s44_17 : ni_T d 44 17 [a0, a1] (.int x :: .ref o :: st) z h Q = (ni_okL (h o) x = true ∧ ni_T d 44 18 [a0, a1] (.long (ni_gl (h o) x) :: st) z h Q) := ni_T_lald rfl
theorem s44_18 : ni_T d 44 18 [a0, a1] (.long u :: st) z h Q = ni_T d 44 19 [a0, a1] (.int u.toInt32 :: st) z h Q := ni_T_p rfl rfl
theorem s44_19 : ni_T d 44 19 [a0, a1] st z h Q = ni_T d 44 23 [a0, a1] st z h Q := ni_T_p rfl rfl
theorem s44_22 : ni_T d 44 22 [a0, a1] st z h Q = ni_T d 44 23 [a0, a1] (.int 0 :: st) z h Q := ni_T_p rfl rfl
theorem s44_23 : ni_T d 44 23 [a0, a1] [.int x] z h Q = Q (some (.int x)) z h := ni_T_i rfl rfl
theorem s45_0 : ni_T d 45 0 [a0, .int x, a2] st z h Q = ni_T d 45 1 [a0, .int x, a2] (.int x :: st) z h Q := ni_T_p rfl rfl
theorem s45_1 : ni_T d 45 1 [a0, a1, a2] (.int x :: st) z h Q = if x < 0 then ni_T d 45 22 [a0, a1, a2] st z h Q else ni_T d 45 4 [a0, a1, a2] st z h Q := ni_T_b rfl rfl
theorem s45_4 : ni_T d 45 4 [a0, .int x, a2] st z h Q = ni_T d 45 5 [a0, .int x, a2] (.int x :: st) z h Q := ni_T_p rfl rfl
theorem s45_5 : ni_T d 45 5 [a0, a1, a2] (.int x :: st) z h Q = ni_T d 45 6 [a0, a1, a2] (.long x.toInt64 :: st) z h Q := ni_T_p rfl rfl
theorem s45_6 : ni_T d 45 6 [a0, a1, .int x] st z h Q = ni_T d 45 7 [a0, a1, .int x] (.int x :: st) z h Q := ni_T_p rfl rfl
theorem s45_7 : ni_T d 45 7 [a0, a1, a2] (.int x :: st) z h Q = ni_T d 45 8 [a0, a1, a2] (.long x.toInt64 :: st) z h Q := ni_T_p rfl rfl
theorem s45_8 : ni_T d 45 8 [a0, a1, a2] (.long w :: .long u :: st) z h Q = ni_T d 45 9 [a0, a1, a2] (.long (u + w) :: st) z h Q := ni_T_p rfl rfl
theorem s45_9 : ni_T d 45 9 [.ref o, a1, a2] st z h Q = ni_T d 45 10 [.ref o, a1, a2] (.ref o :: st) z h Q := ni_T_p rfl rfl
theorem s45_10 : ni_T d 45 10 [a0, a1, a2] (.ref o :: st) z h Q = (ni_is (h o) 4 4 = true ∧ ni_T d 45 13 [a0, a1, a2] (ni_gv (h o) 4 :: st) z h Q) := ni_T_getf rfl
theorem s45_13 : ni_T d 45 13 [a0, a1, a2] (.int x :: st) z h Q = ni_T d 45 14 [a0, a1, a2] (.long x.toInt64 :: st) z h Q := ni_T_p rfl rfl
theorem s45_14 : ni_T d 45 14 [a0, a1, a2] (.long w :: .long u :: st) z h Q = ni_T d 45 15 [a0, a1, a2] (.int (lg_cmp u w) :: st) z h Q := ni_T_p rfl rfl
theorem s45_15 : ni_T d 45 15 [a0, a1, a2] (.int x :: st) z h Q = if 0 < x then ni_T d 45 22 [a0, a1, a2] st z h Q else ni_T d 45 18 [a0, a1, a2] st z h Q := ni_T_b rfl rfl
theorem s45_18 : ni_T d 45 18 [a0, a1, a2] st z h Q = ni_T d 45 19 [a0, a1, a2] (.int 1 :: st) z h Q := ni_T_p rfl rfl
theorem s45_19 : ni_T d 45 19 [a0, a1, a2] st z h Q = ni_T d 45 23 [a0, a1, a2] st z h Q := ni_T_p rfl rfl
theorem s45_22 : ni_T d 45 22 [a0, a1, a2] st z h Q = ni_T d 45 23 [a0, a1, a2] (.int 0 :: st) z h Q := ni_T_p rfl rfl
theorem s45_23 : ni_T d 45 23 [a0, a1, a2] [.int x] z h Q = (narrow .boolean (.int x) = .int x ∧ Q (some (.int x)) z h) := ni_T_z rfl rfl
theorem s46_0 : ni_T d 46 0 [.ref o, a1] st z h Q = ni_T d 46 1 [.ref o, a1] (.ref o :: st) z h Q := ni_T_p rfl rfl
theorem s46_1 : ni_T (d + 1) 46 1 [a0, a1] (.ref o :: st) z h Q = (Nat.ble (ni_sw st) 8 = true ∧ ni_T (d + 1) 46 4 [a0, a1] st z h Q) := ni_T_oic rfl rfl
theorem s46_4 : ni_T d 46 4 [.ref o, a1] st z h Q = ni_T d 46 5 [.ref o, a1] (.ref o :: st) z h Q := ni_T_p rfl rfl
theorem s46_5 : ni_T d 46 5 [a0, a1] st z h Q = ni_T d 46 6 [a0, a1] (.int 5 :: st) z h Q := ni_T_p rfl rfl
theorem s46_6 : ni_T d 46 6 [a0, a1] (.int x :: st) z h Q = ((ni_ok z.1 [a0, a1] st h && Nat.ble (z.1 + 1) 900 && !decide (x < 0) && Nat.ble x.toNatClampNeg 65536) = true ∧ ni_T d 46 8 [a0, a1] (.ref z.1 :: st) (z.1 + 1, z.2 + x.toNatClampNeg) (ni_up h z.1 (.inl (0, x.toNatClampNeg, .inl (fun _ => 0)))) Q) := ni_T_ne rfl rfl rfl rfl rfl rfl rfl
theorem s46_8 : ni_T d 46 8 [a0, a1] (b0 :: .ref o :: st) z h Q = ((Nat.ble 5 7 && ni_is (h o) 5 0 && ni_fit (.array .int) b0) = true ∧ ni_T d 46 11 [a0, a1] st z (ni_up h o (ni_pv (h o) 0 b0)) Q) := ni_T_putf rfl
theorem s46_11 : ni_T d 46 11 [.ref o, a1] st z h Q = ni_T d 46 12 [.ref o, a1] (.ref o :: st) z h Q := ni_T_p rfl rfl
theorem s46_12 : ni_T d 46 12 [a0, a1] st z h Q = ni_T d 46 13 [a0, a1] (.int 4 :: st) z h Q := ni_T_p rfl rfl
theorem s46_13 : ni_T d 46 13 [a0, a1] (.int x :: st) z h Q = ((ni_ok z.1 [a0, a1] st h && Nat.ble (z.1 + 1) 900 && !decide (x < 0) && Nat.ble x.toNatClampNeg 65536 && (Nat.beq 3 2 || Nat.beq 3 3)) = true ∧ ni_T d 46 16 [a0, a1] (.ref z.1 :: st) (z.1 + 1, z.2 + x.toNatClampNeg) (ni_up h z.1 (.inl (3, x.toNatClampNeg, .inr (.inr (List.replicate x.toNatClampNeg none))))) Q) := ni_T_ne rfl rfl rfl rfl rfl rfl rfl
theorem s46_16 : ni_T d 46 16 [a0, a1] (b0 :: .ref o :: st) z h Q = ((Nat.ble 5 7 && ni_is (h o) 5 1 && ni_fit (.array (.object "FiveStones$Hand")) b0) = true ∧ ni_T d 46 19 [a0, a1] st z (ni_up h o (ni_pv (h o) 1 b0)) Q) := ni_T_putf rfl
theorem s46_19 : ni_T d 46 19 [.ref o, a1] st z h Q = ni_T d 46 20 [.ref o, a1] (.ref o :: st) z h Q := ni_T_p rfl rfl
theorem s46_20 : ni_T d 46 20 [a0, a1] st z h Q = ni_T d 46 21 [a0, a1] (.int 0 :: st) z h Q := ni_T_p rfl rfl
theorem s46_21 : ni_T d 46 21 [a0, a1] (b0 :: .ref o :: st) z h Q = ((Nat.ble 5 7 && ni_is (h o) 5 2 && ni_fit (.int) b0) = true ∧ ni_T d 46 24 [a0, a1] st z (ni_up h o (ni_pv (h o) 2 b0)) Q) := ni_T_putf rfl
theorem s46_24 : ni_T d 46 24 [.ref o, a1] st z h Q = ni_T d 46 25 [.ref o, a1] (.ref o :: st) z h Q := ni_T_p rfl rfl
theorem s46_25 : ni_T d 46 25 [a0, a1] st z h Q = ni_T d 46 26 [a0, a1] (.int 0 :: st) z h Q := ni_T_p rfl rfl
theorem s46_26 : ni_T d 46 26 [a0, a1] (b0 :: .ref o :: st) z h Q = ((Nat.ble 5 7 && ni_is (h o) 5 3 && ni_fit (.int) b0) = true ∧ ni_T d 46 29 [a0, a1] st z (ni_up h o (ni_pv (h o) 3 b0)) Q) := ni_T_putf rfl
theorem s46_29 : ni_T d 46 29 [.ref o, a1] st z h Q = ni_T d 46 30 [.ref o, a1] (.ref o :: st) z h Q := ni_T_p rfl rfl
theorem s46_30 : ni_T d 46 30 [a0, a1] st z h Q = ni_T d 46 31 [a0, a1] (.int 0 :: st) z h Q := ni_T_p rfl rfl
theorem s46_31 : ni_T d 46 31 [a0, a1] (b0 :: .ref o :: st) z h Q = ((Nat.ble 5 7 && ni_is (h o) 5 4 && ni_fit (.int) b0) = true ∧ ni_T d 46 34 [a0, a1] st z (ni_up h o (ni_pv (h o) 4 b0)) Q) := ni_T_putf rfl
theorem s46_34 : ni_T d 46 34 [.ref o, a1] st z h Q = ni_T d 46 35 [.ref o, a1] (.ref o :: st) z h Q := ni_T_p rfl rfl
theorem s46_35 : ni_T d 46 35 [a0, a1] st z h Q = ni_T d 46 36 [a0, a1] (.int 1 :: st) z h Q := ni_T_p rfl rfl
theorem s46_36 : ni_T d 46 36 [a0, a1] (b0 :: .ref o :: st) z h Q = ((Nat.ble 5 7 && ni_is (h o) 5 5 && ni_fit (.int) b0) = true ∧ ni_T d 46 39 [a0, a1] st z (ni_up h o (ni_pv (h o) 5 b0)) Q) := ni_T_putf rfl
theorem s46_39 : ni_T d 46 39 [.ref o, a1] st z h Q = ni_T d 46 40 [.ref o, a1] (.ref o :: st) z h Q := ni_T_p rfl rfl
theorem s46_40 : ni_T d 46 40 [a0, a1] (.ref o :: st) z h Q = (ni_is (h o) 5 0 = true ∧ ni_T d 46 43 [a0, a1] (ni_gv (h o) 0 :: st) z h Q) := ni_T_getf rfl
theorem s46_43 : ni_T d 46 43 [a0, a1] st z h Q = ni_T d 46 44 [a0, a1] (.int (-1) :: st) z h Q := ni_T_p rfl rfl
theorem s46_44 : ni_T (d + 1) 46 44 [a0, a1] (.int x1 :: .ref o20 :: st) z h Q = (Nat.ble (ni_sw st) 8 = true ∧ ni_T d 209 0 [.ref o20, .int x1, .retAddr 0, .retAddr 0] [] z h (ni_K (d + 1) 46 47 [a0, a1] st z Q)) := ni_T_cse [.ref o20, .int x1] rfl rfl rfl rfl rfl rfl rfl rfl rfl
theorem s46_44N0 : ni_T (d + 1) 46 44 [a0, a1] (.int x1 :: .null :: st) z h Q = (Nat.ble (ni_sw st) 8 = true ∧ ni_T d 209 0 [.null, .int x1, .retAddr 0, .retAddr 0] [] z h (ni_K (d + 1) 46 47 [a0, a1] st z Q)) := ni_T_cse [.null, .int x1] rfl rfl rfl rfl rfl rfl rfl rfl rfl
theorem s46_47 : ni_T d 46 47 [a0, a1] st z h Q = ni_T d 46 48 [a0, a1] (.int 0 :: st) z h Q := ni_T_p rfl rfl
theorem s46_48 : ni_T d 46 48 [a0, a1] (.int x :: st) z h Q = ni_T d 46 49 [ni_kl a0, .int x] st z h Q := ni_T_p rfl rfl
theorem s46_49 : ni_T d 46 49 [a0, .int x] st z h Q = ni_T d 46 50 [a0, .int x] (.int x :: st) z h Q := ni_T_p rfl rfl
theorem s46_50 : ni_T d 46 50 [a0, a1] st z h Q = ni_T d 46 51 [a0, a1] (.int 4 :: st) z h Q := ni_T_p rfl rfl
theorem s46_51 : ni_T d 46 51 [a0, a1] (.int y :: .int x :: st) z h Q = if y ≤ x then ni_T d 46 74 [a0, a1] st z h Q else ni_T d 46 54 [a0, a1] st z h Q := ni_T_b rfl rfl
theorem s46_54 : ni_T d 46 54 [.ref o, a1] st z h Q = ni_T d 46 55 [.ref o, a1] (.ref o :: st) z h Q := ni_T_p rfl rfl
theorem s46_55 : ni_T d 46 55 [a0, a1] (.ref o :: st) z h Q = (ni_is (h o) 5 1 = true ∧ ni_T d 46 58 [a0, a1] (ni_gv (h o) 1 :: st) z h Q) := ni_T_getf rfl
theorem s46_58 : ni_T d 46 58 [a0, .int x] st z h Q = ni_T d 46 59 [a0, .int x] (.int x :: st) z h Q := ni_T_p rfl rfl
theorem s46_59 : ni_T d 46 59 [a0, a1] st z h Q = ((ni_ok z.1 [a0, a1] st h && Nat.ble (z.1 + 1) 900 && Nat.ble 1 7) = true ∧ ni_T d 46 62 [a0, a1] (.ref z.1 :: st) (z.1 + 1, z.2 + (ni_dfs 1).length) (ni_up h z.1 (.inr (1, ni_dfs 1))) Q) := ni_T_ne rfl rfl rfl rfl rfl rfl rfl
theorem s46_62 : ni_T d 46 62 [a0, a1] (.ref o :: st) z h Q = ni_T d 46 63 [a0, a1] (.ref o :: .ref o :: st) z h Q := ni_T_p rfl rfl
theorem s46_62i : ni_T d 46 62 [a0, a1] (.int x :: st) z h Q = ni_T d 46 63 [a0, a1] (.int x :: .int x :: st) z h Q := ni_T_p rfl rfl
theorem s46_63 : ni_T d 46 63 [a0, .int x] st z h Q = ni_T d 46 64 [a0, .int x] (.int x :: st) z h Q := ni_T_p rfl rfl
theorem s46_64 : ni_T (d + 1) 46 64 [a0, a1] (.int x0 :: .ref o :: st) z h Q = (Nat.ble (ni_sw st) 8 = true ∧ ni_T d 6 0 [.ref o, .int x0] [] z h (ni_K (d + 1) 46 67 [a0, a1] st z Q)) := ni_T_cse [.ref o, .int x0] rfl rfl rfl rfl rfl rfl rfl rfl rfl
theorem s46_67 : ni_T d 46 67 [a0, a1] (.ref o1 :: .int x :: .ref o :: st) z h Q = ((ni_okA (h o) x && (ni_rc (h o1) (ni_elt (ni_tag (h o))) && Nat.ble (x.toNatClampNeg + 1) (ni_ll (h o)))) = true ∧ ni_T d 46 68 [a0, a1] st z (ni_up h o (ni_pa (h o) x o1)) Q) := ni_T_aast rfl
theorem s46_68 : ni_T d 46 68 [a0, .int x] st z h Q = ni_T d 46 71 [ni_kl a0, .int (x + 1)] st z h Q := ni_T_p rfl rfl
theorem s46_71 : ni_T d 46 71 [a0, a1] st z h Q = ni_T d 46 49 [a0, a1] st z h Q := ni_T_p rfl rfl
theorem s46_74 : ni_T d 46 74 [a0, a1] [] z h Q = Q none z h := ni_T_v rfl rfl
theorem s47_0 : ni_T d 47 0 [a0, .ref o, a2] st z h Q = ni_T d 47 1 [a0, .ref o, a2] (.ref o :: st) z h Q := ni_T_p rfl rfl
theorem s47_0N : ni_T d 47 0 [a0, .null, a2] st z h Q = ni_T d 47 1 [a0, .null, a2] (.null :: st) z h Q := ni_T_p rfl rfl
theorem s47_1 : ni_T d 47 1 [a0, a1, a2] (.ref o :: st) z h Q = (ni_is (h o) 5 0 = true ∧ ni_T d 47 4 [a0, a1, a2] (ni_gv (h o) 0 :: st) z h Q) := ni_T_getf rfl
theorem s47_4 : ni_T d 47 4 [a0, a1, a2] st z h Q = ni_T d 47 5 [a0, a1, a2] (.int 0 :: st) z h Q := ni_T_p rfl rfl
theorem s47_5 : ni_T d 47 5 [.ref o, a1, a2] st z h Q = ni_T d 47 6 [.ref o, a1, a2] (.ref o :: st) z h Q := ni_T_p rfl rfl
theorem s47_6 : ni_T d 47 6 [a0, a1, a2] (.ref o :: st) z h Q = (ni_is (h o) 5 0 = true ∧ ni_T d 47 9 [a0, a1, a2] (ni_gv (h o) 0 :: st) z h Q) := ni_T_getf rfl
theorem s47_9 : ni_T d 47 9 [a0, a1, a2] st z h Q = ni_T d 47 10 [a0, a1, a2] (.int 0 :: st) z h Q := ni_T_p rfl rfl
theorem s47_10 : ni_T d 47 10 [a0, a1, a2] st z h Q = ni_T d 47 11 [a0, a1, a2] (.int 5 :: st) z h Q := ni_T_p rfl rfl
theorem s47_11 : ni_T (d + 1) 47 11 [a0, a1, a2] (.int x2 :: .int x1 :: .ref o1 :: .int x0 :: .ref o :: st) z h Q = (Nat.ble (ni_sw st) 8 = true ∧ ∃ e, ni_cpy (h o) (h o1) x0 x1 x2 = some e ∧ ni_T (d + 1) 47 14 [a0, a1, a2] st z (ni_up h o1 e) Q) := ni_T_acc rfl rfl
theorem s47_14 : ni_T d 47 14 [a0, a1, a2] st z h Q = ni_T d 47 15 [a0, a1, a2] (.int 0 :: st) z h Q := ni_T_p rfl rfl
theorem s47_15 : ni_T d 47 15 [a0, a1, a2] (.int x :: st) z h Q = ni_T d 47 16 [a0, ni_kl a1, .int x] st z h Q := ni_T_p rfl rfl
theorem s47_16 : ni_T d 47 16 [a0, a1, .int x] st z h Q = ni_T d 47 17 [a0, a1, .int x] (.int x :: st) z h Q := ni_T_p rfl rfl
theorem s47_17 : ni_T d 47 17 [a0, a1, a2] st z h Q = ni_T d 47 18 [a0, a1, a2] (.int 4 :: st) z h Q := ni_T_p rfl rfl
theorem s47_18 : ni_T d 47 18 [a0, a1, a2] (.int y :: .int x :: st) z h Q = if y ≤ x then ni_T d 47 42 [a0, a1, a2] st z h Q else ni_T d 47 21 [a0, a1, a2] st z h Q := ni_T_b rfl rfl
theorem s47_21 : ni_T d 47 21 [.ref o, a1, a2] st z h Q = ni_T d 47 22 [.ref o, a1, a2] (.ref o :: st) z h Q := ni_T_p rfl rfl
theorem s47_22 : ni_T d 47 22 [a0, a1, a2] (.ref o :: st) z h Q = (ni_is (h o) 5 1 = true ∧ ni_T d 47 25 [a0, a1, a2] (ni_gv (h o) 1 :: st) z h Q) := ni_T_getf rfl
theorem s47_25 : ni_T d 47 25 [a0, a1, .int x] st z h Q = ni_T d 47 26 [a0, a1, .int x] (.int x :: st) z h Q := ni_T_p rfl rfl
theorem s47_26 : ni_T d 47 26 [a0, a1, a2] (.int x :: .ref o :: st) z h Q = (ni_okA (h o) x = true ∧ ni_T d 47 27 [a0, a1, a2] (ni_ga (h o) x :: st) z h Q) := ni_T_aald rfl
theorem s47_27 : ni_T d 47 27 [a0, .ref o, a2] st z h Q = ni_T d 47 28 [a0, .ref o, a2] (.ref o :: st) z h Q := ni_T_p rfl rfl
theorem s47_27N : ni_T d 47 27 [a0, .null, a2] st z h Q = ni_T d 47 28 [a0, .null, a2] (.null :: st) z h Q := ni_T_p rfl rfl
theorem s47_28 : ni_T d 47 28 [a0, a1, a2] (.ref o :: st) z h Q = (ni_is (h o) 5 1 = true ∧ ni_T d 47 31 [a0, a1, a2] (ni_gv (h o) 1 :: st) z h Q) := ni_T_getf rfl
theorem s47_31 : ni_T d 47 31 [a0, a1, .int x] st z h Q = ni_T d 47 32 [a0, a1, .int x] (.int x :: st) z h Q := ni_T_p rfl rfl
theorem s47_32 : ni_T d 47 32 [a0, a1, a2] (.int x :: .ref o :: st) z h Q = (ni_okA (h o) x = true ∧ ni_T d 47 33 [a0, a1, a2] (ni_ga (h o) x :: st) z h Q) := ni_T_aald rfl
theorem s47_33 : ni_T (d + 1) 47 33 [a0, a1, a2] (.ref o20 :: .ref o :: st) z h Q = (ni_rc (h o) 1 = true ∧ Nat.ble (ni_sw st) 8 = true ∧ ni_T d 8 0 [.ref o, .ref o20] [] z h (ni_K (d + 1) 47 36 [a0, a1, a2] st z Q)) := ni_T_ce [.ref o, .ref o20] rfl rfl rfl rfl rfl rfl rfl rfl rfl
theorem s47_33N0 : ni_T (d + 1) 47 33 [a0, a1, a2] (.null :: .ref o :: st) z h Q = (ni_rc (h o) 1 = true ∧ Nat.ble (ni_sw st) 8 = true ∧ ni_T d 8 0 [.ref o, .null] [] z h (ni_K (d + 1) 47 36 [a0, a1, a2] st z Q)) := ni_T_ce [.ref o, .null] rfl rfl rfl rfl rfl rfl rfl rfl rfl
theorem s47_36 : ni_T d 47 36 [a0, a1, .int x] st z h Q = ni_T d 47 39 [a0, ni_kl a1, .int (x + 1)] st z h Q := ni_T_p rfl rfl
theorem s47_39 : ni_T d 47 39 [a0, a1, a2] st z h Q = ni_T d 47 16 [a0, a1, a2] st z h Q := ni_T_p rfl rfl
theorem s47_42 : ni_T d 47 42 [.ref o, a1, a2] st z h Q = ni_T d 47 43 [.ref o, a1, a2] (.ref o :: st) z h Q := ni_T_p rfl rfl
theorem s47_43 : ni_T d 47 43 [a0, .ref o, a2] st z h Q = ni_T d 47 44 [a0, .ref o, a2] (.ref o :: st) z h Q := ni_T_p rfl rfl
theorem s47_43N : ni_T d 47 43 [a0, .null, a2] st z h Q = ni_T d 47 44 [a0, .null, a2] (.null :: st) z h Q := ni_T_p rfl rfl
theorem s47_44 : ni_T d 47 44 [a0, a1, a2] (.ref o :: st) z h Q = (ni_is (h o) 5 2 = true ∧ ni_T d 47 47 [a0, a1, a2] (ni_gv (h o) 2 :: st) z h Q) := ni_T_getf rfl
theorem s47_47 : ni_T d 47 47 [a0, a1, a2] (b0 :: .ref o :: st) z h Q = ((Nat.ble 5 7 && ni_is (h o) 5 2 && ni_fit (.int) b0) = true ∧ ni_T d 47 50 [a0, a1, a2] st z (ni_up h o (ni_pv (h o) 2 b0)) Q) := ni_T_putf rfl
theorem s47_50 : ni_T d 47 50 [.ref o, a1, a2] st z h Q = ni_T d 47 51 [.ref o, a1, a2] (.ref o :: st) z h Q := ni_T_p rfl rfl
theorem s47_51 : ni_T d 47 51 [a0, .ref o, a2] st z h Q = ni_T d 47 52 [a0, .ref o, a2] (.ref o :: st) z h Q := ni_T_p rfl rfl
theorem s47_51N : ni_T d 47 51 [a0, .null, a2] st z h Q = ni_T d 47 52 [a0, .null, a2] (.null :: st) z h Q := ni_T_p rfl rfl
theorem s47_52 : ni_T d 47 52 [a0, a1, a2] (.ref o :: st) z h Q = (ni_is (h o) 5 3 = true ∧ ni_T d 47 55 [a0, a1, a2] (ni_gv (h o) 3 :: st) z h Q) := ni_T_getf rfl
theorem s47_55 : ni_T d 47 55 [a0, a1, a2] (b0 :: .ref o :: st) z h Q = ((Nat.ble 5 7 && ni_is (h o) 5 3 && ni_fit (.int) b0) = true ∧ ni_T d 47 58 [a0, a1, a2] st z (ni_up h o (ni_pv (h o) 3 b0)) Q) := ni_T_putf rfl
theorem s47_58 : ni_T d 47 58 [.ref o, a1, a2] st z h Q = ni_T d 47 59 [.ref o, a1, a2] (.ref o :: st) z h Q := ni_T_p rfl rfl
theorem s47_59 : ni_T d 47 59 [a0, .ref o, a2] st z h Q = ni_T d 47 60 [a0, .ref o, a2] (.ref o :: st) z h Q := ni_T_p rfl rfl
theorem s47_59N : ni_T d 47 59 [a0, .null, a2] st z h Q = ni_T d 47 60 [a0, .null, a2] (.null :: st) z h Q := ni_T_p rfl rfl
theorem s47_60 : ni_T d 47 60 [a0, a1, a2] (.ref o :: st) z h Q = (ni_is (h o) 5 4 = true ∧ ni_T d 47 63 [a0, a1, a2] (ni_gv (h o) 4 :: st) z h Q) := ni_T_getf rfl
theorem s47_63 : ni_T d 47 63 [a0, a1, a2] (b0 :: .ref o :: st) z h Q = ((Nat.ble 5 7 && ni_is (h o) 5 4 && ni_fit (.int) b0) = true ∧ ni_T d 47 66 [a0, a1, a2] st z (ni_up h o (ni_pv (h o) 4 b0)) Q) := ni_T_putf rfl
theorem s47_66 : ni_T d 47 66 [.ref o, a1, a2] st z h Q = ni_T d 47 67 [.ref o, a1, a2] (.ref o :: st) z h Q := ni_T_p rfl rfl
theorem s47_67 : ni_T d 47 67 [a0, .ref o, a2] st z h Q = ni_T d 47 68 [a0, .ref o, a2] (.ref o :: st) z h Q := ni_T_p rfl rfl
theorem s47_67N : ni_T d 47 67 [a0, .null, a2] st z h Q = ni_T d 47 68 [a0, .null, a2] (.null :: st) z h Q := ni_T_p rfl rfl
theorem s47_68 : ni_T d 47 68 [a0, a1, a2] (.ref o :: st) z h Q = (ni_is (h o) 5 5 = true ∧ ni_T d 47 71 [a0, a1, a2] (ni_gv (h o) 5 :: st) z h Q) := ni_T_getf rfl
theorem s47_71 : ni_T d 47 71 [a0, a1, a2] (b0 :: .ref o :: st) z h Q = ((Nat.ble 5 7 && ni_is (h o) 5 5 && ni_fit (.int) b0) = true ∧ ni_T d 47 74 [a0, a1, a2] st z (ni_up h o (ni_pv (h o) 5 b0)) Q) := ni_T_putf rfl
theorem s47_74 : ni_T d 47 74 [a0, a1, a2] [] z h Q = Q none z h := ni_T_v rfl rfl
theorem s48_0 : ni_T d 48 0 [a0, .int x] st z h Q = ni_T d 48 1 [a0, .int x] (.int x :: st) z h Q := ni_T_p rfl rfl
theorem s48_1 : ni_T d 48 1 [a0, a1] (.int x :: st) z h Q = if x < 0 then ni_T d 48 26 [a0, a1] st z h Q else ni_T d 48 4 [a0, a1] st z h Q := ni_T_b rfl rfl
theorem s48_4 : ni_T d 48 4 [a0, .int x] st z h Q = ni_T d 48 5 [a0, .int x] (.int x :: st) z h Q := ni_T_p rfl rfl
theorem s48_5 : ni_T d 48 5 [.ref o, a1] st z h Q = ni_T d 48 6 [.ref o, a1] (.ref o :: st) z h Q := ni_T_p rfl rfl
theorem s48_6 : ni_T d 48 6 [a0, a1] (.ref o :: st) z h Q = (ni_is (h o) 5 2 = true ∧ ni_T d 48 9 [a0, a1] (ni_gv (h o) 2 :: st) z h Q) := ni_T_getf rfl
theorem s48_9 : ni_T d 48 9 [a0, a1] (.int y :: .int x :: st) z h Q = if y ≤ x then ni_T d 48 26 [a0, a1] st z h Q else ni_T d 48 12 [a0, a1] st z h Q := ni_T_b rfl rfl
theorem s48_12 : ni_T d 48 12 [a0, .int x] st z h Q = ni_T d 48 13 [a0, .int x] (.int x :: st) z h Q := ni_T_p rfl rfl
theorem s48_13 : ni_T d 48 13 [a0, a1] st z h Q = ni_T d 48 14 [a0, a1] (.int 4 :: st) z h Q := ni_T_p rfl rfl
theorem s48_14 : ni_T d 48 14 [a0, a1] (.int y :: .int x :: st) z h Q = if y ≤ x then ni_T d 48 26 [a0, a1] st z h Q else ni_T d 48 17 [a0, a1] st z h Q := ni_T_b rfl rfl
theorem s48_17 : ni_T d 48 17 [.ref o, a1] st z h Q = ni_T d 48 18 [.ref o, a1] (.ref o :: st) z h Q := ni_T_p rfl rfl
theorem s48_18 : ni_T d 48 18 [a0, a1] (.ref o :: st) z h Q = (ni_is (h o) 5 1 = true ∧ ni_T d 48 21 [a0, a1] (ni_gv (h o) 1 :: st) z h Q) := ni_T_getf rfl
theorem s48_21 : ni_T d 48 21 [a0, .int x] st z h Q = ni_T d 48 22 [a0, .int x] (.int x :: st) z h Q := ni_T_p rfl rfl
theorem s48_22 : ni_T d 48 22 [a0, a1] (.int x :: .ref o :: st) z h Q = (ni_okA (h o) x = true ∧ ni_T d 48 23 [a0, a1] (ni_ga (h o) x :: st) z h Q) := ni_T_aald rfl
theorem s48_23 : ni_T d 48 23 [a0, a1] st z h Q = ni_T d 48 27 [a0, a1] st z h Q := ni_T_p rfl rfl
theorem s48_26 : ni_T d 48 26 [a0, a1] st z h Q = ni_T d 48 27 [a0, a1] (.null :: st) z h Q := ni_T_p rfl rfl
theorem s48_27 : ni_T d 48 27 [a0, a1] [.ref o] z h Q = Q (some (.ref o)) z h := ni_T_a rfl rfl
theorem s48_27N : ni_T d 48 27 [a0, a1] [.null] z h Q = Q (some .null) z h := ni_T_aN rfl rfl
theorem s49_0 : ni_T d 49 0 [.ref o] st z h Q = ni_T d 49 1 [.ref o] (.ref o :: st) z h Q := ni_T_p rfl rfl
theorem s49_1 : ni_T d 49 1 [a0] (.ref o :: st) z h Q = (ni_is (h o) 5 2 = true ∧ ni_T d 49 4 [a0] (ni_gv (h o) 2 :: st) z h Q) := ni_T_getf rfl
theorem s49_4 : ni_T d 49 4 [a0] st z h Q = ni_T d 49 5 [a0] (.int 4 :: st) z h Q := ni_T_p rfl rfl
theorem s49_5 : ni_T d 49 5 [a0] (.int y :: .int x :: st) z h Q = if y ≤ x then ni_T d 49 12 [a0] st z h Q else ni_T d 49 8 [a0] st z h Q := ni_T_b rfl rfl
theorem s49_8 : ni_T d 49 8 [a0] st z h Q = ni_T d 49 9 [a0] (.int 1 :: st) z h Q := ni_T_p rfl rfl
theorem s49_9 : ni_T d 49 9 [a0] st z h Q = ni_T d 49 13 [a0] st z h Q := ni_T_p rfl rfl
theorem s49_12 : ni_T d 49 12 [a0] st z h Q = ni_T d 49 13 [a0] (.int 0 :: st) z h Q := ni_T_p rfl rfl
theorem s49_13 : ni_T d 49 13 [a0] [.int x] z h Q = (narrow .boolean (.int x) = .int x ∧ Q (some (.int x)) z h) := ni_T_z rfl rfl
theorem s50_0 : ni_T d 50 0 [.ref o, a1, a2] st z h Q = ni_T d 50 1 [.ref o, a1, a2] (.ref o :: st) z h Q := ni_T_p rfl rfl
theorem s50_1 : ni_T (d + 1) 50 1 [a0, a1, a2] (.ref o :: st) z h Q = (ni_rc (h o) 5 = true ∧ Nat.ble (ni_sw st) 8 = true ∧ ni_T d 49 0 [.ref o] [] z h (ni_K (d + 1) 50 4 [a0, a1, a2] st z Q)) := ni_T_ce [.ref o] rfl rfl rfl rfl rfl rfl rfl rfl rfl
theorem s50_4 : ni_T d 50 4 [a0, a1, a2] (.int x :: st) z h Q = if x = 0 then ni_T d 50 7 [a0, a1, a2] st z h Q else ni_T d 50 9 [a0, a1, a2] st z h Q := ni_T_b rfl rfl
theorem s50_7 : ni_T d 50 7 [a0, a1, a2] st z h Q = ni_T d 50 8 [a0, a1, a2] (.int (-1) :: st) z h Q := ni_T_p rfl rfl
theorem s50_8 : ni_T d 50 8 [a0, a1, a2] [.int x] z h Q = Q (some (.int x)) z h := ni_T_i rfl rfl
theorem s50_9 : ni_T d 50 9 [.ref o, a1, a2] st z h Q = ni_T d 50 10 [.ref o, a1, a2] (.ref o :: st) z h Q := ni_T_p rfl rfl
theorem s50_10 : ni_T d 50 10 [a0, a1, a2] (.ref o :: st) z h Q = (ni_is (h o) 5 1 = true ∧ ni_T d 50 13 [a0, a1, a2] (ni_gv (h o) 1 :: st) z h Q) := ni_T_getf rfl
theorem s50_13 : ni_T d 50 13 [.ref o, a1, a2] st z h Q = ni_T d 50 14 [.ref o, a1, a2] (.ref o :: st) z h Q := ni_T_p rfl rfl
theorem s50_14 : ni_T d 50 14 [a0, a1, a2] (.ref o :: st) z h Q = (ni_is (h o) 5 2 = true ∧ ni_T d 50 17 [a0, a1, a2] (ni_gv (h o) 2 :: st) z h Q) := ni_T_getf rfl
theorem s50_17 : ni_T d 50 17 [a0, a1, a2] (.int x :: .ref o :: st) z h Q = (ni_okA (h o) x = true ∧ ni_T d 50 18 [a0, a1, a2] (ni_ga (h o) x :: st) z h Q) := ni_T_aald rfl
theorem s50_18 : ni_T d 50 18 [a0, .int x, a2] st z h Q = ni_T d 50 19 [a0, .int x, a2] (.int x :: st) z h Q := ni_T_p rfl rfl
theorem s50_19 : ni_T d 50 19 [a0, a1, .int x] st z h Q = ni_T d 50 20 [a0, a1, .int x] (.int x :: st) z h Q := ni_T_p rfl rfl
theorem s50_20 : ni_T (d + 1) 50 20 [a0, a1, a2] (.int x1 :: .int x0 :: .ref o :: st) z h Q = (ni_rc (h o) 1 = true ∧ Nat.ble (ni_sw st) 8 = true ∧ ni_T d 7 0 [.ref o, .int x0, .int x1] [] z h (ni_K (d + 1) 50 23 [a0, a1, a2] st z Q)) := ni_T_ce [.ref o, .int x0, .int x1] rfl rfl rfl rfl rfl rfl rfl rfl rfl
theorem s50_23 : ni_T d 50 23 [.ref o, a1, a2] st z h Q = ni_T d 50 24 [.ref o, a1, a2] (.ref o :: st) z h Q := ni_T_p rfl rfl
theorem s50_24 : ni_T d 50 24 [a0, a1, a2] (.ref o :: st) z h Q = ni_T d 50 25 [a0, a1, a2] (.ref o :: .ref o :: st) z h Q := ni_T_p rfl rfl
theorem s50_24i : ni_T d 50 24 [a0, a1, a2] (.int x :: st) z h Q = ni_T d 50 25 [a0, a1, a2] (.int x :: .int x :: st) z h Q := ni_T_p rfl rfl
theorem s50_25 : ni_T d 50 25 [a0, a1, a2] (.ref o :: st) z h Q = (ni_is (h o) 5 2 = true ∧ ni_T d 50 28 [a0, a1, a2] (ni_gv (h o) 2 :: st) z h Q) := ni_T_getf rfl
theorem s50_28 : ni_T d 50 28 [a0, a1, a2] st z h Q = ni_T d 50 29 [a0, a1, a2] (.int 1 :: st) z h Q := ni_T_p rfl rfl
theorem s50_29 : ni_T d 50 29 [a0, a1, a2] (.int y :: .int x :: st) z h Q = ni_T d 50 30 [a0, a1, a2] (.int (x + y) :: st) z h Q := ni_T_p rfl rfl
theorem s50_30 : ni_T d 50 30 [a0, a1, a2] (b0 :: .ref o :: st) z h Q = ((Nat.ble 5 7 && ni_is (h o) 5 2 && ni_fit (.int) b0) = true ∧ ni_T d 50 33 [a0, a1, a2] st z (ni_up h o (ni_pv (h o) 2 b0)) Q) := ni_T_putf rfl
theorem s50_33 : ni_T d 50 33 [.ref o, a1, a2] st z h Q = ni_T d 50 34 [.ref o, a1, a2] (.ref o :: st) z h Q := ni_T_p rfl rfl
theorem s50_34 : ni_T d 50 34 [a0, a1, a2] (.ref o :: st) z h Q = (ni_is (h o) 5 2 = true ∧ ni_T d 50 37 [a0, a1, a2] (ni_gv (h o) 2 :: st) z h Q) := ni_T_getf rfl
theorem s50_37 : ni_T d 50 37 [a0, a1, a2] st z h Q = ni_T d 50 38 [a0, a1, a2] (.int 1 :: st) z h Q := ni_T_p rfl rfl
theorem s50_38 : ni_T d 50 38 [a0, a1, a2] (.int y :: .int x :: st) z h Q = ni_T d 50 39 [a0, a1, a2] (.int (x - y) :: st) z h Q := ni_T_p rfl rfl
theorem s50_39 : ni_T d 50 39 [a0, a1, a2] [.int x] z h Q = Q (some (.int x)) z h := ni_T_i rfl rfl
theorem s51_0 : ni_T d 51 0 [a0, .int x] st z h Q = ni_T d 51 1 [a0, .int x] (.int x :: st) z h Q := ni_T_p rfl rfl
theorem s51_1 : ni_T d 51 1 [a0, a1] st z h Q = ni_T d 51 2 [a0, a1] (.int 1 :: st) z h Q := ni_T_p rfl rfl
theorem s51_2 : ni_T d 51 2 [a0, a1] (.int y :: .int x :: st) z h Q = ni_T d 51 3 [a0, a1] (.int (x + y) :: st) z h Q := ni_T_p rfl rfl
theorem s51_3 : ni_T d 51 3 [.ref o, a1] st z h Q = ni_T d 51 4 [.ref o, a1] (.ref o :: st) z h Q := ni_T_p rfl rfl
theorem s51_4 : ni_T d 51 4 [a0, a1] (.ref o :: st) z h Q = (ni_is (h o) 5 2 = true ∧ ni_T d 51 7 [a0, a1] (ni_gv (h o) 2 :: st) z h Q) := ni_T_getf rfl
theorem s51_7 : ni_T d 51 7 [a0, a1] (.int y :: .int x :: st) z h Q = if y ≤ x then ni_T d 51 16 [a0, a1] st z h Q else ni_T d 51 10 [a0, a1] st z h Q := ni_T_b rfl rfl
theorem s51_10 : ni_T d 51 10 [a0, .int x] st z h Q = ni_T d 51 11 [a0, .int x] (.int x :: st) z h Q := ni_T_p rfl rfl
theorem s51_11 : ni_T d 51 11 [a0, a1] st z h Q = ni_T d 51 12 [a0, a1] (.int 1 :: st) z h Q := ni_T_p rfl rfl
theorem s51_12 : ni_T d 51 12 [a0, a1] (.int y :: .int x :: st) z h Q = ni_T d 51 13 [a0, a1] (.int (x + y) :: st) z h Q := ni_T_p rfl rfl
theorem s51_13 : ni_T d 51 13 [a0, a1] st z h Q = ni_T d 51 17 [a0, a1] st z h Q := ni_T_p rfl rfl
theorem s51_16 : ni_T d 51 16 [a0, a1] st z h Q = ni_T d 51 17 [a0, a1] (.int 0 :: st) z h Q := ni_T_p rfl rfl
theorem s51_17 : ni_T d 51 17 [a0, a1] [.int x] z h Q = Q (some (.int x)) z h := ni_T_i rfl rfl
theorem s52_0 : ni_T d 52 0 [a0, a1, a2] st z h Q = ni_T d 52 1 [a0, a1, a2] (.int 0 :: st) z h Q := ni_T_p rfl rfl
theorem s52_1 : ni_T d 52 1 [a0, a1, a2] (.int x :: st) z h Q = ni_T d 52 2 [ni_kl a0, .int x, a2] st z h Q := ni_T_p rfl rfl
theorem s52_2 : ni_T d 52 2 [a0, a1, a2] st z h Q = ni_T d 52 3 [a0, a1, a2] (.int 0 :: st) z h Q := ni_T_p rfl rfl
theorem s52_3 : ni_T d 52 3 [a0, a1, a2] (.int x :: st) z h Q = ni_T d 52 4 [a0, ni_kl a1, .int x] st z h Q := ni_T_p rfl rfl
theorem s52_4 : ni_T d 52 4 [a0, a1, .int x] st z h Q = ni_T d 52 5 [a0, a1, .int x] (.int x :: st) z h Q := ni_T_p rfl rfl
theorem s52_5 : ni_T d 52 5 [.ref o, a1, a2] st z h Q = ni_T d 52 6 [.ref o, a1, a2] (.ref o :: st) z h Q := ni_T_p rfl rfl
theorem s52_6 : ni_T d 52 6 [a0, a1, a2] (.ref o :: st) z h Q = (ni_is (h o) 5 2 = true ∧ ni_T d 52 9 [a0, a1, a2] (ni_gv (h o) 2 :: st) z h Q) := ni_T_getf rfl
theorem s52_9 : ni_T d 52 9 [a0, a1, a2] (.int y :: .int x :: st) z h Q = if y ≤ x then ni_T d 52 30 [a0, a1, a2] st z h Q else ni_T d 52 12 [a0, a1, a2] st z h Q := ni_T_b rfl rfl
theorem s52_12 : ni_T d 52 12 [a0, .int x, a2] st z h Q = ni_T d 52 13 [a0, .int x, a2] (.int x :: st) z h Q := ni_T_p rfl rfl
theorem s52_13 : ni_T d 52 13 [.ref o, a1, a2] st z h Q = ni_T d 52 14 [.ref o, a1, a2] (.ref o :: st) z h Q := ni_T_p rfl rfl
theorem s52_14 : ni_T d 52 14 [a0, a1, a2] (.ref o :: st) z h Q = (ni_is (h o) 5 1 = true ∧ ni_T d 52 17 [a0, a1, a2] (ni_gv (h o) 1 :: st) z h Q) := ni_T_getf rfl
theorem s52_17 : ni_T d 52 17 [a0, a1, .int x] st z h Q = ni_T d 52 18 [a0, a1, .int x] (.int x :: st) z h Q := ni_T_p rfl rfl
theorem s52_18 : ni_T d 52 18 [a0, a1, a2] (.int x :: .ref o :: st) z h Q = (ni_okA (h o) x = true ∧ ni_T d 52 19 [a0, a1, a2] (ni_ga (h o) x :: st) z h Q) := ni_T_aald rfl
theorem s52_19 : ni_T d 52 19 [a0, a1, a2] (.ref o :: st) z h Q = (ni_is (h o) 1 5 = true ∧ ni_T d 52 22 [a0, a1, a2] (ni_gv (h o) 5 :: st) z h Q) := ni_T_getf rfl
theorem s52_22 : ni_T d 52 22 [a0, a1, a2] (.int y :: .int x :: st) z h Q = ni_T d 52 23 [a0, a1, a2] (.int (x + y) :: st) z h Q := ni_T_p rfl rfl
theorem s52_23 : ni_T d 52 23 [a0, a1, a2] (.int x :: st) z h Q = ni_T d 52 24 [ni_kl a0, .int x, a2] st z h Q := ni_T_p rfl rfl
theorem s52_24 : ni_T d 52 24 [a0, a1, .int x] st z h Q = ni_T d 52 27 [a0, ni_kl a1, .int (x + 1)] st z h Q := ni_T_p rfl rfl
theorem s52_27 : ni_T d 52 27 [a0, a1, a2] st z h Q = ni_T d 52 4 [a0, a1, a2] st z h Q := ni_T_p rfl rfl
theorem s52_30 : ni_T d 52 30 [a0, .int x, a2] st z h Q = ni_T d 52 31 [a0, .int x, a2] (.int x :: st) z h Q := ni_T_p rfl rfl
theorem s52_31 : ni_T d 52 31 [a0, a1, a2] [.int x] z h Q = Q (some (.int x)) z h := ni_T_i rfl rfl
theorem s53_0 : ni_T d 53 0 [a0, a1, a2] st z h Q = ni_T d 53 1 [a0, a1, a2] (.int 0 :: st) z h Q := ni_T_p rfl rfl
theorem s53_1 : ni_T d 53 1 [a0, a1, a2] (.int x :: st) z h Q = ni_T d 53 2 [ni_kl a0, .int x, a2] st z h Q := ni_T_p rfl rfl
theorem s53_2 : ni_T d 53 2 [a0, a1, a2] st z h Q = ni_T d 53 3 [a0, a1, a2] (.int 0 :: st) z h Q := ni_T_p rfl rfl
theorem s53_3 : ni_T d 53 3 [a0, a1, a2] (.int x :: st) z h Q = ni_T d 53 4 [a0, ni_kl a1, .int x] st z h Q := ni_T_p rfl rfl
theorem s53_4 : ni_T d 53 4 [a0, a1, .int x] st z h Q = ni_T d 53 5 [a0, a1, .int x] (.int x :: st) z h Q := ni_T_p rfl rfl
theorem s53_5 : ni_T d 53 5 [a0, a1, a2] st z h Q = ni_T d 53 6 [a0, a1, a2] (.int 5 :: st) z h Q := ni_T_p rfl rfl
theorem s53_6 : ni_T d 53 6 [a0, a1, a2] (.int y :: .int x :: st) z h Q = if y ≤ x then ni_T d 53 35 [a0, a1, a2] st z h Q else ni_T d 53 9 [a0, a1, a2] st z h Q := ni_T_b rfl rfl
theorem s53_9 : ni_T d 53 9 [a0, .int x, a2] st z h Q = ni_T d 53 10 [a0, .int x, a2] (.int x :: st) z h Q := ni_T_p rfl rfl
theorem s53_10 : ni_T d 53 10 [.ref o, a1, a2] st z h Q = ni_T d 53 11 [.ref o, a1, a2] (.ref o :: st) z h Q := ni_T_p rfl rfl
theorem s53_11 : ni_T d 53 11 [a0, a1, a2] (.ref o :: st) z h Q = (ni_is (h o) 5 0 = true ∧ ni_T d 53 14 [a0, a1, a2] (ni_gv (h o) 0 :: st) z h Q) := ni_T_getf rfl
theorem s53_14 : ni_T d 53 14 [a0, a1, .int x] st z h Q = ni_T d 53 15 [a0, a1, .int x] (.int x :: st) z h Q := ni_T_p rfl rfl
theorem s53_15 : ni_T d 53 15 [a0, a1, a2] (.int x :: .ref o :: st) z h Q = (ni_okI (h o) x = true ∧ ni_T d 53 16 [a0, a1, a2] (.int (ni_gi (h o) x) :: st) z h Q) := ni_T_iald rfl
theorem s53_16 : ni_T d 53 16 [a0, a1, a2] st z h Q = ni_T d 53 17 [a0, a1, a2] (.int (-1) :: st) z h Q := ni_T_p rfl rfl
theorem s53_17 : ni_T d 53 17 [a0, a1, a2] (.int y :: .int x :: st) z h Q = if x = y then ni_T d 53 20 [a0, a1, a2] st z h Q else ni_T d 53 24 [a0, a1, a2] st z h Q := ni_T_b rfl rfl
theorem s53_20 : ni_T d 53 20 [a0, a1, a2] st z h Q = ni_T d 53 21 [a0, a1, a2] (.int 0 :: st) z h Q := ni_T_p rfl rfl
theorem s53_21 : ni_T d 53 21 [a0, a1, a2] st z h Q = ni_T d 53 27 [a0, a1, a2] st z h Q := ni_T_p rfl rfl
theorem s53_24 : ni_T d 53 24 [a0, a1, a2] st z h Q = ni_T d 53 25 [a0, a1, a2] (.int 1 :: st) z h Q := ni_T_p rfl rfl
theorem s53_25 : ni_T d 53 25 [a0, a1, .int x] st z h Q = ni_T d 53 26 [a0, a1, .int x] (.int x :: st) z h Q := ni_T_p rfl rfl
theorem s53_26 : ni_T d 53 26 [a0, a1, a2] (.int y :: .int x :: st) z h Q = ni_T d 53 27 [a0, a1, a2] (.int (x <<< (y &&& 31)) :: st) z h Q := ni_T_p rfl rfl
theorem s53_27 : ni_T d 53 27 [a0, a1, a2] (.int y :: .int x :: st) z h Q = ni_T d 53 28 [a0, a1, a2] (.int (x ||| y) :: st) z h Q := ni_T_p rfl rfl
theorem s53_28 : ni_T d 53 28 [a0, a1, a2] (.int x :: st) z h Q = ni_T d 53 29 [ni_kl a0, .int x, a2] st z h Q := ni_T_p rfl rfl
theorem s53_29 : ni_T d 53 29 [a0, a1, .int x] st z h Q = ni_T d 53 32 [a0, ni_kl a1, .int (x + 1)] st z h Q := ni_T_p rfl rfl
theorem s53_32 : ni_T d 53 32 [a0, a1, a2] st z h Q = ni_T d 53 4 [a0, a1, a2] st z h Q := ni_T_p rfl rfl
theorem s53_35 : ni_T d 53 35 [a0, .int x, a2] st z h Q = ni_T d 53 36 [a0, .int x, a2] (.int x :: st) z h Q := ni_T_p rfl rfl
theorem s53_36 : ni_T d 53 36 [a0, a1, a2] [.int x] z h Q = Q (some (.int x)) z h := ni_T_i rfl rfl
theorem s54_0 : ni_T d 54 0 [a0, .int x] st z h Q = ni_T d 54 1 [a0, .int x] (.int x :: st) z h Q := ni_T_p rfl rfl
theorem s54_1 : ni_T d 54 1 [.ref o, a1] st z h Q = ni_T d 54 2 [.ref o, a1] (.ref o :: st) z h Q := ni_T_p rfl rfl
theorem s54_2 : ni_T (d + 1) 54 2 [a0, a1] (.ref o :: st) z h Q = (ni_rc (h o) 5 = true ∧ Nat.ble (ni_sw st) 8 = true ∧ ni_T d 53 0 [.ref o, .retAddr 0, .retAddr 0] [] z h (ni_K (d + 1) 54 5 [a0, a1] st z Q)) := ni_T_ce [.ref o] rfl rfl rfl rfl rfl rfl rfl rfl rfl
theorem s54_5 : ni_T (d + 1) 54 5 [a0, a1] (.int x1 :: .int x0 :: st) z h Q = (Nat.ble (ni_sw st) 8 = true ∧ ni_T d 118 0 [.int x0, .int x1] [] z h (ni_K (d + 1) 54 8 [a0, a1] st z Q)) := ni_T_cse [.int x0, .int x1] rfl rfl rfl rfl rfl rfl rfl rfl rfl
theorem s54_8 : ni_T d 54 8 [a0, a1] [.int x] z h Q = (narrow .boolean (.int x) = .int x ∧ Q (some (.int x)) z h) := ni_T_z rfl rfl
theorem s55_0 : ni_T d 55 0 [a0, a1, .int x, a3] st z h Q = ni_T d 55 1 [a0, a1, .int x, a3] (.int x :: st) z h Q := ni_T_p rfl rfl
theorem s55_1 : ni_T d 55 1 [a0, a1, a2, a3] (.int x :: st) z h Q = if x < 0 then ni_T d 55 10 [a0, a1, a2, a3] st z h Q else ni_T d 55 4 [a0, a1, a2, a3] st z h Q := ni_T_b rfl rfl
theorem s55_4 : ni_T d 55 4 [a0, a1, .int x, a3] st z h Q = ni_T d 55 5 [a0, a1, .int x, a3] (.int x :: st) z h Q := ni_T_p rfl rfl
theorem s55_5 : ni_T d 55 5 [a0, a1, a2, a3] st z h Q = ni_T d 55 7 [a0, a1, a2, a3] (.int 36 :: st) z h Q := ni_T_p rfl rfl
theorem s55_7 : ni_T d 55 7 [a0, a1, a2, a3] (.int y :: .int x :: st) z h Q = if x < y then ni_T d 55 12 [a0, a1, a2, a3] st z h Q else ni_T d 55 10 [a0, a1, a2, a3] st z h Q := ni_T_b rfl rfl
theorem s55_10 : ni_T d 55 10 [a0, a1, a2, a3] st z h Q = ni_T d 55 11 [a0, a1, a2, a3] (.int 0 :: st) z h Q := ni_T_p rfl rfl
theorem s55_11 : ni_T d 55 11 [a0, a1, a2, a3] [.int x] z h Q = (narrow .boolean (.int x) = .int x ∧ Q (some (.int x)) z h) := ni_T_z rfl rfl
theorem s55_12 : ni_T d 55 12 [a0, a1, a2, a3] st z h Q = ni_T d 55 13 [a0, a1, a2, a3] (.int 0 :: st) z h Q := ni_T_p rfl rfl
theorem s55_13 : ni_T d 55 13 [a0, a1, a2, a3] (.int x :: st) z h Q = ni_T d 55 14 [a0, a1, ni_kl a2, .int x] st z h Q := ni_T_p rfl rfl
theorem s55_14 : ni_T d 55 14 [a0, a1, a2, .int x] st z h Q = ni_T d 55 15 [a0, a1, a2, .int x] (.int x :: st) z h Q := ni_T_p rfl rfl
theorem s55_15 : ni_T d 55 15 [a0, a1, a2, a3] st z h Q = ni_T d 55 16 [a0, a1, a2, a3] (.int 5 :: st) z h Q := ni_T_p rfl rfl
theorem s55_16 : ni_T d 55 16 [a0, a1, a2, a3] (.int y :: .int x :: st) z h Q = if y ≤ x then ni_T d 55 42 [a0, a1, a2, a3] st z h Q else ni_T d 55 19 [a0, a1, a2, a3] st z h Q := ni_T_b rfl rfl
theorem s55_19 : ni_T d 55 19 [a0, a1, a2, .int x] st z h Q = ni_T d 55 20 [a0, a1, a2, .int x] (.int x :: st) z h Q := ni_T_p rfl rfl
theorem s55_20 : ni_T d 55 20 [a0, .int x, a2, a3] st z h Q = ni_T d 55 21 [a0, .int x, a2, a3] (.int x :: st) z h Q := ni_T_p rfl rfl
theorem s55_21 : ni_T d 55 21 [a0, a1, a2, a3] (.int y :: .int x :: st) z h Q = if x = y then ni_T d 55 36 [a0, a1, a2, a3] st z h Q else ni_T d 55 24 [a0, a1, a2, a3] st z h Q := ni_T_b rfl rfl
theorem s55_24 : ni_T d 55 24 [.ref o, a1, a2, a3] st z h Q = ni_T d 55 25 [.ref o, a1, a2, a3] (.ref o :: st) z h Q := ni_T_p rfl rfl
theorem s55_25 : ni_T d 55 25 [a0, a1, a2, a3] (.ref o :: st) z h Q = (ni_is (h o) 5 0 = true ∧ ni_T d 55 28 [a0, a1, a2, a3] (ni_gv (h o) 0 :: st) z h Q) := ni_T_getf rfl
theorem s55_28 : ni_T d 55 28 [a0, a1, a2, .int x] st z h Q = ni_T d 55 29 [a0, a1, a2, .int x] (.int x :: st) z h Q := ni_T_p rfl rfl
theorem s55_29 : ni_T d 55 29 [a0, a1, a2, a3] (.int x :: .ref o :: st) z h Q = (ni_okI (h o) x = true ∧ ni_T d 55 30 [a0, a1, a2, a3] (.int (ni_gi (h o) x) :: st) z h Q) := ni_T_iald rfl
theorem s55_30 : ni_T d 55 30 [a0, a1, .int x, a3] st z h Q = ni_T d 55 31 [a0, a1, .int x, a3] (.int x :: st) z h Q := ni_T_p rfl rfl
theorem s55_31 : ni_T d 55 31 [a0, a1, a2, a3] (.int y :: .int x :: st) z h Q = if x = y then ni_T d 55 34 [a0, a1, a2, a3] st z h Q else ni_T d 55 36 [a0, a1, a2, a3] st z h Q := ni_T_b rfl rfl
theorem s55_34 : ni_T d 55 34 [a0, a1, a2, a3] st z h Q = ni_T d 55 35 [a0, a1, a2, a3] (.int 0 :: st) z h Q := ni_T_p rfl rfl
theorem s55_35 : ni_T d 55 35 [a0, a1, a2, a3] [.int x] z h Q = (narrow .boolean (.int x) = .int x ∧ Q (some (.int x)) z h) := ni_T_z rfl rfl
theorem s55_36 : ni_T d 55 36 [a0, a1, a2, .int x] st z h Q = ni_T d 55 39 [a0, a1, ni_kl a2, .int (x + 1)] st z h Q := ni_T_p rfl rfl
theorem s55_39 : ni_T d 55 39 [a0, a1, a2, a3] st z h Q = ni_T d 55 14 [a0, a1, a2, a3] st z h Q := ni_T_p rfl rfl
theorem s55_42 : ni_T d 55 42 [a0, a1, a2, a3] st z h Q = ni_T d 55 43 [a0, a1, a2, a3] (.int 1 :: st) z h Q := ni_T_p rfl rfl
theorem s55_43 : ni_T d 55 43 [a0, a1, a2, a3] [.int x] z h Q = (narrow .boolean (.int x) = .int x ∧ Q (some (.int x)) z h) := ni_T_z rfl rfl
theorem s56_0 : ni_T d 56 0 [a0, a1, a2, a3] st z h Q = ni_T d 56 1 [a0, a1, a2, a3] (.int 0 :: st) z h Q := ni_T_p rfl rfl
theorem s56_1 : ni_T d 56 1 [a0, a1, a2, a3] (.int x :: st) z h Q = ni_T d 56 2 [ni_kl a0, .int x, a2, a3] st z h Q := ni_T_p rfl rfl
theorem s56_2 : ni_T d 56 2 [a0, a1, a2, a3] st z h Q = ni_T d 56 3 [a0, a1, a2, a3] (.int 0 :: st) z h Q := ni_T_p rfl rfl
theorem s56_3 : ni_T d 56 3 [a0, a1, a2, a3] (.int x :: st) z h Q = ni_T d 56 4 [a0, ni_kl a1, .int x, a3] st z h Q := ni_T_p rfl rfl
theorem s56_4 : ni_T d 56 4 [a0, a1, .int x, a3] st z h Q = ni_T d 56 5 [a0, a1, .int x, a3] (.int x :: st) z h Q := ni_T_p rfl rfl
theorem s56_5 : ni_T d 56 5 [a0, a1, a2, a3] st z h Q = ni_T d 56 6 [a0, a1, a2, a3] (.int 5 :: st) z h Q := ni_T_p rfl rfl
theorem s56_6 : ni_T d 56 6 [a0, a1, a2, a3] (.int y :: .int x :: st) z h Q = if y ≤ x then ni_T d 56 70 [a0, a1, a2, a3] st z h Q else ni_T d 56 9 [a0, a1, a2, a3] st z h Q := ni_T_b rfl rfl
theorem s56_9 : ni_T d 56 9 [a0, a1, .int x, a3] st z h Q = ni_T d 56 10 [a0, a1, .int x, a3] (.int x :: st) z h Q := ni_T_p rfl rfl
theorem s56_10 : ni_T d 56 10 [a0, a1, a2, a3] st z h Q = ni_T d 56 11 [a0, a1, a2, a3] (.int 1 :: st) z h Q := ni_T_p rfl rfl
theorem s56_11 : ni_T d 56 11 [a0, a1, a2, a3] (.int y :: .int x :: st) z h Q = ni_T d 56 12 [a0, a1, a2, a3] (.int (x + y) :: st) z h Q := ni_T_p rfl rfl
theorem s56_12 : ni_T d 56 12 [a0, a1, a2, a3] (.int x :: st) z h Q = ni_T d 56 13 [a0, a1, ni_kl a2, .int x] st z h Q := ni_T_p rfl rfl
theorem s56_13 : ni_T d 56 13 [a0, a1, a2, .int x] st z h Q = ni_T d 56 14 [a0, a1, a2, .int x] (.int x :: st) z h Q := ni_T_p rfl rfl
theorem s56_14 : ni_T d 56 14 [a0, a1, a2, a3] st z h Q = ni_T d 56 15 [a0, a1, a2, a3] (.int 5 :: st) z h Q := ni_T_p rfl rfl
theorem s56_15 : ni_T d 56 15 [a0, a1, a2, a3] (.int y :: .int x :: st) z h Q = if y ≤ x then ni_T d 56 64 [a0, a1, a2, a3] st z h Q else ni_T d 56 18 [a0, a1, a2, a3] st z h Q := ni_T_b rfl rfl
theorem s56_18 : ni_T d 56 18 [.ref o, a1, a2, a3] st z h Q = ni_T d 56 19 [.ref o, a1, a2, a3] (.ref o :: st) z h Q := ni_T_p rfl rfl
theorem s56_19 : ni_T d 56 19 [a0, a1, a2, a3] (.ref o :: st) z h Q = (ni_is (h o) 5 0 = true ∧ ni_T d 56 22 [a0, a1, a2, a3] (ni_gv (h o) 0 :: st) z h Q) := ni_T_getf rfl
theorem s56_22 : ni_T d 56 22 [a0, a1, .int x, a3] st z h Q = ni_T d 56 23 [a0, a1, .int x, a3] (.int x :: st) z h Q := ni_T_p rfl rfl
theorem s56_23 : ni_T d 56 23 [a0, a1, a2, a3] (.int x :: .ref o :: st) z h Q = (ni_okI (h o) x = true ∧ ni_T d 56 24 [a0, a1, a2, a3] (.int (ni_gi (h o) x) :: st) z h Q) := ni_T_iald rfl
theorem s56_24 : ni_T d 56 24 [a0, a1, a2, a3] st z h Q = ni_T d 56 25 [a0, a1, a2, a3] (.int (-1) :: st) z h Q := ni_T_p rfl rfl
theorem s56_25 : ni_T d 56 25 [a0, a1, a2, a3] (.int y :: .int x :: st) z h Q = if x = y then ni_T d 56 58 [a0, a1, a2, a3] st z h Q else ni_T d 56 28 [a0, a1, a2, a3] st z h Q := ni_T_b rfl rfl
theorem s56_28 : ni_T d 56 28 [.ref o, a1, a2, a3] st z h Q = ni_T d 56 29 [.ref o, a1, a2, a3] (.ref o :: st) z h Q := ni_T_p rfl rfl
theorem s56_29 : ni_T d 56 29 [a0, a1, a2, a3] (.ref o :: st) z h Q = (ni_is (h o) 5 0 = true ∧ ni_T d 56 32 [a0, a1, a2, a3] (ni_gv (h o) 0 :: st) z h Q) := ni_T_getf rfl
theorem s56_32 : ni_T d 56 32 [a0, a1, a2, .int x] st z h Q = ni_T d 56 33 [a0, a1, a2, .int x] (.int x :: st) z h Q := ni_T_p rfl rfl
theorem s56_33 : ni_T d 56 33 [a0, a1, a2, a3] (.int x :: .ref o :: st) z h Q = (ni_okI (h o) x = true ∧ ni_T d 56 34 [a0, a1, a2, a3] (.int (ni_gi (h o) x) :: st) z h Q) := ni_T_iald rfl
theorem s56_34 : ni_T d 56 34 [a0, a1, a2, a3] st z h Q = ni_T d 56 35 [a0, a1, a2, a3] (.int (-1) :: st) z h Q := ni_T_p rfl rfl
theorem s56_35 : ni_T d 56 35 [a0, a1, a2, a3] (.int y :: .int x :: st) z h Q = if x = y then ni_T d 56 58 [a0, a1, a2, a3] st z h Q else ni_T d 56 38 [a0, a1, a2, a3] st z h Q := ni_T_b rfl rfl
theorem s56_38 : ni_T d 56 38 [a0, .int x, a2, a3] st z h Q = ni_T d 56 39 [a0, .int x, a2, a3] (.int x :: st) z h Q := ni_T_p rfl rfl
theorem s56_39 : ni_T d 56 39 [.ref o, a1, a2, a3] st z h Q = ni_T d 56 40 [.ref o, a1, a2, a3] (.ref o :: st) z h Q := ni_T_p rfl rfl
theorem s56_40 : ni_T d 56 40 [a0, a1, a2, a3] (.ref o :: st) z h Q = (ni_is (h o) 5 0 = true ∧ ni_T d 56 43 [a0, a1, a2, a3] (ni_gv (h o) 0 :: st) z h Q) := ni_T_getf rfl
theorem s56_43 : ni_T d 56 43 [a0, a1, .int x, a3] st z h Q = ni_T d 56 44 [a0, a1, .int x, a3] (.int x :: st) z h Q := ni_T_p rfl rfl
theorem s56_44 : ni_T d 56 44 [a0, a1, a2, a3] (.int x :: .ref o :: st) z h Q = (ni_okI (h o) x = true ∧ ni_T d 56 45 [a0, a1, a2, a3] (.int (ni_gi (h o) x) :: st) z h Q) := ni_T_iald rfl
theorem s56_45 : ni_T d 56 45 [.ref o, a1, a2, a3] st z h Q = ni_T d 56 46 [.ref o, a1, a2, a3] (.ref o :: st) z h Q := ni_T_p rfl rfl
theorem s56_46 : ni_T d 56 46 [a0, a1, a2, a3] (.ref o :: st) z h Q = (ni_is (h o) 5 0 = true ∧ ni_T d 56 49 [a0, a1, a2, a3] (ni_gv (h o) 0 :: st) z h Q) := ni_T_getf rfl
theorem s56_49 : ni_T d 56 49 [a0, a1, a2, .int x] st z h Q = ni_T d 56 50 [a0, a1, a2, .int x] (.int x :: st) z h Q := ni_T_p rfl rfl
theorem s56_50 : ni_T d 56 50 [a0, a1, a2, a3] (.int x :: .ref o :: st) z h Q = (ni_okI (h o) x = true ∧ ni_T d 56 51 [a0, a1, a2, a3] (.int (ni_gi (h o) x) :: st) z h Q) := ni_T_iald rfl
theorem s56_51 : ni_T (d + 1) 56 51 [a0, a1, a2, a3] (.int x1 :: .int x0 :: st) z h Q = (Nat.ble (ni_sw st) 8 = true ∧ ni_T d 117 0 [.int x0, .int x1] [] z h (ni_K (d + 1) 56 54 [a0, a1, a2, a3] st z Q)) := ni_T_cse [.int x0, .int x1] rfl rfl rfl rfl rfl rfl rfl rfl rfl
theorem s56_54 : ni_T (d + 1) 56 54 [a0, a1, a2, a3] (.int y :: .int x :: st) z h Q = (Nat.ble (ni_sw st) 8 = true ∧ ni_T (d + 1) 56 57 [a0, a1, a2, a3] (.int (if x < y then y else x) :: st) z h Q) := ni_T_mmaxc rfl rfl
theorem s56_57 : ni_T d 56 57 [a0, a1, a2, a3] (.int x :: st) z h Q = ni_T d 56 58 [ni_kl a0, .int x, a2, a3] st z h Q := ni_T_p rfl rfl
theorem s56_58 : ni_T d 56 58 [a0, a1, a2, .int x] st z h Q = ni_T d 56 61 [a0, a1, ni_kl a2, .int (x + 1)] st z h Q := ni_T_p rfl rfl
theorem s56_61 : ni_T d 56 61 [a0, a1, a2, a3] st z h Q = ni_T d 56 13 [a0, a1, a2, a3] st z h Q := ni_T_p rfl rfl
theorem s56_64 : ni_T d 56 64 [a0, a1, .int x, a3] st z h Q = ni_T d 56 67 [a0, ni_kl a1, .int (x + 1), a3] st z h Q := ni_T_p rfl rfl
theorem s56_67 : ni_T d 56 67 [a0, a1, a2, a3] st z h Q = ni_T d 56 4 [a0, a1, a2, a3] st z h Q := ni_T_p rfl rfl
theorem s56_70 : ni_T d 56 70 [a0, .int x, a2, a3] st z h Q = ni_T d 56 71 [a0, .int x, a2, a3] (.int x :: st) z h Q := ni_T_p rfl rfl
theorem s56_71 : ni_T d 56 71 [a0, a1, a2, a3] [.int x] z h Q = Q (some (.int x)) z h := ni_T_i rfl rfl
theorem s57_0 : ni_T d 57 0 [a0, a1, a2, a3] st z h Q = ni_T d 57 1 [a0, a1, a2, a3] (.int 0 :: st) z h Q := ni_T_p rfl rfl
theorem s57_1 : ni_T d 57 1 [a0, a1, a2, a3] (.int x :: st) z h Q = ni_T d 57 2 [ni_kl a0, .int x, a2, a3] st z h Q := ni_T_p rfl rfl
theorem s57_2 : ni_T d 57 2 [a0, a1, a2, a3] st z h Q = ni_T d 57 3 [a0, a1, a2, a3] (.int 0 :: st) z h Q := ni_T_p rfl rfl
theorem s57_3 : ni_T d 57 3 [a0, a1, a2, a3] (.int x :: st) z h Q = ni_T d 57 4 [a0, ni_kl a1, .int x, a3] st z h Q := ni_T_p rfl rfl
theorem s57_4 : ni_T d 57 4 [a0, a1, .int x, a3] st z h Q = ni_T d 57 5 [a0, a1, .int x, a3] (.int x :: st) z h Q := ni_T_p rfl rfl
theorem s57_5 : ni_T d 57 5 [a0, a1, a2, a3] st z h Q = ni_T d 57 6 [a0, a1, a2, a3] (.int 5 :: st) z h Q := ni_T_p rfl rfl
theorem s57_6 : ni_T d 57 6 [a0, a1, a2, a3] (.int y :: .int x :: st) z h Q = if y ≤ x then ni_T d 57 42 [a0, a1, a2, a3] st z h Q else ni_T d 57 9 [a0, a1, a2, a3] st z h Q := ni_T_b rfl rfl
theorem s57_9 : ni_T d 57 9 [a0, a1, .int x, a3] st z h Q = ni_T d 57 10 [a0, a1, .int x, a3] (.int x :: st) z h Q := ni_T_p rfl rfl
theorem s57_10 : ni_T d 57 10 [a0, a1, a2, a3] st z h Q = ni_T d 57 11 [a0, a1, a2, a3] (.int 1 :: st) z h Q := ni_T_p rfl rfl
theorem s57_11 : ni_T d 57 11 [a0, a1, a2, a3] (.int y :: .int x :: st) z h Q = ni_T d 57 12 [a0, a1, a2, a3] (.int (x + y) :: st) z h Q := ni_T_p rfl rfl
theorem s57_12 : ni_T d 57 12 [a0, a1, a2, a3] (.int x :: st) z h Q = ni_T d 57 13 [a0, a1, ni_kl a2, .int x] st z h Q := ni_T_p rfl rfl
theorem s57_13 : ni_T d 57 13 [a0, a1, a2, .int x] st z h Q = ni_T d 57 14 [a0, a1, a2, .int x] (.int x :: st) z h Q := ni_T_p rfl rfl
theorem s57_14 : ni_T d 57 14 [a0, a1, a2, a3] st z h Q = ni_T d 57 15 [a0, a1, a2, a3] (.int 5 :: st) z h Q := ni_T_p rfl rfl
theorem s57_15 : ni_T d 57 15 [a0, a1, a2, a3] (.int y :: .int x :: st) z h Q = if y ≤ x then ni_T d 57 36 [a0, a1, a2, a3] st z h Q else ni_T d 57 18 [a0, a1, a2, a3] st z h Q := ni_T_b rfl rfl
theorem s57_18 : ni_T d 57 18 [.ref o, a1, a2, a3] st z h Q = ni_T d 57 19 [.ref o, a1, a2, a3] (.ref o :: st) z h Q := ni_T_p rfl rfl
theorem s57_19 : ni_T d 57 19 [a0, a1, .int x, a3] st z h Q = ni_T d 57 20 [a0, a1, .int x, a3] (.int x :: st) z h Q := ni_T_p rfl rfl
theorem s57_20 : ni_T d 57 20 [a0, a1, a2, .int x] st z h Q = ni_T d 57 21 [a0, a1, a2, .int x] (.int x :: st) z h Q := ni_T_p rfl rfl
theorem s57_21 : ni_T (d + 1) 57 21 [a0, a1, a2, a3] (.int x1 :: .int x0 :: .ref o :: st) z h Q = (ni_rc (h o) 5 = true ∧ Nat.ble (ni_sw st) 8 = true ∧ ni_T d 58 0 [.ref o, .int x0, .int x1] [] z h (ni_K (d + 1) 57 24 [a0, a1, a2, a3] st z Q)) := ni_T_ce [.ref o, .int x0, .int x1] rfl rfl rfl rfl rfl rfl rfl rfl rfl
theorem s57_24 : ni_T d 57 24 [a0, a1, a2, a3] (.int x :: st) z h Q = if x = 0 then ni_T d 57 30 [a0, a1, a2, a3] st z h Q else ni_T d 57 27 [a0, a1, a2, a3] st z h Q := ni_T_b rfl rfl
theorem s57_27 : ni_T d 57 27 [a0, .int x, a2, a3] st z h Q = ni_T d 57 30 [ni_kl a0, .int (x + 1), a2, a3] st z h Q := ni_T_p rfl rfl
theorem s57_30 : ni_T d 57 30 [a0, a1, a2, .int x] st z h Q = ni_T d 57 33 [a0, a1, ni_kl a2, .int (x + 1)] st z h Q := ni_T_p rfl rfl
theorem s57_33 : ni_T d 57 33 [a0, a1, a2, a3] st z h Q = ni_T d 57 13 [a0, a1, a2, a3] st z h Q := ni_T_p rfl rfl
theorem s57_36 : ni_T d 57 36 [a0, a1, .int x, a3] st z h Q = ni_T d 57 39 [a0, ni_kl a1, .int (x + 1), a3] st z h Q := ni_T_p rfl rfl
theorem s57_39 : ni_T d 57 39 [a0, a1, a2, a3] st z h Q = ni_T d 57 4 [a0, a1, a2, a3] st z h Q := ni_T_p rfl rfl
theorem s57_42 : ni_T d 57 42 [a0, .int x, a2, a3] st z h Q = ni_T d 57 43 [a0, .int x, a2, a3] (.int x :: st) z h Q := ni_T_p rfl rfl
theorem s57_43 : ni_T d 57 43 [a0, a1, a2, a3] [.int x] z h Q = Q (some (.int x)) z h := ni_T_i rfl rfl
theorem s58_0 : ni_T d 58 0 [.ref o, a1, a2] st z h Q = ni_T d 58 1 [.ref o, a1, a2] (.ref o :: st) z h Q := ni_T_p rfl rfl
theorem s58_1 : ni_T d 58 1 [a0, a1, a2] (.ref o :: st) z h Q = (ni_is (h o) 5 0 = true ∧ ni_T d 58 4 [a0, a1, a2] (ni_gv (h o) 0 :: st) z h Q) := ni_T_getf rfl
theorem s58_4 : ni_T d 58 4 [a0, .int x, a2] st z h Q = ni_T d 58 5 [a0, .int x, a2] (.int x :: st) z h Q := ni_T_p rfl rfl
theorem s58_5 : ni_T d 58 5 [a0, a1, a2] (.int x :: .ref o :: st) z h Q = (ni_okI (h o) x = true ∧ ni_T d 58 6 [a0, a1, a2] (.int (ni_gi (h o) x) :: st) z h Q) := ni_T_iald rfl
theorem s58_6 : ni_T d 58 6 [a0, a1, a2] st z h Q = ni_T d 58 7 [a0, a1, a2] (.int (-1) :: st) z h Q := ni_T_p rfl rfl
theorem s58_7 : ni_T d 58 7 [a0, a1, a2] (.int y :: .int x :: st) z h Q = if x = y then ni_T d 58 43 [a0, a1, a2] st z h Q else ni_T d 58 10 [a0, a1, a2] st z h Q := ni_T_b rfl rfl
theorem s58_10 : ni_T d 58 10 [.ref o, a1, a2] st z h Q = ni_T d 58 11 [.ref o, a1, a2] (.ref o :: st) z h Q := ni_T_p rfl rfl
theorem s58_11 : ni_T d 58 11 [a0, a1, a2] (.ref o :: st) z h Q = (ni_is (h o) 5 0 = true ∧ ni_T d 58 14 [a0, a1, a2] (ni_gv (h o) 0 :: st) z h Q) := ni_T_getf rfl
theorem s58_14 : ni_T d 58 14 [a0, a1, .int x] st z h Q = ni_T d 58 15 [a0, a1, .int x] (.int x :: st) z h Q := ni_T_p rfl rfl
theorem s58_15 : ni_T d 58 15 [a0, a1, a2] (.int x :: .ref o :: st) z h Q = (ni_okI (h o) x = true ∧ ni_T d 58 16 [a0, a1, a2] (.int (ni_gi (h o) x) :: st) z h Q) := ni_T_iald rfl
theorem s58_16 : ni_T d 58 16 [a0, a1, a2] st z h Q = ni_T d 58 17 [a0, a1, a2] (.int (-1) :: st) z h Q := ni_T_p rfl rfl
theorem s58_17 : ni_T d 58 17 [a0, a1, a2] (.int y :: .int x :: st) z h Q = if x = y then ni_T d 58 43 [a0, a1, a2] st z h Q else ni_T d 58 20 [a0, a1, a2] st z h Q := ni_T_b rfl rfl
theorem s58_20 : ni_T d 58 20 [.ref o, a1, a2] st z h Q = ni_T d 58 21 [.ref o, a1, a2] (.ref o :: st) z h Q := ni_T_p rfl rfl
theorem s58_21 : ni_T d 58 21 [a0, a1, a2] (.ref o :: st) z h Q = (ni_is (h o) 5 0 = true ∧ ni_T d 58 24 [a0, a1, a2] (ni_gv (h o) 0 :: st) z h Q) := ni_T_getf rfl
theorem s58_24 : ni_T d 58 24 [a0, .int x, a2] st z h Q = ni_T d 58 25 [a0, .int x, a2] (.int x :: st) z h Q := ni_T_p rfl rfl
theorem s58_25 : ni_T d 58 25 [a0, a1, a2] (.int x :: .ref o :: st) z h Q = (ni_okI (h o) x = true ∧ ni_T d 58 26 [a0, a1, a2] (.int (ni_gi (h o) x) :: st) z h Q) := ni_T_iald rfl
theorem s58_26 : ni_T d 58 26 [.ref o, a1, a2] st z h Q = ni_T d 58 27 [.ref o, a1, a2] (.ref o :: st) z h Q := ni_T_p rfl rfl
theorem s58_27 : ni_T d 58 27 [a0, a1, a2] (.ref o :: st) z h Q = (ni_is (h o) 5 0 = true ∧ ni_T d 58 30 [a0, a1, a2] (ni_gv (h o) 0 :: st) z h Q) := ni_T_getf rfl
theorem s58_30 : ni_T d 58 30 [a0, a1, .int x] st z h Q = ni_T d 58 31 [a0, a1, .int x] (.int x :: st) z h Q := ni_T_p rfl rfl
theorem s58_31 : ni_T d 58 31 [a0, a1, a2] (.int x :: .ref o :: st) z h Q = (ni_okI (h o) x = true ∧ ni_T d 58 32 [a0, a1, a2] (.int (ni_gi (h o) x) :: st) z h Q) := ni_T_iald rfl
theorem s58_32 : ni_T (d + 1) 58 32 [a0, a1, a2] (.int x1 :: .int x0 :: st) z h Q = (Nat.ble (ni_sw st) 8 = true ∧ ni_T d 117 0 [.int x0, .int x1] [] z h (ni_K (d + 1) 58 35 [a0, a1, a2] st z Q)) := ni_T_cse [.int x0, .int x1] rfl rfl rfl rfl rfl rfl rfl rfl rfl
theorem s58_35 : ni_T d 58 35 [a0, a1, a2] st z h Q = ni_T d 58 36 [a0, a1, a2] (.int 1 :: st) z h Q := ni_T_p rfl rfl
theorem s58_36 : ni_T d 58 36 [a0, a1, a2] (.int y :: .int x :: st) z h Q = if x = y then ni_T d 58 39 [a0, a1, a2] st z h Q else ni_T d 58 43 [a0, a1, a2] st z h Q := ni_T_b rfl rfl
theorem s58_39 : ni_T d 58 39 [a0, a1, a2] st z h Q = ni_T d 58 40 [a0, a1, a2] (.int 1 :: st) z h Q := ni_T_p rfl rfl
theorem s58_40 : ni_T d 58 40 [a0, a1, a2] st z h Q = ni_T d 58 44 [a0, a1, a2] st z h Q := ni_T_p rfl rfl
theorem s58_43 : ni_T d 58 43 [a0, a1, a2] st z h Q = ni_T d 58 44 [a0, a1, a2] (.int 0 :: st) z h Q := ni_T_p rfl rfl
theorem s58_44 : ni_T d 58 44 [a0, a1, a2] [.int x] z h Q = (narrow .boolean (.int x) = .int x ∧ Q (some (.int x)) z h) := ni_T_z rfl rfl
theorem s59_0 : ni_T d 59 0 [a0, a1, a2, a3, a4] st z h Q = ni_T d 59 1 [a0, a1, a2, a3, a4] (.int (-1) :: st) z h Q := ni_T_p rfl rfl
theorem s59_1 : ni_T d 59 1 [a0, a1, a2, a3, a4] (.int x :: st) z h Q = ni_T d 59 2 [ni_kl a0, .int x, a2, a3, a4] st z h Q := ni_T_p rfl rfl
theorem s59_2 : ni_T d 59 2 [a0, a1, a2, a3, a4] st z h Q = ni_T d 59 3 [a0, a1, a2, a3, a4] (.int 0 :: st) z h Q := ni_T_p rfl rfl
theorem s59_3 : ni_T d 59 3 [a0, a1, a2, a3, a4] (.int x :: st) z h Q = ni_T d 59 4 [a0, ni_kl a1, .int x, a3, a4] st z h Q := ni_T_p rfl rfl
theorem s59_4 : ni_T d 59 4 [a0, a1, a2, a3, a4] st z h Q = ni_T d 59 5 [a0, a1, a2, a3, a4] (.int 0 :: st) z h Q := ni_T_p rfl rfl
theorem s59_5 : ni_T d 59 5 [a0, a1, a2, a3, a4] (.int x :: st) z h Q = ni_T d 59 6 [a0, a1, ni_kl a2, .int x, a4] st z h Q := ni_T_p rfl rfl
theorem s59_6 : ni_T d 59 6 [a0, a1, a2, .int x, a4] st z h Q = ni_T d 59 7 [a0, a1, a2, .int x, a4] (.int x :: st) z h Q := ni_T_p rfl rfl
theorem s59_7 : ni_T d 59 7 [a0, a1, a2, a3, a4] st z h Q = ni_T d 59 8 [a0, a1, a2, a3, a4] (.int 5 :: st) z h Q := ni_T_p rfl rfl
theorem s59_8 : ni_T d 59 8 [a0, a1, a2, a3, a4] (.int y :: .int x :: st) z h Q = if y ≤ x then ni_T d 59 35 [a0, a1, a2, a3, a4] st z h Q else ni_T d 59 11 [a0, a1, a2, a3, a4] st z h Q := ni_T_b rfl rfl
theorem s59_11 : ni_T d 59 11 [.ref o, a1, a2, a3, a4] st z h Q = ni_T d 59 12 [.ref o, a1, a2, a3, a4] (.ref o :: st) z h Q := ni_T_p rfl rfl
theorem s59_12 : ni_T d 59 12 [a0, a1, a2, .int x, a4] st z h Q = ni_T d 59 13 [a0, a1, a2, .int x, a4] (.int x :: st) z h Q := ni_T_p rfl rfl
theorem s59_13 : ni_T (d + 1) 59 13 [a0, a1, a2, a3, a4] (.int x0 :: .ref o :: st) z h Q = (ni_rc (h o) 5 = true ∧ Nat.ble (ni_sw st) 8 = true ∧ ni_T d 60 0 [.ref o, .int x0, .retAddr 0, .retAddr 0, .retAddr 0] [] z h (ni_K (d + 1) 59 16 [a0, a1, a2, a3, a4] st z Q)) := ni_T_ce [.ref o, .int x0] rfl rfl rfl rfl rfl rfl rfl rfl rfl
theorem s59_16 : ni_T d 59 16 [a0, a1, a2, a3, a4] (.int x :: st) z h Q = ni_T d 59 18 [a0, a1, a2, ni_kl a3, .int x] st z h Q := ni_T_p rfl rfl
theorem s59_18 : ni_T d 59 18 [a0, a1, a2, a3, .int x] st z h Q = ni_T d 59 20 [a0, a1, a2, a3, .int x] (.int x :: st) z h Q := ni_T_p rfl rfl
theorem s59_20 : ni_T d 59 20 [a0, a1, .int x, a3, a4] st z h Q = ni_T d 59 21 [a0, a1, .int x, a3, a4] (.int x :: st) z h Q := ni_T_p rfl rfl
theorem s59_21 : ni_T d 59 21 [a0, a1, a2, a3, a4] (.int y :: .int x :: st) z h Q = if x ≤ y then ni_T d 59 29 [a0, a1, a2, a3, a4] st z h Q else ni_T d 59 24 [a0, a1, a2, a3, a4] st z h Q := ni_T_b rfl rfl
theorem s59_24 : ni_T d 59 24 [a0, a1, a2, a3, .int x] st z h Q = ni_T d 59 26 [a0, a1, a2, a3, .int x] (.int x :: st) z h Q := ni_T_p rfl rfl
theorem s59_26 : ni_T d 59 26 [a0, a1, a2, a3, a4] (.int x :: st) z h Q = ni_T d 59 27 [a0, ni_kl a1, .int x, a3, a4] st z h Q := ni_T_p rfl rfl
theorem s59_27 : ni_T d 59 27 [a0, a1, a2, .int x, a4] st z h Q = ni_T d 59 28 [a0, a1, a2, .int x, a4] (.int x :: st) z h Q := ni_T_p rfl rfl
theorem s59_28 : ni_T d 59 28 [a0, a1, a2, a3, a4] (.int x :: st) z h Q = ni_T d 59 29 [ni_kl a0, .int x, a2, a3, a4] st z h Q := ni_T_p rfl rfl
theorem s59_29 : ni_T d 59 29 [a0, a1, a2, .int x, a4] st z h Q = ni_T d 59 32 [a0, a1, ni_kl a2, .int (x + 1), a4] st z h Q := ni_T_p rfl rfl
theorem s59_32 : ni_T d 59 32 [a0, a1, a2, a3, a4] st z h Q = ni_T d 59 6 [a0, a1, a2, a3, a4] st z h Q := ni_T_p rfl rfl
theorem s59_35 : ni_T d 59 35 [a0, .int x, a2, a3, a4] st z h Q = ni_T d 59 36 [a0, .int x, a2, a3, a4] (.int x :: st) z h Q := ni_T_p rfl rfl
theorem s59_36 : ni_T d 59 36 [a0, a1, a2, a3, a4] [.int x] z h Q = Q (some (.int x)) z h := ni_T_i rfl rfl
theorem s60_0 : ni_T d 60 0 [a0, a1, a2, a3, a4] st z h Q = ni_T d 60 1 [a0, a1, a2, a3, a4] (.int 0 :: st) z h Q := ni_T_p rfl rfl
theorem s60_1 : ni_T d 60 1 [a0, a1, a2, a3, a4] (.int x :: st) z h Q = ni_T d 60 2 [a0, ni_kl a1, .int x, a3, a4] st z h Q := ni_T_p rfl rfl
theorem s60_2 : ni_T d 60 2 [a0, a1, a2, a3, a4] st z h Q = ni_T d 60 3 [a0, a1, a2, a3, a4] (.int 0 :: st) z h Q := ni_T_p rfl rfl
theorem s60_3 : ni_T d 60 3 [a0, a1, a2, a3, a4] (.int x :: st) z h Q = ni_T d 60 4 [a0, a1, ni_kl a2, .int x, a4] st z h Q := ni_T_p rfl rfl
theorem s60_4 : ni_T d 60 4 [a0, a1, a2, .int x, a4] st z h Q = ni_T d 60 5 [a0, a1, a2, .int x, a4] (.int x :: st) z h Q := ni_T_p rfl rfl
theorem s60_5 : ni_T d 60 5 [a0, a1, a2, a3, a4] st z h Q = ni_T d 60 6 [a0, a1, a2, a3, a4] (.int 5 :: st) z h Q := ni_T_p rfl rfl
theorem s60_6 : ni_T d 60 6 [a0, a1, a2, a3, a4] (.int y :: .int x :: st) z h Q = if y ≤ x then ni_T d 60 73 [a0, a1, a2, a3, a4] st z h Q else ni_T d 60 9 [a0, a1, a2, a3, a4] st z h Q := ni_T_b rfl rfl
theorem s60_9 : ni_T d 60 9 [a0, a1, a2, .int x, a4] st z h Q = ni_T d 60 10 [a0, a1, a2, .int x, a4] (.int x :: st) z h Q := ni_T_p rfl rfl
theorem s60_10 : ni_T d 60 10 [a0, .int x, a2, a3, a4] st z h Q = ni_T d 60 11 [a0, .int x, a2, a3, a4] (.int x :: st) z h Q := ni_T_p rfl rfl
theorem s60_11 : ni_T d 60 11 [a0, a1, a2, a3, a4] (.int y :: .int x :: st) z h Q = if x = y then ni_T d 60 67 [a0, a1, a2, a3, a4] st z h Q else ni_T d 60 14 [a0, a1, a2, a3, a4] st z h Q := ni_T_b rfl rfl
theorem s60_14 : ni_T d 60 14 [.ref o, a1, a2, a3, a4] st z h Q = ni_T d 60 15 [.ref o, a1, a2, a3, a4] (.ref o :: st) z h Q := ni_T_p rfl rfl
theorem s60_15 : ni_T d 60 15 [a0, a1, a2, a3, a4] (.ref o :: st) z h Q = (ni_is (h o) 5 0 = true ∧ ni_T d 60 18 [a0, a1, a2, a3, a4] (ni_gv (h o) 0 :: st) z h Q) := ni_T_getf rfl
theorem s60_18 : ni_T d 60 18 [a0, .int x, a2, a3, a4] st z h Q = ni_T d 60 19 [a0, .int x, a2, a3, a4] (.int x :: st) z h Q := ni_T_p rfl rfl
theorem s60_19 : ni_T d 60 19 [a0, a1, a2, a3, a4] (.int x :: .ref o :: st) z h Q = (ni_okI (h o) x = true ∧ ni_T d 60 20 [a0, a1, a2, a3, a4] (.int (ni_gi (h o) x) :: st) z h Q) := ni_T_iald rfl
theorem s60_20 : ni_T d 60 20 [a0, a1, a2, a3, a4] st z h Q = ni_T d 60 21 [a0, a1, a2, a3, a4] (.int (-1) :: st) z h Q := ni_T_p rfl rfl
theorem s60_21 : ni_T d 60 21 [a0, a1, a2, a3, a4] (.int y :: .int x :: st) z h Q = if x = y then ni_T d 60 67 [a0, a1, a2, a3, a4] st z h Q else ni_T d 60 24 [a0, a1, a2, a3, a4] st z h Q := ni_T_b rfl rfl
theorem s60_24 : ni_T d 60 24 [.ref o, a1, a2, a3, a4] st z h Q = ni_T d 60 25 [.ref o, a1, a2, a3, a4] (.ref o :: st) z h Q := ni_T_p rfl rfl
theorem s60_25 : ni_T d 60 25 [a0, a1, a2, a3, a4] (.ref o :: st) z h Q = (ni_is (h o) 5 0 = true ∧ ni_T d 60 28 [a0, a1, a2, a3, a4] (ni_gv (h o) 0 :: st) z h Q) := ni_T_getf rfl
theorem s60_28 : ni_T d 60 28 [a0, a1, a2, .int x, a4] st z h Q = ni_T d 60 29 [a0, a1, a2, .int x, a4] (.int x :: st) z h Q := ni_T_p rfl rfl
theorem s60_29 : ni_T d 60 29 [a0, a1, a2, a3, a4] (.int x :: .ref o :: st) z h Q = (ni_okI (h o) x = true ∧ ni_T d 60 30 [a0, a1, a2, a3, a4] (.int (ni_gi (h o) x) :: st) z h Q) := ni_T_iald rfl
theorem s60_30 : ni_T d 60 30 [a0, a1, a2, a3, a4] st z h Q = ni_T d 60 31 [a0, a1, a2, a3, a4] (.int (-1) :: st) z h Q := ni_T_p rfl rfl
theorem s60_31 : ni_T d 60 31 [a0, a1, a2, a3, a4] (.int y :: .int x :: st) z h Q = if x = y then ni_T d 60 67 [a0, a1, a2, a3, a4] st z h Q else ni_T d 60 34 [a0, a1, a2, a3, a4] st z h Q := ni_T_b rfl rfl
theorem s60_34 : ni_T d 60 34 [.ref o, a1, a2, a3, a4] st z h Q = ni_T d 60 35 [.ref o, a1, a2, a3, a4] (.ref o :: st) z h Q := ni_T_p rfl rfl
theorem s60_35 : ni_T d 60 35 [a0, a1, a2, a3, a4] (.ref o :: st) z h Q = (ni_is (h o) 5 0 = true ∧ ni_T d 60 38 [a0, a1, a2, a3, a4] (ni_gv (h o) 0 :: st) z h Q) := ni_T_getf rfl
theorem s60_38 : ni_T d 60 38 [a0, .int x, a2, a3, a4] st z h Q = ni_T d 60 39 [a0, .int x, a2, a3, a4] (.int x :: st) z h Q := ni_T_p rfl rfl
theorem s60_39 : ni_T d 60 39 [a0, a1, a2, a3, a4] (.int x :: .ref o :: st) z h Q = (ni_okI (h o) x = true ∧ ni_T d 60 40 [a0, a1, a2, a3, a4] (.int (ni_gi (h o) x) :: st) z h Q) := ni_T_iald rfl
theorem s60_40 : ni_T d 60 40 [.ref o, a1, a2, a3, a4] st z h Q = ni_T d 60 41 [.ref o, a1, a2, a3, a4] (.ref o :: st) z h Q := ni_T_p rfl rfl
theorem s60_41 : ni_T d 60 41 [a0, a1, a2, a3, a4] (.ref o :: st) z h Q = (ni_is (h o) 5 0 = true ∧ ni_T d 60 44 [a0, a1, a2, a3, a4] (ni_gv (h o) 0 :: st) z h Q) := ni_T_getf rfl
theorem s60_44 : ni_T d 60 44 [a0, a1, a2, .int x, a4] st z h Q = ni_T d 60 45 [a0, a1, a2, .int x, a4] (.int x :: st) z h Q := ni_T_p rfl rfl
theorem s60_45 : ni_T d 60 45 [a0, a1, a2, a3, a4] (.int x :: .ref o :: st) z h Q = (ni_okI (h o) x = true ∧ ni_T d 60 46 [a0, a1, a2, a3, a4] (.int (ni_gi (h o) x) :: st) z h Q) := ni_T_iald rfl
theorem s60_46 : ni_T (d + 1) 60 46 [a0, a1, a2, a3, a4] (.int x1 :: .int x0 :: st) z h Q = (Nat.ble (ni_sw st) 8 = true ∧ ni_T d 117 0 [.int x0, .int x1] [] z h (ni_K (d + 1) 60 49 [a0, a1, a2, a3, a4] st z Q)) := ni_T_cse [.int x0, .int x1] rfl rfl rfl rfl rfl rfl rfl rfl rfl
theorem s60_49 : ni_T d 60 49 [a0, a1, a2, a3, a4] (.int x :: st) z h Q = ni_T d 60 51 [a0, a1, a2, ni_kl a3, .int x] st z h Q := ni_T_p rfl rfl
theorem s60_51 : ni_T d 60 51 [a0, a1, .int x, a3, a4] st z h Q = ni_T d 60 52 [a0, a1, .int x, a3, a4] (.int x :: st) z h Q := ni_T_p rfl rfl
theorem s60_52 : ni_T d 60 52 [a0, a1, a2, a3, a4] (.int x :: st) z h Q = if x = 0 then ni_T d 60 55 [a0, a1, a2, a3, a4] st z h Q else ni_T d 60 60 [a0, a1, a2, a3, a4] st z h Q := ni_T_b rfl rfl
theorem s60_55 : ni_T d 60 55 [a0, a1, a2, a3, .int x] st z h Q = ni_T d 60 57 [a0, a1, a2, a3, .int x] (.int x :: st) z h Q := ni_T_p rfl rfl
theorem s60_57 : ni_T d 60 57 [a0, a1, a2, a3, a4] st z h Q = ni_T d 60 66 [a0, a1, a2, a3, a4] st z h Q := ni_T_p rfl rfl
theorem s60_60 : ni_T d 60 60 [a0, a1, .int x, a3, a4] st z h Q = ni_T d 60 61 [a0, a1, .int x, a3, a4] (.int x :: st) z h Q := ni_T_p rfl rfl
theorem s60_61 : ni_T d 60 61 [a0, a1, a2, a3, .int x] st z h Q = ni_T d 60 63 [a0, a1, a2, a3, .int x] (.int x :: st) z h Q := ni_T_p rfl rfl
theorem s60_63 : ni_T (d + 1) 60 63 [a0, a1, a2, a3, a4] (.int y :: .int x :: st) z h Q = (Nat.ble (ni_sw st) 8 = true ∧ ni_T (d + 1) 60 66 [a0, a1, a2, a3, a4] (.int (if y < x then y else x) :: st) z h Q) := ni_T_mminc rfl rfl
theorem s60_66 : ni_T d 60 66 [a0, a1, a2, a3, a4] (.int x :: st) z h Q = ni_T d 60 67 [a0, ni_kl a1, .int x, a3, a4] st z h Q := ni_T_p rfl rfl
theorem s60_67 : ni_T d 60 67 [a0, a1, a2, .int x, a4] st z h Q = ni_T d 60 70 [a0, a1, ni_kl a2, .int (x + 1), a4] st z h Q := ni_T_p rfl rfl
theorem s60_70 : ni_T d 60 70 [a0, a1, a2, a3, a4] st z h Q = ni_T d 60 4 [a0, a1, a2, a3, a4] st z h Q := ni_T_p rfl rfl
theorem s60_73 : ni_T d 60 73 [a0, a1, .int x, a3, a4] st z h Q = ni_T d 60 74 [a0, a1, .int x, a3, a4] (.int x :: st) z h Q := ni_T_p rfl rfl
theorem s60_74 : ni_T d 60 74 [a0, a1, a2, a3, a4] [.int x] z h Q = Q (some (.int x)) z h := ni_T_i rfl rfl
theorem s61_0 : ni_T d 61 0 [.ref o, a1] st z h Q = ni_T d 61 1 [.ref o, a1] (.ref o :: st) z h Q := ni_T_p rfl rfl
theorem s61_1 : ni_T d 61 1 [.ref o, a1] st z h Q = ni_T d 61 2 [.ref o, a1] (.ref o :: st) z h Q := ni_T_p rfl rfl
theorem s61_2 : ni_T d 61 2 [a0, a1] (.ref o :: st) z h Q = (ni_is (h o) 5 5 = true ∧ ni_T d 61 5 [a0, a1] (ni_gv (h o) 5 :: st) z h Q) := ni_T_getf rfl
theorem s61_5 : ni_T d 61 5 [a0, a1] st z h Q = ni_T d 61 7 [a0, a1] (.int 1103515245 :: st) z h Q := ni_T_hse rfl rfl rfl rfl
theorem s61_7 : ni_T d 61 7 [a0, a1] (.int y :: .int x :: st) z h Q = ni_T d 61 8 [a0, a1] (.int (x * y) :: st) z h Q := ni_T_p rfl rfl
theorem s61_8 : ni_T d 61 8 [a0, a1] st z h Q = ni_T d 61 11 [a0, a1] (.int 12345 :: st) z h Q := ni_T_p rfl rfl
theorem s61_11 : ni_T d 61 11 [a0, a1] (.int y :: .int x :: st) z h Q = ni_T d 61 12 [a0, a1] (.int (x + y) :: st) z h Q := ni_T_p rfl rfl
theorem s61_12 : ni_T d 61 12 [a0, a1] (b0 :: .ref o :: st) z h Q = ((Nat.ble 5 7 && ni_is (h o) 5 5 && ni_fit (.int) b0) = true ∧ ni_T d 61 15 [a0, a1] st z (ni_up h o (ni_pv (h o) 5 b0)) Q) := ni_T_putf rfl
theorem s61_15 : ni_T d 61 15 [a0, .int x] st z h Q = ni_T d 61 16 [a0, .int x] (.int x :: st) z h Q := ni_T_p rfl rfl
theorem s61_16 : ni_T d 61 16 [a0, a1] (.int x :: st) z h Q = if x ≤ 0 then ni_T d 61 31 [a0, a1] st z h Q else ni_T d 61 19 [a0, a1] st z h Q := ni_T_b rfl rfl
theorem s61_19 : ni_T d 61 19 [.ref o, a1] st z h Q = ni_T d 61 20 [.ref o, a1] (.ref o :: st) z h Q := ni_T_p rfl rfl
theorem s61_20 : ni_T d 61 20 [a0, a1] (.ref o :: st) z h Q = (ni_is (h o) 5 5 = true ∧ ni_T d 61 23 [a0, a1] (ni_gv (h o) 5 :: st) z h Q) := ni_T_getf rfl
theorem s61_23 : ni_T d 61 23 [a0, a1] st z h Q = ni_T d 61 25 [a0, a1] (.int 16 :: st) z h Q := ni_T_p rfl rfl
theorem s61_25 : ni_T d 61 25 [a0, a1] (.int y :: .int x :: st) z h Q = ni_T d 61 26 [a0, a1] (.int ((x.toUInt32 >>> (y.toUInt32 &&& Int32.toUInt32 31)).toInt32) :: st) z h Q := ni_T_p rfl rfl
theorem s61_26 : ni_T d 61 26 [a0, .int x] st z h Q = ni_T d 61 27 [a0, .int x] (.int x :: st) z h Q := ni_T_p rfl rfl
theorem s61_27 : ni_T d 61 27 [a0, a1] (.int y :: .int x :: st) z h Q = (¬ y = 0 ∧ ni_T d 61 28 [a0, a1] (.int (x - x / y * y) :: st) z h Q) := ni_T_irem rfl
theorem s61_28 : ni_T d 61 28 [a0, a1] st z h Q = ni_T d 61 32 [a0, a1] st z h Q := ni_T_p rfl rfl
theorem s61_31 : ni_T d 61 31 [a0, a1] st z h Q = ni_T d 61 32 [a0, a1] (.int 0 :: st) z h Q := ni_T_p rfl rfl
theorem s61_32 : ni_T d 61 32 [a0, a1] [.int x] z h Q = Q (some (.int x)) z h := ni_T_i rfl rfl
theorem s62_0 : ni_T d 62 0 [a0, a1, a2] st z h Q = ni_T d 62 1 [a0, a1, a2] (.int 0 :: st) z h Q := ni_T_p rfl rfl
theorem s62_1 : ni_T d 62 1 [a0, a1, a2] (.int x :: st) z h Q = ni_T d 62 2 [a0, ni_kl a1, .int x] st z h Q := ni_T_p rfl rfl
theorem s62_2 : ni_T d 62 2 [a0, a1, .int x] st z h Q = ni_T d 62 3 [a0, a1, .int x] (.int x :: st) z h Q := ni_T_p rfl rfl
theorem s62_3 : ni_T d 62 3 [a0, a1, a2] st z h Q = ni_T d 62 4 [a0, a1, a2] (.int 5 :: st) z h Q := ni_T_p rfl rfl
theorem s62_4 : ni_T d 62 4 [a0, a1, a2] (.int y :: .int x :: st) z h Q = if y ≤ x then ni_T d 62 29 [a0, a1, a2] st z h Q else ni_T d 62 7 [a0, a1, a2] st z h Q := ni_T_b rfl rfl
theorem s62_7 : ni_T d 62 7 [a0, .int x, a2] st z h Q = ni_T d 62 8 [a0, .int x, a2] (.int x :: st) z h Q := ni_T_p rfl rfl
theorem s62_8 : ni_T d 62 8 [a0, a1, .int x] st z h Q = ni_T d 62 9 [a0, a1, .int x] (.int x :: st) z h Q := ni_T_p rfl rfl
theorem s62_9 : ni_T d 62 9 [a0, a1, a2] (.int y :: .int x :: st) z h Q = ni_T d 62 10 [a0, a1, a2] (.int (x >>> (y &&& 31)) :: st) z h Q := ni_T_p rfl rfl
theorem s62_10 : ni_T d 62 10 [a0, a1, a2] st z h Q = ni_T d 62 11 [a0, a1, a2] (.int 1 :: st) z h Q := ni_T_p rfl rfl
theorem s62_11 : ni_T d 62 11 [a0, a1, a2] (.int y :: .int x :: st) z h Q = ni_T d 62 12 [a0, a1, a2] (.int (x &&& y) :: st) z h Q := ni_T_p rfl rfl
theorem s62_12 : ni_T d 62 12 [a0, a1, a2] st z h Q = ni_T d 62 13 [a0, a1, a2] (.int 1 :: st) z h Q := ni_T_p rfl rfl
theorem s62_13 : ni_T d 62 13 [a0, a1, a2] (.int y :: .int x :: st) z h Q = if x = y then ni_T d 62 16 [a0, a1, a2] st z h Q else ni_T d 62 23 [a0, a1, a2] st z h Q := ni_T_b rfl rfl
theorem s62_16 : ni_T d 62 16 [.ref o, a1, a2] st z h Q = ni_T d 62 17 [.ref o, a1, a2] (.ref o :: st) z h Q := ni_T_p rfl rfl
theorem s62_17 : ni_T d 62 17 [a0, a1, a2] (.ref o :: st) z h Q = (ni_is (h o) 5 0 = true ∧ ni_T d 62 20 [a0, a1, a2] (ni_gv (h o) 0 :: st) z h Q) := ni_T_getf rfl
theorem s62_20 : ni_T d 62 20 [a0, a1, .int x] st z h Q = ni_T d 62 21 [a0, a1, .int x] (.int x :: st) z h Q := ni_T_p rfl rfl
theorem s62_21 : ni_T d 62 21 [a0, a1, a2] st z h Q = ni_T d 62 22 [a0, a1, a2] (.int (-1) :: st) z h Q := ni_T_p rfl rfl
theorem s62_22 : ni_T d 62 22 [a0, a1, a2] (.int y :: .int x :: .ref o :: st) z h Q = (ni_okS (h o) x = true ∧ ni_T d 62 23 [a0, a1, a2] st z (ni_up h o (ni_pi (h o) x y)) Q) := ni_T_iast rfl
theorem s62_23 : ni_T d 62 23 [a0, a1, .int x] st z h Q = ni_T d 62 26 [a0, ni_kl a1, .int (x + 1)] st z h Q := ni_T_p rfl rfl
theorem s62_26 : ni_T d 62 26 [a0, a1, a2] st z h Q = ni_T d 62 2 [a0, a1, a2] st z h Q := ni_T_p rfl rfl
theorem s62_29 : ni_T d 62 29 [a0, a1, a2] [] z h Q = Q none z h := ni_T_v rfl rfl
theorem s63_0 : ni_T d 63 0 [.ref o] st z h Q = ni_T d 63 1 [.ref o] (.ref o :: st) z h Q := ni_T_p rfl rfl
theorem s63_1 : ni_T d 63 1 [a0] (.ref o :: st) z h Q = (ni_is (h o) 5 0 = true ∧ ni_T d 63 4 [a0] (ni_gv (h o) 0 :: st) z h Q) := ni_T_getf rfl
theorem s63_4 : ni_T d 63 4 [a0] st z h Q = ni_T d 63 5 [a0] (.int (-1) :: st) z h Q := ni_T_p rfl rfl
theorem s63_5 : ni_T (d + 1) 63 5 [a0] (.int x1 :: .ref o20 :: st) z h Q = (Nat.ble (ni_sw st) 8 = true ∧ ni_T d 209 0 [.ref o20, .int x1, .retAddr 0, .retAddr 0] [] z h (ni_K (d + 1) 63 8 [a0] st z Q)) := ni_T_cse [.ref o20, .int x1] rfl rfl rfl rfl rfl rfl rfl rfl rfl
theorem s63_5N0 : ni_T (d + 1) 63 5 [a0] (.int x1 :: .null :: st) z h Q = (Nat.ble (ni_sw st) 8 = true ∧ ni_T d 209 0 [.null, .int x1, .retAddr 0, .retAddr 0] [] z h (ni_K (d + 1) 63 8 [a0] st z Q)) := ni_T_cse [.null, .int x1] rfl rfl rfl rfl rfl rfl rfl rfl rfl
theorem s63_8 : ni_T d 63 8 [.ref o] st z h Q = ni_T d 63 9 [.ref o] (.ref o :: st) z h Q := ni_T_p rfl rfl
theorem s63_9 : ni_T d 63 9 [a0] (.ref o :: st) z h Q = ni_T d 63 10 [a0] (.ref o :: .ref o :: st) z h Q := ni_T_p rfl rfl
theorem s63_9i : ni_T d 63 9 [a0] (.int x :: st) z h Q = ni_T d 63 10 [a0] (.int x :: .int x :: st) z h Q := ni_T_p rfl rfl
theorem s63_10 : ni_T d 63 10 [a0] (.ref o :: st) z h Q = (ni_is (h o) 5 4 = true ∧ ni_T d 63 13 [a0] (ni_gv (h o) 4 :: st) z h Q) := ni_T_getf rfl
theorem s63_13 : ni_T d 63 13 [a0] st z h Q = ni_T d 63 14 [a0] (.int 1 :: st) z h Q := ni_T_p rfl rfl
theorem s63_14 : ni_T d 63 14 [a0] (.int y :: .int x :: st) z h Q = ni_T d 63 15 [a0] (.int (x + y) :: st) z h Q := ni_T_p rfl rfl
theorem s63_15 : ni_T d 63 15 [a0] (b0 :: .ref o :: st) z h Q = ((Nat.ble 5 7 && ni_is (h o) 5 4 && ni_fit (.int) b0) = true ∧ ni_T d 63 18 [a0] st z (ni_up h o (ni_pv (h o) 4 b0)) Q) := ni_T_putf rfl
theorem s63_18 : ni_T d 63 18 [.ref o] st z h Q = ni_T d 63 19 [.ref o] (.ref o :: st) z h Q := ni_T_p rfl rfl
theorem s63_19 : ni_T d 63 19 [.ref o] st z h Q = ni_T d 63 20 [.ref o] (.ref o :: st) z h Q := ni_T_p rfl rfl
theorem s63_20 : ni_T d 63 20 [.ref o] st z h Q = ni_T d 63 21 [.ref o] (.ref o :: st) z h Q := ni_T_p rfl rfl
theorem s63_21 : ni_T d 63 21 [a0] (.ref o :: st) z h Q = (ni_is (h o) 5 3 = true ∧ ni_T d 63 24 [a0] (ni_gv (h o) 3 :: st) z h Q) := ni_T_getf rfl
theorem s63_24 : ni_T (d + 1) 63 24 [a0] (.int x0 :: .ref o :: st) z h Q = (ni_rc (h o) 5 = true ∧ Nat.ble (ni_sw st) 8 = true ∧ ni_T d 51 0 [.ref o, .int x0] [] z h (ni_K (d + 1) 63 27 [a0] st z Q)) := ni_T_ce [.ref o, .int x0] rfl rfl rfl rfl rfl rfl rfl rfl rfl
theorem s63_27 : ni_T d 63 27 [a0] (b0 :: .ref o :: st) z h Q = ((Nat.ble 5 7 && ni_is (h o) 5 3 && ni_fit (.int) b0) = true ∧ ni_T d 63 30 [a0] st z (ni_up h o (ni_pv (h o) 3 b0)) Q) := ni_T_putf rfl
theorem s63_30 : ni_T d 63 30 [a0] [] z h Q = Q none z h := ni_T_v rfl rfl
theorem s64_0 : ni_T d 64 0 [a0, a1, a2, a3, a4, a5] st z h Q = ni_T d 64 1 [a0, a1, a2, a3, a4, a5] (.int 0 :: st) z h Q := ni_T_p rfl rfl
theorem s64_1 : ni_T d 64 1 [a0, a1, a2, a3, a4, a5] (.int x :: st) z h Q = ni_T d 64 2 [a0, ni_kl a1, .int x, a3, a4, a5] st z h Q := ni_T_p rfl rfl
theorem s64_2 : ni_T d 64 2 [a0, a1, a2, a3, a4, a5] st z h Q = ni_T d 64 3 [a0, a1, a2, a3, a4, a5] (.int 0 :: st) z h Q := ni_T_p rfl rfl
theorem s64_3 : ni_T d 64 3 [a0, a1, a2, a3, a4, a5] (.int x :: st) z h Q = ni_T d 64 4 [a0, a1, ni_kl a2, .int x, a4, a5] st z h Q := ni_T_p rfl rfl
theorem s64_4 : ni_T d 64 4 [a0, a1, a2, .int x, a4, a5] st z h Q = ni_T d 64 5 [a0, a1, a2, .int x, a4, a5] (.int x :: st) z h Q := ni_T_p rfl rfl
theorem s64_5 : ni_T d 64 5 [a0, a1, a2, a3, a4, a5] st z h Q = ni_T d 64 6 [a0, a1, a2, a3, a4, a5] (.int 5 :: st) z h Q := ni_T_p rfl rfl
theorem s64_6 : ni_T d 64 6 [a0, a1, a2, a3, a4, a5] (.int y :: .int x :: st) z h Q = if y ≤ x then ni_T d 64 77 [a0, a1, a2, a3, a4, a5] st z h Q else ni_T d 64 9 [a0, a1, a2, a3, a4, a5] st z h Q := ni_T_b rfl rfl
theorem s64_9 : ni_T d 64 9 [.ref o, a1, a2, a3, a4, a5] st z h Q = ni_T d 64 10 [.ref o, a1, a2, a3, a4, a5] (.ref o :: st) z h Q := ni_T_p rfl rfl
theorem s64_10 : ni_T d 64 10 [a0, a1, a2, a3, a4, a5] (.ref o :: st) z h Q = (ni_is (h o) 5 0 = true ∧ ni_T d 64 13 [a0, a1, a2, a3, a4, a5] (ni_gv (h o) 0 :: st) z h Q) := ni_T_getf rfl
theorem s64_13 : ni_T d 64 13 [a0, a1, a2, .int x, a4, a5] st z h Q = ni_T d 64 14 [a0, a1, a2, .int x, a4, a5] (.int x :: st) z h Q := ni_T_p rfl rfl
theorem s64_14 : ni_T d 64 14 [a0, a1, a2, a3, a4, a5] (.int x :: .ref o :: st) z h Q = (ni_okI (h o) x = true ∧ ni_T d 64 15 [a0, a1, a2, a3, a4, a5] (.int (ni_gi (h o) x) :: st) z h Q) := ni_T_iald rfl
theorem s64_15 : ni_T d 64 15 [a0, a1, a2, a3, a4, a5] st z h Q = ni_T d 64 16 [a0, a1, a2, a3, a4, a5] (.int (-1) :: st) z h Q := ni_T_p rfl rfl
theorem s64_16 : ni_T d 64 16 [a0, a1, a2, a3, a4, a5] (.int y :: .int x :: st) z h Q = if x = y then ni_T d 64 19 [a0, a1, a2, a3, a4, a5] st z h Q else ni_T d 64 71 [a0, a1, a2, a3, a4, a5] st z h Q := ni_T_b rfl rfl
theorem s64_19 : ni_T d 64 19 [a0, a1, a2, a3, a4, a5] st z h Q = ni_T d 64 20 [a0, a1, a2, a3, a4, a5] (.int 2 :: st) z h Q := ni_T_p rfl rfl
theorem s64_20 : ni_T d 64 20 [.ref o, a1, a2, a3, a4, a5] st z h Q = ni_T d 64 21 [.ref o, a1, a2, a3, a4, a5] (.ref o :: st) z h Q := ni_T_p rfl rfl
theorem s64_21 : ni_T d 64 21 [a0, a1, a2, a3, a4, a5] st z h Q = ni_T d 64 22 [a0, a1, a2, a3, a4, a5] (.int 2 :: st) z h Q := ni_T_p rfl rfl
theorem s64_22 : ni_T d 64 22 [a0, .int x, a2, a3, a4, a5] st z h Q = ni_T d 64 23 [a0, .int x, a2, a3, a4, a5] (.int x :: st) z h Q := ni_T_p rfl rfl
theorem s64_23 : ni_T d 64 23 [a0, a1, a2, a3, a4, a5] (.int y :: .int x :: st) z h Q = ni_T d 64 24 [a0, a1, a2, a3, a4, a5] (.int (x * y) :: st) z h Q := ni_T_p rfl rfl
theorem s64_24 : ni_T d 64 24 [a0, a1, a2, a3, a4, a5] st z h Q = ni_T d 64 25 [a0, a1, a2, a3, a4, a5] (.int 2 :: st) z h Q := ni_T_p rfl rfl
theorem s64_25 : ni_T d 64 25 [a0, a1, a2, a3, a4, a5] (.int y :: .int x :: st) z h Q = ni_T d 64 26 [a0, a1, a2, a3, a4, a5] (.int (x + y) :: st) z h Q := ni_T_p rfl rfl
theorem s64_26 : ni_T (d + 1) 64 26 [a0, a1, a2, a3, a4, a5] (.int x0 :: .ref o :: st) z h Q = (ni_rc (h o) 5 = true ∧ Nat.ble (ni_sw st) 8 = true ∧ ni_T d 61 0 [.ref o, .int x0] [] z h (ni_K (d + 1) 64 29 [a0, a1, a2, a3, a4, a5] st z Q)) := ni_T_ce [.ref o, .int x0] rfl rfl rfl rfl rfl rfl rfl rfl rfl
theorem s64_29 : ni_T d 64 29 [a0, a1, a2, a3, a4, a5] (.int y :: .int x :: st) z h Q = ni_T d 64 30 [a0, a1, a2, a3, a4, a5] (.int (x + y) :: st) z h Q := ni_T_p rfl rfl
theorem s64_30 : ni_T d 64 30 [a0, .int x, a2, a3, a4, a5] st z h Q = ni_T d 64 31 [a0, .int x, a2, a3, a4, a5] (.int x :: st) z h Q := ni_T_p rfl rfl
theorem s64_31 : ni_T d 64 31 [a0, a1, a2, a3, a4, a5] (.int y :: .int x :: st) z h Q = ni_T d 64 32 [a0, a1, a2, a3, a4, a5] (.int (x - y) :: st) z h Q := ni_T_p rfl rfl
theorem s64_32 : ni_T d 64 32 [a0, a1, a2, a3, a4, a5] (.int x :: st) z h Q = ni_T d 64 34 [a0, a1, a2, ni_kl a3, .int x, a5] st z h Q := ni_T_p rfl rfl
theorem s64_34 : ni_T d 64 34 [a0, a1, a2, a3, a4, a5] st z h Q = ni_T d 64 35 [a0, a1, a2, a3, a4, a5] (.int 2 :: st) z h Q := ni_T_p rfl rfl
theorem s64_35 : ni_T d 64 35 [.ref o, a1, a2, a3, a4, a5] st z h Q = ni_T d 64 36 [.ref o, a1, a2, a3, a4, a5] (.ref o :: st) z h Q := ni_T_p rfl rfl
theorem s64_36 : ni_T d 64 36 [a0, a1, a2, a3, a4, a5] st z h Q = ni_T d 64 37 [a0, a1, a2, a3, a4, a5] (.int 2 :: st) z h Q := ni_T_p rfl rfl
theorem s64_37 : ni_T d 64 37 [a0, .int x, a2, a3, a4, a5] st z h Q = ni_T d 64 38 [a0, .int x, a2, a3, a4, a5] (.int x :: st) z h Q := ni_T_p rfl rfl
theorem s64_38 : ni_T d 64 38 [a0, a1, a2, a3, a4, a5] (.int y :: .int x :: st) z h Q = ni_T d 64 39 [a0, a1, a2, a3, a4, a5] (.int (x * y) :: st) z h Q := ni_T_p rfl rfl
theorem s64_39 : ni_T d 64 39 [a0, a1, a2, a3, a4, a5] st z h Q = ni_T d 64 40 [a0, a1, a2, a3, a4, a5] (.int 2 :: st) z h Q := ni_T_p rfl rfl
theorem s64_40 : ni_T d 64 40 [a0, a1, a2, a3, a4, a5] (.int y :: .int x :: st) z h Q = ni_T d 64 41 [a0, a1, a2, a3, a4, a5] (.int (x + y) :: st) z h Q := ni_T_p rfl rfl
theorem s64_41 : ni_T (d + 1) 64 41 [a0, a1, a2, a3, a4, a5] (.int x0 :: .ref o :: st) z h Q = (ni_rc (h o) 5 = true ∧ Nat.ble (ni_sw st) 8 = true ∧ ni_T d 61 0 [.ref o, .int x0] [] z h (ni_K (d + 1) 64 44 [a0, a1, a2, a3, a4, a5] st z Q)) := ni_T_ce [.ref o, .int x0] rfl rfl rfl rfl rfl rfl rfl rfl rfl
theorem s64_44 : ni_T d 64 44 [a0, a1, a2, a3, a4, a5] (.int y :: .int x :: st) z h Q = ni_T d 64 45 [a0, a1, a2, a3, a4, a5] (.int (x + y) :: st) z h Q := ni_T_p rfl rfl
theorem s64_45 : ni_T d 64 45 [a0, .int x, a2, a3, a4, a5] st z h Q = ni_T d 64 46 [a0, .int x, a2, a3, a4, a5] (.int x :: st) z h Q := ni_T_p rfl rfl
theorem s64_46 : ni_T d 64 46 [a0, a1, a2, a3, a4, a5] (.int y :: .int x :: st) z h Q = ni_T d 64 47 [a0, a1, a2, a3, a4, a5] (.int (x - y) :: st) z h Q := ni_T_p rfl rfl
theorem s64_47 : ni_T d 64 47 [a0, a1, a2, a3, a4, a5] (.int x :: st) z h Q = ni_T d 64 49 [a0, a1, a2, a3, ni_kl a4, .int x] st z h Q := ni_T_p rfl rfl
theorem s64_49 : ni_T d 64 49 [.ref o, a1, a2, a3, a4, a5] st z h Q = ni_T d 64 50 [.ref o, a1, a2, a3, a4, a5] (.ref o :: st) z h Q := ni_T_p rfl rfl
theorem s64_50 : ni_T d 64 50 [a0, a1, a2, a3, a4, a5] (.ref o :: st) z h Q = (ni_is (h o) 5 0 = true ∧ ni_T d 64 53 [a0, a1, a2, a3, a4, a5] (ni_gv (h o) 0 :: st) z h Q) := ni_T_getf rfl
theorem s64_53 : ni_T d 64 53 [a0, a1, a2, .int x, a4, a5] st z h Q = ni_T d 64 54 [a0, a1, a2, .int x, a4, a5] (.int x :: st) z h Q := ni_T_p rfl rfl
theorem s64_54 : ni_T d 64 54 [.ref o, a1, a2, a3, a4, a5] st z h Q = ni_T d 64 55 [.ref o, a1, a2, a3, a4, a5] (.ref o :: st) z h Q := ni_T_p rfl rfl
theorem s64_55 : ni_T d 64 55 [a0, a1, a2, .int x, a4, a5] st z h Q = ni_T d 64 56 [a0, a1, a2, .int x, a4, a5] (.int x :: st) z h Q := ni_T_p rfl rfl
theorem s64_56 : ni_T d 64 56 [a0, a1, a2, a3, a4, a5] st z h Q = ni_T d 64 58 [a0, a1, a2, a3, a4, a5] (.int 6 :: st) z h Q := ni_T_p rfl rfl
theorem s64_58 : ni_T d 64 58 [a0, a1, a2, a3, .int x, a5] st z h Q = ni_T d 64 60 [a0, a1, a2, a3, .int x, a5] (.int x :: st) z h Q := ni_T_p rfl rfl
theorem s64_60 : ni_T d 64 60 [a0, a1, a2, a3, a4, a5] (.int y :: .int x :: st) z h Q = ni_T d 64 61 [a0, a1, a2, a3, a4, a5] (.int (x * y) :: st) z h Q := ni_T_p rfl rfl
theorem s64_61 : ni_T d 64 61 [a0, a1, a2, a3, a4, .int x] st z h Q = ni_T d 64 63 [a0, a1, a2, a3, a4, .int x] (.int x :: st) z h Q := ni_T_p rfl rfl
theorem s64_63 : ni_T d 64 63 [a0, a1, a2, a3, a4, a5] (.int y :: .int x :: st) z h Q = ni_T d 64 64 [a0, a1, a2, a3, a4, a5] (.int (x + y) :: st) z h Q := ni_T_p rfl rfl
theorem s64_64 : ni_T (d + 1) 64 64 [a0, a1, a2, a3, a4, a5] (.int x1 :: .int x0 :: .ref o :: st) z h Q = (ni_rc (h o) 5 = true ∧ Nat.ble (ni_sw st) 8 = true ∧ ni_T d 65 0 [.ref o, .int x0, .int x1, .retAddr 0, .retAddr 0] [] z h (ni_K (d + 1) 64 67 [a0, a1, a2, a3, a4, a5] st z Q)) := ni_T_ce [.ref o, .int x0, .int x1] rfl rfl rfl rfl rfl rfl rfl rfl rfl
theorem s64_67 : ni_T d 64 67 [a0, a1, a2, a3, a4, a5] (.int y :: .int x :: .ref o :: st) z h Q = (ni_okS (h o) x = true ∧ ni_T d 64 68 [a0, a1, a2, a3, a4, a5] st z (ni_up h o (ni_pi (h o) x y)) Q) := ni_T_iast rfl
theorem s64_68 : ni_T d 64 68 [a0, a1, .int x, a3, a4, a5] st z h Q = ni_T d 64 71 [a0, ni_kl a1, .int (x + 1), a3, a4, a5] st z h Q := ni_T_p rfl rfl
theorem s64_71 : ni_T d 64 71 [a0, a1, a2, .int x, a4, a5] st z h Q = ni_T d 64 74 [a0, a1, ni_kl a2, .int (x + 1), a4, a5] st z h Q := ni_T_p rfl rfl
theorem s64_74 : ni_T d 64 74 [a0, a1, a2, a3, a4, a5] st z h Q = ni_T d 64 4 [a0, a1, a2, a3, a4, a5] st z h Q := ni_T_p rfl rfl
theorem s64_77 : ni_T d 64 77 [a0, a1, .int x, a3, a4, a5] st z h Q = ni_T d 64 78 [a0, a1, .int x, a3, a4, a5] (.int x :: st) z h Q := ni_T_p rfl rfl
theorem s64_78 : ni_T d 64 78 [a0, a1, a2, a3, a4, a5] [.int x] z h Q = Q (some (.int x)) z h := ni_T_i rfl rfl
theorem s65_0 : ni_T d 65 0 [a0, a1, .int x, a3, a4] st z h Q = ni_T d 65 1 [a0, a1, .int x, a3, a4] (.int x :: st) z h Q := ni_T_p rfl rfl
theorem s65_1 : ni_T d 65 1 [a0, a1, a2, a3, a4] (.int x :: st) z h Q = ni_T d 65 2 [a0, a1, ni_kl a2, .int x, a4] st z h Q := ni_T_p rfl rfl
theorem s65_2 : ni_T d 65 2 [a0, a1, a2, a3, a4] st z h Q = ni_T d 65 3 [a0, a1, a2, a3, a4] (.int 0 :: st) z h Q := ni_T_p rfl rfl
theorem s65_3 : ni_T d 65 3 [a0, a1, a2, a3, a4] (.int x :: st) z h Q = ni_T d 65 5 [a0, a1, a2, ni_kl a3, .int x] st z h Q := ni_T_p rfl rfl
theorem s65_5 : ni_T d 65 5 [a0, a1, a2, a3, .int x] st z h Q = ni_T d 65 7 [a0, a1, a2, a3, .int x] (.int x :: st) z h Q := ni_T_p rfl rfl
theorem s65_7 : ni_T d 65 7 [a0, a1, a2, a3, a4] st z h Q = ni_T d 65 9 [a0, a1, a2, a3, a4] (.int 36 :: st) z h Q := ni_T_p rfl rfl
theorem s65_9 : ni_T d 65 9 [a0, a1, a2, a3, a4] (.int y :: .int x :: st) z h Q = if y ≤ x then ni_T d 65 43 [a0, a1, a2, a3, a4] st z h Q else ni_T d 65 12 [a0, a1, a2, a3, a4] st z h Q := ni_T_b rfl rfl
theorem s65_12 : ni_T d 65 12 [.ref o, a1, a2, a3, a4] st z h Q = ni_T d 65 13 [.ref o, a1, a2, a3, a4] (.ref o :: st) z h Q := ni_T_p rfl rfl
theorem s65_13 : ni_T d 65 13 [a0, .int x, a2, a3, a4] st z h Q = ni_T d 65 14 [a0, .int x, a2, a3, a4] (.int x :: st) z h Q := ni_T_p rfl rfl
theorem s65_14 : ni_T d 65 14 [a0, a1, a2, .int x, a4] st z h Q = ni_T d 65 15 [a0, a1, a2, .int x, a4] (.int x :: st) z h Q := ni_T_p rfl rfl
theorem s65_15 : ni_T (d + 1) 65 15 [a0, a1, a2, a3, a4] (.int x1 :: .int x0 :: .ref o :: st) z h Q = (ni_rc (h o) 5 = true ∧ Nat.ble (ni_sw st) 8 = true ∧ ni_T d 55 0 [.ref o, .int x0, .int x1, .retAddr 0] [] z h (ni_K (d + 1) 65 18 [a0, a1, a2, a3, a4] st z Q)) := ni_T_ce [.ref o, .int x0, .int x1] rfl rfl rfl rfl rfl rfl rfl rfl rfl
theorem s65_18 : ni_T d 65 18 [a0, a1, a2, a3, a4] (.int x :: st) z h Q = if x = 0 then ni_T d 65 21 [a0, a1, a2, a3, a4] st z h Q else ni_T d 65 43 [a0, a1, a2, a3, a4] st z h Q := ni_T_b rfl rfl
theorem s65_21 : ni_T d 65 21 [a0, a1, a2, .int x, a4] st z h Q = ni_T d 65 22 [a0, a1, a2, .int x, a4] (.int x :: st) z h Q := ni_T_p rfl rfl
theorem s65_22 : ni_T d 65 22 [a0, a1, a2, a3, a4] st z h Q = ni_T d 65 23 [a0, a1, a2, a3, a4] (.int 1 :: st) z h Q := ni_T_p rfl rfl
theorem s65_23 : ni_T d 65 23 [a0, a1, a2, a3, a4] (.int y :: .int x :: st) z h Q = ni_T d 65 24 [a0, a1, a2, a3, a4] (.int (x + y) :: st) z h Q := ni_T_p rfl rfl
theorem s65_24 : ni_T d 65 24 [a0, a1, a2, a3, a4] st z h Q = ni_T d 65 26 [a0, a1, a2, a3, a4] (.int 36 :: st) z h Q := ni_T_p rfl rfl
theorem s65_26 : ni_T d 65 26 [a0, a1, a2, a3, a4] (.int y :: .int x :: st) z h Q = if y ≤ x then ni_T d 65 35 [a0, a1, a2, a3, a4] st z h Q else ni_T d 65 29 [a0, a1, a2, a3, a4] st z h Q := ni_T_b rfl rfl
theorem s65_29 : ni_T d 65 29 [a0, a1, a2, .int x, a4] st z h Q = ni_T d 65 30 [a0, a1, a2, .int x, a4] (.int x :: st) z h Q := ni_T_p rfl rfl
theorem s65_30 : ni_T d 65 30 [a0, a1, a2, a3, a4] st z h Q = ni_T d 65 31 [a0, a1, a2, a3, a4] (.int 1 :: st) z h Q := ni_T_p rfl rfl
theorem s65_31 : ni_T d 65 31 [a0, a1, a2, a3, a4] (.int y :: .int x :: st) z h Q = ni_T d 65 32 [a0, a1, a2, a3, a4] (.int (x + y) :: st) z h Q := ni_T_p rfl rfl
theorem s65_32 : ni_T d 65 32 [a0, a1, a2, a3, a4] st z h Q = ni_T d 65 36 [a0, a1, a2, a3, a4] st z h Q := ni_T_p rfl rfl
theorem s65_35 : ni_T d 65 35 [a0, a1, a2, a3, a4] st z h Q = ni_T d 65 36 [a0, a1, a2, a3, a4] (.int 0 :: st) z h Q := ni_T_p rfl rfl
theorem s65_36 : ni_T d 65 36 [a0, a1, a2, a3, a4] (.int x :: st) z h Q = ni_T d 65 37 [a0, a1, ni_kl a2, .int x, a4] st z h Q := ni_T_p rfl rfl
theorem s65_37 : ni_T d 65 37 [a0, a1, a2, a3, .int x] st z h Q = ni_T d 65 40 [a0, a1, a2, ni_kl a3, .int (x + 1)] st z h Q := ni_T_p rfl rfl
theorem s65_40 : ni_T d 65 40 [a0, a1, a2, a3, a4] st z h Q = ni_T d 65 5 [a0, a1, a2, a3, a4] st z h Q := ni_T_p rfl rfl
theorem s65_43 : ni_T d 65 43 [a0, a1, a2, .int x, a4] st z h Q = ni_T d 65 44 [a0, a1, a2, .int x, a4] (.int x :: st) z h Q := ni_T_p rfl rfl
theorem s65_44 : ni_T d 65 44 [a0, a1, a2, a3, a4] [.int x] z h Q = Q (some (.int x)) z h := ni_T_i rfl rfl
end
