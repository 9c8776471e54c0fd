section
variable {d : Nat} {a0 a1 a2 a3 a4 a5 a6 a7 a8 a9 a10 a11 a12 : Value} {x y : Int32} {x0 x1 x2 x3 x4 x5 : Int32} {u w : Int64} {u0 u1 u2 u3 : Int64} {o o1 o20 o21 o22 o23 o24 o25 : Nat} {b0 b1 b2 b3 b4 b5 : Value} {st : List Value} {z : ni_Z} {h : ni_H} {Q : ni_Q}

theorem s157_0 : ni_T d 157 0 [a0, a1, .int x, a3, a4, a5] st z h Q = ni_T d 157 1 [a0, a1, .int x, a3, a4, a5] (.int x :: st) z h Q := ni_T_p rfl rfl
theorem s157_1 : ni_T d 157 1 [a0, a1, a2, a3, a4, a5] (.int x :: st) z h Q = if x = 0 then ni_T d 157 4 [a0, a1, a2, a3, a4, a5] st z h Q else ni_T d 157 12 [a0, a1, a2, a3, a4, a5] st z h Q := ni_T_b rfl rfl
theorem s157_4 : ni_T d 157 4 [.ref o, a1, a2, a3, a4, a5] st z h Q = ni_T d 157 5 [.ref o, a1, a2, a3, a4, a5] (.ref o :: st) z h Q := ni_T_p rfl rfl
theorem s157_5 : ni_T d 157 5 [a0, .int x, a2, a3, a4, a5] st z h Q = ni_T d 157 6 [a0, .int x, a2, a3, a4, a5] (.int x :: st) z h Q := ni_T_p rfl rfl
theorem s157_6 : ni_T d 157 6 [a0, a1, a2, a3, a4, a5] st z h Q = ni_T d 157 8 [a0, a1, a2, a3, a4, a5] (.int 33 :: st) z h Q := ni_T_p rfl rfl
theorem s157_8 : ni_T (d + 1) 157 8 [a0, a1, a2, a3, a4, a5] (.int x1 :: .int x0 :: .ref o :: st) z h Q = (ni_rc (h o) 7 = true ∧ Nat.ble (ni_sw st) 8 = true ∧ ni_T d 156 0 [.ref o, .int x0, .int x1, .retAddr 0, .retAddr 0] [] z h (ni_K (d + 1) 157 11 [a0, a1, a2, a3, a4, a5] st z Q)) := ni_T_ce [.ref o, .int x0, .int x1] rfl rfl rfl rfl rfl rfl rfl rfl rfl
theorem s157_11 : ni_T d 157 11 [a0, a1, a2, a3, a4, a5] [.int x] z h Q = Q (some (.int x)) z h := ni_T_i rfl rfl
theorem s157_12 : ni_T d 157 12 [a0, a1, a2, a3, a4, a5] st z h Q = ni_T d 157 15 [a0, a1, a2, a3, a4, a5] (.int 1000 :: st) z h Q := ni_T_p rfl rfl
theorem s157_15 : ni_T d 157 15 [a0, a1, a2, a3, a4, a5] (.int x :: st) z h Q = ni_T d 157 16 [a0, a1, ni_kl a2, .int x, a4, a5] st z h Q := ni_T_p rfl rfl
theorem s157_16 : ni_T d 157 16 [a0, a1, a2, a3, a4, a5] st z h Q = ni_T d 157 17 [a0, a1, a2, a3, a4, a5] (.int 0 :: st) z h Q := ni_T_p rfl rfl
theorem s157_17 : ni_T d 157 17 [a0, a1, a2, a3, a4, a5] (.int x :: st) z h Q = ni_T d 157 19 [a0, a1, a2, ni_kl a3, .int x, a5] st z h Q := ni_T_p rfl rfl
theorem s157_19 : ni_T d 157 19 [a0, a1, a2, a3, .int x, a5] st z h Q = ni_T d 157 21 [a0, a1, a2, a3, .int x, a5] (.int x :: st) z h Q := ni_T_p rfl rfl
theorem s157_21 : ni_T d 157 21 [a0, a1, a2, a3, a4, a5] st z h Q = ni_T d 157 22 [a0, a1, a2, a3, a4, a5] (.int 5 :: st) z h Q := ni_T_p rfl rfl
theorem s157_22 : ni_T d 157 22 [a0, a1, a2, a3, a4, a5] (.int y :: .int x :: st) z h Q = if y ≤ x then ni_T d 157 90 [a0, a1, a2, a3, a4, a5] st z h Q else ni_T d 157 25 [a0, a1, a2, a3, a4, a5] st z h Q := ni_T_b rfl rfl
theorem s157_25 : ni_T d 157 25 [a0, a1, .int x, a3, a4, a5] st z h Q = ni_T d 157 26 [a0, a1, .int x, a3, a4, a5] (.int x :: st) z h Q := ni_T_p rfl rfl
theorem s157_26 : ni_T d 157 26 [a0, a1, a2, a3, .int x, a5] st z h Q = ni_T d 157 28 [a0, a1, a2, a3, .int x, a5] (.int x :: st) z h Q := ni_T_p rfl rfl
theorem s157_28 : ni_T d 157 28 [a0, a1, a2, a3, a4, a5] (.int y :: .int x :: st) z h Q = ni_T d 157 29 [a0, a1, a2, a3, a4, a5] (.int (x >>> (y &&& 31)) :: st) z h Q := ni_T_p rfl rfl
theorem s157_29 : ni_T d 157 29 [a0, a1, a2, a3, a4, a5] st z h Q = ni_T d 157 30 [a0, a1, a2, a3, a4, a5] (.int 1 :: st) z h Q := ni_T_p rfl rfl
theorem s157_30 : ni_T d 157 30 [a0, a1, a2, a3, a4, a5] (.int y :: .int x :: st) z h Q = ni_T d 157 31 [a0, a1, a2, a3, a4, a5] (.int (x &&& y) :: st) z h Q := ni_T_p rfl rfl
theorem s157_31 : ni_T d 157 31 [a0, a1, a2, a3, a4, a5] (.int x :: st) z h Q = if x = 0 then ni_T d 157 34 [a0, a1, a2, a3, a4, a5] st z h Q else ni_T d 157 37 [a0, a1, a2, a3, a4, a5] st z h Q := ni_T_b rfl rfl
theorem s157_34 : ni_T d 157 34 [a0, a1, a2, a3, a4, a5] st z h Q = ni_T d 157 84 [a0, a1, a2, a3, a4, a5] st z h Q := ni_T_p rfl rfl
theorem s157_37 : ni_T d 157 37 [.ref o, a1, a2, a3, a4, a5] st z h Q = ni_T d 157 38 [.ref o, a1, a2, a3, a4, a5] (.ref o :: st) z h Q := ni_T_p rfl rfl
theorem s157_38 : ni_T d 157 38 [a0, .int x, a2, a3, a4, a5] st z h Q = ni_T d 157 39 [a0, .int x, a2, a3, a4, a5] (.int x :: st) z h Q := ni_T_p rfl rfl
theorem s157_39 : ni_T d 157 39 [.ref o, a1, a2, a3, a4, a5] st z h Q = ni_T d 157 40 [.ref o, a1, a2, a3, a4, a5] (.ref o :: st) z h Q := ni_T_p rfl rfl
theorem s157_40 : ni_T d 157 40 [a0, a1, a2, a3, a4, a5] (.ref o :: st) z h Q = (ni_is (h o) 7 11 = true ∧ ni_T d 157 43 [a0, a1, a2, a3, a4, a5] (ni_gv (h o) 11 :: st) z h Q) := ni_T_getf rfl
theorem s157_43 : ni_T d 157 43 [a0, a1, a2, a3, .int x, a5] st z h Q = ni_T d 157 45 [a0, a1, a2, a3, .int x, a5] (.int x :: st) z h Q := ni_T_p rfl rfl
theorem s157_45 : ni_T d 157 45 [a0, a1, a2, a3, a4, a5] (.int x :: .ref o :: st) z h Q = (ni_okI (h o) x = true ∧ ni_T d 157 46 [a0, a1, a2, a3, a4, a5] (.int (ni_gi (h o) x) :: st) z h Q) := ni_T_iald rfl
theorem s157_46 : ni_T (d + 1) 157 46 [a0, a1, a2, a3, a4, a5] (.int x1 :: .int x0 :: .ref o :: st) z h Q = (ni_rc (h o) 7 = true ∧ Nat.ble (ni_sw st) 8 = true ∧ ni_T d 156 0 [.ref o, .int x0, .int x1, .retAddr 0, .retAddr 0] [] z h (ni_K (d + 1) 157 49 [a0, a1, a2, a3, a4, a5] st z Q)) := ni_T_ce [.ref o, .int x0, .int x1] rfl rfl rfl rfl rfl rfl rfl rfl rfl
theorem s157_49 : ni_T d 157 49 [.ref o, a1, a2, a3, a4, a5] st z h Q = ni_T d 157 50 [.ref o, a1, a2, a3, a4, a5] (.ref o :: st) z h Q := ni_T_p rfl rfl
theorem s157_50 : ni_T d 157 50 [.ref o, a1, a2, a3, a4, a5] st z h Q = ni_T d 157 51 [.ref o, a1, a2, a3, a4, a5] (.ref o :: st) z h Q := ni_T_p rfl rfl
theorem s157_51 : ni_T d 157 51 [a0, a1, a2, a3, a4, a5] (.ref o :: st) z h Q = (ni_is (h o) 7 11 = true ∧ ni_T d 157 54 [a0, a1, a2, a3, a4, a5] (ni_gv (h o) 11 :: st) z h Q) := ni_T_getf rfl
theorem s157_54 : ni_T d 157 54 [a0, a1, a2, a3, .int x, a5] st z h Q = ni_T d 157 56 [a0, a1, a2, a3, .int x, a5] (.int x :: st) z h Q := ni_T_p rfl rfl
theorem s157_56 : ni_T d 157 56 [a0, a1, a2, a3, a4, a5] (.int x :: .ref o :: st) z h Q = (ni_okI (h o) x = true ∧ ni_T d 157 57 [a0, a1, a2, a3, a4, a5] (.int (ni_gi (h o) x) :: st) z h Q) := ni_T_iald rfl
theorem s157_57 : ni_T d 157 57 [a0, a1, .int x, a3, a4, a5] st z h Q = ni_T d 157 58 [a0, a1, .int x, a3, a4, a5] (.int x :: st) z h Q := ni_T_p rfl rfl
theorem s157_58 : ni_T d 157 58 [a0, a1, a2, a3, a4, a5] st z h Q = ni_T d 157 59 [a0, a1, a2, a3, a4, a5] (.int 1 :: st) z h Q := ni_T_p rfl rfl
theorem s157_59 : ni_T d 157 59 [a0, a1, a2, a3, .int x, a5] st z h Q = ni_T d 157 61 [a0, a1, a2, a3, .int x, a5] (.int x :: st) z h Q := ni_T_p rfl rfl
theorem s157_61 : ni_T d 157 61 [a0, a1, a2, a3, a4, a5] (.int y :: .int x :: st) z h Q = ni_T d 157 62 [a0, a1, a2, a3, a4, a5] (.int (x <<< (y &&& 31)) :: st) z h Q := ni_T_p rfl rfl
theorem s157_62 : ni_T d 157 62 [a0, a1, a2, a3, a4, a5] st z h Q = ni_T d 157 63 [a0, a1, a2, a3, a4, a5] (.int (-1) :: st) z h Q := ni_T_p rfl rfl
theorem s157_63 : ni_T d 157 63 [a0, a1, a2, a3, a4, a5] (.int y :: .int x :: st) z h Q = ni_T d 157 64 [a0, a1, a2, a3, a4, a5] (.int (x ^^^ y) :: st) z h Q := ni_T_p rfl rfl
theorem s157_64 : ni_T d 157 64 [a0, a1, a2, a3, a4, a5] (.int y :: .int x :: st) z h Q = ni_T d 157 65 [a0, a1, a2, a3, a4, a5] (.int (x &&& y) :: st) z h Q := ni_T_p rfl rfl
theorem s157_65 : ni_T (d + 1) 157 65 [a0, a1, a2, a3, a4, a5] (.int x1 :: .int x0 :: .ref o :: st) z h Q = (ni_rc (h o) 7 = true ∧ Nat.ble (ni_sw st) 8 = true ∧ ni_T d 157 0 [.ref o, .int x0, .int x1, .retAddr 0, .retAddr 0, .retAddr 0] [] z h (ni_K (d + 1) 157 68 [a0, a1, a2, a3, a4, a5] st z Q)) := ni_T_ce [.ref o, .int x0, .int x1] rfl rfl rfl rfl rfl rfl rfl rfl rfl
theorem s157_68 : ni_T d 157 68 [a0, a1, a2, a3, a4, a5] (.int y :: .int x :: st) z h Q = ni_T d 157 69 [a0, a1, a2, a3, a4, a5] (.int (x + y) :: st) z h Q := ni_T_p rfl rfl
theorem s157_69 : ni_T d 157 69 [a0, a1, a2, a3, a4, a5] (.int x :: st) z h Q = ni_T d 157 71 [a0, a1, a2, a3, ni_kl a4, .int x] st z h Q := ni_T_p rfl rfl
theorem s157_71 : ni_T d 157 71 [a0, a1, a2, a3, a4, .int x] st z h Q = ni_T d 157 73 [a0, a1, a2, a3, a4, .int x] (.int x :: st) z h Q := ni_T_p rfl rfl
theorem s157_73 : ni_T d 157 73 [a0, a1, a2, .int x, a4, a5] st z h Q = ni_T d 157 74 [a0, a1, a2, .int x, a4, a5] (.int x :: st) z h Q := ni_T_p rfl rfl
theorem s157_74 : ni_T d 157 74 [a0, a1, a2, a3, a4, a5] (.int y :: .int x :: st) z h Q = if y ≤ x then ni_T d 157 82 [a0, a1, a2, a3, a4, a5] st z h Q else ni_T d 157 77 [a0, a1, a2, a3, a4, a5] st z h Q := ni_T_b rfl rfl
theorem s157_77 : ni_T d 157 77 [a0, a1, a2, a3, a4, .int x] st z h Q = ni_T d 157 79 [a0, a1, a2, a3, a4, .int x] (.int x :: st) z h Q := ni_T_p rfl rfl
theorem s157_79 : ni_T d 157 79 [a0, a1, a2, a3, a4, a5] st z h Q = ni_T d 157 83 [a0, a1, a2, a3, a4, a5] st z h Q := ni_T_p rfl rfl
theorem s157_82 : ni_T d 157 82 [a0, a1, a2, .int x, a4, a5] st z h Q = ni_T d 157 83 [a0, a1, a2, .int x, a4, a5] (.int x :: st) z h Q := ni_T_p rfl rfl
theorem s157_83 : ni_T d 157 83 [a0, a1, a2, a3, a4, a5] (.int x :: st) z h Q = ni_T d 157 84 [a0, a1, ni_kl a2, .int x, a4, a5] st z h Q := ni_T_p rfl rfl
theorem s157_84 : ni_T d 157 84 [a0, a1, a2, a3, .int x, a5] st z h Q = ni_T d 157 87 [a0, a1, a2, ni_kl a3, .int (x + 1), a5] st z h Q := ni_T_p rfl rfl
theorem s157_87 : ni_T d 157 87 [a0, a1, a2, a3, a4, a5] st z h Q = ni_T d 157 19 [a0, a1, a2, a3, a4, a5] st z h Q := ni_T_p rfl rfl
theorem s157_90 : ni_T d 157 90 [a0, a1, a2, .int x, a4, a5] st z h Q = ni_T d 157 91 [a0, a1, a2, .int x, a4, a5] (.int x :: st) z h Q := ni_T_p rfl rfl
theorem s157_91 : ni_T d 157 91 [a0, a1, a2, a3, a4, a5] [.int x] z h Q = Q (some (.int x)) z h := ni_T_i rfl rfl
theorem s158_0 : ni_T d 158 0 [a0, .int x] st z h Q = ni_T d 158 1 [a0, .int x] (.int x :: st) z h Q := ni_T_p rfl rfl
theorem s158_1 : ni_T d 158 1 [a0, a1] (.int x :: st) z h Q = if x < 0 then ni_T d 158 25 [a0, a1] st z h Q else ni_T d 158 4 [a0, a1] st z h Q := ni_T_b rfl rfl
theorem s158_4 : ni_T d 158 4 [a0, .int x] st z h Q = ni_T d 158 5 [a0, .int x] (.int x :: st) z h Q := ni_T_p rfl rfl
theorem s158_5 : ni_T d 158 5 [a0, a1] st z h Q = ni_T d 158 7 [a0, a1] (.int 32 :: st) z h Q := ni_T_p rfl rfl
theorem s158_7 : ni_T d 158 7 [a0, a1] (.int y :: .int x :: st) z h Q = if y ≤ x then ni_T d 158 25 [a0, a1] st z h Q else ni_T d 158 10 [a0, a1] st z h Q := ni_T_b rfl rfl
theorem s158_10 : ni_T d 158 10 [a0, .int x] st z h Q = ni_T d 158 11 [a0, .int x] (.int x :: st) z h Q := ni_T_p rfl rfl
theorem s158_11 : ni_T d 158 11 [.ref o, a1] st z h Q = ni_T d 158 12 [.ref o, a1] (.ref o :: st) z h Q := ni_T_p rfl rfl
theorem s158_12 : ni_T (d + 1) 158 12 [a0, a1] (.ref o :: st) z h Q = (ni_rc (h o) 7 = true ∧ Nat.ble (ni_sw st) 8 = true ∧ ni_T d 143 0 [.ref o, .retAddr 0, .retAddr 0] [] z h (ni_K (d + 1) 158 15 [a0, a1] st z Q)) := ni_T_ce [.ref o] rfl rfl rfl rfl rfl rfl rfl rfl rfl
theorem s158_15 : ni_T d 158 15 [a0, a1] st z h Q = ni_T d 158 16 [a0, a1] (.int (-1) :: st) z h Q := ni_T_p rfl rfl
theorem s158_16 : ni_T d 158 16 [a0, a1] (.int y :: .int x :: st) z h Q = ni_T d 158 17 [a0, a1] (.int (x ^^^ y) :: st) z h Q := ni_T_p rfl rfl
theorem s158_17 : ni_T d 158 17 [a0, a1] (.int y :: .int x :: st) z h Q = ni_T d 158 18 [a0, a1] (.int (x &&& y) :: st) z h Q := ni_T_p rfl rfl
theorem s158_18 : ni_T d 158 18 [a0, a1] (.int x :: st) z h Q = if x = 0 then ni_T d 158 21 [a0, a1] st z h Q else ni_T d 158 25 [a0, a1] st z h Q := ni_T_b rfl rfl
theorem s158_21 : ni_T d 158 21 [a0, a1] st z h Q = ni_T d 158 22 [a0, a1] (.int 1 :: st) z h Q := ni_T_p rfl rfl
theorem s158_22 : ni_T d 158 22 [a0, a1] st z h Q = ni_T d 158 26 [a0, a1] st z h Q := ni_T_p rfl rfl
theorem s158_25 : ni_T d 158 25 [a0, a1] st z h Q = ni_T d 158 26 [a0, a1] (.int 0 :: st) z h Q := ni_T_p rfl rfl
theorem s158_26 : ni_T d 158 26 [a0, a1] [.int x] z h Q = (narrow .boolean (.int x) = .int x ∧ Q (some (.int x)) z h) := ni_T_z rfl rfl
theorem s159_0 : ni_T d 159 0 [.ref o, a1] st z h Q = ni_T d 159 1 [.ref o, a1] (.ref o :: st) z h Q := ni_T_p rfl rfl
theorem s159_1 : ni_T d 159 1 [a0, .int x] st z h Q = ni_T d 159 2 [a0, .int x] (.int x :: st) z h Q := ni_T_p rfl rfl
theorem s159_2 : ni_T (d + 1) 159 2 [a0, a1] (.int x0 :: .ref o :: st) z h Q = (ni_rc (h o) 7 = true ∧ Nat.ble (ni_sw st) 8 = true ∧ ni_T d 158 0 [.ref o, .int x0] [] z h (ni_K (d + 1) 159 5 [a0, a1] st z Q)) := ni_T_ce [.ref o, .int x0] rfl rfl rfl rfl rfl rfl rfl rfl rfl
theorem s159_5 : ni_T d 159 5 [a0, a1] (.int x :: st) z h Q = if x = 0 then ni_T d 159 18 [a0, a1] st z h Q else ni_T d 159 8 [a0, a1] st z h Q := ni_T_b rfl rfl
theorem s159_8 : ni_T d 159 8 [.ref o, a1] st z h Q = ni_T d 159 9 [.ref o, a1] (.ref o :: st) z h Q := ni_T_p rfl rfl
theorem s159_9 : ni_T d 159 9 [a0, a1] st z h Q = ni_T d 159 11 [a0, a1] (.int 33 :: st) z h Q := ni_T_p rfl rfl
theorem s159_11 : ni_T d 159 11 [a0, .int x] st z h Q = ni_T d 159 12 [a0, .int x] (.int x :: st) z h Q := ni_T_p rfl rfl
theorem s159_12 : ni_T (d + 1) 159 12 [a0, a1] (.int x1 :: .int x0 :: .ref o :: st) z h Q = (ni_rc (h o) 7 = true ∧ Nat.ble (ni_sw st) 8 = true ∧ ni_T d 157 0 [.ref o, .int x0, .int x1, .retAddr 0, .retAddr 0, .retAddr 0] [] z h (ni_K (d + 1) 159 15 [a0, a1] st z Q)) := ni_T_ce [.ref o, .int x0, .int x1] rfl rfl rfl rfl rfl rfl rfl rfl rfl
theorem s159_15 : ni_T d 159 15 [a0, a1] st z h Q = ni_T d 159 24 [a0, a1] st z h Q := ni_T_p rfl rfl
theorem s159_18 : ni_T d 159 18 [.ref o, a1] st z h Q = ni_T d 159 19 [.ref o, a1] (.ref o :: st) z h Q := ni_T_p rfl rfl
theorem s159_19 : ni_T d 159 19 [a0, a1] st z h Q = ni_T d 159 21 [a0, a1] (.int (-6) :: st) z h Q := ni_T_p rfl rfl
theorem s159_21 : ni_T (d + 1) 159 21 [a0, a1] (.int x0 :: .ref o :: st) z h Q = (ni_rc (h o) 7 = true ∧ Nat.ble (ni_sw st) 8 = true ∧ ni_T d 120 0 [.ref o, .int x0] [] z h (ni_K (d + 1) 159 24 [a0, a1] st z Q)) := ni_T_ce [.ref o, .int x0] rfl rfl rfl rfl rfl rfl rfl rfl rfl
theorem s159_24 : ni_T d 159 24 [a0, a1] [.int x] z h Q = Q (some (.int x)) z h := ni_T_i rfl rfl
theorem s160_0 : ni_T d 160 0 [.ref o, a1, a2, a3, a4] st z h Q = ni_T d 160 1 [.ref o, a1, a2, a3, a4] (.ref o :: st) z h Q := ni_T_p rfl rfl
theorem s160_1 : ni_T d 160 1 [a0, a1, a2, a3, a4] (.ref o :: st) z h Q = (ni_is (h o) 7 6 = true ∧ ni_T d 160 4 [a0, a1, a2, a3, a4] (ni_gv (h o) 6 :: st) z h Q) := ni_T_getf rfl
theorem s160_4 : ni_T d 160 4 [a0, .int x, a2, a3, a4] st z h Q = ni_T d 160 5 [a0, .int x, a2, a3, a4] (.int x :: st) z h Q := ni_T_p rfl rfl
theorem s160_5 : ni_T d 160 5 [a0, a1, a2, a3, a4] (.int x :: .ref o :: st) z h Q = (ni_okI (h o) x = true ∧ ni_T d 160 6 [a0, a1, a2, a3, a4] (.int (ni_gi (h o) x) :: st) z h Q) := ni_T_iald rfl
theorem s160_6 : ni_T d 160 6 [a0, a1, a2, a3, a4] (.int x :: st) z h Q = ni_T d 160 7 [a0, a1, ni_kl a2, .int x, a4] st z h Q := ni_T_p rfl rfl
theorem s160_7 : ni_T d 160 7 [a0, a1, a2, a3, a4] st z h Q = ni_T d 160 8 [a0, a1, a2, a3, a4] (.int 4 :: st) z h Q := ni_T_p rfl rfl
theorem s160_8 : ni_T d 160 8 [a0, a1, .int x, a3, a4] st z h Q = ni_T d 160 9 [a0, a1, .int x, a3, a4] (.int x :: st) z h Q := ni_T_p rfl rfl
theorem s160_9 : ni_T d 160 9 [a0, a1, a2, a3, a4] (.int y :: .int x :: st) z h Q = ni_T d 160 10 [a0, a1, a2, a3, a4] (.int (x * y) :: st) z h Q := ni_T_p rfl rfl
theorem s160_10 : ni_T d 160 10 [a0, a1, a2, a3, a4] (.int x :: st) z h Q = ni_T d 160 12 [a0, a1, a2, ni_kl a3, .int x] st z h Q := ni_T_p rfl rfl
theorem s160_12 : ni_T d 160 12 [a0, a1, a2, .int x, a4] st z h Q = ni_T d 160 13 [a0, a1, a2, .int x, a4] (.int x :: st) z h Q := ni_T_p rfl rfl
theorem s160_13 : ni_T d 160 13 [a0, a1, a2, a3, a4] st z h Q = ni_T d 160 14 [a0, a1, a2, a3, a4] (.int 2 :: st) z h Q := ni_T_p rfl rfl
theorem s160_14 : ni_T d 160 14 [a0, a1, a2, a3, a4] (.int y :: .int x :: st) z h Q = if x = y then ni_T d 160 22 [a0, a1, a2, a3, a4] st z h Q else ni_T d 160 17 [a0, a1, a2, a3, a4] st z h Q := ni_T_b rfl rfl
theorem s160_17 : ni_T d 160 17 [a0, a1, a2, .int x, a4] st z h Q = ni_T d 160 18 [a0, a1, a2, .int x, a4] (.int x :: st) z h Q := ni_T_p rfl rfl
theorem s160_18 : ni_T d 160 18 [a0, a1, a2, a3, a4] st z h Q = ni_T d 160 19 [a0, a1, a2, a3, a4] (.int 3 :: st) z h Q := ni_T_p rfl rfl
theorem s160_19 : ni_T d 160 19 [a0, a1, a2, a3, a4] (.int y :: .int x :: st) z h Q = if x = y then ni_T d 160 22 [a0, a1, a2, a3, a4] st z h Q else ni_T d 160 34 [a0, a1, a2, a3, a4] st z h Q := ni_T_b rfl rfl
theorem s160_22 : ni_T d 160 22 [a0, a1, a2, a3, .int x] st z h Q = ni_T d 160 24 [a0, a1, a2, a3, .int x] (.int x :: st) z h Q := ni_T_p rfl rfl
theorem s160_24 : ni_T d 160 24 [.ref o, a1, a2, a3, a4] st z h Q = ni_T d 160 25 [.ref o, a1, a2, a3, a4] (.ref o :: st) z h Q := ni_T_p rfl rfl
theorem s160_25 : ni_T d 160 25 [a0, a1, a2, a3, a4] (.ref o :: st) z h Q = (ni_is (h o) 7 7 = true ∧ ni_T d 160 28 [a0, a1, a2, a3, a4] (ni_gv (h o) 7 :: st) z h Q) := ni_T_getf rfl
theorem s160_28 : ni_T d 160 28 [a0, .int x, a2, a3, a4] st z h Q = ni_T d 160 29 [a0, .int x, a2, a3, a4] (.int x :: st) z h Q := ni_T_p rfl rfl
theorem s160_29 : ni_T d 160 29 [a0, a1, a2, a3, a4] (.int x :: .ref o :: st) z h Q = (ni_okI (h o) x = true ∧ ni_T d 160 30 [a0, a1, a2, a3, a4] (.int (ni_gi (h o) x) :: st) z h Q) := ni_T_iald rfl
theorem s160_30 : ni_T d 160 30 [a0, a1, a2, a3, a4] (.int y :: .int x :: st) z h Q = ni_T d 160 31 [a0, a1, a2, a3, a4] (.int (x + y) :: st) z h Q := ni_T_p rfl rfl
theorem s160_31 : ni_T d 160 31 [a0, a1, a2, a3, a4] st z h Q = ni_T d 160 54 [a0, a1, a2, a3, a4] st z h Q := ni_T_p rfl rfl
theorem s160_34 : ni_T d 160 34 [a0, a1, a2, .int x, a4] st z h Q = ni_T d 160 35 [a0, a1, a2, .int x, a4] (.int x :: st) z h Q := ni_T_p rfl rfl
theorem s160_35 : ni_T d 160 35 [a0, a1, a2, a3, a4] st z h Q = ni_T d 160 37 [a0, a1, a2, a3, a4] (.int 6 :: st) z h Q := ni_T_p rfl rfl
theorem s160_37 : ni_T d 160 37 [a0, a1, a2, a3, a4] (.int y :: .int x :: st) z h Q = if x = y then ni_T d 160 40 [a0, a1, a2, a3, a4] st z h Q else ni_T d 160 52 [a0, a1, a2, a3, a4] st z h Q := ni_T_b rfl rfl
theorem s160_40 : ni_T d 160 40 [a0, a1, a2, a3, .int x] st z h Q = ni_T d 160 42 [a0, a1, a2, a3, .int x] (.int x :: st) z h Q := ni_T_p rfl rfl
theorem s160_42 : ni_T d 160 42 [.ref o, a1, a2, a3, a4] st z h Q = ni_T d 160 43 [.ref o, a1, a2, a3, a4] (.ref o :: st) z h Q := ni_T_p rfl rfl
theorem s160_43 : ni_T d 160 43 [a0, a1, a2, a3, a4] (.ref o :: st) z h Q = (ni_is (h o) 7 7 = true ∧ ni_T d 160 46 [a0, a1, a2, a3, a4] (ni_gv (h o) 7 :: st) z h Q) := ni_T_getf rfl
theorem s160_46 : ni_T d 160 46 [a0, .int x, a2, a3, a4] st z h Q = ni_T d 160 47 [a0, .int x, a2, a3, a4] (.int x :: st) z h Q := ni_T_p rfl rfl
theorem s160_47 : ni_T d 160 47 [a0, a1, a2, a3, a4] (.int x :: .ref o :: st) z h Q = (ni_okI (h o) x = true ∧ ni_T d 160 48 [a0, a1, a2, a3, a4] (.int (ni_gi (h o) x) :: st) z h Q) := ni_T_iald rfl
theorem s160_48 : ni_T d 160 48 [a0, a1, a2, a3, a4] (.int y :: .int x :: st) z h Q = ni_T d 160 49 [a0, a1, a2, a3, a4] (.int (x - y) :: st) z h Q := ni_T_p rfl rfl
theorem s160_49 : ni_T d 160 49 [a0, a1, a2, a3, a4] st z h Q = ni_T d 160 54 [a0, a1, a2, a3, a4] st z h Q := ni_T_p rfl rfl
theorem s160_52 : ni_T d 160 52 [a0, a1, a2, a3, .int x] st z h Q = ni_T d 160 54 [a0, a1, a2, a3, .int x] (.int x :: st) z h Q := ni_T_p rfl rfl
theorem s160_54 : ni_T d 160 54 [a0, a1, a2, a3, a4] [.int x] z h Q = Q (some (.int x)) z h := ni_T_i rfl rfl
theorem s161_0 : ni_T d 161 0 [.ref o, a1] st z h Q = ni_T d 161 1 [.ref o, a1] (.ref o :: st) z h Q := ni_T_p rfl rfl
theorem s161_1 : ni_T d 161 1 [a0, a1] (.ref o :: st) z h Q = (ni_is (h o) 7 6 = true ∧ ni_T d 161 4 [a0, a1] (ni_gv (h o) 6 :: st) z h Q) := ni_T_getf rfl
theorem s161_4 : ni_T d 161 4 [a0, .int x] st z h Q = ni_T d 161 5 [a0, .int x] (.int x :: st) z h Q := ni_T_p rfl rfl
theorem s161_5 : ni_T d 161 5 [a0, a1] (.int x :: .ref o :: st) z h Q = (ni_okI (h o) x = true ∧ ni_T d 161 6 [a0, a1] (.int (ni_gi (h o) x) :: st) z h Q) := ni_T_iald rfl
theorem s161_6_3 : ni_T d 161 6 [a0, a1] (.int 3 :: st) z h Q = ni_T d 161 36 [a0, a1] st z h Q := ni_T_p rfl rfl
theorem s161_6_4 : ni_T d 161 6 [a0, a1] (.int 4 :: st) z h Q = ni_T d 161 38 [a0, a1] st z h Q := ni_T_p rfl rfl
theorem s161_6_5 : ni_T d 161 6 [a0, a1] (.int 5 :: st) z h Q = ni_T d 161 50 [a0, a1] st z h Q := ni_T_p rfl rfl
theorem s161_6_6 : ni_T d 161 6 [a0, a1] (.int 6 :: st) z h Q = ni_T d 161 38 [a0, a1] st z h Q := ni_T_p rfl rfl
theorem s161_6_d (hx : x.toInt < 3 ∨ 6 < x.toInt) : ni_T d 161 6 [a0, a1] (.int x :: st) z h Q = ni_T d 161 52 [a0, a1] st z h Q := ni_T_tsw rfl hx (by decide) rfl
theorem s161_36 : ni_T d 161 36 [a0, a1] st z h Q = ni_T d 161 37 [a0, a1] (.int 2 :: st) z h Q := ni_T_p rfl rfl
theorem s161_37 : ni_T d 161 37 [a0, a1] [.int x] z h Q = Q (some (.int x)) z h := ni_T_i rfl rfl
theorem s161_38 : ni_T d 161 38 [a0, a1] st z h Q = ni_T d 161 39 [a0, a1] (.int 3 :: st) z h Q := ni_T_p rfl rfl
theorem s161_39 : ni_T d 161 39 [.ref o, a1] st z h Q = ni_T d 161 40 [.ref o, a1] (.ref o :: st) z h Q := ni_T_p rfl rfl
theorem s161_40 : ni_T d 161 40 [a0, a1] (.ref o :: st) z h Q = (ni_is (h o) 7 10 = true ∧ ni_T d 161 43 [a0, a1] (ni_gv (h o) 10 :: st) z h Q) := ni_T_getf rfl
theorem s161_43 : ni_T d 161 43 [a0, .int x] st z h Q = ni_T d 161 44 [a0, .int x] (.int x :: st) z h Q := ni_T_p rfl rfl
theorem s161_44 : ni_T d 161 44 [a0, a1] (.int x :: .ref o :: st) z h Q = (ni_okI (h o) x = true ∧ ni_T d 161 45 [a0, a1] (.int (ni_gi (h o) x) :: st) z h Q) := ni_T_iald rfl
theorem s161_45 : ni_T d 161 45 [a0, a1] st z h Q = ni_T d 161 47 [a0, a1] (.int 10 :: st) z h Q := ni_T_p rfl rfl
theorem s161_47 : ni_T d 161 47 [a0, a1] (.int y :: .int x :: st) z h Q = (¬ y = 0 ∧ ni_T d 161 48 [a0, a1] (.int (x / y) :: st) z h Q) := ni_T_idiv rfl
theorem s161_48 : ni_T d 161 48 [a0, a1] (.int y :: .int x :: st) z h Q = ni_T d 161 49 [a0, a1] (.int (x + y) :: st) z h Q := ni_T_p rfl rfl
theorem s161_49 : ni_T d 161 49 [a0, a1] [.int x] z h Q = Q (some (.int x)) z h := ni_T_i rfl rfl
theorem s161_50 : ni_T d 161 50 [a0, a1] st z h Q = ni_T d 161 51 [a0, a1] (.int 5 :: st) z h Q := ni_T_p rfl rfl
theorem s161_51 : ni_T d 161 51 [a0, a1] [.int x] z h Q = Q (some (.int x)) z h := ni_T_i rfl rfl
theorem s161_52 : ni_T d 161 52 [a0, a1] st z h Q = ni_T d 161 53 [a0, a1] (.int 3 :: st) z h Q := ni_T_p rfl rfl
theorem s161_53 : ni_T d 161 53 [a0, a1] [.int x] z h Q = Q (some (.int x)) z h := ni_T_i rfl rfl
theorem s162_0 : ni_T d 162 0 [.ref o, a1] st z h Q = ni_T d 162 1 [.ref o, a1] (.ref o :: st) z h Q := ni_T_p rfl rfl
theorem s162_1 : ni_T d 162 1 [a0, a1] (.ref o :: st) z h Q = (ni_is (h o) 7 6 = true ∧ ni_T d 162 4 [a0, a1] (ni_gv (h o) 6 :: st) z h Q) := ni_T_getf rfl
theorem s162_4 : ni_T d 162 4 [a0, .int x] st z h Q = ni_T d 162 5 [a0, .int x] (.int x :: st) z h Q := ni_T_p rfl rfl
theorem s162_5 : ni_T d 162 5 [a0, a1] (.int x :: .ref o :: st) z h Q = (ni_okI (h o) x = true ∧ ni_T d 162 6 [a0, a1] (.int (ni_gi (h o) x) :: st) z h Q) := ni_T_iald rfl
theorem s162_6 : ni_T d 162 6 [a0, a1] st z h Q = ni_T d 162 7 [a0, a1] (.int 1 :: st) z h Q := ni_T_p rfl rfl
theorem s162_7 : ni_T d 162 7 [a0, a1] (.int y :: .int x :: st) z h Q = if x = y then ni_T d 162 20 [a0, a1] st z h Q else ni_T d 162 10 [a0, a1] st z h Q := ni_T_b rfl rfl
theorem s162_10 : ni_T d 162 10 [.ref o, a1] st z h Q = ni_T d 162 11 [.ref o, a1] (.ref o :: st) z h Q := ni_T_p rfl rfl
theorem s162_11 : ni_T d 162 11 [a0, a1] (.ref o :: st) z h Q = (ni_is (h o) 7 6 = true ∧ ni_T d 162 14 [a0, a1] (ni_gv (h o) 6 :: st) z h Q) := ni_T_getf rfl
theorem s162_14 : ni_T d 162 14 [a0, .int x] st z h Q = ni_T d 162 15 [a0, .int x] (.int x :: st) z h Q := ni_T_p rfl rfl
theorem s162_15 : ni_T d 162 15 [a0, a1] (.int x :: .ref o :: st) z h Q = (ni_okI (h o) x = true ∧ ni_T d 162 16 [a0, a1] (.int (ni_gi (h o) x) :: st) z h Q) := ni_T_iald rfl
theorem s162_16 : ni_T d 162 16 [a0, a1] st z h Q = ni_T d 162 17 [a0, a1] (.int 5 :: st) z h Q := ni_T_p rfl rfl
theorem s162_17 : ni_T d 162 17 [a0, a1] (.int y :: .int x :: st) z h Q = if x = y then ni_T d 162 20 [a0, a1] st z h Q else ni_T d 162 33 [a0, a1] st z h Q := ni_T_b rfl rfl
theorem s162_20 : ni_T d 162 20 [.ref o, a1] st z h Q = ni_T d 162 21 [.ref o, a1] (.ref o :: st) z h Q := ni_T_p rfl rfl
theorem s162_21 : ni_T d 162 21 [a0, a1] (.ref o :: st) z h Q = (ni_is (h o) 7 7 = true ∧ ni_T d 162 24 [a0, a1] (ni_gv (h o) 7 :: st) z h Q) := ni_T_getf rfl
theorem s162_24 : ni_T d 162 24 [a0, .int x] st z h Q = ni_T d 162 25 [a0, .int x] (.int x :: st) z h Q := ni_T_p rfl rfl
theorem s162_25 : ni_T d 162 25 [a0, a1] (.int x :: .ref o :: st) z h Q = (ni_okI (h o) x = true ∧ ni_T d 162 26 [a0, a1] (.int (ni_gi (h o) x) :: st) z h Q) := ni_T_iald rfl
theorem s162_26 : ni_T d 162 26 [a0, a1] st z h Q = ni_T d 162 27 [a0, a1] (.int 3 :: st) z h Q := ni_T_p rfl rfl
theorem s162_27 : ni_T d 162 27 [a0, a1] (.int y :: .int x :: st) z h Q = (¬ y = 0 ∧ ni_T d 162 28 [a0, a1] (.int (x - x / y * y) :: st) z h Q) := ni_T_irem rfl
theorem s162_28 : ni_T d 162 28 [a0, a1] st z h Q = ni_T d 162 29 [a0, a1] (.int 1 :: st) z h Q := ni_T_p rfl rfl
theorem s162_29 : ni_T d 162 29 [a0, a1] (.int y :: .int x :: st) z h Q = ni_T d 162 30 [a0, a1] (.int (x + y) :: st) z h Q := ni_T_p rfl rfl
theorem s162_30 : ni_T d 162 30 [a0, a1] st z h Q = ni_T d 162 34 [a0, a1] st z h Q := ni_T_p rfl rfl
theorem s162_33 : ni_T d 162 33 [a0, a1] st z h Q = ni_T d 162 34 [a0, a1] (.int 4 :: st) z h Q := ni_T_p rfl rfl
theorem s162_34 : ni_T d 162 34 [a0, a1] [.int x] z h Q = Q (some (.int x)) z h := ni_T_i rfl rfl
theorem s163_0 : ni_T d 163 0 [a0, a1, .int x, a3, a4, a5, a6, a7] st z h Q = ni_T d 163 1 [a0, a1, .int x, a3, a4, a5, a6, a7] (.int x :: st) z h Q := ni_T_p rfl rfl
theorem s163_1 : ni_T d 163 1 [a0, a1, a2, a3, a4, a5, a6, a7] (.int x :: st) z h Q = if x = 0 then ni_T d 163 33 [a0, a1, a2, a3, a4, a5, a6, a7] st z h Q else ni_T d 163 4 [a0, a1, a2, a3, a4, a5, a6, a7] st z h Q := ni_T_b rfl rfl
theorem s163_4 : ni_T d 163 4 [.ref o, a1, a2, a3, a4, a5, a6, a7] st z h Q = ni_T d 163 5 [.ref o, a1, a2, a3, a4, a5, a6, a7] (.ref o :: st) z h Q := ni_T_p rfl rfl
theorem s163_5 : ni_T d 163 5 [a0, a1, a2, a3, a4, a5, a6, a7] st z h Q = ni_T d 163 7 [a0, a1, a2, a3, a4, a5, a6, a7] (.int 33 :: st) z h Q := ni_T_p rfl rfl
theorem s163_7 : ni_T d 163 7 [a0, a1, .int x, a3, a4, a5, a6, a7] st z h Q = ni_T d 163 8 [a0, a1, .int x, a3, a4, a5, a6, a7] (.int x :: st) z h Q := ni_T_p rfl rfl
theorem s163_8 : ni_T (d + 1) 163 8 [a0, a1, a2, a3, a4, a5, a6, a7] (.int x1 :: .int x0 :: .ref o :: st) z h Q = (ni_rc (h o) 7 = true ∧ Nat.ble (ni_sw st) 8 = true ∧ ni_T d 157 0 [.ref o, .int x0, .int x1, .retAddr 0, .retAddr 0, .retAddr 0] [] z h (ni_K (d + 1) 163 11 [a0, a1, a2, a3, a4, a5, a6, a7] st z Q)) := ni_T_ce [.ref o, .int x0, .int x1] rfl rfl rfl rfl rfl rfl rfl rfl rfl
theorem s163_11 : ni_T d 163 11 [.ref o, a1, a2, a3, a4, a5, a6, a7] st z h Q = ni_T d 163 12 [.ref o, a1, a2, a3, a4, a5, a6, a7] (.ref o :: st) z h Q := ni_T_p rfl rfl
theorem s163_12 : ni_T d 163 12 [a0, .int x, a2, a3, a4, a5, a6, a7] st z h Q = ni_T d 163 13 [a0, .int x, a2, a3, a4, a5, a6, a7] (.int x :: st) z h Q := ni_T_p rfl rfl
theorem s163_13 : ni_T d 163 13 [a0, a1, a2, .int x, a4, a5, a6, a7] st z h Q = ni_T d 163 14 [a0, a1, a2, .int x, a4, a5, a6, a7] (.int x :: st) z h Q := ni_T_p rfl rfl
theorem s163_14 : ni_T (d + 1) 163 14 [a0, a1, a2, a3, a4, a5, a6, a7] (.int x1 :: .int x0 :: .ref o :: st) z h Q = (ni_rc (h o) 7 = true ∧ Nat.ble (ni_sw st) 8 = true ∧ ni_T d 160 0 [.ref o, .int x0, .int x1, .retAddr 0, .retAddr 0] [] z h (ni_K (d + 1) 163 17 [a0, a1, a2, a3, a4, a5, a6, a7] st z Q)) := ni_T_ce [.ref o, .int x0, .int x1] rfl rfl rfl rfl rfl rfl rfl rfl rfl
theorem s163_17 : ni_T d 163 17 [a0, a1, a2, a3, a4, a5, a6, a7] (.int y :: .int x :: st) z h Q = if y < x then ni_T d 163 33 [a0, a1, a2, a3, a4, a5, a6, a7] st z h Q else ni_T d 163 20 [a0, a1, a2, a3, a4, a5, a6, a7] st z h Q := ni_T_b rfl rfl
theorem s163_20 : ni_T d 163 20 [.ref o, a1, a2, a3, a4, a5, a6, a7] st z h Q = ni_T d 163 21 [.ref o, a1, a2, a3, a4, a5, a6, a7] (.ref o :: st) z h Q := ni_T_p rfl rfl
theorem s163_21 : ni_T d 163 21 [a0, a1, .int x, a3, a4, a5, a6, a7] st z h Q = ni_T d 163 22 [a0, a1, .int x, a3, a4, a5, a6, a7] (.int x :: st) z h Q := ni_T_p rfl rfl
theorem s163_22 : ni_T (d + 1) 163 22 [a0, a1, a2, a3, a4, a5, a6, a7] (.int x0 :: .ref o :: st) z h Q = (ni_rc (h o) 7 = true ∧ Nat.ble (ni_sw st) 8 = true ∧ ni_T d 144 0 [.ref o, .int x0, .retAddr 0, .retAddr 0] [] z h (ni_K (d + 1) 163 25 [a0, a1, a2, a3, a4, a5, a6, a7] st z Q)) := ni_T_ce [.ref o, .int x0] rfl rfl rfl rfl rfl rfl rfl rfl rfl
theorem s163_25 : ni_T d 163 25 [.ref o, a1, a2, a3, a4, a5, a6, a7] st z h Q = ni_T d 163 26 [.ref o, a1, a2, a3, a4, a5, a6, a7] (.ref o :: st) z h Q := ni_T_p rfl rfl
theorem s163_26 : ni_T d 163 26 [a0, .int x, a2, a3, a4, a5, a6, a7] st z h Q = ni_T d 163 27 [a0, .int x, a2, a3, a4, a5, a6, a7] (.int x :: st) z h Q := ni_T_p rfl rfl
theorem s163_27 : ni_T (d + 1) 163 27 [a0, a1, a2, a3, a4, a5, a6, a7] (.int x0 :: .ref o :: st) z h Q = (ni_rc (h o) 7 = true ∧ Nat.ble (ni_sw st) 8 = true ∧ ni_T d 162 0 [.ref o, .int x0] [] z h (ni_K (d + 1) 163 30 [a0, a1, a2, a3, a4, a5, a6, a7] st z Q)) := ni_T_ce [.ref o, .int x0] rfl rfl rfl rfl rfl rfl rfl rfl rfl
theorem s163_30 : ni_T d 163 30 [a0, a1, a2, a3, a4, a5, a6, a7] (.int y :: .int x :: st) z h Q = if x ≤ y then ni_T d 163 35 [a0, a1, a2, a3, a4, a5, a6, a7] st z h Q else ni_T d 163 33 [a0, a1, a2, a3, a4, a5, a6, a7] st z h Q := ni_T_b rfl rfl
theorem s163_33 : ni_T d 163 33 [a0, a1, a2, a3, a4, a5, a6, a7] st z h Q = ni_T d 163 34 [a0, a1, a2, a3, a4, a5, a6, a7] (.int 0 :: st) z h Q := ni_T_p rfl rfl
theorem s163_34 : ni_T d 163 34 [a0, a1, a2, a3, a4, a5, a6, a7] [.int x] z h Q = Q (some (.int x)) z h := ni_T_i rfl rfl
theorem s163_35 : ni_T d 163 35 [a0, a1, a2, a3, a4, a5, a6, a7] st z h Q = ni_T d 163 37 [a0, a1, a2, a3, a4, a5, a6, a7] (.int 100 :: st) z h Q := ni_T_p rfl rfl
theorem s163_37 : ni_T d 163 37 [.ref o, a1, a2, a3, a4, a5, a6, a7] st z h Q = ni_T d 163 38 [.ref o, a1, a2, a3, a4, a5, a6, a7] (.ref o :: st) z h Q := ni_T_p rfl rfl
theorem s163_38 : ni_T d 163 38 [a0, .int x, a2, a3, a4, a5, a6, a7] st z h Q = ni_T d 163 39 [a0, .int x, a2, a3, a4, a5, a6, a7] (.int x :: st) z h Q := ni_T_p rfl rfl
theorem s163_39 : ni_T (d + 1) 163 39 [a0, a1, a2, a3, a4, a5, a6, a7] (.int x0 :: .ref o :: st) z h Q = (ni_rc (h o) 7 = true ∧ Nat.ble (ni_sw st) 8 = true ∧ ni_T d 161 0 [.ref o, .int x0] [] z h (ni_K (d + 1) 163 42 [a0, a1, a2, a3, a4, a5, a6, a7] st z Q)) := ni_T_ce [.ref o, .int x0] rfl rfl rfl rfl rfl rfl rfl rfl rfl
theorem s163_42 : ni_T d 163 42 [a0, a1, a2, .int x, a4, a5, a6, a7] st z h Q = ni_T d 163 43 [a0, a1, a2, .int x, a4, a5, a6, a7] (.int x :: st) z h Q := ni_T_p rfl rfl
theorem s163_43 : ni_T d 163 43 [a0, a1, a2, a3, a4, a5, a6, a7] (.int y :: .int x :: st) z h Q = ni_T d 163 44 [a0, a1, a2, a3, a4, a5, a6, a7] (.int (x * y) :: st) z h Q := ni_T_p rfl rfl
theorem s163_44 : ni_T d 163 44 [a0, a1, a2, a3, a4, a5, a6, a7] (.int y :: .int x :: st) z h Q = ni_T d 163 45 [a0, a1, a2, a3, a4, a5, a6, a7] (.int (x - y) :: st) z h Q := ni_T_p rfl rfl
theorem s163_45 : ni_T d 163 45 [a0, a1, a2, a3, a4, a5, a6, a7] (.int x :: st) z h Q = ni_T d 163 47 [a0, a1, a2, ni_kl a3, .int x, a5, a6, a7] st z h Q := ni_T_p rfl rfl
theorem s163_47 : ni_T d 163 47 [a0, a1, a2, a3, a4, a5, a6, a7] st z h Q = ni_T d 163 48 [a0, a1, a2, a3, a4, a5, a6, a7] (.int 0 :: st) z h Q := ni_T_p rfl rfl
theorem s163_48 : ni_T d 163 48 [a0, a1, a2, a3, a4, a5, a6, a7] (.int x :: st) z h Q = ni_T d 163 50 [a0, a1, a2, a3, ni_kl a4, .int x, a6, a7] st z h Q := ni_T_p rfl rfl
theorem s163_50 : ni_T d 163 50 [a0, a1, a2, a3, a4, .int x, a6, a7] st z h Q = ni_T d 163 52 [a0, a1, a2, a3, a4, .int x, a6, a7] (.int x :: st) z h Q := ni_T_p rfl rfl
theorem s163_52 : ni_T d 163 52 [a0, a1, a2, a3, a4, a5, a6, a7] st z h Q = ni_T d 163 53 [a0, a1, a2, a3, a4, a5, a6, a7] (.int 5 :: st) z h Q := ni_T_p rfl rfl
theorem s163_53 : ni_T d 163 53 [a0, a1, a2, a3, a4, a5, a6, a7] (.int y :: .int x :: st) z h Q = if y ≤ x then ni_T d 163 148 [a0, a1, a2, a3, a4, a5, a6, a7] st z h Q else ni_T d 163 56 [a0, a1, a2, a3, a4, a5, a6, a7] st z h Q := ni_T_b rfl rfl
theorem s163_56 : ni_T d 163 56 [.ref o, a1, a2, a3, a4, a5, a6, a7] st z h Q = ni_T d 163 57 [.ref o, a1, a2, a3, a4, a5, a6, a7] (.ref o :: st) z h Q := ni_T_p rfl rfl
theorem s163_57 : ni_T d 163 57 [a0, a1, a2, a3, a4, a5, a6, a7] (.ref o :: st) z h Q = (ni_is (h o) 7 27 = true ∧ ni_T d 163 60 [a0, a1, a2, a3, a4, a5, a6, a7] (ni_gv (h o) 27 :: st) z h Q) := ni_T_getf rfl
theorem s163_60 : ni_T d 163 60 [a0, a1, a2, a3, a4, .int x, a6, a7] st z h Q = ni_T d 163 62 [a0, a1, a2, a3, a4, .int x, a6, a7] (.int x :: st) z h Q := ni_T_p rfl rfl
theorem s163_62 : ni_T d 163 62 [a0, a1, a2, a3, a4, a5, a6, a7] (.int y :: .int x :: st) z h Q = ni_T d 163 63 [a0, a1, a2, a3, a4, a5, a6, a7] (.int (x >>> (y &&& 31)) :: st) z h Q := ni_T_p rfl rfl
theorem s163_63 : ni_T d 163 63 [a0, a1, a2, a3, a4, a5, a6, a7] st z h Q = ni_T d 163 64 [a0, a1, a2, a3, a4, a5, a6, a7] (.int 1 :: st) z h Q := ni_T_p rfl rfl
theorem s163_64 : ni_T d 163 64 [a0, a1, a2, a3, a4, a5, a6, a7] (.int y :: .int x :: st) z h Q = ni_T d 163 65 [a0, a1, a2, a3, a4, a5, a6, a7] (.int (x &&& y) :: st) z h Q := ni_T_p rfl rfl
theorem s163_65 : ni_T d 163 65 [a0, a1, a2, a3, a4, a5, a6, a7] (.int x :: st) z h Q = if x = 0 then ni_T d 163 142 [a0, a1, a2, a3, a4, a5, a6, a7] st z h Q else ni_T d 163 68 [a0, a1, a2, a3, a4, a5, a6, a7] st z h Q := ni_T_b rfl rfl
theorem s163_68 : ni_T d 163 68 [a0, a1, .int x, a3, a4, a5, a6, a7] st z h Q = ni_T d 163 69 [a0, a1, .int x, a3, a4, a5, a6, a7] (.int x :: st) z h Q := ni_T_p rfl rfl
theorem s163_69 : ni_T d 163 69 [a0, a1, a2, a3, a4, .int x, a6, a7] st z h Q = ni_T d 163 71 [a0, a1, a2, a3, a4, .int x, a6, a7] (.int x :: st) z h Q := ni_T_p rfl rfl
theorem s163_71 : ni_T d 163 71 [a0, a1, a2, a3, a4, a5, a6, a7] (.int y :: .int x :: st) z h Q = ni_T d 163 72 [a0, a1, a2, a3, a4, a5, a6, a7] (.int (x >>> (y &&& 31)) :: st) z h Q := ni_T_p rfl rfl
theorem s163_72 : ni_T d 163 72 [a0, a1, a2, a3, a4, a5, a6, a7] st z h Q = ni_T d 163 73 [a0, a1, a2, a3, a4, a5, a6, a7] (.int 1 :: st) z h Q := ni_T_p rfl rfl
theorem s163_73 : ni_T d 163 73 [a0, a1, a2, a3, a4, a5, a6, a7] (.int y :: .int x :: st) z h Q = ni_T d 163 74 [a0, a1, a2, a3, a4, a5, a6, a7] (.int (x &&& y) :: st) z h Q := ni_T_p rfl rfl
theorem s163_74 : ni_T d 163 74 [a0, a1, a2, a3, a4, a5, a6, a7] st z h Q = ni_T d 163 75 [a0, a1, a2, a3, a4, a5, a6, a7] (.int 1 :: st) z h Q := ni_T_p rfl rfl
theorem s163_75 : ni_T d 163 75 [a0, a1, a2, a3, a4, a5, a6, a7] (.int y :: .int x :: st) z h Q = if x = y then ni_T d 163 78 [a0, a1, a2, a3, a4, a5, a6, a7] st z h Q else ni_T d 163 81 [a0, a1, a2, a3, a4, a5, a6, a7] st z h Q := ni_T_b rfl rfl
theorem s163_78 : ni_T d 163 78 [a0, a1, a2, a3, a4, a5, a6, a7] st z h Q = ni_T d 163 142 [a0, a1, a2, a3, a4, a5, a6, a7] st z h Q := ni_T_p rfl rfl
theorem s163_81 : ni_T d 163 81 [a0, a1, a2, a3, a4, a5, a6, a7] st z h Q = ni_T d 163 82 [a0, a1, a2, a3, a4, a5, a6, a7] (.int 0 :: st) z h Q := ni_T_p rfl rfl
theorem s163_82 : ni_T d 163 82 [a0, a1, a2, a3, a4, a5, a6, a7] (.int x :: st) z h Q = ni_T d 163 84 [a0, a1, a2, a3, a4, ni_kl a5, .int x, a7] st z h Q := ni_T_p rfl rfl
theorem s163_84 : ni_T d 163 84 [a0, a1, a2, a3, a4, a5, a6, a7] st z h Q = ni_T d 163 85 [a0, a1, a2, a3, a4, a5, a6, a7] (.int 0 :: st) z h Q := ni_T_p rfl rfl
theorem s163_85 : ni_T d 163 85 [a0, a1, a2, a3, a4, a5, a6, a7] (.int x :: st) z h Q = ni_T d 163 87 [a0, a1, a2, a3, a4, a5, ni_kl a6, .int x] st z h Q := ni_T_p rfl rfl
theorem s163_87 : ni_T d 163 87 [a0, a1, a2, a3, a4, a5, a6, .int x] st z h Q = ni_T d 163 89 [a0, a1, a2, a3, a4, a5, a6, .int x] (.int x :: st) z h Q := ni_T_p rfl rfl
theorem s163_89 : ni_T d 163 89 [a0, a1, a2, a3, a4, a5, a6, a7] st z h Q = ni_T d 163 90 [a0, a1, a2, a3, a4, a5, a6, a7] (.int 5 :: st) z h Q := ni_T_p rfl rfl
theorem s163_90 : ni_T d 163 90 [a0, a1, a2, a3, a4, a5, a6, a7] (.int y :: .int x :: st) z h Q = if y ≤ x then ni_T d 163 134 [a0, a1, a2, a3, a4, a5, a6, a7] st z h Q else ni_T d 163 93 [a0, a1, a2, a3, a4, a5, a6, a7] st z h Q := ni_T_b rfl rfl
theorem s163_93 : ni_T d 163 93 [a0, a1, .int x, a3, a4, a5, a6, a7] st z h Q = ni_T d 163 94 [a0, a1, .int x, a3, a4, a5, a6, a7] (.int x :: st) z h Q := ni_T_p rfl rfl
theorem s163_94 : ni_T d 163 94 [a0, a1, a2, a3, a4, a5, a6, .int x] st z h Q = ni_T d 163 96 [a0, a1, a2, a3, a4, a5, a6, .int x] (.int x :: st) z h Q := ni_T_p rfl rfl
theorem s163_96 : ni_T d 163 96 [a0, a1, a2, a3, a4, a5, a6, a7] (.int y :: .int x :: st) z h Q = ni_T d 163 97 [a0, a1, a2, a3, a4, a5, a6, a7] (.int (x >>> (y &&& 31)) :: st) z h Q := ni_T_p rfl rfl
theorem s163_97 : ni_T d 163 97 [a0, a1, a2, a3, a4, a5, a6, a7] st z h Q = ni_T d 163 98 [a0, a1, a2, a3, a4, a5, a6, a7] (.int 1 :: st) z h Q := ni_T_p rfl rfl
theorem s163_98 : ni_T d 163 98 [a0, a1, a2, a3, a4, a5, a6, a7] (.int y :: .int x :: st) z h Q = ni_T d 163 99 [a0, a1, a2, a3, a4, a5, a6, a7] (.int (x &&& y) :: st) z h Q := ni_T_p rfl rfl
theorem s163_99 : ni_T d 163 99 [a0, a1, a2, a3, a4, a5, a6, a7] st z h Q = ni_T d 163 100 [a0, a1, a2, a3, a4, a5, a6, a7] (.int 1 :: st) z h Q := ni_T_p rfl rfl
theorem s163_100 : ni_T d 163 100 [a0, a1, a2, a3, a4, a5, a6, a7] (.int y :: .int x :: st) z h Q = if x = y then ni_T d 163 103 [a0, a1, a2, a3, a4, a5, a6, a7] st z h Q else ni_T d 163 128 [a0, a1, a2, a3, a4, a5, a6, a7] st z h Q := ni_T_b rfl rfl
theorem s163_103 : ni_T d 163 103 [.ref o, a1, a2, a3, a4, a5, a6, a7] st z h Q = ni_T d 163 104 [.ref o, a1, a2, a3, a4, a5, a6, a7] (.ref o :: st) z h Q := ni_T_p rfl rfl
theorem s163_104 : ni_T d 163 104 [.ref o, a1, a2, a3, a4, a5, a6, a7] st z h Q = ni_T d 163 105 [.ref o, a1, a2, a3, a4, a5, a6, a7] (.ref o :: st) z h Q := ni_T_p rfl rfl
theorem s163_105 : ni_T d 163 105 [a0, a1, a2, a3, a4, a5, a6, a7] (.ref o :: st) z h Q = (ni_is (h o) 7 11 = true ∧ ni_T d 163 108 [a0, a1, a2, a3, a4, a5, a6, a7] (ni_gv (h o) 11 :: st) z h Q) := ni_T_getf rfl
theorem s163_108 : ni_T d 163 108 [a0, a1, a2, a3, a4, .int x, a6, a7] st z h Q = ni_T d 163 110 [a0, a1, a2, a3, a4, .int x, a6, a7] (.int x :: st) z h Q := ni_T_p rfl rfl
theorem s163_110 : ni_T d 163 110 [a0, a1, a2, a3, a4, a5, a6, a7] (.int x :: .ref o :: st) z h Q = (ni_okI (h o) x = true ∧ ni_T d 163 111 [a0, a1, a2, a3, a4, a5, a6, a7] (.int (ni_gi (h o) x) :: st) z h Q) := ni_T_iald rfl
theorem s163_111 : ni_T d 163 111 [.ref o, a1, a2, a3, a4, a5, a6, a7] st z h Q = ni_T d 163 112 [.ref o, a1, a2, a3, a4, a5, a6, a7] (.ref o :: st) z h Q := ni_T_p rfl rfl
theorem s163_112 : ni_T d 163 112 [a0, a1, a2, a3, a4, a5, a6, a7] (.ref o :: st) z h Q = (ni_is (h o) 7 11 = true ∧ ni_T d 163 115 [a0, a1, a2, a3, a4, a5, a6, a7] (ni_gv (h o) 11 :: st) z h Q) := ni_T_getf rfl
theorem s163_115 : ni_T d 163 115 [a0, a1, a2, a3, a4, a5, a6, .int x] st z h Q = ni_T d 163 117 [a0, a1, a2, a3, a4, a5, a6, .int x] (.int x :: st) z h Q := ni_T_p rfl rfl
theorem s163_117 : ni_T d 163 117 [a0, a1, a2, a3, a4, a5, a6, a7] (.int x :: .ref o :: st) z h Q = (ni_okI (h o) x = true ∧ ni_T d 163 118 [a0, a1, a2, a3, a4, a5, a6, a7] (.int (ni_gi (h o) x) :: st) z h Q) := ni_T_iald rfl
theorem s163_118 : ni_T (d + 1) 163 118 [a0, a1, a2, a3, a4, a5, a6, a7] (.int x1 :: .int x0 :: .ref o :: st) z h Q = (ni_rc (h o) 7 = true ∧ Nat.ble (ni_sw st) 8 = true ∧ ni_T d 156 0 [.ref o, .int x0, .int x1, .retAddr 0, .retAddr 0] [] z h (ni_K (d + 1) 163 121 [a0, a1, a2, a3, a4, a5, a6, a7] st z Q)) := ni_T_ce [.ref o, .int x0, .int x1] rfl rfl rfl rfl rfl rfl rfl rfl rfl
theorem s163_121 : ni_T d 163 121 [a0, a1, a2, a3, a4, a5, a6, a7] st z h Q = ni_T d 163 122 [a0, a1, a2, a3, a4, a5, a6, a7] (.int 1 :: st) z h Q := ni_T_p rfl rfl
theorem s163_122 : ni_T d 163 122 [a0, a1, a2, a3, a4, a5, a6, a7] (.int y :: .int x :: st) z h Q = if x = y then ni_T d 163 125 [a0, a1, a2, a3, a4, a5, a6, a7] st z h Q else ni_T d 163 128 [a0, a1, a2, a3, a4, a5, a6, a7] st z h Q := ni_T_b rfl rfl
theorem s163_125 : ni_T d 163 125 [a0, a1, a2, a3, a4, a5, a6, a7] st z h Q = ni_T d 163 126 [a0, a1, a2, a3, a4, a5, a6, a7] (.int 1 :: st) z h Q := ni_T_p rfl rfl
theorem s163_126 : ni_T d 163 126 [a0, a1, a2, a3, a4, a5, a6, a7] (.int x :: st) z h Q = ni_T d 163 128 [a0, a1, a2, a3, a4, ni_kl a5, .int x, a7] st z h Q := ni_T_p rfl rfl
theorem s163_128 : ni_T d 163 128 [a0, a1, a2, a3, a4, a5, a6, .int x] st z h Q = ni_T d 163 131 [a0, a1, a2, a3, a4, a5, ni_kl a6, .int (x + 1)] st z h Q := ni_T_p rfl rfl
theorem s163_131 : ni_T d 163 131 [a0, a1, a2, a3, a4, a5, a6, a7] st z h Q = ni_T d 163 87 [a0, a1, a2, a3, a4, a5, a6, a7] st z h Q := ni_T_p rfl rfl
theorem s163_134 : ni_T d 163 134 [a0, a1, a2, a3, a4, a5, .int x, a7] st z h Q = ni_T d 163 136 [a0, a1, a2, a3, a4, a5, .int x, a7] (.int x :: st) z h Q := ni_T_p rfl rfl
theorem s163_136 : ni_T d 163 136 [a0, a1, a2, a3, a4, a5, a6, a7] (.int x :: st) z h Q = if x = 0 then ni_T d 163 142 [a0, a1, a2, a3, a4, a5, a6, a7] st z h Q else ni_T d 163 139 [a0, a1, a2, a3, a4, a5, a6, a7] st z h Q := ni_T_b rfl rfl
theorem s163_139 : ni_T d 163 139 [a0, a1, a2, a3, .int x, a5, a6, a7] st z h Q = ni_T d 163 142 [a0, a1, a2, ni_kl a3, .int (x + (-6)), a5, a6, a7] st z h Q := ni_T_p rfl rfl
theorem s163_142 : ni_T d 163 142 [a0, a1, a2, a3, a4, .int x, a6, a7] st z h Q = ni_T d 163 145 [a0, a1, a2, a3, ni_kl a4, .int (x + 1), a6, a7] st z h Q := ni_T_p rfl rfl
theorem s163_145 : ni_T d 163 145 [a0, a1, a2, a3, a4, a5, a6, a7] st z h Q = ni_T d 163 50 [a0, a1, a2, a3, a4, a5, a6, a7] st z h Q := ni_T_p rfl rfl
theorem s163_148 : ni_T d 163 148 [a0, a1, a2, a3, .int x, a5, a6, a7] st z h Q = ni_T d 163 150 [a0, a1, a2, a3, .int x, a5, a6, a7] (.int x :: st) z h Q := ni_T_p rfl rfl
theorem s163_150 : ni_T d 163 150 [a0, a1, a2, a3, a4, a5, a6, a7] (.int x :: st) z h Q = if 0 ≤ x then ni_T d 163 157 [a0, a1, a2, a3, a4, a5, a6, a7] st z h Q else ni_T d 163 153 [a0, a1, a2, a3, a4, a5, a6, a7] st z h Q := ni_T_b rfl rfl
theorem s163_153 : ni_T d 163 153 [a0, a1, a2, a3, a4, a5, a6, a7] st z h Q = ni_T d 163 154 [a0, a1, a2, a3, a4, a5, a6, a7] (.int 0 :: st) z h Q := ni_T_p rfl rfl
theorem s163_154 : ni_T d 163 154 [a0, a1, a2, a3, a4, a5, a6, a7] st z h Q = ni_T d 163 159 [a0, a1, a2, a3, a4, a5, a6, a7] st z h Q := ni_T_p rfl rfl
theorem s163_157 : ni_T d 163 157 [a0, a1, a2, a3, .int x, a5, a6, a7] st z h Q = ni_T d 163 159 [a0, a1, a2, a3, .int x, a5, a6, a7] (.int x :: st) z h Q := ni_T_p rfl rfl
theorem s163_159 : ni_T d 163 159 [a0, a1, a2, a3, a4, a5, a6, a7] [.int x] z h Q = Q (some (.int x)) z h := ni_T_i rfl rfl
theorem s164_0 : ni_T d 164 0 [.ref o, a1, a2, a3] st z h Q = ni_T d 164 1 [.ref o, a1, a2, a3] (.ref o :: st) z h Q := ni_T_p rfl rfl
theorem s164_1 : ni_T d 164 1 [a0, .int x, a2, a3] st z h Q = ni_T d 164 2 [a0, .int x, a2, a3] (.int x :: st) z h Q := ni_T_p rfl rfl
theorem s164_2 : ni_T (d + 1) 164 2 [a0, a1, a2, a3] (.int x0 :: .ref o :: st) z h Q = (ni_rc (h o) 7 = true ∧ Nat.ble (ni_sw st) 8 = true ∧ ni_T d 123 0 [.ref o, .int x0] [] z h (ni_K (d + 1) 164 5 [a0, a1, a2, a3] st z Q)) := ni_T_ce [.ref o, .int x0] rfl rfl rfl rfl rfl rfl rfl rfl rfl
theorem s164_5 : ni_T d 164 5 [a0, a1, a2, a3] (.int x :: st) z h Q = if x = 0 then ni_T d 164 8 [a0, a1, a2, a3] st z h Q else ni_T d 164 14 [a0, a1, a2, a3] st z h Q := ni_T_b rfl rfl
theorem s164_8 : ni_T d 164 8 [.ref o, a1, a2, a3] st z h Q = ni_T d 164 9 [.ref o, a1, a2, a3] (.ref o :: st) z h Q := ni_T_p rfl rfl
theorem s164_9 : ni_T d 164 9 [a0, a1, a2, a3] st z h Q = ni_T d 164 10 [a0, a1, a2, a3] (.int (-1) :: st) z h Q := ni_T_p rfl rfl
theorem s164_10 : ni_T (d + 1) 164 10 [a0, a1, a2, a3] (.int x0 :: .ref o :: st) z h Q = (ni_rc (h o) 7 = true ∧ Nat.ble (ni_sw st) 8 = true ∧ ni_T d 120 0 [.ref o, .int x0] [] z h (ni_K (d + 1) 164 13 [a0, a1, a2, a3] st z Q)) := ni_T_ce [.ref o, .int x0] rfl rfl rfl rfl rfl rfl rfl rfl rfl
theorem s164_13 : ni_T d 164 13 [a0, a1, a2, a3] [.int x] z h Q = Q (some (.int x)) z h := ni_T_i rfl rfl
theorem s164_14 : ni_T d 164 14 [a0, a1, a2, .int x] st z h Q = ni_T d 164 15 [a0, a1, a2, .int x] (.int x :: st) z h Q := ni_T_p rfl rfl
theorem s164_15 : ni_T d 164 15 [a0, a1, a2, a3] st z h Q = ni_T d 164 16 [a0, a1, a2, a3] (.int 1 :: st) z h Q := ni_T_p rfl rfl
theorem s164_16 : ni_T d 164 16 [a0, a1, a2, a3] (.int y :: .int x :: st) z h Q = if x < y then ni_T d 164 33 [a0, a1, a2, a3] st z h Q else ni_T d 164 19 [a0, a1, a2, a3] st z h Q := ni_T_b rfl rfl
theorem s164_19 : ni_T d 164 19 [a0, a1, a2, .int x] st z h Q = ni_T d 164 20 [a0, a1, a2, .int x] (.int x :: st) z h Q := ni_T_p rfl rfl
theorem s164_20 : ni_T d 164 20 [a0, a1, a2, a3] st z h Q = ni_T d 164 22 [a0, a1, a2, a3] (.int 9 :: st) z h Q := ni_T_p rfl rfl
theorem s164_22 : ni_T d 164 22 [a0, a1, a2, a3] (.int y :: .int x :: st) z h Q = if y < x then ni_T d 164 33 [a0, a1, a2, a3] st z h Q else ni_T d 164 25 [a0, a1, a2, a3] st z h Q := ni_T_b rfl rfl
theorem s164_25 : ni_T d 164 25 [.ref o, a1, a2, a3] st z h Q = ni_T d 164 26 [.ref o, a1, a2, a3] (.ref o :: st) z h Q := ni_T_p rfl rfl
theorem s164_26 : ni_T d 164 26 [a0, a1, .int x, a3] st z h Q = ni_T d 164 27 [a0, a1, .int x, a3] (.int x :: st) z h Q := ni_T_p rfl rfl
theorem s164_27 : ni_T (d + 1) 164 27 [a0, a1, a2, a3] (.int x0 :: .ref o :: st) z h Q = (ni_rc (h o) 7 = true ∧ Nat.ble (ni_sw st) 8 = true ∧ ni_T d 158 0 [.ref o, .int x0] [] z h (ni_K (d + 1) 164 30 [a0, a1, a2, a3] st z Q)) := ni_T_ce [.ref o, .int x0] rfl rfl rfl rfl rfl rfl rfl rfl rfl
theorem s164_30 : ni_T d 164 30 [a0, a1, a2, a3] (.int x :: st) z h Q = if x = 0 then ni_T d 164 33 [a0, a1, a2, a3] st z h Q else ni_T d 164 40 [a0, a1, a2, a3] st z h Q := ni_T_b rfl rfl
theorem s164_33 : ni_T d 164 33 [.ref o, a1, a2, a3] st z h Q = ni_T d 164 34 [.ref o, a1, a2, a3] (.ref o :: st) z h Q := ni_T_p rfl rfl
theorem s164_34 : ni_T d 164 34 [a0, a1, a2, a3] st z h Q = ni_T d 164 36 [a0, a1, a2, a3] (.int (-6) :: st) z h Q := ni_T_p rfl rfl
theorem s164_36 : ni_T (d + 1) 164 36 [a0, a1, a2, a3] (.int x0 :: .ref o :: st) z h Q = (ni_rc (h o) 7 = true ∧ Nat.ble (ni_sw st) 8 = true ∧ ni_T d 120 0 [.ref o, .int x0] [] z h (ni_K (d + 1) 164 39 [a0, a1, a2, a3] st z Q)) := ni_T_ce [.ref o, .int x0] rfl rfl rfl rfl rfl rfl rfl rfl rfl
theorem s164_39 : ni_T d 164 39 [a0, a1, a2, a3] [.int x] z h Q = Q (some (.int x)) z h := ni_T_i rfl rfl
theorem s164_40 : ni_T d 164 40 [.ref o, a1, a2, a3] st z h Q = ni_T d 164 41 [.ref o, a1, a2, a3] (.ref o :: st) z h Q := ni_T_p rfl rfl
theorem s164_41 : ni_T d 164 41 [.ref o, a1, a2, a3] st z h Q = ni_T d 164 42 [.ref o, a1, a2, a3] (.ref o :: st) z h Q := ni_T_p rfl rfl
theorem s164_42 : ni_T (d + 1) 164 42 [a0, a1, a2, a3] (.ref o :: st) z h Q = (ni_rc (h o) 7 = true ∧ Nat.ble (ni_sw st) 8 = true ∧ ni_T d 143 0 [.ref o, .retAddr 0, .retAddr 0] [] z h (ni_K (d + 1) 164 45 [a0, a1, a2, a3] st z Q)) := ni_T_ce [.ref o] rfl rfl rfl rfl rfl rfl rfl rfl rfl
theorem s164_45 : ni_T d 164 45 [a0, a1, a2, a3] (b0 :: .ref o :: st) z h Q = ((Nat.ble 7 7 && ni_is (h o) 7 27 && ni_fit (.int) b0) = true ∧ ni_T d 164 48 [a0, a1, a2, a3] st z (ni_up h o (ni_pv (h o) 27 b0)) Q) := ni_T_putf rfl
theorem s164_48 : ni_T d 164 48 [.ref o, a1, a2, a3] st z h Q = ni_T d 164 49 [.ref o, a1, a2, a3] (.ref o :: st) z h Q := ni_T_p rfl rfl
theorem s164_49 : ni_T d 164 49 [a0, .int x, a2, a3] st z h Q = ni_T d 164 50 [a0, .int x, a2, a3] (.int x :: st) z h Q := ni_T_p rfl rfl
theorem s164_50 : ni_T d 164 50 [a0, a1, .int x, a3] st z h Q = ni_T d 164 51 [a0, a1, .int x, a3] (.int x :: st) z h Q := ni_T_p rfl rfl
theorem s164_51 : ni_T d 164 51 [a0, a1, a2, .int x] st z h Q = ni_T d 164 52 [a0, a1, a2, .int x] (.int x :: st) z h Q := ni_T_p rfl rfl
theorem s164_52 : ni_T (d + 1) 164 52 [a0, a1, a2, a3] (.int x2 :: .int x1 :: .int x0 :: .ref o :: st) z h Q = (ni_rc (h o) 7 = true ∧ Nat.ble (ni_sw st) 8 = true ∧ ni_T d 163 0 [.ref o, .int x0, .int x1, .int x2, .retAddr 0, .retAddr 0, .retAddr 0, .retAddr 0] [] z h (ni_K (d + 1) 164 55 [a0, a1, a2, a3] st z Q)) := ni_T_ce [.ref o, .int x0, .int x1, .int x2] rfl rfl rfl rfl rfl rfl rfl rfl rfl
theorem s164_55 : ni_T d 164 55 [a0, a1, a2, a3] [.int x] z h Q = Q (some (.int x)) z h := ni_T_i rfl rfl
theorem s165_0 : ni_T d 165 0 [a0, a1, a2, a3, a4] st z h Q = ni_T d 165 1 [a0, a1, a2, a3, a4] (.int 1 :: st) z h Q := ni_T_p rfl rfl
theorem s165_1 : ni_T d 165 1 [a0, a1, a2, a3, a4] (.int x :: st) z h Q = ni_T d 165 2 [a0, a1, ni_kl a2, .int x, a4] st z h Q := ni_T_p rfl rfl
theorem s165_2 : ni_T d 165 2 [a0, a1, a2, a3, a4] st z h Q = ni_T d 165 3 [a0, a1, a2, a3, a4] (.int 2 :: st) z h Q := ni_T_p rfl rfl
theorem s165_3 : ni_T d 165 3 [a0, a1, a2, a3, a4] (.int x :: st) z h Q = ni_T d 165 5 [a0, a1, a2, ni_kl a3, .int x] st z h Q := ni_T_p rfl rfl
theorem s165_5 : ni_T d 165 5 [a0, a1, a2, a3, .int x] st z h Q = ni_T d 165 7 [a0, a1, a2, a3, .int x] (.int x :: st) z h Q := ni_T_p rfl rfl
theorem s165_7 : ni_T d 165 7 [a0, a1, a2, a3, a4] st z h Q = ni_T d 165 9 [a0, a1, a2, a3, a4] (.int 9 :: st) z h Q := ni_T_p rfl rfl
theorem s165_9 : ni_T d 165 9 [a0, a1, a2, a3, a4] (.int y :: .int x :: st) z h Q = if y < x then ni_T d 165 39 [a0, a1, a2, a3, a4] st z h Q else ni_T d 165 12 [a0, a1, a2, a3, a4] st z h Q := ni_T_b rfl rfl
theorem s165_12 : ni_T d 165 12 [.ref o, a1, a2, a3, a4] st z h Q = ni_T d 165 13 [.ref o, a1, a2, a3, a4] (.ref o :: st) z h Q := ni_T_p rfl rfl
theorem s165_13 : ni_T d 165 13 [a0, .int x, a2, a3, a4] st z h Q = ni_T d 165 14 [a0, .int x, a2, a3, a4] (.int x :: st) z h Q := ni_T_p rfl rfl
theorem s165_14 : ni_T d 165 14 [a0, a1, .int x, a3, a4] st z h Q = ni_T d 165 15 [a0, a1, .int x, a3, a4] (.int x :: st) z h Q := ni_T_p rfl rfl
theorem s165_15 : ni_T d 165 15 [a0, a1, a2, a3, .int x] st z h Q = ni_T d 165 17 [a0, a1, a2, a3, .int x] (.int x :: st) z h Q := ni_T_p rfl rfl
theorem s165_17 : ni_T (d + 1) 165 17 [a0, a1, a2, a3, a4] (.int x2 :: .int x1 :: .int x0 :: .ref o :: st) z h Q = (ni_rc (h o) 7 = true ∧ Nat.ble (ni_sw st) 8 = true ∧ ni_T d 163 0 [.ref o, .int x0, .int x1, .int x2, .retAddr 0, .retAddr 0, .retAddr 0, .retAddr 0] [] z h (ni_K (d + 1) 165 20 [a0, a1, a2, a3, a4] st z Q)) := ni_T_ce [.ref o, .int x0, .int x1, .int x2] rfl rfl rfl rfl rfl rfl rfl rfl rfl
theorem s165_20 : ni_T d 165 20 [.ref o, a1, a2, a3, a4] st z h Q = ni_T d 165 21 [.ref o, a1, a2, a3, a4] (.ref o :: st) z h Q := ni_T_p rfl rfl
theorem s165_21 : ni_T d 165 21 [a0, .int x, a2, a3, a4] st z h Q = ni_T d 165 22 [a0, .int x, a2, a3, a4] (.int x :: st) z h Q := ni_T_p rfl rfl
theorem s165_22 : ni_T d 165 22 [a0, a1, .int x, a3, a4] st z h Q = ni_T d 165 23 [a0, a1, .int x, a3, a4] (.int x :: st) z h Q := ni_T_p rfl rfl
theorem s165_23 : ni_T d 165 23 [a0, a1, a2, .int x, a4] st z h Q = ni_T d 165 24 [a0, a1, a2, .int x, a4] (.int x :: st) z h Q := ni_T_p rfl rfl
theorem s165_24 : ni_T (d + 1) 165 24 [a0, a1, a2, a3, a4] (.int x2 :: .int x1 :: .int x0 :: .ref o :: st) z h Q = (ni_rc (h o) 7 = true ∧ Nat.ble (ni_sw st) 8 = true ∧ ni_T d 163 0 [.ref o, .int x0, .int x1, .int x2, .retAddr 0, .retAddr 0, .retAddr 0, .retAddr 0] [] z h (ni_K (d + 1) 165 27 [a0, a1, a2, a3, a4] st z Q)) := ni_T_ce [.ref o, .int x0, .int x1, .int x2] rfl rfl rfl rfl rfl rfl rfl rfl rfl
theorem s165_27 : ni_T d 165 27 [a0, a1, a2, a3, a4] (.int y :: .int x :: st) z h Q = if x ≤ y then ni_T d 165 33 [a0, a1, a2, a3, a4] st z h Q else ni_T d 165 30 [a0, a1, a2, a3, a4] st z h Q := ni_T_b rfl rfl
theorem s165_30 : ni_T d 165 30 [a0, a1, a2, a3, .int x] st z h Q = ni_T d 165 32 [a0, a1, a2, a3, .int x] (.int x :: st) z h Q := ni_T_p rfl rfl
theorem s165_32 : ni_T d 165 32 [a0, a1, a2, a3, a4] (.int x :: st) z h Q = ni_T d 165 33 [a0, a1, ni_kl a2, .int x, a4] st z h Q := ni_T_p rfl rfl
theorem s165_33 : ni_T d 165 33 [a0, a1, a2, a3, .int x] st z h Q = ni_T d 165 36 [a0, a1, a2, ni_kl a3, .int (x + 1)] st z h Q := ni_T_p rfl rfl
theorem s165_36 : ni_T d 165 36 [a0, a1, a2, a3, a4] st z h Q = ni_T d 165 5 [a0, a1, a2, a3, a4] st z h Q := ni_T_p rfl rfl
theorem s165_39 : ni_T d 165 39 [a0, a1, a2, .int x, a4] st z h Q = ni_T d 165 40 [a0, a1, a2, .int x, a4] (.int x :: st) z h Q := ni_T_p rfl rfl
theorem s165_40 : ni_T d 165 40 [a0, a1, a2, a3, a4] [.int x] z h Q = Q (some (.int x)) z h := ni_T_i rfl rfl
theorem s166_0 : ni_T d 166 0 [.ref o, a1, a2, a3, a4] st z h Q = ni_T d 166 1 [.ref o, a1, a2, a3, a4] (.ref o :: st) z h Q := ni_T_p rfl rfl
theorem s166_1 : ni_T d 166 1 [a0, .int x, a2, a3, a4] st z h Q = ni_T d 166 2 [a0, .int x, a2, a3, a4] (.int x :: st) z h Q := ni_T_p rfl rfl
theorem s166_2 : ni_T (d + 1) 166 2 [a0, a1, a2, a3, a4] (.int x0 :: .ref o :: st) z h Q = (ni_rc (h o) 7 = true ∧ Nat.ble (ni_sw st) 8 = true ∧ ni_T d 123 0 [.ref o, .int x0] [] z h (ni_K (d + 1) 166 5 [a0, a1, a2, a3, a4] st z Q)) := ni_T_ce [.ref o, .int x0] rfl rfl rfl rfl rfl rfl rfl rfl rfl
theorem s166_5 : ni_T d 166 5 [a0, a1, a2, a3, a4] (.int x :: st) z h Q = if x = 0 then ni_T d 166 8 [a0, a1, a2, a3, a4] st z h Q else ni_T d 166 14 [a0, a1, a2, a3, a4] st z h Q := ni_T_b rfl rfl
theorem s166_8 : ni_T d 166 8 [.ref o, a1, a2, a3, a4] st z h Q = ni_T d 166 9 [.ref o, a1, a2, a3, a4] (.ref o :: st) z h Q := ni_T_p rfl rfl
theorem s166_9 : ni_T d 166 9 [a0, a1, a2, a3, a4] st z h Q = ni_T d 166 10 [a0, a1, a2, a3, a4] (.int (-1) :: st) z h Q := ni_T_p rfl rfl
theorem s166_10 : ni_T (d + 1) 166 10 [a0, a1, a2, a3, a4] (.int x0 :: .ref o :: st) z h Q = (ni_rc (h o) 7 = true ∧ Nat.ble (ni_sw st) 8 = true ∧ ni_T d 120 0 [.ref o, .int x0] [] z h (ni_K (d + 1) 166 13 [a0, a1, a2, a3, a4] st z Q)) := ni_T_ce [.ref o, .int x0] rfl rfl rfl rfl rfl rfl rfl rfl rfl
theorem s166_13 : ni_T d 166 13 [a0, a1, a2, a3, a4] [.int x] z h Q = Q (some (.int x)) z h := ni_T_i rfl rfl
theorem s166_14 : ni_T d 166 14 [a0, a1, a2, .int x, a4] st z h Q = ni_T d 166 15 [a0, a1, a2, .int x, a4] (.int x :: st) z h Q := ni_T_p rfl rfl
theorem s166_15 : ni_T d 166 15 [a0, a1, a2, a3, a4] (.int x :: st) z h Q = if x < 0 then ni_T d 166 23 [a0, a1, a2, a3, a4] st z h Q else ni_T d 166 18 [a0, a1, a2, a3, a4] st z h Q := ni_T_b rfl rfl
theorem s166_18 : ni_T d 166 18 [a0, a1, a2, .int x, a4] st z h Q = ni_T d 166 19 [a0, a1, a2, .int x, a4] (.int x :: st) z h Q := ni_T_p rfl rfl
theorem s166_19 : ni_T d 166 19 [a0, a1, a2, a3, a4] st z h Q = ni_T d 166 20 [a0, a1, a2, a3, a4] (.int 1 :: st) z h Q := ni_T_p rfl rfl
theorem s166_20 : ni_T d 166 20 [a0, a1, a2, a3, a4] (.int y :: .int x :: st) z h Q = if x ≤ y then ni_T d 166 30 [a0, a1, a2, a3, a4] st z h Q else ni_T d 166 23 [a0, a1, a2, a3, a4] st z h Q := ni_T_b rfl rfl
theorem s166_23 : ni_T d 166 23 [.ref o, a1, a2, a3, a4] st z h Q = ni_T d 166 24 [.ref o, a1, a2, a3, a4] (.ref o :: st) z h Q := ni_T_p rfl rfl
theorem s166_24 : ni_T d 166 24 [a0, a1, a2, a3, a4] st z h Q = ni_T d 166 26 [a0, a1, a2, a3, a4] (.int (-5) :: st) z h Q := ni_T_p rfl rfl
theorem s166_26 : ni_T (d + 1) 166 26 [a0, a1, a2, a3, a4] (.int x0 :: .ref o :: st) z h Q = (ni_rc (h o) 7 = true ∧ Nat.ble (ni_sw st) 8 = true ∧ ni_T d 120 0 [.ref o, .int x0] [] z h (ni_K (d + 1) 166 29 [a0, a1, a2, a3, a4] st z Q)) := ni_T_ce [.ref o, .int x0] rfl rfl rfl rfl rfl rfl rfl rfl rfl
theorem s166_29 : ni_T d 166 29 [a0, a1, a2, a3, a4] [.int x] z h Q = Q (some (.int x)) z h := ni_T_i rfl rfl
theorem s166_30 : ni_T d 166 30 [.ref o, a1, a2, a3, a4] st z h Q = ni_T d 166 31 [.ref o, a1, a2, a3, a4] (.ref o :: st) z h Q := ni_T_p rfl rfl
theorem s166_31 : ni_T d 166 31 [a0, a1, .int x, a3, a4] st z h Q = ni_T d 166 32 [a0, a1, .int x, a3, a4] (.int x :: st) z h Q := ni_T_p rfl rfl
theorem s166_32 : ni_T (d + 1) 166 32 [a0, a1, a2, a3, a4] (.int x0 :: .ref o :: st) z h Q = (ni_rc (h o) 7 = true ∧ Nat.ble (ni_sw st) 8 = true ∧ ni_T d 158 0 [.ref o, .int x0] [] z h (ni_K (d + 1) 166 35 [a0, a1, a2, a3, a4] st z Q)) := ni_T_ce [.ref o, .int x0] rfl rfl rfl rfl rfl rfl rfl rfl rfl
theorem s166_35 : ni_T d 166 35 [a0, a1, a2, a3, a4] (.int x :: st) z h Q = if x = 0 then ni_T d 166 38 [a0, a1, a2, a3, a4] st z h Q else ni_T d 166 45 [a0, a1, a2, a3, a4] st z h Q := ni_T_b rfl rfl
theorem s166_38 : ni_T d 166 38 [.ref o, a1, a2, a3, a4] st z h Q = ni_T d 166 39 [.ref o, a1, a2, a3, a4] (.ref o :: st) z h Q := ni_T_p rfl rfl
theorem s166_39 : ni_T d 166 39 [a0, a1, a2, a3, a4] st z h Q = ni_T d 166 41 [a0, a1, a2, a3, a4] (.int (-6) :: st) z h Q := ni_T_p rfl rfl
theorem s166_41 : ni_T (d + 1) 166 41 [a0, a1, a2, a3, a4] (.int x0 :: .ref o :: st) z h Q = (ni_rc (h o) 7 = true ∧ Nat.ble (ni_sw st) 8 = true ∧ ni_T d 120 0 [.ref o, .int x0] [] z h (ni_K (d + 1) 166 44 [a0, a1, a2, a3, a4] st z Q)) := ni_T_ce [.ref o, .int x0] rfl rfl rfl rfl rfl rfl rfl rfl rfl
theorem s166_44 : ni_T d 166 44 [a0, a1, a2, a3, a4] [.int x] z h Q = Q (some (.int x)) z h := ni_T_i rfl rfl
theorem s166_45 : ni_T d 166 45 [.ref o, a1, a2, a3, a4] st z h Q = ni_T d 166 46 [.ref o, a1, a2, a3, a4] (.ref o :: st) z h Q := ni_T_p rfl rfl
theorem s166_46 : ni_T d 166 46 [.ref o, a1, a2, a3, a4] st z h Q = ni_T d 166 47 [.ref o, a1, a2, a3, a4] (.ref o :: st) z h Q := ni_T_p rfl rfl
theorem s166_47 : ni_T (d + 1) 166 47 [a0, a1, a2, a3, a4] (.ref o :: st) z h Q = (ni_rc (h o) 7 = true ∧ Nat.ble (ni_sw st) 8 = true ∧ ni_T d 143 0 [.ref o, .retAddr 0, .retAddr 0] [] z h (ni_K (d + 1) 166 50 [a0, a1, a2, a3, a4] st z Q)) := ni_T_ce [.ref o] rfl rfl rfl rfl rfl rfl rfl rfl rfl
theorem s166_50 : ni_T d 166 50 [a0, a1, a2, a3, a4] (b0 :: .ref o :: st) z h Q = ((Nat.ble 7 7 && ni_is (h o) 7 27 && ni_fit (.int) b0) = true ∧ ni_T d 166 53 [a0, a1, a2, a3, a4] st z (ni_up h o (ni_pv (h o) 27 b0)) Q) := ni_T_putf rfl
theorem s166_53 : ni_T d 166 53 [.ref o, a1, a2, a3, a4] st z h Q = ni_T d 166 54 [.ref o, a1, a2, a3, a4] (.ref o :: st) z h Q := ni_T_p rfl rfl
theorem s166_54 : ni_T d 166 54 [a0, .int x, a2, a3, a4] st z h Q = ni_T d 166 55 [a0, .int x, a2, a3, a4] (.int x :: st) z h Q := ni_T_p rfl rfl
theorem s166_55 : ni_T d 166 55 [a0, a1, .int x, a3, a4] st z h Q = ni_T d 166 56 [a0, a1, .int x, a3, a4] (.int x :: st) z h Q := ni_T_p rfl rfl
theorem s166_56 : ni_T (d + 1) 166 56 [a0, a1, a2, a3, a4] (.int x1 :: .int x0 :: .ref o :: st) z h Q = (ni_rc (h o) 7 = true ∧ Nat.ble (ni_sw st) 8 = true ∧ ni_T d 165 0 [.ref o, .int x0, .int x1, .retAddr 0, .retAddr 0] [] z h (ni_K (d + 1) 166 59 [a0, a1, a2, a3, a4] st z Q)) := ni_T_ce [.ref o, .int x0, .int x1] rfl rfl rfl rfl rfl rfl rfl rfl rfl
theorem s166_59 : ni_T d 166 59 [a0, a1, a2, a3, a4] (.int x :: st) z h Q = ni_T d 166 61 [a0, a1, a2, ni_kl a3, .int x] st z h Q := ni_T_p rfl rfl
theorem s166_61 : ni_T d 166 61 [a0, a1, a2, .int x, a4] st z h Q = ni_T d 166 62 [a0, a1, a2, .int x, a4] (.int x :: st) z h Q := ni_T_p rfl rfl
theorem s166_62 : ni_T d 166 62 [a0, a1, a2, a3, a4] (.int x :: st) z h Q = if x = 0 then ni_T d 166 65 [a0, a1, a2, a3, a4] st z h Q else ni_T d 166 70 [a0, a1, a2, a3, a4] st z h Q := ni_T_b rfl rfl
theorem s166_65 : ni_T d 166 65 [a0, a1, a2, a3, .int x] st z h Q = ni_T d 166 67 [a0, a1, a2, a3, .int x] (.int x :: st) z h Q := ni_T_p rfl rfl
theorem s166_67 : ni_T d 166 67 [a0, a1, a2, a3, a4] st z h Q = ni_T d 166 78 [a0, a1, a2, a3, a4] st z h Q := ni_T_p rfl rfl
theorem s166_70 : ni_T d 166 70 [.ref o, a1, a2, a3, a4] st z h Q = ni_T d 166 71 [.ref o, a1, a2, a3, a4] (.ref o :: st) z h Q := ni_T_p rfl rfl
theorem s166_71 : ni_T d 166 71 [a0, .int x, a2, a3, a4] st z h Q = ni_T d 166 72 [a0, .int x, a2, a3, a4] (.int x :: st) z h Q := ni_T_p rfl rfl
theorem s166_72 : ni_T d 166 72 [a0, a1, .int x, a3, a4] st z h Q = ni_T d 166 73 [a0, a1, .int x, a3, a4] (.int x :: st) z h Q := ni_T_p rfl rfl
theorem s166_73 : ni_T d 166 73 [a0, a1, a2, a3, .int x] st z h Q = ni_T d 166 75 [a0, a1, a2, a3, .int x] (.int x :: st) z h Q := ni_T_p rfl rfl
theorem s166_75 : ni_T (d + 1) 166 75 [a0, a1, a2, a3, a4] (.int x2 :: .int x1 :: .int x0 :: .ref o :: st) z h Q = (ni_rc (h o) 7 = true ∧ Nat.ble (ni_sw st) 8 = true ∧ ni_T d 163 0 [.ref o, .int x0, .int x1, .int x2, .retAddr 0, .retAddr 0, .retAddr 0, .retAddr 0] [] z h (ni_K (d + 1) 166 78 [a0, a1, a2, a3, a4] st z Q)) := ni_T_ce [.ref o, .int x0, .int x1, .int x2] rfl rfl rfl rfl rfl rfl rfl rfl rfl
theorem s166_78 : ni_T d 166 78 [a0, a1, a2, a3, a4] [.int x] z h Q = Q (some (.int x)) z h := ni_T_i rfl rfl
theorem s167_0 : ni_T d 167 0 [a0, a1, .int x, a3, a4, a5, a6, a7, a8, a9, a10, a11, a12] st z h Q = ni_T d 167 1 [a0, a1, .int x, a3, a4, a5, a6, a7, a8, a9, a10, a11, a12] (.int x :: st) z h Q := ni_T_p rfl rfl
theorem s167_1 : ni_T d 167 1 [a0, a1, a2, a3, a4, a5, a6, a7, a8, a9, a10, a11, a12] (.int x :: st) z h Q = if x = 0 then ni_T d 167 4 [a0, a1, a2, a3, a4, a5, a6, a7, a8, a9, a10, a11, a12] st z h Q else ni_T d 167 7 [a0, a1, a2, a3, a4, a5, a6, a7, a8, a9, a10, a11, a12] st z h Q := ni_T_b rfl rfl
theorem s167_4 : ni_T d 167 4 [a0, a1, a2, a3, a4, a5, a6, a7, a8, a9, a10, a11, a12] st z h Q = ni_T d 167 6 [a0, a1, a2, a3, a4, a5, a6, a7, a8, a9, a10, a11, a12] (.int 1000000 :: st) z h Q := ni_T_hse rfl rfl rfl rfl
theorem s167_6 : ni_T d 167 6 [a0, a1, a2, a3, a4, a5, a6, a7, a8, a9, a10, a11, a12] [.int x] z h Q = Q (some (.int x)) z h := ni_T_i rfl rfl
theorem s167_7 : ni_T d 167 7 [a0, a1, a2, a3, a4, a5, a6, a7, a8, a9, a10, a11, a12] st z h Q = ni_T d 167 8 [a0, a1, a2, a3, a4, a5, a6, a7, a8, a9, a10, a11, a12] (.int (-1) :: st) z h Q := ni_T_p rfl rfl
theorem s167_8 : ni_T d 167 8 [a0, a1, a2, a3, a4, a5, a6, a7, a8, a9, a10, a11, a12] (.int x :: st) z h Q = ni_T d 167 10 [a0, a1, a2, a3, ni_kl a4, .int x, a6, a7, a8, a9, a10, a11, a12] st z h Q := ni_T_p rfl rfl
theorem s167_10 : ni_T d 167 10 [a0, a1, a2, a3, a4, a5, a6, a7, a8, a9, a10, a11, a12] st z h Q = ni_T d 167 11 [a0, a1, a2, a3, a4, a5, a6, a7, a8, a9, a10, a11, a12] (.int 0 :: st) z h Q := ni_T_p rfl rfl
theorem s167_11 : ni_T d 167 11 [a0, a1, a2, a3, a4, a5, a6, a7, a8, a9, a10, a11, a12] (.int x :: st) z h Q = ni_T d 167 13 [a0, a1, a2, a3, a4, ni_kl a5, .int x, a7, a8, a9, a10, a11, a12] st z h Q := ni_T_p rfl rfl
theorem s167_13 : ni_T d 167 13 [a0, a1, a2, a3, a4, a5, a6, a7, a8, a9, a10, a11, a12] st z h Q = ni_T d 167 14 [a0, a1, a2, a3, a4, a5, a6, a7, a8, a9, a10, a11, a12] (.int 1 :: st) z h Q := ni_T_p rfl rfl
theorem s167_14 : ni_T d 167 14 [a0, a1, a2, a3, a4, a5, a6, a7, a8, a9, a10, a11, a12] (.int x :: st) z h Q = ni_T d 167 16 [a0, a1, a2, a3, a4, a5, ni_kl a6, .int x, a8, a9, a10, a11, a12] st z h Q := ni_T_p rfl rfl
theorem s167_16 : ni_T d 167 16 [a0, a1, a2, a3, a4, a5, a6, .int x, a8, a9, a10, a11, a12] st z h Q = ni_T d 167 18 [a0, a1, a2, a3, a4, a5, a6, .int x, a8, a9, a10, a11, a12] (.int x :: st) z h Q := ni_T_p rfl rfl
theorem s167_18 : ni_T d 167 18 [a0, a1, .int x, a3, a4, a5, a6, a7, a8, a9, a10, a11, a12] st z h Q = ni_T d 167 19 [a0, a1, .int x, a3, a4, a5, a6, a7, a8, a9, a10, a11, a12] (.int x :: st) z h Q := ni_T_p rfl rfl
theorem s167_19 : ni_T d 167 19 [a0, a1, a2, a3, a4, a5, a6, a7, a8, a9, a10, a11, a12] (.int y :: .int x :: st) z h Q = if y < x then ni_T d 167 179 [a0, a1, a2, a3, a4, a5, a6, a7, a8, a9, a10, a11, a12] st z h Q else ni_T d 167 22 [a0, a1, a2, a3, a4, a5, a6, a7, a8, a9, a10, a11, a12] st z h Q := ni_T_b rfl rfl
theorem s167_22 : ni_T d 167 22 [a0, a1, a2, a3, a4, a5, a6, .int x, a8, a9, a10, a11, a12] st z h Q = ni_T d 167 24 [a0, a1, a2, a3, a4, a5, a6, .int x, a8, a9, a10, a11, a12] (.int x :: st) z h Q := ni_T_p rfl rfl
theorem s167_24 : ni_T d 167 24 [a0, a1, .int x, a3, a4, a5, a6, a7, a8, a9, a10, a11, a12] st z h Q = ni_T d 167 25 [a0, a1, .int x, a3, a4, a5, a6, a7, a8, a9, a10, a11, a12] (.int x :: st) z h Q := ni_T_p rfl rfl
theorem s167_25 : ni_T d 167 25 [a0, a1, a2, a3, a4, a5, a6, a7, a8, a9, a10, a11, a12] st z h Q = ni_T d 167 26 [a0, a1, a2, a3, a4, a5, a6, a7, a8, a9, a10, a11, a12] (.int (-1) :: st) z h Q := ni_T_p rfl rfl
theorem s167_26 : ni_T d 167 26 [a0, a1, a2, a3, a4, a5, a6, a7, a8, a9, a10, a11, a12] (.int y :: .int x :: st) z h Q = ni_T d 167 27 [a0, a1, a2, a3, a4, a5, a6, a7, a8, a9, a10, a11, a12] (.int (x ^^^ y) :: st) z h Q := ni_T_p rfl rfl
theorem s167_27 : ni_T d 167 27 [a0, a1, a2, a3, a4, a5, a6, a7, a8, a9, a10, a11, a12] (.int y :: .int x :: st) z h Q = ni_T d 167 28 [a0, a1, a2, a3, a4, a5, a6, a7, a8, a9, a10, a11, a12] (.int (x &&& y) :: st) z h Q := ni_T_p rfl rfl
theorem s167_28 : ni_T d 167 28 [a0, a1, a2, a3, a4, a5, a6, a7, a8, a9, a10, a11, a12] (.int x :: st) z h Q = if x = 0 then ni_T d 167 34 [a0, a1, a2, a3, a4, a5, a6, a7, a8, a9, a10, a11, a12] st z h Q else ni_T d 167 31 [a0, a1, a2, a3, a4, a5, a6, a7, a8, a9, a10, a11, a12] st z h Q := ni_T_b rfl rfl
theorem s167_31 : ni_T d 167 31 [a0, a1, a2, a3, a4, a5, a6, a7, a8, a9, a10, a11, a12] st z h Q = ni_T d 167 173 [a0, a1, a2, a3, a4, a5, a6, a7, a8, a9, a10, a11, a12] st z h Q := ni_T_p rfl rfl
theorem s167_34 : ni_T d 167 34 [.ref o, a1, a2, a3, a4, a5, a6, a7, a8, a9, a10, a11, a12] st z h Q = ni_T d 167 35 [.ref o, a1, a2, a3, a4, a5, a6, a7, a8, a9, a10, a11, a12] (.ref o :: st) z h Q := ni_T_p rfl rfl
theorem s167_35 : ni_T d 167 35 [a0, a1, a2, a3, a4, a5, a6, .int x, a8, a9, a10, a11, a12] st z h Q = ni_T d 167 37 [a0, a1, a2, a3, a4, a5, a6, .int x, a8, a9, a10, a11, a12] (.int x :: st) z h Q := ni_T_p rfl rfl
theorem s167_37 : ni_T (d + 1) 167 37 [a0, a1, a2, a3, a4, a5, a6, a7, a8, a9, a10, a11, a12] (.int x0 :: .ref o :: st) z h Q = (ni_rc (h o) 7 = true ∧ Nat.ble (ni_sw st) 8 = true ∧ ni_T d 144 0 [.ref o, .int x0, .retAddr 0, .retAddr 0] [] z h (ni_K (d + 1) 167 40 [a0, a1, a2, a3, a4, a5, a6, a7, a8, a9, a10, a11, a12] st z Q)) := ni_T_ce [.ref o, .int x0] rfl rfl rfl rfl rfl rfl rfl rfl rfl
theorem s167_40 : ni_T d 167 40 [a0, a1, a2, a3, a4, a5, a6, a7, a8, a9, a10, a11, a12] (.int x :: st) z h Q = ni_T d 167 42 [a0, a1, a2, a3, a4, a5, a6, ni_kl a7, .int x, a9, a10, a11, a12] st z h Q := ni_T_p rfl rfl
theorem s167_42 : ni_T d 167 42 [a0, a1, a2, a3, a4, a5, a6, a7, .int x, a9, a10, a11, a12] st z h Q = ni_T d 167 44 [a0, a1, a2, a3, a4, a5, a6, a7, .int x, a9, a10, a11, a12] (.int x :: st) z h Q := ni_T_p rfl rfl
theorem s167_44 : ni_T d 167 44 [a0, a1, a2, .int x, a4, a5, a6, a7, a8, a9, a10, a11, a12] st z h Q = ni_T d 167 45 [a0, a1, a2, .int x, a4, a5, a6, a7, a8, a9, a10, a11, a12] (.int x :: st) z h Q := ni_T_p rfl rfl
theorem s167_45 : ni_T d 167 45 [a0, a1, a2, a3, a4, a5, a6, a7, a8, a9, a10, a11, a12] (.int y :: .int x :: st) z h Q = if x = y then ni_T d 167 48 [a0, a1, a2, a3, a4, a5, a6, a7, a8, a9, a10, a11, a12] st z h Q else ni_T d 167 64 [a0, a1, a2, a3, a4, a5, a6, a7, a8, a9, a10, a11, a12] st z h Q := ni_T_b rfl rfl
theorem s167_48 : ni_T d 167 48 [.ref o, a1, a2, a3, a4, a5, a6, a7, a8, a9, a10, a11, a12] st z h Q = ni_T d 167 49 [.ref o, a1, a2, a3, a4, a5, a6, a7, a8, a9, a10, a11, a12] (.ref o :: st) z h Q := ni_T_p rfl rfl
theorem s167_49 : ni_T d 167 49 [a0, a1, .int x, a3, a4, a5, a6, a7, a8, a9, a10, a11, a12] st z h Q = ni_T d 167 50 [a0, a1, .int x, a3, a4, a5, a6, a7, a8, a9, a10, a11, a12] (.int x :: st) z h Q := ni_T_p rfl rfl
theorem s167_50 : ni_T (d + 1) 167 50 [a0, a1, a2, a3, a4, a5, a6, a7, a8, a9, a10, a11, a12] (.int x0 :: .ref o :: st) z h Q = (ni_rc (h o) 7 = true ∧ Nat.ble (ni_sw st) 8 = true ∧ ni_T d 144 0 [.ref o, .int x0, .retAddr 0, .retAddr 0] [] z h (ni_K (d + 1) 167 53 [a0, a1, a2, a3, a4, a5, a6, a7, a8, a9, a10, a11, a12] st z Q)) := ni_T_ce [.ref o, .int x0] rfl rfl rfl rfl rfl rfl rfl rfl rfl
theorem s167_53 : ni_T d 167 53 [a0, a1, a2, .int x, a4, a5, a6, a7, a8, a9, a10, a11, a12] st z h Q = ni_T d 167 54 [a0, a1, a2, .int x, a4, a5, a6, a7, a8, a9, a10, a11, a12] (.int x :: st) z h Q := ni_T_p rfl rfl
theorem s167_54 : ni_T d 167 54 [a0, a1, a2, a3, .int x, a5, a6, a7, a8, a9, a10, a11, a12] st z h Q = ni_T d 167 56 [a0, a1, a2, a3, .int x, a5, a6, a7, a8, a9, a10, a11, a12] (.int x :: st) z h Q := ni_T_p rfl rfl
theorem s167_56 : ni_T d 167 56 [a0, a1, a2, a3, a4, a5, a6, a7, a8, a9, a10, a11, a12] (.int y :: .int x :: st) z h Q = ni_T d 167 57 [a0, a1, a2, a3, a4, a5, a6, a7, a8, a9, a10, a11, a12] (.int (x + y) :: st) z h Q := ni_T_p rfl rfl
theorem s167_57 : ni_T d 167 57 [a0, a1, a2, a3, a4, a5, a6, a7, a8, a9, a10, a11, a12] (.int y :: .int x :: st) z h Q = if x < y then ni_T d 167 64 [a0, a1, a2, a3, a4, a5, a6, a7, a8, a9, a10, a11, a12] st z h Q else ni_T d 167 60 [a0, a1, a2, a3, a4, a5, a6, a7, a8, a9, a10, a11, a12] st z h Q := ni_T_b rfl rfl
theorem s167_60 : ni_T d 167 60 [a0, a1, a2, a3, a4, a5, a6, a7, a8, a9, a10, a11, a12] st z h Q = ni_T d 167 61 [a0, a1, a2, a3, a4, a5, a6, a7, a8, a9, a10, a11, a12] (.int 1 :: st) z h Q := ni_T_p rfl rfl
theorem s167_61 : ni_T d 167 61 [a0, a1, a2, a3, a4, a5, a6, a7, a8, a9, a10, a11, a12] st z h Q = ni_T d 167 65 [a0, a1, a2, a3, a4, a5, a6, a7, a8, a9, a10, a11, a12] st z h Q := ni_T_p rfl rfl
theorem s167_64 : ni_T d 167 64 [a0, a1, a2, a3, a4, a5, a6, a7, a8, a9, a10, a11, a12] st z h Q = ni_T d 167 65 [a0, a1, a2, a3, a4, a5, a6, a7, a8, a9, a10, a11, a12] (.int 0 :: st) z h Q := ni_T_p rfl rfl
theorem s167_65 : ni_T d 167 65 [a0, a1, a2, a3, a4, a5, a6, a7, a8, a9, a10, a11, a12] (.int x :: st) z h Q = ni_T d 167 67 [a0, a1, a2, a3, a4, a5, a6, a7, ni_kl a8, .int x, a10, a11, a12] st z h Q := ni_T_p rfl rfl
theorem s167_67 : ni_T d 167 67 [a0, a1, a2, a3, .int x, a5, a6, a7, a8, a9, a10, a11, a12] st z h Q = ni_T d 167 69 [a0, a1, a2, a3, .int x, a5, a6, a7, a8, a9, a10, a11, a12] (.int x :: st) z h Q := ni_T_p rfl rfl
theorem s167_69 : ni_T d 167 69 [a0, a1, a2, a3, a4, a5, a6, a7, a8, a9, a10, a11, a12] (.int x :: st) z h Q = if x ≤ 0 then ni_T d 167 83 [a0, a1, a2, a3, a4, a5, a6, a7, a8, a9, a10, a11, a12] st z h Q else ni_T d 167 72 [a0, a1, a2, a3, a4, a5, a6, a7, a8, a9, a10, a11, a12] st z h Q := ni_T_b rfl rfl
theorem s167_72 : ni_T d 167 72 [a0, a1, a2, a3, a4, a5, a6, a7, .int x, a9, a10, a11, a12] st z h Q = ni_T d 167 74 [a0, a1, a2, a3, a4, a5, a6, a7, .int x, a9, a10, a11, a12] (.int x :: st) z h Q := ni_T_p rfl rfl
theorem s167_74 : ni_T d 167 74 [a0, a1, a2, a3, .int x, a5, a6, a7, a8, a9, a10, a11, a12] st z h Q = ni_T d 167 76 [a0, a1, a2, a3, .int x, a5, a6, a7, a8, a9, a10, a11, a12] (.int x :: st) z h Q := ni_T_p rfl rfl
theorem s167_76 : ni_T d 167 76 [a0, a1, a2, a3, a4, a5, a6, a7, a8, a9, a10, a11, a12] (.int y :: .int x :: st) z h Q = if x = y then ni_T d 167 79 [a0, a1, a2, a3, a4, a5, a6, a7, a8, a9, a10, a11, a12] st z h Q else ni_T d 167 83 [a0, a1, a2, a3, a4, a5, a6, a7, a8, a9, a10, a11, a12] st z h Q := ni_T_b rfl rfl
theorem s167_79 : ni_T d 167 79 [a0, a1, a2, a3, a4, a5, a6, a7, a8, a9, a10, a11, a12] st z h Q = ni_T d 167 80 [a0, a1, a2, a3, a4, a5, a6, a7, a8, a9, a10, a11, a12] (.int 1 :: st) z h Q := ni_T_p rfl rfl
theorem s167_80 : ni_T d 167 80 [a0, a1, a2, a3, a4, a5, a6, a7, a8, a9, a10, a11, a12] st z h Q = ni_T d 167 84 [a0, a1, a2, a3, a4, a5, a6, a7, a8, a9, a10, a11, a12] st z h Q := ni_T_p rfl rfl
theorem s167_83 : ni_T d 167 83 [a0, a1, a2, a3, a4, a5, a6, a7, a8, a9, a10, a11, a12] st z h Q = ni_T d 167 84 [a0, a1, a2, a3, a4, a5, a6, a7, a8, a9, a10, a11, a12] (.int 0 :: st) z h Q := ni_T_p rfl rfl
theorem s167_84 : ni_T d 167 84 [a0, a1, a2, a3, a4, a5, a6, a7, a8, a9, a10, a11, a12] (.int x :: st) z h Q = ni_T d 167 86 [a0, a1, a2, a3, a4, a5, a6, a7, a8, ni_kl a9, .int x, a11, a12] st z h Q := ni_T_p rfl rfl
theorem s167_86 : ni_T d 167 86 [a0, a1, a2, a3, a4, a5, a6, a7, a8, .int x, a10, a11, a12] st z h Q = ni_T d 167 88 [a0, a1, a2, a3, a4, a5, a6, a7, a8, .int x, a10, a11, a12] (.int x :: st) z h Q := ni_T_p rfl rfl
theorem s167_88 : ni_T d 167 88 [a0, a1, a2, a3, a4, a5, a6, a7, a8, a9, a10, a11, a12] (.int x :: st) z h Q = if x = 0 then ni_T d 167 91 [a0, a1, a2, a3, a4, a5, a6, a7, a8, a9, a10, a11, a12] st z h Q else ni_T d 167 99 [a0, a1, a2, a3, a4, a5, a6, a7, a8, a9, a10, a11, a12] st z h Q := ni_T_b rfl rfl
theorem s167_91 : ni_T d 167 91 [a0, a1, a2, a3, a4, a5, a6, a7, a8, a9, .int x, a11, a12] st z h Q = ni_T d 167 93 [a0, a1, a2, a3, a4, a5, a6, a7, a8, a9, .int x, a11, a12] (.int x :: st) z h Q := ni_T_p rfl rfl
theorem s167_93 : ni_T d 167 93 [a0, a1, a2, a3, a4, a5, a6, a7, a8, a9, a10, a11, a12] (.int x :: st) z h Q = if x = 0 then ni_T d 167 96 [a0, a1, a2, a3, a4, a5, a6, a7, a8, a9, a10, a11, a12] st z h Q else ni_T d 167 99 [a0, a1, a2, a3, a4, a5, a6, a7, a8, a9, a10, a11, a12] st z h Q := ni_T_b rfl rfl
theorem s167_96 : ni_T d 167 96 [a0, a1, a2, a3, a4, a5, a6, a7, a8, a9, a10, a11, a12] st z h Q = ni_T d 167 173 [a0, a1, a2, a3, a4, a5, a6, a7, a8, a9, a10, a11, a12] st z h Q := ni_T_p rfl rfl
theorem s167_99 : ni_T d 167 99 [.ref o, a1, a2, a3, a4, a5, a6, a7, a8, a9, a10, a11, a12] st z h Q = ni_T d 167 100 [.ref o, a1, a2, a3, a4, a5, a6, a7, a8, a9, a10, a11, a12] (.ref o :: st) z h Q := ni_T_p rfl rfl
theorem s167_100 : ni_T d 167 100 [a0, .int x, a2, a3, a4, a5, a6, a7, a8, a9, a10, a11, a12] st z h Q = ni_T d 167 101 [a0, .int x, a2, a3, a4, a5, a6, a7, a8, a9, a10, a11, a12] (.int x :: st) z h Q := ni_T_p rfl rfl
theorem s167_101 : ni_T d 167 101 [a0, a1, .int x, a3, a4, a5, a6, a7, a8, a9, a10, a11, a12] st z h Q = ni_T d 167 102 [a0, a1, .int x, a3, a4, a5, a6, a7, a8, a9, a10, a11, a12] (.int x :: st) z h Q := ni_T_p rfl rfl
theorem s167_102 : ni_T d 167 102 [a0, a1, a2, a3, a4, a5, a6, .int x, a8, a9, a10, a11, a12] st z h Q = ni_T d 167 104 [a0, a1, a2, a3, a4, a5, a6, .int x, a8, a9, a10, a11, a12] (.int x :: st) z h Q := ni_T_p rfl rfl
theorem s167_104 : ni_T d 167 104 [a0, a1, a2, a3, a4, a5, a6, a7, a8, a9, a10, a11, a12] st z h Q = ni_T d 167 105 [a0, a1, a2, a3, a4, a5, a6, a7, a8, a9, a10, a11, a12] (.int (-1) :: st) z h Q := ni_T_p rfl rfl
theorem s167_105 : ni_T d 167 105 [a0, a1, a2, a3, a4, a5, a6, a7, a8, a9, a10, a11, a12] (.int y :: .int x :: st) z h Q = ni_T d 167 106 [a0, a1, a2, a3, a4, a5, a6, a7, a8, a9, a10, a11, a12] (.int (x ^^^ y) :: st) z h Q := ni_T_p rfl rfl
theorem s167_106 : ni_T d 167 106 [a0, a1, a2, a3, a4, a5, a6, a7, a8, a9, a10, a11, a12] (.int y :: .int x :: st) z h Q = ni_T d 167 107 [a0, a1, a2, a3, a4, a5, a6, a7, a8, a9, a10, a11, a12] (.int (x &&& y) :: st) z h Q := ni_T_p rfl rfl
theorem s167_107 : ni_T d 167 107 [a0, a1, a2, .int x, a4, a5, a6, a7, a8, a9, a10, a11, a12] st z h Q = ni_T d 167 108 [a0, a1, a2, .int x, a4, a5, a6, a7, a8, a9, a10, a11, a12] (.int x :: st) z h Q := ni_T_p rfl rfl
theorem s167_108 : ni_T d 167 108 [a0, a1, a2, a3, a4, a5, a6, a7, a8, a9, .int x, a11, a12] st z h Q = ni_T d 167 110 [a0, a1, a2, a3, a4, a5, a6, a7, a8, a9, .int x, a11, a12] (.int x :: st) z h Q := ni_T_p rfl rfl
theorem s167_110 : ni_T d 167 110 [a0, a1, a2, a3, a4, a5, a6, a7, a8, a9, a10, a11, a12] (.int x :: st) z h Q = if x = 0 then ni_T d 167 117 [a0, a1, a2, a3, a4, a5, a6, a7, a8, a9, a10, a11, a12] st z h Q else ni_T d 167 113 [a0, a1, a2, a3, a4, a5, a6, a7, a8, a9, a10, a11, a12] st z h Q := ni_T_b rfl rfl
theorem s167_113 : ni_T d 167 113 [a0, a1, a2, a3, a4, a5, a6, a7, a8, a9, a10, a11, a12] st z h Q = ni_T d 167 114 [a0, a1, a2, a3, a4, a5, a6, a7, a8, a9, a10, a11, a12] (.int 0 :: st) z h Q := ni_T_p rfl rfl
theorem s167_114 : ni_T d 167 114 [a0, a1, a2, a3, a4, a5, a6, a7, a8, a9, a10, a11, a12] st z h Q = ni_T d 167 119 [a0, a1, a2, a3, a4, a5, a6, a7, a8, a9, a10, a11, a12] st z h Q := ni_T_p rfl rfl
theorem s167_117 : ni_T d 167 117 [a0, a1, a2, a3, .int x, a5, a6, a7, a8, a9, a10, a11, a12] st z h Q = ni_T d 167 119 [a0, a1, a2, a3, .int x, a5, a6, a7, a8, a9, a10, a11, a12] (.int x :: st) z h Q := ni_T_p rfl rfl
theorem s167_119 : ni_T (d + 1) 167 119 [a0, a1, a2, a3, a4, a5, a6, a7, a8, a9, a10, a11, a12] (.int x3 :: .int x2 :: .int x1 :: .int x0 :: .ref o :: st) z h Q = (ni_rc (h o) 7 = true ∧ Nat.ble (ni_sw st) 8 = true ∧ ni_T d 167 0 [.ref o, .int x0, .int x1, .int x2, .int x3, .retAddr 0, .retAddr 0, .retAddr 0, .retAddr 0, .retAddr 0, .retAddr 0, .retAddr 0, .retAddr 0] [] z h (ni_K (d + 1) 167 122 [a0, a1, a2, a3, a4, a5, a6, a7, a8, a9, a10, a11, a12] st z Q)) := ni_T_ce [.ref o, .int x0, .int x1, .int x2, .int x3] rfl rfl rfl rfl rfl rfl rfl rfl rfl
theorem s167_122 : ni_T d 167 122 [a0, a1, a2, a3, a4, a5, a6, a7, a8, a9, a10, a11, a12] (.int x :: st) z h Q = ni_T d 167 124 [a0, a1, a2, a3, a4, a5, a6, a7, a8, a9, ni_kl a10, .int x, a12] st z h Q := ni_T_p rfl rfl
theorem s167_124 : ni_T d 167 124 [.ref o, a1, a2, a3, a4, a5, a6, a7, a8, a9, a10, a11, a12] st z h Q = ni_T d 167 125 [.ref o, a1, a2, a3, a4, a5, a6, a7, a8, a9, a10, a11, a12] (.ref o :: st) z h Q := ni_T_p rfl rfl
theorem s167_125 : ni_T d 167 125 [a0, a1, .int x, a3, a4, a5, a6, a7, a8, a9, a10, a11, a12] st z h Q = ni_T d 167 126 [a0, a1, .int x, a3, a4, a5, a6, a7, a8, a9, a10, a11, a12] (.int x :: st) z h Q := ni_T_p rfl rfl
theorem s167_126 : ni_T d 167 126 [a0, a1, a2, a3, a4, a5, a6, a7, a8, a9, a10, a11, a12] (b0 :: .ref o :: st) z h Q = ((Nat.ble 7 7 && ni_is (h o) 7 27 && ni_fit (.int) b0) = true ∧ ni_T d 167 129 [a0, a1, a2, a3, a4, a5, a6, a7, a8, a9, a10, a11, a12] st z (ni_up h o (ni_pv (h o) 27 b0)) Q) := ni_T_putf rfl
theorem s167_129 : ni_T d 167 129 [a0, a1, a2, a3, a4, a5, a6, a7, a8, a9, a10, .int x, a12] st z h Q = ni_T d 167 131 [a0, a1, a2, a3, a4, a5, a6, a7, a8, a9, a10, .int x, a12] (.int x :: st) z h Q := ni_T_p rfl rfl
theorem s167_131 : ni_T d 167 131 [a0, a1, a2, a3, a4, a5, a6, a7, a8, a9, a10, a11, a12] (.int x :: st) z h Q = ni_T d 167 132 [a0, a1, a2, a3, a4, a5, a6, a7, a8, a9, a10, a11, a12] (.long x.toInt64 :: st) z h Q := ni_T_p rfl rfl
theorem s167_132 : ni_T d 167 132 [.ref o, a1, a2, a3, a4, a5, a6, a7, a8, a9, a10, a11, a12] st z h Q = ni_T d 167 133 [.ref o, a1, a2, a3, a4, a5, a6, a7, a8, a9, a10, a11, a12] (.ref o :: st) z h Q := ni_T_p rfl rfl
theorem s167_133 : ni_T d 167 133 [a0, .int x, a2, a3, a4, a5, a6, a7, a8, a9, a10, a11, a12] st z h Q = ni_T d 167 134 [a0, .int x, a2, a3, a4, a5, a6, a7, a8, a9, a10, a11, a12] (.int x :: st) z h Q := ni_T_p rfl rfl
theorem s167_134 : ni_T d 167 134 [a0, a1, a2, a3, a4, a5, a6, .int x, a8, a9, a10, a11, a12] st z h Q = ni_T d 167 136 [a0, a1, a2, a3, a4, a5, a6, .int x, a8, a9, a10, a11, a12] (.int x :: st) z h Q := ni_T_p rfl rfl
theorem s167_136 : ni_T d 167 136 [.ref o, a1, a2, a3, a4, a5, a6, a7, a8, a9, a10, a11, a12] st z h Q = ni_T d 167 137 [.ref o, a1, a2, a3, a4, a5, a6, a7, a8, a9, a10, a11, a12] (.ref o :: st) z h Q := ni_T_p rfl rfl
theorem s167_137 : ni_T d 167 137 [a0, .int x, a2, a3, a4, a5, a6, a7, a8, a9, a10, a11, a12] st z h Q = ni_T d 167 138 [a0, .int x, a2, a3, a4, a5, a6, a7, a8, a9, a10, a11, a12] (.int x :: st) z h Q := ni_T_p rfl rfl
theorem s167_138 : ni_T d 167 138 [a0, a1, a2, a3, a4, a5, a6, .int x, a8, a9, a10, a11, a12] st z h Q = ni_T d 167 140 [a0, a1, a2, a3, a4, a5, a6, .int x, a8, a9, a10, a11, a12] (.int x :: st) z h Q := ni_T_p rfl rfl
theorem s167_140 : ni_T (d + 1) 167 140 [a0, a1, a2, a3, a4, a5, a6, a7, a8, a9, a10, a11, a12] (.int x1 :: .int x0 :: .ref o :: st) z h Q = (ni_rc (h o) 7 = true ∧ Nat.ble (ni_sw st) 8 = true ∧ ni_T d 165 0 [.ref o, .int x0, .int x1, .retAddr 0, .retAddr 0] [] z h (ni_K (d + 1) 167 143 [a0, a1, a2, a3, a4, a5, a6, a7, a8, a9, a10, a11, a12] st z Q)) := ni_T_ce [.ref o, .int x0, .int x1] rfl rfl rfl rfl rfl rfl rfl rfl rfl
theorem s167_143 : ni_T (d + 1) 167 143 [a0, a1, a2, a3, a4, a5, a6, a7, a8, a9, a10, a11, a12] (.int x2 :: .int x1 :: .int x0 :: .ref o :: st) z h Q = (ni_rc (h o) 7 = true ∧ Nat.ble (ni_sw st) 8 = true ∧ ni_T d 163 0 [.ref o, .int x0, .int x1, .int x2, .retAddr 0, .retAddr 0, .retAddr 0, .retAddr 0] [] z h (ni_K (d + 1) 167 146 [a0, a1, a2, a3, a4, a5, a6, a7, a8, a9, a10, a11, a12] st z Q)) := ni_T_ce [.ref o, .int x0, .int x1, .int x2] rfl rfl rfl rfl rfl rfl rfl rfl rfl
theorem s167_146 : ni_T d 167 146 [a0, a1, a2, a3, a4, a5, a6, a7, a8, a9, a10, a11, a12] (.int x :: st) z h Q = ni_T d 167 147 [a0, a1, a2, a3, a4, a5, a6, a7, a8, a9, a10, a11, a12] (.long x.toInt64 :: st) z h Q := ni_T_p rfl rfl
theorem s167_147 : ni_T d 167 147 [a0, a1, a2, a3, a4, a5, a6, a7, a8, a9, a10, a11, a12] (.long w :: .long u :: st) z h Q = ni_T d 167 148 [a0, a1, a2, a3, a4, a5, a6, a7, a8, a9, a10, a11, a12] (.long (u * w) :: st) z h Q := ni_T_p rfl rfl
theorem s167_148 : ni_T d 167 148 [a0, a1, a2, a3, a4, a5, a6, a7, a8, a9, a10, a11, a12] st z h Q = ni_T d 167 151 [a0, a1, a2, a3, a4, a5, a6, a7, a8, a9, a10, a11, a12] (.long 100 :: st) z h Q := ni_T_hse rfl rfl rfl rfl
theorem s167_151 : ni_T d 167 151 [a0, a1, a2, a3, a4, a5, a6, a7, a8, a9, a10, a11, a12] (.long w :: .long u :: st) z h Q = (¬ w = 0 ∧ ni_T d 167 152 [a0, a1, a2, a3, a4, a5, a6, a7, a8, a9, a10, a11, a12] (.long (u / w) :: st) z h Q) := ni_T_ldiv rfl
theorem s167_152 : ni_T d 167 152 [a0, a1, a2, a3, a4, a5, a6, a7, a8, a9, a10, a11, a12] (.long u :: st) z h Q = ni_T d 167 153 [a0, a1, a2, a3, a4, a5, a6, a7, a8, a9, a10, a11, a12] (.int u.toInt32 :: st) z h Q := ni_T_p rfl rfl
theorem s167_153 : ni_T d 167 153 [a0, a1, a2, a3, a4, a5, a6, a7, a8, a9, a10, a11, a12] (.int x :: st) z h Q = ni_T d 167 155 [a0, a1, a2, a3, a4, a5, a6, a7, a8, a9, a10, ni_kl a11, .int x] st z h Q := ni_T_p rfl rfl
theorem s167_155 : ni_T d 167 155 [a0, a1, a2, a3, a4, a5, a6, a7, a8, a9, a10, a11, .int x] st z h Q = ni_T d 167 157 [a0, a1, a2, a3, a4, a5, a6, a7, a8, a9, a10, a11, .int x] (.int x :: st) z h Q := ni_T_p rfl rfl
theorem s167_157 : ni_T d 167 157 [a0, a1, a2, a3, a4, .int x, a6, a7, a8, a9, a10, a11, a12] st z h Q = ni_T d 167 159 [a0, a1, a2, a3, a4, .int x, a6, a7, a8, a9, a10, a11, a12] (.int x :: st) z h Q := ni_T_p rfl rfl
theorem s167_159 : ni_T d 167 159 [a0, a1, a2, a3, a4, a5, a6, a7, a8, a9, a10, a11, a12] (.int y :: .int x :: st) z h Q = if y < x then ni_T d 167 165 [a0, a1, a2, a3, a4, a5, a6, a7, a8, a9, a10, a11, a12] st z h Q else ni_T d 167 162 [a0, a1, a2, a3, a4, a5, a6, a7, a8, a9, a10, a11, a12] st z h Q := ni_T_b rfl rfl
theorem s167_162 : ni_T d 167 162 [a0, a1, a2, a3, a4, a5, a6, a7, a8, a9, a10, a11, a12] st z h Q = ni_T d 167 173 [a0, a1, a2, a3, a4, a5, a6, a7, a8, a9, a10, a11, a12] st z h Q := ni_T_p rfl rfl
theorem s167_165 : ni_T d 167 165 [a0, a1, a2, a3, a4, a5, a6, a7, a8, a9, a10, a11, .int x] st z h Q = ni_T d 167 167 [a0, a1, a2, a3, a4, a5, a6, a7, a8, a9, a10, a11, .int x] (.int x :: st) z h Q := ni_T_p rfl rfl
theorem s167_167 : ni_T d 167 167 [a0, a1, a2, a3, a4, a5, a6, a7, a8, a9, a10, a11, a12] (.int x :: st) z h Q = ni_T d 167 169 [a0, a1, a2, a3, ni_kl a4, .int x, a6, a7, a8, a9, a10, a11, a12] st z h Q := ni_T_p rfl rfl
theorem s167_169 : ni_T d 167 169 [a0, a1, a2, a3, a4, a5, a6, .int x, a8, a9, a10, a11, a12] st z h Q = ni_T d 167 171 [a0, a1, a2, a3, a4, a5, a6, .int x, a8, a9, a10, a11, a12] (.int x :: st) z h Q := ni_T_p rfl rfl
theorem s167_171 : ni_T d 167 171 [a0, a1, a2, a3, a4, a5, a6, a7, a8, a9, a10, a11, a12] (.int x :: st) z h Q = ni_T d 167 173 [a0, a1, a2, a3, a4, ni_kl a5, .int x, a7, a8, a9, a10, a11, a12] st z h Q := ni_T_p rfl rfl
theorem s167_173 : ni_T d 167 173 [a0, a1, a2, a3, a4, a5, a6, .int x, a8, a9, a10, a11, a12] st z h Q = ni_T d 167 176 [a0, a1, a2, a3, a4, a5, ni_kl a6, .int (x + 1), a8, a9, a10, a11, a12] st z h Q := ni_T_p rfl rfl
theorem s167_176 : ni_T d 167 176 [a0, a1, a2, a3, a4, a5, a6, a7, a8, a9, a10, a11, a12] st z h Q = ni_T d 167 16 [a0, a1, a2, a3, a4, a5, a6, a7, a8, a9, a10, a11, a12] st z h Q := ni_T_p rfl rfl
theorem s167_179 : ni_T d 167 179 [.ref o, a1, a2, a3, a4, a5, a6, a7, a8, a9, a10, a11, a12] st z h Q = ni_T d 167 180 [.ref o, a1, a2, a3, a4, a5, a6, a7, a8, a9, a10, a11, a12] (.ref o :: st) z h Q := ni_T_p rfl rfl
theorem s167_180 : ni_T d 167 180 [a0, a1, a2, a3, a4, a5, .int x, a7, a8, a9, a10, a11, a12] st z h Q = ni_T d 167 182 [a0, a1, a2, a3, a4, a5, .int x, a7, a8, a9, a10, a11, a12] (.int x :: st) z h Q := ni_T_p rfl rfl
theorem s167_182 : ni_T d 167 182 [a0, a1, a2, a3, a4, a5, a6, a7, a8, a9, a10, a11, a12] (b0 :: .ref o :: st) z h Q = ((Nat.ble 7 7 && ni_is (h o) 7 28 && ni_fit (.int) b0) = true ∧ ni_T d 167 185 [a0, a1, a2, a3, a4, a5, a6, a7, a8, a9, a10, a11, a12] st z (ni_up h o (ni_pv (h o) 28 b0)) Q) := ni_T_putf rfl
theorem s167_185 : ni_T d 167 185 [a0, a1, a2, a3, a4, .int x, a6, a7, a8, a9, a10, a11, a12] st z h Q = ni_T d 167 187 [a0, a1, a2, a3, a4, .int x, a6, a7, a8, a9, a10, a11, a12] (.int x :: st) z h Q := ni_T_p rfl rfl
theorem s167_187 : ni_T d 167 187 [a0, a1, a2, a3, a4, a5, a6, a7, a8, a9, a10, a11, a12] [.int x] z h Q = Q (some (.int x)) z h := ni_T_i rfl rfl
theorem s168_0 : ni_T d 168 0 [.ref o, a1, a2, a3, a4] st z h Q = ni_T d 168 1 [.ref o, a1, a2, a3, a4] (.ref o :: st) z h Q := ni_T_p rfl rfl
theorem s168_1 : ni_T d 168 1 [a0, a1, a2, a3, a4] st z h Q = ni_T d 168 2 [a0, a1, a2, a3, a4] (.int 0 :: st) z h Q := ni_T_p rfl rfl
theorem s168_2 : ni_T d 168 2 [a0, a1, a2, a3, a4] (b0 :: .ref o :: st) z h Q = ((Nat.ble 7 7 && ni_is (h o) 7 28 && ni_fit (.int) b0) = true ∧ ni_T d 168 5 [a0, a1, a2, a3, a4] st z (ni_up h o (ni_pv (h o) 28 b0)) Q) := ni_T_putf rfl
theorem s168_5 : ni_T d 168 5 [.ref o, a1, a2, a3, a4] st z h Q = ni_T d 168 6 [.ref o, a1, a2, a3, a4] (.ref o :: st) z h Q := ni_T_p rfl rfl
theorem s168_6 : ni_T (d + 1) 168 6 [a0, a1, a2, a3, a4] (.ref o :: st) z h Q = (ni_rc (h o) 7 = true ∧ Nat.ble (ni_sw st) 8 = true ∧ ni_T d 143 0 [.ref o, .retAddr 0, .retAddr 0] [] z h (ni_K (d + 1) 168 9 [a0, a1, a2, a3, a4] st z Q)) := ni_T_ce [.ref o] rfl rfl rfl rfl rfl rfl rfl rfl rfl
theorem s168_9 : ni_T d 168 9 [a0, a1, a2, a3, a4] (.int x :: st) z h Q = ni_T d 168 10 [a0, a1, ni_kl a2, .int x, a4] st z h Q := ni_T_p rfl rfl
theorem s168_10 : ni_T d 168 10 [.ref o, a1, a2, a3, a4] st z h Q = ni_T d 168 11 [.ref o, a1, a2, a3, a4] (.ref o :: st) z h Q := ni_T_p rfl rfl
theorem s168_11 : ni_T d 168 11 [a0, a1, a2, .int x, a4] st z h Q = ni_T d 168 12 [a0, a1, a2, .int x, a4] (.int x :: st) z h Q := ni_T_p rfl rfl
theorem s168_12 : ni_T (d + 1) 168 12 [a0, a1, a2, a3, a4] (.int x0 :: .ref o :: st) z h Q = (ni_rc (h o) 7 = true ∧ Nat.ble (ni_sw st) 8 = true ∧ ni_T d 144 0 [.ref o, .int x0, .retAddr 0, .retAddr 0] [] z h (ni_K (d + 1) 168 15 [a0, a1, a2, a3, a4] st z Q)) := ni_T_ce [.ref o, .int x0] rfl rfl rfl rfl rfl rfl rfl rfl rfl
theorem s168_15 : ni_T d 168 15 [a0, a1, a2, a3, a4] (.int x :: st) z h Q = ni_T d 168 17 [a0, a1, a2, ni_kl a3, .int x] st z h Q := ni_T_p rfl rfl
theorem s168_17 : ni_T d 168 17 [.ref o, a1, a2, a3, a4] st z h Q = ni_T d 168 18 [.ref o, a1, a2, a3, a4] (.ref o :: st) z h Q := ni_T_p rfl rfl
theorem s168_18 : ni_T d 168 18 [a0, .int x, a2, a3, a4] st z h Q = ni_T d 168 19 [a0, .int x, a2, a3, a4] (.int x :: st) z h Q := ni_T_p rfl rfl
theorem s168_19 : ni_T d 168 19 [a0, a1, a2, .int x, a4] st z h Q = ni_T d 168 20 [a0, a1, a2, .int x, a4] (.int x :: st) z h Q := ni_T_p rfl rfl
theorem s168_20 : ni_T d 168 20 [a0, a1, .int x, a3, a4] st z h Q = ni_T d 168 21 [a0, a1, .int x, a3, a4] (.int x :: st) z h Q := ni_T_p rfl rfl
theorem s168_21 : ni_T d 168 21 [a0, a1, a2, a3, .int x] st z h Q = ni_T d 168 23 [a0, a1, a2, a3, .int x] (.int x :: st) z h Q := ni_T_p rfl rfl
theorem s168_23 : ni_T d 168 23 [a0, a1, .int x, a3, a4] st z h Q = ni_T d 168 24 [a0, a1, .int x, a3, a4] (.int x :: st) z h Q := ni_T_p rfl rfl
theorem s168_24 : ni_T d 168 24 [a0, a1, a2, a3, a4] (.int y :: .int x :: st) z h Q = (¬ y = 0 ∧ ni_T d 168 25 [a0, a1, a2, a3, a4] (.int (x - x / y * y) :: st) z h Q) := ni_T_irem rfl
theorem s168_25 : ni_T (d + 1) 168 25 [a0, a1, a2, a3, a4] (.int x3 :: .int x2 :: .int x1 :: .int x0 :: .ref o :: st) z h Q = (ni_rc (h o) 7 = true ∧ Nat.ble (ni_sw st) 8 = true ∧ ni_T d 167 0 [.ref o, .int x0, .int x1, .int x2, .int x3, .retAddr 0, .retAddr 0, .retAddr 0, .retAddr 0, .retAddr 0, .retAddr 0, .retAddr 0, .retAddr 0] [] z h (ni_K (d + 1) 168 28 [a0, a1, a2, a3, a4] st z Q)) := ni_T_ce [.ref o, .int x0, .int x1, .int x2, .int x3] rfl rfl rfl rfl rfl rfl rfl rfl rfl
theorem s168_28 : ni_T d 168 28 [a0, a1, a2, a3, a4] [.int x] z h Q = Q (some (.int x)) z h := ni_T_i rfl rfl
theorem s169_0 : ni_T d 169 0 [a0, .int x] st z h Q = ni_T d 169 1 [a0, .int x] (.int x :: st) z h Q := ni_T_p rfl rfl
theorem s169_1 : ni_T d 169 1 [a0, a1] st z h Q = ni_T d 169 2 [a0, a1] (.int 1 :: st) z h Q := ni_T_p rfl rfl
theorem s169_2 : ni_T d 169 2 [a0, a1] (.int y :: .int x :: st) z h Q = if x < y then ni_T d 169 14 [a0, a1] st z h Q else ni_T d 169 5 [a0, a1] st z h Q := ni_T_b rfl rfl
theorem s169_5 : ni_T d 169 5 [a0, .int x] st z h Q = ni_T d 169 6 [a0, .int x] (.int x :: st) z h Q := ni_T_p rfl rfl
theorem s169_6 : ni_T d 169 6 [a0, a1] st z h Q = ni_T d 169 7 [a0, a1] (.int 4 :: st) z h Q := ni_T_p rfl rfl
theorem s169_7 : ni_T d 169 7 [a0, a1] (.int y :: .int x :: st) z h Q = if y < x then ni_T d 169 14 [a0, a1] st z h Q else ni_T d 169 10 [a0, a1] st z h Q := ni_T_b rfl rfl
theorem s169_10 : ni_T d 169 10 [a0, a1] st z h Q = ni_T d 169 11 [a0, a1] (.int 1 :: st) z h Q := ni_T_p rfl rfl
theorem s169_11 : ni_T d 169 11 [a0, a1] st z h Q = ni_T d 169 15 [a0, a1] st z h Q := ni_T_p rfl rfl
theorem s169_14 : ni_T d 169 14 [a0, a1] st z h Q = ni_T d 169 15 [a0, a1] (.int 0 :: st) z h Q := ni_T_p rfl rfl
theorem s169_15 : ni_T d 169 15 [a0, a1] [.int x] z h Q = (narrow .boolean (.int x) = .int x ∧ Q (some (.int x)) z h) := ni_T_z rfl rfl
theorem s170_0 : ni_T d 170 0 [.ref o, a1, a2] st z h Q = ni_T d 170 1 [.ref o, a1, a2] (.ref o :: st) z h Q := ni_T_p rfl rfl
theorem s170_1 : ni_T d 170 1 [a0, .int x, a2] st z h Q = ni_T d 170 2 [a0, .int x, a2] (.int x :: st) z h Q := ni_T_p rfl rfl
theorem s170_2 : ni_T (d + 1) 170 2 [a0, a1, a2] (.int x0 :: .ref o :: st) z h Q = (ni_rc (h o) 7 = true ∧ Nat.ble (ni_sw st) 8 = true ∧ ni_T d 123 0 [.ref o, .int x0] [] z h (ni_K (d + 1) 170 5 [a0, a1, a2] st z Q)) := ni_T_ce [.ref o, .int x0] rfl rfl rfl rfl rfl rfl rfl rfl rfl
theorem s170_5 : ni_T d 170 5 [a0, a1, a2] (.int x :: st) z h Q = if x = 0 then ni_T d 170 8 [a0, a1, a2] st z h Q else ni_T d 170 14 [a0, a1, a2] st z h Q := ni_T_b rfl rfl
theorem s170_8 : ni_T d 170 8 [.ref o, a1, a2] st z h Q = ni_T d 170 9 [.ref o, a1, a2] (.ref o :: st) z h Q := ni_T_p rfl rfl
theorem s170_9 : ni_T d 170 9 [a0, a1, a2] st z h Q = ni_T d 170 10 [a0, a1, a2] (.int (-1) :: st) z h Q := ni_T_p rfl rfl
theorem s170_10 : ni_T (d + 1) 170 10 [a0, a1, a2] (.int x0 :: .ref o :: st) z h Q = (ni_rc (h o) 7 = true ∧ Nat.ble (ni_sw st) 8 = true ∧ ni_T d 120 0 [.ref o, .int x0] [] z h (ni_K (d + 1) 170 13 [a0, a1, a2] st z Q)) := ni_T_ce [.ref o, .int x0] rfl rfl rfl rfl rfl rfl rfl rfl rfl
theorem s170_13 : ni_T d 170 13 [a0, a1, a2] [.int x] z h Q = Q (some (.int x)) z h := ni_T_i rfl rfl
theorem s170_14 : ni_T d 170 14 [.ref o, a1, a2] st z h Q = ni_T d 170 15 [.ref o, a1, a2] (.ref o :: st) z h Q := ni_T_p rfl rfl
theorem s170_15 : ni_T d 170 15 [a0, a1, .int x] st z h Q = ni_T d 170 16 [a0, a1, .int x] (.int x :: st) z h Q := ni_T_p rfl rfl
theorem s170_16 : ni_T (d + 1) 170 16 [a0, a1, a2] (.int x0 :: .ref o :: st) z h Q = (ni_rc (h o) 7 = true ∧ Nat.ble (ni_sw st) 8 = true ∧ ni_T d 169 0 [.ref o, .int x0] [] z h (ni_K (d + 1) 170 19 [a0, a1, a2] st z Q)) := ni_T_ce [.ref o, .int x0] rfl rfl rfl rfl rfl rfl rfl rfl rfl
theorem s170_19 : ni_T d 170 19 [a0, a1, a2] (.int x :: st) z h Q = if x = 0 then ni_T d 170 31 [a0, a1, a2] st z h Q else ni_T d 170 22 [a0, a1, a2] st z h Q := ni_T_b rfl rfl
theorem s170_22 : ni_T d 170 22 [.ref o, a1, a2] st z h Q = ni_T d 170 23 [.ref o, a1, a2] (.ref o :: st) z h Q := ni_T_p rfl rfl
theorem s170_23 : ni_T d 170 23 [a0, .int x, a2] st z h Q = ni_T d 170 24 [a0, .int x, a2] (.int x :: st) z h Q := ni_T_p rfl rfl
theorem s170_24 : ni_T d 170 24 [a0, a1, .int x] st z h Q = ni_T d 170 25 [a0, a1, .int x] (.int x :: st) z h Q := ni_T_p rfl rfl
theorem s170_25 : ni_T (d + 1) 170 25 [a0, a1, a2] (.int x1 :: .int x0 :: .ref o :: st) z h Q = (ni_rc (h o) 7 = true ∧ Nat.ble (ni_sw st) 8 = true ∧ ni_T d 168 0 [.ref o, .int x0, .int x1, .retAddr 0, .retAddr 0] [] z h (ni_K (d + 1) 170 28 [a0, a1, a2] st z Q)) := ni_T_ce [.ref o, .int x0, .int x1] rfl rfl rfl rfl rfl rfl rfl rfl rfl
theorem s170_28 : ni_T d 170 28 [a0, a1, a2] st z h Q = ni_T d 170 37 [a0, a1, a2] st z h Q := ni_T_p rfl rfl
theorem s170_31 : ni_T d 170 31 [.ref o, a1, a2] st z h Q = ni_T d 170 32 [.ref o, a1, a2] (.ref o :: st) z h Q := ni_T_p rfl rfl
theorem s170_32 : ni_T d 170 32 [a0, a1, a2] st z h Q = ni_T d 170 34 [a0, a1, a2] (.int (-6) :: st) z h Q := ni_T_p rfl rfl
theorem s170_34 : ni_T (d + 1) 170 34 [a0, a1, a2] (.int x0 :: .ref o :: st) z h Q = (ni_rc (h o) 7 = true ∧ Nat.ble (ni_sw st) 8 = true ∧ ni_T d 120 0 [.ref o, .int x0] [] z h (ni_K (d + 1) 170 37 [a0, a1, a2] st z Q)) := ni_T_ce [.ref o, .int x0] rfl rfl rfl rfl rfl rfl rfl rfl rfl
theorem s170_37 : ni_T d 170 37 [a0, a1, a2] [.int x] z h Q = Q (some (.int x)) z h := ni_T_i rfl rfl
theorem s171_0 : ni_T d 171 0 [.ref o, a1, a2] st z h Q = ni_T d 171 1 [.ref o, a1, a2] (.ref o :: st) z h Q := ni_T_p rfl rfl
theorem s171_1 : ni_T d 171 1 [a0, .int x, a2] st z h Q = ni_T d 171 2 [a0, .int x, a2] (.int x :: st) z h Q := ni_T_p rfl rfl
theorem s171_2 : ni_T (d + 1) 171 2 [a0, a1, a2] (.int x0 :: .ref o :: st) z h Q = (ni_rc (h o) 7 = true ∧ Nat.ble (ni_sw st) 8 = true ∧ ni_T d 123 0 [.ref o, .int x0] [] z h (ni_K (d + 1) 171 5 [a0, a1, a2] st z Q)) := ni_T_ce [.ref o, .int x0] rfl rfl rfl rfl rfl rfl rfl rfl rfl
theorem s171_5 : ni_T d 171 5 [a0, a1, a2] (.int x :: st) z h Q = if x = 0 then ni_T d 171 8 [a0, a1, a2] st z h Q else ni_T d 171 14 [a0, a1, a2] st z h Q := ni_T_b rfl rfl
theorem s171_8 : ni_T d 171 8 [.ref o, a1, a2] st z h Q = ni_T d 171 9 [.ref o, a1, a2] (.ref o :: st) z h Q := ni_T_p rfl rfl
theorem s171_9 : ni_T d 171 9 [a0, a1, a2] st z h Q = ni_T d 171 10 [a0, a1, a2] (.int (-1) :: st) z h Q := ni_T_p rfl rfl
theorem s171_10 : ni_T (d + 1) 171 10 [a0, a1, a2] (.int x0 :: .ref o :: st) z h Q = (ni_rc (h o) 7 = true ∧ Nat.ble (ni_sw st) 8 = true ∧ ni_T d 120 0 [.ref o, .int x0] [] z h (ni_K (d + 1) 171 13 [a0, a1, a2] st z Q)) := ni_T_ce [.ref o, .int x0] rfl rfl rfl rfl rfl rfl rfl rfl rfl
theorem s171_13 : ni_T d 171 13 [a0, a1, a2] [.int x] z h Q = Q (some (.int x)) z h := ni_T_i rfl rfl
theorem s171_14 : ni_T d 171 14 [.ref o, a1, a2] st z h Q = ni_T d 171 15 [.ref o, a1, a2] (.ref o :: st) z h Q := ni_T_p rfl rfl
theorem s171_15 : ni_T d 171 15 [a0, a1, .int x] st z h Q = ni_T d 171 16 [a0, a1, .int x] (.int x :: st) z h Q := ni_T_p rfl rfl
theorem s171_16 : ni_T (d + 1) 171 16 [a0, a1, a2] (.int x0 :: .ref o :: st) z h Q = (ni_rc (h o) 7 = true ∧ Nat.ble (ni_sw st) 8 = true ∧ ni_T d 169 0 [.ref o, .int x0] [] z h (ni_K (d + 1) 171 19 [a0, a1, a2] st z Q)) := ni_T_ce [.ref o, .int x0] rfl rfl rfl rfl rfl rfl rfl rfl rfl
theorem s171_19 : ni_T d 171 19 [a0, a1, a2] (.int x :: st) z h Q = if x = 0 then ni_T d 171 22 [a0, a1, a2] st z h Q else ni_T d 171 29 [a0, a1, a2] st z h Q := ni_T_b rfl rfl
theorem s171_22 : ni_T d 171 22 [.ref o, a1, a2] st z h Q = ni_T d 171 23 [.ref o, a1, a2] (.ref o :: st) z h Q := ni_T_p rfl rfl
theorem s171_23 : ni_T d 171 23 [a0, a1, a2] st z h Q = ni_T d 171 25 [a0, a1, a2] (.int (-6) :: st) z h Q := ni_T_p rfl rfl
theorem s171_25 : ni_T (d + 1) 171 25 [a0, a1, a2] (.int x0 :: .ref o :: st) z h Q = (ni_rc (h o) 7 = true ∧ Nat.ble (ni_sw st) 8 = true ∧ ni_T d 120 0 [.ref o, .int x0] [] z h (ni_K (d + 1) 171 28 [a0, a1, a2] st z Q)) := ni_T_ce [.ref o, .int x0] rfl rfl rfl rfl rfl rfl rfl rfl rfl
theorem s171_28 : ni_T d 171 28 [a0, a1, a2] [.int x] z h Q = Q (some (.int x)) z h := ni_T_i rfl rfl
theorem s171_29 : ni_T d 171 29 [.ref o, a1, a2] st z h Q = ni_T d 171 30 [.ref o, a1, a2] (.ref o :: st) z h Q := ni_T_p rfl rfl
theorem s171_30 : ni_T d 171 30 [a0, .int x, a2] st z h Q = ni_T d 171 31 [a0, .int x, a2] (.int x :: st) z h Q := ni_T_p rfl rfl
theorem s171_31 : ni_T d 171 31 [a0, a1, .int x] st z h Q = ni_T d 171 32 [a0, a1, .int x] (.int x :: st) z h Q := ni_T_p rfl rfl
theorem s171_32 : ni_T (d + 1) 171 32 [a0, a1, a2] (.int x1 :: .int x0 :: .ref o :: st) z h Q = (ni_rc (h o) 7 = true ∧ Nat.ble (ni_sw st) 8 = true ∧ ni_T d 168 0 [.ref o, .int x0, .int x1, .retAddr 0, .retAddr 0] [] z h (ni_K (d + 1) 171 35 [a0, a1, a2] st z Q)) := ni_T_ce [.ref o, .int x0, .int x1] rfl rfl rfl rfl rfl rfl rfl rfl rfl
theorem s171_35 : ni_T d 171 35 [a0, a1, a2] (.ref o :: st) z h Q = ni_T d 171 36 [a0, a1, a2] st z h Q := ni_T_p rfl rfl
theorem s171_35i : ni_T d 171 35 [a0, a1, a2] (.int x :: st) z h Q = ni_T d 171 36 [a0, a1, a2] st z h Q := ni_T_p rfl rfl
theorem s171_36 : ni_T d 171 36 [.ref o, a1, a2] st z h Q = ni_T d 171 37 [.ref o, a1, a2] (.ref o :: st) z h Q := ni_T_p rfl rfl
theorem s171_37 : ni_T d 171 37 [a0, a1, a2] (.ref o :: st) z h Q = (ni_is (h o) 7 28 = true ∧ ni_T d 171 40 [a0, a1, a2] (ni_gv (h o) 28 :: st) z h Q) := ni_T_getf rfl
theorem s171_40 : ni_T d 171 40 [a0, a1, a2] [.int x] z h Q = Q (some (.int x)) z h := ni_T_i rfl rfl
theorem s172_0 : ni_T d 172 0 [.ref o, a1, a2, a3, a4, a5] st z h Q = ni_T d 172 1 [.ref o, a1, a2, a3, a4, a5] (.ref o :: st) z h Q := ni_T_p rfl rfl
theorem s172_1 : ni_T d 172 1 [a0, .int x, a2, a3, a4, a5] st z h Q = ni_T d 172 2 [a0, .int x, a2, a3, a4, a5] (.int x :: st) z h Q := ni_T_p rfl rfl
theorem s172_2 : ni_T (d + 1) 172 2 [a0, a1, a2, a3, a4, a5] (.int x0 :: .ref o :: st) z h Q = (ni_rc (h o) 7 = true ∧ Nat.ble (ni_sw st) 8 = true ∧ ni_T d 123 0 [.ref o, .int x0] [] z h (ni_K (d + 1) 172 5 [a0, a1, a2, a3, a4, a5] st z Q)) := ni_T_ce [.ref o, .int x0] rfl rfl rfl rfl rfl rfl rfl rfl rfl
theorem s172_5 : ni_T d 172 5 [a0, a1, a2, a3, a4, a5] (.int x :: st) z h Q = if x = 0 then ni_T d 172 8 [a0, a1, a2, a3, a4, a5] st z h Q else ni_T d 172 14 [a0, a1, a2, a3, a4, a5] st z h Q := ni_T_b rfl rfl
theorem s172_8 : ni_T d 172 8 [.ref o, a1, a2, a3, a4, a5] st z h Q = ni_T d 172 9 [.ref o, a1, a2, a3, a4, a5] (.ref o :: st) z h Q := ni_T_p rfl rfl
theorem s172_9 : ni_T d 172 9 [a0, a1, a2, a3, a4, a5] st z h Q = ni_T d 172 10 [a0, a1, a2, a3, a4, a5] (.int (-1) :: st) z h Q := ni_T_p rfl rfl
theorem s172_10 : ni_T (d + 1) 172 10 [a0, a1, a2, a3, a4, a5] (.int x0 :: .ref o :: st) z h Q = (ni_rc (h o) 7 = true ∧ Nat.ble (ni_sw st) 8 = true ∧ ni_T d 120 0 [.ref o, .int x0] [] z h (ni_K (d + 1) 172 13 [a0, a1, a2, a3, a4, a5] st z Q)) := ni_T_ce [.ref o, .int x0] rfl rfl rfl rfl rfl rfl rfl rfl rfl
theorem s172_13 : ni_T d 172 13 [a0, a1, a2, a3, a4, a5] [.int x] z h Q = Q (some (.int x)) z h := ni_T_i rfl rfl
theorem s172_14 : ni_T d 172 14 [a0, a1, a2, a3, a4, a5] st z h Q = ni_T d 172 15 [a0, a1, a2, a3, a4, a5] (.int 1 :: st) z h Q := ni_T_p rfl rfl
theorem s172_15 : ni_T d 172 15 [a0, a1, a2, a3, a4, a5] (.int x :: st) z h Q = ni_T d 172 16 [a0, ni_kl a1, .int x, a3, a4, a5] st z h Q := ni_T_p rfl rfl
theorem s172_16 : ni_T d 172 16 [a0, a1, a2, a3, a4, a5] st z h Q = ni_T d 172 17 [a0, a1, a2, a3, a4, a5] (.int (-1) :: st) z h Q := ni_T_p rfl rfl
theorem s172_17 : ni_T d 172 17 [a0, a1, a2, a3, a4, a5] (.int x :: st) z h Q = ni_T d 172 18 [a0, a1, ni_kl a2, .int x, a4, a5] st z h Q := ni_T_p rfl rfl
theorem s172_18 : ni_T d 172 18 [a0, a1, a2, a3, a4, a5] st z h Q = ni_T d 172 19 [a0, a1, a2, a3, a4, a5] (.int 1 :: st) z h Q := ni_T_p rfl rfl
theorem s172_19 : ni_T d 172 19 [a0, a1, a2, a3, a4, a5] (.int x :: st) z h Q = ni_T d 172 21 [a0, a1, a2, ni_kl a3, .int x, a5] st z h Q := ni_T_p rfl rfl
theorem s172_21 : ni_T d 172 21 [a0, a1, a2, a3, .int x, a5] st z h Q = ni_T d 172 23 [a0, a1, a2, a3, .int x, a5] (.int x :: st) z h Q := ni_T_p rfl rfl
theorem s172_23 : ni_T d 172 23 [a0, a1, a2, a3, a4, a5] st z h Q = ni_T d 172 24 [a0, a1, a2, a3, a4, a5] (.int 4 :: st) z h Q := ni_T_p rfl rfl
theorem s172_24 : ni_T d 172 24 [a0, a1, a2, a3, a4, a5] (.int y :: .int x :: st) z h Q = if y < x then ni_T d 172 57 [a0, a1, a2, a3, a4, a5] st z h Q else ni_T d 172 27 [a0, a1, a2, a3, a4, a5] st z h Q := ni_T_b rfl rfl
theorem s172_27 : ni_T d 172 27 [.ref o, a1, a2, a3, a4, a5] st z h Q = ni_T d 172 28 [.ref o, a1, a2, a3, a4, a5] (.ref o :: st) z h Q := ni_T_p rfl rfl
theorem s172_28 : ni_T d 172 28 [a0, .int x, a2, a3, a4, a5] st z h Q = ni_T d 172 29 [a0, .int x, a2, a3, a4, a5] (.int x :: st) z h Q := ni_T_p rfl rfl
theorem s172_29 : ni_T d 172 29 [a0, a1, a2, a3, .int x, a5] st z h Q = ni_T d 172 31 [a0, a1, a2, a3, .int x, a5] (.int x :: st) z h Q := ni_T_p rfl rfl
theorem s172_31 : ni_T (d + 1) 172 31 [a0, a1, a2, a3, a4, a5] (.int x1 :: .int x0 :: .ref o :: st) z h Q = (ni_rc (h o) 7 = true ∧ Nat.ble (ni_sw st) 8 = true ∧ ni_T d 168 0 [.ref o, .int x0, .int x1, .retAddr 0, .retAddr 0] [] z h (ni_K (d + 1) 172 34 [a0, a1, a2, a3, a4, a5] st z Q)) := ni_T_ce [.ref o, .int x0, .int x1] rfl rfl rfl rfl rfl rfl rfl rfl rfl
theorem s172_34 : ni_T d 172 34 [a0, a1, a2, a3, a4, a5] (.int x :: st) z h Q = ni_T d 172 36 [a0, a1, a2, a3, ni_kl a4, .int x] st z h Q := ni_T_p rfl rfl
theorem s172_36 : ni_T d 172 36 [a0, a1, a2, a3, a4, .int x] st z h Q = ni_T d 172 38 [a0, a1, a2, a3, a4, .int x] (.int x :: st) z h Q := ni_T_p rfl rfl
theorem s172_38 : ni_T d 172 38 [a0, a1, a2, .int x, a4, a5] st z h Q = ni_T d 172 39 [a0, a1, a2, .int x, a4, a5] (.int x :: st) z h Q := ni_T_p rfl rfl
theorem s172_39 : ni_T d 172 39 [a0, a1, a2, a3, a4, a5] (.int y :: .int x :: st) z h Q = if y < x then ni_T d 172 45 [a0, a1, a2, a3, a4, a5] st z h Q else ni_T d 172 42 [a0, a1, a2, a3, a4, a5] st z h Q := ni_T_b rfl rfl
theorem s172_42 : ni_T d 172 42 [a0, a1, a2, a3, a4, a5] st z h Q = ni_T d 172 51 [a0, a1, a2, a3, a4, a5] st z h Q := ni_T_p rfl rfl
theorem s172_45 : ni_T d 172 45 [a0, a1, a2, a3, .int x, a5] st z h Q = ni_T d 172 47 [a0, a1, a2, a3, .int x, a5] (.int x :: st) z h Q := ni_T_p rfl rfl
theorem s172_47 : ni_T d 172 47 [a0, a1, a2, a3, a4, a5] (.int x :: st) z h Q = ni_T d 172 48 [a0, ni_kl a1, .int x, a3, a4, a5] st z h Q := ni_T_p rfl rfl
theorem s172_48 : ni_T d 172 48 [a0, a1, a2, a3, a4, .int x] st z h Q = ni_T d 172 50 [a0, a1, a2, a3, a4, .int x] (.int x :: st) z h Q := ni_T_p rfl rfl
theorem s172_50 : ni_T d 172 50 [a0, a1, a2, a3, a4, a5] (.int x :: st) z h Q = ni_T d 172 51 [a0, a1, ni_kl a2, .int x, a4, a5] st z h Q := ni_T_p rfl rfl
theorem s172_51 : ni_T d 172 51 [a0, a1, a2, a3, .int x, a5] st z h Q = ni_T d 172 54 [a0, a1, a2, ni_kl a3, .int (x + 1), a5] st z h Q := ni_T_p rfl rfl
theorem s172_54 : ni_T d 172 54 [a0, a1, a2, a3, a4, a5] st z h Q = ni_T d 172 21 [a0, a1, a2, a3, a4, a5] st z h Q := ni_T_p rfl rfl
theorem s172_57 : ni_T d 172 57 [a0, a1, .int x, a3, a4, a5] st z h Q = ni_T d 172 58 [a0, a1, .int x, a3, a4, a5] (.int x :: st) z h Q := ni_T_p rfl rfl
theorem s172_58 : ni_T d 172 58 [a0, a1, a2, a3, a4, a5] [.int x] z h Q = Q (some (.int x)) z h := ni_T_i rfl rfl
theorem s173_0 : ni_T d 173 0 [.ref o, a1, a2, a3, a4, a5] st z h Q = ni_T d 173 1 [.ref o, a1, a2, a3, a4, a5] (.ref o :: st) z h Q := ni_T_p rfl rfl
theorem s173_1 : ni_T d 173 1 [a0, a1, a2, a3, a4, a5] (.ref o :: st) z h Q = (ni_is (h o) 7 0 = true ∧ ni_T d 173 4 [a0, a1, a2, a3, a4, a5] (ni_gv (h o) 0 :: st) z h Q) := ni_T_getf rfl
theorem s173_4 : ni_T d 173 4 [a0, a1, a2, a3, a4, a5] (.int x :: st) z h Q = if x = 0 then ni_T d 173 7 [a0, a1, a2, a3, a4, a5] st z h Q else ni_T d 173 14 [a0, a1, a2, a3, a4, a5] st z h Q := ni_T_b rfl rfl
theorem s173_7 : ni_T d 173 7 [.ref o, a1, a2, a3, a4, a5] st z h Q = ni_T d 173 8 [.ref o, a1, a2, a3, a4, a5] (.ref o :: st) z h Q := ni_T_p rfl rfl
theorem s173_8 : ni_T d 173 8 [a0, a1, a2, a3, a4, a5] st z h Q = ni_T d 173 10 [a0, a1, a2, a3, a4, a5] (.int (-5) :: st) z h Q := ni_T_p rfl rfl
theorem s173_10 : ni_T (d + 1) 173 10 [a0, a1, a2, a3, a4, a5] (.int x0 :: .ref o :: st) z h Q = (ni_rc (h o) 7 = true ∧ Nat.ble (ni_sw st) 8 = true ∧ ni_T d 120 0 [.ref o, .int x0] [] z h (ni_K (d + 1) 173 13 [a0, a1, a2, a3, a4, a5] st z Q)) := ni_T_ce [.ref o, .int x0] rfl rfl rfl rfl rfl rfl rfl rfl rfl
theorem s173_13 : ni_T d 173 13 [a0, a1, a2, a3, a4, a5] [.int x] z h Q = Q (some (.int x)) z h := ni_T_i rfl rfl
theorem s173_14 : ni_T d 173 14 [.ref o, a1, a2, a3, a4, a5] st z h Q = ni_T d 173 15 [.ref o, a1, a2, a3, a4, a5] (.ref o :: st) z h Q := ni_T_p rfl rfl
theorem s173_15 : ni_T d 173 15 [a0, .int x, a2, a3, a4, a5] st z h Q = ni_T d 173 16 [a0, .int x, a2, a3, a4, a5] (.int x :: st) z h Q := ni_T_p rfl rfl
theorem s173_16 : ni_T (d + 1) 173 16 [a0, a1, a2, a3, a4, a5] (.int x0 :: .ref o :: st) z h Q = (ni_rc (h o) 7 = true ∧ Nat.ble (ni_sw st) 8 = true ∧ ni_T d 169 0 [.ref o, .int x0] [] z h (ni_K (d + 1) 173 19 [a0, a1, a2, a3, a4, a5] st z Q)) := ni_T_ce [.ref o, .int x0] rfl rfl rfl rfl rfl rfl rfl rfl rfl
theorem s173_19 : ni_T d 173 19 [a0, a1, a2, a3, a4, a5] (.int x :: st) z h Q = if x = 0 then ni_T d 173 22 [a0, a1, a2, a3, a4, a5] st z h Q else ni_T d 173 29 [a0, a1, a2, a3, a4, a5] st z h Q := ni_T_b rfl rfl
theorem s173_22 : ni_T d 173 22 [.ref o, a1, a2, a3, a4, a5] st z h Q = ni_T d 173 23 [.ref o, a1, a2, a3, a4, a5] (.ref o :: st) z h Q := ni_T_p rfl rfl
theorem s173_23 : ni_T d 173 23 [a0, a1, a2, a3, a4, a5] st z h Q = ni_T d 173 25 [a0, a1, a2, a3, a4, a5] (.int (-6) :: st) z h Q := ni_T_p rfl rfl
theorem s173_25 : ni_T (d + 1) 173 25 [a0, a1, a2, a3, a4, a5] (.int x0 :: .ref o :: st) z h Q = (ni_rc (h o) 7 = true ∧ Nat.ble (ni_sw st) 8 = true ∧ ni_T d 120 0 [.ref o, .int x0] [] z h (ni_K (d + 1) 173 28 [a0, a1, a2, a3, a4, a5] st z Q)) := ni_T_ce [.ref o, .int x0] rfl rfl rfl rfl rfl rfl rfl rfl rfl
theorem s173_28 : ni_T d 173 28 [a0, a1, a2, a3, a4, a5] [.int x] z h Q = Q (some (.int x)) z h := ni_T_i rfl rfl
theorem s173_29 : ni_T d 173 29 [a0, a1, a2, a3, a4, a5] st z h Q = ni_T d 173 30 [a0, a1, a2, a3, a4, a5] (.int 0 :: st) z h Q := ni_T_p rfl rfl
theorem s173_30 : ni_T d 173 30 [a0, a1, a2, a3, a4, a5] (.int x :: st) z h Q = ni_T d 173 31 [a0, ni_kl a1, .int x, a3, a4, a5] st z h Q := ni_T_p rfl rfl
theorem s173_31 : ni_T d 173 31 [a0, a1, a2, a3, a4, a5] st z h Q = ni_T d 173 32 [a0, a1, a2, a3, a4, a5] (.int (-1) :: st) z h Q := ni_T_p rfl rfl
theorem s173_32 : ni_T d 173 32 [a0, a1, a2, a3, a4, a5] (.int x :: st) z h Q = ni_T d 173 33 [a0, a1, ni_kl a2, .int x, a4, a5] st z h Q := ni_T_p rfl rfl
theorem s173_33 : ni_T d 173 33 [a0, a1, a2, a3, a4, a5] st z h Q = ni_T d 173 34 [a0, a1, a2, a3, a4, a5] (.int 0 :: st) z h Q := ni_T_p rfl rfl
theorem s173_34 : ni_T d 173 34 [a0, a1, a2, a3, a4, a5] (.int x :: st) z h Q = ni_T d 173 36 [a0, a1, a2, ni_kl a3, .int x, a5] st z h Q := ni_T_p rfl rfl
theorem s173_36 : ni_T d 173 36 [a0, a1, a2, a3, .int x, a5] st z h Q = ni_T d 173 38 [a0, a1, a2, a3, .int x, a5] (.int x :: st) z h Q := ni_T_p rfl rfl
theorem s173_38 : ni_T d 173 38 [.ref o, a1, a2, a3, a4, a5] st z h Q = ni_T d 173 39 [.ref o, a1, a2, a3, a4, a5] (.ref o :: st) z h Q := ni_T_p rfl rfl
theorem s173_39 : ni_T d 173 39 [a0, a1, a2, a3, a4, a5] (.ref o :: st) z h Q = (ni_is (h o) 7 0 = true ∧ ni_T d 173 42 [a0, a1, a2, a3, a4, a5] (ni_gv (h o) 0 :: st) z h Q) := ni_T_getf rfl
theorem s173_42 : ni_T d 173 42 [a0, a1, a2, a3, a4, a5] (.int y :: .int x :: st) z h Q = if y ≤ x then ni_T d 173 75 [a0, a1, a2, a3, a4, a5] st z h Q else ni_T d 173 45 [a0, a1, a2, a3, a4, a5] st z h Q := ni_T_b rfl rfl
theorem s173_45 : ni_T d 173 45 [.ref o, a1, a2, a3, a4, a5] st z h Q = ni_T d 173 46 [.ref o, a1, a2, a3, a4, a5] (.ref o :: st) z h Q := ni_T_p rfl rfl
theorem s173_46 : ni_T d 173 46 [a0, a1, a2, a3, .int x, a5] st z h Q = ni_T d 173 48 [a0, a1, a2, a3, .int x, a5] (.int x :: st) z h Q := ni_T_p rfl rfl
theorem s173_48 : ni_T d 173 48 [a0, .int x, a2, a3, a4, a5] st z h Q = ni_T d 173 49 [a0, .int x, a2, a3, a4, a5] (.int x :: st) z h Q := ni_T_p rfl rfl
theorem s173_49 : ni_T (d + 1) 173 49 [a0, a1, a2, a3, a4, a5] (.int x1 :: .int x0 :: .ref o :: st) z h Q = (ni_rc (h o) 7 = true ∧ Nat.ble (ni_sw st) 8 = true ∧ ni_T d 168 0 [.ref o, .int x0, .int x1, .retAddr 0, .retAddr 0] [] z h (ni_K (d + 1) 173 52 [a0, a1, a2, a3, a4, a5] st z Q)) := ni_T_ce [.ref o, .int x0, .int x1] rfl rfl rfl rfl rfl rfl rfl rfl rfl
theorem s173_52 : ni_T d 173 52 [a0, a1, a2, a3, a4, a5] (.int x :: st) z h Q = ni_T d 173 54 [a0, a1, a2, a3, ni_kl a4, .int x] st z h Q := ni_T_p rfl rfl
theorem s173_54 : ni_T d 173 54 [a0, a1, a2, a3, a4, .int x] st z h Q = ni_T d 173 56 [a0, a1, a2, a3, a4, .int x] (.int x :: st) z h Q := ni_T_p rfl rfl
theorem s173_56 : ni_T d 173 56 [a0, a1, a2, .int x, a4, a5] st z h Q = ni_T d 173 57 [a0, a1, a2, .int x, a4, a5] (.int x :: st) z h Q := ni_T_p rfl rfl
theorem s173_57 : ni_T d 173 57 [a0, a1, a2, a3, a4, a5] (.int y :: .int x :: st) z h Q = if y < x then ni_T d 173 63 [a0, a1, a2, a3, a4, a5] st z h Q else ni_T d 173 60 [a0, a1, a2, a3, a4, a5] st z h Q := ni_T_b rfl rfl
theorem s173_60 : ni_T d 173 60 [a0, a1, a2, a3, a4, a5] st z h Q = ni_T d 173 69 [a0, a1, a2, a3, a4, a5] st z h Q := ni_T_p rfl rfl
theorem s173_63 : ni_T d 173 63 [a0, a1, a2, a3, .int x, a5] st z h Q = ni_T d 173 65 [a0, a1, a2, a3, .int x, a5] (.int x :: st) z h Q := ni_T_p rfl rfl
theorem s173_65 : ni_T d 173 65 [a0, a1, a2, a3, a4, a5] (.int x :: st) z h Q = ni_T d 173 66 [a0, ni_kl a1, .int x, a3, a4, a5] st z h Q := ni_T_p rfl rfl
theorem s173_66 : ni_T d 173 66 [a0, a1, a2, a3, a4, .int x] st z h Q = ni_T d 173 68 [a0, a1, a2, a3, a4, .int x] (.int x :: st) z h Q := ni_T_p rfl rfl
theorem s173_68 : ni_T d 173 68 [a0, a1, a2, a3, a4, a5] (.int x :: st) z h Q = ni_T d 173 69 [a0, a1, ni_kl a2, .int x, a4, a5] st z h Q := ni_T_p rfl rfl
theorem s173_69 : ni_T d 173 69 [a0, a1, a2, a3, .int x, a5] st z h Q = ni_T d 173 72 [a0, a1, a2, ni_kl a3, .int (x + 1), a5] st z h Q := ni_T_p rfl rfl
theorem s173_72 : ni_T d 173 72 [a0, a1, a2, a3, a4, a5] st z h Q = ni_T d 173 36 [a0, a1, a2, a3, a4, a5] st z h Q := ni_T_p rfl rfl
theorem s173_75 : ni_T d 173 75 [a0, a1, .int x, a3, a4, a5] st z h Q = ni_T d 173 76 [a0, a1, .int x, a3, a4, a5] (.int x :: st) z h Q := ni_T_p rfl rfl
theorem s173_76 : ni_T d 173 76 [a0, a1, a2, a3, a4, a5] [.int x] z h Q = Q (some (.int x)) z h := ni_T_i rfl rfl
theorem s174_0 : ni_T d 174 0 [.ref o, a1, a2, a3, a4, a5, a6] st z h Q = ni_T d 174 1 [.ref o, a1, a2, a3, a4, a5, a6] (.ref o :: st) z h Q := ni_T_p rfl rfl
theorem s174_1 : ni_T d 174 1 [a0, .int x, a2, a3, a4, a5, a6] st z h Q = ni_T d 174 2 [a0, .int x, a2, a3, a4, a5, a6] (.int x :: st) z h Q := ni_T_p rfl rfl
theorem s174_2 : ni_T (d + 1) 174 2 [a0, a1, a2, a3, a4, a5, a6] (.int x0 :: .ref o :: st) z h Q = (ni_rc (h o) 7 = true ∧ Nat.ble (ni_sw st) 8 = true ∧ ni_T d 123 0 [.ref o, .int x0] [] z h (ni_K (d + 1) 174 5 [a0, a1, a2, a3, a4, a5, a6] st z Q)) := ni_T_ce [.ref o, .int x0] rfl rfl rfl rfl rfl rfl rfl rfl rfl
theorem s174_5 : ni_T d 174 5 [a0, a1, a2, a3, a4, a5, a6] (.int x :: st) z h Q = if x = 0 then ni_T d 174 8 [a0, a1, a2, a3, a4, a5, a6] st z h Q else ni_T d 174 14 [a0, a1, a2, a3, a4, a5, a6] st z h Q := ni_T_b rfl rfl
theorem s174_8 : ni_T d 174 8 [.ref o, a1, a2, a3, a4, a5, a6] st z h Q = ni_T d 174 9 [.ref o, a1, a2, a3, a4, a5, a6] (.ref o :: st) z h Q := ni_T_p rfl rfl
theorem s174_9 : ni_T d 174 9 [a0, a1, a2, a3, a4, a5, a6] st z h Q = ni_T d 174 10 [a0, a1, a2, a3, a4, a5, a6] (.int (-1) :: st) z h Q := ni_T_p rfl rfl
theorem s174_10 : ni_T (d + 1) 174 10 [a0, a1, a2, a3, a4, a5, a6] (.int x0 :: .ref o :: st) z h Q = (ni_rc (h o) 7 = true ∧ Nat.ble (ni_sw st) 8 = true ∧ ni_T d 120 0 [.ref o, .int x0] [] z h (ni_K (d + 1) 174 13 [a0, a1, a2, a3, a4, a5, a6] st z Q)) := ni_T_ce [.ref o, .int x0] rfl rfl rfl rfl rfl rfl rfl rfl rfl
theorem s174_13 : ni_T d 174 13 [a0, a1, a2, a3, a4, a5, a6] [.int x] z h Q = Q (some (.int x)) z h := ni_T_i rfl rfl
theorem s174_14 : ni_T d 174 14 [a0, a1, a2, a3, a4, a5, a6] st z h Q = ni_T d 174 15 [a0, a1, a2, a3, a4, a5, a6] (.int 0 :: st) z h Q := ni_T_p rfl rfl
theorem s174_15 : ni_T d 174 15 [a0, a1, a2, a3, a4, a5, a6] (.int x :: st) z h Q = ni_T d 174 16 [a0, ni_kl a1, .int x, a3, a4, a5, a6] st z h Q := ni_T_p rfl rfl
theorem s174_16 : ni_T d 174 16 [a0, a1, a2, a3, a4, a5, a6] st z h Q = ni_T d 174 17 [a0, a1, a2, a3, a4, a5, a6] (.int 0 :: st) z h Q := ni_T_p rfl rfl
theorem s174_17 : ni_T d 174 17 [a0, a1, a2, a3, a4, a5, a6] (.int x :: st) z h Q = ni_T d 174 18 [a0, a1, ni_kl a2, .int x, a4, a5, a6] st z h Q := ni_T_p rfl rfl
theorem s174_18 : ni_T d 174 18 [a0, a1, a2, a3, a4, a5, a6] st z h Q = ni_T d 174 19 [a0, a1, a2, a3, a4, a5, a6] (.int 1 :: st) z h Q := ni_T_p rfl rfl
theorem s174_19 : ni_T d 174 19 [a0, a1, a2, a3, a4, a5, a6] (.int x :: st) z h Q = ni_T d 174 21 [a0, a1, a2, ni_kl a3, .int x, a5, a6] st z h Q := ni_T_p rfl rfl
theorem s174_21 : ni_T d 174 21 [a0, a1, a2, a3, .int x, a5, a6] st z h Q = ni_T d 174 23 [a0, a1, a2, a3, .int x, a5, a6] (.int x :: st) z h Q := ni_T_p rfl rfl
theorem s174_23 : ni_T d 174 23 [a0, a1, a2, a3, a4, a5, a6] st z h Q = ni_T d 174 24 [a0, a1, a2, a3, a4, a5, a6] (.int 5 :: st) z h Q := ni_T_p rfl rfl
theorem s174_24 : ni_T d 174 24 [a0, a1, a2, a3, a4, a5, a6] (.int y :: .int x :: st) z h Q = if y < x then ni_T d 174 80 [a0, a1, a2, a3, a4, a5, a6] st z h Q else ni_T d 174 27 [a0, a1, a2, a3, a4, a5, a6] st z h Q := ni_T_b rfl rfl
theorem s174_27 : ni_T d 174 27 [a0, a1, a2, a3, a4, a5, a6] st z h Q = ni_T d 174 29 [a0, a1, a2, a3, a4, a5, a6] (.int 100 :: st) z h Q := ni_T_p rfl rfl
theorem s174_29 : ni_T d 174 29 [.ref o, a1, a2, a3, a4, a5, a6] st z h Q = ni_T d 174 30 [.ref o, a1, a2, a3, a4, a5, a6] (.ref o :: st) z h Q := ni_T_p rfl rfl
theorem s174_30 : ni_T d 174 30 [a0, .int x, a2, a3, a4, a5, a6] st z h Q = ni_T d 174 31 [a0, .int x, a2, a3, a4, a5, a6] (.int x :: st) z h Q := ni_T_p rfl rfl
theorem s174_31 : ni_T (d + 1) 174 31 [a0, a1, a2, a3, a4, a5, a6] (.int x0 :: .ref o :: st) z h Q = (ni_rc (h o) 7 = true ∧ Nat.ble (ni_sw st) 8 = true ∧ ni_T d 161 0 [.ref o, .int x0] [] z h (ni_K (d + 1) 174 34 [a0, a1, a2, a3, a4, a5, a6] st z Q)) := ni_T_ce [.ref o, .int x0] rfl rfl rfl rfl rfl rfl rfl rfl rfl
theorem s174_34 : ni_T d 174 34 [a0, a1, a2, a3, .int x, a5, a6] st z h Q = ni_T d 174 36 [a0, a1, a2, a3, .int x, a5, a6] (.int x :: st) z h Q := ni_T_p rfl rfl
theorem s174_36 : ni_T d 174 36 [a0, a1, a2, a3, a4, a5, a6] (.int y :: .int x :: st) z h Q = ni_T d 174 37 [a0, a1, a2, a3, a4, a5, a6] (.int (x * y) :: st) z h Q := ni_T_p rfl rfl
theorem s174_37 : ni_T d 174 37 [a0, a1, a2, a3, .int x, a5, a6] st z h Q = ni_T d 174 39 [a0, a1, a2, a3, .int x, a5, a6] (.int x :: st) z h Q := ni_T_p rfl rfl
theorem s174_39 : ni_T d 174 39 [a0, a1, a2, a3, a4, a5, a6] (.int y :: .int x :: st) z h Q = ni_T d 174 40 [a0, a1, a2, a3, a4, a5, a6] (.int (x * y) :: st) z h Q := ni_T_p rfl rfl
theorem s174_40 : ni_T d 174 40 [a0, a1, a2, a3, a4, a5, a6] (.int y :: .int x :: st) z h Q = ni_T d 174 41 [a0, a1, a2, a3, a4, a5, a6] (.int (x - y) :: st) z h Q := ni_T_p rfl rfl
theorem s174_41 : ni_T d 174 41 [a0, a1, a2, a3, a4, a5, a6] (.int x :: st) z h Q = ni_T d 174 43 [a0, a1, a2, a3, ni_kl a4, .int x, a6] st z h Q := ni_T_p rfl rfl
theorem s174_43 : ni_T d 174 43 [a0, a1, a2, a3, .int x, a5, a6] st z h Q = ni_T d 174 45 [a0, a1, a2, a3, .int x, a5, a6] (.int x :: st) z h Q := ni_T_p rfl rfl
theorem s174_45 : ni_T d 174 45 [a0, a1, a2, a3, a4, .int x, a6] st z h Q = ni_T d 174 47 [a0, a1, a2, a3, a4, .int x, a6] (.int x :: st) z h Q := ni_T_p rfl rfl
theorem s174_47 : ni_T d 174 47 [a0, a1, a2, a3, a4, a5, a6] (.int x :: st) z h Q = if 0 ≤ x then ni_T d 174 54 [a0, a1, a2, a3, a4, a5, a6] st z h Q else ni_T d 174 50 [a0, a1, a2, a3, a4, a5, a6] st z h Q := ni_T_b rfl rfl
theorem s174_50 : ni_T d 174 50 [a0, a1, a2, a3, a4, a5, a6] st z h Q = ni_T d 174 51 [a0, a1, a2, a3, a4, a5, a6] (.int 0 :: st) z h Q := ni_T_p rfl rfl
theorem s174_51 : ni_T d 174 51 [a0, a1, a2, a3, a4, a5, a6] st z h Q = ni_T d 174 56 [a0, a1, a2, a3, a4, a5, a6] st z h Q := ni_T_p rfl rfl
theorem s174_54 : ni_T d 174 54 [a0, a1, a2, a3, a4, .int x, a6] st z h Q = ni_T d 174 56 [a0, a1, a2, a3, a4, .int x, a6] (.int x :: st) z h Q := ni_T_p rfl rfl
theorem s174_56 : ni_T d 174 56 [a0, a1, a2, a3, a4, a5, a6] (.int y :: .int x :: st) z h Q = ni_T d 174 57 [a0, a1, a2, a3, a4, a5, a6] (.int (x * y) :: st) z h Q := ni_T_p rfl rfl
theorem s174_57 : ni_T d 174 57 [a0, a1, a2, a3, a4, a5, a6] (.int x :: st) z h Q = ni_T d 174 59 [a0, a1, a2, a3, a4, ni_kl a5, .int x] st z h Q := ni_T_p rfl rfl
theorem s174_59 : ni_T d 174 59 [a0, a1, a2, a3, a4, a5, .int x] st z h Q = ni_T d 174 61 [a0, a1, a2, a3, a4, a5, .int x] (.int x :: st) z h Q := ni_T_p rfl rfl
theorem s174_61 : ni_T d 174 61 [a0, a1, a2, .int x, a4, a5, a6] st z h Q = ni_T d 174 62 [a0, a1, a2, .int x, a4, a5, a6] (.int x :: st) z h Q := ni_T_p rfl rfl
theorem s174_62 : ni_T d 174 62 [a0, a1, a2, a3, a4, a5, a6] (.int y :: .int x :: st) z h Q = if y < x then ni_T d 174 68 [a0, a1, a2, a3, a4, a5, a6] st z h Q else ni_T d 174 65 [a0, a1, a2, a3, a4, a5, a6] st z h Q := ni_T_b rfl rfl
theorem s174_65 : ni_T d 174 65 [a0, a1, a2, a3, a4, a5, a6] st z h Q = ni_T d 174 74 [a0, a1, a2, a3, a4, a5, a6] st z h Q := ni_T_p rfl rfl
theorem s174_68 : ni_T d 174 68 [a0, a1, a2, a3, .int x, a5, a6] st z h Q = ni_T d 174 70 [a0, a1, a2, a3, .int x, a5, a6] (.int x :: st) z h Q := ni_T_p rfl rfl
theorem s174_70 : ni_T d 174 70 [a0, a1, a2, a3, a4, a5, a6] (.int x :: st) z h Q = ni_T d 174 71 [a0, ni_kl a1, .int x, a3, a4, a5, a6] st z h Q := ni_T_p rfl rfl
theorem s174_71 : ni_T d 174 71 [a0, a1, a2, a3, a4, a5, .int x] st z h Q = ni_T d 174 73 [a0, a1, a2, a3, a4, a5, .int x] (.int x :: st) z h Q := ni_T_p rfl rfl
theorem s174_73 : ni_T d 174 73 [a0, a1, a2, a3, a4, a5, a6] (.int x :: st) z h Q = ni_T d 174 74 [a0, a1, ni_kl a2, .int x, a4, a5, a6] st z h Q := ni_T_p rfl rfl
theorem s174_74 : ni_T d 174 74 [a0, a1, a2, a3, .int x, a5, a6] st z h Q = ni_T d 174 77 [a0, a1, a2, ni_kl a3, .int (x + 1), a5, a6] st z h Q := ni_T_p rfl rfl
theorem s174_77 : ni_T d 174 77 [a0, a1, a2, a3, a4, a5, a6] st z h Q = ni_T d 174 21 [a0, a1, a2, a3, a4, a5, a6] st z h Q := ni_T_p rfl rfl
theorem s174_80 : ni_T d 174 80 [a0, a1, .int x, a3, a4, a5, a6] st z h Q = ni_T d 174 81 [a0, a1, .int x, a3, a4, a5, a6] (.int x :: st) z h Q := ni_T_p rfl rfl
theorem s174_81 : ni_T d 174 81 [a0, a1, a2, a3, a4, a5, a6] [.int x] z h Q = Q (some (.int x)) z h := ni_T_i rfl rfl
theorem s175_0 : ni_T d 175 0 [a0, a1, a2] st z h Q = ni_T d 175 1 [a0, a1, a2] (.int 0 :: st) z h Q := ni_T_p rfl rfl
theorem s175_1 : ni_T d 175 1 [a0, a1, a2] (.int x :: st) z h Q = ni_T d 175 2 [a0, ni_kl a1, .int x] st z h Q := ni_T_p rfl rfl
theorem s175_2 : ni_T d 175 2 [a0, a1, .int x] st z h Q = ni_T d 175 3 [a0, a1, .int x] (.int x :: st) z h Q := ni_T_p rfl rfl
theorem s175_3 : ni_T d 175 3 [.ref o, a1, a2] st z h Q = ni_T d 175 4 [.ref o, a1, a2] (.ref o :: st) z h Q := ni_T_p rfl rfl
theorem s175_4 : ni_T d 175 4 [a0, a1, a2] (.ref o :: st) z h Q = (ni_is (h o) 7 0 = true ∧ ni_T d 175 7 [a0, a1, a2] (ni_gv (h o) 0 :: st) z h Q) := ni_T_getf rfl
theorem s175_7 : ni_T d 175 7 [a0, a1, a2] (.int y :: .int x :: st) z h Q = if y ≤ x then ni_T d 175 38 [a0, a1, a2] st z h Q else ni_T d 175 10 [a0, a1, a2] st z h Q := ni_T_b rfl rfl
theorem s175_10 : ni_T d 175 10 [.ref o, a1, a2] st z h Q = ni_T d 175 11 [.ref o, a1, a2] (.ref o :: st) z h Q := ni_T_p rfl rfl
theorem s175_11 : ni_T d 175 11 [a0, .int x, a2] st z h Q = ni_T d 175 12 [a0, .int x, a2] (.int x :: st) z h Q := ni_T_p rfl rfl
theorem s175_12 : ni_T d 175 12 [a0, a1, .int x] st z h Q = ni_T d 175 13 [a0, a1, .int x] (.int x :: st) z h Q := ni_T_p rfl rfl
theorem s175_13 : ni_T (d + 1) 175 13 [a0, a1, a2] (.int x1 :: .int x0 :: .ref o :: st) z h Q = (ni_rc (h o) 7 = true ∧ Nat.ble (ni_sw st) 8 = true ∧ ni_T d 133 0 [.ref o, .int x0, .int x1] [] z h (ni_K (d + 1) 175 16 [a0, a1, a2] st z Q)) := ni_T_ce [.ref o, .int x0, .int x1] rfl rfl rfl rfl rfl rfl rfl rfl rfl
theorem s175_16 : ni_T d 175 16 [a0, a1, a2] (.int x :: st) z h Q = if x < 0 then ni_T d 175 30 [a0, a1, a2] st z h Q else ni_T d 175 19 [a0, a1, a2] st z h Q := ni_T_b rfl rfl
theorem s175_19 : ni_T d 175 19 [.ref o, a1, a2] st z h Q = ni_T d 175 20 [.ref o, a1, a2] (.ref o :: st) z h Q := ni_T_p rfl rfl
theorem s175_20 : ni_T d 175 20 [a0, .int x, a2] st z h Q = ni_T d 175 21 [a0, .int x, a2] (.int x :: st) z h Q := ni_T_p rfl rfl
theorem s175_21 : ni_T d 175 21 [a0, a1, .int x] st z h Q = ni_T d 175 22 [a0, a1, .int x] (.int x :: st) z h Q := ni_T_p rfl rfl
theorem s175_22 : ni_T (d + 1) 175 22 [a0, a1, a2] (.int x1 :: .int x0 :: .ref o :: st) z h Q = (ni_rc (h o) 7 = true ∧ Nat.ble (ni_sw st) 8 = true ∧ ni_T d 133 0 [.ref o, .int x0, .int x1] [] z h (ni_K (d + 1) 175 25 [a0, a1, a2] st z Q)) := ni_T_ce [.ref o, .int x0, .int x1] rfl rfl rfl rfl rfl rfl rfl rfl rfl
theorem s175_25 : ni_T d 175 25 [a0, a1, a2] st z h Q = ni_T d 175 27 [a0, a1, a2] (.int 100 :: st) z h Q := ni_T_p rfl rfl
theorem s175_27 : ni_T d 175 27 [a0, a1, a2] (.int y :: .int x :: st) z h Q = if x ≤ y then ni_T d 175 32 [a0, a1, a2] st z h Q else ni_T d 175 30 [a0, a1, a2] st z h Q := ni_T_b rfl rfl
theorem s175_30 : ni_T d 175 30 [a0, a1, a2] st z h Q = ni_T d 175 31 [a0, a1, a2] (.int 0 :: st) z h Q := ni_T_p rfl rfl
theorem s175_31 : ni_T d 175 31 [a0, a1, a2] [.int x] z h Q = (narrow .boolean (.int x) = .int x ∧ Q (some (.int x)) z h) := ni_T_z rfl rfl
theorem s175_32 : ni_T d 175 32 [a0, a1, .int x] st z h Q = ni_T d 175 35 [a0, ni_kl a1, .int (x + 1)] st z h Q := ni_T_p rfl rfl
theorem s175_35 : ni_T d 175 35 [a0, a1, a2] st z h Q = ni_T d 175 2 [a0, a1, a2] st z h Q := ni_T_p rfl rfl
theorem s175_38 : ni_T d 175 38 [a0, a1, a2] st z h Q = ni_T d 175 39 [a0, a1, a2] (.int 1 :: st) z h Q := ni_T_p rfl rfl
theorem s175_39 : ni_T d 175 39 [a0, a1, a2] [.int x] z h Q = (narrow .boolean (.int x) = .int x ∧ Q (some (.int x)) z h) := ni_T_z rfl rfl
theorem s176_0 : ni_T d 176 0 [.ref o, a1, a2, a3, a4, a5, a6, a7, a8, a9] st z h Q = ni_T d 176 1 [.ref o, a1, a2, a3, a4, a5, a6, a7, a8, a9] (.ref o :: st) z h Q := ni_T_p rfl rfl
theorem s176_1 : ni_T d 176 1 [a0, .int x, a2, a3, a4, a5, a6, a7, a8, a9] st z h Q = ni_T d 176 2 [a0, .int x, a2, a3, a4, a5, a6, a7, a8, a9] (.int x :: st) z h Q := ni_T_p rfl rfl
theorem s176_2 : ni_T (d + 1) 176 2 [a0, a1, a2, a3, a4, a5, a6, a7, a8, a9] (.int x0 :: .ref o :: st) z h Q = (ni_rc (h o) 7 = true ∧ Nat.ble (ni_sw st) 8 = true ∧ ni_T d 122 0 [.ref o, .int x0] [] z h (ni_K (d + 1) 176 5 [a0, a1, a2, a3, a4, a5, a6, a7, a8, a9] st z Q)) := ni_T_ce [.ref o, .int x0] rfl rfl rfl rfl rfl rfl rfl rfl rfl
theorem s176_5 : ni_T d 176 5 [a0, a1, a2, a3, a4, a5, a6, a7, a8, a9] (.int x :: st) z h Q = if x = 0 then ni_T d 176 20 [a0, a1, a2, a3, a4, a5, a6, a7, a8, a9] st z h Q else ni_T d 176 8 [a0, a1, a2, a3, a4, a5, a6, a7, a8, a9] st z h Q := ni_T_b rfl rfl
theorem s176_8 : ni_T d 176 8 [.ref o, a1, a2, a3, a4, a5, a6, a7, a8, a9] st z h Q = ni_T d 176 9 [.ref o, a1, a2, a3, a4, a5, a6, a7, a8, a9] (.ref o :: st) z h Q := ni_T_p rfl rfl
theorem s176_9 : ni_T d 176 9 [a0, a1, .int x, a3, a4, a5, a6, a7, a8, a9] st z h Q = ni_T d 176 10 [a0, a1, .int x, a3, a4, a5, a6, a7, a8, a9] (.int x :: st) z h Q := ni_T_p rfl rfl
theorem s176_10 : ni_T (d + 1) 176 10 [a0, a1, a2, a3, a4, a5, a6, a7, a8, a9] (.int x0 :: .ref o :: st) z h Q = (ni_rc (h o) 7 = true ∧ Nat.ble (ni_sw st) 8 = true ∧ ni_T d 123 0 [.ref o, .int x0] [] z h (ni_K (d + 1) 176 13 [a0, a1, a2, a3, a4, a5, a6, a7, a8, a9] st z Q)) := ni_T_ce [.ref o, .int x0] rfl rfl rfl rfl rfl rfl rfl rfl rfl
theorem s176_13 : ni_T d 176 13 [a0, a1, a2, a3, a4, a5, a6, a7, a8, a9] (.int x :: st) z h Q = if x = 0 then ni_T d 176 16 [a0, a1, a2, a3, a4, a5, a6, a7, a8, a9] st z h Q else ni_T d 176 20 [a0, a1, a2, a3, a4, a5, a6, a7, a8, a9] st z h Q := ni_T_b rfl rfl
theorem s176_16 : ni_T d 176 16 [a0, a1, a2, a3, a4, a5, a6, a7, a8, a9] st z h Q = ni_T d 176 17 [a0, a1, a2, a3, a4, a5, a6, a7, a8, a9] (.int (-1) :: st) z h Q := ni_T_p rfl rfl
theorem s176_17 : ni_T d 176 17 [a0, a1, a2, a3, a4, a5, a6, a7, a8, a9] st z h Q = ni_T d 176 25 [a0, a1, a2, a3, a4, a5, a6, a7, a8, a9] st z h Q := ni_T_p rfl rfl
theorem s176_20 : ni_T d 176 20 [.ref o, a1, a2, a3, a4, a5, a6, a7, a8, a9] st z h Q = ni_T d 176 21 [.ref o, a1, a2, a3, a4, a5, a6, a7, a8, a9] (.ref o :: st) z h Q := ni_T_p rfl rfl
theorem s176_21 : ni_T d 176 21 [a0, .int x, a2, a3, a4, a5, a6, a7, a8, a9] st z h Q = ni_T d 176 22 [a0, .int x, a2, a3, a4, a5, a6, a7, a8, a9] (.int x :: st) z h Q := ni_T_p rfl rfl
theorem s176_22 : ni_T (d + 1) 176 22 [a0, a1, a2, a3, a4, a5, a6, a7, a8, a9] (.int x0 :: .ref o :: st) z h Q = (ni_rc (h o) 7 = true ∧ Nat.ble (ni_sw st) 8 = true ∧ ni_T d 132 0 [.ref o, .int x0] [] z h (ni_K (d + 1) 176 25 [a0, a1, a2, a3, a4, a5, a6, a7, a8, a9] st z Q)) := ni_T_ce [.ref o, .int x0] rfl rfl rfl rfl rfl rfl rfl rfl rfl
theorem s176_25 : ni_T d 176 25 [a0, a1, a2, a3, a4, a5, a6, a7, a8, a9] (.int x :: st) z h Q = ni_T d 176 27 [a0, a1, a2, ni_kl a3, .int x, a5, a6, a7, a8, a9] st z h Q := ni_T_p rfl rfl
theorem s176_27 : ni_T d 176 27 [a0, a1, a2, a3, .int x, a5, a6, a7, a8, a9] st z h Q = ni_T d 176 29 [a0, a1, a2, a3, .int x, a5, a6, a7, a8, a9] (.int x :: st) z h Q := ni_T_p rfl rfl
theorem s176_29 : ni_T d 176 29 [a0, a1, a2, a3, a4, a5, a6, a7, a8, a9] (.int x :: st) z h Q = if x = 0 then ni_T d 176 32 [a0, a1, a2, a3, a4, a5, a6, a7, a8, a9] st z h Q else ni_T d 176 49 [a0, a1, a2, a3, a4, a5, a6, a7, a8, a9] st z h Q := ni_T_b rfl rfl
theorem s176_32 : ni_T d 176 32 [.ref o, a1, a2, a3, a4, a5, a6, a7, a8, a9] st z h Q = ni_T d 176 33 [.ref o, a1, a2, a3, a4, a5, a6, a7, a8, a9] (.ref o :: st) z h Q := ni_T_p rfl rfl
theorem s176_33 : ni_T d 176 33 [a0, a1, a2, a3, a4, a5, a6, a7, a8, a9] (.ref o :: st) z h Q = (ni_is (h o) 7 0 = true ∧ ni_T d 176 36 [a0, a1, a2, a3, a4, a5, a6, a7, a8, a9] (ni_gv (h o) 0 :: st) z h Q) := ni_T_getf rfl
theorem s176_36 : ni_T d 176 36 [.ref o, a1, a2, a3, a4, a5, a6, a7, a8, a9] st z h Q = ni_T d 176 37 [.ref o, a1, a2, a3, a4, a5, a6, a7, a8, a9] (.ref o :: st) z h Q := ni_T_p rfl rfl
theorem s176_37 : ni_T d 176 37 [a0, a1, a2, a3, a4, a5, a6, a7, a8, a9] (.ref o :: st) z h Q = (ni_is (h o) 7 14 = true ∧ ni_T d 176 40 [a0, a1, a2, a3, a4, a5, a6, a7, a8, a9] (ni_gv (h o) 14 :: st) z h Q) := ni_T_getf rfl
theorem s176_40 : ni_T d 176 40 [a0, .int x, a2, a3, a4, a5, a6, a7, a8, a9] st z h Q = ni_T d 176 41 [a0, .int x, a2, a3, a4, a5, a6, a7, a8, a9] (.int x :: st) z h Q := ni_T_p rfl rfl
theorem s176_41 : ni_T d 176 41 [a0, a1, a2, a3, a4, a5, a6, a7, a8, a9] (.int x :: .ref o :: st) z h Q = (ni_okI (h o) x = true ∧ ni_T d 176 42 [a0, a1, a2, a3, a4, a5, a6, a7, a8, a9] (.int (ni_gi (h o) x) :: st) z h Q) := ni_T_iald rfl
theorem s176_42 : ni_T d 176 42 [a0, a1, a2, a3, a4, a5, a6, a7, a8, a9] (.int y :: .int x :: st) z h Q = if x ≤ y then ni_T d 176 49 [a0, a1, a2, a3, a4, a5, a6, a7, a8, a9] st z h Q else ni_T d 176 45 [a0, a1, a2, a3, a4, a5, a6, a7, a8, a9] st z h Q := ni_T_b rfl rfl
theorem s176_45 : ni_T d 176 45 [a0, a1, a2, a3, a4, a5, a6, a7, a8, a9] st z h Q = ni_T d 176 47 [a0, a1, a2, a3, a4, a5, a6, a7, a8, a9] (.int (-5) :: st) z h Q := ni_T_p rfl rfl
theorem s176_47 : ni_T d 176 47 [a0, a1, a2, a3, a4, a5, a6, a7, a8, a9] (.int x :: st) z h Q = ni_T d 176 49 [a0, a1, a2, ni_kl a3, .int x, a5, a6, a7, a8, a9] st z h Q := ni_T_p rfl rfl
theorem s176_49 : ni_T d 176 49 [a0, a1, a2, a3, .int x, a5, a6, a7, a8, a9] st z h Q = ni_T d 176 51 [a0, a1, a2, a3, .int x, a5, a6, a7, a8, a9] (.int x :: st) z h Q := ni_T_p rfl rfl
theorem s176_51 : ni_T d 176 51 [a0, a1, a2, a3, a4, a5, a6, a7, a8, a9] (.int x :: st) z h Q = if x = 0 then ni_T d 176 54 [a0, a1, a2, a3, a4, a5, a6, a7, a8, a9] st z h Q else ni_T d 176 77 [a0, a1, a2, a3, a4, a5, a6, a7, a8, a9] st z h Q := ni_T_b rfl rfl
theorem s176_54 : ni_T d 176 54 [a0, a1, a2, .int x, a4, a5, a6, a7, a8, a9] st z h Q = ni_T d 176 55 [a0, a1, a2, .int x, a4, a5, a6, a7, a8, a9] (.int x :: st) z h Q := ni_T_p rfl rfl
theorem s176_55 : ni_T d 176 55 [a0, a1, a2, a3, a4, a5, a6, a7, a8, a9] st z h Q = ni_T d 176 56 [a0, a1, a2, a3, a4, a5, a6, a7, a8, a9] (.int 1 :: st) z h Q := ni_T_p rfl rfl
theorem s176_56 : ni_T d 176 56 [a0, a1, a2, a3, a4, a5, a6, a7, a8, a9] (.int y :: .int x :: st) z h Q = if x < y then ni_T d 176 73 [a0, a1, a2, a3, a4, a5, a6, a7, a8, a9] st z h Q else ni_T d 176 59 [a0, a1, a2, a3, a4, a5, a6, a7, a8, a9] st z h Q := ni_T_b rfl rfl
theorem s176_59 : ni_T d 176 59 [a0, a1, a2, .int x, a4, a5, a6, a7, a8, a9] st z h Q = ni_T d 176 60 [a0, a1, a2, .int x, a4, a5, a6, a7, a8, a9] (.int x :: st) z h Q := ni_T_p rfl rfl
theorem s176_60 : ni_T d 176 60 [a0, a1, a2, a3, a4, a5, a6, a7, a8, a9] st z h Q = ni_T d 176 62 [a0, a1, a2, a3, a4, a5, a6, a7, a8, a9] (.int 100 :: st) z h Q := ni_T_p rfl rfl
theorem s176_62 : ni_T d 176 62 [a0, a1, a2, a3, a4, a5, a6, a7, a8, a9] (.int y :: .int x :: st) z h Q = if y < x then ni_T d 176 73 [a0, a1, a2, a3, a4, a5, a6, a7, a8, a9] st z h Q else ni_T d 176 65 [a0, a1, a2, a3, a4, a5, a6, a7, a8, a9] st z h Q := ni_T_b rfl rfl
theorem s176_65 : ni_T d 176 65 [.ref o, a1, a2, a3, a4, a5, a6, a7, a8, a9] st z h Q = ni_T d 176 66 [.ref o, a1, a2, a3, a4, a5, a6, a7, a8, a9] (.ref o :: st) z h Q := ni_T_p rfl rfl
theorem s176_66 : ni_T d 176 66 [a0, .int x, a2, a3, a4, a5, a6, a7, a8, a9] st z h Q = ni_T d 176 67 [a0, .int x, a2, a3, a4, a5, a6, a7, a8, a9] (.int x :: st) z h Q := ni_T_p rfl rfl
theorem s176_67 : ni_T (d + 1) 176 67 [a0, a1, a2, a3, a4, a5, a6, a7, a8, a9] (.int x0 :: .ref o :: st) z h Q = (ni_rc (h o) 7 = true ∧ Nat.ble (ni_sw st) 8 = true ∧ ni_T d 175 0 [.ref o, .int x0, .retAddr 0] [] z h (ni_K (d + 1) 176 70 [a0, a1, a2, a3, a4, a5, a6, a7, a8, a9] st z Q)) := ni_T_ce [.ref o, .int x0] rfl rfl rfl rfl rfl rfl rfl rfl rfl
theorem s176_70 : ni_T d 176 70 [a0, a1, a2, a3, a4, a5, a6, a7, a8, a9] (.int x :: st) z h Q = if x = 0 then ni_T d 176 73 [a0, a1, a2, a3, a4, a5, a6, a7, a8, a9] st z h Q else ni_T d 176 77 [a0, a1, a2, a3, a4, a5, a6, a7, a8, a9] st z h Q := ni_T_b rfl rfl
theorem s176_73 : ni_T d 176 73 [a0, a1, a2, a3, a4, a5, a6, a7, a8, a9] st z h Q = ni_T d 176 75 [a0, a1, a2, a3, a4, a5, a6, a7, a8, a9] (.int (-6) :: st) z h Q := ni_T_p rfl rfl
theorem s176_75 : ni_T d 176 75 [a0, a1, a2, a3, a4, a5, a6, a7, a8, a9] (.int x :: st) z h Q = ni_T d 176 77 [a0, a1, a2, ni_kl a3, .int x, a5, a6, a7, a8, a9] st z h Q := ni_T_p rfl rfl
theorem s176_77 : ni_T d 176 77 [a0, a1, a2, a3, .int x, a5, a6, a7, a8, a9] st z h Q = ni_T d 176 79 [a0, a1, a2, a3, .int x, a5, a6, a7, a8, a9] (.int x :: st) z h Q := ni_T_p rfl rfl
theorem s176_79 : ni_T d 176 79 [a0, a1, a2, a3, a4, a5, a6, a7, a8, a9] (.int x :: st) z h Q = if x = 0 then ni_T d 176 89 [a0, a1, a2, a3, a4, a5, a6, a7, a8, a9] st z h Q else ni_T d 176 82 [a0, a1, a2, a3, a4, a5, a6, a7, a8, a9] st z h Q := ni_T_b rfl rfl
theorem s176_82 : ni_T d 176 82 [.ref o, a1, a2, a3, a4, a5, a6, a7, a8, a9] st z h Q = ni_T d 176 83 [.ref o, a1, a2, a3, a4, a5, a6, a7, a8, a9] (.ref o :: st) z h Q := ni_T_p rfl rfl
theorem s176_83 : ni_T d 176 83 [a0, a1, a2, a3, .int x, a5, a6, a7, a8, a9] st z h Q = ni_T d 176 85 [a0, a1, a2, a3, .int x, a5, a6, a7, a8, a9] (.int x :: st) z h Q := ni_T_p rfl rfl
theorem s176_85 : ni_T (d + 1) 176 85 [a0, a1, a2, a3, a4, a5, a6, a7, a8, a9] (.int x0 :: .ref o :: st) z h Q = (ni_rc (h o) 7 = true ∧ Nat.ble (ni_sw st) 8 = true ∧ ni_T d 120 0 [.ref o, .int x0] [] z h (ni_K (d + 1) 176 88 [a0, a1, a2, a3, a4, a5, a6, a7, a8, a9] st z Q)) := ni_T_ce [.ref o, .int x0] rfl rfl rfl rfl rfl rfl rfl rfl rfl
theorem s176_88 : ni_T d 176 88 [a0, a1, a2, a3, a4, a5, a6, a7, a8, a9] [.int x] z h Q = Q (some (.int x)) z h := ni_T_i rfl rfl
theorem s176_89 : ni_T d 176 89 [a0, a1, a2, a3, a4, a5, a6, a7, a8, a9] st z h Q = ni_T d 176 91 [a0, a1, a2, a3, a4, a5, a6, a7, a8, a9] (.int 1000000 :: st) z h Q := ni_T_hse rfl rfl rfl rfl
theorem s176_91 : ni_T d 176 91 [a0, a1, a2, a3, a4, a5, a6, a7, a8, a9] (.int x :: st) z h Q = ni_T d 176 93 [a0, a1, a2, a3, ni_kl a4, .int x, a6, a7, a8, a9] st z h Q := ni_T_p rfl rfl
theorem s176_93 : ni_T d 176 93 [a0, a1, a2, a3, a4, a5, a6, a7, a8, a9] st z h Q = ni_T d 176 94 [a0, a1, a2, a3, a4, a5, a6, a7, a8, a9] (.int 0 :: st) z h Q := ni_T_p rfl rfl
theorem s176_94 : ni_T d 176 94 [a0, a1, a2, a3, a4, a5, a6, a7, a8, a9] (.int x :: st) z h Q = ni_T d 176 96 [a0, a1, a2, a3, a4, ni_kl a5, .int x, a7, a8, a9] st z h Q := ni_T_p rfl rfl
theorem s176_96 : ni_T d 176 96 [a0, a1, a2, a3, a4, a5, a6, a7, a8, a9] st z h Q = ni_T d 176 97 [a0, a1, a2, a3, a4, a5, a6, a7, a8, a9] (.int 0 :: st) z h Q := ni_T_p rfl rfl
theorem s176_97 : ni_T d 176 97 [a0, a1, a2, a3, a4, a5, a6, a7, a8, a9] (.int x :: st) z h Q = ni_T d 176 99 [a0, a1, a2, a3, a4, a5, ni_kl a6, .int x, a8, a9] st z h Q := ni_T_p rfl rfl
theorem s176_99 : ni_T d 176 99 [a0, a1, a2, a3, a4, a5, a6, .int x, a8, a9] st z h Q = ni_T d 176 101 [a0, a1, a2, a3, a4, a5, a6, .int x, a8, a9] (.int x :: st) z h Q := ni_T_p rfl rfl
theorem s176_101 : ni_T d 176 101 [a0, a1, a2, .int x, a4, a5, a6, a7, a8, a9] st z h Q = ni_T d 176 102 [a0, a1, a2, .int x, a4, a5, a6, a7, a8, a9] (.int x :: st) z h Q := ni_T_p rfl rfl
theorem s176_102 : ni_T d 176 102 [a0, a1, a2, a3, a4, a5, a6, a7, a8, a9] (.int y :: .int x :: st) z h Q = if y ≤ x then ni_T d 176 164 [a0, a1, a2, a3, a4, a5, a6, a7, a8, a9] st z h Q else ni_T d 176 105 [a0, a1, a2, a3, a4, a5, a6, a7, a8, a9] st z h Q := ni_T_b rfl rfl
theorem s176_105 : ni_T d 176 105 [.ref o, a1, a2, a3, a4, a5, a6, a7, a8, a9] st z h Q = ni_T d 176 106 [.ref o, a1, a2, a3, a4, a5, a6, a7, a8, a9] (.ref o :: st) z h Q := ni_T_p rfl rfl
theorem s176_106 : ni_T d 176 106 [a0, a1, a2, a3, a4, a5, a6, a7, a8, a9] (.ref o :: st) z h Q = (ni_is (h o) 7 1 = true ∧ ni_T d 176 109 [a0, a1, a2, a3, a4, a5, a6, a7, a8, a9] (ni_gv (h o) 1 :: st) z h Q) := ni_T_getf rfl
theorem s176_109 : ni_T d 176 109 [a0, a1, a2, a3, a4, a5, a6, .int x, a8, a9] st z h Q = ni_T d 176 111 [a0, a1, a2, a3, a4, a5, a6, .int x, a8, a9] (.int x :: st) z h Q := ni_T_p rfl rfl
theorem s176_111 : ni_T d 176 111 [a0, a1, a2, a3, a4, a5, a6, a7, a8, a9] (.int y :: .int x :: st) z h Q = ni_T d 176 112 [a0, a1, a2, a3, a4, a5, a6, a7, a8, a9] (.int (x + y) :: st) z h Q := ni_T_p rfl rfl
theorem s176_112 : ni_T d 176 112 [.ref o, a1, a2, a3, a4, a5, a6, a7, a8, a9] st z h Q = ni_T d 176 113 [.ref o, a1, a2, a3, a4, a5, a6, a7, a8, a9] (.ref o :: st) z h Q := ni_T_p rfl rfl
theorem s176_113 : ni_T d 176 113 [a0, a1, a2, a3, a4, a5, a6, a7, a8, a9] (.ref o :: st) z h Q = (ni_is (h o) 7 0 = true ∧ ni_T d 176 116 [a0, a1, a2, a3, a4, a5, a6, a7, a8, a9] (ni_gv (h o) 0 :: st) z h Q) := ni_T_getf rfl
theorem s176_116 : ni_T d 176 116 [a0, a1, a2, a3, a4, a5, a6, a7, a8, a9] (.int y :: .int x :: st) z h Q = (¬ y = 0 ∧ ni_T d 176 117 [a0, a1, a2, a3, a4, a5, a6, a7, a8, a9] (.int (x - x / y * y) :: st) z h Q) := ni_T_irem rfl
theorem s176_117 : ni_T d 176 117 [a0, a1, a2, a3, a4, a5, a6, a7, a8, a9] (.int x :: st) z h Q = ni_T d 176 119 [a0, a1, a2, a3, a4, a5, a6, ni_kl a7, .int x, a9] st z h Q := ni_T_p rfl rfl
theorem s176_119 : ni_T d 176 119 [a0, a1, a2, a3, a4, .int x, a6, a7, a8, a9] st z h Q = ni_T d 176 121 [a0, a1, a2, a3, a4, .int x, a6, a7, a8, a9] (.int x :: st) z h Q := ni_T_p rfl rfl
theorem s176_121 : ni_T d 176 121 [a0, a1, a2, a3, a4, a5, a6, a7, a8, a9] (.int x :: st) z h Q = ni_T d 176 122 [a0, a1, a2, a3, a4, a5, a6, a7, a8, a9] (.long x.toInt64 :: st) z h Q := ni_T_p rfl rfl
theorem s176_122 : ni_T d 176 122 [.ref o, a1, a2, a3, a4, a5, a6, a7, a8, a9] st z h Q = ni_T d 176 123 [.ref o, a1, a2, a3, a4, a5, a6, a7, a8, a9] (.ref o :: st) z h Q := ni_T_p rfl rfl
theorem s176_123 : ni_T d 176 123 [a0, .int x, a2, a3, a4, a5, a6, a7, a8, a9] st z h Q = ni_T d 176 124 [a0, .int x, a2, a3, a4, a5, a6, a7, a8, a9] (.int x :: st) z h Q := ni_T_p rfl rfl
theorem s176_124 : ni_T d 176 124 [a0, a1, a2, a3, a4, a5, a6, a7, .int x, a9] st z h Q = ni_T d 176 126 [a0, a1, a2, a3, a4, a5, a6, a7, .int x, a9] (.int x :: st) z h Q := ni_T_p rfl rfl
theorem s176_126 : ni_T (d + 1) 176 126 [a0, a1, a2, a3, a4, a5, a6, a7, a8, a9] (.int x1 :: .int x0 :: .ref o :: st) z h Q = (ni_rc (h o) 7 = true ∧ Nat.ble (ni_sw st) 8 = true ∧ ni_T d 133 0 [.ref o, .int x0, .int x1] [] z h (ni_K (d + 1) 176 129 [a0, a1, a2, a3, a4, a5, a6, a7, a8, a9] st z Q)) := ni_T_ce [.ref o, .int x0, .int x1] rfl rfl rfl rfl rfl rfl rfl rfl rfl
theorem s176_129 : ni_T d 176 129 [a0, a1, a2, a3, a4, a5, a6, a7, a8, a9] (.int x :: st) z h Q = ni_T d 176 130 [a0, a1, a2, a3, a4, a5, a6, a7, a8, a9] (.long x.toInt64 :: st) z h Q := ni_T_p rfl rfl
theorem s176_130 : ni_T d 176 130 [a0, a1, a2, a3, a4, a5, a6, a7, a8, a9] (.long w :: .long u :: st) z h Q = ni_T d 176 131 [a0, a1, a2, a3, a4, a5, a6, a7, a8, a9] (.long (u * w) :: st) z h Q := ni_T_p rfl rfl
theorem s176_131 : ni_T d 176 131 [a0, a1, a2, a3, a4, a5, a6, a7, a8, a9] st z h Q = ni_T d 176 134 [a0, a1, a2, a3, a4, a5, a6, a7, a8, a9] (.long 100 :: st) z h Q := ni_T_hse rfl rfl rfl rfl
theorem s176_134 : ni_T d 176 134 [a0, a1, a2, a3, a4, a5, a6, a7, a8, a9] (.long w :: .long u :: st) z h Q = (¬ w = 0 ∧ ni_T d 176 135 [a0, a1, a2, a3, a4, a5, a6, a7, a8, a9] (.long (u / w) :: st) z h Q) := ni_T_ldiv rfl
theorem s176_135 : ni_T d 176 135 [a0, a1, a2, a3, a4, a5, a6, a7, a8, a9] (.long u :: st) z h Q = ni_T d 176 136 [a0, a1, a2, a3, a4, a5, a6, a7, a8, a9] (.int u.toInt32 :: st) z h Q := ni_T_p rfl rfl
theorem s176_136 : ni_T d 176 136 [a0, a1, a2, a3, a4, a5, a6, a7, a8, a9] (.int x :: st) z h Q = ni_T d 176 138 [a0, a1, a2, a3, a4, a5, a6, a7, ni_kl a8, .int x] st z h Q := ni_T_p rfl rfl
theorem s176_138 : ni_T d 176 138 [a0, a1, a2, a3, a4, a5, a6, a7, .int x, a9] st z h Q = ni_T d 176 140 [a0, a1, a2, a3, a4, a5, a6, a7, .int x, a9] (.int x :: st) z h Q := ni_T_p rfl rfl
theorem s176_140 : ni_T d 176 140 [a0, a1, .int x, a3, a4, a5, a6, a7, a8, a9] st z h Q = ni_T d 176 141 [a0, a1, .int x, a3, a4, a5, a6, a7, a8, a9] (.int x :: st) z h Q := ni_T_p rfl rfl
theorem s176_141 : ni_T d 176 141 [a0, a1, a2, a3, a4, a5, a6, a7, a8, a9] (.int y :: .int x :: st) z h Q = if x = y then ni_T d 176 144 [a0, a1, a2, a3, a4, a5, a6, a7, a8, a9] st z h Q else ni_T d 176 151 [a0, a1, a2, a3, a4, a5, a6, a7, a8, a9] st z h Q := ni_T_b rfl rfl
theorem s176_144 : ni_T d 176 144 [a0, a1, a2, a3, a4, a5, .int x, a7, a8, a9] st z h Q = ni_T d 176 146 [a0, a1, a2, a3, a4, a5, .int x, a7, a8, a9] (.int x :: st) z h Q := ni_T_p rfl rfl
theorem s176_146 : ni_T d 176 146 [a0, a1, a2, a3, a4, a5, a6, a7, a8, .int x] st z h Q = ni_T d 176 148 [a0, a1, a2, a3, a4, a5, a6, a7, a8, .int x] (.int x :: st) z h Q := ni_T_p rfl rfl
theorem s176_148 : ni_T d 176 148 [a0, a1, a2, a3, a4, a5, a6, a7, a8, a9] (.int y :: .int x :: st) z h Q = ni_T d 176 149 [a0, a1, a2, a3, a4, a5, a6, a7, a8, a9] (.int (x + y) :: st) z h Q := ni_T_p rfl rfl
theorem s176_149 : ni_T d 176 149 [a0, a1, a2, a3, a4, a5, a6, a7, a8, a9] (.int x :: st) z h Q = ni_T d 176 151 [a0, a1, a2, a3, a4, ni_kl a5, .int x, a7, a8, a9] st z h Q := ni_T_p rfl rfl
theorem s176_151 : ni_T d 176 151 [a0, a1, a2, a3, a4, .int x, a6, a7, a8, a9] st z h Q = ni_T d 176 153 [a0, a1, a2, a3, a4, .int x, a6, a7, a8, a9] (.int x :: st) z h Q := ni_T_p rfl rfl
theorem s176_153 : ni_T d 176 153 [a0, a1, a2, a3, a4, a5, a6, a7, a8, .int x] st z h Q = ni_T d 176 155 [a0, a1, a2, a3, a4, a5, a6, a7, a8, .int x] (.int x :: st) z h Q := ni_T_p rfl rfl
theorem s176_155 : ni_T d 176 155 [a0, a1, a2, a3, a4, a5, a6, a7, a8, a9] (.int y :: .int x :: st) z h Q = ni_T d 176 156 [a0, a1, a2, a3, a4, a5, a6, a7, a8, a9] (.int (x - y) :: st) z h Q := ni_T_p rfl rfl
theorem s176_156 : ni_T d 176 156 [a0, a1, a2, a3, a4, a5, a6, a7, a8, a9] (.int x :: st) z h Q = ni_T d 176 158 [a0, a1, a2, a3, ni_kl a4, .int x, a6, a7, a8, a9] st z h Q := ni_T_p rfl rfl
theorem s176_158 : ni_T d 176 158 [a0, a1, a2, a3, a4, a5, a6, .int x, a8, a9] st z h Q = ni_T d 176 161 [a0, a1, a2, a3, a4, a5, ni_kl a6, .int (x + 1), a8, a9] st z h Q := ni_T_p rfl rfl
theorem s176_161 : ni_T d 176 161 [a0, a1, a2, a3, a4, a5, a6, a7, a8, a9] st z h Q = ni_T d 176 99 [a0, a1, a2, a3, a4, a5, a6, a7, a8, a9] st z h Q := ni_T_p rfl rfl
theorem s176_164 : ni_T d 176 164 [a0, a1, a2, a3, a4, a5, .int x, a7, a8, a9] st z h Q = ni_T d 176 166 [a0, a1, a2, a3, a4, a5, .int x, a7, a8, a9] (.int x :: st) z h Q := ni_T_p rfl rfl
theorem s176_166 : ni_T d 176 166 [a0, a1, a2, a3, a4, a5, a6, a7, a8, a9] [.int x] z h Q = Q (some (.int x)) z h := ni_T_i rfl rfl
theorem s177_0 : ni_T d 177 0 [.ref o, a1, a2, a3, a4, a5] st z h Q = ni_T d 177 1 [.ref o, a1, a2, a3, a4, a5] (.ref o :: st) z h Q := ni_T_p rfl rfl
theorem s177_1 : ni_T d 177 1 [a0, .int x, a2, a3, a4, a5] st z h Q = ni_T d 177 2 [a0, .int x, a2, a3, a4, a5] (.int x :: st) z h Q := ni_T_p rfl rfl
theorem s177_2 : ni_T (d + 1) 177 2 [a0, a1, a2, a3, a4, a5] (.int x0 :: .ref o :: st) z h Q = (ni_rc (h o) 7 = true ∧ Nat.ble (ni_sw st) 8 = true ∧ ni_T d 132 0 [.ref o, .int x0] [] z h (ni_K (d + 1) 177 5 [a0, a1, a2, a3, a4, a5] st z Q)) := ni_T_ce [.ref o, .int x0] rfl rfl rfl rfl rfl rfl rfl rfl rfl
theorem s177_5 : ni_T d 177 5 [a0, a1, a2, a3, a4, a5] (.int x :: st) z h Q = ni_T d 177 6 [a0, a1, ni_kl a2, .int x, a4, a5] st z h Q := ni_T_p rfl rfl
theorem s177_6 : ni_T d 177 6 [a0, a1, a2, .int x, a4, a5] st z h Q = ni_T d 177 7 [a0, a1, a2, .int x, a4, a5] (.int x :: st) z h Q := ni_T_p rfl rfl
theorem s177_7 : ni_T d 177 7 [a0, a1, a2, a3, a4, a5] (.int x :: st) z h Q = if x = 0 then ni_T d 177 10 [a0, a1, a2, a3, a4, a5] st z h Q else ni_T d 177 33 [a0, a1, a2, a3, a4, a5] st z h Q := ni_T_b rfl rfl
theorem s177_10 : ni_T d 177 10 [.ref o, a1, a2, a3, a4, a5] st z h Q = ni_T d 177 11 [.ref o, a1, a2, a3, a4, a5] (.ref o :: st) z h Q := ni_T_p rfl rfl
theorem s177_11 : ni_T d 177 11 [a0, a1, a2, a3, a4, a5] (.ref o :: st) z h Q = (ni_is (h o) 7 0 = true ∧ ni_T d 177 14 [a0, a1, a2, a3, a4, a5] (ni_gv (h o) 0 :: st) z h Q) := ni_T_getf rfl
theorem s177_14 : ni_T d 177 14 [a0, a1, a2, a3, a4, a5] (.int x :: st) z h Q = if x = 0 then ni_T d 177 30 [a0, a1, a2, a3, a4, a5] st z h Q else ni_T d 177 17 [a0, a1, a2, a3, a4, a5] st z h Q := ni_T_b rfl rfl
theorem s177_17 : ni_T d 177 17 [.ref o, a1, a2, a3, a4, a5] st z h Q = ni_T d 177 18 [.ref o, a1, a2, a3, a4, a5] (.ref o :: st) z h Q := ni_T_p rfl rfl
theorem s177_18 : ni_T d 177 18 [a0, a1, a2, a3, a4, a5] (.ref o :: st) z h Q = (ni_is (h o) 7 0 = true ∧ ni_T d 177 21 [a0, a1, a2, a3, a4, a5] (ni_gv (h o) 0 :: st) z h Q) := ni_T_getf rfl
theorem s177_21 : ni_T d 177 21 [.ref o, a1, a2, a3, a4, a5] st z h Q = ni_T d 177 22 [.ref o, a1, a2, a3, a4, a5] (.ref o :: st) z h Q := ni_T_p rfl rfl
theorem s177_22 : ni_T d 177 22 [a0, a1, a2, a3, a4, a5] (.ref o :: st) z h Q = (ni_is (h o) 7 14 = true ∧ ni_T d 177 25 [a0, a1, a2, a3, a4, a5] (ni_gv (h o) 14 :: st) z h Q) := ni_T_getf rfl
theorem s177_25 : ni_T d 177 25 [a0, .int x, a2, a3, a4, a5] st z h Q = ni_T d 177 26 [a0, .int x, a2, a3, a4, a5] (.int x :: st) z h Q := ni_T_p rfl rfl
theorem s177_26 : ni_T d 177 26 [a0, a1, a2, a3, a4, a5] (.int x :: .ref o :: st) z h Q = (ni_okI (h o) x = true ∧ ni_T d 177 27 [a0, a1, a2, a3, a4, a5] (.int (ni_gi (h o) x) :: st) z h Q) := ni_T_iald rfl
theorem s177_27 : ni_T d 177 27 [a0, a1, a2, a3, a4, a5] (.int y :: .int x :: st) z h Q = if x ≤ y then ni_T d 177 33 [a0, a1, a2, a3, a4, a5] st z h Q else ni_T d 177 30 [a0, a1, a2, a3, a4, a5] st z h Q := ni_T_b rfl rfl
theorem s177_30 : ni_T d 177 30 [a0, a1, a2, a3, a4, a5] st z h Q = ni_T d 177 32 [a0, a1, a2, a3, a4, a5] (.int (-5) :: st) z h Q := ni_T_p rfl rfl
theorem s177_32 : ni_T d 177 32 [a0, a1, a2, a3, a4, a5] (.int x :: st) z h Q = ni_T d 177 33 [a0, a1, ni_kl a2, .int x, a4, a5] st z h Q := ni_T_p rfl rfl
theorem s177_33 : ni_T d 177 33 [a0, a1, a2, .int x, a4, a5] st z h Q = ni_T d 177 34 [a0, a1, a2, .int x, a4, a5] (.int x :: st) z h Q := ni_T_p rfl rfl
theorem s177_34 : ni_T d 177 34 [a0, a1, a2, a3, a4, a5] (.int x :: st) z h Q = if x = 0 then ni_T d 177 37 [a0, a1, a2, a3, a4, a5] st z h Q else ni_T d 177 58 [a0, a1, a2, a3, a4, a5] st z h Q := ni_T_b rfl rfl
theorem s177_37 : ni_T d 177 37 [a0, a1, .int x, a3, a4, a5] st z h Q = ni_T d 177 38 [a0, a1, .int x, a3, a4, a5] (.int x :: st) z h Q := ni_T_p rfl rfl
theorem s177_38 : ni_T d 177 38 [a0, a1, a2, a3, a4, a5] (.int x :: st) z h Q = if x < 0 then ni_T d 177 55 [a0, a1, a2, a3, a4, a5] st z h Q else ni_T d 177 41 [a0, a1, a2, a3, a4, a5] st z h Q := ni_T_b rfl rfl
theorem s177_41 : ni_T d 177 41 [a0, a1, .int x, a3, a4, a5] st z h Q = ni_T d 177 42 [a0, a1, .int x, a3, a4, a5] (.int x :: st) z h Q := ni_T_p rfl rfl
theorem s177_42 : ni_T d 177 42 [a0, a1, a2, a3, a4, a5] st z h Q = ni_T d 177 44 [a0, a1, a2, a3, a4, a5] (.int 1000000 :: st) z h Q := ni_T_hse rfl rfl rfl rfl
theorem s177_44 : ni_T d 177 44 [a0, a1, a2, a3, a4, a5] (.int y :: .int x :: st) z h Q = if y < x then ni_T d 177 55 [a0, a1, a2, a3, a4, a5] st z h Q else ni_T d 177 47 [a0, a1, a2, a3, a4, a5] st z h Q := ni_T_b rfl rfl
theorem s177_47 : ni_T d 177 47 [.ref o, a1, a2, a3, a4, a5] st z h Q = ni_T d 177 48 [.ref o, a1, a2, a3, a4, a5] (.ref o :: st) z h Q := ni_T_p rfl rfl
theorem s177_48 : ni_T d 177 48 [a0, .int x, a2, a3, a4, a5] st z h Q = ni_T d 177 49 [a0, .int x, a2, a3, a4, a5] (.int x :: st) z h Q := ni_T_p rfl rfl
theorem s177_49 : ni_T (d + 1) 177 49 [a0, a1, a2, a3, a4, a5] (.int x0 :: .ref o :: st) z h Q = (ni_rc (h o) 7 = true ∧ Nat.ble (ni_sw st) 8 = true ∧ ni_T d 175 0 [.ref o, .int x0, .retAddr 0] [] z h (ni_K (d + 1) 177 52 [a0, a1, a2, a3, a4, a5] st z Q)) := ni_T_ce [.ref o, .int x0] rfl rfl rfl rfl rfl rfl rfl rfl rfl
theorem s177_52 : ni_T d 177 52 [a0, a1, a2, a3, a4, a5] (.int x :: st) z h Q = if x = 0 then ni_T d 177 55 [a0, a1, a2, a3, a4, a5] st z h Q else ni_T d 177 58 [a0, a1, a2, a3, a4, a5] st z h Q := ni_T_b rfl rfl
theorem s177_55 : ni_T d 177 55 [a0, a1, a2, a3, a4, a5] st z h Q = ni_T d 177 57 [a0, a1, a2, a3, a4, a5] (.int (-6) :: st) z h Q := ni_T_p rfl rfl
theorem s177_57 : ni_T d 177 57 [a0, a1, a2, a3, a4, a5] (.int x :: st) z h Q = ni_T d 177 58 [a0, a1, ni_kl a2, .int x, a4, a5] st z h Q := ni_T_p rfl rfl
theorem s177_58 : ni_T d 177 58 [a0, a1, a2, .int x, a4, a5] st z h Q = ni_T d 177 59 [a0, a1, a2, .int x, a4, a5] (.int x :: st) z h Q := ni_T_p rfl rfl
theorem s177_59 : ni_T d 177 59 [a0, a1, a2, a3, a4, a5] (.int x :: st) z h Q = if x = 0 then ni_T d 177 68 [a0, a1, a2, a3, a4, a5] st z h Q else ni_T d 177 62 [a0, a1, a2, a3, a4, a5] st z h Q := ni_T_b rfl rfl
theorem s177_62 : ni_T d 177 62 [.ref o, a1, a2, a3, a4, a5] st z h Q = ni_T d 177 63 [.ref o, a1, a2, a3, a4, a5] (.ref o :: st) z h Q := ni_T_p rfl rfl
theorem s177_63 : ni_T d 177 63 [a0, a1, a2, .int x, a4, a5] st z h Q = ni_T d 177 64 [a0, a1, a2, .int x, a4, a5] (.int x :: st) z h Q := ni_T_p rfl rfl
theorem s177_64 : ni_T (d + 1) 177 64 [a0, a1, a2, a3, a4, a5] (.int x0 :: .ref o :: st) z h Q = (ni_rc (h o) 7 = true ∧ Nat.ble (ni_sw st) 8 = true ∧ ni_T d 121 0 [.ref o, .int x0] [] z h (ni_K (d + 1) 177 67 [a0, a1, a2, a3, a4, a5] st z Q)) := ni_T_ce [.ref o, .int x0] rfl rfl rfl rfl rfl rfl rfl rfl rfl
theorem s177_67 : ni_T d 177 67 [a0, a1, a2, a3, a4, a5] [.int x] z h Q = Q (some (.int x)) z h := ni_T_i rfl rfl
theorem s177_68 : ni_T d 177 68 [a0, a1, a2, a3, a4, a5] st z h Q = ni_T d 177 70 [a0, a1, a2, a3, a4, a5] (.int 1000000 :: st) z h Q := ni_T_hse rfl rfl rfl rfl
theorem s177_70 : ni_T d 177 70 [a0, a1, a2, a3, a4, a5] (.int x :: st) z h Q = ni_T d 177 72 [a0, a1, a2, ni_kl a3, .int x, a5] st z h Q := ni_T_p rfl rfl
theorem s177_72 : ni_T d 177 72 [a0, a1, a2, a3, a4, a5] st z h Q = ni_T d 177 73 [a0, a1, a2, a3, a4, a5] (.int 0 :: st) z h Q := ni_T_p rfl rfl
theorem s177_73 : ni_T d 177 73 [a0, a1, a2, a3, a4, a5] (.int x :: st) z h Q = ni_T d 177 75 [a0, a1, a2, a3, ni_kl a4, .int x] st z h Q := ni_T_p rfl rfl
theorem s177_75 : ni_T d 177 75 [a0, a1, a2, a3, a4, .int x] st z h Q = ni_T d 177 77 [a0, a1, a2, a3, a4, .int x] (.int x :: st) z h Q := ni_T_p rfl rfl
theorem s177_77 : ni_T d 177 77 [a0, a1, a2, a3, a4, a5] st z h Q = ni_T d 177 80 [a0, a1, a2, a3, a4, a5] (.int 1000 :: st) z h Q := ni_T_p rfl rfl
theorem s177_80 : ni_T d 177 80 [a0, a1, a2, a3, a4, a5] (.int y :: .int x :: st) z h Q = if y < x then ni_T d 177 130 [a0, a1, a2, a3, a4, a5] st z h Q else ni_T d 177 83 [a0, a1, a2, a3, a4, a5] st z h Q := ni_T_b rfl rfl
theorem s177_83 : ni_T d 177 83 [a0, a1, a2, a3, .int x, a5] st z h Q = ni_T d 177 85 [a0, a1, a2, a3, .int x, a5] (.int x :: st) z h Q := ni_T_p rfl rfl
theorem s177_85 : ni_T d 177 85 [a0, a1, .int x, a3, a4, a5] st z h Q = ni_T d 177 86 [a0, a1, .int x, a3, a4, a5] (.int x :: st) z h Q := ni_T_p rfl rfl
theorem s177_86 : ni_T d 177 86 [a0, a1, a2, a3, a4, a5] (.int y :: .int x :: st) z h Q = if y < x then ni_T d 177 92 [a0, a1, a2, a3, a4, a5] st z h Q else ni_T d 177 89 [a0, a1, a2, a3, a4, a5] st z h Q := ni_T_b rfl rfl
theorem s177_89 : ni_T d 177 89 [a0, a1, a2, a3, a4, .int x] st z h Q = ni_T d 177 91 [a0, a1, a2, a3, a4, .int x] (.int x :: st) z h Q := ni_T_p rfl rfl
theorem s177_91 : ni_T d 177 91 [a0, a1, a2, a3, a4, a5] [.int x] z h Q = Q (some (.int x)) z h := ni_T_i rfl rfl
theorem s177_92 : ni_T d 177 92 [a0, a1, a2, a3, .int x, a5] st z h Q = ni_T d 177 94 [a0, a1, a2, a3, .int x, a5] (.int x :: st) z h Q := ni_T_p rfl rfl
theorem s177_94 : ni_T d 177 94 [a0, a1, a2, a3, .int x, a5] st z h Q = ni_T d 177 96 [a0, a1, a2, a3, .int x, a5] (.int x :: st) z h Q := ni_T_p rfl rfl
theorem s177_96 : ni_T d 177 96 [a0, a1, a2, a3, a4, a5] (.int x :: st) z h Q = ni_T d 177 97 [a0, a1, a2, a3, a4, a5] (.long x.toInt64 :: st) z h Q := ni_T_p rfl rfl
theorem s177_97 : ni_T d 177 97 [.ref o, a1, a2, a3, a4, a5] st z h Q = ni_T d 177 98 [.ref o, a1, a2, a3, a4, a5] (.ref o :: st) z h Q := ni_T_p rfl rfl
theorem s177_98 : ni_T d 177 98 [a0, .int x, a2, a3, a4, a5] st z h Q = ni_T d 177 99 [a0, .int x, a2, a3, a4, a5] (.int x :: st) z h Q := ni_T_p rfl rfl
theorem s177_99 : ni_T d 177 99 [.ref o, a1, a2, a3, a4, a5] st z h Q = ni_T d 177 100 [.ref o, a1, a2, a3, a4, a5] (.ref o :: st) z h Q := ni_T_p rfl rfl
theorem s177_100 : ni_T d 177 100 [a0, a1, a2, a3, a4, a5] (.ref o :: st) z h Q = (ni_is (h o) 7 1 = true ∧ ni_T d 177 103 [a0, a1, a2, a3, a4, a5] (ni_gv (h o) 1 :: st) z h Q) := ni_T_getf rfl
theorem s177_103 : ni_T d 177 103 [a0, a1, a2, a3, a4, .int x] st z h Q = ni_T d 177 105 [a0, a1, a2, a3, a4, .int x] (.int x :: st) z h Q := ni_T_p rfl rfl
theorem s177_105 : ni_T d 177 105 [a0, a1, a2, a3, a4, a5] (.int y :: .int x :: st) z h Q = ni_T d 177 106 [a0, a1, a2, a3, a4, a5] (.int (x + y) :: st) z h Q := ni_T_p rfl rfl
theorem s177_106 : ni_T d 177 106 [.ref o, a1, a2, a3, a4, a5] st z h Q = ni_T d 177 107 [.ref o, a1, a2, a3, a4, a5] (.ref o :: st) z h Q := ni_T_p rfl rfl
theorem s177_107 : ni_T d 177 107 [a0, a1, a2, a3, a4, a5] (.ref o :: st) z h Q = (ni_is (h o) 7 0 = true ∧ ni_T d 177 110 [a0, a1, a2, a3, a4, a5] (ni_gv (h o) 0 :: st) z h Q) := ni_T_getf rfl
theorem s177_110 : ni_T d 177 110 [a0, a1, a2, a3, a4, a5] (.int y :: .int x :: st) z h Q = (¬ y = 0 ∧ ni_T d 177 111 [a0, a1, a2, a3, a4, a5] (.int (x - x / y * y) :: st) z h Q) := ni_T_irem rfl
theorem s177_111 : ni_T (d + 1) 177 111 [a0, a1, a2, a3, a4, a5] (.int x1 :: .int x0 :: .ref o :: st) z h Q = (ni_rc (h o) 7 = true ∧ Nat.ble (ni_sw st) 8 = true ∧ ni_T d 133 0 [.ref o, .int x0, .int x1] [] z h (ni_K (d + 1) 177 114 [a0, a1, a2, a3, a4, a5] st z Q)) := ni_T_ce [.ref o, .int x0, .int x1] rfl rfl rfl rfl rfl rfl rfl rfl rfl
theorem s177_114 : ni_T d 177 114 [a0, a1, a2, a3, a4, a5] (.int x :: st) z h Q = ni_T d 177 115 [a0, a1, a2, a3, a4, a5] (.long x.toInt64 :: st) z h Q := ni_T_p rfl rfl
theorem s177_115 : ni_T d 177 115 [a0, a1, a2, a3, a4, a5] (.long w :: .long u :: st) z h Q = ni_T d 177 116 [a0, a1, a2, a3, a4, a5] (.long (u * w) :: st) z h Q := ni_T_p rfl rfl
theorem s177_116 : ni_T d 177 116 [a0, a1, a2, a3, a4, a5] st z h Q = ni_T d 177 119 [a0, a1, a2, a3, a4, a5] (.long 100 :: st) z h Q := ni_T_hse rfl rfl rfl rfl
theorem s177_119 : ni_T d 177 119 [a0, a1, a2, a3, a4, a5] (.long w :: .long u :: st) z h Q = (¬ w = 0 ∧ ni_T d 177 120 [a0, a1, a2, a3, a4, a5] (.long (u / w) :: st) z h Q) := ni_T_ldiv rfl
theorem s177_120 : ni_T d 177 120 [a0, a1, a2, a3, a4, a5] (.long u :: st) z h Q = ni_T d 177 121 [a0, a1, a2, a3, a4, a5] (.int u.toInt32 :: st) z h Q := ni_T_p rfl rfl
theorem s177_121 : ni_T d 177 121 [a0, a1, a2, a3, a4, a5] (.int y :: .int x :: st) z h Q = ni_T d 177 122 [a0, a1, a2, a3, a4, a5] (.int (x - y) :: st) z h Q := ni_T_p rfl rfl
theorem s177_122 : ni_T d 177 122 [a0, a1, a2, a3, a4, a5] (.int x :: st) z h Q = ni_T d 177 124 [a0, a1, a2, ni_kl a3, .int x, a5] st z h Q := ni_T_p rfl rfl
theorem s177_124 : ni_T d 177 124 [a0, a1, a2, a3, a4, .int x] st z h Q = ni_T d 177 127 [a0, a1, a2, a3, ni_kl a4, .int (x + 1)] st z h Q := ni_T_p rfl rfl
theorem s177_127 : ni_T d 177 127 [a0, a1, a2, a3, a4, a5] st z h Q = ni_T d 177 75 [a0, a1, a2, a3, a4, a5] st z h Q := ni_T_p rfl rfl
theorem s177_130 : ni_T d 177 130 [a0, a1, a2, a3, a4, a5] st z h Q = ni_T d 177 131 [a0, a1, a2, a3, a4, a5] (.int (-1) :: st) z h Q := ni_T_p rfl rfl
theorem s177_131 : ni_T d 177 131 [a0, a1, a2, a3, a4, a5] [.int x] z h Q = Q (some (.int x)) z h := ni_T_i rfl rfl
theorem s178_0 : ni_T d 178 0 [a0, a1, a2, a3, a4, a5] st z h Q = ni_T d 178 2 [a0, a1, a2, a3, a4, a5] (.int 6 :: st) z h Q := ni_T_p rfl rfl
theorem s178_2 : ni_T d 178 2 [a0, a1, a2, a3, a4, a5] (.int x :: st) z h Q = ni_T d 178 3 [ni_kl a0, .int x, a2, a3, a4, a5] st z h Q := ni_T_p rfl rfl
theorem s178_3 : ni_T d 178 3 [a0, a1, a2, a3, a4, a5] st z h Q = ni_T d 178 5 [a0, a1, a2, a3, a4, a5] (.int 6 :: st) z h Q := ni_T_p rfl rfl
theorem s178_5 : ni_T d 178 5 [a0, a1, a2, a3, a4, a5] (.int x :: st) z h Q = ni_T d 178 6 [a0, ni_kl a1, .int x, a3, a4, a5] st z h Q := ni_T_p rfl rfl
theorem s178_6 : ni_T d 178 6 [a0, a1, a2, a3, a4, a5] st z h Q = ni_T d 178 7 [a0, a1, a2, a3, a4, a5] (.int 0 :: st) z h Q := ni_T_p rfl rfl
theorem s178_7 : ni_T d 178 7 [a0, a1, a2, a3, a4, a5] (.int x :: st) z h Q = ni_T d 178 8 [a0, a1, ni_kl a2, .int x, a4, a5] st z h Q := ni_T_p rfl rfl
theorem s178_8 : ni_T d 178 8 [a0, a1, a2, .int x, a4, a5] st z h Q = ni_T d 178 9 [a0, a1, a2, .int x, a4, a5] (.int x :: st) z h Q := ni_T_p rfl rfl
theorem s178_9 : ni_T d 178 9 [a0, a1, a2, a3, a4, a5] st z h Q = ni_T d 178 10 [a0, a1, a2, a3, a4, a5] (.int 5 :: st) z h Q := ni_T_p rfl rfl
theorem s178_10 : ni_T d 178 10 [a0, a1, a2, a3, a4, a5] (.int y :: .int x :: st) z h Q = if y ≤ x then ni_T d 178 86 [a0, a1, a2, a3, a4, a5] st z h Q else ni_T d 178 13 [a0, a1, a2, a3, a4, a5] st z h Q := ni_T_b rfl rfl
theorem s178_13 : ni_T d 178 13 [.ref o, a1, a2, a3, a4, a5] st z h Q = ni_T d 178 14 [.ref o, a1, a2, a3, a4, a5] (.ref o :: st) z h Q := ni_T_p rfl rfl
theorem s178_14 : ni_T d 178 14 [a0, a1, a2, a3, a4, a5] (.ref o :: st) z h Q = (ni_is (h o) 7 11 = true ∧ ni_T d 178 17 [a0, a1, a2, a3, a4, a5] (ni_gv (h o) 11 :: st) z h Q) := ni_T_getf rfl
theorem s178_17 : ni_T d 178 17 [a0, a1, a2, .int x, a4, a5] st z h Q = ni_T d 178 18 [a0, a1, a2, .int x, a4, a5] (.int x :: st) z h Q := ni_T_p rfl rfl
theorem s178_18 : ni_T d 178 18 [a0, a1, a2, a3, a4, a5] (.int x :: .ref o :: st) z h Q = (ni_okI (h o) x = true ∧ ni_T d 178 19 [a0, a1, a2, a3, a4, a5] (.int (ni_gi (h o) x) :: st) z h Q) := ni_T_iald rfl
theorem s178_19 : ni_T d 178 19 [a0, a1, a2, a3, a4, a5] st z h Q = ni_T d 178 20 [a0, a1, a2, a3, a4, a5] (.int (-1) :: st) z h Q := ni_T_p rfl rfl
theorem s178_20 : ni_T d 178 20 [a0, a1, a2, a3, a4, a5] (.int y :: .int x :: st) z h Q = if x = y then ni_T d 178 23 [a0, a1, a2, a3, a4, a5] st z h Q else ni_T d 178 26 [a0, a1, a2, a3, a4, a5] st z h Q := ni_T_b rfl rfl
theorem s178_23 : ni_T d 178 23 [a0, a1, a2, a3, a4, a5] st z h Q = ni_T d 178 80 [a0, a1, a2, a3, a4, a5] st z h Q := ni_T_p rfl rfl
theorem s178_26 : ni_T d 178 26 [.ref o, a1, a2, a3, a4, a5] st z h Q = ni_T d 178 27 [.ref o, a1, a2, a3, a4, a5] (.ref o :: st) z h Q := ni_T_p rfl rfl
theorem s178_27 : ni_T d 178 27 [a0, a1, a2, a3, a4, a5] (.ref o :: st) z h Q = (ni_is (h o) 7 11 = true ∧ ni_T d 178 30 [a0, a1, a2, a3, a4, a5] (ni_gv (h o) 11 :: st) z h Q) := ni_T_getf rfl
theorem s178_30 : ni_T d 178 30 [a0, a1, a2, .int x, a4, a5] st z h Q = ni_T d 178 31 [a0, a1, a2, .int x, a4, a5] (.int x :: st) z h Q := ni_T_p rfl rfl
theorem s178_31 : ni_T d 178 31 [a0, a1, a2, a3, a4, a5] (.int x :: .ref o :: st) z h Q = (ni_okI (h o) x = true ∧ ni_T d 178 32 [a0, a1, a2, a3, a4, a5] (.int (ni_gi (h o) x) :: st) z h Q) := ni_T_iald rfl
theorem s178_32 : ni_T d 178 32 [a0, a1, a2, a3, a4, a5] st z h Q = ni_T d 178 34 [a0, a1, a2, a3, a4, a5] (.int 6 :: st) z h Q := ni_T_p rfl rfl
theorem s178_34 : ni_T d 178 34 [a0, a1, a2, a3, a4, a5] (.int y :: .int x :: st) z h Q = (¬ y = 0 ∧ ni_T d 178 35 [a0, a1, a2, a3, a4, a5] (.int (x / y) :: st) z h Q) := ni_T_idiv rfl
theorem s178_35 : ni_T d 178 35 [a0, .int x, a2, a3, a4, a5] st z h Q = ni_T d 178 36 [a0, .int x, a2, a3, a4, a5] (.int x :: st) z h Q := ni_T_p rfl rfl
theorem s178_36 : ni_T d 178 36 [a0, a1, a2, a3, a4, a5] (.int y :: .int x :: st) z h Q = if y ≤ x then ni_T d 178 51 [a0, a1, a2, a3, a4, a5] st z h Q else ni_T d 178 39 [a0, a1, a2, a3, a4, a5] st z h Q := ni_T_b rfl rfl
theorem s178_39 : ni_T d 178 39 [.ref o, a1, a2, a3, a4, a5] st z h Q = ni_T d 178 40 [.ref o, a1, a2, a3, a4, a5] (.ref o :: st) z h Q := ni_T_p rfl rfl
theorem s178_40 : ni_T d 178 40 [a0, a1, a2, a3, a4, a5] (.ref o :: st) z h Q = (ni_is (h o) 7 11 = true ∧ ni_T d 178 43 [a0, a1, a2, a3, a4, a5] (ni_gv (h o) 11 :: st) z h Q) := ni_T_getf rfl
theorem s178_43 : ni_T d 178 43 [a0, a1, a2, .int x, a4, a5] st z h Q = ni_T d 178 44 [a0, a1, a2, .int x, a4, a5] (.int x :: st) z h Q := ni_T_p rfl rfl
theorem s178_44 : ni_T d 178 44 [a0, a1, a2, a3, a4, a5] (.int x :: .ref o :: st) z h Q = (ni_okI (h o) x = true ∧ ni_T d 178 45 [a0, a1, a2, a3, a4, a5] (.int (ni_gi (h o) x) :: st) z h Q) := ni_T_iald rfl
theorem s178_45 : ni_T d 178 45 [a0, a1, a2, a3, a4, a5] st z h Q = ni_T d 178 47 [a0, a1, a2, a3, a4, a5] (.int 6 :: st) z h Q := ni_T_p rfl rfl
theorem s178_47 : ni_T d 178 47 [a0, a1, a2, a3, a4, a5] (.int y :: .int x :: st) z h Q = (¬ y = 0 ∧ ni_T d 178 48 [a0, a1, a2, a3, a4, a5] (.int (x / y) :: st) z h Q) := ni_T_idiv rfl
theorem s178_48 : ni_T d 178 48 [a0, a1, a2, a3, a4, a5] st z h Q = ni_T d 178 52 [a0, a1, a2, a3, a4, a5] st z h Q := ni_T_p rfl rfl
theorem s178_51 : ni_T d 178 51 [a0, .int x, a2, a3, a4, a5] st z h Q = ni_T d 178 52 [a0, .int x, a2, a3, a4, a5] (.int x :: st) z h Q := ni_T_p rfl rfl
theorem s178_52 : ni_T d 178 52 [a0, a1, a2, a3, a4, a5] (.int x :: st) z h Q = ni_T d 178 53 [ni_kl a0, .int x, a2, a3, a4, a5] st z h Q := ni_T_p rfl rfl
theorem s178_53 : ni_T d 178 53 [.ref o, a1, a2, a3, a4, a5] st z h Q = ni_T d 178 54 [.ref o, a1, a2, a3, a4, a5] (.ref o :: st) z h Q := ni_T_p rfl rfl
theorem s178_54 : ni_T d 178 54 [a0, a1, a2, a3, a4, a5] (.ref o :: st) z h Q = (ni_is (h o) 7 11 = true ∧ ni_T d 178 57 [a0, a1, a2, a3, a4, a5] (ni_gv (h o) 11 :: st) z h Q) := ni_T_getf rfl
theorem s178_57 : ni_T d 178 57 [a0, a1, a2, .int x, a4, a5] st z h Q = ni_T d 178 58 [a0, a1, a2, .int x, a4, a5] (.int x :: st) z h Q := ni_T_p rfl rfl
theorem s178_58 : ni_T d 178 58 [a0, a1, a2, a3, a4, a5] (.int x :: .ref o :: st) z h Q = (ni_okI (h o) x = true ∧ ni_T d 178 59 [a0, a1, a2, a3, a4, a5] (.int (ni_gi (h o) x) :: st) z h Q) := ni_T_iald rfl
theorem s178_59 : ni_T d 178 59 [a0, a1, a2, a3, a4, a5] st z h Q = ni_T d 178 61 [a0, a1, a2, a3, a4, a5] (.int 6 :: st) z h Q := ni_T_p rfl rfl
theorem s178_61 : ni_T d 178 61 [a0, a1, a2, a3, a4, a5] (.int y :: .int x :: st) z h Q = (¬ y = 0 ∧ ni_T d 178 62 [a0, a1, a2, a3, a4, a5] (.int (x - x / y * y) :: st) z h Q) := ni_T_irem rfl
theorem s178_62 : ni_T d 178 62 [a0, a1, .int x, a3, a4, a5] st z h Q = ni_T d 178 63 [a0, a1, .int x, a3, a4, a5] (.int x :: st) z h Q := ni_T_p rfl rfl
theorem s178_63 : ni_T d 178 63 [a0, a1, a2, a3, a4, a5] (.int y :: .int x :: st) z h Q = if y ≤ x then ni_T d 178 78 [a0, a1, a2, a3, a4, a5] st z h Q else ni_T d 178 66 [a0, a1, a2, a3, a4, a5] st z h Q := ni_T_b rfl rfl
theorem s178_66 : ni_T d 178 66 [.ref o, a1, a2, a3, a4, a5] st z h Q = ni_T d 178 67 [.ref o, a1, a2, a3, a4, a5] (.ref o :: st) z h Q := ni_T_p rfl rfl
theorem s178_67 : ni_T d 178 67 [a0, a1, a2, a3, a4, a5] (.ref o :: st) z h Q = (ni_is (h o) 7 11 = true ∧ ni_T d 178 70 [a0, a1, a2, a3, a4, a5] (ni_gv (h o) 11 :: st) z h Q) := ni_T_getf rfl
theorem s178_70 : ni_T d 178 70 [a0, a1, a2, .int x, a4, a5] st z h Q = ni_T d 178 71 [a0, a1, a2, .int x, a4, a5] (.int x :: st) z h Q := ni_T_p rfl rfl
theorem s178_71 : ni_T d 178 71 [a0, a1, a2, a3, a4, a5] (.int x :: .ref o :: st) z h Q = (ni_okI (h o) x = true ∧ ni_T d 178 72 [a0, a1, a2, a3, a4, a5] (.int (ni_gi (h o) x) :: st) z h Q) := ni_T_iald rfl
theorem s178_72 : ni_T d 178 72 [a0, a1, a2, a3, a4, a5] st z h Q = ni_T d 178 74 [a0, a1, a2, a3, a4, a5] (.int 6 :: st) z h Q := ni_T_p rfl rfl
theorem s178_74 : ni_T d 178 74 [a0, a1, a2, a3, a4, a5] (.int y :: .int x :: st) z h Q = (¬ y = 0 ∧ ni_T d 178 75 [a0, a1, a2, a3, a4, a5] (.int (x - x / y * y) :: st) z h Q) := ni_T_irem rfl
theorem s178_75 : ni_T d 178 75 [a0, a1, a2, a3, a4, a5] st z h Q = ni_T d 178 79 [a0, a1, a2, a3, a4, a5] st z h Q := ni_T_p rfl rfl
theorem s178_78 : ni_T d 178 78 [a0, a1, .int x, a3, a4, a5] st z h Q = ni_T d 178 79 [a0, a1, .int x, a3, a4, a5] (.int x :: st) z h Q := ni_T_p rfl rfl
theorem s178_79 : ni_T d 178 79 [a0, a1, a2, a3, a4, a5] (.int x :: st) z h Q = ni_T d 178 80 [a0, ni_kl a1, .int x, a3, a4, a5] st z h Q := ni_T_p rfl rfl
theorem s178_80 : ni_T d 178 80 [a0, a1, a2, .int x, a4, a5] st z h Q = ni_T d 178 83 [a0, a1, ni_kl a2, .int (x + 1), a4, a5] st z h Q := ni_T_p rfl rfl
theorem s178_83 : ni_T d 178 83 [a0, a1, a2, a3, a4, a5] st z h Q = ni_T d 178 8 [a0, a1, a2, a3, a4, a5] st z h Q := ni_T_p rfl rfl
theorem s178_86 : ni_T d 178 86 [a0, a1, a2, a3, a4, a5] st z h Q = ni_T d 178 87 [a0, a1, a2, a3, a4, a5] (.long 0 :: st) z h Q := ni_T_p rfl rfl
theorem s178_87 : ni_T d 178 87 [a0, a1, a2, a3, a4, a5] (.long u :: st) z h Q = ni_T d 178 88 [a0, a1, ni_kl a2, .long u, .retAddr 1, a5] st z h Q := ni_T_p rfl rfl
theorem s178_88 : ni_T d 178 88 [a0, a1, a2, a3, a4, a5] st z h Q = ni_T d 178 89 [a0, a1, a2, a3, a4, a5] (.int 0 :: st) z h Q := ni_T_p rfl rfl
theorem s178_89 : ni_T d 178 89 [a0, a1, a2, a3, a4, a5] (.int x :: st) z h Q = ni_T d 178 91 [a0, a1, a2, a3, ni_kl a4, .int x] st z h Q := ni_T_p rfl rfl
theorem s178_91 : ni_T d 178 91 [a0, a1, a2, a3, a4, .int x] st z h Q = ni_T d 178 93 [a0, a1, a2, a3, a4, .int x] (.int x :: st) z h Q := ni_T_p rfl rfl
theorem s178_93 : ni_T d 178 93 [a0, a1, a2, a3, a4, a5] st z h Q = ni_T d 178 94 [a0, a1, a2, a3, a4, a5] (.int 5 :: st) z h Q := ni_T_p rfl rfl
theorem s178_94 : ni_T d 178 94 [a0, a1, a2, a3, a4, a5] (.int y :: .int x :: st) z h Q = if y ≤ x then ni_T d 178 133 [a0, a1, a2, a3, a4, a5] st z h Q else ni_T d 178 97 [a0, a1, a2, a3, a4, a5] st z h Q := ni_T_b rfl rfl
theorem s178_97 : ni_T d 178 97 [.ref o, a1, a2, a3, a4, a5] st z h Q = ni_T d 178 98 [.ref o, a1, a2, a3, a4, a5] (.ref o :: st) z h Q := ni_T_p rfl rfl
theorem s178_98 : ni_T d 178 98 [a0, a1, a2, a3, a4, a5] (.ref o :: st) z h Q = (ni_is (h o) 7 11 = true ∧ ni_T d 178 101 [a0, a1, a2, a3, a4, a5] (ni_gv (h o) 11 :: st) z h Q) := ni_T_getf rfl
theorem s178_101 : ni_T d 178 101 [a0, a1, a2, a3, a4, .int x] st z h Q = ni_T d 178 103 [a0, a1, a2, a3, a4, .int x] (.int x :: st) z h Q := ni_T_p rfl rfl
theorem s178_103 : ni_T d 178 103 [a0, a1, a2, a3, a4, a5] (.int x :: .ref o :: st) z h Q = (ni_okI (h o) x = true ∧ ni_T d 178 104 [a0, a1, a2, a3, a4, a5] (.int (ni_gi (h o) x) :: st) z h Q) := ni_T_iald rfl
theorem s178_104 : ni_T d 178 104 [a0, a1, a2, a3, a4, a5] st z h Q = ni_T d 178 105 [a0, a1, a2, a3, a4, a5] (.int (-1) :: st) z h Q := ni_T_p rfl rfl
theorem s178_105 : ni_T d 178 105 [a0, a1, a2, a3, a4, a5] (.int y :: .int x :: st) z h Q = if x = y then ni_T d 178 127 [a0, a1, a2, a3, a4, a5] st z h Q else ni_T d 178 108 [a0, a1, a2, a3, a4, a5] st z h Q := ni_T_b rfl rfl
theorem s178_108 : ni_T d 178 108 [a0, a1, a2, .long u, a4, a5] st z h Q = ni_T d 178 109 [a0, a1, a2, .long u, a4, a5] (.long u :: st) z h Q := ni_T_p rfl rfl
theorem s178_109 : ni_T d 178 109 [a0, a1, a2, a3, a4, a5] st z h Q = ni_T d 178 110 [a0, a1, a2, a3, a4, a5] (.long 1 :: st) z h Q := ni_T_p rfl rfl
theorem s178_110 : ni_T d 178 110 [.ref o, a1, a2, a3, a4, a5] st z h Q = ni_T d 178 111 [.ref o, a1, a2, a3, a4, a5] (.ref o :: st) z h Q := ni_T_p rfl rfl
theorem s178_111 : ni_T d 178 111 [a0, a1, a2, a3, a4, a5] (.ref o :: st) z h Q = (ni_is (h o) 7 11 = true ∧ ni_T d 178 114 [a0, a1, a2, a3, a4, a5] (ni_gv (h o) 11 :: st) z h Q) := ni_T_getf rfl
theorem s178_114 : ni_T d 178 114 [a0, a1, a2, a3, a4, .int x] st z h Q = ni_T d 178 116 [a0, a1, a2, a3, a4, .int x] (.int x :: st) z h Q := ni_T_p rfl rfl
theorem s178_116 : ni_T d 178 116 [a0, a1, a2, a3, a4, a5] (.int x :: .ref o :: st) z h Q = (ni_okI (h o) x = true ∧ ni_T d 178 117 [a0, a1, a2, a3, a4, a5] (.int (ni_gi (h o) x) :: st) z h Q) := ni_T_iald rfl
theorem s178_117 : ni_T d 178 117 [a0, a1, a2, a3, a4, a5] st z h Q = ni_T d 178 119 [a0, a1, a2, a3, a4, a5] (.int 6 :: st) z h Q := ni_T_p rfl rfl
theorem s178_119 : ni_T d 178 119 [a0, .int x, a2, a3, a4, a5] st z h Q = ni_T d 178 120 [a0, .int x, a2, a3, a4, a5] (.int x :: st) z h Q := ni_T_p rfl rfl
theorem s178_120 : ni_T d 178 120 [a0, a1, a2, a3, a4, a5] (.int y :: .int x :: st) z h Q = ni_T d 178 121 [a0, a1, a2, a3, a4, a5] (.int (x * y) :: st) z h Q := ni_T_p rfl rfl
theorem s178_121 : ni_T d 178 121 [a0, a1, a2, a3, a4, a5] (.int y :: .int x :: st) z h Q = ni_T d 178 122 [a0, a1, a2, a3, a4, a5] (.int (x - y) :: st) z h Q := ni_T_p rfl rfl
theorem s178_122 : ni_T d 178 122 [a0, a1, .int x, a3, a4, a5] st z h Q = ni_T d 178 123 [a0, a1, .int x, a3, a4, a5] (.int x :: st) z h Q := ni_T_p rfl rfl
theorem s178_123 : ni_T d 178 123 [a0, a1, a2, a3, a4, a5] (.int y :: .int x :: st) z h Q = ni_T d 178 124 [a0, a1, a2, a3, a4, a5] (.int (x - y) :: st) z h Q := ni_T_p rfl rfl
theorem s178_124 : ni_T d 178 124 [a0, a1, a2, a3, a4, a5] (.int y :: .long u :: st) z h Q = ni_T d 178 125 [a0, a1, a2, a3, a4, a5] (.long (u <<< (y.toInt64 &&& 63)) :: st) z h Q := ni_T_p rfl rfl
theorem s178_125 : ni_T d 178 125 [a0, a1, a2, a3, a4, a5] (.long w :: .long u :: st) z h Q = ni_T d 178 126 [a0, a1, a2, a3, a4, a5] (.long (u ||| w) :: st) z h Q := ni_T_p rfl rfl
theorem s178_126 : ni_T d 178 126 [a0, a1, a2, a3, a4, a5] (.long u :: st) z h Q = ni_T d 178 127 [a0, a1, ni_kl a2, .long u, .retAddr 1, a5] st z h Q := ni_T_p rfl rfl
theorem s178_127 : ni_T d 178 127 [a0, a1, a2, a3, a4, .int x] st z h Q = ni_T d 178 130 [a0, a1, a2, a3, ni_kl a4, .int (x + 1)] st z h Q := ni_T_p rfl rfl
theorem s178_130 : ni_T d 178 130 [a0, a1, a2, a3, a4, a5] st z h Q = ni_T d 178 91 [a0, a1, a2, a3, a4, a5] st z h Q := ni_T_p rfl rfl
theorem s178_133 : ni_T d 178 133 [a0, a1, a2, .long u, a4, a5] st z h Q = ni_T d 178 134 [a0, a1, a2, .long u, a4, a5] (.long u :: st) z h Q := ni_T_p rfl rfl
theorem s178_134 : ni_T d 178 134 [a0, a1, a2, a3, a4, a5] [.long u] z h Q = Q (some (.long u)) z h := ni_T_l rfl rfl
theorem s179_0 : ni_T d 179 0 [a0, .int x, a2, a3, a4, a5, a6, a7, a8, a9] st z h Q = ni_T d 179 1 [a0, .int x, a2, a3, a4, a5, a6, a7, a8, a9] (.int x :: st) z h Q := ni_T_p rfl rfl
theorem s179_1 : ni_T d 179 1 [a0, a1, a2, a3, a4, a5, a6, a7, a8, a9] (.int x :: st) z h Q = if x < 0 then ni_T d 179 9 [a0, a1, a2, a3, a4, a5, a6, a7, a8, a9] st z h Q else ni_T d 179 4 [a0, a1, a2, a3, a4, a5, a6, a7, a8, a9] st z h Q := ni_T_b rfl rfl
theorem s179_4 : ni_T d 179 4 [a0, .int x, a2, a3, a4, a5, a6, a7, a8, a9] st z h Q = ni_T d 179 5 [a0, .int x, a2, a3, a4, a5, a6, a7, a8, a9] (.int x :: st) z h Q := ni_T_p rfl rfl
theorem s179_5 : ni_T d 179 5 [a0, a1, a2, a3, a4, a5, a6, a7, a8, a9] st z h Q = ni_T d 179 6 [a0, a1, a2, a3, a4, a5, a6, a7, a8, a9] (.int 2 :: st) z h Q := ni_T_p rfl rfl
theorem s179_6 : ni_T d 179 6 [a0, a1, a2, a3, a4, a5, a6, a7, a8, a9] (.int y :: .int x :: st) z h Q = if x ≤ y then ni_T d 179 16 [a0, a1, a2, a3, a4, a5, a6, a7, a8, a9] st z h Q else ni_T d 179 9 [a0, a1, a2, a3, a4, a5, a6, a7, a8, a9] st z h Q := ni_T_b rfl rfl
theorem s179_9 : ni_T d 179 9 [.ref o, a1, a2, a3, a4, a5, a6, a7, a8, a9] st z h Q = ni_T d 179 10 [.ref o, a1, a2, a3, a4, a5, a6, a7, a8, a9] (.ref o :: st) z h Q := ni_T_p rfl rfl
theorem s179_10 : ni_T d 179 10 [a0, a1, a2, a3, a4, a5, a6, a7, a8, a9] st z h Q = ni_T d 179 12 [a0, a1, a2, a3, a4, a5, a6, a7, a8, a9] (.int (-5) :: st) z h Q := ni_T_p rfl rfl
theorem s179_12 : ni_T (d + 1) 179 12 [a0, a1, a2, a3, a4, a5, a6, a7, a8, a9] (.int x0 :: .ref o :: st) z h Q = (ni_rc (h o) 7 = true ∧ Nat.ble (ni_sw st) 8 = true ∧ ni_T d 121 0 [.ref o, .int x0] [] z h (ni_K (d + 1) 179 15 [a0, a1, a2, a3, a4, a5, a6, a7, a8, a9] st z Q)) := ni_T_ce [.ref o, .int x0] rfl rfl rfl rfl rfl rfl rfl rfl rfl
theorem s179_15 : ni_T d 179 15 [a0, a1, a2, a3, a4, a5, a6, a7, a8, a9] [.int x] z h Q = Q (some (.int x)) z h := ni_T_i rfl rfl
theorem s179_16 : ni_T d 179 16 [a0, a1, a2, a3, a4, a5, a6, a7, a8, a9] st z h Q = ni_T d 179 17 [a0, a1, a2, a3, a4, a5, a6, a7, a8, a9] (.int 0 :: st) z h Q := ni_T_p rfl rfl
theorem s179_17 : ni_T d 179 17 [a0, a1, a2, a3, a4, a5, a6, a7, a8, a9] (.int x :: st) z h Q = ni_T d 179 18 [a0, ni_kl a1, .int x, a3, a4, a5, a6, a7, a8, a9] st z h Q := ni_T_p rfl rfl
theorem s179_18 : ni_T d 179 18 [a0, a1, a2, a3, a4, a5, a6, a7, a8, a9] st z h Q = ni_T d 179 19 [a0, a1, a2, a3, a4, a5, a6, a7, a8, a9] (.int 0 :: st) z h Q := ni_T_p rfl rfl
theorem s179_19 : ni_T d 179 19 [a0, a1, a2, a3, a4, a5, a6, a7, a8, a9] (.int x :: st) z h Q = ni_T d 179 20 [a0, a1, ni_kl a2, .int x, a4, a5, a6, a7, a8, a9] st z h Q := ni_T_p rfl rfl
theorem s179_20 : ni_T d 179 20 [a0, a1, a2, a3, a4, a5, a6, a7, a8, a9] st z h Q = ni_T d 179 21 [a0, a1, a2, a3, a4, a5, a6, a7, a8, a9] (.int (-1) :: st) z h Q := ni_T_p rfl rfl
theorem s179_21 : ni_T d 179 21 [a0, a1, a2, a3, a4, a5, a6, a7, a8, a9] (.int x :: st) z h Q = ni_T d 179 23 [a0, a1, a2, ni_kl a3, .int x, a5, a6, a7, a8, a9] st z h Q := ni_T_p rfl rfl
theorem s179_23 : ni_T d 179 23 [a0, a1, a2, a3, a4, a5, a6, a7, a8, a9] st z h Q = ni_T d 179 24 [a0, a1, a2, a3, a4, a5, a6, a7, a8, a9] (.int 0 :: st) z h Q := ni_T_p rfl rfl
theorem s179_24 : ni_T d 179 24 [a0, a1, a2, a3, a4, a5, a6, a7, a8, a9] (.int x :: st) z h Q = ni_T d 179 26 [a0, a1, a2, a3, ni_kl a4, .int x, a6, a7, a8, a9] st z h Q := ni_T_p rfl rfl
theorem s179_26 : ni_T d 179 26 [a0, a1, a2, a3, a4, a5, a6, a7, a8, a9] st z h Q = ni_T d 179 27 [a0, a1, a2, a3, a4, a5, a6, a7, a8, a9] (.int 0 :: st) z h Q := ni_T_p rfl rfl
theorem s179_27 : ni_T d 179 27 [a0, a1, a2, a3, a4, a5, a6, a7, a8, a9] (.int x :: st) z h Q = ni_T d 179 29 [a0, a1, a2, a3, a4, ni_kl a5, .int x, a7, a8, a9] st z h Q := ni_T_p rfl rfl
theorem s179_29 : ni_T d 179 29 [a0, a1, a2, a3, a4, a5, .int x, a7, a8, a9] st z h Q = ni_T d 179 31 [a0, a1, a2, a3, a4, a5, .int x, a7, a8, a9] (.int x :: st) z h Q := ni_T_p rfl rfl
theorem s179_31 : ni_T d 179 31 [a0, a1, a2, a3, a4, a5, a6, a7, a8, a9] st z h Q = ni_T d 179 32 [a0, a1, a2, a3, a4, a5, a6, a7, a8, a9] (.int 5 :: st) z h Q := ni_T_p rfl rfl
theorem s179_32 : ni_T d 179 32 [a0, a1, a2, a3, a4, a5, a6, a7, a8, a9] (.int y :: .int x :: st) z h Q = if y ≤ x then ni_T d 179 182 [a0, a1, a2, a3, a4, a5, a6, a7, a8, a9] st z h Q else ni_T d 179 35 [a0, a1, a2, a3, a4, a5, a6, a7, a8, a9] st z h Q := ni_T_b rfl rfl
theorem s179_35 : ni_T d 179 35 [a0, a1, a2, a3, a4, a5, a6, a7, a8, a9] st z h Q = ni_T d 179 37 [a0, a1, a2, a3, a4, a5, a6, a7, a8, a9] (.int 100 :: st) z h Q := ni_T_p rfl rfl
theorem s179_37 : ni_T d 179 37 [a0, a1, a2, a3, a4, a5, a6, a7, a8, a9] (.int x :: st) z h Q = ni_T d 179 39 [a0, a1, a2, a3, a4, a5, ni_kl a6, .int x, a8, a9] st z h Q := ni_T_p rfl rfl
theorem s179_39 : ni_T d 179 39 [a0, a1, a2, a3, a4, a5, a6, a7, a8, a9] st z h Q = ni_T d 179 40 [a0, a1, a2, a3, a4, a5, a6, a7, a8, a9] (.int 0 :: st) z h Q := ni_T_p rfl rfl
theorem s179_40 : ni_T d 179 40 [a0, a1, a2, a3, a4, a5, a6, a7, a8, a9] (.int x :: st) z h Q = ni_T d 179 42 [a0, a1, a2, a3, a4, a5, a6, ni_kl a7, .int x, a9] st z h Q := ni_T_p rfl rfl
theorem s179_42 : ni_T d 179 42 [a0, a1, a2, a3, a4, a5, a6, a7, .int x, a9] st z h Q = ni_T d 179 44 [a0, a1, a2, a3, a4, a5, a6, a7, .int x, a9] (.int x :: st) z h Q := ni_T_p rfl rfl
theorem s179_44 : ni_T d 179 44 [a0, a1, a2, a3, a4, a5, a6, a7, a8, a9] st z h Q = ni_T d 179 45 [a0, a1, a2, a3, a4, a5, a6, a7, a8, a9] (.int 5 :: st) z h Q := ni_T_p rfl rfl
theorem s179_45 : ni_T d 179 45 [a0, a1, a2, a3, a4, a5, a6, a7, a8, a9] (.int y :: .int x :: st) z h Q = if y ≤ x then ni_T d 179 151 [a0, a1, a2, a3, a4, a5, a6, a7, a8, a9] st z h Q else ni_T d 179 48 [a0, a1, a2, a3, a4, a5, a6, a7, a8, a9] st z h Q := ni_T_b rfl rfl
theorem s179_48 : ni_T d 179 48 [a0, a1, a2, a3, a4, a5, a6, a7, .int x, a9] st z h Q = ni_T d 179 50 [a0, a1, a2, a3, a4, a5, a6, a7, .int x, a9] (.int x :: st) z h Q := ni_T_p rfl rfl
theorem s179_50 : ni_T d 179 50 [a0, a1, a2, a3, a4, a5, .int x, a7, a8, a9] st z h Q = ni_T d 179 52 [a0, a1, a2, a3, a4, a5, .int x, a7, a8, a9] (.int x :: st) z h Q := ni_T_p rfl rfl
theorem s179_52 : ni_T d 179 52 [a0, a1, a2, a3, a4, a5, a6, a7, a8, a9] (.int y :: .int x :: st) z h Q = if x = y then ni_T d 179 145 [a0, a1, a2, a3, a4, a5, a6, a7, a8, a9] st z h Q else ni_T d 179 55 [a0, a1, a2, a3, a4, a5, a6, a7, a8, a9] st z h Q := ni_T_b rfl rfl
theorem s179_55 : ni_T d 179 55 [.ref o, a1, a2, a3, a4, a5, a6, a7, a8, a9] st z h Q = ni_T d 179 56 [.ref o, a1, a2, a3, a4, a5, a6, a7, a8, a9] (.ref o :: st) z h Q := ni_T_p rfl rfl
theorem s179_56 : ni_T d 179 56 [a0, a1, a2, a3, a4, a5, a6, a7, a8, a9] (.ref o :: st) z h Q = (ni_is (h o) 7 11 = true ∧ ni_T d 179 59 [a0, a1, a2, a3, a4, a5, a6, a7, a8, a9] (ni_gv (h o) 11 :: st) z h Q) := ni_T_getf rfl
theorem s179_59 : ni_T d 179 59 [a0, a1, a2, a3, a4, a5, .int x, a7, a8, a9] st z h Q = ni_T d 179 61 [a0, a1, a2, a3, a4, a5, .int x, a7, a8, a9] (.int x :: st) z h Q := ni_T_p rfl rfl
theorem s179_61 : ni_T d 179 61 [a0, a1, a2, a3, a4, a5, a6, a7, a8, a9] (.int x :: .ref o :: st) z h Q = (ni_okI (h o) x = true ∧ ni_T d 179 62 [a0, a1, a2, a3, a4, a5, a6, a7, a8, a9] (.int (ni_gi (h o) x) :: st) z h Q) := ni_T_iald rfl
theorem s179_62 : ni_T d 179 62 [a0, a1, a2, a3, a4, a5, a6, a7, a8, a9] st z h Q = ni_T d 179 63 [a0, a1, a2, a3, a4, a5, a6, a7, a8, a9] (.int (-1) :: st) z h Q := ni_T_p rfl rfl
theorem s179_63 : ni_T d 179 63 [a0, a1, a2, a3, a4, a5, a6, a7, a8, a9] (.int y :: .int x :: st) z h Q = if x = y then ni_T d 179 145 [a0, a1, a2, a3, a4, a5, a6, a7, a8, a9] st z h Q else ni_T d 179 66 [a0, a1, a2, a3, a4, a5, a6, a7, a8, a9] st z h Q := ni_T_b rfl rfl
theorem s179_66 : ni_T d 179 66 [.ref o, a1, a2, a3, a4, a5, a6, a7, a8, a9] st z h Q = ni_T d 179 67 [.ref o, a1, a2, a3, a4, a5, a6, a7, a8, a9] (.ref o :: st) z h Q := ni_T_p rfl rfl
theorem s179_67 : ni_T d 179 67 [a0, a1, a2, a3, a4, a5, a6, a7, a8, a9] (.ref o :: st) z h Q = (ni_is (h o) 7 11 = true ∧ ni_T d 179 70 [a0, a1, a2, a3, a4, a5, a6, a7, a8, a9] (ni_gv (h o) 11 :: st) z h Q) := ni_T_getf rfl
theorem s179_70 : ni_T d 179 70 [a0, a1, a2, a3, a4, a5, a6, a7, .int x, a9] st z h Q = ni_T d 179 72 [a0, a1, a2, a3, a4, a5, a6, a7, .int x, a9] (.int x :: st) z h Q := ni_T_p rfl rfl
theorem s179_72 : ni_T d 179 72 [a0, a1, a2, a3, a4, a5, a6, a7, a8, a9] (.int x :: .ref o :: st) z h Q = (ni_okI (h o) x = true ∧ ni_T d 179 73 [a0, a1, a2, a3, a4, a5, a6, a7, a8, a9] (.int (ni_gi (h o) x) :: st) z h Q) := ni_T_iald rfl
theorem s179_73 : ni_T d 179 73 [a0, a1, a2, a3, a4, a5, a6, a7, a8, a9] st z h Q = ni_T d 179 74 [a0, a1, a2, a3, a4, a5, a6, a7, a8, a9] (.int (-1) :: st) z h Q := ni_T_p rfl rfl
theorem s179_74 : ni_T d 179 74 [a0, a1, a2, a3, a4, a5, a6, a7, a8, a9] (.int y :: .int x :: st) z h Q = if x = y then ni_T d 179 77 [a0, a1, a2, a3, a4, a5, a6, a7, a8, a9] st z h Q else ni_T d 179 80 [a0, a1, a2, a3, a4, a5, a6, a7, a8, a9] st z h Q := ni_T_b rfl rfl
theorem s179_77 : ni_T d 179 77 [a0, a1, a2, a3, a4, a5, a6, a7, a8, a9] st z h Q = ni_T d 179 145 [a0, a1, a2, a3, a4, a5, a6, a7, a8, a9] st z h Q := ni_T_p rfl rfl
theorem s179_80 : ni_T d 179 80 [.ref o, a1, a2, a3, a4, a5, a6, a7, a8, a9] st z h Q = ni_T d 179 81 [.ref o, a1, a2, a3, a4, a5, a6, a7, a8, a9] (.ref o :: st) z h Q := ni_T_p rfl rfl
theorem s179_81 : ni_T d 179 81 [.ref o, a1, a2, a3, a4, a5, a6, a7, a8, a9] st z h Q = ni_T d 179 82 [.ref o, a1, a2, a3, a4, a5, a6, a7, a8, a9] (.ref o :: st) z h Q := ni_T_p rfl rfl
theorem s179_82 : ni_T d 179 82 [a0, a1, a2, a3, a4, a5, a6, a7, a8, a9] (.ref o :: st) z h Q = (ni_is (h o) 7 11 = true ∧ ni_T d 179 85 [a0, a1, a2, a3, a4, a5, a6, a7, a8, a9] (ni_gv (h o) 11 :: st) z h Q) := ni_T_getf rfl
theorem s179_85 : ni_T d 179 85 [a0, a1, a2, a3, a4, a5, .int x, a7, a8, a9] st z h Q = ni_T d 179 87 [a0, a1, a2, a3, a4, a5, .int x, a7, a8, a9] (.int x :: st) z h Q := ni_T_p rfl rfl
theorem s179_87 : ni_T d 179 87 [a0, a1, a2, a3, a4, a5, a6, a7, a8, a9] (.int x :: .ref o :: st) z h Q = (ni_okI (h o) x = true ∧ ni_T d 179 88 [a0, a1, a2, a3, a4, a5, a6, a7, a8, a9] (.int (ni_gi (h o) x) :: st) z h Q) := ni_T_iald rfl
theorem s179_88 : ni_T d 179 88 [.ref o, a1, a2, a3, a4, a5, a6, a7, a8, a9] st z h Q = ni_T d 179 89 [.ref o, a1, a2, a3, a4, a5, a6, a7, a8, a9] (.ref o :: st) z h Q := ni_T_p rfl rfl
theorem s179_89 : ni_T d 179 89 [a0, a1, a2, a3, a4, a5, a6, a7, a8, a9] (.ref o :: st) z h Q = (ni_is (h o) 7 11 = true ∧ ni_T d 179 92 [a0, a1, a2, a3, a4, a5, a6, a7, a8, a9] (ni_gv (h o) 11 :: st) z h Q) := ni_T_getf rfl
theorem s179_92 : ni_T d 179 92 [a0, a1, a2, a3, a4, a5, a6, a7, .int x, a9] st z h Q = ni_T d 179 94 [a0, a1, a2, a3, a4, a5, a6, a7, .int x, a9] (.int x :: st) z h Q := ni_T_p rfl rfl
theorem s179_94 : ni_T d 179 94 [a0, a1, a2, a3, a4, a5, a6, a7, a8, a9] (.int x :: .ref o :: st) z h Q = (ni_okI (h o) x = true ∧ ni_T d 179 95 [a0, a1, a2, a3, a4, a5, a6, a7, a8, a9] (.int (ni_gi (h o) x) :: st) z h Q) := ni_T_iald rfl
theorem s179_95 : ni_T (d + 1) 179 95 [a0, a1, a2, a3, a4, a5, a6, a7, a8, a9] (.int x1 :: .int x0 :: .ref o :: st) z h Q = (ni_rc (h o) 7 = true ∧ Nat.ble (ni_sw st) 8 = true ∧ ni_T d 156 0 [.ref o, .int x0, .int x1, .retAddr 0, .retAddr 0] [] z h (ni_K (d + 1) 179 98 [a0, a1, a2, a3, a4, a5, a6, a7, a8, a9] st z Q)) := ni_T_ce [.ref o, .int x0, .int x1] rfl rfl rfl rfl rfl rfl rfl rfl rfl
theorem s179_98 : ni_T d 179 98 [a0, a1, a2, a3, a4, a5, a6, a7, a8, a9] (.int x :: st) z h Q = ni_T d 179 100 [a0, a1, a2, a3, a4, a5, a6, a7, ni_kl a8, .int x] st z h Q := ni_T_p rfl rfl
theorem s179_100 : ni_T d 179 100 [a0, a1, a2, a3, a4, a5, a6, a7, a8, .int x] st z h Q = ni_T d 179 102 [a0, a1, a2, a3, a4, a5, a6, a7, a8, .int x] (.int x :: st) z h Q := ni_T_p rfl rfl
theorem s179_102 : ni_T d 179 102 [a0, a1, .int x, a3, a4, a5, a6, a7, a8, a9] st z h Q = ni_T d 179 103 [a0, a1, .int x, a3, a4, a5, a6, a7, a8, a9] (.int x :: st) z h Q := ni_T_p rfl rfl
theorem s179_103 : ni_T d 179 103 [a0, a1, a2, a3, a4, a5, a6, a7, a8, a9] (.int y :: .int x :: st) z h Q = if x ≤ y then ni_T d 179 111 [a0, a1, a2, a3, a4, a5, a6, a7, a8, a9] st z h Q else ni_T d 179 106 [a0, a1, a2, a3, a4, a5, a6, a7, a8, a9] st z h Q := ni_T_b rfl rfl
theorem s179_106 : ni_T d 179 106 [a0, a1, a2, a3, a4, a5, a6, a7, a8, .int x] st z h Q = ni_T d 179 108 [a0, a1, a2, a3, a4, a5, a6, a7, a8, .int x] (.int x :: st) z h Q := ni_T_p rfl rfl
theorem s179_108 : ni_T d 179 108 [a0, a1, a2, a3, a4, a5, a6, a7, a8, a9] st z h Q = ni_T d 179 112 [a0, a1, a2, a3, a4, a5, a6, a7, a8, a9] st z h Q := ni_T_p rfl rfl
theorem s179_111 : ni_T d 179 111 [a0, a1, .int x, a3, a4, a5, a6, a7, a8, a9] st z h Q = ni_T d 179 112 [a0, a1, .int x, a3, a4, a5, a6, a7, a8, a9] (.int x :: st) z h Q := ni_T_p rfl rfl
theorem s179_112 : ni_T d 179 112 [a0, a1, a2, a3, a4, a5, a6, a7, a8, a9] (.int x :: st) z h Q = ni_T d 179 113 [a0, ni_kl a1, .int x, a3, a4, a5, a6, a7, a8, a9] st z h Q := ni_T_p rfl rfl
theorem s179_113 : ni_T d 179 113 [a0, a1, a2, a3, a4, a5, a6, a7, a8, .int x] st z h Q = ni_T d 179 115 [a0, a1, a2, a3, a4, a5, a6, a7, a8, .int x] (.int x :: st) z h Q := ni_T_p rfl rfl
theorem s179_115 : ni_T d 179 115 [a0, a1, a2, a3, a4, a5, a6, a7, a8, a9] st z h Q = ni_T d 179 116 [a0, a1, a2, a3, a4, a5, a6, a7, a8, a9] (.int 1 :: st) z h Q := ni_T_p rfl rfl
theorem s179_116 : ni_T d 179 116 [a0, a1, a2, a3, a4, a5, a6, a7, a8, a9] (.int y :: .int x :: st) z h Q = if x = y then ni_T d 179 119 [a0, a1, a2, a3, a4, a5, a6, a7, a8, a9] st z h Q else ni_T d 179 129 [a0, a1, a2, a3, a4, a5, a6, a7, a8, a9] st z h Q := ni_T_b rfl rfl
theorem s179_119 : ni_T d 179 119 [a0, a1, a2, a3, a4, a5, a6, a7, .int x, a9] st z h Q = ni_T d 179 121 [a0, a1, a2, a3, a4, a5, a6, a7, .int x, a9] (.int x :: st) z h Q := ni_T_p rfl rfl
theorem s179_121 : ni_T d 179 121 [a0, a1, a2, a3, a4, a5, .int x, a7, a8, a9] st z h Q = ni_T d 179 123 [a0, a1, a2, a3, a4, a5, .int x, a7, a8, a9] (.int x :: st) z h Q := ni_T_p rfl rfl
theorem s179_123 : ni_T d 179 123 [a0, a1, a2, a3, a4, a5, a6, a7, a8, a9] (.int y :: .int x :: st) z h Q = if y ≤ x then ni_T d 179 129 [a0, a1, a2, a3, a4, a5, a6, a7, a8, a9] st z h Q else ni_T d 179 126 [a0, a1, a2, a3, a4, a5, a6, a7, a8, a9] st z h Q := ni_T_b rfl rfl
theorem s179_126 : ni_T d 179 126 [a0, a1, a2, .int x, a4, a5, a6, a7, a8, a9] st z h Q = ni_T d 179 129 [a0, a1, ni_kl a2, .int (x + 1), a4, a5, a6, a7, a8, a9] st z h Q := ni_T_p rfl rfl
theorem s179_129 : ni_T d 179 129 [a0, a1, a2, a3, a4, a5, a6, a7, a8, .int x] st z h Q = ni_T d 179 131 [a0, a1, a2, a3, a4, a5, a6, a7, a8, .int x] (.int x :: st) z h Q := ni_T_p rfl rfl
theorem s179_131 : ni_T d 179 131 [a0, a1, a2, a3, a4, a5, a6, .int x, a8, a9] st z h Q = ni_T d 179 133 [a0, a1, a2, a3, a4, a5, a6, .int x, a8, a9] (.int x :: st) z h Q := ni_T_p rfl rfl
theorem s179_133 : ni_T d 179 133 [a0, a1, a2, a3, a4, a5, a6, a7, a8, a9] (.int y :: .int x :: st) z h Q = if y ≤ x then ni_T d 179 141 [a0, a1, a2, a3, a4, a5, a6, a7, a8, a9] st z h Q else ni_T d 179 136 [a0, a1, a2, a3, a4, a5, a6, a7, a8, a9] st z h Q := ni_T_b rfl rfl
theorem s179_136 : ni_T d 179 136 [a0, a1, a2, a3, a4, a5, a6, a7, a8, .int x] st z h Q = ni_T d 179 138 [a0, a1, a2, a3, a4, a5, a6, a7, a8, .int x] (.int x :: st) z h Q := ni_T_p rfl rfl
theorem s179_138 : ni_T d 179 138 [a0, a1, a2, a3, a4, a5, a6, a7, a8, a9] st z h Q = ni_T d 179 143 [a0, a1, a2, a3, a4, a5, a6, a7, a8, a9] st z h Q := ni_T_p rfl rfl
theorem s179_141 : ni_T d 179 141 [a0, a1, a2, a3, a4, a5, a6, .int x, a8, a9] st z h Q = ni_T d 179 143 [a0, a1, a2, a3, a4, a5, a6, .int x, a8, a9] (.int x :: st) z h Q := ni_T_p rfl rfl
theorem s179_143 : ni_T d 179 143 [a0, a1, a2, a3, a4, a5, a6, a7, a8, a9] (.int x :: st) z h Q = ni_T d 179 145 [a0, a1, a2, a3, a4, a5, ni_kl a6, .int x, a8, a9] st z h Q := ni_T_p rfl rfl
theorem s179_145 : ni_T d 179 145 [a0, a1, a2, a3, a4, a5, a6, a7, .int x, a9] st z h Q = ni_T d 179 148 [a0, a1, a2, a3, a4, a5, a6, ni_kl a7, .int (x + 1), a9] st z h Q := ni_T_p rfl rfl
theorem s179_148 : ni_T d 179 148 [a0, a1, a2, a3, a4, a5, a6, a7, a8, a9] st z h Q = ni_T d 179 42 [a0, a1, a2, a3, a4, a5, a6, a7, a8, a9] st z h Q := ni_T_p rfl rfl
theorem s179_151 : ni_T d 179 151 [a0, a1, a2, a3, a4, a5, a6, .int x, a8, a9] st z h Q = ni_T d 179 153 [a0, a1, a2, a3, a4, a5, a6, .int x, a8, a9] (.int x :: st) z h Q := ni_T_p rfl rfl
theorem s179_153 : ni_T d 179 153 [a0, a1, a2, a3, a4, a5, a6, a7, a8, a9] st z h Q = ni_T d 179 155 [a0, a1, a2, a3, a4, a5, a6, a7, a8, a9] (.int 100 :: st) z h Q := ni_T_p rfl rfl
theorem s179_155 : ni_T d 179 155 [a0, a1, a2, a3, a4, a5, a6, a7, a8, a9] (.int y :: .int x :: st) z h Q = if x = y then ni_T d 179 176 [a0, a1, a2, a3, a4, a5, a6, a7, a8, a9] st z h Q else ni_T d 179 158 [a0, a1, a2, a3, a4, a5, a6, a7, a8, a9] st z h Q := ni_T_b rfl rfl
theorem s179_158 : ni_T d 179 158 [a0, a1, a2, a3, a4, a5, a6, .int x, a8, a9] st z h Q = ni_T d 179 160 [a0, a1, a2, a3, a4, a5, a6, .int x, a8, a9] (.int x :: st) z h Q := ni_T_p rfl rfl
theorem s179_160 : ni_T d 179 160 [a0, a1, a2, a3, a4, .int x, a6, a7, a8, a9] st z h Q = ni_T d 179 162 [a0, a1, a2, a3, a4, .int x, a6, a7, a8, a9] (.int x :: st) z h Q := ni_T_p rfl rfl
theorem s179_162 : ni_T d 179 162 [a0, a1, a2, a3, a4, a5, a6, a7, a8, a9] (.int y :: .int x :: st) z h Q = if y < x then ni_T d 179 168 [a0, a1, a2, a3, a4, a5, a6, a7, a8, a9] st z h Q else ni_T d 179 165 [a0, a1, a2, a3, a4, a5, a6, a7, a8, a9] st z h Q := ni_T_b rfl rfl
theorem s179_165 : ni_T d 179 165 [a0, a1, a2, a3, a4, a5, a6, a7, a8, a9] st z h Q = ni_T d 179 176 [a0, a1, a2, a3, a4, a5, a6, a7, a8, a9] st z h Q := ni_T_p rfl rfl
theorem s179_168 : ni_T d 179 168 [a0, a1, a2, a3, a4, a5, .int x, a7, a8, a9] st z h Q = ni_T d 179 170 [a0, a1, a2, a3, a4, a5, .int x, a7, a8, a9] (.int x :: st) z h Q := ni_T_p rfl rfl
theorem s179_170 : ni_T d 179 170 [a0, a1, a2, a3, a4, a5, a6, a7, a8, a9] (.int x :: st) z h Q = ni_T d 179 172 [a0, a1, a2, ni_kl a3, .int x, a5, a6, a7, a8, a9] st z h Q := ni_T_p rfl rfl
theorem s179_172 : ni_T d 179 172 [a0, a1, a2, a3, a4, a5, a6, .int x, a8, a9] st z h Q = ni_T d 179 174 [a0, a1, a2, a3, a4, a5, a6, .int x, a8, a9] (.int x :: st) z h Q := ni_T_p rfl rfl
theorem s179_174 : ni_T d 179 174 [a0, a1, a2, a3, a4, a5, a6, a7, a8, a9] (.int x :: st) z h Q = ni_T d 179 176 [a0, a1, a2, a3, ni_kl a4, .int x, a6, a7, a8, a9] st z h Q := ni_T_p rfl rfl
theorem s179_176 : ni_T d 179 176 [a0, a1, a2, a3, a4, a5, .int x, a7, a8, a9] st z h Q = ni_T d 179 179 [a0, a1, a2, a3, a4, ni_kl a5, .int (x + 1), a7, a8, a9] st z h Q := ni_T_p rfl rfl
theorem s179_179 : ni_T d 179 179 [a0, a1, a2, a3, a4, a5, a6, a7, a8, a9] st z h Q = ni_T d 179 29 [a0, a1, a2, a3, a4, a5, a6, a7, a8, a9] st z h Q := ni_T_p rfl rfl
theorem s179_182 : ni_T d 179 182 [a0, .int x, a2, a3, a4, a5, a6, a7, a8, a9] st z h Q = ni_T d 179 183 [a0, .int x, a2, a3, a4, a5, a6, a7, a8, a9] (.int x :: st) z h Q := ni_T_p rfl rfl
theorem s179_183 : ni_T d 179 183 [a0, a1, a2, a3, a4, a5, a6, a7, a8, a9] (.int x :: st) z h Q = if x = 0 then ni_T d 179 186 [a0, a1, a2, a3, a4, a5, a6, a7, a8, a9] st z h Q else ni_T d 179 190 [a0, a1, a2, a3, a4, a5, a6, a7, a8, a9] st z h Q := ni_T_b rfl rfl
theorem s179_186 : ni_T d 179 186 [a0, a1, .int x, a3, a4, a5, a6, a7, a8, a9] st z h Q = ni_T d 179 187 [a0, a1, .int x, a3, a4, a5, a6, a7, a8, a9] (.int x :: st) z h Q := ni_T_p rfl rfl
theorem s179_187 : ni_T d 179 187 [a0, a1, a2, a3, a4, a5, a6, a7, a8, a9] st z h Q = ni_T d 179 201 [a0, a1, a2, a3, a4, a5, a6, a7, a8, a9] st z h Q := ni_T_p rfl rfl
theorem s179_190 : ni_T d 179 190 [a0, .int x, a2, a3, a4, a5, a6, a7, a8, a9] st z h Q = ni_T d 179 191 [a0, .int x, a2, a3, a4, a5, a6, a7, a8, a9] (.int x :: st) z h Q := ni_T_p rfl rfl
theorem s179_191 : ni_T d 179 191 [a0, a1, a2, a3, a4, a5, a6, a7, a8, a9] st z h Q = ni_T d 179 192 [a0, a1, a2, a3, a4, a5, a6, a7, a8, a9] (.int 1 :: st) z h Q := ni_T_p rfl rfl
theorem s179_192 : ni_T d 179 192 [a0, a1, a2, a3, a4, a5, a6, a7, a8, a9] (.int y :: .int x :: st) z h Q = if x = y then ni_T d 179 195 [a0, a1, a2, a3, a4, a5, a6, a7, a8, a9] st z h Q else ni_T d 179 199 [a0, a1, a2, a3, a4, a5, a6, a7, a8, a9] st z h Q := ni_T_b rfl rfl
theorem s179_195 : ni_T d 179 195 [a0, a1, a2, .int x, a4, a5, a6, a7, a8, a9] st z h Q = ni_T d 179 196 [a0, a1, a2, .int x, a4, a5, a6, a7, a8, a9] (.int x :: st) z h Q := ni_T_p rfl rfl
theorem s179_196 : ni_T d 179 196 [a0, a1, a2, a3, a4, a5, a6, a7, a8, a9] st z h Q = ni_T d 179 201 [a0, a1, a2, a3, a4, a5, a6, a7, a8, a9] st z h Q := ni_T_p rfl rfl
theorem s179_199 : ni_T d 179 199 [a0, a1, a2, a3, .int x, a5, a6, a7, a8, a9] st z h Q = ni_T d 179 201 [a0, a1, a2, a3, .int x, a5, a6, a7, a8, a9] (.int x :: st) z h Q := ni_T_p rfl rfl
theorem s179_201 : ni_T d 179 201 [a0, a1, a2, a3, a4, a5, a6, a7, a8, a9] [.int x] z h Q = Q (some (.int x)) z h := ni_T_i rfl rfl
theorem s180_0 : ni_T d 180 0 [.ref o, a1, a2, a3, a4, a5, a6, a7, a8, a9] st z h Q = ni_T d 180 1 [.ref o, a1, a2, a3, a4, a5, a6, a7, a8, a9] (.ref o :: st) z h Q := ni_T_p rfl rfl
theorem s180_1 : ni_T (d + 1) 180 1 [a0, a1, a2, a3, a4, a5, a6, a7, a8, a9] (.ref o :: st) z h Q = (ni_rc (h o) 7 = true ∧ Nat.ble (ni_sw st) 8 = true ∧ ni_T d 143 0 [.ref o, .retAddr 0, .retAddr 0] [] z h (ni_K (d + 1) 180 4 [a0, a1, a2, a3, a4, a5, a6, a7, a8, a9] st z Q)) := ni_T_ce [.ref o] rfl rfl rfl rfl rfl rfl rfl rfl rfl
theorem s180_4 : ni_T d 180 4 [a0, a1, a2, a3, a4, a5, a6, a7, a8, a9] (.int x :: st) z h Q = ni_T d 180 6 [a0, a1, a2, ni_kl a3, .int x, a5, a6, a7, a8, a9] st z h Q := ni_T_p rfl rfl
theorem s180_6 : ni_T d 180 6 [.ref o, a1, a2, a3, a4, a5, a6, a7, a8, a9] st z h Q = ni_T d 180 7 [.ref o, a1, a2, a3, a4, a5, a6, a7, a8, a9] (.ref o :: st) z h Q := ni_T_p rfl rfl
theorem s180_7 : ni_T d 180 7 [a0, a1, a2, a3, a4, a5, a6, a7, a8, a9] st z h Q = ni_T d 180 9 [a0, a1, a2, a3, a4, a5, a6, a7, a8, a9] (.int 1000000 :: st) z h Q := ni_T_hse rfl rfl rfl rfl
theorem s180_9 : ni_T d 180 9 [a0, a1, a2, a3, a4, a5, a6, a7, a8, a9] (b0 :: .ref o :: st) z h Q = ((Nat.ble 7 7 && ni_is (h o) 7 29 && ni_fit (.int) b0) = true ∧ ni_T d 180 12 [a0, a1, a2, a3, a4, a5, a6, a7, a8, a9] st z (ni_up h o (ni_pv (h o) 29 b0)) Q) := ni_T_putf rfl
theorem s180_12 : ni_T d 180 12 [a0, a1, a2, a3, a4, a5, a6, a7, a8, a9] st z h Q = ni_T d 180 13 [a0, a1, a2, a3, a4, a5, a6, a7, a8, a9] (.int 0 :: st) z h Q := ni_T_p rfl rfl
theorem s180_13 : ni_T d 180 13 [a0, a1, a2, a3, a4, a5, a6, a7, a8, a9] (.int x :: st) z h Q = ni_T d 180 15 [a0, a1, a2, a3, ni_kl a4, .int x, a6, a7, a8, a9] st z h Q := ni_T_p rfl rfl
theorem s180_15 : ni_T d 180 15 [a0, a1, a2, a3, a4, .int x, a6, a7, a8, a9] st z h Q = ni_T d 180 17 [a0, a1, a2, a3, a4, .int x, a6, a7, a8, a9] (.int x :: st) z h Q := ni_T_p rfl rfl
theorem s180_17 : ni_T d 180 17 [a0, a1, a2, .int x, a4, a5, a6, a7, a8, a9] st z h Q = ni_T d 180 18 [a0, a1, a2, .int x, a4, a5, a6, a7, a8, a9] (.int x :: st) z h Q := ni_T_p rfl rfl
theorem s180_18 : ni_T d 180 18 [a0, a1, a2, a3, a4, a5, a6, a7, a8, a9] (.int y :: .int x :: st) z h Q = if y ≤ x then ni_T d 180 133 [a0, a1, a2, a3, a4, a5, a6, a7, a8, a9] st z h Q else ni_T d 180 21 [a0, a1, a2, a3, a4, a5, a6, a7, a8, a9] st z h Q := ni_T_b rfl rfl
theorem s180_21 : ni_T d 180 21 [.ref o, a1, a2, a3, a4, a5, a6, a7, a8, a9] st z h Q = ni_T d 180 22 [.ref o, a1, a2, a3, a4, a5, a6, a7, a8, a9] (.ref o :: st) z h Q := ni_T_p rfl rfl
theorem s180_22 : ni_T d 180 22 [a0, a1, .int x, a3, a4, a5, a6, a7, a8, a9] st z h Q = ni_T d 180 23 [a0, a1, .int x, a3, a4, a5, a6, a7, a8, a9] (.int x :: st) z h Q := ni_T_p rfl rfl
theorem s180_23 : ni_T d 180 23 [a0, a1, a2, a3, a4, .int x, a6, a7, a8, a9] st z h Q = ni_T d 180 25 [a0, a1, a2, a3, a4, .int x, a6, a7, a8, a9] (.int x :: st) z h Q := ni_T_p rfl rfl
theorem s180_25 : ni_T (d + 1) 180 25 [a0, a1, a2, a3, a4, a5, a6, a7, a8, a9] (.int x1 :: .int x0 :: .ref o :: st) z h Q = (ni_rc (h o) 7 = true ∧ Nat.ble (ni_sw st) 8 = true ∧ ni_T d 133 0 [.ref o, .int x0, .int x1] [] z h (ni_K (d + 1) 180 28 [a0, a1, a2, a3, a4, a5, a6, a7, a8, a9] st z Q)) := ni_T_ce [.ref o, .int x0, .int x1] rfl rfl rfl rfl rfl rfl rfl rfl rfl
theorem s180_28 : ni_T d 180 28 [a0, a1, a2, a3, a4, a5, a6, a7, a8, a9] (.int x :: st) z h Q = ni_T d 180 30 [a0, a1, a2, a3, a4, ni_kl a5, .int x, a7, a8, a9] st z h Q := ni_T_p rfl rfl
theorem s180_30 : ni_T d 180 30 [a0, a1, a2, a3, a4, a5, .int x, a7, a8, a9] st z h Q = ni_T d 180 32 [a0, a1, a2, a3, a4, a5, .int x, a7, a8, a9] (.int x :: st) z h Q := ni_T_p rfl rfl
theorem s180_32 : ni_T d 180 32 [a0, a1, a2, a3, a4, a5, a6, a7, a8, a9] st z h Q = ni_T d 180 34 [a0, a1, a2, a3, a4, a5, a6, a7, a8, a9] (.int 10 :: st) z h Q := ni_T_p rfl rfl
theorem s180_34 : ni_T d 180 34 [a0, a1, a2, a3, a4, a5, a6, a7, a8, a9] (.int y :: .int x :: st) z h Q = (¬ y = 0 ∧ ni_T d 180 35 [a0, a1, a2, a3, a4, a5, a6, a7, a8, a9] (.int (x / y) :: st) z h Q) := ni_T_idiv rfl
theorem s180_35 : ni_T d 180 35 [a0, a1, a2, a3, a4, a5, a6, a7, a8, a9] (.int x :: st) z h Q = ni_T d 180 37 [a0, a1, a2, a3, a4, a5, ni_kl a6, .int x, a8, a9] st z h Q := ni_T_p rfl rfl
theorem s180_37 : ni_T d 180 37 [a0, a1, a2, a3, a4, a5, .int x, a7, a8, a9] st z h Q = ni_T d 180 39 [a0, a1, a2, a3, a4, a5, .int x, a7, a8, a9] (.int x :: st) z h Q := ni_T_p rfl rfl
theorem s180_39 : ni_T d 180 39 [a0, a1, a2, a3, a4, a5, a6, a7, a8, a9] st z h Q = ni_T d 180 41 [a0, a1, a2, a3, a4, a5, a6, a7, a8, a9] (.int 10 :: st) z h Q := ni_T_p rfl rfl
theorem s180_41 : ni_T d 180 41 [a0, a1, a2, a3, a4, a5, a6, a7, a8, a9] (.int y :: .int x :: st) z h Q = (¬ y = 0 ∧ ni_T d 180 42 [a0, a1, a2, a3, a4, a5, a6, a7, a8, a9] (.int (x - x / y * y) :: st) z h Q) := ni_T_irem rfl
theorem s180_42 : ni_T d 180 42 [a0, a1, a2, a3, a4, a5, a6, a7, a8, a9] (.int x :: st) z h Q = ni_T d 180 44 [a0, a1, a2, a3, a4, a5, a6, ni_kl a7, .int x, a9] st z h Q := ni_T_p rfl rfl
theorem s180_44 : ni_T d 180 44 [a0, a1, a2, a3, a4, a5, .int x, a7, a8, a9] st z h Q = ni_T d 180 46 [a0, a1, a2, a3, a4, a5, .int x, a7, a8, a9] (.int x :: st) z h Q := ni_T_p rfl rfl
theorem s180_46 : ni_T d 180 46 [a0, a1, a2, a3, a4, a5, a6, a7, a8, a9] (.int x :: st) z h Q = if x < 0 then ni_T d 180 72 [a0, a1, a2, a3, a4, a5, a6, a7, a8, a9] st z h Q else ni_T d 180 49 [a0, a1, a2, a3, a4, a5, a6, a7, a8, a9] st z h Q := ni_T_b rfl rfl
theorem s180_49 : ni_T d 180 49 [a0, a1, a2, a3, a4, a5, a6, a7, .int x, a9] st z h Q = ni_T d 180 51 [a0, a1, a2, a3, a4, a5, a6, a7, .int x, a9] (.int x :: st) z h Q := ni_T_p rfl rfl
theorem s180_51 : ni_T d 180 51 [a0, a1, a2, a3, a4, a5, a6, a7, a8, a9] st z h Q = ni_T d 180 52 [a0, a1, a2, a3, a4, a5, a6, a7, a8, a9] (.int 1 :: st) z h Q := ni_T_p rfl rfl
theorem s180_52 : ni_T d 180 52 [a0, a1, a2, a3, a4, a5, a6, a7, a8, a9] (.int y :: .int x :: st) z h Q = if x < y then ni_T d 180 72 [a0, a1, a2, a3, a4, a5, a6, a7, a8, a9] st z h Q else ni_T d 180 55 [a0, a1, a2, a3, a4, a5, a6, a7, a8, a9] st z h Q := ni_T_b rfl rfl
theorem s180_55 : ni_T d 180 55 [a0, a1, a2, a3, a4, a5, a6, .int x, a8, a9] st z h Q = ni_T d 180 57 [a0, a1, a2, a3, a4, a5, a6, .int x, a8, a9] (.int x :: st) z h Q := ni_T_p rfl rfl
theorem s180_57 : ni_T d 180 57 [a0, a1, a2, a3, a4, a5, a6, a7, a8, a9] st z h Q = ni_T d 180 59 [a0, a1, a2, a3, a4, a5, a6, a7, a8, a9] (.int 31 :: st) z h Q := ni_T_p rfl rfl
theorem s180_59 : ni_T d 180 59 [a0, a1, a2, a3, a4, a5, a6, a7, a8, a9] (.int y :: .int x :: st) z h Q = if y < x then ni_T d 180 72 [a0, a1, a2, a3, a4, a5, a6, a7, a8, a9] st z h Q else ni_T d 180 62 [a0, a1, a2, a3, a4, a5, a6, a7, a8, a9] st z h Q := ni_T_b rfl rfl
theorem s180_62 : ni_T d 180 62 [a0, a1, a2, a3, a4, a5, a6, .int x, a8, a9] st z h Q = ni_T d 180 64 [a0, a1, a2, a3, a4, a5, a6, .int x, a8, a9] (.int x :: st) z h Q := ni_T_p rfl rfl
theorem s180_64 : ni_T d 180 64 [a0, a1, a2, a3, .int x, a5, a6, a7, a8, a9] st z h Q = ni_T d 180 66 [a0, a1, a2, a3, .int x, a5, a6, a7, a8, a9] (.int x :: st) z h Q := ni_T_p rfl rfl
theorem s180_66 : ni_T d 180 66 [a0, a1, a2, a3, a4, a5, a6, a7, a8, a9] st z h Q = ni_T d 180 67 [a0, a1, a2, a3, a4, a5, a6, a7, a8, a9] (.int (-1) :: st) z h Q := ni_T_p rfl rfl
theorem s180_67 : ni_T d 180 67 [a0, a1, a2, a3, a4, a5, a6, a7, a8, a9] (.int y :: .int x :: st) z h Q = ni_T d 180 68 [a0, a1, a2, a3, a4, a5, a6, a7, a8, a9] (.int (x ^^^ y) :: st) z h Q := ni_T_p rfl rfl
theorem s180_68 : ni_T d 180 68 [a0, a1, a2, a3, a4, a5, a6, a7, a8, a9] (.int y :: .int x :: st) z h Q = ni_T d 180 69 [a0, a1, a2, a3, a4, a5, a6, a7, a8, a9] (.int (x &&& y) :: st) z h Q := ni_T_p rfl rfl
theorem s180_69 : ni_T d 180 69 [a0, a1, a2, a3, a4, a5, a6, a7, a8, a9] (.int x :: st) z h Q = if x = 0 then ni_T d 180 75 [a0, a1, a2, a3, a4, a5, a6, a7, a8, a9] st z h Q else ni_T d 180 72 [a0, a1, a2, a3, a4, a5, a6, a7, a8, a9] st z h Q := ni_T_b rfl rfl
theorem s180_72 : ni_T d 180 72 [a0, a1, a2, a3, a4, .int x, a6, a7, a8, a9] st z h Q = ni_T d 180 74 [a0, a1, a2, a3, a4, .int x, a6, a7, a8, a9] (.int x :: st) z h Q := ni_T_p rfl rfl
theorem s180_74 : ni_T d 180 74 [a0, a1, a2, a3, a4, a5, a6, a7, a8, a9] [.int x] z h Q = Q (some (.int x)) z h := ni_T_i rfl rfl
theorem s180_75 : ni_T d 180 75 [.ref o, a1, a2, a3, a4, a5, a6, a7, a8, a9] st z h Q = ni_T d 180 76 [.ref o, a1, a2, a3, a4, a5, a6, a7, a8, a9] (.ref o :: st) z h Q := ni_T_p rfl rfl
theorem s180_76 : ni_T d 180 76 [a0, a1, a2, a3, .int x, a5, a6, a7, a8, a9] st z h Q = ni_T d 180 78 [a0, a1, a2, a3, .int x, a5, a6, a7, a8, a9] (.int x :: st) z h Q := ni_T_p rfl rfl
theorem s180_78 : ni_T d 180 78 [a0, a1, a2, a3, a4, a5, a6, a7, a8, a9] (b0 :: .ref o :: st) z h Q = ((Nat.ble 7 7 && ni_is (h o) 7 27 && ni_fit (.int) b0) = true ∧ ni_T d 180 81 [a0, a1, a2, a3, a4, a5, a6, a7, a8, a9] st z (ni_up h o (ni_pv (h o) 27 b0)) Q) := ni_T_putf rfl
theorem s180_81 : ni_T d 180 81 [.ref o, a1, a2, a3, a4, a5, a6, a7, a8, a9] st z h Q = ni_T d 180 82 [.ref o, a1, a2, a3, a4, a5, a6, a7, a8, a9] (.ref o :: st) z h Q := ni_T_p rfl rfl
theorem s180_82 : ni_T d 180 82 [a0, .int x, a2, a3, a4, a5, a6, a7, a8, a9] st z h Q = ni_T d 180 83 [a0, .int x, a2, a3, a4, a5, a6, a7, a8, a9] (.int x :: st) z h Q := ni_T_p rfl rfl
theorem s180_83 : ni_T d 180 83 [a0, a1, a2, a3, a4, a5, a6, .int x, a8, a9] st z h Q = ni_T d 180 85 [a0, a1, a2, a3, a4, a5, a6, .int x, a8, a9] (.int x :: st) z h Q := ni_T_p rfl rfl
theorem s180_85 : ni_T d 180 85 [a0, a1, a2, a3, a4, a5, a6, a7, .int x, a9] st z h Q = ni_T d 180 87 [a0, a1, a2, a3, a4, a5, a6, a7, .int x, a9] (.int x :: st) z h Q := ni_T_p rfl rfl
theorem s180_87 : ni_T (d + 1) 180 87 [a0, a1, a2, a3, a4, a5, a6, a7, a8, a9] (.int x2 :: .int x1 :: .int x0 :: .ref o :: st) z h Q = (ni_rc (h o) 7 = true ∧ Nat.ble (ni_sw st) 8 = true ∧ ni_T d 163 0 [.ref o, .int x0, .int x1, .int x2, .retAddr 0, .retAddr 0, .retAddr 0, .retAddr 0] [] z h (ni_K (d + 1) 180 90 [a0, a1, a2, a3, a4, a5, a6, a7, a8, a9] st z Q)) := ni_T_ce [.ref o, .int x0, .int x1, .int x2] rfl rfl rfl rfl rfl rfl rfl rfl rfl
theorem s180_90 : ni_T d 180 90 [a0, a1, a2, a3, a4, a5, a6, a7, a8, a9] (.int x :: st) z h Q = ni_T d 180 92 [a0, a1, a2, a3, a4, a5, a6, a7, ni_kl a8, .int x] st z h Q := ni_T_p rfl rfl
theorem s180_92 : ni_T d 180 92 [a0, a1, a2, a3, a4, a5, a6, a7, a8, .int x] st z h Q = ni_T d 180 94 [a0, a1, a2, a3, a4, a5, a6, a7, a8, .int x] (.int x :: st) z h Q := ni_T_p rfl rfl
theorem s180_94 : ni_T d 180 94 [a0, a1, a2, a3, a4, a5, a6, a7, a8, a9] (.int x :: st) z h Q = if x = 0 then ni_T d 180 97 [a0, a1, a2, a3, a4, a5, a6, a7, a8, a9] st z h Q else ni_T d 180 100 [a0, a1, a2, a3, a4, a5, a6, a7, a8, a9] st z h Q := ni_T_b rfl rfl
theorem s180_97 : ni_T d 180 97 [a0, a1, a2, a3, a4, .int x, a6, a7, a8, a9] st z h Q = ni_T d 180 99 [a0, a1, a2, a3, a4, .int x, a6, a7, a8, a9] (.int x :: st) z h Q := ni_T_p rfl rfl
theorem s180_99 : ni_T d 180 99 [a0, a1, a2, a3, a4, a5, a6, a7, a8, a9] [.int x] z h Q = Q (some (.int x)) z h := ni_T_i rfl rfl
theorem s180_100 : ni_T d 180 100 [.ref o, a1, a2, a3, a4, a5, a6, a7, a8, a9] st z h Q = ni_T d 180 101 [.ref o, a1, a2, a3, a4, a5, a6, a7, a8, a9] (.ref o :: st) z h Q := ni_T_p rfl rfl
theorem s180_101 : ni_T d 180 101 [.ref o, a1, a2, a3, a4, a5, a6, a7, a8, a9] st z h Q = ni_T d 180 102 [.ref o, a1, a2, a3, a4, a5, a6, a7, a8, a9] (.ref o :: st) z h Q := ni_T_p rfl rfl
theorem s180_102 : ni_T d 180 102 [a0, a1, a2, a3, a4, a5, a6, a7, a8, a9] (.ref o :: st) z h Q = (ni_is (h o) 7 29 = true ∧ ni_T d 180 105 [a0, a1, a2, a3, a4, a5, a6, a7, a8, a9] (ni_gv (h o) 29 :: st) z h Q) := ni_T_getf rfl
theorem s180_105 : ni_T d 180 105 [a0, a1, a2, a3, a4, a5, a6, a7, a8, a9] (.int x :: st) z h Q = ni_T d 180 106 [a0, a1, a2, a3, a4, a5, a6, a7, a8, a9] (.long x.toInt64 :: st) z h Q := ni_T_p rfl rfl
theorem s180_106 : ni_T d 180 106 [a0, a1, a2, a3, a4, a5, a6, a7, a8, .int x] st z h Q = ni_T d 180 108 [a0, a1, a2, a3, a4, a5, a6, a7, a8, .int x] (.int x :: st) z h Q := ni_T_p rfl rfl
theorem s180_108 : ni_T d 180 108 [a0, a1, a2, a3, a4, a5, a6, a7, a8, a9] (.int x :: st) z h Q = ni_T d 180 109 [a0, a1, a2, a3, a4, a5, a6, a7, a8, a9] (.long x.toInt64 :: st) z h Q := ni_T_p rfl rfl
theorem s180_109 : ni_T d 180 109 [a0, a1, a2, a3, a4, a5, a6, a7, a8, a9] (.long w :: .long u :: st) z h Q = ni_T d 180 110 [a0, a1, a2, a3, a4, a5, a6, a7, a8, a9] (.long (u * w) :: st) z h Q := ni_T_p rfl rfl
theorem s180_110 : ni_T d 180 110 [a0, a1, a2, a3, a4, a5, a6, a7, a8, a9] st z h Q = ni_T d 180 113 [a0, a1, a2, a3, a4, a5, a6, a7, a8, a9] (.long 100 :: st) z h Q := ni_T_hse rfl rfl rfl rfl
theorem s180_113 : ni_T d 180 113 [a0, a1, a2, a3, a4, a5, a6, a7, a8, a9] (.long w :: .long u :: st) z h Q = (¬ w = 0 ∧ ni_T d 180 114 [a0, a1, a2, a3, a4, a5, a6, a7, a8, a9] (.long (u / w) :: st) z h Q) := ni_T_ldiv rfl
theorem s180_114 : ni_T d 180 114 [a0, a1, a2, a3, a4, a5, a6, a7, a8, a9] (.long u :: st) z h Q = ni_T d 180 115 [a0, a1, a2, a3, a4, a5, a6, a7, a8, a9] (.int u.toInt32 :: st) z h Q := ni_T_p rfl rfl
theorem s180_115 : ni_T d 180 115 [a0, a1, a2, a3, a4, a5, a6, a7, a8, a9] (b0 :: .ref o :: st) z h Q = ((Nat.ble 7 7 && ni_is (h o) 7 29 && ni_fit (.int) b0) = true ∧ ni_T d 180 118 [a0, a1, a2, a3, a4, a5, a6, a7, a8, a9] st z (ni_up h o (ni_pv (h o) 29 b0)) Q) := ni_T_putf rfl
theorem s180_118 : ni_T d 180 118 [a0, a1, a2, a3, .int x, a5, a6, a7, a8, a9] st z h Q = ni_T d 180 120 [a0, a1, a2, a3, .int x, a5, a6, a7, a8, a9] (.int x :: st) z h Q := ni_T_p rfl rfl
theorem s180_120 : ni_T d 180 120 [a0, a1, a2, a3, a4, a5, a6, .int x, a8, a9] st z h Q = ni_T d 180 122 [a0, a1, a2, a3, a4, a5, a6, .int x, a8, a9] (.int x :: st) z h Q := ni_T_p rfl rfl
theorem s180_122 : ni_T d 180 122 [a0, a1, a2, a3, a4, a5, a6, a7, a8, a9] st z h Q = ni_T d 180 123 [a0, a1, a2, a3, a4, a5, a6, a7, a8, a9] (.int (-1) :: st) z h Q := ni_T_p rfl rfl
theorem s180_123 : ni_T d 180 123 [a0, a1, a2, a3, a4, a5, a6, a7, a8, a9] (.int y :: .int x :: st) z h Q = ni_T d 180 124 [a0, a1, a2, a3, a4, a5, a6, a7, a8, a9] (.int (x ^^^ y) :: st) z h Q := ni_T_p rfl rfl
theorem s180_124 : ni_T d 180 124 [a0, a1, a2, a3, a4, a5, a6, a7, a8, a9] (.int y :: .int x :: st) z h Q = ni_T d 180 125 [a0, a1, a2, a3, a4, a5, a6, a7, a8, a9] (.int (x &&& y) :: st) z h Q := ni_T_p rfl rfl
theorem s180_125 : ni_T d 180 125 [a0, a1, a2, a3, a4, a5, a6, a7, a8, a9] (.int x :: st) z h Q = ni_T d 180 127 [a0, a1, a2, ni_kl a3, .int x, a5, a6, a7, a8, a9] st z h Q := ni_T_p rfl rfl
theorem s180_127 : ni_T d 180 127 [a0, a1, a2, a3, a4, .int x, a6, a7, a8, a9] st z h Q = ni_T d 180 130 [a0, a1, a2, a3, ni_kl a4, .int (x + 1), a6, a7, a8, a9] st z h Q := ni_T_p rfl rfl
theorem s180_130 : ni_T d 180 130 [a0, a1, a2, a3, a4, a5, a6, a7, a8, a9] st z h Q = ni_T d 180 15 [a0, a1, a2, a3, a4, a5, a6, a7, a8, a9] st z h Q := ni_T_p rfl rfl
theorem s180_133 : ni_T d 180 133 [a0, a1, a2, a3, a4, a5, a6, a7, a8, a9] st z h Q = ni_T d 180 134 [a0, a1, a2, a3, a4, a5, a6, a7, a8, a9] (.int (-1) :: st) z h Q := ni_T_p rfl rfl
theorem s180_134 : ni_T d 180 134 [a0, a1, a2, a3, a4, a5, a6, a7, a8, a9] [.int x] z h Q = Q (some (.int x)) z h := ni_T_i rfl rfl
theorem s181_0 : ni_T d 181 0 [.ref o, a1, a2, a3, a4] st z h Q = ni_T d 181 1 [.ref o, a1, a2, a3, a4] (.ref o :: st) z h Q := ni_T_p rfl rfl
theorem s181_1 : ni_T d 181 1 [a0, .int x, a2, a3, a4] st z h Q = ni_T d 181 2 [a0, .int x, a2, a3, a4] (.int x :: st) z h Q := ni_T_p rfl rfl
theorem s181_2 : ni_T d 181 2 [a0, a1, .int x, a3, a4] st z h Q = ni_T d 181 3 [a0, a1, .int x, a3, a4] (.int x :: st) z h Q := ni_T_p rfl rfl
theorem s181_3 : ni_T d 181 3 [a0, a1, a2, .int x, a4] st z h Q = ni_T d 181 4 [a0, a1, a2, .int x, a4] (.int x :: st) z h Q := ni_T_p rfl rfl
theorem s181_4 : ni_T (d + 1) 181 4 [a0, a1, a2, a3, a4] (.int x2 :: .int x1 :: .int x0 :: .ref o :: st) z h Q = (ni_rc (h o) 7 = true ∧ Nat.ble (ni_sw st) 8 = true ∧ ni_T d 134 0 [.ref o, .int x0, .int x1, .int x2, .retAddr 0] [] z h (ni_K (d + 1) 181 7 [a0, a1, a2, a3, a4] st z Q)) := ni_T_ce [.ref o, .int x0, .int x1, .int x2] rfl rfl rfl rfl rfl rfl rfl rfl rfl
theorem s181_7 : ni_T d 181 7 [a0, a1, a2, a3, a4] (.int x :: st) z h Q = ni_T d 181 9 [a0, a1, a2, ni_kl a3, .int x] st z h Q := ni_T_p rfl rfl
theorem s181_9 : ni_T d 181 9 [a0, a1, a2, a3, .int x] st z h Q = ni_T d 181 11 [a0, a1, a2, a3, .int x] (.int x :: st) z h Q := ni_T_p rfl rfl
theorem s181_11 : ni_T d 181 11 [a0, a1, a2, a3, a4] (.int x :: st) z h Q = if x = 0 then ni_T d 181 14 [a0, a1, a2, a3, a4] st z h Q else ni_T d 181 24 [a0, a1, a2, a3, a4] st z h Q := ni_T_b rfl rfl
theorem s181_14 : ni_T d 181 14 [a0, a1, a2, .int x, a4] st z h Q = ni_T d 181 15 [a0, a1, a2, .int x, a4] (.int x :: st) z h Q := ni_T_p rfl rfl
theorem s181_15 : ni_T d 181 15 [a0, a1, a2, a3, a4] st z h Q = ni_T d 181 17 [a0, a1, a2, a3, a4] (.int 20 :: st) z h Q := ni_T_p rfl rfl
theorem s181_17 : ni_T d 181 17 [a0, a1, a2, a3, a4] (.int y :: .int x :: st) z h Q = if x ≤ y then ni_T d 181 24 [a0, a1, a2, a3, a4] st z h Q else ni_T d 181 20 [a0, a1, a2, a3, a4] st z h Q := ni_T_b rfl rfl
theorem s181_20 : ni_T d 181 20 [a0, a1, a2, a3, a4] st z h Q = ni_T d 181 22 [a0, a1, a2, a3, a4] (.int (-6) :: st) z h Q := ni_T_p rfl rfl
theorem s181_22 : ni_T d 181 22 [a0, a1, a2, a3, a4] (.int x :: st) z h Q = ni_T d 181 24 [a0, a1, a2, ni_kl a3, .int x] st z h Q := ni_T_p rfl rfl
theorem s181_24 : ni_T d 181 24 [a0, a1, a2, a3, .int x] st z h Q = ni_T d 181 26 [a0, a1, a2, a3, .int x] (.int x :: st) z h Q := ni_T_p rfl rfl
theorem s181_26 : ni_T d 181 26 [a0, a1, a2, a3, a4] (.int x :: st) z h Q = if x = 0 then ni_T d 181 38 [a0, a1, a2, a3, a4] st z h Q else ni_T d 181 29 [a0, a1, a2, a3, a4] st z h Q := ni_T_b rfl rfl
theorem s181_29 : ni_T d 181 29 [.ref o, a1, a2, a3, a4] st z h Q = ni_T d 181 30 [.ref o, a1, a2, a3, a4] (.ref o :: st) z h Q := ni_T_p rfl rfl
theorem s181_30 : ni_T d 181 30 [a0, a1, a2, a3, .int x] st z h Q = ni_T d 181 32 [a0, a1, a2, a3, .int x] (.int x :: st) z h Q := ni_T_p rfl rfl
theorem s181_32 : ni_T (d + 1) 181 32 [a0, a1, a2, a3, a4] (.int x0 :: .ref o :: st) z h Q = (ni_rc (h o) 7 = true ∧ Nat.ble (ni_sw st) 8 = true ∧ ni_T d 121 0 [.ref o, .int x0] [] z h (ni_K (d + 1) 181 35 [a0, a1, a2, a3, a4] st z Q)) := ni_T_ce [.ref o, .int x0] rfl rfl rfl rfl rfl rfl rfl rfl rfl
theorem s181_35 : ni_T d 181 35 [a0, a1, a2, a3, a4] st z h Q = ni_T d 181 45 [a0, a1, a2, a3, a4] st z h Q := ni_T_p rfl rfl
theorem s181_38 : ni_T d 181 38 [.ref o, a1, a2, a3, a4] st z h Q = ni_T d 181 39 [.ref o, a1, a2, a3, a4] (.ref o :: st) z h Q := ni_T_p rfl rfl
theorem s181_39 : ni_T d 181 39 [a0, .int x, a2, a3, a4] st z h Q = ni_T d 181 40 [a0, .int x, a2, a3, a4] (.int x :: st) z h Q := ni_T_p rfl rfl
theorem s181_40 : ni_T d 181 40 [a0, a1, .int x, a3, a4] st z h Q = ni_T d 181 41 [a0, a1, .int x, a3, a4] (.int x :: st) z h Q := ni_T_p rfl rfl
theorem s181_41 : ni_T d 181 41 [a0, a1, a2, .int x, a4] st z h Q = ni_T d 181 42 [a0, a1, a2, .int x, a4] (.int x :: st) z h Q := ni_T_p rfl rfl
theorem s181_42 : ni_T (d + 1) 181 42 [a0, a1, a2, a3, a4] (.int x2 :: .int x1 :: .int x0 :: .ref o :: st) z h Q = (ni_rc (h o) 7 = true ∧ Nat.ble (ni_sw st) 8 = true ∧ ni_T d 180 0 [.ref o, .int x0, .int x1, .int x2, .retAddr 0, .retAddr 0, .retAddr 0, .retAddr 0, .retAddr 0, .retAddr 0] [] z h (ni_K (d + 1) 181 45 [a0, a1, a2, a3, a4] st z Q)) := ni_T_ce [.ref o, .int x0, .int x1, .int x2] rfl rfl rfl rfl rfl rfl rfl rfl rfl
theorem s181_45 : ni_T d 181 45 [a0, a1, a2, a3, a4] [.int x] z h Q = Q (some (.int x)) z h := ni_T_i rfl rfl
theorem s182_0 : ni_T d 182 0 [.ref o, a1, a2, a3, a4] st z h Q = ni_T d 182 1 [.ref o, a1, a2, a3, a4] (.ref o :: st) z h Q := ni_T_p rfl rfl
theorem s182_1 : ni_T d 182 1 [a0, .int x, a2, a3, a4] st z h Q = ni_T d 182 2 [a0, .int x, a2, a3, a4] (.int x :: st) z h Q := ni_T_p rfl rfl
theorem s182_2 : ni_T d 182 2 [a0, a1, .int x, a3, a4] st z h Q = ni_T d 182 3 [a0, a1, .int x, a3, a4] (.int x :: st) z h Q := ni_T_p rfl rfl
theorem s182_3 : ni_T d 182 3 [a0, a1, a2, .int x, a4] st z h Q = ni_T d 182 4 [a0, a1, a2, .int x, a4] (.int x :: st) z h Q := ni_T_p rfl rfl
theorem s182_4 : ni_T (d + 1) 182 4 [a0, a1, a2, a3, a4] (.int x2 :: .int x1 :: .int x0 :: .ref o :: st) z h Q = (ni_rc (h o) 7 = true ∧ Nat.ble (ni_sw st) 8 = true ∧ ni_T d 134 0 [.ref o, .int x0, .int x1, .int x2, .retAddr 0] [] z h (ni_K (d + 1) 182 7 [a0, a1, a2, a3, a4] st z Q)) := ni_T_ce [.ref o, .int x0, .int x1, .int x2] rfl rfl rfl rfl rfl rfl rfl rfl rfl
theorem s182_7 : ni_T d 182 7 [a0, a1, a2, a3, a4] (.int x :: st) z h Q = ni_T d 182 9 [a0, a1, a2, ni_kl a3, .int x] st z h Q := ni_T_p rfl rfl
theorem s182_9 : ni_T d 182 9 [a0, a1, a2, a3, .int x] st z h Q = ni_T d 182 11 [a0, a1, a2, a3, .int x] (.int x :: st) z h Q := ni_T_p rfl rfl
theorem s182_11 : ni_T d 182 11 [a0, a1, a2, a3, a4] (.int x :: st) z h Q = if x = 0 then ni_T d 182 14 [a0, a1, a2, a3, a4] st z h Q else ni_T d 182 35 [a0, a1, a2, a3, a4] st z h Q := ni_T_b rfl rfl
theorem s182_14 : ni_T d 182 14 [a0, a1, a2, .int x, a4] st z h Q = ni_T d 182 15 [a0, a1, a2, .int x, a4] (.int x :: st) z h Q := ni_T_p rfl rfl
theorem s182_15 : ni_T d 182 15 [a0, a1, a2, a3, a4] st z h Q = ni_T d 182 17 [a0, a1, a2, a3, a4] (.int 20 :: st) z h Q := ni_T_p rfl rfl
theorem s182_17 : ni_T d 182 17 [a0, a1, a2, a3, a4] (.int y :: .int x :: st) z h Q = if y < x then ni_T d 182 31 [a0, a1, a2, a3, a4] st z h Q else ni_T d 182 20 [a0, a1, a2, a3, a4] st z h Q := ni_T_b rfl rfl
theorem s182_20 : ni_T d 182 20 [.ref o, a1, a2, a3, a4] st z h Q = ni_T d 182 21 [.ref o, a1, a2, a3, a4] (.ref o :: st) z h Q := ni_T_p rfl rfl
theorem s182_21 : ni_T d 182 21 [a0, .int x, a2, a3, a4] st z h Q = ni_T d 182 22 [a0, .int x, a2, a3, a4] (.int x :: st) z h Q := ni_T_p rfl rfl
theorem s182_22 : ni_T d 182 22 [a0, a1, .int x, a3, a4] st z h Q = ni_T d 182 23 [a0, a1, .int x, a3, a4] (.int x :: st) z h Q := ni_T_p rfl rfl
theorem s182_23 : ni_T d 182 23 [a0, a1, a2, .int x, a4] st z h Q = ni_T d 182 24 [a0, a1, a2, .int x, a4] (.int x :: st) z h Q := ni_T_p rfl rfl
theorem s182_24 : ni_T (d + 1) 182 24 [a0, a1, a2, a3, a4] (.int x2 :: .int x1 :: .int x0 :: .ref o :: st) z h Q = (ni_rc (h o) 7 = true ∧ Nat.ble (ni_sw st) 8 = true ∧ ni_T d 180 0 [.ref o, .int x0, .int x1, .int x2, .retAddr 0, .retAddr 0, .retAddr 0, .retAddr 0, .retAddr 0, .retAddr 0] [] z h (ni_K (d + 1) 182 27 [a0, a1, a2, a3, a4] st z Q)) := ni_T_ce [.ref o, .int x0, .int x1, .int x2] rfl rfl rfl rfl rfl rfl rfl rfl rfl
theorem s182_27 : ni_T d 182 27 [a0, a1, a2, a3, a4] st z h Q = ni_T d 182 28 [a0, a1, a2, a3, a4] (.int (-1) :: st) z h Q := ni_T_p rfl rfl
theorem s182_28 : ni_T d 182 28 [a0, a1, a2, a3, a4] (.int y :: .int x :: st) z h Q = if x = y then ni_T d 182 35 [a0, a1, a2, a3, a4] st z h Q else ni_T d 182 31 [a0, a1, a2, a3, a4] st z h Q := ni_T_b rfl rfl
theorem s182_31 : ni_T d 182 31 [a0, a1, a2, a3, a4] st z h Q = ni_T d 182 33 [a0, a1, a2, a3, a4] (.int (-6) :: st) z h Q := ni_T_p rfl rfl
theorem s182_33 : ni_T d 182 33 [a0, a1, a2, a3, a4] (.int x :: st) z h Q = ni_T d 182 35 [a0, a1, a2, ni_kl a3, .int x] st z h Q := ni_T_p rfl rfl
theorem s182_35 : ni_T d 182 35 [a0, a1, a2, a3, .int x] st z h Q = ni_T d 182 37 [a0, a1, a2, a3, .int x] (.int x :: st) z h Q := ni_T_p rfl rfl
theorem s182_37 : ni_T d 182 37 [a0, a1, a2, a3, a4] (.int x :: st) z h Q = if x = 0 then ni_T d 182 49 [a0, a1, a2, a3, a4] st z h Q else ni_T d 182 40 [a0, a1, a2, a3, a4] st z h Q := ni_T_b rfl rfl
theorem s182_40 : ni_T d 182 40 [.ref o, a1, a2, a3, a4] st z h Q = ni_T d 182 41 [.ref o, a1, a2, a3, a4] (.ref o :: st) z h Q := ni_T_p rfl rfl
theorem s182_41 : ni_T d 182 41 [a0, a1, a2, a3, .int x] st z h Q = ni_T d 182 43 [a0, a1, a2, a3, .int x] (.int x :: st) z h Q := ni_T_p rfl rfl
theorem s182_43 : ni_T (d + 1) 182 43 [a0, a1, a2, a3, a4] (.int x0 :: .ref o :: st) z h Q = (ni_rc (h o) 7 = true ∧ Nat.ble (ni_sw st) 8 = true ∧ ni_T d 120 0 [.ref o, .int x0] [] z h (ni_K (d + 1) 182 46 [a0, a1, a2, a3, a4] st z Q)) := ni_T_ce [.ref o, .int x0] rfl rfl rfl rfl rfl rfl rfl rfl rfl
theorem s182_46 : ni_T d 182 46 [a0, a1, a2, a3, a4] st z h Q = ni_T d 182 53 [a0, a1, a2, a3, a4] st z h Q := ni_T_p rfl rfl
theorem s182_49 : ni_T d 182 49 [.ref o, a1, a2, a3, a4] st z h Q = ni_T d 182 50 [.ref o, a1, a2, a3, a4] (.ref o :: st) z h Q := ni_T_p rfl rfl
theorem s182_50 : ni_T d 182 50 [a0, a1, a2, a3, a4] (.ref o :: st) z h Q = (ni_is (h o) 7 29 = true ∧ ni_T d 182 53 [a0, a1, a2, a3, a4] (ni_gv (h o) 29 :: st) z h Q) := ni_T_getf rfl
theorem s182_53 : ni_T d 182 53 [a0, a1, a2, a3, a4] [.int x] z h Q = Q (some (.int x)) z h := ni_T_i rfl rfl
theorem s183_0 : ni_T d 183 0 [.ref o, a1] st z h Q = ni_T d 183 1 [.ref o, a1] (.ref o :: st) z h Q := ni_T_p rfl rfl
theorem s183_1 : ni_T d 183 1 [.ref o, a1] st z h Q = ni_T d 183 2 [.ref o, a1] (.ref o :: st) z h Q := ni_T_p rfl rfl
theorem s183_2 : ni_T d 183 2 [a0, a1] (.ref o :: st) z h Q = (ni_is (h o) 7 3 = true ∧ ni_T d 183 5 [a0, a1] (ni_gv (h o) 3 :: st) z h Q) := ni_T_getf rfl
theorem s183_5 : ni_T d 183 5 [a0, a1] st z h Q = ni_T d 183 7 [a0, a1] (.int 1103515245 :: st) z h Q := ni_T_hse rfl rfl rfl rfl
theorem s183_7 : ni_T d 183 7 [a0, a1] (.int y :: .int x :: st) z h Q = ni_T d 183 8 [a0, a1] (.int (x * y) :: st) z h Q := ni_T_p rfl rfl
theorem s183_8 : ni_T d 183 8 [a0, a1] st z h Q = ni_T d 183 11 [a0, a1] (.int 12345 :: st) z h Q := ni_T_p rfl rfl
theorem s183_11 : ni_T d 183 11 [a0, a1] (.int y :: .int x :: st) z h Q = ni_T d 183 12 [a0, a1] (.int (x + y) :: st) z h Q := ni_T_p rfl rfl
theorem s183_12 : ni_T d 183 12 [a0, a1] (b0 :: .ref o :: st) z h Q = ((Nat.ble 7 7 && ni_is (h o) 7 3 && ni_fit (.int) b0) = true ∧ ni_T d 183 15 [a0, a1] st z (ni_up h o (ni_pv (h o) 3 b0)) Q) := ni_T_putf rfl
theorem s183_15 : ni_T d 183 15 [.ref o, a1] st z h Q = ni_T d 183 16 [.ref o, a1] (.ref o :: st) z h Q := ni_T_p rfl rfl
theorem s183_16 : ni_T d 183 16 [a0, a1] (.ref o :: st) z h Q = (ni_is (h o) 7 3 = true ∧ ni_T d 183 19 [a0, a1] (ni_gv (h o) 3 :: st) z h Q) := ni_T_getf rfl
theorem s183_19 : ni_T d 183 19 [a0, a1] st z h Q = ni_T d 183 21 [a0, a1] (.int 16 :: st) z h Q := ni_T_p rfl rfl
theorem s183_21 : ni_T d 183 21 [a0, a1] (.int y :: .int x :: st) z h Q = ni_T d 183 22 [a0, a1] (.int ((x.toUInt32 >>> (y.toUInt32 &&& Int32.toUInt32 31)).toInt32) :: st) z h Q := ni_T_p rfl rfl
theorem s183_22 : ni_T d 183 22 [a0, .int x] st z h Q = ni_T d 183 23 [a0, .int x] (.int x :: st) z h Q := ni_T_p rfl rfl
theorem s183_23 : ni_T d 183 23 [a0, a1] (.int y :: .int x :: st) z h Q = (¬ y = 0 ∧ ni_T d 183 24 [a0, a1] (.int (x - x / y * y) :: st) z h Q) := ni_T_irem rfl
theorem s183_24 : ni_T d 183 24 [a0, a1] [.int x] z h Q = Q (some (.int x)) z h := ni_T_i rfl rfl
theorem s184_0 : ni_T d 184 0 [.ref o, a1, a2, a3, a4, a5, a6] st z h Q = ni_T d 184 1 [.ref o, a1, a2, a3, a4, a5, a6] (.ref o :: st) z h Q := ni_T_p rfl rfl
theorem s184_1 : ni_T d 184 1 [a0, a1, a2, a3, a4, a5, a6] (.ref o :: st) z h Q = (ni_is (h o) 7 1 = true ∧ ni_T d 184 4 [a0, a1, a2, a3, a4, a5, a6] (ni_gv (h o) 1 :: st) z h Q) := ni_T_getf rfl
theorem s184_4 : ni_T d 184 4 [a0, a1, a2, a3, a4, a5, a6] (.int x :: st) z h Q = ni_T d 184 5 [a0, a1, ni_kl a2, .int x, a4, a5, a6] st z h Q := ni_T_p rfl rfl
theorem s184_5 : ni_T d 184 5 [.ref o, a1, a2, a3, a4, a5, a6] st z h Q = ni_T d 184 6 [.ref o, a1, a2, a3, a4, a5, a6] (.ref o :: st) z h Q := ni_T_p rfl rfl
theorem s184_6 : ni_T d 184 6 [.ref o, a1, a2, a3, a4, a5, a6] st z h Q = ni_T d 184 7 [.ref o, a1, a2, a3, a4, a5, a6] (.ref o :: st) z h Q := ni_T_p rfl rfl
theorem s184_7 : ni_T (d + 1) 184 7 [a0, a1, a2, a3, a4, a5, a6] (.ref o :: st) z h Q = (ni_rc (h o) 7 = true ∧ Nat.ble (ni_sw st) 8 = true ∧ ni_T d 143 0 [.ref o, .retAddr 0, .retAddr 0] [] z h (ni_K (d + 1) 184 10 [a0, a1, a2, a3, a4, a5, a6] st z Q)) := ni_T_ce [.ref o] rfl rfl rfl rfl rfl rfl rfl rfl rfl
theorem s184_10 : ni_T d 184 10 [a0, a1, a2, a3, a4, a5, a6] (b0 :: .ref o :: st) z h Q = ((Nat.ble 7 7 && ni_is (h o) 7 27 && ni_fit (.int) b0) = true ∧ ni_T d 184 13 [a0, a1, a2, a3, a4, a5, a6] st z (ni_up h o (ni_pv (h o) 27 b0)) Q) := ni_T_putf rfl
theorem s184_13 : ni_T d 184 13 [.ref o, a1, a2, a3, a4, a5, a6] st z h Q = ni_T d 184 14 [.ref o, a1, a2, a3, a4, a5, a6] (.ref o :: st) z h Q := ni_T_p rfl rfl
theorem s184_14 : ni_T d 184 14 [a0, a1, a2, .int x, a4, a5, a6] st z h Q = ni_T d 184 15 [a0, a1, a2, .int x, a4, a5, a6] (.int x :: st) z h Q := ni_T_p rfl rfl
theorem s184_15 : ni_T d 184 15 [a0, .int x, a2, a3, a4, a5, a6] st z h Q = ni_T d 184 16 [a0, .int x, a2, a3, a4, a5, a6] (.int x :: st) z h Q := ni_T_p rfl rfl
theorem s184_16 : ni_T d 184 16 [a0, a1, .int x, a3, a4, a5, a6] st z h Q = ni_T d 184 17 [a0, a1, .int x, a3, a4, a5, a6] (.int x :: st) z h Q := ni_T_p rfl rfl
theorem s184_17 : ni_T (d + 1) 184 17 [a0, a1, a2, a3, a4, a5, a6] (.int x2 :: .int x1 :: .int x0 :: .ref o :: st) z h Q = (ni_rc (h o) 7 = true ∧ Nat.ble (ni_sw st) 8 = true ∧ ni_T d 163 0 [.ref o, .int x0, .int x1, .int x2, .retAddr 0, .retAddr 0, .retAddr 0, .retAddr 0] [] z h (ni_K (d + 1) 184 20 [a0, a1, a2, a3, a4, a5, a6] st z Q)) := ni_T_ce [.ref o, .int x0, .int x1, .int x2] rfl rfl rfl rfl rfl rfl rfl rfl rfl
theorem s184_20 : ni_T d 184 20 [a0, a1, a2, a3, a4, a5, a6] (.int x :: st) z h Q = ni_T d 184 22 [a0, a1, a2, ni_kl a3, .int x, a5, a6] st z h Q := ni_T_p rfl rfl
theorem s184_22 : ni_T d 184 22 [.ref o, a1, a2, a3, a4, a5, a6] st z h Q = ni_T d 184 23 [.ref o, a1, a2, a3, a4, a5, a6] (.ref o :: st) z h Q := ni_T_p rfl rfl
theorem s184_23 : ni_T d 184 23 [a0, a1, a2, a3, a4, a5, a6] st z h Q = ni_T d 184 25 [a0, a1, a2, a3, a4, a5, a6] (.int 100 :: st) z h Q := ni_T_p rfl rfl
theorem s184_25 : ni_T (d + 1) 184 25 [a0, a1, a2, a3, a4, a5, a6] (.int x0 :: .ref o :: st) z h Q = (ni_rc (h o) 7 = true ∧ Nat.ble (ni_sw st) 8 = true ∧ ni_T d 183 0 [.ref o, .int x0] [] z h (ni_K (d + 1) 184 28 [a0, a1, a2, a3, a4, a5, a6] st z Q)) := ni_T_ce [.ref o, .int x0] rfl rfl rfl rfl rfl rfl rfl rfl rfl
theorem s184_28 : ni_T d 184 28 [a0, a1, a2, a3, .int x, a5, a6] st z h Q = ni_T d 184 30 [a0, a1, a2, a3, .int x, a5, a6] (.int x :: st) z h Q := ni_T_p rfl rfl
theorem s184_30 : ni_T d 184 30 [a0, a1, a2, a3, a4, a5, a6] (.int y :: .int x :: st) z h Q = if y ≤ x then ni_T d 184 37 [a0, a1, a2, a3, a4, a5, a6] st z h Q else ni_T d 184 33 [a0, a1, a2, a3, a4, a5, a6] st z h Q := ni_T_b rfl rfl
theorem s184_33 : ni_T d 184 33 [a0, a1, a2, a3, a4, a5, a6] st z h Q = ni_T d 184 34 [a0, a1, a2, a3, a4, a5, a6] (.int 1 :: st) z h Q := ni_T_p rfl rfl
theorem s184_34 : ni_T d 184 34 [a0, a1, a2, a3, a4, a5, a6] st z h Q = ni_T d 184 38 [a0, a1, a2, a3, a4, a5, a6] st z h Q := ni_T_p rfl rfl
theorem s184_37 : ni_T d 184 37 [a0, a1, a2, a3, a4, a5, a6] st z h Q = ni_T d 184 38 [a0, a1, a2, a3, a4, a5, a6] (.int 0 :: st) z h Q := ni_T_p rfl rfl
theorem s184_38 : ni_T d 184 38 [a0, a1, a2, a3, a4, a5, a6] (.int x :: st) z h Q = ni_T d 184 40 [a0, a1, a2, a3, ni_kl a4, .int x, a6] st z h Q := ni_T_p rfl rfl
theorem s184_40 : ni_T d 184 40 [.ref o, a1, a2, a3, a4, a5, a6] st z h Q = ni_T d 184 41 [.ref o, a1, a2, a3, a4, a5, a6] (.ref o :: st) z h Q := ni_T_p rfl rfl
theorem s184_41 : ni_T d 184 41 [a0, a1, a2, a3, a4, a5, a6] (.ref o :: st) z h Q = (ni_is (h o) 7 10 = true ∧ ni_T d 184 44 [a0, a1, a2, a3, a4, a5, a6] (ni_gv (h o) 10 :: st) z h Q) := ni_T_getf rfl
theorem s184_44 : ni_T d 184 44 [a0, a1, a2, .int x, a4, a5, a6] st z h Q = ni_T d 184 45 [a0, a1, a2, .int x, a4, a5, a6] (.int x :: st) z h Q := ni_T_p rfl rfl
theorem s184_45 : ni_T d 184 45 [a0, a1, a2, a3, a4, a5, a6] (.int x :: .ref o :: st) z h Q = ni_T d 184 46 [a0, a1, a2, a3, a4, a5, a6] (.int x :: .ref o :: .int x :: .ref o :: st) z h Q := ni_T_p rfl rfl
theorem s184_46 : ni_T d 184 46 [a0, a1, a2, a3, a4, a5, a6] (.int x :: .ref o :: st) z h Q = (ni_okI (h o) x = true ∧ ni_T d 184 47 [a0, a1, a2, a3, a4, a5, a6] (.int (ni_gi (h o) x) :: st) z h Q) := ni_T_iald rfl
theorem s184_47 : ni_T d 184 47 [a0, a1, a2, a3, a4, a5, a6] st z h Q = ni_T d 184 48 [a0, a1, a2, a3, a4, a5, a6] (.int 1 :: st) z h Q := ni_T_p rfl rfl
theorem s184_48 : ni_T d 184 48 [a0, a1, a2, a3, a4, a5, a6] (.int y :: .int x :: st) z h Q = ni_T d 184 49 [a0, a1, a2, a3, a4, a5, a6] (.int (x + y) :: st) z h Q := ni_T_p rfl rfl
theorem s184_49 : ni_T d 184 49 [a0, a1, a2, a3, a4, a5, a6] (.int y :: .int x :: .ref o :: st) z h Q = (ni_okS (h o) x = true ∧ ni_T d 184 50 [a0, a1, a2, a3, a4, a5, a6] st z (ni_up h o (ni_pi (h o) x y)) Q) := ni_T_iast rfl
theorem s184_50 : ni_T d 184 50 [a0, a1, a2, a3, a4, a5, a6] st z h Q = ni_T d 184 51 [a0, a1, a2, a3, a4, a5, a6] (.int 0 :: st) z h Q := ni_T_p rfl rfl
theorem s184_51 : ni_T d 184 51 [a0, a1, a2, a3, a4, a5, a6] (.int x :: st) z h Q = ni_T d 184 53 [a0, a1, a2, a3, a4, ni_kl a5, .int x] st z h Q := ni_T_p rfl rfl
theorem s184_53 : ni_T d 184 53 [a0, a1, a2, a3, a4, a5, .int x] st z h Q = ni_T d 184 55 [a0, a1, a2, a3, a4, a5, .int x] (.int x :: st) z h Q := ni_T_p rfl rfl
theorem s184_55 : ni_T d 184 55 [a0, a1, a2, a3, a4, a5, a6] st z h Q = ni_T d 184 56 [a0, a1, a2, a3, a4, a5, a6] (.int 5 :: st) z h Q := ni_T_p rfl rfl
theorem s184_56 : ni_T d 184 56 [a0, a1, a2, a3, a4, a5, a6] (.int y :: .int x :: st) z h Q = if y ≤ x then ni_T d 184 88 [a0, a1, a2, a3, a4, a5, a6] st z h Q else ni_T d 184 59 [a0, a1, a2, a3, a4, a5, a6] st z h Q := ni_T_b rfl rfl
theorem s184_59 : ni_T d 184 59 [a0, a1, a2, a3, a4, .int x, a6] st z h Q = ni_T d 184 61 [a0, a1, a2, a3, a4, .int x, a6] (.int x :: st) z h Q := ni_T_p rfl rfl
theorem s184_61 : ni_T d 184 61 [a0, a1, a2, a3, a4, a5, a6] (.int x :: st) z h Q = if x = 0 then ni_T d 184 74 [a0, a1, a2, a3, a4, a5, a6] st z h Q else ni_T d 184 64 [a0, a1, a2, a3, a4, a5, a6] st z h Q := ni_T_b rfl rfl
theorem s184_64 : ni_T d 184 64 [a0, .int x, a2, a3, a4, a5, a6] st z h Q = ni_T d 184 65 [a0, .int x, a2, a3, a4, a5, a6] (.int x :: st) z h Q := ni_T_p rfl rfl
theorem s184_65 : ni_T d 184 65 [a0, a1, a2, a3, a4, a5, .int x] st z h Q = ni_T d 184 67 [a0, a1, a2, a3, a4, a5, .int x] (.int x :: st) z h Q := ni_T_p rfl rfl
theorem s184_67 : ni_T d 184 67 [a0, a1, a2, a3, a4, a5, a6] (.int y :: .int x :: st) z h Q = ni_T d 184 68 [a0, a1, a2, a3, a4, a5, a6] (.int (x >>> (y &&& 31)) :: st) z h Q := ni_T_p rfl rfl
theorem s184_68 : ni_T d 184 68 [a0, a1, a2, a3, a4, a5, a6] st z h Q = ni_T d 184 69 [a0, a1, a2, a3, a4, a5, a6] (.int 1 :: st) z h Q := ni_T_p rfl rfl
theorem s184_69 : ni_T d 184 69 [a0, a1, a2, a3, a4, a5, a6] (.int y :: .int x :: st) z h Q = ni_T d 184 70 [a0, a1, a2, a3, a4, a5, a6] (.int (x &&& y) :: st) z h Q := ni_T_p rfl rfl
theorem s184_70 : ni_T d 184 70 [a0, a1, a2, a3, a4, a5, a6] st z h Q = ni_T d 184 71 [a0, a1, a2, a3, a4, a5, a6] (.int 1 :: st) z h Q := ni_T_p rfl rfl
theorem s184_71 : ni_T d 184 71 [a0, a1, a2, a3, a4, a5, a6] (.int y :: .int x :: st) z h Q = if x = y then ni_T d 184 74 [a0, a1, a2, a3, a4, a5, a6] st z h Q else ni_T d 184 82 [a0, a1, a2, a3, a4, a5, a6] st z h Q := ni_T_b rfl rfl
theorem s184_74 : ni_T d 184 74 [.ref o, a1, a2, a3, a4, a5, a6] st z h Q = ni_T d 184 75 [.ref o, a1, a2, a3, a4, a5, a6] (.ref o :: st) z h Q := ni_T_p rfl rfl
theorem s184_75 : ni_T d 184 75 [a0, a1, a2, a3, a4, a5, a6] (.ref o :: st) z h Q = (ni_is (h o) 7 11 = true ∧ ni_T d 184 78 [a0, a1, a2, a3, a4, a5, a6] (ni_gv (h o) 11 :: st) z h Q) := ni_T_getf rfl
theorem s184_78 : ni_T d 184 78 [a0, a1, a2, a3, a4, a5, .int x] st z h Q = ni_T d 184 80 [a0, a1, a2, a3, a4, a5, .int x] (.int x :: st) z h Q := ni_T_p rfl rfl
theorem s184_80 : ni_T d 184 80 [a0, a1, a2, a3, a4, a5, a6] st z h Q = ni_T d 184 81 [a0, a1, a2, a3, a4, a5, a6] (.int (-1) :: st) z h Q := ni_T_p rfl rfl
theorem s184_81 : ni_T d 184 81 [a0, a1, a2, a3, a4, a5, a6] (.int y :: .int x :: .ref o :: st) z h Q = (ni_okS (h o) x = true ∧ ni_T d 184 82 [a0, a1, a2, a3, a4, a5, a6] st z (ni_up h o (ni_pi (h o) x y)) Q) := ni_T_iast rfl
theorem s184_82 : ni_T d 184 82 [a0, a1, a2, a3, a4, a5, .int x] st z h Q = ni_T d 184 85 [a0, a1, a2, a3, a4, ni_kl a5, .int (x + 1)] st z h Q := ni_T_p rfl rfl
theorem s184_85 : ni_T d 184 85 [a0, a1, a2, a3, a4, a5, a6] st z h Q = ni_T d 184 53 [a0, a1, a2, a3, a4, a5, a6] st z h Q := ni_T_p rfl rfl
theorem s184_88 : ni_T d 184 88 [a0, a1, a2, a3, a4, .int x, a6] st z h Q = ni_T d 184 90 [a0, a1, a2, a3, a4, .int x, a6] (.int x :: st) z h Q := ni_T_p rfl rfl
theorem s184_90 : ni_T d 184 90 [a0, a1, a2, a3, a4, a5, a6] (.int x :: st) z h Q = if x = 0 then ni_T d 184 93 [a0, a1, a2, a3, a4, a5, a6] st z h Q else ni_T d 184 121 [a0, a1, a2, a3, a4, a5, a6] st z h Q := ni_T_b rfl rfl
theorem s184_93 : ni_T d 184 93 [.ref o, a1, a2, a3, a4, a5, a6] st z h Q = ni_T d 184 94 [.ref o, a1, a2, a3, a4, a5, a6] (.ref o :: st) z h Q := ni_T_p rfl rfl
theorem s184_94 : ni_T d 184 94 [a0, a1, a2, a3, a4, a5, a6] (.ref o :: st) z h Q = ni_T d 184 95 [a0, a1, a2, a3, a4, a5, a6] (.ref o :: .ref o :: st) z h Q := ni_T_p rfl rfl
theorem s184_94i : ni_T d 184 94 [a0, a1, a2, a3, a4, a5, a6] (.int x :: st) z h Q = ni_T d 184 95 [a0, a1, a2, a3, a4, a5, a6] (.int x :: .int x :: st) z h Q := ni_T_p rfl rfl
theorem s184_95 : ni_T d 184 95 [a0, a1, a2, a3, a4, a5, a6] (.ref o :: st) z h Q = (ni_is (h o) 7 2 = true ∧ ni_T d 184 98 [a0, a1, a2, a3, a4, a5, a6] (ni_gv (h o) 2 :: st) z h Q) := ni_T_getf rfl
theorem s184_98 : ni_T d 184 98 [a0, a1, a2, a3, a4, a5, a6] st z h Q = ni_T d 184 99 [a0, a1, a2, a3, a4, a5, a6] (.int 1 :: st) z h Q := ni_T_p rfl rfl
theorem s184_99 : ni_T d 184 99 [a0, a1, a2, a3, a4, a5, a6] (.int y :: .int x :: st) z h Q = ni_T d 184 100 [a0, a1, a2, a3, a4, a5, a6] (.int (x + y) :: st) z h Q := ni_T_p rfl rfl
theorem s184_100 : ni_T d 184 100 [a0, a1, a2, a3, a4, a5, a6] (b0 :: .ref o :: st) z h Q = ((Nat.ble 7 7 && ni_is (h o) 7 2 && ni_fit (.int) b0) = true ∧ ni_T d 184 103 [a0, a1, a2, a3, a4, a5, a6] st z (ni_up h o (ni_pv (h o) 2 b0)) Q) := ni_T_putf rfl
theorem s184_103 : ni_T d 184 103 [.ref o, a1, a2, a3, a4, a5, a6] st z h Q = ni_T d 184 104 [.ref o, a1, a2, a3, a4, a5, a6] (.ref o :: st) z h Q := ni_T_p rfl rfl
theorem s184_104 : ni_T d 184 104 [.ref o, a1, a2, a3, a4, a5, a6] st z h Q = ni_T d 184 105 [.ref o, a1, a2, a3, a4, a5, a6] (.ref o :: st) z h Q := ni_T_p rfl rfl
theorem s184_105 : ni_T d 184 105 [a0, a1, a2, a3, a4, a5, a6] (.ref o :: st) z h Q = (ni_is (h o) 7 1 = true ∧ ni_T d 184 108 [a0, a1, a2, a3, a4, a5, a6] (ni_gv (h o) 1 :: st) z h Q) := ni_T_getf rfl
theorem s184_108 : ni_T d 184 108 [a0, a1, a2, a3, a4, a5, a6] st z h Q = ni_T d 184 109 [a0, a1, a2, a3, a4, a5, a6] (.int 1 :: st) z h Q := ni_T_p rfl rfl
theorem s184_109 : ni_T d 184 109 [a0, a1, a2, a3, a4, a5, a6] (.int y :: .int x :: st) z h Q = ni_T d 184 110 [a0, a1, a2, a3, a4, a5, a6] (.int (x + y) :: st) z h Q := ni_T_p rfl rfl
theorem s184_110 : ni_T d 184 110 [.ref o, a1, a2, a3, a4, a5, a6] st z h Q = ni_T d 184 111 [.ref o, a1, a2, a3, a4, a5, a6] (.ref o :: st) z h Q := ni_T_p rfl rfl
theorem s184_111 : ni_T d 184 111 [a0, a1, a2, a3, a4, a5, a6] (.ref o :: st) z h Q = (ni_is (h o) 7 0 = true ∧ ni_T d 184 114 [a0, a1, a2, a3, a4, a5, a6] (ni_gv (h o) 0 :: st) z h Q) := ni_T_getf rfl
theorem s184_114 : ni_T d 184 114 [a0, a1, a2, a3, a4, a5, a6] (.int y :: .int x :: st) z h Q = (¬ y = 0 ∧ ni_T d 184 115 [a0, a1, a2, a3, a4, a5, a6] (.int (x - x / y * y) :: st) z h Q) := ni_T_irem rfl
theorem s184_115 : ni_T d 184 115 [a0, a1, a2, a3, a4, a5, a6] (b0 :: .ref o :: st) z h Q = ((Nat.ble 7 7 && ni_is (h o) 7 1 && ni_fit (.int) b0) = true ∧ ni_T d 184 118 [a0, a1, a2, a3, a4, a5, a6] st z (ni_up h o (ni_pv (h o) 1 b0)) Q) := ni_T_putf rfl
theorem s184_118 : ni_T d 184 118 [a0, a1, a2, a3, a4, a5, a6] st z h Q = ni_T d 184 176 [a0, a1, a2, a3, a4, a5, a6] st z h Q := ni_T_p rfl rfl
theorem s184_121 : ni_T d 184 121 [.ref o, a1, a2, a3, a4, a5, a6] st z h Q = ni_T d 184 122 [.ref o, a1, a2, a3, a4, a5, a6] (.ref o :: st) z h Q := ni_T_p rfl rfl
theorem s184_122 : ni_T (d + 1) 184 122 [a0, a1, a2, a3, a4, a5, a6] (.ref o :: st) z h Q = (ni_rc (h o) 7 = true ∧ Nat.ble (ni_sw st) 8 = true ∧ ni_T d 143 0 [.ref o, .retAddr 0, .retAddr 0] [] z h (ni_K (d + 1) 184 125 [a0, a1, a2, a3, a4, a5, a6] st z Q)) := ni_T_ce [.ref o] rfl rfl rfl rfl rfl rfl rfl rfl rfl
theorem s184_125 : ni_T d 184 125 [a0, a1, a2, a3, a4, a5, a6] (.int x :: st) z h Q = if x = 0 then ni_T d 184 128 [a0, a1, a2, a3, a4, a5, a6] st z h Q else ni_T d 184 176 [a0, a1, a2, a3, a4, a5, a6] st z h Q := ni_T_b rfl rfl
theorem s184_128 : ni_T d 184 128 [.ref o, a1, a2, a3, a4, a5, a6] st z h Q = ni_T d 184 129 [.ref o, a1, a2, a3, a4, a5, a6] (.ref o :: st) z h Q := ni_T_p rfl rfl
theorem s184_129 : ni_T d 184 129 [a0, a1, a2, a3, a4, a5, a6] (.ref o :: st) z h Q = (ni_is (h o) 7 8 = true ∧ ni_T d 184 132 [a0, a1, a2, a3, a4, a5, a6] (ni_gv (h o) 8 :: st) z h Q) := ni_T_getf rfl
theorem s184_132 : ni_T d 184 132 [a0, a1, a2, .int x, a4, a5, a6] st z h Q = ni_T d 184 133 [a0, a1, a2, .int x, a4, a5, a6] (.int x :: st) z h Q := ni_T_p rfl rfl
theorem s184_133 : ni_T d 184 133 [.ref o, a1, a2, a3, a4, a5, a6] st z h Q = ni_T d 184 134 [.ref o, a1, a2, a3, a4, a5, a6] (.ref o :: st) z h Q := ni_T_p rfl rfl
theorem s184_134 : ni_T d 184 134 [a0, a1, a2, a3, a4, a5, a6] (.ref o :: st) z h Q = (ni_is (h o) 7 8 = true ∧ ni_T d 184 137 [a0, a1, a2, a3, a4, a5, a6] (ni_gv (h o) 8 :: st) z h Q) := ni_T_getf rfl
theorem s184_137 : ni_T d 184 137 [a0, a1, a2, .int x, a4, a5, a6] st z h Q = ni_T d 184 138 [a0, a1, a2, .int x, a4, a5, a6] (.int x :: st) z h Q := ni_T_p rfl rfl
theorem s184_138 : ni_T d 184 138 [a0, a1, a2, a3, a4, a5, a6] (.int x :: .ref o :: st) z h Q = (ni_okI (h o) x = true ∧ ni_T d 184 139 [a0, a1, a2, a3, a4, a5, a6] (.int (ni_gi (h o) x) :: st) z h Q) := ni_T_iald rfl
theorem s184_139 : ni_T d 184 139 [a0, a1, a2, a3, a4, a5, a6] st z h Q = ni_T d 184 140 [a0, a1, a2, a3, a4, a5, a6] (.int 4 :: st) z h Q := ni_T_p rfl rfl
theorem s184_140 : ni_T d 184 140 [a0, a1, a2, a3, a4, a5, a6] (.int y :: .int x :: st) z h Q = if x = y then ni_T d 184 143 [a0, a1, a2, a3, a4, a5, a6] st z h Q else ni_T d 184 147 [a0, a1, a2, a3, a4, a5, a6] st z h Q := ni_T_b rfl rfl
theorem s184_143 : ni_T d 184 143 [a0, a1, a2, a3, a4, a5, a6] st z h Q = ni_T d 184 144 [a0, a1, a2, a3, a4, a5, a6] (.int 1 :: st) z h Q := ni_T_p rfl rfl
theorem s184_144 : ni_T d 184 144 [a0, a1, a2, a3, a4, a5, a6] st z h Q = ni_T d 184 155 [a0, a1, a2, a3, a4, a5, a6] st z h Q := ni_T_p rfl rfl
theorem s184_147 : ni_T d 184 147 [.ref o, a1, a2, a3, a4, a5, a6] st z h Q = ni_T d 184 148 [.ref o, a1, a2, a3, a4, a5, a6] (.ref o :: st) z h Q := ni_T_p rfl rfl
theorem s184_148 : ni_T d 184 148 [a0, a1, a2, a3, a4, a5, a6] (.ref o :: st) z h Q = (ni_is (h o) 7 8 = true ∧ ni_T d 184 151 [a0, a1, a2, a3, a4, a5, a6] (ni_gv (h o) 8 :: st) z h Q) := ni_T_getf rfl
theorem s184_151 : ni_T d 184 151 [a0, a1, a2, .int x, a4, a5, a6] st z h Q = ni_T d 184 152 [a0, a1, a2, .int x, a4, a5, a6] (.int x :: st) z h Q := ni_T_p rfl rfl
theorem s184_152 : ni_T d 184 152 [a0, a1, a2, a3, a4, a5, a6] (.int x :: .ref o :: st) z h Q = (ni_okI (h o) x = true ∧ ni_T d 184 153 [a0, a1, a2, a3, a4, a5, a6] (.int (ni_gi (h o) x) :: st) z h Q) := ni_T_iald rfl
theorem s184_153 : ni_T d 184 153 [a0, a1, a2, a3, a4, a5, a6] st z h Q = ni_T d 184 154 [a0, a1, a2, a3, a4, a5, a6] (.int 1 :: st) z h Q := ni_T_p rfl rfl
theorem s184_154 : ni_T d 184 154 [a0, a1, a2, a3, a4, a5, a6] (.int y :: .int x :: st) z h Q = ni_T d 184 155 [a0, a1, a2, a3, a4, a5, a6] (.int (x + y) :: st) z h Q := ni_T_p rfl rfl
theorem s184_155 : ni_T d 184 155 [a0, a1, a2, a3, a4, a5, a6] (.int y :: .int x :: .ref o :: st) z h Q = (ni_okS (h o) x = true ∧ ni_T d 184 156 [a0, a1, a2, a3, a4, a5, a6] st z (ni_up h o (ni_pi (h o) x y)) Q) := ni_T_iast rfl
theorem s184_156 : ni_T d 184 156 [.ref o, a1, a2, a3, a4, a5, a6] st z h Q = ni_T d 184 157 [.ref o, a1, a2, a3, a4, a5, a6] (.ref o :: st) z h Q := ni_T_p rfl rfl
theorem s184_157 : ni_T d 184 157 [a0, a1, a2, a3, a4, a5, a6] (.ref o :: st) z h Q = (ni_is (h o) 7 8 = true ∧ ni_T d 184 160 [a0, a1, a2, a3, a4, a5, a6] (ni_gv (h o) 8 :: st) z h Q) := ni_T_getf rfl
theorem s184_160 : ni_T d 184 160 [a0, a1, a2, .int x, a4, a5, a6] st z h Q = ni_T d 184 161 [a0, a1, a2, .int x, a4, a5, a6] (.int x :: st) z h Q := ni_T_p rfl rfl
theorem s184_161 : ni_T d 184 161 [a0, a1, a2, a3, a4, a5, a6] (.int x :: .ref o :: st) z h Q = (ni_okI (h o) x = true ∧ ni_T d 184 162 [a0, a1, a2, a3, a4, a5, a6] (.int (ni_gi (h o) x) :: st) z h Q) := ni_T_iald rfl
theorem s184_162 : ni_T d 184 162 [a0, a1, a2, a3, a4, a5, a6] st z h Q = ni_T d 184 163 [a0, a1, a2, a3, a4, a5, a6] (.int 1 :: st) z h Q := ni_T_p rfl rfl
theorem s184_163 : ni_T d 184 163 [a0, a1, a2, a3, a4, a5, a6] (.int y :: .int x :: st) z h Q = if x = y then ni_T d 184 166 [a0, a1, a2, a3, a4, a5, a6] st z h Q else ni_T d 184 176 [a0, a1, a2, a3, a4, a5, a6] st z h Q := ni_T_b rfl rfl
theorem s184_166 : ni_T d 184 166 [.ref o, a1, a2, a3, a4, a5, a6] st z h Q = ni_T d 184 167 [.ref o, a1, a2, a3, a4, a5, a6] (.ref o :: st) z h Q := ni_T_p rfl rfl
theorem s184_167 : ni_T d 184 167 [a0, a1, a2, a3, a4, a5, a6] (.ref o :: st) z h Q = (ni_is (h o) 7 9 = true ∧ ni_T d 184 170 [a0, a1, a2, a3, a4, a5, a6] (ni_gv (h o) 9 :: st) z h Q) := ni_T_getf rfl
theorem s184_170 : ni_T d 184 170 [a0, a1, a2, .int x, a4, a5, a6] st z h Q = ni_T d 184 171 [a0, a1, a2, .int x, a4, a5, a6] (.int x :: st) z h Q := ni_T_p rfl rfl
theorem s184_171 : ni_T d 184 171 [a0, a1, a2, a3, a4, a5, a6] (.int x :: .ref o :: st) z h Q = ni_T d 184 172 [a0, a1, a2, a3, a4, a5, a6] (.int x :: .ref o :: .int x :: .ref o :: st) z h Q := ni_T_p rfl rfl
theorem s184_172 : ni_T d 184 172 [a0, a1, a2, a3, a4, a5, a6] (.int x :: .ref o :: st) z h Q = (ni_okI (h o) x = true ∧ ni_T d 184 173 [a0, a1, a2, a3, a4, a5, a6] (.int (ni_gi (h o) x) :: st) z h Q) := ni_T_iald rfl
theorem s184_173 : ni_T d 184 173 [a0, a1, a2, a3, a4, a5, a6] st z h Q = ni_T d 184 174 [a0, a1, a2, a3, a4, a5, a6] (.int 1 :: st) z h Q := ni_T_p rfl rfl
theorem s184_174 : ni_T d 184 174 [a0, a1, a2, a3, a4, a5, a6] (.int y :: .int x :: st) z h Q = ni_T d 184 175 [a0, a1, a2, a3, a4, a5, a6] (.int (x + y) :: st) z h Q := ni_T_p rfl rfl
theorem s184_175 : ni_T d 184 175 [a0, a1, a2, a3, a4, a5, a6] (.int y :: .int x :: .ref o :: st) z h Q = (ni_okS (h o) x = true ∧ ni_T d 184 176 [a0, a1, a2, a3, a4, a5, a6] st z (ni_up h o (ni_pi (h o) x y)) Q) := ni_T_iast rfl
theorem s184_176 : ni_T d 184 176 [a0, a1, a2, a3, a4, .int x, a6] st z h Q = ni_T d 184 178 [a0, a1, a2, a3, a4, .int x, a6] (.int x :: st) z h Q := ni_T_p rfl rfl
theorem s184_178 : ni_T d 184 178 [a0, a1, a2, a3, a4, a5, a6] [.int x] z h Q = (narrow .boolean (.int x) = .int x ∧ Q (some (.int x)) z h) := ni_T_z rfl rfl
theorem s185_0 : ni_T d 185 0 [.ref o, a1, a2] st z h Q = ni_T d 185 1 [.ref o, a1, a2] (.ref o :: st) z h Q := ni_T_p rfl rfl
theorem s185_1 : ni_T d 185 1 [a0, a1, a2] (.ref o :: st) z h Q = (ni_is (h o) 7 0 = true ∧ ni_T d 185 4 [a0, a1, a2] (ni_gv (h o) 0 :: st) z h Q) := ni_T_getf rfl
theorem s185_4 : ni_T d 185 4 [a0, a1, a2] (.int x :: st) z h Q = if x = 0 then ni_T d 185 7 [a0, a1, a2] st z h Q else ni_T d 185 14 [a0, a1, a2] st z h Q := ni_T_b rfl rfl
theorem s185_7 : ni_T d 185 7 [.ref o, a1, a2] st z h Q = ni_T d 185 8 [.ref o, a1, a2] (.ref o :: st) z h Q := ni_T_p rfl rfl
theorem s185_8 : ni_T d 185 8 [a0, a1, a2] st z h Q = ni_T d 185 10 [a0, a1, a2] (.int (-5) :: st) z h Q := ni_T_p rfl rfl
theorem s185_10 : ni_T (d + 1) 185 10 [a0, a1, a2] (.int x0 :: .ref o :: st) z h Q = (ni_rc (h o) 7 = true ∧ Nat.ble (ni_sw st) 8 = true ∧ ni_T d 120 0 [.ref o, .int x0] [] z h (ni_K (d + 1) 185 13 [a0, a1, a2] st z Q)) := ni_T_ce [.ref o, .int x0] rfl rfl rfl rfl rfl rfl rfl rfl rfl
theorem s185_13 : ni_T d 185 13 [a0, a1, a2] [.int x] z h Q = Q (some (.int x)) z h := ni_T_i rfl rfl
theorem s185_14 : ni_T d 185 14 [a0, a1, .int x] st z h Q = ni_T d 185 15 [a0, a1, .int x] (.int x :: st) z h Q := ni_T_p rfl rfl
theorem s185_15 : ni_T d 185 15 [a0, a1, a2] st z h Q = ni_T d 185 16 [a0, a1, a2] (.int 1 :: st) z h Q := ni_T_p rfl rfl
theorem s185_16 : ni_T d 185 16 [a0, a1, a2] (.int y :: .int x :: st) z h Q = if x < y then ni_T d 185 37 [a0, a1, a2] st z h Q else ni_T d 185 19 [a0, a1, a2] st z h Q := ni_T_b rfl rfl
theorem s185_19 : ni_T d 185 19 [a0, a1, .int x] st z h Q = ni_T d 185 20 [a0, a1, .int x] (.int x :: st) z h Q := ni_T_p rfl rfl
theorem s185_20 : ni_T d 185 20 [a0, a1, a2] st z h Q = ni_T d 185 22 [a0, a1, a2] (.int 9 :: st) z h Q := ni_T_p rfl rfl
theorem s185_22 : ni_T d 185 22 [a0, a1, a2] (.int y :: .int x :: st) z h Q = if y < x then ni_T d 185 37 [a0, a1, a2] st z h Q else ni_T d 185 25 [a0, a1, a2] st z h Q := ni_T_b rfl rfl
theorem s185_25 : ni_T d 185 25 [a0, .int x, a2] st z h Q = ni_T d 185 26 [a0, .int x, a2] (.int x :: st) z h Q := ni_T_p rfl rfl
theorem s185_26 : ni_T d 185 26 [a0, a1, a2] (.int x :: st) z h Q = if x = 0 then ni_T d 185 37 [a0, a1, a2] st z h Q else ni_T d 185 29 [a0, a1, a2] st z h Q := ni_T_b rfl rfl
theorem s185_29 : ni_T d 185 29 [.ref o, a1, a2] st z h Q = ni_T d 185 30 [.ref o, a1, a2] (.ref o :: st) z h Q := ni_T_p rfl rfl
theorem s185_30 : ni_T d 185 30 [a0, .int x, a2] st z h Q = ni_T d 185 31 [a0, .int x, a2] (.int x :: st) z h Q := ni_T_p rfl rfl
theorem s185_31 : ni_T (d + 1) 185 31 [a0, a1, a2] (.int x0 :: .ref o :: st) z h Q = (ni_rc (h o) 7 = true ∧ Nat.ble (ni_sw st) 8 = true ∧ ni_T d 158 0 [.ref o, .int x0] [] z h (ni_K (d + 1) 185 34 [a0, a1, a2] st z Q)) := ni_T_ce [.ref o, .int x0] rfl rfl rfl rfl rfl rfl rfl rfl rfl
theorem s185_34 : ni_T d 185 34 [a0, a1, a2] (.int x :: st) z h Q = if x = 0 then ni_T d 185 37 [a0, a1, a2] st z h Q else ni_T d 185 44 [a0, a1, a2] st z h Q := ni_T_b rfl rfl
theorem s185_37 : ni_T d 185 37 [.ref o, a1, a2] st z h Q = ni_T d 185 38 [.ref o, a1, a2] (.ref o :: st) z h Q := ni_T_p rfl rfl
theorem s185_38 : ni_T d 185 38 [a0, a1, a2] st z h Q = ni_T d 185 40 [a0, a1, a2] (.int (-6) :: st) z h Q := ni_T_p rfl rfl
theorem s185_40 : ni_T (d + 1) 185 40 [a0, a1, a2] (.int x0 :: .ref o :: st) z h Q = (ni_rc (h o) 7 = true ∧ Nat.ble (ni_sw st) 8 = true ∧ ni_T d 120 0 [.ref o, .int x0] [] z h (ni_K (d + 1) 185 43 [a0, a1, a2] st z Q)) := ni_T_ce [.ref o, .int x0] rfl rfl rfl rfl rfl rfl rfl rfl rfl
theorem s185_43 : ni_T d 185 43 [a0, a1, a2] [.int x] z h Q = Q (some (.int x)) z h := ni_T_i rfl rfl
theorem s185_44 : ni_T d 185 44 [.ref o, a1, a2] st z h Q = ni_T d 185 45 [.ref o, a1, a2] (.ref o :: st) z h Q := ni_T_p rfl rfl
theorem s185_45 : ni_T d 185 45 [a0, .int x, a2] st z h Q = ni_T d 185 46 [a0, .int x, a2] (.int x :: st) z h Q := ni_T_p rfl rfl
theorem s185_46 : ni_T d 185 46 [a0, a1, .int x] st z h Q = ni_T d 185 47 [a0, a1, .int x] (.int x :: st) z h Q := ni_T_p rfl rfl
theorem s185_47 : ni_T (d + 1) 185 47 [a0, a1, a2] (.int x1 :: .int x0 :: .ref o :: st) z h Q = (ni_rc (h o) 7 = true ∧ Nat.ble (ni_sw st) 8 = true ∧ ni_T d 184 0 [.ref o, .int x0, .int x1, .retAddr 0, .retAddr 0, .retAddr 0, .retAddr 0] [] z h (ni_K (d + 1) 185 50 [a0, a1, a2] st z Q)) := ni_T_ce [.ref o, .int x0, .int x1] rfl rfl rfl rfl rfl rfl rfl rfl rfl
theorem s185_50 : ni_T d 185 50 [a0, a1, a2] (.int x :: st) z h Q = if x = 0 then ni_T d 185 57 [a0, a1, a2] st z h Q else ni_T d 185 53 [a0, a1, a2] st z h Q := ni_T_b rfl rfl
theorem s185_53 : ni_T d 185 53 [a0, a1, a2] st z h Q = ni_T d 185 54 [a0, a1, a2] (.int 1 :: st) z h Q := ni_T_p rfl rfl
theorem s185_54 : ni_T d 185 54 [a0, a1, a2] st z h Q = ni_T d 185 58 [a0, a1, a2] st z h Q := ni_T_p rfl rfl
theorem s185_57 : ni_T d 185 57 [a0, a1, a2] st z h Q = ni_T d 185 58 [a0, a1, a2] (.int 0 :: st) z h Q := ni_T_p rfl rfl
theorem s185_58 : ni_T d 185 58 [a0, a1, a2] [.int x] z h Q = Q (some (.int x)) z h := ni_T_i rfl rfl
theorem s186_0 : ni_T d 186 0 [a0, a1, a2, a3, a4, a5, a6] st z h Q = ni_T d 186 1 [a0, a1, a2, a3, a4, a5, a6] (.int 0 :: st) z h Q := ni_T_p rfl rfl
theorem s186_1 : ni_T d 186 1 [a0, a1, a2, a3, a4, a5, a6] (.int x :: st) z h Q = ni_T d 186 2 [a0, ni_kl a1, .int x, a3, a4, a5, a6] st z h Q := ni_T_p rfl rfl
theorem s186_2 : ni_T d 186 2 [a0, a1, a2, a3, a4, a5, a6] st z h Q = ni_T d 186 3 [a0, a1, a2, a3, a4, a5, a6] (.int 0 :: st) z h Q := ni_T_p rfl rfl
theorem s186_3 : ni_T d 186 3 [a0, a1, a2, a3, a4, a5, a6] (.int x :: st) z h Q = ni_T d 186 4 [a0, a1, ni_kl a2, .int x, a4, a5, a6] st z h Q := ni_T_p rfl rfl
theorem s186_4 : ni_T d 186 4 [a0, a1, a2, .int x, a4, a5, a6] st z h Q = ni_T d 186 5 [a0, a1, a2, .int x, a4, a5, a6] (.int x :: st) z h Q := ni_T_p rfl rfl
theorem s186_5 : ni_T d 186 5 [a0, a1, a2, a3, a4, a5, a6] st z h Q = ni_T d 186 6 [a0, a1, a2, a3, a4, a5, a6] (.int 5 :: st) z h Q := ni_T_p rfl rfl
theorem s186_6 : ni_T d 186 6 [a0, a1, a2, a3, a4, a5, a6] (.int y :: .int x :: st) z h Q = if y ≤ x then ni_T d 186 101 [a0, a1, a2, a3, a4, a5, a6] st z h Q else ni_T d 186 9 [a0, a1, a2, a3, a4, a5, a6] st z h Q := ni_T_b rfl rfl
theorem s186_9 : ni_T d 186 9 [.ref o, a1, a2, a3, a4, a5, a6] st z h Q = ni_T d 186 10 [.ref o, a1, a2, a3, a4, a5, a6] (.ref o :: st) z h Q := ni_T_p rfl rfl
theorem s186_10 : ni_T d 186 10 [a0, a1, a2, a3, a4, a5, a6] (.ref o :: st) z h Q = (ni_is (h o) 7 11 = true ∧ ni_T d 186 13 [a0, a1, a2, a3, a4, a5, a6] (ni_gv (h o) 11 :: st) z h Q) := ni_T_getf rfl
theorem s186_13 : ni_T d 186 13 [a0, a1, a2, .int x, a4, a5, a6] st z h Q = ni_T d 186 14 [a0, a1, a2, .int x, a4, a5, a6] (.int x :: st) z h Q := ni_T_p rfl rfl
theorem s186_14 : ni_T d 186 14 [a0, a1, a2, a3, a4, a5, a6] (.int x :: .ref o :: st) z h Q = (ni_okI (h o) x = true ∧ ni_T d 186 15 [a0, a1, a2, a3, a4, a5, a6] (.int (ni_gi (h o) x) :: st) z h Q) := ni_T_iald rfl
theorem s186_15 : ni_T d 186 15 [a0, a1, a2, a3, a4, a5, a6] st z h Q = ni_T d 186 16 [a0, a1, a2, a3, a4, a5, a6] (.int (-1) :: st) z h Q := ni_T_p rfl rfl
theorem s186_16 : ni_T d 186 16 [a0, a1, a2, a3, a4, a5, a6] (.int y :: .int x :: st) z h Q = if x = y then ni_T d 186 22 [a0, a1, a2, a3, a4, a5, a6] st z h Q else ni_T d 186 19 [a0, a1, a2, a3, a4, a5, a6] st z h Q := ni_T_b rfl rfl
theorem s186_19 : ni_T d 186 19 [a0, a1, a2, a3, a4, a5, a6] st z h Q = ni_T d 186 95 [a0, a1, a2, a3, a4, a5, a6] st z h Q := ni_T_p rfl rfl
theorem s186_22 : ni_T d 186 22 [a0, a1, a2, a3, a4, a5, a6] st z h Q = ni_T d 186 23 [a0, a1, a2, a3, a4, a5, a6] (.int 2 :: st) z h Q := ni_T_p rfl rfl
theorem s186_23 : ni_T d 186 23 [.ref o, a1, a2, a3, a4, a5, a6] st z h Q = ni_T d 186 24 [.ref o, a1, a2, a3, a4, a5, a6] (.ref o :: st) z h Q := ni_T_p rfl rfl
theorem s186_24 : ni_T d 186 24 [a0, a1, a2, a3, a4, a5, a6] st z h Q = ni_T d 186 25 [a0, a1, a2, a3, a4, a5, a6] (.int 2 :: st) z h Q := ni_T_p rfl rfl
theorem s186_25 : ni_T d 186 25 [a0, .int x, a2, a3, a4, a5, a6] st z h Q = ni_T d 186 26 [a0, .int x, a2, a3, a4, a5, a6] (.int x :: st) z h Q := ni_T_p rfl rfl
theorem s186_26 : ni_T d 186 26 [a0, a1, a2, a3, a4, a5, a6] (.int y :: .int x :: st) z h Q = ni_T d 186 27 [a0, a1, a2, a3, a4, a5, a6] (.int (x * y) :: st) z h Q := ni_T_p rfl rfl
theorem s186_27 : ni_T d 186 27 [a0, a1, a2, a3, a4, a5, a6] st z h Q = ni_T d 186 28 [a0, a1, a2, a3, a4, a5, a6] (.int 2 :: st) z h Q := ni_T_p rfl rfl
theorem s186_28 : ni_T d 186 28 [a0, a1, a2, a3, a4, a5, a6] (.int y :: .int x :: st) z h Q = ni_T d 186 29 [a0, a1, a2, a3, a4, a5, a6] (.int (x + y) :: st) z h Q := ni_T_p rfl rfl
theorem s186_29 : ni_T (d + 1) 186 29 [a0, a1, a2, a3, a4, a5, a6] (.int x0 :: .ref o :: st) z h Q = (ni_rc (h o) 7 = true ∧ Nat.ble (ni_sw st) 8 = true ∧ ni_T d 183 0 [.ref o, .int x0] [] z h (ni_K (d + 1) 186 32 [a0, a1, a2, a3, a4, a5, a6] st z Q)) := ni_T_ce [.ref o, .int x0] rfl rfl rfl rfl rfl rfl rfl rfl rfl
theorem s186_32 : ni_T d 186 32 [a0, a1, a2, a3, a4, a5, a6] (.int y :: .int x :: st) z h Q = ni_T d 186 33 [a0, a1, a2, a3, a4, a5, a6] (.int (x + y) :: st) z h Q := ni_T_p rfl rfl
theorem s186_33 : ni_T d 186 33 [a0, .int x, a2, a3, a4, a5, a6] st z h Q = ni_T d 186 34 [a0, .int x, a2, a3, a4, a5, a6] (.int x :: st) z h Q := ni_T_p rfl rfl
theorem s186_34 : ni_T d 186 34 [a0, a1, a2, a3, a4, a5, a6] (.int y :: .int x :: st) z h Q = ni_T d 186 35 [a0, a1, a2, a3, a4, a5, a6] (.int (x - y) :: st) z h Q := ni_T_p rfl rfl
theorem s186_35 : ni_T d 186 35 [a0, a1, a2, a3, a4, a5, a6] (.int x :: st) z h Q = ni_T d 186 37 [a0, a1, a2, ni_kl a3, .int x, a5, a6] st z h Q := ni_T_p rfl rfl
theorem s186_37 : ni_T d 186 37 [a0, a1, a2, a3, a4, a5, a6] st z h Q = ni_T d 186 38 [a0, a1, a2, a3, a4, a5, a6] (.int 2 :: st) z h Q := ni_T_p rfl rfl
theorem s186_38 : ni_T d 186 38 [.ref o, a1, a2, a3, a4, a5, a6] st z h Q = ni_T d 186 39 [.ref o, a1, a2, a3, a4, a5, a6] (.ref o :: st) z h Q := ni_T_p rfl rfl
theorem s186_39 : ni_T d 186 39 [a0, a1, a2, a3, a4, a5, a6] st z h Q = ni_T d 186 40 [a0, a1, a2, a3, a4, a5, a6] (.int 2 :: st) z h Q := ni_T_p rfl rfl
theorem s186_40 : ni_T d 186 40 [a0, .int x, a2, a3, a4, a5, a6] st z h Q = ni_T d 186 41 [a0, .int x, a2, a3, a4, a5, a6] (.int x :: st) z h Q := ni_T_p rfl rfl
theorem s186_41 : ni_T d 186 41 [a0, a1, a2, a3, a4, a5, a6] (.int y :: .int x :: st) z h Q = ni_T d 186 42 [a0, a1, a2, a3, a4, a5, a6] (.int (x * y) :: st) z h Q := ni_T_p rfl rfl
theorem s186_42 : ni_T d 186 42 [a0, a1, a2, a3, a4, a5, a6] st z h Q = ni_T d 186 43 [a0, a1, a2, a3, a4, a5, a6] (.int 2 :: st) z h Q := ni_T_p rfl rfl
theorem s186_43 : ni_T d 186 43 [a0, a1, a2, a3, a4, a5, a6] (.int y :: .int x :: st) z h Q = ni_T d 186 44 [a0, a1, a2, a3, a4, a5, a6] (.int (x + y) :: st) z h Q := ni_T_p rfl rfl
theorem s186_44 : ni_T (d + 1) 186 44 [a0, a1, a2, a3, a4, a5, a6] (.int x0 :: .ref o :: st) z h Q = (ni_rc (h o) 7 = true ∧ Nat.ble (ni_sw st) 8 = true ∧ ni_T d 183 0 [.ref o, .int x0] [] z h (ni_K (d + 1) 186 47 [a0, a1, a2, a3, a4, a5, a6] st z Q)) := ni_T_ce [.ref o, .int x0] rfl rfl rfl rfl rfl rfl rfl rfl rfl
theorem s186_47 : ni_T d 186 47 [a0, a1, a2, a3, a4, a5, a6] (.int y :: .int x :: st) z h Q = ni_T d 186 48 [a0, a1, a2, a3, a4, a5, a6] (.int (x + y) :: st) z h Q := ni_T_p rfl rfl
theorem s186_48 : ni_T d 186 48 [a0, .int x, a2, a3, a4, a5, a6] st z h Q = ni_T d 186 49 [a0, .int x, a2, a3, a4, a5, a6] (.int x :: st) z h Q := ni_T_p rfl rfl
theorem s186_49 : ni_T d 186 49 [a0, a1, a2, a3, a4, a5, a6] (.int y :: .int x :: st) z h Q = ni_T d 186 50 [a0, a1, a2, a3, a4, a5, a6] (.int (x - y) :: st) z h Q := ni_T_p rfl rfl
theorem s186_50 : ni_T d 186 50 [a0, a1, a2, a3, a4, a5, a6] (.int x :: st) z h Q = ni_T d 186 52 [a0, a1, a2, a3, ni_kl a4, .int x, a6] st z h Q := ni_T_p rfl rfl
theorem s186_52 : ni_T d 186 52 [a0, a1, a2, a3, a4, a5, a6] st z h Q = ni_T d 186 54 [a0, a1, a2, a3, a4, a5, a6] (.int 6 :: st) z h Q := ni_T_p rfl rfl
theorem s186_54 : ni_T d 186 54 [a0, a1, a2, a3, .int x, a5, a6] st z h Q = ni_T d 186 56 [a0, a1, a2, a3, .int x, a5, a6] (.int x :: st) z h Q := ni_T_p rfl rfl
theorem s186_56 : ni_T d 186 56 [a0, a1, a2, a3, a4, a5, a6] (.int y :: .int x :: st) z h Q = ni_T d 186 57 [a0, a1, a2, a3, a4, a5, a6] (.int (x * y) :: st) z h Q := ni_T_p rfl rfl
theorem s186_57 : ni_T d 186 57 [a0, a1, a2, a3, a4, .int x, a6] st z h Q = ni_T d 186 59 [a0, a1, a2, a3, a4, .int x, a6] (.int x :: st) z h Q := ni_T_p rfl rfl
theorem s186_59 : ni_T d 186 59 [a0, a1, a2, a3, a4, a5, a6] (.int y :: .int x :: st) z h Q = ni_T d 186 60 [a0, a1, a2, a3, a4, a5, a6] (.int (x + y) :: st) z h Q := ni_T_p rfl rfl
theorem s186_60 : ni_T d 186 60 [a0, a1, a2, a3, a4, a5, a6] (.int x :: st) z h Q = ni_T d 186 62 [a0, a1, a2, a3, a4, ni_kl a5, .int x] st z h Q := ni_T_p rfl rfl
theorem s186_62 : ni_T d 186 62 [.ref o, a1, a2, a3, a4, a5, a6] st z h Q = ni_T d 186 63 [.ref o, a1, a2, a3, a4, a5, a6] (.ref o :: st) z h Q := ni_T_p rfl rfl
theorem s186_63 : ni_T d 186 63 [a0, a1, a2, .int x, a4, a5, a6] st z h Q = ni_T d 186 64 [a0, a1, a2, .int x, a4, a5, a6] (.int x :: st) z h Q := ni_T_p rfl rfl
theorem s186_64 : ni_T d 186 64 [a0, a1, a2, a3, a4, a5, .int x] st z h Q = ni_T d 186 66 [a0, a1, a2, a3, a4, a5, .int x] (.int x :: st) z h Q := ni_T_p rfl rfl
theorem s186_66 : ni_T (d + 1) 186 66 [a0, a1, a2, a3, a4, a5, a6] (.int x1 :: .int x0 :: .ref o :: st) z h Q = (ni_rc (h o) 7 = true ∧ Nat.ble (ni_sw st) 8 = true ∧ ni_T d 138 0 [.ref o, .int x0, .int x1, .retAddr 0] [] z h (ni_K (d + 1) 186 69 [a0, a1, a2, a3, a4, a5, a6] st z Q)) := ni_T_ce [.ref o, .int x0, .int x1] rfl rfl rfl rfl rfl rfl rfl rfl rfl
theorem s186_69 : ni_T d 186 69 [a0, a1, a2, a3, a4, a5, a6] (.int x :: st) z h Q = if x = 0 then ni_T d 186 72 [a0, a1, a2, a3, a4, a5, a6] st z h Q else ni_T d 186 84 [a0, a1, a2, a3, a4, a5, a6] st z h Q := ni_T_b rfl rfl
theorem s186_72 : ni_T d 186 72 [a0, a1, a2, a3, a4, a5, .int x] st z h Q = ni_T d 186 74 [a0, a1, a2, a3, a4, a5, .int x] (.int x :: st) z h Q := ni_T_p rfl rfl
theorem s186_74 : ni_T d 186 74 [a0, a1, a2, a3, a4, a5, a6] st z h Q = ni_T d 186 75 [a0, a1, a2, a3, a4, a5, a6] (.int 1 :: st) z h Q := ni_T_p rfl rfl
theorem s186_75 : ni_T d 186 75 [a0, a1, a2, a3, a4, a5, a6] (.int y :: .int x :: st) z h Q = ni_T d 186 76 [a0, a1, a2, a3, a4, a5, a6] (.int (x + y) :: st) z h Q := ni_T_p rfl rfl
theorem s186_76 : ni_T d 186 76 [a0, a1, a2, a3, a4, a5, a6] st z h Q = ni_T d 186 78 [a0, a1, a2, a3, a4, a5, a6] (.int 36 :: st) z h Q := ni_T_p rfl rfl
theorem s186_78 : ni_T d 186 78 [a0, a1, a2, a3, a4, a5, a6] (.int y :: .int x :: st) z h Q = (¬ y = 0 ∧ ni_T d 186 79 [a0, a1, a2, a3, a4, a5, a6] (.int (x - x / y * y) :: st) z h Q) := ni_T_irem rfl
theorem s186_79 : ni_T d 186 79 [a0, a1, a2, a3, a4, a5, a6] (.int x :: st) z h Q = ni_T d 186 81 [a0, a1, a2, a3, a4, ni_kl a5, .int x] st z h Q := ni_T_p rfl rfl
theorem s186_81 : ni_T d 186 81 [a0, a1, a2, a3, a4, a5, a6] st z h Q = ni_T d 186 62 [a0, a1, a2, a3, a4, a5, a6] st z h Q := ni_T_p rfl rfl
theorem s186_84 : ni_T d 186 84 [.ref o, a1, a2, a3, a4, a5, a6] st z h Q = ni_T d 186 85 [.ref o, a1, a2, a3, a4, a5, a6] (.ref o :: st) z h Q := ni_T_p rfl rfl
theorem s186_85 : ni_T d 186 85 [a0, a1, a2, a3, a4, a5, a6] (.ref o :: st) z h Q = (ni_is (h o) 7 11 = true ∧ ni_T d 186 88 [a0, a1, a2, a3, a4, a5, a6] (ni_gv (h o) 11 :: st) z h Q) := ni_T_getf rfl
theorem s186_88 : ni_T d 186 88 [a0, a1, a2, .int x, a4, a5, a6] st z h Q = ni_T d 186 89 [a0, a1, a2, .int x, a4, a5, a6] (.int x :: st) z h Q := ni_T_p rfl rfl
theorem s186_89 : ni_T d 186 89 [a0, a1, a2, a3, a4, a5, .int x] st z h Q = ni_T d 186 91 [a0, a1, a2, a3, a4, a5, .int x] (.int x :: st) z h Q := ni_T_p rfl rfl
theorem s186_91 : ni_T d 186 91 [a0, a1, a2, a3, a4, a5, a6] (.int y :: .int x :: .ref o :: st) z h Q = (ni_okS (h o) x = true ∧ ni_T d 186 92 [a0, a1, a2, a3, a4, a5, a6] st z (ni_up h o (ni_pi (h o) x y)) Q) := ni_T_iast rfl
theorem s186_92 : ni_T d 186 92 [a0, a1, .int x, a3, a4, a5, a6] st z h Q = ni_T d 186 95 [a0, ni_kl a1, .int (x + 1), a3, a4, a5, a6] st z h Q := ni_T_p rfl rfl
theorem s186_95 : ni_T d 186 95 [a0, a1, a2, .int x, a4, a5, a6] st z h Q = ni_T d 186 98 [a0, a1, ni_kl a2, .int (x + 1), a4, a5, a6] st z h Q := ni_T_p rfl rfl
theorem s186_98 : ni_T d 186 98 [a0, a1, a2, a3, a4, a5, a6] st z h Q = ni_T d 186 4 [a0, a1, a2, a3, a4, a5, a6] st z h Q := ni_T_p rfl rfl
theorem s186_101 : ni_T d 186 101 [a0, a1, .int x, a3, a4, a5, a6] st z h Q = ni_T d 186 102 [a0, a1, .int x, a3, a4, a5, a6] (.int x :: st) z h Q := ni_T_p rfl rfl
theorem s186_102 : ni_T d 186 102 [a0, a1, a2, a3, a4, a5, a6] [.int x] z h Q = Q (some (.int x)) z h := ni_T_i rfl rfl
theorem s187_0 : ni_T d 187 0 [a0, .int x] st z h Q = ni_T d 187 1 [a0, .int x] (.int x :: st) z h Q := ni_T_p rfl rfl
theorem s187_1 : ni_T d 187 1 [a0, a1] (.int x :: st) z h Q = if x < 0 then ni_T d 187 17 [a0, a1] st z h Q else ni_T d 187 4 [a0, a1] st z h Q := ni_T_b rfl rfl
theorem s187_4 : ni_T d 187 4 [a0, .int x] st z h Q = ni_T d 187 5 [a0, .int x] (.int x :: st) z h Q := ni_T_p rfl rfl
theorem s187_5 : ni_T d 187 5 [a0, a1] st z h Q = ni_T d 187 6 [a0, a1] (.int 2 :: st) z h Q := ni_T_p rfl rfl
theorem s187_6 : ni_T d 187 6 [a0, a1] (.int y :: .int x :: st) z h Q = if y < x then ni_T d 187 17 [a0, a1] st z h Q else ni_T d 187 9 [a0, a1] st z h Q := ni_T_b rfl rfl
theorem s187_9 : ni_T d 187 9 [.ref o, a1] st z h Q = ni_T d 187 10 [.ref o, a1] (.ref o :: st) z h Q := ni_T_p rfl rfl
theorem s187_10 : ni_T d 187 10 [a0, .int x] st z h Q = ni_T d 187 11 [a0, .int x] (.int x :: st) z h Q := ni_T_p rfl rfl
theorem s187_11 : ni_T (d + 1) 187 11 [a0, a1] (.int x0 :: .ref o :: st) z h Q = (ni_rc (h o) 7 = true ∧ Nat.ble (ni_sw st) 8 = true ∧ ni_T d 186 0 [.ref o, .int x0, .retAddr 0, .retAddr 0, .retAddr 0, .retAddr 0, .retAddr 0] [] z h (ni_K (d + 1) 187 14 [a0, a1] st z Q)) := ni_T_ce [.ref o, .int x0] rfl rfl rfl rfl rfl rfl rfl rfl rfl
theorem s187_14 : ni_T d 187 14 [a0, a1] st z h Q = ni_T d 187 23 [a0, a1] st z h Q := ni_T_p rfl rfl
theorem s187_17 : ni_T d 187 17 [.ref o, a1] st z h Q = ni_T d 187 18 [.ref o, a1] (.ref o :: st) z h Q := ni_T_p rfl rfl
theorem s187_18 : ni_T d 187 18 [a0, a1] st z h Q = ni_T d 187 20 [a0, a1] (.int (-6) :: st) z h Q := ni_T_p rfl rfl
theorem s187_20 : ni_T (d + 1) 187 20 [a0, a1] (.int x0 :: .ref o :: st) z h Q = (ni_rc (h o) 7 = true ∧ Nat.ble (ni_sw st) 8 = true ∧ ni_T d 120 0 [.ref o, .int x0] [] z h (ni_K (d + 1) 187 23 [a0, a1] st z Q)) := ni_T_ce [.ref o, .int x0] rfl rfl rfl rfl rfl rfl rfl rfl rfl
theorem s187_23 : ni_T d 187 23 [a0, a1] [.int x] z h Q = Q (some (.int x)) z h := ni_T_i rfl rfl
theorem s188_0 : ni_T d 188 0 [.ref o, a1, a2, a3, a4, a5, a6] st z h Q = ni_T d 188 1 [.ref o, a1, a2, a3, a4, a5, a6] (.ref o :: st) z h Q := ni_T_p rfl rfl
theorem s188_1 : ni_T d 188 1 [a0, a1, a2, a3, a4, a5, a6] (.ref o :: st) z h Q = (ni_is (h o) 7 0 = true ∧ ni_T d 188 4 [a0, a1, a2, a3, a4, a5, a6] (ni_gv (h o) 0 :: st) z h Q) := ni_T_getf rfl
theorem s188_4 : ni_T d 188 4 [a0, a1, a2, a3, a4, a5, a6] (.int x :: st) z h Q = if x = 0 then ni_T d 188 7 [a0, a1, a2, a3, a4, a5, a6] st z h Q else ni_T d 188 14 [a0, a1, a2, a3, a4, a5, a6] st z h Q := ni_T_b rfl rfl
theorem s188_7 : ni_T d 188 7 [.ref o, a1, a2, a3, a4, a5, a6] st z h Q = ni_T d 188 8 [.ref o, a1, a2, a3, a4, a5, a6] (.ref o :: st) z h Q := ni_T_p rfl rfl
theorem s188_8 : ni_T d 188 8 [a0, a1, a2, a3, a4, a5, a6] st z h Q = ni_T d 188 10 [a0, a1, a2, a3, a4, a5, a6] (.int (-5) :: st) z h Q := ni_T_p rfl rfl
theorem s188_10 : ni_T (d + 1) 188 10 [a0, a1, a2, a3, a4, a5, a6] (.int x0 :: .ref o :: st) z h Q = (ni_rc (h o) 7 = true ∧ Nat.ble (ni_sw st) 8 = true ∧ ni_T d 120 0 [.ref o, .int x0] [] z h (ni_K (d + 1) 188 13 [a0, a1, a2, a3, a4, a5, a6] st z Q)) := ni_T_ce [.ref o, .int x0] rfl rfl rfl rfl rfl rfl rfl rfl rfl
theorem s188_13 : ni_T d 188 13 [a0, a1, a2, a3, a4, a5, a6] [.int x] z h Q = Q (some (.int x)) z h := ni_T_i rfl rfl
theorem s188_14 : ni_T d 188 14 [a0, .int x, a2, a3, a4, a5, a6] st z h Q = ni_T d 188 15 [a0, .int x, a2, a3, a4, a5, a6] (.int x :: st) z h Q := ni_T_p rfl rfl
theorem s188_15 : ni_T d 188 15 [a0, a1, a2, a3, a4, a5, a6] st z h Q = ni_T d 188 16 [a0, a1, a2, a3, a4, a5, a6] (.int 1 :: st) z h Q := ni_T_p rfl rfl
theorem s188_16 : ni_T d 188 16 [a0, a1, a2, a3, a4, a5, a6] (.int y :: .int x :: st) z h Q = if x < y then ni_T d 188 25 [a0, a1, a2, a3, a4, a5, a6] st z h Q else ni_T d 188 19 [a0, a1, a2, a3, a4, a5, a6] st z h Q := ni_T_b rfl rfl
theorem s188_19 : ni_T d 188 19 [a0, .int x, a2, a3, a4, a5, a6] st z h Q = ni_T d 188 20 [a0, .int x, a2, a3, a4, a5, a6] (.int x :: st) z h Q := ni_T_p rfl rfl
theorem s188_20 : ni_T d 188 20 [a0, a1, a2, a3, a4, a5, a6] st z h Q = ni_T d 188 22 [a0, a1, a2, a3, a4, a5, a6] (.int 20 :: st) z h Q := ni_T_p rfl rfl
theorem s188_22 : ni_T d 188 22 [a0, a1, a2, a3, a4, a5, a6] (.int y :: .int x :: st) z h Q = if x ≤ y then ni_T d 188 32 [a0, a1, a2, a3, a4, a5, a6] st z h Q else ni_T d 188 25 [a0, a1, a2, a3, a4, a5, a6] st z h Q := ni_T_b rfl rfl
theorem s188_25 : ni_T d 188 25 [.ref o, a1, a2, a3, a4, a5, a6] st z h Q = ni_T d 188 26 [.ref o, a1, a2, a3, a4, a5, a6] (.ref o :: st) z h Q := ni_T_p rfl rfl
theorem s188_26 : ni_T d 188 26 [a0, a1, a2, a3, a4, a5, a6] st z h Q = ni_T d 188 28 [a0, a1, a2, a3, a4, a5, a6] (.int (-6) :: st) z h Q := ni_T_p rfl rfl
theorem s188_28 : ni_T (d + 1) 188 28 [a0, a1, a2, a3, a4, a5, a6] (.int x0 :: .ref o :: st) z h Q = (ni_rc (h o) 7 = true ∧ Nat.ble (ni_sw st) 8 = true ∧ ni_T d 120 0 [.ref o, .int x0] [] z h (ni_K (d + 1) 188 31 [a0, a1, a2, a3, a4, a5, a6] st z Q)) := ni_T_ce [.ref o, .int x0] rfl rfl rfl rfl rfl rfl rfl rfl rfl
theorem s188_31 : ni_T d 188 31 [a0, a1, a2, a3, a4, a5, a6] [.int x] z h Q = Q (some (.int x)) z h := ni_T_i rfl rfl
theorem s188_32 : ni_T d 188 32 [.ref o, a1, a2, a3, a4, a5, a6] st z h Q = ni_T d 188 33 [.ref o, a1, a2, a3, a4, a5, a6] (.ref o :: st) z h Q := ni_T_p rfl rfl
theorem s188_33 : ni_T d 188 33 [a0, a1, a2, a3, a4, a5, a6] (.ref o :: st) z h Q = (ni_is (h o) 7 2 = true ∧ ni_T d 188 36 [a0, a1, a2, a3, a4, a5, a6] (ni_gv (h o) 2 :: st) z h Q) := ni_T_getf rfl
theorem s188_36 : ni_T d 188 36 [a0, a1, a2, a3, a4, a5, a6] (.int x :: st) z h Q = ni_T d 188 37 [a0, ni_kl a1, .int x, a3, a4, a5, a6] st z h Q := ni_T_p rfl rfl
theorem s188_37 : ni_T d 188 37 [a0, a1, a2, a3, a4, a5, a6] st z h Q = ni_T d 188 38 [a0, a1, a2, a3, a4, a5, a6] (.int 0 :: st) z h Q := ni_T_p rfl rfl
theorem s188_38 : ni_T d 188 38 [a0, a1, a2, a3, a4, a5, a6] (.int x :: st) z h Q = ni_T d 188 39 [a0, a1, ni_kl a2, .int x, a4, a5, a6] st z h Q := ni_T_p rfl rfl
theorem s188_39 : ni_T d 188 39 [a0, a1, a2, .int x, a4, a5, a6] st z h Q = ni_T d 188 40 [a0, a1, a2, .int x, a4, a5, a6] (.int x :: st) z h Q := ni_T_p rfl rfl
theorem s188_40 : ni_T d 188 40 [a0, .int x, a2, a3, a4, a5, a6] st z h Q = ni_T d 188 41 [a0, .int x, a2, a3, a4, a5, a6] (.int x :: st) z h Q := ni_T_p rfl rfl
theorem s188_41 : ni_T d 188 41 [a0, a1, a2, a3, a4, a5, a6] (.int y :: .int x :: st) z h Q = if y ≤ x then ni_T d 188 124 [a0, a1, a2, a3, a4, a5, a6] st z h Q else ni_T d 188 44 [a0, a1, a2, a3, a4, a5, a6] st z h Q := ni_T_b rfl rfl
theorem s188_44 : ni_T d 188 44 [.ref o, a1, a2, a3, a4, a5, a6] st z h Q = ni_T d 188 45 [.ref o, a1, a2, a3, a4, a5, a6] (.ref o :: st) z h Q := ni_T_p rfl rfl
theorem s188_45 : ni_T d 188 45 [a0, a1, a2, a3, a4, a5, a6] st z h Q = ni_T d 188 46 [a0, a1, a2, a3, a4, a5, a6] (.int 1 :: st) z h Q := ni_T_p rfl rfl
theorem s188_46 : ni_T (d + 1) 188 46 [a0, a1, a2, a3, a4, a5, a6] (.int x0 :: .ref o :: st) z h Q = (ni_rc (h o) 7 = true ∧ Nat.ble (ni_sw st) 8 = true ∧ ni_T d 186 0 [.ref o, .int x0, .retAddr 0, .retAddr 0, .retAddr 0, .retAddr 0, .retAddr 0] [] z h (ni_K (d + 1) 188 49 [a0, a1, a2, a3, a4, a5, a6] st z Q)) := ni_T_ce [.ref o, .int x0] rfl rfl rfl rfl rfl rfl rfl rfl rfl
theorem s188_49 : ni_T d 188 49 [a0, a1, a2, a3, a4, a5, a6] (.ref o :: st) z h Q = ni_T d 188 50 [a0, a1, a2, a3, a4, a5, a6] st z h Q := ni_T_p rfl rfl
theorem s188_49i : ni_T d 188 49 [a0, a1, a2, a3, a4, a5, a6] (.int x :: st) z h Q = ni_T d 188 50 [a0, a1, a2, a3, a4, a5, a6] st z h Q := ni_T_p rfl rfl
theorem s188_50 : ni_T d 188 50 [a0, a1, a2, a3, a4, a5, a6] st z h Q = ni_T d 188 51 [a0, a1, a2, a3, a4, a5, a6] (.int 1 :: st) z h Q := ni_T_p rfl rfl
theorem s188_51 : ni_T d 188 51 [a0, a1, a2, a3, a4, a5, a6] (.int x :: st) z h Q = ni_T d 188 53 [a0, a1, a2, ni_kl a3, .int x, a5, a6] st z h Q := ni_T_p rfl rfl
theorem s188_53 : ni_T d 188 53 [a0, a1, a2, a3, .int x, a5, a6] st z h Q = ni_T d 188 55 [a0, a1, a2, a3, .int x, a5, a6] (.int x :: st) z h Q := ni_T_p rfl rfl
theorem s188_55 : ni_T d 188 55 [a0, a1, a2, a3, a4, a5, a6] (.int x :: st) z h Q = if x = 0 then ni_T d 188 118 [a0, a1, a2, a3, a4, a5, a6] st z h Q else ni_T d 188 58 [a0, a1, a2, a3, a4, a5, a6] st z h Q := ni_T_b rfl rfl
theorem s188_58 : ni_T d 188 58 [.ref o, a1, a2, a3, a4, a5, a6] st z h Q = ni_T d 188 59 [.ref o, a1, a2, a3, a4, a5, a6] (.ref o :: st) z h Q := ni_T_p rfl rfl
theorem s188_59 : ni_T (d + 1) 188 59 [a0, a1, a2, a3, a4, a5, a6] (.ref o :: st) z h Q = (ni_rc (h o) 7 = true ∧ Nat.ble (ni_sw st) 8 = true ∧ ni_T d 143 0 [.ref o, .retAddr 0, .retAddr 0] [] z h (ni_K (d + 1) 188 62 [a0, a1, a2, a3, a4, a5, a6] st z Q)) := ni_T_ce [.ref o] rfl rfl rfl rfl rfl rfl rfl rfl rfl
theorem s188_62 : ni_T d 188 62 [a0, a1, a2, a3, a4, a5, a6] (.int x :: st) z h Q = if x = 0 then ni_T d 188 118 [a0, a1, a2, a3, a4, a5, a6] st z h Q else ni_T d 188 65 [a0, a1, a2, a3, a4, a5, a6] st z h Q := ni_T_b rfl rfl
theorem s188_65 : ni_T d 188 65 [.ref o, a1, a2, a3, a4, a5, a6] st z h Q = ni_T d 188 66 [.ref o, a1, a2, a3, a4, a5, a6] (.ref o :: st) z h Q := ni_T_p rfl rfl
theorem s188_66 : ni_T d 188 66 [a0, a1, a2, a3, a4, a5, a6] (.ref o :: st) z h Q = (ni_is (h o) 7 1 = true ∧ ni_T d 188 69 [a0, a1, a2, a3, a4, a5, a6] (ni_gv (h o) 1 :: st) z h Q) := ni_T_getf rfl
theorem s188_69 : ni_T d 188 69 [a0, a1, a2, a3, a4, a5, a6] (.int x :: st) z h Q = ni_T d 188 71 [a0, a1, a2, a3, ni_kl a4, .int x, a6] st z h Q := ni_T_p rfl rfl
theorem s188_71 : ni_T d 188 71 [.ref o, a1, a2, a3, a4, a5, a6] st z h Q = ni_T d 188 72 [.ref o, a1, a2, a3, a4, a5, a6] (.ref o :: st) z h Q := ni_T_p rfl rfl
theorem s188_72 : ni_T d 188 72 [a0, a1, a2, a3, a4, .int x, a6] st z h Q = ni_T d 188 74 [a0, a1, a2, a3, a4, .int x, a6] (.int x :: st) z h Q := ni_T_p rfl rfl
theorem s188_74 : ni_T d 188 74 [.ref o, a1, a2, a3, a4, a5, a6] st z h Q = ni_T d 188 75 [.ref o, a1, a2, a3, a4, a5, a6] (.ref o :: st) z h Q := ni_T_p rfl rfl
theorem s188_75 : ni_T d 188 75 [a0, a1, a2, a3, a4, a5, a6] (.ref o :: st) z h Q = (ni_is (h o) 7 8 = true ∧ ni_T d 188 78 [a0, a1, a2, a3, a4, a5, a6] (ni_gv (h o) 8 :: st) z h Q) := ni_T_getf rfl
theorem s188_78 : ni_T d 188 78 [a0, a1, a2, a3, a4, .int x, a6] st z h Q = ni_T d 188 80 [a0, a1, a2, a3, a4, .int x, a6] (.int x :: st) z h Q := ni_T_p rfl rfl
theorem s188_80 : ni_T d 188 80 [a0, a1, a2, a3, a4, a5, a6] (.int x :: .ref o :: st) z h Q = (ni_okI (h o) x = true ∧ ni_T d 188 81 [a0, a1, a2, a3, a4, a5, a6] (.int (ni_gi (h o) x) :: st) z h Q) := ni_T_iald rfl
theorem s188_81 : ni_T (d + 1) 188 81 [a0, a1, a2, a3, a4, a5, a6] (.int x1 :: .int x0 :: .ref o :: st) z h Q = (ni_rc (h o) 7 = true ∧ Nat.ble (ni_sw st) 8 = true ∧ ni_T d 168 0 [.ref o, .int x0, .int x1, .retAddr 0, .retAddr 0] [] z h (ni_K (d + 1) 188 84 [a0, a1, a2, a3, a4, a5, a6] st z Q)) := ni_T_ce [.ref o, .int x0, .int x1] rfl rfl rfl rfl rfl rfl rfl rfl rfl
theorem s188_84 : ni_T d 188 84 [a0, a1, a2, a3, a4, a5, a6] (.ref o :: st) z h Q = ni_T d 188 85 [a0, a1, a2, a3, a4, a5, a6] st z h Q := ni_T_p rfl rfl
theorem s188_84i : ni_T d 188 84 [a0, a1, a2, a3, a4, a5, a6] (.int x :: st) z h Q = ni_T d 188 85 [a0, a1, a2, a3, a4, a5, a6] st z h Q := ni_T_p rfl rfl
theorem s188_85 : ni_T d 188 85 [.ref o, a1, a2, a3, a4, a5, a6] st z h Q = ni_T d 188 86 [.ref o, a1, a2, a3, a4, a5, a6] (.ref o :: st) z h Q := ni_T_p rfl rfl
theorem s188_86 : ni_T d 188 86 [a0, a1, a2, a3, a4, a5, a6] (.ref o :: st) z h Q = (ni_is (h o) 7 28 = true ∧ ni_T d 188 89 [a0, a1, a2, a3, a4, a5, a6] (ni_gv (h o) 28 :: st) z h Q) := ni_T_getf rfl
theorem s188_89 : ni_T d 188 89 [a0, a1, a2, a3, a4, a5, a6] (.int x :: st) z h Q = ni_T d 188 91 [a0, a1, a2, a3, a4, ni_kl a5, .int x] st z h Q := ni_T_p rfl rfl
theorem s188_91 : ni_T d 188 91 [.ref o, a1, a2, a3, a4, a5, a6] st z h Q = ni_T d 188 92 [.ref o, a1, a2, a3, a4, a5, a6] (.ref o :: st) z h Q := ni_T_p rfl rfl
theorem s188_92 : ni_T d 188 92 [.ref o, a1, a2, a3, a4, a5, a6] st z h Q = ni_T d 188 93 [.ref o, a1, a2, a3, a4, a5, a6] (.ref o :: st) z h Q := ni_T_p rfl rfl
theorem s188_93 : ni_T (d + 1) 188 93 [a0, a1, a2, a3, a4, a5, a6] (.ref o :: st) z h Q = (ni_rc (h o) 7 = true ∧ Nat.ble (ni_sw st) 8 = true ∧ ni_T d 143 0 [.ref o, .retAddr 0, .retAddr 0] [] z h (ni_K (d + 1) 188 96 [a0, a1, a2, a3, a4, a5, a6] st z Q)) := ni_T_ce [.ref o] rfl rfl rfl rfl rfl rfl rfl rfl rfl
theorem s188_96 : ni_T d 188 96 [a0, a1, a2, a3, a4, a5, a6] (b0 :: .ref o :: st) z h Q = ((Nat.ble 7 7 && ni_is (h o) 7 27 && ni_fit (.int) b0) = true ∧ ni_T d 188 99 [a0, a1, a2, a3, a4, a5, a6] st z (ni_up h o (ni_pv (h o) 27 b0)) Q) := ni_T_putf rfl
theorem s188_99 : ni_T d 188 99 [.ref o, a1, a2, a3, a4, a5, a6] st z h Q = ni_T d 188 100 [.ref o, a1, a2, a3, a4, a5, a6] (.ref o :: st) z h Q := ni_T_p rfl rfl
theorem s188_100 : ni_T d 188 100 [a0, a1, a2, a3, a4, a5, .int x] st z h Q = ni_T d 188 102 [a0, a1, a2, a3, a4, a5, .int x] (.int x :: st) z h Q := ni_T_p rfl rfl
theorem s188_102 : ni_T d 188 102 [.ref o, a1, a2, a3, a4, a5, a6] st z h Q = ni_T d 188 103 [.ref o, a1, a2, a3, a4, a5, a6] (.ref o :: st) z h Q := ni_T_p rfl rfl
theorem s188_103 : ni_T d 188 103 [a0, a1, a2, a3, a4, .int x, a6] st z h Q = ni_T d 188 105 [a0, a1, a2, a3, a4, .int x, a6] (.int x :: st) z h Q := ni_T_p rfl rfl
theorem s188_105 : ni_T d 188 105 [a0, a1, a2, a3, a4, a5, .int x] st z h Q = ni_T d 188 107 [a0, a1, a2, a3, a4, a5, .int x] (.int x :: st) z h Q := ni_T_p rfl rfl
theorem s188_107 : ni_T (d + 1) 188 107 [a0, a1, a2, a3, a4, a5, a6] (.int x1 :: .int x0 :: .ref o :: st) z h Q = (ni_rc (h o) 7 = true ∧ Nat.ble (ni_sw st) 8 = true ∧ ni_T d 165 0 [.ref o, .int x0, .int x1, .retAddr 0, .retAddr 0] [] z h (ni_K (d + 1) 188 110 [a0, a1, a2, a3, a4, a5, a6] st z Q)) := ni_T_ce [.ref o, .int x0, .int x1] rfl rfl rfl rfl rfl rfl rfl rfl rfl
theorem s188_110 : ni_T (d + 1) 188 110 [a0, a1, a2, a3, a4, a5, a6] (.int x1 :: .int x0 :: .ref o :: st) z h Q = (ni_rc (h o) 7 = true ∧ Nat.ble (ni_sw st) 8 = true ∧ ni_T d 184 0 [.ref o, .int x0, .int x1, .retAddr 0, .retAddr 0, .retAddr 0, .retAddr 0] [] z h (ni_K (d + 1) 188 113 [a0, a1, a2, a3, a4, a5, a6] st z Q)) := ni_T_ce [.ref o, .int x0, .int x1] rfl rfl rfl rfl rfl rfl rfl rfl rfl
theorem s188_113 : ni_T d 188 113 [a0, a1, a2, a3, a4, a5, a6] (.int x :: st) z h Q = ni_T d 188 115 [a0, a1, a2, ni_kl a3, .int x, a5, a6] st z h Q := ni_T_p rfl rfl
theorem s188_115 : ni_T d 188 115 [a0, a1, a2, a3, a4, a5, a6] st z h Q = ni_T d 188 53 [a0, a1, a2, a3, a4, a5, a6] st z h Q := ni_T_p rfl rfl
theorem s188_118 : ni_T d 188 118 [a0, a1, a2, .int x, a4, a5, a6] st z h Q = ni_T d 188 121 [a0, a1, ni_kl a2, .int (x + 1), a4, a5, a6] st z h Q := ni_T_p rfl rfl
theorem s188_121 : ni_T d 188 121 [a0, a1, a2, a3, a4, a5, a6] st z h Q = ni_T d 188 39 [a0, a1, a2, a3, a4, a5, a6] st z h Q := ni_T_p rfl rfl
theorem s188_124 : ni_T d 188 124 [.ref o, a1, a2, a3, a4, a5, a6] st z h Q = ni_T d 188 125 [.ref o, a1, a2, a3, a4, a5, a6] (.ref o :: st) z h Q := ni_T_p rfl rfl
theorem s188_125 : ni_T d 188 125 [a0, a1, a2, a3, a4, a5, a6] (.ref o :: st) z h Q = (ni_is (h o) 7 2 = true ∧ ni_T d 188 128 [a0, a1, a2, a3, a4, a5, a6] (ni_gv (h o) 2 :: st) z h Q) := ni_T_getf rfl
theorem s188_128 : ni_T d 188 128 [a0, a1, .int x, a3, a4, a5, a6] st z h Q = ni_T d 188 129 [a0, a1, .int x, a3, a4, a5, a6] (.int x :: st) z h Q := ni_T_p rfl rfl
theorem s188_129 : ni_T d 188 129 [a0, a1, a2, a3, a4, a5, a6] (.int y :: .int x :: st) z h Q = ni_T d 188 130 [a0, a1, a2, a3, a4, a5, a6] (.int (x - y) :: st) z h Q := ni_T_p rfl rfl
theorem s188_130 : ni_T d 188 130 [a0, a1, a2, a3, a4, a5, a6] [.int x] z h Q = Q (some (.int x)) z h := ni_T_i rfl rfl
theorem s189_0 : ni_T d 189 0 [.ref o, a1, a2] st z h Q = ni_T d 189 1 [.ref o, a1, a2] (.ref o :: st) z h Q := ni_T_p rfl rfl
theorem s189_1 : ni_T d 189 1 [a0, a1, a2] (.ref o :: st) z h Q = (ni_is (h o) 7 3 = true ∧ ni_T d 189 4 [a0, a1, a2] (ni_gv (h o) 3 :: st) z h Q) := ni_T_getf rfl
theorem s189_4 : ni_T d 189 4 [a0, a1, a2] (.int x :: st) z h Q = ni_T d 189 5 [a0, ni_kl a1, .int x] st z h Q := ni_T_p rfl rfl
theorem s189_5 : ni_T d 189 5 [.ref o, a1, a2] st z h Q = ni_T d 189 6 [.ref o, a1, a2] (.ref o :: st) z h Q := ni_T_p rfl rfl
theorem s189_6 : ni_T d 189 6 [a0, .int x, a2] st z h Q = ni_T d 189 7 [a0, .int x, a2] (.int x :: st) z h Q := ni_T_p rfl rfl
theorem s189_7 : ni_T d 189 7 [a0, a1, a2] (b0 :: .ref o :: st) z h Q = ((Nat.ble 7 7 && ni_is (h o) 7 3 && ni_fit (.int) b0) = true ∧ ni_T d 189 10 [a0, a1, a2] st z (ni_up h o (ni_pv (h o) 3 b0)) Q) := ni_T_putf rfl
theorem s189_10 : ni_T d 189 10 [a0, a1, .int x] st z h Q = ni_T d 189 11 [a0, a1, .int x] (.int x :: st) z h Q := ni_T_p rfl rfl
theorem s189_11 : ni_T d 189 11 [a0, a1, a2] [.int x] z h Q = Q (some (.int x)) z h := ni_T_i rfl rfl
theorem s190_0 : ni_T d 190 0 [.ref o, a1] st z h Q = ni_T d 190 1 [.ref o, a1] (.ref o :: st) z h Q := ni_T_p rfl rfl
theorem s190_1 : ni_T d 190 1 [a0, a1] (.ref o :: st) z h Q = (ni_is (h o) 7 31 = true ∧ ni_T d 190 4 [a0, a1] (ni_gv (h o) 31 :: st) z h Q) := ni_T_getf rfl
theorem s190_4 : ni_T d 190 4 [a0, a1] st z h Q = ni_T d 190 6 [a0, a1] (.int 20 :: st) z h Q := ni_T_p rfl rfl
theorem s190_6 : ni_T d 190 6 [a0, a1] (.int y :: .int x :: st) z h Q = if y ≤ x then ni_T d 190 19 [a0, a1] st z h Q else ni_T d 190 9 [a0, a1] st z h Q := ni_T_b rfl rfl
theorem s190_9 : ni_T d 190 9 [.ref o, a1] st z h Q = ni_T d 190 10 [.ref o, a1] (.ref o :: st) z h Q := ni_T_p rfl rfl
theorem s190_10 : ni_T d 190 10 [a0, a1] (.ref o :: st) z h Q = (ni_is (h o) 7 30 = true ∧ ni_T d 190 13 [a0, a1] (ni_gv (h o) 30 :: st) z h Q) := ni_T_getf rfl
theorem s190_13 : ni_T d 190 13 [.ref o, a1] st z h Q = ni_T d 190 14 [.ref o, a1] (.ref o :: st) z h Q := ni_T_p rfl rfl
theorem s190_14 : ni_T d 190 14 [a0, a1] (.ref o :: st) z h Q = (ni_is (h o) 7 31 = true ∧ ni_T d 190 17 [a0, a1] (ni_gv (h o) 31 :: st) z h Q) := ni_T_getf rfl
theorem s190_17 : ni_T d 190 17 [a0, .int x] st z h Q = ni_T d 190 18 [a0, .int x] (.int x :: st) z h Q := ni_T_p rfl rfl
theorem s190_18 : ni_T d 190 18 [a0, a1] (.int y :: .int x :: .ref o :: st) z h Q = (ni_okS (h o) x = true ∧ ni_T d 190 19 [a0, a1] st z (ni_up h o (ni_pi (h o) x y)) Q) := ni_T_iast rfl
theorem s190_19 : ni_T d 190 19 [.ref o, a1] st z h Q = ni_T d 190 20 [.ref o, a1] (.ref o :: st) z h Q := ni_T_p rfl rfl
theorem s190_20 : ni_T d 190 20 [a0, a1] (.ref o :: st) z h Q = ni_T d 190 21 [a0, a1] (.ref o :: .ref o :: st) z h Q := ni_T_p rfl rfl
theorem s190_20i : ni_T d 190 20 [a0, a1] (.int x :: st) z h Q = ni_T d 190 21 [a0, a1] (.int x :: .int x :: st) z h Q := ni_T_p rfl rfl
theorem s190_21 : ni_T d 190 21 [a0, a1] (.ref o :: st) z h Q = (ni_is (h o) 7 31 = true ∧ ni_T d 190 24 [a0, a1] (ni_gv (h o) 31 :: st) z h Q) := ni_T_getf rfl
theorem s190_24 : ni_T d 190 24 [a0, a1] st z h Q = ni_T d 190 25 [a0, a1] (.int 1 :: st) z h Q := ni_T_p rfl rfl
theorem s190_25 : ni_T d 190 25 [a0, a1] (.int y :: .int x :: st) z h Q = ni_T d 190 26 [a0, a1] (.int (x + y) :: st) z h Q := ni_T_p rfl rfl
theorem s190_26 : ni_T d 190 26 [a0, a1] (b0 :: .ref o :: st) z h Q = ((Nat.ble 7 7 && ni_is (h o) 7 31 && ni_fit (.int) b0) = true ∧ ni_T d 190 29 [a0, a1] st z (ni_up h o (ni_pv (h o) 31 b0)) Q) := ni_T_putf rfl
theorem s190_29 : ni_T d 190 29 [a0, a1] [] z h Q = Q none z h := ni_T_v rfl rfl
theorem s191_0 : ni_T d 191 0 [.ref o, a1, a2, a3, a4] st z h Q = ni_T d 191 1 [.ref o, a1, a2, a3, a4] (.ref o :: st) z h Q := ni_T_p rfl rfl
theorem s191_1 : ni_T d 191 1 [a0, a1, a2, a3, a4] (.ref o :: st) z h Q = (ni_is (h o) 7 6 = true ∧ ni_T d 191 4 [a0, a1, a2, a3, a4] (ni_gv (h o) 6 :: st) z h Q) := ni_T_getf rfl
theorem s191_4 : ni_T d 191 4 [a0, .int x, a2, a3, a4] st z h Q = ni_T d 191 5 [a0, .int x, a2, a3, a4] (.int x :: st) z h Q := ni_T_p rfl rfl
theorem s191_5 : ni_T d 191 5 [a0, a1, a2, a3, a4] (.int x :: .ref o :: st) z h Q = (ni_okI (h o) x = true ∧ ni_T d 191 6 [a0, a1, a2, a3, a4] (.int (ni_gi (h o) x) :: st) z h Q) := ni_T_iald rfl
theorem s191_6 : ni_T d 191 6 [a0, a1, a2, a3, a4] (.int x :: st) z h Q = ni_T d 191 7 [a0, a1, ni_kl a2, .int x, a4] st z h Q := ni_T_p rfl rfl
theorem s191_7 : ni_T d 191 7 [a0, a1, a2, .int x, a4] st z h Q = ni_T d 191 8 [a0, a1, a2, .int x, a4] (.int x :: st) z h Q := ni_T_p rfl rfl
theorem s191_8 : ni_T d 191 8 [a0, a1, a2, a3, a4] st z h Q = ni_T d 191 10 [a0, a1, a2, a3, a4] (.int 6 :: st) z h Q := ni_T_p rfl rfl
theorem s191_10 : ni_T d 191 10 [a0, a1, a2, a3, a4] (.int y :: .int x :: st) z h Q = if x = y then ni_T d 191 13 [a0, a1, a2, a3, a4] st z h Q else ni_T d 191 19 [a0, a1, a2, a3, a4] st z h Q := ni_T_b rfl rfl
theorem s191_13 : ni_T d 191 13 [.ref o, a1, a2, a3, a4] st z h Q = ni_T d 191 14 [.ref o, a1, a2, a3, a4] (.ref o :: st) z h Q := ni_T_p rfl rfl
theorem s191_14 : ni_T d 191 14 [a0, a1, a2, a3, a4] st z h Q = ni_T d 191 16 [a0, a1, a2, a3, a4] (.int 70 :: st) z h Q := ni_T_p rfl rfl
theorem s191_16 : ni_T (d + 1) 191 16 [a0, a1, a2, a3, a4] (.int x0 :: .ref o :: st) z h Q = (ni_rc (h o) 7 = true ∧ Nat.ble (ni_sw st) 8 = true ∧ ni_T d 190 0 [.ref o, .int x0] [] z h (ni_K (d + 1) 191 19 [a0, a1, a2, a3, a4] st z Q)) := ni_T_ce [.ref o, .int x0] rfl rfl rfl rfl rfl rfl rfl rfl rfl
theorem s191_19 : ni_T d 191 19 [a0, a1, a2, .int x, a4] st z h Q = ni_T d 191 20 [a0, a1, a2, .int x, a4] (.int x :: st) z h Q := ni_T_p rfl rfl
theorem s191_20 : ni_T d 191 20 [a0, a1, a2, a3, a4] st z h Q = ni_T d 191 21 [a0, a1, a2, a3, a4] (.int 4 :: st) z h Q := ni_T_p rfl rfl
theorem s191_21 : ni_T d 191 21 [a0, a1, a2, a3, a4] (.int y :: .int x :: st) z h Q = if x = y then ni_T d 191 30 [a0, a1, a2, a3, a4] st z h Q else ni_T d 191 24 [a0, a1, a2, a3, a4] st z h Q := ni_T_b rfl rfl
theorem s191_24 : ni_T d 191 24 [a0, a1, a2, .int x, a4] st z h Q = ni_T d 191 25 [a0, a1, a2, .int x, a4] (.int x :: st) z h Q := ni_T_p rfl rfl
theorem s191_25 : ni_T d 191 25 [a0, a1, a2, a3, a4] st z h Q = ni_T d 191 27 [a0, a1, a2, a3, a4] (.int 6 :: st) z h Q := ni_T_p rfl rfl
theorem s191_27 : ni_T d 191 27 [a0, a1, a2, a3, a4] (.int y :: .int x :: st) z h Q = if x = y then ni_T d 191 30 [a0, a1, a2, a3, a4] st z h Q else ni_T d 191 36 [a0, a1, a2, a3, a4] st z h Q := ni_T_b rfl rfl
theorem s191_30 : ni_T d 191 30 [.ref o, a1, a2, a3, a4] st z h Q = ni_T d 191 31 [.ref o, a1, a2, a3, a4] (.ref o :: st) z h Q := ni_T_p rfl rfl
theorem s191_31 : ni_T d 191 31 [a0, a1, a2, a3, a4] st z h Q = ni_T d 191 33 [a0, a1, a2, a3, a4] (.int 51 :: st) z h Q := ni_T_p rfl rfl
theorem s191_33 : ni_T (d + 1) 191 33 [a0, a1, a2, a3, a4] (.int x0 :: .ref o :: st) z h Q = (ni_rc (h o) 7 = true ∧ Nat.ble (ni_sw st) 8 = true ∧ ni_T d 190 0 [.ref o, .int x0] [] z h (ni_K (d + 1) 191 36 [a0, a1, a2, a3, a4] st z Q)) := ni_T_ce [.ref o, .int x0] rfl rfl rfl rfl rfl rfl rfl rfl rfl
theorem s191_36 : ni_T d 191 36 [a0, a1, a2, .int x, a4] st z h Q = ni_T d 191 37 [a0, a1, a2, .int x, a4] (.int x :: st) z h Q := ni_T_p rfl rfl
theorem s191_37 : ni_T d 191 37 [a0, a1, a2, a3, a4] st z h Q = ni_T d 191 38 [a0, a1, a2, a3, a4] (.int 1 :: st) z h Q := ni_T_p rfl rfl
theorem s191_38 : ni_T d 191 38 [a0, a1, a2, a3, a4] (.int y :: .int x :: st) z h Q = if x = y then ni_T d 191 46 [a0, a1, a2, a3, a4] st z h Q else ni_T d 191 41 [a0, a1, a2, a3, a4] st z h Q := ni_T_b rfl rfl
theorem s191_41 : ni_T d 191 41 [a0, a1, a2, .int x, a4] st z h Q = ni_T d 191 42 [a0, a1, a2, .int x, a4] (.int x :: st) z h Q := ni_T_p rfl rfl
theorem s191_42 : ni_T d 191 42 [a0, a1, a2, a3, a4] st z h Q = ni_T d 191 43 [a0, a1, a2, a3, a4] (.int 5 :: st) z h Q := ni_T_p rfl rfl
theorem s191_43 : ni_T d 191 43 [a0, a1, a2, a3, a4] (.int y :: .int x :: st) z h Q = if x = y then ni_T d 191 46 [a0, a1, a2, a3, a4] st z h Q else ni_T d 191 52 [a0, a1, a2, a3, a4] st z h Q := ni_T_b rfl rfl
theorem s191_46 : ni_T d 191 46 [.ref o, a1, a2, a3, a4] st z h Q = ni_T d 191 47 [.ref o, a1, a2, a3, a4] (.ref o :: st) z h Q := ni_T_p rfl rfl
theorem s191_47 : ni_T d 191 47 [a0, a1, a2, a3, a4] st z h Q = ni_T d 191 49 [a0, a1, a2, a3, a4] (.int 20 :: st) z h Q := ni_T_p rfl rfl
theorem s191_49 : ni_T (d + 1) 191 49 [a0, a1, a2, a3, a4] (.int x0 :: .ref o :: st) z h Q = (ni_rc (h o) 7 = true ∧ Nat.ble (ni_sw st) 8 = true ∧ ni_T d 190 0 [.ref o, .int x0] [] z h (ni_K (d + 1) 191 52 [a0, a1, a2, a3, a4] st z Q)) := ni_T_ce [.ref o, .int x0] rfl rfl rfl rfl rfl rfl rfl rfl rfl
theorem s191_52 : ni_T d 191 52 [.ref o, a1, a2, a3, a4] st z h Q = ni_T d 191 53 [.ref o, a1, a2, a3, a4] (.ref o :: st) z h Q := ni_T_p rfl rfl
theorem s191_53 : ni_T d 191 53 [a0, a1, a2, a3, a4] st z h Q = ni_T d 191 55 [a0, a1, a2, a3, a4] (.int 10 :: st) z h Q := ni_T_p rfl rfl
theorem s191_55 : ni_T (d + 1) 191 55 [a0, a1, a2, a3, a4] (.int x0 :: .ref o :: st) z h Q = (ni_rc (h o) 7 = true ∧ Nat.ble (ni_sw st) 8 = true ∧ ni_T d 190 0 [.ref o, .int x0] [] z h (ni_K (d + 1) 191 58 [a0, a1, a2, a3, a4] st z Q)) := ni_T_ce [.ref o, .int x0] rfl rfl rfl rfl rfl rfl rfl rfl rfl
theorem s191_58 : ni_T d 191 58 [a0, a1, .int x, a3, a4] st z h Q = ni_T d 191 59 [a0, a1, .int x, a3, a4] (.int x :: st) z h Q := ni_T_p rfl rfl
theorem s191_59 : ni_T d 191 59 [a0, .int x, a2, a3, a4] st z h Q = ni_T d 191 60 [a0, .int x, a2, a3, a4] (.int x :: st) z h Q := ni_T_p rfl rfl
theorem s191_60 : ni_T d 191 60 [a0, a1, a2, a3, a4] (.int y :: .int x :: st) z h Q = ni_T d 191 61 [a0, a1, a2, a3, a4] (.int (x + y) :: st) z h Q := ni_T_p rfl rfl
theorem s191_61 : ni_T d 191 61 [a0, a1, a2, a3, a4] (.int x :: st) z h Q = ni_T d 191 63 [a0, a1, a2, ni_kl a3, .int x] st z h Q := ni_T_p rfl rfl
theorem s191_63 : ni_T d 191 63 [a0, a1, a2, .int x, a4] st z h Q = ni_T d 191 64 [a0, a1, a2, .int x, a4] (.int x :: st) z h Q := ni_T_p rfl rfl
theorem s191_64 : ni_T d 191 64 [a0, a1, a2, a3, a4] st z h Q = ni_T d 191 65 [a0, a1, a2, a3, a4] (.int 1 :: st) z h Q := ni_T_p rfl rfl
theorem s191_65 : ni_T d 191 65 [a0, a1, a2, a3, a4] (.int y :: .int x :: st) z h Q = if x = y then ni_T d 191 73 [a0, a1, a2, a3, a4] st z h Q else ni_T d 191 68 [a0, a1, a2, a3, a4] st z h Q := ni_T_b rfl rfl
theorem s191_68 : ni_T d 191 68 [a0, a1, a2, .int x, a4] st z h Q = ni_T d 191 69 [a0, a1, a2, .int x, a4] (.int x :: st) z h Q := ni_T_p rfl rfl
theorem s191_69 : ni_T d 191 69 [a0, a1, a2, a3, a4] st z h Q = ni_T d 191 70 [a0, a1, a2, a3, a4] (.int 5 :: st) z h Q := ni_T_p rfl rfl
theorem s191_70 : ni_T d 191 70 [a0, a1, a2, a3, a4] (.int y :: .int x :: st) z h Q = if x = y then ni_T d 191 73 [a0, a1, a2, a3, a4] st z h Q else ni_T d 191 84 [a0, a1, a2, a3, a4] st z h Q := ni_T_b rfl rfl
theorem s191_73 : ni_T d 191 73 [a0, a1, a2, a3, .int x] st z h Q = ni_T d 191 75 [a0, a1, a2, a3, .int x] (.int x :: st) z h Q := ni_T_p rfl rfl
theorem s191_75 : ni_T d 191 75 [.ref o, a1, a2, a3, a4] st z h Q = ni_T d 191 76 [.ref o, a1, a2, a3, a4] (.ref o :: st) z h Q := ni_T_p rfl rfl
theorem s191_76 : ni_T d 191 76 [a0, a1, a2, a3, a4] (.ref o :: st) z h Q = (ni_is (h o) 7 7 = true ∧ ni_T d 191 79 [a0, a1, a2, a3, a4] (ni_gv (h o) 7 :: st) z h Q) := ni_T_getf rfl
theorem s191_79 : ni_T d 191 79 [a0, .int x, a2, a3, a4] st z h Q = ni_T d 191 80 [a0, .int x, a2, a3, a4] (.int x :: st) z h Q := ni_T_p rfl rfl
theorem s191_80 : ni_T d 191 80 [a0, a1, a2, a3, a4] (.int x :: .ref o :: st) z h Q = (ni_okI (h o) x = true ∧ ni_T d 191 81 [a0, a1, a2, a3, a4] (.int (ni_gi (h o) x) :: st) z h Q) := ni_T_iald rfl
theorem s191_81 : ni_T d 191 81 [a0, a1, a2, a3, a4] (.int y :: .int x :: st) z h Q = ni_T d 191 82 [a0, a1, a2, a3, a4] (.int (x + y) :: st) z h Q := ni_T_p rfl rfl
theorem s191_82 : ni_T d 191 82 [a0, a1, a2, a3, a4] (.int x :: st) z h Q = ni_T d 191 84 [a0, a1, a2, ni_kl a3, .int x] st z h Q := ni_T_p rfl rfl
theorem s191_84 : ni_T d 191 84 [a0, a1, a2, .int x, a4] st z h Q = ni_T d 191 85 [a0, a1, a2, .int x, a4] (.int x :: st) z h Q := ni_T_p rfl rfl
theorem s191_85 : ni_T d 191 85 [a0, a1, a2, a3, a4] st z h Q = ni_T d 191 86 [a0, a1, a2, a3, a4] (.int 4 :: st) z h Q := ni_T_p rfl rfl
theorem s191_86 : ni_T d 191 86 [a0, a1, a2, a3, a4] (.int y :: .int x :: st) z h Q = if x = y then ni_T d 191 95 [a0, a1, a2, a3, a4] st z h Q else ni_T d 191 89 [a0, a1, a2, a3, a4] st z h Q := ni_T_b rfl rfl
theorem s191_89 : ni_T d 191 89 [a0, a1, a2, .int x, a4] st z h Q = ni_T d 191 90 [a0, a1, a2, .int x, a4] (.int x :: st) z h Q := ni_T_p rfl rfl
theorem s191_90 : ni_T d 191 90 [a0, a1, a2, a3, a4] st z h Q = ni_T d 191 92 [a0, a1, a2, a3, a4] (.int 6 :: st) z h Q := ni_T_p rfl rfl
theorem s191_92 : ni_T d 191 92 [a0, a1, a2, a3, a4] (.int y :: .int x :: st) z h Q = if x = y then ni_T d 191 95 [a0, a1, a2, a3, a4] st z h Q else ni_T d 191 101 [a0, a1, a2, a3, a4] st z h Q := ni_T_b rfl rfl
theorem s191_95 : ni_T d 191 95 [a0, a1, a2, a3, .int x] st z h Q = ni_T d 191 97 [a0, a1, a2, a3, .int x] (.int x :: st) z h Q := ni_T_p rfl rfl
theorem s191_97 : ni_T d 191 97 [a0, .int x, a2, a3, a4] st z h Q = ni_T d 191 98 [a0, .int x, a2, a3, a4] (.int x :: st) z h Q := ni_T_p rfl rfl
theorem s191_98 : ni_T d 191 98 [a0, a1, a2, a3, a4] (.int y :: .int x :: st) z h Q = ni_T d 191 99 [a0, a1, a2, a3, a4] (.int (x - y) :: st) z h Q := ni_T_p rfl rfl
theorem s191_99 : ni_T d 191 99 [a0, a1, a2, a3, a4] (.int x :: st) z h Q = ni_T d 191 101 [a0, a1, a2, ni_kl a3, .int x] st z h Q := ni_T_p rfl rfl
theorem s191_101 : ni_T d 191 101 [a0, a1, a2, .int x, a4] st z h Q = ni_T d 191 102 [a0, a1, a2, .int x, a4] (.int x :: st) z h Q := ni_T_p rfl rfl
theorem s191_102 : ni_T d 191 102 [a0, a1, a2, a3, a4] st z h Q = ni_T d 191 104 [a0, a1, a2, a3, a4] (.int 6 :: st) z h Q := ni_T_p rfl rfl
theorem s191_104 : ni_T d 191 104 [a0, a1, a2, a3, a4] (.int y :: .int x :: st) z h Q = if x = y then ni_T d 191 107 [a0, a1, a2, a3, a4] st z h Q else ni_T d 191 114 [a0, a1, a2, a3, a4] st z h Q := ni_T_b rfl rfl
theorem s191_107 : ni_T d 191 107 [a0, a1, a2, a3, .int x] st z h Q = ni_T d 191 109 [a0, a1, a2, a3, .int x] (.int x :: st) z h Q := ni_T_p rfl rfl
theorem s191_109 : ni_T d 191 109 [a0, a1, a2, a3, a4] st z h Q = ni_T d 191 110 [a0, a1, a2, a3, a4] (.int 2 :: st) z h Q := ni_T_p rfl rfl
theorem s191_110 : ni_T d 191 110 [a0, a1, a2, a3, a4] (.int y :: .int x :: st) z h Q = ni_T d 191 111 [a0, a1, a2, a3, a4] (.int (x * y) :: st) z h Q := ni_T_p rfl rfl
theorem s191_111 : ni_T d 191 111 [a0, a1, a2, a3, a4] st z h Q = ni_T d 191 116 [a0, a1, a2, a3, a4] st z h Q := ni_T_p rfl rfl
theorem s191_114 : ni_T d 191 114 [a0, a1, a2, a3, .int x] st z h Q = ni_T d 191 116 [a0, a1, a2, a3, .int x] (.int x :: st) z h Q := ni_T_p rfl rfl
theorem s191_116 : ni_T d 191 116 [a0, a1, a2, a3, a4] [.int x] z h Q = Q (some (.int x)) z h := ni_T_i rfl rfl
theorem s192_0 : ni_T d 192 0 [.ref o, a1, a2, a3, a4, a5, a6] st z h Q = ni_T d 192 1 [.ref o, a1, a2, a3, a4, a5, a6] (.ref o :: st) z h Q := ni_T_p rfl rfl
theorem s192_1 : ni_T d 192 1 [a0, a1, a2, a3, a4, a5, a6] (.ref o :: st) z h Q = (ni_is (h o) 7 6 = true ∧ ni_T d 192 4 [a0, a1, a2, a3, a4, a5, a6] (ni_gv (h o) 6 :: st) z h Q) := ni_T_getf rfl
theorem s192_4 : ni_T d 192 4 [a0, .int x, a2, a3, a4, a5, a6] st z h Q = ni_T d 192 5 [a0, .int x, a2, a3, a4, a5, a6] (.int x :: st) z h Q := ni_T_p rfl rfl
theorem s192_5 : ni_T d 192 5 [a0, a1, a2, a3, a4, a5, a6] (.int x :: .ref o :: st) z h Q = (ni_okI (h o) x = true ∧ ni_T d 192 6 [a0, a1, a2, a3, a4, a5, a6] (.int (ni_gi (h o) x) :: st) z h Q) := ni_T_iald rfl
theorem s192_6 : ni_T d 192 6 [a0, a1, a2, a3, a4, a5, a6] (.int x :: st) z h Q = ni_T d 192 7 [a0, a1, ni_kl a2, .int x, a4, a5, a6] st z h Q := ni_T_p rfl rfl
theorem s192_7 : ni_T d 192 7 [a0, a1, .int x, a3, a4, a5, a6] st z h Q = ni_T d 192 8 [a0, a1, .int x, a3, a4, a5, a6] (.int x :: st) z h Q := ni_T_p rfl rfl
theorem s192_8 : ni_T d 192 8 [a0, a1, a2, a3, a4, a5, a6] (.int x :: st) z h Q = ni_T d 192 10 [a0, a1, a2, ni_kl a3, .int x, a5, a6] st z h Q := ni_T_p rfl rfl
theorem s192_10 : ni_T d 192 10 [a0, a1, a2, .int x, a4, a5, a6] st z h Q = ni_T d 192 11 [a0, a1, a2, .int x, a4, a5, a6] (.int x :: st) z h Q := ni_T_p rfl rfl
theorem s192_11 : ni_T d 192 11 [a0, a1, a2, a3, a4, a5, a6] st z h Q = ni_T d 192 13 [a0, a1, a2, a3, a4, a5, a6] (.int 6 :: st) z h Q := ni_T_p rfl rfl
theorem s192_13 : ni_T d 192 13 [a0, a1, a2, a3, a4, a5, a6] (.int y :: .int x :: st) z h Q = if x = y then ni_T d 192 16 [a0, a1, a2, a3, a4, a5, a6] st z h Q else ni_T d 192 32 [a0, a1, a2, a3, a4, a5, a6] st z h Q := ni_T_b rfl rfl
theorem s192_16 : ni_T d 192 16 [.ref o, a1, a2, a3, a4, a5, a6] st z h Q = ni_T d 192 17 [.ref o, a1, a2, a3, a4, a5, a6] (.ref o :: st) z h Q := ni_T_p rfl rfl
theorem s192_17 : ni_T d 192 17 [a0, a1, a2, a3, a4, a5, a6] st z h Q = ni_T d 192 19 [a0, a1, a2, a3, a4, a5, a6] (.int 71 :: st) z h Q := ni_T_p rfl rfl
theorem s192_19 : ni_T (d + 1) 192 19 [a0, a1, a2, a3, a4, a5, a6] (.int x0 :: .ref o :: st) z h Q = (ni_rc (h o) 7 = true ∧ Nat.ble (ni_sw st) 8 = true ∧ ni_T d 190 0 [.ref o, .int x0] [] z h (ni_K (d + 1) 192 22 [a0, a1, a2, a3, a4, a5, a6] st z Q)) := ni_T_ce [.ref o, .int x0] rfl rfl rfl rfl rfl rfl rfl rfl rfl
theorem s192_22 : ni_T d 192 22 [a0, a1, .int x, a3, a4, a5, a6] st z h Q = ni_T d 192 23 [a0, a1, .int x, a3, a4, a5, a6] (.int x :: st) z h Q := ni_T_p rfl rfl
theorem s192_23 : ni_T d 192 23 [.ref o, a1, a2, a3, a4, a5, a6] st z h Q = ni_T d 192 24 [.ref o, a1, a2, a3, a4, a5, a6] (.ref o :: st) z h Q := ni_T_p rfl rfl
theorem s192_24 : ni_T d 192 24 [a0, a1, a2, a3, a4, a5, a6] (.ref o :: st) z h Q = (ni_is (h o) 7 7 = true ∧ ni_T d 192 27 [a0, a1, a2, a3, a4, a5, a6] (ni_gv (h o) 7 :: st) z h Q) := ni_T_getf rfl
theorem s192_27 : ni_T d 192 27 [a0, .int x, a2, a3, a4, a5, a6] st z h Q = ni_T d 192 28 [a0, .int x, a2, a3, a4, a5, a6] (.int x :: st) z h Q := ni_T_p rfl rfl
theorem s192_28 : ni_T d 192 28 [a0, a1, a2, a3, a4, a5, a6] (.int x :: .ref o :: st) z h Q = (ni_okI (h o) x = true ∧ ni_T d 192 29 [a0, a1, a2, a3, a4, a5, a6] (.int (ni_gi (h o) x) :: st) z h Q) := ni_T_iald rfl
theorem s192_29 : ni_T d 192 29 [a0, a1, a2, a3, a4, a5, a6] (.int y :: .int x :: st) z h Q = ni_T d 192 30 [a0, a1, a2, a3, a4, a5, a6] (.int (x - y) :: st) z h Q := ni_T_p rfl rfl
theorem s192_30 : ni_T d 192 30 [a0, a1, a2, a3, a4, a5, a6] (.int x :: st) z h Q = ni_T d 192 32 [a0, a1, a2, ni_kl a3, .int x, a5, a6] st z h Q := ni_T_p rfl rfl
theorem s192_32 : ni_T d 192 32 [a0, a1, a2, .int x, a4, a5, a6] st z h Q = ni_T d 192 33 [a0, a1, a2, .int x, a4, a5, a6] (.int x :: st) z h Q := ni_T_p rfl rfl
theorem s192_33 : ni_T d 192 33 [a0, a1, a2, a3, a4, a5, a6] st z h Q = ni_T d 192 34 [a0, a1, a2, a3, a4, a5, a6] (.int 3 :: st) z h Q := ni_T_p rfl rfl
theorem s192_34 : ni_T d 192 34 [a0, a1, a2, a3, a4, a5, a6] (.int y :: .int x :: st) z h Q = if x = y then ni_T d 192 37 [a0, a1, a2, a3, a4, a5, a6] st z h Q else ni_T d 192 48 [a0, a1, a2, a3, a4, a5, a6] st z h Q := ni_T_b rfl rfl
theorem s192_37 : ni_T d 192 37 [.ref o, a1, a2, a3, a4, a5, a6] st z h Q = ni_T d 192 38 [.ref o, a1, a2, a3, a4, a5, a6] (.ref o :: st) z h Q := ni_T_p rfl rfl
theorem s192_38 : ni_T d 192 38 [a0, a1, a2, a3, a4, a5, a6] st z h Q = ni_T d 192 40 [a0, a1, a2, a3, a4, a5, a6] (.int 40 :: st) z h Q := ni_T_p rfl rfl
theorem s192_40 : ni_T (d + 1) 192 40 [a0, a1, a2, a3, a4, a5, a6] (.int x0 :: .ref o :: st) z h Q = (ni_rc (h o) 7 = true ∧ Nat.ble (ni_sw st) 8 = true ∧ ni_T d 190 0 [.ref o, .int x0] [] z h (ni_K (d + 1) 192 43 [a0, a1, a2, a3, a4, a5, a6] st z Q)) := ni_T_ce [.ref o, .int x0] rfl rfl rfl rfl rfl rfl rfl rfl rfl
theorem s192_43 : ni_T d 192 43 [a0, a1, .int x, a3, a4, a5, a6] st z h Q = ni_T d 192 44 [a0, a1, .int x, a3, a4, a5, a6] (.int x :: st) z h Q := ni_T_p rfl rfl
theorem s192_44 : ni_T d 192 44 [a0, a1, a2, a3, a4, a5, a6] st z h Q = ni_T d 192 45 [a0, a1, a2, a3, a4, a5, a6] (.int 1 :: st) z h Q := ni_T_p rfl rfl
theorem s192_45 : ni_T d 192 45 [a0, a1, a2, a3, a4, a5, a6] (.int y :: .int x :: st) z h Q = ni_T d 192 46 [a0, a1, a2, a3, a4, a5, a6] (.int (x + y) :: st) z h Q := ni_T_p rfl rfl
theorem s192_46 : ni_T d 192 46 [a0, a1, a2, a3, a4, a5, a6] (.int x :: st) z h Q = ni_T d 192 48 [a0, a1, a2, ni_kl a3, .int x, a5, a6] st z h Q := ni_T_p rfl rfl
theorem s192_48 : ni_T d 192 48 [a0, a1, a2, .int x, a4, a5, a6] st z h Q = ni_T d 192 49 [a0, a1, a2, .int x, a4, a5, a6] (.int x :: st) z h Q := ni_T_p rfl rfl
theorem s192_49 : ni_T d 192 49 [a0, a1, a2, a3, a4, a5, a6] st z h Q = ni_T d 192 50 [a0, a1, a2, a3, a4, a5, a6] (.int 2 :: st) z h Q := ni_T_p rfl rfl
theorem s192_50 : ni_T d 192 50 [a0, a1, a2, a3, a4, a5, a6] (.int y :: .int x :: st) z h Q = if x = y then ni_T d 192 58 [a0, a1, a2, a3, a4, a5, a6] st z h Q else ni_T d 192 53 [a0, a1, a2, a3, a4, a5, a6] st z h Q := ni_T_b rfl rfl
theorem s192_53 : ni_T d 192 53 [a0, a1, a2, .int x, a4, a5, a6] st z h Q = ni_T d 192 54 [a0, a1, a2, .int x, a4, a5, a6] (.int x :: st) z h Q := ni_T_p rfl rfl
theorem s192_54 : ni_T d 192 54 [a0, a1, a2, a3, a4, a5, a6] st z h Q = ni_T d 192 55 [a0, a1, a2, a3, a4, a5, a6] (.int 3 :: st) z h Q := ni_T_p rfl rfl
theorem s192_55 : ni_T d 192 55 [a0, a1, a2, a3, a4, a5, a6] (.int y :: .int x :: st) z h Q = if x = y then ni_T d 192 58 [a0, a1, a2, a3, a4, a5, a6] st z h Q else ni_T d 192 62 [a0, a1, a2, a3, a4, a5, a6] st z h Q := ni_T_b rfl rfl
theorem s192_58 : ni_T d 192 58 [a0, a1, a2, a3, a4, a5, a6] st z h Q = ni_T d 192 59 [a0, a1, a2, a3, a4, a5, a6] (.int 1 :: st) z h Q := ni_T_p rfl rfl
theorem s192_59 : ni_T d 192 59 [a0, a1, a2, a3, a4, a5, a6] st z h Q = ni_T d 192 63 [a0, a1, a2, a3, a4, a5, a6] st z h Q := ni_T_p rfl rfl
theorem s192_62 : ni_T d 192 62 [a0, a1, a2, a3, a4, a5, a6] st z h Q = ni_T d 192 63 [a0, a1, a2, a3, a4, a5, a6] (.int 0 :: st) z h Q := ni_T_p rfl rfl
theorem s192_63 : ni_T d 192 63 [a0, a1, a2, a3, a4, a5, a6] (.int x :: st) z h Q = ni_T d 192 65 [a0, a1, a2, a3, ni_kl a4, .int x, a6] st z h Q := ni_T_p rfl rfl
theorem s192_65 : ni_T d 192 65 [a0, a1, a2, a3, a4, .int x, a6] st z h Q = ni_T d 192 67 [a0, a1, a2, a3, a4, .int x, a6] (.int x :: st) z h Q := ni_T_p rfl rfl
theorem s192_67 : ni_T d 192 67 [a0, a1, a2, a3, a4, a5, a6] (.int x :: st) z h Q = if x = 0 then ni_T d 192 76 [a0, a1, a2, a3, a4, a5, a6] st z h Q else ni_T d 192 70 [a0, a1, a2, a3, a4, a5, a6] st z h Q := ni_T_b rfl rfl
theorem s192_70 : ni_T d 192 70 [.ref o, a1, a2, a3, a4, a5, a6] st z h Q = ni_T d 192 71 [.ref o, a1, a2, a3, a4, a5, a6] (.ref o :: st) z h Q := ni_T_p rfl rfl
theorem s192_71 : ni_T d 192 71 [a0, a1, a2, a3, a4, a5, a6] st z h Q = ni_T d 192 73 [a0, a1, a2, a3, a4, a5, a6] (.int 30 :: st) z h Q := ni_T_p rfl rfl
theorem s192_73 : ni_T (d + 1) 192 73 [a0, a1, a2, a3, a4, a5, a6] (.int x0 :: .ref o :: st) z h Q = (ni_rc (h o) 7 = true ∧ Nat.ble (ni_sw st) 8 = true ∧ ni_T d 190 0 [.ref o, .int x0] [] z h (ni_K (d + 1) 192 76 [a0, a1, a2, a3, a4, a5, a6] st z Q)) := ni_T_ce [.ref o, .int x0] rfl rfl rfl rfl rfl rfl rfl rfl rfl
theorem s192_76 : ni_T d 192 76 [.ref o, a1, a2, a3, a4, a5, a6] st z h Q = ni_T d 192 77 [.ref o, a1, a2, a3, a4, a5, a6] (.ref o :: st) z h Q := ni_T_p rfl rfl
theorem s192_77 : ni_T d 192 77 [a0, a1, a2, a3, a4, a5, a6] st z h Q = ni_T d 192 79 [a0, a1, a2, a3, a4, a5, a6] (.int 11 :: st) z h Q := ni_T_p rfl rfl
theorem s192_79 : ni_T (d + 1) 192 79 [a0, a1, a2, a3, a4, a5, a6] (.int x0 :: .ref o :: st) z h Q = (ni_rc (h o) 7 = true ∧ Nat.ble (ni_sw st) 8 = true ∧ ni_T d 190 0 [.ref o, .int x0] [] z h (ni_K (d + 1) 192 82 [a0, a1, a2, a3, a4, a5, a6] st z Q)) := ni_T_ce [.ref o, .int x0] rfl rfl rfl rfl rfl rfl rfl rfl rfl
theorem s192_82 : ni_T d 192 82 [.ref o, a1, a2, a3, a4, a5, a6] st z h Q = ni_T d 192 83 [.ref o, a1, a2, a3, a4, a5, a6] (.ref o :: st) z h Q := ni_T_p rfl rfl
theorem s192_83 : ni_T d 192 83 [a0, .int x, a2, a3, a4, a5, a6] st z h Q = ni_T d 192 84 [a0, .int x, a2, a3, a4, a5, a6] (.int x :: st) z h Q := ni_T_p rfl rfl
theorem s192_84 : ni_T d 192 84 [a0, a1, a2, a3, .int x, a5, a6] st z h Q = ni_T d 192 86 [a0, a1, a2, a3, .int x, a5, a6] (.int x :: st) z h Q := ni_T_p rfl rfl
theorem s192_86 : ni_T (d + 1) 192 86 [a0, a1, a2, a3, a4, a5, a6] (.int x1 :: .int x0 :: .ref o :: st) z h Q = (ni_rc (h o) 7 = true ∧ Nat.ble (ni_sw st) 8 = true ∧ ni_T d 191 0 [.ref o, .int x0, .int x1, .retAddr 0, .retAddr 0] [] z h (ni_K (d + 1) 192 89 [a0, a1, a2, a3, a4, a5, a6] st z Q)) := ni_T_ce [.ref o, .int x0, .int x1] rfl rfl rfl rfl rfl rfl rfl rfl rfl
theorem s192_89 : ni_T d 192 89 [a0, a1, a2, a3, a4, a5, a6] st z h Q = ni_T d 192 90 [a0, a1, a2, a3, a4, a5, a6] (.int 2 :: st) z h Q := ni_T_p rfl rfl
theorem s192_90 : ni_T d 192 90 [a0, a1, a2, a3, a4, a5, a6] (.int y :: .int x :: st) z h Q = ni_T d 192 91 [a0, a1, a2, a3, a4, a5, a6] (.int (x * y) :: st) z h Q := ni_T_p rfl rfl
theorem s192_91 : ni_T d 192 91 [a0, a1, a2, a3, a4, a5, a6] (.int x :: st) z h Q = ni_T d 192 93 [a0, a1, a2, a3, a4, ni_kl a5, .int x] st z h Q := ni_T_p rfl rfl
theorem s192_93 : ni_T d 192 93 [a0, a1, a2, a3, a4, .int x, a6] st z h Q = ni_T d 192 95 [a0, a1, a2, a3, a4, .int x, a6] (.int x :: st) z h Q := ni_T_p rfl rfl
theorem s192_95 : ni_T d 192 95 [a0, a1, a2, a3, a4, a5, a6] (.int x :: st) z h Q = if x = 0 then ni_T d 192 105 [a0, a1, a2, a3, a4, a5, a6] st z h Q else ni_T d 192 98 [a0, a1, a2, a3, a4, a5, a6] st z h Q := ni_T_b rfl rfl
theorem s192_98 : ni_T d 192 98 [a0, a1, a2, a3, a4, a5, .int x] st z h Q = ni_T d 192 100 [a0, a1, a2, a3, a4, a5, .int x] (.int x :: st) z h Q := ni_T_p rfl rfl
theorem s192_100 : ni_T d 192 100 [a0, a1, a2, a3, a4, a5, a6] st z h Q = ni_T d 192 101 [a0, a1, a2, a3, a4, a5, a6] (.int 3 :: st) z h Q := ni_T_p rfl rfl
theorem s192_101 : ni_T d 192 101 [a0, a1, a2, a3, a4, a5, a6] (.int y :: .int x :: st) z h Q = ni_T d 192 102 [a0, a1, a2, a3, a4, a5, a6] (.int (x * y) :: st) z h Q := ni_T_p rfl rfl
theorem s192_102 : ni_T d 192 102 [a0, a1, a2, a3, a4, a5, a6] st z h Q = ni_T d 192 107 [a0, a1, a2, a3, a4, a5, a6] st z h Q := ni_T_p rfl rfl
theorem s192_105 : ni_T d 192 105 [a0, a1, a2, a3, a4, a5, .int x] st z h Q = ni_T d 192 107 [a0, a1, a2, a3, a4, a5, .int x] (.int x :: st) z h Q := ni_T_p rfl rfl
theorem s192_107 : ni_T d 192 107 [a0, a1, a2, a3, a4, a5, a6] [.int x] z h Q = Q (some (.int x)) z h := ni_T_i rfl rfl
theorem s193_0 : ni_T d 193 0 [.ref o, a1, a2, a3, a4] st z h Q = ni_T d 193 1 [.ref o, a1, a2, a3, a4] (.ref o :: st) z h Q := ni_T_p rfl rfl
theorem s193_1 : ni_T d 193 1 [a0, a1, a2, a3, a4] (.ref o :: st) z h Q = (ni_is (h o) 7 6 = true ∧ ni_T d 193 4 [a0, a1, a2, a3, a4] (ni_gv (h o) 6 :: st) z h Q) := ni_T_getf rfl
theorem s193_4 : ni_T d 193 4 [a0, .int x, a2, a3, a4] st z h Q = ni_T d 193 5 [a0, .int x, a2, a3, a4] (.int x :: st) z h Q := ni_T_p rfl rfl
theorem s193_5 : ni_T d 193 5 [a0, a1, a2, a3, a4] (.int x :: .ref o :: st) z h Q = (ni_okI (h o) x = true ∧ ni_T d 193 6 [a0, a1, a2, a3, a4] (.int (ni_gi (h o) x) :: st) z h Q) := ni_T_iald rfl
theorem s193_6 : ni_T d 193 6 [a0, a1, a2, a3, a4] (.int x :: st) z h Q = ni_T d 193 7 [a0, a1, ni_kl a2, .int x, a4] st z h Q := ni_T_p rfl rfl
theorem s193_7 : ni_T d 193 7 [a0, a1, a2, .int x, a4] st z h Q = ni_T d 193 8 [a0, a1, a2, .int x, a4] (.int x :: st) z h Q := ni_T_p rfl rfl
theorem s193_8 : ni_T d 193 8 [a0, a1, a2, a3, a4] st z h Q = ni_T d 193 9 [a0, a1, a2, a3, a4] (.int 4 :: st) z h Q := ni_T_p rfl rfl
theorem s193_9 : ni_T d 193 9 [a0, a1, a2, a3, a4] (.int y :: .int x :: st) z h Q = if x = y then ni_T d 193 18 [a0, a1, a2, a3, a4] st z h Q else ni_T d 193 12 [a0, a1, a2, a3, a4] st z h Q := ni_T_b rfl rfl
theorem s193_12 : ni_T d 193 12 [a0, a1, a2, .int x, a4] st z h Q = ni_T d 193 13 [a0, a1, a2, .int x, a4] (.int x :: st) z h Q := ni_T_p rfl rfl
theorem s193_13 : ni_T d 193 13 [a0, a1, a2, a3, a4] st z h Q = ni_T d 193 15 [a0, a1, a2, a3, a4] (.int 6 :: st) z h Q := ni_T_p rfl rfl
theorem s193_15 : ni_T d 193 15 [a0, a1, a2, a3, a4] (.int y :: .int x :: st) z h Q = if x = y then ni_T d 193 18 [a0, a1, a2, a3, a4] st z h Q else ni_T d 193 24 [a0, a1, a2, a3, a4] st z h Q := ni_T_b rfl rfl
theorem s193_18 : ni_T d 193 18 [.ref o, a1, a2, a3, a4] st z h Q = ni_T d 193 19 [.ref o, a1, a2, a3, a4] (.ref o :: st) z h Q := ni_T_p rfl rfl
theorem s193_19 : ni_T d 193 19 [a0, a1, a2, a3, a4] st z h Q = ni_T d 193 21 [a0, a1, a2, a3, a4] (.int 50 :: st) z h Q := ni_T_p rfl rfl
theorem s193_21 : ni_T (d + 1) 193 21 [a0, a1, a2, a3, a4] (.int x0 :: .ref o :: st) z h Q = (ni_rc (h o) 7 = true ∧ Nat.ble (ni_sw st) 8 = true ∧ ni_T d 190 0 [.ref o, .int x0] [] z h (ni_K (d + 1) 193 24 [a0, a1, a2, a3, a4] st z Q)) := ni_T_ce [.ref o, .int x0] rfl rfl rfl rfl rfl rfl rfl rfl rfl
theorem s193_24 : ni_T d 193 24 [a0, a1, a2, .int x, a4] st z h Q = ni_T d 193 25 [a0, a1, a2, .int x, a4] (.int x :: st) z h Q := ni_T_p rfl rfl
theorem s193_25 : ni_T d 193 25 [a0, a1, a2, a3, a4] st z h Q = ni_T d 193 26 [a0, a1, a2, a3, a4] (.int 5 :: st) z h Q := ni_T_p rfl rfl
theorem s193_26 : ni_T d 193 26 [a0, a1, a2, a3, a4] (.int y :: .int x :: st) z h Q = if x = y then ni_T d 193 29 [a0, a1, a2, a3, a4] st z h Q else ni_T d 193 35 [a0, a1, a2, a3, a4] st z h Q := ni_T_b rfl rfl
theorem s193_29 : ni_T d 193 29 [.ref o, a1, a2, a3, a4] st z h Q = ni_T d 193 30 [.ref o, a1, a2, a3, a4] (.ref o :: st) z h Q := ni_T_p rfl rfl
theorem s193_30 : ni_T d 193 30 [a0, a1, a2, a3, a4] st z h Q = ni_T d 193 32 [a0, a1, a2, a3, a4] (.int 60 :: st) z h Q := ni_T_p rfl rfl
theorem s193_32 : ni_T (d + 1) 193 32 [a0, a1, a2, a3, a4] (.int x0 :: .ref o :: st) z h Q = (ni_rc (h o) 7 = true ∧ Nat.ble (ni_sw st) 8 = true ∧ ni_T d 190 0 [.ref o, .int x0] [] z h (ni_K (d + 1) 193 35 [a0, a1, a2, a3, a4] st z Q)) := ni_T_ce [.ref o, .int x0] rfl rfl rfl rfl rfl rfl rfl rfl rfl
theorem s193_35 : ni_T d 193 35 [.ref o, a1, a2, a3, a4] st z h Q = ni_T d 193 36 [.ref o, a1, a2, a3, a4] (.ref o :: st) z h Q := ni_T_p rfl rfl
theorem s193_36 : ni_T d 193 36 [a0, a1, a2, a3, a4] st z h Q = ni_T d 193 38 [a0, a1, a2, a3, a4] (.int 12 :: st) z h Q := ni_T_p rfl rfl
theorem s193_38 : ni_T (d + 1) 193 38 [a0, a1, a2, a3, a4] (.int x0 :: .ref o :: st) z h Q = (ni_rc (h o) 7 = true ∧ Nat.ble (ni_sw st) 8 = true ∧ ni_T d 190 0 [.ref o, .int x0] [] z h (ni_K (d + 1) 193 41 [a0, a1, a2, a3, a4] st z Q)) := ni_T_ce [.ref o, .int x0] rfl rfl rfl rfl rfl rfl rfl rfl rfl
theorem s193_41 : ni_T d 193 41 [.ref o, a1, a2, a3, a4] st z h Q = ni_T d 193 42 [.ref o, a1, a2, a3, a4] (.ref o :: st) z h Q := ni_T_p rfl rfl
theorem s193_42 : ni_T d 193 42 [a0, .int x, a2, a3, a4] st z h Q = ni_T d 193 43 [a0, .int x, a2, a3, a4] (.int x :: st) z h Q := ni_T_p rfl rfl
theorem s193_43 : ni_T d 193 43 [a0, a1, .int x, a3, a4] st z h Q = ni_T d 193 44 [a0, a1, .int x, a3, a4] (.int x :: st) z h Q := ni_T_p rfl rfl
theorem s193_44 : ni_T (d + 1) 193 44 [a0, a1, a2, a3, a4] (.int x1 :: .int x0 :: .ref o :: st) z h Q = (ni_rc (h o) 7 = true ∧ Nat.ble (ni_sw st) 8 = true ∧ ni_T d 192 0 [.ref o, .int x0, .int x1, .retAddr 0, .retAddr 0, .retAddr 0, .retAddr 0] [] z h (ni_K (d + 1) 193 47 [a0, a1, a2, a3, a4] st z Q)) := ni_T_ce [.ref o, .int x0, .int x1] rfl rfl rfl rfl rfl rfl rfl rfl rfl
theorem s193_47 : ni_T d 193 47 [a0, a1, a2, a3, a4] (.int x :: st) z h Q = ni_T d 193 49 [a0, a1, a2, ni_kl a3, .int x] st z h Q := ni_T_p rfl rfl
theorem s193_49 : ni_T d 193 49 [a0, a1, a2, a3, .int x] st z h Q = ni_T d 193 51 [a0, a1, a2, a3, .int x] (.int x :: st) z h Q := ni_T_p rfl rfl
theorem s193_51 : ni_T d 193 51 [.ref o, a1, a2, a3, a4] st z h Q = ni_T d 193 52 [.ref o, a1, a2, a3, a4] (.ref o :: st) z h Q := ni_T_p rfl rfl
theorem s193_52 : ni_T d 193 52 [a0, .int x, a2, a3, a4] st z h Q = ni_T d 193 53 [a0, .int x, a2, a3, a4] (.int x :: st) z h Q := ni_T_p rfl rfl
theorem s193_53 : ni_T d 193 53 [a0, a1, .int x, a3, a4] st z h Q = ni_T d 193 54 [a0, a1, .int x, a3, a4] (.int x :: st) z h Q := ni_T_p rfl rfl
theorem s193_54 : ni_T d 193 54 [.ref o, a1, a2, a3, a4] st z h Q = ni_T d 193 55 [.ref o, a1, a2, a3, a4] (.ref o :: st) z h Q := ni_T_p rfl rfl
theorem s193_55 : ni_T d 193 55 [a0, a1, a2, a3, a4] (.ref o :: st) z h Q = (ni_is (h o) 7 7 = true ∧ ni_T d 193 58 [a0, a1, a2, a3, a4] (ni_gv (h o) 7 :: st) z h Q) := ni_T_getf rfl
theorem s193_58 : ni_T d 193 58 [a0, .int x, a2, a3, a4] st z h Q = ni_T d 193 59 [a0, .int x, a2, a3, a4] (.int x :: st) z h Q := ni_T_p rfl rfl
theorem s193_59 : ni_T d 193 59 [a0, a1, a2, a3, a4] (.int x :: .ref o :: st) z h Q = (ni_okI (h o) x = true ∧ ni_T d 193 60 [a0, a1, a2, a3, a4] (.int (ni_gi (h o) x) :: st) z h Q) := ni_T_iald rfl
theorem s193_60 : ni_T d 193 60 [a0, a1, a2, a3, a4] (.int y :: .int x :: st) z h Q = ni_T d 193 61 [a0, a1, a2, a3, a4] (.int (x - y) :: st) z h Q := ni_T_p rfl rfl
theorem s193_61 : ni_T (d + 1) 193 61 [a0, a1, a2, a3, a4] (.int x1 :: .int x0 :: .ref o :: st) z h Q = (ni_rc (h o) 7 = true ∧ Nat.ble (ni_sw st) 8 = true ∧ ni_T d 191 0 [.ref o, .int x0, .int x1, .retAddr 0, .retAddr 0] [] z h (ni_K (d + 1) 193 64 [a0, a1, a2, a3, a4] st z Q)) := ni_T_ce [.ref o, .int x0, .int x1] rfl rfl rfl rfl rfl rfl rfl rfl rfl
theorem s193_64 : ni_T d 193 64 [a0, a1, a2, a3, a4] (.int y :: .int x :: st) z h Q = ni_T d 193 65 [a0, a1, a2, a3, a4] (.int (x ^^^ y) :: st) z h Q := ni_T_p rfl rfl
theorem s193_65 : ni_T d 193 65 [a0, a1, a2, a3, a4] (.int x :: st) z h Q = ni_T d 193 67 [a0, a1, a2, ni_kl a3, .int x] st z h Q := ni_T_p rfl rfl
theorem s193_67 : ni_T d 193 67 [a0, a1, a2, .int x, a4] st z h Q = ni_T d 193 68 [a0, a1, a2, .int x, a4] (.int x :: st) z h Q := ni_T_p rfl rfl
theorem s193_68 : ni_T d 193 68 [a0, a1, a2, a3, a4] st z h Q = ni_T d 193 69 [a0, a1, a2, a3, a4] (.int 4 :: st) z h Q := ni_T_p rfl rfl
theorem s193_69 : ni_T d 193 69 [a0, a1, a2, a3, a4] (.int y :: .int x :: st) z h Q = if x = y then ni_T d 193 78 [a0, a1, a2, a3, a4] st z h Q else ni_T d 193 72 [a0, a1, a2, a3, a4] st z h Q := ni_T_b rfl rfl
theorem s193_72 : ni_T d 193 72 [a0, a1, a2, .int x, a4] st z h Q = ni_T d 193 73 [a0, a1, a2, .int x, a4] (.int x :: st) z h Q := ni_T_p rfl rfl
theorem s193_73 : ni_T d 193 73 [a0, a1, a2, a3, a4] st z h Q = ni_T d 193 75 [a0, a1, a2, a3, a4] (.int 6 :: st) z h Q := ni_T_p rfl rfl
theorem s193_75 : ni_T d 193 75 [a0, a1, a2, a3, a4] (.int y :: .int x :: st) z h Q = if x = y then ni_T d 193 78 [a0, a1, a2, a3, a4] st z h Q else ni_T d 193 84 [a0, a1, a2, a3, a4] st z h Q := ni_T_b rfl rfl
theorem s193_78 : ni_T d 193 78 [a0, a1, a2, a3, .int x] st z h Q = ni_T d 193 80 [a0, a1, a2, a3, .int x] (.int x :: st) z h Q := ni_T_p rfl rfl
theorem s193_80 : ni_T d 193 80 [a0, a1, a2, a3, a4] (.int x :: st) z h Q = ni_T d 193 81 [a0, a1, a2, a3, a4] (.int (-x) :: st) z h Q := ni_T_p rfl rfl
theorem s193_81 : ni_T d 193 81 [a0, a1, a2, a3, a4] st z h Q = ni_T d 193 98 [a0, a1, a2, a3, a4] st z h Q := ni_T_p rfl rfl
theorem s193_84 : ni_T d 193 84 [a0, a1, a2, .int x, a4] st z h Q = ni_T d 193 85 [a0, a1, a2, .int x, a4] (.int x :: st) z h Q := ni_T_p rfl rfl
theorem s193_85 : ni_T d 193 85 [a0, a1, a2, a3, a4] st z h Q = ni_T d 193 86 [a0, a1, a2, a3, a4] (.int 5 :: st) z h Q := ni_T_p rfl rfl
theorem s193_86 : ni_T d 193 86 [a0, a1, a2, a3, a4] (.int y :: .int x :: st) z h Q = if x = y then ni_T d 193 89 [a0, a1, a2, a3, a4] st z h Q else ni_T d 193 96 [a0, a1, a2, a3, a4] st z h Q := ni_T_b rfl rfl
theorem s193_89 : ni_T d 193 89 [a0, a1, a2, a3, .int x] st z h Q = ni_T d 193 91 [a0, a1, a2, a3, .int x] (.int x :: st) z h Q := ni_T_p rfl rfl
theorem s193_91 : ni_T d 193 91 [a0, a1, a2, a3, a4] st z h Q = ni_T d 193 92 [a0, a1, a2, a3, a4] (.int 5 :: st) z h Q := ni_T_p rfl rfl
theorem s193_92 : ni_T d 193 92 [a0, a1, a2, a3, a4] (.int y :: .int x :: st) z h Q = ni_T d 193 93 [a0, a1, a2, a3, a4] (.int (x ^^^ y) :: st) z h Q := ni_T_p rfl rfl
theorem s193_93 : ni_T d 193 93 [a0, a1, a2, a3, a4] st z h Q = ni_T d 193 98 [a0, a1, a2, a3, a4] st z h Q := ni_T_p rfl rfl
theorem s193_96 : ni_T d 193 96 [a0, a1, a2, a3, .int x] st z h Q = ni_T d 193 98 [a0, a1, a2, a3, .int x] (.int x :: st) z h Q := ni_T_p rfl rfl
theorem s193_98 : ni_T d 193 98 [a0, a1, a2, a3, a4] [.int x] z h Q = Q (some (.int x)) z h := ni_T_i rfl rfl
theorem s194_0 : ni_T d 194 0 [.ref o, a1, a2, a3] st z h Q = ni_T d 194 1 [.ref o, a1, a2, a3] (.ref o :: st) z h Q := ni_T_p rfl rfl
theorem s194_1 : ni_T d 194 1 [a0, a1, a2, a3] st z h Q = ni_T d 194 2 [a0, a1, a2, a3] (.int 0 :: st) z h Q := ni_T_p rfl rfl
theorem s194_2 : ni_T d 194 2 [a0, a1, a2, a3] (b0 :: .ref o :: st) z h Q = ((Nat.ble 7 7 && ni_is (h o) 7 31 && ni_fit (.int) b0) = true ∧ ni_T d 194 5 [a0, a1, a2, a3] st z (ni_up h o (ni_pv (h o) 31 b0)) Q) := ni_T_putf rfl
theorem s194_5 : ni_T d 194 5 [.ref o, a1, a2, a3] st z h Q = ni_T d 194 6 [.ref o, a1, a2, a3] (.ref o :: st) z h Q := ni_T_p rfl rfl
theorem s194_6 : ni_T d 194 6 [a0, .int x, a2, a3] st z h Q = ni_T d 194 7 [a0, .int x, a2, a3] (.int x :: st) z h Q := ni_T_p rfl rfl
theorem s194_7 : ni_T (d + 1) 194 7 [a0, a1, a2, a3] (.int x0 :: .ref o :: st) z h Q = (ni_rc (h o) 7 = true ∧ Nat.ble (ni_sw st) 8 = true ∧ ni_T d 123 0 [.ref o, .int x0] [] z h (ni_K (d + 1) 194 10 [a0, a1, a2, a3] st z Q)) := ni_T_ce [.ref o, .int x0] rfl rfl rfl rfl rfl rfl rfl rfl rfl
theorem s194_10 : ni_T d 194 10 [a0, a1, a2, a3] (.int x :: st) z h Q = if x = 0 then ni_T d 194 22 [a0, a1, a2, a3] st z h Q else ni_T d 194 13 [a0, a1, a2, a3] st z h Q := ni_T_b rfl rfl
theorem s194_13 : ni_T d 194 13 [a0, a1, .int x, a3] st z h Q = ni_T d 194 14 [a0, a1, .int x, a3] (.int x :: st) z h Q := ni_T_p rfl rfl
theorem s194_14 : ni_T d 194 14 [a0, a1, a2, a3] (.int x :: st) z h Q = if x < 0 then ni_T d 194 22 [a0, a1, a2, a3] st z h Q else ni_T d 194 17 [a0, a1, a2, a3] st z h Q := ni_T_b rfl rfl
theorem s194_17 : ni_T d 194 17 [a0, a1, .int x, a3] st z h Q = ni_T d 194 18 [a0, a1, .int x, a3] (.int x :: st) z h Q := ni_T_p rfl rfl
theorem s194_18 : ni_T d 194 18 [a0, a1, a2, a3] st z h Q = ni_T d 194 19 [a0, a1, a2, a3] (.int 2 :: st) z h Q := ni_T_p rfl rfl
theorem s194_19 : ni_T d 194 19 [a0, a1, a2, a3] (.int y :: .int x :: st) z h Q = if x ≤ y then ni_T d 194 24 [a0, a1, a2, a3] st z h Q else ni_T d 194 22 [a0, a1, a2, a3] st z h Q := ni_T_b rfl rfl
theorem s194_22 : ni_T d 194 22 [a0, a1, a2, a3] st z h Q = ni_T d 194 23 [a0, a1, a2, a3] (.int 0 :: st) z h Q := ni_T_p rfl rfl
theorem s194_23 : ni_T d 194 23 [a0, a1, a2, a3] [.int x] z h Q = Q (some (.int x)) z h := ni_T_i rfl rfl
theorem s194_24 : ni_T d 194 24 [a0, a1, .int x, a3] st z h Q = ni_T d 194 25 [a0, a1, .int x, a3] (.int x :: st) z h Q := ni_T_p rfl rfl
theorem s194_25 : ni_T d 194 25 [a0, a1, a2, a3] (.int x :: st) z h Q = if x = 0 then ni_T d 194 28 [a0, a1, a2, a3] st z h Q else ni_T d 194 37 [a0, a1, a2, a3] st z h Q := ni_T_b rfl rfl
theorem s194_28 : ni_T d 194 28 [.ref o, a1, a2, a3] st z h Q = ni_T d 194 29 [.ref o, a1, a2, a3] (.ref o :: st) z h Q := ni_T_p rfl rfl
theorem s194_29 : ni_T d 194 29 [a0, .int x, a2, a3] st z h Q = ni_T d 194 30 [a0, .int x, a2, a3] (.int x :: st) z h Q := ni_T_p rfl rfl
theorem s194_30 : ni_T d 194 30 [a0, a1, a2, .int x] st z h Q = ni_T d 194 31 [a0, a1, a2, .int x] (.int x :: st) z h Q := ni_T_p rfl rfl
theorem s194_31 : ni_T (d + 1) 194 31 [a0, a1, a2, a3] (.int x1 :: .int x0 :: .ref o :: st) z h Q = (ni_rc (h o) 7 = true ∧ Nat.ble (ni_sw st) 8 = true ∧ ni_T d 191 0 [.ref o, .int x0, .int x1, .retAddr 0, .retAddr 0] [] z h (ni_K (d + 1) 194 34 [a0, a1, a2, a3] st z Q)) := ni_T_ce [.ref o, .int x0, .int x1] rfl rfl rfl rfl rfl rfl rfl rfl rfl
theorem s194_34 : ni_T d 194 34 [a0, a1, a2, a3] st z h Q = ni_T d 194 57 [a0, a1, a2, a3] st z h Q := ni_T_p rfl rfl
theorem s194_37 : ni_T d 194 37 [a0, a1, .int x, a3] st z h Q = ni_T d 194 38 [a0, a1, .int x, a3] (.int x :: st) z h Q := ni_T_p rfl rfl
theorem s194_38 : ni_T d 194 38 [a0, a1, a2, a3] st z h Q = ni_T d 194 39 [a0, a1, a2, a3] (.int 1 :: st) z h Q := ni_T_p rfl rfl
theorem s194_39 : ni_T d 194 39 [a0, a1, a2, a3] (.int y :: .int x :: st) z h Q = if x = y then ni_T d 194 42 [a0, a1, a2, a3] st z h Q else ni_T d 194 51 [a0, a1, a2, a3] st z h Q := ni_T_b rfl rfl
theorem s194_42 : ni_T d 194 42 [.ref o, a1, a2, a3] st z h Q = ni_T d 194 43 [.ref o, a1, a2, a3] (.ref o :: st) z h Q := ni_T_p rfl rfl
theorem s194_43 : ni_T d 194 43 [a0, .int x, a2, a3] st z h Q = ni_T d 194 44 [a0, .int x, a2, a3] (.int x :: st) z h Q := ni_T_p rfl rfl
theorem s194_44 : ni_T d 194 44 [a0, a1, a2, .int x] st z h Q = ni_T d 194 45 [a0, a1, a2, .int x] (.int x :: st) z h Q := ni_T_p rfl rfl
theorem s194_45 : ni_T (d + 1) 194 45 [a0, a1, a2, a3] (.int x1 :: .int x0 :: .ref o :: st) z h Q = (ni_rc (h o) 7 = true ∧ Nat.ble (ni_sw st) 8 = true ∧ ni_T d 192 0 [.ref o, .int x0, .int x1, .retAddr 0, .retAddr 0, .retAddr 0, .retAddr 0] [] z h (ni_K (d + 1) 194 48 [a0, a1, a2, a3] st z Q)) := ni_T_ce [.ref o, .int x0, .int x1] rfl rfl rfl rfl rfl rfl rfl rfl rfl
theorem s194_48 : ni_T d 194 48 [a0, a1, a2, a3] st z h Q = ni_T d 194 57 [a0, a1, a2, a3] st z h Q := ni_T_p rfl rfl
theorem s194_51 : ni_T d 194 51 [.ref o, a1, a2, a3] st z h Q = ni_T d 194 52 [.ref o, a1, a2, a3] (.ref o :: st) z h Q := ni_T_p rfl rfl
theorem s194_52 : ni_T d 194 52 [a0, .int x, a2, a3] st z h Q = ni_T d 194 53 [a0, .int x, a2, a3] (.int x :: st) z h Q := ni_T_p rfl rfl
theorem s194_53 : ni_T d 194 53 [a0, a1, a2, .int x] st z h Q = ni_T d 194 54 [a0, a1, a2, .int x] (.int x :: st) z h Q := ni_T_p rfl rfl
theorem s194_54 : ni_T (d + 1) 194 54 [a0, a1, a2, a3] (.int x1 :: .int x0 :: .ref o :: st) z h Q = (ni_rc (h o) 7 = true ∧ Nat.ble (ni_sw st) 8 = true ∧ ni_T d 193 0 [.ref o, .int x0, .int x1, .retAddr 0, .retAddr 0] [] z h (ni_K (d + 1) 194 57 [a0, a1, a2, a3] st z Q)) := ni_T_ce [.ref o, .int x0, .int x1] rfl rfl rfl rfl rfl rfl rfl rfl rfl
theorem s194_57 : ni_T d 194 57 [a0, a1, a2, a3] [.int x] z h Q = Q (some (.int x)) z h := ni_T_i rfl rfl
theorem s195_0 : ni_T d 195 0 [a0, .int x] st z h Q = ni_T d 195 1 [a0, .int x] (.int x :: st) z h Q := ni_T_p rfl rfl
theorem s195_1 : ni_T d 195 1 [a0, a1] (.int x :: st) z h Q = if x < 0 then ni_T d 195 27 [a0, a1] st z h Q else ni_T d 195 4 [a0, a1] st z h Q := ni_T_b rfl rfl
theorem s195_4 : ni_T d 195 4 [a0, .int x] st z h Q = ni_T d 195 5 [a0, .int x] (.int x :: st) z h Q := ni_T_p rfl rfl
theorem s195_5 : ni_T d 195 5 [a0, a1] st z h Q = ni_T d 195 7 [a0, a1] (.int 20 :: st) z h Q := ni_T_p rfl rfl
theorem s195_7 : ni_T d 195 7 [a0, a1] (.int y :: .int x :: st) z h Q = if y ≤ x then ni_T d 195 27 [a0, a1] st z h Q else ni_T d 195 10 [a0, a1] st z h Q := ni_T_b rfl rfl
theorem s195_10 : ni_T d 195 10 [a0, .int x] st z h Q = ni_T d 195 11 [a0, .int x] (.int x :: st) z h Q := ni_T_p rfl rfl
theorem s195_11 : ni_T d 195 11 [.ref o, a1] st z h Q = ni_T d 195 12 [.ref o, a1] (.ref o :: st) z h Q := ni_T_p rfl rfl
theorem s195_12 : ni_T d 195 12 [a0, a1] (.ref o :: st) z h Q = (ni_is (h o) 7 31 = true ∧ ni_T d 195 15 [a0, a1] (ni_gv (h o) 31 :: st) z h Q) := ni_T_getf rfl
theorem s195_15 : ni_T d 195 15 [a0, a1] (.int y :: .int x :: st) z h Q = if y ≤ x then ni_T d 195 27 [a0, a1] st z h Q else ni_T d 195 18 [a0, a1] st z h Q := ni_T_b rfl rfl
theorem s195_18 : ni_T d 195 18 [.ref o, a1] st z h Q = ni_T d 195 19 [.ref o, a1] (.ref o :: st) z h Q := ni_T_p rfl rfl
theorem s195_19 : ni_T d 195 19 [a0, a1] (.ref o :: st) z h Q = (ni_is (h o) 7 30 = true ∧ ni_T d 195 22 [a0, a1] (ni_gv (h o) 30 :: st) z h Q) := ni_T_getf rfl
theorem s195_22 : ni_T d 195 22 [a0, .int x] st z h Q = ni_T d 195 23 [a0, .int x] (.int x :: st) z h Q := ni_T_p rfl rfl
theorem s195_23 : ni_T d 195 23 [a0, a1] (.int x :: .ref o :: st) z h Q = (ni_okI (h o) x = true ∧ ni_T d 195 24 [a0, a1] (.int (ni_gi (h o) x) :: st) z h Q) := ni_T_iald rfl
theorem s195_24 : ni_T d 195 24 [a0, a1] st z h Q = ni_T d 195 28 [a0, a1] st z h Q := ni_T_p rfl rfl
theorem s195_27 : ni_T d 195 27 [a0, a1] st z h Q = ni_T d 195 28 [a0, a1] (.int (-1) :: st) z h Q := ni_T_p rfl rfl
theorem s195_28 : ni_T d 195 28 [a0, a1] [.int x] z h Q = Q (some (.int x)) z h := ni_T_i rfl rfl
theorem s196_0 : ni_T d 196 0 [.ref o] st z h Q = ni_T d 196 1 [.ref o] (.ref o :: st) z h Q := ni_T_p rfl rfl
theorem s196_1 : ni_T d 196 1 [a0] st z h Q = ni_T d 196 2 [a0] (.int 1 :: st) z h Q := ni_T_p rfl rfl
theorem s196_2 : ni_T d 196 2 [a0] (b0 :: .ref o :: st) z h Q = ((Nat.ble 7 7 && ni_is (h o) 7 32 && ni_fit (.boolean) b0) = true ∧ ni_T d 196 5 [a0] st z (ni_up h o (ni_pv (h o) 32 b0)) Q) := ni_T_putf rfl
theorem s196_5 : ni_T d 196 5 [.ref o] st z h Q = ni_T d 196 6 [.ref o] (.ref o :: st) z h Q := ni_T_p rfl rfl
theorem s196_6 : ni_T d 196 6 [.ref o] st z h Q = ni_T d 196 7 [.ref o] (.ref o :: st) z h Q := ni_T_p rfl rfl
theorem s196_7 : ni_T d 196 7 [a0] (.ref o :: st) z h Q = (ni_is (h o) 7 26 = true ∧ ni_T d 196 10 [a0] (ni_gv (h o) 26 :: st) z h Q) := ni_T_getf rfl
theorem s196_10 : ni_T d 196 10 [a0] st z h Q = ni_T d 196 11 [a0] (.int 0 :: st) z h Q := ni_T_p rfl rfl
theorem s196_11 : ni_T (d + 1) 196 11 [a0] (.int x1 :: .ref o20 :: .ref o :: st) z h Q = (ni_rc (h o) 7 = true ∧ Nat.ble (ni_sw st) 8 = true ∧ ni_T d 153 0 [.ref o, .ref o20, .int x1, .retAddr 0] [] z h (ni_K (d + 1) 196 14 [a0] st z Q)) := ni_T_ce [.ref o, .ref o20, .int x1] rfl rfl rfl rfl rfl rfl rfl rfl rfl
theorem s196_11N0 : ni_T (d + 1) 196 11 [a0] (.int x1 :: .null :: .ref o :: st) z h Q = (ni_rc (h o) 7 = true ∧ Nat.ble (ni_sw st) 8 = true ∧ ni_T d 153 0 [.ref o, .null, .int x1, .retAddr 0] [] z h (ni_K (d + 1) 196 14 [a0] st z Q)) := ni_T_ce [.ref o, .null, .int x1] rfl rfl rfl rfl rfl rfl rfl rfl rfl
theorem s196_14 : ni_T d 196 14 [.ref o] st z h Q = ni_T d 196 15 [.ref o] (.ref o :: st) z h Q := ni_T_p rfl rfl
theorem s196_15 : ni_T d 196 15 [a0] (.ref o :: st) z h Q = (ni_is (h o) 7 0 = true ∧ ni_T d 196 18 [a0] (ni_gv (h o) 0 :: st) z h Q) := ni_T_getf rfl
theorem s196_18 : ni_T d 196 18 [a0] [.int x] z h Q = Q (some (.int x)) z h := ni_T_i rfl rfl
theorem s197_0 : ni_T d 197 0 [.ref o, a1] st z h Q = ni_T d 197 1 [.ref o, a1] (.ref o :: st) z h Q := ni_T_p rfl rfl
theorem s197_1 : ni_T d 197 1 [a0, a1] (.ref o :: st) z h Q = (ni_is (h o) 7 32 = true ∧ ni_T d 197 4 [a0, a1] (ni_gv (h o) 32 :: st) z h Q) := ni_T_getf rfl
theorem s197_4 : ni_T d 197 4 [a0, a1] (.int x :: st) z h Q = if x = 0 then ni_T d 197 7 [a0, a1] st z h Q else ni_T d 197 14 [a0, a1] st z h Q := ni_T_b rfl rfl
theorem s197_7 : ni_T d 197 7 [.ref o, a1] st z h Q = ni_T d 197 8 [.ref o, a1] (.ref o :: st) z h Q := ni_T_p rfl rfl
theorem s197_8 : ni_T d 197 8 [a0, a1] st z h Q = ni_T d 197 10 [a0, a1] (.int (-6) :: st) z h Q := ni_T_p rfl rfl
theorem s197_10 : ni_T (d + 1) 197 10 [a0, a1] (.int x0 :: .ref o :: st) z h Q = (ni_rc (h o) 7 = true ∧ Nat.ble (ni_sw st) 8 = true ∧ ni_T d 120 0 [.ref o, .int x0] [] z h (ni_K (d + 1) 197 13 [a0, a1] st z Q)) := ni_T_ce [.ref o, .int x0] rfl rfl rfl rfl rfl rfl rfl rfl rfl
theorem s197_13 : ni_T d 197 13 [a0, a1] [.int x] z h Q = Q (some (.int x)) z h := ni_T_i rfl rfl
theorem s197_14 : ni_T d 197 14 [.ref o, a1] st z h Q = ni_T d 197 15 [.ref o, a1] (.ref o :: st) z h Q := ni_T_p rfl rfl
theorem s197_15 : ni_T d 197 15 [.ref o, a1] st z h Q = ni_T d 197 16 [.ref o, a1] (.ref o :: st) z h Q := ni_T_p rfl rfl
theorem s197_16 : ni_T d 197 16 [a0, a1] (.ref o :: st) z h Q = (ni_is (h o) 7 26 = true ∧ ni_T d 197 19 [a0, a1] (ni_gv (h o) 26 :: st) z h Q) := ni_T_getf rfl
theorem s197_19 : ni_T d 197 19 [a0, a1] st z h Q = ni_T d 197 20 [a0, a1] (.int 1 :: st) z h Q := ni_T_p rfl rfl
theorem s197_20 : ni_T (d + 1) 197 20 [a0, a1] (.int x1 :: .ref o20 :: .ref o :: st) z h Q = (ni_rc (h o) 7 = true ∧ Nat.ble (ni_sw st) 8 = true ∧ ni_T d 153 0 [.ref o, .ref o20, .int x1, .retAddr 0] [] z h (ni_K (d + 1) 197 23 [a0, a1] st z Q)) := ni_T_ce [.ref o, .ref o20, .int x1] rfl rfl rfl rfl rfl rfl rfl rfl rfl
theorem s197_20N0 : ni_T (d + 1) 197 20 [a0, a1] (.int x1 :: .null :: .ref o :: st) z h Q = (ni_rc (h o) 7 = true ∧ Nat.ble (ni_sw st) 8 = true ∧ ni_T d 153 0 [.ref o, .null, .int x1, .retAddr 0] [] z h (ni_K (d + 1) 197 23 [a0, a1] st z Q)) := ni_T_ce [.ref o, .null, .int x1] rfl rfl rfl rfl rfl rfl rfl rfl rfl
theorem s197_23 : ni_T d 197 23 [a0, a1] st z h Q = ni_T d 197 24 [a0, a1] (.int 0 :: st) z h Q := ni_T_p rfl rfl
theorem s197_24 : ni_T d 197 24 [a0, a1] (.int x :: st) z h Q = ni_T d 197 25 [ni_kl a0, .int x] st z h Q := ni_T_p rfl rfl
theorem s197_25 : ni_T d 197 25 [a0, .int x] st z h Q = ni_T d 197 26 [a0, .int x] (.int x :: st) z h Q := ni_T_p rfl rfl
theorem s197_26 : ni_T d 197 26 [a0, a1] st z h Q = ni_T d 197 28 [a0, a1] (.int 8 :: st) z h Q := ni_T_p rfl rfl
theorem s197_28 : ni_T d 197 28 [a0, a1] (.int y :: .int x :: st) z h Q = if y ≤ x then ni_T d 197 67 [a0, a1] st z h Q else ni_T d 197 31 [a0, a1] st z h Q := ni_T_b rfl rfl
theorem s197_31 : ni_T d 197 31 [.ref o, a1] st z h Q = ni_T d 197 32 [.ref o, a1] (.ref o :: st) z h Q := ni_T_p rfl rfl
theorem s197_32 : ni_T d 197 32 [a0, a1] (.ref o :: st) z h Q = (ni_is (h o) 7 12 = true ∧ ni_T d 197 35 [a0, a1] (ni_gv (h o) 12 :: st) z h Q) := ni_T_getf rfl
theorem s197_35 : ni_T d 197 35 [a0, .int x] st z h Q = ni_T d 197 36 [a0, .int x] (.int x :: st) z h Q := ni_T_p rfl rfl
theorem s197_36 : ni_T d 197 36 [a0, a1] (.int x :: .ref o :: st) z h Q = (ni_okI (h o) x = true ∧ ni_T d 197 37 [a0, a1] (.int (ni_gi (h o) x) :: st) z h Q) := ni_T_iald rfl
theorem s197_37 : ni_T d 197 37 [a0, a1] st z h Q = ni_T d 197 38 [a0, a1] (.int 2 :: st) z h Q := ni_T_p rfl rfl
theorem s197_38 : ni_T d 197 38 [a0, a1] (.int y :: .int x :: st) z h Q = if x = y then ni_T d 197 41 [a0, a1] st z h Q else ni_T d 197 61 [a0, a1] st z h Q := ni_T_b rfl rfl
theorem s197_41 : ni_T d 197 41 [.ref o, a1] st z h Q = ni_T d 197 42 [.ref o, a1] (.ref o :: st) z h Q := ni_T_p rfl rfl
theorem s197_42 : ni_T d 197 42 [a0, a1] (.ref o :: st) z h Q = (ni_is (h o) 7 15 = true ∧ ni_T d 197 45 [a0, a1] (ni_gv (h o) 15 :: st) z h Q) := ni_T_getf rfl
theorem s197_45 : ni_T d 197 45 [a0, .int x] st z h Q = ni_T d 197 46 [a0, .int x] (.int x :: st) z h Q := ni_T_p rfl rfl
theorem s197_46 : ni_T d 197 46 [a0, a1] (.int x :: .ref o :: st) z h Q = (ni_okI (h o) x = true ∧ ni_T d 197 47 [a0, a1] (.int (ni_gi (h o) x) :: st) z h Q) := ni_T_iald rfl
theorem s197_47 : ni_T d 197 47 [.ref o, a1] st z h Q = ni_T d 197 48 [.ref o, a1] (.ref o :: st) z h Q := ni_T_p rfl rfl
theorem s197_48 : ni_T d 197 48 [a0, a1] (.ref o :: st) z h Q = (ni_is (h o) 7 0 = true ∧ ni_T d 197 51 [a0, a1] (ni_gv (h o) 0 :: st) z h Q) := ni_T_getf rfl
theorem s197_51 : ni_T d 197 51 [a0, a1] (.int y :: .int x :: st) z h Q = if x < y then ni_T d 197 61 [a0, a1] st z h Q else ni_T d 197 54 [a0, a1] st z h Q := ni_T_b rfl rfl
theorem s197_54 : ni_T d 197 54 [.ref o, a1] st z h Q = ni_T d 197 55 [.ref o, a1] (.ref o :: st) z h Q := ni_T_p rfl rfl
theorem s197_55 : ni_T d 197 55 [a0, a1] (.ref o :: st) z h Q = (ni_is (h o) 7 12 = true ∧ ni_T d 197 58 [a0, a1] (ni_gv (h o) 12 :: st) z h Q) := ni_T_getf rfl
theorem s197_58 : ni_T d 197 58 [a0, .int x] st z h Q = ni_T d 197 59 [a0, .int x] (.int x :: st) z h Q := ni_T_p rfl rfl
theorem s197_59 : ni_T d 197 59 [a0, a1] st z h Q = ni_T d 197 60 [a0, a1] (.int 0 :: st) z h Q := ni_T_p rfl rfl
theorem s197_60 : ni_T d 197 60 [a0, a1] (.int y :: .int x :: .ref o :: st) z h Q = (ni_okS (h o) x = true ∧ ni_T d 197 61 [a0, a1] st z (ni_up h o (ni_pi (h o) x y)) Q) := ni_T_iast rfl
theorem s197_61 : ni_T d 197 61 [a0, .int x] st z h Q = ni_T d 197 64 [ni_kl a0, .int (x + 1)] st z h Q := ni_T_p rfl rfl
theorem s197_64 : ni_T d 197 64 [a0, a1] st z h Q = ni_T d 197 25 [a0, a1] st z h Q := ni_T_p rfl rfl
theorem s197_67 : ni_T d 197 67 [.ref o, a1] st z h Q = ni_T d 197 68 [.ref o, a1] (.ref o :: st) z h Q := ni_T_p rfl rfl
theorem s197_68 : ni_T d 197 68 [a0, a1] (.ref o :: st) z h Q = (ni_is (h o) 7 0 = true ∧ ni_T d 197 71 [a0, a1] (ni_gv (h o) 0 :: st) z h Q) := ni_T_getf rfl
theorem s197_71 : ni_T d 197 71 [a0, a1] [.int x] z h Q = Q (some (.int x)) z h := ni_T_i rfl rfl
theorem s198_0 : ni_T d 198 0 [a0, .int x, a2, a3] st z h Q = ni_T d 198 1 [a0, .int x, a2, a3] (.int x :: st) z h Q := ni_T_p rfl rfl
theorem s198_1 : ni_T d 198 1 [a0, a1, a2, a3] st z h Q = ni_T d 198 3 [a0, a1, a2, a3] (.int 11 :: st) z h Q := ni_T_p rfl rfl
theorem s198_3 : ni_T d 198 3 [a0, a1, a2, a3] (.int y :: .int x :: st) z h Q = if x < y then ni_T d 198 22 [a0, a1, a2, a3] st z h Q else ni_T d 198 6 [a0, a1, a2, a3] st z h Q := ni_T_b rfl rfl
theorem s198_6 : ni_T d 198 6 [a0, .int x, a2, a3] st z h Q = ni_T d 198 7 [a0, .int x, a2, a3] (.int x :: st) z h Q := ni_T_p rfl rfl
theorem s198_7 : ni_T d 198 7 [a0, a1, a2, a3] st z h Q = ni_T d 198 9 [a0, a1, a2, a3] (.int 17 :: st) z h Q := ni_T_p rfl rfl
theorem s198_9 : ni_T d 198 9 [a0, a1, a2, a3] (.int y :: .int x :: st) z h Q = if y < x then ni_T d 198 22 [a0, a1, a2, a3] st z h Q else ni_T d 198 12 [a0, a1, a2, a3] st z h Q := ni_T_b rfl rfl
theorem s198_12 : ni_T d 198 12 [.ref o, a1, a2, a3] st z h Q = ni_T d 198 13 [.ref o, a1, a2, a3] (.ref o :: st) z h Q := ni_T_p rfl rfl
theorem s198_13 : ni_T d 198 13 [a0, a1, a2, a3] (.ref o :: st) z h Q = (ni_is (h o) 7 5 = true ∧ ni_T d 198 16 [a0, a1, a2, a3] (ni_gv (h o) 5 :: st) z h Q) := ni_T_getf rfl
theorem s198_16 : ni_T d 198 16 [a0, .int x, a2, a3] st z h Q = ni_T d 198 17 [a0, .int x, a2, a3] (.int x :: st) z h Q := ni_T_p rfl rfl
theorem s198_17 : ni_T d 198 17 [a0, a1, a2, a3] st z h Q = ni_T d 198 19 [a0, a1, a2, a3] (.int 10 :: st) z h Q := ni_T_p rfl rfl
theorem s198_19 : ni_T d 198 19 [a0, a1, a2, a3] (.int y :: .int x :: st) z h Q = ni_T d 198 20 [a0, a1, a2, a3] (.int (x - y) :: st) z h Q := ni_T_p rfl rfl
theorem s198_20 : ni_T d 198 20 [a0, a1, a2, a3] (.int x :: .ref o :: st) z h Q = (ni_okI (h o) x = true ∧ ni_T d 198 21 [a0, a1, a2, a3] (.int (ni_gi (h o) x) :: st) z h Q) := ni_T_iald rfl
theorem s198_21 : ni_T d 198 21 [a0, a1, a2, a3] [.int x] z h Q = Q (some (.int x)) z h := ni_T_i rfl rfl
theorem s198_22 : ni_T d 198 22 [a0, a1, a2, a3] st z h Q = ni_T d 198 23 [a0, a1, a2, a3] (.int 0 :: st) z h Q := ni_T_p rfl rfl
theorem s198_23 : ni_T d 198 23 [a0, a1, a2, a3] (.int x :: st) z h Q = ni_T d 198 24 [a0, ni_kl a1, .int x, a3] st z h Q := ni_T_p rfl rfl
theorem s198_24 : ni_T d 198 24 [a0, .int x, a2, a3] st z h Q = ni_T d 198 25 [a0, .int x, a2, a3] (.int x :: st) z h Q := ni_T_p rfl rfl
theorem s198_25_0 : ni_T d 198 25 [a0, a1, a2, a3] (.int 0 :: st) z h Q = ni_T d 198 68 [a0, a1, a2, a3] st z h Q := ni_T_p rfl rfl
theorem s198_25_1 : ni_T d 198 25 [a0, a1, a2, a3] (.int 1 :: st) z h Q = ni_T d 198 73 [a0, a1, a2, a3] st z h Q := ni_T_p rfl rfl
theorem s198_25_2 : ni_T d 198 25 [a0, a1, a2, a3] (.int 2 :: st) z h Q = ni_T d 198 78 [a0, a1, a2, a3] st z h Q := ni_T_p rfl rfl
theorem s198_25_3 : ni_T d 198 25 [a0, a1, a2, a3] (.int 3 :: st) z h Q = ni_T d 198 94 [a0, a1, a2, a3] st z h Q := ni_T_p rfl rfl
theorem s198_25_4 : ni_T d 198 25 [a0, a1, a2, a3] (.int 4 :: st) z h Q = ni_T d 198 121 [a0, a1, a2, a3] st z h Q := ni_T_p rfl rfl
theorem s198_25_5 : ni_T d 198 25 [a0, a1, a2, a3] (.int 5 :: st) z h Q = ni_T d 198 126 [a0, a1, a2, a3] st z h Q := ni_T_p rfl rfl
theorem s198_25_6 : ni_T d 198 25 [a0, a1, a2, a3] (.int 6 :: st) z h Q = ni_T d 198 131 [a0, a1, a2, a3] st z h Q := ni_T_p rfl rfl
theorem s198_25_d (hx : x.toInt < 0 ∨ 6 < x.toInt) : ni_T d 198 25 [a0, a1, a2, a3] (.int x :: st) z h Q = ni_T d 198 136 [a0, a1, a2, a3] st z h Q := ni_T_tsw rfl hx (by decide) rfl
theorem s198_68 : ni_T d 198 68 [.ref o, a1, a2, a3] st z h Q = ni_T d 198 69 [.ref o, a1, a2, a3] (.ref o :: st) z h Q := ni_T_p rfl rfl
theorem s198_69 : ni_T d 198 69 [a0, a1, a2, a3] (.ref o :: st) z h Q = (ni_is (h o) 7 0 = true ∧ ni_T d 198 72 [a0, a1, a2, a3] (ni_gv (h o) 0 :: st) z h Q) := ni_T_getf rfl
theorem s198_72 : ni_T d 198 72 [a0, a1, a2, a3] [.int x] z h Q = Q (some (.int x)) z h := ni_T_i rfl rfl
theorem s198_73 : ni_T d 198 73 [.ref o, a1, a2, a3] st z h Q = ni_T d 198 74 [.ref o, a1, a2, a3] (.ref o :: st) z h Q := ni_T_p rfl rfl
theorem s198_74 : ni_T (d + 1) 198 74 [a0, a1, a2, a3] (.ref o :: st) z h Q = (ni_rc (h o) 7 = true ∧ Nat.ble (ni_sw st) 8 = true ∧ ni_T d 143 0 [.ref o, .retAddr 0, .retAddr 0] [] z h (ni_K (d + 1) 198 77 [a0, a1, a2, a3] st z Q)) := ni_T_ce [.ref o] rfl rfl rfl rfl rfl rfl rfl rfl rfl
theorem s198_77 : ni_T d 198 77 [a0, a1, a2, a3] [.int x] z h Q = Q (some (.int x)) z h := ni_T_i rfl rfl
theorem s198_78 : ni_T d 198 78 [.ref o, a1, a2, a3] st z h Q = ni_T d 198 79 [.ref o, a1, a2, a3] (.ref o :: st) z h Q := ni_T_p rfl rfl
theorem s198_79 : ni_T d 198 79 [a0, a1, a2, a3] (.ref o :: st) z h Q = (ni_is (h o) 7 0 = true ∧ ni_T d 198 82 [a0, a1, a2, a3] (ni_gv (h o) 0 :: st) z h Q) := ni_T_getf rfl
theorem s198_82 : ni_T d 198 82 [a0, a1, a2, a3] (.int x :: st) z h Q = if x = 0 then ni_T d 198 85 [a0, a1, a2, a3] st z h Q else ni_T d 198 89 [a0, a1, a2, a3] st z h Q := ni_T_b rfl rfl
theorem s198_85 : ni_T d 198 85 [a0, a1, a2, a3] st z h Q = ni_T d 198 86 [a0, a1, a2, a3] (.int (-1) :: st) z h Q := ni_T_p rfl rfl
theorem s198_86 : ni_T d 198 86 [a0, a1, a2, a3] st z h Q = ni_T d 198 93 [a0, a1, a2, a3] st z h Q := ni_T_p rfl rfl
theorem s198_89 : ni_T d 198 89 [.ref o, a1, a2, a3] st z h Q = ni_T d 198 90 [.ref o, a1, a2, a3] (.ref o :: st) z h Q := ni_T_p rfl rfl
theorem s198_90 : ni_T d 198 90 [a0, a1, a2, a3] (.ref o :: st) z h Q = (ni_is (h o) 7 1 = true ∧ ni_T d 198 93 [a0, a1, a2, a3] (ni_gv (h o) 1 :: st) z h Q) := ni_T_getf rfl
theorem s198_93 : ni_T d 198 93 [a0, a1, a2, a3] [.int x] z h Q = Q (some (.int x)) z h := ni_T_i rfl rfl
theorem s198_94 : ni_T d 198 94 [a0, a1, a2, a3] st z h Q = ni_T d 198 95 [a0, a1, a2, a3] (.int 0 :: st) z h Q := ni_T_p rfl rfl
theorem s198_95 : ni_T d 198 95 [a0, a1, a2, a3] (.int x :: st) z h Q = ni_T d 198 96 [a0, a1, ni_kl a2, .int x] st z h Q := ni_T_p rfl rfl
theorem s198_96 : ni_T d 198 96 [a0, a1, a2, .int x] st z h Q = ni_T d 198 97 [a0, a1, a2, .int x] (.int x :: st) z h Q := ni_T_p rfl rfl
theorem s198_97 : ni_T d 198 97 [.ref o, a1, a2, a3] st z h Q = ni_T d 198 98 [.ref o, a1, a2, a3] (.ref o :: st) z h Q := ni_T_p rfl rfl
theorem s198_98 : ni_T d 198 98 [a0, a1, a2, a3] (.ref o :: st) z h Q = (ni_is (h o) 7 0 = true ∧ ni_T d 198 101 [a0, a1, a2, a3] (ni_gv (h o) 0 :: st) z h Q) := ni_T_getf rfl
theorem s198_101 : ni_T d 198 101 [a0, a1, a2, a3] (.int y :: .int x :: st) z h Q = if y ≤ x then ni_T d 198 119 [a0, a1, a2, a3] st z h Q else ni_T d 198 104 [a0, a1, a2, a3] st z h Q := ni_T_b rfl rfl
theorem s198_104 : ni_T d 198 104 [a0, a1, .int x, a3] st z h Q = ni_T d 198 105 [a0, a1, .int x, a3] (.int x :: st) z h Q := ni_T_p rfl rfl
theorem s198_105 : ni_T d 198 105 [.ref o, a1, a2, a3] st z h Q = ni_T d 198 106 [.ref o, a1, a2, a3] (.ref o :: st) z h Q := ni_T_p rfl rfl
theorem s198_106 : ni_T d 198 106 [a0, a1, a2, a3] (.ref o :: st) z h Q = (ni_is (h o) 7 10 = true ∧ ni_T d 198 109 [a0, a1, a2, a3] (ni_gv (h o) 10 :: st) z h Q) := ni_T_getf rfl
theorem s198_109 : ni_T d 198 109 [a0, a1, a2, .int x] st z h Q = ni_T d 198 110 [a0, a1, a2, .int x] (.int x :: st) z h Q := ni_T_p rfl rfl
theorem s198_110 : ni_T d 198 110 [a0, a1, a2, a3] (.int x :: .ref o :: st) z h Q = (ni_okI (h o) x = true ∧ ni_T d 198 111 [a0, a1, a2, a3] (.int (ni_gi (h o) x) :: st) z h Q) := ni_T_iald rfl
theorem s198_111 : ni_T d 198 111 [a0, a1, a2, a3] (.int y :: .int x :: st) z h Q = ni_T d 198 112 [a0, a1, a2, a3] (.int (x + y) :: st) z h Q := ni_T_p rfl rfl
theorem s198_112 : ni_T d 198 112 [a0, a1, a2, a3] (.int x :: st) z h Q = ni_T d 198 113 [a0, ni_kl a1, .int x, a3] st z h Q := ni_T_p rfl rfl
theorem s198_113 : ni_T d 198 113 [a0, a1, a2, .int x] st z h Q = ni_T d 198 116 [a0, a1, ni_kl a2, .int (x + 1)] st z h Q := ni_T_p rfl rfl
theorem s198_116 : ni_T d 198 116 [a0, a1, a2, a3] st z h Q = ni_T d 198 96 [a0, a1, a2, a3] st z h Q := ni_T_p rfl rfl
theorem s198_119 : ni_T d 198 119 [a0, a1, .int x, a3] st z h Q = ni_T d 198 120 [a0, a1, .int x, a3] (.int x :: st) z h Q := ni_T_p rfl rfl
theorem s198_120 : ni_T d 198 120 [a0, a1, a2, a3] [.int x] z h Q = Q (some (.int x)) z h := ni_T_i rfl rfl
theorem s198_121 : ni_T d 198 121 [.ref o, a1, a2, a3] st z h Q = ni_T d 198 122 [.ref o, a1, a2, a3] (.ref o :: st) z h Q := ni_T_p rfl rfl
theorem s198_122 : ni_T d 198 122 [a0, a1, a2, a3] (.ref o :: st) z h Q = (ni_is (h o) 7 2 = true ∧ ni_T d 198 125 [a0, a1, a2, a3] (ni_gv (h o) 2 :: st) z h Q) := ni_T_getf rfl
theorem s198_125 : ni_T d 198 125 [a0, a1, a2, a3] [.int x] z h Q = Q (some (.int x)) z h := ni_T_i rfl rfl
theorem s198_126 : ni_T d 198 126 [.ref o, a1, a2, a3] st z h Q = ni_T d 198 127 [.ref o, a1, a2, a3] (.ref o :: st) z h Q := ni_T_p rfl rfl
theorem s198_127 : ni_T d 198 127 [a0, a1, a2, a3] (.ref o :: st) z h Q = (ni_is (h o) 7 3 = true ∧ ni_T d 198 130 [a0, a1, a2, a3] (ni_gv (h o) 3 :: st) z h Q) := ni_T_getf rfl
theorem s198_130 : ni_T d 198 130 [a0, a1, a2, a3] [.int x] z h Q = Q (some (.int x)) z h := ni_T_i rfl rfl
theorem s198_131 : ni_T d 198 131 [.ref o, a1, a2, a3] st z h Q = ni_T d 198 132 [.ref o, a1, a2, a3] (.ref o :: st) z h Q := ni_T_p rfl rfl
theorem s198_132 : ni_T d 198 132 [a0, a1, a2, a3] (.ref o :: st) z h Q = (ni_is (h o) 7 31 = true ∧ ni_T d 198 135 [a0, a1, a2, a3] (ni_gv (h o) 31 :: st) z h Q) := ni_T_getf rfl
theorem s198_135 : ni_T d 198 135 [a0, a1, a2, a3] [.int x] z h Q = Q (some (.int x)) z h := ni_T_i rfl rfl
theorem s198_136 : ni_T d 198 136 [a0, a1, a2, a3] st z h Q = ni_T d 198 137 [a0, a1, a2, a3] (.int (-1) :: st) z h Q := ni_T_p rfl rfl
theorem s198_137 : ni_T d 198 137 [a0, a1, a2, a3] [.int x] z h Q = Q (some (.int x)) z h := ni_T_i rfl rfl
end
