section
variable {d : Nat} {a0 a1 a2 a3 a4 a5 a6 a7 a8 a9 a10 a11 a12 : Value} {x y : Int32} {x0 x1 x2 x3 x4 x5 : Int32} {u w : Int64} {u0 u1 u2 u3 : Int64} {o o1 o20 o21 o22 o23 o24 o25 : Nat} {b0 b1 b2 b3 b4 b5 : Value} {st : List Value} {z : ni_Z} {h : ni_H} {Q : ni_Q}

theorem s199_0 : ni_T d 199 0 [a0, a1, a2, a3] st z h Q = ((ni_ok z.1 [a0, a1, a2, a3] st h && Nat.ble (z.1 + 1) 900 && Nat.ble 6 7) = true ∧ ni_T d 199 3 [a0, a1, a2, a3] (.ref z.1 :: st) (z.1 + 1, z.2 + (ni_dfs 6).length) (ni_up h z.1 (.inr (6, ni_dfs 6))) Q) := ni_T_ne rfl rfl rfl rfl rfl rfl rfl
theorem s199_3 : ni_T d 199 3 [a0, a1, a2, a3] (.ref o :: st) z h Q = ni_T d 199 4 [a0, a1, a2, a3] (.ref o :: .ref o :: st) z h Q := ni_T_p rfl rfl
theorem s199_3i : ni_T d 199 3 [a0, a1, a2, a3] (.int x :: st) z h Q = ni_T d 199 4 [a0, a1, a2, a3] (.int x :: .int x :: st) z h Q := ni_T_p rfl rfl
theorem s199_4 : ni_T (d + 1) 199 4 [a0, a1, a2, a3] (.ref o :: st) z h Q = (Nat.ble (ni_sw st) 8 = true ∧ ni_T d 66 0 [.ref o, .retAddr 0] [] z h (ni_K (d + 1) 199 7 [a0, a1, a2, a3] st z Q)) := ni_T_cse [.ref o] rfl rfl rfl rfl rfl rfl rfl rfl rfl
theorem s199_7 : ni_T d 199 7 [a0, a1, a2, a3] (.ref o :: st) z h Q = ni_T d 199 8 [ni_kl a0, .ref o, a2, a3] st z h Q := ni_T_p rfl rfl
theorem s199_7N : ni_T d 199 7 [a0, a1, a2, a3] (.null :: st) z h Q = ni_T d 199 8 [ni_kl a0, .null, a2, a3] st z h Q := ni_T_p rfl rfl
theorem s199_8 : ni_T d 199 8 [a0, a1, a2, a3] st z h Q = ((ni_ok z.1 [a0, a1, a2, a3] st h && Nat.ble (z.1 + 1) 900 && Nat.ble 7 7) = true ∧ ni_T d 199 11 [a0, a1, a2, a3] (.ref z.1 :: st) (z.1 + 1, z.2 + (ni_dfs 7).length) (ni_up h z.1 (.inr (7, ni_dfs 7))) Q) := ni_T_ne rfl rfl rfl rfl rfl rfl rfl
theorem s199_11 : ni_T d 199 11 [a0, a1, a2, a3] (.ref o :: st) z h Q = ni_T d 199 12 [a0, a1, a2, a3] (.ref o :: .ref o :: st) z h Q := ni_T_p rfl rfl
theorem s199_11i : ni_T d 199 11 [a0, a1, a2, a3] (.int x :: st) z h Q = ni_T d 199 12 [a0, a1, a2, a3] (.int x :: .int x :: st) z h Q := ni_T_p rfl rfl
theorem s199_12 : ni_T (d + 1) 199 12 [a0, a1, a2, a3] (.ref o :: st) z h Q = (Nat.ble (ni_sw st) 8 = true ∧ ni_T d 119 0 [.ref o, .retAddr 0] [] z h (ni_K (d + 1) 199 15 [a0, a1, a2, a3] st z Q)) := ni_T_cse [.ref o] rfl rfl rfl rfl rfl rfl rfl rfl rfl
theorem s199_15 : ni_T d 199 15 [a0, a1, a2, a3] (.ref o :: st) z h Q = ni_T d 199 16 [a0, ni_kl a1, .ref o, a3] st z h Q := ni_T_p rfl rfl
theorem s199_15N : ni_T d 199 15 [a0, a1, a2, a3] (.null :: st) z h Q = ni_T d 199 16 [a0, ni_kl a1, .null, a3] st z h Q := ni_T_p rfl rfl
theorem s199_16 : ni_T d 199 16 [a0, a1, a2, a3] st z h Q = ni_T d 199 17 [a0, a1, a2, a3] (.int 0 :: st) z h Q := ni_T_p rfl rfl
theorem s199_17 : ni_T d 199 17 [a0, a1, a2, a3] (.int x :: st) z h Q = ni_T d 199 18 [a0, a1, ni_kl a2, .int x] st z h Q := ni_T_p rfl rfl
theorem s199_18 : ni_T d 199 18 [a0, a1, a2, .int x] st z h Q = ni_T d 199 19 [a0, a1, a2, .int x] (.int x :: st) z h Q := ni_T_p rfl rfl
theorem s199_19 : ni_T d 199 19 [.ref o, a1, a2, a3] st z h Q = ni_T d 199 20 [.ref o, a1, a2, a3] (.ref o :: st) z h Q := ni_T_p rfl rfl
theorem s199_20 : ni_T d 199 20 [a0, a1, a2, a3] (.ref o :: st) z h Q = (ni_arr (h o) = true ∧ ni_T d 199 21 [a0, a1, a2, a3] (.int (Int32.ofNat (ni_len (h o))) :: st) z h Q) := ni_T_alen rfl
theorem s199_21 : ni_T d 199 21 [a0, a1, a2, a3] st z h Q = ni_T d 199 23 [a0, a1, a2, a3] (.int 6 :: st) z h Q := ni_T_p rfl rfl
theorem s199_23 : ni_T d 199 23 [a0, a1, a2, a3] (.int y :: .int x :: st) z h Q = ni_T d 199 24 [a0, a1, a2, a3] (.int (x - y) :: st) z h Q := ni_T_p rfl rfl
theorem s199_24 : ni_T d 199 24 [a0, a1, a2, a3] (.int y :: .int x :: st) z h Q = if y < x then ni_T d 199 1382 [a0, a1, a2, a3] st z h Q else ni_T d 199 27 [a0, a1, a2, a3] st z h Q := ni_T_b rfl rfl
theorem s199_27 : ni_T d 199 27 [.ref o, a1, a2, a3] st z h Q = ni_T d 199 28 [.ref o, a1, a2, a3] (.ref o :: st) z h Q := ni_T_p rfl rfl
theorem s199_28 : ni_T d 199 28 [a0, a1, a2, .int x] st z h Q = ni_T d 199 29 [a0, a1, a2, .int x] (.int x :: st) z h Q := ni_T_p rfl rfl
theorem s199_29 : ni_T d 199 29 [a0, a1, a2, a3] (.int x :: .ref o :: st) z h Q = (ni_okI (h o) x = true ∧ ni_T d 199 30 [a0, a1, a2, a3] (.int (ni_gi (h o) x) :: st) z h Q) := ni_T_iald rfl
theorem s199_30 : ni_T d 199 30 [a0, a1, a2, a3] st z h Q = ni_T d 199 32 [a0, a1, a2, a3] (.int 63 :: st) z h Q := ni_T_p rfl rfl
theorem s199_32 : ni_T d 199 32 [a0, a1, a2, a3] (.int y :: .int x :: st) z h Q = ni_T d 199 33 [a0, a1, a2, a3] (.int (x &&& y) :: st) z h Q := ni_T_p rfl rfl
theorem s199_33_0 : ni_T d 199 33 [a0, a1, a2, a3] (.int 0 :: st) z h Q = ni_T d 199 200 [a0, a1, a2, a3] st z h Q := ni_T_p rfl rfl
theorem s199_33_1 : ni_T d 199 33 [a0, a1, a2, a3] (.int 1 :: st) z h Q = ni_T d 199 243 [a0, a1, a2, a3] st z h Q := ni_T_p rfl rfl
theorem s199_33_2 : ni_T d 199 33 [a0, a1, a2, a3] (.int 2 :: st) z h Q = ni_T d 199 316 [a0, a1, a2, a3] st z h Q := ni_T_p rfl rfl
theorem s199_33_3 : ni_T d 199 33 [a0, a1, a2, a3] (.int 3 :: st) z h Q = ni_T d 199 379 [a0, a1, a2, a3] st z h Q := ni_T_p rfl rfl
theorem s199_33_4 : ni_T d 199 33 [a0, a1, a2, a3] (.int 4 :: st) z h Q = ni_T d 199 413 [a0, a1, a2, a3] st z h Q := ni_T_p rfl rfl
theorem s199_33_5 : ni_T d 199 33 [a0, a1, a2, a3] (.int 5 :: st) z h Q = ni_T d 199 446 [a0, a1, a2, a3] st z h Q := ni_T_p rfl rfl
theorem s199_33_6 : ni_T d 199 33 [a0, a1, a2, a3] (.int 6 :: st) z h Q = ni_T d 199 469 [a0, a1, a2, a3] st z h Q := ni_T_p rfl rfl
theorem s199_33_7 : ni_T d 199 33 [a0, a1, a2, a3] (.int 7 :: st) z h Q = ni_T d 199 502 [a0, a1, a2, a3] st z h Q := ni_T_p rfl rfl
theorem s199_33_8 : ni_T d 199 33 [a0, a1, a2, a3] (.int 8 :: st) z h Q = ni_T d 199 535 [a0, a1, a2, a3] st z h Q := ni_T_p rfl rfl
theorem s199_33_9 : ni_T d 199 33 [a0, a1, a2, a3] (.int 9 :: st) z h Q = ni_T d 199 568 [a0, a1, a2, a3] st z h Q := ni_T_p rfl rfl
theorem s199_33_10 : ni_T d 199 33 [a0, a1, a2, a3] (.int 10 :: st) z h Q = ni_T d 199 601 [a0, a1, a2, a3] st z h Q := ni_T_p rfl rfl
theorem s199_33_11 : ni_T d 199 33 [a0, a1, a2, a3] (.int 11 :: st) z h Q = ni_T d 199 624 [a0, a1, a2, a3] st z h Q := ni_T_p rfl rfl
theorem s199_33_12 : ni_T d 199 33 [a0, a1, a2, a3] (.int 12 :: st) z h Q = ni_T d 199 657 [a0, a1, a2, a3] st z h Q := ni_T_p rfl rfl
theorem s199_33_13 : ni_T d 199 33 [a0, a1, a2, a3] (.int 13 :: st) z h Q = ni_T d 199 680 [a0, a1, a2, a3] st z h Q := ni_T_p rfl rfl
theorem s199_33_14 : ni_T d 199 33 [a0, a1, a2, a3] (.int 14 :: st) z h Q = ni_T d 199 703 [a0, a1, a2, a3] st z h Q := ni_T_p rfl rfl
theorem s199_33_15 : ni_T d 199 33 [a0, a1, a2, a3] (.int 15 :: st) z h Q = ni_T d 199 716 [a0, a1, a2, a3] st z h Q := ni_T_p rfl rfl
theorem s199_33_16 : ni_T d 199 33 [a0, a1, a2, a3] (.int 16 :: st) z h Q = ni_T d 199 739 [a0, a1, a2, a3] st z h Q := ni_T_p rfl rfl
theorem s199_33_17 : ni_T d 199 33 [a0, a1, a2, a3] (.int 17 :: st) z h Q = ni_T d 199 782 [a0, a1, a2, a3] st z h Q := ni_T_p rfl rfl
theorem s199_33_18 : ni_T d 199 33 [a0, a1, a2, a3] (.int 18 :: st) z h Q = ni_T d 199 825 [a0, a1, a2, a3] st z h Q := ni_T_p rfl rfl
theorem s199_33_19 : ni_T d 199 33 [a0, a1, a2, a3] (.int 19 :: st) z h Q = ni_T d 199 858 [a0, a1, a2, a3] st z h Q := ni_T_p rfl rfl
theorem s199_33_20 : ni_T d 199 33 [a0, a1, a2, a3] (.int 20 :: st) z h Q = ni_T d 199 891 [a0, a1, a2, a3] st z h Q := ni_T_p rfl rfl
theorem s199_33_21 : ni_T d 199 33 [a0, a1, a2, a3] (.int 21 :: st) z h Q = ni_T d 199 914 [a0, a1, a2, a3] st z h Q := ni_T_p rfl rfl
theorem s199_33_22 : ni_T d 199 33 [a0, a1, a2, a3] (.int 22 :: st) z h Q = ni_T d 199 937 [a0, a1, a2, a3] st z h Q := ni_T_p rfl rfl
theorem s199_33_23 : ni_T d 199 33 [a0, a1, a2, a3] (.int 23 :: st) z h Q = ni_T d 199 960 [a0, a1, a2, a3] st z h Q := ni_T_p rfl rfl
theorem s199_33_24 : ni_T d 199 33 [a0, a1, a2, a3] (.int 24 :: st) z h Q = ni_T d 199 1003 [a0, a1, a2, a3] st z h Q := ni_T_p rfl rfl
theorem s199_33_25 : ni_T d 199 33 [a0, a1, a2, a3] (.int 25 :: st) z h Q = ni_T d 199 1036 [a0, a1, a2, a3] st z h Q := ni_T_p rfl rfl
theorem s199_33_26 : ni_T d 199 33 [a0, a1, a2, a3] (.int 26 :: st) z h Q = ni_T d 199 1050 [a0, a1, a2, a3] st z h Q := ni_T_p rfl rfl
theorem s199_33_27 : ni_T d 199 33 [a0, a1, a2, a3] (.int 27 :: st) z h Q = ni_T d 199 1073 [a0, a1, a2, a3] st z h Q := ni_T_p rfl rfl
theorem s199_33_28 : ni_T d 199 33 [a0, a1, a2, a3] (.int 28 :: st) z h Q = ni_T d 199 1116 [a0, a1, a2, a3] st z h Q := ni_T_p rfl rfl
theorem s199_33_29 : ni_T d 199 33 [a0, a1, a2, a3] (.int 29 :: st) z h Q = ni_T d 199 1159 [a0, a1, a2, a3] st z h Q := ni_T_p rfl rfl
theorem s199_33_30 : ni_T d 199 33 [a0, a1, a2, a3] (.int 30 :: st) z h Q = ni_T d 199 1192 [a0, a1, a2, a3] st z h Q := ni_T_p rfl rfl
theorem s199_33_31 : ni_T d 199 33 [a0, a1, a2, a3] (.int 31 :: st) z h Q = ni_T d 199 1215 [a0, a1, a2, a3] st z h Q := ni_T_p rfl rfl
theorem s199_33_32 : ni_T d 199 33 [a0, a1, a2, a3] (.int 32 :: st) z h Q = ni_T d 199 1238 [a0, a1, a2, a3] st z h Q := ni_T_p rfl rfl
theorem s199_33_33 : ni_T d 199 33 [a0, a1, a2, a3] (.int 33 :: st) z h Q = ni_T d 199 1261 [a0, a1, a2, a3] st z h Q := ni_T_p rfl rfl
theorem s199_33_34 : ni_T d 199 33 [a0, a1, a2, a3] (.int 34 :: st) z h Q = ni_T d 199 1304 [a0, a1, a2, a3] st z h Q := ni_T_p rfl rfl
theorem s199_33_35 : ni_T d 199 33 [a0, a1, a2, a3] (.int 35 :: st) z h Q = ni_T d 199 1327 [a0, a1, a2, a3] st z h Q := ni_T_p rfl rfl
theorem s199_33_36 : ni_T d 199 33 [a0, a1, a2, a3] (.int 36 :: st) z h Q = ni_T d 199 1340 [a0, a1, a2, a3] st z h Q := ni_T_p rfl rfl
theorem s199_33_37 : ni_T d 199 33 [a0, a1, a2, a3] (.int 37 :: st) z h Q = ni_T d 199 1353 [a0, a1, a2, a3] st z h Q := ni_T_p rfl rfl
theorem s199_33_d (hx : x.toInt < 0 ∨ 37 < x.toInt) : ni_T d 199 33 [a0, a1, a2, a3] (.int x :: st) z h Q = ni_T d 199 1376 [a0, a1, a2, a3] st z h Q := ni_T_tsw rfl hx (by decide) rfl
theorem s199_200 : ni_T d 199 200 [a0, .ref o, a2, a3] st z h Q = ni_T d 199 201 [a0, .ref o, a2, a3] (.ref o :: st) z h Q := ni_T_p rfl rfl
theorem s199_200N : ni_T d 199 200 [a0, .null, a2, a3] st z h Q = ni_T d 199 201 [a0, .null, a2, a3] (.null :: st) z h Q := ni_T_p rfl rfl
theorem s199_201 : ni_T d 199 201 [.ref o, a1, a2, a3] st z h Q = ni_T d 199 202 [.ref o, a1, a2, a3] (.ref o :: st) z h Q := ni_T_p rfl rfl
theorem s199_202 : ni_T d 199 202 [a0, a1, a2, .int x] st z h Q = ni_T d 199 203 [a0, a1, a2, .int x] (.int x :: st) z h Q := ni_T_p rfl rfl
theorem s199_203 : ni_T d 199 203 [a0, a1, a2, a3] st z h Q = ni_T d 199 204 [a0, a1, a2, a3] (.int 1 :: st) z h Q := ni_T_p rfl rfl
theorem s199_204 : ni_T d 199 204 [a0, a1, a2, a3] (.int y :: .int x :: st) z h Q = ni_T d 199 205 [a0, a1, a2, a3] (.int (x + y) :: st) z h Q := ni_T_p rfl rfl
theorem s199_205 : ni_T d 199 205 [a0, a1, a2, a3] (.int x :: .ref o :: st) z h Q = (ni_okI (h o) x = true ∧ ni_T d 199 206 [a0, a1, a2, a3] (.int (ni_gi (h o) x) :: st) z h Q) := ni_T_iald rfl
theorem s199_206 : ni_T d 199 206 [.ref o, a1, a2, a3] st z h Q = ni_T d 199 207 [.ref o, a1, a2, a3] (.ref o :: st) z h Q := ni_T_p rfl rfl
theorem s199_207 : ni_T d 199 207 [a0, a1, a2, .int x] st z h Q = ni_T d 199 208 [a0, a1, a2, .int x] (.int x :: st) z h Q := ni_T_p rfl rfl
theorem s199_208 : ni_T d 199 208 [a0, a1, a2, a3] st z h Q = ni_T d 199 209 [a0, a1, a2, a3] (.int 2 :: st) z h Q := ni_T_p rfl rfl
theorem s199_209 : ni_T d 199 209 [a0, a1, a2, a3] (.int y :: .int x :: st) z h Q = ni_T d 199 210 [a0, a1, a2, a3] (.int (x + y) :: st) z h Q := ni_T_p rfl rfl
theorem s199_210 : ni_T d 199 210 [a0, a1, a2, a3] (.int x :: .ref o :: st) z h Q = (ni_okI (h o) x = true ∧ ni_T d 199 211 [a0, a1, a2, a3] (.int (ni_gi (h o) x) :: st) z h Q) := ni_T_iald rfl
theorem s199_211 : ni_T d 199 211 [.ref o, a1, a2, a3] st z h Q = ni_T d 199 212 [.ref o, a1, a2, a3] (.ref o :: st) z h Q := ni_T_p rfl rfl
theorem s199_212 : ni_T d 199 212 [a0, a1, a2, .int x] st z h Q = ni_T d 199 213 [a0, a1, a2, .int x] (.int x :: st) z h Q := ni_T_p rfl rfl
theorem s199_213 : ni_T d 199 213 [a0, a1, a2, a3] st z h Q = ni_T d 199 214 [a0, a1, a2, a3] (.int 3 :: st) z h Q := ni_T_p rfl rfl
theorem s199_214 : ni_T d 199 214 [a0, a1, a2, a3] (.int y :: .int x :: st) z h Q = ni_T d 199 215 [a0, a1, a2, a3] (.int (x + y) :: st) z h Q := ni_T_p rfl rfl
theorem s199_215 : ni_T d 199 215 [a0, a1, a2, a3] (.int x :: .ref o :: st) z h Q = (ni_okI (h o) x = true ∧ ni_T d 199 216 [a0, a1, a2, a3] (.int (ni_gi (h o) x) :: st) z h Q) := ni_T_iald rfl
theorem s199_216 : ni_T (d + 1) 199 216 [a0, a1, a2, a3] (.int x2 :: .int x1 :: .int x0 :: .ref o :: st) z h Q = (ni_rc (h o) 6 = true ∧ Nat.ble (ni_sw st) 8 = true ∧ ni_T d 67 0 [.ref o, .int x0, .int x1, .int x2, .retAddr 0] [] z h (ni_K (d + 1) 199 219 [a0, a1, a2, a3] st z Q)) := ni_T_ce [.ref o, .int x0, .int x1, .int x2] rfl rfl rfl rfl rfl rfl rfl rfl rfl
theorem s199_219 : ni_T d 199 219 [a0, a1, .ref o, a3] st z h Q = ni_T d 199 220 [a0, a1, .ref o, a3] (.ref o :: st) z h Q := ni_T_p rfl rfl
theorem s199_219N : ni_T d 199 219 [a0, a1, .null, a3] st z h Q = ni_T d 199 220 [a0, a1, .null, a3] (.null :: st) z h Q := ni_T_p rfl rfl
theorem s199_220 : ni_T d 199 220 [.ref o, a1, a2, a3] st z h Q = ni_T d 199 221 [.ref o, a1, a2, a3] (.ref o :: st) z h Q := ni_T_p rfl rfl
theorem s199_221 : ni_T d 199 221 [a0, a1, a2, .int x] st z h Q = ni_T d 199 222 [a0, a1, a2, .int x] (.int x :: st) z h Q := ni_T_p rfl rfl
theorem s199_222 : ni_T d 199 222 [a0, a1, a2, a3] st z h Q = ni_T d 199 223 [a0, a1, a2, a3] (.int 1 :: st) z h Q := ni_T_p rfl rfl
theorem s199_223 : ni_T d 199 223 [a0, a1, a2, a3] (.int y :: .int x :: st) z h Q = ni_T d 199 224 [a0, a1, a2, a3] (.int (x + y) :: st) z h Q := ni_T_p rfl rfl
theorem s199_224 : ni_T d 199 224 [a0, a1, a2, a3] (.int x :: .ref o :: st) z h Q = (ni_okI (h o) x = true ∧ ni_T d 199 225 [a0, a1, a2, a3] (.int (ni_gi (h o) x) :: st) z h Q) := ni_T_iald rfl
theorem s199_225 : ni_T d 199 225 [.ref o, a1, a2, a3] st z h Q = ni_T d 199 226 [.ref o, a1, a2, a3] (.ref o :: st) z h Q := ni_T_p rfl rfl
theorem s199_226 : ni_T d 199 226 [a0, a1, a2, .int x] st z h Q = ni_T d 199 227 [a0, a1, a2, .int x] (.int x :: st) z h Q := ni_T_p rfl rfl
theorem s199_227 : ni_T d 199 227 [a0, a1, a2, a3] st z h Q = ni_T d 199 228 [a0, a1, a2, a3] (.int 2 :: st) z h Q := ni_T_p rfl rfl
theorem s199_228 : ni_T d 199 228 [a0, a1, a2, a3] (.int y :: .int x :: st) z h Q = ni_T d 199 229 [a0, a1, a2, a3] (.int (x + y) :: st) z h Q := ni_T_p rfl rfl
theorem s199_229 : ni_T d 199 229 [a0, a1, a2, a3] (.int x :: .ref o :: st) z h Q = (ni_okI (h o) x = true ∧ ni_T d 199 230 [a0, a1, a2, a3] (.int (ni_gi (h o) x) :: st) z h Q) := ni_T_iald rfl
theorem s199_230 : ni_T d 199 230 [.ref o, a1, a2, a3] st z h Q = ni_T d 199 231 [.ref o, a1, a2, a3] (.ref o :: st) z h Q := ni_T_p rfl rfl
theorem s199_231 : ni_T d 199 231 [a0, a1, a2, .int x] st z h Q = ni_T d 199 232 [a0, a1, a2, .int x] (.int x :: st) z h Q := ni_T_p rfl rfl
theorem s199_232 : ni_T d 199 232 [a0, a1, a2, a3] st z h Q = ni_T d 199 233 [a0, a1, a2, a3] (.int 3 :: st) z h Q := ni_T_p rfl rfl
theorem s199_233 : ni_T d 199 233 [a0, a1, a2, a3] (.int y :: .int x :: st) z h Q = ni_T d 199 234 [a0, a1, a2, a3] (.int (x + y) :: st) z h Q := ni_T_p rfl rfl
theorem s199_234 : ni_T d 199 234 [a0, a1, a2, a3] (.int x :: .ref o :: st) z h Q = (ni_okI (h o) x = true ∧ ni_T d 199 235 [a0, a1, a2, a3] (.int (ni_gi (h o) x) :: st) z h Q) := ni_T_iald rfl
theorem s199_235 : ni_T (d + 1) 199 235 [a0, a1, a2, a3] (.int x2 :: .int x1 :: .int x0 :: .ref o :: st) z h Q = (ni_rc (h o) 7 = true ∧ Nat.ble (ni_sw st) 8 = true ∧ ni_T d 125 0 [.ref o, .int x0, .int x1, .int x2, .retAddr 0] [] z h (ni_K (d + 1) 199 238 [a0, a1, a2, a3] st z Q)) := ni_T_ce [.ref o, .int x0, .int x1, .int x2] rfl rfl rfl rfl rfl rfl rfl rfl rfl
theorem s199_238 : ni_T d 199 238 [a0, a1, a2, a3] (.int y :: .int x :: st) z h Q = if x = y then ni_T d 199 1376 [a0, a1, a2, a3] st z h Q else ni_T d 199 241 [a0, a1, a2, a3] st z h Q := ni_T_b rfl rfl
theorem s199_241 : ni_T d 199 241 [a0, a1, a2, a3] st z h Q = ni_T d 199 242 [a0, a1, a2, a3] (.int 0 :: st) z h Q := ni_T_p rfl rfl
theorem s199_242 : ni_T d 199 242 [a0, a1, a2, a3] [.int x] z h Q = (narrow .boolean (.int x) = .int x ∧ Q (some (.int x)) z h) := ni_T_z rfl rfl
theorem s199_243 : ni_T d 199 243 [a0, .ref o, a2, a3] st z h Q = ni_T d 199 244 [a0, .ref o, a2, a3] (.ref o :: st) z h Q := ni_T_p rfl rfl
theorem s199_243N : ni_T d 199 243 [a0, .null, a2, a3] st z h Q = ni_T d 199 244 [a0, .null, a2, a3] (.null :: st) z h Q := ni_T_p rfl rfl
theorem s199_244 : ni_T d 199 244 [.ref o, a1, a2, a3] st z h Q = ni_T d 199 245 [.ref o, a1, a2, a3] (.ref o :: st) z h Q := ni_T_p rfl rfl
theorem s199_245 : ni_T d 199 245 [a0, a1, a2, .int x] st z h Q = ni_T d 199 246 [a0, a1, a2, .int x] (.int x :: st) z h Q := ni_T_p rfl rfl
theorem s199_246 : ni_T d 199 246 [a0, a1, a2, a3] st z h Q = ni_T d 199 247 [a0, a1, a2, a3] (.int 1 :: st) z h Q := ni_T_p rfl rfl
theorem s199_247 : ni_T d 199 247 [a0, a1, a2, a3] (.int y :: .int x :: st) z h Q = ni_T d 199 248 [a0, a1, a2, a3] (.int (x + y) :: st) z h Q := ni_T_p rfl rfl
theorem s199_248 : ni_T d 199 248 [a0, a1, a2, a3] (.int x :: .ref o :: st) z h Q = (ni_okI (h o) x = true ∧ ni_T d 199 249 [a0, a1, a2, a3] (.int (ni_gi (h o) x) :: st) z h Q) := ni_T_iald rfl
theorem s199_249 : ni_T d 199 249 [.ref o, a1, a2, a3] st z h Q = ni_T d 199 250 [.ref o, a1, a2, a3] (.ref o :: st) z h Q := ni_T_p rfl rfl
theorem s199_250 : ni_T d 199 250 [a0, a1, a2, .int x] st z h Q = ni_T d 199 251 [a0, a1, a2, .int x] (.int x :: st) z h Q := ni_T_p rfl rfl
theorem s199_251 : ni_T d 199 251 [a0, a1, a2, a3] st z h Q = ni_T d 199 252 [a0, a1, a2, a3] (.int 2 :: st) z h Q := ni_T_p rfl rfl
theorem s199_252 : ni_T d 199 252 [a0, a1, a2, a3] (.int y :: .int x :: st) z h Q = ni_T d 199 253 [a0, a1, a2, a3] (.int (x + y) :: st) z h Q := ni_T_p rfl rfl
theorem s199_253 : ni_T d 199 253 [a0, a1, a2, a3] (.int x :: .ref o :: st) z h Q = (ni_okI (h o) x = true ∧ ni_T d 199 254 [a0, a1, a2, a3] (.int (ni_gi (h o) x) :: st) z h Q) := ni_T_iald rfl
theorem s199_254 : ni_T d 199 254 [.ref o, a1, a2, a3] st z h Q = ni_T d 199 255 [.ref o, a1, a2, a3] (.ref o :: st) z h Q := ni_T_p rfl rfl
theorem s199_255 : ni_T d 199 255 [a0, a1, a2, .int x] st z h Q = ni_T d 199 256 [a0, a1, a2, .int x] (.int x :: st) z h Q := ni_T_p rfl rfl
theorem s199_256 : ni_T d 199 256 [a0, a1, a2, a3] st z h Q = ni_T d 199 257 [a0, a1, a2, a3] (.int 3 :: st) z h Q := ni_T_p rfl rfl
theorem s199_257 : ni_T d 199 257 [a0, a1, a2, a3] (.int y :: .int x :: st) z h Q = ni_T d 199 258 [a0, a1, a2, a3] (.int (x + y) :: st) z h Q := ni_T_p rfl rfl
theorem s199_258 : ni_T d 199 258 [a0, a1, a2, a3] (.int x :: .ref o :: st) z h Q = (ni_okI (h o) x = true ∧ ni_T d 199 259 [a0, a1, a2, a3] (.int (ni_gi (h o) x) :: st) z h Q) := ni_T_iald rfl
theorem s199_259 : ni_T d 199 259 [a0, a1, a2, a3] (.int x :: st) z h Q = ni_T d 199 260 [a0, a1, a2, a3] (.long x.toInt64 :: st) z h Q := ni_T_p rfl rfl
theorem s199_260 : ni_T d 199 260 [a0, a1, a2, a3] st z h Q = ni_T d 199 262 [a0, a1, a2, a3] (.int 32 :: st) z h Q := ni_T_p rfl rfl
theorem s199_262 : ni_T d 199 262 [a0, a1, a2, a3] (.int y :: .long u :: st) z h Q = ni_T d 199 263 [a0, a1, a2, a3] (.long (u <<< (y.toInt64 &&& 63)) :: st) z h Q := ni_T_p rfl rfl
theorem s199_263 : ni_T d 199 263 [.ref o, a1, a2, a3] st z h Q = ni_T d 199 264 [.ref o, a1, a2, a3] (.ref o :: st) z h Q := ni_T_p rfl rfl
theorem s199_264 : ni_T d 199 264 [a0, a1, a2, .int x] st z h Q = ni_T d 199 265 [a0, a1, a2, .int x] (.int x :: st) z h Q := ni_T_p rfl rfl
theorem s199_265 : ni_T d 199 265 [a0, a1, a2, a3] st z h Q = ni_T d 199 266 [a0, a1, a2, a3] (.int 4 :: st) z h Q := ni_T_p rfl rfl
theorem s199_266 : ni_T d 199 266 [a0, a1, a2, a3] (.int y :: .int x :: st) z h Q = ni_T d 199 267 [a0, a1, a2, a3] (.int (x + y) :: st) z h Q := ni_T_p rfl rfl
theorem s199_267 : ni_T d 199 267 [a0, a1, a2, a3] (.int x :: .ref o :: st) z h Q = (ni_okI (h o) x = true ∧ ni_T d 199 268 [a0, a1, a2, a3] (.int (ni_gi (h o) x) :: st) z h Q) := ni_T_iald rfl
theorem s199_268 : ni_T d 199 268 [a0, a1, a2, a3] (.int x :: st) z h Q = ni_T d 199 269 [a0, a1, a2, a3] (.long x.toInt64 :: st) z h Q := ni_T_p rfl rfl
theorem s199_269 : ni_T d 199 269 [a0, a1, a2, a3] st z h Q = ni_T d 199 272 [a0, a1, a2, a3] (.long 4294967295 :: st) z h Q := ni_T_hse rfl rfl rfl rfl
theorem s199_272 : ni_T d 199 272 [a0, a1, a2, a3] (.long w :: .long u :: st) z h Q = ni_T d 199 273 [a0, a1, a2, a3] (.long (u &&& w) :: st) z h Q := ni_T_p rfl rfl
theorem s199_273 : ni_T d 199 273 [a0, a1, a2, a3] (.long w :: .long u :: st) z h Q = ni_T d 199 274 [a0, a1, a2, a3] (.long (u ||| w) :: st) z h Q := ni_T_p rfl rfl
theorem s199_274 : ni_T (d + 1) 199 274 [a0, a1, a2, a3] (.long u2 :: .int x1 :: .int x0 :: .ref o :: st) z h Q = (ni_rc (h o) 6 = true ∧ Nat.ble (ni_sw st) 8 = true ∧ ni_T d 68 0 [.ref o, .int x0, .int x1, .long u2, .retAddr 1, .retAddr 0, .retAddr 0] [] z h (ni_K (d + 1) 199 277 [a0, a1, a2, a3] st z Q)) := ni_T_ce [.ref o, .int x0, .int x1, .long u2] rfl rfl rfl rfl rfl rfl rfl rfl rfl
theorem s199_277 : ni_T d 199 277 [a0, a1, .ref o, a3] st z h Q = ni_T d 199 278 [a0, a1, .ref o, a3] (.ref o :: st) z h Q := ni_T_p rfl rfl
theorem s199_277N : ni_T d 199 277 [a0, a1, .null, a3] st z h Q = ni_T d 199 278 [a0, a1, .null, a3] (.null :: st) z h Q := ni_T_p rfl rfl
theorem s199_278 : ni_T d 199 278 [.ref o, a1, a2, a3] st z h Q = ni_T d 199 279 [.ref o, a1, a2, a3] (.ref o :: st) z h Q := ni_T_p rfl rfl
theorem s199_279 : ni_T d 199 279 [a0, a1, a2, .int x] st z h Q = ni_T d 199 280 [a0, a1, a2, .int x] (.int x :: st) z h Q := ni_T_p rfl rfl
theorem s199_280 : ni_T d 199 280 [a0, a1, a2, a3] st z h Q = ni_T d 199 281 [a0, a1, a2, a3] (.int 1 :: st) z h Q := ni_T_p rfl rfl
theorem s199_281 : ni_T d 199 281 [a0, a1, a2, a3] (.int y :: .int x :: st) z h Q = ni_T d 199 282 [a0, a1, a2, a3] (.int (x + y) :: st) z h Q := ni_T_p rfl rfl
theorem s199_282 : ni_T d 199 282 [a0, a1, a2, a3] (.int x :: .ref o :: st) z h Q = (ni_okI (h o) x = true ∧ ni_T d 199 283 [a0, a1, a2, a3] (.int (ni_gi (h o) x) :: st) z h Q) := ni_T_iald rfl
theorem s199_283 : ni_T d 199 283 [.ref o, a1, a2, a3] st z h Q = ni_T d 199 284 [.ref o, a1, a2, a3] (.ref o :: st) z h Q := ni_T_p rfl rfl
theorem s199_284 : ni_T d 199 284 [a0, a1, a2, .int x] st z h Q = ni_T d 199 285 [a0, a1, a2, .int x] (.int x :: st) z h Q := ni_T_p rfl rfl
theorem s199_285 : ni_T d 199 285 [a0, a1, a2, a3] st z h Q = ni_T d 199 286 [a0, a1, a2, a3] (.int 2 :: st) z h Q := ni_T_p rfl rfl
theorem s199_286 : ni_T d 199 286 [a0, a1, a2, a3] (.int y :: .int x :: st) z h Q = ni_T d 199 287 [a0, a1, a2, a3] (.int (x + y) :: st) z h Q := ni_T_p rfl rfl
theorem s199_287 : ni_T d 199 287 [a0, a1, a2, a3] (.int x :: .ref o :: st) z h Q = (ni_okI (h o) x = true ∧ ni_T d 199 288 [a0, a1, a2, a3] (.int (ni_gi (h o) x) :: st) z h Q) := ni_T_iald rfl
theorem s199_288 : ni_T d 199 288 [.ref o, a1, a2, a3] st z h Q = ni_T d 199 289 [.ref o, a1, a2, a3] (.ref o :: st) z h Q := ni_T_p rfl rfl
theorem s199_289 : ni_T d 199 289 [a0, a1, a2, .int x] st z h Q = ni_T d 199 290 [a0, a1, a2, .int x] (.int x :: st) z h Q := ni_T_p rfl rfl
theorem s199_290 : ni_T d 199 290 [a0, a1, a2, a3] st z h Q = ni_T d 199 291 [a0, a1, a2, a3] (.int 3 :: st) z h Q := ni_T_p rfl rfl
theorem s199_291 : ni_T d 199 291 [a0, a1, a2, a3] (.int y :: .int x :: st) z h Q = ni_T d 199 292 [a0, a1, a2, a3] (.int (x + y) :: st) z h Q := ni_T_p rfl rfl
theorem s199_292 : ni_T d 199 292 [a0, a1, a2, a3] (.int x :: .ref o :: st) z h Q = (ni_okI (h o) x = true ∧ ni_T d 199 293 [a0, a1, a2, a3] (.int (ni_gi (h o) x) :: st) z h Q) := ni_T_iald rfl
theorem s199_293 : ni_T d 199 293 [a0, a1, a2, a3] (.int x :: st) z h Q = ni_T d 199 294 [a0, a1, a2, a3] (.long x.toInt64 :: st) z h Q := ni_T_p rfl rfl
theorem s199_294 : ni_T d 199 294 [a0, a1, a2, a3] st z h Q = ni_T d 199 296 [a0, a1, a2, a3] (.int 32 :: st) z h Q := ni_T_p rfl rfl
theorem s199_296 : ni_T d 199 296 [a0, a1, a2, a3] (.int y :: .long u :: st) z h Q = ni_T d 199 297 [a0, a1, a2, a3] (.long (u <<< (y.toInt64 &&& 63)) :: st) z h Q := ni_T_p rfl rfl
theorem s199_297 : ni_T d 199 297 [.ref o, a1, a2, a3] st z h Q = ni_T d 199 298 [.ref o, a1, a2, a3] (.ref o :: st) z h Q := ni_T_p rfl rfl
theorem s199_298 : ni_T d 199 298 [a0, a1, a2, .int x] st z h Q = ni_T d 199 299 [a0, a1, a2, .int x] (.int x :: st) z h Q := ni_T_p rfl rfl
theorem s199_299 : ni_T d 199 299 [a0, a1, a2, a3] st z h Q = ni_T d 199 300 [a0, a1, a2, a3] (.int 4 :: st) z h Q := ni_T_p rfl rfl
theorem s199_300 : ni_T d 199 300 [a0, a1, a2, a3] (.int y :: .int x :: st) z h Q = ni_T d 199 301 [a0, a1, a2, a3] (.int (x + y) :: st) z h Q := ni_T_p rfl rfl
theorem s199_301 : ni_T d 199 301 [a0, a1, a2, a3] (.int x :: .ref o :: st) z h Q = (ni_okI (h o) x = true ∧ ni_T d 199 302 [a0, a1, a2, a3] (.int (ni_gi (h o) x) :: st) z h Q) := ni_T_iald rfl
theorem s199_302 : ni_T d 199 302 [a0, a1, a2, a3] (.int x :: st) z h Q = ni_T d 199 303 [a0, a1, a2, a3] (.long x.toInt64 :: st) z h Q := ni_T_p rfl rfl
theorem s199_303 : ni_T d 199 303 [a0, a1, a2, a3] st z h Q = ni_T d 199 306 [a0, a1, a2, a3] (.long 4294967295 :: st) z h Q := ni_T_hse rfl rfl rfl rfl
theorem s199_306 : ni_T d 199 306 [a0, a1, a2, a3] (.long w :: .long u :: st) z h Q = ni_T d 199 307 [a0, a1, a2, a3] (.long (u &&& w) :: st) z h Q := ni_T_p rfl rfl
theorem s199_307 : ni_T d 199 307 [a0, a1, a2, a3] (.long w :: .long u :: st) z h Q = ni_T d 199 308 [a0, a1, a2, a3] (.long (u ||| w) :: st) z h Q := ni_T_p rfl rfl
theorem s199_308 : ni_T (d + 1) 199 308 [a0, a1, a2, a3] (.long u2 :: .int x1 :: .int x0 :: .ref o :: st) z h Q = (ni_rc (h o) 7 = true ∧ Nat.ble (ni_sw st) 8 = true ∧ ni_T d 126 0 [.ref o, .int x0, .int x1, .long u2, .retAddr 1] [] z h (ni_K (d + 1) 199 311 [a0, a1, a2, a3] st z Q)) := ni_T_ce [.ref o, .int x0, .int x1, .long u2] rfl rfl rfl rfl rfl rfl rfl rfl rfl
theorem s199_311 : ni_T d 199 311 [a0, a1, a2, a3] (.int y :: .int x :: st) z h Q = if x = y then ni_T d 199 1376 [a0, a1, a2, a3] st z h Q else ni_T d 199 314 [a0, a1, a2, a3] st z h Q := ni_T_b rfl rfl
theorem s199_314 : ni_T d 199 314 [a0, a1, a2, a3] st z h Q = ni_T d 199 315 [a0, a1, a2, a3] (.int 0 :: st) z h Q := ni_T_p rfl rfl
theorem s199_315 : ni_T d 199 315 [a0, a1, a2, a3] [.int x] z h Q = (narrow .boolean (.int x) = .int x ∧ Q (some (.int x)) z h) := ni_T_z rfl rfl
theorem s199_316 : ni_T d 199 316 [a0, .ref o, a2, a3] st z h Q = ni_T d 199 317 [a0, .ref o, a2, a3] (.ref o :: st) z h Q := ni_T_p rfl rfl
theorem s199_316N : ni_T d 199 316 [a0, .null, a2, a3] st z h Q = ni_T d 199 317 [a0, .null, a2, a3] (.null :: st) z h Q := ni_T_p rfl rfl
theorem s199_317 : ni_T d 199 317 [.ref o, a1, a2, a3] st z h Q = ni_T d 199 318 [.ref o, a1, a2, a3] (.ref o :: st) z h Q := ni_T_p rfl rfl
theorem s199_318 : ni_T d 199 318 [a0, a1, a2, .int x] st z h Q = ni_T d 199 319 [a0, a1, a2, .int x] (.int x :: st) z h Q := ni_T_p rfl rfl
theorem s199_319 : ni_T d 199 319 [a0, a1, a2, a3] st z h Q = ni_T d 199 320 [a0, a1, a2, a3] (.int 1 :: st) z h Q := ni_T_p rfl rfl
theorem s199_320 : ni_T d 199 320 [a0, a1, a2, a3] (.int y :: .int x :: st) z h Q = ni_T d 199 321 [a0, a1, a2, a3] (.int (x + y) :: st) z h Q := ni_T_p rfl rfl
theorem s199_321 : ni_T d 199 321 [a0, a1, a2, a3] (.int x :: .ref o :: st) z h Q = (ni_okI (h o) x = true ∧ ni_T d 199 322 [a0, a1, a2, a3] (.int (ni_gi (h o) x) :: st) z h Q) := ni_T_iald rfl
theorem s199_322 : ni_T d 199 322 [.ref o, a1, a2, a3] st z h Q = ni_T d 199 323 [.ref o, a1, a2, a3] (.ref o :: st) z h Q := ni_T_p rfl rfl
theorem s199_323 : ni_T d 199 323 [a0, a1, a2, .int x] st z h Q = ni_T d 199 324 [a0, a1, a2, .int x] (.int x :: st) z h Q := ni_T_p rfl rfl
theorem s199_324 : ni_T d 199 324 [a0, a1, a2, a3] st z h Q = ni_T d 199 325 [a0, a1, a2, a3] (.int 2 :: st) z h Q := ni_T_p rfl rfl
theorem s199_325 : ni_T d 199 325 [a0, a1, a2, a3] (.int y :: .int x :: st) z h Q = ni_T d 199 326 [a0, a1, a2, a3] (.int (x + y) :: st) z h Q := ni_T_p rfl rfl
theorem s199_326 : ni_T d 199 326 [a0, a1, a2, a3] (.int x :: .ref o :: st) z h Q = (ni_okI (h o) x = true ∧ ni_T d 199 327 [a0, a1, a2, a3] (.int (ni_gi (h o) x) :: st) z h Q) := ni_T_iald rfl
theorem s199_327 : ni_T d 199 327 [.ref o, a1, a2, a3] st z h Q = ni_T d 199 328 [.ref o, a1, a2, a3] (.ref o :: st) z h Q := ni_T_p rfl rfl
theorem s199_328 : ni_T d 199 328 [a0, a1, a2, .int x] st z h Q = ni_T d 199 329 [a0, a1, a2, .int x] (.int x :: st) z h Q := ni_T_p rfl rfl
theorem s199_329 : ni_T d 199 329 [a0, a1, a2, a3] st z h Q = ni_T d 199 330 [a0, a1, a2, a3] (.int 3 :: st) z h Q := ni_T_p rfl rfl
theorem s199_330 : ni_T d 199 330 [a0, a1, a2, a3] (.int y :: .int x :: st) z h Q = ni_T d 199 331 [a0, a1, a2, a3] (.int (x + y) :: st) z h Q := ni_T_p rfl rfl
theorem s199_331 : ni_T d 199 331 [a0, a1, a2, a3] (.int x :: .ref o :: st) z h Q = (ni_okI (h o) x = true ∧ ni_T d 199 332 [a0, a1, a2, a3] (.int (ni_gi (h o) x) :: st) z h Q) := ni_T_iald rfl
theorem s199_332 : ni_T d 199 332 [.ref o, a1, a2, a3] st z h Q = ni_T d 199 333 [.ref o, a1, a2, a3] (.ref o :: st) z h Q := ni_T_p rfl rfl
theorem s199_333 : ni_T d 199 333 [a0, a1, a2, .int x] st z h Q = ni_T d 199 334 [a0, a1, a2, .int x] (.int x :: st) z h Q := ni_T_p rfl rfl
theorem s199_334 : ni_T d 199 334 [a0, a1, a2, a3] st z h Q = ni_T d 199 335 [a0, a1, a2, a3] (.int 4 :: st) z h Q := ni_T_p rfl rfl
theorem s199_335 : ni_T d 199 335 [a0, a1, a2, a3] (.int y :: .int x :: st) z h Q = ni_T d 199 336 [a0, a1, a2, a3] (.int (x + y) :: st) z h Q := ni_T_p rfl rfl
theorem s199_336 : ni_T d 199 336 [a0, a1, a2, a3] (.int x :: .ref o :: st) z h Q = (ni_okI (h o) x = true ∧ ni_T d 199 337 [a0, a1, a2, a3] (.int (ni_gi (h o) x) :: st) z h Q) := ni_T_iald rfl
theorem s199_337 : ni_T d 199 337 [.ref o, a1, a2, a3] st z h Q = ni_T d 199 338 [.ref o, a1, a2, a3] (.ref o :: st) z h Q := ni_T_p rfl rfl
theorem s199_338 : ni_T d 199 338 [a0, a1, a2, .int x] st z h Q = ni_T d 199 339 [a0, a1, a2, .int x] (.int x :: st) z h Q := ni_T_p rfl rfl
theorem s199_339 : ni_T d 199 339 [a0, a1, a2, a3] st z h Q = ni_T d 199 340 [a0, a1, a2, a3] (.int 5 :: st) z h Q := ni_T_p rfl rfl
theorem s199_340 : ni_T d 199 340 [a0, a1, a2, a3] (.int y :: .int x :: st) z h Q = ni_T d 199 341 [a0, a1, a2, a3] (.int (x + y) :: st) z h Q := ni_T_p rfl rfl
theorem s199_341 : ni_T d 199 341 [a0, a1, a2, a3] (.int x :: .ref o :: st) z h Q = (ni_okI (h o) x = true ∧ ni_T d 199 342 [a0, a1, a2, a3] (.int (ni_gi (h o) x) :: st) z h Q) := ni_T_iald rfl
theorem s199_342 : ni_T (d + 1) 199 342 [a0, a1, a2, a3] (.int x4 :: .int x3 :: .int x2 :: .int x1 :: .int x0 :: .ref o :: st) z h Q = (ni_rc (h o) 6 = true ∧ Nat.ble (ni_sw st) 8 = true ∧ ni_T d 69 0 [.ref o, .int x0, .int x1, .int x2, .int x3, .int x4, .retAddr 0, .retAddr 0, .retAddr 0] [] z h (ni_K (d + 1) 199 345 [a0, a1, a2, a3] st z Q)) := ni_T_ce [.ref o, .int x0, .int x1, .int x2, .int x3, .int x4] rfl rfl rfl rfl rfl rfl rfl rfl rfl
theorem s199_345 : ni_T d 199 345 [a0, a1, .ref o, a3] st z h Q = ni_T d 199 346 [a0, a1, .ref o, a3] (.ref o :: st) z h Q := ni_T_p rfl rfl
theorem s199_345N : ni_T d 199 345 [a0, a1, .null, a3] st z h Q = ni_T d 199 346 [a0, a1, .null, a3] (.null :: st) z h Q := ni_T_p rfl rfl
theorem s199_346 : ni_T d 199 346 [.ref o, a1, a2, a3] st z h Q = ni_T d 199 347 [.ref o, a1, a2, a3] (.ref o :: st) z h Q := ni_T_p rfl rfl
theorem s199_347 : ni_T d 199 347 [a0, a1, a2, .int x] st z h Q = ni_T d 199 348 [a0, a1, a2, .int x] (.int x :: st) z h Q := ni_T_p rfl rfl
theorem s199_348 : ni_T d 199 348 [a0, a1, a2, a3] st z h Q = ni_T d 199 349 [a0, a1, a2, a3] (.int 1 :: st) z h Q := ni_T_p rfl rfl
theorem s199_349 : ni_T d 199 349 [a0, a1, a2, a3] (.int y :: .int x :: st) z h Q = ni_T d 199 350 [a0, a1, a2, a3] (.int (x + y) :: st) z h Q := ni_T_p rfl rfl
theorem s199_350 : ni_T d 199 350 [a0, a1, a2, a3] (.int x :: .ref o :: st) z h Q = (ni_okI (h o) x = true ∧ ni_T d 199 351 [a0, a1, a2, a3] (.int (ni_gi (h o) x) :: st) z h Q) := ni_T_iald rfl
theorem s199_351 : ni_T d 199 351 [.ref o, a1, a2, a3] st z h Q = ni_T d 199 352 [.ref o, a1, a2, a3] (.ref o :: st) z h Q := ni_T_p rfl rfl
theorem s199_352 : ni_T d 199 352 [a0, a1, a2, .int x] st z h Q = ni_T d 199 353 [a0, a1, a2, .int x] (.int x :: st) z h Q := ni_T_p rfl rfl
theorem s199_353 : ni_T d 199 353 [a0, a1, a2, a3] st z h Q = ni_T d 199 354 [a0, a1, a2, a3] (.int 2 :: st) z h Q := ni_T_p rfl rfl
theorem s199_354 : ni_T d 199 354 [a0, a1, a2, a3] (.int y :: .int x :: st) z h Q = ni_T d 199 355 [a0, a1, a2, a3] (.int (x + y) :: st) z h Q := ni_T_p rfl rfl
theorem s199_355 : ni_T d 199 355 [a0, a1, a2, a3] (.int x :: .ref o :: st) z h Q = (ni_okI (h o) x = true ∧ ni_T d 199 356 [a0, a1, a2, a3] (.int (ni_gi (h o) x) :: st) z h Q) := ni_T_iald rfl
theorem s199_356 : ni_T d 199 356 [.ref o, a1, a2, a3] st z h Q = ni_T d 199 357 [.ref o, a1, a2, a3] (.ref o :: st) z h Q := ni_T_p rfl rfl
theorem s199_357 : ni_T d 199 357 [a0, a1, a2, .int x] st z h Q = ni_T d 199 358 [a0, a1, a2, .int x] (.int x :: st) z h Q := ni_T_p rfl rfl
theorem s199_358 : ni_T d 199 358 [a0, a1, a2, a3] st z h Q = ni_T d 199 359 [a0, a1, a2, a3] (.int 3 :: st) z h Q := ni_T_p rfl rfl
theorem s199_359 : ni_T d 199 359 [a0, a1, a2, a3] (.int y :: .int x :: st) z h Q = ni_T d 199 360 [a0, a1, a2, a3] (.int (x + y) :: st) z h Q := ni_T_p rfl rfl
theorem s199_360 : ni_T d 199 360 [a0, a1, a2, a3] (.int x :: .ref o :: st) z h Q = (ni_okI (h o) x = true ∧ ni_T d 199 361 [a0, a1, a2, a3] (.int (ni_gi (h o) x) :: st) z h Q) := ni_T_iald rfl
theorem s199_361 : ni_T d 199 361 [.ref o, a1, a2, a3] st z h Q = ni_T d 199 362 [.ref o, a1, a2, a3] (.ref o :: st) z h Q := ni_T_p rfl rfl
theorem s199_362 : ni_T d 199 362 [a0, a1, a2, .int x] st z h Q = ni_T d 199 363 [a0, a1, a2, .int x] (.int x :: st) z h Q := ni_T_p rfl rfl
theorem s199_363 : ni_T d 199 363 [a0, a1, a2, a3] st z h Q = ni_T d 199 364 [a0, a1, a2, a3] (.int 4 :: st) z h Q := ni_T_p rfl rfl
theorem s199_364 : ni_T d 199 364 [a0, a1, a2, a3] (.int y :: .int x :: st) z h Q = ni_T d 199 365 [a0, a1, a2, a3] (.int (x + y) :: st) z h Q := ni_T_p rfl rfl
theorem s199_365 : ni_T d 199 365 [a0, a1, a2, a3] (.int x :: .ref o :: st) z h Q = (ni_okI (h o) x = true ∧ ni_T d 199 366 [a0, a1, a2, a3] (.int (ni_gi (h o) x) :: st) z h Q) := ni_T_iald rfl
theorem s199_366 : ni_T d 199 366 [.ref o, a1, a2, a3] st z h Q = ni_T d 199 367 [.ref o, a1, a2, a3] (.ref o :: st) z h Q := ni_T_p rfl rfl
theorem s199_367 : ni_T d 199 367 [a0, a1, a2, .int x] st z h Q = ni_T d 199 368 [a0, a1, a2, .int x] (.int x :: st) z h Q := ni_T_p rfl rfl
theorem s199_368 : ni_T d 199 368 [a0, a1, a2, a3] st z h Q = ni_T d 199 369 [a0, a1, a2, a3] (.int 5 :: st) z h Q := ni_T_p rfl rfl
theorem s199_369 : ni_T d 199 369 [a0, a1, a2, a3] (.int y :: .int x :: st) z h Q = ni_T d 199 370 [a0, a1, a2, a3] (.int (x + y) :: st) z h Q := ni_T_p rfl rfl
theorem s199_370 : ni_T d 199 370 [a0, a1, a2, a3] (.int x :: .ref o :: st) z h Q = (ni_okI (h o) x = true ∧ ni_T d 199 371 [a0, a1, a2, a3] (.int (ni_gi (h o) x) :: st) z h Q) := ni_T_iald rfl
theorem s199_371 : ni_T (d + 1) 199 371 [a0, a1, a2, a3] (.int x4 :: .int x3 :: .int x2 :: .int x1 :: .int x0 :: .ref o :: st) z h Q = (ni_rc (h o) 7 = true ∧ Nat.ble (ni_sw st) 8 = true ∧ ni_T d 127 0 [.ref o, .int x0, .int x1, .int x2, .int x3, .int x4, .retAddr 0] [] z h (ni_K (d + 1) 199 374 [a0, a1, a2, a3] st z Q)) := ni_T_ce [.ref o, .int x0, .int x1, .int x2, .int x3, .int x4] rfl rfl rfl rfl rfl rfl rfl rfl rfl
theorem s199_374 : ni_T d 199 374 [a0, a1, a2, a3] (.int y :: .int x :: st) z h Q = if x = y then ni_T d 199 1376 [a0, a1, a2, a3] st z h Q else ni_T d 199 377 [a0, a1, a2, a3] st z h Q := ni_T_b rfl rfl
theorem s199_377 : ni_T d 199 377 [a0, a1, a2, a3] st z h Q = ni_T d 199 378 [a0, a1, a2, a3] (.int 0 :: st) z h Q := ni_T_p rfl rfl
theorem s199_378 : ni_T d 199 378 [a0, a1, a2, a3] [.int x] z h Q = (narrow .boolean (.int x) = .int x ∧ Q (some (.int x)) z h) := ni_T_z rfl rfl
theorem s199_379 : ni_T d 199 379 [a0, .ref o, a2, a3] st z h Q = ni_T d 199 380 [a0, .ref o, a2, a3] (.ref o :: st) z h Q := ni_T_p rfl rfl
theorem s199_379N : ni_T d 199 379 [a0, .null, a2, a3] st z h Q = ni_T d 199 380 [a0, .null, a2, a3] (.null :: st) z h Q := ni_T_p rfl rfl
theorem s199_380 : ni_T d 199 380 [.ref o, a1, a2, a3] st z h Q = ni_T d 199 381 [.ref o, a1, a2, a3] (.ref o :: st) z h Q := ni_T_p rfl rfl
theorem s199_381 : ni_T d 199 381 [a0, a1, a2, .int x] st z h Q = ni_T d 199 382 [a0, a1, a2, .int x] (.int x :: st) z h Q := ni_T_p rfl rfl
theorem s199_382 : ni_T d 199 382 [a0, a1, a2, a3] st z h Q = ni_T d 199 383 [a0, a1, a2, a3] (.int 1 :: st) z h Q := ni_T_p rfl rfl
theorem s199_383 : ni_T d 199 383 [a0, a1, a2, a3] (.int y :: .int x :: st) z h Q = ni_T d 199 384 [a0, a1, a2, a3] (.int (x + y) :: st) z h Q := ni_T_p rfl rfl
theorem s199_384 : ni_T d 199 384 [a0, a1, a2, a3] (.int x :: .ref o :: st) z h Q = (ni_okI (h o) x = true ∧ ni_T d 199 385 [a0, a1, a2, a3] (.int (ni_gi (h o) x) :: st) z h Q) := ni_T_iald rfl
theorem s199_385 : ni_T d 199 385 [.ref o, a1, a2, a3] st z h Q = ni_T d 199 386 [.ref o, a1, a2, a3] (.ref o :: st) z h Q := ni_T_p rfl rfl
theorem s199_386 : ni_T d 199 386 [a0, a1, a2, .int x] st z h Q = ni_T d 199 387 [a0, a1, a2, .int x] (.int x :: st) z h Q := ni_T_p rfl rfl
theorem s199_387 : ni_T d 199 387 [a0, a1, a2, a3] st z h Q = ni_T d 199 388 [a0, a1, a2, a3] (.int 2 :: st) z h Q := ni_T_p rfl rfl
theorem s199_388 : ni_T d 199 388 [a0, a1, a2, a3] (.int y :: .int x :: st) z h Q = ni_T d 199 389 [a0, a1, a2, a3] (.int (x + y) :: st) z h Q := ni_T_p rfl rfl
theorem s199_389 : ni_T d 199 389 [a0, a1, a2, a3] (.int x :: .ref o :: st) z h Q = (ni_okI (h o) x = true ∧ ni_T d 199 390 [a0, a1, a2, a3] (.int (ni_gi (h o) x) :: st) z h Q) := ni_T_iald rfl
theorem s199_390 : ni_T (d + 1) 199 390 [a0, a1, a2, a3] (.int x1 :: .int x0 :: .ref o :: st) z h Q = (ni_rc (h o) 6 = true ∧ Nat.ble (ni_sw st) 8 = true ∧ ni_T d 70 0 [.ref o, .int x0, .int x1, .retAddr 0] [] z h (ni_K (d + 1) 199 393 [a0, a1, a2, a3] st z Q)) := ni_T_ce [.ref o, .int x0, .int x1] rfl rfl rfl rfl rfl rfl rfl rfl rfl
theorem s199_393 : ni_T d 199 393 [a0, a1, .ref o, a3] st z h Q = ni_T d 199 394 [a0, a1, .ref o, a3] (.ref o :: st) z h Q := ni_T_p rfl rfl
theorem s199_393N : ni_T d 199 393 [a0, a1, .null, a3] st z h Q = ni_T d 199 394 [a0, a1, .null, a3] (.null :: st) z h Q := ni_T_p rfl rfl
theorem s199_394 : ni_T d 199 394 [.ref o, a1, a2, a3] st z h Q = ni_T d 199 395 [.ref o, a1, a2, a3] (.ref o :: st) z h Q := ni_T_p rfl rfl
theorem s199_395 : ni_T d 199 395 [a0, a1, a2, .int x] st z h Q = ni_T d 199 396 [a0, a1, a2, .int x] (.int x :: st) z h Q := ni_T_p rfl rfl
theorem s199_396 : ni_T d 199 396 [a0, a1, a2, a3] st z h Q = ni_T d 199 397 [a0, a1, a2, a3] (.int 1 :: st) z h Q := ni_T_p rfl rfl
theorem s199_397 : ni_T d 199 397 [a0, a1, a2, a3] (.int y :: .int x :: st) z h Q = ni_T d 199 398 [a0, a1, a2, a3] (.int (x + y) :: st) z h Q := ni_T_p rfl rfl
theorem s199_398 : ni_T d 199 398 [a0, a1, a2, a3] (.int x :: .ref o :: st) z h Q = (ni_okI (h o) x = true ∧ ni_T d 199 399 [a0, a1, a2, a3] (.int (ni_gi (h o) x) :: st) z h Q) := ni_T_iald rfl
theorem s199_399 : ni_T d 199 399 [.ref o, a1, a2, a3] st z h Q = ni_T d 199 400 [.ref o, a1, a2, a3] (.ref o :: st) z h Q := ni_T_p rfl rfl
theorem s199_400 : ni_T d 199 400 [a0, a1, a2, .int x] st z h Q = ni_T d 199 401 [a0, a1, a2, .int x] (.int x :: st) z h Q := ni_T_p rfl rfl
theorem s199_401 : ni_T d 199 401 [a0, a1, a2, a3] st z h Q = ni_T d 199 402 [a0, a1, a2, a3] (.int 2 :: st) z h Q := ni_T_p rfl rfl
theorem s199_402 : ni_T d 199 402 [a0, a1, a2, a3] (.int y :: .int x :: st) z h Q = ni_T d 199 403 [a0, a1, a2, a3] (.int (x + y) :: st) z h Q := ni_T_p rfl rfl
theorem s199_403 : ni_T d 199 403 [a0, a1, a2, a3] (.int x :: .ref o :: st) z h Q = (ni_okI (h o) x = true ∧ ni_T d 199 404 [a0, a1, a2, a3] (.int (ni_gi (h o) x) :: st) z h Q) := ni_T_iald rfl
theorem s199_404 : ni_T (d + 1) 199 404 [a0, a1, a2, a3] (.int x1 :: .int x0 :: .ref o :: st) z h Q = (ni_rc (h o) 7 = true ∧ Nat.ble (ni_sw st) 8 = true ∧ ni_T d 128 0 [.ref o, .int x0, .int x1] [] z h (ni_K (d + 1) 199 407 [a0, a1, a2, a3] st z Q)) := ni_T_ce [.ref o, .int x0, .int x1] rfl rfl rfl rfl rfl rfl rfl rfl rfl
theorem s199_407 : ni_T d 199 407 [a0, a1, a2, a3] (.long w :: .long u :: st) z h Q = ni_T d 199 408 [a0, a1, a2, a3] (.int (lg_cmp u w) :: st) z h Q := ni_T_p rfl rfl
theorem s199_408 : ni_T d 199 408 [a0, a1, a2, a3] (.int x :: st) z h Q = if x = 0 then ni_T d 199 1376 [a0, a1, a2, a3] st z h Q else ni_T d 199 411 [a0, a1, a2, a3] st z h Q := ni_T_b rfl rfl
theorem s199_411 : ni_T d 199 411 [a0, a1, a2, a3] st z h Q = ni_T d 199 412 [a0, a1, a2, a3] (.int 0 :: st) z h Q := ni_T_p rfl rfl
theorem s199_412 : ni_T d 199 412 [a0, a1, a2, a3] [.int x] z h Q = (narrow .boolean (.int x) = .int x ∧ Q (some (.int x)) z h) := ni_T_z rfl rfl
theorem s199_413 : ni_T d 199 413 [a0, .ref o, a2, a3] st z h Q = ni_T d 199 414 [a0, .ref o, a2, a3] (.ref o :: st) z h Q := ni_T_p rfl rfl
theorem s199_413N : ni_T d 199 413 [a0, .null, a2, a3] st z h Q = ni_T d 199 414 [a0, .null, a2, a3] (.null :: st) z h Q := ni_T_p rfl rfl
theorem s199_414 : ni_T d 199 414 [.ref o, a1, a2, a3] st z h Q = ni_T d 199 415 [.ref o, a1, a2, a3] (.ref o :: st) z h Q := ni_T_p rfl rfl
theorem s199_415 : ni_T d 199 415 [a0, a1, a2, .int x] st z h Q = ni_T d 199 416 [a0, a1, a2, .int x] (.int x :: st) z h Q := ni_T_p rfl rfl
theorem s199_416 : ni_T d 199 416 [a0, a1, a2, a3] st z h Q = ni_T d 199 417 [a0, a1, a2, a3] (.int 1 :: st) z h Q := ni_T_p rfl rfl
theorem s199_417 : ni_T d 199 417 [a0, a1, a2, a3] (.int y :: .int x :: st) z h Q = ni_T d 199 418 [a0, a1, a2, a3] (.int (x + y) :: st) z h Q := ni_T_p rfl rfl
theorem s199_418 : ni_T d 199 418 [a0, a1, a2, a3] (.int x :: .ref o :: st) z h Q = (ni_okI (h o) x = true ∧ ni_T d 199 419 [a0, a1, a2, a3] (.int (ni_gi (h o) x) :: st) z h Q) := ni_T_iald rfl
theorem s199_419 : ni_T d 199 419 [.ref o, a1, a2, a3] st z h Q = ni_T d 199 420 [.ref o, a1, a2, a3] (.ref o :: st) z h Q := ni_T_p rfl rfl
theorem s199_420 : ni_T d 199 420 [a0, a1, a2, .int x] st z h Q = ni_T d 199 421 [a0, a1, a2, .int x] (.int x :: st) z h Q := ni_T_p rfl rfl
theorem s199_421 : ni_T d 199 421 [a0, a1, a2, a3] st z h Q = ni_T d 199 422 [a0, a1, a2, a3] (.int 2 :: st) z h Q := ni_T_p rfl rfl
theorem s199_422 : ni_T d 199 422 [a0, a1, a2, a3] (.int y :: .int x :: st) z h Q = ni_T d 199 423 [a0, a1, a2, a3] (.int (x + y) :: st) z h Q := ni_T_p rfl rfl
theorem s199_423 : ni_T d 199 423 [a0, a1, a2, a3] (.int x :: .ref o :: st) z h Q = (ni_okI (h o) x = true ∧ ni_T d 199 424 [a0, a1, a2, a3] (.int (ni_gi (h o) x) :: st) z h Q) := ni_T_iald rfl
theorem s199_424 : ni_T (d + 1) 199 424 [a0, a1, a2, a3] (.int x1 :: .int x0 :: .ref o :: st) z h Q = (ni_rc (h o) 6 = true ∧ Nat.ble (ni_sw st) 8 = true ∧ ni_T d 71 0 [.ref o, .int x0, .int x1, .retAddr 0] [] z h (ni_K (d + 1) 199 427 [a0, a1, a2, a3] st z Q)) := ni_T_ce [.ref o, .int x0, .int x1] rfl rfl rfl rfl rfl rfl rfl rfl rfl
theorem s199_427 : ni_T d 199 427 [a0, a1, .ref o, a3] st z h Q = ni_T d 199 428 [a0, a1, .ref o, a3] (.ref o :: st) z h Q := ni_T_p rfl rfl
theorem s199_427N : ni_T d 199 427 [a0, a1, .null, a3] st z h Q = ni_T d 199 428 [a0, a1, .null, a3] (.null :: st) z h Q := ni_T_p rfl rfl
theorem s199_428 : ni_T d 199 428 [.ref o, a1, a2, a3] st z h Q = ni_T d 199 429 [.ref o, a1, a2, a3] (.ref o :: st) z h Q := ni_T_p rfl rfl
theorem s199_429 : ni_T d 199 429 [a0, a1, a2, .int x] st z h Q = ni_T d 199 430 [a0, a1, a2, .int x] (.int x :: st) z h Q := ni_T_p rfl rfl
theorem s199_430 : ni_T d 199 430 [a0, a1, a2, a3] st z h Q = ni_T d 199 431 [a0, a1, a2, a3] (.int 1 :: st) z h Q := ni_T_p rfl rfl
theorem s199_431 : ni_T d 199 431 [a0, a1, a2, a3] (.int y :: .int x :: st) z h Q = ni_T d 199 432 [a0, a1, a2, a3] (.int (x + y) :: st) z h Q := ni_T_p rfl rfl
theorem s199_432 : ni_T d 199 432 [a0, a1, a2, a3] (.int x :: .ref o :: st) z h Q = (ni_okI (h o) x = true ∧ ni_T d 199 433 [a0, a1, a2, a3] (.int (ni_gi (h o) x) :: st) z h Q) := ni_T_iald rfl
theorem s199_433 : ni_T d 199 433 [.ref o, a1, a2, a3] st z h Q = ni_T d 199 434 [.ref o, a1, a2, a3] (.ref o :: st) z h Q := ni_T_p rfl rfl
theorem s199_434 : ni_T d 199 434 [a0, a1, a2, .int x] st z h Q = ni_T d 199 435 [a0, a1, a2, .int x] (.int x :: st) z h Q := ni_T_p rfl rfl
theorem s199_435 : ni_T d 199 435 [a0, a1, a2, a3] st z h Q = ni_T d 199 436 [a0, a1, a2, a3] (.int 2 :: st) z h Q := ni_T_p rfl rfl
theorem s199_436 : ni_T d 199 436 [a0, a1, a2, a3] (.int y :: .int x :: st) z h Q = ni_T d 199 437 [a0, a1, a2, a3] (.int (x + y) :: st) z h Q := ni_T_p rfl rfl
theorem s199_437 : ni_T d 199 437 [a0, a1, a2, a3] (.int x :: .ref o :: st) z h Q = (ni_okI (h o) x = true ∧ ni_T d 199 438 [a0, a1, a2, a3] (.int (ni_gi (h o) x) :: st) z h Q) := ni_T_iald rfl
theorem s199_438 : ni_T (d + 1) 199 438 [a0, a1, a2, a3] (.int x1 :: .int x0 :: .ref o :: st) z h Q = (ni_rc (h o) 7 = true ∧ Nat.ble (ni_sw st) 8 = true ∧ ni_T d 129 0 [.ref o, .int x0, .int x1] [] z h (ni_K (d + 1) 199 441 [a0, a1, a2, a3] st z Q)) := ni_T_ce [.ref o, .int x0, .int x1] rfl rfl rfl rfl rfl rfl rfl rfl rfl
theorem s199_441 : ni_T d 199 441 [a0, a1, a2, a3] (.int y :: .int x :: st) z h Q = if x = y then ni_T d 199 1376 [a0, a1, a2, a3] st z h Q else ni_T d 199 444 [a0, a1, a2, a3] st z h Q := ni_T_b rfl rfl
theorem s199_444 : ni_T d 199 444 [a0, a1, a2, a3] st z h Q = ni_T d 199 445 [a0, a1, a2, a3] (.int 0 :: st) z h Q := ni_T_p rfl rfl
theorem s199_445 : ni_T d 199 445 [a0, a1, a2, a3] [.int x] z h Q = (narrow .boolean (.int x) = .int x ∧ Q (some (.int x)) z h) := ni_T_z rfl rfl
theorem s199_446 : ni_T d 199 446 [a0, .ref o, a2, a3] st z h Q = ni_T d 199 447 [a0, .ref o, a2, a3] (.ref o :: st) z h Q := ni_T_p rfl rfl
theorem s199_446N : ni_T d 199 446 [a0, .null, a2, a3] st z h Q = ni_T d 199 447 [a0, .null, a2, a3] (.null :: st) z h Q := ni_T_p rfl rfl
theorem s199_447 : ni_T d 199 447 [.ref o, a1, a2, a3] st z h Q = ni_T d 199 448 [.ref o, a1, a2, a3] (.ref o :: st) z h Q := ni_T_p rfl rfl
theorem s199_448 : ni_T d 199 448 [a0, a1, a2, .int x] st z h Q = ni_T d 199 449 [a0, a1, a2, .int x] (.int x :: st) z h Q := ni_T_p rfl rfl
theorem s199_449 : ni_T d 199 449 [a0, a1, a2, a3] st z h Q = ni_T d 199 450 [a0, a1, a2, a3] (.int 1 :: st) z h Q := ni_T_p rfl rfl
theorem s199_450 : ni_T d 199 450 [a0, a1, a2, a3] (.int y :: .int x :: st) z h Q = ni_T d 199 451 [a0, a1, a2, a3] (.int (x + y) :: st) z h Q := ni_T_p rfl rfl
theorem s199_451 : ni_T d 199 451 [a0, a1, a2, a3] (.int x :: .ref o :: st) z h Q = (ni_okI (h o) x = true ∧ ni_T d 199 452 [a0, a1, a2, a3] (.int (ni_gi (h o) x) :: st) z h Q) := ni_T_iald rfl
theorem s199_452 : ni_T (d + 1) 199 452 [a0, a1, a2, a3] (.int x0 :: .ref o :: st) z h Q = (ni_rc (h o) 6 = true ∧ Nat.ble (ni_sw st) 8 = true ∧ ni_T d 72 0 [.ref o, .int x0, .retAddr 0] [] z h (ni_K (d + 1) 199 455 [a0, a1, a2, a3] st z Q)) := ni_T_ce [.ref o, .int x0] rfl rfl rfl rfl rfl rfl rfl rfl rfl
theorem s199_455 : ni_T d 199 455 [a0, a1, .ref o, a3] st z h Q = ni_T d 199 456 [a0, a1, .ref o, a3] (.ref o :: st) z h Q := ni_T_p rfl rfl
theorem s199_455N : ni_T d 199 455 [a0, a1, .null, a3] st z h Q = ni_T d 199 456 [a0, a1, .null, a3] (.null :: st) z h Q := ni_T_p rfl rfl
theorem s199_456 : ni_T d 199 456 [.ref o, a1, a2, a3] st z h Q = ni_T d 199 457 [.ref o, a1, a2, a3] (.ref o :: st) z h Q := ni_T_p rfl rfl
theorem s199_457 : ni_T d 199 457 [a0, a1, a2, .int x] st z h Q = ni_T d 199 458 [a0, a1, a2, .int x] (.int x :: st) z h Q := ni_T_p rfl rfl
theorem s199_458 : ni_T d 199 458 [a0, a1, a2, a3] st z h Q = ni_T d 199 459 [a0, a1, a2, a3] (.int 1 :: st) z h Q := ni_T_p rfl rfl
theorem s199_459 : ni_T d 199 459 [a0, a1, a2, a3] (.int y :: .int x :: st) z h Q = ni_T d 199 460 [a0, a1, a2, a3] (.int (x + y) :: st) z h Q := ni_T_p rfl rfl
theorem s199_460 : ni_T d 199 460 [a0, a1, a2, a3] (.int x :: .ref o :: st) z h Q = (ni_okI (h o) x = true ∧ ni_T d 199 461 [a0, a1, a2, a3] (.int (ni_gi (h o) x) :: st) z h Q) := ni_T_iald rfl
theorem s199_461 : ni_T (d + 1) 199 461 [a0, a1, a2, a3] (.int x0 :: .ref o :: st) z h Q = (ni_rc (h o) 7 = true ∧ Nat.ble (ni_sw st) 8 = true ∧ ni_T d 130 0 [.ref o, .int x0] [] z h (ni_K (d + 1) 199 464 [a0, a1, a2, a3] st z Q)) := ni_T_ce [.ref o, .int x0] rfl rfl rfl rfl rfl rfl rfl rfl rfl
theorem s199_464 : ni_T d 199 464 [a0, a1, a2, a3] (.int y :: .int x :: st) z h Q = if x = y then ni_T d 199 1376 [a0, a1, a2, a3] st z h Q else ni_T d 199 467 [a0, a1, a2, a3] st z h Q := ni_T_b rfl rfl
theorem s199_467 : ni_T d 199 467 [a0, a1, a2, a3] st z h Q = ni_T d 199 468 [a0, a1, a2, a3] (.int 0 :: st) z h Q := ni_T_p rfl rfl
theorem s199_468 : ni_T d 199 468 [a0, a1, a2, a3] [.int x] z h Q = (narrow .boolean (.int x) = .int x ∧ Q (some (.int x)) z h) := ni_T_z rfl rfl
theorem s199_469 : ni_T d 199 469 [a0, .ref o, a2, a3] st z h Q = ni_T d 199 470 [a0, .ref o, a2, a3] (.ref o :: st) z h Q := ni_T_p rfl rfl
theorem s199_469N : ni_T d 199 469 [a0, .null, a2, a3] st z h Q = ni_T d 199 470 [a0, .null, a2, a3] (.null :: st) z h Q := ni_T_p rfl rfl
theorem s199_470 : ni_T d 199 470 [.ref o, a1, a2, a3] st z h Q = ni_T d 199 471 [.ref o, a1, a2, a3] (.ref o :: st) z h Q := ni_T_p rfl rfl
theorem s199_471 : ni_T d 199 471 [a0, a1, a2, .int x] st z h Q = ni_T d 199 472 [a0, a1, a2, .int x] (.int x :: st) z h Q := ni_T_p rfl rfl
theorem s199_472 : ni_T d 199 472 [a0, a1, a2, a3] st z h Q = ni_T d 199 473 [a0, a1, a2, a3] (.int 1 :: st) z h Q := ni_T_p rfl rfl
theorem s199_473 : ni_T d 199 473 [a0, a1, a2, a3] (.int y :: .int x :: st) z h Q = ni_T d 199 474 [a0, a1, a2, a3] (.int (x + y) :: st) z h Q := ni_T_p rfl rfl
theorem s199_474 : ni_T d 199 474 [a0, a1, a2, a3] (.int x :: .ref o :: st) z h Q = (ni_okI (h o) x = true ∧ ni_T d 199 475 [a0, a1, a2, a3] (.int (ni_gi (h o) x) :: st) z h Q) := ni_T_iald rfl
theorem s199_475 : ni_T d 199 475 [.ref o, a1, a2, a3] st z h Q = ni_T d 199 476 [.ref o, a1, a2, a3] (.ref o :: st) z h Q := ni_T_p rfl rfl
theorem s199_476 : ni_T d 199 476 [a0, a1, a2, .int x] st z h Q = ni_T d 199 477 [a0, a1, a2, .int x] (.int x :: st) z h Q := ni_T_p rfl rfl
theorem s199_477 : ni_T d 199 477 [a0, a1, a2, a3] st z h Q = ni_T d 199 478 [a0, a1, a2, a3] (.int 2 :: st) z h Q := ni_T_p rfl rfl
theorem s199_478 : ni_T d 199 478 [a0, a1, a2, a3] (.int y :: .int x :: st) z h Q = ni_T d 199 479 [a0, a1, a2, a3] (.int (x + y) :: st) z h Q := ni_T_p rfl rfl
theorem s199_479 : ni_T d 199 479 [a0, a1, a2, a3] (.int x :: .ref o :: st) z h Q = (ni_okI (h o) x = true ∧ ni_T d 199 480 [a0, a1, a2, a3] (.int (ni_gi (h o) x) :: st) z h Q) := ni_T_iald rfl
theorem s199_480 : ni_T (d + 1) 199 480 [a0, a1, a2, a3] (.int x1 :: .int x0 :: .ref o :: st) z h Q = (ni_rc (h o) 6 = true ∧ Nat.ble (ni_sw st) 8 = true ∧ ni_T d 73 0 [.ref o, .int x0, .int x1, .retAddr 0, .retAddr 0] [] z h (ni_K (d + 1) 199 483 [a0, a1, a2, a3] st z Q)) := ni_T_ce [.ref o, .int x0, .int x1] rfl rfl rfl rfl rfl rfl rfl rfl rfl
theorem s199_483 : ni_T d 199 483 [a0, a1, .ref o, a3] st z h Q = ni_T d 199 484 [a0, a1, .ref o, a3] (.ref o :: st) z h Q := ni_T_p rfl rfl
theorem s199_483N : ni_T d 199 483 [a0, a1, .null, a3] st z h Q = ni_T d 199 484 [a0, a1, .null, a3] (.null :: st) z h Q := ni_T_p rfl rfl
theorem s199_484 : ni_T d 199 484 [.ref o, a1, a2, a3] st z h Q = ni_T d 199 485 [.ref o, a1, a2, a3] (.ref o :: st) z h Q := ni_T_p rfl rfl
theorem s199_485 : ni_T d 199 485 [a0, a1, a2, .int x] st z h Q = ni_T d 199 486 [a0, a1, a2, .int x] (.int x :: st) z h Q := ni_T_p rfl rfl
theorem s199_486 : ni_T d 199 486 [a0, a1, a2, a3] st z h Q = ni_T d 199 487 [a0, a1, a2, a3] (.int 1 :: st) z h Q := ni_T_p rfl rfl
theorem s199_487 : ni_T d 199 487 [a0, a1, a2, a3] (.int y :: .int x :: st) z h Q = ni_T d 199 488 [a0, a1, a2, a3] (.int (x + y) :: st) z h Q := ni_T_p rfl rfl
theorem s199_488 : ni_T d 199 488 [a0, a1, a2, a3] (.int x :: .ref o :: st) z h Q = (ni_okI (h o) x = true ∧ ni_T d 199 489 [a0, a1, a2, a3] (.int (ni_gi (h o) x) :: st) z h Q) := ni_T_iald rfl
theorem s199_489 : ni_T d 199 489 [.ref o, a1, a2, a3] st z h Q = ni_T d 199 490 [.ref o, a1, a2, a3] (.ref o :: st) z h Q := ni_T_p rfl rfl
theorem s199_490 : ni_T d 199 490 [a0, a1, a2, .int x] st z h Q = ni_T d 199 491 [a0, a1, a2, .int x] (.int x :: st) z h Q := ni_T_p rfl rfl
theorem s199_491 : ni_T d 199 491 [a0, a1, a2, a3] st z h Q = ni_T d 199 492 [a0, a1, a2, a3] (.int 2 :: st) z h Q := ni_T_p rfl rfl
theorem s199_492 : ni_T d 199 492 [a0, a1, a2, a3] (.int y :: .int x :: st) z h Q = ni_T d 199 493 [a0, a1, a2, a3] (.int (x + y) :: st) z h Q := ni_T_p rfl rfl
theorem s199_493 : ni_T d 199 493 [a0, a1, a2, a3] (.int x :: .ref o :: st) z h Q = (ni_okI (h o) x = true ∧ ni_T d 199 494 [a0, a1, a2, a3] (.int (ni_gi (h o) x) :: st) z h Q) := ni_T_iald rfl
theorem s199_494 : ni_T (d + 1) 199 494 [a0, a1, a2, a3] (.int x1 :: .int x0 :: .ref o :: st) z h Q = (ni_rc (h o) 7 = true ∧ Nat.ble (ni_sw st) 8 = true ∧ ni_T d 131 0 [.ref o, .int x0, .int x1, .retAddr 0, .retAddr 0, .retAddr 0] [] z h (ni_K (d + 1) 199 497 [a0, a1, a2, a3] st z Q)) := ni_T_ce [.ref o, .int x0, .int x1] rfl rfl rfl rfl rfl rfl rfl rfl rfl
theorem s199_497 : ni_T d 199 497 [a0, a1, a2, a3] (.int y :: .int x :: st) z h Q = if x = y then ni_T d 199 1376 [a0, a1, a2, a3] st z h Q else ni_T d 199 500 [a0, a1, a2, a3] st z h Q := ni_T_b rfl rfl
theorem s199_500 : ni_T d 199 500 [a0, a1, a2, a3] st z h Q = ni_T d 199 501 [a0, a1, a2, a3] (.int 0 :: st) z h Q := ni_T_p rfl rfl
theorem s199_501 : ni_T d 199 501 [a0, a1, a2, a3] [.int x] z h Q = (narrow .boolean (.int x) = .int x ∧ Q (some (.int x)) z h) := ni_T_z rfl rfl
theorem s199_502 : ni_T d 199 502 [a0, .ref o, a2, a3] st z h Q = ni_T d 199 503 [a0, .ref o, a2, a3] (.ref o :: st) z h Q := ni_T_p rfl rfl
theorem s199_502N : ni_T d 199 502 [a0, .null, a2, a3] st z h Q = ni_T d 199 503 [a0, .null, a2, a3] (.null :: st) z h Q := ni_T_p rfl rfl
theorem s199_503 : ni_T d 199 503 [.ref o, a1, a2, a3] st z h Q = ni_T d 199 504 [.ref o, a1, a2, a3] (.ref o :: st) z h Q := ni_T_p rfl rfl
theorem s199_504 : ni_T d 199 504 [a0, a1, a2, .int x] st z h Q = ni_T d 199 505 [a0, a1, a2, .int x] (.int x :: st) z h Q := ni_T_p rfl rfl
theorem s199_505 : ni_T d 199 505 [a0, a1, a2, a3] st z h Q = ni_T d 199 506 [a0, a1, a2, a3] (.int 1 :: st) z h Q := ni_T_p rfl rfl
theorem s199_506 : ni_T d 199 506 [a0, a1, a2, a3] (.int y :: .int x :: st) z h Q = ni_T d 199 507 [a0, a1, a2, a3] (.int (x + y) :: st) z h Q := ni_T_p rfl rfl
theorem s199_507 : ni_T d 199 507 [a0, a1, a2, a3] (.int x :: .ref o :: st) z h Q = (ni_okI (h o) x = true ∧ ni_T d 199 508 [a0, a1, a2, a3] (.int (ni_gi (h o) x) :: st) z h Q) := ni_T_iald rfl
theorem s199_508 : ni_T d 199 508 [.ref o, a1, a2, a3] st z h Q = ni_T d 199 509 [.ref o, a1, a2, a3] (.ref o :: st) z h Q := ni_T_p rfl rfl
theorem s199_509 : ni_T d 199 509 [a0, a1, a2, .int x] st z h Q = ni_T d 199 510 [a0, a1, a2, .int x] (.int x :: st) z h Q := ni_T_p rfl rfl
theorem s199_510 : ni_T d 199 510 [a0, a1, a2, a3] st z h Q = ni_T d 199 511 [a0, a1, a2, a3] (.int 2 :: st) z h Q := ni_T_p rfl rfl
theorem s199_511 : ni_T d 199 511 [a0, a1, a2, a3] (.int y :: .int x :: st) z h Q = ni_T d 199 512 [a0, a1, a2, a3] (.int (x + y) :: st) z h Q := ni_T_p rfl rfl
theorem s199_512 : ni_T d 199 512 [a0, a1, a2, a3] (.int x :: .ref o :: st) z h Q = (ni_okI (h o) x = true ∧ ni_T d 199 513 [a0, a1, a2, a3] (.int (ni_gi (h o) x) :: st) z h Q) := ni_T_iald rfl
theorem s199_513 : ni_T (d + 1) 199 513 [a0, a1, a2, a3] (.int x1 :: .int x0 :: .ref o :: st) z h Q = (ni_rc (h o) 6 = true ∧ Nat.ble (ni_sw st) 8 = true ∧ ni_T d 74 0 [.ref o, .int x0, .int x1] [] z h (ni_K (d + 1) 199 516 [a0, a1, a2, a3] st z Q)) := ni_T_ce [.ref o, .int x0, .int x1] rfl rfl rfl rfl rfl rfl rfl rfl rfl
theorem s199_516 : ni_T d 199 516 [a0, a1, .ref o, a3] st z h Q = ni_T d 199 517 [a0, a1, .ref o, a3] (.ref o :: st) z h Q := ni_T_p rfl rfl
theorem s199_516N : ni_T d 199 516 [a0, a1, .null, a3] st z h Q = ni_T d 199 517 [a0, a1, .null, a3] (.null :: st) z h Q := ni_T_p rfl rfl
theorem s199_517 : ni_T d 199 517 [.ref o, a1, a2, a3] st z h Q = ni_T d 199 518 [.ref o, a1, a2, a3] (.ref o :: st) z h Q := ni_T_p rfl rfl
theorem s199_518 : ni_T d 199 518 [a0, a1, a2, .int x] st z h Q = ni_T d 199 519 [a0, a1, a2, .int x] (.int x :: st) z h Q := ni_T_p rfl rfl
theorem s199_519 : ni_T d 199 519 [a0, a1, a2, a3] st z h Q = ni_T d 199 520 [a0, a1, a2, a3] (.int 1 :: st) z h Q := ni_T_p rfl rfl
theorem s199_520 : ni_T d 199 520 [a0, a1, a2, a3] (.int y :: .int x :: st) z h Q = ni_T d 199 521 [a0, a1, a2, a3] (.int (x + y) :: st) z h Q := ni_T_p rfl rfl
theorem s199_521 : ni_T d 199 521 [a0, a1, a2, a3] (.int x :: .ref o :: st) z h Q = (ni_okI (h o) x = true ∧ ni_T d 199 522 [a0, a1, a2, a3] (.int (ni_gi (h o) x) :: st) z h Q) := ni_T_iald rfl
theorem s199_522 : ni_T d 199 522 [.ref o, a1, a2, a3] st z h Q = ni_T d 199 523 [.ref o, a1, a2, a3] (.ref o :: st) z h Q := ni_T_p rfl rfl
theorem s199_523 : ni_T d 199 523 [a0, a1, a2, .int x] st z h Q = ni_T d 199 524 [a0, a1, a2, .int x] (.int x :: st) z h Q := ni_T_p rfl rfl
theorem s199_524 : ni_T d 199 524 [a0, a1, a2, a3] st z h Q = ni_T d 199 525 [a0, a1, a2, a3] (.int 2 :: st) z h Q := ni_T_p rfl rfl
theorem s199_525 : ni_T d 199 525 [a0, a1, a2, a3] (.int y :: .int x :: st) z h Q = ni_T d 199 526 [a0, a1, a2, a3] (.int (x + y) :: st) z h Q := ni_T_p rfl rfl
theorem s199_526 : ni_T d 199 526 [a0, a1, a2, a3] (.int x :: .ref o :: st) z h Q = (ni_okI (h o) x = true ∧ ni_T d 199 527 [a0, a1, a2, a3] (.int (ni_gi (h o) x) :: st) z h Q) := ni_T_iald rfl
theorem s199_527 : ni_T (d + 1) 199 527 [a0, a1, a2, a3] (.int x1 :: .int x0 :: .ref o :: st) z h Q = (ni_rc (h o) 7 = true ∧ Nat.ble (ni_sw st) 8 = true ∧ ni_T d 136 0 [.ref o, .int x0, .int x1] [] z h (ni_K (d + 1) 199 530 [a0, a1, a2, a3] st z Q)) := ni_T_ce [.ref o, .int x0, .int x1] rfl rfl rfl rfl rfl rfl rfl rfl rfl
theorem s199_530 : ni_T d 199 530 [a0, a1, a2, a3] (.int y :: .int x :: st) z h Q = if x = y then ni_T d 199 1376 [a0, a1, a2, a3] st z h Q else ni_T d 199 533 [a0, a1, a2, a3] st z h Q := ni_T_b rfl rfl
theorem s199_533 : ni_T d 199 533 [a0, a1, a2, a3] st z h Q = ni_T d 199 534 [a0, a1, a2, a3] (.int 0 :: st) z h Q := ni_T_p rfl rfl
theorem s199_534 : ni_T d 199 534 [a0, a1, a2, a3] [.int x] z h Q = (narrow .boolean (.int x) = .int x ∧ Q (some (.int x)) z h) := ni_T_z rfl rfl
theorem s199_535 : ni_T d 199 535 [a0, .ref o, a2, a3] st z h Q = ni_T d 199 536 [a0, .ref o, a2, a3] (.ref o :: st) z h Q := ni_T_p rfl rfl
theorem s199_535N : ni_T d 199 535 [a0, .null, a2, a3] st z h Q = ni_T d 199 536 [a0, .null, a2, a3] (.null :: st) z h Q := ni_T_p rfl rfl
theorem s199_536 : ni_T d 199 536 [.ref o, a1, a2, a3] st z h Q = ni_T d 199 537 [.ref o, a1, a2, a3] (.ref o :: st) z h Q := ni_T_p rfl rfl
theorem s199_537 : ni_T d 199 537 [a0, a1, a2, .int x] st z h Q = ni_T d 199 538 [a0, a1, a2, .int x] (.int x :: st) z h Q := ni_T_p rfl rfl
theorem s199_538 : ni_T d 199 538 [a0, a1, a2, a3] st z h Q = ni_T d 199 539 [a0, a1, a2, a3] (.int 1 :: st) z h Q := ni_T_p rfl rfl
theorem s199_539 : ni_T d 199 539 [a0, a1, a2, a3] (.int y :: .int x :: st) z h Q = ni_T d 199 540 [a0, a1, a2, a3] (.int (x + y) :: st) z h Q := ni_T_p rfl rfl
theorem s199_540 : ni_T d 199 540 [a0, a1, a2, a3] (.int x :: .ref o :: st) z h Q = (ni_okI (h o) x = true ∧ ni_T d 199 541 [a0, a1, a2, a3] (.int (ni_gi (h o) x) :: st) z h Q) := ni_T_iald rfl
theorem s199_541 : ni_T d 199 541 [.ref o, a1, a2, a3] st z h Q = ni_T d 199 542 [.ref o, a1, a2, a3] (.ref o :: st) z h Q := ni_T_p rfl rfl
theorem s199_542 : ni_T d 199 542 [a0, a1, a2, .int x] st z h Q = ni_T d 199 543 [a0, a1, a2, .int x] (.int x :: st) z h Q := ni_T_p rfl rfl
theorem s199_543 : ni_T d 199 543 [a0, a1, a2, a3] st z h Q = ni_T d 199 544 [a0, a1, a2, a3] (.int 2 :: st) z h Q := ni_T_p rfl rfl
theorem s199_544 : ni_T d 199 544 [a0, a1, a2, a3] (.int y :: .int x :: st) z h Q = ni_T d 199 545 [a0, a1, a2, a3] (.int (x + y) :: st) z h Q := ni_T_p rfl rfl
theorem s199_545 : ni_T d 199 545 [a0, a1, a2, a3] (.int x :: .ref o :: st) z h Q = (ni_okI (h o) x = true ∧ ni_T d 199 546 [a0, a1, a2, a3] (.int (ni_gi (h o) x) :: st) z h Q) := ni_T_iald rfl
theorem s199_546 : ni_T (d + 1) 199 546 [a0, a1, a2, a3] (.int x1 :: .int x0 :: .ref o :: st) z h Q = (ni_rc (h o) 6 = true ∧ Nat.ble (ni_sw st) 8 = true ∧ ni_T d 75 0 [.ref o, .int x0, .int x1, .retAddr 0] [] z h (ni_K (d + 1) 199 549 [a0, a1, a2, a3] st z Q)) := ni_T_ce [.ref o, .int x0, .int x1] rfl rfl rfl rfl rfl rfl rfl rfl rfl
theorem s199_549 : ni_T d 199 549 [a0, a1, .ref o, a3] st z h Q = ni_T d 199 550 [a0, a1, .ref o, a3] (.ref o :: st) z h Q := ni_T_p rfl rfl
theorem s199_549N : ni_T d 199 549 [a0, a1, .null, a3] st z h Q = ni_T d 199 550 [a0, a1, .null, a3] (.null :: st) z h Q := ni_T_p rfl rfl
theorem s199_550 : ni_T d 199 550 [.ref o, a1, a2, a3] st z h Q = ni_T d 199 551 [.ref o, a1, a2, a3] (.ref o :: st) z h Q := ni_T_p rfl rfl
theorem s199_551 : ni_T d 199 551 [a0, a1, a2, .int x] st z h Q = ni_T d 199 552 [a0, a1, a2, .int x] (.int x :: st) z h Q := ni_T_p rfl rfl
theorem s199_552 : ni_T d 199 552 [a0, a1, a2, a3] st z h Q = ni_T d 199 553 [a0, a1, a2, a3] (.int 1 :: st) z h Q := ni_T_p rfl rfl
theorem s199_553 : ni_T d 199 553 [a0, a1, a2, a3] (.int y :: .int x :: st) z h Q = ni_T d 199 554 [a0, a1, a2, a3] (.int (x + y) :: st) z h Q := ni_T_p rfl rfl
theorem s199_554 : ni_T d 199 554 [a0, a1, a2, a3] (.int x :: .ref o :: st) z h Q = (ni_okI (h o) x = true ∧ ni_T d 199 555 [a0, a1, a2, a3] (.int (ni_gi (h o) x) :: st) z h Q) := ni_T_iald rfl
theorem s199_555 : ni_T d 199 555 [.ref o, a1, a2, a3] st z h Q = ni_T d 199 556 [.ref o, a1, a2, a3] (.ref o :: st) z h Q := ni_T_p rfl rfl
theorem s199_556 : ni_T d 199 556 [a0, a1, a2, .int x] st z h Q = ni_T d 199 557 [a0, a1, a2, .int x] (.int x :: st) z h Q := ni_T_p rfl rfl
theorem s199_557 : ni_T d 199 557 [a0, a1, a2, a3] st z h Q = ni_T d 199 558 [a0, a1, a2, a3] (.int 2 :: st) z h Q := ni_T_p rfl rfl
theorem s199_558 : ni_T d 199 558 [a0, a1, a2, a3] (.int y :: .int x :: st) z h Q = ni_T d 199 559 [a0, a1, a2, a3] (.int (x + y) :: st) z h Q := ni_T_p rfl rfl
theorem s199_559 : ni_T d 199 559 [a0, a1, a2, a3] (.int x :: .ref o :: st) z h Q = (ni_okI (h o) x = true ∧ ni_T d 199 560 [a0, a1, a2, a3] (.int (ni_gi (h o) x) :: st) z h Q) := ni_T_iald rfl
theorem s199_560 : ni_T (d + 1) 199 560 [a0, a1, a2, a3] (.int x1 :: .int x0 :: .ref o :: st) z h Q = (ni_rc (h o) 7 = true ∧ Nat.ble (ni_sw st) 8 = true ∧ ni_T d 137 0 [.ref o, .int x0, .int x1] [] z h (ni_K (d + 1) 199 563 [a0, a1, a2, a3] st z Q)) := ni_T_ce [.ref o, .int x0, .int x1] rfl rfl rfl rfl rfl rfl rfl rfl rfl
theorem s199_563 : ni_T d 199 563 [a0, a1, a2, a3] (.int y :: .int x :: st) z h Q = if x = y then ni_T d 199 1376 [a0, a1, a2, a3] st z h Q else ni_T d 199 566 [a0, a1, a2, a3] st z h Q := ni_T_b rfl rfl
theorem s199_566 : ni_T d 199 566 [a0, a1, a2, a3] st z h Q = ni_T d 199 567 [a0, a1, a2, a3] (.int 0 :: st) z h Q := ni_T_p rfl rfl
theorem s199_567 : ni_T d 199 567 [a0, a1, a2, a3] [.int x] z h Q = (narrow .boolean (.int x) = .int x ∧ Q (some (.int x)) z h) := ni_T_z rfl rfl
theorem s199_568 : ni_T d 199 568 [a0, .ref o, a2, a3] st z h Q = ni_T d 199 569 [a0, .ref o, a2, a3] (.ref o :: st) z h Q := ni_T_p rfl rfl
theorem s199_568N : ni_T d 199 568 [a0, .null, a2, a3] st z h Q = ni_T d 199 569 [a0, .null, a2, a3] (.null :: st) z h Q := ni_T_p rfl rfl
theorem s199_569 : ni_T d 199 569 [.ref o, a1, a2, a3] st z h Q = ni_T d 199 570 [.ref o, a1, a2, a3] (.ref o :: st) z h Q := ni_T_p rfl rfl
theorem s199_570 : ni_T d 199 570 [a0, a1, a2, .int x] st z h Q = ni_T d 199 571 [a0, a1, a2, .int x] (.int x :: st) z h Q := ni_T_p rfl rfl
theorem s199_571 : ni_T d 199 571 [a0, a1, a2, a3] st z h Q = ni_T d 199 572 [a0, a1, a2, a3] (.int 1 :: st) z h Q := ni_T_p rfl rfl
theorem s199_572 : ni_T d 199 572 [a0, a1, a2, a3] (.int y :: .int x :: st) z h Q = ni_T d 199 573 [a0, a1, a2, a3] (.int (x + y) :: st) z h Q := ni_T_p rfl rfl
theorem s199_573 : ni_T d 199 573 [a0, a1, a2, a3] (.int x :: .ref o :: st) z h Q = (ni_okI (h o) x = true ∧ ni_T d 199 574 [a0, a1, a2, a3] (.int (ni_gi (h o) x) :: st) z h Q) := ni_T_iald rfl
theorem s199_574 : ni_T d 199 574 [.ref o, a1, a2, a3] st z h Q = ni_T d 199 575 [.ref o, a1, a2, a3] (.ref o :: st) z h Q := ni_T_p rfl rfl
theorem s199_575 : ni_T d 199 575 [a0, a1, a2, .int x] st z h Q = ni_T d 199 576 [a0, a1, a2, .int x] (.int x :: st) z h Q := ni_T_p rfl rfl
theorem s199_576 : ni_T d 199 576 [a0, a1, a2, a3] st z h Q = ni_T d 199 577 [a0, a1, a2, a3] (.int 2 :: st) z h Q := ni_T_p rfl rfl
theorem s199_577 : ni_T d 199 577 [a0, a1, a2, a3] (.int y :: .int x :: st) z h Q = ni_T d 199 578 [a0, a1, a2, a3] (.int (x + y) :: st) z h Q := ni_T_p rfl rfl
theorem s199_578 : ni_T d 199 578 [a0, a1, a2, a3] (.int x :: .ref o :: st) z h Q = (ni_okI (h o) x = true ∧ ni_T d 199 579 [a0, a1, a2, a3] (.int (ni_gi (h o) x) :: st) z h Q) := ni_T_iald rfl
theorem s199_579 : ni_T (d + 1) 199 579 [a0, a1, a2, a3] (.int x1 :: .int x0 :: .ref o :: st) z h Q = (ni_rc (h o) 6 = true ∧ Nat.ble (ni_sw st) 8 = true ∧ ni_T d 76 0 [.ref o, .int x0, .int x1, .retAddr 0] [] z h (ni_K (d + 1) 199 582 [a0, a1, a2, a3] st z Q)) := ni_T_ce [.ref o, .int x0, .int x1] rfl rfl rfl rfl rfl rfl rfl rfl rfl
theorem s199_582 : ni_T d 199 582 [a0, a1, .ref o, a3] st z h Q = ni_T d 199 583 [a0, a1, .ref o, a3] (.ref o :: st) z h Q := ni_T_p rfl rfl
theorem s199_582N : ni_T d 199 582 [a0, a1, .null, a3] st z h Q = ni_T d 199 583 [a0, a1, .null, a3] (.null :: st) z h Q := ni_T_p rfl rfl
theorem s199_583 : ni_T d 199 583 [.ref o, a1, a2, a3] st z h Q = ni_T d 199 584 [.ref o, a1, a2, a3] (.ref o :: st) z h Q := ni_T_p rfl rfl
theorem s199_584 : ni_T d 199 584 [a0, a1, a2, .int x] st z h Q = ni_T d 199 585 [a0, a1, a2, .int x] (.int x :: st) z h Q := ni_T_p rfl rfl
theorem s199_585 : ni_T d 199 585 [a0, a1, a2, a3] st z h Q = ni_T d 199 586 [a0, a1, a2, a3] (.int 1 :: st) z h Q := ni_T_p rfl rfl
theorem s199_586 : ni_T d 199 586 [a0, a1, a2, a3] (.int y :: .int x :: st) z h Q = ni_T d 199 587 [a0, a1, a2, a3] (.int (x + y) :: st) z h Q := ni_T_p rfl rfl
theorem s199_587 : ni_T d 199 587 [a0, a1, a2, a3] (.int x :: .ref o :: st) z h Q = (ni_okI (h o) x = true ∧ ni_T d 199 588 [a0, a1, a2, a3] (.int (ni_gi (h o) x) :: st) z h Q) := ni_T_iald rfl
theorem s199_588 : ni_T d 199 588 [.ref o, a1, a2, a3] st z h Q = ni_T d 199 589 [.ref o, a1, a2, a3] (.ref o :: st) z h Q := ni_T_p rfl rfl
theorem s199_589 : ni_T d 199 589 [a0, a1, a2, .int x] st z h Q = ni_T d 199 590 [a0, a1, a2, .int x] (.int x :: st) z h Q := ni_T_p rfl rfl
theorem s199_590 : ni_T d 199 590 [a0, a1, a2, a3] st z h Q = ni_T d 199 591 [a0, a1, a2, a3] (.int 2 :: st) z h Q := ni_T_p rfl rfl
theorem s199_591 : ni_T d 199 591 [a0, a1, a2, a3] (.int y :: .int x :: st) z h Q = ni_T d 199 592 [a0, a1, a2, a3] (.int (x + y) :: st) z h Q := ni_T_p rfl rfl
theorem s199_592 : ni_T d 199 592 [a0, a1, a2, a3] (.int x :: .ref o :: st) z h Q = (ni_okI (h o) x = true ∧ ni_T d 199 593 [a0, a1, a2, a3] (.int (ni_gi (h o) x) :: st) z h Q) := ni_T_iald rfl
theorem s199_593 : ni_T (d + 1) 199 593 [a0, a1, a2, a3] (.int x1 :: .int x0 :: .ref o :: st) z h Q = (ni_rc (h o) 7 = true ∧ Nat.ble (ni_sw st) 8 = true ∧ ni_T d 139 0 [.ref o, .int x0, .int x1, .retAddr 0] [] z h (ni_K (d + 1) 199 596 [a0, a1, a2, a3] st z Q)) := ni_T_ce [.ref o, .int x0, .int x1] rfl rfl rfl rfl rfl rfl rfl rfl rfl
theorem s199_596 : ni_T d 199 596 [a0, a1, a2, a3] (.int y :: .int x :: st) z h Q = if x = y then ni_T d 199 1376 [a0, a1, a2, a3] st z h Q else ni_T d 199 599 [a0, a1, a2, a3] st z h Q := ni_T_b rfl rfl
theorem s199_599 : ni_T d 199 599 [a0, a1, a2, a3] st z h Q = ni_T d 199 600 [a0, a1, a2, a3] (.int 0 :: st) z h Q := ni_T_p rfl rfl
theorem s199_600 : ni_T d 199 600 [a0, a1, a2, a3] [.int x] z h Q = (narrow .boolean (.int x) = .int x ∧ Q (some (.int x)) z h) := ni_T_z rfl rfl
theorem s199_601 : ni_T d 199 601 [a0, .ref o, a2, a3] st z h Q = ni_T d 199 602 [a0, .ref o, a2, a3] (.ref o :: st) z h Q := ni_T_p rfl rfl
theorem s199_601N : ni_T d 199 601 [a0, .null, a2, a3] st z h Q = ni_T d 199 602 [a0, .null, a2, a3] (.null :: st) z h Q := ni_T_p rfl rfl
theorem s199_602 : ni_T d 199 602 [.ref o, a1, a2, a3] st z h Q = ni_T d 199 603 [.ref o, a1, a2, a3] (.ref o :: st) z h Q := ni_T_p rfl rfl
theorem s199_603 : ni_T d 199 603 [a0, a1, a2, .int x] st z h Q = ni_T d 199 604 [a0, a1, a2, .int x] (.int x :: st) z h Q := ni_T_p rfl rfl
theorem s199_604 : ni_T d 199 604 [a0, a1, a2, a3] st z h Q = ni_T d 199 605 [a0, a1, a2, a3] (.int 1 :: st) z h Q := ni_T_p rfl rfl
theorem s199_605 : ni_T d 199 605 [a0, a1, a2, a3] (.int y :: .int x :: st) z h Q = ni_T d 199 606 [a0, a1, a2, a3] (.int (x + y) :: st) z h Q := ni_T_p rfl rfl
theorem s199_606 : ni_T d 199 606 [a0, a1, a2, a3] (.int x :: .ref o :: st) z h Q = (ni_okI (h o) x = true ∧ ni_T d 199 607 [a0, a1, a2, a3] (.int (ni_gi (h o) x) :: st) z h Q) := ni_T_iald rfl
theorem s199_607 : ni_T (d + 1) 199 607 [a0, a1, a2, a3] (.int x0 :: .ref o :: st) z h Q = (ni_rc (h o) 6 = true ∧ Nat.ble (ni_sw st) 8 = true ∧ ni_T d 77 0 [.ref o, .int x0] [] z h (ni_K (d + 1) 199 610 [a0, a1, a2, a3] st z Q)) := ni_T_ce [.ref o, .int x0] rfl rfl rfl rfl rfl rfl rfl rfl rfl
theorem s199_610 : ni_T d 199 610 [a0, a1, .ref o, a3] st z h Q = ni_T d 199 611 [a0, a1, .ref o, a3] (.ref o :: st) z h Q := ni_T_p rfl rfl
theorem s199_610N : ni_T d 199 610 [a0, a1, .null, a3] st z h Q = ni_T d 199 611 [a0, a1, .null, a3] (.null :: st) z h Q := ni_T_p rfl rfl
theorem s199_611 : ni_T d 199 611 [.ref o, a1, a2, a3] st z h Q = ni_T d 199 612 [.ref o, a1, a2, a3] (.ref o :: st) z h Q := ni_T_p rfl rfl
theorem s199_612 : ni_T d 199 612 [a0, a1, a2, .int x] st z h Q = ni_T d 199 613 [a0, a1, a2, .int x] (.int x :: st) z h Q := ni_T_p rfl rfl
theorem s199_613 : ni_T d 199 613 [a0, a1, a2, a3] st z h Q = ni_T d 199 614 [a0, a1, a2, a3] (.int 1 :: st) z h Q := ni_T_p rfl rfl
theorem s199_614 : ni_T d 199 614 [a0, a1, a2, a3] (.int y :: .int x :: st) z h Q = ni_T d 199 615 [a0, a1, a2, a3] (.int (x + y) :: st) z h Q := ni_T_p rfl rfl
theorem s199_615 : ni_T d 199 615 [a0, a1, a2, a3] (.int x :: .ref o :: st) z h Q = (ni_okI (h o) x = true ∧ ni_T d 199 616 [a0, a1, a2, a3] (.int (ni_gi (h o) x) :: st) z h Q) := ni_T_iald rfl
theorem s199_616 : ni_T (d + 1) 199 616 [a0, a1, a2, a3] (.int x0 :: .ref o :: st) z h Q = (ni_rc (h o) 7 = true ∧ Nat.ble (ni_sw st) 8 = true ∧ ni_T d 140 0 [.ref o, .int x0] [] z h (ni_K (d + 1) 199 619 [a0, a1, a2, a3] st z Q)) := ni_T_ce [.ref o, .int x0] rfl rfl rfl rfl rfl rfl rfl rfl rfl
theorem s199_619 : ni_T d 199 619 [a0, a1, a2, a3] (.int y :: .int x :: st) z h Q = if x = y then ni_T d 199 1376 [a0, a1, a2, a3] st z h Q else ni_T d 199 622 [a0, a1, a2, a3] st z h Q := ni_T_b rfl rfl
theorem s199_622 : ni_T d 199 622 [a0, a1, a2, a3] st z h Q = ni_T d 199 623 [a0, a1, a2, a3] (.int 0 :: st) z h Q := ni_T_p rfl rfl
theorem s199_623 : ni_T d 199 623 [a0, a1, a2, a3] [.int x] z h Q = (narrow .boolean (.int x) = .int x ∧ Q (some (.int x)) z h) := ni_T_z rfl rfl
theorem s199_624 : ni_T d 199 624 [a0, .ref o, a2, a3] st z h Q = ni_T d 199 625 [a0, .ref o, a2, a3] (.ref o :: st) z h Q := ni_T_p rfl rfl
theorem s199_624N : ni_T d 199 624 [a0, .null, a2, a3] st z h Q = ni_T d 199 625 [a0, .null, a2, a3] (.null :: st) z h Q := ni_T_p rfl rfl
theorem s199_625 : ni_T d 199 625 [.ref o, a1, a2, a3] st z h Q = ni_T d 199 626 [.ref o, a1, a2, a3] (.ref o :: st) z h Q := ni_T_p rfl rfl
theorem s199_626 : ni_T d 199 626 [a0, a1, a2, .int x] st z h Q = ni_T d 199 627 [a0, a1, a2, .int x] (.int x :: st) z h Q := ni_T_p rfl rfl
theorem s199_627 : ni_T d 199 627 [a0, a1, a2, a3] st z h Q = ni_T d 199 628 [a0, a1, a2, a3] (.int 1 :: st) z h Q := ni_T_p rfl rfl
theorem s199_628 : ni_T d 199 628 [a0, a1, a2, a3] (.int y :: .int x :: st) z h Q = ni_T d 199 629 [a0, a1, a2, a3] (.int (x + y) :: st) z h Q := ni_T_p rfl rfl
theorem s199_629 : ni_T d 199 629 [a0, a1, a2, a3] (.int x :: .ref o :: st) z h Q = (ni_okI (h o) x = true ∧ ni_T d 199 630 [a0, a1, a2, a3] (.int (ni_gi (h o) x) :: st) z h Q) := ni_T_iald rfl
theorem s199_630 : ni_T d 199 630 [.ref o, a1, a2, a3] st z h Q = ni_T d 199 631 [.ref o, a1, a2, a3] (.ref o :: st) z h Q := ni_T_p rfl rfl
theorem s199_631 : ni_T d 199 631 [a0, a1, a2, .int x] st z h Q = ni_T d 199 632 [a0, a1, a2, .int x] (.int x :: st) z h Q := ni_T_p rfl rfl
theorem s199_632 : ni_T d 199 632 [a0, a1, a2, a3] st z h Q = ni_T d 199 633 [a0, a1, a2, a3] (.int 2 :: st) z h Q := ni_T_p rfl rfl
theorem s199_633 : ni_T d 199 633 [a0, a1, a2, a3] (.int y :: .int x :: st) z h Q = ni_T d 199 634 [a0, a1, a2, a3] (.int (x + y) :: st) z h Q := ni_T_p rfl rfl
theorem s199_634 : ni_T d 199 634 [a0, a1, a2, a3] (.int x :: .ref o :: st) z h Q = (ni_okI (h o) x = true ∧ ni_T d 199 635 [a0, a1, a2, a3] (.int (ni_gi (h o) x) :: st) z h Q) := ni_T_iald rfl
theorem s199_635 : ni_T (d + 1) 199 635 [a0, a1, a2, a3] (.int x1 :: .int x0 :: .ref o :: st) z h Q = (ni_rc (h o) 6 = true ∧ Nat.ble (ni_sw st) 8 = true ∧ ni_T d 78 0 [.ref o, .int x0, .int x1, .retAddr 0, .retAddr 0, .retAddr 0] [] z h (ni_K (d + 1) 199 638 [a0, a1, a2, a3] st z Q)) := ni_T_ce [.ref o, .int x0, .int x1] rfl rfl rfl rfl rfl rfl rfl rfl rfl
theorem s199_638 : ni_T d 199 638 [a0, a1, .ref o, a3] st z h Q = ni_T d 199 639 [a0, a1, .ref o, a3] (.ref o :: st) z h Q := ni_T_p rfl rfl
theorem s199_638N : ni_T d 199 638 [a0, a1, .null, a3] st z h Q = ni_T d 199 639 [a0, a1, .null, a3] (.null :: st) z h Q := ni_T_p rfl rfl
theorem s199_639 : ni_T d 199 639 [.ref o, a1, a2, a3] st z h Q = ni_T d 199 640 [.ref o, a1, a2, a3] (.ref o :: st) z h Q := ni_T_p rfl rfl
theorem s199_640 : ni_T d 199 640 [a0, a1, a2, .int x] st z h Q = ni_T d 199 641 [a0, a1, a2, .int x] (.int x :: st) z h Q := ni_T_p rfl rfl
theorem s199_641 : ni_T d 199 641 [a0, a1, a2, a3] st z h Q = ni_T d 199 642 [a0, a1, a2, a3] (.int 1 :: st) z h Q := ni_T_p rfl rfl
theorem s199_642 : ni_T d 199 642 [a0, a1, a2, a3] (.int y :: .int x :: st) z h Q = ni_T d 199 643 [a0, a1, a2, a3] (.int (x + y) :: st) z h Q := ni_T_p rfl rfl
theorem s199_643 : ni_T d 199 643 [a0, a1, a2, a3] (.int x :: .ref o :: st) z h Q = (ni_okI (h o) x = true ∧ ni_T d 199 644 [a0, a1, a2, a3] (.int (ni_gi (h o) x) :: st) z h Q) := ni_T_iald rfl
theorem s199_644 : ni_T d 199 644 [.ref o, a1, a2, a3] st z h Q = ni_T d 199 645 [.ref o, a1, a2, a3] (.ref o :: st) z h Q := ni_T_p rfl rfl
theorem s199_645 : ni_T d 199 645 [a0, a1, a2, .int x] st z h Q = ni_T d 199 646 [a0, a1, a2, .int x] (.int x :: st) z h Q := ni_T_p rfl rfl
theorem s199_646 : ni_T d 199 646 [a0, a1, a2, a3] st z h Q = ni_T d 199 647 [a0, a1, a2, a3] (.int 2 :: st) z h Q := ni_T_p rfl rfl
theorem s199_647 : ni_T d 199 647 [a0, a1, a2, a3] (.int y :: .int x :: st) z h Q = ni_T d 199 648 [a0, a1, a2, a3] (.int (x + y) :: st) z h Q := ni_T_p rfl rfl
theorem s199_648 : ni_T d 199 648 [a0, a1, a2, a3] (.int x :: .ref o :: st) z h Q = (ni_okI (h o) x = true ∧ ni_T d 199 649 [a0, a1, a2, a3] (.int (ni_gi (h o) x) :: st) z h Q) := ni_T_iald rfl
theorem s199_649 : ni_T (d + 1) 199 649 [a0, a1, a2, a3] (.int x1 :: .int x0 :: .ref o :: st) z h Q = (ni_rc (h o) 7 = true ∧ Nat.ble (ni_sw st) 8 = true ∧ ni_T d 141 0 [.ref o, .int x0, .int x1, .retAddr 0] [] z h (ni_K (d + 1) 199 652 [a0, a1, a2, a3] st z Q)) := ni_T_ce [.ref o, .int x0, .int x1] rfl rfl rfl rfl rfl rfl rfl rfl rfl
theorem s199_652 : ni_T d 199 652 [a0, a1, a2, a3] (.int y :: .int x :: st) z h Q = if x = y then ni_T d 199 1376 [a0, a1, a2, a3] st z h Q else ni_T d 199 655 [a0, a1, a2, a3] st z h Q := ni_T_b rfl rfl
theorem s199_655 : ni_T d 199 655 [a0, a1, a2, a3] st z h Q = ni_T d 199 656 [a0, a1, a2, a3] (.int 0 :: st) z h Q := ni_T_p rfl rfl
theorem s199_656 : ni_T d 199 656 [a0, a1, a2, a3] [.int x] z h Q = (narrow .boolean (.int x) = .int x ∧ Q (some (.int x)) z h) := ni_T_z rfl rfl
theorem s199_657 : ni_T d 199 657 [a0, .ref o, a2, a3] st z h Q = ni_T d 199 658 [a0, .ref o, a2, a3] (.ref o :: st) z h Q := ni_T_p rfl rfl
theorem s199_657N : ni_T d 199 657 [a0, .null, a2, a3] st z h Q = ni_T d 199 658 [a0, .null, a2, a3] (.null :: st) z h Q := ni_T_p rfl rfl
theorem s199_658 : ni_T d 199 658 [.ref o, a1, a2, a3] st z h Q = ni_T d 199 659 [.ref o, a1, a2, a3] (.ref o :: st) z h Q := ni_T_p rfl rfl
theorem s199_659 : ni_T d 199 659 [a0, a1, a2, .int x] st z h Q = ni_T d 199 660 [a0, a1, a2, .int x] (.int x :: st) z h Q := ni_T_p rfl rfl
theorem s199_660 : ni_T d 199 660 [a0, a1, a2, a3] st z h Q = ni_T d 199 661 [a0, a1, a2, a3] (.int 1 :: st) z h Q := ni_T_p rfl rfl
theorem s199_661 : ni_T d 199 661 [a0, a1, a2, a3] (.int y :: .int x :: st) z h Q = ni_T d 199 662 [a0, a1, a2, a3] (.int (x + y) :: st) z h Q := ni_T_p rfl rfl
theorem s199_662 : ni_T d 199 662 [a0, a1, a2, a3] (.int x :: .ref o :: st) z h Q = (ni_okI (h o) x = true ∧ ni_T d 199 663 [a0, a1, a2, a3] (.int (ni_gi (h o) x) :: st) z h Q) := ni_T_iald rfl
theorem s199_663 : ni_T (d + 1) 199 663 [a0, a1, a2, a3] (.int x0 :: .ref o :: st) z h Q = (ni_rc (h o) 6 = true ∧ Nat.ble (ni_sw st) 8 = true ∧ ni_T d 79 0 [.ref o, .int x0, .retAddr 0] [] z h (ni_K (d + 1) 199 666 [a0, a1, a2, a3] st z Q)) := ni_T_ce [.ref o, .int x0] rfl rfl rfl rfl rfl rfl rfl rfl rfl
theorem s199_666 : ni_T d 199 666 [a0, a1, .ref o, a3] st z h Q = ni_T d 199 667 [a0, a1, .ref o, a3] (.ref o :: st) z h Q := ni_T_p rfl rfl
theorem s199_666N : ni_T d 199 666 [a0, a1, .null, a3] st z h Q = ni_T d 199 667 [a0, a1, .null, a3] (.null :: st) z h Q := ni_T_p rfl rfl
theorem s199_667 : ni_T d 199 667 [.ref o, a1, a2, a3] st z h Q = ni_T d 199 668 [.ref o, a1, a2, a3] (.ref o :: st) z h Q := ni_T_p rfl rfl
theorem s199_668 : ni_T d 199 668 [a0, a1, a2, .int x] st z h Q = ni_T d 199 669 [a0, a1, a2, .int x] (.int x :: st) z h Q := ni_T_p rfl rfl
theorem s199_669 : ni_T d 199 669 [a0, a1, a2, a3] st z h Q = ni_T d 199 670 [a0, a1, a2, a3] (.int 1 :: st) z h Q := ni_T_p rfl rfl
theorem s199_670 : ni_T d 199 670 [a0, a1, a2, a3] (.int y :: .int x :: st) z h Q = ni_T d 199 671 [a0, a1, a2, a3] (.int (x + y) :: st) z h Q := ni_T_p rfl rfl
theorem s199_671 : ni_T d 199 671 [a0, a1, a2, a3] (.int x :: .ref o :: st) z h Q = (ni_okI (h o) x = true ∧ ni_T d 199 672 [a0, a1, a2, a3] (.int (ni_gi (h o) x) :: st) z h Q) := ni_T_iald rfl
theorem s199_672 : ni_T (d + 1) 199 672 [a0, a1, a2, a3] (.int x0 :: .ref o :: st) z h Q = (ni_rc (h o) 7 = true ∧ Nat.ble (ni_sw st) 8 = true ∧ ni_T d 142 0 [.ref o, .int x0, .retAddr 0] [] z h (ni_K (d + 1) 199 675 [a0, a1, a2, a3] st z Q)) := ni_T_ce [.ref o, .int x0] rfl rfl rfl rfl rfl rfl rfl rfl rfl
theorem s199_675 : ni_T d 199 675 [a0, a1, a2, a3] (.int y :: .int x :: st) z h Q = if x = y then ni_T d 199 1376 [a0, a1, a2, a3] st z h Q else ni_T d 199 678 [a0, a1, a2, a3] st z h Q := ni_T_b rfl rfl
theorem s199_678 : ni_T d 199 678 [a0, a1, a2, a3] st z h Q = ni_T d 199 679 [a0, a1, a2, a3] (.int 0 :: st) z h Q := ni_T_p rfl rfl
theorem s199_679 : ni_T d 199 679 [a0, a1, a2, a3] [.int x] z h Q = (narrow .boolean (.int x) = .int x ∧ Q (some (.int x)) z h) := ni_T_z rfl rfl
theorem s199_680 : ni_T d 199 680 [a0, .ref o, a2, a3] st z h Q = ni_T d 199 681 [a0, .ref o, a2, a3] (.ref o :: st) z h Q := ni_T_p rfl rfl
theorem s199_680N : ni_T d 199 680 [a0, .null, a2, a3] st z h Q = ni_T d 199 681 [a0, .null, a2, a3] (.null :: st) z h Q := ni_T_p rfl rfl
theorem s199_681 : ni_T d 199 681 [.ref o, a1, a2, a3] st z h Q = ni_T d 199 682 [.ref o, a1, a2, a3] (.ref o :: st) z h Q := ni_T_p rfl rfl
theorem s199_682 : ni_T d 199 682 [a0, a1, a2, .int x] st z h Q = ni_T d 199 683 [a0, a1, a2, .int x] (.int x :: st) z h Q := ni_T_p rfl rfl
theorem s199_683 : ni_T d 199 683 [a0, a1, a2, a3] st z h Q = ni_T d 199 684 [a0, a1, a2, a3] (.int 1 :: st) z h Q := ni_T_p rfl rfl
theorem s199_684 : ni_T d 199 684 [a0, a1, a2, a3] (.int y :: .int x :: st) z h Q = ni_T d 199 685 [a0, a1, a2, a3] (.int (x + y) :: st) z h Q := ni_T_p rfl rfl
theorem s199_685 : ni_T d 199 685 [a0, a1, a2, a3] (.int x :: .ref o :: st) z h Q = (ni_okI (h o) x = true ∧ ni_T d 199 686 [a0, a1, a2, a3] (.int (ni_gi (h o) x) :: st) z h Q) := ni_T_iald rfl
theorem s199_686 : ni_T (d + 1) 199 686 [a0, a1, a2, a3] (.int x0 :: .ref o :: st) z h Q = (ni_rc (h o) 6 = true ∧ Nat.ble (ni_sw st) 8 = true ∧ ni_T d 80 0 [.ref o, .int x0, .retAddr 0, .retAddr 0, .retAddr 0] [] z h (ni_K (d + 1) 199 689 [a0, a1, a2, a3] st z Q)) := ni_T_ce [.ref o, .int x0] rfl rfl rfl rfl rfl rfl rfl rfl rfl
theorem s199_689 : ni_T d 199 689 [a0, a1, .ref o, a3] st z h Q = ni_T d 199 690 [a0, a1, .ref o, a3] (.ref o :: st) z h Q := ni_T_p rfl rfl
theorem s199_689N : ni_T d 199 689 [a0, a1, .null, a3] st z h Q = ni_T d 199 690 [a0, a1, .null, a3] (.null :: st) z h Q := ni_T_p rfl rfl
theorem s199_690 : ni_T d 199 690 [.ref o, a1, a2, a3] st z h Q = ni_T d 199 691 [.ref o, a1, a2, a3] (.ref o :: st) z h Q := ni_T_p rfl rfl
theorem s199_691 : ni_T d 199 691 [a0, a1, a2, .int x] st z h Q = ni_T d 199 692 [a0, a1, a2, .int x] (.int x :: st) z h Q := ni_T_p rfl rfl
theorem s199_692 : ni_T d 199 692 [a0, a1, a2, a3] st z h Q = ni_T d 199 693 [a0, a1, a2, a3] (.int 1 :: st) z h Q := ni_T_p rfl rfl
theorem s199_693 : ni_T d 199 693 [a0, a1, a2, a3] (.int y :: .int x :: st) z h Q = ni_T d 199 694 [a0, a1, a2, a3] (.int (x + y) :: st) z h Q := ni_T_p rfl rfl
theorem s199_694 : ni_T d 199 694 [a0, a1, a2, a3] (.int x :: .ref o :: st) z h Q = (ni_okI (h o) x = true ∧ ni_T d 199 695 [a0, a1, a2, a3] (.int (ni_gi (h o) x) :: st) z h Q) := ni_T_iald rfl
theorem s199_695 : ni_T (d + 1) 199 695 [a0, a1, a2, a3] (.int x0 :: .ref o :: st) z h Q = (ni_rc (h o) 7 = true ∧ Nat.ble (ni_sw st) 8 = true ∧ ni_T d 154 0 [.ref o, .int x0, .retAddr 0, .retAddr 0, .retAddr 0] [] z h (ni_K (d + 1) 199 698 [a0, a1, a2, a3] st z Q)) := ni_T_ce [.ref o, .int x0] rfl rfl rfl rfl rfl rfl rfl rfl rfl
theorem s199_698 : ni_T d 199 698 [a0, a1, a2, a3] (.int y :: .int x :: st) z h Q = if x = y then ni_T d 199 1376 [a0, a1, a2, a3] st z h Q else ni_T d 199 701 [a0, a1, a2, a3] st z h Q := ni_T_b rfl rfl
theorem s199_701 : ni_T d 199 701 [a0, a1, a2, a3] st z h Q = ni_T d 199 702 [a0, a1, a2, a3] (.int 0 :: st) z h Q := ni_T_p rfl rfl
theorem s199_702 : ni_T d 199 702 [a0, a1, a2, a3] [.int x] z h Q = (narrow .boolean (.int x) = .int x ∧ Q (some (.int x)) z h) := ni_T_z rfl rfl
theorem s199_703 : ni_T d 199 703 [a0, .ref o, a2, a3] st z h Q = ni_T d 199 704 [a0, .ref o, a2, a3] (.ref o :: st) z h Q := ni_T_p rfl rfl
theorem s199_703N : ni_T d 199 703 [a0, .null, a2, a3] st z h Q = ni_T d 199 704 [a0, .null, a2, a3] (.null :: st) z h Q := ni_T_p rfl rfl
theorem s199_704 : ni_T (d + 1) 199 704 [a0, a1, a2, a3] (.ref o :: st) z h Q = (ni_rc (h o) 6 = true ∧ Nat.ble (ni_sw st) 8 = true ∧ ni_T d 81 0 [.ref o] [] z h (ni_K (d + 1) 199 707 [a0, a1, a2, a3] st z Q)) := ni_T_ce [.ref o] rfl rfl rfl rfl rfl rfl rfl rfl rfl
theorem s199_707 : ni_T d 199 707 [a0, a1, .ref o, a3] st z h Q = ni_T d 199 708 [a0, a1, .ref o, a3] (.ref o :: st) z h Q := ni_T_p rfl rfl
theorem s199_707N : ni_T d 199 707 [a0, a1, .null, a3] st z h Q = ni_T d 199 708 [a0, a1, .null, a3] (.null :: st) z h Q := ni_T_p rfl rfl
theorem s199_708 : ni_T (d + 1) 199 708 [a0, a1, a2, a3] (.ref o :: st) z h Q = (ni_rc (h o) 7 = true ∧ Nat.ble (ni_sw st) 8 = true ∧ ni_T d 155 0 [.ref o] [] z h (ni_K (d + 1) 199 711 [a0, a1, a2, a3] st z Q)) := ni_T_ce [.ref o] rfl rfl rfl rfl rfl rfl rfl rfl rfl
theorem s199_711 : ni_T d 199 711 [a0, a1, a2, a3] (.int y :: .int x :: st) z h Q = if x = y then ni_T d 199 1376 [a0, a1, a2, a3] st z h Q else ni_T d 199 714 [a0, a1, a2, a3] st z h Q := ni_T_b rfl rfl
theorem s199_714 : ni_T d 199 714 [a0, a1, a2, a3] st z h Q = ni_T d 199 715 [a0, a1, a2, a3] (.int 0 :: st) z h Q := ni_T_p rfl rfl
theorem s199_715 : ni_T d 199 715 [a0, a1, a2, a3] [.int x] z h Q = (narrow .boolean (.int x) = .int x ∧ Q (some (.int x)) z h) := ni_T_z rfl rfl
theorem s199_716 : ni_T d 199 716 [a0, .ref o, a2, a3] st z h Q = ni_T d 199 717 [a0, .ref o, a2, a3] (.ref o :: st) z h Q := ni_T_p rfl rfl
theorem s199_716N : ni_T d 199 716 [a0, .null, a2, a3] st z h Q = ni_T d 199 717 [a0, .null, a2, a3] (.null :: st) z h Q := ni_T_p rfl rfl
theorem s199_717 : ni_T d 199 717 [.ref o, a1, a2, a3] st z h Q = ni_T d 199 718 [.ref o, a1, a2, a3] (.ref o :: st) z h Q := ni_T_p rfl rfl
theorem s199_718 : ni_T d 199 718 [a0, a1, a2, .int x] st z h Q = ni_T d 199 719 [a0, a1, a2, .int x] (.int x :: st) z h Q := ni_T_p rfl rfl
theorem s199_719 : ni_T d 199 719 [a0, a1, a2, a3] st z h Q = ni_T d 199 720 [a0, a1, a2, a3] (.int 1 :: st) z h Q := ni_T_p rfl rfl
theorem s199_720 : ni_T d 199 720 [a0, a1, a2, a3] (.int y :: .int x :: st) z h Q = ni_T d 199 721 [a0, a1, a2, a3] (.int (x + y) :: st) z h Q := ni_T_p rfl rfl
theorem s199_721 : ni_T d 199 721 [a0, a1, a2, a3] (.int x :: .ref o :: st) z h Q = (ni_okI (h o) x = true ∧ ni_T d 199 722 [a0, a1, a2, a3] (.int (ni_gi (h o) x) :: st) z h Q) := ni_T_iald rfl
theorem s199_722 : ni_T (d + 1) 199 722 [a0, a1, a2, a3] (.int x0 :: .ref o :: st) z h Q = (ni_rc (h o) 6 = true ∧ Nat.ble (ni_sw st) 8 = true ∧ ni_T d 82 0 [.ref o, .int x0] [] z h (ni_K (d + 1) 199 725 [a0, a1, a2, a3] st z Q)) := ni_T_ce [.ref o, .int x0] rfl rfl rfl rfl rfl rfl rfl rfl rfl
theorem s199_725 : ni_T d 199 725 [a0, a1, .ref o, a3] st z h Q = ni_T d 199 726 [a0, a1, .ref o, a3] (.ref o :: st) z h Q := ni_T_p rfl rfl
theorem s199_725N : ni_T d 199 725 [a0, a1, .null, a3] st z h Q = ni_T d 199 726 [a0, a1, .null, a3] (.null :: st) z h Q := ni_T_p rfl rfl
theorem s199_726 : ni_T d 199 726 [.ref o, a1, a2, a3] st z h Q = ni_T d 199 727 [.ref o, a1, a2, a3] (.ref o :: st) z h Q := ni_T_p rfl rfl
theorem s199_727 : ni_T d 199 727 [a0, a1, a2, .int x] st z h Q = ni_T d 199 728 [a0, a1, a2, .int x] (.int x :: st) z h Q := ni_T_p rfl rfl
theorem s199_728 : ni_T d 199 728 [a0, a1, a2, a3] st z h Q = ni_T d 199 729 [a0, a1, a2, a3] (.int 1 :: st) z h Q := ni_T_p rfl rfl
theorem s199_729 : ni_T d 199 729 [a0, a1, a2, a3] (.int y :: .int x :: st) z h Q = ni_T d 199 730 [a0, a1, a2, a3] (.int (x + y) :: st) z h Q := ni_T_p rfl rfl
theorem s199_730 : ni_T d 199 730 [a0, a1, a2, a3] (.int x :: .ref o :: st) z h Q = (ni_okI (h o) x = true ∧ ni_T d 199 731 [a0, a1, a2, a3] (.int (ni_gi (h o) x) :: st) z h Q) := ni_T_iald rfl
theorem s199_731 : ni_T (d + 1) 199 731 [a0, a1, a2, a3] (.int x0 :: .ref o :: st) z h Q = (ni_rc (h o) 7 = true ∧ Nat.ble (ni_sw st) 8 = true ∧ ni_T d 159 0 [.ref o, .int x0] [] z h (ni_K (d + 1) 199 734 [a0, a1, a2, a3] st z Q)) := ni_T_ce [.ref o, .int x0] rfl rfl rfl rfl rfl rfl rfl rfl rfl
theorem s199_734 : ni_T d 199 734 [a0, a1, a2, a3] (.int y :: .int x :: st) z h Q = if x = y then ni_T d 199 1376 [a0, a1, a2, a3] st z h Q else ni_T d 199 737 [a0, a1, a2, a3] st z h Q := ni_T_b rfl rfl
theorem s199_737 : ni_T d 199 737 [a0, a1, a2, a3] st z h Q = ni_T d 199 738 [a0, a1, a2, a3] (.int 0 :: st) z h Q := ni_T_p rfl rfl
theorem s199_738 : ni_T d 199 738 [a0, a1, a2, a3] [.int x] z h Q = (narrow .boolean (.int x) = .int x ∧ Q (some (.int x)) z h) := ni_T_z rfl rfl
theorem s199_739 : ni_T d 199 739 [a0, .ref o, a2, a3] st z h Q = ni_T d 199 740 [a0, .ref o, a2, a3] (.ref o :: st) z h Q := ni_T_p rfl rfl
theorem s199_739N : ni_T d 199 739 [a0, .null, a2, a3] st z h Q = ni_T d 199 740 [a0, .null, a2, a3] (.null :: st) z h Q := ni_T_p rfl rfl
theorem s199_740 : ni_T d 199 740 [.ref o, a1, a2, a3] st z h Q = ni_T d 199 741 [.ref o, a1, a2, a3] (.ref o :: st) z h Q := ni_T_p rfl rfl
theorem s199_741 : ni_T d 199 741 [a0, a1, a2, .int x] st z h Q = ni_T d 199 742 [a0, a1, a2, .int x] (.int x :: st) z h Q := ni_T_p rfl rfl
theorem s199_742 : ni_T d 199 742 [a0, a1, a2, a3] st z h Q = ni_T d 199 743 [a0, a1, a2, a3] (.int 1 :: st) z h Q := ni_T_p rfl rfl
theorem s199_743 : ni_T d 199 743 [a0, a1, a2, a3] (.int y :: .int x :: st) z h Q = ni_T d 199 744 [a0, a1, a2, a3] (.int (x + y) :: st) z h Q := ni_T_p rfl rfl
theorem s199_744 : ni_T d 199 744 [a0, a1, a2, a3] (.int x :: .ref o :: st) z h Q = (ni_okI (h o) x = true ∧ ni_T d 199 745 [a0, a1, a2, a3] (.int (ni_gi (h o) x) :: st) z h Q) := ni_T_iald rfl
theorem s199_745 : ni_T d 199 745 [.ref o, a1, a2, a3] st z h Q = ni_T d 199 746 [.ref o, a1, a2, a3] (.ref o :: st) z h Q := ni_T_p rfl rfl
theorem s199_746 : ni_T d 199 746 [a0, a1, a2, .int x] st z h Q = ni_T d 199 747 [a0, a1, a2, .int x] (.int x :: st) z h Q := ni_T_p rfl rfl
theorem s199_747 : ni_T d 199 747 [a0, a1, a2, a3] st z h Q = ni_T d 199 748 [a0, a1, a2, a3] (.int 2 :: st) z h Q := ni_T_p rfl rfl
theorem s199_748 : ni_T d 199 748 [a0, a1, a2, a3] (.int y :: .int x :: st) z h Q = ni_T d 199 749 [a0, a1, a2, a3] (.int (x + y) :: st) z h Q := ni_T_p rfl rfl
theorem s199_749 : ni_T d 199 749 [a0, a1, a2, a3] (.int x :: .ref o :: st) z h Q = (ni_okI (h o) x = true ∧ ni_T d 199 750 [a0, a1, a2, a3] (.int (ni_gi (h o) x) :: st) z h Q) := ni_T_iald rfl
theorem s199_750 : ni_T d 199 750 [.ref o, a1, a2, a3] st z h Q = ni_T d 199 751 [.ref o, a1, a2, a3] (.ref o :: st) z h Q := ni_T_p rfl rfl
theorem s199_751 : ni_T d 199 751 [a0, a1, a2, .int x] st z h Q = ni_T d 199 752 [a0, a1, a2, .int x] (.int x :: st) z h Q := ni_T_p rfl rfl
theorem s199_752 : ni_T d 199 752 [a0, a1, a2, a3] st z h Q = ni_T d 199 753 [a0, a1, a2, a3] (.int 3 :: st) z h Q := ni_T_p rfl rfl
theorem s199_753 : ni_T d 199 753 [a0, a1, a2, a3] (.int y :: .int x :: st) z h Q = ni_T d 199 754 [a0, a1, a2, a3] (.int (x + y) :: st) z h Q := ni_T_p rfl rfl
theorem s199_754 : ni_T d 199 754 [a0, a1, a2, a3] (.int x :: .ref o :: st) z h Q = (ni_okI (h o) x = true ∧ ni_T d 199 755 [a0, a1, a2, a3] (.int (ni_gi (h o) x) :: st) z h Q) := ni_T_iald rfl
theorem s199_755 : ni_T (d + 1) 199 755 [a0, a1, a2, a3] (.int x2 :: .int x1 :: .int x0 :: .ref o :: st) z h Q = (ni_rc (h o) 6 = true ∧ Nat.ble (ni_sw st) 8 = true ∧ ni_T d 83 0 [.ref o, .int x0, .int x1, .int x2, .retAddr 0] [] z h (ni_K (d + 1) 199 758 [a0, a1, a2, a3] st z Q)) := ni_T_ce [.ref o, .int x0, .int x1, .int x2] rfl rfl rfl rfl rfl rfl rfl rfl rfl
theorem s199_758 : ni_T d 199 758 [a0, a1, .ref o, a3] st z h Q = ni_T d 199 759 [a0, a1, .ref o, a3] (.ref o :: st) z h Q := ni_T_p rfl rfl
theorem s199_758N : ni_T d 199 758 [a0, a1, .null, a3] st z h Q = ni_T d 199 759 [a0, a1, .null, a3] (.null :: st) z h Q := ni_T_p rfl rfl
theorem s199_759 : ni_T d 199 759 [.ref o, a1, a2, a3] st z h Q = ni_T d 199 760 [.ref o, a1, a2, a3] (.ref o :: st) z h Q := ni_T_p rfl rfl
theorem s199_760 : ni_T d 199 760 [a0, a1, a2, .int x] st z h Q = ni_T d 199 761 [a0, a1, a2, .int x] (.int x :: st) z h Q := ni_T_p rfl rfl
theorem s199_761 : ni_T d 199 761 [a0, a1, a2, a3] st z h Q = ni_T d 199 762 [a0, a1, a2, a3] (.int 1 :: st) z h Q := ni_T_p rfl rfl
theorem s199_762 : ni_T d 199 762 [a0, a1, a2, a3] (.int y :: .int x :: st) z h Q = ni_T d 199 763 [a0, a1, a2, a3] (.int (x + y) :: st) z h Q := ni_T_p rfl rfl
theorem s199_763 : ni_T d 199 763 [a0, a1, a2, a3] (.int x :: .ref o :: st) z h Q = (ni_okI (h o) x = true ∧ ni_T d 199 764 [a0, a1, a2, a3] (.int (ni_gi (h o) x) :: st) z h Q) := ni_T_iald rfl
theorem s199_764 : ni_T d 199 764 [.ref o, a1, a2, a3] st z h Q = ni_T d 199 765 [.ref o, a1, a2, a3] (.ref o :: st) z h Q := ni_T_p rfl rfl
theorem s199_765 : ni_T d 199 765 [a0, a1, a2, .int x] st z h Q = ni_T d 199 766 [a0, a1, a2, .int x] (.int x :: st) z h Q := ni_T_p rfl rfl
theorem s199_766 : ni_T d 199 766 [a0, a1, a2, a3] st z h Q = ni_T d 199 767 [a0, a1, a2, a3] (.int 2 :: st) z h Q := ni_T_p rfl rfl
theorem s199_767 : ni_T d 199 767 [a0, a1, a2, a3] (.int y :: .int x :: st) z h Q = ni_T d 199 768 [a0, a1, a2, a3] (.int (x + y) :: st) z h Q := ni_T_p rfl rfl
theorem s199_768 : ni_T d 199 768 [a0, a1, a2, a3] (.int x :: .ref o :: st) z h Q = (ni_okI (h o) x = true ∧ ni_T d 199 769 [a0, a1, a2, a3] (.int (ni_gi (h o) x) :: st) z h Q) := ni_T_iald rfl
theorem s199_769 : ni_T d 199 769 [.ref o, a1, a2, a3] st z h Q = ni_T d 199 770 [.ref o, a1, a2, a3] (.ref o :: st) z h Q := ni_T_p rfl rfl
theorem s199_770 : ni_T d 199 770 [a0, a1, a2, .int x] st z h Q = ni_T d 199 771 [a0, a1, a2, .int x] (.int x :: st) z h Q := ni_T_p rfl rfl
theorem s199_771 : ni_T d 199 771 [a0, a1, a2, a3] st z h Q = ni_T d 199 772 [a0, a1, a2, a3] (.int 3 :: st) z h Q := ni_T_p rfl rfl
theorem s199_772 : ni_T d 199 772 [a0, a1, a2, a3] (.int y :: .int x :: st) z h Q = ni_T d 199 773 [a0, a1, a2, a3] (.int (x + y) :: st) z h Q := ni_T_p rfl rfl
theorem s199_773 : ni_T d 199 773 [a0, a1, a2, a3] (.int x :: .ref o :: st) z h Q = (ni_okI (h o) x = true ∧ ni_T d 199 774 [a0, a1, a2, a3] (.int (ni_gi (h o) x) :: st) z h Q) := ni_T_iald rfl
theorem s199_774 : ni_T (d + 1) 199 774 [a0, a1, a2, a3] (.int x2 :: .int x1 :: .int x0 :: .ref o :: st) z h Q = (ni_rc (h o) 7 = true ∧ Nat.ble (ni_sw st) 8 = true ∧ ni_T d 164 0 [.ref o, .int x0, .int x1, .int x2] [] z h (ni_K (d + 1) 199 777 [a0, a1, a2, a3] st z Q)) := ni_T_ce [.ref o, .int x0, .int x1, .int x2] rfl rfl rfl rfl rfl rfl rfl rfl rfl
theorem s199_777 : ni_T d 199 777 [a0, a1, a2, a3] (.int y :: .int x :: st) z h Q = if x = y then ni_T d 199 1376 [a0, a1, a2, a3] st z h Q else ni_T d 199 780 [a0, a1, a2, a3] st z h Q := ni_T_b rfl rfl
theorem s199_780 : ni_T d 199 780 [a0, a1, a2, a3] st z h Q = ni_T d 199 781 [a0, a1, a2, a3] (.int 0 :: st) z h Q := ni_T_p rfl rfl
theorem s199_781 : ni_T d 199 781 [a0, a1, a2, a3] [.int x] z h Q = (narrow .boolean (.int x) = .int x ∧ Q (some (.int x)) z h) := ni_T_z rfl rfl
theorem s199_782 : ni_T d 199 782 [a0, .ref o, a2, a3] st z h Q = ni_T d 199 783 [a0, .ref o, a2, a3] (.ref o :: st) z h Q := ni_T_p rfl rfl
theorem s199_782N : ni_T d 199 782 [a0, .null, a2, a3] st z h Q = ni_T d 199 783 [a0, .null, a2, a3] (.null :: st) z h Q := ni_T_p rfl rfl
theorem s199_783 : ni_T d 199 783 [.ref o, a1, a2, a3] st z h Q = ni_T d 199 784 [.ref o, a1, a2, a3] (.ref o :: st) z h Q := ni_T_p rfl rfl
theorem s199_784 : ni_T d 199 784 [a0, a1, a2, .int x] st z h Q = ni_T d 199 785 [a0, a1, a2, .int x] (.int x :: st) z h Q := ni_T_p rfl rfl
theorem s199_785 : ni_T d 199 785 [a0, a1, a2, a3] st z h Q = ni_T d 199 786 [a0, a1, a2, a3] (.int 1 :: st) z h Q := ni_T_p rfl rfl
theorem s199_786 : ni_T d 199 786 [a0, a1, a2, a3] (.int y :: .int x :: st) z h Q = ni_T d 199 787 [a0, a1, a2, a3] (.int (x + y) :: st) z h Q := ni_T_p rfl rfl
theorem s199_787 : ni_T d 199 787 [a0, a1, a2, a3] (.int x :: .ref o :: st) z h Q = (ni_okI (h o) x = true ∧ ni_T d 199 788 [a0, a1, a2, a3] (.int (ni_gi (h o) x) :: st) z h Q) := ni_T_iald rfl
theorem s199_788 : ni_T d 199 788 [.ref o, a1, a2, a3] st z h Q = ni_T d 199 789 [.ref o, a1, a2, a3] (.ref o :: st) z h Q := ni_T_p rfl rfl
theorem s199_789 : ni_T d 199 789 [a0, a1, a2, .int x] st z h Q = ni_T d 199 790 [a0, a1, a2, .int x] (.int x :: st) z h Q := ni_T_p rfl rfl
theorem s199_790 : ni_T d 199 790 [a0, a1, a2, a3] st z h Q = ni_T d 199 791 [a0, a1, a2, a3] (.int 2 :: st) z h Q := ni_T_p rfl rfl
theorem s199_791 : ni_T d 199 791 [a0, a1, a2, a3] (.int y :: .int x :: st) z h Q = ni_T d 199 792 [a0, a1, a2, a3] (.int (x + y) :: st) z h Q := ni_T_p rfl rfl
theorem s199_792 : ni_T d 199 792 [a0, a1, a2, a3] (.int x :: .ref o :: st) z h Q = (ni_okI (h o) x = true ∧ ni_T d 199 793 [a0, a1, a2, a3] (.int (ni_gi (h o) x) :: st) z h Q) := ni_T_iald rfl
theorem s199_793 : ni_T d 199 793 [.ref o, a1, a2, a3] st z h Q = ni_T d 199 794 [.ref o, a1, a2, a3] (.ref o :: st) z h Q := ni_T_p rfl rfl
theorem s199_794 : ni_T d 199 794 [a0, a1, a2, .int x] st z h Q = ni_T d 199 795 [a0, a1, a2, .int x] (.int x :: st) z h Q := ni_T_p rfl rfl
theorem s199_795 : ni_T d 199 795 [a0, a1, a2, a3] st z h Q = ni_T d 199 796 [a0, a1, a2, a3] (.int 3 :: st) z h Q := ni_T_p rfl rfl
theorem s199_796 : ni_T d 199 796 [a0, a1, a2, a3] (.int y :: .int x :: st) z h Q = ni_T d 199 797 [a0, a1, a2, a3] (.int (x + y) :: st) z h Q := ni_T_p rfl rfl
theorem s199_797 : ni_T d 199 797 [a0, a1, a2, a3] (.int x :: .ref o :: st) z h Q = (ni_okI (h o) x = true ∧ ni_T d 199 798 [a0, a1, a2, a3] (.int (ni_gi (h o) x) :: st) z h Q) := ni_T_iald rfl
theorem s199_798 : ni_T (d + 1) 199 798 [a0, a1, a2, a3] (.int x2 :: .int x1 :: .int x0 :: .ref o :: st) z h Q = (ni_rc (h o) 6 = true ∧ Nat.ble (ni_sw st) 8 = true ∧ ni_T d 84 0 [.ref o, .int x0, .int x1, .int x2, .retAddr 0] [] z h (ni_K (d + 1) 199 801 [a0, a1, a2, a3] st z Q)) := ni_T_ce [.ref o, .int x0, .int x1, .int x2] rfl rfl rfl rfl rfl rfl rfl rfl rfl
theorem s199_801 : ni_T d 199 801 [a0, a1, .ref o, a3] st z h Q = ni_T d 199 802 [a0, a1, .ref o, a3] (.ref o :: st) z h Q := ni_T_p rfl rfl
theorem s199_801N : ni_T d 199 801 [a0, a1, .null, a3] st z h Q = ni_T d 199 802 [a0, a1, .null, a3] (.null :: st) z h Q := ni_T_p rfl rfl
theorem s199_802 : ni_T d 199 802 [.ref o, a1, a2, a3] st z h Q = ni_T d 199 803 [.ref o, a1, a2, a3] (.ref o :: st) z h Q := ni_T_p rfl rfl
theorem s199_803 : ni_T d 199 803 [a0, a1, a2, .int x] st z h Q = ni_T d 199 804 [a0, a1, a2, .int x] (.int x :: st) z h Q := ni_T_p rfl rfl
theorem s199_804 : ni_T d 199 804 [a0, a1, a2, a3] st z h Q = ni_T d 199 805 [a0, a1, a2, a3] (.int 1 :: st) z h Q := ni_T_p rfl rfl
theorem s199_805 : ni_T d 199 805 [a0, a1, a2, a3] (.int y :: .int x :: st) z h Q = ni_T d 199 806 [a0, a1, a2, a3] (.int (x + y) :: st) z h Q := ni_T_p rfl rfl
theorem s199_806 : ni_T d 199 806 [a0, a1, a2, a3] (.int x :: .ref o :: st) z h Q = (ni_okI (h o) x = true ∧ ni_T d 199 807 [a0, a1, a2, a3] (.int (ni_gi (h o) x) :: st) z h Q) := ni_T_iald rfl
theorem s199_807 : ni_T d 199 807 [.ref o, a1, a2, a3] st z h Q = ni_T d 199 808 [.ref o, a1, a2, a3] (.ref o :: st) z h Q := ni_T_p rfl rfl
theorem s199_808 : ni_T d 199 808 [a0, a1, a2, .int x] st z h Q = ni_T d 199 809 [a0, a1, a2, .int x] (.int x :: st) z h Q := ni_T_p rfl rfl
theorem s199_809 : ni_T d 199 809 [a0, a1, a2, a3] st z h Q = ni_T d 199 810 [a0, a1, a2, a3] (.int 2 :: st) z h Q := ni_T_p rfl rfl
theorem s199_810 : ni_T d 199 810 [a0, a1, a2, a3] (.int y :: .int x :: st) z h Q = ni_T d 199 811 [a0, a1, a2, a3] (.int (x + y) :: st) z h Q := ni_T_p rfl rfl
theorem s199_811 : ni_T d 199 811 [a0, a1, a2, a3] (.int x :: .ref o :: st) z h Q = (ni_okI (h o) x = true ∧ ni_T d 199 812 [a0, a1, a2, a3] (.int (ni_gi (h o) x) :: st) z h Q) := ni_T_iald rfl
theorem s199_812 : ni_T d 199 812 [.ref o, a1, a2, a3] st z h Q = ni_T d 199 813 [.ref o, a1, a2, a3] (.ref o :: st) z h Q := ni_T_p rfl rfl
theorem s199_813 : ni_T d 199 813 [a0, a1, a2, .int x] st z h Q = ni_T d 199 814 [a0, a1, a2, .int x] (.int x :: st) z h Q := ni_T_p rfl rfl
theorem s199_814 : ni_T d 199 814 [a0, a1, a2, a3] st z h Q = ni_T d 199 815 [a0, a1, a2, a3] (.int 3 :: st) z h Q := ni_T_p rfl rfl
theorem s199_815 : ni_T d 199 815 [a0, a1, a2, a3] (.int y :: .int x :: st) z h Q = ni_T d 199 816 [a0, a1, a2, a3] (.int (x + y) :: st) z h Q := ni_T_p rfl rfl
theorem s199_816 : ni_T d 199 816 [a0, a1, a2, a3] (.int x :: .ref o :: st) z h Q = (ni_okI (h o) x = true ∧ ni_T d 199 817 [a0, a1, a2, a3] (.int (ni_gi (h o) x) :: st) z h Q) := ni_T_iald rfl
theorem s199_817 : ni_T (d + 1) 199 817 [a0, a1, a2, a3] (.int x2 :: .int x1 :: .int x0 :: .ref o :: st) z h Q = (ni_rc (h o) 7 = true ∧ Nat.ble (ni_sw st) 8 = true ∧ ni_T d 166 0 [.ref o, .int x0, .int x1, .int x2, .retAddr 0] [] z h (ni_K (d + 1) 199 820 [a0, a1, a2, a3] st z Q)) := ni_T_ce [.ref o, .int x0, .int x1, .int x2] rfl rfl rfl rfl rfl rfl rfl rfl rfl
theorem s199_820 : ni_T d 199 820 [a0, a1, a2, a3] (.int y :: .int x :: st) z h Q = if x = y then ni_T d 199 1376 [a0, a1, a2, a3] st z h Q else ni_T d 199 823 [a0, a1, a2, a3] st z h Q := ni_T_b rfl rfl
theorem s199_823 : ni_T d 199 823 [a0, a1, a2, a3] st z h Q = ni_T d 199 824 [a0, a1, a2, a3] (.int 0 :: st) z h Q := ni_T_p rfl rfl
theorem s199_824 : ni_T d 199 824 [a0, a1, a2, a3] [.int x] z h Q = (narrow .boolean (.int x) = .int x ∧ Q (some (.int x)) z h) := ni_T_z rfl rfl
theorem s199_825 : ni_T d 199 825 [a0, .ref o, a2, a3] st z h Q = ni_T d 199 826 [a0, .ref o, a2, a3] (.ref o :: st) z h Q := ni_T_p rfl rfl
theorem s199_825N : ni_T d 199 825 [a0, .null, a2, a3] st z h Q = ni_T d 199 826 [a0, .null, a2, a3] (.null :: st) z h Q := ni_T_p rfl rfl
theorem s199_826 : ni_T d 199 826 [.ref o, a1, a2, a3] st z h Q = ni_T d 199 827 [.ref o, a1, a2, a3] (.ref o :: st) z h Q := ni_T_p rfl rfl
theorem s199_827 : ni_T d 199 827 [a0, a1, a2, .int x] st z h Q = ni_T d 199 828 [a0, a1, a2, .int x] (.int x :: st) z h Q := ni_T_p rfl rfl
theorem s199_828 : ni_T d 199 828 [a0, a1, a2, a3] st z h Q = ni_T d 199 829 [a0, a1, a2, a3] (.int 1 :: st) z h Q := ni_T_p rfl rfl
theorem s199_829 : ni_T d 199 829 [a0, a1, a2, a3] (.int y :: .int x :: st) z h Q = ni_T d 199 830 [a0, a1, a2, a3] (.int (x + y) :: st) z h Q := ni_T_p rfl rfl
theorem s199_830 : ni_T d 199 830 [a0, a1, a2, a3] (.int x :: .ref o :: st) z h Q = (ni_okI (h o) x = true ∧ ni_T d 199 831 [a0, a1, a2, a3] (.int (ni_gi (h o) x) :: st) z h Q) := ni_T_iald rfl
theorem s199_831 : ni_T d 199 831 [.ref o, a1, a2, a3] st z h Q = ni_T d 199 832 [.ref o, a1, a2, a3] (.ref o :: st) z h Q := ni_T_p rfl rfl
theorem s199_832 : ni_T d 199 832 [a0, a1, a2, .int x] st z h Q = ni_T d 199 833 [a0, a1, a2, .int x] (.int x :: st) z h Q := ni_T_p rfl rfl
theorem s199_833 : ni_T d 199 833 [a0, a1, a2, a3] st z h Q = ni_T d 199 834 [a0, a1, a2, a3] (.int 2 :: st) z h Q := ni_T_p rfl rfl
theorem s199_834 : ni_T d 199 834 [a0, a1, a2, a3] (.int y :: .int x :: st) z h Q = ni_T d 199 835 [a0, a1, a2, a3] (.int (x + y) :: st) z h Q := ni_T_p rfl rfl
theorem s199_835 : ni_T d 199 835 [a0, a1, a2, a3] (.int x :: .ref o :: st) z h Q = (ni_okI (h o) x = true ∧ ni_T d 199 836 [a0, a1, a2, a3] (.int (ni_gi (h o) x) :: st) z h Q) := ni_T_iald rfl
theorem s199_836 : ni_T (d + 1) 199 836 [a0, a1, a2, a3] (.int x1 :: .int x0 :: .ref o :: st) z h Q = (ni_rc (h o) 6 = true ∧ Nat.ble (ni_sw st) 8 = true ∧ ni_T d 85 0 [.ref o, .int x0, .int x1, .retAddr 0] [] z h (ni_K (d + 1) 199 839 [a0, a1, a2, a3] st z Q)) := ni_T_ce [.ref o, .int x0, .int x1] rfl rfl rfl rfl rfl rfl rfl rfl rfl
theorem s199_839 : ni_T d 199 839 [a0, a1, .ref o, a3] st z h Q = ni_T d 199 840 [a0, a1, .ref o, a3] (.ref o :: st) z h Q := ni_T_p rfl rfl
theorem s199_839N : ni_T d 199 839 [a0, a1, .null, a3] st z h Q = ni_T d 199 840 [a0, a1, .null, a3] (.null :: st) z h Q := ni_T_p rfl rfl
theorem s199_840 : ni_T d 199 840 [.ref o, a1, a2, a3] st z h Q = ni_T d 199 841 [.ref o, a1, a2, a3] (.ref o :: st) z h Q := ni_T_p rfl rfl
theorem s199_841 : ni_T d 199 841 [a0, a1, a2, .int x] st z h Q = ni_T d 199 842 [a0, a1, a2, .int x] (.int x :: st) z h Q := ni_T_p rfl rfl
theorem s199_842 : ni_T d 199 842 [a0, a1, a2, a3] st z h Q = ni_T d 199 843 [a0, a1, a2, a3] (.int 1 :: st) z h Q := ni_T_p rfl rfl
theorem s199_843 : ni_T d 199 843 [a0, a1, a2, a3] (.int y :: .int x :: st) z h Q = ni_T d 199 844 [a0, a1, a2, a3] (.int (x + y) :: st) z h Q := ni_T_p rfl rfl
theorem s199_844 : ni_T d 199 844 [a0, a1, a2, a3] (.int x :: .ref o :: st) z h Q = (ni_okI (h o) x = true ∧ ni_T d 199 845 [a0, a1, a2, a3] (.int (ni_gi (h o) x) :: st) z h Q) := ni_T_iald rfl
theorem s199_845 : ni_T d 199 845 [.ref o, a1, a2, a3] st z h Q = ni_T d 199 846 [.ref o, a1, a2, a3] (.ref o :: st) z h Q := ni_T_p rfl rfl
theorem s199_846 : ni_T d 199 846 [a0, a1, a2, .int x] st z h Q = ni_T d 199 847 [a0, a1, a2, .int x] (.int x :: st) z h Q := ni_T_p rfl rfl
theorem s199_847 : ni_T d 199 847 [a0, a1, a2, a3] st z h Q = ni_T d 199 848 [a0, a1, a2, a3] (.int 2 :: st) z h Q := ni_T_p rfl rfl
theorem s199_848 : ni_T d 199 848 [a0, a1, a2, a3] (.int y :: .int x :: st) z h Q = ni_T d 199 849 [a0, a1, a2, a3] (.int (x + y) :: st) z h Q := ni_T_p rfl rfl
theorem s199_849 : ni_T d 199 849 [a0, a1, a2, a3] (.int x :: .ref o :: st) z h Q = (ni_okI (h o) x = true ∧ ni_T d 199 850 [a0, a1, a2, a3] (.int (ni_gi (h o) x) :: st) z h Q) := ni_T_iald rfl
theorem s199_850 : ni_T (d + 1) 199 850 [a0, a1, a2, a3] (.int x1 :: .int x0 :: .ref o :: st) z h Q = (ni_rc (h o) 7 = true ∧ Nat.ble (ni_sw st) 8 = true ∧ ni_T d 170 0 [.ref o, .int x0, .int x1] [] z h (ni_K (d + 1) 199 853 [a0, a1, a2, a3] st z Q)) := ni_T_ce [.ref o, .int x0, .int x1] rfl rfl rfl rfl rfl rfl rfl rfl rfl
theorem s199_853 : ni_T d 199 853 [a0, a1, a2, a3] (.int y :: .int x :: st) z h Q = if x = y then ni_T d 199 1376 [a0, a1, a2, a3] st z h Q else ni_T d 199 856 [a0, a1, a2, a3] st z h Q := ni_T_b rfl rfl
theorem s199_856 : ni_T d 199 856 [a0, a1, a2, a3] st z h Q = ni_T d 199 857 [a0, a1, a2, a3] (.int 0 :: st) z h Q := ni_T_p rfl rfl
theorem s199_857 : ni_T d 199 857 [a0, a1, a2, a3] [.int x] z h Q = (narrow .boolean (.int x) = .int x ∧ Q (some (.int x)) z h) := ni_T_z rfl rfl
theorem s199_858 : ni_T d 199 858 [a0, .ref o, a2, a3] st z h Q = ni_T d 199 859 [a0, .ref o, a2, a3] (.ref o :: st) z h Q := ni_T_p rfl rfl
theorem s199_858N : ni_T d 199 858 [a0, .null, a2, a3] st z h Q = ni_T d 199 859 [a0, .null, a2, a3] (.null :: st) z h Q := ni_T_p rfl rfl
theorem s199_859 : ni_T d 199 859 [.ref o, a1, a2, a3] st z h Q = ni_T d 199 860 [.ref o, a1, a2, a3] (.ref o :: st) z h Q := ni_T_p rfl rfl
theorem s199_860 : ni_T d 199 860 [a0, a1, a2, .int x] st z h Q = ni_T d 199 861 [a0, a1, a2, .int x] (.int x :: st) z h Q := ni_T_p rfl rfl
theorem s199_861 : ni_T d 199 861 [a0, a1, a2, a3] st z h Q = ni_T d 199 862 [a0, a1, a2, a3] (.int 1 :: st) z h Q := ni_T_p rfl rfl
theorem s199_862 : ni_T d 199 862 [a0, a1, a2, a3] (.int y :: .int x :: st) z h Q = ni_T d 199 863 [a0, a1, a2, a3] (.int (x + y) :: st) z h Q := ni_T_p rfl rfl
theorem s199_863 : ni_T d 199 863 [a0, a1, a2, a3] (.int x :: .ref o :: st) z h Q = (ni_okI (h o) x = true ∧ ni_T d 199 864 [a0, a1, a2, a3] (.int (ni_gi (h o) x) :: st) z h Q) := ni_T_iald rfl
theorem s199_864 : ni_T d 199 864 [.ref o, a1, a2, a3] st z h Q = ni_T d 199 865 [.ref o, a1, a2, a3] (.ref o :: st) z h Q := ni_T_p rfl rfl
theorem s199_865 : ni_T d 199 865 [a0, a1, a2, .int x] st z h Q = ni_T d 199 866 [a0, a1, a2, .int x] (.int x :: st) z h Q := ni_T_p rfl rfl
theorem s199_866 : ni_T d 199 866 [a0, a1, a2, a3] st z h Q = ni_T d 199 867 [a0, a1, a2, a3] (.int 2 :: st) z h Q := ni_T_p rfl rfl
theorem s199_867 : ni_T d 199 867 [a0, a1, a2, a3] (.int y :: .int x :: st) z h Q = ni_T d 199 868 [a0, a1, a2, a3] (.int (x + y) :: st) z h Q := ni_T_p rfl rfl
theorem s199_868 : ni_T d 199 868 [a0, a1, a2, a3] (.int x :: .ref o :: st) z h Q = (ni_okI (h o) x = true ∧ ni_T d 199 869 [a0, a1, a2, a3] (.int (ni_gi (h o) x) :: st) z h Q) := ni_T_iald rfl
theorem s199_869 : ni_T (d + 1) 199 869 [a0, a1, a2, a3] (.int x1 :: .int x0 :: .ref o :: st) z h Q = (ni_rc (h o) 6 = true ∧ Nat.ble (ni_sw st) 8 = true ∧ ni_T d 86 0 [.ref o, .int x0, .int x1, .retAddr 0] [] z h (ni_K (d + 1) 199 872 [a0, a1, a2, a3] st z Q)) := ni_T_ce [.ref o, .int x0, .int x1] rfl rfl rfl rfl rfl rfl rfl rfl rfl
theorem s199_872 : ni_T d 199 872 [a0, a1, .ref o, a3] st z h Q = ni_T d 199 873 [a0, a1, .ref o, a3] (.ref o :: st) z h Q := ni_T_p rfl rfl
theorem s199_872N : ni_T d 199 872 [a0, a1, .null, a3] st z h Q = ni_T d 199 873 [a0, a1, .null, a3] (.null :: st) z h Q := ni_T_p rfl rfl
theorem s199_873 : ni_T d 199 873 [.ref o, a1, a2, a3] st z h Q = ni_T d 199 874 [.ref o, a1, a2, a3] (.ref o :: st) z h Q := ni_T_p rfl rfl
theorem s199_874 : ni_T d 199 874 [a0, a1, a2, .int x] st z h Q = ni_T d 199 875 [a0, a1, a2, .int x] (.int x :: st) z h Q := ni_T_p rfl rfl
theorem s199_875 : ni_T d 199 875 [a0, a1, a2, a3] st z h Q = ni_T d 199 876 [a0, a1, a2, a3] (.int 1 :: st) z h Q := ni_T_p rfl rfl
theorem s199_876 : ni_T d 199 876 [a0, a1, a2, a3] (.int y :: .int x :: st) z h Q = ni_T d 199 877 [a0, a1, a2, a3] (.int (x + y) :: st) z h Q := ni_T_p rfl rfl
theorem s199_877 : ni_T d 199 877 [a0, a1, a2, a3] (.int x :: .ref o :: st) z h Q = (ni_okI (h o) x = true ∧ ni_T d 199 878 [a0, a1, a2, a3] (.int (ni_gi (h o) x) :: st) z h Q) := ni_T_iald rfl
theorem s199_878 : ni_T d 199 878 [.ref o, a1, a2, a3] st z h Q = ni_T d 199 879 [.ref o, a1, a2, a3] (.ref o :: st) z h Q := ni_T_p rfl rfl
theorem s199_879 : ni_T d 199 879 [a0, a1, a2, .int x] st z h Q = ni_T d 199 880 [a0, a1, a2, .int x] (.int x :: st) z h Q := ni_T_p rfl rfl
theorem s199_880 : ni_T d 199 880 [a0, a1, a2, a3] st z h Q = ni_T d 199 881 [a0, a1, a2, a3] (.int 2 :: st) z h Q := ni_T_p rfl rfl
theorem s199_881 : ni_T d 199 881 [a0, a1, a2, a3] (.int y :: .int x :: st) z h Q = ni_T d 199 882 [a0, a1, a2, a3] (.int (x + y) :: st) z h Q := ni_T_p rfl rfl
theorem s199_882 : ni_T d 199 882 [a0, a1, a2, a3] (.int x :: .ref o :: st) z h Q = (ni_okI (h o) x = true ∧ ni_T d 199 883 [a0, a1, a2, a3] (.int (ni_gi (h o) x) :: st) z h Q) := ni_T_iald rfl
theorem s199_883 : ni_T (d + 1) 199 883 [a0, a1, a2, a3] (.int x1 :: .int x0 :: .ref o :: st) z h Q = (ni_rc (h o) 7 = true ∧ Nat.ble (ni_sw st) 8 = true ∧ ni_T d 171 0 [.ref o, .int x0, .int x1] [] z h (ni_K (d + 1) 199 886 [a0, a1, a2, a3] st z Q)) := ni_T_ce [.ref o, .int x0, .int x1] rfl rfl rfl rfl rfl rfl rfl rfl rfl
theorem s199_886 : ni_T d 199 886 [a0, a1, a2, a3] (.int y :: .int x :: st) z h Q = if x = y then ni_T d 199 1376 [a0, a1, a2, a3] st z h Q else ni_T d 199 889 [a0, a1, a2, a3] st z h Q := ni_T_b rfl rfl
theorem s199_889 : ni_T d 199 889 [a0, a1, a2, a3] st z h Q = ni_T d 199 890 [a0, a1, a2, a3] (.int 0 :: st) z h Q := ni_T_p rfl rfl
theorem s199_890 : ni_T d 199 890 [a0, a1, a2, a3] [.int x] z h Q = (narrow .boolean (.int x) = .int x ∧ Q (some (.int x)) z h) := ni_T_z rfl rfl
theorem s199_891 : ni_T d 199 891 [a0, .ref o, a2, a3] st z h Q = ni_T d 199 892 [a0, .ref o, a2, a3] (.ref o :: st) z h Q := ni_T_p rfl rfl
theorem s199_891N : ni_T d 199 891 [a0, .null, a2, a3] st z h Q = ni_T d 199 892 [a0, .null, a2, a3] (.null :: st) z h Q := ni_T_p rfl rfl
theorem s199_892 : ni_T d 199 892 [.ref o, a1, a2, a3] st z h Q = ni_T d 199 893 [.ref o, a1, a2, a3] (.ref o :: st) z h Q := ni_T_p rfl rfl
theorem s199_893 : ni_T d 199 893 [a0, a1, a2, .int x] st z h Q = ni_T d 199 894 [a0, a1, a2, .int x] (.int x :: st) z h Q := ni_T_p rfl rfl
theorem s199_894 : ni_T d 199 894 [a0, a1, a2, a3] st z h Q = ni_T d 199 895 [a0, a1, a2, a3] (.int 1 :: st) z h Q := ni_T_p rfl rfl
theorem s199_895 : ni_T d 199 895 [a0, a1, a2, a3] (.int y :: .int x :: st) z h Q = ni_T d 199 896 [a0, a1, a2, a3] (.int (x + y) :: st) z h Q := ni_T_p rfl rfl
theorem s199_896 : ni_T d 199 896 [a0, a1, a2, a3] (.int x :: .ref o :: st) z h Q = (ni_okI (h o) x = true ∧ ni_T d 199 897 [a0, a1, a2, a3] (.int (ni_gi (h o) x) :: st) z h Q) := ni_T_iald rfl
theorem s199_897 : ni_T (d + 1) 199 897 [a0, a1, a2, a3] (.int x0 :: .ref o :: st) z h Q = (ni_rc (h o) 6 = true ∧ Nat.ble (ni_sw st) 8 = true ∧ ni_T d 87 0 [.ref o, .int x0, .retAddr 0, .retAddr 0, .retAddr 0, .retAddr 0] [] z h (ni_K (d + 1) 199 900 [a0, a1, a2, a3] st z Q)) := ni_T_ce [.ref o, .int x0] rfl rfl rfl rfl rfl rfl rfl rfl rfl
theorem s199_900 : ni_T d 199 900 [a0, a1, .ref o, a3] st z h Q = ni_T d 199 901 [a0, a1, .ref o, a3] (.ref o :: st) z h Q := ni_T_p rfl rfl
theorem s199_900N : ni_T d 199 900 [a0, a1, .null, a3] st z h Q = ni_T d 199 901 [a0, a1, .null, a3] (.null :: st) z h Q := ni_T_p rfl rfl
theorem s199_901 : ni_T d 199 901 [.ref o, a1, a2, a3] st z h Q = ni_T d 199 902 [.ref o, a1, a2, a3] (.ref o :: st) z h Q := ni_T_p rfl rfl
theorem s199_902 : ni_T d 199 902 [a0, a1, a2, .int x] st z h Q = ni_T d 199 903 [a0, a1, a2, .int x] (.int x :: st) z h Q := ni_T_p rfl rfl
theorem s199_903 : ni_T d 199 903 [a0, a1, a2, a3] st z h Q = ni_T d 199 904 [a0, a1, a2, a3] (.int 1 :: st) z h Q := ni_T_p rfl rfl
theorem s199_904 : ni_T d 199 904 [a0, a1, a2, a3] (.int y :: .int x :: st) z h Q = ni_T d 199 905 [a0, a1, a2, a3] (.int (x + y) :: st) z h Q := ni_T_p rfl rfl
theorem s199_905 : ni_T d 199 905 [a0, a1, a2, a3] (.int x :: .ref o :: st) z h Q = (ni_okI (h o) x = true ∧ ni_T d 199 906 [a0, a1, a2, a3] (.int (ni_gi (h o) x) :: st) z h Q) := ni_T_iald rfl
theorem s199_906 : ni_T (d + 1) 199 906 [a0, a1, a2, a3] (.int x0 :: .ref o :: st) z h Q = (ni_rc (h o) 7 = true ∧ Nat.ble (ni_sw st) 8 = true ∧ ni_T d 172 0 [.ref o, .int x0, .retAddr 0, .retAddr 0, .retAddr 0, .retAddr 0] [] z h (ni_K (d + 1) 199 909 [a0, a1, a2, a3] st z Q)) := ni_T_ce [.ref o, .int x0] rfl rfl rfl rfl rfl rfl rfl rfl rfl
theorem s199_909 : ni_T d 199 909 [a0, a1, a2, a3] (.int y :: .int x :: st) z h Q = if x = y then ni_T d 199 1376 [a0, a1, a2, a3] st z h Q else ni_T d 199 912 [a0, a1, a2, a3] st z h Q := ni_T_b rfl rfl
theorem s199_912 : ni_T d 199 912 [a0, a1, a2, a3] st z h Q = ni_T d 199 913 [a0, a1, a2, a3] (.int 0 :: st) z h Q := ni_T_p rfl rfl
theorem s199_913 : ni_T d 199 913 [a0, a1, a2, a3] [.int x] z h Q = (narrow .boolean (.int x) = .int x ∧ Q (some (.int x)) z h) := ni_T_z rfl rfl
theorem s199_914 : ni_T d 199 914 [a0, .ref o, a2, a3] st z h Q = ni_T d 199 915 [a0, .ref o, a2, a3] (.ref o :: st) z h Q := ni_T_p rfl rfl
theorem s199_914N : ni_T d 199 914 [a0, .null, a2, a3] st z h Q = ni_T d 199 915 [a0, .null, a2, a3] (.null :: st) z h Q := ni_T_p rfl rfl
theorem s199_915 : ni_T d 199 915 [.ref o, a1, a2, a3] st z h Q = ni_T d 199 916 [.ref o, a1, a2, a3] (.ref o :: st) z h Q := ni_T_p rfl rfl
theorem s199_916 : ni_T d 199 916 [a0, a1, a2, .int x] st z h Q = ni_T d 199 917 [a0, a1, a2, .int x] (.int x :: st) z h Q := ni_T_p rfl rfl
theorem s199_917 : ni_T d 199 917 [a0, a1, a2, a3] st z h Q = ni_T d 199 918 [a0, a1, a2, a3] (.int 1 :: st) z h Q := ni_T_p rfl rfl
theorem s199_918 : ni_T d 199 918 [a0, a1, a2, a3] (.int y :: .int x :: st) z h Q = ni_T d 199 919 [a0, a1, a2, a3] (.int (x + y) :: st) z h Q := ni_T_p rfl rfl
theorem s199_919 : ni_T d 199 919 [a0, a1, a2, a3] (.int x :: .ref o :: st) z h Q = (ni_okI (h o) x = true ∧ ni_T d 199 920 [a0, a1, a2, a3] (.int (ni_gi (h o) x) :: st) z h Q) := ni_T_iald rfl
theorem s199_920 : ni_T (d + 1) 199 920 [a0, a1, a2, a3] (.int x0 :: .ref o :: st) z h Q = (ni_rc (h o) 6 = true ∧ Nat.ble (ni_sw st) 8 = true ∧ ni_T d 88 0 [.ref o, .int x0, .retAddr 0, .retAddr 0, .retAddr 0] [] z h (ni_K (d + 1) 199 923 [a0, a1, a2, a3] st z Q)) := ni_T_ce [.ref o, .int x0] rfl rfl rfl rfl rfl rfl rfl rfl rfl
theorem s199_923 : ni_T d 199 923 [a0, a1, .ref o, a3] st z h Q = ni_T d 199 924 [a0, a1, .ref o, a3] (.ref o :: st) z h Q := ni_T_p rfl rfl
theorem s199_923N : ni_T d 199 923 [a0, a1, .null, a3] st z h Q = ni_T d 199 924 [a0, a1, .null, a3] (.null :: st) z h Q := ni_T_p rfl rfl
theorem s199_924 : ni_T d 199 924 [.ref o, a1, a2, a3] st z h Q = ni_T d 199 925 [.ref o, a1, a2, a3] (.ref o :: st) z h Q := ni_T_p rfl rfl
theorem s199_925 : ni_T d 199 925 [a0, a1, a2, .int x] st z h Q = ni_T d 199 926 [a0, a1, a2, .int x] (.int x :: st) z h Q := ni_T_p rfl rfl
theorem s199_926 : ni_T d 199 926 [a0, a1, a2, a3] st z h Q = ni_T d 199 927 [a0, a1, a2, a3] (.int 1 :: st) z h Q := ni_T_p rfl rfl
theorem s199_927 : ni_T d 199 927 [a0, a1, a2, a3] (.int y :: .int x :: st) z h Q = ni_T d 199 928 [a0, a1, a2, a3] (.int (x + y) :: st) z h Q := ni_T_p rfl rfl
theorem s199_928 : ni_T d 199 928 [a0, a1, a2, a3] (.int x :: .ref o :: st) z h Q = (ni_okI (h o) x = true ∧ ni_T d 199 929 [a0, a1, a2, a3] (.int (ni_gi (h o) x) :: st) z h Q) := ni_T_iald rfl
theorem s199_929 : ni_T (d + 1) 199 929 [a0, a1, a2, a3] (.int x0 :: .ref o :: st) z h Q = (ni_rc (h o) 7 = true ∧ Nat.ble (ni_sw st) 8 = true ∧ ni_T d 173 0 [.ref o, .int x0, .retAddr 0, .retAddr 0, .retAddr 0, .retAddr 0] [] z h (ni_K (d + 1) 199 932 [a0, a1, a2, a3] st z Q)) := ni_T_ce [.ref o, .int x0] rfl rfl rfl rfl rfl rfl rfl rfl rfl
theorem s199_932 : ni_T d 199 932 [a0, a1, a2, a3] (.int y :: .int x :: st) z h Q = if x = y then ni_T d 199 1376 [a0, a1, a2, a3] st z h Q else ni_T d 199 935 [a0, a1, a2, a3] st z h Q := ni_T_b rfl rfl
theorem s199_935 : ni_T d 199 935 [a0, a1, a2, a3] st z h Q = ni_T d 199 936 [a0, a1, a2, a3] (.int 0 :: st) z h Q := ni_T_p rfl rfl
theorem s199_936 : ni_T d 199 936 [a0, a1, a2, a3] [.int x] z h Q = (narrow .boolean (.int x) = .int x ∧ Q (some (.int x)) z h) := ni_T_z rfl rfl
theorem s199_937 : ni_T d 199 937 [a0, .ref o, a2, a3] st z h Q = ni_T d 199 938 [a0, .ref o, a2, a3] (.ref o :: st) z h Q := ni_T_p rfl rfl
theorem s199_937N : ni_T d 199 937 [a0, .null, a2, a3] st z h Q = ni_T d 199 938 [a0, .null, a2, a3] (.null :: st) z h Q := ni_T_p rfl rfl
theorem s199_938 : ni_T d 199 938 [.ref o, a1, a2, a3] st z h Q = ni_T d 199 939 [.ref o, a1, a2, a3] (.ref o :: st) z h Q := ni_T_p rfl rfl
theorem s199_939 : ni_T d 199 939 [a0, a1, a2, .int x] st z h Q = ni_T d 199 940 [a0, a1, a2, .int x] (.int x :: st) z h Q := ni_T_p rfl rfl
theorem s199_940 : ni_T d 199 940 [a0, a1, a2, a3] st z h Q = ni_T d 199 941 [a0, a1, a2, a3] (.int 1 :: st) z h Q := ni_T_p rfl rfl
theorem s199_941 : ni_T d 199 941 [a0, a1, a2, a3] (.int y :: .int x :: st) z h Q = ni_T d 199 942 [a0, a1, a2, a3] (.int (x + y) :: st) z h Q := ni_T_p rfl rfl
theorem s199_942 : ni_T d 199 942 [a0, a1, a2, a3] (.int x :: .ref o :: st) z h Q = (ni_okI (h o) x = true ∧ ni_T d 199 943 [a0, a1, a2, a3] (.int (ni_gi (h o) x) :: st) z h Q) := ni_T_iald rfl
theorem s199_943 : ni_T (d + 1) 199 943 [a0, a1, a2, a3] (.int x0 :: .ref o :: st) z h Q = (ni_rc (h o) 6 = true ∧ Nat.ble (ni_sw st) 8 = true ∧ ni_T d 89 0 [.ref o, .int x0, .retAddr 0, .retAddr 0, .retAddr 0, .retAddr 0, .retAddr 0] [] z h (ni_K (d + 1) 199 946 [a0, a1, a2, a3] st z Q)) := ni_T_ce [.ref o, .int x0] rfl rfl rfl rfl rfl rfl rfl rfl rfl
theorem s199_946 : ni_T d 199 946 [a0, a1, .ref o, a3] st z h Q = ni_T d 199 947 [a0, a1, .ref o, a3] (.ref o :: st) z h Q := ni_T_p rfl rfl
theorem s199_946N : ni_T d 199 946 [a0, a1, .null, a3] st z h Q = ni_T d 199 947 [a0, a1, .null, a3] (.null :: st) z h Q := ni_T_p rfl rfl
theorem s199_947 : ni_T d 199 947 [.ref o, a1, a2, a3] st z h Q = ni_T d 199 948 [.ref o, a1, a2, a3] (.ref o :: st) z h Q := ni_T_p rfl rfl
theorem s199_948 : ni_T d 199 948 [a0, a1, a2, .int x] st z h Q = ni_T d 199 949 [a0, a1, a2, .int x] (.int x :: st) z h Q := ni_T_p rfl rfl
theorem s199_949 : ni_T d 199 949 [a0, a1, a2, a3] st z h Q = ni_T d 199 950 [a0, a1, a2, a3] (.int 1 :: st) z h Q := ni_T_p rfl rfl
theorem s199_950 : ni_T d 199 950 [a0, a1, a2, a3] (.int y :: .int x :: st) z h Q = ni_T d 199 951 [a0, a1, a2, a3] (.int (x + y) :: st) z h Q := ni_T_p rfl rfl
theorem s199_951 : ni_T d 199 951 [a0, a1, a2, a3] (.int x :: .ref o :: st) z h Q = (ni_okI (h o) x = true ∧ ni_T d 199 952 [a0, a1, a2, a3] (.int (ni_gi (h o) x) :: st) z h Q) := ni_T_iald rfl
theorem s199_952 : ni_T (d + 1) 199 952 [a0, a1, a2, a3] (.int x0 :: .ref o :: st) z h Q = (ni_rc (h o) 7 = true ∧ Nat.ble (ni_sw st) 8 = true ∧ ni_T d 174 0 [.ref o, .int x0, .retAddr 0, .retAddr 0, .retAddr 0, .retAddr 0, .retAddr 0] [] z h (ni_K (d + 1) 199 955 [a0, a1, a2, a3] st z Q)) := ni_T_ce [.ref o, .int x0] rfl rfl rfl rfl rfl rfl rfl rfl rfl
theorem s199_955 : ni_T d 199 955 [a0, a1, a2, a3] (.int y :: .int x :: st) z h Q = if x = y then ni_T d 199 1376 [a0, a1, a2, a3] st z h Q else ni_T d 199 958 [a0, a1, a2, a3] st z h Q := ni_T_b rfl rfl
theorem s199_958 : ni_T d 199 958 [a0, a1, a2, a3] st z h Q = ni_T d 199 959 [a0, a1, a2, a3] (.int 0 :: st) z h Q := ni_T_p rfl rfl
theorem s199_959 : ni_T d 199 959 [a0, a1, a2, a3] [.int x] z h Q = (narrow .boolean (.int x) = .int x ∧ Q (some (.int x)) z h) := ni_T_z rfl rfl
theorem s199_960 : ni_T d 199 960 [a0, .ref o, a2, a3] st z h Q = ni_T d 199 961 [a0, .ref o, a2, a3] (.ref o :: st) z h Q := ni_T_p rfl rfl
theorem s199_960N : ni_T d 199 960 [a0, .null, a2, a3] st z h Q = ni_T d 199 961 [a0, .null, a2, a3] (.null :: st) z h Q := ni_T_p rfl rfl
theorem s199_961 : ni_T d 199 961 [.ref o, a1, a2, a3] st z h Q = ni_T d 199 962 [.ref o, a1, a2, a3] (.ref o :: st) z h Q := ni_T_p rfl rfl
theorem s199_962 : ni_T d 199 962 [a0, a1, a2, .int x] st z h Q = ni_T d 199 963 [a0, a1, a2, .int x] (.int x :: st) z h Q := ni_T_p rfl rfl
theorem s199_963 : ni_T d 199 963 [a0, a1, a2, a3] st z h Q = ni_T d 199 964 [a0, a1, a2, a3] (.int 1 :: st) z h Q := ni_T_p rfl rfl
theorem s199_964 : ni_T d 199 964 [a0, a1, a2, a3] (.int y :: .int x :: st) z h Q = ni_T d 199 965 [a0, a1, a2, a3] (.int (x + y) :: st) z h Q := ni_T_p rfl rfl
theorem s199_965 : ni_T d 199 965 [a0, a1, a2, a3] (.int x :: .ref o :: st) z h Q = (ni_okI (h o) x = true ∧ ni_T d 199 966 [a0, a1, a2, a3] (.int (ni_gi (h o) x) :: st) z h Q) := ni_T_iald rfl
theorem s199_966 : ni_T d 199 966 [.ref o, a1, a2, a3] st z h Q = ni_T d 199 967 [.ref o, a1, a2, a3] (.ref o :: st) z h Q := ni_T_p rfl rfl
theorem s199_967 : ni_T d 199 967 [a0, a1, a2, .int x] st z h Q = ni_T d 199 968 [a0, a1, a2, .int x] (.int x :: st) z h Q := ni_T_p rfl rfl
theorem s199_968 : ni_T d 199 968 [a0, a1, a2, a3] st z h Q = ni_T d 199 969 [a0, a1, a2, a3] (.int 2 :: st) z h Q := ni_T_p rfl rfl
theorem s199_969 : ni_T d 199 969 [a0, a1, a2, a3] (.int y :: .int x :: st) z h Q = ni_T d 199 970 [a0, a1, a2, a3] (.int (x + y) :: st) z h Q := ni_T_p rfl rfl
theorem s199_970 : ni_T d 199 970 [a0, a1, a2, a3] (.int x :: .ref o :: st) z h Q = (ni_okI (h o) x = true ∧ ni_T d 199 971 [a0, a1, a2, a3] (.int (ni_gi (h o) x) :: st) z h Q) := ni_T_iald rfl
theorem s199_971 : ni_T d 199 971 [.ref o, a1, a2, a3] st z h Q = ni_T d 199 972 [.ref o, a1, a2, a3] (.ref o :: st) z h Q := ni_T_p rfl rfl
theorem s199_972 : ni_T d 199 972 [a0, a1, a2, .int x] st z h Q = ni_T d 199 973 [a0, a1, a2, .int x] (.int x :: st) z h Q := ni_T_p rfl rfl
theorem s199_973 : ni_T d 199 973 [a0, a1, a2, a3] st z h Q = ni_T d 199 974 [a0, a1, a2, a3] (.int 3 :: st) z h Q := ni_T_p rfl rfl
theorem s199_974 : ni_T d 199 974 [a0, a1, a2, a3] (.int y :: .int x :: st) z h Q = ni_T d 199 975 [a0, a1, a2, a3] (.int (x + y) :: st) z h Q := ni_T_p rfl rfl
theorem s199_975 : ni_T d 199 975 [a0, a1, a2, a3] (.int x :: .ref o :: st) z h Q = (ni_okI (h o) x = true ∧ ni_T d 199 976 [a0, a1, a2, a3] (.int (ni_gi (h o) x) :: st) z h Q) := ni_T_iald rfl
theorem s199_976 : ni_T (d + 1) 199 976 [a0, a1, a2, a3] (.int x2 :: .int x1 :: .int x0 :: .ref o :: st) z h Q = (ni_rc (h o) 6 = true ∧ Nat.ble (ni_sw st) 8 = true ∧ ni_T d 90 0 [.ref o, .int x0, .int x1, .int x2, .retAddr 0, .retAddr 0, .retAddr 0, .retAddr 0, .retAddr 0, .retAddr 0, .retAddr 0] [] z h (ni_K (d + 1) 199 979 [a0, a1, a2, a3] st z Q)) := ni_T_ce [.ref o, .int x0, .int x1, .int x2] rfl rfl rfl rfl rfl rfl rfl rfl rfl
theorem s199_979 : ni_T d 199 979 [a0, a1, .ref o, a3] st z h Q = ni_T d 199 980 [a0, a1, .ref o, a3] (.ref o :: st) z h Q := ni_T_p rfl rfl
theorem s199_979N : ni_T d 199 979 [a0, a1, .null, a3] st z h Q = ni_T d 199 980 [a0, a1, .null, a3] (.null :: st) z h Q := ni_T_p rfl rfl
theorem s199_980 : ni_T d 199 980 [.ref o, a1, a2, a3] st z h Q = ni_T d 199 981 [.ref o, a1, a2, a3] (.ref o :: st) z h Q := ni_T_p rfl rfl
theorem s199_981 : ni_T d 199 981 [a0, a1, a2, .int x] st z h Q = ni_T d 199 982 [a0, a1, a2, .int x] (.int x :: st) z h Q := ni_T_p rfl rfl
theorem s199_982 : ni_T d 199 982 [a0, a1, a2, a3] st z h Q = ni_T d 199 983 [a0, a1, a2, a3] (.int 1 :: st) z h Q := ni_T_p rfl rfl
theorem s199_983 : ni_T d 199 983 [a0, a1, a2, a3] (.int y :: .int x :: st) z h Q = ni_T d 199 984 [a0, a1, a2, a3] (.int (x + y) :: st) z h Q := ni_T_p rfl rfl
theorem s199_984 : ni_T d 199 984 [a0, a1, a2, a3] (.int x :: .ref o :: st) z h Q = (ni_okI (h o) x = true ∧ ni_T d 199 985 [a0, a1, a2, a3] (.int (ni_gi (h o) x) :: st) z h Q) := ni_T_iald rfl
theorem s199_985 : ni_T d 199 985 [.ref o, a1, a2, a3] st z h Q = ni_T d 199 986 [.ref o, a1, a2, a3] (.ref o :: st) z h Q := ni_T_p rfl rfl
theorem s199_986 : ni_T d 199 986 [a0, a1, a2, .int x] st z h Q = ni_T d 199 987 [a0, a1, a2, .int x] (.int x :: st) z h Q := ni_T_p rfl rfl
theorem s199_987 : ni_T d 199 987 [a0, a1, a2, a3] st z h Q = ni_T d 199 988 [a0, a1, a2, a3] (.int 2 :: st) z h Q := ni_T_p rfl rfl
theorem s199_988 : ni_T d 199 988 [a0, a1, a2, a3] (.int y :: .int x :: st) z h Q = ni_T d 199 989 [a0, a1, a2, a3] (.int (x + y) :: st) z h Q := ni_T_p rfl rfl
theorem s199_989 : ni_T d 199 989 [a0, a1, a2, a3] (.int x :: .ref o :: st) z h Q = (ni_okI (h o) x = true ∧ ni_T d 199 990 [a0, a1, a2, a3] (.int (ni_gi (h o) x) :: st) z h Q) := ni_T_iald rfl
theorem s199_990 : ni_T d 199 990 [.ref o, a1, a2, a3] st z h Q = ni_T d 199 991 [.ref o, a1, a2, a3] (.ref o :: st) z h Q := ni_T_p rfl rfl
theorem s199_991 : ni_T d 199 991 [a0, a1, a2, .int x] st z h Q = ni_T d 199 992 [a0, a1, a2, .int x] (.int x :: st) z h Q := ni_T_p rfl rfl
theorem s199_992 : ni_T d 199 992 [a0, a1, a2, a3] st z h Q = ni_T d 199 993 [a0, a1, a2, a3] (.int 3 :: st) z h Q := ni_T_p rfl rfl
theorem s199_993 : ni_T d 199 993 [a0, a1, a2, a3] (.int y :: .int x :: st) z h Q = ni_T d 199 994 [a0, a1, a2, a3] (.int (x + y) :: st) z h Q := ni_T_p rfl rfl
theorem s199_994 : ni_T d 199 994 [a0, a1, a2, a3] (.int x :: .ref o :: st) z h Q = (ni_okI (h o) x = true ∧ ni_T d 199 995 [a0, a1, a2, a3] (.int (ni_gi (h o) x) :: st) z h Q) := ni_T_iald rfl
theorem s199_995 : ni_T (d + 1) 199 995 [a0, a1, a2, a3] (.int x2 :: .int x1 :: .int x0 :: .ref o :: st) z h Q = (ni_rc (h o) 7 = true ∧ Nat.ble (ni_sw st) 8 = true ∧ ni_T d 176 0 [.ref o, .int x0, .int x1, .int x2, .retAddr 0, .retAddr 0, .retAddr 0, .retAddr 0, .retAddr 0, .retAddr 0] [] z h (ni_K (d + 1) 199 998 [a0, a1, a2, a3] st z Q)) := ni_T_ce [.ref o, .int x0, .int x1, .int x2] rfl rfl rfl rfl rfl rfl rfl rfl rfl
theorem s199_998 : ni_T d 199 998 [a0, a1, a2, a3] (.int y :: .int x :: st) z h Q = if x = y then ni_T d 199 1376 [a0, a1, a2, a3] st z h Q else ni_T d 199 1001 [a0, a1, a2, a3] st z h Q := ni_T_b rfl rfl
theorem s199_1001 : ni_T d 199 1001 [a0, a1, a2, a3] st z h Q = ni_T d 199 1002 [a0, a1, a2, a3] (.int 0 :: st) z h Q := ni_T_p rfl rfl
theorem s199_1002 : ni_T d 199 1002 [a0, a1, a2, a3] [.int x] z h Q = (narrow .boolean (.int x) = .int x ∧ Q (some (.int x)) z h) := ni_T_z rfl rfl
theorem s199_1003 : ni_T d 199 1003 [a0, .ref o, a2, a3] st z h Q = ni_T d 199 1004 [a0, .ref o, a2, a3] (.ref o :: st) z h Q := ni_T_p rfl rfl
theorem s199_1003N : ni_T d 199 1003 [a0, .null, a2, a3] st z h Q = ni_T d 199 1004 [a0, .null, a2, a3] (.null :: st) z h Q := ni_T_p rfl rfl
theorem s199_1004 : ni_T d 199 1004 [.ref o, a1, a2, a3] st z h Q = ni_T d 199 1005 [.ref o, a1, a2, a3] (.ref o :: st) z h Q := ni_T_p rfl rfl
theorem s199_1005 : ni_T d 199 1005 [a0, a1, a2, .int x] st z h Q = ni_T d 199 1006 [a0, a1, a2, .int x] (.int x :: st) z h Q := ni_T_p rfl rfl
theorem s199_1006 : ni_T d 199 1006 [a0, a1, a2, a3] st z h Q = ni_T d 199 1007 [a0, a1, a2, a3] (.int 1 :: st) z h Q := ni_T_p rfl rfl
theorem s199_1007 : ni_T d 199 1007 [a0, a1, a2, a3] (.int y :: .int x :: st) z h Q = ni_T d 199 1008 [a0, a1, a2, a3] (.int (x + y) :: st) z h Q := ni_T_p rfl rfl
theorem s199_1008 : ni_T d 199 1008 [a0, a1, a2, a3] (.int x :: .ref o :: st) z h Q = (ni_okI (h o) x = true ∧ ni_T d 199 1009 [a0, a1, a2, a3] (.int (ni_gi (h o) x) :: st) z h Q) := ni_T_iald rfl
theorem s199_1009 : ni_T d 199 1009 [.ref o, a1, a2, a3] st z h Q = ni_T d 199 1010 [.ref o, a1, a2, a3] (.ref o :: st) z h Q := ni_T_p rfl rfl
theorem s199_1010 : ni_T d 199 1010 [a0, a1, a2, .int x] st z h Q = ni_T d 199 1011 [a0, a1, a2, .int x] (.int x :: st) z h Q := ni_T_p rfl rfl
theorem s199_1011 : ni_T d 199 1011 [a0, a1, a2, a3] st z h Q = ni_T d 199 1012 [a0, a1, a2, a3] (.int 2 :: st) z h Q := ni_T_p rfl rfl
theorem s199_1012 : ni_T d 199 1012 [a0, a1, a2, a3] (.int y :: .int x :: st) z h Q = ni_T d 199 1013 [a0, a1, a2, a3] (.int (x + y) :: st) z h Q := ni_T_p rfl rfl
theorem s199_1013 : ni_T d 199 1013 [a0, a1, a2, a3] (.int x :: .ref o :: st) z h Q = (ni_okI (h o) x = true ∧ ni_T d 199 1014 [a0, a1, a2, a3] (.int (ni_gi (h o) x) :: st) z h Q) := ni_T_iald rfl
theorem s199_1014 : ni_T (d + 1) 199 1014 [a0, a1, a2, a3] (.int x1 :: .int x0 :: .ref o :: st) z h Q = (ni_rc (h o) 6 = true ∧ Nat.ble (ni_sw st) 8 = true ∧ ni_T d 91 0 [.ref o, .int x0, .int x1, .retAddr 0, .retAddr 0, .retAddr 0, .retAddr 0, .retAddr 0] [] z h (ni_K (d + 1) 199 1017 [a0, a1, a2, a3] st z Q)) := ni_T_ce [.ref o, .int x0, .int x1] rfl rfl rfl rfl rfl rfl rfl rfl rfl
theorem s199_1017 : ni_T d 199 1017 [a0, a1, .ref o, a3] st z h Q = ni_T d 199 1018 [a0, a1, .ref o, a3] (.ref o :: st) z h Q := ni_T_p rfl rfl
theorem s199_1017N : ni_T d 199 1017 [a0, a1, .null, a3] st z h Q = ni_T d 199 1018 [a0, a1, .null, a3] (.null :: st) z h Q := ni_T_p rfl rfl
theorem s199_1018 : ni_T d 199 1018 [.ref o, a1, a2, a3] st z h Q = ni_T d 199 1019 [.ref o, a1, a2, a3] (.ref o :: st) z h Q := ni_T_p rfl rfl
theorem s199_1019 : ni_T d 199 1019 [a0, a1, a2, .int x] st z h Q = ni_T d 199 1020 [a0, a1, a2, .int x] (.int x :: st) z h Q := ni_T_p rfl rfl
theorem s199_1020 : ni_T d 199 1020 [a0, a1, a2, a3] st z h Q = ni_T d 199 1021 [a0, a1, a2, a3] (.int 1 :: st) z h Q := ni_T_p rfl rfl
theorem s199_1021 : ni_T d 199 1021 [a0, a1, a2, a3] (.int y :: .int x :: st) z h Q = ni_T d 199 1022 [a0, a1, a2, a3] (.int (x + y) :: st) z h Q := ni_T_p rfl rfl
theorem s199_1022 : ni_T d 199 1022 [a0, a1, a2, a3] (.int x :: .ref o :: st) z h Q = (ni_okI (h o) x = true ∧ ni_T d 199 1023 [a0, a1, a2, a3] (.int (ni_gi (h o) x) :: st) z h Q) := ni_T_iald rfl
theorem s199_1023 : ni_T d 199 1023 [.ref o, a1, a2, a3] st z h Q = ni_T d 199 1024 [.ref o, a1, a2, a3] (.ref o :: st) z h Q := ni_T_p rfl rfl
theorem s199_1024 : ni_T d 199 1024 [a0, a1, a2, .int x] st z h Q = ni_T d 199 1025 [a0, a1, a2, .int x] (.int x :: st) z h Q := ni_T_p rfl rfl
theorem s199_1025 : ni_T d 199 1025 [a0, a1, a2, a3] st z h Q = ni_T d 199 1026 [a0, a1, a2, a3] (.int 2 :: st) z h Q := ni_T_p rfl rfl
theorem s199_1026 : ni_T d 199 1026 [a0, a1, a2, a3] (.int y :: .int x :: st) z h Q = ni_T d 199 1027 [a0, a1, a2, a3] (.int (x + y) :: st) z h Q := ni_T_p rfl rfl
theorem s199_1027 : ni_T d 199 1027 [a0, a1, a2, a3] (.int x :: .ref o :: st) z h Q = (ni_okI (h o) x = true ∧ ni_T d 199 1028 [a0, a1, a2, a3] (.int (ni_gi (h o) x) :: st) z h Q) := ni_T_iald rfl
theorem s199_1028 : ni_T (d + 1) 199 1028 [a0, a1, a2, a3] (.int x1 :: .int x0 :: .ref o :: st) z h Q = (ni_rc (h o) 7 = true ∧ Nat.ble (ni_sw st) 8 = true ∧ ni_T d 177 0 [.ref o, .int x0, .int x1, .retAddr 0, .retAddr 0, .retAddr 0] [] z h (ni_K (d + 1) 199 1031 [a0, a1, a2, a3] st z Q)) := ni_T_ce [.ref o, .int x0, .int x1] rfl rfl rfl rfl rfl rfl rfl rfl rfl
theorem s199_1031 : ni_T d 199 1031 [a0, a1, a2, a3] (.int y :: .int x :: st) z h Q = if x = y then ni_T d 199 1376 [a0, a1, a2, a3] st z h Q else ni_T d 199 1034 [a0, a1, a2, a3] st z h Q := ni_T_b rfl rfl
theorem s199_1034 : ni_T d 199 1034 [a0, a1, a2, a3] st z h Q = ni_T d 199 1035 [a0, a1, a2, a3] (.int 0 :: st) z h Q := ni_T_p rfl rfl
theorem s199_1035 : ni_T d 199 1035 [a0, a1, a2, a3] [.int x] z h Q = (narrow .boolean (.int x) = .int x ∧ Q (some (.int x)) z h) := ni_T_z rfl rfl
theorem s199_1036 : ni_T d 199 1036 [a0, .ref o, a2, a3] st z h Q = ni_T d 199 1037 [a0, .ref o, a2, a3] (.ref o :: st) z h Q := ni_T_p rfl rfl
theorem s199_1036N : ni_T d 199 1036 [a0, .null, a2, a3] st z h Q = ni_T d 199 1037 [a0, .null, a2, a3] (.null :: st) z h Q := ni_T_p rfl rfl
theorem s199_1037 : ni_T (d + 1) 199 1037 [a0, a1, a2, a3] (.ref o :: st) z h Q = (ni_rc (h o) 6 = true ∧ Nat.ble (ni_sw st) 8 = true ∧ ni_T d 92 0 [.ref o, .retAddr 0, .retAddr 0, .retAddr 0, .retAddr 0, .retAddr 0] [] z h (ni_K (d + 1) 199 1040 [a0, a1, a2, a3] st z Q)) := ni_T_ce [.ref o] rfl rfl rfl rfl rfl rfl rfl rfl rfl
theorem s199_1040 : ni_T d 199 1040 [a0, a1, .ref o, a3] st z h Q = ni_T d 199 1041 [a0, a1, .ref o, a3] (.ref o :: st) z h Q := ni_T_p rfl rfl
theorem s199_1040N : ni_T d 199 1040 [a0, a1, .null, a3] st z h Q = ni_T d 199 1041 [a0, a1, .null, a3] (.null :: st) z h Q := ni_T_p rfl rfl
theorem s199_1041 : ni_T (d + 1) 199 1041 [a0, a1, a2, a3] (.ref o :: st) z h Q = (ni_rc (h o) 7 = true ∧ Nat.ble (ni_sw st) 8 = true ∧ ni_T d 178 0 [.ref o, .retAddr 0, .retAddr 0, .retAddr 0, .retAddr 0, .retAddr 0] [] z h (ni_K (d + 1) 199 1044 [a0, a1, a2, a3] st z Q)) := ni_T_ce [.ref o] rfl rfl rfl rfl rfl rfl rfl rfl rfl
theorem s199_1044 : ni_T d 199 1044 [a0, a1, a2, a3] (.long w :: .long u :: st) z h Q = ni_T d 199 1045 [a0, a1, a2, a3] (.int (lg_cmp u w) :: st) z h Q := ni_T_p rfl rfl
theorem s199_1045 : ni_T d 199 1045 [a0, a1, a2, a3] (.int x :: st) z h Q = if x = 0 then ni_T d 199 1376 [a0, a1, a2, a3] st z h Q else ni_T d 199 1048 [a0, a1, a2, a3] st z h Q := ni_T_b rfl rfl
theorem s199_1048 : ni_T d 199 1048 [a0, a1, a2, a3] st z h Q = ni_T d 199 1049 [a0, a1, a2, a3] (.int 0 :: st) z h Q := ni_T_p rfl rfl
theorem s199_1049 : ni_T d 199 1049 [a0, a1, a2, a3] [.int x] z h Q = (narrow .boolean (.int x) = .int x ∧ Q (some (.int x)) z h) := ni_T_z rfl rfl
theorem s199_1050 : ni_T d 199 1050 [a0, .ref o, a2, a3] st z h Q = ni_T d 199 1051 [a0, .ref o, a2, a3] (.ref o :: st) z h Q := ni_T_p rfl rfl
theorem s199_1050N : ni_T d 199 1050 [a0, .null, a2, a3] st z h Q = ni_T d 199 1051 [a0, .null, a2, a3] (.null :: st) z h Q := ni_T_p rfl rfl
theorem s199_1051 : ni_T d 199 1051 [.ref o, a1, a2, a3] st z h Q = ni_T d 199 1052 [.ref o, a1, a2, a3] (.ref o :: st) z h Q := ni_T_p rfl rfl
theorem s199_1052 : ni_T d 199 1052 [a0, a1, a2, .int x] st z h Q = ni_T d 199 1053 [a0, a1, a2, .int x] (.int x :: st) z h Q := ni_T_p rfl rfl
theorem s199_1053 : ni_T d 199 1053 [a0, a1, a2, a3] st z h Q = ni_T d 199 1054 [a0, a1, a2, a3] (.int 1 :: st) z h Q := ni_T_p rfl rfl
theorem s199_1054 : ni_T d 199 1054 [a0, a1, a2, a3] (.int y :: .int x :: st) z h Q = ni_T d 199 1055 [a0, a1, a2, a3] (.int (x + y) :: st) z h Q := ni_T_p rfl rfl
theorem s199_1055 : ni_T d 199 1055 [a0, a1, a2, a3] (.int x :: .ref o :: st) z h Q = (ni_okI (h o) x = true ∧ ni_T d 199 1056 [a0, a1, a2, a3] (.int (ni_gi (h o) x) :: st) z h Q) := ni_T_iald rfl
theorem s199_1056 : ni_T (d + 1) 199 1056 [a0, a1, a2, a3] (.int x0 :: .ref o :: st) z h Q = (ni_rc (h o) 6 = true ∧ Nat.ble (ni_sw st) 8 = true ∧ ni_T d 93 0 [.ref o, .int x0] [] z h (ni_K (d + 1) 199 1059 [a0, a1, a2, a3] st z Q)) := ni_T_ce [.ref o, .int x0] rfl rfl rfl rfl rfl rfl rfl rfl rfl
theorem s199_1059 : ni_T d 199 1059 [a0, a1, .ref o, a3] st z h Q = ni_T d 199 1060 [a0, a1, .ref o, a3] (.ref o :: st) z h Q := ni_T_p rfl rfl
theorem s199_1059N : ni_T d 199 1059 [a0, a1, .null, a3] st z h Q = ni_T d 199 1060 [a0, a1, .null, a3] (.null :: st) z h Q := ni_T_p rfl rfl
theorem s199_1060 : ni_T d 199 1060 [.ref o, a1, a2, a3] st z h Q = ni_T d 199 1061 [.ref o, a1, a2, a3] (.ref o :: st) z h Q := ni_T_p rfl rfl
theorem s199_1061 : ni_T d 199 1061 [a0, a1, a2, .int x] st z h Q = ni_T d 199 1062 [a0, a1, a2, .int x] (.int x :: st) z h Q := ni_T_p rfl rfl
theorem s199_1062 : ni_T d 199 1062 [a0, a1, a2, a3] st z h Q = ni_T d 199 1063 [a0, a1, a2, a3] (.int 1 :: st) z h Q := ni_T_p rfl rfl
theorem s199_1063 : ni_T d 199 1063 [a0, a1, a2, a3] (.int y :: .int x :: st) z h Q = ni_T d 199 1064 [a0, a1, a2, a3] (.int (x + y) :: st) z h Q := ni_T_p rfl rfl
theorem s199_1064 : ni_T d 199 1064 [a0, a1, a2, a3] (.int x :: .ref o :: st) z h Q = (ni_okI (h o) x = true ∧ ni_T d 199 1065 [a0, a1, a2, a3] (.int (ni_gi (h o) x) :: st) z h Q) := ni_T_iald rfl
theorem s199_1065 : ni_T (d + 1) 199 1065 [a0, a1, a2, a3] (.int x0 :: .ref o :: st) z h Q = (ni_rc (h o) 7 = true ∧ Nat.ble (ni_sw st) 8 = true ∧ ni_T d 179 0 [.ref o, .int x0, .retAddr 0, .retAddr 0, .retAddr 0, .retAddr 0, .retAddr 0, .retAddr 0, .retAddr 0, .retAddr 0] [] z h (ni_K (d + 1) 199 1068 [a0, a1, a2, a3] st z Q)) := ni_T_ce [.ref o, .int x0] rfl rfl rfl rfl rfl rfl rfl rfl rfl
theorem s199_1068 : ni_T d 199 1068 [a0, a1, a2, a3] (.int y :: .int x :: st) z h Q = if x = y then ni_T d 199 1376 [a0, a1, a2, a3] st z h Q else ni_T d 199 1071 [a0, a1, a2, a3] st z h Q := ni_T_b rfl rfl
theorem s199_1071 : ni_T d 199 1071 [a0, a1, a2, a3] st z h Q = ni_T d 199 1072 [a0, a1, a2, a3] (.int 0 :: st) z h Q := ni_T_p rfl rfl
theorem s199_1072 : ni_T d 199 1072 [a0, a1, a2, a3] [.int x] z h Q = (narrow .boolean (.int x) = .int x ∧ Q (some (.int x)) z h) := ni_T_z rfl rfl
theorem s199_1073 : ni_T d 199 1073 [a0, .ref o, a2, a3] st z h Q = ni_T d 199 1074 [a0, .ref o, a2, a3] (.ref o :: st) z h Q := ni_T_p rfl rfl
theorem s199_1073N : ni_T d 199 1073 [a0, .null, a2, a3] st z h Q = ni_T d 199 1074 [a0, .null, a2, a3] (.null :: st) z h Q := ni_T_p rfl rfl
theorem s199_1074 : ni_T d 199 1074 [.ref o, a1, a2, a3] st z h Q = ni_T d 199 1075 [.ref o, a1, a2, a3] (.ref o :: st) z h Q := ni_T_p rfl rfl
theorem s199_1075 : ni_T d 199 1075 [a0, a1, a2, .int x] st z h Q = ni_T d 199 1076 [a0, a1, a2, .int x] (.int x :: st) z h Q := ni_T_p rfl rfl
theorem s199_1076 : ni_T d 199 1076 [a0, a1, a2, a3] st z h Q = ni_T d 199 1077 [a0, a1, a2, a3] (.int 1 :: st) z h Q := ni_T_p rfl rfl
theorem s199_1077 : ni_T d 199 1077 [a0, a1, a2, a3] (.int y :: .int x :: st) z h Q = ni_T d 199 1078 [a0, a1, a2, a3] (.int (x + y) :: st) z h Q := ni_T_p rfl rfl
theorem s199_1078 : ni_T d 199 1078 [a0, a1, a2, a3] (.int x :: .ref o :: st) z h Q = (ni_okI (h o) x = true ∧ ni_T d 199 1079 [a0, a1, a2, a3] (.int (ni_gi (h o) x) :: st) z h Q) := ni_T_iald rfl
theorem s199_1079 : ni_T d 199 1079 [.ref o, a1, a2, a3] st z h Q = ni_T d 199 1080 [.ref o, a1, a2, a3] (.ref o :: st) z h Q := ni_T_p rfl rfl
theorem s199_1080 : ni_T d 199 1080 [a0, a1, a2, .int x] st z h Q = ni_T d 199 1081 [a0, a1, a2, .int x] (.int x :: st) z h Q := ni_T_p rfl rfl
theorem s199_1081 : ni_T d 199 1081 [a0, a1, a2, a3] st z h Q = ni_T d 199 1082 [a0, a1, a2, a3] (.int 2 :: st) z h Q := ni_T_p rfl rfl
theorem s199_1082 : ni_T d 199 1082 [a0, a1, a2, a3] (.int y :: .int x :: st) z h Q = ni_T d 199 1083 [a0, a1, a2, a3] (.int (x + y) :: st) z h Q := ni_T_p rfl rfl
theorem s199_1083 : ni_T d 199 1083 [a0, a1, a2, a3] (.int x :: .ref o :: st) z h Q = (ni_okI (h o) x = true ∧ ni_T d 199 1084 [a0, a1, a2, a3] (.int (ni_gi (h o) x) :: st) z h Q) := ni_T_iald rfl
theorem s199_1084 : ni_T d 199 1084 [.ref o, a1, a2, a3] st z h Q = ni_T d 199 1085 [.ref o, a1, a2, a3] (.ref o :: st) z h Q := ni_T_p rfl rfl
theorem s199_1085 : ni_T d 199 1085 [a0, a1, a2, .int x] st z h Q = ni_T d 199 1086 [a0, a1, a2, .int x] (.int x :: st) z h Q := ni_T_p rfl rfl
theorem s199_1086 : ni_T d 199 1086 [a0, a1, a2, a3] st z h Q = ni_T d 199 1087 [a0, a1, a2, a3] (.int 3 :: st) z h Q := ni_T_p rfl rfl
theorem s199_1087 : ni_T d 199 1087 [a0, a1, a2, a3] (.int y :: .int x :: st) z h Q = ni_T d 199 1088 [a0, a1, a2, a3] (.int (x + y) :: st) z h Q := ni_T_p rfl rfl
theorem s199_1088 : ni_T d 199 1088 [a0, a1, a2, a3] (.int x :: .ref o :: st) z h Q = (ni_okI (h o) x = true ∧ ni_T d 199 1089 [a0, a1, a2, a3] (.int (ni_gi (h o) x) :: st) z h Q) := ni_T_iald rfl
theorem s199_1089 : ni_T (d + 1) 199 1089 [a0, a1, a2, a3] (.int x2 :: .int x1 :: .int x0 :: .ref o :: st) z h Q = (ni_rc (h o) 6 = true ∧ Nat.ble (ni_sw st) 8 = true ∧ ni_T d 94 0 [.ref o, .int x0, .int x1, .int x2, .retAddr 0, .retAddr 0, .retAddr 0] [] z h (ni_K (d + 1) 199 1092 [a0, a1, a2, a3] st z Q)) := ni_T_ce [.ref o, .int x0, .int x1, .int x2] rfl rfl rfl rfl rfl rfl rfl rfl rfl
theorem s199_1092 : ni_T d 199 1092 [a0, a1, .ref o, a3] st z h Q = ni_T d 199 1093 [a0, a1, .ref o, a3] (.ref o :: st) z h Q := ni_T_p rfl rfl
theorem s199_1092N : ni_T d 199 1092 [a0, a1, .null, a3] st z h Q = ni_T d 199 1093 [a0, a1, .null, a3] (.null :: st) z h Q := ni_T_p rfl rfl
theorem s199_1093 : ni_T d 199 1093 [.ref o, a1, a2, a3] st z h Q = ni_T d 199 1094 [.ref o, a1, a2, a3] (.ref o :: st) z h Q := ni_T_p rfl rfl
theorem s199_1094 : ni_T d 199 1094 [a0, a1, a2, .int x] st z h Q = ni_T d 199 1095 [a0, a1, a2, .int x] (.int x :: st) z h Q := ni_T_p rfl rfl
theorem s199_1095 : ni_T d 199 1095 [a0, a1, a2, a3] st z h Q = ni_T d 199 1096 [a0, a1, a2, a3] (.int 1 :: st) z h Q := ni_T_p rfl rfl
theorem s199_1096 : ni_T d 199 1096 [a0, a1, a2, a3] (.int y :: .int x :: st) z h Q = ni_T d 199 1097 [a0, a1, a2, a3] (.int (x + y) :: st) z h Q := ni_T_p rfl rfl
theorem s199_1097 : ni_T d 199 1097 [a0, a1, a2, a3] (.int x :: .ref o :: st) z h Q = (ni_okI (h o) x = true ∧ ni_T d 199 1098 [a0, a1, a2, a3] (.int (ni_gi (h o) x) :: st) z h Q) := ni_T_iald rfl
theorem s199_1098 : ni_T d 199 1098 [.ref o, a1, a2, a3] st z h Q = ni_T d 199 1099 [.ref o, a1, a2, a3] (.ref o :: st) z h Q := ni_T_p rfl rfl
theorem s199_1099 : ni_T d 199 1099 [a0, a1, a2, .int x] st z h Q = ni_T d 199 1100 [a0, a1, a2, .int x] (.int x :: st) z h Q := ni_T_p rfl rfl
theorem s199_1100 : ni_T d 199 1100 [a0, a1, a2, a3] st z h Q = ni_T d 199 1101 [a0, a1, a2, a3] (.int 2 :: st) z h Q := ni_T_p rfl rfl
theorem s199_1101 : ni_T d 199 1101 [a0, a1, a2, a3] (.int y :: .int x :: st) z h Q = ni_T d 199 1102 [a0, a1, a2, a3] (.int (x + y) :: st) z h Q := ni_T_p rfl rfl
theorem s199_1102 : ni_T d 199 1102 [a0, a1, a2, a3] (.int x :: .ref o :: st) z h Q = (ni_okI (h o) x = true ∧ ni_T d 199 1103 [a0, a1, a2, a3] (.int (ni_gi (h o) x) :: st) z h Q) := ni_T_iald rfl
theorem s199_1103 : ni_T d 199 1103 [.ref o, a1, a2, a3] st z h Q = ni_T d 199 1104 [.ref o, a1, a2, a3] (.ref o :: st) z h Q := ni_T_p rfl rfl
theorem s199_1104 : ni_T d 199 1104 [a0, a1, a2, .int x] st z h Q = ni_T d 199 1105 [a0, a1, a2, .int x] (.int x :: st) z h Q := ni_T_p rfl rfl
theorem s199_1105 : ni_T d 199 1105 [a0, a1, a2, a3] st z h Q = ni_T d 199 1106 [a0, a1, a2, a3] (.int 3 :: st) z h Q := ni_T_p rfl rfl
theorem s199_1106 : ni_T d 199 1106 [a0, a1, a2, a3] (.int y :: .int x :: st) z h Q = ni_T d 199 1107 [a0, a1, a2, a3] (.int (x + y) :: st) z h Q := ni_T_p rfl rfl
theorem s199_1107 : ni_T d 199 1107 [a0, a1, a2, a3] (.int x :: .ref o :: st) z h Q = (ni_okI (h o) x = true ∧ ni_T d 199 1108 [a0, a1, a2, a3] (.int (ni_gi (h o) x) :: st) z h Q) := ni_T_iald rfl
theorem s199_1108 : ni_T (d + 1) 199 1108 [a0, a1, a2, a3] (.int x2 :: .int x1 :: .int x0 :: .ref o :: st) z h Q = (ni_rc (h o) 7 = true ∧ Nat.ble (ni_sw st) 8 = true ∧ ni_T d 181 0 [.ref o, .int x0, .int x1, .int x2, .retAddr 0] [] z h (ni_K (d + 1) 199 1111 [a0, a1, a2, a3] st z Q)) := ni_T_ce [.ref o, .int x0, .int x1, .int x2] rfl rfl rfl rfl rfl rfl rfl rfl rfl
theorem s199_1111 : ni_T d 199 1111 [a0, a1, a2, a3] (.int y :: .int x :: st) z h Q = if x = y then ni_T d 199 1376 [a0, a1, a2, a3] st z h Q else ni_T d 199 1114 [a0, a1, a2, a3] st z h Q := ni_T_b rfl rfl
theorem s199_1114 : ni_T d 199 1114 [a0, a1, a2, a3] st z h Q = ni_T d 199 1115 [a0, a1, a2, a3] (.int 0 :: st) z h Q := ni_T_p rfl rfl
theorem s199_1115 : ni_T d 199 1115 [a0, a1, a2, a3] [.int x] z h Q = (narrow .boolean (.int x) = .int x ∧ Q (some (.int x)) z h) := ni_T_z rfl rfl
theorem s199_1116 : ni_T d 199 1116 [a0, .ref o, a2, a3] st z h Q = ni_T d 199 1117 [a0, .ref o, a2, a3] (.ref o :: st) z h Q := ni_T_p rfl rfl
theorem s199_1116N : ni_T d 199 1116 [a0, .null, a2, a3] st z h Q = ni_T d 199 1117 [a0, .null, a2, a3] (.null :: st) z h Q := ni_T_p rfl rfl
theorem s199_1117 : ni_T d 199 1117 [.ref o, a1, a2, a3] st z h Q = ni_T d 199 1118 [.ref o, a1, a2, a3] (.ref o :: st) z h Q := ni_T_p rfl rfl
theorem s199_1118 : ni_T d 199 1118 [a0, a1, a2, .int x] st z h Q = ni_T d 199 1119 [a0, a1, a2, .int x] (.int x :: st) z h Q := ni_T_p rfl rfl
theorem s199_1119 : ni_T d 199 1119 [a0, a1, a2, a3] st z h Q = ni_T d 199 1120 [a0, a1, a2, a3] (.int 1 :: st) z h Q := ni_T_p rfl rfl
theorem s199_1120 : ni_T d 199 1120 [a0, a1, a2, a3] (.int y :: .int x :: st) z h Q = ni_T d 199 1121 [a0, a1, a2, a3] (.int (x + y) :: st) z h Q := ni_T_p rfl rfl
theorem s199_1121 : ni_T d 199 1121 [a0, a1, a2, a3] (.int x :: .ref o :: st) z h Q = (ni_okI (h o) x = true ∧ ni_T d 199 1122 [a0, a1, a2, a3] (.int (ni_gi (h o) x) :: st) z h Q) := ni_T_iald rfl
theorem s199_1122 : ni_T d 199 1122 [.ref o, a1, a2, a3] st z h Q = ni_T d 199 1123 [.ref o, a1, a2, a3] (.ref o :: st) z h Q := ni_T_p rfl rfl
theorem s199_1123 : ni_T d 199 1123 [a0, a1, a2, .int x] st z h Q = ni_T d 199 1124 [a0, a1, a2, .int x] (.int x :: st) z h Q := ni_T_p rfl rfl
theorem s199_1124 : ni_T d 199 1124 [a0, a1, a2, a3] st z h Q = ni_T d 199 1125 [a0, a1, a2, a3] (.int 2 :: st) z h Q := ni_T_p rfl rfl
theorem s199_1125 : ni_T d 199 1125 [a0, a1, a2, a3] (.int y :: .int x :: st) z h Q = ni_T d 199 1126 [a0, a1, a2, a3] (.int (x + y) :: st) z h Q := ni_T_p rfl rfl
theorem s199_1126 : ni_T d 199 1126 [a0, a1, a2, a3] (.int x :: .ref o :: st) z h Q = (ni_okI (h o) x = true ∧ ni_T d 199 1127 [a0, a1, a2, a3] (.int (ni_gi (h o) x) :: st) z h Q) := ni_T_iald rfl
theorem s199_1127 : ni_T d 199 1127 [.ref o, a1, a2, a3] st z h Q = ni_T d 199 1128 [.ref o, a1, a2, a3] (.ref o :: st) z h Q := ni_T_p rfl rfl
theorem s199_1128 : ni_T d 199 1128 [a0, a1, a2, .int x] st z h Q = ni_T d 199 1129 [a0, a1, a2, .int x] (.int x :: st) z h Q := ni_T_p rfl rfl
theorem s199_1129 : ni_T d 199 1129 [a0, a1, a2, a3] st z h Q = ni_T d 199 1130 [a0, a1, a2, a3] (.int 3 :: st) z h Q := ni_T_p rfl rfl
theorem s199_1130 : ni_T d 199 1130 [a0, a1, a2, a3] (.int y :: .int x :: st) z h Q = ni_T d 199 1131 [a0, a1, a2, a3] (.int (x + y) :: st) z h Q := ni_T_p rfl rfl
theorem s199_1131 : ni_T d 199 1131 [a0, a1, a2, a3] (.int x :: .ref o :: st) z h Q = (ni_okI (h o) x = true ∧ ni_T d 199 1132 [a0, a1, a2, a3] (.int (ni_gi (h o) x) :: st) z h Q) := ni_T_iald rfl
theorem s199_1132 : ni_T (d + 1) 199 1132 [a0, a1, a2, a3] (.int x2 :: .int x1 :: .int x0 :: .ref o :: st) z h Q = (ni_rc (h o) 6 = true ∧ Nat.ble (ni_sw st) 8 = true ∧ ni_T d 95 0 [.ref o, .int x0, .int x1, .int x2, .retAddr 0, .retAddr 0, .retAddr 0] [] z h (ni_K (d + 1) 199 1135 [a0, a1, a2, a3] st z Q)) := ni_T_ce [.ref o, .int x0, .int x1, .int x2] rfl rfl rfl rfl rfl rfl rfl rfl rfl
theorem s199_1135 : ni_T d 199 1135 [a0, a1, .ref o, a3] st z h Q = ni_T d 199 1136 [a0, a1, .ref o, a3] (.ref o :: st) z h Q := ni_T_p rfl rfl
theorem s199_1135N : ni_T d 199 1135 [a0, a1, .null, a3] st z h Q = ni_T d 199 1136 [a0, a1, .null, a3] (.null :: st) z h Q := ni_T_p rfl rfl
theorem s199_1136 : ni_T d 199 1136 [.ref o, a1, a2, a3] st z h Q = ni_T d 199 1137 [.ref o, a1, a2, a3] (.ref o :: st) z h Q := ni_T_p rfl rfl
theorem s199_1137 : ni_T d 199 1137 [a0, a1, a2, .int x] st z h Q = ni_T d 199 1138 [a0, a1, a2, .int x] (.int x :: st) z h Q := ni_T_p rfl rfl
theorem s199_1138 : ni_T d 199 1138 [a0, a1, a2, a3] st z h Q = ni_T d 199 1139 [a0, a1, a2, a3] (.int 1 :: st) z h Q := ni_T_p rfl rfl
theorem s199_1139 : ni_T d 199 1139 [a0, a1, a2, a3] (.int y :: .int x :: st) z h Q = ni_T d 199 1140 [a0, a1, a2, a3] (.int (x + y) :: st) z h Q := ni_T_p rfl rfl
theorem s199_1140 : ni_T d 199 1140 [a0, a1, a2, a3] (.int x :: .ref o :: st) z h Q = (ni_okI (h o) x = true ∧ ni_T d 199 1141 [a0, a1, a2, a3] (.int (ni_gi (h o) x) :: st) z h Q) := ni_T_iald rfl
theorem s199_1141 : ni_T d 199 1141 [.ref o, a1, a2, a3] st z h Q = ni_T d 199 1142 [.ref o, a1, a2, a3] (.ref o :: st) z h Q := ni_T_p rfl rfl
theorem s199_1142 : ni_T d 199 1142 [a0, a1, a2, .int x] st z h Q = ni_T d 199 1143 [a0, a1, a2, .int x] (.int x :: st) z h Q := ni_T_p rfl rfl
theorem s199_1143 : ni_T d 199 1143 [a0, a1, a2, a3] st z h Q = ni_T d 199 1144 [a0, a1, a2, a3] (.int 2 :: st) z h Q := ni_T_p rfl rfl
theorem s199_1144 : ni_T d 199 1144 [a0, a1, a2, a3] (.int y :: .int x :: st) z h Q = ni_T d 199 1145 [a0, a1, a2, a3] (.int (x + y) :: st) z h Q := ni_T_p rfl rfl
theorem s199_1145 : ni_T d 199 1145 [a0, a1, a2, a3] (.int x :: .ref o :: st) z h Q = (ni_okI (h o) x = true ∧ ni_T d 199 1146 [a0, a1, a2, a3] (.int (ni_gi (h o) x) :: st) z h Q) := ni_T_iald rfl
theorem s199_1146 : ni_T d 199 1146 [.ref o, a1, a2, a3] st z h Q = ni_T d 199 1147 [.ref o, a1, a2, a3] (.ref o :: st) z h Q := ni_T_p rfl rfl
theorem s199_1147 : ni_T d 199 1147 [a0, a1, a2, .int x] st z h Q = ni_T d 199 1148 [a0, a1, a2, .int x] (.int x :: st) z h Q := ni_T_p rfl rfl
theorem s199_1148 : ni_T d 199 1148 [a0, a1, a2, a3] st z h Q = ni_T d 199 1149 [a0, a1, a2, a3] (.int 3 :: st) z h Q := ni_T_p rfl rfl
theorem s199_1149 : ni_T d 199 1149 [a0, a1, a2, a3] (.int y :: .int x :: st) z h Q = ni_T d 199 1150 [a0, a1, a2, a3] (.int (x + y) :: st) z h Q := ni_T_p rfl rfl
theorem s199_1150 : ni_T d 199 1150 [a0, a1, a2, a3] (.int x :: .ref o :: st) z h Q = (ni_okI (h o) x = true ∧ ni_T d 199 1151 [a0, a1, a2, a3] (.int (ni_gi (h o) x) :: st) z h Q) := ni_T_iald rfl
theorem s199_1151 : ni_T (d + 1) 199 1151 [a0, a1, a2, a3] (.int x2 :: .int x1 :: .int x0 :: .ref o :: st) z h Q = (ni_rc (h o) 7 = true ∧ Nat.ble (ni_sw st) 8 = true ∧ ni_T d 182 0 [.ref o, .int x0, .int x1, .int x2, .retAddr 0] [] z h (ni_K (d + 1) 199 1154 [a0, a1, a2, a3] st z Q)) := ni_T_ce [.ref o, .int x0, .int x1, .int x2] rfl rfl rfl rfl rfl rfl rfl rfl rfl
theorem s199_1154 : ni_T d 199 1154 [a0, a1, a2, a3] (.int y :: .int x :: st) z h Q = if x = y then ni_T d 199 1376 [a0, a1, a2, a3] st z h Q else ni_T d 199 1157 [a0, a1, a2, a3] st z h Q := ni_T_b rfl rfl
theorem s199_1157 : ni_T d 199 1157 [a0, a1, a2, a3] st z h Q = ni_T d 199 1158 [a0, a1, a2, a3] (.int 0 :: st) z h Q := ni_T_p rfl rfl
theorem s199_1158 : ni_T d 199 1158 [a0, a1, a2, a3] [.int x] z h Q = (narrow .boolean (.int x) = .int x ∧ Q (some (.int x)) z h) := ni_T_z rfl rfl
theorem s199_1159 : ni_T d 199 1159 [a0, .ref o, a2, a3] st z h Q = ni_T d 199 1160 [a0, .ref o, a2, a3] (.ref o :: st) z h Q := ni_T_p rfl rfl
theorem s199_1159N : ni_T d 199 1159 [a0, .null, a2, a3] st z h Q = ni_T d 199 1160 [a0, .null, a2, a3] (.null :: st) z h Q := ni_T_p rfl rfl
theorem s199_1160 : ni_T d 199 1160 [.ref o, a1, a2, a3] st z h Q = ni_T d 199 1161 [.ref o, a1, a2, a3] (.ref o :: st) z h Q := ni_T_p rfl rfl
theorem s199_1161 : ni_T d 199 1161 [a0, a1, a2, .int x] st z h Q = ni_T d 199 1162 [a0, a1, a2, .int x] (.int x :: st) z h Q := ni_T_p rfl rfl
theorem s199_1162 : ni_T d 199 1162 [a0, a1, a2, a3] st z h Q = ni_T d 199 1163 [a0, a1, a2, a3] (.int 1 :: st) z h Q := ni_T_p rfl rfl
theorem s199_1163 : ni_T d 199 1163 [a0, a1, a2, a3] (.int y :: .int x :: st) z h Q = ni_T d 199 1164 [a0, a1, a2, a3] (.int (x + y) :: st) z h Q := ni_T_p rfl rfl
theorem s199_1164 : ni_T d 199 1164 [a0, a1, a2, a3] (.int x :: .ref o :: st) z h Q = (ni_okI (h o) x = true ∧ ni_T d 199 1165 [a0, a1, a2, a3] (.int (ni_gi (h o) x) :: st) z h Q) := ni_T_iald rfl
theorem s199_1165 : ni_T d 199 1165 [.ref o, a1, a2, a3] st z h Q = ni_T d 199 1166 [.ref o, a1, a2, a3] (.ref o :: st) z h Q := ni_T_p rfl rfl
theorem s199_1166 : ni_T d 199 1166 [a0, a1, a2, .int x] st z h Q = ni_T d 199 1167 [a0, a1, a2, .int x] (.int x :: st) z h Q := ni_T_p rfl rfl
theorem s199_1167 : ni_T d 199 1167 [a0, a1, a2, a3] st z h Q = ni_T d 199 1168 [a0, a1, a2, a3] (.int 2 :: st) z h Q := ni_T_p rfl rfl
theorem s199_1168 : ni_T d 199 1168 [a0, a1, a2, a3] (.int y :: .int x :: st) z h Q = ni_T d 199 1169 [a0, a1, a2, a3] (.int (x + y) :: st) z h Q := ni_T_p rfl rfl
theorem s199_1169 : ni_T d 199 1169 [a0, a1, a2, a3] (.int x :: .ref o :: st) z h Q = (ni_okI (h o) x = true ∧ ni_T d 199 1170 [a0, a1, a2, a3] (.int (ni_gi (h o) x) :: st) z h Q) := ni_T_iald rfl
theorem s199_1170 : ni_T (d + 1) 199 1170 [a0, a1, a2, a3] (.int x1 :: .int x0 :: .ref o :: st) z h Q = (ni_rc (h o) 6 = true ∧ Nat.ble (ni_sw st) 8 = true ∧ ni_T d 96 0 [.ref o, .int x0, .int x1, .retAddr 0] [] z h (ni_K (d + 1) 199 1173 [a0, a1, a2, a3] st z Q)) := ni_T_ce [.ref o, .int x0, .int x1] rfl rfl rfl rfl rfl rfl rfl rfl rfl
theorem s199_1173 : ni_T d 199 1173 [a0, a1, .ref o, a3] st z h Q = ni_T d 199 1174 [a0, a1, .ref o, a3] (.ref o :: st) z h Q := ni_T_p rfl rfl
theorem s199_1173N : ni_T d 199 1173 [a0, a1, .null, a3] st z h Q = ni_T d 199 1174 [a0, a1, .null, a3] (.null :: st) z h Q := ni_T_p rfl rfl
theorem s199_1174 : ni_T d 199 1174 [.ref o, a1, a2, a3] st z h Q = ni_T d 199 1175 [.ref o, a1, a2, a3] (.ref o :: st) z h Q := ni_T_p rfl rfl
theorem s199_1175 : ni_T d 199 1175 [a0, a1, a2, .int x] st z h Q = ni_T d 199 1176 [a0, a1, a2, .int x] (.int x :: st) z h Q := ni_T_p rfl rfl
theorem s199_1176 : ni_T d 199 1176 [a0, a1, a2, a3] st z h Q = ni_T d 199 1177 [a0, a1, a2, a3] (.int 1 :: st) z h Q := ni_T_p rfl rfl
theorem s199_1177 : ni_T d 199 1177 [a0, a1, a2, a3] (.int y :: .int x :: st) z h Q = ni_T d 199 1178 [a0, a1, a2, a3] (.int (x + y) :: st) z h Q := ni_T_p rfl rfl
theorem s199_1178 : ni_T d 199 1178 [a0, a1, a2, a3] (.int x :: .ref o :: st) z h Q = (ni_okI (h o) x = true ∧ ni_T d 199 1179 [a0, a1, a2, a3] (.int (ni_gi (h o) x) :: st) z h Q) := ni_T_iald rfl
theorem s199_1179 : ni_T d 199 1179 [.ref o, a1, a2, a3] st z h Q = ni_T d 199 1180 [.ref o, a1, a2, a3] (.ref o :: st) z h Q := ni_T_p rfl rfl
theorem s199_1180 : ni_T d 199 1180 [a0, a1, a2, .int x] st z h Q = ni_T d 199 1181 [a0, a1, a2, .int x] (.int x :: st) z h Q := ni_T_p rfl rfl
theorem s199_1181 : ni_T d 199 1181 [a0, a1, a2, a3] st z h Q = ni_T d 199 1182 [a0, a1, a2, a3] (.int 2 :: st) z h Q := ni_T_p rfl rfl
theorem s199_1182 : ni_T d 199 1182 [a0, a1, a2, a3] (.int y :: .int x :: st) z h Q = ni_T d 199 1183 [a0, a1, a2, a3] (.int (x + y) :: st) z h Q := ni_T_p rfl rfl
theorem s199_1183 : ni_T d 199 1183 [a0, a1, a2, a3] (.int x :: .ref o :: st) z h Q = (ni_okI (h o) x = true ∧ ni_T d 199 1184 [a0, a1, a2, a3] (.int (ni_gi (h o) x) :: st) z h Q) := ni_T_iald rfl
theorem s199_1184 : ni_T (d + 1) 199 1184 [a0, a1, a2, a3] (.int x1 :: .int x0 :: .ref o :: st) z h Q = (ni_rc (h o) 7 = true ∧ Nat.ble (ni_sw st) 8 = true ∧ ni_T d 185 0 [.ref o, .int x0, .int x1] [] z h (ni_K (d + 1) 199 1187 [a0, a1, a2, a3] st z Q)) := ni_T_ce [.ref o, .int x0, .int x1] rfl rfl rfl rfl rfl rfl rfl rfl rfl
theorem s199_1187 : ni_T d 199 1187 [a0, a1, a2, a3] (.int y :: .int x :: st) z h Q = if x = y then ni_T d 199 1376 [a0, a1, a2, a3] st z h Q else ni_T d 199 1190 [a0, a1, a2, a3] st z h Q := ni_T_b rfl rfl
theorem s199_1190 : ni_T d 199 1190 [a0, a1, a2, a3] st z h Q = ni_T d 199 1191 [a0, a1, a2, a3] (.int 0 :: st) z h Q := ni_T_p rfl rfl
theorem s199_1191 : ni_T d 199 1191 [a0, a1, a2, a3] [.int x] z h Q = (narrow .boolean (.int x) = .int x ∧ Q (some (.int x)) z h) := ni_T_z rfl rfl
theorem s199_1192 : ni_T d 199 1192 [a0, .ref o, a2, a3] st z h Q = ni_T d 199 1193 [a0, .ref o, a2, a3] (.ref o :: st) z h Q := ni_T_p rfl rfl
theorem s199_1192N : ni_T d 199 1192 [a0, .null, a2, a3] st z h Q = ni_T d 199 1193 [a0, .null, a2, a3] (.null :: st) z h Q := ni_T_p rfl rfl
theorem s199_1193 : ni_T d 199 1193 [.ref o, a1, a2, a3] st z h Q = ni_T d 199 1194 [.ref o, a1, a2, a3] (.ref o :: st) z h Q := ni_T_p rfl rfl
theorem s199_1194 : ni_T d 199 1194 [a0, a1, a2, .int x] st z h Q = ni_T d 199 1195 [a0, a1, a2, .int x] (.int x :: st) z h Q := ni_T_p rfl rfl
theorem s199_1195 : ni_T d 199 1195 [a0, a1, a2, a3] st z h Q = ni_T d 199 1196 [a0, a1, a2, a3] (.int 1 :: st) z h Q := ni_T_p rfl rfl
theorem s199_1196 : ni_T d 199 1196 [a0, a1, a2, a3] (.int y :: .int x :: st) z h Q = ni_T d 199 1197 [a0, a1, a2, a3] (.int (x + y) :: st) z h Q := ni_T_p rfl rfl
theorem s199_1197 : ni_T d 199 1197 [a0, a1, a2, a3] (.int x :: .ref o :: st) z h Q = (ni_okI (h o) x = true ∧ ni_T d 199 1198 [a0, a1, a2, a3] (.int (ni_gi (h o) x) :: st) z h Q) := ni_T_iald rfl
theorem s199_1198 : ni_T (d + 1) 199 1198 [a0, a1, a2, a3] (.int x0 :: .ref o :: st) z h Q = (ni_rc (h o) 6 = true ∧ Nat.ble (ni_sw st) 8 = true ∧ ni_T d 97 0 [.ref o, .int x0] [] z h (ni_K (d + 1) 199 1201 [a0, a1, a2, a3] st z Q)) := ni_T_ce [.ref o, .int x0] rfl rfl rfl rfl rfl rfl rfl rfl rfl
theorem s199_1201 : ni_T d 199 1201 [a0, a1, .ref o, a3] st z h Q = ni_T d 199 1202 [a0, a1, .ref o, a3] (.ref o :: st) z h Q := ni_T_p rfl rfl
theorem s199_1201N : ni_T d 199 1201 [a0, a1, .null, a3] st z h Q = ni_T d 199 1202 [a0, a1, .null, a3] (.null :: st) z h Q := ni_T_p rfl rfl
theorem s199_1202 : ni_T d 199 1202 [.ref o, a1, a2, a3] st z h Q = ni_T d 199 1203 [.ref o, a1, a2, a3] (.ref o :: st) z h Q := ni_T_p rfl rfl
theorem s199_1203 : ni_T d 199 1203 [a0, a1, a2, .int x] st z h Q = ni_T d 199 1204 [a0, a1, a2, .int x] (.int x :: st) z h Q := ni_T_p rfl rfl
theorem s199_1204 : ni_T d 199 1204 [a0, a1, a2, a3] st z h Q = ni_T d 199 1205 [a0, a1, a2, a3] (.int 1 :: st) z h Q := ni_T_p rfl rfl
theorem s199_1205 : ni_T d 199 1205 [a0, a1, a2, a3] (.int y :: .int x :: st) z h Q = ni_T d 199 1206 [a0, a1, a2, a3] (.int (x + y) :: st) z h Q := ni_T_p rfl rfl
theorem s199_1206 : ni_T d 199 1206 [a0, a1, a2, a3] (.int x :: .ref o :: st) z h Q = (ni_okI (h o) x = true ∧ ni_T d 199 1207 [a0, a1, a2, a3] (.int (ni_gi (h o) x) :: st) z h Q) := ni_T_iald rfl
theorem s199_1207 : ni_T (d + 1) 199 1207 [a0, a1, a2, a3] (.int x0 :: .ref o :: st) z h Q = (ni_rc (h o) 7 = true ∧ Nat.ble (ni_sw st) 8 = true ∧ ni_T d 187 0 [.ref o, .int x0] [] z h (ni_K (d + 1) 199 1210 [a0, a1, a2, a3] st z Q)) := ni_T_ce [.ref o, .int x0] rfl rfl rfl rfl rfl rfl rfl rfl rfl
theorem s199_1210 : ni_T d 199 1210 [a0, a1, a2, a3] (.int y :: .int x :: st) z h Q = if x = y then ni_T d 199 1376 [a0, a1, a2, a3] st z h Q else ni_T d 199 1213 [a0, a1, a2, a3] st z h Q := ni_T_b rfl rfl
theorem s199_1213 : ni_T d 199 1213 [a0, a1, a2, a3] st z h Q = ni_T d 199 1214 [a0, a1, a2, a3] (.int 0 :: st) z h Q := ni_T_p rfl rfl
theorem s199_1214 : ni_T d 199 1214 [a0, a1, a2, a3] [.int x] z h Q = (narrow .boolean (.int x) = .int x ∧ Q (some (.int x)) z h) := ni_T_z rfl rfl
theorem s199_1215 : ni_T d 199 1215 [a0, .ref o, a2, a3] st z h Q = ni_T d 199 1216 [a0, .ref o, a2, a3] (.ref o :: st) z h Q := ni_T_p rfl rfl
theorem s199_1215N : ni_T d 199 1215 [a0, .null, a2, a3] st z h Q = ni_T d 199 1216 [a0, .null, a2, a3] (.null :: st) z h Q := ni_T_p rfl rfl
theorem s199_1216 : ni_T d 199 1216 [.ref o, a1, a2, a3] st z h Q = ni_T d 199 1217 [.ref o, a1, a2, a3] (.ref o :: st) z h Q := ni_T_p rfl rfl
theorem s199_1217 : ni_T d 199 1217 [a0, a1, a2, .int x] st z h Q = ni_T d 199 1218 [a0, a1, a2, .int x] (.int x :: st) z h Q := ni_T_p rfl rfl
theorem s199_1218 : ni_T d 199 1218 [a0, a1, a2, a3] st z h Q = ni_T d 199 1219 [a0, a1, a2, a3] (.int 1 :: st) z h Q := ni_T_p rfl rfl
theorem s199_1219 : ni_T d 199 1219 [a0, a1, a2, a3] (.int y :: .int x :: st) z h Q = ni_T d 199 1220 [a0, a1, a2, a3] (.int (x + y) :: st) z h Q := ni_T_p rfl rfl
theorem s199_1220 : ni_T d 199 1220 [a0, a1, a2, a3] (.int x :: .ref o :: st) z h Q = (ni_okI (h o) x = true ∧ ni_T d 199 1221 [a0, a1, a2, a3] (.int (ni_gi (h o) x) :: st) z h Q) := ni_T_iald rfl
theorem s199_1221 : ni_T (d + 1) 199 1221 [a0, a1, a2, a3] (.int x0 :: .ref o :: st) z h Q = (ni_rc (h o) 6 = true ∧ Nat.ble (ni_sw st) 8 = true ∧ ni_T d 98 0 [.ref o, .int x0, .retAddr 0, .retAddr 0] [] z h (ni_K (d + 1) 199 1224 [a0, a1, a2, a3] st z Q)) := ni_T_ce [.ref o, .int x0] rfl rfl rfl rfl rfl rfl rfl rfl rfl
theorem s199_1224 : ni_T d 199 1224 [a0, a1, .ref o, a3] st z h Q = ni_T d 199 1225 [a0, a1, .ref o, a3] (.ref o :: st) z h Q := ni_T_p rfl rfl
theorem s199_1224N : ni_T d 199 1224 [a0, a1, .null, a3] st z h Q = ni_T d 199 1225 [a0, a1, .null, a3] (.null :: st) z h Q := ni_T_p rfl rfl
theorem s199_1225 : ni_T d 199 1225 [.ref o, a1, a2, a3] st z h Q = ni_T d 199 1226 [.ref o, a1, a2, a3] (.ref o :: st) z h Q := ni_T_p rfl rfl
theorem s199_1226 : ni_T d 199 1226 [a0, a1, a2, .int x] st z h Q = ni_T d 199 1227 [a0, a1, a2, .int x] (.int x :: st) z h Q := ni_T_p rfl rfl
theorem s199_1227 : ni_T d 199 1227 [a0, a1, a2, a3] st z h Q = ni_T d 199 1228 [a0, a1, a2, a3] (.int 1 :: st) z h Q := ni_T_p rfl rfl
theorem s199_1228 : ni_T d 199 1228 [a0, a1, a2, a3] (.int y :: .int x :: st) z h Q = ni_T d 199 1229 [a0, a1, a2, a3] (.int (x + y) :: st) z h Q := ni_T_p rfl rfl
theorem s199_1229 : ni_T d 199 1229 [a0, a1, a2, a3] (.int x :: .ref o :: st) z h Q = (ni_okI (h o) x = true ∧ ni_T d 199 1230 [a0, a1, a2, a3] (.int (ni_gi (h o) x) :: st) z h Q) := ni_T_iald rfl
theorem s199_1230 : ni_T (d + 1) 199 1230 [a0, a1, a2, a3] (.int x0 :: .ref o :: st) z h Q = (ni_rc (h o) 7 = true ∧ Nat.ble (ni_sw st) 8 = true ∧ ni_T d 188 0 [.ref o, .int x0, .retAddr 0, .retAddr 0, .retAddr 0, .retAddr 0, .retAddr 0] [] z h (ni_K (d + 1) 199 1233 [a0, a1, a2, a3] st z Q)) := ni_T_ce [.ref o, .int x0] rfl rfl rfl rfl rfl rfl rfl rfl rfl
theorem s199_1233 : ni_T d 199 1233 [a0, a1, a2, a3] (.int y :: .int x :: st) z h Q = if x = y then ni_T d 199 1376 [a0, a1, a2, a3] st z h Q else ni_T d 199 1236 [a0, a1, a2, a3] st z h Q := ni_T_b rfl rfl
theorem s199_1236 : ni_T d 199 1236 [a0, a1, a2, a3] st z h Q = ni_T d 199 1237 [a0, a1, a2, a3] (.int 0 :: st) z h Q := ni_T_p rfl rfl
theorem s199_1237 : ni_T d 199 1237 [a0, a1, a2, a3] [.int x] z h Q = (narrow .boolean (.int x) = .int x ∧ Q (some (.int x)) z h) := ni_T_z rfl rfl
theorem s199_1238 : ni_T d 199 1238 [a0, .ref o, a2, a3] st z h Q = ni_T d 199 1239 [a0, .ref o, a2, a3] (.ref o :: st) z h Q := ni_T_p rfl rfl
theorem s199_1238N : ni_T d 199 1238 [a0, .null, a2, a3] st z h Q = ni_T d 199 1239 [a0, .null, a2, a3] (.null :: st) z h Q := ni_T_p rfl rfl
theorem s199_1239 : ni_T d 199 1239 [.ref o, a1, a2, a3] st z h Q = ni_T d 199 1240 [.ref o, a1, a2, a3] (.ref o :: st) z h Q := ni_T_p rfl rfl
theorem s199_1240 : ni_T d 199 1240 [a0, a1, a2, .int x] st z h Q = ni_T d 199 1241 [a0, a1, a2, .int x] (.int x :: st) z h Q := ni_T_p rfl rfl
theorem s199_1241 : ni_T d 199 1241 [a0, a1, a2, a3] st z h Q = ni_T d 199 1242 [a0, a1, a2, a3] (.int 1 :: st) z h Q := ni_T_p rfl rfl
theorem s199_1242 : ni_T d 199 1242 [a0, a1, a2, a3] (.int y :: .int x :: st) z h Q = ni_T d 199 1243 [a0, a1, a2, a3] (.int (x + y) :: st) z h Q := ni_T_p rfl rfl
theorem s199_1243 : ni_T d 199 1243 [a0, a1, a2, a3] (.int x :: .ref o :: st) z h Q = (ni_okI (h o) x = true ∧ ni_T d 199 1244 [a0, a1, a2, a3] (.int (ni_gi (h o) x) :: st) z h Q) := ni_T_iald rfl
theorem s199_1244 : ni_T (d + 1) 199 1244 [a0, a1, a2, a3] (.int x0 :: .ref o :: st) z h Q = (ni_rc (h o) 6 = true ∧ Nat.ble (ni_sw st) 8 = true ∧ ni_T d 99 0 [.ref o, .int x0, .retAddr 0] [] z h (ni_K (d + 1) 199 1247 [a0, a1, a2, a3] st z Q)) := ni_T_ce [.ref o, .int x0] rfl rfl rfl rfl rfl rfl rfl rfl rfl
theorem s199_1247 : ni_T d 199 1247 [a0, a1, .ref o, a3] st z h Q = ni_T d 199 1248 [a0, a1, .ref o, a3] (.ref o :: st) z h Q := ni_T_p rfl rfl
theorem s199_1247N : ni_T d 199 1247 [a0, a1, .null, a3] st z h Q = ni_T d 199 1248 [a0, a1, .null, a3] (.null :: st) z h Q := ni_T_p rfl rfl
theorem s199_1248 : ni_T d 199 1248 [.ref o, a1, a2, a3] st z h Q = ni_T d 199 1249 [.ref o, a1, a2, a3] (.ref o :: st) z h Q := ni_T_p rfl rfl
theorem s199_1249 : ni_T d 199 1249 [a0, a1, a2, .int x] st z h Q = ni_T d 199 1250 [a0, a1, a2, .int x] (.int x :: st) z h Q := ni_T_p rfl rfl
theorem s199_1250 : ni_T d 199 1250 [a0, a1, a2, a3] st z h Q = ni_T d 199 1251 [a0, a1, a2, a3] (.int 1 :: st) z h Q := ni_T_p rfl rfl
theorem s199_1251 : ni_T d 199 1251 [a0, a1, a2, a3] (.int y :: .int x :: st) z h Q = ni_T d 199 1252 [a0, a1, a2, a3] (.int (x + y) :: st) z h Q := ni_T_p rfl rfl
theorem s199_1252 : ni_T d 199 1252 [a0, a1, a2, a3] (.int x :: .ref o :: st) z h Q = (ni_okI (h o) x = true ∧ ni_T d 199 1253 [a0, a1, a2, a3] (.int (ni_gi (h o) x) :: st) z h Q) := ni_T_iald rfl
theorem s199_1253 : ni_T (d + 1) 199 1253 [a0, a1, a2, a3] (.int x0 :: .ref o :: st) z h Q = (ni_rc (h o) 7 = true ∧ Nat.ble (ni_sw st) 8 = true ∧ ni_T d 189 0 [.ref o, .int x0, .retAddr 0] [] z h (ni_K (d + 1) 199 1256 [a0, a1, a2, a3] st z Q)) := ni_T_ce [.ref o, .int x0] rfl rfl rfl rfl rfl rfl rfl rfl rfl
theorem s199_1256 : ni_T d 199 1256 [a0, a1, a2, a3] (.int y :: .int x :: st) z h Q = if x = y then ni_T d 199 1376 [a0, a1, a2, a3] st z h Q else ni_T d 199 1259 [a0, a1, a2, a3] st z h Q := ni_T_b rfl rfl
theorem s199_1259 : ni_T d 199 1259 [a0, a1, a2, a3] st z h Q = ni_T d 199 1260 [a0, a1, a2, a3] (.int 0 :: st) z h Q := ni_T_p rfl rfl
theorem s199_1260 : ni_T d 199 1260 [a0, a1, a2, a3] [.int x] z h Q = (narrow .boolean (.int x) = .int x ∧ Q (some (.int x)) z h) := ni_T_z rfl rfl
theorem s199_1261 : ni_T d 199 1261 [a0, .ref o, a2, a3] st z h Q = ni_T d 199 1262 [a0, .ref o, a2, a3] (.ref o :: st) z h Q := ni_T_p rfl rfl
theorem s199_1261N : ni_T d 199 1261 [a0, .null, a2, a3] st z h Q = ni_T d 199 1262 [a0, .null, a2, a3] (.null :: st) z h Q := ni_T_p rfl rfl
theorem s199_1262 : ni_T d 199 1262 [.ref o, a1, a2, a3] st z h Q = ni_T d 199 1263 [.ref o, a1, a2, a3] (.ref o :: st) z h Q := ni_T_p rfl rfl
theorem s199_1263 : ni_T d 199 1263 [a0, a1, a2, .int x] st z h Q = ni_T d 199 1264 [a0, a1, a2, .int x] (.int x :: st) z h Q := ni_T_p rfl rfl
theorem s199_1264 : ni_T d 199 1264 [a0, a1, a2, a3] st z h Q = ni_T d 199 1265 [a0, a1, a2, a3] (.int 1 :: st) z h Q := ni_T_p rfl rfl
theorem s199_1265 : ni_T d 199 1265 [a0, a1, a2, a3] (.int y :: .int x :: st) z h Q = ni_T d 199 1266 [a0, a1, a2, a3] (.int (x + y) :: st) z h Q := ni_T_p rfl rfl
theorem s199_1266 : ni_T d 199 1266 [a0, a1, a2, a3] (.int x :: .ref o :: st) z h Q = (ni_okI (h o) x = true ∧ ni_T d 199 1267 [a0, a1, a2, a3] (.int (ni_gi (h o) x) :: st) z h Q) := ni_T_iald rfl
theorem s199_1267 : ni_T d 199 1267 [.ref o, a1, a2, a3] st z h Q = ni_T d 199 1268 [.ref o, a1, a2, a3] (.ref o :: st) z h Q := ni_T_p rfl rfl
theorem s199_1268 : ni_T d 199 1268 [a0, a1, a2, .int x] st z h Q = ni_T d 199 1269 [a0, a1, a2, .int x] (.int x :: st) z h Q := ni_T_p rfl rfl
theorem s199_1269 : ni_T d 199 1269 [a0, a1, a2, a3] st z h Q = ni_T d 199 1270 [a0, a1, a2, a3] (.int 2 :: st) z h Q := ni_T_p rfl rfl
theorem s199_1270 : ni_T d 199 1270 [a0, a1, a2, a3] (.int y :: .int x :: st) z h Q = ni_T d 199 1271 [a0, a1, a2, a3] (.int (x + y) :: st) z h Q := ni_T_p rfl rfl
theorem s199_1271 : ni_T d 199 1271 [a0, a1, a2, a3] (.int x :: .ref o :: st) z h Q = (ni_okI (h o) x = true ∧ ni_T d 199 1272 [a0, a1, a2, a3] (.int (ni_gi (h o) x) :: st) z h Q) := ni_T_iald rfl
theorem s199_1272 : ni_T d 199 1272 [.ref o, a1, a2, a3] st z h Q = ni_T d 199 1273 [.ref o, a1, a2, a3] (.ref o :: st) z h Q := ni_T_p rfl rfl
theorem s199_1273 : ni_T d 199 1273 [a0, a1, a2, .int x] st z h Q = ni_T d 199 1274 [a0, a1, a2, .int x] (.int x :: st) z h Q := ni_T_p rfl rfl
theorem s199_1274 : ni_T d 199 1274 [a0, a1, a2, a3] st z h Q = ni_T d 199 1275 [a0, a1, a2, a3] (.int 3 :: st) z h Q := ni_T_p rfl rfl
theorem s199_1275 : ni_T d 199 1275 [a0, a1, a2, a3] (.int y :: .int x :: st) z h Q = ni_T d 199 1276 [a0, a1, a2, a3] (.int (x + y) :: st) z h Q := ni_T_p rfl rfl
theorem s199_1276 : ni_T d 199 1276 [a0, a1, a2, a3] (.int x :: .ref o :: st) z h Q = (ni_okI (h o) x = true ∧ ni_T d 199 1277 [a0, a1, a2, a3] (.int (ni_gi (h o) x) :: st) z h Q) := ni_T_iald rfl
theorem s199_1277 : ni_T (d + 1) 199 1277 [a0, a1, a2, a3] (.int x2 :: .int x1 :: .int x0 :: .ref o :: st) z h Q = (ni_rc (h o) 6 = true ∧ Nat.ble (ni_sw st) 8 = true ∧ ni_T d 100 0 [.ref o, .int x0, .int x1, .int x2] [] z h (ni_K (d + 1) 199 1280 [a0, a1, a2, a3] st z Q)) := ni_T_ce [.ref o, .int x0, .int x1, .int x2] rfl rfl rfl rfl rfl rfl rfl rfl rfl
theorem s199_1280 : ni_T d 199 1280 [a0, a1, .ref o, a3] st z h Q = ni_T d 199 1281 [a0, a1, .ref o, a3] (.ref o :: st) z h Q := ni_T_p rfl rfl
theorem s199_1280N : ni_T d 199 1280 [a0, a1, .null, a3] st z h Q = ni_T d 199 1281 [a0, a1, .null, a3] (.null :: st) z h Q := ni_T_p rfl rfl
theorem s199_1281 : ni_T d 199 1281 [.ref o, a1, a2, a3] st z h Q = ni_T d 199 1282 [.ref o, a1, a2, a3] (.ref o :: st) z h Q := ni_T_p rfl rfl
theorem s199_1282 : ni_T d 199 1282 [a0, a1, a2, .int x] st z h Q = ni_T d 199 1283 [a0, a1, a2, .int x] (.int x :: st) z h Q := ni_T_p rfl rfl
theorem s199_1283 : ni_T d 199 1283 [a0, a1, a2, a3] st z h Q = ni_T d 199 1284 [a0, a1, a2, a3] (.int 1 :: st) z h Q := ni_T_p rfl rfl
theorem s199_1284 : ni_T d 199 1284 [a0, a1, a2, a3] (.int y :: .int x :: st) z h Q = ni_T d 199 1285 [a0, a1, a2, a3] (.int (x + y) :: st) z h Q := ni_T_p rfl rfl
theorem s199_1285 : ni_T d 199 1285 [a0, a1, a2, a3] (.int x :: .ref o :: st) z h Q = (ni_okI (h o) x = true ∧ ni_T d 199 1286 [a0, a1, a2, a3] (.int (ni_gi (h o) x) :: st) z h Q) := ni_T_iald rfl
theorem s199_1286 : ni_T d 199 1286 [.ref o, a1, a2, a3] st z h Q = ni_T d 199 1287 [.ref o, a1, a2, a3] (.ref o :: st) z h Q := ni_T_p rfl rfl
theorem s199_1287 : ni_T d 199 1287 [a0, a1, a2, .int x] st z h Q = ni_T d 199 1288 [a0, a1, a2, .int x] (.int x :: st) z h Q := ni_T_p rfl rfl
theorem s199_1288 : ni_T d 199 1288 [a0, a1, a2, a3] st z h Q = ni_T d 199 1289 [a0, a1, a2, a3] (.int 2 :: st) z h Q := ni_T_p rfl rfl
theorem s199_1289 : ni_T d 199 1289 [a0, a1, a2, a3] (.int y :: .int x :: st) z h Q = ni_T d 199 1290 [a0, a1, a2, a3] (.int (x + y) :: st) z h Q := ni_T_p rfl rfl
theorem s199_1290 : ni_T d 199 1290 [a0, a1, a2, a3] (.int x :: .ref o :: st) z h Q = (ni_okI (h o) x = true ∧ ni_T d 199 1291 [a0, a1, a2, a3] (.int (ni_gi (h o) x) :: st) z h Q) := ni_T_iald rfl
theorem s199_1291 : ni_T d 199 1291 [.ref o, a1, a2, a3] st z h Q = ni_T d 199 1292 [.ref o, a1, a2, a3] (.ref o :: st) z h Q := ni_T_p rfl rfl
theorem s199_1292 : ni_T d 199 1292 [a0, a1, a2, .int x] st z h Q = ni_T d 199 1293 [a0, a1, a2, .int x] (.int x :: st) z h Q := ni_T_p rfl rfl
theorem s199_1293 : ni_T d 199 1293 [a0, a1, a2, a3] st z h Q = ni_T d 199 1294 [a0, a1, a2, a3] (.int 3 :: st) z h Q := ni_T_p rfl rfl
theorem s199_1294 : ni_T d 199 1294 [a0, a1, a2, a3] (.int y :: .int x :: st) z h Q = ni_T d 199 1295 [a0, a1, a2, a3] (.int (x + y) :: st) z h Q := ni_T_p rfl rfl
theorem s199_1295 : ni_T d 199 1295 [a0, a1, a2, a3] (.int x :: .ref o :: st) z h Q = (ni_okI (h o) x = true ∧ ni_T d 199 1296 [a0, a1, a2, a3] (.int (ni_gi (h o) x) :: st) z h Q) := ni_T_iald rfl
theorem s199_1296 : ni_T (d + 1) 199 1296 [a0, a1, a2, a3] (.int x2 :: .int x1 :: .int x0 :: .ref o :: st) z h Q = (ni_rc (h o) 7 = true ∧ Nat.ble (ni_sw st) 8 = true ∧ ni_T d 194 0 [.ref o, .int x0, .int x1, .int x2] [] z h (ni_K (d + 1) 199 1299 [a0, a1, a2, a3] st z Q)) := ni_T_ce [.ref o, .int x0, .int x1, .int x2] rfl rfl rfl rfl rfl rfl rfl rfl rfl
theorem s199_1299 : ni_T d 199 1299 [a0, a1, a2, a3] (.int y :: .int x :: st) z h Q = if x = y then ni_T d 199 1376 [a0, a1, a2, a3] st z h Q else ni_T d 199 1302 [a0, a1, a2, a3] st z h Q := ni_T_b rfl rfl
theorem s199_1302 : ni_T d 199 1302 [a0, a1, a2, a3] st z h Q = ni_T d 199 1303 [a0, a1, a2, a3] (.int 0 :: st) z h Q := ni_T_p rfl rfl
theorem s199_1303 : ni_T d 199 1303 [a0, a1, a2, a3] [.int x] z h Q = (narrow .boolean (.int x) = .int x ∧ Q (some (.int x)) z h) := ni_T_z rfl rfl
theorem s199_1304 : ni_T d 199 1304 [a0, .ref o, a2, a3] st z h Q = ni_T d 199 1305 [a0, .ref o, a2, a3] (.ref o :: st) z h Q := ni_T_p rfl rfl
theorem s199_1304N : ni_T d 199 1304 [a0, .null, a2, a3] st z h Q = ni_T d 199 1305 [a0, .null, a2, a3] (.null :: st) z h Q := ni_T_p rfl rfl
theorem s199_1305 : ni_T d 199 1305 [.ref o, a1, a2, a3] st z h Q = ni_T d 199 1306 [.ref o, a1, a2, a3] (.ref o :: st) z h Q := ni_T_p rfl rfl
theorem s199_1306 : ni_T d 199 1306 [a0, a1, a2, .int x] st z h Q = ni_T d 199 1307 [a0, a1, a2, .int x] (.int x :: st) z h Q := ni_T_p rfl rfl
theorem s199_1307 : ni_T d 199 1307 [a0, a1, a2, a3] st z h Q = ni_T d 199 1308 [a0, a1, a2, a3] (.int 1 :: st) z h Q := ni_T_p rfl rfl
theorem s199_1308 : ni_T d 199 1308 [a0, a1, a2, a3] (.int y :: .int x :: st) z h Q = ni_T d 199 1309 [a0, a1, a2, a3] (.int (x + y) :: st) z h Q := ni_T_p rfl rfl
theorem s199_1309 : ni_T d 199 1309 [a0, a1, a2, a3] (.int x :: .ref o :: st) z h Q = (ni_okI (h o) x = true ∧ ni_T d 199 1310 [a0, a1, a2, a3] (.int (ni_gi (h o) x) :: st) z h Q) := ni_T_iald rfl
theorem s199_1310 : ni_T (d + 1) 199 1310 [a0, a1, a2, a3] (.int x0 :: .ref o :: st) z h Q = (ni_rc (h o) 6 = true ∧ Nat.ble (ni_sw st) 8 = true ∧ ni_T d 101 0 [.ref o, .int x0] [] z h (ni_K (d + 1) 199 1313 [a0, a1, a2, a3] st z Q)) := ni_T_ce [.ref o, .int x0] rfl rfl rfl rfl rfl rfl rfl rfl rfl
theorem s199_1313 : ni_T d 199 1313 [a0, a1, .ref o, a3] st z h Q = ni_T d 199 1314 [a0, a1, .ref o, a3] (.ref o :: st) z h Q := ni_T_p rfl rfl
theorem s199_1313N : ni_T d 199 1313 [a0, a1, .null, a3] st z h Q = ni_T d 199 1314 [a0, a1, .null, a3] (.null :: st) z h Q := ni_T_p rfl rfl
theorem s199_1314 : ni_T d 199 1314 [.ref o, a1, a2, a3] st z h Q = ni_T d 199 1315 [.ref o, a1, a2, a3] (.ref o :: st) z h Q := ni_T_p rfl rfl
theorem s199_1315 : ni_T d 199 1315 [a0, a1, a2, .int x] st z h Q = ni_T d 199 1316 [a0, a1, a2, .int x] (.int x :: st) z h Q := ni_T_p rfl rfl
theorem s199_1316 : ni_T d 199 1316 [a0, a1, a2, a3] st z h Q = ni_T d 199 1317 [a0, a1, a2, a3] (.int 1 :: st) z h Q := ni_T_p rfl rfl
theorem s199_1317 : ni_T d 199 1317 [a0, a1, a2, a3] (.int y :: .int x :: st) z h Q = ni_T d 199 1318 [a0, a1, a2, a3] (.int (x + y) :: st) z h Q := ni_T_p rfl rfl
theorem s199_1318 : ni_T d 199 1318 [a0, a1, a2, a3] (.int x :: .ref o :: st) z h Q = (ni_okI (h o) x = true ∧ ni_T d 199 1319 [a0, a1, a2, a3] (.int (ni_gi (h o) x) :: st) z h Q) := ni_T_iald rfl
theorem s199_1319 : ni_T (d + 1) 199 1319 [a0, a1, a2, a3] (.int x0 :: .ref o :: st) z h Q = (ni_rc (h o) 7 = true ∧ Nat.ble (ni_sw st) 8 = true ∧ ni_T d 195 0 [.ref o, .int x0] [] z h (ni_K (d + 1) 199 1322 [a0, a1, a2, a3] st z Q)) := ni_T_ce [.ref o, .int x0] rfl rfl rfl rfl rfl rfl rfl rfl rfl
theorem s199_1322 : ni_T d 199 1322 [a0, a1, a2, a3] (.int y :: .int x :: st) z h Q = if x = y then ni_T d 199 1376 [a0, a1, a2, a3] st z h Q else ni_T d 199 1325 [a0, a1, a2, a3] st z h Q := ni_T_b rfl rfl
theorem s199_1325 : ni_T d 199 1325 [a0, a1, a2, a3] st z h Q = ni_T d 199 1326 [a0, a1, a2, a3] (.int 0 :: st) z h Q := ni_T_p rfl rfl
theorem s199_1326 : ni_T d 199 1326 [a0, a1, a2, a3] [.int x] z h Q = (narrow .boolean (.int x) = .int x ∧ Q (some (.int x)) z h) := ni_T_z rfl rfl
theorem s199_1327 : ni_T d 199 1327 [a0, .ref o, a2, a3] st z h Q = ni_T d 199 1328 [a0, .ref o, a2, a3] (.ref o :: st) z h Q := ni_T_p rfl rfl
theorem s199_1327N : ni_T d 199 1327 [a0, .null, a2, a3] st z h Q = ni_T d 199 1328 [a0, .null, a2, a3] (.null :: st) z h Q := ni_T_p rfl rfl
theorem s199_1328 : ni_T (d + 1) 199 1328 [a0, a1, a2, a3] (.ref o :: st) z h Q = (ni_rc (h o) 6 = true ∧ Nat.ble (ni_sw st) 8 = true ∧ ni_T d 102 0 [.ref o] [] z h (ni_K (d + 1) 199 1331 [a0, a1, a2, a3] st z Q)) := ni_T_ce [.ref o] rfl rfl rfl rfl rfl rfl rfl rfl rfl
theorem s199_1331 : ni_T d 199 1331 [a0, a1, .ref o, a3] st z h Q = ni_T d 199 1332 [a0, a1, .ref o, a3] (.ref o :: st) z h Q := ni_T_p rfl rfl
theorem s199_1331N : ni_T d 199 1331 [a0, a1, .null, a3] st z h Q = ni_T d 199 1332 [a0, a1, .null, a3] (.null :: st) z h Q := ni_T_p rfl rfl
theorem s199_1332 : ni_T (d + 1) 199 1332 [a0, a1, a2, a3] (.ref o :: st) z h Q = (ni_rc (h o) 7 = true ∧ Nat.ble (ni_sw st) 8 = true ∧ ni_T d 196 0 [.ref o] [] z h (ni_K (d + 1) 199 1335 [a0, a1, a2, a3] st z Q)) := ni_T_ce [.ref o] rfl rfl rfl rfl rfl rfl rfl rfl rfl
theorem s199_1335 : ni_T d 199 1335 [a0, a1, a2, a3] (.int y :: .int x :: st) z h Q = if x = y then ni_T d 199 1376 [a0, a1, a2, a3] st z h Q else ni_T d 199 1338 [a0, a1, a2, a3] st z h Q := ni_T_b rfl rfl
theorem s199_1338 : ni_T d 199 1338 [a0, a1, a2, a3] st z h Q = ni_T d 199 1339 [a0, a1, a2, a3] (.int 0 :: st) z h Q := ni_T_p rfl rfl
theorem s199_1339 : ni_T d 199 1339 [a0, a1, a2, a3] [.int x] z h Q = (narrow .boolean (.int x) = .int x ∧ Q (some (.int x)) z h) := ni_T_z rfl rfl
theorem s199_1340 : ni_T d 199 1340 [a0, .ref o, a2, a3] st z h Q = ni_T d 199 1341 [a0, .ref o, a2, a3] (.ref o :: st) z h Q := ni_T_p rfl rfl
theorem s199_1340N : ni_T d 199 1340 [a0, .null, a2, a3] st z h Q = ni_T d 199 1341 [a0, .null, a2, a3] (.null :: st) z h Q := ni_T_p rfl rfl
theorem s199_1341 : ni_T (d + 1) 199 1341 [a0, a1, a2, a3] (.ref o :: st) z h Q = (ni_rc (h o) 6 = true ∧ Nat.ble (ni_sw st) 8 = true ∧ ni_T d 103 0 [.ref o, .retAddr 0] [] z h (ni_K (d + 1) 199 1344 [a0, a1, a2, a3] st z Q)) := ni_T_ce [.ref o] rfl rfl rfl rfl rfl rfl rfl rfl rfl
theorem s199_1344 : ni_T d 199 1344 [a0, a1, .ref o, a3] st z h Q = ni_T d 199 1345 [a0, a1, .ref o, a3] (.ref o :: st) z h Q := ni_T_p rfl rfl
theorem s199_1344N : ni_T d 199 1344 [a0, a1, .null, a3] st z h Q = ni_T d 199 1345 [a0, a1, .null, a3] (.null :: st) z h Q := ni_T_p rfl rfl
theorem s199_1345 : ni_T (d + 1) 199 1345 [a0, a1, a2, a3] (.ref o :: st) z h Q = (ni_rc (h o) 7 = true ∧ Nat.ble (ni_sw st) 8 = true ∧ ni_T d 197 0 [.ref o, .retAddr 0] [] z h (ni_K (d + 1) 199 1348 [a0, a1, a2, a3] st z Q)) := ni_T_ce [.ref o] rfl rfl rfl rfl rfl rfl rfl rfl rfl
theorem s199_1348 : ni_T d 199 1348 [a0, a1, a2, a3] (.int y :: .int x :: st) z h Q = if x = y then ni_T d 199 1376 [a0, a1, a2, a3] st z h Q else ni_T d 199 1351 [a0, a1, a2, a3] st z h Q := ni_T_b rfl rfl
theorem s199_1351 : ni_T d 199 1351 [a0, a1, a2, a3] st z h Q = ni_T d 199 1352 [a0, a1, a2, a3] (.int 0 :: st) z h Q := ni_T_p rfl rfl
theorem s199_1352 : ni_T d 199 1352 [a0, a1, a2, a3] [.int x] z h Q = (narrow .boolean (.int x) = .int x ∧ Q (some (.int x)) z h) := ni_T_z rfl rfl
theorem s199_1353 : ni_T d 199 1353 [a0, .ref o, a2, a3] st z h Q = ni_T d 199 1354 [a0, .ref o, a2, a3] (.ref o :: st) z h Q := ni_T_p rfl rfl
theorem s199_1353N : ni_T d 199 1353 [a0, .null, a2, a3] st z h Q = ni_T d 199 1354 [a0, .null, a2, a3] (.null :: st) z h Q := ni_T_p rfl rfl
theorem s199_1354 : ni_T d 199 1354 [.ref o, a1, a2, a3] st z h Q = ni_T d 199 1355 [.ref o, a1, a2, a3] (.ref o :: st) z h Q := ni_T_p rfl rfl
theorem s199_1355 : ni_T d 199 1355 [a0, a1, a2, .int x] st z h Q = ni_T d 199 1356 [a0, a1, a2, .int x] (.int x :: st) z h Q := ni_T_p rfl rfl
theorem s199_1356 : ni_T d 199 1356 [a0, a1, a2, a3] st z h Q = ni_T d 199 1357 [a0, a1, a2, a3] (.int 1 :: st) z h Q := ni_T_p rfl rfl
theorem s199_1357 : ni_T d 199 1357 [a0, a1, a2, a3] (.int y :: .int x :: st) z h Q = ni_T d 199 1358 [a0, a1, a2, a3] (.int (x + y) :: st) z h Q := ni_T_p rfl rfl
theorem s199_1358 : ni_T d 199 1358 [a0, a1, a2, a3] (.int x :: .ref o :: st) z h Q = (ni_okI (h o) x = true ∧ ni_T d 199 1359 [a0, a1, a2, a3] (.int (ni_gi (h o) x) :: st) z h Q) := ni_T_iald rfl
theorem s199_1359 : ni_T (d + 1) 199 1359 [a0, a1, a2, a3] (.int x0 :: .ref o :: st) z h Q = (ni_rc (h o) 6 = true ∧ Nat.ble (ni_sw st) 8 = true ∧ ni_T d 104 0 [.ref o, .int x0, .retAddr 0] [] z h (ni_K (d + 1) 199 1362 [a0, a1, a2, a3] st z Q)) := ni_T_ce [.ref o, .int x0] rfl rfl rfl rfl rfl rfl rfl rfl rfl
theorem s199_1362 : ni_T d 199 1362 [a0, a1, .ref o, a3] st z h Q = ni_T d 199 1363 [a0, a1, .ref o, a3] (.ref o :: st) z h Q := ni_T_p rfl rfl
theorem s199_1362N : ni_T d 199 1362 [a0, a1, .null, a3] st z h Q = ni_T d 199 1363 [a0, a1, .null, a3] (.null :: st) z h Q := ni_T_p rfl rfl
theorem s199_1363 : ni_T d 199 1363 [.ref o, a1, a2, a3] st z h Q = ni_T d 199 1364 [.ref o, a1, a2, a3] (.ref o :: st) z h Q := ni_T_p rfl rfl
theorem s199_1364 : ni_T d 199 1364 [a0, a1, a2, .int x] st z h Q = ni_T d 199 1365 [a0, a1, a2, .int x] (.int x :: st) z h Q := ni_T_p rfl rfl
theorem s199_1365 : ni_T d 199 1365 [a0, a1, a2, a3] st z h Q = ni_T d 199 1366 [a0, a1, a2, a3] (.int 1 :: st) z h Q := ni_T_p rfl rfl
theorem s199_1366 : ni_T d 199 1366 [a0, a1, a2, a3] (.int y :: .int x :: st) z h Q = ni_T d 199 1367 [a0, a1, a2, a3] (.int (x + y) :: st) z h Q := ni_T_p rfl rfl
theorem s199_1367 : ni_T d 199 1367 [a0, a1, a2, a3] (.int x :: .ref o :: st) z h Q = (ni_okI (h o) x = true ∧ ni_T d 199 1368 [a0, a1, a2, a3] (.int (ni_gi (h o) x) :: st) z h Q) := ni_T_iald rfl
theorem s199_1368 : ni_T (d + 1) 199 1368 [a0, a1, a2, a3] (.int x0 :: .ref o :: st) z h Q = (ni_rc (h o) 7 = true ∧ Nat.ble (ni_sw st) 8 = true ∧ ni_T d 198 0 [.ref o, .int x0, .retAddr 0, .retAddr 0] [] z h (ni_K (d + 1) 199 1371 [a0, a1, a2, a3] st z Q)) := ni_T_ce [.ref o, .int x0] rfl rfl rfl rfl rfl rfl rfl rfl rfl
theorem s199_1371 : ni_T d 199 1371 [a0, a1, a2, a3] (.int y :: .int x :: st) z h Q = if x = y then ni_T d 199 1376 [a0, a1, a2, a3] st z h Q else ni_T d 199 1374 [a0, a1, a2, a3] st z h Q := ni_T_b rfl rfl
theorem s199_1374 : ni_T d 199 1374 [a0, a1, a2, a3] st z h Q = ni_T d 199 1375 [a0, a1, a2, a3] (.int 0 :: st) z h Q := ni_T_p rfl rfl
theorem s199_1375 : ni_T d 199 1375 [a0, a1, a2, a3] [.int x] z h Q = (narrow .boolean (.int x) = .int x ∧ Q (some (.int x)) z h) := ni_T_z rfl rfl
theorem s199_1376 : ni_T d 199 1376 [a0, a1, a2, .int x] st z h Q = ni_T d 199 1379 [a0, a1, ni_kl a2, .int (x + 6)] st z h Q := ni_T_p rfl rfl
theorem s199_1379 : ni_T d 199 1379 [a0, a1, a2, a3] st z h Q = ni_T d 199 18 [a0, a1, a2, a3] st z h Q := ni_T_p rfl rfl
theorem s199_1382 : ni_T d 199 1382 [a0, a1, a2, a3] st z h Q = ni_T d 199 1383 [a0, a1, a2, a3] (.int 1 :: st) z h Q := ni_T_p rfl rfl
theorem s199_1383 : ni_T d 199 1383 [a0, a1, a2, a3] [.int x] z h Q = (narrow .boolean (.int x) = .int x ∧ Q (some (.int x)) z h) := ni_T_z rfl rfl
theorem s200_0 : ni_T d 200 0 [.int x] st z h Q = ni_T d 200 1 [.int x] (.int x :: st) z h Q := ni_T_p rfl rfl
theorem s200_1 : ni_T d 200 1 [.int x] st z h Q = ni_T d 200 2 [.int x] (.int x :: st) z h Q := ni_T_p rfl rfl
theorem s200_2 : ni_T d 200 2 [a0] st z h Q = ni_T d 200 3 [a0] (.int 1 :: st) z h Q := ni_T_p rfl rfl
theorem s200_3 : ni_T d 200 3 [a0] (.int y :: .int x :: st) z h Q = ni_T d 200 4 [a0] (.int ((x.toUInt32 >>> (y.toUInt32 &&& Int32.toUInt32 31)).toInt32) :: st) z h Q := ni_T_p rfl rfl
theorem s200_4 : ni_T d 200 4 [a0] st z h Q = ni_T d 200 7 [a0] (.int 1431655765 :: st) z h Q := ni_T_hse rfl rfl rfl rfl
theorem s200_7 : ni_T d 200 7 [a0] (.int y :: .int x :: st) z h Q = ni_T d 200 8 [a0] (.int (x &&& y) :: st) z h Q := ni_T_p rfl rfl
theorem s200_8 : ni_T d 200 8 [a0] (.int y :: .int x :: st) z h Q = ni_T d 200 9 [a0] (.int (x - y) :: st) z h Q := ni_T_p rfl rfl
theorem s200_9 : ni_T d 200 9 [a0] (.int x :: st) z h Q = ni_T d 200 10 [.int x] st z h Q := ni_T_p rfl rfl
theorem s200_10 : ni_T d 200 10 [.int x] st z h Q = ni_T d 200 11 [.int x] (.int x :: st) z h Q := ni_T_p rfl rfl
theorem s200_11 : ni_T d 200 11 [a0] st z h Q = ni_T d 200 14 [a0] (.int 858993459 :: st) z h Q := ni_T_hse rfl rfl rfl rfl
theorem s200_14 : ni_T d 200 14 [a0] (.int y :: .int x :: st) z h Q = ni_T d 200 15 [a0] (.int (x &&& y) :: st) z h Q := ni_T_p rfl rfl
theorem s200_15 : ni_T d 200 15 [.int x] st z h Q = ni_T d 200 16 [.int x] (.int x :: st) z h Q := ni_T_p rfl rfl
theorem s200_16 : ni_T d 200 16 [a0] st z h Q = ni_T d 200 17 [a0] (.int 2 :: st) z h Q := ni_T_p rfl rfl
theorem s200_17 : ni_T d 200 17 [a0] (.int y :: .int x :: st) z h Q = ni_T d 200 18 [a0] (.int ((x.toUInt32 >>> (y.toUInt32 &&& Int32.toUInt32 31)).toInt32) :: st) z h Q := ni_T_p rfl rfl
theorem s200_18 : ni_T d 200 18 [a0] st z h Q = ni_T d 200 21 [a0] (.int 858993459 :: st) z h Q := ni_T_hse rfl rfl rfl rfl
theorem s200_21 : ni_T d 200 21 [a0] (.int y :: .int x :: st) z h Q = ni_T d 200 22 [a0] (.int (x &&& y) :: st) z h Q := ni_T_p rfl rfl
theorem s200_22 : ni_T d 200 22 [a0] (.int y :: .int x :: st) z h Q = ni_T d 200 23 [a0] (.int (x + y) :: st) z h Q := ni_T_p rfl rfl
theorem s200_23 : ni_T d 200 23 [a0] (.int x :: st) z h Q = ni_T d 200 24 [.int x] st z h Q := ni_T_p rfl rfl
theorem s200_24 : ni_T d 200 24 [.int x] st z h Q = ni_T d 200 25 [.int x] (.int x :: st) z h Q := ni_T_p rfl rfl
theorem s200_25 : ni_T d 200 25 [.int x] st z h Q = ni_T d 200 26 [.int x] (.int x :: st) z h Q := ni_T_p rfl rfl
theorem s200_26 : ni_T d 200 26 [a0] st z h Q = ni_T d 200 27 [a0] (.int 4 :: st) z h Q := ni_T_p rfl rfl
theorem s200_27 : ni_T d 200 27 [a0] (.int y :: .int x :: st) z h Q = ni_T d 200 28 [a0] (.int ((x.toUInt32 >>> (y.toUInt32 &&& Int32.toUInt32 31)).toInt32) :: st) z h Q := ni_T_p rfl rfl
theorem s200_28 : ni_T d 200 28 [a0] (.int y :: .int x :: st) z h Q = ni_T d 200 29 [a0] (.int (x + y) :: st) z h Q := ni_T_p rfl rfl
theorem s200_29 : ni_T d 200 29 [a0] st z h Q = ni_T d 200 32 [a0] (.int 252645135 :: st) z h Q := ni_T_hse rfl rfl rfl rfl
theorem s200_32 : ni_T d 200 32 [a0] (.int y :: .int x :: st) z h Q = ni_T d 200 33 [a0] (.int (x &&& y) :: st) z h Q := ni_T_p rfl rfl
theorem s200_33 : ni_T d 200 33 [a0] (.int x :: st) z h Q = ni_T d 200 34 [.int x] st z h Q := ni_T_p rfl rfl
theorem s200_34 : ni_T d 200 34 [.int x] st z h Q = ni_T d 200 35 [.int x] (.int x :: st) z h Q := ni_T_p rfl rfl
theorem s200_35 : ni_T d 200 35 [.int x] st z h Q = ni_T d 200 36 [.int x] (.int x :: st) z h Q := ni_T_p rfl rfl
theorem s200_36 : ni_T d 200 36 [a0] st z h Q = ni_T d 200 38 [a0] (.int 8 :: st) z h Q := ni_T_p rfl rfl
theorem s200_38 : ni_T d 200 38 [a0] (.int y :: .int x :: st) z h Q = ni_T d 200 39 [a0] (.int ((x.toUInt32 >>> (y.toUInt32 &&& Int32.toUInt32 31)).toInt32) :: st) z h Q := ni_T_p rfl rfl
theorem s200_39 : ni_T d 200 39 [a0] (.int y :: .int x :: st) z h Q = ni_T d 200 40 [a0] (.int (x + y) :: st) z h Q := ni_T_p rfl rfl
theorem s200_40 : ni_T d 200 40 [a0] (.int x :: st) z h Q = ni_T d 200 41 [.int x] st z h Q := ni_T_p rfl rfl
theorem s200_41 : ni_T d 200 41 [.int x] st z h Q = ni_T d 200 42 [.int x] (.int x :: st) z h Q := ni_T_p rfl rfl
theorem s200_42 : ni_T d 200 42 [.int x] st z h Q = ni_T d 200 43 [.int x] (.int x :: st) z h Q := ni_T_p rfl rfl
theorem s200_43 : ni_T d 200 43 [a0] st z h Q = ni_T d 200 45 [a0] (.int 16 :: st) z h Q := ni_T_p rfl rfl
theorem s200_45 : ni_T d 200 45 [a0] (.int y :: .int x :: st) z h Q = ni_T d 200 46 [a0] (.int ((x.toUInt32 >>> (y.toUInt32 &&& Int32.toUInt32 31)).toInt32) :: st) z h Q := ni_T_p rfl rfl
theorem s200_46 : ni_T d 200 46 [a0] (.int y :: .int x :: st) z h Q = ni_T d 200 47 [a0] (.int (x + y) :: st) z h Q := ni_T_p rfl rfl
theorem s200_47 : ni_T d 200 47 [a0] (.int x :: st) z h Q = ni_T d 200 48 [.int x] st z h Q := ni_T_p rfl rfl
theorem s200_48 : ni_T d 200 48 [.int x] st z h Q = ni_T d 200 49 [.int x] (.int x :: st) z h Q := ni_T_p rfl rfl
theorem s200_49 : ni_T d 200 49 [a0] st z h Q = ni_T d 200 51 [a0] (.int 63 :: st) z h Q := ni_T_p rfl rfl
theorem s200_51 : ni_T d 200 51 [a0] (.int y :: .int x :: st) z h Q = ni_T d 200 52 [a0] (.int (x &&& y) :: st) z h Q := ni_T_p rfl rfl
theorem s200_52 : ni_T d 200 52 [a0] [.int x] z h Q = Q (some (.int x)) z h := ni_T_i rfl rfl
theorem s201_0 : ni_T d 201 0 [.ref o] st z h Q = ni_T d 201 1 [.ref o] (.ref o :: st) z h Q := ni_T_p rfl rfl
theorem s201_1 : ni_T d 201 1 [a0] (.ref o :: st) z h Q = (ni_is (h o) 100 0 = true ∧ ni_T d 201 4 [a0] (ni_gv (h o) 0 :: st) z h Q) := ni_T_getf rfl
theorem s201_4 : ni_T d 201 4 [a0] (.ref o :: st) z h Q = (ni_arr (h o) = true ∧ ni_T d 201 5 [a0] (.int (Int32.ofNat (ni_len (h o))) :: st) z h Q) := ni_T_alen rfl
theorem s201_5 : ni_T d 201 5 [.ref o] st z h Q = ni_T d 201 6 [.ref o] (.ref o :: st) z h Q := ni_T_p rfl rfl
theorem s201_6 : ni_T (d + 1) 201 6 [a0] (.ref o :: st) z h Q = (ni_rc (h o) 100 = true ∧ Nat.ble (ni_sw st) 8 = true ∧ ni_T d 203 0 [.ref o] [] z h (ni_K (d + 1) 201 9 [a0] st z Q)) := ni_T_ce [.ref o] rfl rfl rfl rfl rfl rfl rfl rfl rfl
theorem s201_9 : ni_T d 201 9 [a0] (.int y :: .int x :: st) z h Q = ni_T d 201 10 [a0] (.int (x >>> (y &&& 31)) :: st) z h Q := ni_T_p rfl rfl
theorem s201_10 : ni_T d 201 10 [a0] [.int x] z h Q = Q (some (.int x)) z h := ni_T_i rfl rfl
theorem s202_0 : ni_T d 202 0 [.ref o, a1] st z h Q = ni_T d 202 1 [.ref o, a1] (.ref o :: st) z h Q := ni_T_p rfl rfl
theorem s202_1 : ni_T (d + 1) 202 1 [a0, a1] (.ref o :: st) z h Q = (ni_rc (h o) 100 = true ∧ Nat.ble (ni_sw st) 8 = true ∧ ni_T d 204 0 [.ref o] [] z h (ni_K (d + 1) 202 4 [a0, a1] st z Q)) := ni_T_ce [.ref o] rfl rfl rfl rfl rfl rfl rfl rfl rfl
theorem s202_4 : ni_T d 202 4 [a0, a1] (.int x :: st) z h Q = if x = 0 then ni_T d 202 16 [a0, a1] st z h Q else ni_T d 202 7 [a0, a1] st z h Q := ni_T_b rfl rfl
theorem s202_7 : ni_T d 202 7 [.ref o, a1] st z h Q = ni_T d 202 8 [.ref o, a1] (.ref o :: st) z h Q := ni_T_p rfl rfl
theorem s202_8 : ni_T d 202 8 [a0, a1] (.ref o :: st) z h Q = (ni_is (h o) 100 0 = true ∧ ni_T d 202 11 [a0, a1] (ni_gv (h o) 0 :: st) z h Q) := ni_T_getf rfl
theorem s202_11 : ni_T d 202 11 [a0, .int x] st z h Q = ni_T d 202 12 [a0, .int x] (.int x :: st) z h Q := ni_T_p rfl rfl
theorem s202_12 : ni_T (d + 1) 202 12 [a0, a1] (.int x1 :: .ref o20 :: st) z h Q = (Nat.ble (ni_sw st) 8 = true ∧ ni_T d 206 0 [.ref o20, .int x1] [] z h (ni_K (d + 1) 202 15 [a0, a1] st z Q)) := ni_T_cse [.ref o20, .int x1] rfl rfl rfl rfl rfl rfl rfl rfl rfl
theorem s202_12N0 : ni_T (d + 1) 202 12 [a0, a1] (.int x1 :: .null :: st) z h Q = (Nat.ble (ni_sw st) 8 = true ∧ ni_T d 206 0 [.null, .int x1] [] z h (ni_K (d + 1) 202 15 [a0, a1] st z Q)) := ni_T_cse [.null, .int x1] rfl rfl rfl rfl rfl rfl rfl rfl rfl
theorem s202_15 : ni_T d 202 15 [a0, a1] [.int x] z h Q = (narrow .char (.int x) = .int x ∧ Q (some (.int x)) z h) := ni_T_z rfl rfl
theorem s202_16 : ni_T d 202 16 [.ref o, a1] st z h Q = ni_T d 202 17 [.ref o, a1] (.ref o :: st) z h Q := ni_T_p rfl rfl
theorem s202_17 : ni_T d 202 17 [a0, a1] (.ref o :: st) z h Q = (ni_is (h o) 100 0 = true ∧ ni_T d 202 20 [a0, a1] (ni_gv (h o) 0 :: st) z h Q) := ni_T_getf rfl
theorem s202_20 : ni_T d 202 20 [a0, .int x] st z h Q = ni_T d 202 21 [a0, .int x] (.int x :: st) z h Q := ni_T_p rfl rfl
theorem s202_24 : ni_T d 202 24 [a0, a1] [.int x] z h Q = (narrow .char (.int x) = .int x ∧ Q (some (.int x)) z h) := ni_T_z rfl rfl
theorem s203_0 : ni_T d 203 0 [a0] st z h Q = ni_T d 203 3 [a0] (.int 1 :: st) z h Q := ni_T_hse rfl rfl rfl rfl
theorem s203_3 : ni_T d 203 3 [a0] (.int x :: st) z h Q = if x = 0 then ni_T d 203 13 [a0] st z h Q else ni_T d 203 6 [a0] st z h Q := ni_T_b rfl rfl
theorem s203_6 : ni_T d 203 6 [.ref o] st z h Q = ni_T d 203 7 [.ref o] (.ref o :: st) z h Q := ni_T_p rfl rfl
theorem s203_7 : ni_T d 203 7 [a0] (.ref o :: st) z h Q = (ni_is (h o) 100 1 = true ∧ ni_T d 203 10 [a0] (ni_gv (h o) 1 :: st) z h Q) := ni_T_getf rfl
theorem s203_10 : ni_T d 203 10 [a0] st z h Q = ni_T d 203 14 [a0] st z h Q := ni_T_p rfl rfl
theorem s203_13 : ni_T d 203 13 [a0] st z h Q = ni_T d 203 14 [a0] (.int 1 :: st) z h Q := ni_T_p rfl rfl
theorem s203_14 : ni_T d 203 14 [a0] [.int x] z h Q = (narrow .byte (.int x) = .int x ∧ Q (some (.int x)) z h) := ni_T_z rfl rfl
theorem s204_0 : ni_T d 204 0 [a0] st z h Q = ni_T d 204 3 [a0] (.int 1 :: st) z h Q := ni_T_hse rfl rfl rfl rfl
theorem s204_3 : ni_T d 204 3 [a0] (.int x :: st) z h Q = if x = 0 then ni_T d 204 17 [a0] st z h Q else ni_T d 204 6 [a0] st z h Q := ni_T_b rfl rfl
theorem s204_6 : ni_T d 204 6 [.ref o] st z h Q = ni_T d 204 7 [.ref o] (.ref o :: st) z h Q := ni_T_p rfl rfl
theorem s204_7 : ni_T d 204 7 [a0] (.ref o :: st) z h Q = (ni_is (h o) 100 1 = true ∧ ni_T d 204 10 [a0] (ni_gv (h o) 1 :: st) z h Q) := ni_T_getf rfl
theorem s204_10 : ni_T d 204 10 [a0] (.int x :: st) z h Q = if x = 0 then ni_T d 204 13 [a0] st z h Q else ni_T d 204 17 [a0] st z h Q := ni_T_b rfl rfl
theorem s204_13 : ni_T d 204 13 [a0] st z h Q = ni_T d 204 14 [a0] (.int 1 :: st) z h Q := ni_T_p rfl rfl
theorem s204_14 : ni_T d 204 14 [a0] st z h Q = ni_T d 204 18 [a0] st z h Q := ni_T_p rfl rfl
theorem s204_17 : ni_T d 204 17 [a0] st z h Q = ni_T d 204 18 [a0] (.int 0 :: st) z h Q := ni_T_p rfl rfl
theorem s204_18 : ni_T d 204 18 [a0] [.int x] z h Q = (narrow .boolean (.int x) = .int x ∧ Q (some (.int x)) z h) := ni_T_z rfl rfl
theorem s205_0 : ni_T d 205 0 [.int x, a1] st z h Q = ni_T d 205 1 [.int x, a1] (.int x :: st) z h Q := ni_T_p rfl rfl
theorem s205_1 : ni_T d 205 1 [a0, .int x] st z h Q = ni_T d 205 2 [a0, .int x] (.int x :: st) z h Q := ni_T_p rfl rfl
theorem s205_2 : ni_T d 205 2 [a0, a1] st z h Q = ni_T d 205 5 [a0, a1] (.retAddr 7 :: st) z h Q := ni_T_hse rfl rfl rfl rfl
theorem s205_5 : ni_T (d + 1) 205 5 [a0, a1] (.ref o22 :: .int x1 :: .int x0 :: st) z h Q = (Nat.ble (ni_sw st) 8 = true ∧ ni_T d 207 0 [.int x0, .int x1, .ref o22] [] z h (ni_K (d + 1) 205 8 [a0, a1] st z Q)) := ni_T_cse [.int x0, .int x1, .ref o22] rfl rfl rfl rfl rfl rfl rfl rfl rfl
theorem s205_5N2 : ni_T (d + 1) 205 5 [a0, a1] (.null :: .int x1 :: .int x0 :: st) z h Q = (Nat.ble (ni_sw st) 8 = true ∧ ni_T d 207 0 [.int x0, .int x1, .null] [] z h (ni_K (d + 1) 205 8 [a0, a1] st z Q)) := ni_T_cse [.int x0, .int x1, .null] rfl rfl rfl rfl rfl rfl rfl rfl rfl
theorem s205_8 : ni_T d 205 8 [a0, a1] (.ref o :: st) z h Q = ni_T d 205 9 [a0, a1] st z h Q := ni_T_p rfl rfl
theorem s205_8i : ni_T d 205 8 [a0, a1] (.int x :: st) z h Q = ni_T d 205 9 [a0, a1] st z h Q := ni_T_p rfl rfl
theorem s205_9 : ni_T d 205 9 [a0, a1] [] z h Q = Q none z h := ni_T_v rfl rfl
theorem s206_0 : ni_T d 206 0 [a0, .int x] st z h Q = ni_T d 206 1 [a0, .int x] (.int x :: st) z h Q := ni_T_p rfl rfl
theorem s206_1 : ni_T d 206 1 [.ref o, a1] st z h Q = ni_T d 206 2 [.ref o, a1] (.ref o :: st) z h Q := ni_T_p rfl rfl
theorem s206_2 : ni_T d 206 2 [a0, a1] (.ref o :: st) z h Q = (ni_arr (h o) = true ∧ ni_T d 206 3 [a0, a1] (.int (Int32.ofNat (ni_len (h o))) :: st) z h Q) := ni_T_alen rfl
theorem s206_3 : ni_T (d + 1) 206 3 [a0, a1] (.int x1 :: .int x0 :: st) z h Q = (Nat.ble (ni_sw st) 8 = true ∧ ni_T d 205 0 [.int x0, .int x1] [] z h (ni_K (d + 1) 206 6 [a0, a1] st z Q)) := ni_T_cse [.int x0, .int x1] rfl rfl rfl rfl rfl rfl rfl rfl rfl
theorem s206_6 : ni_T d 206 6 [.ref o, a1] st z h Q = ni_T d 206 7 [.ref o, a1] (.ref o :: st) z h Q := ni_T_p rfl rfl
theorem s206_7 : ni_T d 206 7 [a0, .int x] st z h Q = ni_T d 206 8 [a0, .int x] (.int x :: st) z h Q := ni_T_p rfl rfl
theorem s206_8 : ni_T d 206 8 [a0, a1] (.int x :: .ref o :: st) z h Q = (ni_okB (h o) x = true ∧ ni_T d 206 9 [a0, a1] (.int (ni_gi (h o) x) :: st) z h Q) := ni_T_bald rfl
theorem s206_9 : ni_T d 206 9 [a0, a1] st z h Q = ni_T d 206 12 [a0, a1] (.int 255 :: st) z h Q := ni_T_p rfl rfl
theorem s206_12 : ni_T d 206 12 [a0, a1] (.int y :: .int x :: st) z h Q = ni_T d 206 13 [a0, a1] (.int (x &&& y) :: st) z h Q := ni_T_p rfl rfl
theorem s206_13 : ni_T d 206 13 [a0, a1] (.int x :: st) z h Q = ni_T d 206 14 [a0, a1] (.int (x.toUInt32 % 65536).toInt32 :: st) z h Q := ni_T_p rfl rfl
theorem s206_14 : ni_T d 206 14 [a0, a1] [.int x] z h Q = (narrow .char (.int x) = .int x ∧ Q (some (.int x)) z h) := ni_T_z rfl rfl
theorem s207_0 : ni_T d 207 0 [.int x, a1, a2] st z h Q = ni_T d 207 1 [.int x, a1, a2] (.int x :: st) z h Q := ni_T_p rfl rfl
theorem s207_1 : ni_T d 207 1 [a0, a1, a2] (.int x :: st) z h Q = if x < 0 then ni_T d 207 9 [a0, a1, a2] st z h Q else ni_T d 207 4 [a0, a1, a2] st z h Q := ni_T_b rfl rfl
theorem s207_4 : ni_T d 207 4 [.int x, a1, a2] st z h Q = ni_T d 207 5 [.int x, a1, a2] (.int x :: st) z h Q := ni_T_p rfl rfl
theorem s207_5 : ni_T d 207 5 [a0, .int x, a2] st z h Q = ni_T d 207 6 [a0, .int x, a2] (.int x :: st) z h Q := ni_T_p rfl rfl
theorem s207_6 : ni_T d 207 6 [a0, a1, a2] (.int y :: .int x :: st) z h Q = if x < y then ni_T d 207 16 [a0, a1, a2] st z h Q else ni_T d 207 9 [a0, a1, a2] st z h Q := ni_T_b rfl rfl
theorem s207_9 : ni_T d 207 9 [a0, a1, .ref o] st z h Q = ni_T d 207 10 [a0, a1, .ref o] (.ref o :: st) z h Q := ni_T_p rfl rfl
theorem s207_9N : ni_T d 207 9 [a0, a1, .null] st z h Q = ni_T d 207 10 [a0, a1, .null] (.null :: st) z h Q := ni_T_p rfl rfl
theorem s207_10 : ni_T d 207 10 [.int x, a1, a2] st z h Q = ni_T d 207 11 [.int x, a1, a2] (.int x :: st) z h Q := ni_T_p rfl rfl
theorem s207_11 : ni_T d 207 11 [a0, .int x, a2] st z h Q = ni_T d 207 12 [a0, .int x, a2] (.int x :: st) z h Q := ni_T_p rfl rfl
theorem s207_16 : ni_T d 207 16 [.int x, a1, a2] st z h Q = ni_T d 207 17 [.int x, a1, a2] (.int x :: st) z h Q := ni_T_p rfl rfl
theorem s207_17 : ni_T d 207 17 [a0, a1, a2] [.int x] z h Q = Q (some (.int x)) z h := ni_T_i rfl rfl
theorem s208_0 : ni_T d 208 0 [a0, a1, a2, a3, a4] st z h Q = ni_T d 208 1 [a0, a1, a2, a3, a4] (.int 0 :: st) z h Q := ni_T_p rfl rfl
theorem s208_1 : ni_T d 208 1 [a0, a1, a2, a3, a4] (.int x :: st) z h Q = ni_T d 208 2 [a0, a1, ni_kl a2, .int x, a4] st z h Q := ni_T_p rfl rfl
theorem s208_2 : ni_T d 208 2 [.ref o, a1, a2, a3, a4] st z h Q = ni_T d 208 3 [.ref o, a1, a2, a3, a4] (.ref o :: st) z h Q := ni_T_p rfl rfl
theorem s208_2N : ni_T d 208 2 [.null, a1, a2, a3, a4] st z h Q = ni_T d 208 3 [.null, a1, a2, a3, a4] (.null :: st) z h Q := ni_T_p rfl rfl
theorem s208_3 : ni_T d 208 3 [a0, a1, a2, a3, a4] (.ref o :: st) z h Q = (ni_arr (h o) = true ∧ ni_T d 208 4 [a0, a1, a2, a3, a4] (.int (Int32.ofNat (ni_len (h o))) :: st) z h Q) := ni_T_alen rfl
theorem s208_4 : ni_T d 208 4 [a0, a1, a2, a3, a4] (.int x :: st) z h Q = ni_T d 208 6 [a0, a1, a2, ni_kl a3, .int x] st z h Q := ni_T_p rfl rfl
theorem s208_6 : ni_T d 208 6 [a0, a1, a2, .int x, a4] st z h Q = ni_T d 208 7 [a0, a1, a2, .int x, a4] (.int x :: st) z h Q := ni_T_p rfl rfl
theorem s208_7 : ni_T d 208 7 [a0, a1, a2, a3, .int x] st z h Q = ni_T d 208 9 [a0, a1, a2, a3, .int x] (.int x :: st) z h Q := ni_T_p rfl rfl
theorem s208_9 : ni_T d 208 9 [a0, a1, a2, a3, a4] (.int y :: .int x :: st) z h Q = if y ≤ x then ni_T d 208 22 [a0, a1, a2, a3, a4] st z h Q else ni_T d 208 12 [a0, a1, a2, a3, a4] st z h Q := ni_T_b rfl rfl
theorem s208_12 : ni_T d 208 12 [.ref o, a1, a2, a3, a4] st z h Q = ni_T d 208 13 [.ref o, a1, a2, a3, a4] (.ref o :: st) z h Q := ni_T_p rfl rfl
theorem s208_12N : ni_T d 208 12 [.null, a1, a2, a3, a4] st z h Q = ni_T d 208 13 [.null, a1, a2, a3, a4] (.null :: st) z h Q := ni_T_p rfl rfl
theorem s208_13 : ni_T d 208 13 [a0, a1, a2, .int x, a4] st z h Q = ni_T d 208 14 [a0, a1, a2, .int x, a4] (.int x :: st) z h Q := ni_T_p rfl rfl
theorem s208_14 : ni_T d 208 14 [a0, .long u, a2, a3, a4] st z h Q = ni_T d 208 15 [a0, .long u, a2, a3, a4] (.long u :: st) z h Q := ni_T_p rfl rfl
theorem s208_15 : ni_T d 208 15 [a0, a1, a2, a3, a4] (.long u :: .int x :: .ref o :: st) z h Q = (ni_okL (h o) x = true ∧ ni_T d 208 16 [a0, a1, a2, a3, a4] st z (ni_up h o (ni_pl (h o) x u)) Q) := ni_T_last rfl
theorem s208_16 : ni_T d 208 16 [a0, a1, a2, .int x, a4] st z h Q = ni_T d 208 19 [a0, a1, ni_kl a2, .int (x + 1), a4] st z h Q := ni_T_p rfl rfl
theorem s208_19 : ni_T d 208 19 [a0, a1, a2, a3, a4] st z h Q = ni_T d 208 6 [a0, a1, a2, a3, a4] st z h Q := ni_T_p rfl rfl
theorem s208_22 : ni_T d 208 22 [a0, a1, a2, a3, a4] [] z h Q = Q none z h := ni_T_v rfl rfl
theorem s209_0 : ni_T d 209 0 [a0, a1, a2, a3] st z h Q = ni_T d 209 1 [a0, a1, a2, a3] (.int 0 :: st) z h Q := ni_T_p rfl rfl
theorem s209_1 : ni_T d 209 1 [a0, a1, a2, a3] (.int x :: st) z h Q = ni_T d 209 2 [a0, ni_kl a1, .int x, a3] st z h Q := ni_T_p rfl rfl
theorem s209_2 : ni_T d 209 2 [.ref o, a1, a2, a3] st z h Q = ni_T d 209 3 [.ref o, a1, a2, a3] (.ref o :: st) z h Q := ni_T_p rfl rfl
theorem s209_2N : ni_T d 209 2 [.null, a1, a2, a3] st z h Q = ni_T d 209 3 [.null, a1, a2, a3] (.null :: st) z h Q := ni_T_p rfl rfl
theorem s209_3 : ni_T d 209 3 [a0, a1, a2, a3] (.ref o :: st) z h Q = (ni_arr (h o) = true ∧ ni_T d 209 4 [a0, a1, a2, a3] (.int (Int32.ofNat (ni_len (h o))) :: st) z h Q) := ni_T_alen rfl
theorem s209_4 : ni_T d 209 4 [a0, a1, a2, a3] (.int x :: st) z h Q = ni_T d 209 5 [a0, a1, ni_kl a2, .int x] st z h Q := ni_T_p rfl rfl
theorem s209_5 : ni_T d 209 5 [a0, a1, .int x, a3] st z h Q = ni_T d 209 6 [a0, a1, .int x, a3] (.int x :: st) z h Q := ni_T_p rfl rfl
theorem s209_6 : ni_T d 209 6 [a0, a1, a2, .int x] st z h Q = ni_T d 209 7 [a0, a1, a2, .int x] (.int x :: st) z h Q := ni_T_p rfl rfl
theorem s209_7 : ni_T d 209 7 [a0, a1, a2, a3] (.int y :: .int x :: st) z h Q = if y ≤ x then ni_T d 209 20 [a0, a1, a2, a3] st z h Q else ni_T d 209 10 [a0, a1, a2, a3] st z h Q := ni_T_b rfl rfl
theorem s209_10 : ni_T d 209 10 [.ref o, a1, a2, a3] st z h Q = ni_T d 209 11 [.ref o, a1, a2, a3] (.ref o :: st) z h Q := ni_T_p rfl rfl
theorem s209_10N : ni_T d 209 10 [.null, a1, a2, a3] st z h Q = ni_T d 209 11 [.null, a1, a2, a3] (.null :: st) z h Q := ni_T_p rfl rfl
theorem s209_11 : ni_T d 209 11 [a0, a1, .int x, a3] st z h Q = ni_T d 209 12 [a0, a1, .int x, a3] (.int x :: st) z h Q := ni_T_p rfl rfl
theorem s209_12 : ni_T d 209 12 [a0, .int x, a2, a3] st z h Q = ni_T d 209 13 [a0, .int x, a2, a3] (.int x :: st) z h Q := ni_T_p rfl rfl
theorem s209_13 : ni_T d 209 13 [a0, a1, a2, a3] (.int y :: .int x :: .ref o :: st) z h Q = (ni_okS (h o) x = true ∧ ni_T d 209 14 [a0, a1, a2, a3] st z (ni_up h o (ni_pi (h o) x y)) Q) := ni_T_iast rfl
theorem s209_14 : ni_T d 209 14 [a0, a1, .int x, a3] st z h Q = ni_T d 209 17 [a0, ni_kl a1, .int (x + 1), a3] st z h Q := ni_T_p rfl rfl
theorem s209_17 : ni_T d 209 17 [a0, a1, a2, a3] st z h Q = ni_T d 209 5 [a0, a1, a2, a3] st z h Q := ni_T_p rfl rfl
theorem s209_20 : ni_T d 209 20 [a0, a1, a2, a3] [] z h Q = Q none z h := ni_T_v rfl rfl
end
