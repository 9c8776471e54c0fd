section
variable {d : Nat} {a0 a1 a2 a3 a4 a5 a6 a7 a8 a9 a10 a11 a12 : Value} {x y : Int32} {x0 x1 x2 x3 x4 x5 : Int32} {u w : Int64} {u0 u1 u2 u3 : Int64} {o o1 o20 o21 o22 o23 o24 o25 : Nat} {b0 b1 b2 b3 b4 b5 : Value} {st : List Value} {z : ni_Z} {h : ni_H} {Q : ni_Q}

theorem s66_0 : ni_T d 66 0 [.ref o, a1] st z h Q = ni_T d 66 1 [.ref o, a1] (.ref o :: st) z h Q := ni_T_p rfl rfl
theorem s66_1 : ni_T (d + 1) 66 1 [a0, a1] (.ref o :: st) z h Q = (Nat.ble (ni_sw st) 8 = true ∧ ni_T (d + 1) 66 4 [a0, a1] st z h Q) := ni_T_oic rfl rfl
theorem s66_4 : ni_T d 66 4 [.ref o, a1] st z h Q = ni_T d 66 5 [.ref o, a1] (.ref o :: st) z h Q := ni_T_p rfl rfl
theorem s66_5 : ni_T d 66 5 [a0, a1] st z h Q = ni_T d 66 7 [a0, a1] (.int 8 :: st) z h Q := ni_T_p rfl rfl
theorem s66_7 : ni_T d 66 7 [a0, a1] (.int x :: st) z h Q = ((ni_ok z.1 [a0, a1] st h && Nat.ble (z.1 + 1) 900 && !decide (x < 0) && Nat.ble x.toNatClampNeg 65536 && (Nat.beq 2 2 || Nat.beq 2 3)) = true ∧ ni_T d 66 10 [a0, a1] (.ref z.1 :: st) (z.1 + 1, z.2 + x.toNatClampNeg) (ni_up h z.1 (.inl (2, x.toNatClampNeg, .inr (.inr (List.replicate x.toNatClampNeg none))))) Q) := ni_T_ne rfl rfl rfl rfl rfl rfl rfl
theorem s66_10 : ni_T d 66 10 [a0, a1] (b0 :: .ref o :: st) z h Q = ((Nat.ble 6 7 && ni_is (h o) 6 0 && ni_fit (.array (.object "FiveStones$Shelf")) b0) = true ∧ ni_T d 66 13 [a0, a1] st z (ni_up h o (ni_pv (h o) 0 b0)) Q) := ni_T_putf rfl
theorem s66_13 : ni_T d 66 13 [.ref o, a1] st z h Q = ni_T d 66 14 [.ref o, a1] (.ref o :: st) z h Q := ni_T_p rfl rfl
theorem s66_14 : ni_T d 66 14 [a0, a1] st z h Q = ((ni_ok z.1 [a0, a1] st h && Nat.ble (z.1 + 1) 900 && Nat.ble 5 7) = true ∧ ni_T d 66 17 [a0, a1] (.ref z.1 :: st) (z.1 + 1, z.2 + (ni_dfs 5).length) (ni_up h z.1 (.inr (5, ni_dfs 5))) Q) := ni_T_ne rfl rfl rfl rfl rfl rfl rfl
theorem s66_17 : ni_T d 66 17 [a0, a1] (.ref o :: st) z h Q = ni_T d 66 18 [a0, a1] (.ref o :: .ref o :: st) z h Q := ni_T_p rfl rfl
theorem s66_17i : ni_T d 66 17 [a0, a1] (.int x :: st) z h Q = ni_T d 66 18 [a0, a1] (.int x :: .int x :: st) z h Q := ni_T_p rfl rfl
theorem s66_18 : ni_T (d + 1) 66 18 [a0, a1] (.ref o :: st) z h Q = (Nat.ble (ni_sw st) 8 = true ∧ ni_T d 46 0 [.ref o, .retAddr 0] [] z h (ni_K (d + 1) 66 21 [a0, a1] st z Q)) := ni_T_cse [.ref o] rfl rfl rfl rfl rfl rfl rfl rfl rfl
theorem s66_21 : ni_T d 66 21 [a0, a1] (b0 :: .ref o :: st) z h Q = ((Nat.ble 6 7 && ni_is (h o) 6 1 && ni_fit (.object "FiveStones$Table") b0) = true ∧ ni_T d 66 24 [a0, a1] st z (ni_up h o (ni_pv (h o) 1 b0)) Q) := ni_T_putf rfl
theorem s66_24 : ni_T d 66 24 [.ref o, a1] st z h Q = ni_T d 66 25 [.ref o, a1] (.ref o :: st) z h Q := ni_T_p rfl rfl
theorem s66_25 : ni_T d 66 25 [a0, a1] st z h Q = ((ni_ok z.1 [a0, a1] st h && Nat.ble (z.1 + 1) 900 && Nat.ble 5 7) = true ∧ ni_T d 66 28 [a0, a1] (.ref z.1 :: st) (z.1 + 1, z.2 + (ni_dfs 5).length) (ni_up h z.1 (.inr (5, ni_dfs 5))) Q) := ni_T_ne rfl rfl rfl rfl rfl rfl rfl
theorem s66_28 : ni_T d 66 28 [a0, a1] (.ref o :: st) z h Q = ni_T d 66 29 [a0, a1] (.ref o :: .ref o :: st) z h Q := ni_T_p rfl rfl
theorem s66_28i : ni_T d 66 28 [a0, a1] (.int x :: st) z h Q = ni_T d 66 29 [a0, a1] (.int x :: .int x :: st) z h Q := ni_T_p rfl rfl
theorem s66_29 : ni_T (d + 1) 66 29 [a0, a1] (.ref o :: st) z h Q = (Nat.ble (ni_sw st) 8 = true ∧ ni_T d 46 0 [.ref o, .retAddr 0] [] z h (ni_K (d + 1) 66 32 [a0, a1] st z Q)) := ni_T_cse [.ref o] rfl rfl rfl rfl rfl rfl rfl rfl rfl
theorem s66_32 : ni_T d 66 32 [a0, a1] (b0 :: .ref o :: st) z h Q = ((Nat.ble 6 7 && ni_is (h o) 6 2 && ni_fit (.object "FiveStones$Table") b0) = true ∧ ni_T d 66 35 [a0, a1] st z (ni_up h o (ni_pv (h o) 2 b0)) Q) := ni_T_putf rfl
theorem s66_35 : ni_T d 66 35 [.ref o, a1] st z h Q = ni_T d 66 36 [.ref o, a1] (.ref o :: st) z h Q := ni_T_p rfl rfl
theorem s66_36 : ni_T d 66 36 [a0, a1] st z h Q = ((ni_ok z.1 [a0, a1] st h && Nat.ble (z.1 + 1) 900 && Nat.ble 5 7) = true ∧ ni_T d 66 39 [a0, a1] (.ref z.1 :: st) (z.1 + 1, z.2 + (ni_dfs 5).length) (ni_up h z.1 (.inr (5, ni_dfs 5))) Q) := ni_T_ne rfl rfl rfl rfl rfl rfl rfl
theorem s66_39 : ni_T d 66 39 [a0, a1] (.ref o :: st) z h Q = ni_T d 66 40 [a0, a1] (.ref o :: .ref o :: st) z h Q := ni_T_p rfl rfl
theorem s66_39i : ni_T d 66 39 [a0, a1] (.int x :: st) z h Q = ni_T d 66 40 [a0, a1] (.int x :: .int x :: st) z h Q := ni_T_p rfl rfl
theorem s66_40 : ni_T (d + 1) 66 40 [a0, a1] (.ref o :: st) z h Q = (Nat.ble (ni_sw st) 8 = true ∧ ni_T d 46 0 [.ref o, .retAddr 0] [] z h (ni_K (d + 1) 66 43 [a0, a1] st z Q)) := ni_T_cse [.ref o] rfl rfl rfl rfl rfl rfl rfl rfl rfl
theorem s66_43 : ni_T d 66 43 [a0, a1] (b0 :: .ref o :: st) z h Q = ((Nat.ble 6 7 && ni_is (h o) 6 3 && ni_fit (.object "FiveStones$Table") b0) = true ∧ ni_T d 66 46 [a0, a1] st z (ni_up h o (ni_pv (h o) 3 b0)) Q) := ni_T_putf rfl
theorem s66_46 : ni_T d 66 46 [.ref o, a1] st z h Q = ni_T d 66 47 [.ref o, a1] (.ref o :: st) z h Q := ni_T_p rfl rfl
theorem s66_47 : ni_T d 66 47 [a0, a1] st z h Q = ((ni_ok z.1 [a0, a1] st h && Nat.ble (z.1 + 1) 900 && Nat.ble 2 7) = true ∧ ni_T d 66 50 [a0, a1] (.ref z.1 :: st) (z.1 + 1, z.2 + (ni_dfs 2).length) (ni_up h z.1 (.inr (2, ni_dfs 2))) Q) := ni_T_ne rfl rfl rfl rfl rfl rfl rfl
theorem s66_50 : ni_T d 66 50 [a0, a1] (.ref o :: st) z h Q = ni_T d 66 51 [a0, a1] (.ref o :: .ref o :: st) z h Q := ni_T_p rfl rfl
theorem s66_50i : ni_T d 66 50 [a0, a1] (.int x :: st) z h Q = ni_T d 66 51 [a0, a1] (.int x :: .int x :: st) z h Q := ni_T_p rfl rfl
theorem s66_51 : ni_T (d + 1) 66 51 [a0, a1] (.ref o :: st) z h Q = (Nat.ble (ni_sw st) 8 = true ∧ ni_T d 15 0 [.ref o] [] z h (ni_K (d + 1) 66 54 [a0, a1] st z Q)) := ni_T_cse [.ref o] rfl rfl rfl rfl rfl rfl rfl rfl rfl
theorem s66_54 : ni_T d 66 54 [a0, a1] (b0 :: .ref o :: st) z h Q = ((Nat.ble 6 7 && ni_is (h o) 6 4 && ni_fit (.object "FiveStones$Mind") b0) = true ∧ ni_T d 66 57 [a0, a1] st z (ni_up h o (ni_pv (h o) 4 b0)) Q) := ni_T_putf rfl
theorem s66_57 : ni_T d 66 57 [.ref o, a1] st z h Q = ni_T d 66 58 [.ref o, a1] (.ref o :: st) z h Q := ni_T_p rfl rfl
theorem s66_58 : ni_T d 66 58 [a0, a1] st z h Q = ((ni_ok z.1 [a0, a1] st h && Nat.ble (z.1 + 1) 900 && Nat.ble 0 7) = true ∧ ni_T d 66 61 [a0, a1] (.ref z.1 :: st) (z.1 + 1, z.2 + (ni_dfs 0).length) (ni_up h z.1 (.inr (0, ni_dfs 0))) Q) := ni_T_ne rfl rfl rfl rfl rfl rfl rfl
theorem s66_61 : ni_T d 66 61 [a0, a1] (.ref o :: st) z h Q = ni_T d 66 62 [a0, a1] (.ref o :: .ref o :: st) z h Q := ni_T_p rfl rfl
theorem s66_61i : ni_T d 66 61 [a0, a1] (.int x :: st) z h Q = ni_T d 66 62 [a0, a1] (.int x :: .int x :: st) z h Q := ni_T_p rfl rfl
theorem s66_62 : ni_T (d + 1) 66 62 [a0, a1] (.ref o :: st) z h Q = (Nat.ble (ni_sw st) 8 = true ∧ ni_T d 0 0 [.ref o] [] z h (ni_K (d + 1) 66 65 [a0, a1] st z Q)) := ni_T_cse [.ref o] rfl rfl rfl rfl rfl rfl rfl rfl rfl
theorem s66_65 : ni_T d 66 65 [a0, a1] (b0 :: .ref o :: st) z h Q = ((Nat.ble 6 7 && ni_is (h o) 6 5 && ni_fit (.object "FiveStones$Acts") b0) = true ∧ ni_T d 66 68 [a0, a1] st z (ni_up h o (ni_pv (h o) 5 b0)) Q) := ni_T_putf rfl
theorem s66_68 : ni_T d 66 68 [.ref o, a1] st z h Q = ni_T d 66 69 [.ref o, a1] (.ref o :: st) z h Q := ni_T_p rfl rfl
theorem s66_69 : ni_T d 66 69 [a0, a1] st z h Q = ((ni_ok z.1 [a0, a1] st h && Nat.ble (z.1 + 1) 900 && Nat.ble 3 7) = true ∧ ni_T d 66 72 [a0, a1] (.ref z.1 :: st) (z.1 + 1, z.2 + (ni_dfs 3).length) (ni_up h z.1 (.inr (3, ni_dfs 3))) Q) := ni_T_ne rfl rfl rfl rfl rfl rfl rfl
theorem s66_72 : ni_T d 66 72 [a0, a1] (.ref o :: st) z h Q = ni_T d 66 73 [a0, a1] (.ref o :: .ref o :: st) z h Q := ni_T_p rfl rfl
theorem s66_72i : ni_T d 66 72 [a0, a1] (.int x :: st) z h Q = ni_T d 66 73 [a0, a1] (.int x :: .int x :: st) z h Q := ni_T_p rfl rfl
theorem s66_73 : ni_T (d + 1) 66 73 [a0, a1] (.ref o :: st) z h Q = (Nat.ble (ni_sw st) 8 = true ∧ ni_T d 27 0 [.ref o] [] z h (ni_K (d + 1) 66 76 [a0, a1] st z Q)) := ni_T_cse [.ref o] rfl rfl rfl rfl rfl rfl rfl rfl rfl
theorem s66_76 : ni_T d 66 76 [a0, a1] (b0 :: .ref o :: st) z h Q = ((Nat.ble 6 7 && ni_is (h o) 6 6 && ni_fit (.object "FiveStones$Reader") b0) = true ∧ ni_T d 66 79 [a0, a1] st z (ni_up h o (ni_pv (h o) 6 b0)) Q) := ni_T_putf rfl
theorem s66_79 : ni_T d 66 79 [.ref o, a1] st z h Q = ni_T d 66 80 [.ref o, a1] (.ref o :: st) z h Q := ni_T_p rfl rfl
theorem s66_80 : ni_T d 66 80 [a0, a1] st z h Q = ni_T d 66 82 [a0, a1] (.int 8 :: st) z h Q := ni_T_p rfl rfl
theorem s66_82 : ni_T d 66 82 [a0, a1] (.int x :: st) z h Q = ((ni_ok z.1 [a0, a1] st h && Nat.ble (z.1 + 1) 900 && !decide (x < 0) && Nat.ble x.toNatClampNeg 65536) = true ∧ ni_T d 66 84 [a0, a1] (.ref z.1 :: st) (z.1 + 1, z.2 + x.toNatClampNeg) (ni_up h z.1 (.inl (0, x.toNatClampNeg, .inl (fun _ => 0)))) Q) := ni_T_ne rfl rfl rfl rfl rfl rfl rfl
theorem s66_84 : ni_T d 66 84 [a0, a1] (b0 :: .ref o :: st) z h Q = ((Nat.ble 6 7 && ni_is (h o) 6 7 && ni_fit (.array .int) b0) = true ∧ ni_T d 66 87 [a0, a1] st z (ni_up h o (ni_pv (h o) 7 b0)) Q) := ni_T_putf rfl
theorem s66_87 : ni_T d 66 87 [.ref o, a1] st z h Q = ni_T d 66 88 [.ref o, a1] (.ref o :: st) z h Q := ni_T_p rfl rfl
theorem s66_88 : ni_T d 66 88 [a0, a1] st z h Q = ni_T d 66 89 [a0, a1] (.int 0 :: st) z h Q := ni_T_p rfl rfl
theorem s66_89 : ni_T d 66 89 [a0, a1] (b0 :: .ref o :: st) z h Q = ((Nat.ble 6 7 && ni_is (h o) 6 8 && ni_fit (.boolean) b0) = true ∧ ni_T d 66 92 [a0, a1] st z (ni_up h o (ni_pv (h o) 8 b0)) Q) := ni_T_putf rfl
theorem s66_92 : ni_T d 66 92 [.ref o, a1] st z h Q = ni_T d 66 93 [.ref o, a1] (.ref o :: st) z h Q := ni_T_p rfl rfl
theorem s66_93 : ni_T d 66 93 [a0, a1] st z h Q = ni_T d 66 94 [a0, a1] (.int (-1) :: st) z h Q := ni_T_p rfl rfl
theorem s66_94 : ni_T d 66 94 [a0, a1] (b0 :: .ref o :: st) z h Q = ((Nat.ble 6 7 && ni_is (h o) 6 9 && ni_fit (.int) b0) = true ∧ ni_T d 66 97 [a0, a1] st z (ni_up h o (ni_pv (h o) 9 b0)) Q) := ni_T_putf rfl
theorem s66_97 : ni_T d 66 97 [a0, a1] st z h Q = ni_T d 66 98 [a0, a1] (.int 0 :: st) z h Q := ni_T_p rfl rfl
theorem s66_98 : ni_T d 66 98 [a0, a1] (.int x :: st) z h Q = ni_T d 66 99 [ni_kl a0, .int x] st z h Q := ni_T_p rfl rfl
theorem s66_99 : ni_T d 66 99 [a0, .int x] st z h Q = ni_T d 66 100 [a0, .int x] (.int x :: st) z h Q := ni_T_p rfl rfl
theorem s66_100 : ni_T d 66 100 [a0, a1] st z h Q = ni_T d 66 102 [a0, a1] (.int 8 :: st) z h Q := ni_T_p rfl rfl
theorem s66_102 : ni_T d 66 102 [a0, a1] (.int y :: .int x :: st) z h Q = if y ≤ x then ni_T d 66 124 [a0, a1] st z h Q else ni_T d 66 105 [a0, a1] st z h Q := ni_T_b rfl rfl
theorem s66_105 : ni_T d 66 105 [.ref o, a1] st z h Q = ni_T d 66 106 [.ref o, a1] (.ref o :: st) z h Q := ni_T_p rfl rfl
theorem s66_106 : ni_T d 66 106 [a0, a1] (.ref o :: st) z h Q = (ni_is (h o) 6 0 = true ∧ ni_T d 66 109 [a0, a1] (ni_gv (h o) 0 :: st) z h Q) := ni_T_getf rfl
theorem s66_109 : ni_T d 66 109 [a0, .int x] st z h Q = ni_T d 66 110 [a0, .int x] (.int x :: st) z h Q := ni_T_p rfl rfl
theorem s66_110 : ni_T d 66 110 [a0, a1] st z h Q = ((ni_ok z.1 [a0, a1] st h && Nat.ble (z.1 + 1) 900 && Nat.ble 4 7) = true ∧ ni_T d 66 113 [a0, a1] (.ref z.1 :: st) (z.1 + 1, z.2 + (ni_dfs 4).length) (ni_up h z.1 (.inr (4, ni_dfs 4))) Q) := ni_T_ne rfl rfl rfl rfl rfl rfl rfl
theorem s66_113 : ni_T d 66 113 [a0, a1] (.ref o :: st) z h Q = ni_T d 66 114 [a0, a1] (.ref o :: .ref o :: st) z h Q := ni_T_p rfl rfl
theorem s66_113i : ni_T d 66 113 [a0, a1] (.int x :: st) z h Q = ni_T d 66 114 [a0, a1] (.int x :: .int x :: st) z h Q := ni_T_p rfl rfl
theorem s66_114 : ni_T (d + 1) 66 114 [a0, a1] (.ref o :: st) z h Q = (Nat.ble (ni_sw st) 8 = true ∧ ni_T d 41 0 [.ref o] [] z h (ni_K (d + 1) 66 117 [a0, a1] st z Q)) := ni_T_cse [.ref o] rfl rfl rfl rfl rfl rfl rfl rfl rfl
theorem s66_117 : ni_T d 66 117 [a0, a1] (.ref o1 :: .int x :: .ref o :: st) z h Q = ((ni_okA (h o) x && (ni_rc (h o1) (ni_elt (ni_tag (h o))) && Nat.ble (x.toNatClampNeg + 1) (ni_ll (h o)))) = true ∧ ni_T d 66 118 [a0, a1] st z (ni_up h o (ni_pa (h o) x o1)) Q) := ni_T_aast rfl
theorem s66_118 : ni_T d 66 118 [a0, .int x] st z h Q = ni_T d 66 121 [ni_kl a0, .int (x + 1)] st z h Q := ni_T_p rfl rfl
theorem s66_121 : ni_T d 66 121 [a0, a1] st z h Q = ni_T d 66 99 [a0, a1] st z h Q := ni_T_p rfl rfl
theorem s66_124 : ni_T d 66 124 [a0, a1] [] z h Q = Q none z h := ni_T_v rfl rfl
theorem s67_0 : ni_T d 67 0 [.ref o, a1, a2, a3, a4] st z h Q = ni_T d 67 1 [.ref o, a1, a2, a3, a4] (.ref o :: st) z h Q := ni_T_p rfl rfl
theorem s67_1 : ni_T d 67 1 [a0, .int x, a2, a3, a4] st z h Q = ni_T d 67 2 [a0, .int x, a2, a3, a4] (.int x :: st) z h Q := ni_T_p rfl rfl
theorem s67_2 : ni_T (d + 1) 67 2 [a0, a1, a2, a3, a4] (.int x0 :: .ref o :: st) z h Q = (ni_rc (h o) 6 = true ∧ Nat.ble (ni_sw st) 8 = true ∧ ni_T d 107 0 [.ref o, .int x0] [] z h (ni_K (d + 1) 67 5 [a0, a1, a2, a3, a4] st z Q)) := ni_T_ce [.ref o, .int x0] rfl rfl rfl rfl rfl rfl rfl rfl rfl
theorem s67_5 : ni_T d 67 5 [a0, a1, a2, a3, a4] (.ref o :: st) z h Q = ni_T d 67 7 [a0, a1, a2, ni_kl a3, .ref o] st z h Q := ni_T_p rfl rfl
theorem s67_5N : ni_T d 67 5 [a0, a1, a2, a3, a4] (.null :: st) z h Q = ni_T d 67 7 [a0, a1, a2, ni_kl a3, .null] st z h Q := ni_T_p rfl rfl
theorem s67_7 : ni_T d 67 7 [a0, a1, a2, a3, .ref o] st z h Q = ni_T d 67 9 [a0, a1, a2, a3, .ref o] (.ref o :: st) z h Q := ni_T_p rfl rfl
theorem s67_7N : ni_T d 67 7 [a0, a1, a2, a3, .null] st z h Q = ni_T d 67 9 [a0, a1, a2, a3, .null] (.null :: st) z h Q := ni_T_p rfl rfl
theorem s67_9N : ni_T d 67 9 [a0, a1, a2, a3, a4] (.null :: st) z h Q = ni_T d 67 12 [a0, a1, a2, a3, a4] st z h Q := ni_T_p rfl rfl
theorem s67_9 : ni_T d 67 9 [a0, a1, a2, a3, a4] (.ref o :: st) z h Q = ni_T d 67 18 [a0, a1, a2, a3, a4] st z h Q := ni_T_p rfl rfl
theorem s67_12 : ni_T d 67 12 [.ref o, a1, a2, a3, a4] st z h Q = ni_T d 67 13 [.ref o, a1, a2, a3, a4] (.ref o :: st) z h Q := ni_T_p rfl rfl
theorem s67_13 : ni_T d 67 13 [a0, a1, a2, a3, a4] st z h Q = ni_T d 67 14 [a0, a1, a2, a3, a4] (.int (-1) :: st) z h Q := ni_T_p rfl rfl
theorem s67_14 : ni_T (d + 1) 67 14 [a0, a1, a2, a3, a4] (.int x0 :: .ref o :: st) z h Q = (ni_rc (h o) 6 = true ∧ Nat.ble (ni_sw st) 8 = true ∧ ni_T d 105 0 [.ref o, .int x0] [] z h (ni_K (d + 1) 67 17 [a0, a1, a2, a3, a4] st z Q)) := ni_T_ce [.ref o, .int x0] rfl rfl rfl rfl rfl rfl rfl rfl rfl
theorem s67_17 : ni_T d 67 17 [a0, a1, a2, a3, a4] [.int x] z h Q = Q (some (.int x)) z h := ni_T_i rfl rfl
theorem s67_18 : ni_T d 67 18 [a0, a1, a2, .int x, a4] st z h Q = ni_T d 67 19 [a0, a1, a2, .int x, a4] (.int x :: st) z h Q := ni_T_p rfl rfl
theorem s67_19 : ni_T d 67 19 [a0, a1, a2, a3, a4] (.int x :: st) z h Q = if 0 ≤ x then ni_T d 67 29 [a0, a1, a2, a3, a4] st z h Q else ni_T d 67 22 [a0, a1, a2, a3, a4] st z h Q := ni_T_b rfl rfl
theorem s67_22 : ni_T d 67 22 [.ref o, a1, a2, a3, a4] st z h Q = ni_T d 67 23 [.ref o, a1, a2, a3, a4] (.ref o :: st) z h Q := ni_T_p rfl rfl
theorem s67_23 : ni_T d 67 23 [a0, a1, a2, a3, a4] st z h Q = ni_T d 67 25 [a0, a1, a2, a3, a4] (.int (-4) :: st) z h Q := ni_T_p rfl rfl
theorem s67_25 : ni_T (d + 1) 67 25 [a0, a1, a2, a3, a4] (.int x0 :: .ref o :: st) z h Q = (ni_rc (h o) 6 = true ∧ Nat.ble (ni_sw st) 8 = true ∧ ni_T d 105 0 [.ref o, .int x0] [] z h (ni_K (d + 1) 67 28 [a0, a1, a2, a3, a4] st z Q)) := ni_T_ce [.ref o, .int x0] rfl rfl rfl rfl rfl rfl rfl rfl rfl
theorem s67_28 : ni_T d 67 28 [a0, a1, a2, a3, a4] [.int x] z h Q = Q (some (.int x)) z h := ni_T_i rfl rfl
theorem s67_29 : ni_T d 67 29 [a0, a1, .int x, a3, a4] st z h Q = ni_T d 67 30 [a0, a1, .int x, a3, a4] (.int x :: st) z h Q := ni_T_p rfl rfl
theorem s67_30 : ni_T d 67 30 [a0, a1, a2, a3, a4] (.int x :: st) z h Q = if x < 0 then ni_T d 67 38 [a0, a1, a2, a3, a4] st z h Q else ni_T d 67 33 [a0, a1, a2, a3, a4] st z h Q := ni_T_b rfl rfl
theorem s67_33 : ni_T d 67 33 [a0, a1, .int x, a3, a4] st z h Q = ni_T d 67 34 [a0, a1, .int x, a3, a4] (.int x :: st) z h Q := ni_T_p rfl rfl
theorem s67_34 : ni_T d 67 34 [a0, a1, a2, a3, a4] st z h Q = ni_T d 67 35 [a0, a1, a2, a3, a4] (.int 4 :: st) z h Q := ni_T_p rfl rfl
theorem s67_35 : ni_T d 67 35 [a0, a1, a2, a3, a4] (.int y :: .int x :: st) z h Q = if x < y then ni_T d 67 45 [a0, a1, a2, a3, a4] st z h Q else ni_T d 67 38 [a0, a1, a2, a3, a4] st z h Q := ni_T_b rfl rfl
theorem s67_38 : ni_T d 67 38 [.ref o, a1, a2, a3, a4] st z h Q = ni_T d 67 39 [.ref o, a1, a2, a3, a4] (.ref o :: st) z h Q := ni_T_p rfl rfl
theorem s67_39 : ni_T d 67 39 [a0, a1, a2, a3, a4] st z h Q = ni_T d 67 41 [a0, a1, a2, a3, a4] (.int (-6) :: st) z h Q := ni_T_p rfl rfl
theorem s67_41 : ni_T (d + 1) 67 41 [a0, a1, a2, a3, a4] (.int x0 :: .ref o :: st) z h Q = (ni_rc (h o) 6 = true ∧ Nat.ble (ni_sw st) 8 = true ∧ ni_T d 105 0 [.ref o, .int x0] [] z h (ni_K (d + 1) 67 44 [a0, a1, a2, a3, a4] st z Q)) := ni_T_ce [.ref o, .int x0] rfl rfl rfl rfl rfl rfl rfl rfl rfl
theorem s67_44 : ni_T d 67 44 [a0, a1, a2, a3, a4] [.int x] z h Q = Q (some (.int x)) z h := ni_T_i rfl rfl
theorem s67_45 : ni_T d 67 45 [a0, a1, a2, .int x, a4] st z h Q = ni_T d 67 46 [a0, a1, a2, .int x, a4] (.int x :: st) z h Q := ni_T_p rfl rfl
theorem s67_46 : ni_T d 67 46 [a0, a1, a2, a3, a4] st z h Q = ni_T d 67 49 [a0, a1, a2, a3, a4] (.int 160 :: st) z h Q := ni_T_p rfl rfl
theorem s67_49 : ni_T d 67 49 [a0, a1, a2, a3, a4] (.int y :: .int x :: st) z h Q = if x ≤ y then ni_T d 67 59 [a0, a1, a2, a3, a4] st z h Q else ni_T d 67 52 [a0, a1, a2, a3, a4] st z h Q := ni_T_b rfl rfl
theorem s67_52 : ni_T d 67 52 [.ref o, a1, a2, a3, a4] st z h Q = ni_T d 67 53 [.ref o, a1, a2, a3, a4] (.ref o :: st) z h Q := ni_T_p rfl rfl
theorem s67_53 : ni_T d 67 53 [a0, a1, a2, a3, a4] st z h Q = ni_T d 67 55 [a0, a1, a2, a3, a4] (.int (-7) :: st) z h Q := ni_T_p rfl rfl
theorem s67_55 : ni_T (d + 1) 67 55 [a0, a1, a2, a3, a4] (.int x0 :: .ref o :: st) z h Q = (ni_rc (h o) 6 = true ∧ Nat.ble (ni_sw st) 8 = true ∧ ni_T d 105 0 [.ref o, .int x0] [] z h (ni_K (d + 1) 67 58 [a0, a1, a2, a3, a4] st z Q)) := ni_T_ce [.ref o, .int x0] rfl rfl rfl rfl rfl rfl rfl rfl rfl
theorem s67_58 : ni_T d 67 58 [a0, a1, a2, a3, a4] [.int x] z h Q = Q (some (.int x)) z h := ni_T_i rfl rfl
theorem s67_59 : ni_T d 67 59 [a0, a1, a2, a3, .ref o] st z h Q = ni_T d 67 61 [a0, a1, a2, a3, .ref o] (.ref o :: st) z h Q := ni_T_p rfl rfl
theorem s67_59N : ni_T d 67 59 [a0, a1, a2, a3, .null] st z h Q = ni_T d 67 61 [a0, a1, a2, a3, .null] (.null :: st) z h Q := ni_T_p rfl rfl
theorem s67_61 : ni_T d 67 61 [a0, a1, .int x, a3, a4] st z h Q = ni_T d 67 62 [a0, a1, .int x, a3, a4] (.int x :: st) z h Q := ni_T_p rfl rfl
theorem s67_62 : ni_T d 67 62 [a0, a1, a2, .int x, a4] st z h Q = ni_T d 67 63 [a0, a1, a2, .int x, a4] (.int x :: st) z h Q := ni_T_p rfl rfl
theorem s67_63 : ni_T (d + 1) 67 63 [a0, a1, a2, a3, a4] (.int x1 :: .int x0 :: .ref o :: st) z h Q = (ni_rc (h o) 4 = true ∧ Nat.ble (ni_sw st) 8 = true ∧ ni_T d 42 0 [.ref o, .int x0, .int x1] [] z h (ni_K (d + 1) 67 66 [a0, a1, a2, a3, a4] st z Q)) := ni_T_ce [.ref o, .int x0, .int x1] rfl rfl rfl rfl rfl rfl rfl rfl rfl
theorem s67_66 : ni_T d 67 66 [a0, a1, a2, a3, a4] st z h Q = ni_T d 67 67 [a0, a1, a2, a3, a4] (.int 1 :: st) z h Q := ni_T_p rfl rfl
theorem s67_67 : ni_T d 67 67 [a0, a1, a2, a3, a4] [.int x] z h Q = Q (some (.int x)) z h := ni_T_i rfl rfl
theorem s68_0 : ni_T d 68 0 [.ref o, a1, a2, a3, a4, a5, a6] st z h Q = ni_T d 68 1 [.ref o, a1, a2, a3, a4, a5, a6] (.ref o :: st) z h Q := ni_T_p rfl rfl
theorem s68_1 : ni_T d 68 1 [a0, .int x, a2, a3, a4, a5, a6] st z h Q = ni_T d 68 2 [a0, .int x, a2, a3, a4, a5, a6] (.int x :: st) z h Q := ni_T_p rfl rfl
theorem s68_2 : ni_T (d + 1) 68 2 [a0, a1, a2, a3, a4, a5, a6] (.int x0 :: .ref o :: st) z h Q = (ni_rc (h o) 6 = true ∧ Nat.ble (ni_sw st) 8 = true ∧ ni_T d 107 0 [.ref o, .int x0] [] z h (ni_K (d + 1) 68 5 [a0, a1, a2, a3, a4, a5, a6] st z Q)) := ni_T_ce [.ref o, .int x0] rfl rfl rfl rfl rfl rfl rfl rfl rfl
theorem s68_5 : ni_T d 68 5 [a0, a1, a2, a3, a4, a5, a6] (.ref o :: st) z h Q = ni_T d 68 7 [a0, a1, a2, a3, ni_kl a4, .ref o, a6] st z h Q := ni_T_p rfl rfl
theorem s68_5N : ni_T d 68 5 [a0, a1, a2, a3, a4, a5, a6] (.null :: st) z h Q = ni_T d 68 7 [a0, a1, a2, a3, ni_kl a4, .null, a6] st z h Q := ni_T_p rfl rfl
theorem s68_7 : ni_T d 68 7 [a0, a1, a2, a3, a4, .ref o, a6] st z h Q = ni_T d 68 9 [a0, a1, a2, a3, a4, .ref o, a6] (.ref o :: st) z h Q := ni_T_p rfl rfl
theorem s68_7N : ni_T d 68 7 [a0, a1, a2, a3, a4, .null, a6] st z h Q = ni_T d 68 9 [a0, a1, a2, a3, a4, .null, a6] (.null :: st) z h Q := ni_T_p rfl rfl
theorem s68_9 : ni_T (d + 1) 68 9 [a0, a1, a2, a3, a4, a5, a6] (.ref o20 :: st) z h Q = (Nat.ble (ni_sw st) 8 = true ∧ ni_T d 111 0 [.ref o20] [] z h (ni_K (d + 1) 68 12 [a0, a1, a2, a3, a4, a5, a6] st z Q)) := ni_T_cse [.ref o20] rfl rfl rfl rfl rfl rfl rfl rfl rfl
theorem s68_9N0 : ni_T (d + 1) 68 9 [a0, a1, a2, a3, a4, a5, a6] (.null :: st) z h Q = (Nat.ble (ni_sw st) 8 = true ∧ ni_T d 111 0 [.null] [] z h (ni_K (d + 1) 68 12 [a0, a1, a2, a3, a4, a5, a6] st z Q)) := ni_T_cse [.null] rfl rfl rfl rfl rfl rfl rfl rfl rfl
theorem s68_12 : ni_T d 68 12 [a0, a1, a2, a3, a4, a5, a6] (.int x :: st) z h Q = ni_T d 68 14 [a0, a1, a2, a3, a4, ni_kl a5, .int x] st z h Q := ni_T_p rfl rfl
theorem s68_14 : ni_T d 68 14 [a0, a1, a2, a3, a4, a5, .int x] st z h Q = ni_T d 68 16 [a0, a1, a2, a3, a4, a5, .int x] (.int x :: st) z h Q := ni_T_p rfl rfl
theorem s68_16 : ni_T d 68 16 [a0, a1, a2, a3, a4, a5, a6] (.int x :: st) z h Q = if x = 0 then ni_T d 68 26 [a0, a1, a2, a3, a4, a5, a6] st z h Q else ni_T d 68 19 [a0, a1, a2, a3, a4, a5, a6] st z h Q := ni_T_b rfl rfl
theorem s68_19 : ni_T d 68 19 [.ref o, a1, a2, a3, a4, a5, a6] st z h Q = ni_T d 68 20 [.ref o, a1, a2, a3, a4, a5, a6] (.ref o :: st) z h Q := ni_T_p rfl rfl
theorem s68_20 : ni_T d 68 20 [a0, a1, a2, a3, a4, a5, .int x] st z h Q = ni_T d 68 22 [a0, a1, a2, a3, a4, a5, .int x] (.int x :: st) z h Q := ni_T_p rfl rfl
theorem s68_22 : ni_T (d + 1) 68 22 [a0, a1, a2, a3, a4, a5, a6] (.int x0 :: .ref o :: st) z h Q = (ni_rc (h o) 6 = true ∧ Nat.ble (ni_sw st) 8 = true ∧ ni_T d 105 0 [.ref o, .int x0] [] z h (ni_K (d + 1) 68 25 [a0, a1, a2, a3, a4, a5, a6] st z Q)) := ni_T_ce [.ref o, .int x0] rfl rfl rfl rfl rfl rfl rfl rfl rfl
theorem s68_25 : ni_T d 68 25 [a0, a1, a2, a3, a4, a5, a6] [.int x] z h Q = Q (some (.int x)) z h := ni_T_i rfl rfl
theorem s68_26 : ni_T d 68 26 [a0, a1, .int x, a3, a4, a5, a6] st z h Q = ni_T d 68 27 [a0, a1, .int x, a3, a4, a5, a6] (.int x :: st) z h Q := ni_T_p rfl rfl
theorem s68_27 : ni_T d 68 27 [a0, a1, a2, a3, a4, a5, a6] (.int x :: st) z h Q = if x < 0 then ni_T d 68 39 [a0, a1, a2, a3, a4, a5, a6] st z h Q else ni_T d 68 30 [a0, a1, a2, a3, a4, a5, a6] st z h Q := ni_T_b rfl rfl
theorem s68_30 : ni_T d 68 30 [a0, a1, .int x, a3, a4, a5, a6] st z h Q = ni_T d 68 31 [a0, a1, .int x, a3, a4, a5, a6] (.int x :: st) z h Q := ni_T_p rfl rfl
theorem s68_31 : ni_T d 68 31 [a0, a1, a2, a3, a4, .ref o, a6] st z h Q = ni_T d 68 33 [a0, a1, a2, a3, a4, .ref o, a6] (.ref o :: st) z h Q := ni_T_p rfl rfl
theorem s68_31N : ni_T d 68 31 [a0, a1, a2, a3, a4, .null, a6] st z h Q = ni_T d 68 33 [a0, a1, a2, a3, a4, .null, a6] (.null :: st) z h Q := ni_T_p rfl rfl
theorem s68_33 : ni_T d 68 33 [a0, a1, a2, a3, a4, a5, a6] (.ref o :: st) z h Q = (ni_is (h o) 4 4 = true ∧ ni_T d 68 36 [a0, a1, a2, a3, a4, a5, a6] (ni_gv (h o) 4 :: st) z h Q) := ni_T_getf rfl
theorem s68_36 : ni_T d 68 36 [a0, a1, a2, a3, a4, a5, a6] (.int y :: .int x :: st) z h Q = if x < y then ni_T d 68 46 [a0, a1, a2, a3, a4, a5, a6] st z h Q else ni_T d 68 39 [a0, a1, a2, a3, a4, a5, a6] st z h Q := ni_T_b rfl rfl
theorem s68_39 : ni_T d 68 39 [.ref o, a1, a2, a3, a4, a5, a6] st z h Q = ni_T d 68 40 [.ref o, a1, a2, a3, a4, a5, a6] (.ref o :: st) z h Q := ni_T_p rfl rfl
theorem s68_40 : ni_T d 68 40 [a0, a1, a2, a3, a4, a5, a6] st z h Q = ni_T d 68 42 [a0, a1, a2, a3, a4, a5, a6] (.int (-5) :: st) z h Q := ni_T_p rfl rfl
theorem s68_42 : ni_T (d + 1) 68 42 [a0, a1, a2, a3, a4, a5, a6] (.int x0 :: .ref o :: st) z h Q = (ni_rc (h o) 6 = true ∧ Nat.ble (ni_sw st) 8 = true ∧ ni_T d 105 0 [.ref o, .int x0] [] z h (ni_K (d + 1) 68 45 [a0, a1, a2, a3, a4, a5, a6] st z Q)) := ni_T_ce [.ref o, .int x0] rfl rfl rfl rfl rfl rfl rfl rfl rfl
theorem s68_45 : ni_T d 68 45 [a0, a1, a2, a3, a4, a5, a6] [.int x] z h Q = Q (some (.int x)) z h := ni_T_i rfl rfl
theorem s68_46 : ni_T d 68 46 [a0, a1, a2, a3, a4, .ref o, a6] st z h Q = ni_T d 68 48 [a0, a1, a2, a3, a4, .ref o, a6] (.ref o :: st) z h Q := ni_T_p rfl rfl
theorem s68_46N : ni_T d 68 46 [a0, a1, a2, a3, a4, .null, a6] st z h Q = ni_T d 68 48 [a0, a1, a2, a3, a4, .null, a6] (.null :: st) z h Q := ni_T_p rfl rfl
theorem s68_48 : ni_T d 68 48 [a0, a1, .int x, a3, a4, a5, a6] st z h Q = ni_T d 68 49 [a0, a1, .int x, a3, a4, a5, a6] (.int x :: st) z h Q := ni_T_p rfl rfl
theorem s68_49 : ni_T d 68 49 [a0, a1, a2, .long u, a4, a5, a6] st z h Q = ni_T d 68 50 [a0, a1, a2, .long u, a4, a5, a6] (.long u :: st) z h Q := ni_T_p rfl rfl
theorem s68_50 : ni_T (d + 1) 68 50 [a0, a1, a2, a3, a4, a5, a6] (.long u1 :: .int x0 :: .ref o :: st) z h Q = (ni_rc (h o) 4 = true ∧ Nat.ble (ni_sw st) 8 = true ∧ ni_T d 43 0 [.ref o, .int x0, .long u1, .retAddr 1] [] z h (ni_K (d + 1) 68 53 [a0, a1, a2, a3, a4, a5, a6] st z Q)) := ni_T_ce [.ref o, .int x0, .long u1] rfl rfl rfl rfl rfl rfl rfl rfl rfl
theorem s68_53 : ni_T d 68 53 [a0, a1, a2, a3, a4, a5, a6] st z h Q = ni_T d 68 54 [a0, a1, a2, a3, a4, a5, a6] (.int 1 :: st) z h Q := ni_T_p rfl rfl
theorem s68_54 : ni_T d 68 54 [a0, a1, a2, a3, a4, a5, a6] [.int x] z h Q = Q (some (.int x)) z h := ni_T_i rfl rfl
theorem s69_0 : ni_T d 69 0 [.ref o, a1, a2, a3, a4, a5, a6, a7, a8] st z h Q = ni_T d 69 1 [.ref o, a1, a2, a3, a4, a5, a6, a7, a8] (.ref o :: st) z h Q := ni_T_p rfl rfl
theorem s69_1 : ni_T d 69 1 [a0, .int x, a2, a3, a4, a5, a6, a7, a8] st z h Q = ni_T d 69 2 [a0, .int x, a2, a3, a4, a5, a6, a7, a8] (.int x :: st) z h Q := ni_T_p rfl rfl
theorem s69_2 : ni_T (d + 1) 69 2 [a0, a1, a2, a3, a4, a5, a6, a7, a8] (.int x0 :: .ref o :: st) z h Q = (ni_rc (h o) 6 = true ∧ Nat.ble (ni_sw st) 8 = true ∧ ni_T d 107 0 [.ref o, .int x0] [] z h (ni_K (d + 1) 69 5 [a0, a1, a2, a3, a4, a5, a6, a7, a8] st z Q)) := ni_T_ce [.ref o, .int x0] rfl rfl rfl rfl rfl rfl rfl rfl rfl
theorem s69_5 : ni_T d 69 5 [a0, a1, a2, a3, a4, a5, a6, a7, a8] (.ref o :: st) z h Q = ni_T d 69 7 [a0, a1, a2, a3, a4, ni_kl a5, .ref o, a7, a8] st z h Q := ni_T_p rfl rfl
theorem s69_5N : ni_T d 69 5 [a0, a1, a2, a3, a4, a5, a6, a7, a8] (.null :: st) z h Q = ni_T d 69 7 [a0, a1, a2, a3, a4, ni_kl a5, .null, a7, a8] st z h Q := ni_T_p rfl rfl
theorem s69_7 : ni_T d 69 7 [.ref o, a1, a2, a3, a4, a5, a6, a7, a8] st z h Q = ni_T d 69 8 [.ref o, a1, a2, a3, a4, a5, a6, a7, a8] (.ref o :: st) z h Q := ni_T_p rfl rfl
theorem s69_8 : ni_T d 69 8 [a0, a1, .int x, a3, a4, a5, a6, a7, a8] st z h Q = ni_T d 69 9 [a0, a1, .int x, a3, a4, a5, a6, a7, a8] (.int x :: st) z h Q := ni_T_p rfl rfl
theorem s69_9 : ni_T (d + 1) 69 9 [a0, a1, a2, a3, a4, a5, a6, a7, a8] (.int x0 :: .ref o :: st) z h Q = (ni_rc (h o) 6 = true ∧ Nat.ble (ni_sw st) 8 = true ∧ ni_T d 107 0 [.ref o, .int x0] [] z h (ni_K (d + 1) 69 12 [a0, a1, a2, a3, a4, a5, a6, a7, a8] st z Q)) := ni_T_ce [.ref o, .int x0] rfl rfl rfl rfl rfl rfl rfl rfl rfl
theorem s69_12 : ni_T d 69 12 [a0, a1, a2, a3, a4, a5, a6, a7, a8] (.ref o :: st) z h Q = ni_T d 69 14 [a0, a1, a2, a3, a4, a5, ni_kl a6, .ref o, a8] st z h Q := ni_T_p rfl rfl
theorem s69_12N : ni_T d 69 12 [a0, a1, a2, a3, a4, a5, a6, a7, a8] (.null :: st) z h Q = ni_T d 69 14 [a0, a1, a2, a3, a4, a5, ni_kl a6, .null, a8] st z h Q := ni_T_p rfl rfl
theorem s69_14 : ni_T d 69 14 [a0, a1, a2, a3, a4, a5, .ref o, a7, a8] st z h Q = ni_T d 69 16 [a0, a1, a2, a3, a4, a5, .ref o, a7, a8] (.ref o :: st) z h Q := ni_T_p rfl rfl
theorem s69_14N : ni_T d 69 14 [a0, a1, a2, a3, a4, a5, .null, a7, a8] st z h Q = ni_T d 69 16 [a0, a1, a2, a3, a4, a5, .null, a7, a8] (.null :: st) z h Q := ni_T_p rfl rfl
theorem s69_16 : ni_T d 69 16 [a0, a1, a2, a3, a4, a5, a6, .ref o, a8] st z h Q = ni_T d 69 18 [a0, a1, a2, a3, a4, a5, a6, .ref o, a8] (.ref o :: st) z h Q := ni_T_p rfl rfl
theorem s69_16N : ni_T d 69 16 [a0, a1, a2, a3, a4, a5, a6, .null, a8] st z h Q = ni_T d 69 18 [a0, a1, a2, a3, a4, a5, a6, .null, a8] (.null :: st) z h Q := ni_T_p rfl rfl
theorem s69_18 : ni_T d 69 18 [a0, a1, a2, a3, a4, .int x, a6, a7, a8] st z h Q = ni_T d 69 20 [a0, a1, a2, a3, a4, .int x, a6, a7, a8] (.int x :: st) z h Q := ni_T_p rfl rfl
theorem s69_20 : ni_T (d + 1) 69 20 [a0, a1, a2, a3, a4, a5, a6, a7, a8] (.int x2 :: .ref o21 :: .ref o20 :: st) z h Q = (Nat.ble (ni_sw st) 8 = true ∧ ni_T d 112 0 [.ref o20, .ref o21, .int x2] [] z h (ni_K (d + 1) 69 23 [a0, a1, a2, a3, a4, a5, a6, a7, a8] st z Q)) := ni_T_cse [.ref o20, .ref o21, .int x2] rfl rfl rfl rfl rfl rfl rfl rfl rfl
theorem s69_20N1 : ni_T (d + 1) 69 20 [a0, a1, a2, a3, a4, a5, a6, a7, a8] (.int x2 :: .null :: .ref o20 :: st) z h Q = (Nat.ble (ni_sw st) 8 = true ∧ ni_T d 112 0 [.ref o20, .null, .int x2] [] z h (ni_K (d + 1) 69 23 [a0, a1, a2, a3, a4, a5, a6, a7, a8] st z Q)) := ni_T_cse [.ref o20, .null, .int x2] rfl rfl rfl rfl rfl rfl rfl rfl rfl
theorem s69_20N0 : ni_T (d + 1) 69 20 [a0, a1, a2, a3, a4, a5, a6, a7, a8] (.int x2 :: .ref o21 :: .null :: st) z h Q = (Nat.ble (ni_sw st) 8 = true ∧ ni_T d 112 0 [.null, .ref o21, .int x2] [] z h (ni_K (d + 1) 69 23 [a0, a1, a2, a3, a4, a5, a6, a7, a8] st z Q)) := ni_T_cse [.null, .ref o21, .int x2] rfl rfl rfl rfl rfl rfl rfl rfl rfl
theorem s69_20N0N1 : ni_T (d + 1) 69 20 [a0, a1, a2, a3, a4, a5, a6, a7, a8] (.int x2 :: .null :: .null :: st) z h Q = (Nat.ble (ni_sw st) 8 = true ∧ ni_T d 112 0 [.null, .null, .int x2] [] z h (ni_K (d + 1) 69 23 [a0, a1, a2, a3, a4, a5, a6, a7, a8] st z Q)) := ni_T_cse [.null, .null, .int x2] rfl rfl rfl rfl rfl rfl rfl rfl rfl
theorem s69_23 : ni_T d 69 23 [a0, a1, a2, a3, a4, a5, a6, a7, a8] (.int x :: st) z h Q = ni_T d 69 25 [a0, a1, a2, a3, a4, a5, a6, ni_kl a7, .int x] st z h Q := ni_T_p rfl rfl
theorem s69_25 : ni_T d 69 25 [a0, a1, a2, a3, a4, a5, a6, a7, .int x] st z h Q = ni_T d 69 27 [a0, a1, a2, a3, a4, a5, a6, a7, .int x] (.int x :: st) z h Q := ni_T_p rfl rfl
theorem s69_27 : ni_T d 69 27 [a0, a1, a2, a3, a4, a5, a6, a7, a8] (.int x :: st) z h Q = if x = 0 then ni_T d 69 37 [a0, a1, a2, a3, a4, a5, a6, a7, a8] st z h Q else ni_T d 69 30 [a0, a1, a2, a3, a4, a5, a6, a7, a8] st z h Q := ni_T_b rfl rfl
theorem s69_30 : ni_T d 69 30 [.ref o, a1, a2, a3, a4, a5, a6, a7, a8] st z h Q = ni_T d 69 31 [.ref o, a1, a2, a3, a4, a5, a6, a7, a8] (.ref o :: st) z h Q := ni_T_p rfl rfl
theorem s69_31 : ni_T d 69 31 [a0, a1, a2, a3, a4, a5, a6, a7, .int x] st z h Q = ni_T d 69 33 [a0, a1, a2, a3, a4, a5, a6, a7, .int x] (.int x :: st) z h Q := ni_T_p rfl rfl
theorem s69_33 : ni_T (d + 1) 69 33 [a0, a1, a2, a3, a4, a5, a6, a7, a8] (.int x0 :: .ref o :: st) z h Q = (ni_rc (h o) 6 = true ∧ Nat.ble (ni_sw st) 8 = true ∧ ni_T d 105 0 [.ref o, .int x0] [] z h (ni_K (d + 1) 69 36 [a0, a1, a2, a3, a4, a5, a6, a7, a8] st z Q)) := ni_T_ce [.ref o, .int x0] rfl rfl rfl rfl rfl rfl rfl rfl rfl
theorem s69_36 : ni_T d 69 36 [a0, a1, a2, a3, a4, a5, a6, a7, a8] [.int x] z h Q = Q (some (.int x)) z h := ni_T_i rfl rfl
theorem s69_37 : ni_T d 69 37 [a0, a1, a2, a3, a4, a5, .ref o, a7, a8] st z h Q = ni_T d 69 39 [a0, a1, a2, a3, a4, a5, .ref o, a7, a8] (.ref o :: st) z h Q := ni_T_p rfl rfl
theorem s69_37N : ni_T d 69 37 [a0, a1, a2, a3, a4, a5, .null, a7, a8] st z h Q = ni_T d 69 39 [a0, a1, a2, a3, a4, a5, .null, a7, a8] (.null :: st) z h Q := ni_T_p rfl rfl
theorem s69_39 : ni_T d 69 39 [a0, a1, a2, .int x, a4, a5, a6, a7, a8] st z h Q = ni_T d 69 40 [a0, a1, a2, .int x, a4, a5, a6, a7, a8] (.int x :: st) z h Q := ni_T_p rfl rfl
theorem s69_40 : ni_T d 69 40 [a0, a1, a2, a3, a4, .int x, a6, a7, a8] st z h Q = ni_T d 69 42 [a0, a1, a2, a3, a4, .int x, a6, a7, a8] (.int x :: st) z h Q := ni_T_p rfl rfl
theorem s69_42 : ni_T (d + 1) 69 42 [a0, a1, a2, a3, a4, a5, a6, a7, a8] (.int x1 :: .int x0 :: .ref o :: st) z h Q = (ni_rc (h o) 4 = true ∧ Nat.ble (ni_sw st) 8 = true ∧ ni_T d 45 0 [.ref o, .int x0, .int x1] [] z h (ni_K (d + 1) 69 45 [a0, a1, a2, a3, a4, a5, a6, a7, a8] st z Q)) := ni_T_ce [.ref o, .int x0, .int x1] rfl rfl rfl rfl rfl rfl rfl rfl rfl
theorem s69_45 : ni_T d 69 45 [a0, a1, a2, a3, a4, a5, a6, a7, a8] (.int x :: st) z h Q = if x = 0 then ni_T d 69 60 [a0, a1, a2, a3, a4, a5, a6, a7, a8] st z h Q else ni_T d 69 48 [a0, a1, a2, a3, a4, a5, a6, a7, a8] st z h Q := ni_T_b rfl rfl
theorem s69_48 : ni_T d 69 48 [a0, a1, a2, a3, a4, a5, a6, .ref o, a8] st z h Q = ni_T d 69 50 [a0, a1, a2, a3, a4, a5, a6, .ref o, a8] (.ref o :: st) z h Q := ni_T_p rfl rfl
theorem s69_48N : ni_T d 69 48 [a0, a1, a2, a3, a4, a5, a6, .null, a8] st z h Q = ni_T d 69 50 [a0, a1, a2, a3, a4, a5, a6, .null, a8] (.null :: st) z h Q := ni_T_p rfl rfl
theorem s69_50 : ni_T d 69 50 [a0, a1, a2, a3, .int x, a5, a6, a7, a8] st z h Q = ni_T d 69 52 [a0, a1, a2, a3, .int x, a5, a6, a7, a8] (.int x :: st) z h Q := ni_T_p rfl rfl
theorem s69_52 : ni_T d 69 52 [a0, a1, a2, a3, a4, .int x, a6, a7, a8] st z h Q = ni_T d 69 54 [a0, a1, a2, a3, a4, .int x, a6, a7, a8] (.int x :: st) z h Q := ni_T_p rfl rfl
theorem s69_54 : ni_T (d + 1) 69 54 [a0, a1, a2, a3, a4, a5, a6, a7, a8] (.int x1 :: .int x0 :: .ref o :: st) z h Q = (ni_rc (h o) 4 = true ∧ Nat.ble (ni_sw st) 8 = true ∧ ni_T d 45 0 [.ref o, .int x0, .int x1] [] z h (ni_K (d + 1) 69 57 [a0, a1, a2, a3, a4, a5, a6, a7, a8] st z Q)) := ni_T_ce [.ref o, .int x0, .int x1] rfl rfl rfl rfl rfl rfl rfl rfl rfl
theorem s69_57 : ni_T d 69 57 [a0, a1, a2, a3, a4, a5, a6, a7, a8] (.int x :: st) z h Q = if x = 0 then ni_T d 69 60 [a0, a1, a2, a3, a4, a5, a6, a7, a8] st z h Q else ni_T d 69 67 [a0, a1, a2, a3, a4, a5, a6, a7, a8] st z h Q := ni_T_b rfl rfl
theorem s69_60 : ni_T d 69 60 [.ref o, a1, a2, a3, a4, a5, a6, a7, a8] st z h Q = ni_T d 69 61 [.ref o, a1, a2, a3, a4, a5, a6, a7, a8] (.ref o :: st) z h Q := ni_T_p rfl rfl
theorem s69_61 : ni_T d 69 61 [a0, a1, a2, a3, a4, a5, a6, a7, a8] st z h Q = ni_T d 69 63 [a0, a1, a2, a3, a4, a5, a6, a7, a8] (.int (-5) :: st) z h Q := ni_T_p rfl rfl
theorem s69_63 : ni_T (d + 1) 69 63 [a0, a1, a2, a3, a4, a5, a6, a7, a8] (.int x0 :: .ref o :: st) z h Q = (ni_rc (h o) 6 = true ∧ Nat.ble (ni_sw st) 8 = true ∧ ni_T d 105 0 [.ref o, .int x0] [] z h (ni_K (d + 1) 69 66 [a0, a1, a2, a3, a4, a5, a6, a7, a8] st z Q)) := ni_T_ce [.ref o, .int x0] rfl rfl rfl rfl rfl rfl rfl rfl rfl
theorem s69_66 : ni_T d 69 66 [a0, a1, a2, a3, a4, a5, a6, a7, a8] [.int x] z h Q = Q (some (.int x)) z h := ni_T_i rfl rfl
theorem s69_67 : ni_T d 69 67 [a0, a1, a2, a3, a4, a5, .ref o, a7, a8] st z h Q = ni_T d 69 69 [a0, a1, a2, a3, a4, a5, .ref o, a7, a8] (.ref o :: st) z h Q := ni_T_p rfl rfl
theorem s69_67N : ni_T d 69 67 [a0, a1, a2, a3, a4, a5, .null, a7, a8] st z h Q = ni_T d 69 69 [a0, a1, a2, a3, a4, a5, .null, a7, a8] (.null :: st) z h Q := ni_T_p rfl rfl
theorem s69_69 : ni_T d 69 69 [a0, a1, a2, a3, a4, a5, a6, a7, a8] (.ref o :: st) z h Q = (ni_is (h o) 4 0 = true ∧ ni_T d 69 72 [a0, a1, a2, a3, a4, a5, a6, a7, a8] (ni_gv (h o) 0 :: st) z h Q) := ni_T_getf rfl
theorem s69_72 : ni_T d 69 72 [a0, a1, a2, .int x, a4, a5, a6, a7, a8] st z h Q = ni_T d 69 73 [a0, a1, a2, .int x, a4, a5, a6, a7, a8] (.int x :: st) z h Q := ni_T_p rfl rfl
theorem s69_73 : ni_T d 69 73 [a0, a1, a2, a3, a4, a5, a6, .ref o, a8] st z h Q = ni_T d 69 75 [a0, a1, a2, a3, a4, a5, a6, .ref o, a8] (.ref o :: st) z h Q := ni_T_p rfl rfl
theorem s69_73N : ni_T d 69 73 [a0, a1, a2, a3, a4, a5, a6, .null, a8] st z h Q = ni_T d 69 75 [a0, a1, a2, a3, a4, a5, a6, .null, a8] (.null :: st) z h Q := ni_T_p rfl rfl
theorem s69_75 : ni_T d 69 75 [a0, a1, a2, a3, a4, a5, a6, a7, a8] (.ref o :: st) z h Q = (ni_is (h o) 4 0 = true ∧ ni_T d 69 78 [a0, a1, a2, a3, a4, a5, a6, a7, a8] (ni_gv (h o) 0 :: st) z h Q) := ni_T_getf rfl
theorem s69_78 : ni_T d 69 78 [a0, a1, a2, a3, .int x, a5, a6, a7, a8] st z h Q = ni_T d 69 80 [a0, a1, a2, a3, .int x, a5, a6, a7, a8] (.int x :: st) z h Q := ni_T_p rfl rfl
theorem s69_80 : ni_T d 69 80 [a0, a1, a2, a3, a4, .int x, a6, a7, a8] st z h Q = ni_T d 69 82 [a0, a1, a2, a3, a4, .int x, a6, a7, a8] (.int x :: st) z h Q := ni_T_p rfl rfl
theorem s69_82 : ni_T (d + 1) 69 82 [a0, a1, a2, a3, a4, a5, a6, a7, a8] (.int x2 :: .int x1 :: .ref o1 :: .int x0 :: .ref o :: st) z h Q = (Nat.ble (ni_sw st) 8 = true ∧ ∃ e, ni_cpy (h o) (h o1) x0 x1 x2 = some e ∧ ni_T (d + 1) 69 85 [a0, a1, a2, a3, a4, a5, a6, a7, a8] st z (ni_up h o1 e) Q) := ni_T_acc rfl rfl
theorem s69_85 : ni_T d 69 85 [a0, a1, a2, a3, a4, a5, a6, a7, a8] st z h Q = ni_T d 69 86 [a0, a1, a2, a3, a4, a5, a6, a7, a8] (.int 1 :: st) z h Q := ni_T_p rfl rfl
theorem s69_86 : ni_T d 69 86 [a0, a1, a2, a3, a4, a5, a6, a7, a8] [.int x] z h Q = Q (some (.int x)) z h := ni_T_i rfl rfl
theorem s70_0 : ni_T d 70 0 [.ref o, a1, a2, a3] st z h Q = ni_T d 70 1 [.ref o, a1, a2, a3] (.ref o :: st) z h Q := ni_T_p rfl rfl
theorem s70_1 : ni_T d 70 1 [a0, .int x, a2, a3] st z h Q = ni_T d 70 2 [a0, .int x, a2, a3] (.int x :: st) z h Q := ni_T_p rfl rfl
theorem s70_2 : ni_T (d + 1) 70 2 [a0, a1, a2, a3] (.int x0 :: .ref o :: st) z h Q = (ni_rc (h o) 6 = true ∧ Nat.ble (ni_sw st) 8 = true ∧ ni_T d 107 0 [.ref o, .int x0] [] z h (ni_K (d + 1) 70 5 [a0, a1, a2, a3] st z Q)) := ni_T_ce [.ref o, .int x0] rfl rfl rfl rfl rfl rfl rfl rfl rfl
theorem s70_5 : ni_T d 70 5 [a0, a1, a2, a3] (.ref o :: st) z h Q = ni_T d 70 6 [a0, a1, ni_kl a2, .ref o] st z h Q := ni_T_p rfl rfl
theorem s70_5N : ni_T d 70 5 [a0, a1, a2, a3] (.null :: st) z h Q = ni_T d 70 6 [a0, a1, ni_kl a2, .null] st z h Q := ni_T_p rfl rfl
theorem s70_6 : ni_T d 70 6 [a0, a1, a2, .ref o] st z h Q = ni_T d 70 7 [a0, a1, a2, .ref o] (.ref o :: st) z h Q := ni_T_p rfl rfl
theorem s70_6N : ni_T d 70 6 [a0, a1, a2, .null] st z h Q = ni_T d 70 7 [a0, a1, a2, .null] (.null :: st) z h Q := ni_T_p rfl rfl
theorem s70_7N : ni_T d 70 7 [a0, a1, a2, a3] (.null :: st) z h Q = ni_T d 70 30 [a0, a1, a2, a3] st z h Q := ni_T_p rfl rfl
theorem s70_7 : ni_T d 70 7 [a0, a1, a2, a3] (.ref o :: st) z h Q = ni_T d 70 10 [a0, a1, a2, a3] st z h Q := ni_T_p rfl rfl
theorem s70_10 : ni_T d 70 10 [a0, a1, a2, .ref o] st z h Q = ni_T d 70 11 [a0, a1, a2, .ref o] (.ref o :: st) z h Q := ni_T_p rfl rfl
theorem s70_10N : ni_T d 70 10 [a0, a1, a2, .null] st z h Q = ni_T d 70 11 [a0, a1, a2, .null] (.null :: st) z h Q := ni_T_p rfl rfl
theorem s70_11 : ni_T d 70 11 [a0, a1, a2, a3] (.ref o :: st) z h Q = (ni_is (h o) 4 1 = true ∧ ni_T d 70 14 [a0, a1, a2, a3] (ni_gv (h o) 1 :: st) z h Q) := ni_T_getf rfl
theorem s70_14 : ni_T d 70 14 [a0, a1, a2, a3] st z h Q = ni_T d 70 15 [a0, a1, a2, a3] (.int 1 :: st) z h Q := ni_T_p rfl rfl
theorem s70_15 : ni_T d 70 15 [a0, a1, a2, a3] (.int y :: .int x :: st) z h Q = if x = y then ni_T d 70 18 [a0, a1, a2, a3] st z h Q else ni_T d 70 30 [a0, a1, a2, a3] st z h Q := ni_T_b rfl rfl
theorem s70_18 : ni_T d 70 18 [a0, a1, .int x, a3] st z h Q = ni_T d 70 19 [a0, a1, .int x, a3] (.int x :: st) z h Q := ni_T_p rfl rfl
theorem s70_19 : ni_T d 70 19 [a0, a1, a2, a3] (.int x :: st) z h Q = if x < 0 then ni_T d 70 30 [a0, a1, a2, a3] st z h Q else ni_T d 70 22 [a0, a1, a2, a3] st z h Q := ni_T_b rfl rfl
theorem s70_22 : ni_T d 70 22 [a0, a1, .int x, a3] st z h Q = ni_T d 70 23 [a0, a1, .int x, a3] (.int x :: st) z h Q := ni_T_p rfl rfl
theorem s70_23 : ni_T d 70 23 [a0, a1, a2, .ref o] st z h Q = ni_T d 70 24 [a0, a1, a2, .ref o] (.ref o :: st) z h Q := ni_T_p rfl rfl
theorem s70_23N : ni_T d 70 23 [a0, a1, a2, .null] st z h Q = ni_T d 70 24 [a0, a1, a2, .null] (.null :: st) z h Q := ni_T_p rfl rfl
theorem s70_24 : ni_T d 70 24 [a0, a1, a2, a3] (.ref o :: st) z h Q = (ni_is (h o) 4 4 = true ∧ ni_T d 70 27 [a0, a1, a2, a3] (ni_gv (h o) 4 :: st) z h Q) := ni_T_getf rfl
theorem s70_27 : ni_T d 70 27 [a0, a1, a2, a3] (.int y :: .int x :: st) z h Q = if x < y then ni_T d 70 32 [a0, a1, a2, a3] st z h Q else ni_T d 70 30 [a0, a1, a2, a3] st z h Q := ni_T_b rfl rfl
theorem s70_30 : ni_T d 70 30 [a0, a1, a2, a3] st z h Q = ni_T d 70 31 [a0, a1, a2, a3] (.long 0 :: st) z h Q := ni_T_p rfl rfl
theorem s70_31 : ni_T d 70 31 [a0, a1, a2, a3] [.long u] z h Q = Q (some (.long u)) z h := ni_T_l rfl rfl
theorem s70_32 : ni_T d 70 32 [a0, a1, a2, .ref o] st z h Q = ni_T d 70 33 [a0, a1, a2, .ref o] (.ref o :: st) z h Q := ni_T_p rfl rfl
theorem s70_32N : ni_T d 70 32 [a0, a1, a2, .null] st z h Q = ni_T d 70 33 [a0, a1, a2, .null] (.null :: st) z h Q := ni_T_p rfl rfl
theorem s70_33 : ni_T d 70 33 [a0, a1, a2, a3] (.ref o :: st) z h Q = (ni_is (h o) 4 0 = true ∧ ni_T d 70 36 [a0, a1, a2, a3] (ni_gv (h o) 0 :: st) z h Q) := ni_T_getf rfl
theorem s70_36 : ni_T d 70 36 [a0, a1, .int x, a3] st z h Q = ni_T d 70 37 [a0, a1, .int x, a3] (.int x :: st) z h Q := ni_T_p rfl rfl
theorem s70_37 : ni_T d 70 37 [a0, a1, a2, a3] (.int x :: .ref o :: st) z h Q = (ni_okL (h o) x = true ∧ ni_T d 70 38 [a0, a1, a2, a3] (.long (ni_gl (h o) x) :: st) z h Q) := ni_T_lald rfl
theorem s70_38 : ni_T d 70 38 [a0, a1, a2, a3] [.long u] z h Q = Q (some (.long u)) z h := ni_T_l rfl rfl
theorem s71_0 : ni_T d 71 0 [.ref o, a1, a2, a3] st z h Q = ni_T d 71 1 [.ref o, a1, a2, a3] (.ref o :: st) z h Q := ni_T_p rfl rfl
theorem s71_1 : ni_T d 71 1 [a0, .int x, a2, a3] st z h Q = ni_T d 71 2 [a0, .int x, a2, a3] (.int x :: st) z h Q := ni_T_p rfl rfl
theorem s71_2 : ni_T (d + 1) 71 2 [a0, a1, a2, a3] (.int x0 :: .ref o :: st) z h Q = (ni_rc (h o) 6 = true ∧ Nat.ble (ni_sw st) 8 = true ∧ ni_T d 107 0 [.ref o, .int x0] [] z h (ni_K (d + 1) 71 5 [a0, a1, a2, a3] st z Q)) := ni_T_ce [.ref o, .int x0] rfl rfl rfl rfl rfl rfl rfl rfl rfl
theorem s71_5 : ni_T d 71 5 [a0, a1, a2, a3] (.ref o :: st) z h Q = ni_T d 71 6 [a0, a1, ni_kl a2, .ref o] st z h Q := ni_T_p rfl rfl
theorem s71_5N : ni_T d 71 5 [a0, a1, a2, a3] (.null :: st) z h Q = ni_T d 71 6 [a0, a1, ni_kl a2, .null] st z h Q := ni_T_p rfl rfl
theorem s71_6 : ni_T d 71 6 [a0, a1, a2, .ref o] st z h Q = ni_T d 71 7 [a0, a1, a2, .ref o] (.ref o :: st) z h Q := ni_T_p rfl rfl
theorem s71_6N : ni_T d 71 6 [a0, a1, a2, .null] st z h Q = ni_T d 71 7 [a0, a1, a2, .null] (.null :: st) z h Q := ni_T_p rfl rfl
theorem s71_7N : ni_T d 71 7 [a0, a1, a2, a3] (.null :: st) z h Q = ni_T d 71 10 [a0, a1, a2, a3] st z h Q := ni_T_p rfl rfl
theorem s71_7 : ni_T d 71 7 [a0, a1, a2, a3] (.ref o :: st) z h Q = ni_T d 71 16 [a0, a1, a2, a3] st z h Q := ni_T_p rfl rfl
theorem s71_10 : ni_T d 71 10 [.ref o, a1, a2, a3] st z h Q = ni_T d 71 11 [.ref o, a1, a2, a3] (.ref o :: st) z h Q := ni_T_p rfl rfl
theorem s71_11 : ni_T d 71 11 [a0, a1, a2, a3] st z h Q = ni_T d 71 12 [a0, a1, a2, a3] (.int (-1) :: st) z h Q := ni_T_p rfl rfl
theorem s71_12 : ni_T (d + 1) 71 12 [a0, a1, a2, a3] (.int x0 :: .ref o :: st) z h Q = (ni_rc (h o) 6 = true ∧ Nat.ble (ni_sw st) 8 = true ∧ ni_T d 105 0 [.ref o, .int x0] [] z h (ni_K (d + 1) 71 15 [a0, a1, a2, a3] st z Q)) := ni_T_ce [.ref o, .int x0] rfl rfl rfl rfl rfl rfl rfl rfl rfl
theorem s71_15 : ni_T d 71 15 [a0, a1, a2, a3] [.int x] z h Q = Q (some (.int x)) z h := ni_T_i rfl rfl
theorem s71_16 : ni_T d 71 16 [a0, a1, .int x, a3] st z h Q = ni_T d 71 17 [a0, a1, .int x, a3] (.int x :: st) z h Q := ni_T_p rfl rfl
theorem s71_17 : ni_T d 71 17 [a0, a1, a2, a3] st z h Q = ni_T d 71 18 [a0, a1, a2, a3] (.int (-1) :: st) z h Q := ni_T_p rfl rfl
theorem s71_18 : ni_T d 71 18 [a0, a1, a2, a3] (.int y :: .int x :: st) z h Q = if x = y then ni_T d 71 21 [a0, a1, a2, a3] st z h Q else ni_T d 71 28 [a0, a1, a2, a3] st z h Q := ni_T_b rfl rfl
theorem s71_21 : ni_T d 71 21 [a0, a1, a2, .ref o] st z h Q = ni_T d 71 22 [a0, a1, a2, .ref o] (.ref o :: st) z h Q := ni_T_p rfl rfl
theorem s71_21N : ni_T d 71 21 [a0, a1, a2, .null] st z h Q = ni_T d 71 22 [a0, a1, a2, .null] (.null :: st) z h Q := ni_T_p rfl rfl
theorem s71_22 : ni_T d 71 22 [a0, a1, a2, a3] st z h Q = ni_T d 71 23 [a0, a1, a2, a3] (.int 0 :: st) z h Q := ni_T_p rfl rfl
theorem s71_23 : ni_T d 71 23 [a0, a1, a2, a3] (b0 :: .ref o :: st) z h Q = ((Nat.ble 4 7 && ni_is (h o) 4 1 && ni_fit (.int) b0) = true ∧ ni_T d 71 26 [a0, a1, a2, a3] st z (ni_up h o (ni_pv (h o) 1 b0)) Q) := ni_T_putf rfl
theorem s71_26 : ni_T d 71 26 [a0, a1, a2, a3] st z h Q = ni_T d 71 27 [a0, a1, a2, a3] (.int 0 :: st) z h Q := ni_T_p rfl rfl
theorem s71_27 : ni_T d 71 27 [a0, a1, a2, a3] [.int x] z h Q = Q (some (.int x)) z h := ni_T_i rfl rfl
theorem s71_28 : ni_T d 71 28 [.ref o, a1, a2, a3] st z h Q = ni_T d 71 29 [.ref o, a1, a2, a3] (.ref o :: st) z h Q := ni_T_p rfl rfl
theorem s71_29 : ni_T d 71 29 [a0, a1, a2, a3] (.ref o :: st) z h Q = (ni_is (h o) 6 1 = true ∧ ni_T d 71 32 [a0, a1, a2, a3] (ni_gv (h o) 1 :: st) z h Q) := ni_T_getf rfl
theorem s71_32 : ni_T d 71 32 [a0, a1, .int x, a3] st z h Q = ni_T d 71 33 [a0, a1, .int x, a3] (.int x :: st) z h Q := ni_T_p rfl rfl
theorem s71_33 : ni_T (d + 1) 71 33 [a0, a1, a2, a3] (.int x0 :: .ref o :: st) z h Q = (ni_rc (h o) 5 = true ∧ Nat.ble (ni_sw st) 8 = true ∧ ni_T d 48 0 [.ref o, .int x0] [] z h (ni_K (d + 1) 71 36 [a0, a1, a2, a3] st z Q)) := ni_T_ce [.ref o, .int x0] rfl rfl rfl rfl rfl rfl rfl rfl rfl
theorem s71_36N : ni_T d 71 36 [a0, a1, a2, a3] (.null :: st) z h Q = ni_T d 71 39 [a0, a1, a2, a3] st z h Q := ni_T_p rfl rfl
theorem s71_36 : ni_T d 71 36 [a0, a1, a2, a3] (.ref o :: st) z h Q = ni_T d 71 45 [a0, a1, a2, a3] st z h Q := ni_T_p rfl rfl
theorem s71_39 : ni_T d 71 39 [.ref o, a1, a2, a3] st z h Q = ni_T d 71 40 [.ref o, a1, a2, a3] (.ref o :: st) z h Q := ni_T_p rfl rfl
theorem s71_40 : ni_T d 71 40 [a0, a1, a2, a3] st z h Q = ni_T d 71 41 [a0, a1, a2, a3] (.int (-1) :: st) z h Q := ni_T_p rfl rfl
theorem s71_41 : ni_T (d + 1) 71 41 [a0, a1, a2, a3] (.int x0 :: .ref o :: st) z h Q = (ni_rc (h o) 6 = true ∧ Nat.ble (ni_sw st) 8 = true ∧ ni_T d 105 0 [.ref o, .int x0] [] z h (ni_K (d + 1) 71 44 [a0, a1, a2, a3] st z Q)) := ni_T_ce [.ref o, .int x0] rfl rfl rfl rfl rfl rfl rfl rfl rfl
theorem s71_44 : ni_T d 71 44 [a0, a1, a2, a3] [.int x] z h Q = Q (some (.int x)) z h := ni_T_i rfl rfl
theorem s71_45 : ni_T d 71 45 [a0, a1, a2, .ref o] st z h Q = ni_T d 71 46 [a0, a1, a2, .ref o] (.ref o :: st) z h Q := ni_T_p rfl rfl
theorem s71_45N : ni_T d 71 45 [a0, a1, a2, .null] st z h Q = ni_T d 71 46 [a0, a1, a2, .null] (.null :: st) z h Q := ni_T_p rfl rfl
theorem s71_46 : ni_T d 71 46 [a0, a1, a2, a3] st z h Q = ni_T d 71 47 [a0, a1, a2, a3] (.int 2 :: st) z h Q := ni_T_p rfl rfl
theorem s71_47 : ni_T d 71 47 [a0, a1, a2, a3] (b0 :: .ref o :: st) z h Q = ((Nat.ble 4 7 && ni_is (h o) 4 1 && ni_fit (.int) b0) = true ∧ ni_T d 71 50 [a0, a1, a2, a3] st z (ni_up h o (ni_pv (h o) 1 b0)) Q) := ni_T_putf rfl
theorem s71_50 : ni_T d 71 50 [a0, a1, a2, .ref o] st z h Q = ni_T d 71 51 [a0, a1, a2, .ref o] (.ref o :: st) z h Q := ni_T_p rfl rfl
theorem s71_50N : ni_T d 71 50 [a0, a1, a2, .null] st z h Q = ni_T d 71 51 [a0, a1, a2, .null] (.null :: st) z h Q := ni_T_p rfl rfl
theorem s71_51 : ni_T d 71 51 [a0, a1, .int x, a3] st z h Q = ni_T d 71 52 [a0, a1, .int x, a3] (.int x :: st) z h Q := ni_T_p rfl rfl
theorem s71_52 : ni_T d 71 52 [a0, a1, a2, a3] (b0 :: .ref o :: st) z h Q = ((Nat.ble 4 7 && ni_is (h o) 4 2 && ni_fit (.int) b0) = true ∧ ni_T d 71 55 [a0, a1, a2, a3] st z (ni_up h o (ni_pv (h o) 2 b0)) Q) := ni_T_putf rfl
theorem s71_55 : ni_T d 71 55 [a0, a1, a2, a3] st z h Q = ni_T d 71 56 [a0, a1, a2, a3] (.int 1 :: st) z h Q := ni_T_p rfl rfl
theorem s71_56 : ni_T d 71 56 [a0, a1, a2, a3] [.int x] z h Q = Q (some (.int x)) z h := ni_T_i rfl rfl
theorem s72_0 : ni_T d 72 0 [.ref o, a1, a2] st z h Q = ni_T d 72 1 [.ref o, a1, a2] (.ref o :: st) z h Q := ni_T_p rfl rfl
theorem s72_1 : ni_T d 72 1 [a0, .int x, a2] st z h Q = ni_T d 72 2 [a0, .int x, a2] (.int x :: st) z h Q := ni_T_p rfl rfl
theorem s72_2 : ni_T (d + 1) 72 2 [a0, a1, a2] (.int x0 :: .ref o :: st) z h Q = (ni_rc (h o) 6 = true ∧ Nat.ble (ni_sw st) 8 = true ∧ ni_T d 107 0 [.ref o, .int x0] [] z h (ni_K (d + 1) 72 5 [a0, a1, a2] st z Q)) := ni_T_ce [.ref o, .int x0] rfl rfl rfl rfl rfl rfl rfl rfl rfl
theorem s72_5 : ni_T d 72 5 [a0, a1, a2] (.ref o :: st) z h Q = ni_T d 72 6 [a0, ni_kl a1, .ref o] st z h Q := ni_T_p rfl rfl
theorem s72_5N : ni_T d 72 5 [a0, a1, a2] (.null :: st) z h Q = ni_T d 72 6 [a0, ni_kl a1, .null] st z h Q := ni_T_p rfl rfl
theorem s72_6 : ni_T d 72 6 [a0, a1, .ref o] st z h Q = ni_T d 72 7 [a0, a1, .ref o] (.ref o :: st) z h Q := ni_T_p rfl rfl
theorem s72_6N : ni_T d 72 6 [a0, a1, .null] st z h Q = ni_T d 72 7 [a0, a1, .null] (.null :: st) z h Q := ni_T_p rfl rfl
theorem s72_7N : ni_T d 72 7 [a0, a1, a2] (.null :: st) z h Q = ni_T d 72 17 [a0, a1, a2] st z h Q := ni_T_p rfl rfl
theorem s72_7 : ni_T d 72 7 [a0, a1, a2] (.ref o :: st) z h Q = ni_T d 72 10 [a0, a1, a2] st z h Q := ni_T_p rfl rfl
theorem s72_10 : ni_T d 72 10 [a0, a1, .ref o] st z h Q = ni_T d 72 11 [a0, a1, .ref o] (.ref o :: st) z h Q := ni_T_p rfl rfl
theorem s72_10N : ni_T d 72 10 [a0, a1, .null] st z h Q = ni_T d 72 11 [a0, a1, .null] (.null :: st) z h Q := ni_T_p rfl rfl
theorem s72_11 : ni_T d 72 11 [a0, a1, a2] (.ref o :: st) z h Q = (ni_is (h o) 4 1 = true ∧ ni_T d 72 14 [a0, a1, a2] (ni_gv (h o) 1 :: st) z h Q) := ni_T_getf rfl
theorem s72_14 : ni_T d 72 14 [a0, a1, a2] (.int x :: st) z h Q = if x = 0 then ni_T d 72 17 [a0, a1, a2] st z h Q else ni_T d 72 19 [a0, a1, a2] st z h Q := ni_T_b rfl rfl
theorem s72_17 : ni_T d 72 17 [a0, a1, a2] st z h Q = ni_T d 72 18 [a0, a1, a2] (.int (-1) :: st) z h Q := ni_T_p rfl rfl
theorem s72_18 : ni_T d 72 18 [a0, a1, a2] [.int x] z h Q = Q (some (.int x)) z h := ni_T_i rfl rfl
theorem s72_19 : ni_T d 72 19 [a0, a1, .ref o] st z h Q = ni_T d 72 20 [a0, a1, .ref o] (.ref o :: st) z h Q := ni_T_p rfl rfl
theorem s72_19N : ni_T d 72 19 [a0, a1, .null] st z h Q = ni_T d 72 20 [a0, a1, .null] (.null :: st) z h Q := ni_T_p rfl rfl
theorem s72_20 : ni_T d 72 20 [a0, a1, a2] (.ref o :: st) z h Q = (ni_is (h o) 4 1 = true ∧ ni_T d 72 23 [a0, a1, a2] (ni_gv (h o) 1 :: st) z h Q) := ni_T_getf rfl
theorem s72_23 : ni_T d 72 23 [a0, a1, a2] st z h Q = ni_T d 72 24 [a0, a1, a2] (.int 2 :: st) z h Q := ni_T_p rfl rfl
theorem s72_24 : ni_T d 72 24 [a0, a1, a2] (.int y :: .int x :: st) z h Q = if x = y then ni_T d 72 27 [a0, a1, a2] st z h Q else ni_T d 72 34 [a0, a1, a2] st z h Q := ni_T_b rfl rfl
theorem s72_27 : ni_T d 72 27 [a0, a1, .ref o] st z h Q = ni_T d 72 28 [a0, a1, .ref o] (.ref o :: st) z h Q := ni_T_p rfl rfl
theorem s72_27N : ni_T d 72 27 [a0, a1, .null] st z h Q = ni_T d 72 28 [a0, a1, .null] (.null :: st) z h Q := ni_T_p rfl rfl
theorem s72_28 : ni_T d 72 28 [a0, a1, a2] (.ref o :: st) z h Q = (ni_is (h o) 4 2 = true ∧ ni_T d 72 31 [a0, a1, a2] (ni_gv (h o) 2 :: st) z h Q) := ni_T_getf rfl
theorem s72_31 : ni_T d 72 31 [a0, a1, a2] st z h Q = ni_T d 72 41 [a0, a1, a2] st z h Q := ni_T_p rfl rfl
theorem s72_34 : ni_T d 72 34 [a0, a1, a2] st z h Q = ni_T d 72 36 [a0, a1, a2] (.int 100 :: st) z h Q := ni_T_p rfl rfl
theorem s72_36 : ni_T d 72 36 [a0, a1, .ref o] st z h Q = ni_T d 72 37 [a0, a1, .ref o] (.ref o :: st) z h Q := ni_T_p rfl rfl
theorem s72_36N : ni_T d 72 36 [a0, a1, .null] st z h Q = ni_T d 72 37 [a0, a1, .null] (.null :: st) z h Q := ni_T_p rfl rfl
theorem s72_37 : ni_T d 72 37 [a0, a1, a2] (.ref o :: st) z h Q = (ni_is (h o) 4 3 = true ∧ ni_T d 72 40 [a0, a1, a2] (ni_gv (h o) 3 :: st) z h Q) := ni_T_getf rfl
theorem s72_40 : ni_T d 72 40 [a0, a1, a2] (.int y :: .int x :: st) z h Q = ni_T d 72 41 [a0, a1, a2] (.int (x + y) :: st) z h Q := ni_T_p rfl rfl
theorem s72_41 : ni_T d 72 41 [a0, a1, a2] [.int x] z h Q = Q (some (.int x)) z h := ni_T_i rfl rfl
theorem s73_0 : ni_T d 73 0 [.ref o, a1, a2, a3, a4] st z h Q = ni_T d 73 1 [.ref o, a1, a2, a3, a4] (.ref o :: st) z h Q := ni_T_p rfl rfl
theorem s73_1 : ni_T d 73 1 [a0, .int x, a2, a3, a4] st z h Q = ni_T d 73 2 [a0, .int x, a2, a3, a4] (.int x :: st) z h Q := ni_T_p rfl rfl
theorem s73_2 : ni_T (d + 1) 73 2 [a0, a1, a2, a3, a4] (.int x0 :: .ref o :: st) z h Q = (ni_rc (h o) 6 = true ∧ Nat.ble (ni_sw st) 8 = true ∧ ni_T d 107 0 [.ref o, .int x0] [] z h (ni_K (d + 1) 73 5 [a0, a1, a2, a3, a4] st z Q)) := ni_T_ce [.ref o, .int x0] rfl rfl rfl rfl rfl rfl rfl rfl rfl
theorem s73_5 : ni_T d 73 5 [a0, a1, a2, a3, a4] (.ref o :: st) z h Q = ni_T d 73 6 [a0, a1, ni_kl a2, .ref o, a4] st z h Q := ni_T_p rfl rfl
theorem s73_5N : ni_T d 73 5 [a0, a1, a2, a3, a4] (.null :: st) z h Q = ni_T d 73 6 [a0, a1, ni_kl a2, .null, a4] st z h Q := ni_T_p rfl rfl
theorem s73_6 : ni_T d 73 6 [a0, a1, a2, .ref o, a4] st z h Q = ni_T d 73 7 [a0, a1, a2, .ref o, a4] (.ref o :: st) z h Q := ni_T_p rfl rfl
theorem s73_6N : ni_T d 73 6 [a0, a1, a2, .null, a4] st z h Q = ni_T d 73 7 [a0, a1, a2, .null, a4] (.null :: st) z h Q := ni_T_p rfl rfl
theorem s73_7N : ni_T d 73 7 [a0, a1, a2, a3, a4] (.null :: st) z h Q = ni_T d 73 20 [a0, a1, a2, a3, a4] st z h Q := ni_T_p rfl rfl
theorem s73_7 : ni_T d 73 7 [a0, a1, a2, a3, a4] (.ref o :: st) z h Q = ni_T d 73 10 [a0, a1, a2, a3, a4] st z h Q := ni_T_p rfl rfl
theorem s73_10 : ni_T d 73 10 [a0, a1, .int x, a3, a4] st z h Q = ni_T d 73 11 [a0, a1, .int x, a3, a4] (.int x :: st) z h Q := ni_T_p rfl rfl
theorem s73_11 : ni_T d 73 11 [a0, a1, a2, a3, a4] (.int x :: st) z h Q = if x < 0 then ni_T d 73 20 [a0, a1, a2, a3, a4] st z h Q else ni_T d 73 14 [a0, a1, a2, a3, a4] st z h Q := ni_T_b rfl rfl
theorem s73_14 : ni_T d 73 14 [a0, a1, .int x, a3, a4] st z h Q = ni_T d 73 15 [a0, a1, .int x, a3, a4] (.int x :: st) z h Q := ni_T_p rfl rfl
theorem s73_15 : ni_T d 73 15 [a0, a1, a2, a3, a4] st z h Q = ni_T d 73 17 [a0, a1, a2, a3, a4] (.int 7 :: st) z h Q := ni_T_p rfl rfl
theorem s73_17 : ni_T d 73 17 [a0, a1, a2, a3, a4] (.int y :: .int x :: st) z h Q = if x < y then ni_T d 73 26 [a0, a1, a2, a3, a4] st z h Q else ni_T d 73 20 [a0, a1, a2, a3, a4] st z h Q := ni_T_b rfl rfl
theorem s73_20 : ni_T d 73 20 [.ref o, a1, a2, a3, a4] st z h Q = ni_T d 73 21 [.ref o, a1, a2, a3, a4] (.ref o :: st) z h Q := ni_T_p rfl rfl
theorem s73_21 : ni_T d 73 21 [a0, a1, a2, a3, a4] st z h Q = ni_T d 73 22 [a0, a1, a2, a3, a4] (.int (-1) :: st) z h Q := ni_T_p rfl rfl
theorem s73_22 : ni_T (d + 1) 73 22 [a0, a1, a2, a3, a4] (.int x0 :: .ref o :: st) z h Q = (ni_rc (h o) 6 = true ∧ Nat.ble (ni_sw st) 8 = true ∧ ni_T d 105 0 [.ref o, .int x0] [] z h (ni_K (d + 1) 73 25 [a0, a1, a2, a3, a4] st z Q)) := ni_T_ce [.ref o, .int x0] rfl rfl rfl rfl rfl rfl rfl rfl rfl
theorem s73_25 : ni_T d 73 25 [a0, a1, a2, a3, a4] [.int x] z h Q = Q (some (.int x)) z h := ni_T_i rfl rfl
theorem s73_26 : ni_T d 73 26 [a0, a1, a2, .ref o, a4] st z h Q = ni_T d 73 27 [a0, a1, a2, .ref o, a4] (.ref o :: st) z h Q := ni_T_p rfl rfl
theorem s73_26N : ni_T d 73 26 [a0, a1, a2, .null, a4] st z h Q = ni_T d 73 27 [a0, a1, a2, .null, a4] (.null :: st) z h Q := ni_T_p rfl rfl
theorem s73_27 : ni_T d 73 27 [a0, a1, a2, a3, a4] (.ref o :: st) z h Q = (ni_is (h o) 4 1 = true ∧ ni_T d 73 30 [a0, a1, a2, a3, a4] (ni_gv (h o) 1 :: st) z h Q) := ni_T_getf rfl
theorem s73_30 : ni_T d 73 30 [a0, a1, a2, a3, a4] st z h Q = ni_T d 73 31 [a0, a1, a2, a3, a4] (.int 1 :: st) z h Q := ni_T_p rfl rfl
theorem s73_31 : ni_T d 73 31 [a0, a1, a2, a3, a4] (.int y :: .int x :: st) z h Q = if x = y then ni_T d 73 34 [a0, a1, a2, a3, a4] st z h Q else ni_T d 73 41 [a0, a1, a2, a3, a4] st z h Q := ni_T_b rfl rfl
theorem s73_34 : ni_T d 73 34 [.ref o, a1, a2, a3, a4] st z h Q = ni_T d 73 35 [.ref o, a1, a2, a3, a4] (.ref o :: st) z h Q := ni_T_p rfl rfl
theorem s73_35 : ni_T d 73 35 [a0, a1, a2, a3, a4] st z h Q = ni_T d 73 37 [a0, a1, a2, a3, a4] (.int (-2) :: st) z h Q := ni_T_p rfl rfl
theorem s73_37 : ni_T (d + 1) 73 37 [a0, a1, a2, a3, a4] (.int x0 :: .ref o :: st) z h Q = (ni_rc (h o) 6 = true ∧ Nat.ble (ni_sw st) 8 = true ∧ ni_T d 105 0 [.ref o, .int x0] [] z h (ni_K (d + 1) 73 40 [a0, a1, a2, a3, a4] st z Q)) := ni_T_ce [.ref o, .int x0] rfl rfl rfl rfl rfl rfl rfl rfl rfl
theorem s73_40 : ni_T d 73 40 [a0, a1, a2, a3, a4] [.int x] z h Q = Q (some (.int x)) z h := ni_T_i rfl rfl
theorem s73_41 : ni_T d 73 41 [a0, a1, a2, .ref o, a4] st z h Q = ni_T d 73 42 [a0, a1, a2, .ref o, a4] (.ref o :: st) z h Q := ni_T_p rfl rfl
theorem s73_41N : ni_T d 73 41 [a0, a1, a2, .null, a4] st z h Q = ni_T d 73 42 [a0, a1, a2, .null, a4] (.null :: st) z h Q := ni_T_p rfl rfl
theorem s73_42 : ni_T d 73 42 [a0, a1, a2, a3, a4] (.ref o :: st) z h Q = (ni_is (h o) 4 1 = true ∧ ni_T d 73 45 [a0, a1, a2, a3, a4] (ni_gv (h o) 1 :: st) z h Q) := ni_T_getf rfl
theorem s73_45 : ni_T d 73 45 [a0, a1, a2, a3, a4] st z h Q = ni_T d 73 46 [a0, a1, a2, a3, a4] (.int 2 :: st) z h Q := ni_T_p rfl rfl
theorem s73_46 : ni_T d 73 46 [a0, a1, a2, a3, a4] (.int y :: .int x :: st) z h Q = if x = y then ni_T d 73 49 [a0, a1, a2, a3, a4] st z h Q else ni_T d 73 63 [a0, a1, a2, a3, a4] st z h Q := ni_T_b rfl rfl
theorem s73_49 : ni_T d 73 49 [.ref o, a1, a2, a3, a4] st z h Q = ni_T d 73 50 [.ref o, a1, a2, a3, a4] (.ref o :: st) z h Q := ni_T_p rfl rfl
theorem s73_50 : ni_T d 73 50 [a0, a1, a2, a3, a4] (.ref o :: st) z h Q = (ni_is (h o) 6 1 = true ∧ ni_T d 73 53 [a0, a1, a2, a3, a4] (ni_gv (h o) 1 :: st) z h Q) := ni_T_getf rfl
theorem s73_53 : ni_T d 73 53 [a0, a1, a2, .ref o, a4] st z h Q = ni_T d 73 54 [a0, a1, a2, .ref o, a4] (.ref o :: st) z h Q := ni_T_p rfl rfl
theorem s73_53N : ni_T d 73 53 [a0, a1, a2, .null, a4] st z h Q = ni_T d 73 54 [a0, a1, a2, .null, a4] (.null :: st) z h Q := ni_T_p rfl rfl
theorem s73_54 : ni_T d 73 54 [a0, a1, a2, a3, a4] (.ref o :: st) z h Q = (ni_is (h o) 4 2 = true ∧ ni_T d 73 57 [a0, a1, a2, a3, a4] (ni_gv (h o) 2 :: st) z h Q) := ni_T_getf rfl
theorem s73_57 : ni_T (d + 1) 73 57 [a0, a1, a2, a3, a4] (.int x0 :: .ref o :: st) z h Q = (ni_rc (h o) 5 = true ∧ Nat.ble (ni_sw st) 8 = true ∧ ni_T d 48 0 [.ref o, .int x0] [] z h (ni_K (d + 1) 73 60 [a0, a1, a2, a3, a4] st z Q)) := ni_T_ce [.ref o, .int x0] rfl rfl rfl rfl rfl rfl rfl rfl rfl
theorem s73_60 : ni_T d 73 60 [a0, a1, a2, a3, a4] st z h Q = ni_T d 73 64 [a0, a1, a2, a3, a4] st z h Q := ni_T_p rfl rfl
theorem s73_63 : ni_T d 73 63 [a0, a1, a2, a3, a4] st z h Q = ni_T d 73 64 [a0, a1, a2, a3, a4] (.null :: st) z h Q := ni_T_p rfl rfl
theorem s73_64 : ni_T d 73 64 [a0, a1, a2, a3, a4] (.ref o :: st) z h Q = ni_T d 73 66 [a0, a1, a2, ni_kl a3, .ref o] st z h Q := ni_T_p rfl rfl
theorem s73_64N : ni_T d 73 64 [a0, a1, a2, a3, a4] (.null :: st) z h Q = ni_T d 73 66 [a0, a1, a2, ni_kl a3, .null] st z h Q := ni_T_p rfl rfl
theorem s73_66 : ni_T d 73 66 [a0, a1, a2, a3, .ref o] st z h Q = ni_T d 73 68 [a0, a1, a2, a3, .ref o] (.ref o :: st) z h Q := ni_T_p rfl rfl
theorem s73_66N : ni_T d 73 66 [a0, a1, a2, a3, .null] st z h Q = ni_T d 73 68 [a0, a1, a2, a3, .null] (.null :: st) z h Q := ni_T_p rfl rfl
theorem s73_68N : ni_T d 73 68 [a0, a1, a2, a3, a4] (.null :: st) z h Q = ni_T d 73 71 [a0, a1, a2, a3, a4] st z h Q := ni_T_p rfl rfl
theorem s73_68 : ni_T d 73 68 [a0, a1, a2, a3, a4] (.ref o :: st) z h Q = ni_T d 73 78 [a0, a1, a2, a3, a4] st z h Q := ni_T_p rfl rfl
theorem s73_71 : ni_T d 73 71 [.ref o, a1, a2, a3, a4] st z h Q = ni_T d 73 72 [.ref o, a1, a2, a3, a4] (.ref o :: st) z h Q := ni_T_p rfl rfl
theorem s73_72 : ni_T d 73 72 [a0, a1, a2, a3, a4] st z h Q = ni_T d 73 74 [a0, a1, a2, a3, a4] (.int (-3) :: st) z h Q := ni_T_p rfl rfl
theorem s73_74 : ni_T (d + 1) 73 74 [a0, a1, a2, a3, a4] (.int x0 :: .ref o :: st) z h Q = (ni_rc (h o) 6 = true ∧ Nat.ble (ni_sw st) 8 = true ∧ ni_T d 105 0 [.ref o, .int x0] [] z h (ni_K (d + 1) 73 77 [a0, a1, a2, a3, a4] st z Q)) := ni_T_ce [.ref o, .int x0] rfl rfl rfl rfl rfl rfl rfl rfl rfl
theorem s73_77 : ni_T d 73 77 [a0, a1, a2, a3, a4] [.int x] z h Q = Q (some (.int x)) z h := ni_T_i rfl rfl
theorem s73_78 : ni_T d 73 78 [a0, a1, a2, a3, .ref o] st z h Q = ni_T d 73 80 [a0, a1, a2, a3, .ref o] (.ref o :: st) z h Q := ni_T_p rfl rfl
theorem s73_78N : ni_T d 73 78 [a0, a1, a2, a3, .null] st z h Q = ni_T d 73 80 [a0, a1, a2, a3, .null] (.null :: st) z h Q := ni_T_p rfl rfl
theorem s73_80 : ni_T d 73 80 [a0, a1, .int x, a3, a4] st z h Q = ni_T d 73 81 [a0, a1, .int x, a3, a4] (.int x :: st) z h Q := ni_T_p rfl rfl
theorem s73_81 : ni_T (d + 1) 73 81 [a0, a1, a2, a3, a4] (.int x0 :: .ref o :: st) z h Q = (ni_rc (h o) 1 = true ∧ Nat.ble (ni_sw st) 8 = true ∧ ni_T d 9 0 [.ref o, .int x0, .retAddr 0, .retAddr 0] [] z h (ni_K (d + 1) 73 84 [a0, a1, a2, a3, a4] st z Q)) := ni_T_ce [.ref o, .int x0] rfl rfl rfl rfl rfl rfl rfl rfl rfl
theorem s73_84 : ni_T d 73 84 [a0, a1, a2, a3, a4] (.int x :: st) z h Q = if x = 0 then ni_T d 73 96 [a0, a1, a2, a3, a4] st z h Q else ni_T d 73 87 [a0, a1, a2, a3, a4] st z h Q := ni_T_b rfl rfl
theorem s73_87 : ni_T d 73 87 [a0, a1, a2, a3, .ref o] st z h Q = ni_T d 73 89 [a0, a1, a2, a3, .ref o] (.ref o :: st) z h Q := ni_T_p rfl rfl
theorem s73_87N : ni_T d 73 87 [a0, a1, a2, a3, .null] st z h Q = ni_T d 73 89 [a0, a1, a2, a3, .null] (.null :: st) z h Q := ni_T_p rfl rfl
theorem s73_89 : ni_T d 73 89 [a0, a1, .int x, a3, a4] st z h Q = ni_T d 73 90 [a0, a1, .int x, a3, a4] (.int x :: st) z h Q := ni_T_p rfl rfl
theorem s73_90 : ni_T (d + 1) 73 90 [a0, a1, a2, a3, a4] (.int x0 :: .ref o :: st) z h Q = (ni_rc (h o) 1 = true ∧ Nat.ble (ni_sw st) 8 = true ∧ ni_T d 13 0 [.ref o, .int x0] [] z h (ni_K (d + 1) 73 93 [a0, a1, a2, a3, a4] st z Q)) := ni_T_ce [.ref o, .int x0] rfl rfl rfl rfl rfl rfl rfl rfl rfl
theorem s73_93 : ni_T d 73 93 [a0, a1, a2, a3, a4] st z h Q = ni_T d 73 102 [a0, a1, a2, a3, a4] st z h Q := ni_T_p rfl rfl
theorem s73_96 : ni_T d 73 96 [.ref o, a1, a2, a3, a4] st z h Q = ni_T d 73 97 [.ref o, a1, a2, a3, a4] (.ref o :: st) z h Q := ni_T_p rfl rfl
theorem s73_97 : ni_T d 73 97 [a0, a1, a2, a3, a4] st z h Q = ni_T d 73 99 [a0, a1, a2, a3, a4] (.int (-2) :: st) z h Q := ni_T_p rfl rfl
theorem s73_99 : ni_T (d + 1) 73 99 [a0, a1, a2, a3, a4] (.int x0 :: .ref o :: st) z h Q = (ni_rc (h o) 6 = true ∧ Nat.ble (ni_sw st) 8 = true ∧ ni_T d 105 0 [.ref o, .int x0] [] z h (ni_K (d + 1) 73 102 [a0, a1, a2, a3, a4] st z Q)) := ni_T_ce [.ref o, .int x0] rfl rfl rfl rfl rfl rfl rfl rfl rfl
theorem s73_102 : ni_T d 73 102 [a0, a1, a2, a3, a4] [.int x] z h Q = Q (some (.int x)) z h := ni_T_i rfl rfl
theorem s74_0 : ni_T d 74 0 [a0, .int x, a2] st z h Q = ni_T d 74 1 [a0, .int x, a2] (.int x :: st) z h Q := ni_T_p rfl rfl
theorem s74_1 : ni_T d 74 1 [a0, a1, a2] (.int x :: st) z h Q = if x < 0 then ni_T d 74 10 [a0, a1, a2] st z h Q else ni_T d 74 4 [a0, a1, a2] st z h Q := ni_T_b rfl rfl
theorem s74_4 : ni_T d 74 4 [a0, .int x, a2] st z h Q = ni_T d 74 5 [a0, .int x, a2] (.int x :: st) z h Q := ni_T_p rfl rfl
theorem s74_5 : ni_T d 74 5 [a0, a1, a2] st z h Q = ni_T d 74 7 [a0, a1, a2] (.int 7 :: st) z h Q := ni_T_p rfl rfl
theorem s74_7 : ni_T d 74 7 [a0, a1, a2] (.int y :: .int x :: st) z h Q = if x < y then ni_T d 74 16 [a0, a1, a2] st z h Q else ni_T d 74 10 [a0, a1, a2] st z h Q := ni_T_b rfl rfl
theorem s74_10 : ni_T d 74 10 [.ref o, a1, a2] st z h Q = ni_T d 74 11 [.ref o, a1, a2] (.ref o :: st) z h Q := ni_T_p rfl rfl
theorem s74_11 : ni_T d 74 11 [a0, a1, a2] st z h Q = ni_T d 74 12 [a0, a1, a2] (.int (-1) :: st) z h Q := ni_T_p rfl rfl
theorem s74_12 : ni_T (d + 1) 74 12 [a0, a1, a2] (.int x0 :: .ref o :: st) z h Q = (ni_rc (h o) 6 = true ∧ Nat.ble (ni_sw st) 8 = true ∧ ni_T d 105 0 [.ref o, .int x0] [] z h (ni_K (d + 1) 74 15 [a0, a1, a2] st z Q)) := ni_T_ce [.ref o, .int x0] rfl rfl rfl rfl rfl rfl rfl rfl rfl
theorem s74_15 : ni_T d 74 15 [a0, a1, a2] [.int x] z h Q = Q (some (.int x)) z h := ni_T_i rfl rfl
theorem s74_16 : ni_T d 74 16 [a0, a1, .int x] st z h Q = ni_T d 74 17 [a0, a1, .int x] (.int x :: st) z h Q := ni_T_p rfl rfl
theorem s74_17 : ni_T d 74 17 [a0, a1, a2] (.int x :: st) z h Q = if x < 0 then ni_T d 74 26 [a0, a1, a2] st z h Q else ni_T d 74 20 [a0, a1, a2] st z h Q := ni_T_b rfl rfl
theorem s74_20 : ni_T d 74 20 [a0, a1, .int x] st z h Q = ni_T d 74 21 [a0, a1, .int x] (.int x :: st) z h Q := ni_T_p rfl rfl
theorem s74_21 : ni_T d 74 21 [a0, a1, a2] st z h Q = ni_T d 74 23 [a0, a1, a2] (.int 9 :: st) z h Q := ni_T_p rfl rfl
theorem s74_23 : ni_T d 74 23 [a0, a1, a2] (.int y :: .int x :: st) z h Q = if x ≤ y then ni_T d 74 33 [a0, a1, a2] st z h Q else ni_T d 74 26 [a0, a1, a2] st z h Q := ni_T_b rfl rfl
theorem s74_26 : ni_T d 74 26 [.ref o, a1, a2] st z h Q = ni_T d 74 27 [.ref o, a1, a2] (.ref o :: st) z h Q := ni_T_p rfl rfl
theorem s74_27 : ni_T d 74 27 [a0, a1, a2] st z h Q = ni_T d 74 29 [a0, a1, a2] (.int (-6) :: st) z h Q := ni_T_p rfl rfl
theorem s74_29 : ni_T (d + 1) 74 29 [a0, a1, a2] (.int x0 :: .ref o :: st) z h Q = (ni_rc (h o) 6 = true ∧ Nat.ble (ni_sw st) 8 = true ∧ ni_T d 105 0 [.ref o, .int x0] [] z h (ni_K (d + 1) 74 32 [a0, a1, a2] st z Q)) := ni_T_ce [.ref o, .int x0] rfl rfl rfl rfl rfl rfl rfl rfl rfl
theorem s74_32 : ni_T d 74 32 [a0, a1, a2] [.int x] z h Q = Q (some (.int x)) z h := ni_T_i rfl rfl
theorem s74_33 : ni_T d 74 33 [.ref o, a1, a2] st z h Q = ni_T d 74 34 [.ref o, a1, a2] (.ref o :: st) z h Q := ni_T_p rfl rfl
theorem s74_34 : ni_T d 74 34 [a0, a1, a2] (.ref o :: st) z h Q = (ni_is (h o) 6 1 = true ∧ ni_T d 74 37 [a0, a1, a2] (ni_gv (h o) 1 :: st) z h Q) := ni_T_getf rfl
theorem s74_37 : ni_T (d + 1) 74 37 [a0, a1, a2] (.ref o :: st) z h Q = (ni_rc (h o) 5 = true ∧ Nat.ble (ni_sw st) 8 = true ∧ ni_T d 49 0 [.ref o] [] z h (ni_K (d + 1) 74 40 [a0, a1, a2] st z Q)) := ni_T_ce [.ref o] rfl rfl rfl rfl rfl rfl rfl rfl rfl
theorem s74_40 : ni_T d 74 40 [a0, a1, a2] (.int x :: st) z h Q = if x = 0 then ni_T d 74 43 [a0, a1, a2] st z h Q else ni_T d 74 50 [a0, a1, a2] st z h Q := ni_T_b rfl rfl
theorem s74_43 : ni_T d 74 43 [.ref o, a1, a2] st z h Q = ni_T d 74 44 [.ref o, a1, a2] (.ref o :: st) z h Q := ni_T_p rfl rfl
theorem s74_44 : ni_T d 74 44 [a0, a1, a2] st z h Q = ni_T d 74 46 [a0, a1, a2] (.int (-7) :: st) z h Q := ni_T_p rfl rfl
theorem s74_46 : ni_T (d + 1) 74 46 [a0, a1, a2] (.int x0 :: .ref o :: st) z h Q = (ni_rc (h o) 6 = true ∧ Nat.ble (ni_sw st) 8 = true ∧ ni_T d 105 0 [.ref o, .int x0] [] z h (ni_K (d + 1) 74 49 [a0, a1, a2] st z Q)) := ni_T_ce [.ref o, .int x0] rfl rfl rfl rfl rfl rfl rfl rfl rfl
theorem s74_49 : ni_T d 74 49 [a0, a1, a2] [.int x] z h Q = Q (some (.int x)) z h := ni_T_i rfl rfl
theorem s74_50 : ni_T d 74 50 [.ref o, a1, a2] st z h Q = ni_T d 74 51 [.ref o, a1, a2] (.ref o :: st) z h Q := ni_T_p rfl rfl
theorem s74_51 : ni_T d 74 51 [a0, a1, a2] (.ref o :: st) z h Q = (ni_is (h o) 6 1 = true ∧ ni_T d 74 54 [a0, a1, a2] (ni_gv (h o) 1 :: st) z h Q) := ni_T_getf rfl
theorem s74_54 : ni_T d 74 54 [a0, .int x, a2] st z h Q = ni_T d 74 55 [a0, .int x, a2] (.int x :: st) z h Q := ni_T_p rfl rfl
theorem s74_55 : ni_T d 74 55 [a0, a1, .int x] st z h Q = ni_T d 74 56 [a0, a1, .int x] (.int x :: st) z h Q := ni_T_p rfl rfl
theorem s74_56 : ni_T (d + 1) 74 56 [a0, a1, a2] (.int x1 :: .int x0 :: .ref o :: st) z h Q = (ni_rc (h o) 5 = true ∧ Nat.ble (ni_sw st) 8 = true ∧ ni_T d 50 0 [.ref o, .int x0, .int x1] [] z h (ni_K (d + 1) 74 59 [a0, a1, a2] st z Q)) := ni_T_ce [.ref o, .int x0, .int x1] rfl rfl rfl rfl rfl rfl rfl rfl rfl
theorem s74_59 : ni_T d 74 59 [a0, a1, a2] [.int x] z h Q = Q (some (.int x)) z h := ni_T_i rfl rfl
theorem s75_0 : ni_T d 75 0 [.ref o, a1, a2, a3] st z h Q = ni_T d 75 1 [.ref o, a1, a2, a3] (.ref o :: st) z h Q := ni_T_p rfl rfl
theorem s75_1 : ni_T d 75 1 [a0, a1, a2, a3] (.ref o :: st) z h Q = (ni_is (h o) 6 1 = true ∧ ni_T d 75 4 [a0, a1, a2, a3] (ni_gv (h o) 1 :: st) z h Q) := ni_T_getf rfl
theorem s75_4 : ni_T d 75 4 [a0, .int x, a2, a3] st z h Q = ni_T d 75 5 [a0, .int x, a2, a3] (.int x :: st) z h Q := ni_T_p rfl rfl
theorem s75_5 : ni_T (d + 1) 75 5 [a0, a1, a2, a3] (.int x0 :: .ref o :: st) z h Q = (ni_rc (h o) 5 = true ∧ Nat.ble (ni_sw st) 8 = true ∧ ni_T d 48 0 [.ref o, .int x0] [] z h (ni_K (d + 1) 75 8 [a0, a1, a2, a3] st z Q)) := ni_T_ce [.ref o, .int x0] rfl rfl rfl rfl rfl rfl rfl rfl rfl
theorem s75_8 : ni_T d 75 8 [a0, a1, a2, a3] (.ref o :: st) z h Q = ni_T d 75 9 [a0, a1, ni_kl a2, .ref o] st z h Q := ni_T_p rfl rfl
theorem s75_8N : ni_T d 75 8 [a0, a1, a2, a3] (.null :: st) z h Q = ni_T d 75 9 [a0, a1, ni_kl a2, .null] st z h Q := ni_T_p rfl rfl
theorem s75_9 : ni_T d 75 9 [a0, a1, a2, .ref o] st z h Q = ni_T d 75 10 [a0, a1, a2, .ref o] (.ref o :: st) z h Q := ni_T_p rfl rfl
theorem s75_9N : ni_T d 75 9 [a0, a1, a2, .null] st z h Q = ni_T d 75 10 [a0, a1, a2, .null] (.null :: st) z h Q := ni_T_p rfl rfl
theorem s75_10N : ni_T d 75 10 [a0, a1, a2, a3] (.null :: st) z h Q = ni_T d 75 13 [a0, a1, a2, a3] st z h Q := ni_T_p rfl rfl
theorem s75_10 : ni_T d 75 10 [a0, a1, a2, a3] (.ref o :: st) z h Q = ni_T d 75 20 [a0, a1, a2, a3] st z h Q := ni_T_p rfl rfl
theorem s75_13 : ni_T d 75 13 [.ref o, a1, a2, a3] st z h Q = ni_T d 75 14 [.ref o, a1, a2, a3] (.ref o :: st) z h Q := ni_T_p rfl rfl
theorem s75_14 : ni_T d 75 14 [a0, a1, a2, a3] st z h Q = ni_T d 75 16 [a0, a1, a2, a3] (.int (-5) :: st) z h Q := ni_T_p rfl rfl
theorem s75_16 : ni_T (d + 1) 75 16 [a0, a1, a2, a3] (.int x0 :: .ref o :: st) z h Q = (ni_rc (h o) 6 = true ∧ Nat.ble (ni_sw st) 8 = true ∧ ni_T d 105 0 [.ref o, .int x0] [] z h (ni_K (d + 1) 75 19 [a0, a1, a2, a3] st z Q)) := ni_T_ce [.ref o, .int x0] rfl rfl rfl rfl rfl rfl rfl rfl rfl
theorem s75_19 : ni_T d 75 19 [a0, a1, a2, a3] [.int x] z h Q = Q (some (.int x)) z h := ni_T_i rfl rfl
theorem s75_20 : ni_T d 75 20 [a0, a1, .int x, a3] st z h Q = ni_T d 75 21 [a0, a1, .int x, a3] (.int x :: st) z h Q := ni_T_p rfl rfl
theorem s75_21_0 : ni_T d 75 21 [a0, a1, a2, a3] (.int 0 :: st) z h Q = ni_T d 75 64 [a0, a1, a2, a3] st z h Q := ni_T_p rfl rfl
theorem s75_21_1 : ni_T d 75 21 [a0, a1, a2, a3] (.int 1 :: st) z h Q = ni_T d 75 69 [a0, a1, a2, a3] st z h Q := ni_T_p rfl rfl
theorem s75_21_2 : ni_T d 75 21 [a0, a1, a2, a3] (.int 2 :: st) z h Q = ni_T d 75 74 [a0, a1, a2, a3] st z h Q := ni_T_p rfl rfl
theorem s75_21_3 : ni_T d 75 21 [a0, a1, a2, a3] (.int 3 :: st) z h Q = ni_T d 75 79 [a0, a1, a2, a3] st z h Q := ni_T_p rfl rfl
theorem s75_21_4 : ni_T d 75 21 [a0, a1, a2, a3] (.int 4 :: st) z h Q = ni_T d 75 84 [a0, a1, a2, a3] st z h Q := ni_T_p rfl rfl
theorem s75_21_5 : ni_T d 75 21 [a0, a1, a2, a3] (.int 5 :: st) z h Q = ni_T d 75 89 [a0, a1, a2, a3] st z h Q := ni_T_p rfl rfl
theorem s75_21_6 : ni_T d 75 21 [a0, a1, a2, a3] (.int 6 :: st) z h Q = ni_T d 75 94 [a0, a1, a2, a3] st z h Q := ni_T_p rfl rfl
theorem s75_21_d (hx : x.toInt < 0 ∨ 6 < x.toInt) : ni_T d 75 21 [a0, a1, a2, a3] (.int x :: st) z h Q = ni_T d 75 99 [a0, a1, a2, a3] st z h Q := ni_T_tsw rfl hx (by decide) rfl
theorem s75_64 : ni_T d 75 64 [a0, a1, a2, .ref o] st z h Q = ni_T d 75 65 [a0, a1, a2, .ref o] (.ref o :: st) z h Q := ni_T_p rfl rfl
theorem s75_64N : ni_T d 75 64 [a0, a1, a2, .null] st z h Q = ni_T d 75 65 [a0, a1, a2, .null] (.null :: st) z h Q := ni_T_p rfl rfl
theorem s75_65 : ni_T d 75 65 [a0, a1, a2, a3] (.ref o :: st) z h Q = (ni_is (h o) 1 1 = true ∧ ni_T d 75 68 [a0, a1, a2, a3] (ni_gv (h o) 1 :: st) z h Q) := ni_T_getf rfl
theorem s75_68 : ni_T d 75 68 [a0, a1, a2, a3] [.int x] z h Q = Q (some (.int x)) z h := ni_T_i rfl rfl
theorem s75_69 : ni_T d 75 69 [a0, a1, a2, .ref o] st z h Q = ni_T d 75 70 [a0, a1, a2, .ref o] (.ref o :: st) z h Q := ni_T_p rfl rfl
theorem s75_69N : ni_T d 75 69 [a0, a1, a2, .null] st z h Q = ni_T d 75 70 [a0, a1, a2, .null] (.null :: st) z h Q := ni_T_p rfl rfl
theorem s75_70 : ni_T d 75 70 [a0, a1, a2, a3] (.ref o :: st) z h Q = (ni_is (h o) 1 2 = true ∧ ni_T d 75 73 [a0, a1, a2, a3] (ni_gv (h o) 2 :: st) z h Q) := ni_T_getf rfl
theorem s75_73 : ni_T d 75 73 [a0, a1, a2, a3] [.int x] z h Q = Q (some (.int x)) z h := ni_T_i rfl rfl
theorem s75_74 : ni_T d 75 74 [a0, a1, a2, .ref o] st z h Q = ni_T d 75 75 [a0, a1, a2, .ref o] (.ref o :: st) z h Q := ni_T_p rfl rfl
theorem s75_74N : ni_T d 75 74 [a0, a1, a2, .null] st z h Q = ni_T d 75 75 [a0, a1, a2, .null] (.null :: st) z h Q := ni_T_p rfl rfl
theorem s75_75 : ni_T d 75 75 [a0, a1, a2, a3] (.ref o :: st) z h Q = (ni_is (h o) 1 3 = true ∧ ni_T d 75 78 [a0, a1, a2, a3] (ni_gv (h o) 3 :: st) z h Q) := ni_T_getf rfl
theorem s75_78 : ni_T d 75 78 [a0, a1, a2, a3] [.int x] z h Q = Q (some (.int x)) z h := ni_T_i rfl rfl
theorem s75_79 : ni_T d 75 79 [a0, a1, a2, .ref o] st z h Q = ni_T d 75 80 [a0, a1, a2, .ref o] (.ref o :: st) z h Q := ni_T_p rfl rfl
theorem s75_79N : ni_T d 75 79 [a0, a1, a2, .null] st z h Q = ni_T d 75 80 [a0, a1, a2, .null] (.null :: st) z h Q := ni_T_p rfl rfl
theorem s75_80 : ni_T d 75 80 [a0, a1, a2, a3] (.ref o :: st) z h Q = (ni_is (h o) 1 4 = true ∧ ni_T d 75 83 [a0, a1, a2, a3] (ni_gv (h o) 4 :: st) z h Q) := ni_T_getf rfl
theorem s75_83 : ni_T d 75 83 [a0, a1, a2, a3] [.int x] z h Q = Q (some (.int x)) z h := ni_T_i rfl rfl
theorem s75_84 : ni_T d 75 84 [a0, a1, a2, .ref o] st z h Q = ni_T d 75 85 [a0, a1, a2, .ref o] (.ref o :: st) z h Q := ni_T_p rfl rfl
theorem s75_84N : ni_T d 75 84 [a0, a1, a2, .null] st z h Q = ni_T d 75 85 [a0, a1, a2, .null] (.null :: st) z h Q := ni_T_p rfl rfl
theorem s75_85 : ni_T d 75 85 [a0, a1, a2, a3] (.ref o :: st) z h Q = (ni_is (h o) 1 5 = true ∧ ni_T d 75 88 [a0, a1, a2, a3] (ni_gv (h o) 5 :: st) z h Q) := ni_T_getf rfl
theorem s75_88 : ni_T d 75 88 [a0, a1, a2, a3] [.int x] z h Q = Q (some (.int x)) z h := ni_T_i rfl rfl
theorem s75_89 : ni_T d 75 89 [a0, a1, a2, .ref o] st z h Q = ni_T d 75 90 [a0, a1, a2, .ref o] (.ref o :: st) z h Q := ni_T_p rfl rfl
theorem s75_89N : ni_T d 75 89 [a0, a1, a2, .null] st z h Q = ni_T d 75 90 [a0, a1, a2, .null] (.null :: st) z h Q := ni_T_p rfl rfl
theorem s75_90 : ni_T (d + 1) 75 90 [a0, a1, a2, a3] (.ref o :: st) z h Q = (ni_rc (h o) 1 = true ∧ Nat.ble (ni_sw st) 8 = true ∧ ni_T d 11 0 [.ref o] [] z h (ni_K (d + 1) 75 93 [a0, a1, a2, a3] st z Q)) := ni_T_ce [.ref o] rfl rfl rfl rfl rfl rfl rfl rfl rfl
theorem s75_93 : ni_T d 75 93 [a0, a1, a2, a3] [.int x] z h Q = Q (some (.int x)) z h := ni_T_i rfl rfl
theorem s75_94 : ni_T d 75 94 [a0, a1, a2, .ref o] st z h Q = ni_T d 75 95 [a0, a1, a2, .ref o] (.ref o :: st) z h Q := ni_T_p rfl rfl
theorem s75_94N : ni_T d 75 94 [a0, a1, a2, .null] st z h Q = ni_T d 75 95 [a0, a1, a2, .null] (.null :: st) z h Q := ni_T_p rfl rfl
theorem s75_95 : ni_T (d + 1) 75 95 [a0, a1, a2, a3] (.ref o :: st) z h Q = (ni_rc (h o) 1 = true ∧ Nat.ble (ni_sw st) 8 = true ∧ ni_T d 12 0 [.ref o] [] z h (ni_K (d + 1) 75 98 [a0, a1, a2, a3] st z Q)) := ni_T_ce [.ref o] rfl rfl rfl rfl rfl rfl rfl rfl rfl
theorem s75_98 : ni_T d 75 98 [a0, a1, a2, a3] [.int x] z h Q = Q (some (.int x)) z h := ni_T_i rfl rfl
theorem s75_99 : ni_T d 75 99 [.ref o, a1, a2, a3] st z h Q = ni_T d 75 100 [.ref o, a1, a2, a3] (.ref o :: st) z h Q := ni_T_p rfl rfl
theorem s75_100 : ni_T d 75 100 [a0, a1, a2, a3] st z h Q = ni_T d 75 102 [a0, a1, a2, a3] (.int (-5) :: st) z h Q := ni_T_p rfl rfl
theorem s75_102 : ni_T (d + 1) 75 102 [a0, a1, a2, a3] (.int x0 :: .ref o :: st) z h Q = (ni_rc (h o) 6 = true ∧ Nat.ble (ni_sw st) 8 = true ∧ ni_T d 105 0 [.ref o, .int x0] [] z h (ni_K (d + 1) 75 105 [a0, a1, a2, a3] st z Q)) := ni_T_ce [.ref o, .int x0] rfl rfl rfl rfl rfl rfl rfl rfl rfl
theorem s75_105 : ni_T d 75 105 [a0, a1, a2, a3] [.int x] z h Q = Q (some (.int x)) z h := ni_T_i rfl rfl
theorem s76_0 : ni_T d 76 0 [a0, .int x, a2, a3] st z h Q = ni_T d 76 1 [a0, .int x, a2, a3] (.int x :: st) z h Q := ni_T_p rfl rfl
theorem s76_1 : ni_T d 76 1 [a0, a1, a2, a3] (.int x :: st) z h Q = if x < 0 then ni_T d 76 9 [a0, a1, a2, a3] st z h Q else ni_T d 76 4 [a0, a1, a2, a3] st z h Q := ni_T_b rfl rfl
theorem s76_4 : ni_T d 76 4 [a0, .int x, a2, a3] st z h Q = ni_T d 76 5 [a0, .int x, a2, a3] (.int x :: st) z h Q := ni_T_p rfl rfl
theorem s76_5 : ni_T d 76 5 [a0, a1, a2, a3] st z h Q = ni_T d 76 6 [a0, a1, a2, a3] (.int 5 :: st) z h Q := ni_T_p rfl rfl
theorem s76_6 : ni_T d 76 6 [a0, a1, a2, a3] (.int y :: .int x :: st) z h Q = if x < y then ni_T d 76 15 [a0, a1, a2, a3] st z h Q else ni_T d 76 9 [a0, a1, a2, a3] st z h Q := ni_T_b rfl rfl
theorem s76_9 : ni_T d 76 9 [.ref o, a1, a2, a3] st z h Q = ni_T d 76 10 [.ref o, a1, a2, a3] (.ref o :: st) z h Q := ni_T_p rfl rfl
theorem s76_10 : ni_T d 76 10 [a0, a1, a2, a3] st z h Q = ni_T d 76 11 [a0, a1, a2, a3] (.int (-1) :: st) z h Q := ni_T_p rfl rfl
theorem s76_11 : ni_T (d + 1) 76 11 [a0, a1, a2, a3] (.int x0 :: .ref o :: st) z h Q = (ni_rc (h o) 6 = true ∧ Nat.ble (ni_sw st) 8 = true ∧ ni_T d 106 0 [.ref o, .int x0] [] z h (ni_K (d + 1) 76 14 [a0, a1, a2, a3] st z Q)) := ni_T_ce [.ref o, .int x0] rfl rfl rfl rfl rfl rfl rfl rfl rfl
theorem s76_14 : ni_T d 76 14 [a0, a1, a2, a3] [.int x] z h Q = Q (some (.int x)) z h := ni_T_i rfl rfl
theorem s76_15 : ni_T d 76 15 [a0, a1, .int x, a3] st z h Q = ni_T d 76 16 [a0, a1, .int x, a3] (.int x :: st) z h Q := ni_T_p rfl rfl
theorem s76_16 : ni_T d 76 16 [a0, a1, a2, a3] st z h Q = ni_T d 76 17 [a0, a1, a2, a3] (.int (-1) :: st) z h Q := ni_T_p rfl rfl
theorem s76_17 : ni_T d 76 17 [a0, a1, a2, a3] (.int y :: .int x :: st) z h Q = if x = y then ni_T d 76 39 [a0, a1, a2, a3] st z h Q else ni_T d 76 20 [a0, a1, a2, a3] st z h Q := ni_T_b rfl rfl
theorem s76_20 : ni_T d 76 20 [.ref o, a1, a2, a3] st z h Q = ni_T d 76 21 [.ref o, a1, a2, a3] (.ref o :: st) z h Q := ni_T_p rfl rfl
theorem s76_21 : ni_T d 76 21 [a0, a1, a2, a3] (.ref o :: st) z h Q = (ni_is (h o) 6 1 = true ∧ ni_T d 76 24 [a0, a1, a2, a3] (ni_gv (h o) 1 :: st) z h Q) := ni_T_getf rfl
theorem s76_24 : ni_T d 76 24 [a0, .int x, a2, a3] st z h Q = ni_T d 76 25 [a0, .int x, a2, a3] (.int x :: st) z h Q := ni_T_p rfl rfl
theorem s76_25 : ni_T d 76 25 [a0, a1, .int x, a3] st z h Q = ni_T d 76 26 [a0, a1, .int x, a3] (.int x :: st) z h Q := ni_T_p rfl rfl
theorem s76_26 : ni_T (d + 1) 76 26 [a0, a1, a2, a3] (.int x1 :: .int x0 :: .ref o :: st) z h Q = (ni_rc (h o) 5 = true ∧ Nat.ble (ni_sw st) 8 = true ∧ ni_T d 55 0 [.ref o, .int x0, .int x1, .retAddr 0] [] z h (ni_K (d + 1) 76 29 [a0, a1, a2, a3] st z Q)) := ni_T_ce [.ref o, .int x0, .int x1] rfl rfl rfl rfl rfl rfl rfl rfl rfl
theorem s76_29 : ni_T d 76 29 [a0, a1, a2, a3] (.int x :: st) z h Q = if x = 0 then ni_T d 76 32 [a0, a1, a2, a3] st z h Q else ni_T d 76 39 [a0, a1, a2, a3] st z h Q := ni_T_b rfl rfl
theorem s76_32 : ni_T d 76 32 [.ref o, a1, a2, a3] st z h Q = ni_T d 76 33 [.ref o, a1, a2, a3] (.ref o :: st) z h Q := ni_T_p rfl rfl
theorem s76_33 : ni_T d 76 33 [a0, a1, a2, a3] st z h Q = ni_T d 76 35 [a0, a1, a2, a3] (.int (-6) :: st) z h Q := ni_T_p rfl rfl
theorem s76_35 : ni_T (d + 1) 76 35 [a0, a1, a2, a3] (.int x0 :: .ref o :: st) z h Q = (ni_rc (h o) 6 = true ∧ Nat.ble (ni_sw st) 8 = true ∧ ni_T d 106 0 [.ref o, .int x0] [] z h (ni_K (d + 1) 76 38 [a0, a1, a2, a3] st z Q)) := ni_T_ce [.ref o, .int x0] rfl rfl rfl rfl rfl rfl rfl rfl rfl
theorem s76_38 : ni_T d 76 38 [a0, a1, a2, a3] [.int x] z h Q = Q (some (.int x)) z h := ni_T_i rfl rfl
theorem s76_39 : ni_T d 76 39 [.ref o, a1, a2, a3] st z h Q = ni_T d 76 40 [.ref o, a1, a2, a3] (.ref o :: st) z h Q := ni_T_p rfl rfl
theorem s76_40 : ni_T d 76 40 [a0, a1, a2, a3] (.ref o :: st) z h Q = (ni_is (h o) 6 1 = true ∧ ni_T d 76 43 [a0, a1, a2, a3] (ni_gv (h o) 1 :: st) z h Q) := ni_T_getf rfl
theorem s76_43 : ni_T d 76 43 [a0, a1, a2, a3] (.ref o :: st) z h Q = (ni_is (h o) 5 0 = true ∧ ni_T d 76 46 [a0, a1, a2, a3] (ni_gv (h o) 0 :: st) z h Q) := ni_T_getf rfl
theorem s76_46 : ni_T d 76 46 [a0, .int x, a2, a3] st z h Q = ni_T d 76 47 [a0, .int x, a2, a3] (.int x :: st) z h Q := ni_T_p rfl rfl
theorem s76_47 : ni_T d 76 47 [a0, a1, a2, a3] (.int x :: .ref o :: st) z h Q = (ni_okI (h o) x = true ∧ ni_T d 76 48 [a0, a1, a2, a3] (.int (ni_gi (h o) x) :: st) z h Q) := ni_T_iald rfl
theorem s76_48 : ni_T d 76 48 [a0, a1, a2, a3] (.int x :: st) z h Q = ni_T d 76 49 [a0, a1, ni_kl a2, .int x] st z h Q := ni_T_p rfl rfl
theorem s76_49 : ni_T d 76 49 [.ref o, a1, a2, a3] st z h Q = ni_T d 76 50 [.ref o, a1, a2, a3] (.ref o :: st) z h Q := ni_T_p rfl rfl
theorem s76_50 : ni_T d 76 50 [a0, a1, a2, a3] (.ref o :: st) z h Q = (ni_is (h o) 6 1 = true ∧ ni_T d 76 53 [a0, a1, a2, a3] (ni_gv (h o) 1 :: st) z h Q) := ni_T_getf rfl
theorem s76_53 : ni_T d 76 53 [a0, a1, a2, a3] (.ref o :: st) z h Q = (ni_is (h o) 5 0 = true ∧ ni_T d 76 56 [a0, a1, a2, a3] (ni_gv (h o) 0 :: st) z h Q) := ni_T_getf rfl
theorem s76_56 : ni_T d 76 56 [a0, .int x, a2, a3] st z h Q = ni_T d 76 57 [a0, .int x, a2, a3] (.int x :: st) z h Q := ni_T_p rfl rfl
theorem s76_57 : ni_T d 76 57 [a0, a1, .int x, a3] st z h Q = ni_T d 76 58 [a0, a1, .int x, a3] (.int x :: st) z h Q := ni_T_p rfl rfl
theorem s76_58 : ni_T d 76 58 [a0, a1, a2, a3] (.int y :: .int x :: .ref o :: st) z h Q = (ni_okS (h o) x = true ∧ ni_T d 76 59 [a0, a1, a2, a3] st z (ni_up h o (ni_pi (h o) x y)) Q) := ni_T_iast rfl
theorem s76_59 : ni_T d 76 59 [a0, a1, a2, .int x] st z h Q = ni_T d 76 60 [a0, a1, a2, .int x] (.int x :: st) z h Q := ni_T_p rfl rfl
theorem s76_60 : ni_T d 76 60 [a0, a1, a2, a3] [.int x] z h Q = Q (some (.int x)) z h := ni_T_i rfl rfl
theorem s77_0 : ni_T d 77 0 [a0, .int x] st z h Q = ni_T d 77 1 [a0, .int x] (.int x :: st) z h Q := ni_T_p rfl rfl
theorem s77_1 : ni_T d 77 1 [a0, a1] (.int x :: st) z h Q = if x < 0 then ni_T d 77 9 [a0, a1] st z h Q else ni_T d 77 4 [a0, a1] st z h Q := ni_T_b rfl rfl
theorem s77_4 : ni_T d 77 4 [a0, .int x] st z h Q = ni_T d 77 5 [a0, .int x] (.int x :: st) z h Q := ni_T_p rfl rfl
theorem s77_5 : ni_T d 77 5 [a0, a1] st z h Q = ni_T d 77 6 [a0, a1] (.int 5 :: st) z h Q := ni_T_p rfl rfl
theorem s77_6 : ni_T d 77 6 [a0, a1] (.int y :: .int x :: st) z h Q = if x < y then ni_T d 77 15 [a0, a1] st z h Q else ni_T d 77 9 [a0, a1] st z h Q := ni_T_b rfl rfl
theorem s77_9 : ni_T d 77 9 [.ref o, a1] st z h Q = ni_T d 77 10 [.ref o, a1] (.ref o :: st) z h Q := ni_T_p rfl rfl
theorem s77_10 : ni_T d 77 10 [a0, a1] st z h Q = ni_T d 77 11 [a0, a1] (.int (-1) :: st) z h Q := ni_T_p rfl rfl
theorem s77_11 : ni_T (d + 1) 77 11 [a0, a1] (.int x0 :: .ref o :: st) z h Q = (ni_rc (h o) 6 = true ∧ Nat.ble (ni_sw st) 8 = true ∧ ni_T d 106 0 [.ref o, .int x0] [] z h (ni_K (d + 1) 77 14 [a0, a1] st z Q)) := ni_T_ce [.ref o, .int x0] rfl rfl rfl rfl rfl rfl rfl rfl rfl
theorem s77_14 : ni_T d 77 14 [a0, a1] [.int x] z h Q = Q (some (.int x)) z h := ni_T_i rfl rfl
theorem s77_15 : ni_T d 77 15 [.ref o, a1] st z h Q = ni_T d 77 16 [.ref o, a1] (.ref o :: st) z h Q := ni_T_p rfl rfl
theorem s77_16 : ni_T d 77 16 [a0, a1] (.ref o :: st) z h Q = (ni_is (h o) 6 1 = true ∧ ni_T d 77 19 [a0, a1] (ni_gv (h o) 1 :: st) z h Q) := ni_T_getf rfl
theorem s77_19 : ni_T d 77 19 [a0, a1] (.ref o :: st) z h Q = (ni_is (h o) 5 0 = true ∧ ni_T d 77 22 [a0, a1] (ni_gv (h o) 0 :: st) z h Q) := ni_T_getf rfl
theorem s77_22 : ni_T d 77 22 [a0, .int x] st z h Q = ni_T d 77 23 [a0, .int x] (.int x :: st) z h Q := ni_T_p rfl rfl
theorem s77_23 : ni_T d 77 23 [a0, a1] (.int x :: .ref o :: st) z h Q = (ni_okI (h o) x = true ∧ ni_T d 77 24 [a0, a1] (.int (ni_gi (h o) x) :: st) z h Q) := ni_T_iald rfl
theorem s77_24 : ni_T d 77 24 [a0, a1] [.int x] z h Q = Q (some (.int x)) z h := ni_T_i rfl rfl
theorem s78_0 : ni_T d 78 0 [.ref o, a1, a2, a3, a4, a5] st z h Q = ni_T d 78 1 [.ref o, a1, a2, a3, a4, a5] (.ref o :: st) z h Q := ni_T_p rfl rfl
theorem s78_1 : ni_T d 78 1 [a0, a1, a2, a3, a4, a5] (.ref o :: st) z h Q = (ni_is (h o) 6 1 = true ∧ ni_T d 78 4 [a0, a1, a2, a3, a4, a5] (ni_gv (h o) 1 :: st) z h Q) := ni_T_getf rfl
theorem s78_4 : ni_T d 78 4 [a0, .int x, a2, a3, a4, a5] st z h Q = ni_T d 78 5 [a0, .int x, a2, a3, a4, a5] (.int x :: st) z h Q := ni_T_p rfl rfl
theorem s78_5 : ni_T (d + 1) 78 5 [a0, a1, a2, a3, a4, a5] (.int x0 :: .ref o :: st) z h Q = (ni_rc (h o) 5 = true ∧ Nat.ble (ni_sw st) 8 = true ∧ ni_T d 48 0 [.ref o, .int x0] [] z h (ni_K (d + 1) 78 8 [a0, a1, a2, a3, a4, a5] st z Q)) := ni_T_ce [.ref o, .int x0] rfl rfl rfl rfl rfl rfl rfl rfl rfl
theorem s78_8 : ni_T d 78 8 [a0, a1, a2, a3, a4, a5] (.ref o :: st) z h Q = ni_T d 78 9 [a0, a1, ni_kl a2, .ref o, a4, a5] st z h Q := ni_T_p rfl rfl
theorem s78_8N : ni_T d 78 8 [a0, a1, a2, a3, a4, a5] (.null :: st) z h Q = ni_T d 78 9 [a0, a1, ni_kl a2, .null, a4, a5] st z h Q := ni_T_p rfl rfl
theorem s78_9 : ni_T d 78 9 [a0, a1, a2, .ref o, a4, a5] st z h Q = ni_T d 78 10 [a0, a1, a2, .ref o, a4, a5] (.ref o :: st) z h Q := ni_T_p rfl rfl
theorem s78_9N : ni_T d 78 9 [a0, a1, a2, .null, a4, a5] st z h Q = ni_T d 78 10 [a0, a1, a2, .null, a4, a5] (.null :: st) z h Q := ni_T_p rfl rfl
theorem s78_10 : ni_T d 78 10 [a0, a1, .int x, a3, a4, a5] st z h Q = ni_T d 78 11 [a0, a1, .int x, a3, a4, a5] (.int x :: st) z h Q := ni_T_p rfl rfl
theorem s78_11 : ni_T (d + 1) 78 11 [a0, a1, a2, a3, a4, a5] (.int x1 :: .ref o20 :: st) z h Q = (Nat.ble (ni_sw st) 8 = true ∧ ni_T d 110 0 [.ref o20, .int x1] [] z h (ni_K (d + 1) 78 14 [a0, a1, a2, a3, a4, a5] st z Q)) := ni_T_cse [.ref o20, .int x1] rfl rfl rfl rfl rfl rfl rfl rfl rfl
theorem s78_11N0 : ni_T (d + 1) 78 11 [a0, a1, a2, a3, a4, a5] (.int x1 :: .null :: st) z h Q = (Nat.ble (ni_sw st) 8 = true ∧ ni_T d 110 0 [.null, .int x1] [] z h (ni_K (d + 1) 78 14 [a0, a1, a2, a3, a4, a5] st z Q)) := ni_T_cse [.null, .int x1] rfl rfl rfl rfl rfl rfl rfl rfl rfl
theorem s78_14 : ni_T d 78 14 [a0, a1, a2, a3, a4, a5] (.int x :: st) z h Q = ni_T d 78 16 [a0, a1, a2, ni_kl a3, .int x, a5] st z h Q := ni_T_p rfl rfl
theorem s78_16 : ni_T d 78 16 [a0, a1, a2, a3, .int x, a5] st z h Q = ni_T d 78 18 [a0, a1, a2, a3, .int x, a5] (.int x :: st) z h Q := ni_T_p rfl rfl
theorem s78_18 : ni_T d 78 18 [a0, a1, a2, a3, a4, a5] (.int x :: st) z h Q = if x = 0 then ni_T d 78 28 [a0, a1, a2, a3, a4, a5] st z h Q else ni_T d 78 21 [a0, a1, a2, a3, a4, a5] st z h Q := ni_T_b rfl rfl
theorem s78_21 : ni_T d 78 21 [.ref o, a1, a2, a3, a4, a5] st z h Q = ni_T d 78 22 [.ref o, a1, a2, a3, a4, a5] (.ref o :: st) z h Q := ni_T_p rfl rfl
theorem s78_22 : ni_T d 78 22 [a0, a1, a2, a3, .int x, a5] st z h Q = ni_T d 78 24 [a0, a1, a2, a3, .int x, a5] (.int x :: st) z h Q := ni_T_p rfl rfl
theorem s78_24 : ni_T (d + 1) 78 24 [a0, a1, a2, a3, a4, a5] (.int x0 :: .ref o :: st) z h Q = (ni_rc (h o) 6 = true ∧ Nat.ble (ni_sw st) 8 = true ∧ ni_T d 105 0 [.ref o, .int x0] [] z h (ni_K (d + 1) 78 27 [a0, a1, a2, a3, a4, a5] st z Q)) := ni_T_ce [.ref o, .int x0] rfl rfl rfl rfl rfl rfl rfl rfl rfl
theorem s78_27 : ni_T d 78 27 [a0, a1, a2, a3, a4, a5] [.int x] z h Q = Q (some (.int x)) z h := ni_T_i rfl rfl
theorem s78_28 : ni_T d 78 28 [a0, a1, a2, .ref o, a4, a5] st z h Q = ni_T d 78 29 [a0, a1, a2, .ref o, a4, a5] (.ref o :: st) z h Q := ni_T_p rfl rfl
theorem s78_28N : ni_T d 78 28 [a0, a1, a2, .null, a4, a5] st z h Q = ni_T d 78 29 [a0, a1, a2, .null, a4, a5] (.null :: st) z h Q := ni_T_p rfl rfl
theorem s78_29 : ni_T d 78 29 [a0, a1, a2, a3, a4, a5] (.ref o :: st) z h Q = (ni_is (h o) 1 3 = true ∧ ni_T d 78 32 [a0, a1, a2, a3, a4, a5] (ni_gv (h o) 3 :: st) z h Q) := ni_T_getf rfl
theorem s78_32 : ni_T d 78 32 [a0, a1, a2, a3, a4, a5] (.int x :: st) z h Q = ni_T d 78 34 [a0, a1, a2, a3, ni_kl a4, .int x] st z h Q := ni_T_p rfl rfl
theorem s78_34 : ni_T d 78 34 [a0, a1, a2, .ref o, a4, a5] st z h Q = ni_T d 78 35 [a0, a1, a2, .ref o, a4, a5] (.ref o :: st) z h Q := ni_T_p rfl rfl
theorem s78_34N : ni_T d 78 34 [a0, a1, a2, .null, a4, a5] st z h Q = ni_T d 78 35 [a0, a1, a2, .null, a4, a5] (.null :: st) z h Q := ni_T_p rfl rfl
theorem s78_35 : ni_T d 78 35 [a0, a1, .int x, a3, a4, a5] st z h Q = ni_T d 78 36 [a0, a1, .int x, a3, a4, a5] (.int x :: st) z h Q := ni_T_p rfl rfl
theorem s78_36 : ni_T d 78 36 [a0, a1, a2, a3, a4, a5] (b0 :: .ref o :: st) z h Q = ((Nat.ble 1 7 && ni_is (h o) 1 3 && ni_fit (.int) b0) = true ∧ ni_T d 78 39 [a0, a1, a2, a3, a4, a5] st z (ni_up h o (ni_pv (h o) 3 b0)) Q) := ni_T_putf rfl
theorem s78_39 : ni_T d 78 39 [a0, a1, a2, a3, a4, .int x] st z h Q = ni_T d 78 41 [a0, a1, a2, a3, a4, .int x] (.int x :: st) z h Q := ni_T_p rfl rfl
theorem s78_41 : ni_T d 78 41 [a0, a1, a2, a3, a4, a5] [.int x] z h Q = Q (some (.int x)) z h := ni_T_i rfl rfl
theorem s79_0 : ni_T d 79 0 [.ref o, a1, a2] st z h Q = ni_T d 79 1 [.ref o, a1, a2] (.ref o :: st) z h Q := ni_T_p rfl rfl
theorem s79_1 : ni_T d 79 1 [a0, a1, a2] (.ref o :: st) z h Q = (ni_is (h o) 6 1 = true ∧ ni_T d 79 4 [a0, a1, a2] (ni_gv (h o) 1 :: st) z h Q) := ni_T_getf rfl
theorem s79_4 : ni_T d 79 4 [a0, .int x, a2] st z h Q = ni_T d 79 5 [a0, .int x, a2] (.int x :: st) z h Q := ni_T_p rfl rfl
theorem s79_5 : ni_T (d + 1) 79 5 [a0, a1, a2] (.int x0 :: .ref o :: st) z h Q = (ni_rc (h o) 5 = true ∧ Nat.ble (ni_sw st) 8 = true ∧ ni_T d 48 0 [.ref o, .int x0] [] z h (ni_K (d + 1) 79 8 [a0, a1, a2] st z Q)) := ni_T_ce [.ref o, .int x0] rfl rfl rfl rfl rfl rfl rfl rfl rfl
theorem s79_8N : ni_T d 79 8 [a0, a1, a2] (.null :: st) z h Q = ni_T d 79 11 [a0, a1, a2] st z h Q := ni_T_p rfl rfl
theorem s79_8 : ni_T d 79 8 [a0, a1, a2] (.ref o :: st) z h Q = ni_T d 79 17 [a0, a1, a2] st z h Q := ni_T_p rfl rfl
theorem s79_11 : ni_T d 79 11 [.ref o, a1, a2] st z h Q = ni_T d 79 12 [.ref o, a1, a2] (.ref o :: st) z h Q := ni_T_p rfl rfl
theorem s79_12 : ni_T d 79 12 [a0, a1, a2] st z h Q = ni_T d 79 13 [a0, a1, a2] (.int (-1) :: st) z h Q := ni_T_p rfl rfl
theorem s79_13 : ni_T (d + 1) 79 13 [a0, a1, a2] (.int x0 :: .ref o :: st) z h Q = (ni_rc (h o) 6 = true ∧ Nat.ble (ni_sw st) 8 = true ∧ ni_T d 105 0 [.ref o, .int x0] [] z h (ni_K (d + 1) 79 16 [a0, a1, a2] st z Q)) := ni_T_ce [.ref o, .int x0] rfl rfl rfl rfl rfl rfl rfl rfl rfl
theorem s79_16 : ni_T d 79 16 [a0, a1, a2] [.int x] z h Q = Q (some (.int x)) z h := ni_T_i rfl rfl
theorem s79_17 : ni_T d 79 17 [.ref o, a1, a2] st z h Q = ni_T d 79 18 [.ref o, a1, a2] (.ref o :: st) z h Q := ni_T_p rfl rfl
theorem s79_18 : ni_T d 79 18 [a0, a1, a2] (.ref o :: st) z h Q = (ni_is (h o) 6 1 = true ∧ ni_T d 79 21 [a0, a1, a2] (ni_gv (h o) 1 :: st) z h Q) := ni_T_getf rfl
theorem s79_21 : ni_T d 79 21 [a0, a1, a2] (.ref o :: st) z h Q = (ni_is (h o) 5 3 = true ∧ ni_T d 79 24 [a0, a1, a2] (ni_gv (h o) 3 :: st) z h Q) := ni_T_getf rfl
theorem s79_24 : ni_T d 79 24 [a0, a1, a2] (.int x :: st) z h Q = ni_T d 79 25 [a0, ni_kl a1, .int x] st z h Q := ni_T_p rfl rfl
theorem s79_25 : ni_T d 79 25 [.ref o, a1, a2] st z h Q = ni_T d 79 26 [.ref o, a1, a2] (.ref o :: st) z h Q := ni_T_p rfl rfl
theorem s79_26 : ni_T d 79 26 [a0, a1, a2] (.ref o :: st) z h Q = (ni_is (h o) 6 1 = true ∧ ni_T d 79 29 [a0, a1, a2] (ni_gv (h o) 1 :: st) z h Q) := ni_T_getf rfl
theorem s79_29 : ni_T d 79 29 [a0, .int x, a2] st z h Q = ni_T d 79 30 [a0, .int x, a2] (.int x :: st) z h Q := ni_T_p rfl rfl
theorem s79_30 : ni_T d 79 30 [a0, a1, a2] (b0 :: .ref o :: st) z h Q = ((Nat.ble 5 7 && ni_is (h o) 5 3 && ni_fit (.int) b0) = true ∧ ni_T d 79 33 [a0, a1, a2] st z (ni_up h o (ni_pv (h o) 3 b0)) Q) := ni_T_putf rfl
theorem s79_33 : ni_T d 79 33 [a0, a1, .int x] st z h Q = ni_T d 79 34 [a0, a1, .int x] (.int x :: st) z h Q := ni_T_p rfl rfl
theorem s79_34 : ni_T d 79 34 [a0, a1, a2] [.int x] z h Q = Q (some (.int x)) z h := ni_T_i rfl rfl
theorem s80_0 : ni_T d 80 0 [.ref o, a1, a2, a3, a4] st z h Q = ni_T d 80 1 [.ref o, a1, a2, a3, a4] (.ref o :: st) z h Q := ni_T_p rfl rfl
theorem s80_1 : ni_T d 80 1 [a0, .int x, a2, a3, a4] st z h Q = ni_T d 80 2 [a0, .int x, a2, a3, a4] (.int x :: st) z h Q := ni_T_p rfl rfl
theorem s80_2 : ni_T (d + 1) 80 2 [a0, a1, a2, a3, a4] (.int x0 :: .ref o :: st) z h Q = (ni_rc (h o) 6 = true ∧ Nat.ble (ni_sw st) 8 = true ∧ ni_T d 107 0 [.ref o, .int x0] [] z h (ni_K (d + 1) 80 5 [a0, a1, a2, a3, a4] st z Q)) := ni_T_ce [.ref o, .int x0] rfl rfl rfl rfl rfl rfl rfl rfl rfl
theorem s80_5 : ni_T d 80 5 [a0, a1, a2, a3, a4] (.ref o :: st) z h Q = ni_T d 80 6 [a0, ni_kl a1, .ref o, a3, a4] st z h Q := ni_T_p rfl rfl
theorem s80_5N : ni_T d 80 5 [a0, a1, a2, a3, a4] (.null :: st) z h Q = ni_T d 80 6 [a0, ni_kl a1, .null, a3, a4] st z h Q := ni_T_p rfl rfl
theorem s80_6 : ni_T d 80 6 [a0, a1, .ref o, a3, a4] st z h Q = ni_T d 80 7 [a0, a1, .ref o, a3, a4] (.ref o :: st) z h Q := ni_T_p rfl rfl
theorem s80_6N : ni_T d 80 6 [a0, a1, .null, a3, a4] st z h Q = ni_T d 80 7 [a0, a1, .null, a3, a4] (.null :: st) z h Q := ni_T_p rfl rfl
theorem s80_7 : ni_T (d + 1) 80 7 [a0, a1, a2, a3, a4] (.ref o20 :: st) z h Q = (Nat.ble (ni_sw st) 8 = true ∧ ni_T d 111 0 [.ref o20] [] z h (ni_K (d + 1) 80 10 [a0, a1, a2, a3, a4] st z Q)) := ni_T_cse [.ref o20] rfl rfl rfl rfl rfl rfl rfl rfl rfl
theorem s80_7N0 : ni_T (d + 1) 80 7 [a0, a1, a2, a3, a4] (.null :: st) z h Q = (Nat.ble (ni_sw st) 8 = true ∧ ni_T d 111 0 [.null] [] z h (ni_K (d + 1) 80 10 [a0, a1, a2, a3, a4] st z Q)) := ni_T_cse [.null] rfl rfl rfl rfl rfl rfl rfl rfl rfl
theorem s80_10 : ni_T d 80 10 [a0, a1, a2, a3, a4] (.int x :: st) z h Q = ni_T d 80 11 [a0, a1, ni_kl a2, .int x, a4] st z h Q := ni_T_p rfl rfl
theorem s80_11 : ni_T d 80 11 [a0, a1, a2, .int x, a4] st z h Q = ni_T d 80 12 [a0, a1, a2, .int x, a4] (.int x :: st) z h Q := ni_T_p rfl rfl
theorem s80_12 : ni_T d 80 12 [a0, a1, a2, a3, a4] (.int x :: st) z h Q = if x = 0 then ni_T d 80 21 [a0, a1, a2, a3, a4] st z h Q else ni_T d 80 15 [a0, a1, a2, a3, a4] st z h Q := ni_T_b rfl rfl
theorem s80_15 : ni_T d 80 15 [.ref o, a1, a2, a3, a4] st z h Q = ni_T d 80 16 [.ref o, a1, a2, a3, a4] (.ref o :: st) z h Q := ni_T_p rfl rfl
theorem s80_16 : ni_T d 80 16 [a0, a1, a2, .int x, a4] st z h Q = ni_T d 80 17 [a0, a1, a2, .int x, a4] (.int x :: st) z h Q := ni_T_p rfl rfl
theorem s80_17 : ni_T (d + 1) 80 17 [a0, a1, a2, a3, a4] (.int x0 :: .ref o :: st) z h Q = (ni_rc (h o) 6 = true ∧ Nat.ble (ni_sw st) 8 = true ∧ ni_T d 105 0 [.ref o, .int x0] [] z h (ni_K (d + 1) 80 20 [a0, a1, a2, a3, a4] st z Q)) := ni_T_ce [.ref o, .int x0] rfl rfl rfl rfl rfl rfl rfl rfl rfl
theorem s80_20 : ni_T d 80 20 [a0, a1, a2, a3, a4] [.int x] z h Q = Q (some (.int x)) z h := ni_T_i rfl rfl
theorem s80_21 : ni_T d 80 21 [.ref o, a1, a2, a3, a4] st z h Q = ni_T d 80 22 [.ref o, a1, a2, a3, a4] (.ref o :: st) z h Q := ni_T_p rfl rfl
theorem s80_22 : ni_T d 80 22 [a0, a1, a2, a3, a4] (.ref o :: st) z h Q = (ni_is (h o) 6 3 = true ∧ ni_T d 80 25 [a0, a1, a2, a3, a4] (ni_gv (h o) 3 :: st) z h Q) := ni_T_getf rfl
theorem s80_25 : ni_T d 80 25 [.ref o, a1, a2, a3, a4] st z h Q = ni_T d 80 26 [.ref o, a1, a2, a3, a4] (.ref o :: st) z h Q := ni_T_p rfl rfl
theorem s80_26 : ni_T d 80 26 [a0, a1, a2, a3, a4] (.ref o :: st) z h Q = (ni_is (h o) 6 1 = true ∧ ni_T d 80 29 [a0, a1, a2, a3, a4] (ni_gv (h o) 1 :: st) z h Q) := ni_T_getf rfl
theorem s80_29 : ni_T (d + 1) 80 29 [a0, a1, a2, a3, a4] (.ref o20 :: .ref o :: st) z h Q = (ni_rc (h o) 5 = true ∧ Nat.ble (ni_sw st) 8 = true ∧ ni_T d 47 0 [.ref o, .ref o20, .retAddr 0] [] z h (ni_K (d + 1) 80 32 [a0, a1, a2, a3, a4] st z Q)) := ni_T_ce [.ref o, .ref o20] rfl rfl rfl rfl rfl rfl rfl rfl rfl
theorem s80_29N0 : ni_T (d + 1) 80 29 [a0, a1, a2, a3, a4] (.null :: .ref o :: st) z h Q = (ni_rc (h o) 5 = true ∧ Nat.ble (ni_sw st) 8 = true ∧ ni_T d 47 0 [.ref o, .null, .retAddr 0] [] z h (ni_K (d + 1) 80 32 [a0, a1, a2, a3, a4] st z Q)) := ni_T_ce [.ref o, .null] rfl rfl rfl rfl rfl rfl rfl rfl rfl
theorem s80_32 : ni_T d 80 32 [.ref o, a1, a2, a3, a4] st z h Q = ni_T d 80 33 [.ref o, a1, a2, a3, a4] (.ref o :: st) z h Q := ni_T_p rfl rfl
theorem s80_33 : ni_T d 80 33 [a0, a1, a2, a3, a4] (.ref o :: st) z h Q = (ni_is (h o) 6 6 = true ∧ ni_T d 80 36 [a0, a1, a2, a3, a4] (ni_gv (h o) 6 :: st) z h Q) := ni_T_getf rfl
theorem s80_36 : ni_T d 80 36 [a0, a1, .ref o, a3, a4] st z h Q = ni_T d 80 37 [a0, a1, .ref o, a3, a4] (.ref o :: st) z h Q := ni_T_p rfl rfl
theorem s80_36N : ni_T d 80 36 [a0, a1, .null, a3, a4] st z h Q = ni_T d 80 37 [a0, a1, .null, a3, a4] (.null :: st) z h Q := ni_T_p rfl rfl
theorem s80_37 : ni_T d 80 37 [.ref o, a1, a2, a3, a4] st z h Q = ni_T d 80 38 [.ref o, a1, a2, a3, a4] (.ref o :: st) z h Q := ni_T_p rfl rfl
theorem s80_38 : ni_T d 80 38 [a0, a1, a2, a3, a4] (.ref o :: st) z h Q = (ni_is (h o) 6 3 = true ∧ ni_T d 80 41 [a0, a1, a2, a3, a4] (ni_gv (h o) 3 :: st) z h Q) := ni_T_getf rfl
theorem s80_41 : ni_T (d + 1) 80 41 [a0, a1, a2, a3, a4] (.ref o21 :: .ref o20 :: .ref o :: st) z h Q = (ni_rc (h o) 3 = true ∧ Nat.ble (ni_sw st) 8 = true ∧ ni_T d 28 0 [.ref o, .ref o20, .ref o21, .retAddr 0] [] z h (ni_K (d + 1) 80 44 [a0, a1, a2, a3, a4] st z Q)) := ni_T_ce [.ref o, .ref o20, .ref o21] rfl rfl rfl rfl rfl rfl rfl rfl rfl
theorem s80_41N1 : ni_T (d + 1) 80 41 [a0, a1, a2, a3, a4] (.null :: .ref o20 :: .ref o :: st) z h Q = (ni_rc (h o) 3 = true ∧ Nat.ble (ni_sw st) 8 = true ∧ ni_T d 28 0 [.ref o, .ref o20, .null, .retAddr 0] [] z h (ni_K (d + 1) 80 44 [a0, a1, a2, a3, a4] st z Q)) := ni_T_ce [.ref o, .ref o20, .null] rfl rfl rfl rfl rfl rfl rfl rfl rfl
theorem s80_41N0 : ni_T (d + 1) 80 41 [a0, a1, a2, a3, a4] (.ref o21 :: .null :: .ref o :: st) z h Q = (ni_rc (h o) 3 = true ∧ Nat.ble (ni_sw st) 8 = true ∧ ni_T d 28 0 [.ref o, .null, .ref o21, .retAddr 0] [] z h (ni_K (d + 1) 80 44 [a0, a1, a2, a3, a4] st z Q)) := ni_T_ce [.ref o, .null, .ref o21] rfl rfl rfl rfl rfl rfl rfl rfl rfl
theorem s80_41N0N1 : ni_T (d + 1) 80 41 [a0, a1, a2, a3, a4] (.null :: .null :: .ref o :: st) z h Q = (ni_rc (h o) 3 = true ∧ Nat.ble (ni_sw st) 8 = true ∧ ni_T d 28 0 [.ref o, .null, .null, .retAddr 0] [] z h (ni_K (d + 1) 80 44 [a0, a1, a2, a3, a4] st z Q)) := ni_T_ce [.ref o, .null, .null] rfl rfl rfl rfl rfl rfl rfl rfl rfl
theorem s80_44 : ni_T d 80 44 [a0, a1, a2, a3, a4] (.int x :: st) z h Q = ni_T d 80 46 [a0, a1, a2, ni_kl a3, .int x] st z h Q := ni_T_p rfl rfl
theorem s80_46 : ni_T d 80 46 [.ref o, a1, a2, a3, a4] st z h Q = ni_T d 80 47 [.ref o, a1, a2, a3, a4] (.ref o :: st) z h Q := ni_T_p rfl rfl
theorem s80_47 : ni_T d 80 47 [.ref o, a1, a2, a3, a4] st z h Q = ni_T d 80 48 [.ref o, a1, a2, a3, a4] (.ref o :: st) z h Q := ni_T_p rfl rfl
theorem s80_48 : ni_T d 80 48 [a0, a1, a2, a3, a4] (.ref o :: st) z h Q = (ni_is (h o) 6 6 = true ∧ ni_T d 80 51 [a0, a1, a2, a3, a4] (ni_gv (h o) 6 :: st) z h Q) := ni_T_getf rfl
theorem s80_51 : ni_T d 80 51 [a0, a1, a2, a3, a4] (.ref o :: st) z h Q = (ni_is (h o) 3 0 = true ∧ ni_T d 80 54 [a0, a1, a2, a3, a4] (ni_gv (h o) 0 :: st) z h Q) := ni_T_getf rfl
theorem s80_54 : ni_T d 80 54 [a0, a1, a2, a3, a4] (b0 :: .ref o :: st) z h Q = ((Nat.ble 6 7 && ni_is (h o) 6 9 && ni_fit (.int) b0) = true ∧ ni_T d 80 57 [a0, a1, a2, a3, a4] st z (ni_up h o (ni_pv (h o) 9 b0)) Q) := ni_T_putf rfl
theorem s80_57 : ni_T d 80 57 [.ref o, a1, a2, a3, a4] st z h Q = ni_T d 80 58 [.ref o, a1, a2, a3, a4] (.ref o :: st) z h Q := ni_T_p rfl rfl
theorem s80_58 : ni_T d 80 58 [a0, a1, a2, a3, a4] (.ref o :: st) z h Q = (ni_is (h o) 6 9 = true ∧ ni_T d 80 61 [a0, a1, a2, a3, a4] (ni_gv (h o) 9 :: st) z h Q) := ni_T_getf rfl
theorem s80_61 : ni_T d 80 61 [a0, a1, a2, a3, a4] st z h Q = ni_T d 80 62 [a0, a1, a2, a3, a4] (.int (-1) :: st) z h Q := ni_T_p rfl rfl
theorem s80_62 : ni_T d 80 62 [a0, a1, a2, a3, a4] (.int y :: .int x :: st) z h Q = if x = y then ni_T d 80 72 [a0, a1, a2, a3, a4] st z h Q else ni_T d 80 65 [a0, a1, a2, a3, a4] st z h Q := ni_T_b rfl rfl
theorem s80_65 : ni_T d 80 65 [.ref o, a1, a2, a3, a4] st z h Q = ni_T d 80 66 [.ref o, a1, a2, a3, a4] (.ref o :: st) z h Q := ni_T_p rfl rfl
theorem s80_66 : ni_T d 80 66 [a0, a1, a2, a3, a4] st z h Q = ni_T d 80 68 [a0, a1, a2, a3, a4] (.int (-6) :: st) z h Q := ni_T_p rfl rfl
theorem s80_68 : ni_T (d + 1) 80 68 [a0, a1, a2, a3, a4] (.int x0 :: .ref o :: st) z h Q = (ni_rc (h o) 6 = true ∧ Nat.ble (ni_sw st) 8 = true ∧ ni_T d 105 0 [.ref o, .int x0] [] z h (ni_K (d + 1) 80 71 [a0, a1, a2, a3, a4] st z Q)) := ni_T_ce [.ref o, .int x0] rfl rfl rfl rfl rfl rfl rfl rfl rfl
theorem s80_71 : ni_T d 80 71 [a0, a1, a2, a3, a4] [.int x] z h Q = Q (some (.int x)) z h := ni_T_i rfl rfl
theorem s80_72 : ni_T d 80 72 [.ref o, a1, a2, a3, a4] st z h Q = ni_T d 80 73 [.ref o, a1, a2, a3, a4] (.ref o :: st) z h Q := ni_T_p rfl rfl
theorem s80_73 : ni_T d 80 73 [a0, a1, a2, a3, a4] (.ref o :: st) z h Q = (ni_is (h o) 6 1 = true ∧ ni_T d 80 76 [a0, a1, a2, a3, a4] (ni_gv (h o) 1 :: st) z h Q) := ni_T_getf rfl
theorem s80_76 : ni_T d 80 76 [.ref o, a1, a2, a3, a4] st z h Q = ni_T d 80 77 [.ref o, a1, a2, a3, a4] (.ref o :: st) z h Q := ni_T_p rfl rfl
theorem s80_77 : ni_T d 80 77 [a0, a1, a2, a3, a4] (.ref o :: st) z h Q = (ni_is (h o) 6 3 = true ∧ ni_T d 80 80 [a0, a1, a2, a3, a4] (ni_gv (h o) 3 :: st) z h Q) := ni_T_getf rfl
theorem s80_80 : ni_T (d + 1) 80 80 [a0, a1, a2, a3, a4] (.ref o20 :: .ref o :: st) z h Q = (ni_rc (h o) 5 = true ∧ Nat.ble (ni_sw st) 8 = true ∧ ni_T d 47 0 [.ref o, .ref o20, .retAddr 0] [] z h (ni_K (d + 1) 80 83 [a0, a1, a2, a3, a4] st z Q)) := ni_T_ce [.ref o, .ref o20] rfl rfl rfl rfl rfl rfl rfl rfl rfl
theorem s80_80N0 : ni_T (d + 1) 80 80 [a0, a1, a2, a3, a4] (.null :: .ref o :: st) z h Q = (ni_rc (h o) 5 = true ∧ Nat.ble (ni_sw st) 8 = true ∧ ni_T d 47 0 [.ref o, .null, .retAddr 0] [] z h (ni_K (d + 1) 80 83 [a0, a1, a2, a3, a4] st z Q)) := ni_T_ce [.ref o, .null] rfl rfl rfl rfl rfl rfl rfl rfl rfl
theorem s80_83 : ni_T d 80 83 [a0, a1, a2, a3, .int x] st z h Q = ni_T d 80 85 [a0, a1, a2, a3, .int x] (.int x :: st) z h Q := ni_T_p rfl rfl
theorem s80_85 : ni_T d 80 85 [a0, a1, a2, a3, a4] [.int x] z h Q = Q (some (.int x)) z h := ni_T_i rfl rfl
theorem s81_0 : ni_T d 81 0 [.ref o] st z h Q = ni_T d 81 1 [.ref o] (.ref o :: st) z h Q := ni_T_p rfl rfl
theorem s81_1 : ni_T d 81 1 [a0] (.ref o :: st) z h Q = (ni_is (h o) 6 9 = true ∧ ni_T d 81 4 [a0] (ni_gv (h o) 9 :: st) z h Q) := ni_T_getf rfl
theorem s81_4 : ni_T d 81 4 [a0] [.int x] z h Q = Q (some (.int x)) z h := ni_T_i rfl rfl
theorem s82_0 : ni_T d 82 0 [.ref o, a1] st z h Q = ni_T d 82 1 [.ref o, a1] (.ref o :: st) z h Q := ni_T_p rfl rfl
theorem s82_1 : ni_T d 82 1 [a0, a1] (.ref o :: st) z h Q = (ni_is (h o) 6 1 = true ∧ ni_T d 82 4 [a0, a1] (ni_gv (h o) 1 :: st) z h Q) := ni_T_getf rfl
theorem s82_4 : ni_T d 82 4 [a0, .int x] st z h Q = ni_T d 82 5 [a0, .int x] (.int x :: st) z h Q := ni_T_p rfl rfl
theorem s82_5 : ni_T (d + 1) 82 5 [a0, a1] (.int x0 :: .ref o :: st) z h Q = (ni_rc (h o) 5 = true ∧ Nat.ble (ni_sw st) 8 = true ∧ ni_T d 54 0 [.ref o, .int x0] [] z h (ni_K (d + 1) 82 8 [a0, a1] st z Q)) := ni_T_ce [.ref o, .int x0] rfl rfl rfl rfl rfl rfl rfl rfl rfl
theorem s82_8 : ni_T d 82 8 [a0, a1] (.int x :: st) z h Q = if x = 0 then ni_T d 82 11 [a0, a1] st z h Q else ni_T d 82 18 [a0, a1] st z h Q := ni_T_b rfl rfl
theorem s82_11 : ni_T d 82 11 [.ref o, a1] st z h Q = ni_T d 82 12 [.ref o, a1] (.ref o :: st) z h Q := ni_T_p rfl rfl
theorem s82_12 : ni_T d 82 12 [a0, a1] st z h Q = ni_T d 82 14 [a0, a1] (.int (-6) :: st) z h Q := ni_T_p rfl rfl
theorem s82_14 : ni_T (d + 1) 82 14 [a0, a1] (.int x0 :: .ref o :: st) z h Q = (ni_rc (h o) 6 = true ∧ Nat.ble (ni_sw st) 8 = true ∧ ni_T d 105 0 [.ref o, .int x0] [] z h (ni_K (d + 1) 82 17 [a0, a1] st z Q)) := ni_T_ce [.ref o, .int x0] rfl rfl rfl rfl rfl rfl rfl rfl rfl
theorem s82_17 : ni_T d 82 17 [a0, a1] [.int x] z h Q = Q (some (.int x)) z h := ni_T_i rfl rfl
theorem s82_18 : ni_T d 82 18 [.ref o, a1] st z h Q = ni_T d 82 19 [.ref o, a1] (.ref o :: st) z h Q := ni_T_p rfl rfl
theorem s82_19 : ni_T d 82 19 [a0, a1] (.ref o :: st) z h Q = (ni_is (h o) 6 4 = true ∧ ni_T d 82 22 [a0, a1] (ni_gv (h o) 4 :: st) z h Q) := ni_T_getf rfl
theorem s82_22 : ni_T d 82 22 [.ref o, a1] st z h Q = ni_T d 82 23 [.ref o, a1] (.ref o :: st) z h Q := ni_T_p rfl rfl
theorem s82_23 : ni_T d 82 23 [a0, a1] (.ref o :: st) z h Q = (ni_is (h o) 6 1 = true ∧ ni_T d 82 26 [a0, a1] (ni_gv (h o) 1 :: st) z h Q) := ni_T_getf rfl
theorem s82_26 : ni_T (d + 1) 82 26 [a0, a1] (.ref o20 :: .ref o :: st) z h Q = (ni_rc (h o) 2 = true ∧ Nat.ble (ni_sw st) 8 = true ∧ ni_T d 16 0 [.ref o, .ref o20, .retAddr 0, .retAddr 0] [] z h (ni_K (d + 1) 82 29 [a0, a1] st z Q)) := ni_T_ce [.ref o, .ref o20] rfl rfl rfl rfl rfl rfl rfl rfl rfl
theorem s82_26N0 : ni_T (d + 1) 82 26 [a0, a1] (.null :: .ref o :: st) z h Q = (ni_rc (h o) 2 = true ∧ Nat.ble (ni_sw st) 8 = true ∧ ni_T d 16 0 [.ref o, .null, .retAddr 0, .retAddr 0] [] z h (ni_K (d + 1) 82 29 [a0, a1] st z Q)) := ni_T_ce [.ref o, .null] rfl rfl rfl rfl rfl rfl rfl rfl rfl
theorem s82_29 : ni_T d 82 29 [.ref o, a1] st z h Q = ni_T d 82 30 [.ref o, a1] (.ref o :: st) z h Q := ni_T_p rfl rfl
theorem s82_30 : ni_T d 82 30 [a0, a1] (.ref o :: st) z h Q = (ni_is (h o) 6 4 = true ∧ ni_T d 82 33 [a0, a1] (ni_gv (h o) 4 :: st) z h Q) := ni_T_getf rfl
theorem s82_33 : ni_T d 82 33 [a0, a1] (.ref o :: st) z h Q = (ni_is (h o) 2 0 = true ∧ ni_T d 82 36 [a0, a1] (ni_gv (h o) 0 :: st) z h Q) := ni_T_getf rfl
theorem s82_36 : ni_T d 82 36 [a0, .int x] st z h Q = ni_T d 82 37 [a0, .int x] (.int x :: st) z h Q := ni_T_p rfl rfl
theorem s82_37 : ni_T d 82 37 [a0, a1] (.int x :: .ref o :: st) z h Q = (ni_okI (h o) x = true ∧ ni_T d 82 38 [a0, a1] (.int (ni_gi (h o) x) :: st) z h Q) := ni_T_iald rfl
theorem s82_38 : ni_T d 82 38 [a0, a1] [.int x] z h Q = Q (some (.int x)) z h := ni_T_i rfl rfl
theorem s83_0 : ni_T d 83 0 [.ref o, a1, a2, a3, a4] st z h Q = ni_T d 83 1 [.ref o, a1, a2, a3, a4] (.ref o :: st) z h Q := ni_T_p rfl rfl
theorem s83_1 : ni_T d 83 1 [a0, a1, a2, a3, a4] (.ref o :: st) z h Q = (ni_is (h o) 6 1 = true ∧ ni_T d 83 4 [a0, a1, a2, a3, a4] (ni_gv (h o) 1 :: st) z h Q) := ni_T_getf rfl
theorem s83_4 : ni_T d 83 4 [a0, .int x, a2, a3, a4] st z h Q = ni_T d 83 5 [a0, .int x, a2, a3, a4] (.int x :: st) z h Q := ni_T_p rfl rfl
theorem s83_5 : ni_T (d + 1) 83 5 [a0, a1, a2, a3, a4] (.int x0 :: .ref o :: st) z h Q = (ni_rc (h o) 5 = true ∧ Nat.ble (ni_sw st) 8 = true ∧ ni_T d 48 0 [.ref o, .int x0] [] z h (ni_K (d + 1) 83 8 [a0, a1, a2, a3, a4] st z Q)) := ni_T_ce [.ref o, .int x0] rfl rfl rfl rfl rfl rfl rfl rfl rfl
theorem s83_8 : ni_T d 83 8 [a0, a1, a2, a3, a4] (.ref o :: st) z h Q = ni_T d 83 10 [a0, a1, a2, ni_kl a3, .ref o] st z h Q := ni_T_p rfl rfl
theorem s83_8N : ni_T d 83 8 [a0, a1, a2, a3, a4] (.null :: st) z h Q = ni_T d 83 10 [a0, a1, a2, ni_kl a3, .null] st z h Q := ni_T_p rfl rfl
theorem s83_10 : ni_T d 83 10 [a0, a1, a2, a3, .ref o] st z h Q = ni_T d 83 12 [a0, a1, a2, a3, .ref o] (.ref o :: st) z h Q := ni_T_p rfl rfl
theorem s83_10N : ni_T d 83 10 [a0, a1, a2, a3, .null] st z h Q = ni_T d 83 12 [a0, a1, a2, a3, .null] (.null :: st) z h Q := ni_T_p rfl rfl
theorem s83_12N : ni_T d 83 12 [a0, a1, a2, a3, a4] (.null :: st) z h Q = ni_T d 83 15 [a0, a1, a2, a3, a4] st z h Q := ni_T_p rfl rfl
theorem s83_12 : ni_T d 83 12 [a0, a1, a2, a3, a4] (.ref o :: st) z h Q = ni_T d 83 21 [a0, a1, a2, a3, a4] st z h Q := ni_T_p rfl rfl
theorem s83_15 : ni_T d 83 15 [.ref o, a1, a2, a3, a4] st z h Q = ni_T d 83 16 [.ref o, a1, a2, a3, a4] (.ref o :: st) z h Q := ni_T_p rfl rfl
theorem s83_16 : ni_T d 83 16 [a0, a1, a2, a3, a4] st z h Q = ni_T d 83 17 [a0, a1, a2, a3, a4] (.int (-1) :: st) z h Q := ni_T_p rfl rfl
theorem s83_17 : ni_T (d + 1) 83 17 [a0, a1, a2, a3, a4] (.int x0 :: .ref o :: st) z h Q = (ni_rc (h o) 6 = true ∧ Nat.ble (ni_sw st) 8 = true ∧ ni_T d 105 0 [.ref o, .int x0] [] z h (ni_K (d + 1) 83 20 [a0, a1, a2, a3, a4] st z Q)) := ni_T_ce [.ref o, .int x0] rfl rfl rfl rfl rfl rfl rfl rfl rfl
theorem s83_20 : ni_T d 83 20 [a0, a1, a2, a3, a4] [.int x] z h Q = Q (some (.int x)) z h := ni_T_i rfl rfl
theorem s83_21 : ni_T d 83 21 [a0, a1, a2, .int x, a4] st z h Q = ni_T d 83 22 [a0, a1, a2, .int x, a4] (.int x :: st) z h Q := ni_T_p rfl rfl
theorem s83_22 : ni_T (d + 1) 83 22 [a0, a1, a2, a3, a4] (.int x0 :: st) z h Q = (Nat.ble (ni_sw st) 8 = true ∧ ni_T d 109 0 [.int x0] [] z h (ni_K (d + 1) 83 25 [a0, a1, a2, a3, a4] st z Q)) := ni_T_cse [.int x0] rfl rfl rfl rfl rfl rfl rfl rfl rfl
theorem s83_25 : ni_T d 83 25 [a0, a1, a2, a3, a4] (.int x :: st) z h Q = if x = 0 then ni_T d 83 39 [a0, a1, a2, a3, a4] st z h Q else ni_T d 83 28 [a0, a1, a2, a3, a4] st z h Q := ni_T_b rfl rfl
theorem s83_28 : ni_T d 83 28 [.ref o, a1, a2, a3, a4] st z h Q = ni_T d 83 29 [.ref o, a1, a2, a3, a4] (.ref o :: st) z h Q := ni_T_p rfl rfl
theorem s83_29 : ni_T d 83 29 [a0, a1, a2, a3, a4] (.ref o :: st) z h Q = (ni_is (h o) 6 1 = true ∧ ni_T d 83 32 [a0, a1, a2, a3, a4] (ni_gv (h o) 1 :: st) z h Q) := ni_T_getf rfl
theorem s83_32 : ni_T d 83 32 [a0, a1, .int x, a3, a4] st z h Q = ni_T d 83 33 [a0, a1, .int x, a3, a4] (.int x :: st) z h Q := ni_T_p rfl rfl
theorem s83_33 : ni_T (d + 1) 83 33 [a0, a1, a2, a3, a4] (.int x0 :: .ref o :: st) z h Q = (ni_rc (h o) 5 = true ∧ Nat.ble (ni_sw st) 8 = true ∧ ni_T d 54 0 [.ref o, .int x0] [] z h (ni_K (d + 1) 83 36 [a0, a1, a2, a3, a4] st z Q)) := ni_T_ce [.ref o, .int x0] rfl rfl rfl rfl rfl rfl rfl rfl rfl
theorem s83_36 : ni_T d 83 36 [a0, a1, a2, a3, a4] (.int x :: st) z h Q = if x = 0 then ni_T d 83 39 [a0, a1, a2, a3, a4] st z h Q else ni_T d 83 46 [a0, a1, a2, a3, a4] st z h Q := ni_T_b rfl rfl
theorem s83_39 : ni_T d 83 39 [.ref o, a1, a2, a3, a4] st z h Q = ni_T d 83 40 [.ref o, a1, a2, a3, a4] (.ref o :: st) z h Q := ni_T_p rfl rfl
theorem s83_40 : ni_T d 83 40 [a0, a1, a2, a3, a4] st z h Q = ni_T d 83 42 [a0, a1, a2, a3, a4] (.int (-6) :: st) z h Q := ni_T_p rfl rfl
theorem s83_42 : ni_T (d + 1) 83 42 [a0, a1, a2, a3, a4] (.int x0 :: .ref o :: st) z h Q = (ni_rc (h o) 6 = true ∧ Nat.ble (ni_sw st) 8 = true ∧ ni_T d 105 0 [.ref o, .int x0] [] z h (ni_K (d + 1) 83 45 [a0, a1, a2, a3, a4] st z Q)) := ni_T_ce [.ref o, .int x0] rfl rfl rfl rfl rfl rfl rfl rfl rfl
theorem s83_45 : ni_T d 83 45 [a0, a1, a2, a3, a4] [.int x] z h Q = Q (some (.int x)) z h := ni_T_i rfl rfl
theorem s83_46 : ni_T d 83 46 [.ref o, a1, a2, a3, a4] st z h Q = ni_T d 83 47 [.ref o, a1, a2, a3, a4] (.ref o :: st) z h Q := ni_T_p rfl rfl
theorem s83_47 : ni_T d 83 47 [a0, a1, a2, a3, a4] (.ref o :: st) z h Q = (ni_is (h o) 6 4 = true ∧ ni_T d 83 50 [a0, a1, a2, a3, a4] (ni_gv (h o) 4 :: st) z h Q) := ni_T_getf rfl
theorem s83_50 : ni_T d 83 50 [.ref o, a1, a2, a3, a4] st z h Q = ni_T d 83 51 [.ref o, a1, a2, a3, a4] (.ref o :: st) z h Q := ni_T_p rfl rfl
theorem s83_51 : ni_T d 83 51 [a0, a1, a2, a3, a4] (.ref o :: st) z h Q = (ni_is (h o) 6 1 = true ∧ ni_T d 83 54 [a0, a1, a2, a3, a4] (ni_gv (h o) 1 :: st) z h Q) := ni_T_getf rfl
theorem s83_54 : ni_T (d + 1) 83 54 [a0, a1, a2, a3, a4] (.ref o20 :: .ref o :: st) z h Q = (ni_rc (h o) 2 = true ∧ Nat.ble (ni_sw st) 8 = true ∧ ni_T d 16 0 [.ref o, .ref o20, .retAddr 0, .retAddr 0] [] z h (ni_K (d + 1) 83 57 [a0, a1, a2, a3, a4] st z Q)) := ni_T_ce [.ref o, .ref o20] rfl rfl rfl rfl rfl rfl rfl rfl rfl
theorem s83_54N0 : ni_T (d + 1) 83 54 [a0, a1, a2, a3, a4] (.null :: .ref o :: st) z h Q = (ni_rc (h o) 2 = true ∧ Nat.ble (ni_sw st) 8 = true ∧ ni_T d 16 0 [.ref o, .null, .retAddr 0, .retAddr 0] [] z h (ni_K (d + 1) 83 57 [a0, a1, a2, a3, a4] st z Q)) := ni_T_ce [.ref o, .null] rfl rfl rfl rfl rfl rfl rfl rfl rfl
theorem s83_57 : ni_T d 83 57 [.ref o, a1, a2, a3, a4] st z h Q = ni_T d 83 58 [.ref o, a1, a2, a3, a4] (.ref o :: st) z h Q := ni_T_p rfl rfl
theorem s83_58 : ni_T d 83 58 [a0, a1, a2, a3, a4] (.ref o :: st) z h Q = (ni_is (h o) 6 4 = true ∧ ni_T d 83 61 [a0, a1, a2, a3, a4] (ni_gv (h o) 4 :: st) z h Q) := ni_T_getf rfl
theorem s83_61 : ni_T d 83 61 [a0, a1, a2, a3, .ref o] st z h Q = ni_T d 83 63 [a0, a1, a2, a3, .ref o] (.ref o :: st) z h Q := ni_T_p rfl rfl
theorem s83_61N : ni_T d 83 61 [a0, a1, a2, a3, .null] st z h Q = ni_T d 83 63 [a0, a1, a2, a3, .null] (.null :: st) z h Q := ni_T_p rfl rfl
theorem s83_63 : ni_T d 83 63 [a0, a1, .int x, a3, a4] st z h Q = ni_T d 83 64 [a0, a1, .int x, a3, a4] (.int x :: st) z h Q := ni_T_p rfl rfl
theorem s83_64 : ni_T d 83 64 [.ref o, a1, a2, a3, a4] st z h Q = ni_T d 83 65 [.ref o, a1, a2, a3, a4] (.ref o :: st) z h Q := ni_T_p rfl rfl
theorem s83_65 : ni_T d 83 65 [a0, a1, a2, a3, a4] (.ref o :: st) z h Q = (ni_is (h o) 6 4 = true ∧ ni_T d 83 68 [a0, a1, a2, a3, a4] (ni_gv (h o) 4 :: st) z h Q) := ni_T_getf rfl
theorem s83_68 : ni_T d 83 68 [a0, a1, a2, a3, a4] (.ref o :: st) z h Q = (ni_is (h o) 2 5 = true ∧ ni_T d 83 71 [a0, a1, a2, a3, a4] (ni_gv (h o) 5 :: st) z h Q) := ni_T_getf rfl
theorem s83_71 : ni_T d 83 71 [a0, a1, a2, .int x, a4] st z h Q = ni_T d 83 72 [a0, a1, a2, .int x, a4] (.int x :: st) z h Q := ni_T_p rfl rfl
theorem s83_72 : ni_T (d + 1) 83 72 [a0, a1, a2, a3, a4] (.int x3 :: .int x2 :: .int x1 :: .ref o20 :: .ref o :: st) z h Q = (ni_rc (h o) 2 = true ∧ Nat.ble (ni_sw st) 8 = true ∧ ni_T d 19 0 [.ref o, .ref o20, .int x1, .int x2, .int x3, .retAddr 0] [] z h (ni_K (d + 1) 83 75 [a0, a1, a2, a3, a4] st z Q)) := ni_T_ce [.ref o, .ref o20, .int x1, .int x2, .int x3] rfl rfl rfl rfl rfl rfl rfl rfl rfl
theorem s83_72N0 : ni_T (d + 1) 83 72 [a0, a1, a2, a3, a4] (.int x3 :: .int x2 :: .int x1 :: .null :: .ref o :: st) z h Q = (ni_rc (h o) 2 = true ∧ Nat.ble (ni_sw st) 8 = true ∧ ni_T d 19 0 [.ref o, .null, .int x1, .int x2, .int x3, .retAddr 0] [] z h (ni_K (d + 1) 83 75 [a0, a1, a2, a3, a4] st z Q)) := ni_T_ce [.ref o, .null, .int x1, .int x2, .int x3] rfl rfl rfl rfl rfl rfl rfl rfl rfl
theorem s83_75 : ni_T d 83 75 [a0, a1, a2, a3, a4] [.int x] z h Q = Q (some (.int x)) z h := ni_T_i rfl rfl
theorem s84_0 : ni_T d 84 0 [.ref o, a1, a2, a3, a4] st z h Q = ni_T d 84 1 [.ref o, a1, a2, a3, a4] (.ref o :: st) z h Q := ni_T_p rfl rfl
theorem s84_1 : ni_T d 84 1 [a0, a1, a2, a3, a4] (.ref o :: st) z h Q = (ni_is (h o) 6 1 = true ∧ ni_T d 84 4 [a0, a1, a2, a3, a4] (ni_gv (h o) 1 :: st) z h Q) := ni_T_getf rfl
theorem s84_4 : ni_T d 84 4 [a0, .int x, a2, a3, a4] st z h Q = ni_T d 84 5 [a0, .int x, a2, a3, a4] (.int x :: st) z h Q := ni_T_p rfl rfl
theorem s84_5 : ni_T (d + 1) 84 5 [a0, a1, a2, a3, a4] (.int x0 :: .ref o :: st) z h Q = (ni_rc (h o) 5 = true ∧ Nat.ble (ni_sw st) 8 = true ∧ ni_T d 48 0 [.ref o, .int x0] [] z h (ni_K (d + 1) 84 8 [a0, a1, a2, a3, a4] st z Q)) := ni_T_ce [.ref o, .int x0] rfl rfl rfl rfl rfl rfl rfl rfl rfl
theorem s84_8 : ni_T d 84 8 [a0, a1, a2, a3, a4] (.ref o :: st) z h Q = ni_T d 84 10 [a0, a1, a2, ni_kl a3, .ref o] st z h Q := ni_T_p rfl rfl
theorem s84_8N : ni_T d 84 8 [a0, a1, a2, a3, a4] (.null :: st) z h Q = ni_T d 84 10 [a0, a1, a2, ni_kl a3, .null] st z h Q := ni_T_p rfl rfl
theorem s84_10 : ni_T d 84 10 [a0, a1, a2, a3, .ref o] st z h Q = ni_T d 84 12 [a0, a1, a2, a3, .ref o] (.ref o :: st) z h Q := ni_T_p rfl rfl
theorem s84_10N : ni_T d 84 10 [a0, a1, a2, a3, .null] st z h Q = ni_T d 84 12 [a0, a1, a2, a3, .null] (.null :: st) z h Q := ni_T_p rfl rfl
theorem s84_12N : ni_T d 84 12 [a0, a1, a2, a3, a4] (.null :: st) z h Q = ni_T d 84 15 [a0, a1, a2, a3, a4] st z h Q := ni_T_p rfl rfl
theorem s84_12 : ni_T d 84 12 [a0, a1, a2, a3, a4] (.ref o :: st) z h Q = ni_T d 84 21 [a0, a1, a2, a3, a4] st z h Q := ni_T_p rfl rfl
theorem s84_15 : ni_T d 84 15 [.ref o, a1, a2, a3, a4] st z h Q = ni_T d 84 16 [.ref o, a1, a2, a3, a4] (.ref o :: st) z h Q := ni_T_p rfl rfl
theorem s84_16 : ni_T d 84 16 [a0, a1, a2, a3, a4] st z h Q = ni_T d 84 17 [a0, a1, a2, a3, a4] (.int (-1) :: st) z h Q := ni_T_p rfl rfl
theorem s84_17 : ni_T (d + 1) 84 17 [a0, a1, a2, a3, a4] (.int x0 :: .ref o :: st) z h Q = (ni_rc (h o) 6 = true ∧ Nat.ble (ni_sw st) 8 = true ∧ ni_T d 105 0 [.ref o, .int x0] [] z h (ni_K (d + 1) 84 20 [a0, a1, a2, a3, a4] st z Q)) := ni_T_ce [.ref o, .int x0] rfl rfl rfl rfl rfl rfl rfl rfl rfl
theorem s84_20 : ni_T d 84 20 [a0, a1, a2, a3, a4] [.int x] z h Q = Q (some (.int x)) z h := ni_T_i rfl rfl
theorem s84_21 : ni_T d 84 21 [a0, a1, a2, .int x, a4] st z h Q = ni_T d 84 22 [a0, a1, a2, .int x, a4] (.int x :: st) z h Q := ni_T_p rfl rfl
theorem s84_22 : ni_T d 84 22 [a0, a1, a2, a3, a4] (.int x :: st) z h Q = if x = 0 then ni_T d 84 37 [a0, a1, a2, a3, a4] st z h Q else ni_T d 84 25 [a0, a1, a2, a3, a4] st z h Q := ni_T_b rfl rfl
theorem s84_25 : ni_T d 84 25 [a0, a1, a2, .int x, a4] st z h Q = ni_T d 84 26 [a0, a1, a2, .int x, a4] (.int x :: st) z h Q := ni_T_p rfl rfl
theorem s84_26 : ni_T d 84 26 [a0, a1, a2, a3, a4] st z h Q = ni_T d 84 27 [a0, a1, a2, a3, a4] (.int 1 :: st) z h Q := ni_T_p rfl rfl
theorem s84_27 : ni_T d 84 27 [a0, a1, a2, a3, a4] (.int y :: .int x :: st) z h Q = if x = y then ni_T d 84 37 [a0, a1, a2, a3, a4] st z h Q else ni_T d 84 30 [a0, a1, a2, a3, a4] st z h Q := ni_T_b rfl rfl
theorem s84_30 : ni_T d 84 30 [.ref o, a1, a2, a3, a4] st z h Q = ni_T d 84 31 [.ref o, a1, a2, a3, a4] (.ref o :: st) z h Q := ni_T_p rfl rfl
theorem s84_31 : ni_T d 84 31 [a0, a1, a2, a3, a4] st z h Q = ni_T d 84 33 [a0, a1, a2, a3, a4] (.int (-5) :: st) z h Q := ni_T_p rfl rfl
theorem s84_33 : ni_T (d + 1) 84 33 [a0, a1, a2, a3, a4] (.int x0 :: .ref o :: st) z h Q = (ni_rc (h o) 6 = true ∧ Nat.ble (ni_sw st) 8 = true ∧ ni_T d 105 0 [.ref o, .int x0] [] z h (ni_K (d + 1) 84 36 [a0, a1, a2, a3, a4] st z Q)) := ni_T_ce [.ref o, .int x0] rfl rfl rfl rfl rfl rfl rfl rfl rfl
theorem s84_36 : ni_T d 84 36 [a0, a1, a2, a3, a4] [.int x] z h Q = Q (some (.int x)) z h := ni_T_i rfl rfl
theorem s84_37 : ni_T d 84 37 [.ref o, a1, a2, a3, a4] st z h Q = ni_T d 84 38 [.ref o, a1, a2, a3, a4] (.ref o :: st) z h Q := ni_T_p rfl rfl
theorem s84_38 : ni_T d 84 38 [a0, a1, a2, a3, a4] (.ref o :: st) z h Q = (ni_is (h o) 6 1 = true ∧ ni_T d 84 41 [a0, a1, a2, a3, a4] (ni_gv (h o) 1 :: st) z h Q) := ni_T_getf rfl
theorem s84_41 : ni_T d 84 41 [a0, a1, .int x, a3, a4] st z h Q = ni_T d 84 42 [a0, a1, .int x, a3, a4] (.int x :: st) z h Q := ni_T_p rfl rfl
theorem s84_42 : ni_T (d + 1) 84 42 [a0, a1, a2, a3, a4] (.int x0 :: .ref o :: st) z h Q = (ni_rc (h o) 5 = true ∧ Nat.ble (ni_sw st) 8 = true ∧ ni_T d 54 0 [.ref o, .int x0] [] z h (ni_K (d + 1) 84 45 [a0, a1, a2, a3, a4] st z Q)) := ni_T_ce [.ref o, .int x0] rfl rfl rfl rfl rfl rfl rfl rfl rfl
theorem s84_45 : ni_T d 84 45 [a0, a1, a2, a3, a4] (.int x :: st) z h Q = if x = 0 then ni_T d 84 48 [a0, a1, a2, a3, a4] st z h Q else ni_T d 84 55 [a0, a1, a2, a3, a4] st z h Q := ni_T_b rfl rfl
theorem s84_48 : ni_T d 84 48 [.ref o, a1, a2, a3, a4] st z h Q = ni_T d 84 49 [.ref o, a1, a2, a3, a4] (.ref o :: st) z h Q := ni_T_p rfl rfl
theorem s84_49 : ni_T d 84 49 [a0, a1, a2, a3, a4] st z h Q = ni_T d 84 51 [a0, a1, a2, a3, a4] (.int (-6) :: st) z h Q := ni_T_p rfl rfl
theorem s84_51 : ni_T (d + 1) 84 51 [a0, a1, a2, a3, a4] (.int x0 :: .ref o :: st) z h Q = (ni_rc (h o) 6 = true ∧ Nat.ble (ni_sw st) 8 = true ∧ ni_T d 105 0 [.ref o, .int x0] [] z h (ni_K (d + 1) 84 54 [a0, a1, a2, a3, a4] st z Q)) := ni_T_ce [.ref o, .int x0] rfl rfl rfl rfl rfl rfl rfl rfl rfl
theorem s84_54 : ni_T d 84 54 [a0, a1, a2, a3, a4] [.int x] z h Q = Q (some (.int x)) z h := ni_T_i rfl rfl
theorem s84_55 : ni_T d 84 55 [.ref o, a1, a2, a3, a4] st z h Q = ni_T d 84 56 [.ref o, a1, a2, a3, a4] (.ref o :: st) z h Q := ni_T_p rfl rfl
theorem s84_56 : ni_T d 84 56 [a0, a1, a2, a3, a4] (.ref o :: st) z h Q = (ni_is (h o) 6 4 = true ∧ ni_T d 84 59 [a0, a1, a2, a3, a4] (ni_gv (h o) 4 :: st) z h Q) := ni_T_getf rfl
theorem s84_59 : ni_T d 84 59 [.ref o, a1, a2, a3, a4] st z h Q = ni_T d 84 60 [.ref o, a1, a2, a3, a4] (.ref o :: st) z h Q := ni_T_p rfl rfl
theorem s84_60 : ni_T d 84 60 [a0, a1, a2, a3, a4] (.ref o :: st) z h Q = (ni_is (h o) 6 1 = true ∧ ni_T d 84 63 [a0, a1, a2, a3, a4] (ni_gv (h o) 1 :: st) z h Q) := ni_T_getf rfl
theorem s84_63 : ni_T (d + 1) 84 63 [a0, a1, a2, a3, a4] (.ref o20 :: .ref o :: st) z h Q = (ni_rc (h o) 2 = true ∧ Nat.ble (ni_sw st) 8 = true ∧ ni_T d 16 0 [.ref o, .ref o20, .retAddr 0, .retAddr 0] [] z h (ni_K (d + 1) 84 66 [a0, a1, a2, a3, a4] st z Q)) := ni_T_ce [.ref o, .ref o20] rfl rfl rfl rfl rfl rfl rfl rfl rfl
theorem s84_63N0 : ni_T (d + 1) 84 63 [a0, a1, a2, a3, a4] (.null :: .ref o :: st) z h Q = (ni_rc (h o) 2 = true ∧ Nat.ble (ni_sw st) 8 = true ∧ ni_T d 16 0 [.ref o, .null, .retAddr 0, .retAddr 0] [] z h (ni_K (d + 1) 84 66 [a0, a1, a2, a3, a4] st z Q)) := ni_T_ce [.ref o, .null] rfl rfl rfl rfl rfl rfl rfl rfl rfl
theorem s84_66 : ni_T d 84 66 [a0, a1, a2, .int x, a4] st z h Q = ni_T d 84 67 [a0, a1, a2, .int x, a4] (.int x :: st) z h Q := ni_T_p rfl rfl
theorem s84_67 : ni_T d 84 67 [a0, a1, a2, a3, a4] (.int x :: st) z h Q = if x = 0 then ni_T d 84 70 [a0, a1, a2, a3, a4] st z h Q else ni_T d 84 90 [a0, a1, a2, a3, a4] st z h Q := ni_T_b rfl rfl
theorem s84_70 : ni_T d 84 70 [.ref o, a1, a2, a3, a4] st z h Q = ni_T d 84 71 [.ref o, a1, a2, a3, a4] (.ref o :: st) z h Q := ni_T_p rfl rfl
theorem s84_71 : ni_T d 84 71 [a0, a1, a2, a3, a4] (.ref o :: st) z h Q = (ni_is (h o) 6 4 = true ∧ ni_T d 84 74 [a0, a1, a2, a3, a4] (ni_gv (h o) 4 :: st) z h Q) := ni_T_getf rfl
theorem s84_74 : ni_T d 84 74 [a0, a1, a2, a3, .ref o] st z h Q = ni_T d 84 76 [a0, a1, a2, a3, .ref o] (.ref o :: st) z h Q := ni_T_p rfl rfl
theorem s84_74N : ni_T d 84 74 [a0, a1, a2, a3, .null] st z h Q = ni_T d 84 76 [a0, a1, a2, a3, .null] (.null :: st) z h Q := ni_T_p rfl rfl
theorem s84_76 : ni_T d 84 76 [a0, a1, .int x, a3, a4] st z h Q = ni_T d 84 77 [a0, a1, .int x, a3, a4] (.int x :: st) z h Q := ni_T_p rfl rfl
theorem s84_77 : ni_T d 84 77 [.ref o, a1, a2, a3, a4] st z h Q = ni_T d 84 78 [.ref o, a1, a2, a3, a4] (.ref o :: st) z h Q := ni_T_p rfl rfl
theorem s84_78 : ni_T d 84 78 [a0, a1, a2, a3, a4] (.ref o :: st) z h Q = (ni_is (h o) 6 4 = true ∧ ni_T d 84 81 [a0, a1, a2, a3, a4] (ni_gv (h o) 4 :: st) z h Q) := ni_T_getf rfl
theorem s84_81 : ni_T d 84 81 [a0, a1, a2, a3, a4] (.ref o :: st) z h Q = (ni_is (h o) 2 5 = true ∧ ni_T d 84 84 [a0, a1, a2, a3, a4] (ni_gv (h o) 5 :: st) z h Q) := ni_T_getf rfl
theorem s84_84 : ni_T (d + 1) 84 84 [a0, a1, a2, a3, a4] (.int x2 :: .int x1 :: .ref o20 :: .ref o :: st) z h Q = (ni_rc (h o) 2 = true ∧ Nat.ble (ni_sw st) 8 = true ∧ ni_T d 21 0 [.ref o, .ref o20, .int x1, .int x2, .retAddr 0] [] z h (ni_K (d + 1) 84 87 [a0, a1, a2, a3, a4] st z Q)) := ni_T_ce [.ref o, .ref o20, .int x1, .int x2] rfl rfl rfl rfl rfl rfl rfl rfl rfl
theorem s84_84N0 : ni_T (d + 1) 84 84 [a0, a1, a2, a3, a4] (.int x2 :: .int x1 :: .null :: .ref o :: st) z h Q = (ni_rc (h o) 2 = true ∧ Nat.ble (ni_sw st) 8 = true ∧ ni_T d 21 0 [.ref o, .null, .int x1, .int x2, .retAddr 0] [] z h (ni_K (d + 1) 84 87 [a0, a1, a2, a3, a4] st z Q)) := ni_T_ce [.ref o, .null, .int x1, .int x2] rfl rfl rfl rfl rfl rfl rfl rfl rfl
theorem s84_87 : ni_T d 84 87 [a0, a1, a2, a3, a4] st z h Q = ni_T d 84 107 [a0, a1, a2, a3, a4] st z h Q := ni_T_p rfl rfl
theorem s84_90 : ni_T d 84 90 [.ref o, a1, a2, a3, a4] st z h Q = ni_T d 84 91 [.ref o, a1, a2, a3, a4] (.ref o :: st) z h Q := ni_T_p rfl rfl
theorem s84_91 : ni_T d 84 91 [a0, a1, a2, a3, a4] (.ref o :: st) z h Q = (ni_is (h o) 6 4 = true ∧ ni_T d 84 94 [a0, a1, a2, a3, a4] (ni_gv (h o) 4 :: st) z h Q) := ni_T_getf rfl
theorem s84_94 : ni_T d 84 94 [a0, a1, a2, a3, .ref o] st z h Q = ni_T d 84 96 [a0, a1, a2, a3, .ref o] (.ref o :: st) z h Q := ni_T_p rfl rfl
theorem s84_94N : ni_T d 84 94 [a0, a1, a2, a3, .null] st z h Q = ni_T d 84 96 [a0, a1, a2, a3, .null] (.null :: st) z h Q := ni_T_p rfl rfl
theorem s84_96 : ni_T d 84 96 [a0, a1, .int x, a3, a4] st z h Q = ni_T d 84 97 [a0, a1, .int x, a3, a4] (.int x :: st) z h Q := ni_T_p rfl rfl
theorem s84_97 : ni_T d 84 97 [.ref o, a1, a2, a3, a4] st z h Q = ni_T d 84 98 [.ref o, a1, a2, a3, a4] (.ref o :: st) z h Q := ni_T_p rfl rfl
theorem s84_98 : ni_T d 84 98 [a0, a1, a2, a3, a4] (.ref o :: st) z h Q = (ni_is (h o) 6 4 = true ∧ ni_T d 84 101 [a0, a1, a2, a3, a4] (ni_gv (h o) 4 :: st) z h Q) := ni_T_getf rfl
theorem s84_101 : ni_T d 84 101 [a0, a1, a2, a3, a4] (.ref o :: st) z h Q = (ni_is (h o) 2 5 = true ∧ ni_T d 84 104 [a0, a1, a2, a3, a4] (ni_gv (h o) 5 :: st) z h Q) := ni_T_getf rfl
theorem s84_104 : ni_T (d + 1) 84 104 [a0, a1, a2, a3, a4] (.int x2 :: .int x1 :: .ref o20 :: .ref o :: st) z h Q = (ni_rc (h o) 2 = true ∧ Nat.ble (ni_sw st) 8 = true ∧ ni_T d 22 0 [.ref o, .ref o20, .int x1, .int x2, .retAddr 0, .retAddr 0] [] z h (ni_K (d + 1) 84 107 [a0, a1, a2, a3, a4] st z Q)) := ni_T_ce [.ref o, .ref o20, .int x1, .int x2] rfl rfl rfl rfl rfl rfl rfl rfl rfl
theorem s84_104N0 : ni_T (d + 1) 84 104 [a0, a1, a2, a3, a4] (.int x2 :: .int x1 :: .null :: .ref o :: st) z h Q = (ni_rc (h o) 2 = true ∧ Nat.ble (ni_sw st) 8 = true ∧ ni_T d 22 0 [.ref o, .null, .int x1, .int x2, .retAddr 0, .retAddr 0] [] z h (ni_K (d + 1) 84 107 [a0, a1, a2, a3, a4] st z Q)) := ni_T_ce [.ref o, .null, .int x1, .int x2] rfl rfl rfl rfl rfl rfl rfl rfl rfl
theorem s84_107 : ni_T d 84 107 [a0, a1, a2, a3, a4] [.int x] z h Q = Q (some (.int x)) z h := ni_T_i rfl rfl
theorem s85_0 : ni_T d 85 0 [.ref o, a1, a2, a3] st z h Q = ni_T d 85 1 [.ref o, a1, a2, a3] (.ref o :: st) z h Q := ni_T_p rfl rfl
theorem s85_1 : ni_T d 85 1 [a0, .int x, a2, a3] st z h Q = ni_T d 85 2 [a0, .int x, a2, a3] (.int x :: st) z h Q := ni_T_p rfl rfl
theorem s85_2 : ni_T d 85 2 [a0, a1, .int x, a3] st z h Q = ni_T d 85 3 [a0, a1, .int x, a3] (.int x :: st) z h Q := ni_T_p rfl rfl
theorem s85_3 : ni_T (d + 1) 85 3 [a0, a1, a2, a3] (.int x1 :: .int x0 :: .ref o :: st) z h Q = (ni_rc (h o) 6 = true ∧ Nat.ble (ni_sw st) 8 = true ∧ ni_T d 210 0 [.ref o, .int x0, .int x1, .retAddr 0, .retAddr 0] [] z h (ni_K (d + 1) 85 6 [a0, a1, a2, a3] st z Q)) := ni_T_ce [.ref o, .int x0, .int x1] rfl rfl rfl rfl rfl rfl rfl rfl rfl
theorem s85_6 : ni_T d 85 6 [a0, a1, a2, a3] (.int x :: st) z h Q = ni_T d 85 7 [a0, a1, ni_kl a2, .int x] st z h Q := ni_T_p rfl rfl
theorem s85_7 : ni_T d 85 7 [a0, a1, a2, .int x] st z h Q = ni_T d 85 8 [a0, a1, a2, .int x] (.int x :: st) z h Q := ni_T_p rfl rfl
theorem s85_8 : ni_T d 85 8 [a0, a1, a2, a3] (.int x :: st) z h Q = if x = 0 then ni_T d 85 11 [a0, a1, a2, a3] st z h Q else ni_T d 85 29 [a0, a1, a2, a3] st z h Q := ni_T_b rfl rfl
theorem s85_11 : ni_T d 85 11 [.ref o, a1, a2, a3] st z h Q = ni_T d 85 12 [.ref o, a1, a2, a3] (.ref o :: st) z h Q := ni_T_p rfl rfl
theorem s85_12 : ni_T d 85 12 [a0, a1, a2, a3] (.ref o :: st) z h Q = (ni_is (h o) 6 4 = true ∧ ni_T d 85 15 [a0, a1, a2, a3] (ni_gv (h o) 4 :: st) z h Q) := ni_T_getf rfl
theorem s85_15 : ni_T d 85 15 [a0, a1, a2, a3] (.ref o :: st) z h Q = (ni_is (h o) 2 1 = true ∧ ni_T d 85 18 [a0, a1, a2, a3] (ni_gv (h o) 1 :: st) z h Q) := ni_T_getf rfl
theorem s85_18 : ni_T d 85 18 [.ref o, a1, a2, a3] st z h Q = ni_T d 85 19 [.ref o, a1, a2, a3] (.ref o :: st) z h Q := ni_T_p rfl rfl
theorem s85_19 : ni_T d 85 19 [a0, a1, a2, a3] (.ref o :: st) z h Q = (ni_is (h o) 6 4 = true ∧ ni_T d 85 22 [a0, a1, a2, a3] (ni_gv (h o) 4 :: st) z h Q) := ni_T_getf rfl
theorem s85_22 : ni_T d 85 22 [a0, a1, a2, a3] (.ref o :: st) z h Q = (ni_is (h o) 2 5 = true ∧ ni_T d 85 25 [a0, a1, a2, a3] (ni_gv (h o) 5 :: st) z h Q) := ni_T_getf rfl
theorem s85_25 : ni_T d 85 25 [a0, a1, a2, a3] (.int x :: .ref o :: st) z h Q = (ni_okI (h o) x = true ∧ ni_T d 85 26 [a0, a1, a2, a3] (.int (ni_gi (h o) x) :: st) z h Q) := ni_T_iald rfl
theorem s85_26 : ni_T d 85 26 [a0, a1, a2, a3] st z h Q = ni_T d 85 34 [a0, a1, a2, a3] st z h Q := ni_T_p rfl rfl
theorem s85_29 : ni_T d 85 29 [.ref o, a1, a2, a3] st z h Q = ni_T d 85 30 [.ref o, a1, a2, a3] (.ref o :: st) z h Q := ni_T_p rfl rfl
theorem s85_30 : ni_T d 85 30 [a0, a1, a2, .int x] st z h Q = ni_T d 85 31 [a0, a1, a2, .int x] (.int x :: st) z h Q := ni_T_p rfl rfl
theorem s85_31 : ni_T (d + 1) 85 31 [a0, a1, a2, a3] (.int x0 :: .ref o :: st) z h Q = (ni_rc (h o) 6 = true ∧ Nat.ble (ni_sw st) 8 = true ∧ ni_T d 105 0 [.ref o, .int x0] [] z h (ni_K (d + 1) 85 34 [a0, a1, a2, a3] st z Q)) := ni_T_ce [.ref o, .int x0] rfl rfl rfl rfl rfl rfl rfl rfl rfl
theorem s85_34 : ni_T d 85 34 [a0, a1, a2, a3] [.int x] z h Q = Q (some (.int x)) z h := ni_T_i rfl rfl
theorem s86_0 : ni_T d 86 0 [.ref o, a1, a2, a3] st z h Q = ni_T d 86 1 [.ref o, a1, a2, a3] (.ref o :: st) z h Q := ni_T_p rfl rfl
theorem s86_1 : ni_T d 86 1 [a0, .int x, a2, a3] st z h Q = ni_T d 86 2 [a0, .int x, a2, a3] (.int x :: st) z h Q := ni_T_p rfl rfl
theorem s86_2 : ni_T d 86 2 [a0, a1, .int x, a3] st z h Q = ni_T d 86 3 [a0, a1, .int x, a3] (.int x :: st) z h Q := ni_T_p rfl rfl
theorem s86_3 : ni_T (d + 1) 86 3 [a0, a1, a2, a3] (.int x1 :: .int x0 :: .ref o :: st) z h Q = (ni_rc (h o) 6 = true ∧ Nat.ble (ni_sw st) 8 = true ∧ ni_T d 210 0 [.ref o, .int x0, .int x1, .retAddr 0, .retAddr 0] [] z h (ni_K (d + 1) 86 6 [a0, a1, a2, a3] st z Q)) := ni_T_ce [.ref o, .int x0, .int x1] rfl rfl rfl rfl rfl rfl rfl rfl rfl
theorem s86_6 : ni_T d 86 6 [a0, a1, a2, a3] (.int x :: st) z h Q = ni_T d 86 7 [a0, a1, ni_kl a2, .int x] st z h Q := ni_T_p rfl rfl
theorem s86_7 : ni_T d 86 7 [a0, a1, a2, .int x] st z h Q = ni_T d 86 8 [a0, a1, a2, .int x] (.int x :: st) z h Q := ni_T_p rfl rfl
theorem s86_8 : ni_T d 86 8 [a0, a1, a2, a3] (.int x :: st) z h Q = if x = 0 then ni_T d 86 11 [a0, a1, a2, a3] st z h Q else ni_T d 86 29 [a0, a1, a2, a3] st z h Q := ni_T_b rfl rfl
theorem s86_11 : ni_T d 86 11 [.ref o, a1, a2, a3] st z h Q = ni_T d 86 12 [.ref o, a1, a2, a3] (.ref o :: st) z h Q := ni_T_p rfl rfl
theorem s86_12 : ni_T d 86 12 [a0, a1, a2, a3] (.ref o :: st) z h Q = (ni_is (h o) 6 4 = true ∧ ni_T d 86 15 [a0, a1, a2, a3] (ni_gv (h o) 4 :: st) z h Q) := ni_T_getf rfl
theorem s86_15 : ni_T d 86 15 [a0, a1, a2, a3] (.ref o :: st) z h Q = (ni_is (h o) 2 2 = true ∧ ni_T d 86 18 [a0, a1, a2, a3] (ni_gv (h o) 2 :: st) z h Q) := ni_T_getf rfl
theorem s86_18 : ni_T d 86 18 [.ref o, a1, a2, a3] st z h Q = ni_T d 86 19 [.ref o, a1, a2, a3] (.ref o :: st) z h Q := ni_T_p rfl rfl
theorem s86_19 : ni_T d 86 19 [a0, a1, a2, a3] (.ref o :: st) z h Q = (ni_is (h o) 6 4 = true ∧ ni_T d 86 22 [a0, a1, a2, a3] (ni_gv (h o) 4 :: st) z h Q) := ni_T_getf rfl
theorem s86_22 : ni_T d 86 22 [a0, a1, a2, a3] (.ref o :: st) z h Q = (ni_is (h o) 2 5 = true ∧ ni_T d 86 25 [a0, a1, a2, a3] (ni_gv (h o) 5 :: st) z h Q) := ni_T_getf rfl
theorem s86_25 : ni_T d 86 25 [a0, a1, a2, a3] (.int x :: .ref o :: st) z h Q = (ni_okI (h o) x = true ∧ ni_T d 86 26 [a0, a1, a2, a3] (.int (ni_gi (h o) x) :: st) z h Q) := ni_T_iald rfl
theorem s86_26 : ni_T d 86 26 [a0, a1, a2, a3] st z h Q = ni_T d 86 34 [a0, a1, a2, a3] st z h Q := ni_T_p rfl rfl
theorem s86_29 : ni_T d 86 29 [.ref o, a1, a2, a3] st z h Q = ni_T d 86 30 [.ref o, a1, a2, a3] (.ref o :: st) z h Q := ni_T_p rfl rfl
theorem s86_30 : ni_T d 86 30 [a0, a1, a2, .int x] st z h Q = ni_T d 86 31 [a0, a1, a2, .int x] (.int x :: st) z h Q := ni_T_p rfl rfl
theorem s86_31 : ni_T (d + 1) 86 31 [a0, a1, a2, a3] (.int x0 :: .ref o :: st) z h Q = (ni_rc (h o) 6 = true ∧ Nat.ble (ni_sw st) 8 = true ∧ ni_T d 105 0 [.ref o, .int x0] [] z h (ni_K (d + 1) 86 34 [a0, a1, a2, a3] st z Q)) := ni_T_ce [.ref o, .int x0] rfl rfl rfl rfl rfl rfl rfl rfl rfl
theorem s86_34 : ni_T d 86 34 [a0, a1, a2, a3] [.int x] z h Q = Q (some (.int x)) z h := ni_T_i rfl rfl
theorem s87_0 : ni_T d 87 0 [.ref o, a1, a2, a3, a4, a5] st z h Q = ni_T d 87 1 [.ref o, a1, a2, a3, a4, a5] (.ref o :: st) z h Q := ni_T_p rfl rfl
theorem s87_1 : ni_T d 87 1 [a0, a1, a2, a3, a4, a5] (.ref o :: st) z h Q = (ni_is (h o) 6 1 = true ∧ ni_T d 87 4 [a0, a1, a2, a3, a4, a5] (ni_gv (h o) 1 :: st) z h Q) := ni_T_getf rfl
theorem s87_4 : ni_T d 87 4 [a0, .int x, a2, a3, a4, a5] st z h Q = ni_T d 87 5 [a0, .int x, a2, a3, a4, a5] (.int x :: st) z h Q := ni_T_p rfl rfl
theorem s87_5 : ni_T (d + 1) 87 5 [a0, a1, a2, a3, a4, a5] (.int x0 :: .ref o :: st) z h Q = (ni_rc (h o) 5 = true ∧ Nat.ble (ni_sw st) 8 = true ∧ ni_T d 48 0 [.ref o, .int x0] [] z h (ni_K (d + 1) 87 8 [a0, a1, a2, a3, a4, a5] st z Q)) := ni_T_ce [.ref o, .int x0] rfl rfl rfl rfl rfl rfl rfl rfl rfl
theorem s87_8 : ni_T d 87 8 [a0, a1, a2, a3, a4, a5] (.ref o :: st) z h Q = ni_T d 87 9 [a0, ni_kl a1, .ref o, a3, a4, a5] st z h Q := ni_T_p rfl rfl
theorem s87_8N : ni_T d 87 8 [a0, a1, a2, a3, a4, a5] (.null :: st) z h Q = ni_T d 87 9 [a0, ni_kl a1, .null, a3, a4, a5] st z h Q := ni_T_p rfl rfl
theorem s87_9 : ni_T d 87 9 [a0, a1, .ref o, a3, a4, a5] st z h Q = ni_T d 87 10 [a0, a1, .ref o, a3, a4, a5] (.ref o :: st) z h Q := ni_T_p rfl rfl
theorem s87_9N : ni_T d 87 9 [a0, a1, .null, a3, a4, a5] st z h Q = ni_T d 87 10 [a0, a1, .null, a3, a4, a5] (.null :: st) z h Q := ni_T_p rfl rfl
theorem s87_10N : ni_T d 87 10 [a0, a1, a2, a3, a4, a5] (.null :: st) z h Q = ni_T d 87 13 [a0, a1, a2, a3, a4, a5] st z h Q := ni_T_p rfl rfl
theorem s87_10 : ni_T d 87 10 [a0, a1, a2, a3, a4, a5] (.ref o :: st) z h Q = ni_T d 87 19 [a0, a1, a2, a3, a4, a5] st z h Q := ni_T_p rfl rfl
theorem s87_13 : ni_T d 87 13 [.ref o, a1, a2, a3, a4, a5] st z h Q = ni_T d 87 14 [.ref o, a1, a2, a3, a4, a5] (.ref o :: st) z h Q := ni_T_p rfl rfl
theorem s87_14 : ni_T d 87 14 [a0, a1, a2, a3, a4, a5] st z h Q = ni_T d 87 15 [a0, a1, a2, a3, a4, a5] (.int (-1) :: st) z h Q := ni_T_p rfl rfl
theorem s87_15 : ni_T (d + 1) 87 15 [a0, a1, a2, a3, a4, a5] (.int x0 :: .ref o :: st) z h Q = (ni_rc (h o) 6 = true ∧ Nat.ble (ni_sw st) 8 = true ∧ ni_T d 105 0 [.ref o, .int x0] [] z h (ni_K (d + 1) 87 18 [a0, a1, a2, a3, a4, a5] st z Q)) := ni_T_ce [.ref o, .int x0] rfl rfl rfl rfl rfl rfl rfl rfl rfl
theorem s87_18 : ni_T d 87 18 [a0, a1, a2, a3, a4, a5] [.int x] z h Q = Q (some (.int x)) z h := ni_T_i rfl rfl
theorem s87_19 : ni_T d 87 19 [.ref o, a1, a2, a3, a4, a5] st z h Q = ni_T d 87 20 [.ref o, a1, a2, a3, a4, a5] (.ref o :: st) z h Q := ni_T_p rfl rfl
theorem s87_20 : ni_T d 87 20 [a0, a1, a2, a3, a4, a5] (.ref o :: st) z h Q = (ni_is (h o) 6 4 = true ∧ ni_T d 87 23 [a0, a1, a2, a3, a4, a5] (ni_gv (h o) 4 :: st) z h Q) := ni_T_getf rfl
theorem s87_23 : ni_T d 87 23 [.ref o, a1, a2, a3, a4, a5] st z h Q = ni_T d 87 24 [.ref o, a1, a2, a3, a4, a5] (.ref o :: st) z h Q := ni_T_p rfl rfl
theorem s87_24 : ni_T d 87 24 [a0, a1, a2, a3, a4, a5] (.ref o :: st) z h Q = (ni_is (h o) 6 1 = true ∧ ni_T d 87 27 [a0, a1, a2, a3, a4, a5] (ni_gv (h o) 1 :: st) z h Q) := ni_T_getf rfl
theorem s87_27 : ni_T (d + 1) 87 27 [a0, a1, a2, a3, a4, a5] (.ref o20 :: .ref o :: st) z h Q = (ni_rc (h o) 2 = true ∧ Nat.ble (ni_sw st) 8 = true ∧ ni_T d 16 0 [.ref o, .ref o20, .retAddr 0, .retAddr 0] [] z h (ni_K (d + 1) 87 30 [a0, a1, a2, a3, a4, a5] st z Q)) := ni_T_ce [.ref o, .ref o20] rfl rfl rfl rfl rfl rfl rfl rfl rfl
theorem s87_27N0 : ni_T (d + 1) 87 27 [a0, a1, a2, a3, a4, a5] (.null :: .ref o :: st) z h Q = (ni_rc (h o) 2 = true ∧ Nat.ble (ni_sw st) 8 = true ∧ ni_T d 16 0 [.ref o, .null, .retAddr 0, .retAddr 0] [] z h (ni_K (d + 1) 87 30 [a0, a1, a2, a3, a4, a5] st z Q)) := ni_T_ce [.ref o, .null] rfl rfl rfl rfl rfl rfl rfl rfl rfl
theorem s87_30 : ni_T d 87 30 [a0, a1, a2, a3, a4, a5] st z h Q = ni_T d 87 31 [a0, a1, a2, a3, a4, a5] (.int 1 :: st) z h Q := ni_T_p rfl rfl
theorem s87_31 : ni_T d 87 31 [a0, a1, a2, a3, a4, a5] (.int x :: st) z h Q = ni_T d 87 32 [a0, a1, ni_kl a2, .int x, a4, a5] st z h Q := ni_T_p rfl rfl
theorem s87_32 : ni_T d 87 32 [a0, a1, a2, a3, a4, a5] st z h Q = ni_T d 87 33 [a0, a1, a2, a3, a4, a5] (.int (-1) :: st) z h Q := ni_T_p rfl rfl
theorem s87_33 : ni_T d 87 33 [a0, a1, a2, a3, a4, a5] (.int x :: st) z h Q = ni_T d 87 35 [a0, a1, a2, ni_kl a3, .int x, a5] st z h Q := ni_T_p rfl rfl
theorem s87_35 : ni_T d 87 35 [a0, a1, a2, a3, a4, a5] st z h Q = ni_T d 87 36 [a0, a1, a2, a3, a4, a5] (.int 1 :: st) z h Q := ni_T_p rfl rfl
theorem s87_36 : ni_T d 87 36 [a0, a1, a2, a3, a4, a5] (.int x :: st) z h Q = ni_T d 87 38 [a0, a1, a2, a3, ni_kl a4, .int x] st z h Q := ni_T_p rfl rfl
theorem s87_38 : ni_T d 87 38 [a0, a1, a2, a3, a4, .int x] st z h Q = ni_T d 87 40 [a0, a1, a2, a3, a4, .int x] (.int x :: st) z h Q := ni_T_p rfl rfl
theorem s87_40 : ni_T d 87 40 [a0, a1, a2, a3, a4, a5] st z h Q = ni_T d 87 41 [a0, a1, a2, a3, a4, a5] (.int 4 :: st) z h Q := ni_T_p rfl rfl
theorem s87_41 : ni_T d 87 41 [a0, a1, a2, a3, a4, a5] (.int y :: .int x :: st) z h Q = if y < x then ni_T d 87 100 [a0, a1, a2, a3, a4, a5] st z h Q else ni_T d 87 44 [a0, a1, a2, a3, a4, a5] st z h Q := ni_T_b rfl rfl
theorem s87_44 : ni_T d 87 44 [.ref o, a1, a2, a3, a4, a5] st z h Q = ni_T d 87 45 [.ref o, a1, a2, a3, a4, a5] (.ref o :: st) z h Q := ni_T_p rfl rfl
theorem s87_45 : ni_T d 87 45 [a0, a1, a2, a3, a4, a5] (.ref o :: st) z h Q = (ni_is (h o) 6 4 = true ∧ ni_T d 87 48 [a0, a1, a2, a3, a4, a5] (ni_gv (h o) 4 :: st) z h Q) := ni_T_getf rfl
theorem s87_48 : ni_T d 87 48 [a0, a1, .ref o, a3, a4, a5] st z h Q = ni_T d 87 49 [a0, a1, .ref o, a3, a4, a5] (.ref o :: st) z h Q := ni_T_p rfl rfl
theorem s87_48N : ni_T d 87 48 [a0, a1, .null, a3, a4, a5] st z h Q = ni_T d 87 49 [a0, a1, .null, a3, a4, a5] (.null :: st) z h Q := ni_T_p rfl rfl
theorem s87_49 : ni_T d 87 49 [a0, a1, a2, a3, a4, .int x] st z h Q = ni_T d 87 51 [a0, a1, a2, a3, a4, .int x] (.int x :: st) z h Q := ni_T_p rfl rfl
theorem s87_51 : ni_T (d + 1) 87 51 [a0, a1, a2, a3, a4, a5] (.int x1 :: .ref o20 :: .ref o :: st) z h Q = (ni_rc (h o) 2 = true ∧ Nat.ble (ni_sw st) 8 = true ∧ ni_T d 23 0 [.ref o, .ref o20, .int x1, .retAddr 0] [] z h (ni_K (d + 1) 87 54 [a0, a1, a2, a3, a4, a5] st z Q)) := ni_T_ce [.ref o, .ref o20, .int x1] rfl rfl rfl rfl rfl rfl rfl rfl rfl
theorem s87_51N0 : ni_T (d + 1) 87 51 [a0, a1, a2, a3, a4, a5] (.int x1 :: .null :: .ref o :: st) z h Q = (ni_rc (h o) 2 = true ∧ Nat.ble (ni_sw st) 8 = true ∧ ni_T d 23 0 [.ref o, .null, .int x1, .retAddr 0] [] z h (ni_K (d + 1) 87 54 [a0, a1, a2, a3, a4, a5] st z Q)) := ni_T_ce [.ref o, .null, .int x1] rfl rfl rfl rfl rfl rfl rfl rfl rfl
theorem s87_54 : ni_T d 87 54 [.ref o, a1, a2, a3, a4, a5] st z h Q = ni_T d 87 55 [.ref o, a1, a2, a3, a4, a5] (.ref o :: st) z h Q := ni_T_p rfl rfl
theorem s87_55 : ni_T d 87 55 [a0, a1, a2, a3, a4, a5] (.ref o :: st) z h Q = (ni_is (h o) 6 4 = true ∧ ni_T d 87 58 [a0, a1, a2, a3, a4, a5] (ni_gv (h o) 4 :: st) z h Q) := ni_T_getf rfl
theorem s87_58 : ni_T d 87 58 [a0, a1, a2, a3, a4, a5] (.ref o :: st) z h Q = (ni_is (h o) 2 1 = true ∧ ni_T d 87 61 [a0, a1, a2, a3, a4, a5] (ni_gv (h o) 1 :: st) z h Q) := ni_T_getf rfl
theorem s87_61 : ni_T d 87 61 [.ref o, a1, a2, a3, a4, a5] st z h Q = ni_T d 87 62 [.ref o, a1, a2, a3, a4, a5] (.ref o :: st) z h Q := ni_T_p rfl rfl
theorem s87_62 : ni_T d 87 62 [a0, a1, a2, a3, a4, a5] (.ref o :: st) z h Q = (ni_is (h o) 6 4 = true ∧ ni_T d 87 65 [a0, a1, a2, a3, a4, a5] (ni_gv (h o) 4 :: st) z h Q) := ni_T_getf rfl
theorem s87_65 : ni_T d 87 65 [a0, a1, a2, a3, a4, a5] (.ref o :: st) z h Q = (ni_is (h o) 2 5 = true ∧ ni_T d 87 68 [a0, a1, a2, a3, a4, a5] (ni_gv (h o) 5 :: st) z h Q) := ni_T_getf rfl
theorem s87_68 : ni_T d 87 68 [a0, a1, a2, a3, a4, a5] (.int x :: .ref o :: st) z h Q = (ni_okI (h o) x = true ∧ ni_T d 87 69 [a0, a1, a2, a3, a4, a5] (.int (ni_gi (h o) x) :: st) z h Q) := ni_T_iald rfl
theorem s87_69 : ni_T d 87 69 [a0, a1, a2, a3, .int x, a5] st z h Q = ni_T d 87 71 [a0, a1, a2, a3, .int x, a5] (.int x :: st) z h Q := ni_T_p rfl rfl
theorem s87_71 : ni_T d 87 71 [a0, a1, a2, a3, a4, a5] (.int y :: .int x :: st) z h Q = if x ≤ y then ni_T d 87 94 [a0, a1, a2, a3, a4, a5] st z h Q else ni_T d 87 74 [a0, a1, a2, a3, a4, a5] st z h Q := ni_T_b rfl rfl
theorem s87_74 : ni_T d 87 74 [.ref o, a1, a2, a3, a4, a5] st z h Q = ni_T d 87 75 [.ref o, a1, a2, a3, a4, a5] (.ref o :: st) z h Q := ni_T_p rfl rfl
theorem s87_75 : ni_T d 87 75 [a0, a1, a2, a3, a4, a5] (.ref o :: st) z h Q = (ni_is (h o) 6 4 = true ∧ ni_T d 87 78 [a0, a1, a2, a3, a4, a5] (ni_gv (h o) 4 :: st) z h Q) := ni_T_getf rfl
theorem s87_78 : ni_T d 87 78 [a0, a1, a2, a3, a4, a5] (.ref o :: st) z h Q = (ni_is (h o) 2 1 = true ∧ ni_T d 87 81 [a0, a1, a2, a3, a4, a5] (ni_gv (h o) 1 :: st) z h Q) := ni_T_getf rfl
theorem s87_81 : ni_T d 87 81 [.ref o, a1, a2, a3, a4, a5] st z h Q = ni_T d 87 82 [.ref o, a1, a2, a3, a4, a5] (.ref o :: st) z h Q := ni_T_p rfl rfl
theorem s87_82 : ni_T d 87 82 [a0, a1, a2, a3, a4, a5] (.ref o :: st) z h Q = (ni_is (h o) 6 4 = true ∧ ni_T d 87 85 [a0, a1, a2, a3, a4, a5] (ni_gv (h o) 4 :: st) z h Q) := ni_T_getf rfl
theorem s87_85 : ni_T d 87 85 [a0, a1, a2, a3, a4, a5] (.ref o :: st) z h Q = (ni_is (h o) 2 5 = true ∧ ni_T d 87 88 [a0, a1, a2, a3, a4, a5] (ni_gv (h o) 5 :: st) z h Q) := ni_T_getf rfl
theorem s87_88 : ni_T d 87 88 [a0, a1, a2, a3, a4, a5] (.int x :: .ref o :: st) z h Q = (ni_okI (h o) x = true ∧ ni_T d 87 89 [a0, a1, a2, a3, a4, a5] (.int (ni_gi (h o) x) :: st) z h Q) := ni_T_iald rfl
theorem s87_89 : ni_T d 87 89 [a0, a1, a2, a3, a4, a5] (.int x :: st) z h Q = ni_T d 87 91 [a0, a1, a2, ni_kl a3, .int x, a5] st z h Q := ni_T_p rfl rfl
theorem s87_91 : ni_T d 87 91 [a0, a1, a2, a3, a4, .int x] st z h Q = ni_T d 87 93 [a0, a1, a2, a3, a4, .int x] (.int x :: st) z h Q := ni_T_p rfl rfl
theorem s87_93 : ni_T d 87 93 [a0, a1, a2, a3, a4, a5] (.int x :: st) z h Q = ni_T d 87 94 [a0, a1, ni_kl a2, .int x, a4, a5] st z h Q := ni_T_p rfl rfl
theorem s87_94 : ni_T d 87 94 [a0, a1, a2, a3, a4, .int x] st z h Q = ni_T d 87 97 [a0, a1, a2, a3, ni_kl a4, .int (x + 1)] st z h Q := ni_T_p rfl rfl
theorem s87_97 : ni_T d 87 97 [a0, a1, a2, a3, a4, a5] st z h Q = ni_T d 87 38 [a0, a1, a2, a3, a4, a5] st z h Q := ni_T_p rfl rfl
theorem s87_100 : ni_T d 87 100 [a0, a1, a2, .int x, a4, a5] st z h Q = ni_T d 87 101 [a0, a1, a2, .int x, a4, a5] (.int x :: st) z h Q := ni_T_p rfl rfl
theorem s87_101 : ni_T d 87 101 [a0, a1, a2, a3, a4, a5] [.int x] z h Q = Q (some (.int x)) z h := ni_T_i rfl rfl
theorem s88_0 : ni_T d 88 0 [.ref o, a1, a2, a3, a4] st z h Q = ni_T d 88 1 [.ref o, a1, a2, a3, a4] (.ref o :: st) z h Q := ni_T_p rfl rfl
theorem s88_1 : ni_T d 88 1 [a0, a1, a2, a3, a4] (.ref o :: st) z h Q = (ni_is (h o) 6 1 = true ∧ ni_T d 88 4 [a0, a1, a2, a3, a4] (ni_gv (h o) 1 :: st) z h Q) := ni_T_getf rfl
theorem s88_4 : ni_T d 88 4 [a0, a1, a2, a3, a4] (.ref o :: st) z h Q = (ni_is (h o) 5 2 = true ∧ ni_T d 88 7 [a0, a1, a2, a3, a4] (ni_gv (h o) 2 :: st) z h Q) := ni_T_getf rfl
theorem s88_7 : ni_T d 88 7 [a0, a1, a2, a3, a4] (.int x :: st) z h Q = if x = 0 then ni_T d 88 10 [a0, a1, a2, a3, a4] st z h Q else ni_T d 88 17 [a0, a1, a2, a3, a4] st z h Q := ni_T_b rfl rfl
theorem s88_10 : ni_T d 88 10 [.ref o, a1, a2, a3, a4] st z h Q = ni_T d 88 11 [.ref o, a1, a2, a3, a4] (.ref o :: st) z h Q := ni_T_p rfl rfl
theorem s88_11 : ni_T d 88 11 [a0, a1, a2, a3, a4] st z h Q = ni_T d 88 13 [a0, a1, a2, a3, a4] (.int (-5) :: st) z h Q := ni_T_p rfl rfl
theorem s88_13 : ni_T (d + 1) 88 13 [a0, a1, a2, a3, a4] (.int x0 :: .ref o :: st) z h Q = (ni_rc (h o) 6 = true ∧ Nat.ble (ni_sw st) 8 = true ∧ ni_T d 105 0 [.ref o, .int x0] [] z h (ni_K (d + 1) 88 16 [a0, a1, a2, a3, a4] st z Q)) := ni_T_ce [.ref o, .int x0] rfl rfl rfl rfl rfl rfl rfl rfl rfl
theorem s88_16 : ni_T d 88 16 [a0, a1, a2, a3, a4] [.int x] z h Q = Q (some (.int x)) z h := ni_T_i rfl rfl
theorem s88_17 : ni_T d 88 17 [a0, .int x, a2, a3, a4] st z h Q = ni_T d 88 18 [a0, .int x, a2, a3, a4] (.int x :: st) z h Q := ni_T_p rfl rfl
theorem s88_18 : ni_T (d + 1) 88 18 [a0, a1, a2, a3, a4] (.int x0 :: st) z h Q = (Nat.ble (ni_sw st) 8 = true ∧ ni_T d 108 0 [.int x0] [] z h (ni_K (d + 1) 88 21 [a0, a1, a2, a3, a4] st z Q)) := ni_T_cse [.int x0] rfl rfl rfl rfl rfl rfl rfl rfl rfl
theorem s88_21 : ni_T d 88 21 [a0, a1, a2, a3, a4] (.int x :: st) z h Q = if x = 0 then ni_T d 88 24 [a0, a1, a2, a3, a4] st z h Q else ni_T d 88 31 [a0, a1, a2, a3, a4] st z h Q := ni_T_b rfl rfl
theorem s88_24 : ni_T d 88 24 [.ref o, a1, a2, a3, a4] st z h Q = ni_T d 88 25 [.ref o, a1, a2, a3, a4] (.ref o :: st) z h Q := ni_T_p rfl rfl
theorem s88_25 : ni_T d 88 25 [a0, a1, a2, a3, a4] st z h Q = ni_T d 88 27 [a0, a1, a2, a3, a4] (.int (-6) :: st) z h Q := ni_T_p rfl rfl
theorem s88_27 : ni_T (d + 1) 88 27 [a0, a1, a2, a3, a4] (.int x0 :: .ref o :: st) z h Q = (ni_rc (h o) 6 = true ∧ Nat.ble (ni_sw st) 8 = true ∧ ni_T d 105 0 [.ref o, .int x0] [] z h (ni_K (d + 1) 88 30 [a0, a1, a2, a3, a4] st z Q)) := ni_T_ce [.ref o, .int x0] rfl rfl rfl rfl rfl rfl rfl rfl rfl
theorem s88_30 : ni_T d 88 30 [a0, a1, a2, a3, a4] [.int x] z h Q = Q (some (.int x)) z h := ni_T_i rfl rfl
theorem s88_31 : ni_T d 88 31 [.ref o, a1, a2, a3, a4] st z h Q = ni_T d 88 32 [.ref o, a1, a2, a3, a4] (.ref o :: st) z h Q := ni_T_p rfl rfl
theorem s88_32 : ni_T d 88 32 [a0, a1, a2, a3, a4] (.ref o :: st) z h Q = (ni_is (h o) 6 4 = true ∧ ni_T d 88 35 [a0, a1, a2, a3, a4] (ni_gv (h o) 4 :: st) z h Q) := ni_T_getf rfl
theorem s88_35 : ni_T d 88 35 [.ref o, a1, a2, a3, a4] st z h Q = ni_T d 88 36 [.ref o, a1, a2, a3, a4] (.ref o :: st) z h Q := ni_T_p rfl rfl
theorem s88_36 : ni_T d 88 36 [a0, a1, a2, a3, a4] (.ref o :: st) z h Q = (ni_is (h o) 6 1 = true ∧ ni_T d 88 39 [a0, a1, a2, a3, a4] (ni_gv (h o) 1 :: st) z h Q) := ni_T_getf rfl
theorem s88_39 : ni_T (d + 1) 88 39 [a0, a1, a2, a3, a4] (.ref o20 :: .ref o :: st) z h Q = (ni_rc (h o) 2 = true ∧ Nat.ble (ni_sw st) 8 = true ∧ ni_T d 16 0 [.ref o, .ref o20, .retAddr 0, .retAddr 0] [] z h (ni_K (d + 1) 88 42 [a0, a1, a2, a3, a4] st z Q)) := ni_T_ce [.ref o, .ref o20] rfl rfl rfl rfl rfl rfl rfl rfl rfl
theorem s88_39N0 : ni_T (d + 1) 88 39 [a0, a1, a2, a3, a4] (.null :: .ref o :: st) z h Q = (ni_rc (h o) 2 = true ∧ Nat.ble (ni_sw st) 8 = true ∧ ni_T d 16 0 [.ref o, .null, .retAddr 0, .retAddr 0] [] z h (ni_K (d + 1) 88 42 [a0, a1, a2, a3, a4] st z Q)) := ni_T_ce [.ref o, .null] rfl rfl rfl rfl rfl rfl rfl rfl rfl
theorem s88_42 : ni_T d 88 42 [a0, a1, a2, a3, a4] st z h Q = ni_T d 88 43 [a0, a1, a2, a3, a4] (.int 0 :: st) z h Q := ni_T_p rfl rfl
theorem s88_43 : ni_T d 88 43 [a0, a1, a2, a3, a4] (.int x :: st) z h Q = ni_T d 88 44 [a0, ni_kl a1, .int x, a3, a4] st z h Q := ni_T_p rfl rfl
theorem s88_44 : ni_T d 88 44 [a0, a1, a2, a3, a4] st z h Q = ni_T d 88 45 [a0, a1, a2, a3, a4] (.int (-1) :: st) z h Q := ni_T_p rfl rfl
theorem s88_45 : ni_T d 88 45 [a0, a1, a2, a3, a4] (.int x :: st) z h Q = ni_T d 88 46 [a0, a1, ni_kl a2, .int x, a4] st z h Q := ni_T_p rfl rfl
theorem s88_46 : ni_T d 88 46 [a0, a1, a2, a3, a4] st z h Q = ni_T d 88 47 [a0, a1, a2, a3, a4] (.int 0 :: st) z h Q := ni_T_p rfl rfl
theorem s88_47 : ni_T d 88 47 [a0, a1, a2, a3, a4] (.int x :: st) z h Q = ni_T d 88 49 [a0, a1, a2, ni_kl a3, .int x] st z h Q := ni_T_p rfl rfl
theorem s88_49 : ni_T d 88 49 [a0, a1, a2, a3, .int x] st z h Q = ni_T d 88 51 [a0, a1, a2, a3, .int x] (.int x :: st) z h Q := ni_T_p rfl rfl
theorem s88_51 : ni_T d 88 51 [.ref o, a1, a2, a3, a4] st z h Q = ni_T d 88 52 [.ref o, a1, a2, a3, a4] (.ref o :: st) z h Q := ni_T_p rfl rfl
theorem s88_52 : ni_T d 88 52 [a0, a1, a2, a3, a4] (.ref o :: st) z h Q = (ni_is (h o) 6 1 = true ∧ ni_T d 88 55 [a0, a1, a2, a3, a4] (ni_gv (h o) 1 :: st) z h Q) := ni_T_getf rfl
theorem s88_55 : ni_T d 88 55 [a0, a1, a2, a3, a4] (.ref o :: st) z h Q = (ni_is (h o) 5 2 = true ∧ ni_T d 88 58 [a0, a1, a2, a3, a4] (ni_gv (h o) 2 :: st) z h Q) := ni_T_getf rfl
theorem s88_58 : ni_T d 88 58 [a0, a1, a2, a3, a4] (.int y :: .int x :: st) z h Q = if y ≤ x then ni_T d 88 129 [a0, a1, a2, a3, a4] st z h Q else ni_T d 88 61 [a0, a1, a2, a3, a4] st z h Q := ni_T_b rfl rfl
theorem s88_61 : ni_T d 88 61 [a0, a1, a2, a3, .int x] st z h Q = ni_T d 88 63 [a0, a1, a2, a3, .int x] (.int x :: st) z h Q := ni_T_p rfl rfl
theorem s88_63 : ni_T d 88 63 [a0, a1, a2, a3, a4] st z h Q = ni_T d 88 64 [a0, a1, a2, a3, a4] (.int 4 :: st) z h Q := ni_T_p rfl rfl
theorem s88_64 : ni_T d 88 64 [a0, a1, a2, a3, a4] (.int y :: .int x :: st) z h Q = if y ≤ x then ni_T d 88 129 [a0, a1, a2, a3, a4] st z h Q else ni_T d 88 67 [a0, a1, a2, a3, a4] st z h Q := ni_T_b rfl rfl
theorem s88_67 : ni_T d 88 67 [.ref o, a1, a2, a3, a4] st z h Q = ni_T d 88 68 [.ref o, a1, a2, a3, a4] (.ref o :: st) z h Q := ni_T_p rfl rfl
theorem s88_68 : ni_T d 88 68 [a0, a1, a2, a3, a4] (.ref o :: st) z h Q = (ni_is (h o) 6 4 = true ∧ ni_T d 88 71 [a0, a1, a2, a3, a4] (ni_gv (h o) 4 :: st) z h Q) := ni_T_getf rfl
theorem s88_71 : ni_T d 88 71 [.ref o, a1, a2, a3, a4] st z h Q = ni_T d 88 72 [.ref o, a1, a2, a3, a4] (.ref o :: st) z h Q := ni_T_p rfl rfl
theorem s88_72 : ni_T d 88 72 [a0, a1, a2, a3, a4] (.ref o :: st) z h Q = (ni_is (h o) 6 1 = true ∧ ni_T d 88 75 [a0, a1, a2, a3, a4] (ni_gv (h o) 1 :: st) z h Q) := ni_T_getf rfl
theorem s88_75 : ni_T d 88 75 [a0, a1, a2, a3, a4] (.ref o :: st) z h Q = (ni_is (h o) 5 1 = true ∧ ni_T d 88 78 [a0, a1, a2, a3, a4] (ni_gv (h o) 1 :: st) z h Q) := ni_T_getf rfl
theorem s88_78 : ni_T d 88 78 [a0, a1, a2, a3, .int x] st z h Q = ni_T d 88 80 [a0, a1, a2, a3, .int x] (.int x :: st) z h Q := ni_T_p rfl rfl
theorem s88_80 : ni_T d 88 80 [a0, a1, a2, a3, a4] (.int x :: .ref o :: st) z h Q = (ni_okA (h o) x = true ∧ ni_T d 88 81 [a0, a1, a2, a3, a4] (ni_ga (h o) x :: st) z h Q) := ni_T_aald rfl
theorem s88_81 : ni_T d 88 81 [a0, .int x, a2, a3, a4] st z h Q = ni_T d 88 82 [a0, .int x, a2, a3, a4] (.int x :: st) z h Q := ni_T_p rfl rfl
theorem s88_82 : ni_T (d + 1) 88 82 [a0, a1, a2, a3, a4] (.int x1 :: .ref o20 :: .ref o :: st) z h Q = (ni_rc (h o) 2 = true ∧ Nat.ble (ni_sw st) 8 = true ∧ ni_T d 23 0 [.ref o, .ref o20, .int x1, .retAddr 0] [] z h (ni_K (d + 1) 88 85 [a0, a1, a2, a3, a4] st z Q)) := ni_T_ce [.ref o, .ref o20, .int x1] rfl rfl rfl rfl rfl rfl rfl rfl rfl
theorem s88_82N0 : ni_T (d + 1) 88 82 [a0, a1, a2, a3, a4] (.int x1 :: .null :: .ref o :: st) z h Q = (ni_rc (h o) 2 = true ∧ Nat.ble (ni_sw st) 8 = true ∧ ni_T d 23 0 [.ref o, .null, .int x1, .retAddr 0] [] z h (ni_K (d + 1) 88 85 [a0, a1, a2, a3, a4] st z Q)) := ni_T_ce [.ref o, .null, .int x1] rfl rfl rfl rfl rfl rfl rfl rfl rfl
theorem s88_85 : ni_T d 88 85 [.ref o, a1, a2, a3, a4] st z h Q = ni_T d 88 86 [.ref o, a1, a2, a3, a4] (.ref o :: st) z h Q := ni_T_p rfl rfl
theorem s88_86 : ni_T d 88 86 [a0, a1, a2, a3, a4] (.ref o :: st) z h Q = (ni_is (h o) 6 4 = true ∧ ni_T d 88 89 [a0, a1, a2, a3, a4] (ni_gv (h o) 4 :: st) z h Q) := ni_T_getf rfl
theorem s88_89 : ni_T d 88 89 [a0, a1, a2, a3, a4] (.ref o :: st) z h Q = (ni_is (h o) 2 1 = true ∧ ni_T d 88 92 [a0, a1, a2, a3, a4] (ni_gv (h o) 1 :: st) z h Q) := ni_T_getf rfl
theorem s88_92 : ni_T d 88 92 [.ref o, a1, a2, a3, a4] st z h Q = ni_T d 88 93 [.ref o, a1, a2, a3, a4] (.ref o :: st) z h Q := ni_T_p rfl rfl
theorem s88_93 : ni_T d 88 93 [a0, a1, a2, a3, a4] (.ref o :: st) z h Q = (ni_is (h o) 6 4 = true ∧ ni_T d 88 96 [a0, a1, a2, a3, a4] (ni_gv (h o) 4 :: st) z h Q) := ni_T_getf rfl
theorem s88_96 : ni_T d 88 96 [a0, a1, a2, a3, a4] (.ref o :: st) z h Q = (ni_is (h o) 2 5 = true ∧ ni_T d 88 99 [a0, a1, a2, a3, a4] (ni_gv (h o) 5 :: st) z h Q) := ni_T_getf rfl
theorem s88_99 : ni_T d 88 99 [a0, a1, a2, a3, a4] (.int x :: .ref o :: st) z h Q = (ni_okI (h o) x = true ∧ ni_T d 88 100 [a0, a1, a2, a3, a4] (.int (ni_gi (h o) x) :: st) z h Q) := ni_T_iald rfl
theorem s88_100 : ni_T d 88 100 [a0, a1, a2, .int x, a4] st z h Q = ni_T d 88 101 [a0, a1, a2, .int x, a4] (.int x :: st) z h Q := ni_T_p rfl rfl
theorem s88_101 : ni_T d 88 101 [a0, a1, a2, a3, a4] (.int y :: .int x :: st) z h Q = if x ≤ y then ni_T d 88 123 [a0, a1, a2, a3, a4] st z h Q else ni_T d 88 104 [a0, a1, a2, a3, a4] st z h Q := ni_T_b rfl rfl
theorem s88_104 : ni_T d 88 104 [.ref o, a1, a2, a3, a4] st z h Q = ni_T d 88 105 [.ref o, a1, a2, a3, a4] (.ref o :: st) z h Q := ni_T_p rfl rfl
theorem s88_105 : ni_T d 88 105 [a0, a1, a2, a3, a4] (.ref o :: st) z h Q = (ni_is (h o) 6 4 = true ∧ ni_T d 88 108 [a0, a1, a2, a3, a4] (ni_gv (h o) 4 :: st) z h Q) := ni_T_getf rfl
theorem s88_108 : ni_T d 88 108 [a0, a1, a2, a3, a4] (.ref o :: st) z h Q = (ni_is (h o) 2 1 = true ∧ ni_T d 88 111 [a0, a1, a2, a3, a4] (ni_gv (h o) 1 :: st) z h Q) := ni_T_getf rfl
theorem s88_111 : ni_T d 88 111 [.ref o, a1, a2, a3, a4] st z h Q = ni_T d 88 112 [.ref o, a1, a2, a3, a4] (.ref o :: st) z h Q := ni_T_p rfl rfl
theorem s88_112 : ni_T d 88 112 [a0, a1, a2, a3, a4] (.ref o :: st) z h Q = (ni_is (h o) 6 4 = true ∧ ni_T d 88 115 [a0, a1, a2, a3, a4] (ni_gv (h o) 4 :: st) z h Q) := ni_T_getf rfl
theorem s88_115 : ni_T d 88 115 [a0, a1, a2, a3, a4] (.ref o :: st) z h Q = (ni_is (h o) 2 5 = true ∧ ni_T d 88 118 [a0, a1, a2, a3, a4] (ni_gv (h o) 5 :: st) z h Q) := ni_T_getf rfl
theorem s88_118 : ni_T d 88 118 [a0, a1, a2, a3, a4] (.int x :: .ref o :: st) z h Q = (ni_okI (h o) x = true ∧ ni_T d 88 119 [a0, a1, a2, a3, a4] (.int (ni_gi (h o) x) :: st) z h Q) := ni_T_iald rfl
theorem s88_119 : ni_T d 88 119 [a0, a1, a2, a3, a4] (.int x :: st) z h Q = ni_T d 88 120 [a0, a1, ni_kl a2, .int x, a4] st z h Q := ni_T_p rfl rfl
theorem s88_120 : ni_T d 88 120 [a0, a1, a2, a3, .int x] st z h Q = ni_T d 88 122 [a0, a1, a2, a3, .int x] (.int x :: st) z h Q := ni_T_p rfl rfl
theorem s88_122 : ni_T d 88 122 [a0, a1, a2, a3, a4] (.int x :: st) z h Q = ni_T d 88 123 [a0, ni_kl a1, .int x, a3, a4] st z h Q := ni_T_p rfl rfl
theorem s88_123 : ni_T d 88 123 [a0, a1, a2, a3, .int x] st z h Q = ni_T d 88 126 [a0, a1, a2, ni_kl a3, .int (x + 1)] st z h Q := ni_T_p rfl rfl
theorem s88_126 : ni_T d 88 126 [a0, a1, a2, a3, a4] st z h Q = ni_T d 88 49 [a0, a1, a2, a3, a4] st z h Q := ni_T_p rfl rfl
theorem s88_129 : ni_T d 88 129 [a0, a1, .int x, a3, a4] st z h Q = ni_T d 88 130 [a0, a1, .int x, a3, a4] (.int x :: st) z h Q := ni_T_p rfl rfl
theorem s88_130 : ni_T d 88 130 [a0, a1, a2, a3, a4] [.int x] z h Q = Q (some (.int x)) z h := ni_T_i rfl rfl
theorem s89_0 : ni_T d 89 0 [.ref o, a1, a2, a3, a4, a5, a6] st z h Q = ni_T d 89 1 [.ref o, a1, a2, a3, a4, a5, a6] (.ref o :: st) z h Q := ni_T_p rfl rfl
theorem s89_1 : ni_T d 89 1 [a0, a1, a2, a3, a4, a5, a6] (.ref o :: st) z h Q = (ni_is (h o) 6 1 = true ∧ ni_T d 89 4 [a0, a1, a2, a3, a4, a5, a6] (ni_gv (h o) 1 :: st) z h Q) := ni_T_getf rfl
theorem s89_4 : ni_T d 89 4 [a0, .int x, a2, a3, a4, a5, a6] st z h Q = ni_T d 89 5 [a0, .int x, a2, a3, a4, a5, a6] (.int x :: st) z h Q := ni_T_p rfl rfl
theorem s89_5 : ni_T (d + 1) 89 5 [a0, a1, a2, a3, a4, a5, a6] (.int x0 :: .ref o :: st) z h Q = (ni_rc (h o) 5 = true ∧ Nat.ble (ni_sw st) 8 = true ∧ ni_T d 48 0 [.ref o, .int x0] [] z h (ni_K (d + 1) 89 8 [a0, a1, a2, a3, a4, a5, a6] st z Q)) := ni_T_ce [.ref o, .int x0] rfl rfl rfl rfl rfl rfl rfl rfl rfl
theorem s89_8 : ni_T d 89 8 [a0, a1, a2, a3, a4, a5, a6] (.ref o :: st) z h Q = ni_T d 89 9 [a0, ni_kl a1, .ref o, a3, a4, a5, a6] st z h Q := ni_T_p rfl rfl
theorem s89_8N : ni_T d 89 8 [a0, a1, a2, a3, a4, a5, a6] (.null :: st) z h Q = ni_T d 89 9 [a0, ni_kl a1, .null, a3, a4, a5, a6] st z h Q := ni_T_p rfl rfl
theorem s89_9 : ni_T d 89 9 [a0, a1, .ref o, a3, a4, a5, a6] st z h Q = ni_T d 89 10 [a0, a1, .ref o, a3, a4, a5, a6] (.ref o :: st) z h Q := ni_T_p rfl rfl
theorem s89_9N : ni_T d 89 9 [a0, a1, .null, a3, a4, a5, a6] st z h Q = ni_T d 89 10 [a0, a1, .null, a3, a4, a5, a6] (.null :: st) z h Q := ni_T_p rfl rfl
theorem s89_10N : ni_T d 89 10 [a0, a1, a2, a3, a4, a5, a6] (.null :: st) z h Q = ni_T d 89 13 [a0, a1, a2, a3, a4, a5, a6] st z h Q := ni_T_p rfl rfl
theorem s89_10 : ni_T d 89 10 [a0, a1, a2, a3, a4, a5, a6] (.ref o :: st) z h Q = ni_T d 89 19 [a0, a1, a2, a3, a4, a5, a6] st z h Q := ni_T_p rfl rfl
theorem s89_13 : ni_T d 89 13 [.ref o, a1, a2, a3, a4, a5, a6] st z h Q = ni_T d 89 14 [.ref o, a1, a2, a3, a4, a5, a6] (.ref o :: st) z h Q := ni_T_p rfl rfl
theorem s89_14 : ni_T d 89 14 [a0, a1, a2, a3, a4, a5, a6] st z h Q = ni_T d 89 15 [a0, a1, a2, a3, a4, a5, a6] (.int (-1) :: st) z h Q := ni_T_p rfl rfl
theorem s89_15 : ni_T (d + 1) 89 15 [a0, a1, a2, a3, a4, a5, a6] (.int x0 :: .ref o :: st) z h Q = (ni_rc (h o) 6 = true ∧ Nat.ble (ni_sw st) 8 = true ∧ ni_T d 105 0 [.ref o, .int x0] [] z h (ni_K (d + 1) 89 18 [a0, a1, a2, a3, a4, a5, a6] st z Q)) := ni_T_ce [.ref o, .int x0] rfl rfl rfl rfl rfl rfl rfl rfl rfl
theorem s89_18 : ni_T d 89 18 [a0, a1, a2, a3, a4, a5, a6] [.int x] z h Q = Q (some (.int x)) z h := ni_T_i rfl rfl
theorem s89_19 : ni_T d 89 19 [a0, a1, a2, a3, a4, a5, a6] st z h Q = ni_T d 89 20 [a0, a1, a2, a3, a4, a5, a6] (.int 0 :: st) z h Q := ni_T_p rfl rfl
theorem s89_20 : ni_T d 89 20 [a0, a1, a2, a3, a4, a5, a6] (.int x :: st) z h Q = ni_T d 89 21 [a0, a1, ni_kl a2, .int x, a4, a5, a6] st z h Q := ni_T_p rfl rfl
theorem s89_21 : ni_T d 89 21 [a0, a1, a2, a3, a4, a5, a6] st z h Q = ni_T d 89 22 [a0, a1, a2, a3, a4, a5, a6] (.int 0 :: st) z h Q := ni_T_p rfl rfl
theorem s89_22 : ni_T d 89 22 [a0, a1, a2, a3, a4, a5, a6] (.int x :: st) z h Q = ni_T d 89 24 [a0, a1, a2, ni_kl a3, .int x, a5, a6] st z h Q := ni_T_p rfl rfl
theorem s89_24 : ni_T d 89 24 [a0, a1, a2, a3, a4, a5, a6] st z h Q = ni_T d 89 25 [a0, a1, a2, a3, a4, a5, a6] (.int 1 :: st) z h Q := ni_T_p rfl rfl
theorem s89_25 : ni_T d 89 25 [a0, a1, a2, a3, a4, a5, a6] (.int x :: st) z h Q = ni_T d 89 27 [a0, a1, a2, a3, ni_kl a4, .int x, a6] st z h Q := ni_T_p rfl rfl
theorem s89_27 : ni_T d 89 27 [a0, a1, a2, a3, a4, .int x, a6] st z h Q = ni_T d 89 29 [a0, a1, a2, a3, a4, .int x, a6] (.int x :: st) z h Q := ni_T_p rfl rfl
theorem s89_29 : ni_T d 89 29 [a0, a1, a2, a3, a4, a5, a6] st z h Q = ni_T d 89 30 [a0, a1, a2, a3, a4, a5, a6] (.int 5 :: st) z h Q := ni_T_p rfl rfl
theorem s89_30 : ni_T d 89 30 [a0, a1, a2, a3, a4, a5, a6] (.int y :: .int x :: st) z h Q = if y < x then ni_T d 89 75 [a0, a1, a2, a3, a4, a5, a6] st z h Q else ni_T d 89 33 [a0, a1, a2, a3, a4, a5, a6] st z h Q := ni_T_b rfl rfl
theorem s89_33 : ni_T d 89 33 [a0, a1, a2, a3, a4, .int x, a6] st z h Q = ni_T d 89 35 [a0, a1, a2, a3, a4, .int x, a6] (.int x :: st) z h Q := ni_T_p rfl rfl
theorem s89_35 : ni_T d 89 35 [a0, a1, a2, a3, a4, a5, a6] st z h Q = ni_T d 89 36 [a0, a1, a2, a3, a4, a5, a6] (.int 0 :: st) z h Q := ni_T_p rfl rfl
theorem s89_36 : ni_T d 89 36 [a0, a1, a2, a3, a4, a5, a6] st z h Q = ni_T d 89 38 [a0, a1, a2, a3, a4, a5, a6] (.int 100 :: st) z h Q := ni_T_p rfl rfl
theorem s89_38 : ni_T d 89 38 [a0, a1, .ref o, a3, a4, a5, a6] st z h Q = ni_T d 89 39 [a0, a1, .ref o, a3, a4, a5, a6] (.ref o :: st) z h Q := ni_T_p rfl rfl
theorem s89_38N : ni_T d 89 38 [a0, a1, .null, a3, a4, a5, a6] st z h Q = ni_T d 89 39 [a0, a1, .null, a3, a4, a5, a6] (.null :: st) z h Q := ni_T_p rfl rfl
theorem s89_39 : ni_T (d + 1) 89 39 [a0, a1, a2, a3, a4, a5, a6] (.ref o :: st) z h Q = (ni_rc (h o) 1 = true ∧ Nat.ble (ni_sw st) 8 = true ∧ ni_T d 11 0 [.ref o] [] z h (ni_K (d + 1) 89 42 [a0, a1, a2, a3, a4, a5, a6] st z Q)) := ni_T_ce [.ref o] rfl rfl rfl rfl rfl rfl rfl rfl rfl
theorem s89_42 : ni_T d 89 42 [a0, a1, a2, a3, a4, .int x, a6] st z h Q = ni_T d 89 44 [a0, a1, a2, a3, a4, .int x, a6] (.int x :: st) z h Q := ni_T_p rfl rfl
theorem s89_44 : ni_T d 89 44 [a0, a1, a2, a3, a4, a5, a6] (.int y :: .int x :: st) z h Q = ni_T d 89 45 [a0, a1, a2, a3, a4, a5, a6] (.int (x * y) :: st) z h Q := ni_T_p rfl rfl
theorem s89_45 : ni_T d 89 45 [a0, a1, a2, a3, a4, .int x, a6] st z h Q = ni_T d 89 47 [a0, a1, a2, a3, a4, .int x, a6] (.int x :: st) z h Q := ni_T_p rfl rfl
theorem s89_47 : ni_T d 89 47 [a0, a1, a2, a3, a4, a5, a6] (.int y :: .int x :: st) z h Q = ni_T d 89 48 [a0, a1, a2, a3, a4, a5, a6] (.int (x * y) :: st) z h Q := ni_T_p rfl rfl
theorem s89_48 : ni_T d 89 48 [a0, a1, a2, a3, a4, a5, a6] (.int y :: .int x :: st) z h Q = ni_T d 89 49 [a0, a1, a2, a3, a4, a5, a6] (.int (x - y) :: st) z h Q := ni_T_p rfl rfl
theorem s89_49 : ni_T (d + 1) 89 49 [a0, a1, a2, a3, a4, a5, a6] (.int y :: .int x :: st) z h Q = (Nat.ble (ni_sw st) 8 = true ∧ ni_T (d + 1) 89 52 [a0, a1, a2, a3, a4, a5, a6] (.int (if x < y then y else x) :: st) z h Q) := ni_T_mmaxc rfl rfl
theorem s89_52 : ni_T d 89 52 [a0, a1, a2, a3, a4, a5, a6] (.int y :: .int x :: st) z h Q = ni_T d 89 53 [a0, a1, a2, a3, a4, a5, a6] (.int (x * y) :: st) z h Q := ni_T_p rfl rfl
theorem s89_53 : ni_T d 89 53 [a0, a1, a2, a3, a4, a5, a6] (.int x :: st) z h Q = ni_T d 89 55 [a0, a1, a2, a3, a4, ni_kl a5, .int x] st z h Q := ni_T_p rfl rfl
theorem s89_55 : ni_T d 89 55 [a0, a1, a2, a3, a4, a5, .int x] st z h Q = ni_T d 89 57 [a0, a1, a2, a3, a4, a5, .int x] (.int x :: st) z h Q := ni_T_p rfl rfl
theorem s89_57 : ni_T d 89 57 [a0, a1, a2, a3, .int x, a5, a6] st z h Q = ni_T d 89 59 [a0, a1, a2, a3, .int x, a5, a6] (.int x :: st) z h Q := ni_T_p rfl rfl
theorem s89_59 : ni_T d 89 59 [a0, a1, a2, a3, a4, a5, a6] (.int y :: .int x :: st) z h Q = if x ≤ y then ni_T d 89 69 [a0, a1, a2, a3, a4, a5, a6] st z h Q else ni_T d 89 62 [a0, a1, a2, a3, a4, a5, a6] st z h Q := ni_T_b rfl rfl
theorem s89_62 : ni_T d 89 62 [a0, a1, a2, a3, a4, a5, .int x] st z h Q = ni_T d 89 64 [a0, a1, a2, a3, a4, a5, .int x] (.int x :: st) z h Q := ni_T_p rfl rfl
theorem s89_64 : ni_T d 89 64 [a0, a1, a2, a3, a4, a5, a6] (.int x :: st) z h Q = ni_T d 89 66 [a0, a1, a2, ni_kl a3, .int x, a5, a6] st z h Q := ni_T_p rfl rfl
theorem s89_66 : ni_T d 89 66 [a0, a1, a2, a3, a4, .int x, a6] st z h Q = ni_T d 89 68 [a0, a1, a2, a3, a4, .int x, a6] (.int x :: st) z h Q := ni_T_p rfl rfl
theorem s89_68 : ni_T d 89 68 [a0, a1, a2, a3, a4, a5, a6] (.int x :: st) z h Q = ni_T d 89 69 [a0, a1, ni_kl a2, .int x, a4, a5, a6] st z h Q := ni_T_p rfl rfl
theorem s89_69 : ni_T d 89 69 [a0, a1, a2, a3, a4, .int x, a6] st z h Q = ni_T d 89 72 [a0, a1, a2, a3, ni_kl a4, .int (x + 1), a6] st z h Q := ni_T_p rfl rfl
theorem s89_72 : ni_T d 89 72 [a0, a1, a2, a3, a4, a5, a6] st z h Q = ni_T d 89 27 [a0, a1, a2, a3, a4, a5, a6] st z h Q := ni_T_p rfl rfl
theorem s89_75 : ni_T d 89 75 [a0, a1, a2, .int x, a4, a5, a6] st z h Q = ni_T d 89 76 [a0, a1, a2, .int x, a4, a5, a6] (.int x :: st) z h Q := ni_T_p rfl rfl
theorem s89_76 : ni_T d 89 76 [a0, a1, a2, a3, a4, a5, a6] [.int x] z h Q = Q (some (.int x)) z h := ni_T_i rfl rfl
theorem s90_0 : ni_T d 90 0 [.ref o, a1, a2, a3, a4, a5, a6, a7, a8, a9, a10] st z h Q = ni_T d 90 1 [.ref o, a1, a2, a3, a4, a5, a6, a7, a8, a9, a10] (.ref o :: st) z h Q := ni_T_p rfl rfl
theorem s90_1 : ni_T d 90 1 [a0, .int x, a2, a3, a4, a5, a6, a7, a8, a9, a10] st z h Q = ni_T d 90 2 [a0, .int x, a2, a3, a4, a5, a6, a7, a8, a9, a10] (.int x :: st) z h Q := ni_T_p rfl rfl
theorem s90_2 : ni_T (d + 1) 90 2 [a0, a1, a2, a3, a4, a5, a6, a7, a8, a9, a10] (.int x0 :: .ref o :: st) z h Q = (ni_rc (h o) 6 = true ∧ Nat.ble (ni_sw st) 8 = true ∧ ni_T d 107 0 [.ref o, .int x0] [] z h (ni_K (d + 1) 90 5 [a0, a1, a2, a3, a4, a5, a6, a7, a8, a9, a10] st z Q)) := ni_T_ce [.ref o, .int x0] rfl rfl rfl rfl rfl rfl rfl rfl rfl
theorem s90_5 : ni_T d 90 5 [a0, a1, a2, a3, a4, a5, a6, a7, a8, a9, a10] (.ref o :: st) z h Q = ni_T d 90 7 [a0, a1, a2, ni_kl a3, .ref o, a5, a6, a7, a8, a9, a10] st z h Q := ni_T_p rfl rfl
theorem s90_5N : ni_T d 90 5 [a0, a1, a2, a3, a4, a5, a6, a7, a8, a9, a10] (.null :: st) z h Q = ni_T d 90 7 [a0, a1, a2, ni_kl a3, .null, a5, a6, a7, a8, a9, a10] st z h Q := ni_T_p rfl rfl
theorem s90_7 : ni_T d 90 7 [.ref o, a1, a2, a3, a4, a5, a6, a7, a8, a9, a10] st z h Q = ni_T d 90 8 [.ref o, a1, a2, a3, a4, a5, a6, a7, a8, a9, a10] (.ref o :: st) z h Q := ni_T_p rfl rfl
theorem s90_8 : ni_T d 90 8 [a0, a1, a2, a3, a4, a5, a6, a7, a8, a9, a10] (.ref o :: st) z h Q = (ni_is (h o) 6 1 = true ∧ ni_T d 90 11 [a0, a1, a2, a3, a4, a5, a6, a7, a8, a9, a10] (ni_gv (h o) 1 :: st) z h Q) := ni_T_getf rfl
theorem s90_11 : ni_T d 90 11 [a0, a1, .int x, a3, a4, a5, a6, a7, a8, a9, a10] st z h Q = ni_T d 90 12 [a0, a1, .int x, a3, a4, a5, a6, a7, a8, a9, a10] (.int x :: st) z h Q := ni_T_p rfl rfl
theorem s90_12 : ni_T (d + 1) 90 12 [a0, a1, a2, a3, a4, a5, a6, a7, a8, a9, a10] (.int x0 :: .ref o :: st) z h Q = (ni_rc (h o) 5 = true ∧ Nat.ble (ni_sw st) 8 = true ∧ ni_T d 48 0 [.ref o, .int x0] [] z h (ni_K (d + 1) 90 15 [a0, a1, a2, a3, a4, a5, a6, a7, a8, a9, a10] st z Q)) := ni_T_ce [.ref o, .int x0] rfl rfl rfl rfl rfl rfl rfl rfl rfl
theorem s90_15N : ni_T d 90 15 [a0, a1, a2, a3, a4, a5, a6, a7, a8, a9, a10] (.null :: st) z h Q = ni_T d 90 18 [a0, a1, a2, a3, a4, a5, a6, a7, a8, a9, a10] st z h Q := ni_T_p rfl rfl
theorem s90_15 : ni_T d 90 15 [a0, a1, a2, a3, a4, a5, a6, a7, a8, a9, a10] (.ref o :: st) z h Q = ni_T d 90 22 [a0, a1, a2, a3, a4, a5, a6, a7, a8, a9, a10] st z h Q := ni_T_p rfl rfl
theorem s90_18 : ni_T d 90 18 [a0, a1, a2, a3, a4, a5, a6, a7, a8, a9, a10] st z h Q = ni_T d 90 19 [a0, a1, a2, a3, a4, a5, a6, a7, a8, a9, a10] (.int (-1) :: st) z h Q := ni_T_p rfl rfl
theorem s90_19 : ni_T d 90 19 [a0, a1, a2, a3, a4, a5, a6, a7, a8, a9, a10] st z h Q = ni_T d 90 28 [a0, a1, a2, a3, a4, a5, a6, a7, a8, a9, a10] st z h Q := ni_T_p rfl rfl
theorem s90_22 : ni_T d 90 22 [.ref o, a1, a2, a3, a4, a5, a6, a7, a8, a9, a10] st z h Q = ni_T d 90 23 [.ref o, a1, a2, a3, a4, a5, a6, a7, a8, a9, a10] (.ref o :: st) z h Q := ni_T_p rfl rfl
theorem s90_23 : ni_T d 90 23 [a0, a1, a2, a3, .ref o, a5, a6, a7, a8, a9, a10] st z h Q = ni_T d 90 25 [a0, a1, a2, a3, .ref o, a5, a6, a7, a8, a9, a10] (.ref o :: st) z h Q := ni_T_p rfl rfl
theorem s90_23N : ni_T d 90 23 [a0, a1, a2, a3, .null, a5, a6, a7, a8, a9, a10] st z h Q = ni_T d 90 25 [a0, a1, a2, a3, .null, a5, a6, a7, a8, a9, a10] (.null :: st) z h Q := ni_T_p rfl rfl
theorem s90_25 : ni_T (d + 1) 90 25 [a0, a1, a2, a3, a4, a5, a6, a7, a8, a9, a10] (.ref o20 :: .ref o :: st) z h Q = (ni_rc (h o) 6 = true ∧ Nat.ble (ni_sw st) 8 = true ∧ ni_T d 113 0 [.ref o, .ref o20, .retAddr 0, .retAddr 0] [] z h (ni_K (d + 1) 90 28 [a0, a1, a2, a3, a4, a5, a6, a7, a8, a9, a10] st z Q)) := ni_T_ce [.ref o, .ref o20] rfl rfl rfl rfl rfl rfl rfl rfl rfl
theorem s90_25N0 : ni_T (d + 1) 90 25 [a0, a1, a2, a3, a4, a5, a6, a7, a8, a9, a10] (.null :: .ref o :: st) z h Q = (ni_rc (h o) 6 = true ∧ Nat.ble (ni_sw st) 8 = true ∧ ni_T d 113 0 [.ref o, .null, .retAddr 0, .retAddr 0] [] z h (ni_K (d + 1) 90 28 [a0, a1, a2, a3, a4, a5, a6, a7, a8, a9, a10] st z Q)) := ni_T_ce [.ref o, .null] rfl rfl rfl rfl rfl rfl rfl rfl rfl
theorem s90_28 : ni_T d 90 28 [a0, a1, a2, a3, a4, a5, a6, a7, a8, a9, a10] (.int x :: st) z h Q = ni_T d 90 30 [a0, a1, a2, a3, ni_kl a4, .int x, a6, a7, a8, a9, a10] st z h Q := ni_T_p rfl rfl
theorem s90_30 : ni_T d 90 30 [a0, a1, a2, a3, a4, .int x, a6, a7, a8, a9, a10] st z h Q = ni_T d 90 32 [a0, a1, a2, a3, a4, .int x, a6, a7, a8, a9, a10] (.int x :: st) z h Q := ni_T_p rfl rfl
theorem s90_32 : ni_T d 90 32 [a0, a1, a2, a3, a4, a5, a6, a7, a8, a9, a10] (.int x :: st) z h Q = if x = 0 then ni_T d 90 35 [a0, a1, a2, a3, a4, a5, a6, a7, a8, a9, a10] st z h Q else ni_T d 90 50 [a0, a1, a2, a3, a4, a5, a6, a7, a8, a9, a10] st z h Q := ni_T_b rfl rfl
theorem s90_35 : ni_T d 90 35 [a0, a1, a2, .int x, a4, a5, a6, a7, a8, a9, a10] st z h Q = ni_T d 90 36 [a0, a1, a2, .int x, a4, a5, a6, a7, a8, a9, a10] (.int x :: st) z h Q := ni_T_p rfl rfl
theorem s90_36 : ni_T d 90 36 [a0, a1, a2, a3, a4, a5, a6, a7, a8, a9, a10] st z h Q = ni_T d 90 37 [a0, a1, a2, a3, a4, a5, a6, a7, a8, a9, a10] (.int 1 :: st) z h Q := ni_T_p rfl rfl
theorem s90_37 : ni_T d 90 37 [a0, a1, a2, a3, a4, a5, a6, a7, a8, a9, a10] (.int y :: .int x :: st) z h Q = if x < y then ni_T d 90 46 [a0, a1, a2, a3, a4, a5, a6, a7, a8, a9, a10] st z h Q else ni_T d 90 40 [a0, a1, a2, a3, a4, a5, a6, a7, a8, a9, a10] st z h Q := ni_T_b rfl rfl
theorem s90_40 : ni_T d 90 40 [a0, a1, a2, .int x, a4, a5, a6, a7, a8, a9, a10] st z h Q = ni_T d 90 41 [a0, a1, a2, .int x, a4, a5, a6, a7, a8, a9, a10] (.int x :: st) z h Q := ni_T_p rfl rfl
theorem s90_41 : ni_T d 90 41 [a0, a1, a2, a3, a4, a5, a6, a7, a8, a9, a10] st z h Q = ni_T d 90 43 [a0, a1, a2, a3, a4, a5, a6, a7, a8, a9, a10] (.int 100 :: st) z h Q := ni_T_p rfl rfl
theorem s90_43 : ni_T d 90 43 [a0, a1, a2, a3, a4, a5, a6, a7, a8, a9, a10] (.int y :: .int x :: st) z h Q = if x ≤ y then ni_T d 90 50 [a0, a1, a2, a3, a4, a5, a6, a7, a8, a9, a10] st z h Q else ni_T d 90 46 [a0, a1, a2, a3, a4, a5, a6, a7, a8, a9, a10] st z h Q := ni_T_b rfl rfl
theorem s90_46 : ni_T d 90 46 [a0, a1, a2, a3, a4, a5, a6, a7, a8, a9, a10] st z h Q = ni_T d 90 48 [a0, a1, a2, a3, a4, a5, a6, a7, a8, a9, a10] (.int (-6) :: st) z h Q := ni_T_p rfl rfl
theorem s90_48 : ni_T d 90 48 [a0, a1, a2, a3, a4, a5, a6, a7, a8, a9, a10] (.int x :: st) z h Q = ni_T d 90 50 [a0, a1, a2, a3, ni_kl a4, .int x, a6, a7, a8, a9, a10] st z h Q := ni_T_p rfl rfl
theorem s90_50 : ni_T d 90 50 [a0, a1, a2, a3, a4, .int x, a6, a7, a8, a9, a10] st z h Q = ni_T d 90 52 [a0, a1, a2, a3, a4, .int x, a6, a7, a8, a9, a10] (.int x :: st) z h Q := ni_T_p rfl rfl
theorem s90_52 : ni_T d 90 52 [a0, a1, a2, a3, a4, a5, a6, a7, a8, a9, a10] (.int x :: st) z h Q = if x = 0 then ni_T d 90 62 [a0, a1, a2, a3, a4, a5, a6, a7, a8, a9, a10] st z h Q else ni_T d 90 55 [a0, a1, a2, a3, a4, a5, a6, a7, a8, a9, a10] st z h Q := ni_T_b rfl rfl
theorem s90_55 : ni_T d 90 55 [.ref o, a1, a2, a3, a4, a5, a6, a7, a8, a9, a10] st z h Q = ni_T d 90 56 [.ref o, a1, a2, a3, a4, a5, a6, a7, a8, a9, a10] (.ref o :: st) z h Q := ni_T_p rfl rfl
theorem s90_56 : ni_T d 90 56 [a0, a1, a2, a3, a4, .int x, a6, a7, a8, a9, a10] st z h Q = ni_T d 90 58 [a0, a1, a2, a3, a4, .int x, a6, a7, a8, a9, a10] (.int x :: st) z h Q := ni_T_p rfl rfl
theorem s90_58 : ni_T (d + 1) 90 58 [a0, a1, a2, a3, a4, a5, a6, a7, a8, a9, a10] (.int x0 :: .ref o :: st) z h Q = (ni_rc (h o) 6 = true ∧ Nat.ble (ni_sw st) 8 = true ∧ ni_T d 105 0 [.ref o, .int x0] [] z h (ni_K (d + 1) 90 61 [a0, a1, a2, a3, a4, a5, a6, a7, a8, a9, a10] st z Q)) := ni_T_ce [.ref o, .int x0] rfl rfl rfl rfl rfl rfl rfl rfl rfl
theorem s90_61 : ni_T d 90 61 [a0, a1, a2, a3, a4, a5, a6, a7, a8, a9, a10] [.int x] z h Q = Q (some (.int x)) z h := ni_T_i rfl rfl
theorem s90_62 : ni_T d 90 62 [a0, a1, a2, a3, a4, a5, a6, a7, a8, a9, a10] st z h Q = ni_T d 90 64 [a0, a1, a2, a3, a4, a5, a6, a7, a8, a9, a10] (.int 1000000 :: st) z h Q := ni_T_hse rfl rfl rfl rfl
theorem s90_64 : ni_T d 90 64 [a0, a1, a2, a3, a4, a5, a6, a7, a8, a9, a10] (.int x :: st) z h Q = ni_T d 90 66 [a0, a1, a2, a3, a4, ni_kl a5, .int x, a7, a8, a9, a10] st z h Q := ni_T_p rfl rfl
theorem s90_66 : ni_T d 90 66 [a0, a1, a2, a3, a4, a5, a6, a7, a8, a9, a10] st z h Q = ni_T d 90 67 [a0, a1, a2, a3, a4, a5, a6, a7, a8, a9, a10] (.int 0 :: st) z h Q := ni_T_p rfl rfl
theorem s90_67 : ni_T d 90 67 [a0, a1, a2, a3, a4, a5, a6, a7, a8, a9, a10] (.int x :: st) z h Q = ni_T d 90 69 [a0, a1, a2, a3, a4, a5, ni_kl a6, .int x, a8, a9, a10] st z h Q := ni_T_p rfl rfl
theorem s90_69 : ni_T d 90 69 [.ref o, a1, a2, a3, a4, a5, a6, a7, a8, a9, a10] st z h Q = ni_T d 90 70 [.ref o, a1, a2, a3, a4, a5, a6, a7, a8, a9, a10] (.ref o :: st) z h Q := ni_T_p rfl rfl
theorem s90_70 : ni_T d 90 70 [a0, a1, a2, a3, a4, a5, a6, a7, a8, a9, a10] (.ref o :: st) z h Q = (ni_is (h o) 6 1 = true ∧ ni_T d 90 73 [a0, a1, a2, a3, a4, a5, a6, a7, a8, a9, a10] (ni_gv (h o) 1 :: st) z h Q) := ni_T_getf rfl
theorem s90_73 : ni_T d 90 73 [a0, a1, a2, a3, a4, a5, a6, a7, a8, a9, a10] (.ref o :: st) z h Q = (ni_is (h o) 5 3 = true ∧ ni_T d 90 76 [a0, a1, a2, a3, a4, a5, a6, a7, a8, a9, a10] (ni_gv (h o) 3 :: st) z h Q) := ni_T_getf rfl
theorem s90_76 : ni_T d 90 76 [a0, a1, a2, a3, a4, a5, a6, a7, a8, a9, a10] (.int x :: st) z h Q = ni_T d 90 78 [a0, a1, a2, a3, a4, a5, a6, ni_kl a7, .int x, a9, a10] st z h Q := ni_T_p rfl rfl
theorem s90_78 : ni_T d 90 78 [a0, a1, a2, a3, a4, a5, a6, a7, a8, a9, a10] st z h Q = ni_T d 90 79 [a0, a1, a2, a3, a4, a5, a6, a7, a8, a9, a10] (.int 0 :: st) z h Q := ni_T_p rfl rfl
theorem s90_79 : ni_T d 90 79 [a0, a1, a2, a3, a4, a5, a6, a7, a8, a9, a10] (.int x :: st) z h Q = ni_T d 90 81 [a0, a1, a2, a3, a4, a5, a6, a7, ni_kl a8, .int x, a10] st z h Q := ni_T_p rfl rfl
theorem s90_81 : ni_T d 90 81 [a0, a1, a2, a3, a4, a5, a6, a7, a8, .int x, a10] st z h Q = ni_T d 90 83 [a0, a1, a2, a3, a4, a5, a6, a7, a8, .int x, a10] (.int x :: st) z h Q := ni_T_p rfl rfl
theorem s90_83 : ni_T d 90 83 [a0, a1, a2, .int x, a4, a5, a6, a7, a8, a9, a10] st z h Q = ni_T d 90 84 [a0, a1, a2, .int x, a4, a5, a6, a7, a8, a9, a10] (.int x :: st) z h Q := ni_T_p rfl rfl
theorem s90_84 : ni_T d 90 84 [a0, a1, a2, a3, a4, a5, a6, a7, a8, a9, a10] (.int y :: .int x :: st) z h Q = if y ≤ x then ni_T d 90 143 [a0, a1, a2, a3, a4, a5, a6, a7, a8, a9, a10] st z h Q else ni_T d 90 87 [a0, a1, a2, a3, a4, a5, a6, a7, a8, a9, a10] st z h Q := ni_T_b rfl rfl
theorem s90_87 : ni_T d 90 87 [a0, a1, a2, a3, a4, a5, .int x, a7, a8, a9, a10] st z h Q = ni_T d 90 89 [a0, a1, a2, a3, a4, a5, .int x, a7, a8, a9, a10] (.int x :: st) z h Q := ni_T_p rfl rfl
theorem s90_89 : ni_T d 90 89 [a0, a1, a2, a3, .ref o, a5, a6, a7, a8, a9, a10] st z h Q = ni_T d 90 91 [a0, a1, a2, a3, .ref o, a5, a6, a7, a8, a9, a10] (.ref o :: st) z h Q := ni_T_p rfl rfl
theorem s90_89N : ni_T d 90 89 [a0, a1, a2, a3, .null, a5, a6, a7, a8, a9, a10] st z h Q = ni_T d 90 91 [a0, a1, a2, a3, .null, a5, a6, a7, a8, a9, a10] (.null :: st) z h Q := ni_T_p rfl rfl
theorem s90_91 : ni_T d 90 91 [a0, a1, a2, a3, a4, a5, a6, a7, .int x, a9, a10] st z h Q = ni_T d 90 93 [a0, a1, a2, a3, a4, a5, a6, a7, .int x, a9, a10] (.int x :: st) z h Q := ni_T_p rfl rfl
theorem s90_93 : ni_T (d + 1) 90 93 [a0, a1, a2, a3, a4, a5, a6, a7, a8, a9, a10] (.int x0 :: .ref o :: st) z h Q = (ni_rc (h o) 4 = true ∧ Nat.ble (ni_sw st) 8 = true ∧ ni_T d 44 0 [.ref o, .int x0] [] z h (ni_K (d + 1) 90 96 [a0, a1, a2, a3, a4, a5, a6, a7, a8, a9, a10] st z Q)) := ni_T_ce [.ref o, .int x0] rfl rfl rfl rfl rfl rfl rfl rfl rfl
theorem s90_96 : ni_T d 90 96 [a0, a1, a2, a3, a4, a5, a6, a7, a8, a9, a10] (.int y :: .int x :: st) z h Q = ni_T d 90 97 [a0, a1, a2, a3, a4, a5, a6, a7, a8, a9, a10] (.int (x * y) :: st) z h Q := ni_T_p rfl rfl
theorem s90_97 : ni_T d 90 97 [a0, a1, a2, a3, a4, a5, a6, a7, a8, a9, a10] st z h Q = ni_T d 90 99 [a0, a1, a2, a3, a4, a5, a6, a7, a8, a9, a10] (.int 100 :: st) z h Q := ni_T_p rfl rfl
theorem s90_99 : ni_T d 90 99 [a0, a1, a2, a3, a4, a5, a6, a7, a8, a9, a10] (.int y :: .int x :: st) z h Q = (¬ y = 0 ∧ ni_T d 90 100 [a0, a1, a2, a3, a4, a5, a6, a7, a8, a9, a10] (.int (x / y) :: st) z h Q) := ni_T_idiv rfl
theorem s90_100 : ni_T d 90 100 [a0, a1, a2, a3, a4, a5, a6, a7, a8, a9, a10] (.int x :: st) z h Q = ni_T d 90 102 [a0, a1, a2, a3, a4, a5, a6, a7, a8, ni_kl a9, .int x] st z h Q := ni_T_p rfl rfl
theorem s90_102 : ni_T d 90 102 [a0, a1, a2, a3, a4, a5, .int x, a7, a8, a9, a10] st z h Q = ni_T d 90 104 [a0, a1, a2, a3, a4, a5, .int x, a7, a8, a9, a10] (.int x :: st) z h Q := ni_T_p rfl rfl
theorem s90_104 : ni_T d 90 104 [a0, a1, a2, a3, a4, a5, a6, a7, a8, a9, .int x] st z h Q = ni_T d 90 106 [a0, a1, a2, a3, a4, a5, a6, a7, a8, a9, .int x] (.int x :: st) z h Q := ni_T_p rfl rfl
theorem s90_106 : ni_T d 90 106 [a0, a1, a2, a3, a4, a5, a6, a7, a8, a9, a10] (.int y :: .int x :: st) z h Q = ni_T d 90 107 [a0, a1, a2, a3, a4, a5, a6, a7, a8, a9, a10] (.int (x - y) :: st) z h Q := ni_T_p rfl rfl
theorem s90_107 : ni_T d 90 107 [a0, a1, a2, a3, a4, a5, a6, a7, a8, a9, a10] (.int x :: st) z h Q = ni_T d 90 109 [a0, a1, a2, a3, a4, ni_kl a5, .int x, a7, a8, a9, a10] st z h Q := ni_T_p rfl rfl
theorem s90_109 : ni_T d 90 109 [a0, a1, a2, a3, a4, a5, a6, .int x, a8, a9, a10] st z h Q = ni_T d 90 111 [a0, a1, a2, a3, a4, a5, a6, .int x, a8, a9, a10] (.int x :: st) z h Q := ni_T_p rfl rfl
theorem s90_111 : ni_T d 90 111 [a0, a1, a2, a3, a4, a5, a6, a7, .int x, a9, a10] st z h Q = ni_T d 90 113 [a0, a1, a2, a3, a4, a5, a6, a7, .int x, a9, a10] (.int x :: st) z h Q := ni_T_p rfl rfl
theorem s90_113 : ni_T d 90 113 [a0, a1, .int x, a3, a4, a5, a6, a7, a8, a9, a10] st z h Q = ni_T d 90 114 [a0, a1, .int x, a3, a4, a5, a6, a7, a8, a9, a10] (.int x :: st) z h Q := ni_T_p rfl rfl
theorem s90_114 : ni_T d 90 114 [a0, a1, a2, a3, a4, a5, a6, a7, a8, a9, a10] (.int y :: .int x :: st) z h Q = if x = y then ni_T d 90 117 [a0, a1, a2, a3, a4, a5, a6, a7, a8, a9, a10] st z h Q else ni_T d 90 122 [a0, a1, a2, a3, a4, a5, a6, a7, a8, a9, a10] st z h Q := ni_T_b rfl rfl
theorem s90_117 : ni_T d 90 117 [a0, a1, a2, a3, a4, a5, a6, a7, a8, a9, .int x] st z h Q = ni_T d 90 119 [a0, a1, a2, a3, a4, a5, a6, a7, a8, a9, .int x] (.int x :: st) z h Q := ni_T_p rfl rfl
theorem s90_119 : ni_T d 90 119 [a0, a1, a2, a3, a4, a5, a6, a7, a8, a9, a10] st z h Q = ni_T d 90 123 [a0, a1, a2, a3, a4, a5, a6, a7, a8, a9, a10] st z h Q := ni_T_p rfl rfl
theorem s90_122 : ni_T d 90 122 [a0, a1, a2, a3, a4, a5, a6, a7, a8, a9, a10] st z h Q = ni_T d 90 123 [a0, a1, a2, a3, a4, a5, a6, a7, a8, a9, a10] (.int 0 :: st) z h Q := ni_T_p rfl rfl
theorem s90_123 : ni_T d 90 123 [a0, a1, a2, a3, a4, a5, a6, a7, a8, a9, a10] (.int y :: .int x :: st) z h Q = ni_T d 90 124 [a0, a1, a2, a3, a4, a5, a6, a7, a8, a9, a10] (.int (x + y) :: st) z h Q := ni_T_p rfl rfl
theorem s90_124 : ni_T d 90 124 [a0, a1, a2, a3, a4, a5, a6, a7, a8, a9, a10] (.int x :: st) z h Q = ni_T d 90 126 [a0, a1, a2, a3, a4, a5, ni_kl a6, .int x, a8, a9, a10] st z h Q := ni_T_p rfl rfl
theorem s90_126 : ni_T d 90 126 [.ref o, a1, a2, a3, a4, a5, a6, a7, a8, a9, a10] st z h Q = ni_T d 90 127 [.ref o, a1, a2, a3, a4, a5, a6, a7, a8, a9, a10] (.ref o :: st) z h Q := ni_T_p rfl rfl
theorem s90_127 : ni_T d 90 127 [a0, a1, a2, a3, a4, a5, a6, a7, a8, a9, a10] (.ref o :: st) z h Q = (ni_is (h o) 6 1 = true ∧ ni_T d 90 130 [a0, a1, a2, a3, a4, a5, a6, a7, a8, a9, a10] (ni_gv (h o) 1 :: st) z h Q) := ni_T_getf rfl
theorem s90_130 : ni_T d 90 130 [a0, a1, a2, a3, a4, a5, a6, a7, .int x, a9, a10] st z h Q = ni_T d 90 132 [a0, a1, a2, a3, a4, a5, a6, a7, .int x, a9, a10] (.int x :: st) z h Q := ni_T_p rfl rfl
theorem s90_132 : ni_T (d + 1) 90 132 [a0, a1, a2, a3, a4, a5, a6, a7, a8, a9, a10] (.int x0 :: .ref o :: st) z h Q = (ni_rc (h o) 5 = true ∧ Nat.ble (ni_sw st) 8 = true ∧ ni_T d 51 0 [.ref o, .int x0] [] z h (ni_K (d + 1) 90 135 [a0, a1, a2, a3, a4, a5, a6, a7, a8, a9, a10] st z Q)) := ni_T_ce [.ref o, .int x0] rfl rfl rfl rfl rfl rfl rfl rfl rfl
theorem s90_135 : ni_T d 90 135 [a0, a1, a2, a3, a4, a5, a6, a7, a8, a9, a10] (.int x :: st) z h Q = ni_T d 90 137 [a0, a1, a2, a3, a4, a5, a6, ni_kl a7, .int x, a9, a10] st z h Q := ni_T_p rfl rfl
theorem s90_137 : ni_T d 90 137 [a0, a1, a2, a3, a4, a5, a6, a7, a8, .int x, a10] st z h Q = ni_T d 90 140 [a0, a1, a2, a3, a4, a5, a6, a7, ni_kl a8, .int (x + 1), a10] st z h Q := ni_T_p rfl rfl
theorem s90_140 : ni_T d 90 140 [a0, a1, a2, a3, a4, a5, a6, a7, a8, a9, a10] st z h Q = ni_T d 90 81 [a0, a1, a2, a3, a4, a5, a6, a7, a8, a9, a10] st z h Q := ni_T_p rfl rfl
theorem s90_143 : ni_T d 90 143 [a0, a1, a2, a3, a4, a5, a6, .int x, a8, a9, a10] st z h Q = ni_T d 90 145 [a0, a1, a2, a3, a4, a5, a6, .int x, a8, a9, a10] (.int x :: st) z h Q := ni_T_p rfl rfl
theorem s90_145 : ni_T d 90 145 [a0, a1, a2, a3, a4, a5, a6, a7, a8, a9, a10] [.int x] z h Q = Q (some (.int x)) z h := ni_T_i rfl rfl
theorem s91_0 : ni_T d 91 0 [.ref o, a1, a2, a3, a4, a5, a6, a7] st z h Q = ni_T d 91 1 [.ref o, a1, a2, a3, a4, a5, a6, a7] (.ref o :: st) z h Q := ni_T_p rfl rfl
theorem s91_1 : ni_T d 91 1 [a0, .int x, a2, a3, a4, a5, a6, a7] st z h Q = ni_T d 91 2 [a0, .int x, a2, a3, a4, a5, a6, a7] (.int x :: st) z h Q := ni_T_p rfl rfl
theorem s91_2 : ni_T (d + 1) 91 2 [a0, a1, a2, a3, a4, a5, a6, a7] (.int x0 :: .ref o :: st) z h Q = (ni_rc (h o) 6 = true ∧ Nat.ble (ni_sw st) 8 = true ∧ ni_T d 107 0 [.ref o, .int x0] [] z h (ni_K (d + 1) 91 5 [a0, a1, a2, a3, a4, a5, a6, a7] st z Q)) := ni_T_ce [.ref o, .int x0] rfl rfl rfl rfl rfl rfl rfl rfl rfl
theorem s91_5 : ni_T d 91 5 [a0, a1, a2, a3, a4, a5, a6, a7] (.ref o :: st) z h Q = ni_T d 91 6 [a0, a1, ni_kl a2, .ref o, a4, a5, a6, a7] st z h Q := ni_T_p rfl rfl
theorem s91_5N : ni_T d 91 5 [a0, a1, a2, a3, a4, a5, a6, a7] (.null :: st) z h Q = ni_T d 91 6 [a0, a1, ni_kl a2, .null, a4, a5, a6, a7] st z h Q := ni_T_p rfl rfl
theorem s91_6 : ni_T d 91 6 [.ref o, a1, a2, a3, a4, a5, a6, a7] st z h Q = ni_T d 91 7 [.ref o, a1, a2, a3, a4, a5, a6, a7] (.ref o :: st) z h Q := ni_T_p rfl rfl
theorem s91_7 : ni_T d 91 7 [a0, a1, a2, .ref o, a4, a5, a6, a7] st z h Q = ni_T d 91 8 [a0, a1, a2, .ref o, a4, a5, a6, a7] (.ref o :: st) z h Q := ni_T_p rfl rfl
theorem s91_7N : ni_T d 91 7 [a0, a1, a2, .null, a4, a5, a6, a7] st z h Q = ni_T d 91 8 [a0, a1, a2, .null, a4, a5, a6, a7] (.null :: st) z h Q := ni_T_p rfl rfl
theorem s91_8 : ni_T (d + 1) 91 8 [a0, a1, a2, a3, a4, a5, a6, a7] (.ref o20 :: .ref o :: st) z h Q = (ni_rc (h o) 6 = true ∧ Nat.ble (ni_sw st) 8 = true ∧ ni_T d 113 0 [.ref o, .ref o20, .retAddr 0, .retAddr 0] [] z h (ni_K (d + 1) 91 11 [a0, a1, a2, a3, a4, a5, a6, a7] st z Q)) := ni_T_ce [.ref o, .ref o20] rfl rfl rfl rfl rfl rfl rfl rfl rfl
theorem s91_8N0 : ni_T (d + 1) 91 8 [a0, a1, a2, a3, a4, a5, a6, a7] (.null :: .ref o :: st) z h Q = (ni_rc (h o) 6 = true ∧ Nat.ble (ni_sw st) 8 = true ∧ ni_T d 113 0 [.ref o, .null, .retAddr 0, .retAddr 0] [] z h (ni_K (d + 1) 91 11 [a0, a1, a2, a3, a4, a5, a6, a7] st z Q)) := ni_T_ce [.ref o, .null] rfl rfl rfl rfl rfl rfl rfl rfl rfl
theorem s91_11 : ni_T d 91 11 [a0, a1, a2, a3, a4, a5, a6, a7] (.int x :: st) z h Q = ni_T d 91 13 [a0, a1, a2, ni_kl a3, .int x, a5, a6, a7] st z h Q := ni_T_p rfl rfl
theorem s91_13 : ni_T d 91 13 [a0, a1, a2, a3, .int x, a5, a6, a7] st z h Q = ni_T d 91 15 [a0, a1, a2, a3, .int x, a5, a6, a7] (.int x :: st) z h Q := ni_T_p rfl rfl
theorem s91_15 : ni_T d 91 15 [a0, a1, a2, a3, a4, a5, a6, a7] (.int x :: st) z h Q = if x = 0 then ni_T d 91 18 [a0, a1, a2, a3, a4, a5, a6, a7] st z h Q else ni_T d 91 32 [a0, a1, a2, a3, a4, a5, a6, a7] st z h Q := ni_T_b rfl rfl
theorem s91_18 : ni_T d 91 18 [a0, a1, .int x, a3, a4, a5, a6, a7] st z h Q = ni_T d 91 19 [a0, a1, .int x, a3, a4, a5, a6, a7] (.int x :: st) z h Q := ni_T_p rfl rfl
theorem s91_19 : ni_T d 91 19 [a0, a1, a2, a3, a4, a5, a6, a7] (.int x :: st) z h Q = if x < 0 then ni_T d 91 28 [a0, a1, a2, a3, a4, a5, a6, a7] st z h Q else ni_T d 91 22 [a0, a1, a2, a3, a4, a5, a6, a7] st z h Q := ni_T_b rfl rfl
theorem s91_22 : ni_T d 91 22 [a0, a1, .int x, a3, a4, a5, a6, a7] st z h Q = ni_T d 91 23 [a0, a1, .int x, a3, a4, a5, a6, a7] (.int x :: st) z h Q := ni_T_p rfl rfl
theorem s91_23 : ni_T d 91 23 [a0, a1, a2, a3, a4, a5, a6, a7] st z h Q = ni_T d 91 25 [a0, a1, a2, a3, a4, a5, a6, a7] (.int 1000000 :: st) z h Q := ni_T_hse rfl rfl rfl rfl
theorem s91_25 : ni_T d 91 25 [a0, a1, a2, a3, a4, a5, a6, a7] (.int y :: .int x :: st) z h Q = if x ≤ y then ni_T d 91 32 [a0, a1, a2, a3, a4, a5, a6, a7] st z h Q else ni_T d 91 28 [a0, a1, a2, a3, a4, a5, a6, a7] st z h Q := ni_T_b rfl rfl
theorem s91_28 : ni_T d 91 28 [a0, a1, a2, a3, a4, a5, a6, a7] st z h Q = ni_T d 91 30 [a0, a1, a2, a3, a4, a5, a6, a7] (.int (-6) :: st) z h Q := ni_T_p rfl rfl
theorem s91_30 : ni_T d 91 30 [a0, a1, a2, a3, a4, a5, a6, a7] (.int x :: st) z h Q = ni_T d 91 32 [a0, a1, a2, ni_kl a3, .int x, a5, a6, a7] st z h Q := ni_T_p rfl rfl
theorem s91_32 : ni_T d 91 32 [a0, a1, a2, a3, .int x, a5, a6, a7] st z h Q = ni_T d 91 34 [a0, a1, a2, a3, .int x, a5, a6, a7] (.int x :: st) z h Q := ni_T_p rfl rfl
theorem s91_34 : ni_T d 91 34 [a0, a1, a2, a3, a4, a5, a6, a7] (.int x :: st) z h Q = if x = 0 then ni_T d 91 44 [a0, a1, a2, a3, a4, a5, a6, a7] st z h Q else ni_T d 91 37 [a0, a1, a2, a3, a4, a5, a6, a7] st z h Q := ni_T_b rfl rfl
theorem s91_37 : ni_T d 91 37 [.ref o, a1, a2, a3, a4, a5, a6, a7] st z h Q = ni_T d 91 38 [.ref o, a1, a2, a3, a4, a5, a6, a7] (.ref o :: st) z h Q := ni_T_p rfl rfl
theorem s91_38 : ni_T d 91 38 [a0, a1, a2, a3, .int x, a5, a6, a7] st z h Q = ni_T d 91 40 [a0, a1, a2, a3, .int x, a5, a6, a7] (.int x :: st) z h Q := ni_T_p rfl rfl
theorem s91_40 : ni_T (d + 1) 91 40 [a0, a1, a2, a3, a4, a5, a6, a7] (.int x0 :: .ref o :: st) z h Q = (ni_rc (h o) 6 = true ∧ Nat.ble (ni_sw st) 8 = true ∧ ni_T d 106 0 [.ref o, .int x0] [] z h (ni_K (d + 1) 91 43 [a0, a1, a2, a3, a4, a5, a6, a7] st z Q)) := ni_T_ce [.ref o, .int x0] rfl rfl rfl rfl rfl rfl rfl rfl rfl
theorem s91_43 : ni_T d 91 43 [a0, a1, a2, a3, a4, a5, a6, a7] [.int x] z h Q = Q (some (.int x)) z h := ni_T_i rfl rfl
theorem s91_44 : ni_T d 91 44 [a0, a1, a2, a3, a4, a5, a6, a7] st z h Q = ni_T d 91 46 [a0, a1, a2, a3, a4, a5, a6, a7] (.int 1000000 :: st) z h Q := ni_T_hse rfl rfl rfl rfl
theorem s91_46 : ni_T d 91 46 [a0, a1, a2, a3, a4, a5, a6, a7] (.int x :: st) z h Q = ni_T d 91 48 [a0, a1, a2, a3, ni_kl a4, .int x, a6, a7] st z h Q := ni_T_p rfl rfl
theorem s91_48 : ni_T d 91 48 [.ref o, a1, a2, a3, a4, a5, a6, a7] st z h Q = ni_T d 91 49 [.ref o, a1, a2, a3, a4, a5, a6, a7] (.ref o :: st) z h Q := ni_T_p rfl rfl
theorem s91_49 : ni_T d 91 49 [a0, a1, a2, a3, a4, a5, a6, a7] (.ref o :: st) z h Q = (ni_is (h o) 6 1 = true ∧ ni_T d 91 52 [a0, a1, a2, a3, a4, a5, a6, a7] (ni_gv (h o) 1 :: st) z h Q) := ni_T_getf rfl
theorem s91_52 : ni_T d 91 52 [a0, a1, a2, a3, a4, a5, a6, a7] (.ref o :: st) z h Q = (ni_is (h o) 5 3 = true ∧ ni_T d 91 55 [a0, a1, a2, a3, a4, a5, a6, a7] (ni_gv (h o) 3 :: st) z h Q) := ni_T_getf rfl
theorem s91_55 : ni_T d 91 55 [a0, a1, a2, a3, a4, a5, a6, a7] (.int x :: st) z h Q = ni_T d 91 57 [a0, a1, a2, a3, a4, ni_kl a5, .int x, a7] st z h Q := ni_T_p rfl rfl
theorem s91_57 : ni_T d 91 57 [a0, a1, a2, a3, a4, a5, a6, a7] st z h Q = ni_T d 91 58 [a0, a1, a2, a3, a4, a5, a6, a7] (.int 0 :: st) z h Q := ni_T_p rfl rfl
theorem s91_58 : ni_T d 91 58 [a0, a1, a2, a3, a4, a5, a6, a7] (.int x :: st) z h Q = ni_T d 91 60 [a0, a1, a2, a3, a4, a5, ni_kl a6, .int x] st z h Q := ni_T_p rfl rfl
theorem s91_60 : ni_T d 91 60 [a0, a1, a2, a3, a4, a5, a6, .int x] st z h Q = ni_T d 91 62 [a0, a1, a2, a3, a4, a5, a6, .int x] (.int x :: st) z h Q := ni_T_p rfl rfl
theorem s91_62 : ni_T d 91 62 [a0, a1, a2, a3, a4, a5, a6, a7] st z h Q = ni_T d 91 65 [a0, a1, a2, a3, a4, a5, a6, a7] (.int 1000 :: st) z h Q := ni_T_p rfl rfl
theorem s91_65 : ni_T d 91 65 [a0, a1, a2, a3, a4, a5, a6, a7] (.int y :: .int x :: st) z h Q = if y < x then ni_T d 91 111 [a0, a1, a2, a3, a4, a5, a6, a7] st z h Q else ni_T d 91 68 [a0, a1, a2, a3, a4, a5, a6, a7] st z h Q := ni_T_b rfl rfl
theorem s91_68 : ni_T d 91 68 [a0, a1, a2, a3, a4, .int x, a6, a7] st z h Q = ni_T d 91 70 [a0, a1, a2, a3, a4, .int x, a6, a7] (.int x :: st) z h Q := ni_T_p rfl rfl
theorem s91_70 : ni_T d 91 70 [a0, a1, .int x, a3, a4, a5, a6, a7] st z h Q = ni_T d 91 71 [a0, a1, .int x, a3, a4, a5, a6, a7] (.int x :: st) z h Q := ni_T_p rfl rfl
theorem s91_71 : ni_T d 91 71 [a0, a1, a2, a3, a4, a5, a6, a7] (.int y :: .int x :: st) z h Q = if y < x then ni_T d 91 77 [a0, a1, a2, a3, a4, a5, a6, a7] st z h Q else ni_T d 91 74 [a0, a1, a2, a3, a4, a5, a6, a7] st z h Q := ni_T_b rfl rfl
theorem s91_74 : ni_T d 91 74 [a0, a1, a2, a3, a4, a5, a6, .int x] st z h Q = ni_T d 91 76 [a0, a1, a2, a3, a4, a5, a6, .int x] (.int x :: st) z h Q := ni_T_p rfl rfl
theorem s91_76 : ni_T d 91 76 [a0, a1, a2, a3, a4, a5, a6, a7] [.int x] z h Q = Q (some (.int x)) z h := ni_T_i rfl rfl
theorem s91_77 : ni_T d 91 77 [a0, a1, a2, a3, a4, .int x, a6, a7] st z h Q = ni_T d 91 79 [a0, a1, a2, a3, a4, .int x, a6, a7] (.int x :: st) z h Q := ni_T_p rfl rfl
theorem s91_79 : ni_T d 91 79 [a0, a1, a2, a3, a4, .int x, a6, a7] st z h Q = ni_T d 91 81 [a0, a1, a2, a3, a4, .int x, a6, a7] (.int x :: st) z h Q := ni_T_p rfl rfl
theorem s91_81 : ni_T d 91 81 [a0, a1, a2, .ref o, a4, a5, a6, a7] st z h Q = ni_T d 91 82 [a0, a1, a2, .ref o, a4, a5, a6, a7] (.ref o :: st) z h Q := ni_T_p rfl rfl
theorem s91_81N : ni_T d 91 81 [a0, a1, a2, .null, a4, a5, a6, a7] st z h Q = ni_T d 91 82 [a0, a1, a2, .null, a4, a5, a6, a7] (.null :: st) z h Q := ni_T_p rfl rfl
theorem s91_82 : ni_T d 91 82 [a0, a1, a2, a3, a4, a5, .int x, a7] st z h Q = ni_T d 91 84 [a0, a1, a2, a3, a4, a5, .int x, a7] (.int x :: st) z h Q := ni_T_p rfl rfl
theorem s91_84 : ni_T (d + 1) 91 84 [a0, a1, a2, a3, a4, a5, a6, a7] (.int x0 :: .ref o :: st) z h Q = (ni_rc (h o) 4 = true ∧ Nat.ble (ni_sw st) 8 = true ∧ ni_T d 44 0 [.ref o, .int x0] [] z h (ni_K (d + 1) 91 87 [a0, a1, a2, a3, a4, a5, a6, a7] st z Q)) := ni_T_ce [.ref o, .int x0] rfl rfl rfl rfl rfl rfl rfl rfl rfl
theorem s91_87 : ni_T d 91 87 [a0, a1, a2, a3, a4, a5, a6, a7] (.int y :: .int x :: st) z h Q = ni_T d 91 88 [a0, a1, a2, a3, a4, a5, a6, a7] (.int (x * y) :: st) z h Q := ni_T_p rfl rfl
theorem s91_88 : ni_T d 91 88 [a0, a1, a2, a3, a4, a5, a6, a7] st z h Q = ni_T d 91 90 [a0, a1, a2, a3, a4, a5, a6, a7] (.int 100 :: st) z h Q := ni_T_p rfl rfl
theorem s91_90 : ni_T d 91 90 [a0, a1, a2, a3, a4, a5, a6, a7] (.int y :: .int x :: st) z h Q = (¬ y = 0 ∧ ni_T d 91 91 [a0, a1, a2, a3, a4, a5, a6, a7] (.int (x / y) :: st) z h Q) := ni_T_idiv rfl
theorem s91_91 : ni_T d 91 91 [a0, a1, a2, a3, a4, a5, a6, a7] (.int y :: .int x :: st) z h Q = ni_T d 91 92 [a0, a1, a2, a3, a4, a5, a6, a7] (.int (x - y) :: st) z h Q := ni_T_p rfl rfl
theorem s91_92 : ni_T d 91 92 [a0, a1, a2, a3, a4, a5, a6, a7] (.int x :: st) z h Q = ni_T d 91 94 [a0, a1, a2, a3, ni_kl a4, .int x, a6, a7] st z h Q := ni_T_p rfl rfl
theorem s91_94 : ni_T d 91 94 [.ref o, a1, a2, a3, a4, a5, a6, a7] st z h Q = ni_T d 91 95 [.ref o, a1, a2, a3, a4, a5, a6, a7] (.ref o :: st) z h Q := ni_T_p rfl rfl
theorem s91_95 : ni_T d 91 95 [a0, a1, a2, a3, a4, a5, a6, a7] (.ref o :: st) z h Q = (ni_is (h o) 6 1 = true ∧ ni_T d 91 98 [a0, a1, a2, a3, a4, a5, a6, a7] (ni_gv (h o) 1 :: st) z h Q) := ni_T_getf rfl
theorem s91_98 : ni_T d 91 98 [a0, a1, a2, a3, a4, a5, .int x, a7] st z h Q = ni_T d 91 100 [a0, a1, a2, a3, a4, a5, .int x, a7] (.int x :: st) z h Q := ni_T_p rfl rfl
theorem s91_100 : ni_T (d + 1) 91 100 [a0, a1, a2, a3, a4, a5, a6, a7] (.int x0 :: .ref o :: st) z h Q = (ni_rc (h o) 5 = true ∧ Nat.ble (ni_sw st) 8 = true ∧ ni_T d 51 0 [.ref o, .int x0] [] z h (ni_K (d + 1) 91 103 [a0, a1, a2, a3, a4, a5, a6, a7] st z Q)) := ni_T_ce [.ref o, .int x0] rfl rfl rfl rfl rfl rfl rfl rfl rfl
theorem s91_103 : ni_T d 91 103 [a0, a1, a2, a3, a4, a5, a6, a7] (.int x :: st) z h Q = ni_T d 91 105 [a0, a1, a2, a3, a4, ni_kl a5, .int x, a7] st z h Q := ni_T_p rfl rfl
theorem s91_105 : ni_T d 91 105 [a0, a1, a2, a3, a4, a5, a6, .int x] st z h Q = ni_T d 91 108 [a0, a1, a2, a3, a4, a5, ni_kl a6, .int (x + 1)] st z h Q := ni_T_p rfl rfl
theorem s91_108 : ni_T d 91 108 [a0, a1, a2, a3, a4, a5, a6, a7] st z h Q = ni_T d 91 60 [a0, a1, a2, a3, a4, a5, a6, a7] st z h Q := ni_T_p rfl rfl
theorem s91_111 : ni_T d 91 111 [a0, a1, a2, a3, a4, a5, a6, a7] st z h Q = ni_T d 91 112 [a0, a1, a2, a3, a4, a5, a6, a7] (.int (-1) :: st) z h Q := ni_T_p rfl rfl
theorem s91_112 : ni_T d 91 112 [a0, a1, a2, a3, a4, a5, a6, a7] [.int x] z h Q = Q (some (.int x)) z h := ni_T_i rfl rfl
theorem s92_0 : ni_T d 92 0 [a0, a1, a2, a3, a4, a5] st z h Q = ni_T d 92 2 [a0, a1, a2, a3, a4, a5] (.int 6 :: st) z h Q := ni_T_p rfl rfl
theorem s92_2 : ni_T d 92 2 [a0, a1, a2, a3, a4, a5] (.int x :: st) z h Q = ni_T d 92 3 [ni_kl a0, .int x, a2, a3, a4, a5] st z h Q := ni_T_p rfl rfl
theorem s92_3 : ni_T d 92 3 [a0, a1, a2, a3, a4, a5] st z h Q = ni_T d 92 5 [a0, a1, a2, a3, a4, a5] (.int 6 :: st) z h Q := ni_T_p rfl rfl
theorem s92_5 : ni_T d 92 5 [a0, a1, a2, a3, a4, a5] (.int x :: st) z h Q = ni_T d 92 6 [a0, ni_kl a1, .int x, a3, a4, a5] st z h Q := ni_T_p rfl rfl
theorem s92_6 : ni_T d 92 6 [a0, a1, a2, a3, a4, a5] st z h Q = ni_T d 92 7 [a0, a1, a2, a3, a4, a5] (.int 0 :: st) z h Q := ni_T_p rfl rfl
theorem s92_7 : ni_T d 92 7 [a0, a1, a2, a3, a4, a5] (.int x :: st) z h Q = ni_T d 92 8 [a0, a1, ni_kl a2, .int x, a4, a5] st z h Q := ni_T_p rfl rfl
theorem s92_8 : ni_T d 92 8 [a0, a1, a2, .int x, a4, a5] st z h Q = ni_T d 92 9 [a0, a1, a2, .int x, a4, a5] (.int x :: st) z h Q := ni_T_p rfl rfl
theorem s92_9 : ni_T d 92 9 [a0, a1, a2, a3, a4, a5] st z h Q = ni_T d 92 10 [a0, a1, a2, a3, a4, a5] (.int 5 :: st) z h Q := ni_T_p rfl rfl
theorem s92_10 : ni_T d 92 10 [a0, a1, a2, a3, a4, a5] (.int y :: .int x :: st) z h Q = if y ≤ x then ni_T d 92 66 [a0, a1, a2, a3, a4, a5] st z h Q else ni_T d 92 13 [a0, a1, a2, a3, a4, a5] st z h Q := ni_T_b rfl rfl
theorem s92_13 : ni_T d 92 13 [.ref o, a1, a2, a3, a4, a5] st z h Q = ni_T d 92 14 [.ref o, a1, a2, a3, a4, a5] (.ref o :: st) z h Q := ni_T_p rfl rfl
theorem s92_14 : ni_T d 92 14 [a0, a1, a2, a3, a4, a5] (.ref o :: st) z h Q = (ni_is (h o) 6 1 = true ∧ ni_T d 92 17 [a0, a1, a2, a3, a4, a5] (ni_gv (h o) 1 :: st) z h Q) := ni_T_getf rfl
theorem s92_17 : ni_T d 92 17 [a0, a1, a2, a3, a4, a5] (.ref o :: st) z h Q = (ni_is (h o) 5 0 = true ∧ ni_T d 92 20 [a0, a1, a2, a3, a4, a5] (ni_gv (h o) 0 :: st) z h Q) := ni_T_getf rfl
theorem s92_20 : ni_T d 92 20 [a0, a1, a2, .int x, a4, a5] st z h Q = ni_T d 92 21 [a0, a1, a2, .int x, a4, a5] (.int x :: st) z h Q := ni_T_p rfl rfl
theorem s92_21 : ni_T d 92 21 [a0, a1, a2, a3, a4, a5] (.int x :: .ref o :: st) z h Q = (ni_okI (h o) x = true ∧ ni_T d 92 22 [a0, a1, a2, a3, a4, a5] (.int (ni_gi (h o) x) :: st) z h Q) := ni_T_iald rfl
theorem s92_22 : ni_T d 92 22 [a0, a1, a2, a3, a4, a5] st z h Q = ni_T d 92 23 [a0, a1, a2, a3, a4, a5] (.int (-1) :: st) z h Q := ni_T_p rfl rfl
theorem s92_23 : ni_T d 92 23 [a0, a1, a2, a3, a4, a5] (.int y :: .int x :: st) z h Q = if x = y then ni_T d 92 60 [a0, a1, a2, a3, a4, a5] st z h Q else ni_T d 92 26 [a0, a1, a2, a3, a4, a5] st z h Q := ni_T_b rfl rfl
theorem s92_26 : ni_T d 92 26 [a0, .int x, a2, a3, a4, a5] st z h Q = ni_T d 92 27 [a0, .int x, a2, a3, a4, a5] (.int x :: st) z h Q := ni_T_p rfl rfl
theorem s92_27 : ni_T d 92 27 [.ref o, a1, a2, a3, a4, a5] st z h Q = ni_T d 92 28 [.ref o, a1, a2, a3, a4, a5] (.ref o :: st) z h Q := ni_T_p rfl rfl
theorem s92_28 : ni_T d 92 28 [a0, a1, a2, a3, a4, a5] (.ref o :: st) z h Q = (ni_is (h o) 6 1 = true ∧ ni_T d 92 31 [a0, a1, a2, a3, a4, a5] (ni_gv (h o) 1 :: st) z h Q) := ni_T_getf rfl
theorem s92_31 : ni_T d 92 31 [a0, a1, a2, a3, a4, a5] (.ref o :: st) z h Q = (ni_is (h o) 5 0 = true ∧ ni_T d 92 34 [a0, a1, a2, a3, a4, a5] (ni_gv (h o) 0 :: st) z h Q) := ni_T_getf rfl
theorem s92_34 : ni_T d 92 34 [a0, a1, a2, .int x, a4, a5] st z h Q = ni_T d 92 35 [a0, a1, a2, .int x, a4, a5] (.int x :: st) z h Q := ni_T_p rfl rfl
theorem s92_35 : ni_T d 92 35 [a0, a1, a2, a3, a4, a5] (.int x :: .ref o :: st) z h Q = (ni_okI (h o) x = true ∧ ni_T d 92 36 [a0, a1, a2, a3, a4, a5] (.int (ni_gi (h o) x) :: st) z h Q) := ni_T_iald rfl
theorem s92_36 : ni_T d 92 36 [a0, a1, a2, a3, a4, a5] st z h Q = ni_T d 92 38 [a0, a1, a2, a3, a4, a5] (.int 6 :: st) z h Q := ni_T_p rfl rfl
theorem s92_38 : ni_T d 92 38 [a0, a1, a2, a3, a4, a5] (.int y :: .int x :: st) z h Q = (¬ y = 0 ∧ ni_T d 92 39 [a0, a1, a2, a3, a4, a5] (.int (x / y) :: st) z h Q) := ni_T_idiv rfl
theorem s92_39 : ni_T (d + 1) 92 39 [a0, a1, a2, a3, a4, a5] (.int y :: .int x :: st) z h Q = (Nat.ble (ni_sw st) 8 = true ∧ ni_T (d + 1) 92 42 [a0, a1, a2, a3, a4, a5] (.int (if y < x then y else x) :: st) z h Q) := ni_T_mminc rfl rfl
theorem s92_42 : ni_T d 92 42 [a0, a1, a2, a3, a4, a5] (.int x :: st) z h Q = ni_T d 92 43 [ni_kl a0, .int x, a2, a3, a4, a5] st z h Q := ni_T_p rfl rfl
theorem s92_43 : ni_T d 92 43 [a0, a1, .int x, a3, a4, a5] st z h Q = ni_T d 92 44 [a0, a1, .int x, a3, a4, a5] (.int x :: st) z h Q := ni_T_p rfl rfl
theorem s92_44 : ni_T d 92 44 [.ref o, a1, a2, a3, a4, a5] st z h Q = ni_T d 92 45 [.ref o, a1, a2, a3, a4, a5] (.ref o :: st) z h Q := ni_T_p rfl rfl
theorem s92_45 : ni_T d 92 45 [a0, a1, a2, a3, a4, a5] (.ref o :: st) z h Q = (ni_is (h o) 6 1 = true ∧ ni_T d 92 48 [a0, a1, a2, a3, a4, a5] (ni_gv (h o) 1 :: st) z h Q) := ni_T_getf rfl
theorem s92_48 : ni_T d 92 48 [a0, a1, a2, a3, a4, a5] (.ref o :: st) z h Q = (ni_is (h o) 5 0 = true ∧ ni_T d 92 51 [a0, a1, a2, a3, a4, a5] (ni_gv (h o) 0 :: st) z h Q) := ni_T_getf rfl
theorem s92_51 : ni_T d 92 51 [a0, a1, a2, .int x, a4, a5] st z h Q = ni_T d 92 52 [a0, a1, a2, .int x, a4, a5] (.int x :: st) z h Q := ni_T_p rfl rfl
theorem s92_52 : ni_T d 92 52 [a0, a1, a2, a3, a4, a5] (.int x :: .ref o :: st) z h Q = (ni_okI (h o) x = true ∧ ni_T d 92 53 [a0, a1, a2, a3, a4, a5] (.int (ni_gi (h o) x) :: st) z h Q) := ni_T_iald rfl
theorem s92_53 : ni_T d 92 53 [a0, a1, a2, a3, a4, a5] st z h Q = ni_T d 92 55 [a0, a1, a2, a3, a4, a5] (.int 6 :: st) z h Q := ni_T_p rfl rfl
theorem s92_55 : ni_T d 92 55 [a0, a1, a2, a3, a4, a5] (.int y :: .int x :: st) z h Q = (¬ y = 0 ∧ ni_T d 92 56 [a0, a1, a2, a3, a4, a5] (.int (x - x / y * y) :: st) z h Q) := ni_T_irem rfl
theorem s92_56 : ni_T (d + 1) 92 56 [a0, a1, a2, a3, a4, a5] (.int y :: .int x :: st) z h Q = (Nat.ble (ni_sw st) 8 = true ∧ ni_T (d + 1) 92 59 [a0, a1, a2, a3, a4, a5] (.int (if y < x then y else x) :: st) z h Q) := ni_T_mminc rfl rfl
theorem s92_59 : ni_T d 92 59 [a0, a1, a2, a3, a4, a5] (.int x :: st) z h Q = ni_T d 92 60 [a0, ni_kl a1, .int x, a3, a4, a5] st z h Q := ni_T_p rfl rfl
theorem s92_60 : ni_T d 92 60 [a0, a1, a2, .int x, a4, a5] st z h Q = ni_T d 92 63 [a0, a1, ni_kl a2, .int (x + 1), a4, a5] st z h Q := ni_T_p rfl rfl
theorem s92_63 : ni_T d 92 63 [a0, a1, a2, a3, a4, a5] st z h Q = ni_T d 92 8 [a0, a1, a2, a3, a4, a5] st z h Q := ni_T_p rfl rfl
theorem s92_66 : ni_T d 92 66 [a0, a1, a2, a3, a4, a5] st z h Q = ni_T d 92 67 [a0, a1, a2, a3, a4, a5] (.long 0 :: st) z h Q := ni_T_p rfl rfl
theorem s92_67 : ni_T d 92 67 [a0, a1, a2, a3, a4, a5] (.long u :: st) z h Q = ni_T d 92 68 [a0, a1, ni_kl a2, .long u, .retAddr 1, a5] st z h Q := ni_T_p rfl rfl
theorem s92_68 : ni_T d 92 68 [a0, a1, a2, a3, a4, a5] st z h Q = ni_T d 92 69 [a0, a1, a2, a3, a4, a5] (.int 0 :: st) z h Q := ni_T_p rfl rfl
theorem s92_69 : ni_T d 92 69 [a0, a1, a2, a3, a4, a5] (.int x :: st) z h Q = ni_T d 92 71 [a0, a1, a2, a3, ni_kl a4, .int x] st z h Q := ni_T_p rfl rfl
theorem s92_71 : ni_T d 92 71 [a0, a1, a2, a3, a4, .int x] st z h Q = ni_T d 92 73 [a0, a1, a2, a3, a4, .int x] (.int x :: st) z h Q := ni_T_p rfl rfl
theorem s92_73 : ni_T d 92 73 [a0, a1, a2, a3, a4, a5] st z h Q = ni_T d 92 74 [a0, a1, a2, a3, a4, a5] (.int 5 :: st) z h Q := ni_T_p rfl rfl
theorem s92_74 : ni_T d 92 74 [a0, a1, a2, a3, a4, a5] (.int y :: .int x :: st) z h Q = if y ≤ x then ni_T d 92 119 [a0, a1, a2, a3, a4, a5] st z h Q else ni_T d 92 77 [a0, a1, a2, a3, a4, a5] st z h Q := ni_T_b rfl rfl
theorem s92_77 : ni_T d 92 77 [.ref o, a1, a2, a3, a4, a5] st z h Q = ni_T d 92 78 [.ref o, a1, a2, a3, a4, a5] (.ref o :: st) z h Q := ni_T_p rfl rfl
theorem s92_78 : ni_T d 92 78 [a0, a1, a2, a3, a4, a5] (.ref o :: st) z h Q = (ni_is (h o) 6 1 = true ∧ ni_T d 92 81 [a0, a1, a2, a3, a4, a5] (ni_gv (h o) 1 :: st) z h Q) := ni_T_getf rfl
theorem s92_81 : ni_T d 92 81 [a0, a1, a2, a3, a4, a5] (.ref o :: st) z h Q = (ni_is (h o) 5 0 = true ∧ ni_T d 92 84 [a0, a1, a2, a3, a4, a5] (ni_gv (h o) 0 :: st) z h Q) := ni_T_getf rfl
theorem s92_84 : ni_T d 92 84 [a0, a1, a2, a3, a4, .int x] st z h Q = ni_T d 92 86 [a0, a1, a2, a3, a4, .int x] (.int x :: st) z h Q := ni_T_p rfl rfl
theorem s92_86 : ni_T d 92 86 [a0, a1, a2, a3, a4, a5] (.int x :: .ref o :: st) z h Q = (ni_okI (h o) x = true ∧ ni_T d 92 87 [a0, a1, a2, a3, a4, a5] (.int (ni_gi (h o) x) :: st) z h Q) := ni_T_iald rfl
theorem s92_87 : ni_T d 92 87 [a0, a1, a2, a3, a4, a5] st z h Q = ni_T d 92 88 [a0, a1, a2, a3, a4, a5] (.int (-1) :: st) z h Q := ni_T_p rfl rfl
theorem s92_88 : ni_T d 92 88 [a0, a1, a2, a3, a4, a5] (.int y :: .int x :: st) z h Q = if x = y then ni_T d 92 113 [a0, a1, a2, a3, a4, a5] st z h Q else ni_T d 92 91 [a0, a1, a2, a3, a4, a5] st z h Q := ni_T_b rfl rfl
theorem s92_91 : ni_T d 92 91 [a0, a1, a2, .long u, a4, a5] st z h Q = ni_T d 92 92 [a0, a1, a2, .long u, a4, a5] (.long u :: st) z h Q := ni_T_p rfl rfl
theorem s92_92 : ni_T d 92 92 [a0, a1, a2, a3, a4, a5] st z h Q = ni_T d 92 93 [a0, a1, a2, a3, a4, a5] (.long 1 :: st) z h Q := ni_T_p rfl rfl
theorem s92_93 : ni_T d 92 93 [.ref o, a1, a2, a3, a4, a5] st z h Q = ni_T d 92 94 [.ref o, a1, a2, a3, a4, a5] (.ref o :: st) z h Q := ni_T_p rfl rfl
theorem s92_94 : ni_T d 92 94 [a0, a1, a2, a3, a4, a5] (.ref o :: st) z h Q = (ni_is (h o) 6 1 = true ∧ ni_T d 92 97 [a0, a1, a2, a3, a4, a5] (ni_gv (h o) 1 :: st) z h Q) := ni_T_getf rfl
theorem s92_97 : ni_T d 92 97 [a0, a1, a2, a3, a4, a5] (.ref o :: st) z h Q = (ni_is (h o) 5 0 = true ∧ ni_T d 92 100 [a0, a1, a2, a3, a4, a5] (ni_gv (h o) 0 :: st) z h Q) := ni_T_getf rfl
theorem s92_100 : ni_T d 92 100 [a0, a1, a2, a3, a4, .int x] st z h Q = ni_T d 92 102 [a0, a1, a2, a3, a4, .int x] (.int x :: st) z h Q := ni_T_p rfl rfl
theorem s92_102 : ni_T d 92 102 [a0, a1, a2, a3, a4, a5] (.int x :: .ref o :: st) z h Q = (ni_okI (h o) x = true ∧ ni_T d 92 103 [a0, a1, a2, a3, a4, a5] (.int (ni_gi (h o) x) :: st) z h Q) := ni_T_iald rfl
theorem s92_103 : ni_T d 92 103 [a0, a1, a2, a3, a4, a5] st z h Q = ni_T d 92 105 [a0, a1, a2, a3, a4, a5] (.int 6 :: st) z h Q := ni_T_p rfl rfl
theorem s92_105 : ni_T d 92 105 [a0, .int x, a2, a3, a4, a5] st z h Q = ni_T d 92 106 [a0, .int x, a2, a3, a4, a5] (.int x :: st) z h Q := ni_T_p rfl rfl
theorem s92_106 : ni_T d 92 106 [a0, a1, a2, a3, a4, a5] (.int y :: .int x :: st) z h Q = ni_T d 92 107 [a0, a1, a2, a3, a4, a5] (.int (x * y) :: st) z h Q := ni_T_p rfl rfl
theorem s92_107 : ni_T d 92 107 [a0, a1, a2, a3, a4, a5] (.int y :: .int x :: st) z h Q = ni_T d 92 108 [a0, a1, a2, a3, a4, a5] (.int (x - y) :: st) z h Q := ni_T_p rfl rfl
theorem s92_108 : ni_T d 92 108 [a0, a1, .int x, a3, a4, a5] st z h Q = ni_T d 92 109 [a0, a1, .int x, a3, a4, a5] (.int x :: st) z h Q := ni_T_p rfl rfl
theorem s92_109 : ni_T d 92 109 [a0, a1, a2, a3, a4, a5] (.int y :: .int x :: st) z h Q = ni_T d 92 110 [a0, a1, a2, a3, a4, a5] (.int (x - y) :: st) z h Q := ni_T_p rfl rfl
theorem s92_110 : ni_T d 92 110 [a0, a1, a2, a3, a4, a5] (.int y :: .long u :: st) z h Q = ni_T d 92 111 [a0, a1, a2, a3, a4, a5] (.long (u <<< (y.toInt64 &&& 63)) :: st) z h Q := ni_T_p rfl rfl
theorem s92_111 : ni_T d 92 111 [a0, a1, a2, a3, a4, a5] (.long w :: .long u :: st) z h Q = ni_T d 92 112 [a0, a1, a2, a3, a4, a5] (.long (u ||| w) :: st) z h Q := ni_T_p rfl rfl
theorem s92_112 : ni_T d 92 112 [a0, a1, a2, a3, a4, a5] (.long u :: st) z h Q = ni_T d 92 113 [a0, a1, ni_kl a2, .long u, .retAddr 1, a5] st z h Q := ni_T_p rfl rfl
theorem s92_113 : ni_T d 92 113 [a0, a1, a2, a3, a4, .int x] st z h Q = ni_T d 92 116 [a0, a1, a2, a3, ni_kl a4, .int (x + 1)] st z h Q := ni_T_p rfl rfl
theorem s92_116 : ni_T d 92 116 [a0, a1, a2, a3, a4, a5] st z h Q = ni_T d 92 71 [a0, a1, a2, a3, a4, a5] st z h Q := ni_T_p rfl rfl
theorem s92_119 : ni_T d 92 119 [a0, a1, a2, .long u, a4, a5] st z h Q = ni_T d 92 120 [a0, a1, a2, .long u, a4, a5] (.long u :: st) z h Q := ni_T_p rfl rfl
theorem s92_120 : ni_T d 92 120 [a0, a1, a2, a3, a4, a5] [.long u] z h Q = Q (some (.long u)) z h := ni_T_l rfl rfl
theorem s93_0 : ni_T d 93 0 [a0, .int x] st z h Q = ni_T d 93 1 [a0, .int x] (.int x :: st) z h Q := ni_T_p rfl rfl
theorem s93_1_0 : ni_T d 93 1 [a0, a1] (.int 0 :: st) z h Q = ni_T d 93 28 [a0, a1] st z h Q := ni_T_p rfl rfl
theorem s93_1_1 : ni_T d 93 1 [a0, a1] (.int 1 :: st) z h Q = ni_T d 93 36 [a0, a1] st z h Q := ni_T_p rfl rfl
theorem s93_1_2 : ni_T d 93 1 [a0, a1] (.int 2 :: st) z h Q = ni_T d 93 44 [a0, a1] st z h Q := ni_T_p rfl rfl
theorem s93_1_d (hx : x.toInt < 0 ∨ 2 < x.toInt) : ni_T d 93 1 [a0, a1] (.int x :: st) z h Q = ni_T d 93 52 [a0, a1] st z h Q := ni_T_tsw rfl hx (by decide) rfl
theorem s93_28 : ni_T d 93 28 [.ref o, a1] st z h Q = ni_T d 93 29 [.ref o, a1] (.ref o :: st) z h Q := ni_T_p rfl rfl
theorem s93_29 : ni_T d 93 29 [a0, a1] (.ref o :: st) z h Q = (ni_is (h o) 6 1 = true ∧ ni_T d 93 32 [a0, a1] (ni_gv (h o) 1 :: st) z h Q) := ni_T_getf rfl
theorem s93_32 : ni_T (d + 1) 93 32 [a0, a1] (.ref o :: st) z h Q = (ni_rc (h o) 5 = true ∧ Nat.ble (ni_sw st) 8 = true ∧ ni_T d 56 0 [.ref o, .retAddr 0, .retAddr 0, .retAddr 0] [] z h (ni_K (d + 1) 93 35 [a0, a1] st z Q)) := ni_T_ce [.ref o] rfl rfl rfl rfl rfl rfl rfl rfl rfl
theorem s93_35 : ni_T d 93 35 [a0, a1] [.int x] z h Q = Q (some (.int x)) z h := ni_T_i rfl rfl
theorem s93_36 : ni_T d 93 36 [.ref o, a1] st z h Q = ni_T d 93 37 [.ref o, a1] (.ref o :: st) z h Q := ni_T_p rfl rfl
theorem s93_37 : ni_T d 93 37 [a0, a1] (.ref o :: st) z h Q = (ni_is (h o) 6 1 = true ∧ ni_T d 93 40 [a0, a1] (ni_gv (h o) 1 :: st) z h Q) := ni_T_getf rfl
theorem s93_40 : ni_T (d + 1) 93 40 [a0, a1] (.ref o :: st) z h Q = (ni_rc (h o) 5 = true ∧ Nat.ble (ni_sw st) 8 = true ∧ ni_T d 57 0 [.ref o, .retAddr 0, .retAddr 0, .retAddr 0] [] z h (ni_K (d + 1) 93 43 [a0, a1] st z Q)) := ni_T_ce [.ref o] rfl rfl rfl rfl rfl rfl rfl rfl rfl
theorem s93_43 : ni_T d 93 43 [a0, a1] [.int x] z h Q = Q (some (.int x)) z h := ni_T_i rfl rfl
theorem s93_44 : ni_T d 93 44 [.ref o, a1] st z h Q = ni_T d 93 45 [.ref o, a1] (.ref o :: st) z h Q := ni_T_p rfl rfl
theorem s93_45 : ni_T d 93 45 [a0, a1] (.ref o :: st) z h Q = (ni_is (h o) 6 1 = true ∧ ni_T d 93 48 [a0, a1] (ni_gv (h o) 1 :: st) z h Q) := ni_T_getf rfl
theorem s93_48 : ni_T (d + 1) 93 48 [a0, a1] (.ref o :: st) z h Q = (ni_rc (h o) 5 = true ∧ Nat.ble (ni_sw st) 8 = true ∧ ni_T d 59 0 [.ref o, .retAddr 0, .retAddr 0, .retAddr 0, .retAddr 0] [] z h (ni_K (d + 1) 93 51 [a0, a1] st z Q)) := ni_T_ce [.ref o] rfl rfl rfl rfl rfl rfl rfl rfl rfl
theorem s93_51 : ni_T d 93 51 [a0, a1] [.int x] z h Q = Q (some (.int x)) z h := ni_T_i rfl rfl
theorem s93_52 : ni_T d 93 52 [.ref o, a1] st z h Q = ni_T d 93 53 [.ref o, a1] (.ref o :: st) z h Q := ni_T_p rfl rfl
theorem s93_53 : ni_T d 93 53 [a0, a1] st z h Q = ni_T d 93 55 [a0, a1] (.int (-5) :: st) z h Q := ni_T_p rfl rfl
theorem s93_55 : ni_T (d + 1) 93 55 [a0, a1] (.int x0 :: .ref o :: st) z h Q = (ni_rc (h o) 6 = true ∧ Nat.ble (ni_sw st) 8 = true ∧ ni_T d 106 0 [.ref o, .int x0] [] z h (ni_K (d + 1) 93 58 [a0, a1] st z Q)) := ni_T_ce [.ref o, .int x0] rfl rfl rfl rfl rfl rfl rfl rfl rfl
theorem s93_58 : ni_T d 93 58 [a0, a1] [.int x] z h Q = Q (some (.int x)) z h := ni_T_i rfl rfl
theorem s94_0 : ni_T d 94 0 [.ref o, a1, a2, a3, a4, a5, a6] st z h Q = ni_T d 94 1 [.ref o, a1, a2, a3, a4, a5, a6] (.ref o :: st) z h Q := ni_T_p rfl rfl
theorem s94_1 : ni_T d 94 1 [a0, a1, a2, a3, a4, a5, a6] (.ref o :: st) z h Q = (ni_is (h o) 6 1 = true ∧ ni_T d 94 4 [a0, a1, a2, a3, a4, a5, a6] (ni_gv (h o) 1 :: st) z h Q) := ni_T_getf rfl
theorem s94_4 : ni_T d 94 4 [a0, .int x, a2, a3, a4, a5, a6] st z h Q = ni_T d 94 5 [a0, .int x, a2, a3, a4, a5, a6] (.int x :: st) z h Q := ni_T_p rfl rfl
theorem s94_5 : ni_T (d + 1) 94 5 [a0, a1, a2, a3, a4, a5, a6] (.int x0 :: .ref o :: st) z h Q = (ni_rc (h o) 5 = true ∧ Nat.ble (ni_sw st) 8 = true ∧ ni_T d 48 0 [.ref o, .int x0] [] z h (ni_K (d + 1) 94 8 [a0, a1, a2, a3, a4, a5, a6] st z Q)) := ni_T_ce [.ref o, .int x0] rfl rfl rfl rfl rfl rfl rfl rfl rfl
theorem s94_8 : ni_T d 94 8 [a0, a1, a2, a3, a4, a5, a6] (.ref o :: st) z h Q = ni_T d 94 10 [a0, a1, a2, ni_kl a3, .ref o, a5, a6] st z h Q := ni_T_p rfl rfl
theorem s94_8N : ni_T d 94 8 [a0, a1, a2, a3, a4, a5, a6] (.null :: st) z h Q = ni_T d 94 10 [a0, a1, a2, ni_kl a3, .null, a5, a6] st z h Q := ni_T_p rfl rfl
theorem s94_10 : ni_T d 94 10 [.ref o, a1, a2, a3, a4, a5, a6] st z h Q = ni_T d 94 11 [.ref o, a1, a2, a3, a4, a5, a6] (.ref o :: st) z h Q := ni_T_p rfl rfl
theorem s94_11 : ni_T d 94 11 [a0, a1, .int x, a3, a4, a5, a6] st z h Q = ni_T d 94 12 [a0, a1, .int x, a3, a4, a5, a6] (.int x :: st) z h Q := ni_T_p rfl rfl
theorem s94_12 : ni_T (d + 1) 94 12 [a0, a1, a2, a3, a4, a5, a6] (.int x0 :: .ref o :: st) z h Q = (ni_rc (h o) 6 = true ∧ Nat.ble (ni_sw st) 8 = true ∧ ni_T d 107 0 [.ref o, .int x0] [] z h (ni_K (d + 1) 94 15 [a0, a1, a2, a3, a4, a5, a6] st z Q)) := ni_T_ce [.ref o, .int x0] rfl rfl rfl rfl rfl rfl rfl rfl rfl
theorem s94_15 : ni_T d 94 15 [a0, a1, a2, a3, a4, a5, a6] (.ref o :: st) z h Q = ni_T d 94 17 [a0, a1, a2, a3, ni_kl a4, .ref o, a6] st z h Q := ni_T_p rfl rfl
theorem s94_15N : ni_T d 94 15 [a0, a1, a2, a3, a4, a5, a6] (.null :: st) z h Q = ni_T d 94 17 [a0, a1, a2, a3, ni_kl a4, .null, a6] st z h Q := ni_T_p rfl rfl
theorem s94_17 : ni_T d 94 17 [a0, a1, a2, a3, .ref o, a5, a6] st z h Q = ni_T d 94 19 [a0, a1, a2, a3, .ref o, a5, a6] (.ref o :: st) z h Q := ni_T_p rfl rfl
theorem s94_17N : ni_T d 94 17 [a0, a1, a2, a3, .null, a5, a6] st z h Q = ni_T d 94 19 [a0, a1, a2, a3, .null, a5, a6] (.null :: st) z h Q := ni_T_p rfl rfl
theorem s94_19 : ni_T d 94 19 [a0, a1, a2, a3, a4, .ref o, a6] st z h Q = ni_T d 94 21 [a0, a1, a2, a3, a4, .ref o, a6] (.ref o :: st) z h Q := ni_T_p rfl rfl
theorem s94_19N : ni_T d 94 19 [a0, a1, a2, a3, a4, .null, a6] st z h Q = ni_T d 94 21 [a0, a1, a2, a3, a4, .null, a6] (.null :: st) z h Q := ni_T_p rfl rfl
theorem s94_21 : ni_T d 94 21 [a0, a1, a2, .int x, a4, a5, a6] st z h Q = ni_T d 94 22 [a0, a1, a2, .int x, a4, a5, a6] (.int x :: st) z h Q := ni_T_p rfl rfl
theorem s94_22 : ni_T (d + 1) 94 22 [a0, a1, a2, a3, a4, a5, a6] (.int x2 :: .ref o21 :: .ref o20 :: st) z h Q = (Nat.ble (ni_sw st) 8 = true ∧ ni_T d 114 0 [.ref o20, .ref o21, .int x2, .retAddr 0] [] z h (ni_K (d + 1) 94 25 [a0, a1, a2, a3, a4, a5, a6] st z Q)) := ni_T_cse [.ref o20, .ref o21, .int x2] rfl rfl rfl rfl rfl rfl rfl rfl rfl
theorem s94_22N1 : ni_T (d + 1) 94 22 [a0, a1, a2, a3, a4, a5, a6] (.int x2 :: .null :: .ref o20 :: st) z h Q = (Nat.ble (ni_sw st) 8 = true ∧ ni_T d 114 0 [.ref o20, .null, .int x2, .retAddr 0] [] z h (ni_K (d + 1) 94 25 [a0, a1, a2, a3, a4, a5, a6] st z Q)) := ni_T_cse [.ref o20, .null, .int x2] rfl rfl rfl rfl rfl rfl rfl rfl rfl
theorem s94_22N0 : ni_T (d + 1) 94 22 [a0, a1, a2, a3, a4, a5, a6] (.int x2 :: .ref o21 :: .null :: st) z h Q = (Nat.ble (ni_sw st) 8 = true ∧ ni_T d 114 0 [.null, .ref o21, .int x2, .retAddr 0] [] z h (ni_K (d + 1) 94 25 [a0, a1, a2, a3, a4, a5, a6] st z Q)) := ni_T_cse [.null, .ref o21, .int x2] rfl rfl rfl rfl rfl rfl rfl rfl rfl
theorem s94_22N0N1 : ni_T (d + 1) 94 22 [a0, a1, a2, a3, a4, a5, a6] (.int x2 :: .null :: .null :: st) z h Q = (Nat.ble (ni_sw st) 8 = true ∧ ni_T d 114 0 [.null, .null, .int x2, .retAddr 0] [] z h (ni_K (d + 1) 94 25 [a0, a1, a2, a3, a4, a5, a6] st z Q)) := ni_T_cse [.null, .null, .int x2] rfl rfl rfl rfl rfl rfl rfl rfl rfl
theorem s94_25 : ni_T d 94 25 [a0, a1, a2, a3, a4, a5, a6] (.int x :: st) z h Q = ni_T d 94 27 [a0, a1, a2, a3, a4, ni_kl a5, .int x] st z h Q := ni_T_p rfl rfl
theorem s94_27 : ni_T d 94 27 [a0, a1, a2, a3, a4, a5, .int x] st z h Q = ni_T d 94 29 [a0, a1, a2, a3, a4, a5, .int x] (.int x :: st) z h Q := ni_T_p rfl rfl
theorem s94_29 : ni_T d 94 29 [a0, a1, a2, a3, a4, a5, a6] (.int x :: st) z h Q = if x = 0 then ni_T d 94 39 [a0, a1, a2, a3, a4, a5, a6] st z h Q else ni_T d 94 32 [a0, a1, a2, a3, a4, a5, a6] st z h Q := ni_T_b rfl rfl
theorem s94_32 : ni_T d 94 32 [.ref o, a1, a2, a3, a4, a5, a6] st z h Q = ni_T d 94 33 [.ref o, a1, a2, a3, a4, a5, a6] (.ref o :: st) z h Q := ni_T_p rfl rfl
theorem s94_33 : ni_T d 94 33 [a0, a1, a2, a3, a4, a5, .int x] st z h Q = ni_T d 94 35 [a0, a1, a2, a3, a4, a5, .int x] (.int x :: st) z h Q := ni_T_p rfl rfl
theorem s94_35 : ni_T (d + 1) 94 35 [a0, a1, a2, a3, a4, a5, a6] (.int x0 :: .ref o :: st) z h Q = (ni_rc (h o) 6 = true ∧ Nat.ble (ni_sw st) 8 = true ∧ ni_T d 106 0 [.ref o, .int x0] [] z h (ni_K (d + 1) 94 38 [a0, a1, a2, a3, a4, a5, a6] st z Q)) := ni_T_ce [.ref o, .int x0] rfl rfl rfl rfl rfl rfl rfl rfl rfl
theorem s94_38 : ni_T d 94 38 [a0, a1, a2, a3, a4, a5, a6] [.int x] z h Q = Q (some (.int x)) z h := ni_T_i rfl rfl
theorem s94_39 : ni_T d 94 39 [.ref o, a1, a2, a3, a4, a5, a6] st z h Q = ni_T d 94 40 [.ref o, a1, a2, a3, a4, a5, a6] (.ref o :: st) z h Q := ni_T_p rfl rfl
theorem s94_40 : ni_T d 94 40 [a0, a1, a2, a3, a4, a5, a6] (.ref o :: st) z h Q = (ni_is (h o) 6 4 = true ∧ ni_T d 94 43 [a0, a1, a2, a3, a4, a5, a6] (ni_gv (h o) 4 :: st) z h Q) := ni_T_getf rfl
theorem s94_43 : ni_T d 94 43 [.ref o, a1, a2, a3, a4, a5, a6] st z h Q = ni_T d 94 44 [.ref o, a1, a2, a3, a4, a5, a6] (.ref o :: st) z h Q := ni_T_p rfl rfl
theorem s94_44 : ni_T d 94 44 [a0, a1, a2, a3, a4, a5, a6] (.ref o :: st) z h Q = (ni_is (h o) 6 1 = true ∧ ni_T d 94 47 [a0, a1, a2, a3, a4, a5, a6] (ni_gv (h o) 1 :: st) z h Q) := ni_T_getf rfl
theorem s94_47 : ni_T (d + 1) 94 47 [a0, a1, a2, a3, a4, a5, a6] (.ref o20 :: .ref o :: st) z h Q = (ni_rc (h o) 2 = true ∧ Nat.ble (ni_sw st) 8 = true ∧ ni_T d 16 0 [.ref o, .ref o20, .retAddr 0, .retAddr 0] [] z h (ni_K (d + 1) 94 50 [a0, a1, a2, a3, a4, a5, a6] st z Q)) := ni_T_ce [.ref o, .ref o20] rfl rfl rfl rfl rfl rfl rfl rfl rfl
theorem s94_47N0 : ni_T (d + 1) 94 47 [a0, a1, a2, a3, a4, a5, a6] (.null :: .ref o :: st) z h Q = (ni_rc (h o) 2 = true ∧ Nat.ble (ni_sw st) 8 = true ∧ ni_T d 16 0 [.ref o, .null, .retAddr 0, .retAddr 0] [] z h (ni_K (d + 1) 94 50 [a0, a1, a2, a3, a4, a5, a6] st z Q)) := ni_T_ce [.ref o, .null] rfl rfl rfl rfl rfl rfl rfl rfl rfl
theorem s94_50 : ni_T d 94 50 [.ref o, a1, a2, a3, a4, a5, a6] st z h Q = ni_T d 94 51 [.ref o, a1, a2, a3, a4, a5, a6] (.ref o :: st) z h Q := ni_T_p rfl rfl
theorem s94_51 : ni_T d 94 51 [a0, a1, a2, a3, a4, a5, a6] (.ref o :: st) z h Q = (ni_is (h o) 6 4 = true ∧ ni_T d 94 54 [a0, a1, a2, a3, a4, a5, a6] (ni_gv (h o) 4 :: st) z h Q) := ni_T_getf rfl
theorem s94_54 : ni_T d 94 54 [a0, a1, a2, a3, .ref o, a5, a6] st z h Q = ni_T d 94 56 [a0, a1, a2, a3, .ref o, a5, a6] (.ref o :: st) z h Q := ni_T_p rfl rfl
theorem s94_54N : ni_T d 94 54 [a0, a1, a2, a3, .null, a5, a6] st z h Q = ni_T d 94 56 [a0, a1, a2, a3, .null, a5, a6] (.null :: st) z h Q := ni_T_p rfl rfl
theorem s94_56 : ni_T d 94 56 [a0, a1, a2, a3, a4, .ref o, a6] st z h Q = ni_T d 94 58 [a0, a1, a2, a3, a4, .ref o, a6] (.ref o :: st) z h Q := ni_T_p rfl rfl
theorem s94_56N : ni_T d 94 56 [a0, a1, a2, a3, a4, .null, a6] st z h Q = ni_T d 94 58 [a0, a1, a2, a3, a4, .null, a6] (.null :: st) z h Q := ni_T_p rfl rfl
theorem s94_58 : ni_T d 94 58 [a0, a1, a2, .int x, a4, a5, a6] st z h Q = ni_T d 94 59 [a0, a1, a2, .int x, a4, a5, a6] (.int x :: st) z h Q := ni_T_p rfl rfl
theorem s94_59 : ni_T (d + 1) 94 59 [a0, a1, a2, a3, a4, a5, a6] (.int x2 :: .ref o21 :: .ref o20 :: .ref o :: st) z h Q = (ni_rc (h o) 2 = true ∧ Nat.ble (ni_sw st) 8 = true ∧ ni_T d 26 0 [.ref o, .ref o20, .ref o21, .int x2, .retAddr 0, .retAddr 0, .retAddr 0, .retAddr 0, .retAddr 0] [] z h (ni_K (d + 1) 94 62 [a0, a1, a2, a3, a4, a5, a6] st z Q)) := ni_T_ce [.ref o, .ref o20, .ref o21, .int x2] rfl rfl rfl rfl rfl rfl rfl rfl rfl
theorem s94_59N1 : ni_T (d + 1) 94 59 [a0, a1, a2, a3, a4, a5, a6] (.int x2 :: .null :: .ref o20 :: .ref o :: st) z h Q = (ni_rc (h o) 2 = true ∧ Nat.ble (ni_sw st) 8 = true ∧ ni_T d 26 0 [.ref o, .ref o20, .null, .int x2, .retAddr 0, .retAddr 0, .retAddr 0, .retAddr 0, .retAddr 0] [] z h (ni_K (d + 1) 94 62 [a0, a1, a2, a3, a4, a5, a6] st z Q)) := ni_T_ce [.ref o, .ref o20, .null, .int x2] rfl rfl rfl rfl rfl rfl rfl rfl rfl
theorem s94_59N0 : ni_T (d + 1) 94 59 [a0, a1, a2, a3, a4, a5, a6] (.int x2 :: .ref o21 :: .null :: .ref o :: st) z h Q = (ni_rc (h o) 2 = true ∧ Nat.ble (ni_sw st) 8 = true ∧ ni_T d 26 0 [.ref o, .null, .ref o21, .int x2, .retAddr 0, .retAddr 0, .retAddr 0, .retAddr 0, .retAddr 0] [] z h (ni_K (d + 1) 94 62 [a0, a1, a2, a3, a4, a5, a6] st z Q)) := ni_T_ce [.ref o, .null, .ref o21, .int x2] rfl rfl rfl rfl rfl rfl rfl rfl rfl
theorem s94_59N0N1 : ni_T (d + 1) 94 59 [a0, a1, a2, a3, a4, a5, a6] (.int x2 :: .null :: .null :: .ref o :: st) z h Q = (ni_rc (h o) 2 = true ∧ Nat.ble (ni_sw st) 8 = true ∧ ni_T d 26 0 [.ref o, .null, .null, .int x2, .retAddr 0, .retAddr 0, .retAddr 0, .retAddr 0, .retAddr 0] [] z h (ni_K (d + 1) 94 62 [a0, a1, a2, a3, a4, a5, a6] st z Q)) := ni_T_ce [.ref o, .null, .null, .int x2] rfl rfl rfl rfl rfl rfl rfl rfl rfl
theorem s94_62 : ni_T d 94 62 [a0, a1, a2, a3, a4, a5, a6] [.int x] z h Q = Q (some (.int x)) z h := ni_T_i rfl rfl
theorem s95_0 : ni_T d 95 0 [.ref o, a1, a2, a3, a4, a5, a6] st z h Q = ni_T d 95 1 [.ref o, a1, a2, a3, a4, a5, a6] (.ref o :: st) z h Q := ni_T_p rfl rfl
theorem s95_1 : ni_T d 95 1 [a0, a1, a2, a3, a4, a5, a6] (.ref o :: st) z h Q = (ni_is (h o) 6 1 = true ∧ ni_T d 95 4 [a0, a1, a2, a3, a4, a5, a6] (ni_gv (h o) 1 :: st) z h Q) := ni_T_getf rfl
theorem s95_4 : ni_T d 95 4 [a0, .int x, a2, a3, a4, a5, a6] st z h Q = ni_T d 95 5 [a0, .int x, a2, a3, a4, a5, a6] (.int x :: st) z h Q := ni_T_p rfl rfl
theorem s95_5 : ni_T (d + 1) 95 5 [a0, a1, a2, a3, a4, a5, a6] (.int x0 :: .ref o :: st) z h Q = (ni_rc (h o) 5 = true ∧ Nat.ble (ni_sw st) 8 = true ∧ ni_T d 48 0 [.ref o, .int x0] [] z h (ni_K (d + 1) 95 8 [a0, a1, a2, a3, a4, a5, a6] st z Q)) := ni_T_ce [.ref o, .int x0] rfl rfl rfl rfl rfl rfl rfl rfl rfl
theorem s95_8 : ni_T d 95 8 [a0, a1, a2, a3, a4, a5, a6] (.ref o :: st) z h Q = ni_T d 95 10 [a0, a1, a2, ni_kl a3, .ref o, a5, a6] st z h Q := ni_T_p rfl rfl
theorem s95_8N : ni_T d 95 8 [a0, a1, a2, a3, a4, a5, a6] (.null :: st) z h Q = ni_T d 95 10 [a0, a1, a2, ni_kl a3, .null, a5, a6] st z h Q := ni_T_p rfl rfl
theorem s95_10 : ni_T d 95 10 [.ref o, a1, a2, a3, a4, a5, a6] st z h Q = ni_T d 95 11 [.ref o, a1, a2, a3, a4, a5, a6] (.ref o :: st) z h Q := ni_T_p rfl rfl
theorem s95_11 : ni_T d 95 11 [a0, a1, .int x, a3, a4, a5, a6] st z h Q = ni_T d 95 12 [a0, a1, .int x, a3, a4, a5, a6] (.int x :: st) z h Q := ni_T_p rfl rfl
theorem s95_12 : ni_T (d + 1) 95 12 [a0, a1, a2, a3, a4, a5, a6] (.int x0 :: .ref o :: st) z h Q = (ni_rc (h o) 6 = true ∧ Nat.ble (ni_sw st) 8 = true ∧ ni_T d 107 0 [.ref o, .int x0] [] z h (ni_K (d + 1) 95 15 [a0, a1, a2, a3, a4, a5, a6] st z Q)) := ni_T_ce [.ref o, .int x0] rfl rfl rfl rfl rfl rfl rfl rfl rfl
theorem s95_15 : ni_T d 95 15 [a0, a1, a2, a3, a4, a5, a6] (.ref o :: st) z h Q = ni_T d 95 17 [a0, a1, a2, a3, ni_kl a4, .ref o, a6] st z h Q := ni_T_p rfl rfl
theorem s95_15N : ni_T d 95 15 [a0, a1, a2, a3, a4, a5, a6] (.null :: st) z h Q = ni_T d 95 17 [a0, a1, a2, a3, ni_kl a4, .null, a6] st z h Q := ni_T_p rfl rfl
theorem s95_17 : ni_T d 95 17 [a0, a1, a2, a3, .ref o, a5, a6] st z h Q = ni_T d 95 19 [a0, a1, a2, a3, .ref o, a5, a6] (.ref o :: st) z h Q := ni_T_p rfl rfl
theorem s95_17N : ni_T d 95 17 [a0, a1, a2, a3, .null, a5, a6] st z h Q = ni_T d 95 19 [a0, a1, a2, a3, .null, a5, a6] (.null :: st) z h Q := ni_T_p rfl rfl
theorem s95_19 : ni_T d 95 19 [a0, a1, a2, a3, a4, .ref o, a6] st z h Q = ni_T d 95 21 [a0, a1, a2, a3, a4, .ref o, a6] (.ref o :: st) z h Q := ni_T_p rfl rfl
theorem s95_19N : ni_T d 95 19 [a0, a1, a2, a3, a4, .null, a6] st z h Q = ni_T d 95 21 [a0, a1, a2, a3, a4, .null, a6] (.null :: st) z h Q := ni_T_p rfl rfl
theorem s95_21 : ni_T d 95 21 [a0, a1, a2, .int x, a4, a5, a6] st z h Q = ni_T d 95 22 [a0, a1, a2, .int x, a4, a5, a6] (.int x :: st) z h Q := ni_T_p rfl rfl
theorem s95_22 : ni_T (d + 1) 95 22 [a0, a1, a2, a3, a4, a5, a6] (.int x2 :: .ref o21 :: .ref o20 :: st) z h Q = (Nat.ble (ni_sw st) 8 = true ∧ ni_T d 114 0 [.ref o20, .ref o21, .int x2, .retAddr 0] [] z h (ni_K (d + 1) 95 25 [a0, a1, a2, a3, a4, a5, a6] st z Q)) := ni_T_cse [.ref o20, .ref o21, .int x2] rfl rfl rfl rfl rfl rfl rfl rfl rfl
theorem s95_22N1 : ni_T (d + 1) 95 22 [a0, a1, a2, a3, a4, a5, a6] (.int x2 :: .null :: .ref o20 :: st) z h Q = (Nat.ble (ni_sw st) 8 = true ∧ ni_T d 114 0 [.ref o20, .null, .int x2, .retAddr 0] [] z h (ni_K (d + 1) 95 25 [a0, a1, a2, a3, a4, a5, a6] st z Q)) := ni_T_cse [.ref o20, .null, .int x2] rfl rfl rfl rfl rfl rfl rfl rfl rfl
theorem s95_22N0 : ni_T (d + 1) 95 22 [a0, a1, a2, a3, a4, a5, a6] (.int x2 :: .ref o21 :: .null :: st) z h Q = (Nat.ble (ni_sw st) 8 = true ∧ ni_T d 114 0 [.null, .ref o21, .int x2, .retAddr 0] [] z h (ni_K (d + 1) 95 25 [a0, a1, a2, a3, a4, a5, a6] st z Q)) := ni_T_cse [.null, .ref o21, .int x2] rfl rfl rfl rfl rfl rfl rfl rfl rfl
theorem s95_22N0N1 : ni_T (d + 1) 95 22 [a0, a1, a2, a3, a4, a5, a6] (.int x2 :: .null :: .null :: st) z h Q = (Nat.ble (ni_sw st) 8 = true ∧ ni_T d 114 0 [.null, .null, .int x2, .retAddr 0] [] z h (ni_K (d + 1) 95 25 [a0, a1, a2, a3, a4, a5, a6] st z Q)) := ni_T_cse [.null, .null, .int x2] rfl rfl rfl rfl rfl rfl rfl rfl rfl
theorem s95_25 : ni_T d 95 25 [a0, a1, a2, a3, a4, a5, a6] (.int x :: st) z h Q = ni_T d 95 27 [a0, a1, a2, a3, a4, ni_kl a5, .int x] st z h Q := ni_T_p rfl rfl
theorem s95_27 : ni_T d 95 27 [a0, a1, a2, a3, a4, a5, .int x] st z h Q = ni_T d 95 29 [a0, a1, a2, a3, a4, a5, .int x] (.int x :: st) z h Q := ni_T_p rfl rfl
theorem s95_29 : ni_T d 95 29 [a0, a1, a2, a3, a4, a5, a6] (.int x :: st) z h Q = if x = 0 then ni_T d 95 39 [a0, a1, a2, a3, a4, a5, a6] st z h Q else ni_T d 95 32 [a0, a1, a2, a3, a4, a5, a6] st z h Q := ni_T_b rfl rfl
theorem s95_32 : ni_T d 95 32 [.ref o, a1, a2, a3, a4, a5, a6] st z h Q = ni_T d 95 33 [.ref o, a1, a2, a3, a4, a5, a6] (.ref o :: st) z h Q := ni_T_p rfl rfl
theorem s95_33 : ni_T d 95 33 [a0, a1, a2, a3, a4, a5, .int x] st z h Q = ni_T d 95 35 [a0, a1, a2, a3, a4, a5, .int x] (.int x :: st) z h Q := ni_T_p rfl rfl
theorem s95_35 : ni_T (d + 1) 95 35 [a0, a1, a2, a3, a4, a5, a6] (.int x0 :: .ref o :: st) z h Q = (ni_rc (h o) 6 = true ∧ Nat.ble (ni_sw st) 8 = true ∧ ni_T d 105 0 [.ref o, .int x0] [] z h (ni_K (d + 1) 95 38 [a0, a1, a2, a3, a4, a5, a6] st z Q)) := ni_T_ce [.ref o, .int x0] rfl rfl rfl rfl rfl rfl rfl rfl rfl
theorem s95_38 : ni_T d 95 38 [a0, a1, a2, a3, a4, a5, a6] [.int x] z h Q = Q (some (.int x)) z h := ni_T_i rfl rfl
theorem s95_39 : ni_T d 95 39 [.ref o, a1, a2, a3, a4, a5, a6] st z h Q = ni_T d 95 40 [.ref o, a1, a2, a3, a4, a5, a6] (.ref o :: st) z h Q := ni_T_p rfl rfl
theorem s95_40 : ni_T d 95 40 [a0, a1, a2, a3, a4, a5, a6] (.ref o :: st) z h Q = (ni_is (h o) 6 4 = true ∧ ni_T d 95 43 [a0, a1, a2, a3, a4, a5, a6] (ni_gv (h o) 4 :: st) z h Q) := ni_T_getf rfl
theorem s95_43 : ni_T d 95 43 [.ref o, a1, a2, a3, a4, a5, a6] st z h Q = ni_T d 95 44 [.ref o, a1, a2, a3, a4, a5, a6] (.ref o :: st) z h Q := ni_T_p rfl rfl
theorem s95_44 : ni_T d 95 44 [a0, a1, a2, a3, a4, a5, a6] (.ref o :: st) z h Q = (ni_is (h o) 6 1 = true ∧ ni_T d 95 47 [a0, a1, a2, a3, a4, a5, a6] (ni_gv (h o) 1 :: st) z h Q) := ni_T_getf rfl
theorem s95_47 : ni_T (d + 1) 95 47 [a0, a1, a2, a3, a4, a5, a6] (.ref o20 :: .ref o :: st) z h Q = (ni_rc (h o) 2 = true ∧ Nat.ble (ni_sw st) 8 = true ∧ ni_T d 16 0 [.ref o, .ref o20, .retAddr 0, .retAddr 0] [] z h (ni_K (d + 1) 95 50 [a0, a1, a2, a3, a4, a5, a6] st z Q)) := ni_T_ce [.ref o, .ref o20] rfl rfl rfl rfl rfl rfl rfl rfl rfl
theorem s95_47N0 : ni_T (d + 1) 95 47 [a0, a1, a2, a3, a4, a5, a6] (.null :: .ref o :: st) z h Q = (ni_rc (h o) 2 = true ∧ Nat.ble (ni_sw st) 8 = true ∧ ni_T d 16 0 [.ref o, .null, .retAddr 0, .retAddr 0] [] z h (ni_K (d + 1) 95 50 [a0, a1, a2, a3, a4, a5, a6] st z Q)) := ni_T_ce [.ref o, .null] rfl rfl rfl rfl rfl rfl rfl rfl rfl
theorem s95_50 : ni_T d 95 50 [.ref o, a1, a2, a3, a4, a5, a6] st z h Q = ni_T d 95 51 [.ref o, a1, a2, a3, a4, a5, a6] (.ref o :: st) z h Q := ni_T_p rfl rfl
theorem s95_51 : ni_T d 95 51 [a0, a1, a2, a3, a4, a5, a6] (.ref o :: st) z h Q = (ni_is (h o) 6 4 = true ∧ ni_T d 95 54 [a0, a1, a2, a3, a4, a5, a6] (ni_gv (h o) 4 :: st) z h Q) := ni_T_getf rfl
theorem s95_54 : ni_T d 95 54 [a0, a1, a2, a3, .ref o, a5, a6] st z h Q = ni_T d 95 56 [a0, a1, a2, a3, .ref o, a5, a6] (.ref o :: st) z h Q := ni_T_p rfl rfl
theorem s95_54N : ni_T d 95 54 [a0, a1, a2, a3, .null, a5, a6] st z h Q = ni_T d 95 56 [a0, a1, a2, a3, .null, a5, a6] (.null :: st) z h Q := ni_T_p rfl rfl
theorem s95_56 : ni_T d 95 56 [a0, a1, a2, a3, a4, .ref o, a6] st z h Q = ni_T d 95 58 [a0, a1, a2, a3, a4, .ref o, a6] (.ref o :: st) z h Q := ni_T_p rfl rfl
theorem s95_56N : ni_T d 95 56 [a0, a1, a2, a3, a4, .null, a6] st z h Q = ni_T d 95 58 [a0, a1, a2, a3, a4, .null, a6] (.null :: st) z h Q := ni_T_p rfl rfl
theorem s95_58 : ni_T d 95 58 [a0, a1, a2, .int x, a4, a5, a6] st z h Q = ni_T d 95 59 [a0, a1, a2, .int x, a4, a5, a6] (.int x :: st) z h Q := ni_T_p rfl rfl
theorem s95_59 : ni_T (d + 1) 95 59 [a0, a1, a2, a3, a4, a5, a6] (.int x2 :: .ref o21 :: .ref o20 :: .ref o :: st) z h Q = (ni_rc (h o) 2 = true ∧ Nat.ble (ni_sw st) 8 = true ∧ ni_T d 26 0 [.ref o, .ref o20, .ref o21, .int x2, .retAddr 0, .retAddr 0, .retAddr 0, .retAddr 0, .retAddr 0] [] z h (ni_K (d + 1) 95 62 [a0, a1, a2, a3, a4, a5, a6] st z Q)) := ni_T_ce [.ref o, .ref o20, .ref o21, .int x2] rfl rfl rfl rfl rfl rfl rfl rfl rfl
theorem s95_59N1 : ni_T (d + 1) 95 59 [a0, a1, a2, a3, a4, a5, a6] (.int x2 :: .null :: .ref o20 :: .ref o :: st) z h Q = (ni_rc (h o) 2 = true ∧ Nat.ble (ni_sw st) 8 = true ∧ ni_T d 26 0 [.ref o, .ref o20, .null, .int x2, .retAddr 0, .retAddr 0, .retAddr 0, .retAddr 0, .retAddr 0] [] z h (ni_K (d + 1) 95 62 [a0, a1, a2, a3, a4, a5, a6] st z Q)) := ni_T_ce [.ref o, .ref o20, .null, .int x2] rfl rfl rfl rfl rfl rfl rfl rfl rfl
theorem s95_59N0 : ni_T (d + 1) 95 59 [a0, a1, a2, a3, a4, a5, a6] (.int x2 :: .ref o21 :: .null :: .ref o :: st) z h Q = (ni_rc (h o) 2 = true ∧ Nat.ble (ni_sw st) 8 = true ∧ ni_T d 26 0 [.ref o, .null, .ref o21, .int x2, .retAddr 0, .retAddr 0, .retAddr 0, .retAddr 0, .retAddr 0] [] z h (ni_K (d + 1) 95 62 [a0, a1, a2, a3, a4, a5, a6] st z Q)) := ni_T_ce [.ref o, .null, .ref o21, .int x2] rfl rfl rfl rfl rfl rfl rfl rfl rfl
theorem s95_59N0N1 : ni_T (d + 1) 95 59 [a0, a1, a2, a3, a4, a5, a6] (.int x2 :: .null :: .null :: .ref o :: st) z h Q = (ni_rc (h o) 2 = true ∧ Nat.ble (ni_sw st) 8 = true ∧ ni_T d 26 0 [.ref o, .null, .null, .int x2, .retAddr 0, .retAddr 0, .retAddr 0, .retAddr 0, .retAddr 0] [] z h (ni_K (d + 1) 95 62 [a0, a1, a2, a3, a4, a5, a6] st z Q)) := ni_T_ce [.ref o, .null, .null, .int x2] rfl rfl rfl rfl rfl rfl rfl rfl rfl
theorem s95_62 : ni_T d 95 62 [a0, a1, a2, a3, a4, a5, a6] st z h Q = ni_T d 95 63 [a0, a1, a2, a3, a4, a5, a6] (.int (-1) :: st) z h Q := ni_T_p rfl rfl
theorem s95_63 : ni_T d 95 63 [a0, a1, a2, a3, a4, a5, a6] (.int y :: .int x :: st) z h Q = if x = y then ni_T d 95 66 [a0, a1, a2, a3, a4, a5, a6] st z h Q else ni_T d 95 76 [a0, a1, a2, a3, a4, a5, a6] st z h Q := ni_T_b rfl rfl
theorem s95_66 : ni_T d 95 66 [.ref o, a1, a2, a3, a4, a5, a6] st z h Q = ni_T d 95 67 [.ref o, a1, a2, a3, a4, a5, a6] (.ref o :: st) z h Q := ni_T_p rfl rfl
theorem s95_67 : ni_T d 95 67 [a0, a1, a2, a3, a4, a5, a6] (.ref o :: st) z h Q = (ni_is (h o) 6 4 = true ∧ ni_T d 95 70 [a0, a1, a2, a3, a4, a5, a6] (ni_gv (h o) 4 :: st) z h Q) := ni_T_getf rfl
theorem s95_70 : ni_T d 95 70 [a0, a1, a2, a3, a4, a5, a6] (.ref o :: st) z h Q = (ni_is (h o) 2 6 = true ∧ ni_T d 95 73 [a0, a1, a2, a3, a4, a5, a6] (ni_gv (h o) 6 :: st) z h Q) := ni_T_getf rfl
theorem s95_73 : ni_T d 95 73 [a0, a1, a2, a3, a4, a5, a6] st z h Q = ni_T d 95 82 [a0, a1, a2, a3, a4, a5, a6] st z h Q := ni_T_p rfl rfl
theorem s95_76 : ni_T d 95 76 [.ref o, a1, a2, a3, a4, a5, a6] st z h Q = ni_T d 95 77 [.ref o, a1, a2, a3, a4, a5, a6] (.ref o :: st) z h Q := ni_T_p rfl rfl
theorem s95_77 : ni_T d 95 77 [a0, a1, a2, a3, a4, a5, a6] st z h Q = ni_T d 95 79 [a0, a1, a2, a3, a4, a5, a6] (.int (-6) :: st) z h Q := ni_T_p rfl rfl
theorem s95_79 : ni_T (d + 1) 95 79 [a0, a1, a2, a3, a4, a5, a6] (.int x0 :: .ref o :: st) z h Q = (ni_rc (h o) 6 = true ∧ Nat.ble (ni_sw st) 8 = true ∧ ni_T d 105 0 [.ref o, .int x0] [] z h (ni_K (d + 1) 95 82 [a0, a1, a2, a3, a4, a5, a6] st z Q)) := ni_T_ce [.ref o, .int x0] rfl rfl rfl rfl rfl rfl rfl rfl rfl
theorem s95_82 : ni_T d 95 82 [a0, a1, a2, a3, a4, a5, a6] [.int x] z h Q = Q (some (.int x)) z h := ni_T_i rfl rfl
theorem s96_0 : ni_T d 96 0 [.ref o, a1, a2, a3] st z h Q = ni_T d 96 1 [.ref o, a1, a2, a3] (.ref o :: st) z h Q := ni_T_p rfl rfl
theorem s96_1 : ni_T d 96 1 [a0, a1, a2, a3] (.ref o :: st) z h Q = (ni_is (h o) 6 1 = true ∧ ni_T d 96 4 [a0, a1, a2, a3] (ni_gv (h o) 1 :: st) z h Q) := ni_T_getf rfl
theorem s96_4 : ni_T d 96 4 [.ref o, a1, a2, a3] st z h Q = ni_T d 96 5 [.ref o, a1, a2, a3] (.ref o :: st) z h Q := ni_T_p rfl rfl
theorem s96_5 : ni_T d 96 5 [a0, a1, a2, a3] (.ref o :: st) z h Q = (ni_is (h o) 6 1 = true ∧ ni_T d 96 8 [a0, a1, a2, a3] (ni_gv (h o) 1 :: st) z h Q) := ni_T_getf rfl
theorem s96_8 : ni_T d 96 8 [a0, a1, a2, a3] (.ref o :: st) z h Q = (ni_is (h o) 5 3 = true ∧ ni_T d 96 11 [a0, a1, a2, a3] (ni_gv (h o) 3 :: st) z h Q) := ni_T_getf rfl
theorem s96_11 : ni_T (d + 1) 96 11 [a0, a1, a2, a3] (.int x0 :: .ref o :: st) z h Q = (ni_rc (h o) 5 = true ∧ Nat.ble (ni_sw st) 8 = true ∧ ni_T d 48 0 [.ref o, .int x0] [] z h (ni_K (d + 1) 96 14 [a0, a1, a2, a3] st z Q)) := ni_T_ce [.ref o, .int x0] rfl rfl rfl rfl rfl rfl rfl rfl rfl
theorem s96_14 : ni_T d 96 14 [a0, a1, a2, a3] (.ref o :: st) z h Q = ni_T d 96 15 [a0, a1, ni_kl a2, .ref o] st z h Q := ni_T_p rfl rfl
theorem s96_14N : ni_T d 96 14 [a0, a1, a2, a3] (.null :: st) z h Q = ni_T d 96 15 [a0, a1, ni_kl a2, .null] st z h Q := ni_T_p rfl rfl
theorem s96_15 : ni_T d 96 15 [a0, a1, a2, .ref o] st z h Q = ni_T d 96 16 [a0, a1, a2, .ref o] (.ref o :: st) z h Q := ni_T_p rfl rfl
theorem s96_15N : ni_T d 96 15 [a0, a1, a2, .null] st z h Q = ni_T d 96 16 [a0, a1, a2, .null] (.null :: st) z h Q := ni_T_p rfl rfl
theorem s96_16N : ni_T d 96 16 [a0, a1, a2, a3] (.null :: st) z h Q = ni_T d 96 19 [a0, a1, a2, a3] st z h Q := ni_T_p rfl rfl
theorem s96_16 : ni_T d 96 16 [a0, a1, a2, a3] (.ref o :: st) z h Q = ni_T d 96 26 [a0, a1, a2, a3] st z h Q := ni_T_p rfl rfl
theorem s96_19 : ni_T d 96 19 [.ref o, a1, a2, a3] st z h Q = ni_T d 96 20 [.ref o, a1, a2, a3] (.ref o :: st) z h Q := ni_T_p rfl rfl
theorem s96_20 : ni_T d 96 20 [a0, a1, a2, a3] st z h Q = ni_T d 96 22 [a0, a1, a2, a3] (.int (-5) :: st) z h Q := ni_T_p rfl rfl
theorem s96_22 : ni_T (d + 1) 96 22 [a0, a1, a2, a3] (.int x0 :: .ref o :: st) z h Q = (ni_rc (h o) 6 = true ∧ Nat.ble (ni_sw st) 8 = true ∧ ni_T d 105 0 [.ref o, .int x0] [] z h (ni_K (d + 1) 96 25 [a0, a1, a2, a3] st z Q)) := ni_T_ce [.ref o, .int x0] rfl rfl rfl rfl rfl rfl rfl rfl rfl
theorem s96_25 : ni_T d 96 25 [a0, a1, a2, a3] [.int x] z h Q = Q (some (.int x)) z h := ni_T_i rfl rfl
theorem s96_26 : ni_T d 96 26 [a0, a1, .int x, a3] st z h Q = ni_T d 96 27 [a0, a1, .int x, a3] (.int x :: st) z h Q := ni_T_p rfl rfl
theorem s96_27 : ni_T (d + 1) 96 27 [a0, a1, a2, a3] (.int x0 :: st) z h Q = (Nat.ble (ni_sw st) 8 = true ∧ ni_T d 109 0 [.int x0] [] z h (ni_K (d + 1) 96 30 [a0, a1, a2, a3] st z Q)) := ni_T_cse [.int x0] rfl rfl rfl rfl rfl rfl rfl rfl rfl
theorem s96_30 : ni_T d 96 30 [a0, a1, a2, a3] (.int x :: st) z h Q = if x = 0 then ni_T d 96 48 [a0, a1, a2, a3] st z h Q else ni_T d 96 33 [a0, a1, a2, a3] st z h Q := ni_T_b rfl rfl
theorem s96_33 : ni_T d 96 33 [a0, .int x, a2, a3] st z h Q = ni_T d 96 34 [a0, .int x, a2, a3] (.int x :: st) z h Q := ni_T_p rfl rfl
theorem s96_34 : ni_T d 96 34 [a0, a1, a2, a3] (.int x :: st) z h Q = if x = 0 then ni_T d 96 48 [a0, a1, a2, a3] st z h Q else ni_T d 96 37 [a0, a1, a2, a3] st z h Q := ni_T_b rfl rfl
theorem s96_37 : ni_T d 96 37 [.ref o, a1, a2, a3] st z h Q = ni_T d 96 38 [.ref o, a1, a2, a3] (.ref o :: st) z h Q := ni_T_p rfl rfl
theorem s96_38 : ni_T d 96 38 [a0, a1, a2, a3] (.ref o :: st) z h Q = (ni_is (h o) 6 1 = true ∧ ni_T d 96 41 [a0, a1, a2, a3] (ni_gv (h o) 1 :: st) z h Q) := ni_T_getf rfl
theorem s96_41 : ni_T d 96 41 [a0, .int x, a2, a3] st z h Q = ni_T d 96 42 [a0, .int x, a2, a3] (.int x :: st) z h Q := ni_T_p rfl rfl
theorem s96_42 : ni_T (d + 1) 96 42 [a0, a1, a2, a3] (.int x0 :: .ref o :: st) z h Q = (ni_rc (h o) 5 = true ∧ Nat.ble (ni_sw st) 8 = true ∧ ni_T d 54 0 [.ref o, .int x0] [] z h (ni_K (d + 1) 96 45 [a0, a1, a2, a3] st z Q)) := ni_T_ce [.ref o, .int x0] rfl rfl rfl rfl rfl rfl rfl rfl rfl
theorem s96_45 : ni_T d 96 45 [a0, a1, a2, a3] (.int x :: st) z h Q = if x = 0 then ni_T d 96 48 [a0, a1, a2, a3] st z h Q else ni_T d 96 55 [a0, a1, a2, a3] st z h Q := ni_T_b rfl rfl
theorem s96_48 : ni_T d 96 48 [.ref o, a1, a2, a3] st z h Q = ni_T d 96 49 [.ref o, a1, a2, a3] (.ref o :: st) z h Q := ni_T_p rfl rfl
theorem s96_49 : ni_T d 96 49 [a0, a1, a2, a3] st z h Q = ni_T d 96 51 [a0, a1, a2, a3] (.int (-6) :: st) z h Q := ni_T_p rfl rfl
theorem s96_51 : ni_T (d + 1) 96 51 [a0, a1, a2, a3] (.int x0 :: .ref o :: st) z h Q = (ni_rc (h o) 6 = true ∧ Nat.ble (ni_sw st) 8 = true ∧ ni_T d 105 0 [.ref o, .int x0] [] z h (ni_K (d + 1) 96 54 [a0, a1, a2, a3] st z Q)) := ni_T_ce [.ref o, .int x0] rfl rfl rfl rfl rfl rfl rfl rfl rfl
theorem s96_54 : ni_T d 96 54 [a0, a1, a2, a3] [.int x] z h Q = Q (some (.int x)) z h := ni_T_i rfl rfl
theorem s96_55 : ni_T d 96 55 [.ref o, a1, a2, a3] st z h Q = ni_T d 96 56 [.ref o, a1, a2, a3] (.ref o :: st) z h Q := ni_T_p rfl rfl
theorem s96_56 : ni_T d 96 56 [a0, a1, a2, a3] (.ref o :: st) z h Q = (ni_is (h o) 6 4 = true ∧ ni_T d 96 59 [a0, a1, a2, a3] (ni_gv (h o) 4 :: st) z h Q) := ni_T_getf rfl
theorem s96_59 : ni_T d 96 59 [.ref o, a1, a2, a3] st z h Q = ni_T d 96 60 [.ref o, a1, a2, a3] (.ref o :: st) z h Q := ni_T_p rfl rfl
theorem s96_60 : ni_T d 96 60 [a0, a1, a2, a3] (.ref o :: st) z h Q = (ni_is (h o) 6 1 = true ∧ ni_T d 96 63 [a0, a1, a2, a3] (ni_gv (h o) 1 :: st) z h Q) := ni_T_getf rfl
theorem s96_63 : ni_T (d + 1) 96 63 [a0, a1, a2, a3] (.ref o20 :: .ref o :: st) z h Q = (ni_rc (h o) 2 = true ∧ Nat.ble (ni_sw st) 8 = true ∧ ni_T d 16 0 [.ref o, .ref o20, .retAddr 0, .retAddr 0] [] z h (ni_K (d + 1) 96 66 [a0, a1, a2, a3] st z Q)) := ni_T_ce [.ref o, .ref o20] rfl rfl rfl rfl rfl rfl rfl rfl rfl
theorem s96_63N0 : ni_T (d + 1) 96 63 [a0, a1, a2, a3] (.null :: .ref o :: st) z h Q = (ni_rc (h o) 2 = true ∧ Nat.ble (ni_sw st) 8 = true ∧ ni_T d 16 0 [.ref o, .null, .retAddr 0, .retAddr 0] [] z h (ni_K (d + 1) 96 66 [a0, a1, a2, a3] st z Q)) := ni_T_ce [.ref o, .null] rfl rfl rfl rfl rfl rfl rfl rfl rfl
theorem s96_66 : ni_T d 96 66 [.ref o, a1, a2, a3] st z h Q = ni_T d 96 67 [.ref o, a1, a2, a3] (.ref o :: st) z h Q := ni_T_p rfl rfl
theorem s96_67 : ni_T d 96 67 [a0, a1, a2, .ref o] st z h Q = ni_T d 96 68 [a0, a1, a2, .ref o] (.ref o :: st) z h Q := ni_T_p rfl rfl
theorem s96_67N : ni_T d 96 67 [a0, a1, a2, .null] st z h Q = ni_T d 96 68 [a0, a1, a2, .null] (.null :: st) z h Q := ni_T_p rfl rfl
theorem s96_68 : ni_T d 96 68 [a0, .int x, a2, a3] st z h Q = ni_T d 96 69 [a0, .int x, a2, a3] (.int x :: st) z h Q := ni_T_p rfl rfl
theorem s96_69 : ni_T d 96 69 [a0, a1, .int x, a3] st z h Q = ni_T d 96 70 [a0, a1, .int x, a3] (.int x :: st) z h Q := ni_T_p rfl rfl
theorem s96_70 : ni_T (d + 1) 96 70 [a0, a1, a2, a3] (.int x2 :: .int x1 :: .ref o20 :: .ref o :: st) z h Q = (ni_rc (h o) 6 = true ∧ Nat.ble (ni_sw st) 8 = true ∧ ni_T d 115 0 [.ref o, .ref o20, .int x1, .int x2, .retAddr 0] [] z h (ni_K (d + 1) 96 73 [a0, a1, a2, a3] st z Q)) := ni_T_ce [.ref o, .ref o20, .int x1, .int x2] rfl rfl rfl rfl rfl rfl rfl rfl rfl
theorem s96_70N0 : ni_T (d + 1) 96 70 [a0, a1, a2, a3] (.int x2 :: .int x1 :: .null :: .ref o :: st) z h Q = (ni_rc (h o) 6 = true ∧ Nat.ble (ni_sw st) 8 = true ∧ ni_T d 115 0 [.ref o, .null, .int x1, .int x2, .retAddr 0] [] z h (ni_K (d + 1) 96 73 [a0, a1, a2, a3] st z Q)) := ni_T_ce [.ref o, .null, .int x1, .int x2] rfl rfl rfl rfl rfl rfl rfl rfl rfl
theorem s96_73 : ni_T d 96 73 [a0, a1, a2, a3] (.int x :: st) z h Q = if x = 0 then ni_T d 96 80 [a0, a1, a2, a3] st z h Q else ni_T d 96 76 [a0, a1, a2, a3] st z h Q := ni_T_b rfl rfl
theorem s96_76 : ni_T d 96 76 [a0, a1, a2, a3] st z h Q = ni_T d 96 77 [a0, a1, a2, a3] (.int 1 :: st) z h Q := ni_T_p rfl rfl
theorem s96_77 : ni_T d 96 77 [a0, a1, a2, a3] st z h Q = ni_T d 96 81 [a0, a1, a2, a3] st z h Q := ni_T_p rfl rfl
theorem s96_80 : ni_T d 96 80 [a0, a1, a2, a3] st z h Q = ni_T d 96 81 [a0, a1, a2, a3] (.int 0 :: st) z h Q := ni_T_p rfl rfl
theorem s96_81 : ni_T d 96 81 [a0, a1, a2, a3] [.int x] z h Q = Q (some (.int x)) z h := ni_T_i rfl rfl
theorem s97_0 : ni_T d 97 0 [a0, .int x] st z h Q = ni_T d 97 1 [a0, .int x] (.int x :: st) z h Q := ni_T_p rfl rfl
theorem s97_1 : ni_T d 97 1 [a0, a1] (.int x :: st) z h Q = if x < 0 then ni_T d 97 9 [a0, a1] st z h Q else ni_T d 97 4 [a0, a1] st z h Q := ni_T_b rfl rfl
theorem s97_4 : ni_T d 97 4 [a0, .int x] st z h Q = ni_T d 97 5 [a0, .int x] (.int x :: st) z h Q := ni_T_p rfl rfl
theorem s97_5 : ni_T d 97 5 [a0, a1] st z h Q = ni_T d 97 6 [a0, a1] (.int 2 :: st) z h Q := ni_T_p rfl rfl
theorem s97_6 : ni_T d 97 6 [a0, a1] (.int y :: .int x :: st) z h Q = if x ≤ y then ni_T d 97 16 [a0, a1] st z h Q else ni_T d 97 9 [a0, a1] st z h Q := ni_T_b rfl rfl
theorem s97_9 : ni_T d 97 9 [.ref o, a1] st z h Q = ni_T d 97 10 [.ref o, a1] (.ref o :: st) z h Q := ni_T_p rfl rfl
theorem s97_10 : ni_T d 97 10 [a0, a1] st z h Q = ni_T d 97 12 [a0, a1] (.int (-6) :: st) z h Q := ni_T_p rfl rfl
theorem s97_12 : ni_T (d + 1) 97 12 [a0, a1] (.int x0 :: .ref o :: st) z h Q = (ni_rc (h o) 6 = true ∧ Nat.ble (ni_sw st) 8 = true ∧ ni_T d 105 0 [.ref o, .int x0] [] z h (ni_K (d + 1) 97 15 [a0, a1] st z Q)) := ni_T_ce [.ref o, .int x0] rfl rfl rfl rfl rfl rfl rfl rfl rfl
theorem s97_15 : ni_T d 97 15 [a0, a1] [.int x] z h Q = Q (some (.int x)) z h := ni_T_i rfl rfl
theorem s97_16 : ni_T d 97 16 [.ref o, a1] st z h Q = ni_T d 97 17 [.ref o, a1] (.ref o :: st) z h Q := ni_T_p rfl rfl
theorem s97_17 : ni_T d 97 17 [a0, a1] (.ref o :: st) z h Q = (ni_is (h o) 6 1 = true ∧ ni_T d 97 20 [a0, a1] (ni_gv (h o) 1 :: st) z h Q) := ni_T_getf rfl
theorem s97_20 : ni_T d 97 20 [a0, .int x] st z h Q = ni_T d 97 21 [a0, .int x] (.int x :: st) z h Q := ni_T_p rfl rfl
theorem s97_21 : ni_T (d + 1) 97 21 [a0, a1] (.int x0 :: .ref o :: st) z h Q = (ni_rc (h o) 5 = true ∧ Nat.ble (ni_sw st) 8 = true ∧ ni_T d 64 0 [.ref o, .int x0, .retAddr 0, .retAddr 0, .retAddr 0, .retAddr 0] [] z h (ni_K (d + 1) 97 24 [a0, a1] st z Q)) := ni_T_ce [.ref o, .int x0] rfl rfl rfl rfl rfl rfl rfl rfl rfl
theorem s97_24 : ni_T d 97 24 [a0, a1] [.int x] z h Q = Q (some (.int x)) z h := ni_T_i rfl rfl
theorem s98_0 : ni_T d 98 0 [.ref o, a1, a2, a3] st z h Q = ni_T d 98 1 [.ref o, a1, a2, a3] (.ref o :: st) z h Q := ni_T_p rfl rfl
theorem s98_1 : ni_T d 98 1 [a0, a1, a2, a3] (.ref o :: st) z h Q = (ni_is (h o) 6 1 = true ∧ ni_T d 98 4 [a0, a1, a2, a3] (ni_gv (h o) 1 :: st) z h Q) := ni_T_getf rfl
theorem s98_4 : ni_T d 98 4 [a0, a1, a2, a3] (.ref o :: st) z h Q = (ni_is (h o) 5 2 = true ∧ ni_T d 98 7 [a0, a1, a2, a3] (ni_gv (h o) 2 :: st) z h Q) := ni_T_getf rfl
theorem s98_7 : ni_T d 98 7 [a0, a1, a2, a3] (.int x :: st) z h Q = if x = 0 then ni_T d 98 10 [a0, a1, a2, a3] st z h Q else ni_T d 98 17 [a0, a1, a2, a3] st z h Q := ni_T_b rfl rfl
theorem s98_10 : ni_T d 98 10 [.ref o, a1, a2, a3] st z h Q = ni_T d 98 11 [.ref o, a1, a2, a3] (.ref o :: st) z h Q := ni_T_p rfl rfl
theorem s98_11 : ni_T d 98 11 [a0, a1, a2, a3] st z h Q = ni_T d 98 13 [a0, a1, a2, a3] (.int (-5) :: st) z h Q := ni_T_p rfl rfl
theorem s98_13 : ni_T (d + 1) 98 13 [a0, a1, a2, a3] (.int x0 :: .ref o :: st) z h Q = (ni_rc (h o) 6 = true ∧ Nat.ble (ni_sw st) 8 = true ∧ ni_T d 105 0 [.ref o, .int x0] [] z h (ni_K (d + 1) 98 16 [a0, a1, a2, a3] st z Q)) := ni_T_ce [.ref o, .int x0] rfl rfl rfl rfl rfl rfl rfl rfl rfl
theorem s98_16 : ni_T d 98 16 [a0, a1, a2, a3] [.int x] z h Q = Q (some (.int x)) z h := ni_T_i rfl rfl
theorem s98_17 : ni_T d 98 17 [a0, .int x, a2, a3] st z h Q = ni_T d 98 18 [a0, .int x, a2, a3] (.int x :: st) z h Q := ni_T_p rfl rfl
theorem s98_18 : ni_T d 98 18 [a0, a1, a2, a3] st z h Q = ni_T d 98 19 [a0, a1, a2, a3] (.int 1 :: st) z h Q := ni_T_p rfl rfl
theorem s98_19 : ni_T d 98 19 [a0, a1, a2, a3] (.int y :: .int x :: st) z h Q = if x < y then ni_T d 98 28 [a0, a1, a2, a3] st z h Q else ni_T d 98 22 [a0, a1, a2, a3] st z h Q := ni_T_b rfl rfl
theorem s98_22 : ni_T d 98 22 [a0, .int x, a2, a3] st z h Q = ni_T d 98 23 [a0, .int x, a2, a3] (.int x :: st) z h Q := ni_T_p rfl rfl
theorem s98_23 : ni_T d 98 23 [a0, a1, a2, a3] st z h Q = ni_T d 98 25 [a0, a1, a2, a3] (.int 20 :: st) z h Q := ni_T_p rfl rfl
theorem s98_25 : ni_T d 98 25 [a0, a1, a2, a3] (.int y :: .int x :: st) z h Q = if x ≤ y then ni_T d 98 35 [a0, a1, a2, a3] st z h Q else ni_T d 98 28 [a0, a1, a2, a3] st z h Q := ni_T_b rfl rfl
theorem s98_28 : ni_T d 98 28 [.ref o, a1, a2, a3] st z h Q = ni_T d 98 29 [.ref o, a1, a2, a3] (.ref o :: st) z h Q := ni_T_p rfl rfl
theorem s98_29 : ni_T d 98 29 [a0, a1, a2, a3] st z h Q = ni_T d 98 31 [a0, a1, a2, a3] (.int (-6) :: st) z h Q := ni_T_p rfl rfl
theorem s98_31 : ni_T (d + 1) 98 31 [a0, a1, a2, a3] (.int x0 :: .ref o :: st) z h Q = (ni_rc (h o) 6 = true ∧ Nat.ble (ni_sw st) 8 = true ∧ ni_T d 105 0 [.ref o, .int x0] [] z h (ni_K (d + 1) 98 34 [a0, a1, a2, a3] st z Q)) := ni_T_ce [.ref o, .int x0] rfl rfl rfl rfl rfl rfl rfl rfl rfl
theorem s98_34 : ni_T d 98 34 [a0, a1, a2, a3] [.int x] z h Q = Q (some (.int x)) z h := ni_T_i rfl rfl
theorem s98_35 : ni_T d 98 35 [.ref o, a1, a2, a3] st z h Q = ni_T d 98 36 [.ref o, a1, a2, a3] (.ref o :: st) z h Q := ni_T_p rfl rfl
theorem s98_36 : ni_T d 98 36 [a0, a1, a2, a3] (.ref o :: st) z h Q = (ni_is (h o) 6 1 = true ∧ ni_T d 98 39 [a0, a1, a2, a3] (ni_gv (h o) 1 :: st) z h Q) := ni_T_getf rfl
theorem s98_39 : ni_T d 98 39 [a0, a1, a2, a3] (.ref o :: st) z h Q = (ni_is (h o) 5 4 = true ∧ ni_T d 98 42 [a0, a1, a2, a3] (ni_gv (h o) 4 :: st) z h Q) := ni_T_getf rfl
theorem s98_42 : ni_T d 98 42 [a0, a1, a2, a3] (.int x :: st) z h Q = ni_T d 98 43 [a0, ni_kl a1, .int x, a3] st z h Q := ni_T_p rfl rfl
theorem s98_43 : ni_T d 98 43 [a0, a1, a2, a3] st z h Q = ni_T d 98 44 [a0, a1, a2, a3] (.int 0 :: st) z h Q := ni_T_p rfl rfl
theorem s98_44 : ni_T d 98 44 [a0, a1, a2, a3] (.int x :: st) z h Q = ni_T d 98 45 [a0, a1, ni_kl a2, .int x] st z h Q := ni_T_p rfl rfl
theorem s98_45 : ni_T d 98 45 [a0, a1, a2, .int x] st z h Q = ni_T d 98 46 [a0, a1, a2, .int x] (.int x :: st) z h Q := ni_T_p rfl rfl
theorem s98_46 : ni_T d 98 46 [a0, .int x, a2, a3] st z h Q = ni_T d 98 47 [a0, .int x, a2, a3] (.int x :: st) z h Q := ni_T_p rfl rfl
theorem s98_47 : ni_T d 98 47 [a0, a1, a2, a3] (.int y :: .int x :: st) z h Q = if y ≤ x then ni_T d 98 60 [a0, a1, a2, a3] st z h Q else ni_T d 98 50 [a0, a1, a2, a3] st z h Q := ni_T_b rfl rfl
theorem s98_50 : ni_T d 98 50 [.ref o, a1, a2, a3] st z h Q = ni_T d 98 51 [.ref o, a1, a2, a3] (.ref o :: st) z h Q := ni_T_p rfl rfl
theorem s98_51 : ni_T (d + 1) 98 51 [a0, a1, a2, a3] (.ref o :: st) z h Q = (ni_rc (h o) 6 = true ∧ Nat.ble (ni_sw st) 8 = true ∧ ni_T d 116 0 [.ref o, .retAddr 0, .retAddr 0, .retAddr 0] [] z h (ni_K (d + 1) 98 54 [a0, a1, a2, a3] st z Q)) := ni_T_ce [.ref o] rfl rfl rfl rfl rfl rfl rfl rfl rfl
theorem s98_54 : ni_T d 98 54 [a0, a1, a2, .int x] st z h Q = ni_T d 98 57 [a0, a1, ni_kl a2, .int (x + 1)] st z h Q := ni_T_p rfl rfl
theorem s98_57 : ni_T d 98 57 [a0, a1, a2, a3] st z h Q = ni_T d 98 45 [a0, a1, a2, a3] st z h Q := ni_T_p rfl rfl
theorem s98_60 : ni_T d 98 60 [.ref o, a1, a2, a3] st z h Q = ni_T d 98 61 [.ref o, a1, a2, a3] (.ref o :: st) z h Q := ni_T_p rfl rfl
theorem s98_61 : ni_T d 98 61 [a0, a1, a2, a3] (.ref o :: st) z h Q = (ni_is (h o) 6 1 = true ∧ ni_T d 98 64 [a0, a1, a2, a3] (ni_gv (h o) 1 :: st) z h Q) := ni_T_getf rfl
theorem s98_64 : ni_T d 98 64 [a0, a1, a2, a3] (.ref o :: st) z h Q = (ni_is (h o) 5 4 = true ∧ ni_T d 98 67 [a0, a1, a2, a3] (ni_gv (h o) 4 :: st) z h Q) := ni_T_getf rfl
theorem s98_67 : ni_T d 98 67 [a0, a1, .int x, a3] st z h Q = ni_T d 98 68 [a0, a1, .int x, a3] (.int x :: st) z h Q := ni_T_p rfl rfl
theorem s98_68 : ni_T d 98 68 [a0, a1, a2, a3] (.int y :: .int x :: st) z h Q = ni_T d 98 69 [a0, a1, a2, a3] (.int (x - y) :: st) z h Q := ni_T_p rfl rfl
theorem s98_69 : ni_T d 98 69 [a0, a1, a2, a3] [.int x] z h Q = Q (some (.int x)) z h := ni_T_i rfl rfl
theorem s99_0 : ni_T d 99 0 [.ref o, a1, a2] st z h Q = ni_T d 99 1 [.ref o, a1, a2] (.ref o :: st) z h Q := ni_T_p rfl rfl
theorem s99_1 : ni_T d 99 1 [a0, a1, a2] (.ref o :: st) z h Q = (ni_is (h o) 6 1 = true ∧ ni_T d 99 4 [a0, a1, a2] (ni_gv (h o) 1 :: st) z h Q) := ni_T_getf rfl
theorem s99_4 : ni_T d 99 4 [a0, a1, a2] (.ref o :: st) z h Q = (ni_is (h o) 5 5 = true ∧ ni_T d 99 7 [a0, a1, a2] (ni_gv (h o) 5 :: st) z h Q) := ni_T_getf rfl
theorem s99_7 : ni_T d 99 7 [a0, a1, a2] (.int x :: st) z h Q = ni_T d 99 8 [a0, ni_kl a1, .int x] st z h Q := ni_T_p rfl rfl
theorem s99_8 : ni_T d 99 8 [.ref o, a1, a2] st z h Q = ni_T d 99 9 [.ref o, a1, a2] (.ref o :: st) z h Q := ni_T_p rfl rfl
theorem s99_9 : ni_T d 99 9 [a0, a1, a2] (.ref o :: st) z h Q = (ni_is (h o) 6 1 = true ∧ ni_T d 99 12 [a0, a1, a2] (ni_gv (h o) 1 :: st) z h Q) := ni_T_getf rfl
theorem s99_12 : ni_T d 99 12 [a0, .int x, a2] st z h Q = ni_T d 99 13 [a0, .int x, a2] (.int x :: st) z h Q := ni_T_p rfl rfl
theorem s99_13 : ni_T d 99 13 [a0, a1, a2] (b0 :: .ref o :: st) z h Q = ((Nat.ble 5 7 && ni_is (h o) 5 5 && ni_fit (.int) b0) = true ∧ ni_T d 99 16 [a0, a1, a2] st z (ni_up h o (ni_pv (h o) 5 b0)) Q) := ni_T_putf rfl
theorem s99_16 : ni_T d 99 16 [a0, a1, .int x] st z h Q = ni_T d 99 17 [a0, a1, .int x] (.int x :: st) z h Q := ni_T_p rfl rfl
theorem s99_17 : ni_T d 99 17 [a0, a1, a2] [.int x] z h Q = Q (some (.int x)) z h := ni_T_i rfl rfl
theorem s100_0 : ni_T d 100 0 [.ref o, a1, a2, a3] st z h Q = ni_T d 100 1 [.ref o, a1, a2, a3] (.ref o :: st) z h Q := ni_T_p rfl rfl
theorem s100_1 : ni_T d 100 1 [a0, a1, a2, a3] (.ref o :: st) z h Q = (ni_is (h o) 6 5 = true ∧ ni_T d 100 4 [a0, a1, a2, a3] (ni_gv (h o) 5 :: st) z h Q) := ni_T_getf rfl
theorem s100_4 : ni_T d 100 4 [.ref o, a1, a2, a3] st z h Q = ni_T d 100 5 [.ref o, a1, a2, a3] (.ref o :: st) z h Q := ni_T_p rfl rfl
theorem s100_5 : ni_T d 100 5 [a0, a1, a2, a3] (.ref o :: st) z h Q = (ni_is (h o) 6 1 = true ∧ ni_T d 100 8 [a0, a1, a2, a3] (ni_gv (h o) 1 :: st) z h Q) := ni_T_getf rfl
theorem s100_8 : ni_T d 100 8 [a0, .int x, a2, a3] st z h Q = ni_T d 100 9 [a0, .int x, a2, a3] (.int x :: st) z h Q := ni_T_p rfl rfl
theorem s100_9 : ni_T (d + 1) 100 9 [a0, a1, a2, a3] (.int x0 :: .ref o :: st) z h Q = (ni_rc (h o) 5 = true ∧ Nat.ble (ni_sw st) 8 = true ∧ ni_T d 48 0 [.ref o, .int x0] [] z h (ni_K (d + 1) 100 12 [a0, a1, a2, a3] st z Q)) := ni_T_ce [.ref o, .int x0] rfl rfl rfl rfl rfl rfl rfl rfl rfl
theorem s100_12 : ni_T d 100 12 [a0, a1, .int x, a3] st z h Q = ni_T d 100 13 [a0, a1, .int x, a3] (.int x :: st) z h Q := ni_T_p rfl rfl
theorem s100_13 : ni_T d 100 13 [a0, a1, a2, .int x] st z h Q = ni_T d 100 14 [a0, a1, a2, .int x] (.int x :: st) z h Q := ni_T_p rfl rfl
theorem s100_14 : ni_T (d + 1) 100 14 [a0, a1, a2, a3] (.int x2 :: .int x1 :: .ref o20 :: .ref o :: st) z h Q = (ni_rc (h o) 0 = true ∧ Nat.ble (ni_sw st) 8 = true ∧ ni_T d 1 0 [.ref o, .ref o20, .int x1, .int x2] [] z h (ni_K (d + 1) 100 17 [a0, a1, a2, a3] st z Q)) := ni_T_ce [.ref o, .ref o20, .int x1, .int x2] rfl rfl rfl rfl rfl rfl rfl rfl rfl
theorem s100_14N0 : ni_T (d + 1) 100 14 [a0, a1, a2, a3] (.int x2 :: .int x1 :: .null :: .ref o :: st) z h Q = (ni_rc (h o) 0 = true ∧ Nat.ble (ni_sw st) 8 = true ∧ ni_T d 1 0 [.ref o, .null, .int x1, .int x2] [] z h (ni_K (d + 1) 100 17 [a0, a1, a2, a3] st z Q)) := ni_T_ce [.ref o, .null, .int x1, .int x2] rfl rfl rfl rfl rfl rfl rfl rfl rfl
theorem s100_17 : ni_T d 100 17 [a0, a1, a2, a3] [.int x] z h Q = Q (some (.int x)) z h := ni_T_i rfl rfl
theorem s101_0 : ni_T d 101 0 [.ref o, a1] st z h Q = ni_T d 101 1 [.ref o, a1] (.ref o :: st) z h Q := ni_T_p rfl rfl
theorem s101_1 : ni_T d 101 1 [a0, a1] (.ref o :: st) z h Q = (ni_is (h o) 6 5 = true ∧ ni_T d 101 4 [a0, a1] (ni_gv (h o) 5 :: st) z h Q) := ni_T_getf rfl
theorem s101_4 : ni_T d 101 4 [a0, .int x] st z h Q = ni_T d 101 5 [a0, .int x] (.int x :: st) z h Q := ni_T_p rfl rfl
theorem s101_5 : ni_T (d + 1) 101 5 [a0, a1] (.int x0 :: .ref o :: st) z h Q = (ni_rc (h o) 0 = true ∧ Nat.ble (ni_sw st) 8 = true ∧ ni_T d 2 0 [.ref o, .int x0] [] z h (ni_K (d + 1) 101 8 [a0, a1] st z Q)) := ni_T_ce [.ref o, .int x0] rfl rfl rfl rfl rfl rfl rfl rfl rfl
theorem s101_8 : ni_T d 101 8 [a0, a1] [.int x] z h Q = Q (some (.int x)) z h := ni_T_i rfl rfl
theorem s102_0 : ni_T d 102 0 [.ref o] st z h Q = ni_T d 102 1 [.ref o] (.ref o :: st) z h Q := ni_T_p rfl rfl
theorem s102_1 : ni_T d 102 1 [a0] (.ref o :: st) z h Q = (ni_is (h o) 6 2 = true ∧ ni_T d 102 4 [a0] (ni_gv (h o) 2 :: st) z h Q) := ni_T_getf rfl
theorem s102_4 : ni_T d 102 4 [.ref o] st z h Q = ni_T d 102 5 [.ref o] (.ref o :: st) z h Q := ni_T_p rfl rfl
theorem s102_5 : ni_T d 102 5 [a0] (.ref o :: st) z h Q = (ni_is (h o) 6 1 = true ∧ ni_T d 102 8 [a0] (ni_gv (h o) 1 :: st) z h Q) := ni_T_getf rfl
theorem s102_8 : ni_T (d + 1) 102 8 [a0] (.ref o20 :: .ref o :: st) z h Q = (ni_rc (h o) 5 = true ∧ Nat.ble (ni_sw st) 8 = true ∧ ni_T d 47 0 [.ref o, .ref o20, .retAddr 0] [] z h (ni_K (d + 1) 102 11 [a0] st z Q)) := ni_T_ce [.ref o, .ref o20] rfl rfl rfl rfl rfl rfl rfl rfl rfl
theorem s102_8N0 : ni_T (d + 1) 102 8 [a0] (.null :: .ref o :: st) z h Q = (ni_rc (h o) 5 = true ∧ Nat.ble (ni_sw st) 8 = true ∧ ni_T d 47 0 [.ref o, .null, .retAddr 0] [] z h (ni_K (d + 1) 102 11 [a0] st z Q)) := ni_T_ce [.ref o, .null] rfl rfl rfl rfl rfl rfl rfl rfl rfl
theorem s102_11 : ni_T d 102 11 [.ref o] st z h Q = ni_T d 102 12 [.ref o] (.ref o :: st) z h Q := ni_T_p rfl rfl
theorem s102_12 : ni_T d 102 12 [a0] st z h Q = ni_T d 102 13 [a0] (.int 1 :: st) z h Q := ni_T_p rfl rfl
theorem s102_13 : ni_T d 102 13 [a0] (b0 :: .ref o :: st) z h Q = ((Nat.ble 6 7 && ni_is (h o) 6 8 && ni_fit (.boolean) b0) = true ∧ ni_T d 102 16 [a0] st z (ni_up h o (ni_pv (h o) 8 b0)) Q) := ni_T_putf rfl
theorem s102_16 : ni_T d 102 16 [.ref o] st z h Q = ni_T d 102 17 [.ref o] (.ref o :: st) z h Q := ni_T_p rfl rfl
theorem s102_17 : ni_T d 102 17 [a0] (.ref o :: st) z h Q = (ni_is (h o) 6 1 = true ∧ ni_T d 102 20 [a0] (ni_gv (h o) 1 :: st) z h Q) := ni_T_getf rfl
theorem s102_20 : ni_T d 102 20 [a0] (.ref o :: st) z h Q = (ni_is (h o) 5 2 = true ∧ ni_T d 102 23 [a0] (ni_gv (h o) 2 :: st) z h Q) := ni_T_getf rfl
theorem s102_23 : ni_T d 102 23 [a0] [.int x] z h Q = Q (some (.int x)) z h := ni_T_i rfl rfl
theorem s103_0 : ni_T d 103 0 [.ref o, a1] st z h Q = ni_T d 103 1 [.ref o, a1] (.ref o :: st) z h Q := ni_T_p rfl rfl
theorem s103_1 : ni_T d 103 1 [a0, a1] (.ref o :: st) z h Q = (ni_is (h o) 6 8 = true ∧ ni_T d 103 4 [a0, a1] (ni_gv (h o) 8 :: st) z h Q) := ni_T_getf rfl
theorem s103_4 : ni_T d 103 4 [a0, a1] (.int x :: st) z h Q = if x = 0 then ni_T d 103 7 [a0, a1] st z h Q else ni_T d 103 14 [a0, a1] st z h Q := ni_T_b rfl rfl
theorem s103_7 : ni_T d 103 7 [.ref o, a1] st z h Q = ni_T d 103 8 [.ref o, a1] (.ref o :: st) z h Q := ni_T_p rfl rfl
theorem s103_8 : ni_T d 103 8 [a0, a1] st z h Q = ni_T d 103 10 [a0, a1] (.int (-6) :: st) z h Q := ni_T_p rfl rfl
theorem s103_10 : ni_T (d + 1) 103 10 [a0, a1] (.int x0 :: .ref o :: st) z h Q = (ni_rc (h o) 6 = true ∧ Nat.ble (ni_sw st) 8 = true ∧ ni_T d 105 0 [.ref o, .int x0] [] z h (ni_K (d + 1) 103 13 [a0, a1] st z Q)) := ni_T_ce [.ref o, .int x0] rfl rfl rfl rfl rfl rfl rfl rfl rfl
theorem s103_13 : ni_T d 103 13 [a0, a1] [.int x] z h Q = Q (some (.int x)) z h := ni_T_i rfl rfl
theorem s103_14 : ni_T d 103 14 [.ref o, a1] st z h Q = ni_T d 103 15 [.ref o, a1] (.ref o :: st) z h Q := ni_T_p rfl rfl
theorem s103_15 : ni_T d 103 15 [a0, a1] (.ref o :: st) z h Q = (ni_is (h o) 6 1 = true ∧ ni_T d 103 18 [a0, a1] (ni_gv (h o) 1 :: st) z h Q) := ni_T_getf rfl
theorem s103_18 : ni_T d 103 18 [.ref o, a1] st z h Q = ni_T d 103 19 [.ref o, a1] (.ref o :: st) z h Q := ni_T_p rfl rfl
theorem s103_19 : ni_T d 103 19 [a0, a1] (.ref o :: st) z h Q = (ni_is (h o) 6 2 = true ∧ ni_T d 103 22 [a0, a1] (ni_gv (h o) 2 :: st) z h Q) := ni_T_getf rfl
theorem s103_22 : ni_T (d + 1) 103 22 [a0, a1] (.ref o20 :: .ref o :: st) z h Q = (ni_rc (h o) 5 = true ∧ Nat.ble (ni_sw st) 8 = true ∧ ni_T d 47 0 [.ref o, .ref o20, .retAddr 0] [] z h (ni_K (d + 1) 103 25 [a0, a1] st z Q)) := ni_T_ce [.ref o, .ref o20] rfl rfl rfl rfl rfl rfl rfl rfl rfl
theorem s103_22N0 : ni_T (d + 1) 103 22 [a0, a1] (.null :: .ref o :: st) z h Q = (ni_rc (h o) 5 = true ∧ Nat.ble (ni_sw st) 8 = true ∧ ni_T d 47 0 [.ref o, .null, .retAddr 0] [] z h (ni_K (d + 1) 103 25 [a0, a1] st z Q)) := ni_T_ce [.ref o, .null] rfl rfl rfl rfl rfl rfl rfl rfl rfl
theorem s103_25 : ni_T d 103 25 [a0, a1] st z h Q = ni_T d 103 26 [a0, a1] (.int 0 :: st) z h Q := ni_T_p rfl rfl
theorem s103_26 : ni_T d 103 26 [a0, a1] (.int x :: st) z h Q = ni_T d 103 27 [ni_kl a0, .int x] st z h Q := ni_T_p rfl rfl
theorem s103_27 : ni_T d 103 27 [a0, .int x] st z h Q = ni_T d 103 28 [a0, .int x] (.int x :: st) z h Q := ni_T_p rfl rfl
theorem s103_28 : ni_T d 103 28 [a0, a1] st z h Q = ni_T d 103 30 [a0, a1] (.int 8 :: st) z h Q := ni_T_p rfl rfl
theorem s103_30 : ni_T d 103 30 [a0, a1] (.int y :: .int x :: st) z h Q = if y ≤ x then ni_T d 103 81 [a0, a1] st z h Q else ni_T d 103 33 [a0, a1] st z h Q := ni_T_b rfl rfl
theorem s103_33 : ni_T d 103 33 [.ref o, a1] st z h Q = ni_T d 103 34 [.ref o, a1] (.ref o :: st) z h Q := ni_T_p rfl rfl
theorem s103_34 : ni_T d 103 34 [a0, a1] (.ref o :: st) z h Q = (ni_is (h o) 6 0 = true ∧ ni_T d 103 37 [a0, a1] (ni_gv (h o) 0 :: st) z h Q) := ni_T_getf rfl
theorem s103_37 : ni_T d 103 37 [a0, .int x] st z h Q = ni_T d 103 38 [a0, .int x] (.int x :: st) z h Q := ni_T_p rfl rfl
theorem s103_38 : ni_T d 103 38 [a0, a1] (.int x :: .ref o :: st) z h Q = (ni_okA (h o) x = true ∧ ni_T d 103 39 [a0, a1] (ni_ga (h o) x :: st) z h Q) := ni_T_aald rfl
theorem s103_39 : ni_T d 103 39 [a0, a1] (.ref o :: st) z h Q = (ni_is (h o) 4 1 = true ∧ ni_T d 103 42 [a0, a1] (ni_gv (h o) 1 :: st) z h Q) := ni_T_getf rfl
theorem s103_42 : ni_T d 103 42 [a0, a1] st z h Q = ni_T d 103 43 [a0, a1] (.int 2 :: st) z h Q := ni_T_p rfl rfl
theorem s103_43 : ni_T d 103 43 [a0, a1] (.int y :: .int x :: st) z h Q = if x = y then ni_T d 103 46 [a0, a1] st z h Q else ni_T d 103 75 [a0, a1] st z h Q := ni_T_b rfl rfl
theorem s103_46 : ni_T d 103 46 [.ref o, a1] st z h Q = ni_T d 103 47 [.ref o, a1] (.ref o :: st) z h Q := ni_T_p rfl rfl
theorem s103_47 : ni_T d 103 47 [a0, a1] (.ref o :: st) z h Q = (ni_is (h o) 6 1 = true ∧ ni_T d 103 50 [a0, a1] (ni_gv (h o) 1 :: st) z h Q) := ni_T_getf rfl
theorem s103_50 : ni_T d 103 50 [.ref o, a1] st z h Q = ni_T d 103 51 [.ref o, a1] (.ref o :: st) z h Q := ni_T_p rfl rfl
theorem s103_51 : ni_T d 103 51 [a0, a1] (.ref o :: st) z h Q = (ni_is (h o) 6 0 = true ∧ ni_T d 103 54 [a0, a1] (ni_gv (h o) 0 :: st) z h Q) := ni_T_getf rfl
theorem s103_54 : ni_T d 103 54 [a0, .int x] st z h Q = ni_T d 103 55 [a0, .int x] (.int x :: st) z h Q := ni_T_p rfl rfl
theorem s103_55 : ni_T d 103 55 [a0, a1] (.int x :: .ref o :: st) z h Q = (ni_okA (h o) x = true ∧ ni_T d 103 56 [a0, a1] (ni_ga (h o) x :: st) z h Q) := ni_T_aald rfl
theorem s103_56 : ni_T d 103 56 [a0, a1] (.ref o :: st) z h Q = (ni_is (h o) 4 2 = true ∧ ni_T d 103 59 [a0, a1] (ni_gv (h o) 2 :: st) z h Q) := ni_T_getf rfl
theorem s103_59 : ni_T (d + 1) 103 59 [a0, a1] (.int x0 :: .ref o :: st) z h Q = (ni_rc (h o) 5 = true ∧ Nat.ble (ni_sw st) 8 = true ∧ ni_T d 48 0 [.ref o, .int x0] [] z h (ni_K (d + 1) 103 62 [a0, a1] st z Q)) := ni_T_ce [.ref o, .int x0] rfl rfl rfl rfl rfl rfl rfl rfl rfl
theorem s103_62N : ni_T d 103 62 [a0, a1] (.null :: st) z h Q = ni_T d 103 65 [a0, a1] st z h Q := ni_T_p rfl rfl
theorem s103_62 : ni_T d 103 62 [a0, a1] (.ref o :: st) z h Q = ni_T d 103 75 [a0, a1] st z h Q := ni_T_p rfl rfl
theorem s103_65 : ni_T d 103 65 [.ref o, a1] st z h Q = ni_T d 103 66 [.ref o, a1] (.ref o :: st) z h Q := ni_T_p rfl rfl
theorem s103_66 : ni_T d 103 66 [a0, a1] (.ref o :: st) z h Q = (ni_is (h o) 6 0 = true ∧ ni_T d 103 69 [a0, a1] (ni_gv (h o) 0 :: st) z h Q) := ni_T_getf rfl
theorem s103_69 : ni_T d 103 69 [a0, .int x] st z h Q = ni_T d 103 70 [a0, .int x] (.int x :: st) z h Q := ni_T_p rfl rfl
theorem s103_70 : ni_T d 103 70 [a0, a1] (.int x :: .ref o :: st) z h Q = (ni_okA (h o) x = true ∧ ni_T d 103 71 [a0, a1] (ni_ga (h o) x :: st) z h Q) := ni_T_aald rfl
theorem s103_71 : ni_T d 103 71 [a0, a1] st z h Q = ni_T d 103 72 [a0, a1] (.int 0 :: st) z h Q := ni_T_p rfl rfl
theorem s103_72 : ni_T d 103 72 [a0, a1] (b0 :: .ref o :: st) z h Q = ((Nat.ble 4 7 && ni_is (h o) 4 1 && ni_fit (.int) b0) = true ∧ ni_T d 103 75 [a0, a1] st z (ni_up h o (ni_pv (h o) 1 b0)) Q) := ni_T_putf rfl
theorem s103_75 : ni_T d 103 75 [a0, .int x] st z h Q = ni_T d 103 78 [ni_kl a0, .int (x + 1)] st z h Q := ni_T_p rfl rfl
theorem s103_78 : ni_T d 103 78 [a0, a1] st z h Q = ni_T d 103 27 [a0, a1] st z h Q := ni_T_p rfl rfl
theorem s103_81 : ni_T d 103 81 [.ref o, a1] st z h Q = ni_T d 103 82 [.ref o, a1] (.ref o :: st) z h Q := ni_T_p rfl rfl
theorem s103_82 : ni_T d 103 82 [a0, a1] (.ref o :: st) z h Q = (ni_is (h o) 6 1 = true ∧ ni_T d 103 85 [a0, a1] (ni_gv (h o) 1 :: st) z h Q) := ni_T_getf rfl
theorem s103_85 : ni_T d 103 85 [a0, a1] (.ref o :: st) z h Q = (ni_is (h o) 5 2 = true ∧ ni_T d 103 88 [a0, a1] (ni_gv (h o) 2 :: st) z h Q) := ni_T_getf rfl
theorem s103_88 : ni_T d 103 88 [a0, a1] [.int x] z h Q = Q (some (.int x)) z h := ni_T_i rfl rfl
theorem s104_0 : ni_T d 104 0 [a0, .int x, a2] st z h Q = ni_T d 104 1 [a0, .int x, a2] (.int x :: st) z h Q := ni_T_p rfl rfl
theorem s104_1_0 : ni_T d 104 1 [a0, a1, a2] (.int 0 :: st) z h Q = ni_T d 104 44 [a0, a1, a2] st z h Q := ni_T_p rfl rfl
theorem s104_1_1 : ni_T d 104 1 [a0, a1, a2] (.int 1 :: st) z h Q = ni_T d 104 52 [a0, a1, a2] st z h Q := ni_T_p rfl rfl
theorem s104_1_2 : ni_T d 104 1 [a0, a1, a2] (.int 2 :: st) z h Q = ni_T d 104 60 [a0, a1, a2] st z h Q := ni_T_p rfl rfl
theorem s104_1_3 : ni_T d 104 1 [a0, a1, a2] (.int 3 :: st) z h Q = ni_T d 104 82 [a0, a1, a2] st z h Q := ni_T_p rfl rfl
theorem s104_1_4 : ni_T d 104 1 [a0, a1, a2] (.int 4 :: st) z h Q = ni_T d 104 90 [a0, a1, a2] st z h Q := ni_T_p rfl rfl
theorem s104_1_5 : ni_T d 104 1 [a0, a1, a2] (.int 5 :: st) z h Q = ni_T d 104 98 [a0, a1, a2] st z h Q := ni_T_p rfl rfl
theorem s104_1_6 : ni_T d 104 1 [a0, a1, a2] (.int 6 :: st) z h Q = ni_T d 104 106 [a0, a1, a2] st z h Q := ni_T_p rfl rfl
theorem s104_1_d (hx : x.toInt < 0 ∨ 6 < x.toInt) : ni_T d 104 1 [a0, a1, a2] (.int x :: st) z h Q = ni_T d 104 114 [a0, a1, a2] st z h Q := ni_T_tsw rfl hx (by decide) rfl
theorem s104_44 : ni_T d 104 44 [.ref o, a1, a2] st z h Q = ni_T d 104 45 [.ref o, a1, a2] (.ref o :: st) z h Q := ni_T_p rfl rfl
theorem s104_45 : ni_T d 104 45 [a0, a1, a2] (.ref o :: st) z h Q = (ni_is (h o) 6 1 = true ∧ ni_T d 104 48 [a0, a1, a2] (ni_gv (h o) 1 :: st) z h Q) := ni_T_getf rfl
theorem s104_48 : ni_T d 104 48 [a0, a1, a2] (.ref o :: st) z h Q = (ni_is (h o) 5 2 = true ∧ ni_T d 104 51 [a0, a1, a2] (ni_gv (h o) 2 :: st) z h Q) := ni_T_getf rfl
theorem s104_51 : ni_T d 104 51 [a0, a1, a2] [.int x] z h Q = Q (some (.int x)) z h := ni_T_i rfl rfl
theorem s104_52 : ni_T d 104 52 [.ref o, a1, a2] st z h Q = ni_T d 104 53 [.ref o, a1, a2] (.ref o :: st) z h Q := ni_T_p rfl rfl
theorem s104_53 : ni_T d 104 53 [a0, a1, a2] (.ref o :: st) z h Q = (ni_is (h o) 6 1 = true ∧ ni_T d 104 56 [a0, a1, a2] (ni_gv (h o) 1 :: st) z h Q) := ni_T_getf rfl
theorem s104_56 : ni_T (d + 1) 104 56 [a0, a1, a2] (.ref o :: st) z h Q = (ni_rc (h o) 5 = true ∧ Nat.ble (ni_sw st) 8 = true ∧ ni_T d 53 0 [.ref o, .retAddr 0, .retAddr 0] [] z h (ni_K (d + 1) 104 59 [a0, a1, a2] st z Q)) := ni_T_ce [.ref o] rfl rfl rfl rfl rfl rfl rfl rfl rfl
theorem s104_59 : ni_T d 104 59 [a0, a1, a2] [.int x] z h Q = Q (some (.int x)) z h := ni_T_i rfl rfl
theorem s104_60 : ni_T d 104 60 [.ref o, a1, a2] st z h Q = ni_T d 104 61 [.ref o, a1, a2] (.ref o :: st) z h Q := ni_T_p rfl rfl
theorem s104_61 : ni_T d 104 61 [a0, a1, a2] (.ref o :: st) z h Q = (ni_is (h o) 6 1 = true ∧ ni_T d 104 64 [a0, a1, a2] (ni_gv (h o) 1 :: st) z h Q) := ni_T_getf rfl
theorem s104_64 : ni_T d 104 64 [a0, a1, a2] (.ref o :: st) z h Q = (ni_is (h o) 5 2 = true ∧ ni_T d 104 67 [a0, a1, a2] (ni_gv (h o) 2 :: st) z h Q) := ni_T_getf rfl
theorem s104_67 : ni_T d 104 67 [a0, a1, a2] (.int x :: st) z h Q = if x = 0 then ni_T d 104 70 [a0, a1, a2] st z h Q else ni_T d 104 74 [a0, a1, a2] st z h Q := ni_T_b rfl rfl
theorem s104_70 : ni_T d 104 70 [a0, a1, a2] st z h Q = ni_T d 104 71 [a0, a1, a2] (.int (-1) :: st) z h Q := ni_T_p rfl rfl
theorem s104_71 : ni_T d 104 71 [a0, a1, a2] st z h Q = ni_T d 104 81 [a0, a1, a2] st z h Q := ni_T_p rfl rfl
theorem s104_74 : ni_T d 104 74 [.ref o, a1, a2] st z h Q = ni_T d 104 75 [.ref o, a1, a2] (.ref o :: st) z h Q := ni_T_p rfl rfl
theorem s104_75 : ni_T d 104 75 [a0, a1, a2] (.ref o :: st) z h Q = (ni_is (h o) 6 1 = true ∧ ni_T d 104 78 [a0, a1, a2] (ni_gv (h o) 1 :: st) z h Q) := ni_T_getf rfl
theorem s104_78 : ni_T d 104 78 [a0, a1, a2] (.ref o :: st) z h Q = (ni_is (h o) 5 3 = true ∧ ni_T d 104 81 [a0, a1, a2] (ni_gv (h o) 3 :: st) z h Q) := ni_T_getf rfl
theorem s104_81 : ni_T d 104 81 [a0, a1, a2] [.int x] z h Q = Q (some (.int x)) z h := ni_T_i rfl rfl
theorem s104_82 : ni_T d 104 82 [.ref o, a1, a2] st z h Q = ni_T d 104 83 [.ref o, a1, a2] (.ref o :: st) z h Q := ni_T_p rfl rfl
theorem s104_83 : ni_T d 104 83 [a0, a1, a2] (.ref o :: st) z h Q = (ni_is (h o) 6 1 = true ∧ ni_T d 104 86 [a0, a1, a2] (ni_gv (h o) 1 :: st) z h Q) := ni_T_getf rfl
theorem s104_86 : ni_T (d + 1) 104 86 [a0, a1, a2] (.ref o :: st) z h Q = (ni_rc (h o) 5 = true ∧ Nat.ble (ni_sw st) 8 = true ∧ ni_T d 52 0 [.ref o, .retAddr 0, .retAddr 0] [] z h (ni_K (d + 1) 104 89 [a0, a1, a2] st z Q)) := ni_T_ce [.ref o] rfl rfl rfl rfl rfl rfl rfl rfl rfl
theorem s104_89 : ni_T d 104 89 [a0, a1, a2] [.int x] z h Q = Q (some (.int x)) z h := ni_T_i rfl rfl
theorem s104_90 : ni_T d 104 90 [.ref o, a1, a2] st z h Q = ni_T d 104 91 [.ref o, a1, a2] (.ref o :: st) z h Q := ni_T_p rfl rfl
theorem s104_91 : ni_T d 104 91 [a0, a1, a2] (.ref o :: st) z h Q = (ni_is (h o) 6 1 = true ∧ ni_T d 104 94 [a0, a1, a2] (ni_gv (h o) 1 :: st) z h Q) := ni_T_getf rfl
theorem s104_94 : ni_T d 104 94 [a0, a1, a2] (.ref o :: st) z h Q = (ni_is (h o) 5 4 = true ∧ ni_T d 104 97 [a0, a1, a2] (ni_gv (h o) 4 :: st) z h Q) := ni_T_getf rfl
theorem s104_97 : ni_T d 104 97 [a0, a1, a2] [.int x] z h Q = Q (some (.int x)) z h := ni_T_i rfl rfl
theorem s104_98 : ni_T d 104 98 [.ref o, a1, a2] st z h Q = ni_T d 104 99 [.ref o, a1, a2] (.ref o :: st) z h Q := ni_T_p rfl rfl
theorem s104_99 : ni_T d 104 99 [a0, a1, a2] (.ref o :: st) z h Q = (ni_is (h o) 6 1 = true ∧ ni_T d 104 102 [a0, a1, a2] (ni_gv (h o) 1 :: st) z h Q) := ni_T_getf rfl
theorem s104_102 : ni_T d 104 102 [a0, a1, a2] (.ref o :: st) z h Q = (ni_is (h o) 5 5 = true ∧ ni_T d 104 105 [a0, a1, a2] (ni_gv (h o) 5 :: st) z h Q) := ni_T_getf rfl
theorem s104_105 : ni_T d 104 105 [a0, a1, a2] [.int x] z h Q = Q (some (.int x)) z h := ni_T_i rfl rfl
theorem s104_106 : ni_T d 104 106 [.ref o, a1, a2] st z h Q = ni_T d 104 107 [.ref o, a1, a2] (.ref o :: st) z h Q := ni_T_p rfl rfl
theorem s104_107 : ni_T d 104 107 [a0, a1, a2] (.ref o :: st) z h Q = (ni_is (h o) 6 5 = true ∧ ni_T d 104 110 [a0, a1, a2] (ni_gv (h o) 5 :: st) z h Q) := ni_T_getf rfl
theorem s104_110 : ni_T d 104 110 [a0, a1, a2] (.ref o :: st) z h Q = (ni_is (h o) 0 1 = true ∧ ni_T d 104 113 [a0, a1, a2] (ni_gv (h o) 1 :: st) z h Q) := ni_T_getf rfl
theorem s104_113 : ni_T d 104 113 [a0, a1, a2] [.int x] z h Q = Q (some (.int x)) z h := ni_T_i rfl rfl
theorem s104_114 : ni_T d 104 114 [a0, .int x, a2] st z h Q = ni_T d 104 115 [a0, .int x, a2] (.int x :: st) z h Q := ni_T_p rfl rfl
theorem s104_115 : ni_T d 104 115 [a0, a1, a2] st z h Q = ni_T d 104 117 [a0, a1, a2] (.int 10 :: st) z h Q := ni_T_p rfl rfl
theorem s104_117 : ni_T d 104 117 [a0, a1, a2] (.int y :: .int x :: st) z h Q = ni_T d 104 118 [a0, a1, a2] (.int (x - y) :: st) z h Q := ni_T_p rfl rfl
theorem s104_118 : ni_T d 104 118 [a0, a1, a2] (.int x :: st) z h Q = ni_T d 104 119 [a0, ni_kl a1, .int x] st z h Q := ni_T_p rfl rfl
theorem s104_119 : ni_T d 104 119 [a0, a1, .int x] st z h Q = ni_T d 104 120 [a0, a1, .int x] (.int x :: st) z h Q := ni_T_p rfl rfl
theorem s104_120 : ni_T d 104 120 [a0, a1, a2] st z h Q = ni_T d 104 121 [a0, a1, a2] (.int 1 :: st) z h Q := ni_T_p rfl rfl
theorem s104_121 : ni_T d 104 121 [a0, a1, a2] (.int y :: .int x :: st) z h Q = if x < y then ni_T d 104 139 [a0, a1, a2] st z h Q else ni_T d 104 124 [a0, a1, a2] st z h Q := ni_T_b rfl rfl
theorem s104_124 : ni_T d 104 124 [a0, a1, .int x] st z h Q = ni_T d 104 125 [a0, a1, .int x] (.int x :: st) z h Q := ni_T_p rfl rfl
theorem s104_125 : ni_T d 104 125 [a0, a1, a2] st z h Q = ni_T d 104 127 [a0, a1, a2] (.int 7 :: st) z h Q := ni_T_p rfl rfl
theorem s104_127 : ni_T d 104 127 [a0, a1, a2] (.int y :: .int x :: st) z h Q = if y < x then ni_T d 104 139 [a0, a1, a2] st z h Q else ni_T d 104 130 [a0, a1, a2] st z h Q := ni_T_b rfl rfl
theorem s104_130 : ni_T d 104 130 [.ref o, a1, a2] st z h Q = ni_T d 104 131 [.ref o, a1, a2] (.ref o :: st) z h Q := ni_T_p rfl rfl
theorem s104_131 : ni_T d 104 131 [a0, a1, a2] (.ref o :: st) z h Q = (ni_is (h o) 6 7 = true ∧ ni_T d 104 134 [a0, a1, a2] (ni_gv (h o) 7 :: st) z h Q) := ni_T_getf rfl
theorem s104_134 : ni_T d 104 134 [a0, a1, .int x] st z h Q = ni_T d 104 135 [a0, a1, .int x] (.int x :: st) z h Q := ni_T_p rfl rfl
theorem s104_135 : ni_T d 104 135 [a0, a1, a2] (.int x :: .ref o :: st) z h Q = (ni_okI (h o) x = true ∧ ni_T d 104 136 [a0, a1, a2] (.int (ni_gi (h o) x) :: st) z h Q) := ni_T_iald rfl
theorem s104_136 : ni_T d 104 136 [a0, a1, a2] st z h Q = ni_T d 104 140 [a0, a1, a2] st z h Q := ni_T_p rfl rfl
theorem s104_139 : ni_T d 104 139 [a0, a1, a2] st z h Q = ni_T d 104 140 [a0, a1, a2] (.int (-1) :: st) z h Q := ni_T_p rfl rfl
theorem s104_140 : ni_T d 104 140 [a0, a1, a2] [.int x] z h Q = Q (some (.int x)) z h := ni_T_i rfl rfl
theorem s105_0 : ni_T d 105 0 [a0, .int x] st z h Q = ni_T d 105 1 [a0, .int x] (.int x :: st) z h Q := ni_T_p rfl rfl
theorem s105_1 : ni_T d 105 1 [a0, a1] st z h Q = ni_T d 105 2 [a0, a1] (.int (-1) :: st) z h Q := ni_T_p rfl rfl
theorem s105_2 : ni_T d 105 2 [a0, a1] (.int y :: .int x :: st) z h Q = if y < x then ni_T d 105 22 [a0, a1] st z h Q else ni_T d 105 5 [a0, a1] st z h Q := ni_T_b rfl rfl
theorem s105_5 : ni_T d 105 5 [a0, .int x] st z h Q = ni_T d 105 6 [a0, .int x] (.int x :: st) z h Q := ni_T_p rfl rfl
theorem s105_6 : ni_T d 105 6 [a0, a1] st z h Q = ni_T d 105 8 [a0, a1] (.int (-7) :: st) z h Q := ni_T_p rfl rfl
theorem s105_8 : ni_T d 105 8 [a0, a1] (.int y :: .int x :: st) z h Q = if x < y then ni_T d 105 22 [a0, a1] st z h Q else ni_T d 105 11 [a0, a1] st z h Q := ni_T_b rfl rfl
theorem s105_11 : ni_T d 105 11 [.ref o, a1] st z h Q = ni_T d 105 12 [.ref o, a1] (.ref o :: st) z h Q := ni_T_p rfl rfl
theorem s105_12 : ni_T d 105 12 [a0, a1] (.ref o :: st) z h Q = (ni_is (h o) 6 7 = true ∧ ni_T d 105 15 [a0, a1] (ni_gv (h o) 7 :: st) z h Q) := ni_T_getf rfl
theorem s105_15 : ni_T d 105 15 [a0, .int x] st z h Q = ni_T d 105 16 [a0, .int x] (.int x :: st) z h Q := ni_T_p rfl rfl
theorem s105_16 : ni_T d 105 16 [a0, a1] (.int x :: st) z h Q = ni_T d 105 17 [a0, a1] (.int (-x) :: st) z h Q := ni_T_p rfl rfl
theorem s105_17 : ni_T d 105 17 [a0, a1] (.int x :: .ref o :: st) z h Q = ni_T d 105 18 [a0, a1] (.int x :: .ref o :: .int x :: .ref o :: st) z h Q := ni_T_p rfl rfl
theorem s105_18 : ni_T d 105 18 [a0, a1] (.int x :: .ref o :: st) z h Q = (ni_okI (h o) x = true ∧ ni_T d 105 19 [a0, a1] (.int (ni_gi (h o) x) :: st) z h Q) := ni_T_iald rfl
theorem s105_19 : ni_T d 105 19 [a0, a1] st z h Q = ni_T d 105 20 [a0, a1] (.int 1 :: st) z h Q := ni_T_p rfl rfl
theorem s105_20 : ni_T d 105 20 [a0, a1] (.int y :: .int x :: st) z h Q = ni_T d 105 21 [a0, a1] (.int (x + y) :: st) z h Q := ni_T_p rfl rfl
theorem s105_21 : ni_T d 105 21 [a0, a1] (.int y :: .int x :: .ref o :: st) z h Q = (ni_okS (h o) x = true ∧ ni_T d 105 22 [a0, a1] st z (ni_up h o (ni_pi (h o) x y)) Q) := ni_T_iast rfl
theorem s105_22 : ni_T d 105 22 [a0, .int x] st z h Q = ni_T d 105 23 [a0, .int x] (.int x :: st) z h Q := ni_T_p rfl rfl
theorem s105_23 : ni_T d 105 23 [a0, a1] [.int x] z h Q = Q (some (.int x)) z h := ni_T_i rfl rfl
theorem s106_0 : ni_T d 106 0 [.ref o, a1] st z h Q = ni_T d 106 1 [.ref o, a1] (.ref o :: st) z h Q := ni_T_p rfl rfl
theorem s106_1 : ni_T d 106 1 [a0, .int x] st z h Q = ni_T d 106 2 [a0, .int x] (.int x :: st) z h Q := ni_T_p rfl rfl
theorem s106_2 : ni_T (d + 1) 106 2 [a0, a1] (.int x0 :: .ref o :: st) z h Q = (ni_rc (h o) 6 = true ∧ Nat.ble (ni_sw st) 8 = true ∧ ni_T d 105 0 [.ref o, .int x0] [] z h (ni_K (d + 1) 106 5 [a0, a1] st z Q)) := ni_T_ce [.ref o, .int x0] rfl rfl rfl rfl rfl rfl rfl rfl rfl
theorem s106_5 : ni_T d 106 5 [a0, a1] st z h Q = ni_T d 106 7 [a0, a1] (.int 10 :: st) z h Q := ni_T_p rfl rfl
theorem s106_7 : ni_T d 106 7 [a0, a1] (.int y :: .int x :: st) z h Q = ni_T d 106 8 [a0, a1] (.int (x - y) :: st) z h Q := ni_T_p rfl rfl
theorem s106_8 : ni_T d 106 8 [a0, a1] [.int x] z h Q = Q (some (.int x)) z h := ni_T_i rfl rfl
theorem s107_0 : ni_T d 107 0 [a0, .int x] st z h Q = ni_T d 107 1 [a0, .int x] (.int x :: st) z h Q := ni_T_p rfl rfl
theorem s107_1 : ni_T d 107 1 [a0, a1] (.int x :: st) z h Q = if x < 0 then ni_T d 107 19 [a0, a1] st z h Q else ni_T d 107 4 [a0, a1] st z h Q := ni_T_b rfl rfl
theorem s107_4 : ni_T d 107 4 [a0, .int x] st z h Q = ni_T d 107 5 [a0, .int x] (.int x :: st) z h Q := ni_T_p rfl rfl
theorem s107_5 : ni_T d 107 5 [a0, a1] st z h Q = ni_T d 107 7 [a0, a1] (.int 8 :: st) z h Q := ni_T_p rfl rfl
theorem s107_7 : ni_T d 107 7 [a0, a1] (.int y :: .int x :: st) z h Q = if y ≤ x then ni_T d 107 19 [a0, a1] st z h Q else ni_T d 107 10 [a0, a1] st z h Q := ni_T_b rfl rfl
theorem s107_10 : ni_T d 107 10 [.ref o, a1] st z h Q = ni_T d 107 11 [.ref o, a1] (.ref o :: st) z h Q := ni_T_p rfl rfl
theorem s107_11 : ni_T d 107 11 [a0, a1] (.ref o :: st) z h Q = (ni_is (h o) 6 0 = true ∧ ni_T d 107 14 [a0, a1] (ni_gv (h o) 0 :: st) z h Q) := ni_T_getf rfl
theorem s107_14 : ni_T d 107 14 [a0, .int x] st z h Q = ni_T d 107 15 [a0, .int x] (.int x :: st) z h Q := ni_T_p rfl rfl
theorem s107_15 : ni_T d 107 15 [a0, a1] (.int x :: .ref o :: st) z h Q = (ni_okA (h o) x = true ∧ ni_T d 107 16 [a0, a1] (ni_ga (h o) x :: st) z h Q) := ni_T_aald rfl
theorem s107_16 : ni_T d 107 16 [a0, a1] st z h Q = ni_T d 107 20 [a0, a1] st z h Q := ni_T_p rfl rfl
theorem s107_19 : ni_T d 107 19 [a0, a1] st z h Q = ni_T d 107 20 [a0, a1] (.null :: st) z h Q := ni_T_p rfl rfl
theorem s107_20 : ni_T d 107 20 [a0, a1] [.ref o] z h Q = Q (some (.ref o)) z h := ni_T_a rfl rfl
theorem s107_20N : ni_T d 107 20 [a0, a1] [.null] z h Q = Q (some .null) z h := ni_T_aN rfl rfl
theorem s108_0 : ni_T d 108 0 [.int x] st z h Q = ni_T d 108 1 [.int x] (.int x :: st) z h Q := ni_T_p rfl rfl
theorem s108_1 : ni_T d 108 1 [a0] st z h Q = ni_T d 108 2 [a0] (.int 1 :: st) z h Q := ni_T_p rfl rfl
theorem s108_2 : ni_T d 108 2 [a0] (.int y :: .int x :: st) z h Q = if x < y then ni_T d 108 14 [a0] st z h Q else ni_T d 108 5 [a0] st z h Q := ni_T_b rfl rfl
theorem s108_5 : ni_T d 108 5 [.int x] st z h Q = ni_T d 108 6 [.int x] (.int x :: st) z h Q := ni_T_p rfl rfl
theorem s108_6 : ni_T d 108 6 [a0] st z h Q = ni_T d 108 7 [a0] (.int 4 :: st) z h Q := ni_T_p rfl rfl
theorem s108_7 : ni_T d 108 7 [a0] (.int y :: .int x :: st) z h Q = if y < x then ni_T d 108 14 [a0] st z h Q else ni_T d 108 10 [a0] st z h Q := ni_T_b rfl rfl
theorem s108_10 : ni_T d 108 10 [a0] st z h Q = ni_T d 108 11 [a0] (.int 1 :: st) z h Q := ni_T_p rfl rfl
theorem s108_11 : ni_T d 108 11 [a0] st z h Q = ni_T d 108 15 [a0] st z h Q := ni_T_p rfl rfl
theorem s108_14 : ni_T d 108 14 [a0] st z h Q = ni_T d 108 15 [a0] (.int 0 :: st) z h Q := ni_T_p rfl rfl
theorem s108_15 : ni_T d 108 15 [a0] [.int x] z h Q = (narrow .boolean (.int x) = .int x ∧ Q (some (.int x)) z h) := ni_T_z rfl rfl
theorem s109_0 : ni_T d 109 0 [.int x] st z h Q = ni_T d 109 1 [.int x] (.int x :: st) z h Q := ni_T_p rfl rfl
theorem s109_1 : ni_T d 109 1 [a0] st z h Q = ni_T d 109 2 [a0] (.int 1 :: st) z h Q := ni_T_p rfl rfl
theorem s109_2 : ni_T d 109 2 [a0] (.int y :: .int x :: st) z h Q = if x < y then ni_T d 109 15 [a0] st z h Q else ni_T d 109 5 [a0] st z h Q := ni_T_b rfl rfl
theorem s109_5 : ni_T d 109 5 [.int x] st z h Q = ni_T d 109 6 [.int x] (.int x :: st) z h Q := ni_T_p rfl rfl
theorem s109_6 : ni_T d 109 6 [a0] st z h Q = ni_T d 109 8 [a0] (.int 9 :: st) z h Q := ni_T_p rfl rfl
theorem s109_8 : ni_T d 109 8 [a0] (.int y :: .int x :: st) z h Q = if y < x then ni_T d 109 15 [a0] st z h Q else ni_T d 109 11 [a0] st z h Q := ni_T_b rfl rfl
theorem s109_11 : ni_T d 109 11 [a0] st z h Q = ni_T d 109 12 [a0] (.int 1 :: st) z h Q := ni_T_p rfl rfl
theorem s109_12 : ni_T d 109 12 [a0] st z h Q = ni_T d 109 16 [a0] st z h Q := ni_T_p rfl rfl
theorem s109_15 : ni_T d 109 15 [a0] st z h Q = ni_T d 109 16 [a0] (.int 0 :: st) z h Q := ni_T_p rfl rfl
theorem s109_16 : ni_T d 109 16 [a0] [.int x] z h Q = (narrow .boolean (.int x) = .int x ∧ Q (some (.int x)) z h) := ni_T_z rfl rfl
theorem s110_0 : ni_T d 110 0 [.ref o, a1] st z h Q = ni_T d 110 1 [.ref o, a1] (.ref o :: st) z h Q := ni_T_p rfl rfl
theorem s110_0N : ni_T d 110 0 [.null, a1] st z h Q = ni_T d 110 1 [.null, a1] (.null :: st) z h Q := ni_T_p rfl rfl
theorem s110_1N : ni_T d 110 1 [a0, a1] (.null :: st) z h Q = ni_T d 110 4 [a0, a1] st z h Q := ni_T_p rfl rfl
theorem s110_1 : ni_T d 110 1 [a0, a1] (.ref o :: st) z h Q = ni_T d 110 6 [a0, a1] st z h Q := ni_T_p rfl rfl
theorem s110_4 : ni_T d 110 4 [a0, a1] st z h Q = ni_T d 110 5 [a0, a1] (.int (-1) :: st) z h Q := ni_T_p rfl rfl
theorem s110_5 : ni_T d 110 5 [a0, a1] [.int x] z h Q = Q (some (.int x)) z h := ni_T_i rfl rfl
theorem s110_6 : ni_T d 110 6 [a0, .int x] st z h Q = ni_T d 110 7 [a0, .int x] (.int x :: st) z h Q := ni_T_p rfl rfl
theorem s110_7 : ni_T (d + 1) 110 7 [a0, a1] (.int x0 :: st) z h Q = (Nat.ble (ni_sw st) 8 = true ∧ ni_T d 108 0 [.int x0] [] z h (ni_K (d + 1) 110 10 [a0, a1] st z Q)) := ni_T_cse [.int x0] rfl rfl rfl rfl rfl rfl rfl rfl rfl
theorem s110_10 : ni_T d 110 10 [a0, a1] (.int x :: st) z h Q = if x = 0 then ni_T d 110 17 [a0, a1] st z h Q else ni_T d 110 13 [a0, a1] st z h Q := ni_T_b rfl rfl
theorem s110_13 : ni_T d 110 13 [a0, a1] st z h Q = ni_T d 110 14 [a0, a1] (.int 0 :: st) z h Q := ni_T_p rfl rfl
theorem s110_14 : ni_T d 110 14 [a0, a1] st z h Q = ni_T d 110 19 [a0, a1] st z h Q := ni_T_p rfl rfl
theorem s110_17 : ni_T d 110 17 [a0, a1] st z h Q = ni_T d 110 19 [a0, a1] (.int (-6) :: st) z h Q := ni_T_p rfl rfl
theorem s110_19 : ni_T d 110 19 [a0, a1] [.int x] z h Q = Q (some (.int x)) z h := ni_T_i rfl rfl
theorem s111_0 : ni_T d 111 0 [.ref o] st z h Q = ni_T d 111 1 [.ref o] (.ref o :: st) z h Q := ni_T_p rfl rfl
theorem s111_0N : ni_T d 111 0 [.null] st z h Q = ni_T d 111 1 [.null] (.null :: st) z h Q := ni_T_p rfl rfl
theorem s111_1N : ni_T d 111 1 [a0] (.null :: st) z h Q = ni_T d 111 4 [a0] st z h Q := ni_T_p rfl rfl
theorem s111_1 : ni_T d 111 1 [a0] (.ref o :: st) z h Q = ni_T d 111 6 [a0] st z h Q := ni_T_p rfl rfl
theorem s111_4 : ni_T d 111 4 [a0] st z h Q = ni_T d 111 5 [a0] (.int (-1) :: st) z h Q := ni_T_p rfl rfl
theorem s111_5 : ni_T d 111 5 [a0] [.int x] z h Q = Q (some (.int x)) z h := ni_T_i rfl rfl
theorem s111_6 : ni_T d 111 6 [.ref o] st z h Q = ni_T d 111 7 [.ref o] (.ref o :: st) z h Q := ni_T_p rfl rfl
theorem s111_6N : ni_T d 111 6 [.null] st z h Q = ni_T d 111 7 [.null] (.null :: st) z h Q := ni_T_p rfl rfl
theorem s111_7 : ni_T d 111 7 [a0] (.ref o :: st) z h Q = (ni_is (h o) 4 1 = true ∧ ni_T d 111 10 [a0] (ni_gv (h o) 1 :: st) z h Q) := ni_T_getf rfl
theorem s111_10 : ni_T d 111 10 [a0] st z h Q = ni_T d 111 11 [a0] (.int 2 :: st) z h Q := ni_T_p rfl rfl
theorem s111_11 : ni_T d 111 11 [a0] (.int y :: .int x :: st) z h Q = if x = y then ni_T d 111 14 [a0] st z h Q else ni_T d 111 17 [a0] st z h Q := ni_T_b rfl rfl
theorem s111_14 : ni_T d 111 14 [a0] st z h Q = ni_T d 111 16 [a0] (.int (-2) :: st) z h Q := ni_T_p rfl rfl
theorem s111_16 : ni_T d 111 16 [a0] [.int x] z h Q = Q (some (.int x)) z h := ni_T_i rfl rfl
theorem s111_17 : ni_T d 111 17 [.ref o] st z h Q = ni_T d 111 18 [.ref o] (.ref o :: st) z h Q := ni_T_p rfl rfl
theorem s111_17N : ni_T d 111 17 [.null] st z h Q = ni_T d 111 18 [.null] (.null :: st) z h Q := ni_T_p rfl rfl
theorem s111_18 : ni_T d 111 18 [a0] (.ref o :: st) z h Q = (ni_is (h o) 4 1 = true ∧ ni_T d 111 21 [a0] (ni_gv (h o) 1 :: st) z h Q) := ni_T_getf rfl
theorem s111_21 : ni_T d 111 21 [a0] (.int x :: st) z h Q = if x = 0 then ni_T d 111 24 [a0] st z h Q else ni_T d 111 29 [a0] st z h Q := ni_T_b rfl rfl
theorem s111_24 : ni_T d 111 24 [a0] st z h Q = ni_T d 111 26 [a0] (.int (-3) :: st) z h Q := ni_T_p rfl rfl
theorem s111_26 : ni_T d 111 26 [a0] st z h Q = ni_T d 111 30 [a0] st z h Q := ni_T_p rfl rfl
theorem s111_29 : ni_T d 111 29 [a0] st z h Q = ni_T d 111 30 [a0] (.int 0 :: st) z h Q := ni_T_p rfl rfl
theorem s111_30 : ni_T d 111 30 [a0] [.int x] z h Q = Q (some (.int x)) z h := ni_T_i rfl rfl
theorem s112_0 : ni_T d 112 0 [.ref o, a1, a2] st z h Q = ni_T d 112 1 [.ref o, a1, a2] (.ref o :: st) z h Q := ni_T_p rfl rfl
theorem s112_0N : ni_T d 112 0 [.null, a1, a2] st z h Q = ni_T d 112 1 [.null, a1, a2] (.null :: st) z h Q := ni_T_p rfl rfl
theorem s112_1N : ni_T d 112 1 [a0, a1, a2] (.null :: st) z h Q = ni_T d 112 8 [a0, a1, a2] st z h Q := ni_T_p rfl rfl
theorem s112_1 : ni_T d 112 1 [a0, a1, a2] (.ref o :: st) z h Q = ni_T d 112 4 [a0, a1, a2] st z h Q := ni_T_p rfl rfl
theorem s112_4 : ni_T d 112 4 [a0, .ref o, a2] st z h Q = ni_T d 112 5 [a0, .ref o, a2] (.ref o :: st) z h Q := ni_T_p rfl rfl
theorem s112_4N : ni_T d 112 4 [a0, .null, a2] st z h Q = ni_T d 112 5 [a0, .null, a2] (.null :: st) z h Q := ni_T_p rfl rfl
theorem s112_5N : ni_T d 112 5 [a0, a1, a2] (.null :: st) z h Q = ni_T d 112 8 [a0, a1, a2] st z h Q := ni_T_p rfl rfl
theorem s112_5 : ni_T d 112 5 [a0, a1, a2] (.ref o :: st) z h Q = ni_T d 112 10 [a0, a1, a2] st z h Q := ni_T_p rfl rfl
theorem s112_8 : ni_T d 112 8 [a0, a1, a2] st z h Q = ni_T d 112 9 [a0, a1, a2] (.int (-1) :: st) z h Q := ni_T_p rfl rfl
theorem s112_9 : ni_T d 112 9 [a0, a1, a2] [.int x] z h Q = Q (some (.int x)) z h := ni_T_i rfl rfl
theorem s112_10 : ni_T d 112 10 [.ref o, a1, a2] st z h Q = ni_T d 112 11 [.ref o, a1, a2] (.ref o :: st) z h Q := ni_T_p rfl rfl
theorem s112_10N : ni_T d 112 10 [.null, a1, a2] st z h Q = ni_T d 112 11 [.null, a1, a2] (.null :: st) z h Q := ni_T_p rfl rfl
theorem s112_11 : ni_T d 112 11 [a0, a1, a2] (.ref o :: st) z h Q = (ni_is (h o) 4 1 = true ∧ ni_T d 112 14 [a0, a1, a2] (ni_gv (h o) 1 :: st) z h Q) := ni_T_getf rfl
theorem s112_14 : ni_T d 112 14 [a0, a1, a2] st z h Q = ni_T d 112 15 [a0, a1, a2] (.int 2 :: st) z h Q := ni_T_p rfl rfl
theorem s112_15 : ni_T d 112 15 [a0, a1, a2] (.int y :: .int x :: st) z h Q = if x = y then ni_T d 112 26 [a0, a1, a2] st z h Q else ni_T d 112 18 [a0, a1, a2] st z h Q := ni_T_b rfl rfl
theorem s112_18 : ni_T d 112 18 [a0, .ref o, a2] st z h Q = ni_T d 112 19 [a0, .ref o, a2] (.ref o :: st) z h Q := ni_T_p rfl rfl
theorem s112_18N : ni_T d 112 18 [a0, .null, a2] st z h Q = ni_T d 112 19 [a0, .null, a2] (.null :: st) z h Q := ni_T_p rfl rfl
theorem s112_19 : ni_T d 112 19 [a0, a1, a2] (.ref o :: st) z h Q = (ni_is (h o) 4 1 = true ∧ ni_T d 112 22 [a0, a1, a2] (ni_gv (h o) 1 :: st) z h Q) := ni_T_getf rfl
theorem s112_22 : ni_T d 112 22 [a0, a1, a2] st z h Q = ni_T d 112 23 [a0, a1, a2] (.int 2 :: st) z h Q := ni_T_p rfl rfl
theorem s112_23 : ni_T d 112 23 [a0, a1, a2] (.int y :: .int x :: st) z h Q = if x = y then ni_T d 112 26 [a0, a1, a2] st z h Q else ni_T d 112 29 [a0, a1, a2] st z h Q := ni_T_b rfl rfl
theorem s112_26 : ni_T d 112 26 [a0, a1, a2] st z h Q = ni_T d 112 28 [a0, a1, a2] (.int (-2) :: st) z h Q := ni_T_p rfl rfl
theorem s112_28 : ni_T d 112 28 [a0, a1, a2] [.int x] z h Q = Q (some (.int x)) z h := ni_T_i rfl rfl
theorem s112_29 : ni_T d 112 29 [.ref o, a1, a2] st z h Q = ni_T d 112 30 [.ref o, a1, a2] (.ref o :: st) z h Q := ni_T_p rfl rfl
theorem s112_29N : ni_T d 112 29 [.null, a1, a2] st z h Q = ni_T d 112 30 [.null, a1, a2] (.null :: st) z h Q := ni_T_p rfl rfl
theorem s112_30 : ni_T d 112 30 [a0, a1, a2] (.ref o :: st) z h Q = (ni_is (h o) 4 1 = true ∧ ni_T d 112 33 [a0, a1, a2] (ni_gv (h o) 1 :: st) z h Q) := ni_T_getf rfl
theorem s112_33 : ni_T d 112 33 [a0, a1, a2] (.int x :: st) z h Q = if x = 0 then ni_T d 112 43 [a0, a1, a2] st z h Q else ni_T d 112 36 [a0, a1, a2] st z h Q := ni_T_b rfl rfl
theorem s112_36 : ni_T d 112 36 [a0, .ref o, a2] st z h Q = ni_T d 112 37 [a0, .ref o, a2] (.ref o :: st) z h Q := ni_T_p rfl rfl
theorem s112_36N : ni_T d 112 36 [a0, .null, a2] st z h Q = ni_T d 112 37 [a0, .null, a2] (.null :: st) z h Q := ni_T_p rfl rfl
theorem s112_37 : ni_T d 112 37 [a0, a1, a2] (.ref o :: st) z h Q = (ni_is (h o) 4 1 = true ∧ ni_T d 112 40 [a0, a1, a2] (ni_gv (h o) 1 :: st) z h Q) := ni_T_getf rfl
theorem s112_40 : ni_T d 112 40 [a0, a1, a2] (.int x :: st) z h Q = if x = 0 then ni_T d 112 43 [a0, a1, a2] st z h Q else ni_T d 112 46 [a0, a1, a2] st z h Q := ni_T_b rfl rfl
theorem s112_43 : ni_T d 112 43 [a0, a1, a2] st z h Q = ni_T d 112 45 [a0, a1, a2] (.int (-3) :: st) z h Q := ni_T_p rfl rfl
theorem s112_45 : ni_T d 112 45 [a0, a1, a2] [.int x] z h Q = Q (some (.int x)) z h := ni_T_i rfl rfl
theorem s112_46 : ni_T d 112 46 [.ref o, a1, a2] st z h Q = ni_T d 112 47 [.ref o, a1, a2] (.ref o :: st) z h Q := ni_T_p rfl rfl
theorem s112_46N : ni_T d 112 46 [.null, a1, a2] st z h Q = ni_T d 112 47 [.null, a1, a2] (.null :: st) z h Q := ni_T_p rfl rfl
theorem s112_47 : ni_T d 112 47 [a0, a1, a2] (.ref o :: st) z h Q = (ni_is (h o) 4 3 = true ∧ ni_T d 112 50 [a0, a1, a2] (ni_gv (h o) 3 :: st) z h Q) := ni_T_getf rfl
theorem s112_50 : ni_T d 112 50 [a0, .ref o, a2] st z h Q = ni_T d 112 51 [a0, .ref o, a2] (.ref o :: st) z h Q := ni_T_p rfl rfl
theorem s112_50N : ni_T d 112 50 [a0, .null, a2] st z h Q = ni_T d 112 51 [a0, .null, a2] (.null :: st) z h Q := ni_T_p rfl rfl
theorem s112_51 : ni_T d 112 51 [a0, a1, a2] (.ref o :: st) z h Q = (ni_is (h o) 4 3 = true ∧ ni_T d 112 54 [a0, a1, a2] (ni_gv (h o) 3 :: st) z h Q) := ni_T_getf rfl
theorem s112_54 : ni_T d 112 54 [a0, a1, a2] (.int y :: .int x :: st) z h Q = if x = y then ni_T d 112 60 [a0, a1, a2] st z h Q else ni_T d 112 57 [a0, a1, a2] st z h Q := ni_T_b rfl rfl
theorem s112_57 : ni_T d 112 57 [a0, a1, a2] st z h Q = ni_T d 112 59 [a0, a1, a2] (.int (-2) :: st) z h Q := ni_T_p rfl rfl
theorem s112_59 : ni_T d 112 59 [a0, a1, a2] [.int x] z h Q = Q (some (.int x)) z h := ni_T_i rfl rfl
theorem s112_60 : ni_T d 112 60 [a0, a1, .int x] st z h Q = ni_T d 112 61 [a0, a1, .int x] (.int x :: st) z h Q := ni_T_p rfl rfl
theorem s112_61 : ni_T d 112 61 [a0, a1, a2] (.int x :: st) z h Q = if 0 ≤ x then ni_T d 112 69 [a0, a1, a2] st z h Q else ni_T d 112 64 [a0, a1, a2] st z h Q := ni_T_b rfl rfl
theorem s112_64 : ni_T d 112 64 [a0, a1, a2] st z h Q = ni_T d 112 66 [a0, a1, a2] (.int (-4) :: st) z h Q := ni_T_p rfl rfl
theorem s112_66 : ni_T d 112 66 [a0, a1, a2] st z h Q = ni_T d 112 70 [a0, a1, a2] st z h Q := ni_T_p rfl rfl
theorem s112_69 : ni_T d 112 69 [a0, a1, a2] st z h Q = ni_T d 112 70 [a0, a1, a2] (.int 0 :: st) z h Q := ni_T_p rfl rfl
theorem s112_70 : ni_T d 112 70 [a0, a1, a2] [.int x] z h Q = Q (some (.int x)) z h := ni_T_i rfl rfl
theorem s113_0 : ni_T d 113 0 [a0, .ref o, a2, a3] st z h Q = ni_T d 113 1 [a0, .ref o, a2, a3] (.ref o :: st) z h Q := ni_T_p rfl rfl
theorem s113_0N : ni_T d 113 0 [a0, .null, a2, a3] st z h Q = ni_T d 113 1 [a0, .null, a2, a3] (.null :: st) z h Q := ni_T_p rfl rfl
theorem s113_1 : ni_T (d + 1) 113 1 [a0, a1, a2, a3] (.ref o20 :: st) z h Q = (Nat.ble (ni_sw st) 8 = true ∧ ni_T d 111 0 [.ref o20] [] z h (ni_K (d + 1) 113 4 [a0, a1, a2, a3] st z Q)) := ni_T_cse [.ref o20] rfl rfl rfl rfl rfl rfl rfl rfl rfl
theorem s113_1N0 : ni_T (d + 1) 113 1 [a0, a1, a2, a3] (.null :: st) z h Q = (Nat.ble (ni_sw st) 8 = true ∧ ni_T d 111 0 [.null] [] z h (ni_K (d + 1) 113 4 [a0, a1, a2, a3] st z Q)) := ni_T_cse [.null] rfl rfl rfl rfl rfl rfl rfl rfl rfl
theorem s113_4 : ni_T d 113 4 [a0, a1, a2, a3] (.int x :: st) z h Q = ni_T d 113 5 [a0, ni_kl a1, .int x, a3] st z h Q := ni_T_p rfl rfl
theorem s113_5 : ni_T d 113 5 [a0, a1, .int x, a3] st z h Q = ni_T d 113 6 [a0, a1, .int x, a3] (.int x :: st) z h Q := ni_T_p rfl rfl
theorem s113_6 : ni_T d 113 6 [a0, a1, a2, a3] (.int x :: st) z h Q = if x = 0 then ni_T d 113 11 [a0, a1, a2, a3] st z h Q else ni_T d 113 9 [a0, a1, a2, a3] st z h Q := ni_T_b rfl rfl
theorem s113_9 : ni_T d 113 9 [a0, a1, .int x, a3] st z h Q = ni_T d 113 10 [a0, a1, .int x, a3] (.int x :: st) z h Q := ni_T_p rfl rfl
theorem s113_10 : ni_T d 113 10 [a0, a1, a2, a3] [.int x] z h Q = Q (some (.int x)) z h := ni_T_i rfl rfl
theorem s113_11 : ni_T d 113 11 [.ref o, a1, a2, a3] st z h Q = ni_T d 113 12 [.ref o, a1, a2, a3] (.ref o :: st) z h Q := ni_T_p rfl rfl
theorem s113_12 : ni_T d 113 12 [a0, a1, a2, a3] (.ref o :: st) z h Q = (ni_is (h o) 6 1 = true ∧ ni_T d 113 15 [a0, a1, a2, a3] (ni_gv (h o) 1 :: st) z h Q) := ni_T_getf rfl
theorem s113_15 : ni_T d 113 15 [a0, a1, a2, a3] (.ref o :: st) z h Q = (ni_is (h o) 5 2 = true ∧ ni_T d 113 18 [a0, a1, a2, a3] (ni_gv (h o) 2 :: st) z h Q) := ni_T_getf rfl
theorem s113_18 : ni_T d 113 18 [a0, a1, a2, a3] (.int x :: st) z h Q = if x = 0 then ni_T d 113 35 [a0, a1, a2, a3] st z h Q else ni_T d 113 21 [a0, a1, a2, a3] st z h Q := ni_T_b rfl rfl
theorem s113_21 : ni_T d 113 21 [a0, .ref o, a2, a3] st z h Q = ni_T d 113 22 [a0, .ref o, a2, a3] (.ref o :: st) z h Q := ni_T_p rfl rfl
theorem s113_21N : ni_T d 113 21 [a0, .null, a2, a3] st z h Q = ni_T d 113 22 [a0, .null, a2, a3] (.null :: st) z h Q := ni_T_p rfl rfl
theorem s113_22 : ni_T d 113 22 [a0, a1, a2, a3] (.ref o :: st) z h Q = (ni_is (h o) 4 4 = true ∧ ni_T d 113 25 [a0, a1, a2, a3] (ni_gv (h o) 4 :: st) z h Q) := ni_T_getf rfl
theorem s113_25 : ni_T d 113 25 [.ref o, a1, a2, a3] st z h Q = ni_T d 113 26 [.ref o, a1, a2, a3] (.ref o :: st) z h Q := ni_T_p rfl rfl
theorem s113_26 : ni_T d 113 26 [a0, a1, a2, a3] (.ref o :: st) z h Q = (ni_is (h o) 6 1 = true ∧ ni_T d 113 29 [a0, a1, a2, a3] (ni_gv (h o) 1 :: st) z h Q) := ni_T_getf rfl
theorem s113_29 : ni_T d 113 29 [a0, a1, a2, a3] (.ref o :: st) z h Q = (ni_is (h o) 5 2 = true ∧ ni_T d 113 32 [a0, a1, a2, a3] (ni_gv (h o) 2 :: st) z h Q) := ni_T_getf rfl
theorem s113_32 : ni_T d 113 32 [a0, a1, a2, a3] (.int y :: .int x :: st) z h Q = if y ≤ x then ni_T d 113 38 [a0, a1, a2, a3] st z h Q else ni_T d 113 35 [a0, a1, a2, a3] st z h Q := ni_T_b rfl rfl
theorem s113_35 : ni_T d 113 35 [a0, a1, a2, a3] st z h Q = ni_T d 113 37 [a0, a1, a2, a3] (.int (-5) :: st) z h Q := ni_T_p rfl rfl
theorem s113_37 : ni_T d 113 37 [a0, a1, a2, a3] [.int x] z h Q = Q (some (.int x)) z h := ni_T_i rfl rfl
theorem s113_38 : ni_T d 113 38 [a0, a1, a2, a3] st z h Q = ni_T d 113 39 [a0, a1, a2, a3] (.int 0 :: st) z h Q := ni_T_p rfl rfl
theorem s113_39 : ni_T d 113 39 [a0, a1, a2, a3] (.int x :: st) z h Q = ni_T d 113 40 [a0, a1, ni_kl a2, .int x] st z h Q := ni_T_p rfl rfl
theorem s113_40 : ni_T d 113 40 [a0, a1, a2, .int x] st z h Q = ni_T d 113 41 [a0, a1, a2, .int x] (.int x :: st) z h Q := ni_T_p rfl rfl
theorem s113_41 : ni_T d 113 41 [.ref o, a1, a2, a3] st z h Q = ni_T d 113 42 [.ref o, a1, a2, a3] (.ref o :: st) z h Q := ni_T_p rfl rfl
theorem s113_42 : ni_T d 113 42 [a0, a1, a2, a3] (.ref o :: st) z h Q = (ni_is (h o) 6 1 = true ∧ ni_T d 113 45 [a0, a1, a2, a3] (ni_gv (h o) 1 :: st) z h Q) := ni_T_getf rfl
theorem s113_45 : ni_T d 113 45 [a0, a1, a2, a3] (.ref o :: st) z h Q = (ni_is (h o) 5 2 = true ∧ ni_T d 113 48 [a0, a1, a2, a3] (ni_gv (h o) 2 :: st) z h Q) := ni_T_getf rfl
theorem s113_48 : ni_T d 113 48 [a0, a1, a2, a3] (.int y :: .int x :: st) z h Q = if y ≤ x then ni_T d 113 78 [a0, a1, a2, a3] st z h Q else ni_T d 113 51 [a0, a1, a2, a3] st z h Q := ni_T_b rfl rfl
theorem s113_51 : ni_T d 113 51 [a0, .ref o, a2, a3] st z h Q = ni_T d 113 52 [a0, .ref o, a2, a3] (.ref o :: st) z h Q := ni_T_p rfl rfl
theorem s113_51N : ni_T d 113 51 [a0, .null, a2, a3] st z h Q = ni_T d 113 52 [a0, .null, a2, a3] (.null :: st) z h Q := ni_T_p rfl rfl
theorem s113_52 : ni_T d 113 52 [a0, a1, a2, .int x] st z h Q = ni_T d 113 53 [a0, a1, a2, .int x] (.int x :: st) z h Q := ni_T_p rfl rfl
theorem s113_53 : ni_T (d + 1) 113 53 [a0, a1, a2, a3] (.int x0 :: .ref o :: st) z h Q = (ni_rc (h o) 4 = true ∧ Nat.ble (ni_sw st) 8 = true ∧ ni_T d 44 0 [.ref o, .int x0] [] z h (ni_K (d + 1) 113 56 [a0, a1, a2, a3] st z Q)) := ni_T_ce [.ref o, .int x0] rfl rfl rfl rfl rfl rfl rfl rfl rfl
theorem s113_56 : ni_T d 113 56 [a0, a1, a2, a3] (.int x :: st) z h Q = if x < 0 then ni_T d 113 69 [a0, a1, a2, a3] st z h Q else ni_T d 113 59 [a0, a1, a2, a3] st z h Q := ni_T_b rfl rfl
theorem s113_59 : ni_T d 113 59 [a0, .ref o, a2, a3] st z h Q = ni_T d 113 60 [a0, .ref o, a2, a3] (.ref o :: st) z h Q := ni_T_p rfl rfl
theorem s113_59N : ni_T d 113 59 [a0, .null, a2, a3] st z h Q = ni_T d 113 60 [a0, .null, a2, a3] (.null :: st) z h Q := ni_T_p rfl rfl
theorem s113_60 : ni_T d 113 60 [a0, a1, a2, .int x] st z h Q = ni_T d 113 61 [a0, a1, a2, .int x] (.int x :: st) z h Q := ni_T_p rfl rfl
theorem s113_61 : ni_T (d + 1) 113 61 [a0, a1, a2, a3] (.int x0 :: .ref o :: st) z h Q = (ni_rc (h o) 4 = true ∧ Nat.ble (ni_sw st) 8 = true ∧ ni_T d 44 0 [.ref o, .int x0] [] z h (ni_K (d + 1) 113 64 [a0, a1, a2, a3] st z Q)) := ni_T_ce [.ref o, .int x0] rfl rfl rfl rfl rfl rfl rfl rfl rfl
theorem s113_64 : ni_T d 113 64 [a0, a1, a2, a3] st z h Q = ni_T d 113 66 [a0, a1, a2, a3] (.int 100 :: st) z h Q := ni_T_p rfl rfl
theorem s113_66 : ni_T d 113 66 [a0, a1, a2, a3] (.int y :: .int x :: st) z h Q = if x ≤ y then ni_T d 113 72 [a0, a1, a2, a3] st z h Q else ni_T d 113 69 [a0, a1, a2, a3] st z h Q := ni_T_b rfl rfl
theorem s113_69 : ni_T d 113 69 [a0, a1, a2, a3] st z h Q = ni_T d 113 71 [a0, a1, a2, a3] (.int (-6) :: st) z h Q := ni_T_p rfl rfl
theorem s113_71 : ni_T d 113 71 [a0, a1, a2, a3] [.int x] z h Q = Q (some (.int x)) z h := ni_T_i rfl rfl
theorem s113_72 : ni_T d 113 72 [a0, a1, a2, .int x] st z h Q = ni_T d 113 75 [a0, a1, ni_kl a2, .int (x + 1)] st z h Q := ni_T_p rfl rfl
theorem s113_75 : ni_T d 113 75 [a0, a1, a2, a3] st z h Q = ni_T d 113 40 [a0, a1, a2, a3] st z h Q := ni_T_p rfl rfl
theorem s113_78 : ni_T d 113 78 [a0, a1, a2, a3] st z h Q = ni_T d 113 79 [a0, a1, a2, a3] (.int 0 :: st) z h Q := ni_T_p rfl rfl
theorem s113_79 : ni_T d 113 79 [a0, a1, a2, a3] [.int x] z h Q = Q (some (.int x)) z h := ni_T_i rfl rfl
theorem s114_0 : ni_T d 114 0 [.ref o, a1, a2, a3] st z h Q = ni_T d 114 1 [.ref o, a1, a2, a3] (.ref o :: st) z h Q := ni_T_p rfl rfl
theorem s114_0N : ni_T d 114 0 [.null, a1, a2, a3] st z h Q = ni_T d 114 1 [.null, a1, a2, a3] (.null :: st) z h Q := ni_T_p rfl rfl
theorem s114_1N : ni_T d 114 1 [a0, a1, a2, a3] (.null :: st) z h Q = ni_T d 114 4 [a0, a1, a2, a3] st z h Q := ni_T_p rfl rfl
theorem s114_1 : ni_T d 114 1 [a0, a1, a2, a3] (.ref o :: st) z h Q = ni_T d 114 8 [a0, a1, a2, a3] st z h Q := ni_T_p rfl rfl
theorem s114_4 : ni_T d 114 4 [a0, a1, a2, a3] st z h Q = ni_T d 114 5 [a0, a1, a2, a3] (.int (-1) :: st) z h Q := ni_T_p rfl rfl
theorem s114_5 : ni_T d 114 5 [a0, a1, a2, a3] st z h Q = ni_T d 114 12 [a0, a1, a2, a3] st z h Q := ni_T_p rfl rfl
theorem s114_8 : ni_T d 114 8 [a0, .ref o, a2, a3] st z h Q = ni_T d 114 9 [a0, .ref o, a2, a3] (.ref o :: st) z h Q := ni_T_p rfl rfl
theorem s114_8N : ni_T d 114 8 [a0, .null, a2, a3] st z h Q = ni_T d 114 9 [a0, .null, a2, a3] (.null :: st) z h Q := ni_T_p rfl rfl
theorem s114_9 : ni_T (d + 1) 114 9 [a0, a1, a2, a3] (.ref o20 :: st) z h Q = (Nat.ble (ni_sw st) 8 = true ∧ ni_T d 111 0 [.ref o20] [] z h (ni_K (d + 1) 114 12 [a0, a1, a2, a3] st z Q)) := ni_T_cse [.ref o20] rfl rfl rfl rfl rfl rfl rfl rfl rfl
theorem s114_9N0 : ni_T (d + 1) 114 9 [a0, a1, a2, a3] (.null :: st) z h Q = (Nat.ble (ni_sw st) 8 = true ∧ ni_T d 111 0 [.null] [] z h (ni_K (d + 1) 114 12 [a0, a1, a2, a3] st z Q)) := ni_T_cse [.null] rfl rfl rfl rfl rfl rfl rfl rfl rfl
theorem s114_12 : ni_T d 114 12 [a0, a1, a2, a3] (.int x :: st) z h Q = ni_T d 114 13 [a0, a1, ni_kl a2, .int x] st z h Q := ni_T_p rfl rfl
theorem s114_13 : ni_T d 114 13 [a0, a1, a2, .int x] st z h Q = ni_T d 114 14 [a0, a1, a2, .int x] (.int x :: st) z h Q := ni_T_p rfl rfl
theorem s114_14 : ni_T d 114 14 [a0, a1, a2, a3] (.int x :: st) z h Q = if x = 0 then ni_T d 114 19 [a0, a1, a2, a3] st z h Q else ni_T d 114 17 [a0, a1, a2, a3] st z h Q := ni_T_b rfl rfl
theorem s114_17 : ni_T d 114 17 [a0, a1, a2, .int x] st z h Q = ni_T d 114 18 [a0, a1, a2, .int x] (.int x :: st) z h Q := ni_T_p rfl rfl
theorem s114_18 : ni_T d 114 18 [a0, a1, a2, a3] [.int x] z h Q = Q (some (.int x)) z h := ni_T_i rfl rfl
theorem s114_19 : ni_T d 114 19 [a0, a1, .int x, a3] st z h Q = ni_T d 114 20 [a0, a1, .int x, a3] (.int x :: st) z h Q := ni_T_p rfl rfl
theorem s114_20 : ni_T d 114 20 [a0, a1, a2, a3] (.int x :: st) z h Q = if 0 ≤ x then ni_T d 114 26 [a0, a1, a2, a3] st z h Q else ni_T d 114 23 [a0, a1, a2, a3] st z h Q := ni_T_b rfl rfl
theorem s114_23 : ni_T d 114 23 [a0, a1, a2, a3] st z h Q = ni_T d 114 25 [a0, a1, a2, a3] (.int (-4) :: st) z h Q := ni_T_p rfl rfl
theorem s114_25 : ni_T d 114 25 [a0, a1, a2, a3] [.int x] z h Q = Q (some (.int x)) z h := ni_T_i rfl rfl
theorem s114_26 : ni_T d 114 26 [a0, a1, .int x, a3] st z h Q = ni_T d 114 27 [a0, a1, .int x, a3] (.int x :: st) z h Q := ni_T_p rfl rfl
theorem s114_27 : ni_T d 114 27 [a0, .ref o, a2, a3] st z h Q = ni_T d 114 28 [a0, .ref o, a2, a3] (.ref o :: st) z h Q := ni_T_p rfl rfl
theorem s114_27N : ni_T d 114 27 [a0, .null, a2, a3] st z h Q = ni_T d 114 28 [a0, .null, a2, a3] (.null :: st) z h Q := ni_T_p rfl rfl
theorem s114_28 : ni_T d 114 28 [a0, a1, a2, a3] (.ref o :: st) z h Q = (ni_is (h o) 4 4 = true ∧ ni_T d 114 31 [a0, a1, a2, a3] (ni_gv (h o) 4 :: st) z h Q) := ni_T_getf rfl
theorem s114_31 : ni_T d 114 31 [a0, a1, a2, a3] (.int y :: .int x :: st) z h Q = if x ≤ y then ni_T d 114 37 [a0, a1, a2, a3] st z h Q else ni_T d 114 34 [a0, a1, a2, a3] st z h Q := ni_T_b rfl rfl
theorem s114_34 : ni_T d 114 34 [a0, a1, a2, a3] st z h Q = ni_T d 114 36 [a0, a1, a2, a3] (.int (-5) :: st) z h Q := ni_T_p rfl rfl
theorem s114_36 : ni_T d 114 36 [a0, a1, a2, a3] [.int x] z h Q = Q (some (.int x)) z h := ni_T_i rfl rfl
theorem s114_37 : ni_T d 114 37 [a0, a1, .int x, a3] st z h Q = ni_T d 114 38 [a0, a1, .int x, a3] (.int x :: st) z h Q := ni_T_p rfl rfl
theorem s114_38 : ni_T d 114 38 [a0, a1, a2, a3] st z h Q = ni_T d 114 40 [a0, a1, a2, a3] (.int 20 :: st) z h Q := ni_T_p rfl rfl
theorem s114_40 : ni_T d 114 40 [a0, a1, a2, a3] (.int y :: .int x :: st) z h Q = if x ≤ y then ni_T d 114 48 [a0, a1, a2, a3] st z h Q else ni_T d 114 43 [a0, a1, a2, a3] st z h Q := ni_T_b rfl rfl
theorem s114_43 : ni_T d 114 43 [a0, a1, a2, a3] st z h Q = ni_T d 114 45 [a0, a1, a2, a3] (.int (-6) :: st) z h Q := ni_T_p rfl rfl
theorem s114_45 : ni_T d 114 45 [a0, a1, a2, a3] st z h Q = ni_T d 114 49 [a0, a1, a2, a3] st z h Q := ni_T_p rfl rfl
theorem s114_48 : ni_T d 114 48 [a0, a1, a2, a3] st z h Q = ni_T d 114 49 [a0, a1, a2, a3] (.int 0 :: st) z h Q := ni_T_p rfl rfl
theorem s114_49 : ni_T d 114 49 [a0, a1, a2, a3] [.int x] z h Q = Q (some (.int x)) z h := ni_T_i rfl rfl
theorem s115_0 : ni_T d 115 0 [.ref o, a1, a2, a3, a4] st z h Q = ni_T d 115 1 [.ref o, a1, a2, a3, a4] (.ref o :: st) z h Q := ni_T_p rfl rfl
theorem s115_1 : ni_T d 115 1 [a0, a1, a2, a3, a4] (.ref o :: st) z h Q = (ni_is (h o) 6 1 = true ∧ ni_T d 115 4 [a0, a1, a2, a3, a4] (ni_gv (h o) 1 :: st) z h Q) := ni_T_getf rfl
theorem s115_4 : ni_T d 115 4 [a0, a1, a2, a3, a4] st z h Q = ni_T d 115 6 [a0, a1, a2, a3, a4] (.int 100 :: st) z h Q := ni_T_p rfl rfl
theorem s115_6 : ni_T (d + 1) 115 6 [a0, a1, a2, a3, a4] (.int x0 :: .ref o :: st) z h Q = (ni_rc (h o) 5 = true ∧ Nat.ble (ni_sw st) 8 = true ∧ ni_T d 61 0 [.ref o, .int x0] [] z h (ni_K (d + 1) 115 9 [a0, a1, a2, a3, a4] st z Q)) := ni_T_ce [.ref o, .int x0] rfl rfl rfl rfl rfl rfl rfl rfl rfl
theorem s115_9 : ni_T d 115 9 [.ref o, a1, a2, a3, a4] st z h Q = ni_T d 115 10 [.ref o, a1, a2, a3, a4] (.ref o :: st) z h Q := ni_T_p rfl rfl
theorem s115_10 : ni_T d 115 10 [a0, a1, a2, a3, a4] (.ref o :: st) z h Q = (ni_is (h o) 6 4 = true ∧ ni_T d 115 13 [a0, a1, a2, a3, a4] (ni_gv (h o) 4 :: st) z h Q) := ni_T_getf rfl
theorem s115_13 : ni_T d 115 13 [a0, .ref o, a2, a3, a4] st z h Q = ni_T d 115 14 [a0, .ref o, a2, a3, a4] (.ref o :: st) z h Q := ni_T_p rfl rfl
theorem s115_13N : ni_T d 115 13 [a0, .null, a2, a3, a4] st z h Q = ni_T d 115 14 [a0, .null, a2, a3, a4] (.null :: st) z h Q := ni_T_p rfl rfl
theorem s115_14 : ni_T d 115 14 [a0, a1, .int x, a3, a4] st z h Q = ni_T d 115 15 [a0, a1, .int x, a3, a4] (.int x :: st) z h Q := ni_T_p rfl rfl
theorem s115_15 : ni_T d 115 15 [.ref o, a1, a2, a3, a4] st z h Q = ni_T d 115 16 [.ref o, a1, a2, a3, a4] (.ref o :: st) z h Q := ni_T_p rfl rfl
theorem s115_16 : ni_T d 115 16 [a0, a1, a2, a3, a4] (.ref o :: st) z h Q = (ni_is (h o) 6 4 = true ∧ ni_T d 115 19 [a0, a1, a2, a3, a4] (ni_gv (h o) 4 :: st) z h Q) := ni_T_getf rfl
theorem s115_19 : ni_T d 115 19 [a0, a1, a2, a3, a4] (.ref o :: st) z h Q = (ni_is (h o) 2 5 = true ∧ ni_T d 115 22 [a0, a1, a2, a3, a4] (ni_gv (h o) 5 :: st) z h Q) := ni_T_getf rfl
theorem s115_22 : ni_T d 115 22 [a0, a1, a2, .int x, a4] st z h Q = ni_T d 115 23 [a0, a1, a2, .int x, a4] (.int x :: st) z h Q := ni_T_p rfl rfl
theorem s115_23 : ni_T (d + 1) 115 23 [a0, a1, a2, a3, a4] (.int x3 :: .int x2 :: .int x1 :: .ref o20 :: .ref o :: st) z h Q = (ni_rc (h o) 2 = true ∧ Nat.ble (ni_sw st) 8 = true ∧ ni_T d 19 0 [.ref o, .ref o20, .int x1, .int x2, .int x3, .retAddr 0] [] z h (ni_K (d + 1) 115 26 [a0, a1, a2, a3, a4] st z Q)) := ni_T_ce [.ref o, .ref o20, .int x1, .int x2, .int x3] rfl rfl rfl rfl rfl rfl rfl rfl rfl
theorem s115_23N0 : ni_T (d + 1) 115 23 [a0, a1, a2, a3, a4] (.int x3 :: .int x2 :: .int x1 :: .null :: .ref o :: st) z h Q = (ni_rc (h o) 2 = true ∧ Nat.ble (ni_sw st) 8 = true ∧ ni_T d 19 0 [.ref o, .null, .int x1, .int x2, .int x3, .retAddr 0] [] z h (ni_K (d + 1) 115 26 [a0, a1, a2, a3, a4] st z Q)) := ni_T_ce [.ref o, .null, .int x1, .int x2, .int x3] rfl rfl rfl rfl rfl rfl rfl rfl rfl
theorem s115_26 : ni_T d 115 26 [a0, a1, a2, a3, a4] (.int y :: .int x :: st) z h Q = if y ≤ x then ni_T d 115 33 [a0, a1, a2, a3, a4] st z h Q else ni_T d 115 29 [a0, a1, a2, a3, a4] st z h Q := ni_T_b rfl rfl
theorem s115_29 : ni_T d 115 29 [a0, a1, a2, a3, a4] st z h Q = ni_T d 115 30 [a0, a1, a2, a3, a4] (.int 1 :: st) z h Q := ni_T_p rfl rfl
theorem s115_30 : ni_T d 115 30 [a0, a1, a2, a3, a4] st z h Q = ni_T d 115 34 [a0, a1, a2, a3, a4] st z h Q := ni_T_p rfl rfl
theorem s115_33 : ni_T d 115 33 [a0, a1, a2, a3, a4] st z h Q = ni_T d 115 34 [a0, a1, a2, a3, a4] (.int 0 :: st) z h Q := ni_T_p rfl rfl
theorem s115_34 : ni_T d 115 34 [a0, a1, a2, a3, a4] (.int x :: st) z h Q = ni_T d 115 36 [a0, a1, a2, ni_kl a3, .int x] st z h Q := ni_T_p rfl rfl
theorem s115_36 : ni_T d 115 36 [a0, .ref o, a2, a3, a4] st z h Q = ni_T d 115 37 [a0, .ref o, a2, a3, a4] (.ref o :: st) z h Q := ni_T_p rfl rfl
theorem s115_36N : ni_T d 115 36 [a0, .null, a2, a3, a4] st z h Q = ni_T d 115 37 [a0, .null, a2, a3, a4] (.null :: st) z h Q := ni_T_p rfl rfl
theorem s115_37 : ni_T d 115 37 [a0, a1, a2, a3, a4] (.ref o :: st) z h Q = ni_T d 115 38 [a0, a1, a2, a3, a4] (.ref o :: .ref o :: st) z h Q := ni_T_p rfl rfl
theorem s115_37i : ni_T d 115 37 [a0, a1, a2, a3, a4] (.int x :: st) z h Q = ni_T d 115 38 [a0, a1, a2, a3, a4] (.int x :: .int x :: st) z h Q := ni_T_p rfl rfl
theorem s115_38 : ni_T d 115 38 [a0, a1, a2, a3, a4] (.ref o :: st) z h Q = (ni_is (h o) 1 5 = true ∧ ni_T d 115 41 [a0, a1, a2, a3, a4] (ni_gv (h o) 5 :: st) z h Q) := ni_T_getf rfl
theorem s115_41 : ni_T d 115 41 [a0, a1, a2, a3, a4] st z h Q = ni_T d 115 42 [a0, a1, a2, a3, a4] (.int 1 :: st) z h Q := ni_T_p rfl rfl
theorem s115_42 : ni_T d 115 42 [a0, a1, a2, a3, a4] (.int y :: .int x :: st) z h Q = ni_T d 115 43 [a0, a1, a2, a3, a4] (.int (x + y) :: st) z h Q := ni_T_p rfl rfl
theorem s115_43 : ni_T d 115 43 [a0, a1, a2, a3, a4] (b0 :: .ref o :: st) z h Q = ((Nat.ble 1 7 && ni_is (h o) 1 5 && ni_fit (.int) b0) = true ∧ ni_T d 115 46 [a0, a1, a2, a3, a4] st z (ni_up h o (ni_pv (h o) 5 b0)) Q) := ni_T_putf rfl
theorem s115_46 : ni_T d 115 46 [a0, a1, a2, a3, .int x] st z h Q = ni_T d 115 48 [a0, a1, a2, a3, .int x] (.int x :: st) z h Q := ni_T_p rfl rfl
theorem s115_48 : ni_T d 115 48 [a0, a1, a2, a3, a4] (.int x :: st) z h Q = if x = 0 then ni_T d 115 76 [a0, a1, a2, a3, a4] st z h Q else ni_T d 115 51 [a0, a1, a2, a3, a4] st z h Q := ni_T_b rfl rfl
theorem s115_51 : ni_T d 115 51 [.ref o, a1, a2, a3, a4] st z h Q = ni_T d 115 52 [.ref o, a1, a2, a3, a4] (.ref o :: st) z h Q := ni_T_p rfl rfl
theorem s115_52 : ni_T d 115 52 [a0, a1, a2, a3, a4] (.ref o :: st) z h Q = (ni_is (h o) 6 1 = true ∧ ni_T d 115 55 [a0, a1, a2, a3, a4] (ni_gv (h o) 1 :: st) z h Q) := ni_T_getf rfl
theorem s115_55 : ni_T d 115 55 [a0, a1, .int x, a3, a4] st z h Q = ni_T d 115 56 [a0, a1, .int x, a3, a4] (.int x :: st) z h Q := ni_T_p rfl rfl
theorem s115_56 : ni_T (d + 1) 115 56 [a0, a1, a2, a3, a4] (.int x0 :: .ref o :: st) z h Q = (ni_rc (h o) 5 = true ∧ Nat.ble (ni_sw st) 8 = true ∧ ni_T d 62 0 [.ref o, .int x0, .retAddr 0] [] z h (ni_K (d + 1) 115 59 [a0, a1, a2, a3, a4] st z Q)) := ni_T_ce [.ref o, .int x0] rfl rfl rfl rfl rfl rfl rfl rfl rfl
theorem s115_59 : ni_T d 115 59 [.ref o, a1, a2, a3, a4] st z h Q = ni_T d 115 60 [.ref o, a1, a2, a3, a4] (.ref o :: st) z h Q := ni_T_p rfl rfl
theorem s115_60 : ni_T d 115 60 [a0, a1, a2, a3, a4] (.ref o :: st) z h Q = (ni_is (h o) 6 1 = true ∧ ni_T d 115 63 [a0, a1, a2, a3, a4] (ni_gv (h o) 1 :: st) z h Q) := ni_T_getf rfl
theorem s115_63 : ni_T (d + 1) 115 63 [a0, a1, a2, a3, a4] (.ref o :: st) z h Q = (ni_rc (h o) 5 = true ∧ Nat.ble (ni_sw st) 8 = true ∧ ni_T d 53 0 [.ref o, .retAddr 0, .retAddr 0] [] z h (ni_K (d + 1) 115 66 [a0, a1, a2, a3, a4] st z Q)) := ni_T_ce [.ref o] rfl rfl rfl rfl rfl rfl rfl rfl rfl
theorem s115_66 : ni_T d 115 66 [a0, a1, a2, a3, a4] (.int x :: st) z h Q = if x = 0 then ni_T d 115 69 [a0, a1, a2, a3, a4] st z h Q else ni_T d 115 83 [a0, a1, a2, a3, a4] st z h Q := ni_T_b rfl rfl
theorem s115_69 : ni_T d 115 69 [a0, .ref o, a2, a3, a4] st z h Q = ni_T d 115 70 [a0, .ref o, a2, a3, a4] (.ref o :: st) z h Q := ni_T_p rfl rfl
theorem s115_69N : ni_T d 115 69 [a0, .null, a2, a3, a4] st z h Q = ni_T d 115 70 [a0, .null, a2, a3, a4] (.null :: st) z h Q := ni_T_p rfl rfl
theorem s115_70 : ni_T (d + 1) 115 70 [a0, a1, a2, a3, a4] (.ref o :: st) z h Q = (ni_rc (h o) 1 = true ∧ Nat.ble (ni_sw st) 8 = true ∧ ni_T d 14 0 [.ref o] [] z h (ni_K (d + 1) 115 73 [a0, a1, a2, a3, a4] st z Q)) := ni_T_ce [.ref o] rfl rfl rfl rfl rfl rfl rfl rfl rfl
theorem s115_73 : ni_T d 115 73 [a0, a1, a2, a3, a4] st z h Q = ni_T d 115 83 [a0, a1, a2, a3, a4] st z h Q := ni_T_p rfl rfl
theorem s115_76 : ni_T d 115 76 [.ref o, a1, a2, a3, a4] st z h Q = ni_T d 115 77 [.ref o, a1, a2, a3, a4] (.ref o :: st) z h Q := ni_T_p rfl rfl
theorem s115_77 : ni_T d 115 77 [a0, a1, a2, a3, a4] (.ref o :: st) z h Q = (ni_is (h o) 6 1 = true ∧ ni_T d 115 80 [a0, a1, a2, a3, a4] (ni_gv (h o) 1 :: st) z h Q) := ni_T_getf rfl
theorem s115_80 : ni_T (d + 1) 115 80 [a0, a1, a2, a3, a4] (.ref o :: st) z h Q = (ni_rc (h o) 5 = true ∧ Nat.ble (ni_sw st) 8 = true ∧ ni_T d 63 0 [.ref o] [] z h (ni_K (d + 1) 115 83 [a0, a1, a2, a3, a4] st z Q)) := ni_T_ce [.ref o] rfl rfl rfl rfl rfl rfl rfl rfl rfl
theorem s115_83 : ni_T d 115 83 [a0, a1, a2, a3, .int x] st z h Q = ni_T d 115 85 [a0, a1, a2, a3, .int x] (.int x :: st) z h Q := ni_T_p rfl rfl
theorem s115_85 : ni_T d 115 85 [a0, a1, a2, a3, a4] [.int x] z h Q = (narrow .boolean (.int x) = .int x ∧ Q (some (.int x)) z h) := ni_T_z rfl rfl
theorem s116_0 : ni_T d 116 0 [.ref o, a1, a2, a3] st z h Q = ni_T d 116 1 [.ref o, a1, a2, a3] (.ref o :: st) z h Q := ni_T_p rfl rfl
theorem s116_1 : ni_T d 116 1 [a0, a1, a2, a3] (.ref o :: st) z h Q = (ni_is (h o) 6 1 = true ∧ ni_T d 116 4 [a0, a1, a2, a3] (ni_gv (h o) 1 :: st) z h Q) := ni_T_getf rfl
theorem s116_4 : ni_T d 116 4 [a0, a1, a2, a3] st z h Q = ni_T d 116 5 [a0, a1, a2, a3] (.int 1 :: st) z h Q := ni_T_p rfl rfl
theorem s116_5 : ni_T (d + 1) 116 5 [a0, a1, a2, a3] (.int x0 :: .ref o :: st) z h Q = (ni_rc (h o) 5 = true ∧ Nat.ble (ni_sw st) 8 = true ∧ ni_T d 64 0 [.ref o, .int x0, .retAddr 0, .retAddr 0, .retAddr 0, .retAddr 0] [] z h (ni_K (d + 1) 116 8 [a0, a1, a2, a3] st z Q)) := ni_T_ce [.ref o, .int x0] rfl rfl rfl rfl rfl rfl rfl rfl rfl
theorem s116_8 : ni_T d 116 8 [a0, a1, a2, a3] (.ref o :: st) z h Q = ni_T d 116 9 [a0, a1, a2, a3] st z h Q := ni_T_p rfl rfl
theorem s116_8i : ni_T d 116 8 [a0, a1, a2, a3] (.int x :: st) z h Q = ni_T d 116 9 [a0, a1, a2, a3] st z h Q := ni_T_p rfl rfl
theorem s116_9 : ni_T d 116 9 [.ref o, a1, a2, a3] st z h Q = ni_T d 116 10 [.ref o, a1, a2, a3] (.ref o :: st) z h Q := ni_T_p rfl rfl
theorem s116_10 : ni_T d 116 10 [a0, a1, a2, a3] (.ref o :: st) z h Q = (ni_is (h o) 6 1 = true ∧ ni_T d 116 13 [a0, a1, a2, a3] (ni_gv (h o) 1 :: st) z h Q) := ni_T_getf rfl
theorem s116_13 : ni_T d 116 13 [.ref o, a1, a2, a3] st z h Q = ni_T d 116 14 [.ref o, a1, a2, a3] (.ref o :: st) z h Q := ni_T_p rfl rfl
theorem s116_14 : ni_T d 116 14 [a0, a1, a2, a3] (.ref o :: st) z h Q = (ni_is (h o) 6 1 = true ∧ ni_T d 116 17 [a0, a1, a2, a3] (ni_gv (h o) 1 :: st) z h Q) := ni_T_getf rfl
theorem s116_17 : ni_T d 116 17 [a0, a1, a2, a3] (.ref o :: st) z h Q = (ni_is (h o) 5 3 = true ∧ ni_T d 116 20 [a0, a1, a2, a3] (ni_gv (h o) 3 :: st) z h Q) := ni_T_getf rfl
theorem s116_20 : ni_T (d + 1) 116 20 [a0, a1, a2, a3] (.int x0 :: .ref o :: st) z h Q = (ni_rc (h o) 5 = true ∧ Nat.ble (ni_sw st) 8 = true ∧ ni_T d 48 0 [.ref o, .int x0] [] z h (ni_K (d + 1) 116 23 [a0, a1, a2, a3] st z Q)) := ni_T_ce [.ref o, .int x0] rfl rfl rfl rfl rfl rfl rfl rfl rfl
theorem s116_23 : ni_T d 116 23 [a0, a1, a2, a3] (.ref o :: st) z h Q = ni_T d 116 24 [ni_kl a0, .ref o, a2, a3] st z h Q := ni_T_p rfl rfl
theorem s116_23N : ni_T d 116 23 [a0, a1, a2, a3] (.null :: st) z h Q = ni_T d 116 24 [ni_kl a0, .null, a2, a3] st z h Q := ni_T_p rfl rfl
theorem s116_24 : ni_T d 116 24 [a0, a1, a2, a3] st z h Q = ni_T d 116 25 [a0, a1, a2, a3] (.int 0 :: st) z h Q := ni_T_p rfl rfl
theorem s116_25 : ni_T d 116 25 [a0, a1, a2, a3] (.int x :: st) z h Q = ni_T d 116 26 [a0, ni_kl a1, .int x, a3] st z h Q := ni_T_p rfl rfl
theorem s116_26 : ni_T d 116 26 [a0, a1, .int x, a3] st z h Q = ni_T d 116 27 [a0, a1, .int x, a3] (.int x :: st) z h Q := ni_T_p rfl rfl
theorem s116_27 : ni_T d 116 27 [a0, a1, a2, a3] st z h Q = ni_T d 116 28 [a0, a1, a2, a3] (.int 5 :: st) z h Q := ni_T_p rfl rfl
theorem s116_28 : ni_T d 116 28 [a0, a1, a2, a3] (.int y :: .int x :: st) z h Q = if y ≤ x then ni_T d 116 113 [a0, a1, a2, a3] st z h Q else ni_T d 116 31 [a0, a1, a2, a3] st z h Q := ni_T_b rfl rfl
theorem s116_31 : ni_T d 116 31 [a0, .ref o, a2, a3] st z h Q = ni_T d 116 32 [a0, .ref o, a2, a3] (.ref o :: st) z h Q := ni_T_p rfl rfl
theorem s116_31N : ni_T d 116 31 [a0, .null, a2, a3] st z h Q = ni_T d 116 32 [a0, .null, a2, a3] (.null :: st) z h Q := ni_T_p rfl rfl
theorem s116_32N : ni_T d 116 32 [a0, a1, a2, a3] (.null :: st) z h Q = ni_T d 116 113 [a0, a1, a2, a3] st z h Q := ni_T_p rfl rfl
theorem s116_32 : ni_T d 116 32 [a0, a1, a2, a3] (.ref o :: st) z h Q = ni_T d 116 35 [a0, a1, a2, a3] st z h Q := ni_T_p rfl rfl
theorem s116_35 : ni_T d 116 35 [.ref o, a1, a2, a3] st z h Q = ni_T d 116 36 [.ref o, a1, a2, a3] (.ref o :: st) z h Q := ni_T_p rfl rfl
theorem s116_36 : ni_T d 116 36 [a0, a1, a2, a3] (.ref o :: st) z h Q = (ni_is (h o) 6 1 = true ∧ ni_T d 116 39 [a0, a1, a2, a3] (ni_gv (h o) 1 :: st) z h Q) := ni_T_getf rfl
theorem s116_39 : ni_T (d + 1) 116 39 [a0, a1, a2, a3] (.ref o :: st) z h Q = (ni_rc (h o) 5 = true ∧ Nat.ble (ni_sw st) 8 = true ∧ ni_T d 53 0 [.ref o, .retAddr 0, .retAddr 0] [] z h (ni_K (d + 1) 116 42 [a0, a1, a2, a3] st z Q)) := ni_T_ce [.ref o] rfl rfl rfl rfl rfl rfl rfl rfl rfl
theorem s116_42 : ni_T d 116 42 [a0, a1, a2, a3] (.int x :: st) z h Q = if x = 0 then ni_T d 116 113 [a0, a1, a2, a3] st z h Q else ni_T d 116 45 [a0, a1, a2, a3] st z h Q := ni_T_b rfl rfl
theorem s116_45 : ni_T d 116 45 [.ref o, a1, a2, a3] st z h Q = ni_T d 116 46 [.ref o, a1, a2, a3] (.ref o :: st) z h Q := ni_T_p rfl rfl
theorem s116_46 : ni_T d 116 46 [a0, a1, a2, a3] (.ref o :: st) z h Q = (ni_is (h o) 6 4 = true ∧ ni_T d 116 49 [a0, a1, a2, a3] (ni_gv (h o) 4 :: st) z h Q) := ni_T_getf rfl
theorem s116_49 : ni_T d 116 49 [.ref o, a1, a2, a3] st z h Q = ni_T d 116 50 [.ref o, a1, a2, a3] (.ref o :: st) z h Q := ni_T_p rfl rfl
theorem s116_50 : ni_T d 116 50 [a0, a1, a2, a3] (.ref o :: st) z h Q = (ni_is (h o) 6 1 = true ∧ ni_T d 116 53 [a0, a1, a2, a3] (ni_gv (h o) 1 :: st) z h Q) := ni_T_getf rfl
theorem s116_53 : ni_T (d + 1) 116 53 [a0, a1, a2, a3] (.ref o20 :: .ref o :: st) z h Q = (ni_rc (h o) 2 = true ∧ Nat.ble (ni_sw st) 8 = true ∧ ni_T d 16 0 [.ref o, .ref o20, .retAddr 0, .retAddr 0] [] z h (ni_K (d + 1) 116 56 [a0, a1, a2, a3] st z Q)) := ni_T_ce [.ref o, .ref o20] rfl rfl rfl rfl rfl rfl rfl rfl rfl
theorem s116_53N0 : ni_T (d + 1) 116 53 [a0, a1, a2, a3] (.null :: .ref o :: st) z h Q = (ni_rc (h o) 2 = true ∧ Nat.ble (ni_sw st) 8 = true ∧ ni_T d 16 0 [.ref o, .null, .retAddr 0, .retAddr 0] [] z h (ni_K (d + 1) 116 56 [a0, a1, a2, a3] st z Q)) := ni_T_ce [.ref o, .null] rfl rfl rfl rfl rfl rfl rfl rfl rfl
theorem s116_56 : ni_T d 116 56 [.ref o, a1, a2, a3] st z h Q = ni_T d 116 57 [.ref o, a1, a2, a3] (.ref o :: st) z h Q := ni_T_p rfl rfl
theorem s116_57 : ni_T d 116 57 [a0, a1, a2, a3] (.ref o :: st) z h Q = (ni_is (h o) 6 4 = true ∧ ni_T d 116 60 [a0, a1, a2, a3] (ni_gv (h o) 4 :: st) z h Q) := ni_T_getf rfl
theorem s116_60 : ni_T d 116 60 [a0, .ref o, a2, a3] st z h Q = ni_T d 116 61 [a0, .ref o, a2, a3] (.ref o :: st) z h Q := ni_T_p rfl rfl
theorem s116_60N : ni_T d 116 60 [a0, .null, a2, a3] st z h Q = ni_T d 116 61 [a0, .null, a2, a3] (.null :: st) z h Q := ni_T_p rfl rfl
theorem s116_61 : ni_T d 116 61 [a0, .ref o, a2, a3] st z h Q = ni_T d 116 62 [a0, .ref o, a2, a3] (.ref o :: st) z h Q := ni_T_p rfl rfl
theorem s116_61N : ni_T d 116 61 [a0, .null, a2, a3] st z h Q = ni_T d 116 62 [a0, .null, a2, a3] (.null :: st) z h Q := ni_T_p rfl rfl
theorem s116_62 : ni_T d 116 62 [a0, a1, a2, a3] (.ref o :: st) z h Q = (ni_is (h o) 1 3 = true ∧ ni_T d 116 65 [a0, a1, a2, a3] (ni_gv (h o) 3 :: st) z h Q) := ni_T_getf rfl
theorem s116_65 : ni_T (d + 1) 116 65 [a0, a1, a2, a3] (.int x1 :: .ref o20 :: .ref o :: st) z h Q = (ni_rc (h o) 2 = true ∧ Nat.ble (ni_sw st) 8 = true ∧ ni_T d 23 0 [.ref o, .ref o20, .int x1, .retAddr 0] [] z h (ni_K (d + 1) 116 68 [a0, a1, a2, a3] st z Q)) := ni_T_ce [.ref o, .ref o20, .int x1] rfl rfl rfl rfl rfl rfl rfl rfl rfl
theorem s116_65N0 : ni_T (d + 1) 116 65 [a0, a1, a2, a3] (.int x1 :: .null :: .ref o :: st) z h Q = (ni_rc (h o) 2 = true ∧ Nat.ble (ni_sw st) 8 = true ∧ ni_T d 23 0 [.ref o, .null, .int x1, .retAddr 0] [] z h (ni_K (d + 1) 116 68 [a0, a1, a2, a3] st z Q)) := ni_T_ce [.ref o, .null, .int x1] rfl rfl rfl rfl rfl rfl rfl rfl rfl
theorem s116_68 : ni_T d 116 68 [.ref o, a1, a2, a3] st z h Q = ni_T d 116 69 [.ref o, a1, a2, a3] (.ref o :: st) z h Q := ni_T_p rfl rfl
theorem s116_69 : ni_T d 116 69 [a0, a1, a2, a3] (.ref o :: st) z h Q = (ni_is (h o) 6 4 = true ∧ ni_T d 116 72 [a0, a1, a2, a3] (ni_gv (h o) 4 :: st) z h Q) := ni_T_getf rfl
theorem s116_72 : ni_T d 116 72 [a0, a1, a2, a3] (.ref o :: st) z h Q = (ni_is (h o) 2 2 = true ∧ ni_T d 116 75 [a0, a1, a2, a3] (ni_gv (h o) 2 :: st) z h Q) := ni_T_getf rfl
theorem s116_75 : ni_T d 116 75 [.ref o, a1, a2, a3] st z h Q = ni_T d 116 76 [.ref o, a1, a2, a3] (.ref o :: st) z h Q := ni_T_p rfl rfl
theorem s116_76 : ni_T d 116 76 [a0, a1, a2, a3] (.ref o :: st) z h Q = (ni_is (h o) 6 4 = true ∧ ni_T d 116 79 [a0, a1, a2, a3] (ni_gv (h o) 4 :: st) z h Q) := ni_T_getf rfl
theorem s116_79 : ni_T d 116 79 [a0, a1, a2, a3] (.ref o :: st) z h Q = (ni_is (h o) 2 5 = true ∧ ni_T d 116 82 [a0, a1, a2, a3] (ni_gv (h o) 5 :: st) z h Q) := ni_T_getf rfl
theorem s116_82 : ni_T d 116 82 [a0, a1, a2, a3] (.int x :: .ref o :: st) z h Q = (ni_okI (h o) x = true ∧ ni_T d 116 83 [a0, a1, a2, a3] (.int (ni_gi (h o) x) :: st) z h Q) := ni_T_iald rfl
theorem s116_83 : ni_T d 116 83 [a0, a1, a2, a3] (.int x :: st) z h Q = ni_T d 116 84 [a0, a1, ni_kl a2, .int x] st z h Q := ni_T_p rfl rfl
theorem s116_84 : ni_T d 116 84 [.ref o, a1, a2, a3] st z h Q = ni_T d 116 85 [.ref o, a1, a2, a3] (.ref o :: st) z h Q := ni_T_p rfl rfl
theorem s116_85 : ni_T d 116 85 [a0, .ref o, a2, a3] st z h Q = ni_T d 116 86 [a0, .ref o, a2, a3] (.ref o :: st) z h Q := ni_T_p rfl rfl
theorem s116_85N : ni_T d 116 85 [a0, .null, a2, a3] st z h Q = ni_T d 116 86 [a0, .null, a2, a3] (.null :: st) z h Q := ni_T_p rfl rfl
theorem s116_86 : ni_T d 116 86 [a0, a1, a2, .int x] st z h Q = ni_T d 116 87 [a0, a1, a2, .int x] (.int x :: st) z h Q := ni_T_p rfl rfl
theorem s116_87 : ni_T d 116 87 [.ref o, a1, a2, a3] st z h Q = ni_T d 116 88 [.ref o, a1, a2, a3] (.ref o :: st) z h Q := ni_T_p rfl rfl
theorem s116_88 : ni_T d 116 88 [a0, a1, a2, a3] (.ref o :: st) z h Q = (ni_is (h o) 6 4 = true ∧ ni_T d 116 91 [a0, a1, a2, a3] (ni_gv (h o) 4 :: st) z h Q) := ni_T_getf rfl
theorem s116_91 : ni_T d 116 91 [a0, .ref o, a2, a3] st z h Q = ni_T d 116 92 [a0, .ref o, a2, a3] (.ref o :: st) z h Q := ni_T_p rfl rfl
theorem s116_91N : ni_T d 116 91 [a0, .null, a2, a3] st z h Q = ni_T d 116 92 [a0, .null, a2, a3] (.null :: st) z h Q := ni_T_p rfl rfl
theorem s116_92 : ni_T d 116 92 [a0, a1, a2, .int x] st z h Q = ni_T d 116 93 [a0, a1, a2, .int x] (.int x :: st) z h Q := ni_T_p rfl rfl
theorem s116_93 : ni_T d 116 93 [.ref o, a1, a2, a3] st z h Q = ni_T d 116 94 [.ref o, a1, a2, a3] (.ref o :: st) z h Q := ni_T_p rfl rfl
theorem s116_94 : ni_T d 116 94 [a0, a1, a2, a3] (.ref o :: st) z h Q = (ni_is (h o) 6 4 = true ∧ ni_T d 116 97 [a0, a1, a2, a3] (ni_gv (h o) 4 :: st) z h Q) := ni_T_getf rfl
theorem s116_97 : ni_T d 116 97 [a0, a1, a2, a3] (.ref o :: st) z h Q = (ni_is (h o) 2 5 = true ∧ ni_T d 116 100 [a0, a1, a2, a3] (ni_gv (h o) 5 :: st) z h Q) := ni_T_getf rfl
theorem s116_100 : ni_T (d + 1) 116 100 [a0, a1, a2, a3] (.int x2 :: .int x1 :: .ref o20 :: .ref o :: st) z h Q = (ni_rc (h o) 2 = true ∧ Nat.ble (ni_sw st) 8 = true ∧ ni_T d 21 0 [.ref o, .ref o20, .int x1, .int x2, .retAddr 0] [] z h (ni_K (d + 1) 116 103 [a0, a1, a2, a3] st z Q)) := ni_T_ce [.ref o, .ref o20, .int x1, .int x2] rfl rfl rfl rfl rfl rfl rfl rfl rfl
theorem s116_100N0 : ni_T (d + 1) 116 100 [a0, a1, a2, a3] (.int x2 :: .int x1 :: .null :: .ref o :: st) z h Q = (ni_rc (h o) 2 = true ∧ Nat.ble (ni_sw st) 8 = true ∧ ni_T d 21 0 [.ref o, .null, .int x1, .int x2, .retAddr 0] [] z h (ni_K (d + 1) 116 103 [a0, a1, a2, a3] st z Q)) := ni_T_ce [.ref o, .null, .int x1, .int x2] rfl rfl rfl rfl rfl rfl rfl rfl rfl
theorem s116_103 : ni_T (d + 1) 116 103 [a0, a1, a2, a3] (.int x2 :: .int x1 :: .ref o20 :: .ref o :: st) z h Q = (ni_rc (h o) 6 = true ∧ Nat.ble (ni_sw st) 8 = true ∧ ni_T d 115 0 [.ref o, .ref o20, .int x1, .int x2, .retAddr 0] [] z h (ni_K (d + 1) 116 106 [a0, a1, a2, a3] st z Q)) := ni_T_ce [.ref o, .ref o20, .int x1, .int x2] rfl rfl rfl rfl rfl rfl rfl rfl rfl
theorem s116_103N0 : ni_T (d + 1) 116 103 [a0, a1, a2, a3] (.int x2 :: .int x1 :: .null :: .ref o :: st) z h Q = (ni_rc (h o) 6 = true ∧ Nat.ble (ni_sw st) 8 = true ∧ ni_T d 115 0 [.ref o, .null, .int x1, .int x2, .retAddr 0] [] z h (ni_K (d + 1) 116 106 [a0, a1, a2, a3] st z Q)) := ni_T_ce [.ref o, .null, .int x1, .int x2] rfl rfl rfl rfl rfl rfl rfl rfl rfl
theorem s116_106 : ni_T d 116 106 [a0, a1, a2, a3] (.ref o :: st) z h Q = ni_T d 116 107 [a0, a1, a2, a3] st z h Q := ni_T_p rfl rfl
theorem s116_106i : ni_T d 116 106 [a0, a1, a2, a3] (.int x :: st) z h Q = ni_T d 116 107 [a0, a1, a2, a3] st z h Q := ni_T_p rfl rfl
theorem s116_107 : ni_T d 116 107 [a0, a1, .int x, a3] st z h Q = ni_T d 116 110 [a0, ni_kl a1, .int (x + 1), a3] st z h Q := ni_T_p rfl rfl
theorem s116_110 : ni_T d 116 110 [a0, a1, a2, a3] st z h Q = ni_T d 116 26 [a0, a1, a2, a3] st z h Q := ni_T_p rfl rfl
theorem s116_113 : ni_T d 116 113 [a0, a1, a2, a3] [] z h Q = Q none z h := ni_T_v rfl rfl
theorem s117_0 : ni_T d 117 0 [.int x, a1] st z h Q = ni_T d 117 1 [.int x, a1] (.int x :: st) z h Q := ni_T_p rfl rfl
theorem s117_1 : ni_T d 117 1 [a0, a1] st z h Q = ni_T d 117 3 [a0, a1] (.int 6 :: st) z h Q := ni_T_p rfl rfl
theorem s117_3 : ni_T d 117 3 [a0, a1] (.int y :: .int x :: st) z h Q = (¬ y = 0 ∧ ni_T d 117 4 [a0, a1] (.int (x / y) :: st) z h Q) := ni_T_idiv rfl
theorem s117_4 : ni_T d 117 4 [a0, .int x] st z h Q = ni_T d 117 5 [a0, .int x] (.int x :: st) z h Q := ni_T_p rfl rfl
theorem s117_5 : ni_T d 117 5 [a0, a1] st z h Q = ni_T d 117 7 [a0, a1] (.int 6 :: st) z h Q := ni_T_p rfl rfl
theorem s117_7 : ni_T d 117 7 [a0, a1] (.int y :: .int x :: st) z h Q = (¬ y = 0 ∧ ni_T d 117 8 [a0, a1] (.int (x / y) :: st) z h Q) := ni_T_idiv rfl
theorem s117_8 : ni_T d 117 8 [a0, a1] (.int y :: .int x :: st) z h Q = ni_T d 117 9 [a0, a1] (.int (x - y) :: st) z h Q := ni_T_p rfl rfl
theorem s117_9 : ni_T (d + 1) 117 9 [a0, a1] (.int x :: st) z h Q = (Nat.ble (ni_sw st) 8 = true ∧ ni_T (d + 1) 117 12 [a0, a1] (.int (if 0 ≤ x then x else 0 - x) :: st) z h Q) := ni_T_mabsc rfl rfl
theorem s117_12 : ni_T d 117 12 [.int x, a1] st z h Q = ni_T d 117 13 [.int x, a1] (.int x :: st) z h Q := ni_T_p rfl rfl
theorem s117_13 : ni_T d 117 13 [a0, a1] st z h Q = ni_T d 117 15 [a0, a1] (.int 6 :: st) z h Q := ni_T_p rfl rfl
theorem s117_15 : ni_T d 117 15 [a0, a1] (.int y :: .int x :: st) z h Q = (¬ y = 0 ∧ ni_T d 117 16 [a0, a1] (.int (x - x / y * y) :: st) z h Q) := ni_T_irem rfl
theorem s117_16 : ni_T d 117 16 [a0, .int x] st z h Q = ni_T d 117 17 [a0, .int x] (.int x :: st) z h Q := ni_T_p rfl rfl
theorem s117_17 : ni_T d 117 17 [a0, a1] st z h Q = ni_T d 117 19 [a0, a1] (.int 6 :: st) z h Q := ni_T_p rfl rfl
theorem s117_19 : ni_T d 117 19 [a0, a1] (.int y :: .int x :: st) z h Q = (¬ y = 0 ∧ ni_T d 117 20 [a0, a1] (.int (x - x / y * y) :: st) z h Q) := ni_T_irem rfl
theorem s117_20 : ni_T d 117 20 [a0, a1] (.int y :: .int x :: st) z h Q = ni_T d 117 21 [a0, a1] (.int (x - y) :: st) z h Q := ni_T_p rfl rfl
theorem s117_21 : ni_T (d + 1) 117 21 [a0, a1] (.int x :: st) z h Q = (Nat.ble (ni_sw st) 8 = true ∧ ni_T (d + 1) 117 24 [a0, a1] (.int (if 0 ≤ x then x else 0 - x) :: st) z h Q) := ni_T_mabsc rfl rfl
theorem s117_24 : ni_T d 117 24 [a0, a1] (.int y :: .int x :: st) z h Q = ni_T d 117 25 [a0, a1] (.int (x + y) :: st) z h Q := ni_T_p rfl rfl
theorem s117_25 : ni_T d 117 25 [a0, a1] [.int x] z h Q = Q (some (.int x)) z h := ni_T_i rfl rfl
theorem s118_0 : ni_T d 118 0 [.int x, a1] st z h Q = ni_T d 118 1 [.int x, a1] (.int x :: st) z h Q := ni_T_p rfl rfl
theorem s118_1 : ni_T d 118 1 [a0, .int x] st z h Q = ni_T d 118 2 [a0, .int x] (.int x :: st) z h Q := ni_T_p rfl rfl
theorem s118_2 : ni_T d 118 2 [a0, a1] st z h Q = ni_T d 118 3 [a0, a1] (.int (-1) :: st) z h Q := ni_T_p rfl rfl
theorem s118_3 : ni_T d 118 3 [a0, a1] (.int y :: .int x :: st) z h Q = ni_T d 118 4 [a0, a1] (.int (x ^^^ y) :: st) z h Q := ni_T_p rfl rfl
theorem s118_4 : ni_T d 118 4 [a0, a1] (.int y :: .int x :: st) z h Q = ni_T d 118 5 [a0, a1] (.int (x &&& y) :: st) z h Q := ni_T_p rfl rfl
theorem s118_5 : ni_T d 118 5 [a0, a1] (.int x :: st) z h Q = if x = 0 then ni_T d 118 8 [a0, a1] st z h Q else ni_T d 118 12 [a0, a1] st z h Q := ni_T_b rfl rfl
theorem s118_8 : ni_T d 118 8 [a0, a1] st z h Q = ni_T d 118 9 [a0, a1] (.int 1 :: st) z h Q := ni_T_p rfl rfl
theorem s118_9 : ni_T d 118 9 [a0, a1] st z h Q = ni_T d 118 13 [a0, a1] st z h Q := ni_T_p rfl rfl
theorem s118_12 : ni_T d 118 12 [a0, a1] st z h Q = ni_T d 118 13 [a0, a1] (.int 0 :: st) z h Q := ni_T_p rfl rfl
theorem s118_13 : ni_T d 118 13 [a0, a1] [.int x] z h Q = (narrow .boolean (.int x) = .int x ∧ Q (some (.int x)) z h) := ni_T_z rfl rfl
theorem s210_0 : ni_T d 210 0 [.ref o, a1, a2, a3, a4] st z h Q = ni_T d 210 1 [.ref o, a1, a2, a3, a4] (.ref o :: st) z h Q := ni_T_p rfl rfl
theorem s210_1 : ni_T d 210 1 [a0, a1, a2, a3, a4] (.ref o :: st) z h Q = (ni_is (h o) 6 1 = true ∧ ni_T d 210 4 [a0, a1, a2, a3, a4] (ni_gv (h o) 1 :: st) z h Q) := ni_T_getf rfl
theorem s210_4 : ni_T d 210 4 [a0, .int x, a2, a3, a4] st z h Q = ni_T d 210 5 [a0, .int x, a2, a3, a4] (.int x :: st) z h Q := ni_T_p rfl rfl
theorem s210_5 : ni_T (d + 1) 210 5 [a0, a1, a2, a3, a4] (.int x0 :: .ref o :: st) z h Q = (ni_rc (h o) 5 = true ∧ Nat.ble (ni_sw st) 8 = true ∧ ni_T d 48 0 [.ref o, .int x0] [] z h (ni_K (d + 1) 210 8 [a0, a1, a2, a3, a4] st z Q)) := ni_T_ce [.ref o, .int x0] rfl rfl rfl rfl rfl rfl rfl rfl rfl
theorem s210_8 : ni_T d 210 8 [a0, a1, a2, a3, a4] (.ref o :: st) z h Q = ni_T d 210 9 [a0, a1, ni_kl a2, .ref o, a4] st z h Q := ni_T_p rfl rfl
theorem s210_8N : ni_T d 210 8 [a0, a1, a2, a3, a4] (.null :: st) z h Q = ni_T d 210 9 [a0, a1, ni_kl a2, .null, a4] st z h Q := ni_T_p rfl rfl
theorem s210_9 : ni_T d 210 9 [a0, a1, a2, .ref o, a4] st z h Q = ni_T d 210 10 [a0, a1, a2, .ref o, a4] (.ref o :: st) z h Q := ni_T_p rfl rfl
theorem s210_9N : ni_T d 210 9 [a0, a1, a2, .null, a4] st z h Q = ni_T d 210 10 [a0, a1, a2, .null, a4] (.null :: st) z h Q := ni_T_p rfl rfl
theorem s210_10 : ni_T d 210 10 [a0, a1, .int x, a3, a4] st z h Q = ni_T d 210 11 [a0, a1, .int x, a3, a4] (.int x :: st) z h Q := ni_T_p rfl rfl
theorem s210_11 : ni_T (d + 1) 210 11 [a0, a1, a2, a3, a4] (.int x1 :: .ref o20 :: st) z h Q = (Nat.ble (ni_sw st) 8 = true ∧ ni_T d 110 0 [.ref o20, .int x1] [] z h (ni_K (d + 1) 210 14 [a0, a1, a2, a3, a4] st z Q)) := ni_T_cse [.ref o20, .int x1] rfl rfl rfl rfl rfl rfl rfl rfl rfl
theorem s210_11N0 : ni_T (d + 1) 210 11 [a0, a1, a2, a3, a4] (.int x1 :: .null :: st) z h Q = (Nat.ble (ni_sw st) 8 = true ∧ ni_T d 110 0 [.null, .int x1] [] z h (ni_K (d + 1) 210 14 [a0, a1, a2, a3, a4] st z Q)) := ni_T_cse [.null, .int x1] rfl rfl rfl rfl rfl rfl rfl rfl rfl
theorem s210_14 : ni_T d 210 14 [a0, a1, a2, a3, a4] (.int x :: st) z h Q = ni_T d 210 16 [a0, a1, a2, ni_kl a3, .int x] st z h Q := ni_T_p rfl rfl
theorem s210_16 : ni_T d 210 16 [a0, a1, a2, a3, .int x] st z h Q = ni_T d 210 18 [a0, a1, a2, a3, .int x] (.int x :: st) z h Q := ni_T_p rfl rfl
theorem s210_18 : ni_T d 210 18 [a0, a1, a2, a3, a4] (.int x :: st) z h Q = if x = 0 then ni_T d 210 21 [a0, a1, a2, a3, a4] st z h Q else ni_T d 210 41 [a0, a1, a2, a3, a4] st z h Q := ni_T_b rfl rfl
theorem s210_21 : ni_T d 210 21 [.ref o, a1, a2, a3, a4] st z h Q = ni_T d 210 22 [.ref o, a1, a2, a3, a4] (.ref o :: st) z h Q := ni_T_p rfl rfl
theorem s210_22 : ni_T d 210 22 [a0, a1, a2, a3, a4] (.ref o :: st) z h Q = (ni_is (h o) 6 4 = true ∧ ni_T d 210 25 [a0, a1, a2, a3, a4] (ni_gv (h o) 4 :: st) z h Q) := ni_T_getf rfl
theorem s210_25 : ni_T d 210 25 [.ref o, a1, a2, a3, a4] st z h Q = ni_T d 210 26 [.ref o, a1, a2, a3, a4] (.ref o :: st) z h Q := ni_T_p rfl rfl
theorem s210_26 : ni_T d 210 26 [a0, a1, a2, a3, a4] (.ref o :: st) z h Q = (ni_is (h o) 6 1 = true ∧ ni_T d 210 29 [a0, a1, a2, a3, a4] (ni_gv (h o) 1 :: st) z h Q) := ni_T_getf rfl
theorem s210_29 : ni_T (d + 1) 210 29 [a0, a1, a2, a3, a4] (.ref o20 :: .ref o :: st) z h Q = (ni_rc (h o) 2 = true ∧ Nat.ble (ni_sw st) 8 = true ∧ ni_T d 16 0 [.ref o, .ref o20, .retAddr 0, .retAddr 0] [] z h (ni_K (d + 1) 210 32 [a0, a1, a2, a3, a4] st z Q)) := ni_T_ce [.ref o, .ref o20] rfl rfl rfl rfl rfl rfl rfl rfl rfl
theorem s210_29N0 : ni_T (d + 1) 210 29 [a0, a1, a2, a3, a4] (.null :: .ref o :: st) z h Q = (ni_rc (h o) 2 = true ∧ Nat.ble (ni_sw st) 8 = true ∧ ni_T d 16 0 [.ref o, .null, .retAddr 0, .retAddr 0] [] z h (ni_K (d + 1) 210 32 [a0, a1, a2, a3, a4] st z Q)) := ni_T_ce [.ref o, .null] rfl rfl rfl rfl rfl rfl rfl rfl rfl
theorem s210_32 : ni_T d 210 32 [.ref o, a1, a2, a3, a4] st z h Q = ni_T d 210 33 [.ref o, a1, a2, a3, a4] (.ref o :: st) z h Q := ni_T_p rfl rfl
theorem s210_33 : ni_T d 210 33 [a0, a1, a2, a3, a4] (.ref o :: st) z h Q = (ni_is (h o) 6 4 = true ∧ ni_T d 210 36 [a0, a1, a2, a3, a4] (ni_gv (h o) 4 :: st) z h Q) := ni_T_getf rfl
theorem s210_36 : ni_T d 210 36 [a0, a1, a2, .ref o, a4] st z h Q = ni_T d 210 37 [a0, a1, a2, .ref o, a4] (.ref o :: st) z h Q := ni_T_p rfl rfl
theorem s210_36N : ni_T d 210 36 [a0, a1, a2, .null, a4] st z h Q = ni_T d 210 37 [a0, a1, a2, .null, a4] (.null :: st) z h Q := ni_T_p rfl rfl
theorem s210_37 : ni_T d 210 37 [a0, a1, .int x, a3, a4] st z h Q = ni_T d 210 38 [a0, a1, .int x, a3, a4] (.int x :: st) z h Q := ni_T_p rfl rfl
theorem s210_38 : ni_T (d + 1) 210 38 [a0, a1, a2, a3, a4] (.int x1 :: .ref o20 :: .ref o :: st) z h Q = (ni_rc (h o) 2 = true ∧ Nat.ble (ni_sw st) 8 = true ∧ ni_T d 23 0 [.ref o, .ref o20, .int x1, .retAddr 0] [] z h (ni_K (d + 1) 210 41 [a0, a1, a2, a3, a4] st z Q)) := ni_T_ce [.ref o, .ref o20, .int x1] rfl rfl rfl rfl rfl rfl rfl rfl rfl
theorem s210_38N0 : ni_T (d + 1) 210 38 [a0, a1, a2, a3, a4] (.int x1 :: .null :: .ref o :: st) z h Q = (ni_rc (h o) 2 = true ∧ Nat.ble (ni_sw st) 8 = true ∧ ni_T d 23 0 [.ref o, .null, .int x1, .retAddr 0] [] z h (ni_K (d + 1) 210 41 [a0, a1, a2, a3, a4] st z Q)) := ni_T_ce [.ref o, .null, .int x1] rfl rfl rfl rfl rfl rfl rfl rfl rfl
theorem s210_41 : ni_T d 210 41 [a0, a1, a2, a3, .int x] st z h Q = ni_T d 210 43 [a0, a1, a2, a3, .int x] (.int x :: st) z h Q := ni_T_p rfl rfl
theorem s210_43 : ni_T d 210 43 [a0, a1, a2, a3, a4] [.int x] z h Q = Q (some (.int x)) z h := ni_T_i rfl rfl
end
