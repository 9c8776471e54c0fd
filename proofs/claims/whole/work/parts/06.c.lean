section
variable {d : Nat} {a0 a1 a2 a3 a4 a5 a6 a7 a8 a9 a10 a11 a12 : Value} {x y : Int32} {x0 x1 x2 x3 x4 x5 : Int32} {u w : Int64} {u0 u1 u2 u3 : Int64} {o o1 o20 o21 o22 o23 o24 o25 : Nat} {b0 b1 b2 b3 b4 b5 : Value} {st : List Value} {z : ni_Z} {h : ni_H} {Q : ni_Q}

theorem s119_0 : ni_T d 119 0 [.ref o, a1] st z h Q = ni_T d 119 1 [.ref o, a1] (.ref o :: st) z h Q := ni_T_p rfl rfl
theorem s119_1 : ni_T (d + 1) 119 1 [a0, a1] (.ref o :: st) z h Q = (Nat.ble (ni_sw st) 8 = true ∧ ni_T (d + 1) 119 4 [a0, a1] st z h Q) := ni_T_oic rfl rfl
theorem s119_4 : ni_T d 119 4 [.ref o, a1] st z h Q = ni_T d 119 5 [.ref o, a1] (.ref o :: st) z h Q := ni_T_p rfl rfl
theorem s119_5 : ni_T d 119 5 [a0, a1] st z h Q = ni_T d 119 6 [a0, a1] (.int 1 :: st) z h Q := ni_T_p rfl rfl
theorem s119_6 : ni_T d 119 6 [a0, a1] (b0 :: .ref o :: st) z h Q = ((Nat.ble 7 7 && ni_is (h o) 7 3 && ni_fit (.int) b0) = true ∧ ni_T d 119 9 [a0, a1] st z (ni_up h o (ni_pv (h o) 3 b0)) Q) := ni_T_putf rfl
theorem s119_9 : ni_T d 119 9 [.ref o, a1] st z h Q = ni_T d 119 10 [.ref o, a1] (.ref o :: st) z h Q := ni_T_p rfl rfl
theorem s119_10 : ni_T d 119 10 [a0, a1] st z h Q = ni_T d 119 11 [a0, a1] (.int (-1) :: st) z h Q := ni_T_p rfl rfl
theorem s119_11 : ni_T d 119 11 [a0, a1] (b0 :: .ref o :: st) z h Q = ((Nat.ble 7 7 && ni_is (h o) 7 4 && ni_fit (.int) b0) = true ∧ ni_T d 119 14 [a0, a1] st z (ni_up h o (ni_pv (h o) 4 b0)) Q) := ni_T_putf rfl
theorem s119_14 : ni_T d 119 14 [.ref o, a1] st z h Q = ni_T d 119 15 [.ref o, a1] (.ref o :: st) z h Q := ni_T_p rfl rfl
theorem s119_15 : ni_T d 119 15 [a0, a1] st z h Q = ni_T d 119 17 [a0, a1] (.int 8 :: st) z h Q := ni_T_p rfl rfl
theorem s119_17 : ni_T d 119 17 [a0, a1] (.int x :: st) z h Q = ((ni_ok z.1 [a0, a1] st h && Nat.ble (z.1 + 1) 900 && !decide (x < 0) && Nat.ble x.toNatClampNeg 65536) = true ∧ ni_T d 119 19 [a0, a1] (.ref z.1 :: st) (z.1 + 1, z.2 + x.toNatClampNeg) (ni_up h z.1 (.inl (0, x.toNatClampNeg, .inl (fun _ => 0)))) Q) := ni_T_ne rfl rfl rfl rfl rfl rfl rfl
theorem s119_19 : ni_T d 119 19 [a0, a1] (b0 :: .ref o :: st) z h Q = ((Nat.ble 7 7 && ni_is (h o) 7 5 && ni_fit (.array .int) b0) = true ∧ ni_T d 119 22 [a0, a1] st z (ni_up h o (ni_pv (h o) 5 b0)) Q) := ni_T_putf rfl
theorem s119_22 : ni_T d 119 22 [.ref o, a1] st z h Q = ni_T d 119 23 [.ref o, a1] (.ref o :: st) z h Q := ni_T_p rfl rfl
theorem s119_23 : ni_T d 119 23 [a0, a1] st z h Q = ni_T d 119 24 [a0, a1] (.int 4 :: st) z h Q := ni_T_p rfl rfl
theorem s119_24 : ni_T d 119 24 [a0, a1] (.int x :: st) z h Q = ((ni_ok z.1 [a0, a1] st h && Nat.ble (z.1 + 1) 900 && !decide (x < 0) && Nat.ble x.toNatClampNeg 65536) = true ∧ ni_T d 119 26 [a0, a1] (.ref z.1 :: st) (z.1 + 1, z.2 + x.toNatClampNeg) (ni_up h z.1 (.inl (0, x.toNatClampNeg, .inl (fun _ => 0)))) Q) := ni_T_ne rfl rfl rfl rfl rfl rfl rfl
theorem s119_26 : ni_T d 119 26 [a0, a1] (b0 :: .ref o :: st) z h Q = ((Nat.ble 7 7 && ni_is (h o) 7 6 && ni_fit (.array .int) b0) = true ∧ ni_T d 119 29 [a0, a1] st z (ni_up h o (ni_pv (h o) 6 b0)) Q) := ni_T_putf rfl
theorem s119_29 : ni_T d 119 29 [.ref o, a1] st z h Q = ni_T d 119 30 [.ref o, a1] (.ref o :: st) z h Q := ni_T_p rfl rfl
theorem s119_30 : ni_T d 119 30 [a0, a1] st z h Q = ni_T d 119 31 [a0, a1] (.int 4 :: st) z h Q := ni_T_p rfl rfl
theorem s119_31 : ni_T d 119 31 [a0, a1] (.int x :: st) z h Q = ((ni_ok z.1 [a0, a1] st h && Nat.ble (z.1 + 1) 900 && !decide (x < 0) && Nat.ble x.toNatClampNeg 65536) = true ∧ ni_T d 119 33 [a0, a1] (.ref z.1 :: st) (z.1 + 1, z.2 + x.toNatClampNeg) (ni_up h z.1 (.inl (0, x.toNatClampNeg, .inl (fun _ => 0)))) Q) := ni_T_ne rfl rfl rfl rfl rfl rfl rfl
theorem s119_33 : ni_T d 119 33 [a0, a1] (b0 :: .ref o :: st) z h Q = ((Nat.ble 7 7 && ni_is (h o) 7 7 && ni_fit (.array .int) b0) = true ∧ ni_T d 119 36 [a0, a1] st z (ni_up h o (ni_pv (h o) 7 b0)) Q) := ni_T_putf rfl
theorem s119_36 : ni_T d 119 36 [.ref o, a1] st z h Q = ni_T d 119 37 [.ref o, a1] (.ref o :: st) z h Q := ni_T_p rfl rfl
theorem s119_37 : ni_T d 119 37 [a0, a1] st z h Q = ni_T d 119 38 [a0, a1] (.int 4 :: st) z h Q := ni_T_p rfl rfl
theorem s119_38 : ni_T d 119 38 [a0, a1] (.int x :: st) z h Q = ((ni_ok z.1 [a0, a1] st h && Nat.ble (z.1 + 1) 900 && !decide (x < 0) && Nat.ble x.toNatClampNeg 65536) = true ∧ ni_T d 119 40 [a0, a1] (.ref z.1 :: st) (z.1 + 1, z.2 + x.toNatClampNeg) (ni_up h z.1 (.inl (0, x.toNatClampNeg, .inl (fun _ => 0)))) Q) := ni_T_ne rfl rfl rfl rfl rfl rfl rfl
theorem s119_40 : ni_T d 119 40 [a0, a1] (b0 :: .ref o :: st) z h Q = ((Nat.ble 7 7 && ni_is (h o) 7 8 && ni_fit (.array .int) b0) = true ∧ ni_T d 119 43 [a0, a1] st z (ni_up h o (ni_pv (h o) 8 b0)) Q) := ni_T_putf rfl
theorem s119_43 : ni_T d 119 43 [.ref o, a1] st z h Q = ni_T d 119 44 [.ref o, a1] (.ref o :: st) z h Q := ni_T_p rfl rfl
theorem s119_44 : ni_T d 119 44 [a0, a1] st z h Q = ni_T d 119 45 [a0, a1] (.int 4 :: st) z h Q := ni_T_p rfl rfl
theorem s119_45 : ni_T d 119 45 [a0, a1] (.int x :: st) z h Q = ((ni_ok z.1 [a0, a1] st h && Nat.ble (z.1 + 1) 900 && !decide (x < 0) && Nat.ble x.toNatClampNeg 65536) = true ∧ ni_T d 119 47 [a0, a1] (.ref z.1 :: st) (z.1 + 1, z.2 + x.toNatClampNeg) (ni_up h z.1 (.inl (0, x.toNatClampNeg, .inl (fun _ => 0)))) Q) := ni_T_ne rfl rfl rfl rfl rfl rfl rfl
theorem s119_47 : ni_T d 119 47 [a0, a1] (b0 :: .ref o :: st) z h Q = ((Nat.ble 7 7 && ni_is (h o) 7 9 && ni_fit (.array .int) b0) = true ∧ ni_T d 119 50 [a0, a1] st z (ni_up h o (ni_pv (h o) 9 b0)) Q) := ni_T_putf rfl
theorem s119_50 : ni_T d 119 50 [.ref o, a1] st z h Q = ni_T d 119 51 [.ref o, a1] (.ref o :: st) z h Q := ni_T_p rfl rfl
theorem s119_51 : ni_T d 119 51 [a0, a1] st z h Q = ni_T d 119 52 [a0, a1] (.int 4 :: st) z h Q := ni_T_p rfl rfl
theorem s119_52 : ni_T d 119 52 [a0, a1] (.int x :: st) z h Q = ((ni_ok z.1 [a0, a1] st h && Nat.ble (z.1 + 1) 900 && !decide (x < 0) && Nat.ble x.toNatClampNeg 65536) = true ∧ ni_T d 119 54 [a0, a1] (.ref z.1 :: st) (z.1 + 1, z.2 + x.toNatClampNeg) (ni_up h z.1 (.inl (0, x.toNatClampNeg, .inl (fun _ => 0)))) Q) := ni_T_ne rfl rfl rfl rfl rfl rfl rfl
theorem s119_54 : ni_T d 119 54 [a0, a1] (b0 :: .ref o :: st) z h Q = ((Nat.ble 7 7 && ni_is (h o) 7 10 && ni_fit (.array .int) b0) = true ∧ ni_T d 119 57 [a0, a1] st z (ni_up h o (ni_pv (h o) 10 b0)) Q) := ni_T_putf rfl
theorem s119_57 : ni_T d 119 57 [.ref o, a1] st z h Q = ni_T d 119 58 [.ref o, a1] (.ref o :: st) z h Q := ni_T_p rfl rfl
theorem s119_58 : ni_T d 119 58 [a0, a1] st z h Q = ni_T d 119 59 [a0, a1] (.int 5 :: st) z h Q := ni_T_p rfl rfl
theorem s119_59 : ni_T d 119 59 [a0, a1] (.int x :: st) z h Q = ((ni_ok z.1 [a0, a1] st h && Nat.ble (z.1 + 1) 900 && !decide (x < 0) && Nat.ble x.toNatClampNeg 65536) = true ∧ ni_T d 119 61 [a0, a1] (.ref z.1 :: st) (z.1 + 1, z.2 + x.toNatClampNeg) (ni_up h z.1 (.inl (0, x.toNatClampNeg, .inl (fun _ => 0)))) Q) := ni_T_ne rfl rfl rfl rfl rfl rfl rfl
theorem s119_61 : ni_T d 119 61 [a0, a1] (b0 :: .ref o :: st) z h Q = ((Nat.ble 7 7 && ni_is (h o) 7 11 && ni_fit (.array .int) b0) = true ∧ ni_T d 119 64 [a0, a1] st z (ni_up h o (ni_pv (h o) 11 b0)) Q) := ni_T_putf rfl
theorem s119_64 : ni_T d 119 64 [.ref o, a1] st z h Q = ni_T d 119 65 [.ref o, a1] (.ref o :: st) z h Q := ni_T_p rfl rfl
theorem s119_65 : ni_T d 119 65 [a0, a1] st z h Q = ni_T d 119 67 [a0, a1] (.int 8 :: st) z h Q := ni_T_p rfl rfl
theorem s119_67 : ni_T d 119 67 [a0, a1] (.int x :: st) z h Q = ((ni_ok z.1 [a0, a1] st h && Nat.ble (z.1 + 1) 900 && !decide (x < 0) && Nat.ble x.toNatClampNeg 65536) = true ∧ ni_T d 119 69 [a0, a1] (.ref z.1 :: st) (z.1 + 1, z.2 + x.toNatClampNeg) (ni_up h z.1 (.inl (0, x.toNatClampNeg, .inl (fun _ => 0)))) Q) := ni_T_ne rfl rfl rfl rfl rfl rfl rfl
theorem s119_69 : ni_T d 119 69 [a0, a1] (b0 :: .ref o :: st) z h Q = ((Nat.ble 7 7 && ni_is (h o) 7 12 && ni_fit (.array .int) b0) = true ∧ ni_T d 119 72 [a0, a1] st z (ni_up h o (ni_pv (h o) 12 b0)) Q) := ni_T_putf rfl
theorem s119_72 : ni_T d 119 72 [.ref o, a1] st z h Q = ni_T d 119 73 [.ref o, a1] (.ref o :: st) z h Q := ni_T_p rfl rfl
theorem s119_73 : ni_T d 119 73 [a0, a1] st z h Q = ni_T d 119 75 [a0, a1] (.int 8 :: st) z h Q := ni_T_p rfl rfl
theorem s119_75 : ni_T d 119 75 [a0, a1] (.int x :: st) z h Q = ((ni_ok z.1 [a0, a1] st h && Nat.ble (z.1 + 1) 900 && !decide (x < 0) && Nat.ble x.toNatClampNeg 65536) = true ∧ ni_T d 119 77 [a0, a1] (.ref z.1 :: st) (z.1 + 1, z.2 + x.toNatClampNeg) (ni_up h z.1 (.inl (0, x.toNatClampNeg, .inl (fun _ => 0)))) Q) := ni_T_ne rfl rfl rfl rfl rfl rfl rfl
theorem s119_77 : ni_T d 119 77 [a0, a1] (b0 :: .ref o :: st) z h Q = ((Nat.ble 7 7 && ni_is (h o) 7 13 && ni_fit (.array .int) b0) = true ∧ ni_T d 119 80 [a0, a1] st z (ni_up h o (ni_pv (h o) 13 b0)) Q) := ni_T_putf rfl
theorem s119_80 : ni_T d 119 80 [.ref o, a1] st z h Q = ni_T d 119 81 [.ref o, a1] (.ref o :: st) z h Q := ni_T_p rfl rfl
theorem s119_81 : ni_T d 119 81 [a0, a1] st z h Q = ni_T d 119 83 [a0, a1] (.int 8 :: st) z h Q := ni_T_p rfl rfl
theorem s119_83 : ni_T d 119 83 [a0, a1] (.int x :: st) z h Q = ((ni_ok z.1 [a0, a1] st h && Nat.ble (z.1 + 1) 900 && !decide (x < 0) && Nat.ble x.toNatClampNeg 65536) = true ∧ ni_T d 119 85 [a0, a1] (.ref z.1 :: st) (z.1 + 1, z.2 + x.toNatClampNeg) (ni_up h z.1 (.inl (0, x.toNatClampNeg, .inl (fun _ => 0)))) Q) := ni_T_ne rfl rfl rfl rfl rfl rfl rfl
theorem s119_85 : ni_T d 119 85 [a0, a1] (b0 :: .ref o :: st) z h Q = ((Nat.ble 7 7 && ni_is (h o) 7 14 && ni_fit (.array .int) b0) = true ∧ ni_T d 119 88 [a0, a1] st z (ni_up h o (ni_pv (h o) 14 b0)) Q) := ni_T_putf rfl
theorem s119_88 : ni_T d 119 88 [.ref o, a1] st z h Q = ni_T d 119 89 [.ref o, a1] (.ref o :: st) z h Q := ni_T_p rfl rfl
theorem s119_89 : ni_T d 119 89 [a0, a1] st z h Q = ni_T d 119 91 [a0, a1] (.int 8 :: st) z h Q := ni_T_p rfl rfl
theorem s119_91 : ni_T d 119 91 [a0, a1] (.int x :: st) z h Q = ((ni_ok z.1 [a0, a1] st h && Nat.ble (z.1 + 1) 900 && !decide (x < 0) && Nat.ble x.toNatClampNeg 65536) = true ∧ ni_T d 119 93 [a0, a1] (.ref z.1 :: st) (z.1 + 1, z.2 + x.toNatClampNeg) (ni_up h z.1 (.inl (0, x.toNatClampNeg, .inl (fun _ => 0)))) Q) := ni_T_ne rfl rfl rfl rfl rfl rfl rfl
theorem s119_93 : ni_T d 119 93 [a0, a1] (b0 :: .ref o :: st) z h Q = ((Nat.ble 7 7 && ni_is (h o) 7 15 && ni_fit (.array .int) b0) = true ∧ ni_T d 119 96 [a0, a1] st z (ni_up h o (ni_pv (h o) 15 b0)) Q) := ni_T_putf rfl
theorem s119_96 : ni_T d 119 96 [.ref o, a1] st z h Q = ni_T d 119 97 [.ref o, a1] (.ref o :: st) z h Q := ni_T_p rfl rfl
theorem s119_97 : ni_T d 119 97 [a0, a1] st z h Q = ni_T d 119 100 [a0, a1] (.int 1280 :: st) z h Q := ni_T_p rfl rfl
theorem s119_100 : ni_T d 119 100 [a0, a1] (.int x :: st) z h Q = ((ni_ok z.1 [a0, a1] st h && Nat.ble (z.1 + 1) 900 && !decide (x < 0) && Nat.ble x.toNatClampNeg 65536) = true ∧ ni_T d 119 102 [a0, a1] (.ref z.1 :: st) (z.1 + 1, z.2 + x.toNatClampNeg) (ni_up h z.1 (.inl (1, x.toNatClampNeg, .inr (.inl (fun _ => 0))))) Q) := ni_T_ne rfl rfl rfl rfl rfl rfl rfl
theorem s119_102 : ni_T d 119 102 [a0, a1] (b0 :: .ref o :: st) z h Q = ((Nat.ble 7 7 && ni_is (h o) 7 16 && ni_fit (.array .long) b0) = true ∧ ni_T d 119 105 [a0, a1] st z (ni_up h o (ni_pv (h o) 16 b0)) Q) := ni_T_putf rfl
theorem s119_105 : ni_T d 119 105 [.ref o, a1] st z h Q = ni_T d 119 106 [.ref o, a1] (.ref o :: st) z h Q := ni_T_p rfl rfl
theorem s119_106 : ni_T d 119 106 [a0, a1] st z h Q = ni_T d 119 109 [a0, a1] (.int 160 :: st) z h Q := ni_T_p rfl rfl
theorem s119_109 : ni_T d 119 109 [a0, a1] (.int x :: st) z h Q = ((ni_ok z.1 [a0, a1] st h && Nat.ble (z.1 + 1) 900 && !decide (x < 0) && Nat.ble x.toNatClampNeg 65536) = true ∧ ni_T d 119 111 [a0, a1] (.ref z.1 :: st) (z.1 + 1, z.2 + x.toNatClampNeg) (ni_up h z.1 (.inl (1, x.toNatClampNeg, .inr (.inl (fun _ => 0))))) Q) := ni_T_ne rfl rfl rfl rfl rfl rfl rfl
theorem s119_111 : ni_T d 119 111 [a0, a1] (b0 :: .ref o :: st) z h Q = ((Nat.ble 7 7 && ni_is (h o) 7 17 && ni_fit (.array .long) b0) = true ∧ ni_T d 119 114 [a0, a1] st z (ni_up h o (ni_pv (h o) 17 b0)) Q) := ni_T_putf rfl
theorem s119_114 : ni_T d 119 114 [.ref o, a1] st z h Q = ni_T d 119 115 [.ref o, a1] (.ref o :: st) z h Q := ni_T_p rfl rfl
theorem s119_115 : ni_T d 119 115 [a0, a1] st z h Q = ni_T d 119 117 [a0, a1] (.int 30 :: st) z h Q := ni_T_p rfl rfl
theorem s119_117 : ni_T d 119 117 [a0, a1] (.int x :: st) z h Q = ((ni_ok z.1 [a0, a1] st h && Nat.ble (z.1 + 1) 900 && !decide (x < 0) && Nat.ble x.toNatClampNeg 65536) = true ∧ ni_T d 119 119 [a0, a1] (.ref z.1 :: st) (z.1 + 1, z.2 + x.toNatClampNeg) (ni_up h z.1 (.inl (0, x.toNatClampNeg, .inl (fun _ => 0)))) Q) := ni_T_ne rfl rfl rfl rfl rfl rfl rfl
theorem s119_119 : ni_T d 119 119 [a0, a1] (.ref o :: st) z h Q = ni_T d 119 120 [a0, a1] (.ref o :: .ref o :: st) z h Q := ni_T_p rfl rfl
theorem s119_119i : ni_T d 119 119 [a0, a1] (.int x :: st) z h Q = ni_T d 119 120 [a0, a1] (.int x :: .int x :: st) z h Q := ni_T_p rfl rfl
theorem s119_120 : ni_T d 119 120 [a0, a1] st z h Q = ni_T d 119 121 [a0, a1] (.int 0 :: st) z h Q := ni_T_p rfl rfl
theorem s119_121 : ni_T d 119 121 [a0, a1] st z h Q = ni_T d 119 123 [a0, a1] (.int 104 :: st) z h Q := ni_T_p rfl rfl
theorem s119_123 : ni_T d 119 123 [a0, a1] (.int y :: .int x :: .ref o :: st) z h Q = (ni_okS (h o) x = true ∧ ni_T d 119 124 [a0, a1] st z (ni_up h o (ni_pi (h o) x y)) Q) := ni_T_iast rfl
theorem s119_124 : ni_T d 119 124 [a0, a1] (.ref o :: st) z h Q = ni_T d 119 125 [a0, a1] (.ref o :: .ref o :: st) z h Q := ni_T_p rfl rfl
theorem s119_124i : ni_T d 119 124 [a0, a1] (.int x :: st) z h Q = ni_T d 119 125 [a0, a1] (.int x :: .int x :: st) z h Q := ni_T_p rfl rfl
theorem s119_125 : ni_T d 119 125 [a0, a1] st z h Q = ni_T d 119 126 [a0, a1] (.int 1 :: st) z h Q := ni_T_p rfl rfl
theorem s119_126 : ni_T d 119 126 [a0, a1] st z h Q = ni_T d 119 128 [a0, a1] (.int 97 :: st) z h Q := ni_T_p rfl rfl
theorem s119_128 : ni_T d 119 128 [a0, a1] (.int y :: .int x :: .ref o :: st) z h Q = (ni_okS (h o) x = true ∧ ni_T d 119 129 [a0, a1] st z (ni_up h o (ni_pi (h o) x y)) Q) := ni_T_iast rfl
theorem s119_129 : ni_T d 119 129 [a0, a1] (.ref o :: st) z h Q = ni_T d 119 130 [a0, a1] (.ref o :: .ref o :: st) z h Q := ni_T_p rfl rfl
theorem s119_129i : ni_T d 119 129 [a0, a1] (.int x :: st) z h Q = ni_T d 119 130 [a0, a1] (.int x :: .int x :: st) z h Q := ni_T_p rfl rfl
theorem s119_130 : ni_T d 119 130 [a0, a1] st z h Q = ni_T d 119 131 [a0, a1] (.int 2 :: st) z h Q := ni_T_p rfl rfl
theorem s119_131 : ni_T d 119 131 [a0, a1] st z h Q = ni_T d 119 133 [a0, a1] (.int 110 :: st) z h Q := ni_T_p rfl rfl
theorem s119_133 : ni_T d 119 133 [a0, a1] (.int y :: .int x :: .ref o :: st) z h Q = (ni_okS (h o) x = true ∧ ni_T d 119 134 [a0, a1] st z (ni_up h o (ni_pi (h o) x y)) Q) := ni_T_iast rfl
theorem s119_134 : ni_T d 119 134 [a0, a1] (.ref o :: st) z h Q = ni_T d 119 135 [a0, a1] (.ref o :: .ref o :: st) z h Q := ni_T_p rfl rfl
theorem s119_134i : ni_T d 119 134 [a0, a1] (.int x :: st) z h Q = ni_T d 119 135 [a0, a1] (.int x :: .int x :: st) z h Q := ni_T_p rfl rfl
theorem s119_135 : ni_T d 119 135 [a0, a1] st z h Q = ni_T d 119 136 [a0, a1] (.int 3 :: st) z h Q := ni_T_p rfl rfl
theorem s119_136 : ni_T d 119 136 [a0, a1] st z h Q = ni_T d 119 138 [a0, a1] (.int 100 :: st) z h Q := ni_T_p rfl rfl
theorem s119_138 : ni_T d 119 138 [a0, a1] (.int y :: .int x :: .ref o :: st) z h Q = (ni_okS (h o) x = true ∧ ni_T d 119 139 [a0, a1] st z (ni_up h o (ni_pi (h o) x y)) Q) := ni_T_iast rfl
theorem s119_139 : ni_T d 119 139 [a0, a1] (.ref o :: st) z h Q = ni_T d 119 140 [a0, a1] (.ref o :: .ref o :: st) z h Q := ni_T_p rfl rfl
theorem s119_139i : ni_T d 119 139 [a0, a1] (.int x :: st) z h Q = ni_T d 119 140 [a0, a1] (.int x :: .int x :: st) z h Q := ni_T_p rfl rfl
theorem s119_140 : ni_T d 119 140 [a0, a1] st z h Q = ni_T d 119 141 [a0, a1] (.int 4 :: st) z h Q := ni_T_p rfl rfl
theorem s119_141 : ni_T d 119 141 [a0, a1] st z h Q = ni_T d 119 143 [a0, a1] (.int 32 :: st) z h Q := ni_T_p rfl rfl
theorem s119_143 : ni_T d 119 143 [a0, a1] (.int y :: .int x :: .ref o :: st) z h Q = (ni_okS (h o) x = true ∧ ni_T d 119 144 [a0, a1] st z (ni_up h o (ni_pi (h o) x y)) Q) := ni_T_iast rfl
theorem s119_144 : ni_T d 119 144 [a0, a1] (.ref o :: st) z h Q = ni_T d 119 145 [a0, a1] (.ref o :: .ref o :: st) z h Q := ni_T_p rfl rfl
theorem s119_144i : ni_T d 119 144 [a0, a1] (.int x :: st) z h Q = ni_T d 119 145 [a0, a1] (.int x :: .int x :: st) z h Q := ni_T_p rfl rfl
theorem s119_145 : ni_T d 119 145 [a0, a1] st z h Q = ni_T d 119 146 [a0, a1] (.int 5 :: st) z h Q := ni_T_p rfl rfl
theorem s119_146 : ni_T d 119 146 [a0, a1] st z h Q = ni_T d 119 147 [a0, a1] (.int 0 :: st) z h Q := ni_T_p rfl rfl
theorem s119_147 : ni_T d 119 147 [a0, a1] (.int y :: .int x :: .ref o :: st) z h Q = (ni_okS (h o) x = true ∧ ni_T d 119 148 [a0, a1] st z (ni_up h o (ni_pi (h o) x y)) Q) := ni_T_iast rfl
theorem s119_148 : ni_T d 119 148 [a0, a1] (.ref o :: st) z h Q = ni_T d 119 149 [a0, a1] (.ref o :: .ref o :: st) z h Q := ni_T_p rfl rfl
theorem s119_148i : ni_T d 119 148 [a0, a1] (.int x :: st) z h Q = ni_T d 119 149 [a0, a1] (.int x :: .int x :: st) z h Q := ni_T_p rfl rfl
theorem s119_149 : ni_T d 119 149 [a0, a1] st z h Q = ni_T d 119 151 [a0, a1] (.int 6 :: st) z h Q := ni_T_p rfl rfl
theorem s119_151 : ni_T d 119 151 [a0, a1] st z h Q = ni_T d 119 153 [a0, a1] (.int 115 :: st) z h Q := ni_T_p rfl rfl
theorem s119_153 : ni_T d 119 153 [a0, a1] (.int y :: .int x :: .ref o :: st) z h Q = (ni_okS (h o) x = true ∧ ni_T d 119 154 [a0, a1] st z (ni_up h o (ni_pi (h o) x y)) Q) := ni_T_iast rfl
theorem s119_154 : ni_T d 119 154 [a0, a1] (.ref o :: st) z h Q = ni_T d 119 155 [a0, a1] (.ref o :: .ref o :: st) z h Q := ni_T_p rfl rfl
theorem s119_154i : ni_T d 119 154 [a0, a1] (.int x :: st) z h Q = ni_T d 119 155 [a0, a1] (.int x :: .int x :: st) z h Q := ni_T_p rfl rfl
theorem s119_155 : ni_T d 119 155 [a0, a1] st z h Q = ni_T d 119 157 [a0, a1] (.int 7 :: st) z h Q := ni_T_p rfl rfl
theorem s119_157 : ni_T d 119 157 [a0, a1] st z h Q = ni_T d 119 159 [a0, a1] (.int 116 :: st) z h Q := ni_T_p rfl rfl
theorem s119_159 : ni_T d 119 159 [a0, a1] (.int y :: .int x :: .ref o :: st) z h Q = (ni_okS (h o) x = true ∧ ni_T d 119 160 [a0, a1] st z (ni_up h o (ni_pi (h o) x y)) Q) := ni_T_iast rfl
theorem s119_160 : ni_T d 119 160 [a0, a1] (.ref o :: st) z h Q = ni_T d 119 161 [a0, a1] (.ref o :: .ref o :: st) z h Q := ni_T_p rfl rfl
theorem s119_160i : ni_T d 119 160 [a0, a1] (.int x :: st) z h Q = ni_T d 119 161 [a0, a1] (.int x :: .int x :: st) z h Q := ni_T_p rfl rfl
theorem s119_161 : ni_T d 119 161 [a0, a1] st z h Q = ni_T d 119 163 [a0, a1] (.int 8 :: st) z h Q := ni_T_p rfl rfl
theorem s119_163 : ni_T d 119 163 [a0, a1] st z h Q = ni_T d 119 165 [a0, a1] (.int 111 :: st) z h Q := ni_T_p rfl rfl
theorem s119_165 : ni_T d 119 165 [a0, a1] (.int y :: .int x :: .ref o :: st) z h Q = (ni_okS (h o) x = true ∧ ni_T d 119 166 [a0, a1] st z (ni_up h o (ni_pi (h o) x y)) Q) := ni_T_iast rfl
theorem s119_166 : ni_T d 119 166 [a0, a1] (.ref o :: st) z h Q = ni_T d 119 167 [a0, a1] (.ref o :: .ref o :: st) z h Q := ni_T_p rfl rfl
theorem s119_166i : ni_T d 119 166 [a0, a1] (.int x :: st) z h Q = ni_T d 119 167 [a0, a1] (.int x :: .int x :: st) z h Q := ni_T_p rfl rfl
theorem s119_167 : ni_T d 119 167 [a0, a1] st z h Q = ni_T d 119 169 [a0, a1] (.int 9 :: st) z h Q := ni_T_p rfl rfl
theorem s119_169 : ni_T d 119 169 [a0, a1] st z h Q = ni_T d 119 171 [a0, a1] (.int 110 :: st) z h Q := ni_T_p rfl rfl
theorem s119_171 : ni_T d 119 171 [a0, a1] (.int y :: .int x :: .ref o :: st) z h Q = (ni_okS (h o) x = true ∧ ni_T d 119 172 [a0, a1] st z (ni_up h o (ni_pi (h o) x y)) Q) := ni_T_iast rfl
theorem s119_172 : ni_T d 119 172 [a0, a1] (.ref o :: st) z h Q = ni_T d 119 173 [a0, a1] (.ref o :: .ref o :: st) z h Q := ni_T_p rfl rfl
theorem s119_172i : ni_T d 119 172 [a0, a1] (.int x :: st) z h Q = ni_T d 119 173 [a0, a1] (.int x :: .int x :: st) z h Q := ni_T_p rfl rfl
theorem s119_173 : ni_T d 119 173 [a0, a1] st z h Q = ni_T d 119 175 [a0, a1] (.int 10 :: st) z h Q := ni_T_p rfl rfl
theorem s119_175 : ni_T d 119 175 [a0, a1] st z h Q = ni_T d 119 177 [a0, a1] (.int 101 :: st) z h Q := ni_T_p rfl rfl
theorem s119_177 : ni_T d 119 177 [a0, a1] (.int y :: .int x :: .ref o :: st) z h Q = (ni_okS (h o) x = true ∧ ni_T d 119 178 [a0, a1] st z (ni_up h o (ni_pi (h o) x y)) Q) := ni_T_iast rfl
theorem s119_178 : ni_T d 119 178 [a0, a1] (.ref o :: st) z h Q = ni_T d 119 179 [a0, a1] (.ref o :: .ref o :: st) z h Q := ni_T_p rfl rfl
theorem s119_178i : ni_T d 119 178 [a0, a1] (.int x :: st) z h Q = ni_T d 119 179 [a0, a1] (.int x :: .int x :: st) z h Q := ni_T_p rfl rfl
theorem s119_179 : ni_T d 119 179 [a0, a1] st z h Q = ni_T d 119 181 [a0, a1] (.int 11 :: st) z h Q := ni_T_p rfl rfl
theorem s119_181 : ni_T d 119 181 [a0, a1] st z h Q = ni_T d 119 183 [a0, a1] (.int 32 :: st) z h Q := ni_T_p rfl rfl
theorem s119_183 : ni_T d 119 183 [a0, a1] (.int y :: .int x :: .ref o :: st) z h Q = (ni_okS (h o) x = true ∧ ni_T d 119 184 [a0, a1] st z (ni_up h o (ni_pi (h o) x y)) Q) := ni_T_iast rfl
theorem s119_184 : ni_T d 119 184 [a0, a1] (.ref o :: st) z h Q = ni_T d 119 185 [a0, a1] (.ref o :: .ref o :: st) z h Q := ni_T_p rfl rfl
theorem s119_184i : ni_T d 119 184 [a0, a1] (.int x :: st) z h Q = ni_T d 119 185 [a0, a1] (.int x :: .int x :: st) z h Q := ni_T_p rfl rfl
theorem s119_185 : ni_T d 119 185 [a0, a1] st z h Q = ni_T d 119 187 [a0, a1] (.int 12 :: st) z h Q := ni_T_p rfl rfl
theorem s119_187 : ni_T d 119 187 [a0, a1] st z h Q = ni_T d 119 188 [a0, a1] (.int 0 :: st) z h Q := ni_T_p rfl rfl
theorem s119_188 : ni_T d 119 188 [a0, a1] (.int y :: .int x :: .ref o :: st) z h Q = (ni_okS (h o) x = true ∧ ni_T d 119 189 [a0, a1] st z (ni_up h o (ni_pi (h o) x y)) Q) := ni_T_iast rfl
theorem s119_189 : ni_T d 119 189 [a0, a1] (.ref o :: st) z h Q = ni_T d 119 190 [a0, a1] (.ref o :: .ref o :: st) z h Q := ni_T_p rfl rfl
theorem s119_189i : ni_T d 119 189 [a0, a1] (.int x :: st) z h Q = ni_T d 119 190 [a0, a1] (.int x :: .int x :: st) z h Q := ni_T_p rfl rfl
theorem s119_190 : ni_T d 119 190 [a0, a1] st z h Q = ni_T d 119 192 [a0, a1] (.int 13 :: st) z h Q := ni_T_p rfl rfl
theorem s119_192 : ni_T d 119 192 [a0, a1] st z h Q = ni_T d 119 194 [a0, a1] (.int 117 :: st) z h Q := ni_T_p rfl rfl
theorem s119_194 : ni_T d 119 194 [a0, a1] (.int y :: .int x :: .ref o :: st) z h Q = (ni_okS (h o) x = true ∧ ni_T d 119 195 [a0, a1] st z (ni_up h o (ni_pi (h o) x y)) Q) := ni_T_iast rfl
theorem s119_195 : ni_T d 119 195 [a0, a1] (.ref o :: st) z h Q = ni_T d 119 196 [a0, a1] (.ref o :: .ref o :: st) z h Q := ni_T_p rfl rfl
theorem s119_195i : ni_T d 119 195 [a0, a1] (.int x :: st) z h Q = ni_T d 119 196 [a0, a1] (.int x :: .int x :: st) z h Q := ni_T_p rfl rfl
theorem s119_196 : ni_T d 119 196 [a0, a1] st z h Q = ni_T d 119 198 [a0, a1] (.int 14 :: st) z h Q := ni_T_p rfl rfl
theorem s119_198 : ni_T d 119 198 [a0, a1] st z h Q = ni_T d 119 200 [a0, a1] (.int 112 :: st) z h Q := ni_T_p rfl rfl
theorem s119_200 : ni_T d 119 200 [a0, a1] (.int y :: .int x :: .ref o :: st) z h Q = (ni_okS (h o) x = true ∧ ni_T d 119 201 [a0, a1] st z (ni_up h o (ni_pi (h o) x y)) Q) := ni_T_iast rfl
theorem s119_201 : ni_T d 119 201 [a0, a1] (.ref o :: st) z h Q = ni_T d 119 202 [a0, a1] (.ref o :: .ref o :: st) z h Q := ni_T_p rfl rfl
theorem s119_201i : ni_T d 119 201 [a0, a1] (.int x :: st) z h Q = ni_T d 119 202 [a0, a1] (.int x :: .int x :: st) z h Q := ni_T_p rfl rfl
theorem s119_202 : ni_T d 119 202 [a0, a1] st z h Q = ni_T d 119 204 [a0, a1] (.int 15 :: st) z h Q := ni_T_p rfl rfl
theorem s119_204 : ni_T d 119 204 [a0, a1] st z h Q = ni_T d 119 206 [a0, a1] (.int 32 :: st) z h Q := ni_T_p rfl rfl
theorem s119_206 : ni_T d 119 206 [a0, a1] (.int y :: .int x :: .ref o :: st) z h Q = (ni_okS (h o) x = true ∧ ni_T d 119 207 [a0, a1] st z (ni_up h o (ni_pi (h o) x y)) Q) := ni_T_iast rfl
theorem s119_207 : ni_T d 119 207 [a0, a1] (.ref o :: st) z h Q = ni_T d 119 208 [a0, a1] (.ref o :: .ref o :: st) z h Q := ni_T_p rfl rfl
theorem s119_207i : ni_T d 119 207 [a0, a1] (.int x :: st) z h Q = ni_T d 119 208 [a0, a1] (.int x :: .int x :: st) z h Q := ni_T_p rfl rfl
theorem s119_208 : ni_T d 119 208 [a0, a1] st z h Q = ni_T d 119 210 [a0, a1] (.int 16 :: st) z h Q := ni_T_p rfl rfl
theorem s119_210 : ni_T d 119 210 [a0, a1] st z h Q = ni_T d 119 211 [a0, a1] (.int 0 :: st) z h Q := ni_T_p rfl rfl
theorem s119_211 : ni_T d 119 211 [a0, a1] (.int y :: .int x :: .ref o :: st) z h Q = (ni_okS (h o) x = true ∧ ni_T d 119 212 [a0, a1] st z (ni_up h o (ni_pi (h o) x y)) Q) := ni_T_iast rfl
theorem s119_212 : ni_T d 119 212 [a0, a1] (.ref o :: st) z h Q = ni_T d 119 213 [a0, a1] (.ref o :: .ref o :: st) z h Q := ni_T_p rfl rfl
theorem s119_212i : ni_T d 119 212 [a0, a1] (.int x :: st) z h Q = ni_T d 119 213 [a0, a1] (.int x :: .int x :: st) z h Q := ni_T_p rfl rfl
theorem s119_213 : ni_T d 119 213 [a0, a1] st z h Q = ni_T d 119 215 [a0, a1] (.int 17 :: st) z h Q := ni_T_p rfl rfl
theorem s119_215 : ni_T d 119 215 [a0, a1] st z h Q = ni_T d 119 217 [a0, a1] (.int 115 :: st) z h Q := ni_T_p rfl rfl
theorem s119_217 : ni_T d 119 217 [a0, a1] (.int y :: .int x :: .ref o :: st) z h Q = (ni_okS (h o) x = true ∧ ni_T d 119 218 [a0, a1] st z (ni_up h o (ni_pi (h o) x y)) Q) := ni_T_iast rfl
theorem s119_218 : ni_T d 119 218 [a0, a1] (.ref o :: st) z h Q = ni_T d 119 219 [a0, a1] (.ref o :: .ref o :: st) z h Q := ni_T_p rfl rfl
theorem s119_218i : ni_T d 119 218 [a0, a1] (.int x :: st) z h Q = ni_T d 119 219 [a0, a1] (.int x :: .int x :: st) z h Q := ni_T_p rfl rfl
theorem s119_219 : ni_T d 119 219 [a0, a1] st z h Q = ni_T d 119 221 [a0, a1] (.int 18 :: st) z h Q := ni_T_p rfl rfl
theorem s119_221 : ni_T d 119 221 [a0, a1] st z h Q = ni_T d 119 223 [a0, a1] (.int 116 :: st) z h Q := ni_T_p rfl rfl
theorem s119_223 : ni_T d 119 223 [a0, a1] (.int y :: .int x :: .ref o :: st) z h Q = (ni_okS (h o) x = true ∧ ni_T d 119 224 [a0, a1] st z (ni_up h o (ni_pi (h o) x y)) Q) := ni_T_iast rfl
theorem s119_224 : ni_T d 119 224 [a0, a1] (.ref o :: st) z h Q = ni_T d 119 225 [a0, a1] (.ref o :: .ref o :: st) z h Q := ni_T_p rfl rfl
theorem s119_224i : ni_T d 119 224 [a0, a1] (.int x :: st) z h Q = ni_T d 119 225 [a0, a1] (.int x :: .int x :: st) z h Q := ni_T_p rfl rfl
theorem s119_225 : ni_T d 119 225 [a0, a1] st z h Q = ni_T d 119 227 [a0, a1] (.int 19 :: st) z h Q := ni_T_p rfl rfl
theorem s119_227 : ni_T d 119 227 [a0, a1] st z h Q = ni_T d 119 229 [a0, a1] (.int 97 :: st) z h Q := ni_T_p rfl rfl
theorem s119_229 : ni_T d 119 229 [a0, a1] (.int y :: .int x :: .ref o :: st) z h Q = (ni_okS (h o) x = true ∧ ni_T d 119 230 [a0, a1] st z (ni_up h o (ni_pi (h o) x y)) Q) := ni_T_iast rfl
theorem s119_230 : ni_T d 119 230 [a0, a1] (.ref o :: st) z h Q = ni_T d 119 231 [a0, a1] (.ref o :: .ref o :: st) z h Q := ni_T_p rfl rfl
theorem s119_230i : ni_T d 119 230 [a0, a1] (.int x :: st) z h Q = ni_T d 119 231 [a0, a1] (.int x :: .int x :: st) z h Q := ni_T_p rfl rfl
theorem s119_231 : ni_T d 119 231 [a0, a1] st z h Q = ni_T d 119 233 [a0, a1] (.int 20 :: st) z h Q := ni_T_p rfl rfl
theorem s119_233 : ni_T d 119 233 [a0, a1] st z h Q = ni_T d 119 235 [a0, a1] (.int 103 :: st) z h Q := ni_T_p rfl rfl
theorem s119_235 : ni_T d 119 235 [a0, a1] (.int y :: .int x :: .ref o :: st) z h Q = (ni_okS (h o) x = true ∧ ni_T d 119 236 [a0, a1] st z (ni_up h o (ni_pi (h o) x y)) Q) := ni_T_iast rfl
theorem s119_236 : ni_T d 119 236 [a0, a1] (.ref o :: st) z h Q = ni_T d 119 237 [a0, a1] (.ref o :: .ref o :: st) z h Q := ni_T_p rfl rfl
theorem s119_236i : ni_T d 119 236 [a0, a1] (.int x :: st) z h Q = ni_T d 119 237 [a0, a1] (.int x :: .int x :: st) z h Q := ni_T_p rfl rfl
theorem s119_237 : ni_T d 119 237 [a0, a1] st z h Q = ni_T d 119 239 [a0, a1] (.int 21 :: st) z h Q := ni_T_p rfl rfl
theorem s119_239 : ni_T d 119 239 [a0, a1] st z h Q = ni_T d 119 241 [a0, a1] (.int 101 :: st) z h Q := ni_T_p rfl rfl
theorem s119_241 : ni_T d 119 241 [a0, a1] (.int y :: .int x :: .ref o :: st) z h Q = (ni_okS (h o) x = true ∧ ni_T d 119 242 [a0, a1] st z (ni_up h o (ni_pi (h o) x y)) Q) := ni_T_iast rfl
theorem s119_242 : ni_T d 119 242 [a0, a1] (.ref o :: st) z h Q = ni_T d 119 243 [a0, a1] (.ref o :: .ref o :: st) z h Q := ni_T_p rfl rfl
theorem s119_242i : ni_T d 119 242 [a0, a1] (.int x :: st) z h Q = ni_T d 119 243 [a0, a1] (.int x :: .int x :: st) z h Q := ni_T_p rfl rfl
theorem s119_243 : ni_T d 119 243 [a0, a1] st z h Q = ni_T d 119 245 [a0, a1] (.int 22 :: st) z h Q := ni_T_p rfl rfl
theorem s119_245 : ni_T d 119 245 [a0, a1] st z h Q = ni_T d 119 247 [a0, a1] (.int 32 :: st) z h Q := ni_T_p rfl rfl
theorem s119_247 : ni_T d 119 247 [a0, a1] (.int y :: .int x :: .ref o :: st) z h Q = (ni_okS (h o) x = true ∧ ni_T d 119 248 [a0, a1] st z (ni_up h o (ni_pi (h o) x y)) Q) := ni_T_iast rfl
theorem s119_248 : ni_T d 119 248 [a0, a1] (.ref o :: st) z h Q = ni_T d 119 249 [a0, a1] (.ref o :: .ref o :: st) z h Q := ni_T_p rfl rfl
theorem s119_248i : ni_T d 119 248 [a0, a1] (.int x :: st) z h Q = ni_T d 119 249 [a0, a1] (.int x :: .int x :: st) z h Q := ni_T_p rfl rfl
theorem s119_249 : ni_T d 119 249 [a0, a1] st z h Q = ni_T d 119 251 [a0, a1] (.int 23 :: st) z h Q := ni_T_p rfl rfl
theorem s119_251 : ni_T d 119 251 [a0, a1] st z h Q = ni_T d 119 252 [a0, a1] (.int 0 :: st) z h Q := ni_T_p rfl rfl
theorem s119_252 : ni_T d 119 252 [a0, a1] (.int y :: .int x :: .ref o :: st) z h Q = (ni_okS (h o) x = true ∧ ni_T d 119 253 [a0, a1] st z (ni_up h o (ni_pi (h o) x y)) Q) := ni_T_iast rfl
theorem s119_253 : ni_T d 119 253 [a0, a1] (.ref o :: st) z h Q = ni_T d 119 254 [a0, a1] (.ref o :: .ref o :: st) z h Q := ni_T_p rfl rfl
theorem s119_253i : ni_T d 119 253 [a0, a1] (.int x :: st) z h Q = ni_T d 119 254 [a0, a1] (.int x :: .int x :: st) z h Q := ni_T_p rfl rfl
theorem s119_254 : ni_T d 119 254 [a0, a1] st z h Q = ni_T d 119 256 [a0, a1] (.int 24 :: st) z h Q := ni_T_p rfl rfl
theorem s119_256 : ni_T d 119 256 [a0, a1] st z h Q = ni_T d 119 258 [a0, a1] (.int 116 :: st) z h Q := ni_T_p rfl rfl
theorem s119_258 : ni_T d 119 258 [a0, a1] (.int y :: .int x :: .ref o :: st) z h Q = (ni_okS (h o) x = true ∧ ni_T d 119 259 [a0, a1] st z (ni_up h o (ni_pi (h o) x y)) Q) := ni_T_iast rfl
theorem s119_259 : ni_T d 119 259 [a0, a1] (.ref o :: st) z h Q = ni_T d 119 260 [a0, a1] (.ref o :: .ref o :: st) z h Q := ni_T_p rfl rfl
theorem s119_259i : ni_T d 119 259 [a0, a1] (.int x :: st) z h Q = ni_T d 119 260 [a0, a1] (.int x :: .int x :: st) z h Q := ni_T_p rfl rfl
theorem s119_260 : ni_T d 119 260 [a0, a1] st z h Q = ni_T d 119 262 [a0, a1] (.int 25 :: st) z h Q := ni_T_p rfl rfl
theorem s119_262 : ni_T d 119 262 [a0, a1] st z h Q = ni_T d 119 264 [a0, a1] (.int 117 :: st) z h Q := ni_T_p rfl rfl
theorem s119_264 : ni_T d 119 264 [a0, a1] (.int y :: .int x :: .ref o :: st) z h Q = (ni_okS (h o) x = true ∧ ni_T d 119 265 [a0, a1] st z (ni_up h o (ni_pi (h o) x y)) Q) := ni_T_iast rfl
theorem s119_265 : ni_T d 119 265 [a0, a1] (.ref o :: st) z h Q = ni_T d 119 266 [a0, a1] (.ref o :: .ref o :: st) z h Q := ni_T_p rfl rfl
theorem s119_265i : ni_T d 119 265 [a0, a1] (.int x :: st) z h Q = ni_T d 119 266 [a0, a1] (.int x :: .int x :: st) z h Q := ni_T_p rfl rfl
theorem s119_266 : ni_T d 119 266 [a0, a1] st z h Q = ni_T d 119 268 [a0, a1] (.int 26 :: st) z h Q := ni_T_p rfl rfl
theorem s119_268 : ni_T d 119 268 [a0, a1] st z h Q = ni_T d 119 270 [a0, a1] (.int 114 :: st) z h Q := ni_T_p rfl rfl
theorem s119_270 : ni_T d 119 270 [a0, a1] (.int y :: .int x :: .ref o :: st) z h Q = (ni_okS (h o) x = true ∧ ni_T d 119 271 [a0, a1] st z (ni_up h o (ni_pi (h o) x y)) Q) := ni_T_iast rfl
theorem s119_271 : ni_T d 119 271 [a0, a1] (.ref o :: st) z h Q = ni_T d 119 272 [a0, a1] (.ref o :: .ref o :: st) z h Q := ni_T_p rfl rfl
theorem s119_271i : ni_T d 119 271 [a0, a1] (.int x :: st) z h Q = ni_T d 119 272 [a0, a1] (.int x :: .int x :: st) z h Q := ni_T_p rfl rfl
theorem s119_272 : ni_T d 119 272 [a0, a1] st z h Q = ni_T d 119 274 [a0, a1] (.int 27 :: st) z h Q := ni_T_p rfl rfl
theorem s119_274 : ni_T d 119 274 [a0, a1] st z h Q = ni_T d 119 276 [a0, a1] (.int 110 :: st) z h Q := ni_T_p rfl rfl
theorem s119_276 : ni_T d 119 276 [a0, a1] (.int y :: .int x :: .ref o :: st) z h Q = (ni_okS (h o) x = true ∧ ni_T d 119 277 [a0, a1] st z (ni_up h o (ni_pi (h o) x y)) Q) := ni_T_iast rfl
theorem s119_277 : ni_T d 119 277 [a0, a1] (.ref o :: st) z h Q = ni_T d 119 278 [a0, a1] (.ref o :: .ref o :: st) z h Q := ni_T_p rfl rfl
theorem s119_277i : ni_T d 119 277 [a0, a1] (.int x :: st) z h Q = ni_T d 119 278 [a0, a1] (.int x :: .int x :: st) z h Q := ni_T_p rfl rfl
theorem s119_278 : ni_T d 119 278 [a0, a1] st z h Q = ni_T d 119 280 [a0, a1] (.int 28 :: st) z h Q := ni_T_p rfl rfl
theorem s119_280 : ni_T d 119 280 [a0, a1] st z h Q = ni_T d 119 282 [a0, a1] (.int 32 :: st) z h Q := ni_T_p rfl rfl
theorem s119_282 : ni_T d 119 282 [a0, a1] (.int y :: .int x :: .ref o :: st) z h Q = (ni_okS (h o) x = true ∧ ni_T d 119 283 [a0, a1] st z (ni_up h o (ni_pi (h o) x y)) Q) := ni_T_iast rfl
theorem s119_283 : ni_T d 119 283 [a0, a1] (.ref o :: st) z h Q = ni_T d 119 284 [a0, a1] (.ref o :: .ref o :: st) z h Q := ni_T_p rfl rfl
theorem s119_283i : ni_T d 119 283 [a0, a1] (.int x :: st) z h Q = ni_T d 119 284 [a0, a1] (.int x :: .int x :: st) z h Q := ni_T_p rfl rfl
theorem s119_284 : ni_T d 119 284 [a0, a1] st z h Q = ni_T d 119 286 [a0, a1] (.int 29 :: st) z h Q := ni_T_p rfl rfl
theorem s119_286 : ni_T d 119 286 [a0, a1] st z h Q = ni_T d 119 287 [a0, a1] (.int 0 :: st) z h Q := ni_T_p rfl rfl
theorem s119_287 : ni_T d 119 287 [a0, a1] (.int y :: .int x :: .ref o :: st) z h Q = (ni_okS (h o) x = true ∧ ni_T d 119 288 [a0, a1] st z (ni_up h o (ni_pi (h o) x y)) Q) := ni_T_iast rfl
theorem s119_288 : ni_T d 119 288 [a0, a1] (b0 :: .ref o :: st) z h Q = ((Nat.ble 7 7 && ni_is (h o) 7 18 && ni_fit (.array .int) b0) = true ∧ ni_T d 119 291 [a0, a1] st z (ni_up h o (ni_pv (h o) 18 b0)) Q) := ni_T_putf rfl
theorem s119_291 : ni_T d 119 291 [.ref o, a1] st z h Q = ni_T d 119 292 [.ref o, a1] (.ref o :: st) z h Q := ni_T_p rfl rfl
theorem s119_292 : ni_T d 119 292 [a0, a1] st z h Q = ni_T d 119 293 [a0, a1] (.int 2 :: st) z h Q := ni_T_p rfl rfl
theorem s119_293 : ni_T d 119 293 [a0, a1] (.int x :: st) z h Q = ((ni_ok z.1 [a0, a1] st h && Nat.ble (z.1 + 1) 900 && !decide (x < 0) && Nat.ble x.toNatClampNeg 65536) = true ∧ ni_T d 119 295 [a0, a1] (.ref z.1 :: st) (z.1 + 1, z.2 + x.toNatClampNeg) (ni_up h z.1 (.inl (0, x.toNatClampNeg, .inl (fun _ => 0)))) Q) := ni_T_ne rfl rfl rfl rfl rfl rfl rfl
theorem s119_295 : ni_T d 119 295 [a0, a1] (b0 :: .ref o :: st) z h Q = ((Nat.ble 7 7 && ni_is (h o) 7 19 && ni_fit (.array .int) b0) = true ∧ ni_T d 119 298 [a0, a1] st z (ni_up h o (ni_pv (h o) 19 b0)) Q) := ni_T_putf rfl
theorem s119_298 : ni_T d 119 298 [.ref o, a1] st z h Q = ni_T d 119 299 [.ref o, a1] (.ref o :: st) z h Q := ni_T_p rfl rfl
theorem s119_299 : ni_T d 119 299 [a0, a1] st z h Q = ni_T d 119 301 [a0, a1] (.int 30 :: st) z h Q := ni_T_p rfl rfl
theorem s119_301 : ni_T d 119 301 [a0, a1] (.int x :: st) z h Q = ((ni_ok z.1 [a0, a1] st h && Nat.ble (z.1 + 1) 900 && !decide (x < 0) && Nat.ble x.toNatClampNeg 65536) = true ∧ ni_T d 119 303 [a0, a1] (.ref z.1 :: st) (z.1 + 1, z.2 + x.toNatClampNeg) (ni_up h z.1 (.inl (0, x.toNatClampNeg, .inl (fun _ => 0)))) Q) := ni_T_ne rfl rfl rfl rfl rfl rfl rfl
theorem s119_303 : ni_T d 119 303 [a0, a1] (b0 :: .ref o :: st) z h Q = ((Nat.ble 7 7 && ni_is (h o) 7 25 && ni_fit (.array .int) b0) = true ∧ ni_T d 119 306 [a0, a1] st z (ni_up h o (ni_pv (h o) 25 b0)) Q) := ni_T_putf rfl
theorem s119_306 : ni_T d 119 306 [.ref o, a1] st z h Q = ni_T d 119 307 [.ref o, a1] (.ref o :: st) z h Q := ni_T_p rfl rfl
theorem s119_307 : ni_T d 119 307 [a0, a1] st z h Q = ni_T d 119 309 [a0, a1] (.int 30 :: st) z h Q := ni_T_p rfl rfl
theorem s119_309 : ni_T d 119 309 [a0, a1] (.int x :: st) z h Q = ((ni_ok z.1 [a0, a1] st h && Nat.ble (z.1 + 1) 900 && !decide (x < 0) && Nat.ble x.toNatClampNeg 65536) = true ∧ ni_T d 119 311 [a0, a1] (.ref z.1 :: st) (z.1 + 1, z.2 + x.toNatClampNeg) (ni_up h z.1 (.inl (0, x.toNatClampNeg, .inl (fun _ => 0)))) Q) := ni_T_ne rfl rfl rfl rfl rfl rfl rfl
theorem s119_311 : ni_T d 119 311 [a0, a1] (b0 :: .ref o :: st) z h Q = ((Nat.ble 7 7 && ni_is (h o) 7 26 && ni_fit (.array .int) b0) = true ∧ ni_T d 119 314 [a0, a1] st z (ni_up h o (ni_pv (h o) 26 b0)) Q) := ni_T_putf rfl
theorem s119_314 : ni_T d 119 314 [.ref o, a1] st z h Q = ni_T d 119 315 [.ref o, a1] (.ref o :: st) z h Q := ni_T_p rfl rfl
theorem s119_315 : ni_T d 119 315 [a0, a1] st z h Q = ni_T d 119 317 [a0, a1] (.int 20 :: st) z h Q := ni_T_p rfl rfl
theorem s119_317 : ni_T d 119 317 [a0, a1] (.int x :: st) z h Q = ((ni_ok z.1 [a0, a1] st h && Nat.ble (z.1 + 1) 900 && !decide (x < 0) && Nat.ble x.toNatClampNeg 65536) = true ∧ ni_T d 119 319 [a0, a1] (.ref z.1 :: st) (z.1 + 1, z.2 + x.toNatClampNeg) (ni_up h z.1 (.inl (0, x.toNatClampNeg, .inl (fun _ => 0)))) Q) := ni_T_ne rfl rfl rfl rfl rfl rfl rfl
theorem s119_319 : ni_T d 119 319 [a0, a1] (b0 :: .ref o :: st) z h Q = ((Nat.ble 7 7 && ni_is (h o) 7 30 && ni_fit (.array .int) b0) = true ∧ ni_T d 119 322 [a0, a1] st z (ni_up h o (ni_pv (h o) 30 b0)) Q) := ni_T_putf rfl
theorem s119_322 : ni_T d 119 322 [a0, a1] st z h Q = ni_T d 119 323 [a0, a1] (.int 0 :: st) z h Q := ni_T_p rfl rfl
theorem s119_323 : ni_T d 119 323 [a0, a1] (.int x :: st) z h Q = ni_T d 119 324 [ni_kl a0, .int x] st z h Q := ni_T_p rfl rfl
theorem s119_324 : ni_T d 119 324 [a0, .int x] st z h Q = ni_T d 119 325 [a0, .int x] (.int x :: st) z h Q := ni_T_p rfl rfl
theorem s119_325 : ni_T d 119 325 [a0, a1] st z h Q = ni_T d 119 326 [a0, a1] (.int 5 :: st) z h Q := ni_T_p rfl rfl
theorem s119_326 : ni_T d 119 326 [a0, a1] (.int y :: .int x :: st) z h Q = if y ≤ x then ni_T d 119 342 [a0, a1] st z h Q else ni_T d 119 329 [a0, a1] st z h Q := ni_T_b rfl rfl
theorem s119_329 : ni_T d 119 329 [.ref o, a1] st z h Q = ni_T d 119 330 [.ref o, a1] (.ref o :: st) z h Q := ni_T_p rfl rfl
theorem s119_330 : ni_T d 119 330 [a0, a1] (.ref o :: st) z h Q = (ni_is (h o) 7 11 = true ∧ ni_T d 119 333 [a0, a1] (ni_gv (h o) 11 :: st) z h Q) := ni_T_getf rfl
theorem s119_333 : ni_T d 119 333 [a0, .int x] st z h Q = ni_T d 119 334 [a0, .int x] (.int x :: st) z h Q := ni_T_p rfl rfl
theorem s119_334 : ni_T d 119 334 [a0, a1] st z h Q = ni_T d 119 335 [a0, a1] (.int (-1) :: st) z h Q := ni_T_p rfl rfl
theorem s119_335 : ni_T d 119 335 [a0, a1] (.int y :: .int x :: .ref o :: st) z h Q = (ni_okS (h o) x = true ∧ ni_T d 119 336 [a0, a1] st z (ni_up h o (ni_pi (h o) x y)) Q) := ni_T_iast rfl
theorem s119_336 : ni_T d 119 336 [a0, .int x] st z h Q = ni_T d 119 339 [ni_kl a0, .int (x + 1)] st z h Q := ni_T_p rfl rfl
theorem s119_339 : ni_T d 119 339 [a0, a1] st z h Q = ni_T d 119 324 [a0, a1] st z h Q := ni_T_p rfl rfl
theorem s119_342 : ni_T d 119 342 [a0, a1] [] z h Q = Q none z h := ni_T_v rfl rfl
theorem s120_0 : ni_T d 120 0 [.ref o, a1] st z h Q = ni_T d 120 1 [.ref o, a1] (.ref o :: st) z h Q := ni_T_p rfl rfl
theorem s120_1 : ni_T d 120 1 [a0, a1] (.ref o :: st) z h Q = (ni_is (h o) 7 5 = true ∧ ni_T d 120 4 [a0, a1] (ni_gv (h o) 5 :: st) z h Q) := ni_T_getf rfl
theorem s120_4 : ni_T d 120 4 [a0, .int x] st z h Q = ni_T d 120 5 [a0, .int x] (.int x :: st) z h Q := ni_T_p rfl rfl
theorem s120_5 : ni_T d 120 5 [a0, a1] (.int x :: st) z h Q = ni_T d 120 6 [a0, a1] (.int (-x) :: st) z h Q := ni_T_p rfl rfl
theorem s120_6 : ni_T d 120 6 [a0, a1] (.int x :: .ref o :: st) z h Q = ni_T d 120 7 [a0, a1] (.int x :: .ref o :: .int x :: .ref o :: st) z h Q := ni_T_p rfl rfl
theorem s120_7 : ni_T d 120 7 [a0, a1] (.int x :: .ref o :: st) z h Q = (ni_okI (h o) x = true ∧ ni_T d 120 8 [a0, a1] (.int (ni_gi (h o) x) :: st) z h Q) := ni_T_iald rfl
theorem s120_8 : ni_T d 120 8 [a0, a1] st z h Q = ni_T d 120 9 [a0, a1] (.int 1 :: st) z h Q := ni_T_p rfl rfl
theorem s120_9 : ni_T d 120 9 [a0, a1] (.int y :: .int x :: st) z h Q = ni_T d 120 10 [a0, a1] (.int (x + y) :: st) z h Q := ni_T_p rfl rfl
theorem s120_10 : ni_T d 120 10 [a0, a1] (.int y :: .int x :: .ref o :: st) z h Q = (ni_okS (h o) x = true ∧ ni_T d 120 11 [a0, a1] st z (ni_up h o (ni_pi (h o) x y)) Q) := ni_T_iast rfl
theorem s120_11 : ni_T d 120 11 [a0, .int x] st z h Q = ni_T d 120 12 [a0, .int x] (.int x :: st) z h Q := ni_T_p rfl rfl
theorem s120_12 : ni_T d 120 12 [a0, a1] [.int x] z h Q = Q (some (.int x)) z h := ni_T_i rfl rfl
theorem s121_0 : ni_T d 121 0 [.ref o, a1] st z h Q = ni_T d 121 1 [.ref o, a1] (.ref o :: st) z h Q := ni_T_p rfl rfl
theorem s121_1 : ni_T d 121 1 [a0, a1] (.ref o :: st) z h Q = (ni_is (h o) 7 5 = true ∧ ni_T d 121 4 [a0, a1] (ni_gv (h o) 5 :: st) z h Q) := ni_T_getf rfl
theorem s121_4 : ni_T d 121 4 [a0, .int x] st z h Q = ni_T d 121 5 [a0, .int x] (.int x :: st) z h Q := ni_T_p rfl rfl
theorem s121_5 : ni_T d 121 5 [a0, a1] (.int x :: st) z h Q = ni_T d 121 6 [a0, a1] (.int (-x) :: st) z h Q := ni_T_p rfl rfl
theorem s121_6 : ni_T d 121 6 [a0, a1] (.int x :: .ref o :: st) z h Q = ni_T d 121 7 [a0, a1] (.int x :: .ref o :: .int x :: .ref o :: st) z h Q := ni_T_p rfl rfl
theorem s121_7 : ni_T d 121 7 [a0, a1] (.int x :: .ref o :: st) z h Q = (ni_okI (h o) x = true ∧ ni_T d 121 8 [a0, a1] (.int (ni_gi (h o) x) :: st) z h Q) := ni_T_iald rfl
theorem s121_8 : ni_T d 121 8 [a0, a1] st z h Q = ni_T d 121 9 [a0, a1] (.int 1 :: st) z h Q := ni_T_p rfl rfl
theorem s121_9 : ni_T d 121 9 [a0, a1] (.int y :: .int x :: st) z h Q = ni_T d 121 10 [a0, a1] (.int (x + y) :: st) z h Q := ni_T_p rfl rfl
theorem s121_10 : ni_T d 121 10 [a0, a1] (.int y :: .int x :: .ref o :: st) z h Q = (ni_okS (h o) x = true ∧ ni_T d 121 11 [a0, a1] st z (ni_up h o (ni_pi (h o) x y)) Q) := ni_T_iast rfl
theorem s121_11 : ni_T d 121 11 [a0, .int x] st z h Q = ni_T d 121 12 [a0, .int x] (.int x :: st) z h Q := ni_T_p rfl rfl
theorem s121_12 : ni_T d 121 12 [a0, a1] st z h Q = ni_T d 121 14 [a0, a1] (.int 10 :: st) z h Q := ni_T_p rfl rfl
theorem s121_14 : ni_T d 121 14 [a0, a1] (.int y :: .int x :: st) z h Q = ni_T d 121 15 [a0, a1] (.int (x - y) :: st) z h Q := ni_T_p rfl rfl
theorem s121_15 : ni_T d 121 15 [a0, a1] [.int x] z h Q = Q (some (.int x)) z h := ni_T_i rfl rfl
theorem s122_0 : ni_T d 122 0 [a0, .int x] st z h Q = ni_T d 122 1 [a0, .int x] (.int x :: st) z h Q := ni_T_p rfl rfl
theorem s122_1 : ni_T d 122 1 [a0, a1] (.int x :: st) z h Q = if x < 0 then ni_T d 122 14 [a0, a1] st z h Q else ni_T d 122 4 [a0, a1] st z h Q := ni_T_b rfl rfl
theorem s122_4 : ni_T d 122 4 [a0, .int x] st z h Q = ni_T d 122 5 [a0, .int x] (.int x :: st) z h Q := ni_T_p rfl rfl
theorem s122_5 : ni_T d 122 5 [a0, a1] st z h Q = ni_T d 122 7 [a0, a1] (.int 8 :: st) z h Q := ni_T_p rfl rfl
theorem s122_7 : ni_T d 122 7 [a0, a1] (.int y :: .int x :: st) z h Q = if y ≤ x then ni_T d 122 14 [a0, a1] st z h Q else ni_T d 122 10 [a0, a1] st z h Q := ni_T_b rfl rfl
theorem s122_10 : ni_T d 122 10 [a0, a1] st z h Q = ni_T d 122 11 [a0, a1] (.int 1 :: st) z h Q := ni_T_p rfl rfl
theorem s122_11 : ni_T d 122 11 [a0, a1] st z h Q = ni_T d 122 15 [a0, a1] st z h Q := ni_T_p rfl rfl
theorem s122_14 : ni_T d 122 14 [a0, a1] st z h Q = ni_T d 122 15 [a0, a1] (.int 0 :: st) z h Q := ni_T_p rfl rfl
theorem s122_15 : ni_T d 122 15 [a0, a1] [.int x] z h Q = (narrow .boolean (.int x) = .int x ∧ Q (some (.int x)) z h) := ni_T_z rfl rfl
theorem s123_0 : ni_T d 123 0 [a0, .int x] st z h Q = ni_T d 123 1 [a0, .int x] (.int x :: st) z h Q := ni_T_p rfl rfl
theorem s123_1 : ni_T d 123 1 [a0, a1] (.int x :: st) z h Q = if x < 0 then ni_T d 123 16 [a0, a1] st z h Q else ni_T d 123 4 [a0, a1] st z h Q := ni_T_b rfl rfl
theorem s123_4 : ni_T d 123 4 [a0, .int x] st z h Q = ni_T d 123 5 [a0, .int x] (.int x :: st) z h Q := ni_T_p rfl rfl
theorem s123_5 : ni_T d 123 5 [.ref o, a1] st z h Q = ni_T d 123 6 [.ref o, a1] (.ref o :: st) z h Q := ni_T_p rfl rfl
theorem s123_6 : ni_T d 123 6 [a0, a1] (.ref o :: st) z h Q = (ni_is (h o) 7 0 = true ∧ ni_T d 123 9 [a0, a1] (ni_gv (h o) 0 :: st) z h Q) := ni_T_getf rfl
theorem s123_9 : ni_T d 123 9 [a0, a1] (.int y :: .int x :: st) z h Q = if y ≤ x then ni_T d 123 16 [a0, a1] st z h Q else ni_T d 123 12 [a0, a1] st z h Q := ni_T_b rfl rfl
theorem s123_12 : ni_T d 123 12 [a0, a1] st z h Q = ni_T d 123 13 [a0, a1] (.int 1 :: st) z h Q := ni_T_p rfl rfl
theorem s123_13 : ni_T d 123 13 [a0, a1] st z h Q = ni_T d 123 17 [a0, a1] st z h Q := ni_T_p rfl rfl
theorem s123_16 : ni_T d 123 16 [a0, a1] st z h Q = ni_T d 123 17 [a0, a1] (.int 0 :: st) z h Q := ni_T_p rfl rfl
theorem s123_17 : ni_T d 123 17 [a0, a1] [.int x] z h Q = (narrow .boolean (.int x) = .int x ∧ Q (some (.int x)) z h) := ni_T_z rfl rfl
theorem s124_0 : ni_T d 124 0 [a0, .int x] st z h Q = ni_T d 124 1 [a0, .int x] (.int x :: st) z h Q := ni_T_p rfl rfl
theorem s124_1 : ni_T d 124 1 [a0, a1] (.int x :: st) z h Q = if x < 0 then ni_T d 124 13 [a0, a1] st z h Q else ni_T d 124 4 [a0, a1] st z h Q := ni_T_b rfl rfl
theorem s124_4 : ni_T d 124 4 [a0, .int x] st z h Q = ni_T d 124 5 [a0, .int x] (.int x :: st) z h Q := ni_T_p rfl rfl
theorem s124_5 : ni_T d 124 5 [a0, a1] st z h Q = ni_T d 124 6 [a0, a1] (.int 5 :: st) z h Q := ni_T_p rfl rfl
theorem s124_6 : ni_T d 124 6 [a0, a1] (.int y :: .int x :: st) z h Q = if y ≤ x then ni_T d 124 13 [a0, a1] st z h Q else ni_T d 124 9 [a0, a1] st z h Q := ni_T_b rfl rfl
theorem s124_9 : ni_T d 124 9 [a0, a1] st z h Q = ni_T d 124 10 [a0, a1] (.int 1 :: st) z h Q := ni_T_p rfl rfl
theorem s124_10 : ni_T d 124 10 [a0, a1] st z h Q = ni_T d 124 14 [a0, a1] st z h Q := ni_T_p rfl rfl
theorem s124_13 : ni_T d 124 13 [a0, a1] st z h Q = ni_T d 124 14 [a0, a1] (.int 0 :: st) z h Q := ni_T_p rfl rfl
theorem s124_14 : ni_T d 124 14 [a0, a1] [.int x] z h Q = (narrow .boolean (.int x) = .int x ∧ Q (some (.int x)) z h) := ni_T_z rfl rfl
theorem s125_0 : ni_T d 125 0 [.ref o, a1, a2, a3, a4] st z h Q = ni_T d 125 1 [.ref o, a1, a2, a3, a4] (.ref o :: st) z h Q := ni_T_p rfl rfl
theorem s125_1 : ni_T d 125 1 [a0, .int x, a2, a3, a4] st z h Q = ni_T d 125 2 [a0, .int x, a2, a3, a4] (.int x :: st) z h Q := ni_T_p rfl rfl
theorem s125_2 : ni_T (d + 1) 125 2 [a0, a1, a2, a3, a4] (.int x0 :: .ref o :: st) z h Q = (ni_rc (h o) 7 = true ∧ Nat.ble (ni_sw st) 8 = true ∧ ni_T d 122 0 [.ref o, .int x0] [] z h (ni_K (d + 1) 125 5 [a0, a1, a2, a3, a4] st z Q)) := ni_T_ce [.ref o, .int x0] rfl rfl rfl rfl rfl rfl rfl rfl rfl
theorem s125_5 : ni_T d 125 5 [a0, a1, a2, a3, a4] (.int x :: st) z h Q = if x = 0 then ni_T d 125 8 [a0, a1, a2, a3, a4] st z h Q else ni_T d 125 14 [a0, a1, a2, a3, a4] st z h Q := ni_T_b rfl rfl
theorem s125_8 : ni_T d 125 8 [.ref o, a1, a2, a3, a4] st z h Q = ni_T d 125 9 [.ref o, a1, a2, a3, a4] (.ref o :: st) z h Q := ni_T_p rfl rfl
theorem s125_9 : ni_T d 125 9 [a0, a1, a2, a3, a4] st z h Q = ni_T d 125 10 [a0, a1, a2, a3, a4] (.int (-1) :: st) z h Q := ni_T_p rfl rfl
theorem s125_10 : ni_T (d + 1) 125 10 [a0, a1, a2, a3, a4] (.int x0 :: .ref o :: st) z h Q = (ni_rc (h o) 7 = true ∧ Nat.ble (ni_sw st) 8 = true ∧ ni_T d 120 0 [.ref o, .int x0] [] z h (ni_K (d + 1) 125 13 [a0, a1, a2, a3, a4] st z Q)) := ni_T_ce [.ref o, .int x0] rfl rfl rfl rfl rfl rfl rfl rfl rfl
theorem s125_13 : ni_T d 125 13 [a0, a1, a2, a3, a4] [.int x] z h Q = Q (some (.int x)) z h := ni_T_i rfl rfl
theorem s125_14 : ni_T d 125 14 [a0, a1, a2, .int x, a4] st z h Q = ni_T d 125 15 [a0, a1, a2, .int x, a4] (.int x :: st) z h Q := ni_T_p rfl rfl
theorem s125_15 : ni_T d 125 15 [a0, a1, a2, a3, a4] (.int x :: st) z h Q = if 0 ≤ x then ni_T d 125 25 [a0, a1, a2, a3, a4] st z h Q else ni_T d 125 18 [a0, a1, a2, a3, a4] st z h Q := ni_T_b rfl rfl
theorem s125_18 : ni_T d 125 18 [.ref o, a1, a2, a3, a4] st z h Q = ni_T d 125 19 [.ref o, a1, a2, a3, a4] (.ref o :: st) z h Q := ni_T_p rfl rfl
theorem s125_19 : ni_T d 125 19 [a0, a1, a2, a3, a4] st z h Q = ni_T d 125 21 [a0, a1, a2, a3, a4] (.int (-4) :: st) z h Q := ni_T_p rfl rfl
theorem s125_21 : ni_T (d + 1) 125 21 [a0, a1, a2, a3, a4] (.int x0 :: .ref o :: st) z h Q = (ni_rc (h o) 7 = true ∧ Nat.ble (ni_sw st) 8 = true ∧ ni_T d 120 0 [.ref o, .int x0] [] z h (ni_K (d + 1) 125 24 [a0, a1, a2, a3, a4] st z Q)) := ni_T_ce [.ref o, .int x0] rfl rfl rfl rfl rfl rfl rfl rfl rfl
theorem s125_24 : ni_T d 125 24 [a0, a1, a2, a3, a4] [.int x] z h Q = Q (some (.int x)) z h := ni_T_i rfl rfl
theorem s125_25 : ni_T d 125 25 [a0, a1, .int x, a3, a4] st z h Q = ni_T d 125 26 [a0, a1, .int x, a3, a4] (.int x :: st) z h Q := ni_T_p rfl rfl
theorem s125_26 : ni_T d 125 26 [a0, a1, a2, a3, a4] (.int x :: st) z h Q = if x < 0 then ni_T d 125 34 [a0, a1, a2, a3, a4] st z h Q else ni_T d 125 29 [a0, a1, a2, a3, a4] st z h Q := ni_T_b rfl rfl
theorem s125_29 : ni_T d 125 29 [a0, a1, .int x, a3, a4] st z h Q = ni_T d 125 30 [a0, a1, .int x, a3, a4] (.int x :: st) z h Q := ni_T_p rfl rfl
theorem s125_30 : ni_T d 125 30 [a0, a1, a2, a3, a4] st z h Q = ni_T d 125 31 [a0, a1, a2, a3, a4] (.int 3 :: st) z h Q := ni_T_p rfl rfl
theorem s125_31 : ni_T d 125 31 [a0, a1, a2, a3, a4] (.int y :: .int x :: st) z h Q = if x ≤ y then ni_T d 125 41 [a0, a1, a2, a3, a4] st z h Q else ni_T d 125 34 [a0, a1, a2, a3, a4] st z h Q := ni_T_b rfl rfl
theorem s125_34 : ni_T d 125 34 [.ref o, a1, a2, a3, a4] st z h Q = ni_T d 125 35 [.ref o, a1, a2, a3, a4] (.ref o :: st) z h Q := ni_T_p rfl rfl
theorem s125_35 : ni_T d 125 35 [a0, a1, a2, a3, a4] st z h Q = ni_T d 125 37 [a0, a1, a2, a3, a4] (.int (-6) :: st) z h Q := ni_T_p rfl rfl
theorem s125_37 : ni_T (d + 1) 125 37 [a0, a1, a2, a3, a4] (.int x0 :: .ref o :: st) z h Q = (ni_rc (h o) 7 = true ∧ Nat.ble (ni_sw st) 8 = true ∧ ni_T d 120 0 [.ref o, .int x0] [] z h (ni_K (d + 1) 125 40 [a0, a1, a2, a3, a4] st z Q)) := ni_T_ce [.ref o, .int x0] rfl rfl rfl rfl rfl rfl rfl rfl rfl
theorem s125_40 : ni_T d 125 40 [a0, a1, a2, a3, a4] [.int x] z h Q = Q (some (.int x)) z h := ni_T_i rfl rfl
theorem s125_41 : ni_T d 125 41 [a0, a1, a2, .int x, a4] st z h Q = ni_T d 125 42 [a0, a1, a2, .int x, a4] (.int x :: st) z h Q := ni_T_p rfl rfl
theorem s125_42 : ni_T d 125 42 [a0, a1, a2, a3, a4] st z h Q = ni_T d 125 45 [a0, a1, a2, a3, a4] (.int 160 :: st) z h Q := ni_T_p rfl rfl
theorem s125_45 : ni_T d 125 45 [a0, a1, a2, a3, a4] (.int y :: .int x :: st) z h Q = if x ≤ y then ni_T d 125 55 [a0, a1, a2, a3, a4] st z h Q else ni_T d 125 48 [a0, a1, a2, a3, a4] st z h Q := ni_T_b rfl rfl
theorem s125_48 : ni_T d 125 48 [.ref o, a1, a2, a3, a4] st z h Q = ni_T d 125 49 [.ref o, a1, a2, a3, a4] (.ref o :: st) z h Q := ni_T_p rfl rfl
theorem s125_49 : ni_T d 125 49 [a0, a1, a2, a3, a4] st z h Q = ni_T d 125 51 [a0, a1, a2, a3, a4] (.int (-7) :: st) z h Q := ni_T_p rfl rfl
theorem s125_51 : ni_T (d + 1) 125 51 [a0, a1, a2, a3, a4] (.int x0 :: .ref o :: st) z h Q = (ni_rc (h o) 7 = true ∧ Nat.ble (ni_sw st) 8 = true ∧ ni_T d 120 0 [.ref o, .int x0] [] z h (ni_K (d + 1) 125 54 [a0, a1, a2, a3, a4] st z Q)) := ni_T_ce [.ref o, .int x0] rfl rfl rfl rfl rfl rfl rfl rfl rfl
theorem s125_54 : ni_T d 125 54 [a0, a1, a2, a3, a4] [.int x] z h Q = Q (some (.int x)) z h := ni_T_i rfl rfl
theorem s125_55 : ni_T d 125 55 [.ref o, a1, a2, a3, a4] st z h Q = ni_T d 125 56 [.ref o, a1, a2, a3, a4] (.ref o :: st) z h Q := ni_T_p rfl rfl
theorem s125_56 : ni_T d 125 56 [a0, a1, a2, a3, a4] (.ref o :: st) z h Q = (ni_is (h o) 7 12 = true ∧ ni_T d 125 59 [a0, a1, a2, a3, a4] (ni_gv (h o) 12 :: st) z h Q) := ni_T_getf rfl
theorem s125_59 : ni_T d 125 59 [a0, .int x, a2, a3, a4] st z h Q = ni_T d 125 60 [a0, .int x, a2, a3, a4] (.int x :: st) z h Q := ni_T_p rfl rfl
theorem s125_60 : ni_T d 125 60 [a0, a1, a2, a3, a4] st z h Q = ni_T d 125 61 [a0, a1, a2, a3, a4] (.int 1 :: st) z h Q := ni_T_p rfl rfl
theorem s125_61 : ni_T d 125 61 [a0, a1, a2, a3, a4] (.int y :: .int x :: .ref o :: st) z h Q = (ni_okS (h o) x = true ∧ ni_T d 125 62 [a0, a1, a2, a3, a4] st z (ni_up h o (ni_pi (h o) x y)) Q) := ni_T_iast rfl
theorem s125_62 : ni_T d 125 62 [.ref o, a1, a2, a3, a4] st z h Q = ni_T d 125 63 [.ref o, a1, a2, a3, a4] (.ref o :: st) z h Q := ni_T_p rfl rfl
theorem s125_63 : ni_T d 125 63 [a0, a1, a2, a3, a4] (.ref o :: st) z h Q = (ni_is (h o) 7 13 = true ∧ ni_T d 125 66 [a0, a1, a2, a3, a4] (ni_gv (h o) 13 :: st) z h Q) := ni_T_getf rfl
theorem s125_66 : ni_T d 125 66 [a0, .int x, a2, a3, a4] st z h Q = ni_T d 125 67 [a0, .int x, a2, a3, a4] (.int x :: st) z h Q := ni_T_p rfl rfl
theorem s125_67 : ni_T d 125 67 [a0, a1, .int x, a3, a4] st z h Q = ni_T d 125 68 [a0, a1, .int x, a3, a4] (.int x :: st) z h Q := ni_T_p rfl rfl
theorem s125_68 : ni_T d 125 68 [a0, a1, a2, a3, a4] (.int y :: .int x :: .ref o :: st) z h Q = (ni_okS (h o) x = true ∧ ni_T d 125 69 [a0, a1, a2, a3, a4] st z (ni_up h o (ni_pi (h o) x y)) Q) := ni_T_iast rfl
theorem s125_69 : ni_T d 125 69 [.ref o, a1, a2, a3, a4] st z h Q = ni_T d 125 70 [.ref o, a1, a2, a3, a4] (.ref o :: st) z h Q := ni_T_p rfl rfl
theorem s125_70 : ni_T d 125 70 [a0, a1, a2, a3, a4] (.ref o :: st) z h Q = (ni_is (h o) 7 14 = true ∧ ni_T d 125 73 [a0, a1, a2, a3, a4] (ni_gv (h o) 14 :: st) z h Q) := ni_T_getf rfl
theorem s125_73 : ni_T d 125 73 [a0, .int x, a2, a3, a4] st z h Q = ni_T d 125 74 [a0, .int x, a2, a3, a4] (.int x :: st) z h Q := ni_T_p rfl rfl
theorem s125_74 : ni_T d 125 74 [a0, a1, a2, .int x, a4] st z h Q = ni_T d 125 75 [a0, a1, a2, .int x, a4] (.int x :: st) z h Q := ni_T_p rfl rfl
theorem s125_75 : ni_T d 125 75 [a0, a1, a2, a3, a4] (.int y :: .int x :: .ref o :: st) z h Q = (ni_okS (h o) x = true ∧ ni_T d 125 76 [a0, a1, a2, a3, a4] st z (ni_up h o (ni_pi (h o) x y)) Q) := ni_T_iast rfl
theorem s125_76 : ni_T d 125 76 [a0, a1, a2, a3, a4] st z h Q = ni_T d 125 77 [a0, a1, a2, a3, a4] (.int 0 :: st) z h Q := ni_T_p rfl rfl
theorem s125_77 : ni_T d 125 77 [a0, a1, a2, a3, a4] (.int x :: st) z h Q = ni_T d 125 79 [a0, a1, a2, ni_kl a3, .int x] st z h Q := ni_T_p rfl rfl
theorem s125_79 : ni_T d 125 79 [a0, a1, a2, a3, .int x] st z h Q = ni_T d 125 81 [a0, a1, a2, a3, .int x] (.int x :: st) z h Q := ni_T_p rfl rfl
theorem s125_81 : ni_T d 125 81 [a0, a1, a2, a3, a4] st z h Q = ni_T d 125 84 [a0, a1, a2, a3, a4] (.int 160 :: st) z h Q := ni_T_p rfl rfl
theorem s125_84 : ni_T d 125 84 [a0, a1, a2, a3, a4] (.int y :: .int x :: st) z h Q = if y ≤ x then ni_T d 125 107 [a0, a1, a2, a3, a4] st z h Q else ni_T d 125 87 [a0, a1, a2, a3, a4] st z h Q := ni_T_b rfl rfl
theorem s125_87 : ni_T d 125 87 [.ref o, a1, a2, a3, a4] st z h Q = ni_T d 125 88 [.ref o, a1, a2, a3, a4] (.ref o :: st) z h Q := ni_T_p rfl rfl
theorem s125_88 : ni_T d 125 88 [a0, a1, a2, a3, a4] (.ref o :: st) z h Q = (ni_is (h o) 7 16 = true ∧ ni_T d 125 91 [a0, a1, a2, a3, a4] (ni_gv (h o) 16 :: st) z h Q) := ni_T_getf rfl
theorem s125_91 : ni_T d 125 91 [a0, a1, a2, a3, a4] st z h Q = ni_T d 125 94 [a0, a1, a2, a3, a4] (.int 160 :: st) z h Q := ni_T_p rfl rfl
theorem s125_94 : ni_T d 125 94 [a0, .int x, a2, a3, a4] st z h Q = ni_T d 125 95 [a0, .int x, a2, a3, a4] (.int x :: st) z h Q := ni_T_p rfl rfl
theorem s125_95 : ni_T d 125 95 [a0, a1, a2, a3, a4] (.int y :: .int x :: st) z h Q = ni_T d 125 96 [a0, a1, a2, a3, a4] (.int (x * y) :: st) z h Q := ni_T_p rfl rfl
theorem s125_96 : ni_T d 125 96 [a0, a1, a2, a3, .int x] st z h Q = ni_T d 125 98 [a0, a1, a2, a3, .int x] (.int x :: st) z h Q := ni_T_p rfl rfl
theorem s125_98 : ni_T d 125 98 [a0, a1, a2, a3, a4] (.int y :: .int x :: st) z h Q = ni_T d 125 99 [a0, a1, a2, a3, a4] (.int (x + y) :: st) z h Q := ni_T_p rfl rfl
theorem s125_99 : ni_T d 125 99 [a0, a1, a2, a3, a4] st z h Q = ni_T d 125 100 [a0, a1, a2, a3, a4] (.long 0 :: st) z h Q := ni_T_p rfl rfl
theorem s125_100 : ni_T d 125 100 [a0, a1, a2, a3, a4] (.long u :: .int x :: .ref o :: st) z h Q = (ni_okL (h o) x = true ∧ ni_T d 125 101 [a0, a1, a2, a3, a4] st z (ni_up h o (ni_pl (h o) x u)) Q) := ni_T_last rfl
theorem s125_101 : ni_T d 125 101 [a0, a1, a2, a3, .int x] st z h Q = ni_T d 125 104 [a0, a1, a2, ni_kl a3, .int (x + 1)] st z h Q := ni_T_p rfl rfl
theorem s125_104 : ni_T d 125 104 [a0, a1, a2, a3, a4] st z h Q = ni_T d 125 79 [a0, a1, a2, a3, a4] st z h Q := ni_T_p rfl rfl
theorem s125_107 : ni_T d 125 107 [a0, a1, a2, a3, a4] st z h Q = ni_T d 125 108 [a0, a1, a2, a3, a4] (.int 1 :: st) z h Q := ni_T_p rfl rfl
theorem s125_108 : ni_T d 125 108 [a0, a1, a2, a3, a4] [.int x] z h Q = Q (some (.int x)) z h := ni_T_i rfl rfl
theorem s126_0 : ni_T d 126 0 [.ref o, a1, a2, a3, a4] st z h Q = ni_T d 126 1 [.ref o, a1, a2, a3, a4] (.ref o :: st) z h Q := ni_T_p rfl rfl
theorem s126_1 : ni_T d 126 1 [a0, .int x, a2, a3, a4] st z h Q = ni_T d 126 2 [a0, .int x, a2, a3, a4] (.int x :: st) z h Q := ni_T_p rfl rfl
theorem s126_2 : ni_T (d + 1) 126 2 [a0, a1, a2, a3, a4] (.int x0 :: .ref o :: st) z h Q = (ni_rc (h o) 7 = true ∧ Nat.ble (ni_sw st) 8 = true ∧ ni_T d 122 0 [.ref o, .int x0] [] z h (ni_K (d + 1) 126 5 [a0, a1, a2, a3, a4] st z Q)) := ni_T_ce [.ref o, .int x0] rfl rfl rfl rfl rfl rfl rfl rfl rfl
theorem s126_5 : ni_T d 126 5 [a0, a1, a2, a3, a4] (.int x :: st) z h Q = if x = 0 then ni_T d 126 8 [a0, a1, a2, a3, a4] st z h Q else ni_T d 126 14 [a0, a1, a2, a3, a4] st z h Q := ni_T_b rfl rfl
theorem s126_8 : ni_T d 126 8 [.ref o, a1, a2, a3, a4] st z h Q = ni_T d 126 9 [.ref o, a1, a2, a3, a4] (.ref o :: st) z h Q := ni_T_p rfl rfl
theorem s126_9 : ni_T d 126 9 [a0, a1, a2, a3, a4] st z h Q = ni_T d 126 10 [a0, a1, a2, a3, a4] (.int (-1) :: st) z h Q := ni_T_p rfl rfl
theorem s126_10 : ni_T (d + 1) 126 10 [a0, a1, a2, a3, a4] (.int x0 :: .ref o :: st) z h Q = (ni_rc (h o) 7 = true ∧ Nat.ble (ni_sw st) 8 = true ∧ ni_T d 120 0 [.ref o, .int x0] [] z h (ni_K (d + 1) 126 13 [a0, a1, a2, a3, a4] st z Q)) := ni_T_ce [.ref o, .int x0] rfl rfl rfl rfl rfl rfl rfl rfl rfl
theorem s126_13 : ni_T d 126 13 [a0, a1, a2, a3, a4] [.int x] z h Q = Q (some (.int x)) z h := ni_T_i rfl rfl
theorem s126_14 : ni_T d 126 14 [.ref o, a1, a2, a3, a4] st z h Q = ni_T d 126 15 [.ref o, a1, a2, a3, a4] (.ref o :: st) z h Q := ni_T_p rfl rfl
theorem s126_15 : ni_T d 126 15 [a0, a1, a2, a3, a4] (.ref o :: st) z h Q = (ni_is (h o) 7 12 = true ∧ ni_T d 126 18 [a0, a1, a2, a3, a4] (ni_gv (h o) 12 :: st) z h Q) := ni_T_getf rfl
theorem s126_18 : ni_T d 126 18 [a0, .int x, a2, a3, a4] st z h Q = ni_T d 126 19 [a0, .int x, a2, a3, a4] (.int x :: st) z h Q := ni_T_p rfl rfl
theorem s126_19 : ni_T d 126 19 [a0, a1, a2, a3, a4] (.int x :: .ref o :: st) z h Q = (ni_okI (h o) x = true ∧ ni_T d 126 20 [a0, a1, a2, a3, a4] (.int (ni_gi (h o) x) :: st) z h Q) := ni_T_iald rfl
theorem s126_20 : ni_T d 126 20 [a0, a1, a2, a3, a4] st z h Q = ni_T d 126 21 [a0, a1, a2, a3, a4] (.int 2 :: st) z h Q := ni_T_p rfl rfl
theorem s126_21 : ni_T d 126 21 [a0, a1, a2, a3, a4] (.int y :: .int x :: st) z h Q = if x = y then ni_T d 126 24 [a0, a1, a2, a3, a4] st z h Q else ni_T d 126 31 [a0, a1, a2, a3, a4] st z h Q := ni_T_b rfl rfl
theorem s126_24 : ni_T d 126 24 [.ref o, a1, a2, a3, a4] st z h Q = ni_T d 126 25 [.ref o, a1, a2, a3, a4] (.ref o :: st) z h Q := ni_T_p rfl rfl
theorem s126_25 : ni_T d 126 25 [a0, a1, a2, a3, a4] st z h Q = ni_T d 126 27 [a0, a1, a2, a3, a4] (.int (-2) :: st) z h Q := ni_T_p rfl rfl
theorem s126_27 : ni_T (d + 1) 126 27 [a0, a1, a2, a3, a4] (.int x0 :: .ref o :: st) z h Q = (ni_rc (h o) 7 = true ∧ Nat.ble (ni_sw st) 8 = true ∧ ni_T d 120 0 [.ref o, .int x0] [] z h (ni_K (d + 1) 126 30 [a0, a1, a2, a3, a4] st z Q)) := ni_T_ce [.ref o, .int x0] rfl rfl rfl rfl rfl rfl rfl rfl rfl
theorem s126_30 : ni_T d 126 30 [a0, a1, a2, a3, a4] [.int x] z h Q = Q (some (.int x)) z h := ni_T_i rfl rfl
theorem s126_31 : ni_T d 126 31 [.ref o, a1, a2, a3, a4] st z h Q = ni_T d 126 32 [.ref o, a1, a2, a3, a4] (.ref o :: st) z h Q := ni_T_p rfl rfl
theorem s126_32 : ni_T d 126 32 [a0, a1, a2, a3, a4] (.ref o :: st) z h Q = (ni_is (h o) 7 12 = true ∧ ni_T d 126 35 [a0, a1, a2, a3, a4] (ni_gv (h o) 12 :: st) z h Q) := ni_T_getf rfl
theorem s126_35 : ni_T d 126 35 [a0, .int x, a2, a3, a4] st z h Q = ni_T d 126 36 [a0, .int x, a2, a3, a4] (.int x :: st) z h Q := ni_T_p rfl rfl
theorem s126_36 : ni_T d 126 36 [a0, a1, a2, a3, a4] (.int x :: .ref o :: st) z h Q = (ni_okI (h o) x = true ∧ ni_T d 126 37 [a0, a1, a2, a3, a4] (.int (ni_gi (h o) x) :: st) z h Q) := ni_T_iald rfl
theorem s126_37 : ni_T d 126 37 [a0, a1, a2, a3, a4] (.int x :: st) z h Q = if x = 0 then ni_T d 126 40 [a0, a1, a2, a3, a4] st z h Q else ni_T d 126 47 [a0, a1, a2, a3, a4] st z h Q := ni_T_b rfl rfl
theorem s126_40 : ni_T d 126 40 [.ref o, a1, a2, a3, a4] st z h Q = ni_T d 126 41 [.ref o, a1, a2, a3, a4] (.ref o :: st) z h Q := ni_T_p rfl rfl
theorem s126_41 : ni_T d 126 41 [a0, a1, a2, a3, a4] st z h Q = ni_T d 126 43 [a0, a1, a2, a3, a4] (.int (-3) :: st) z h Q := ni_T_p rfl rfl
theorem s126_43 : ni_T (d + 1) 126 43 [a0, a1, a2, a3, a4] (.int x0 :: .ref o :: st) z h Q = (ni_rc (h o) 7 = true ∧ Nat.ble (ni_sw st) 8 = true ∧ ni_T d 120 0 [.ref o, .int x0] [] z h (ni_K (d + 1) 126 46 [a0, a1, a2, a3, a4] st z Q)) := ni_T_ce [.ref o, .int x0] rfl rfl rfl rfl rfl rfl rfl rfl rfl
theorem s126_46 : ni_T d 126 46 [a0, a1, a2, a3, a4] [.int x] z h Q = Q (some (.int x)) z h := ni_T_i rfl rfl
theorem s126_47 : ni_T d 126 47 [a0, a1, .int x, a3, a4] st z h Q = ni_T d 126 48 [a0, a1, .int x, a3, a4] (.int x :: st) z h Q := ni_T_p rfl rfl
theorem s126_48 : ni_T d 126 48 [a0, a1, a2, a3, a4] (.int x :: st) z h Q = if x < 0 then ni_T d 126 61 [a0, a1, a2, a3, a4] st z h Q else ni_T d 126 51 [a0, a1, a2, a3, a4] st z h Q := ni_T_b rfl rfl
theorem s126_51 : ni_T d 126 51 [a0, a1, .int x, a3, a4] st z h Q = ni_T d 126 52 [a0, a1, .int x, a3, a4] (.int x :: st) z h Q := ni_T_p rfl rfl
theorem s126_52 : ni_T d 126 52 [.ref o, a1, a2, a3, a4] st z h Q = ni_T d 126 53 [.ref o, a1, a2, a3, a4] (.ref o :: st) z h Q := ni_T_p rfl rfl
theorem s126_53 : ni_T d 126 53 [a0, a1, a2, a3, a4] (.ref o :: st) z h Q = (ni_is (h o) 7 14 = true ∧ ni_T d 126 56 [a0, a1, a2, a3, a4] (ni_gv (h o) 14 :: st) z h Q) := ni_T_getf rfl
theorem s126_56 : ni_T d 126 56 [a0, .int x, a2, a3, a4] st z h Q = ni_T d 126 57 [a0, .int x, a2, a3, a4] (.int x :: st) z h Q := ni_T_p rfl rfl
theorem s126_57 : ni_T d 126 57 [a0, a1, a2, a3, a4] (.int x :: .ref o :: st) z h Q = (ni_okI (h o) x = true ∧ ni_T d 126 58 [a0, a1, a2, a3, a4] (.int (ni_gi (h o) x) :: st) z h Q) := ni_T_iald rfl
theorem s126_58 : ni_T d 126 58 [a0, a1, a2, a3, a4] (.int y :: .int x :: st) z h Q = if x < y then ni_T d 126 68 [a0, a1, a2, a3, a4] st z h Q else ni_T d 126 61 [a0, a1, a2, a3, a4] st z h Q := ni_T_b rfl rfl
theorem s126_61 : ni_T d 126 61 [.ref o, a1, a2, a3, a4] st z h Q = ni_T d 126 62 [.ref o, a1, a2, a3, a4] (.ref o :: st) z h Q := ni_T_p rfl rfl
theorem s126_62 : ni_T d 126 62 [a0, a1, a2, a3, a4] st z h Q = ni_T d 126 64 [a0, a1, a2, a3, a4] (.int (-5) :: st) z h Q := ni_T_p rfl rfl
theorem s126_64 : ni_T (d + 1) 126 64 [a0, a1, a2, a3, a4] (.int x0 :: .ref o :: st) z h Q = (ni_rc (h o) 7 = true ∧ Nat.ble (ni_sw st) 8 = true ∧ ni_T d 120 0 [.ref o, .int x0] [] z h (ni_K (d + 1) 126 67 [a0, a1, a2, a3, a4] st z Q)) := ni_T_ce [.ref o, .int x0] rfl rfl rfl rfl rfl rfl rfl rfl rfl
theorem s126_67 : ni_T d 126 67 [a0, a1, a2, a3, a4] [.int x] z h Q = Q (some (.int x)) z h := ni_T_i rfl rfl
theorem s126_68 : ni_T d 126 68 [.ref o, a1, a2, a3, a4] st z h Q = ni_T d 126 69 [.ref o, a1, a2, a3, a4] (.ref o :: st) z h Q := ni_T_p rfl rfl
theorem s126_69 : ni_T d 126 69 [a0, a1, a2, a3, a4] (.ref o :: st) z h Q = (ni_is (h o) 7 16 = true ∧ ni_T d 126 72 [a0, a1, a2, a3, a4] (ni_gv (h o) 16 :: st) z h Q) := ni_T_getf rfl
theorem s126_72 : ni_T d 126 72 [a0, a1, a2, a3, a4] st z h Q = ni_T d 126 75 [a0, a1, a2, a3, a4] (.int 160 :: st) z h Q := ni_T_p rfl rfl
theorem s126_75 : ni_T d 126 75 [a0, .int x, a2, a3, a4] st z h Q = ni_T d 126 76 [a0, .int x, a2, a3, a4] (.int x :: st) z h Q := ni_T_p rfl rfl
theorem s126_76 : ni_T d 126 76 [a0, a1, a2, a3, a4] (.int y :: .int x :: st) z h Q = ni_T d 126 77 [a0, a1, a2, a3, a4] (.int (x * y) :: st) z h Q := ni_T_p rfl rfl
theorem s126_77 : ni_T d 126 77 [a0, a1, .int x, a3, a4] st z h Q = ni_T d 126 78 [a0, a1, .int x, a3, a4] (.int x :: st) z h Q := ni_T_p rfl rfl
theorem s126_78 : ni_T d 126 78 [a0, a1, a2, a3, a4] (.int y :: .int x :: st) z h Q = ni_T d 126 79 [a0, a1, a2, a3, a4] (.int (x + y) :: st) z h Q := ni_T_p rfl rfl
theorem s126_79 : ni_T d 126 79 [.ref o, a1, a2, a3, a4] st z h Q = ni_T d 126 80 [.ref o, a1, a2, a3, a4] (.ref o :: st) z h Q := ni_T_p rfl rfl
theorem s126_80 : ni_T d 126 80 [a0, a1, a2, a3, a4] (.ref o :: st) z h Q = (ni_is (h o) 7 13 = true ∧ ni_T d 126 83 [a0, a1, a2, a3, a4] (ni_gv (h o) 13 :: st) z h Q) := ni_T_getf rfl
theorem s126_83 : ni_T d 126 83 [a0, .int x, a2, a3, a4] st z h Q = ni_T d 126 84 [a0, .int x, a2, a3, a4] (.int x :: st) z h Q := ni_T_p rfl rfl
theorem s126_84 : ni_T d 126 84 [a0, a1, a2, a3, a4] (.int x :: .ref o :: st) z h Q = (ni_okI (h o) x = true ∧ ni_T d 126 85 [a0, a1, a2, a3, a4] (.int (ni_gi (h o) x) :: st) z h Q) := ni_T_iald rfl
theorem s126_85 : ni_T d 126 85 [a0, a1, a2, a3, a4] (.int x :: st) z h Q = if x = 0 then ni_T d 126 88 [a0, a1, a2, a3, a4] st z h Q else ni_T d 126 95 [a0, a1, a2, a3, a4] st z h Q := ni_T_b rfl rfl
theorem s126_88 : ni_T d 126 88 [a0, a1, a2, .long u, a4] st z h Q = ni_T d 126 89 [a0, a1, a2, .long u, a4] (.long u :: st) z h Q := ni_T_p rfl rfl
theorem s126_89 : ni_T d 126 89 [a0, a1, a2, a3, a4] (.long u :: st) z h Q = ni_T d 126 90 [a0, a1, a2, a3, a4] (.int u.toInt32 :: st) z h Q := ni_T_p rfl rfl
theorem s126_90 : ni_T d 126 90 [a0, a1, a2, a3, a4] (.int x :: st) z h Q = ni_T d 126 91 [a0, a1, a2, a3, a4] (.int x.toInt8.toInt32 :: st) z h Q := ni_T_p rfl rfl
theorem s126_91 : ni_T d 126 91 [a0, a1, a2, a3, a4] (.int x :: st) z h Q = ni_T d 126 92 [a0, a1, a2, a3, a4] (.long x.toInt64 :: st) z h Q := ni_T_p rfl rfl
theorem s126_92 : ni_T d 126 92 [a0, a1, a2, a3, a4] st z h Q = ni_T d 126 129 [a0, a1, a2, a3, a4] st z h Q := ni_T_p rfl rfl
theorem s126_95 : ni_T d 126 95 [.ref o, a1, a2, a3, a4] st z h Q = ni_T d 126 96 [.ref o, a1, a2, a3, a4] (.ref o :: st) z h Q := ni_T_p rfl rfl
theorem s126_96 : ni_T d 126 96 [a0, a1, a2, a3, a4] (.ref o :: st) z h Q = (ni_is (h o) 7 13 = true ∧ ni_T d 126 99 [a0, a1, a2, a3, a4] (ni_gv (h o) 13 :: st) z h Q) := ni_T_getf rfl
theorem s126_99 : ni_T d 126 99 [a0, .int x, a2, a3, a4] st z h Q = ni_T d 126 100 [a0, .int x, a2, a3, a4] (.int x :: st) z h Q := ni_T_p rfl rfl
theorem s126_100 : ni_T d 126 100 [a0, a1, a2, a3, a4] (.int x :: .ref o :: st) z h Q = (ni_okI (h o) x = true ∧ ni_T d 126 101 [a0, a1, a2, a3, a4] (.int (ni_gi (h o) x) :: st) z h Q) := ni_T_iald rfl
theorem s126_101 : ni_T d 126 101 [a0, a1, a2, a3, a4] st z h Q = ni_T d 126 102 [a0, a1, a2, a3, a4] (.int 1 :: st) z h Q := ni_T_p rfl rfl
theorem s126_102 : ni_T d 126 102 [a0, a1, a2, a3, a4] (.int y :: .int x :: st) z h Q = if x = y then ni_T d 126 105 [a0, a1, a2, a3, a4] st z h Q else ni_T d 126 112 [a0, a1, a2, a3, a4] st z h Q := ni_T_b rfl rfl
theorem s126_105 : ni_T d 126 105 [a0, a1, a2, .long u, a4] st z h Q = ni_T d 126 106 [a0, a1, a2, .long u, a4] (.long u :: st) z h Q := ni_T_p rfl rfl
theorem s126_106 : ni_T d 126 106 [a0, a1, a2, a3, a4] (.long u :: st) z h Q = ni_T d 126 107 [a0, a1, a2, a3, a4] (.int u.toInt32 :: st) z h Q := ni_T_p rfl rfl
theorem s126_107 : ni_T d 126 107 [a0, a1, a2, a3, a4] (.int x :: st) z h Q = ni_T d 126 108 [a0, a1, a2, a3, a4] (.int x.toInt16.toInt32 :: st) z h Q := ni_T_p rfl rfl
theorem s126_108 : ni_T d 126 108 [a0, a1, a2, a3, a4] (.int x :: st) z h Q = ni_T d 126 109 [a0, a1, a2, a3, a4] (.long x.toInt64 :: st) z h Q := ni_T_p rfl rfl
theorem s126_109 : ni_T d 126 109 [a0, a1, a2, a3, a4] st z h Q = ni_T d 126 129 [a0, a1, a2, a3, a4] st z h Q := ni_T_p rfl rfl
theorem s126_112 : ni_T d 126 112 [.ref o, a1, a2, a3, a4] st z h Q = ni_T d 126 113 [.ref o, a1, a2, a3, a4] (.ref o :: st) z h Q := ni_T_p rfl rfl
theorem s126_113 : ni_T d 126 113 [a0, a1, a2, a3, a4] (.ref o :: st) z h Q = (ni_is (h o) 7 13 = true ∧ ni_T d 126 116 [a0, a1, a2, a3, a4] (ni_gv (h o) 13 :: st) z h Q) := ni_T_getf rfl
theorem s126_116 : ni_T d 126 116 [a0, .int x, a2, a3, a4] st z h Q = ni_T d 126 117 [a0, .int x, a2, a3, a4] (.int x :: st) z h Q := ni_T_p rfl rfl
theorem s126_117 : ni_T d 126 117 [a0, a1, a2, a3, a4] (.int x :: .ref o :: st) z h Q = (ni_okI (h o) x = true ∧ ni_T d 126 118 [a0, a1, a2, a3, a4] (.int (ni_gi (h o) x) :: st) z h Q) := ni_T_iald rfl
theorem s126_118 : ni_T d 126 118 [a0, a1, a2, a3, a4] st z h Q = ni_T d 126 119 [a0, a1, a2, a3, a4] (.int 2 :: st) z h Q := ni_T_p rfl rfl
theorem s126_119 : ni_T d 126 119 [a0, a1, a2, a3, a4] (.int y :: .int x :: st) z h Q = if x = y then ni_T d 126 122 [a0, a1, a2, a3, a4] st z h Q else ni_T d 126 128 [a0, a1, a2, a3, a4] st z h Q := ni_T_b rfl rfl
theorem s126_122 : ni_T d 126 122 [a0, a1, a2, .long u, a4] st z h Q = ni_T d 126 123 [a0, a1, a2, .long u, a4] (.long u :: st) z h Q := ni_T_p rfl rfl
theorem s126_123 : ni_T d 126 123 [a0, a1, a2, a3, a4] (.long u :: st) z h Q = ni_T d 126 124 [a0, a1, a2, a3, a4] (.int u.toInt32 :: st) z h Q := ni_T_p rfl rfl
theorem s126_124 : ni_T d 126 124 [a0, a1, a2, a3, a4] (.int x :: st) z h Q = ni_T d 126 125 [a0, a1, a2, a3, a4] (.long x.toInt64 :: st) z h Q := ni_T_p rfl rfl
theorem s126_125 : ni_T d 126 125 [a0, a1, a2, a3, a4] st z h Q = ni_T d 126 129 [a0, a1, a2, a3, a4] st z h Q := ni_T_p rfl rfl
theorem s126_128 : ni_T d 126 128 [a0, a1, a2, .long u, a4] st z h Q = ni_T d 126 129 [a0, a1, a2, .long u, a4] (.long u :: st) z h Q := ni_T_p rfl rfl
theorem s126_129 : ni_T d 126 129 [a0, a1, a2, a3, a4] (.long u :: .int x :: .ref o :: st) z h Q = (ni_okL (h o) x = true ∧ ni_T d 126 130 [a0, a1, a2, a3, a4] st z (ni_up h o (ni_pl (h o) x u)) Q) := ni_T_last rfl
theorem s126_130 : ni_T d 126 130 [a0, a1, a2, a3, a4] st z h Q = ni_T d 126 131 [a0, a1, a2, a3, a4] (.int 1 :: st) z h Q := ni_T_p rfl rfl
theorem s126_131 : ni_T d 126 131 [a0, a1, a2, a3, a4] [.int x] z h Q = Q (some (.int x)) z h := ni_T_i rfl rfl
theorem s127_0 : ni_T d 127 0 [.ref o, a1, a2, a3, a4, a5, a6] st z h Q = ni_T d 127 1 [.ref o, a1, a2, a3, a4, a5, a6] (.ref o :: st) z h Q := ni_T_p rfl rfl
theorem s127_1 : ni_T d 127 1 [a0, .int x, a2, a3, a4, a5, a6] st z h Q = ni_T d 127 2 [a0, .int x, a2, a3, a4, a5, a6] (.int x :: st) z h Q := ni_T_p rfl rfl
theorem s127_2 : ni_T (d + 1) 127 2 [a0, a1, a2, a3, a4, a5, a6] (.int x0 :: .ref o :: st) z h Q = (ni_rc (h o) 7 = true ∧ Nat.ble (ni_sw st) 8 = true ∧ ni_T d 122 0 [.ref o, .int x0] [] z h (ni_K (d + 1) 127 5 [a0, a1, a2, a3, a4, a5, a6] st z Q)) := ni_T_ce [.ref o, .int x0] rfl rfl rfl rfl rfl rfl rfl rfl rfl
theorem s127_5 : ni_T d 127 5 [a0, a1, a2, a3, a4, a5, a6] (.int x :: st) z h Q = if x = 0 then ni_T d 127 16 [a0, a1, a2, a3, a4, a5, a6] st z h Q else ni_T d 127 8 [a0, a1, a2, a3, a4, a5, a6] st z h Q := ni_T_b rfl rfl
theorem s127_8 : ni_T d 127 8 [.ref o, a1, a2, a3, a4, a5, a6] st z h Q = ni_T d 127 9 [.ref o, a1, a2, a3, a4, a5, a6] (.ref o :: st) z h Q := ni_T_p rfl rfl
theorem s127_9 : ni_T d 127 9 [a0, a1, .int x, a3, a4, a5, a6] st z h Q = ni_T d 127 10 [a0, a1, .int x, a3, a4, a5, a6] (.int x :: st) z h Q := ni_T_p rfl rfl
theorem s127_10 : ni_T (d + 1) 127 10 [a0, a1, a2, a3, a4, a5, a6] (.int x0 :: .ref o :: st) z h Q = (ni_rc (h o) 7 = true ∧ Nat.ble (ni_sw st) 8 = true ∧ ni_T d 122 0 [.ref o, .int x0] [] z h (ni_K (d + 1) 127 13 [a0, a1, a2, a3, a4, a5, a6] st z Q)) := ni_T_ce [.ref o, .int x0] rfl rfl rfl rfl rfl rfl rfl rfl rfl
theorem s127_13 : ni_T d 127 13 [a0, a1, a2, a3, a4, a5, a6] (.int x :: st) z h Q = if x = 0 then ni_T d 127 16 [a0, a1, a2, a3, a4, a5, a6] st z h Q else ni_T d 127 22 [a0, a1, a2, a3, a4, a5, a6] st z h Q := ni_T_b rfl rfl
theorem s127_16 : ni_T d 127 16 [.ref o, a1, a2, a3, a4, a5, a6] st z h Q = ni_T d 127 17 [.ref o, a1, a2, a3, a4, a5, a6] (.ref o :: st) z h Q := ni_T_p rfl rfl
theorem s127_17 : ni_T d 127 17 [a0, a1, a2, a3, a4, a5, a6] st z h Q = ni_T d 127 18 [a0, a1, a2, a3, a4, a5, a6] (.int (-1) :: st) z h Q := ni_T_p rfl rfl
theorem s127_18 : ni_T (d + 1) 127 18 [a0, a1, a2, a3, a4, a5, a6] (.int x0 :: .ref o :: st) z h Q = (ni_rc (h o) 7 = true ∧ Nat.ble (ni_sw st) 8 = true ∧ ni_T d 120 0 [.ref o, .int x0] [] z h (ni_K (d + 1) 127 21 [a0, a1, a2, a3, a4, a5, a6] st z Q)) := ni_T_ce [.ref o, .int x0] rfl rfl rfl rfl rfl rfl rfl rfl rfl
theorem s127_21 : ni_T d 127 21 [a0, a1, a2, a3, a4, a5, a6] [.int x] z h Q = Q (some (.int x)) z h := ni_T_i rfl rfl
theorem s127_22 : ni_T d 127 22 [.ref o, a1, a2, a3, a4, a5, a6] st z h Q = ni_T d 127 23 [.ref o, a1, a2, a3, a4, a5, a6] (.ref o :: st) z h Q := ni_T_p rfl rfl
theorem s127_23 : ni_T d 127 23 [a0, a1, a2, a3, a4, a5, a6] (.ref o :: st) z h Q = (ni_is (h o) 7 12 = true ∧ ni_T d 127 26 [a0, a1, a2, a3, a4, a5, a6] (ni_gv (h o) 12 :: st) z h Q) := ni_T_getf rfl
theorem s127_26 : ni_T d 127 26 [a0, .int x, a2, a3, a4, a5, a6] st z h Q = ni_T d 127 27 [a0, .int x, a2, a3, a4, a5, a6] (.int x :: st) z h Q := ni_T_p rfl rfl
theorem s127_27 : ni_T d 127 27 [a0, a1, a2, a3, a4, a5, a6] (.int x :: .ref o :: st) z h Q = (ni_okI (h o) x = true ∧ ni_T d 127 28 [a0, a1, a2, a3, a4, a5, a6] (.int (ni_gi (h o) x) :: st) z h Q) := ni_T_iald rfl
theorem s127_28 : ni_T d 127 28 [a0, a1, a2, a3, a4, a5, a6] st z h Q = ni_T d 127 29 [a0, a1, a2, a3, a4, a5, a6] (.int 2 :: st) z h Q := ni_T_p rfl rfl
theorem s127_29 : ni_T d 127 29 [a0, a1, a2, a3, a4, a5, a6] (.int y :: .int x :: st) z h Q = if x = y then ni_T d 127 77 [a0, a1, a2, a3, a4, a5, a6] st z h Q else ni_T d 127 32 [a0, a1, a2, a3, a4, a5, a6] st z h Q := ni_T_b rfl rfl
theorem s127_32 : ni_T d 127 32 [.ref o, a1, a2, a3, a4, a5, a6] st z h Q = ni_T d 127 33 [.ref o, a1, a2, a3, a4, a5, a6] (.ref o :: st) z h Q := ni_T_p rfl rfl
theorem s127_33 : ni_T d 127 33 [a0, a1, a2, a3, a4, a5, a6] (.ref o :: st) z h Q = (ni_is (h o) 7 12 = true ∧ ni_T d 127 36 [a0, a1, a2, a3, a4, a5, a6] (ni_gv (h o) 12 :: st) z h Q) := ni_T_getf rfl
theorem s127_36 : ni_T d 127 36 [a0, a1, .int x, a3, a4, a5, a6] st z h Q = ni_T d 127 37 [a0, a1, .int x, a3, a4, a5, a6] (.int x :: st) z h Q := ni_T_p rfl rfl
theorem s127_37 : ni_T d 127 37 [a0, a1, a2, a3, a4, a5, a6] (.int x :: .ref o :: st) z h Q = (ni_okI (h o) x = true ∧ ni_T d 127 38 [a0, a1, a2, a3, a4, a5, a6] (.int (ni_gi (h o) x) :: st) z h Q) := ni_T_iald rfl
theorem s127_38 : ni_T d 127 38 [a0, a1, a2, a3, a4, a5, a6] st z h Q = ni_T d 127 39 [a0, a1, a2, a3, a4, a5, a6] (.int 2 :: st) z h Q := ni_T_p rfl rfl
theorem s127_39 : ni_T d 127 39 [a0, a1, a2, a3, a4, a5, a6] (.int y :: .int x :: st) z h Q = if x = y then ni_T d 127 77 [a0, a1, a2, a3, a4, a5, a6] st z h Q else ni_T d 127 42 [a0, a1, a2, a3, a4, a5, a6] st z h Q := ni_T_b rfl rfl
theorem s127_42 : ni_T d 127 42 [.ref o, a1, a2, a3, a4, a5, a6] st z h Q = ni_T d 127 43 [.ref o, a1, a2, a3, a4, a5, a6] (.ref o :: st) z h Q := ni_T_p rfl rfl
theorem s127_43 : ni_T d 127 43 [a0, a1, a2, a3, a4, a5, a6] (.ref o :: st) z h Q = (ni_is (h o) 7 12 = true ∧ ni_T d 127 46 [a0, a1, a2, a3, a4, a5, a6] (ni_gv (h o) 12 :: st) z h Q) := ni_T_getf rfl
theorem s127_46 : ni_T d 127 46 [a0, .int x, a2, a3, a4, a5, a6] st z h Q = ni_T d 127 47 [a0, .int x, a2, a3, a4, a5, a6] (.int x :: st) z h Q := ni_T_p rfl rfl
theorem s127_47 : ni_T d 127 47 [a0, a1, a2, a3, a4, a5, a6] (.int x :: .ref o :: st) z h Q = (ni_okI (h o) x = true ∧ ni_T d 127 48 [a0, a1, a2, a3, a4, a5, a6] (.int (ni_gi (h o) x) :: st) z h Q) := ni_T_iald rfl
theorem s127_48 : ni_T d 127 48 [a0, a1, a2, a3, a4, a5, a6] st z h Q = ni_T d 127 49 [a0, a1, a2, a3, a4, a5, a6] (.int 1 :: st) z h Q := ni_T_p rfl rfl
theorem s127_49 : ni_T d 127 49 [a0, a1, a2, a3, a4, a5, a6] (.int y :: .int x :: st) z h Q = if x = y then ni_T d 127 52 [a0, a1, a2, a3, a4, a5, a6] st z h Q else ni_T d 127 84 [a0, a1, a2, a3, a4, a5, a6] st z h Q := ni_T_b rfl rfl
theorem s127_52 : ni_T d 127 52 [.ref o, a1, a2, a3, a4, a5, a6] st z h Q = ni_T d 127 53 [.ref o, a1, a2, a3, a4, a5, a6] (.ref o :: st) z h Q := ni_T_p rfl rfl
theorem s127_53 : ni_T d 127 53 [a0, a1, a2, a3, a4, a5, a6] (.ref o :: st) z h Q = (ni_is (h o) 7 12 = true ∧ ni_T d 127 56 [a0, a1, a2, a3, a4, a5, a6] (ni_gv (h o) 12 :: st) z h Q) := ni_T_getf rfl
theorem s127_56 : ni_T d 127 56 [a0, a1, .int x, a3, a4, a5, a6] st z h Q = ni_T d 127 57 [a0, a1, .int x, a3, a4, a5, a6] (.int x :: st) z h Q := ni_T_p rfl rfl
theorem s127_57 : ni_T d 127 57 [a0, a1, a2, a3, a4, a5, a6] (.int x :: .ref o :: st) z h Q = (ni_okI (h o) x = true ∧ ni_T d 127 58 [a0, a1, a2, a3, a4, a5, a6] (.int (ni_gi (h o) x) :: st) z h Q) := ni_T_iald rfl
theorem s127_58 : ni_T d 127 58 [a0, a1, a2, a3, a4, a5, a6] st z h Q = ni_T d 127 59 [a0, a1, a2, a3, a4, a5, a6] (.int 1 :: st) z h Q := ni_T_p rfl rfl
theorem s127_59 : ni_T d 127 59 [a0, a1, a2, a3, a4, a5, a6] (.int y :: .int x :: st) z h Q = if x = y then ni_T d 127 62 [a0, a1, a2, a3, a4, a5, a6] st z h Q else ni_T d 127 84 [a0, a1, a2, a3, a4, a5, a6] st z h Q := ni_T_b rfl rfl
theorem s127_62 : ni_T d 127 62 [.ref o, a1, a2, a3, a4, a5, a6] st z h Q = ni_T d 127 63 [.ref o, a1, a2, a3, a4, a5, a6] (.ref o :: st) z h Q := ni_T_p rfl rfl
theorem s127_63 : ni_T d 127 63 [a0, a1, a2, a3, a4, a5, a6] (.ref o :: st) z h Q = (ni_is (h o) 7 13 = true ∧ ni_T d 127 66 [a0, a1, a2, a3, a4, a5, a6] (ni_gv (h o) 13 :: st) z h Q) := ni_T_getf rfl
theorem s127_66 : ni_T d 127 66 [a0, .int x, a2, a3, a4, a5, a6] st z h Q = ni_T d 127 67 [a0, .int x, a2, a3, a4, a5, a6] (.int x :: st) z h Q := ni_T_p rfl rfl
theorem s127_67 : ni_T d 127 67 [a0, a1, a2, a3, a4, a5, a6] (.int x :: .ref o :: st) z h Q = (ni_okI (h o) x = true ∧ ni_T d 127 68 [a0, a1, a2, a3, a4, a5, a6] (.int (ni_gi (h o) x) :: st) z h Q) := ni_T_iald rfl
theorem s127_68 : ni_T d 127 68 [.ref o, a1, a2, a3, a4, a5, a6] st z h Q = ni_T d 127 69 [.ref o, a1, a2, a3, a4, a5, a6] (.ref o :: st) z h Q := ni_T_p rfl rfl
theorem s127_69 : ni_T d 127 69 [a0, a1, a2, a3, a4, a5, a6] (.ref o :: st) z h Q = (ni_is (h o) 7 13 = true ∧ ni_T d 127 72 [a0, a1, a2, a3, a4, a5, a6] (ni_gv (h o) 13 :: st) z h Q) := ni_T_getf rfl
theorem s127_72 : ni_T d 127 72 [a0, a1, .int x, a3, a4, a5, a6] st z h Q = ni_T d 127 73 [a0, a1, .int x, a3, a4, a5, a6] (.int x :: st) z h Q := ni_T_p rfl rfl
theorem s127_73 : ni_T d 127 73 [a0, a1, a2, a3, a4, a5, a6] (.int x :: .ref o :: st) z h Q = (ni_okI (h o) x = true ∧ ni_T d 127 74 [a0, a1, a2, a3, a4, a5, a6] (.int (ni_gi (h o) x) :: st) z h Q) := ni_T_iald rfl
theorem s127_74 : ni_T d 127 74 [a0, a1, a2, a3, a4, a5, a6] (.int y :: .int x :: st) z h Q = if x = y then ni_T d 127 84 [a0, a1, a2, a3, a4, a5, a6] st z h Q else ni_T d 127 77 [a0, a1, a2, a3, a4, a5, a6] st z h Q := ni_T_b rfl rfl
theorem s127_77 : ni_T d 127 77 [.ref o, a1, a2, a3, a4, a5, a6] st z h Q = ni_T d 127 78 [.ref o, a1, a2, a3, a4, a5, a6] (.ref o :: st) z h Q := ni_T_p rfl rfl
theorem s127_78 : ni_T d 127 78 [a0, a1, a2, a3, a4, a5, a6] st z h Q = ni_T d 127 80 [a0, a1, a2, a3, a4, a5, a6] (.int (-2) :: st) z h Q := ni_T_p rfl rfl
theorem s127_80 : ni_T (d + 1) 127 80 [a0, a1, a2, a3, a4, a5, a6] (.int x0 :: .ref o :: st) z h Q = (ni_rc (h o) 7 = true ∧ Nat.ble (ni_sw st) 8 = true ∧ ni_T d 120 0 [.ref o, .int x0] [] z h (ni_K (d + 1) 127 83 [a0, a1, a2, a3, a4, a5, a6] st z Q)) := ni_T_ce [.ref o, .int x0] rfl rfl rfl rfl rfl rfl rfl rfl rfl
theorem s127_83 : ni_T d 127 83 [a0, a1, a2, a3, a4, a5, a6] [.int x] z h Q = Q (some (.int x)) z h := ni_T_i rfl rfl
theorem s127_84 : ni_T d 127 84 [.ref o, a1, a2, a3, a4, a5, a6] st z h Q = ni_T d 127 85 [.ref o, a1, a2, a3, a4, a5, a6] (.ref o :: st) z h Q := ni_T_p rfl rfl
theorem s127_85 : ni_T d 127 85 [a0, a1, a2, a3, a4, a5, a6] (.ref o :: st) z h Q = (ni_is (h o) 7 12 = true ∧ ni_T d 127 88 [a0, a1, a2, a3, a4, a5, a6] (ni_gv (h o) 12 :: st) z h Q) := ni_T_getf rfl
theorem s127_88 : ni_T d 127 88 [a0, .int x, a2, a3, a4, a5, a6] st z h Q = ni_T d 127 89 [a0, .int x, a2, a3, a4, a5, a6] (.int x :: st) z h Q := ni_T_p rfl rfl
theorem s127_89 : ni_T d 127 89 [a0, a1, a2, a3, a4, a5, a6] (.int x :: .ref o :: st) z h Q = (ni_okI (h o) x = true ∧ ni_T d 127 90 [a0, a1, a2, a3, a4, a5, a6] (.int (ni_gi (h o) x) :: st) z h Q) := ni_T_iald rfl
theorem s127_90 : ni_T d 127 90 [a0, a1, a2, a3, a4, a5, a6] (.int x :: st) z h Q = if x = 0 then ni_T d 127 102 [a0, a1, a2, a3, a4, a5, a6] st z h Q else ni_T d 127 93 [a0, a1, a2, a3, a4, a5, a6] st z h Q := ni_T_b rfl rfl
theorem s127_93 : ni_T d 127 93 [.ref o, a1, a2, a3, a4, a5, a6] st z h Q = ni_T d 127 94 [.ref o, a1, a2, a3, a4, a5, a6] (.ref o :: st) z h Q := ni_T_p rfl rfl
theorem s127_94 : ni_T d 127 94 [a0, a1, a2, a3, a4, a5, a6] (.ref o :: st) z h Q = (ni_is (h o) 7 12 = true ∧ ni_T d 127 97 [a0, a1, a2, a3, a4, a5, a6] (ni_gv (h o) 12 :: st) z h Q) := ni_T_getf rfl
theorem s127_97 : ni_T d 127 97 [a0, a1, .int x, a3, a4, a5, a6] st z h Q = ni_T d 127 98 [a0, a1, .int x, a3, a4, a5, a6] (.int x :: st) z h Q := ni_T_p rfl rfl
theorem s127_98 : ni_T d 127 98 [a0, a1, a2, a3, a4, a5, a6] (.int x :: .ref o :: st) z h Q = (ni_okI (h o) x = true ∧ ni_T d 127 99 [a0, a1, a2, a3, a4, a5, a6] (.int (ni_gi (h o) x) :: st) z h Q) := ni_T_iald rfl
theorem s127_99 : ni_T d 127 99 [a0, a1, a2, a3, a4, a5, a6] (.int x :: st) z h Q = if x = 0 then ni_T d 127 102 [a0, a1, a2, a3, a4, a5, a6] st z h Q else ni_T d 127 109 [a0, a1, a2, a3, a4, a5, a6] st z h Q := ni_T_b rfl rfl
theorem s127_102 : ni_T d 127 102 [.ref o, a1, a2, a3, a4, a5, a6] st z h Q = ni_T d 127 103 [.ref o, a1, a2, a3, a4, a5, a6] (.ref o :: st) z h Q := ni_T_p rfl rfl
theorem s127_103 : ni_T d 127 103 [a0, a1, a2, a3, a4, a5, a6] st z h Q = ni_T d 127 105 [a0, a1, a2, a3, a4, a5, a6] (.int (-3) :: st) z h Q := ni_T_p rfl rfl
theorem s127_105 : ni_T (d + 1) 127 105 [a0, a1, a2, a3, a4, a5, a6] (.int x0 :: .ref o :: st) z h Q = (ni_rc (h o) 7 = true ∧ Nat.ble (ni_sw st) 8 = true ∧ ni_T d 120 0 [.ref o, .int x0] [] z h (ni_K (d + 1) 127 108 [a0, a1, a2, a3, a4, a5, a6] st z Q)) := ni_T_ce [.ref o, .int x0] rfl rfl rfl rfl rfl rfl rfl rfl rfl
theorem s127_108 : ni_T d 127 108 [a0, a1, a2, a3, a4, a5, a6] [.int x] z h Q = Q (some (.int x)) z h := ni_T_i rfl rfl
theorem s127_109 : ni_T d 127 109 [a0, a1, a2, a3, a4, .int x, a6] st z h Q = ni_T d 127 111 [a0, a1, a2, a3, a4, .int x, a6] (.int x :: st) z h Q := ni_T_p rfl rfl
theorem s127_111 : ni_T d 127 111 [a0, a1, a2, a3, a4, a5, a6] (.int x :: st) z h Q = if 0 ≤ x then ni_T d 127 121 [a0, a1, a2, a3, a4, a5, a6] st z h Q else ni_T d 127 114 [a0, a1, a2, a3, a4, a5, a6] st z h Q := ni_T_b rfl rfl
theorem s127_114 : ni_T d 127 114 [.ref o, a1, a2, a3, a4, a5, a6] st z h Q = ni_T d 127 115 [.ref o, a1, a2, a3, a4, a5, a6] (.ref o :: st) z h Q := ni_T_p rfl rfl
theorem s127_115 : ni_T d 127 115 [a0, a1, a2, a3, a4, a5, a6] st z h Q = ni_T d 127 117 [a0, a1, a2, a3, a4, a5, a6] (.int (-4) :: st) z h Q := ni_T_p rfl rfl
theorem s127_117 : ni_T (d + 1) 127 117 [a0, a1, a2, a3, a4, a5, a6] (.int x0 :: .ref o :: st) z h Q = (ni_rc (h o) 7 = true ∧ Nat.ble (ni_sw st) 8 = true ∧ ni_T d 120 0 [.ref o, .int x0] [] z h (ni_K (d + 1) 127 120 [a0, a1, a2, a3, a4, a5, a6] st z Q)) := ni_T_ce [.ref o, .int x0] rfl rfl rfl rfl rfl rfl rfl rfl rfl
theorem s127_120 : ni_T d 127 120 [a0, a1, a2, a3, a4, a5, a6] [.int x] z h Q = Q (some (.int x)) z h := ni_T_i rfl rfl
theorem s127_121 : ni_T d 127 121 [a0, a1, a2, .int x, a4, a5, a6] st z h Q = ni_T d 127 122 [a0, a1, a2, .int x, a4, a5, a6] (.int x :: st) z h Q := ni_T_p rfl rfl
theorem s127_122 : ni_T d 127 122 [a0, a1, a2, a3, a4, a5, a6] (.int x :: st) z h Q = if x < 0 then ni_T d 127 157 [a0, a1, a2, a3, a4, a5, a6] st z h Q else ni_T d 127 125 [a0, a1, a2, a3, a4, a5, a6] st z h Q := ni_T_b rfl rfl
theorem s127_125 : ni_T d 127 125 [a0, a1, a2, a3, .int x, a5, a6] st z h Q = ni_T d 127 127 [a0, a1, a2, a3, .int x, a5, a6] (.int x :: st) z h Q := ni_T_p rfl rfl
theorem s127_127 : ni_T d 127 127 [a0, a1, a2, a3, a4, a5, a6] (.int x :: st) z h Q = if x < 0 then ni_T d 127 157 [a0, a1, a2, a3, a4, a5, a6] st z h Q else ni_T d 127 130 [a0, a1, a2, a3, a4, a5, a6] st z h Q := ni_T_b rfl rfl
theorem s127_130 : ni_T d 127 130 [a0, a1, a2, .int x, a4, a5, a6] st z h Q = ni_T d 127 131 [a0, a1, a2, .int x, a4, a5, a6] (.int x :: st) z h Q := ni_T_p rfl rfl
theorem s127_131 : ni_T d 127 131 [.ref o, a1, a2, a3, a4, a5, a6] st z h Q = ni_T d 127 132 [.ref o, a1, a2, a3, a4, a5, a6] (.ref o :: st) z h Q := ni_T_p rfl rfl
theorem s127_132 : ni_T d 127 132 [a0, a1, a2, a3, a4, a5, a6] (.ref o :: st) z h Q = (ni_is (h o) 7 14 = true ∧ ni_T d 127 135 [a0, a1, a2, a3, a4, a5, a6] (ni_gv (h o) 14 :: st) z h Q) := ni_T_getf rfl
theorem s127_135 : ni_T d 127 135 [a0, .int x, a2, a3, a4, a5, a6] st z h Q = ni_T d 127 136 [a0, .int x, a2, a3, a4, a5, a6] (.int x :: st) z h Q := ni_T_p rfl rfl
theorem s127_136 : ni_T d 127 136 [a0, a1, a2, a3, a4, a5, a6] (.int x :: .ref o :: st) z h Q = (ni_okI (h o) x = true ∧ ni_T d 127 137 [a0, a1, a2, a3, a4, a5, a6] (.int (ni_gi (h o) x) :: st) z h Q) := ni_T_iald rfl
theorem s127_137 : ni_T d 127 137 [a0, a1, a2, a3, a4, .int x, a6] st z h Q = ni_T d 127 139 [a0, a1, a2, a3, a4, .int x, a6] (.int x :: st) z h Q := ni_T_p rfl rfl
theorem s127_139 : ni_T d 127 139 [a0, a1, a2, a3, a4, a5, a6] (.int y :: .int x :: st) z h Q = ni_T d 127 140 [a0, a1, a2, a3, a4, a5, a6] (.int (x - y) :: st) z h Q := ni_T_p rfl rfl
theorem s127_140 : ni_T d 127 140 [a0, a1, a2, a3, a4, a5, a6] (.int y :: .int x :: st) z h Q = if y < x then ni_T d 127 157 [a0, a1, a2, a3, a4, a5, a6] st z h Q else ni_T d 127 143 [a0, a1, a2, a3, a4, a5, a6] st z h Q := ni_T_b rfl rfl
theorem s127_143 : ni_T d 127 143 [a0, a1, a2, a3, .int x, a5, a6] st z h Q = ni_T d 127 145 [a0, a1, a2, a3, .int x, a5, a6] (.int x :: st) z h Q := ni_T_p rfl rfl
theorem s127_145 : ni_T d 127 145 [.ref o, a1, a2, a3, a4, a5, a6] st z h Q = ni_T d 127 146 [.ref o, a1, a2, a3, a4, a5, a6] (.ref o :: st) z h Q := ni_T_p rfl rfl
theorem s127_146 : ni_T d 127 146 [a0, a1, a2, a3, a4, a5, a6] (.ref o :: st) z h Q = (ni_is (h o) 7 14 = true ∧ ni_T d 127 149 [a0, a1, a2, a3, a4, a5, a6] (ni_gv (h o) 14 :: st) z h Q) := ni_T_getf rfl
theorem s127_149 : ni_T d 127 149 [a0, a1, .int x, a3, a4, a5, a6] st z h Q = ni_T d 127 150 [a0, a1, .int x, a3, a4, a5, a6] (.int x :: st) z h Q := ni_T_p rfl rfl
theorem s127_150 : ni_T d 127 150 [a0, a1, a2, a3, a4, a5, a6] (.int x :: .ref o :: st) z h Q = (ni_okI (h o) x = true ∧ ni_T d 127 151 [a0, a1, a2, a3, a4, a5, a6] (.int (ni_gi (h o) x) :: st) z h Q) := ni_T_iald rfl
theorem s127_151 : ni_T d 127 151 [a0, a1, a2, a3, a4, .int x, a6] st z h Q = ni_T d 127 153 [a0, a1, a2, a3, a4, .int x, a6] (.int x :: st) z h Q := ni_T_p rfl rfl
theorem s127_153 : ni_T d 127 153 [a0, a1, a2, a3, a4, a5, a6] (.int y :: .int x :: st) z h Q = ni_T d 127 154 [a0, a1, a2, a3, a4, a5, a6] (.int (x - y) :: st) z h Q := ni_T_p rfl rfl
theorem s127_154 : ni_T d 127 154 [a0, a1, a2, a3, a4, a5, a6] (.int y :: .int x :: st) z h Q = if x ≤ y then ni_T d 127 164 [a0, a1, a2, a3, a4, a5, a6] st z h Q else ni_T d 127 157 [a0, a1, a2, a3, a4, a5, a6] st z h Q := ni_T_b rfl rfl
theorem s127_157 : ni_T d 127 157 [.ref o, a1, a2, a3, a4, a5, a6] st z h Q = ni_T d 127 158 [.ref o, a1, a2, a3, a4, a5, a6] (.ref o :: st) z h Q := ni_T_p rfl rfl
theorem s127_158 : ni_T d 127 158 [a0, a1, a2, a3, a4, a5, a6] st z h Q = ni_T d 127 160 [a0, a1, a2, a3, a4, a5, a6] (.int (-5) :: st) z h Q := ni_T_p rfl rfl
theorem s127_160 : ni_T (d + 1) 127 160 [a0, a1, a2, a3, a4, a5, a6] (.int x0 :: .ref o :: st) z h Q = (ni_rc (h o) 7 = true ∧ Nat.ble (ni_sw st) 8 = true ∧ ni_T d 120 0 [.ref o, .int x0] [] z h (ni_K (d + 1) 127 163 [a0, a1, a2, a3, a4, a5, a6] st z Q)) := ni_T_ce [.ref o, .int x0] rfl rfl rfl rfl rfl rfl rfl rfl rfl
theorem s127_163 : ni_T d 127 163 [a0, a1, a2, a3, a4, a5, a6] [.int x] z h Q = Q (some (.int x)) z h := ni_T_i rfl rfl
theorem s127_164 : ni_T d 127 164 [a0, a1, a2, a3, a4, a5, a6] st z h Q = ni_T d 127 165 [a0, a1, a2, a3, a4, a5, a6] (.int 0 :: st) z h Q := ni_T_p rfl rfl
theorem s127_165 : ni_T d 127 165 [a0, a1, a2, a3, a4, a5, a6] (.int x :: st) z h Q = ni_T d 127 167 [a0, a1, a2, a3, a4, ni_kl a5, .int x] st z h Q := ni_T_p rfl rfl
theorem s127_167 : ni_T d 127 167 [a0, a1, a2, a3, a4, a5, .int x] st z h Q = ni_T d 127 169 [a0, a1, a2, a3, a4, a5, .int x] (.int x :: st) z h Q := ni_T_p rfl rfl
theorem s127_169 : ni_T d 127 169 [a0, a1, a2, a3, a4, .int x, a6] st z h Q = ni_T d 127 171 [a0, a1, a2, a3, a4, .int x, a6] (.int x :: st) z h Q := ni_T_p rfl rfl
theorem s127_171 : ni_T d 127 171 [a0, a1, a2, a3, a4, a5, a6] (.int y :: .int x :: st) z h Q = if y ≤ x then ni_T d 127 202 [a0, a1, a2, a3, a4, a5, a6] st z h Q else ni_T d 127 174 [a0, a1, a2, a3, a4, a5, a6] st z h Q := ni_T_b rfl rfl
theorem s127_174 : ni_T d 127 174 [.ref o, a1, a2, a3, a4, a5, a6] st z h Q = ni_T d 127 175 [.ref o, a1, a2, a3, a4, a5, a6] (.ref o :: st) z h Q := ni_T_p rfl rfl
theorem s127_175 : ni_T d 127 175 [a0, a1, a2, a3, a4, a5, a6] (.ref o :: st) z h Q = (ni_is (h o) 7 17 = true ∧ ni_T d 127 178 [a0, a1, a2, a3, a4, a5, a6] (ni_gv (h o) 17 :: st) z h Q) := ni_T_getf rfl
theorem s127_178 : ni_T d 127 178 [a0, a1, a2, a3, a4, a5, .int x] st z h Q = ni_T d 127 180 [a0, a1, a2, a3, a4, a5, .int x] (.int x :: st) z h Q := ni_T_p rfl rfl
theorem s127_180 : ni_T d 127 180 [.ref o, a1, a2, a3, a4, a5, a6] st z h Q = ni_T d 127 181 [.ref o, a1, a2, a3, a4, a5, a6] (.ref o :: st) z h Q := ni_T_p rfl rfl
theorem s127_181 : ni_T d 127 181 [a0, a1, a2, a3, a4, a5, a6] (.ref o :: st) z h Q = (ni_is (h o) 7 16 = true ∧ ni_T d 127 184 [a0, a1, a2, a3, a4, a5, a6] (ni_gv (h o) 16 :: st) z h Q) := ni_T_getf rfl
theorem s127_184 : ni_T d 127 184 [a0, a1, a2, a3, a4, a5, a6] st z h Q = ni_T d 127 187 [a0, a1, a2, a3, a4, a5, a6] (.int 160 :: st) z h Q := ni_T_p rfl rfl
theorem s127_187 : ni_T d 127 187 [a0, .int x, a2, a3, a4, a5, a6] st z h Q = ni_T d 127 188 [a0, .int x, a2, a3, a4, a5, a6] (.int x :: st) z h Q := ni_T_p rfl rfl
theorem s127_188 : ni_T d 127 188 [a0, a1, a2, a3, a4, a5, a6] (.int y :: .int x :: st) z h Q = ni_T d 127 189 [a0, a1, a2, a3, a4, a5, a6] (.int (x * y) :: st) z h Q := ni_T_p rfl rfl
theorem s127_189 : ni_T d 127 189 [a0, a1, a2, .int x, a4, a5, a6] st z h Q = ni_T d 127 190 [a0, a1, a2, .int x, a4, a5, a6] (.int x :: st) z h Q := ni_T_p rfl rfl
theorem s127_190 : ni_T d 127 190 [a0, a1, a2, a3, a4, a5, a6] (.int y :: .int x :: st) z h Q = ni_T d 127 191 [a0, a1, a2, a3, a4, a5, a6] (.int (x + y) :: st) z h Q := ni_T_p rfl rfl
theorem s127_191 : ni_T d 127 191 [a0, a1, a2, a3, a4, a5, .int x] st z h Q = ni_T d 127 193 [a0, a1, a2, a3, a4, a5, .int x] (.int x :: st) z h Q := ni_T_p rfl rfl
theorem s127_193 : ni_T d 127 193 [a0, a1, a2, a3, a4, a5, a6] (.int y :: .int x :: st) z h Q = ni_T d 127 194 [a0, a1, a2, a3, a4, a5, a6] (.int (x + y) :: st) z h Q := ni_T_p rfl rfl
theorem s127_194 : ni_T d 127 194 [a0, a1, a2, a3, a4, a5, a6] (.int x :: .ref o :: st) z h Q = (ni_okL (h o) x = true ∧ ni_T d 127 195 [a0, a1, a2, a3, a4, a5, a6] (.long (ni_gl (h o) x) :: st) z h Q) := ni_T_lald rfl
theorem s127_195 : ni_T d 127 195 [a0, a1, a2, a3, a4, a5, a6] (.long u :: .int x :: .ref o :: st) z h Q = (ni_okL (h o) x = true ∧ ni_T d 127 196 [a0, a1, a2, a3, a4, a5, a6] st z (ni_up h o (ni_pl (h o) x u)) Q) := ni_T_last rfl
theorem s127_196 : ni_T d 127 196 [a0, a1, a2, a3, a4, a5, .int x] st z h Q = ni_T d 127 199 [a0, a1, a2, a3, a4, ni_kl a5, .int (x + 1)] st z h Q := ni_T_p rfl rfl
theorem s127_199 : ni_T d 127 199 [a0, a1, a2, a3, a4, a5, a6] st z h Q = ni_T d 127 167 [a0, a1, a2, a3, a4, a5, a6] st z h Q := ni_T_p rfl rfl
theorem s127_202 : ni_T d 127 202 [a0, a1, a2, a3, a4, a5, a6] st z h Q = ni_T d 127 203 [a0, a1, a2, a3, a4, a5, a6] (.int 0 :: st) z h Q := ni_T_p rfl rfl
theorem s127_203 : ni_T d 127 203 [a0, a1, a2, a3, a4, a5, a6] (.int x :: st) z h Q = ni_T d 127 205 [a0, a1, a2, a3, a4, ni_kl a5, .int x] st z h Q := ni_T_p rfl rfl
theorem s127_205 : ni_T d 127 205 [a0, a1, a2, a3, a4, a5, .int x] st z h Q = ni_T d 127 207 [a0, a1, a2, a3, a4, a5, .int x] (.int x :: st) z h Q := ni_T_p rfl rfl
theorem s127_207 : ni_T d 127 207 [a0, a1, a2, a3, a4, .int x, a6] st z h Q = ni_T d 127 209 [a0, a1, a2, a3, a4, .int x, a6] (.int x :: st) z h Q := ni_T_p rfl rfl
theorem s127_209 : ni_T d 127 209 [a0, a1, a2, a3, a4, a5, a6] (.int y :: .int x :: st) z h Q = if y ≤ x then ni_T d 127 241 [a0, a1, a2, a3, a4, a5, a6] st z h Q else ni_T d 127 212 [a0, a1, a2, a3, a4, a5, a6] st z h Q := ni_T_b rfl rfl
theorem s127_212 : ni_T d 127 212 [.ref o, a1, a2, a3, a4, a5, a6] st z h Q = ni_T d 127 213 [.ref o, a1, a2, a3, a4, a5, a6] (.ref o :: st) z h Q := ni_T_p rfl rfl
theorem s127_213 : ni_T d 127 213 [a0, a1, a2, a3, a4, a5, a6] (.ref o :: st) z h Q = (ni_is (h o) 7 16 = true ∧ ni_T d 127 216 [a0, a1, a2, a3, a4, a5, a6] (ni_gv (h o) 16 :: st) z h Q) := ni_T_getf rfl
theorem s127_216 : ni_T d 127 216 [a0, a1, a2, a3, a4, a5, a6] st z h Q = ni_T d 127 219 [a0, a1, a2, a3, a4, a5, a6] (.int 160 :: st) z h Q := ni_T_p rfl rfl
theorem s127_219 : ni_T d 127 219 [a0, a1, .int x, a3, a4, a5, a6] st z h Q = ni_T d 127 220 [a0, a1, .int x, a3, a4, a5, a6] (.int x :: st) z h Q := ni_T_p rfl rfl
theorem s127_220 : ni_T d 127 220 [a0, a1, a2, a3, a4, a5, a6] (.int y :: .int x :: st) z h Q = ni_T d 127 221 [a0, a1, a2, a3, a4, a5, a6] (.int (x * y) :: st) z h Q := ni_T_p rfl rfl
theorem s127_221 : ni_T d 127 221 [a0, a1, a2, a3, .int x, a5, a6] st z h Q = ni_T d 127 223 [a0, a1, a2, a3, .int x, a5, a6] (.int x :: st) z h Q := ni_T_p rfl rfl
theorem s127_223 : ni_T d 127 223 [a0, a1, a2, a3, a4, a5, a6] (.int y :: .int x :: st) z h Q = ni_T d 127 224 [a0, a1, a2, a3, a4, a5, a6] (.int (x + y) :: st) z h Q := ni_T_p rfl rfl
theorem s127_224 : ni_T d 127 224 [a0, a1, a2, a3, a4, a5, .int x] st z h Q = ni_T d 127 226 [a0, a1, a2, a3, a4, a5, .int x] (.int x :: st) z h Q := ni_T_p rfl rfl
theorem s127_226 : ni_T d 127 226 [a0, a1, a2, a3, a4, a5, a6] (.int y :: .int x :: st) z h Q = ni_T d 127 227 [a0, a1, a2, a3, a4, a5, a6] (.int (x + y) :: st) z h Q := ni_T_p rfl rfl
theorem s127_227 : ni_T d 127 227 [.ref o, a1, a2, a3, a4, a5, a6] st z h Q = ni_T d 127 228 [.ref o, a1, a2, a3, a4, a5, a6] (.ref o :: st) z h Q := ni_T_p rfl rfl
theorem s127_228 : ni_T d 127 228 [a0, a1, a2, a3, a4, a5, a6] (.ref o :: st) z h Q = (ni_is (h o) 7 17 = true ∧ ni_T d 127 231 [a0, a1, a2, a3, a4, a5, a6] (ni_gv (h o) 17 :: st) z h Q) := ni_T_getf rfl
theorem s127_231 : ni_T d 127 231 [a0, a1, a2, a3, a4, a5, .int x] st z h Q = ni_T d 127 233 [a0, a1, a2, a3, a4, a5, .int x] (.int x :: st) z h Q := ni_T_p rfl rfl
theorem s127_233 : ni_T d 127 233 [a0, a1, a2, a3, a4, a5, a6] (.int x :: .ref o :: st) z h Q = (ni_okL (h o) x = true ∧ ni_T d 127 234 [a0, a1, a2, a3, a4, a5, a6] (.long (ni_gl (h o) x) :: st) z h Q) := ni_T_lald rfl
theorem s127_234 : ni_T d 127 234 [a0, a1, a2, a3, a4, a5, a6] (.long u :: .int x :: .ref o :: st) z h Q = (ni_okL (h o) x = true ∧ ni_T d 127 235 [a0, a1, a2, a3, a4, a5, a6] st z (ni_up h o (ni_pl (h o) x u)) Q) := ni_T_last rfl
theorem s127_235 : ni_T d 127 235 [a0, a1, a2, a3, a4, a5, .int x] st z h Q = ni_T d 127 238 [a0, a1, a2, a3, a4, ni_kl a5, .int (x + 1)] st z h Q := ni_T_p rfl rfl
theorem s127_238 : ni_T d 127 238 [a0, a1, a2, a3, a4, a5, a6] st z h Q = ni_T d 127 205 [a0, a1, a2, a3, a4, a5, a6] st z h Q := ni_T_p rfl rfl
theorem s127_241 : ni_T d 127 241 [a0, a1, a2, a3, a4, a5, a6] st z h Q = ni_T d 127 242 [a0, a1, a2, a3, a4, a5, a6] (.int 1 :: st) z h Q := ni_T_p rfl rfl
theorem s127_242 : ni_T d 127 242 [a0, a1, a2, a3, a4, a5, a6] [.int x] z h Q = Q (some (.int x)) z h := ni_T_i rfl rfl
theorem s128_0 : ni_T d 128 0 [.ref o, a1, a2] st z h Q = ni_T d 128 1 [.ref o, a1, a2] (.ref o :: st) z h Q := ni_T_p rfl rfl
theorem s128_1 : ni_T d 128 1 [a0, .int x, a2] st z h Q = ni_T d 128 2 [a0, .int x, a2] (.int x :: st) z h Q := ni_T_p rfl rfl
theorem s128_2 : ni_T (d + 1) 128 2 [a0, a1, a2] (.int x0 :: .ref o :: st) z h Q = (ni_rc (h o) 7 = true ∧ Nat.ble (ni_sw st) 8 = true ∧ ni_T d 122 0 [.ref o, .int x0] [] z h (ni_K (d + 1) 128 5 [a0, a1, a2] st z Q)) := ni_T_ce [.ref o, .int x0] rfl rfl rfl rfl rfl rfl rfl rfl rfl
theorem s128_5 : ni_T d 128 5 [a0, a1, a2] (.int x :: st) z h Q = if x = 0 then ni_T d 128 47 [a0, a1, a2] st z h Q else ni_T d 128 8 [a0, a1, a2] st z h Q := ni_T_b rfl rfl
theorem s128_8 : ni_T d 128 8 [.ref o, a1, a2] st z h Q = ni_T d 128 9 [.ref o, a1, a2] (.ref o :: st) z h Q := ni_T_p rfl rfl
theorem s128_9 : ni_T d 128 9 [a0, a1, a2] (.ref o :: st) z h Q = (ni_is (h o) 7 12 = true ∧ ni_T d 128 12 [a0, a1, a2] (ni_gv (h o) 12 :: st) z h Q) := ni_T_getf rfl
theorem s128_12 : ni_T d 128 12 [a0, .int x, a2] st z h Q = ni_T d 128 13 [a0, .int x, a2] (.int x :: st) z h Q := ni_T_p rfl rfl
theorem s128_13 : ni_T d 128 13 [a0, a1, a2] (.int x :: .ref o :: st) z h Q = (ni_okI (h o) x = true ∧ ni_T d 128 14 [a0, a1, a2] (.int (ni_gi (h o) x) :: st) z h Q) := ni_T_iald rfl
theorem s128_14 : ni_T d 128 14 [a0, a1, a2] st z h Q = ni_T d 128 15 [a0, a1, a2] (.int 1 :: st) z h Q := ni_T_p rfl rfl
theorem s128_15 : ni_T d 128 15 [a0, a1, a2] (.int y :: .int x :: st) z h Q = if x = y then ni_T d 128 18 [a0, a1, a2] st z h Q else ni_T d 128 47 [a0, a1, a2] st z h Q := ni_T_b rfl rfl
theorem s128_18 : ni_T d 128 18 [a0, a1, .int x] st z h Q = ni_T d 128 19 [a0, a1, .int x] (.int x :: st) z h Q := ni_T_p rfl rfl
theorem s128_19 : ni_T d 128 19 [a0, a1, a2] (.int x :: st) z h Q = if x < 0 then ni_T d 128 47 [a0, a1, a2] st z h Q else ni_T d 128 22 [a0, a1, a2] st z h Q := ni_T_b rfl rfl
theorem s128_22 : ni_T d 128 22 [a0, a1, .int x] st z h Q = ni_T d 128 23 [a0, a1, .int x] (.int x :: st) z h Q := ni_T_p rfl rfl
theorem s128_23 : ni_T d 128 23 [.ref o, a1, a2] st z h Q = ni_T d 128 24 [.ref o, a1, a2] (.ref o :: st) z h Q := ni_T_p rfl rfl
theorem s128_24 : ni_T d 128 24 [a0, a1, a2] (.ref o :: st) z h Q = (ni_is (h o) 7 14 = true ∧ ni_T d 128 27 [a0, a1, a2] (ni_gv (h o) 14 :: st) z h Q) := ni_T_getf rfl
theorem s128_27 : ni_T d 128 27 [a0, .int x, a2] st z h Q = ni_T d 128 28 [a0, .int x, a2] (.int x :: st) z h Q := ni_T_p rfl rfl
theorem s128_28 : ni_T d 128 28 [a0, a1, a2] (.int x :: .ref o :: st) z h Q = (ni_okI (h o) x = true ∧ ni_T d 128 29 [a0, a1, a2] (.int (ni_gi (h o) x) :: st) z h Q) := ni_T_iald rfl
theorem s128_29 : ni_T d 128 29 [a0, a1, a2] (.int y :: .int x :: st) z h Q = if y ≤ x then ni_T d 128 47 [a0, a1, a2] st z h Q else ni_T d 128 32 [a0, a1, a2] st z h Q := ni_T_b rfl rfl
theorem s128_32 : ni_T d 128 32 [.ref o, a1, a2] st z h Q = ni_T d 128 33 [.ref o, a1, a2] (.ref o :: st) z h Q := ni_T_p rfl rfl
theorem s128_33 : ni_T d 128 33 [a0, a1, a2] (.ref o :: st) z h Q = (ni_is (h o) 7 16 = true ∧ ni_T d 128 36 [a0, a1, a2] (ni_gv (h o) 16 :: st) z h Q) := ni_T_getf rfl
theorem s128_36 : ni_T d 128 36 [a0, a1, a2] st z h Q = ni_T d 128 39 [a0, a1, a2] (.int 160 :: st) z h Q := ni_T_p rfl rfl
theorem s128_39 : ni_T d 128 39 [a0, .int x, a2] st z h Q = ni_T d 128 40 [a0, .int x, a2] (.int x :: st) z h Q := ni_T_p rfl rfl
theorem s128_40 : ni_T d 128 40 [a0, a1, a2] (.int y :: .int x :: st) z h Q = ni_T d 128 41 [a0, a1, a2] (.int (x * y) :: st) z h Q := ni_T_p rfl rfl
theorem s128_41 : ni_T d 128 41 [a0, a1, .int x] st z h Q = ni_T d 128 42 [a0, a1, .int x] (.int x :: st) z h Q := ni_T_p rfl rfl
theorem s128_42 : ni_T d 128 42 [a0, a1, a2] (.int y :: .int x :: st) z h Q = ni_T d 128 43 [a0, a1, a2] (.int (x + y) :: st) z h Q := ni_T_p rfl rfl
theorem s128_43 : ni_T d 128 43 [a0, a1, a2] (.int x :: .ref o :: st) z h Q = (ni_okL (h o) x = true ∧ ni_T d 128 44 [a0, a1, a2] (.long (ni_gl (h o) x) :: st) z h Q) := ni_T_lald rfl
theorem s128_44 : ni_T d 128 44 [a0, a1, a2] st z h Q = ni_T d 128 48 [a0, a1, a2] st z h Q := ni_T_p rfl rfl
theorem s128_47 : ni_T d 128 47 [a0, a1, a2] st z h Q = ni_T d 128 48 [a0, a1, a2] (.long 0 :: st) z h Q := ni_T_p rfl rfl
theorem s128_48 : ni_T d 128 48 [a0, a1, a2] [.long u] z h Q = Q (some (.long u)) z h := ni_T_l rfl rfl
theorem s129_0 : ni_T d 129 0 [.ref o, a1, a2] st z h Q = ni_T d 129 1 [.ref o, a1, a2] (.ref o :: st) z h Q := ni_T_p rfl rfl
theorem s129_1 : ni_T d 129 1 [a0, .int x, a2] st z h Q = ni_T d 129 2 [a0, .int x, a2] (.int x :: st) z h Q := ni_T_p rfl rfl
theorem s129_2 : ni_T (d + 1) 129 2 [a0, a1, a2] (.int x0 :: .ref o :: st) z h Q = (ni_rc (h o) 7 = true ∧ Nat.ble (ni_sw st) 8 = true ∧ ni_T d 122 0 [.ref o, .int x0] [] z h (ni_K (d + 1) 129 5 [a0, a1, a2] st z Q)) := ni_T_ce [.ref o, .int x0] rfl rfl rfl rfl rfl rfl rfl rfl rfl
theorem s129_5 : ni_T d 129 5 [a0, a1, a2] (.int x :: st) z h Q = if x = 0 then ni_T d 129 21 [a0, a1, a2] st z h Q else ni_T d 129 8 [a0, a1, a2] st z h Q := ni_T_b rfl rfl
theorem s129_8 : ni_T d 129 8 [a0, a1, .int x] st z h Q = ni_T d 129 9 [a0, a1, .int x] (.int x :: st) z h Q := ni_T_p rfl rfl
theorem s129_9 : ni_T d 129 9 [a0, a1, a2] st z h Q = ni_T d 129 10 [a0, a1, a2] (.int (-1) :: st) z h Q := ni_T_p rfl rfl
theorem s129_10 : ni_T d 129 10 [a0, a1, a2] (.int y :: .int x :: st) z h Q = if x = y then ni_T d 129 27 [a0, a1, a2] st z h Q else ni_T d 129 13 [a0, a1, a2] st z h Q := ni_T_b rfl rfl
theorem s129_13 : ni_T d 129 13 [.ref o, a1, a2] st z h Q = ni_T d 129 14 [.ref o, a1, a2] (.ref o :: st) z h Q := ni_T_p rfl rfl
theorem s129_14 : ni_T d 129 14 [a0, a1, .int x] st z h Q = ni_T d 129 15 [a0, a1, .int x] (.int x :: st) z h Q := ni_T_p rfl rfl
theorem s129_15 : ni_T (d + 1) 129 15 [a0, a1, a2] (.int x0 :: .ref o :: st) z h Q = (ni_rc (h o) 7 = true ∧ Nat.ble (ni_sw st) 8 = true ∧ ni_T d 123 0 [.ref o, .int x0] [] z h (ni_K (d + 1) 129 18 [a0, a1, a2] st z Q)) := ni_T_ce [.ref o, .int x0] rfl rfl rfl rfl rfl rfl rfl rfl rfl
theorem s129_18 : ni_T d 129 18 [a0, a1, a2] (.int x :: st) z h Q = if x = 0 then ni_T d 129 21 [a0, a1, a2] st z h Q else ni_T d 129 27 [a0, a1, a2] st z h Q := ni_T_b rfl rfl
theorem s129_21 : ni_T d 129 21 [.ref o, a1, a2] st z h Q = ni_T d 129 22 [.ref o, a1, a2] (.ref o :: st) z h Q := ni_T_p rfl rfl
theorem s129_22 : ni_T d 129 22 [a0, a1, a2] st z h Q = ni_T d 129 23 [a0, a1, a2] (.int (-1) :: st) z h Q := ni_T_p rfl rfl
theorem s129_23 : ni_T (d + 1) 129 23 [a0, a1, a2] (.int x0 :: .ref o :: st) z h Q = (ni_rc (h o) 7 = true ∧ Nat.ble (ni_sw st) 8 = true ∧ ni_T d 120 0 [.ref o, .int x0] [] z h (ni_K (d + 1) 129 26 [a0, a1, a2] st z Q)) := ni_T_ce [.ref o, .int x0] rfl rfl rfl rfl rfl rfl rfl rfl rfl
theorem s129_26 : ni_T d 129 26 [a0, a1, a2] [.int x] z h Q = Q (some (.int x)) z h := ni_T_i rfl rfl
theorem s129_27 : ni_T d 129 27 [.ref o, a1, a2] st z h Q = ni_T d 129 28 [.ref o, a1, a2] (.ref o :: st) z h Q := ni_T_p rfl rfl
theorem s129_28 : ni_T d 129 28 [a0, a1, a2] (.ref o :: st) z h Q = (ni_is (h o) 7 12 = true ∧ ni_T d 129 31 [a0, a1, a2] (ni_gv (h o) 12 :: st) z h Q) := ni_T_getf rfl
theorem s129_31 : ni_T d 129 31 [a0, .int x, a2] st z h Q = ni_T d 129 32 [a0, .int x, a2] (.int x :: st) z h Q := ni_T_p rfl rfl
theorem s129_32 : ni_T d 129 32 [a0, a1, .int x] st z h Q = ni_T d 129 33 [a0, a1, .int x] (.int x :: st) z h Q := ni_T_p rfl rfl
theorem s129_33 : ni_T d 129 33 [a0, a1, a2] st z h Q = ni_T d 129 34 [a0, a1, a2] (.int (-1) :: st) z h Q := ni_T_p rfl rfl
theorem s129_34 : ni_T d 129 34 [a0, a1, a2] (.int y :: .int x :: st) z h Q = if x = y then ni_T d 129 37 [a0, a1, a2] st z h Q else ni_T d 129 41 [a0, a1, a2] st z h Q := ni_T_b rfl rfl
theorem s129_37 : ni_T d 129 37 [a0, a1, a2] st z h Q = ni_T d 129 38 [a0, a1, a2] (.int 0 :: st) z h Q := ni_T_p rfl rfl
theorem s129_38 : ni_T d 129 38 [a0, a1, a2] st z h Q = ni_T d 129 42 [a0, a1, a2] st z h Q := ni_T_p rfl rfl
theorem s129_41 : ni_T d 129 41 [a0, a1, a2] st z h Q = ni_T d 129 42 [a0, a1, a2] (.int 2 :: st) z h Q := ni_T_p rfl rfl
theorem s129_42 : ni_T d 129 42 [a0, a1, a2] (.int y :: .int x :: .ref o :: st) z h Q = (ni_okS (h o) x = true ∧ ni_T d 129 43 [a0, a1, a2] st z (ni_up h o (ni_pi (h o) x y)) Q) := ni_T_iast rfl
theorem s129_43 : ni_T d 129 43 [.ref o, a1, a2] st z h Q = ni_T d 129 44 [.ref o, a1, a2] (.ref o :: st) z h Q := ni_T_p rfl rfl
theorem s129_44 : ni_T d 129 44 [a0, a1, a2] (.ref o :: st) z h Q = (ni_is (h o) 7 15 = true ∧ ni_T d 129 47 [a0, a1, a2] (ni_gv (h o) 15 :: st) z h Q) := ni_T_getf rfl
theorem s129_47 : ni_T d 129 47 [a0, .int x, a2] st z h Q = ni_T d 129 48 [a0, .int x, a2] (.int x :: st) z h Q := ni_T_p rfl rfl
theorem s129_48 : ni_T d 129 48 [a0, a1, .int x] st z h Q = ni_T d 129 49 [a0, a1, .int x] (.int x :: st) z h Q := ni_T_p rfl rfl
theorem s129_49 : ni_T d 129 49 [a0, a1, a2] (.int y :: .int x :: .ref o :: st) z h Q = (ni_okS (h o) x = true ∧ ni_T d 129 50 [a0, a1, a2] st z (ni_up h o (ni_pi (h o) x y)) Q) := ni_T_iast rfl
theorem s129_50 : ni_T d 129 50 [a0, a1, .int x] st z h Q = ni_T d 129 51 [a0, a1, .int x] (.int x :: st) z h Q := ni_T_p rfl rfl
theorem s129_51 : ni_T d 129 51 [a0, a1, a2] st z h Q = ni_T d 129 52 [a0, a1, a2] (.int (-1) :: st) z h Q := ni_T_p rfl rfl
theorem s129_52 : ni_T d 129 52 [a0, a1, a2] (.int y :: .int x :: st) z h Q = if x = y then ni_T d 129 55 [a0, a1, a2] st z h Q else ni_T d 129 59 [a0, a1, a2] st z h Q := ni_T_b rfl rfl
theorem s129_55 : ni_T d 129 55 [a0, a1, a2] st z h Q = ni_T d 129 56 [a0, a1, a2] (.int 0 :: st) z h Q := ni_T_p rfl rfl
theorem s129_56 : ni_T d 129 56 [a0, a1, a2] st z h Q = ni_T d 129 60 [a0, a1, a2] st z h Q := ni_T_p rfl rfl
theorem s129_59 : ni_T d 129 59 [a0, a1, a2] st z h Q = ni_T d 129 60 [a0, a1, a2] (.int 1 :: st) z h Q := ni_T_p rfl rfl
theorem s129_60 : ni_T d 129 60 [a0, a1, a2] [.int x] z h Q = Q (some (.int x)) z h := ni_T_i rfl rfl
theorem s130_0 : ni_T d 130 0 [.ref o, a1] st z h Q = ni_T d 130 1 [.ref o, a1] (.ref o :: st) z h Q := ni_T_p rfl rfl
theorem s130_1 : ni_T d 130 1 [a0, .int x] st z h Q = ni_T d 130 2 [a0, .int x] (.int x :: st) z h Q := ni_T_p rfl rfl
theorem s130_2 : ni_T (d + 1) 130 2 [a0, a1] (.int x0 :: .ref o :: st) z h Q = (ni_rc (h o) 7 = true ∧ Nat.ble (ni_sw st) 8 = true ∧ ni_T d 122 0 [.ref o, .int x0] [] z h (ni_K (d + 1) 130 5 [a0, a1] st z Q)) := ni_T_ce [.ref o, .int x0] rfl rfl rfl rfl rfl rfl rfl rfl rfl
theorem s130_5 : ni_T d 130 5 [a0, a1] (.int x :: st) z h Q = if x = 0 then ni_T d 130 17 [a0, a1] st z h Q else ni_T d 130 8 [a0, a1] st z h Q := ni_T_b rfl rfl
theorem s130_8 : ni_T d 130 8 [.ref o, a1] st z h Q = ni_T d 130 9 [.ref o, a1] (.ref o :: st) z h Q := ni_T_p rfl rfl
theorem s130_9 : ni_T d 130 9 [a0, a1] (.ref o :: st) z h Q = (ni_is (h o) 7 12 = true ∧ ni_T d 130 12 [a0, a1] (ni_gv (h o) 12 :: st) z h Q) := ni_T_getf rfl
theorem s130_12 : ni_T d 130 12 [a0, .int x] st z h Q = ni_T d 130 13 [a0, .int x] (.int x :: st) z h Q := ni_T_p rfl rfl
theorem s130_13 : ni_T d 130 13 [a0, a1] (.int x :: .ref o :: st) z h Q = (ni_okI (h o) x = true ∧ ni_T d 130 14 [a0, a1] (.int (ni_gi (h o) x) :: st) z h Q) := ni_T_iald rfl
theorem s130_14 : ni_T d 130 14 [a0, a1] (.int x :: st) z h Q = if x = 0 then ni_T d 130 17 [a0, a1] st z h Q else ni_T d 130 19 [a0, a1] st z h Q := ni_T_b rfl rfl
theorem s130_17 : ni_T d 130 17 [a0, a1] st z h Q = ni_T d 130 18 [a0, a1] (.int (-1) :: st) z h Q := ni_T_p rfl rfl
theorem s130_18 : ni_T d 130 18 [a0, a1] [.int x] z h Q = Q (some (.int x)) z h := ni_T_i rfl rfl
theorem s130_19 : ni_T d 130 19 [.ref o, a1] st z h Q = ni_T d 130 20 [.ref o, a1] (.ref o :: st) z h Q := ni_T_p rfl rfl
theorem s130_20 : ni_T d 130 20 [a0, a1] (.ref o :: st) z h Q = (ni_is (h o) 7 12 = true ∧ ni_T d 130 23 [a0, a1] (ni_gv (h o) 12 :: st) z h Q) := ni_T_getf rfl
theorem s130_23 : ni_T d 130 23 [a0, .int x] st z h Q = ni_T d 130 24 [a0, .int x] (.int x :: st) z h Q := ni_T_p rfl rfl
theorem s130_24 : ni_T d 130 24 [a0, a1] (.int x :: .ref o :: st) z h Q = (ni_okI (h o) x = true ∧ ni_T d 130 25 [a0, a1] (.int (ni_gi (h o) x) :: st) z h Q) := ni_T_iald rfl
theorem s130_25 : ni_T d 130 25 [a0, a1] st z h Q = ni_T d 130 26 [a0, a1] (.int 1 :: st) z h Q := ni_T_p rfl rfl
theorem s130_26 : ni_T d 130 26 [a0, a1] (.int y :: .int x :: st) z h Q = if x = y then ni_T d 130 29 [a0, a1] st z h Q else ni_T d 130 41 [a0, a1] st z h Q := ni_T_b rfl rfl
theorem s130_29 : ni_T d 130 29 [a0, a1] st z h Q = ni_T d 130 31 [a0, a1] (.int 100 :: st) z h Q := ni_T_p rfl rfl
theorem s130_31 : ni_T d 130 31 [.ref o, a1] st z h Q = ni_T d 130 32 [.ref o, a1] (.ref o :: st) z h Q := ni_T_p rfl rfl
theorem s130_32 : ni_T d 130 32 [a0, a1] (.ref o :: st) z h Q = (ni_is (h o) 7 13 = true ∧ ni_T d 130 35 [a0, a1] (ni_gv (h o) 13 :: st) z h Q) := ni_T_getf rfl
theorem s130_35 : ni_T d 130 35 [a0, .int x] st z h Q = ni_T d 130 36 [a0, .int x] (.int x :: st) z h Q := ni_T_p rfl rfl
theorem s130_36 : ni_T d 130 36 [a0, a1] (.int x :: .ref o :: st) z h Q = (ni_okI (h o) x = true ∧ ni_T d 130 37 [a0, a1] (.int (ni_gi (h o) x) :: st) z h Q) := ni_T_iald rfl
theorem s130_37 : ni_T d 130 37 [a0, a1] (.int y :: .int x :: st) z h Q = ni_T d 130 38 [a0, a1] (.int (x + y) :: st) z h Q := ni_T_p rfl rfl
theorem s130_38 : ni_T d 130 38 [a0, a1] st z h Q = ni_T d 130 47 [a0, a1] st z h Q := ni_T_p rfl rfl
theorem s130_41 : ni_T d 130 41 [.ref o, a1] st z h Q = ni_T d 130 42 [.ref o, a1] (.ref o :: st) z h Q := ni_T_p rfl rfl
theorem s130_42 : ni_T d 130 42 [a0, a1] (.ref o :: st) z h Q = (ni_is (h o) 7 15 = true ∧ ni_T d 130 45 [a0, a1] (ni_gv (h o) 15 :: st) z h Q) := ni_T_getf rfl
theorem s130_45 : ni_T d 130 45 [a0, .int x] st z h Q = ni_T d 130 46 [a0, .int x] (.int x :: st) z h Q := ni_T_p rfl rfl
theorem s130_46 : ni_T d 130 46 [a0, a1] (.int x :: .ref o :: st) z h Q = (ni_okI (h o) x = true ∧ ni_T d 130 47 [a0, a1] (.int (ni_gi (h o) x) :: st) z h Q) := ni_T_iald rfl
theorem s130_47 : ni_T d 130 47 [a0, a1] [.int x] z h Q = Q (some (.int x)) z h := ni_T_i rfl rfl
theorem s131_0 : ni_T d 131 0 [.ref o, a1, a2, a3, a4, a5] st z h Q = ni_T d 131 1 [.ref o, a1, a2, a3, a4, a5] (.ref o :: st) z h Q := ni_T_p rfl rfl
theorem s131_1 : ni_T d 131 1 [a0, .int x, a2, a3, a4, a5] st z h Q = ni_T d 131 2 [a0, .int x, a2, a3, a4, a5] (.int x :: st) z h Q := ni_T_p rfl rfl
theorem s131_2 : ni_T (d + 1) 131 2 [a0, a1, a2, a3, a4, a5] (.int x0 :: .ref o :: st) z h Q = (ni_rc (h o) 7 = true ∧ Nat.ble (ni_sw st) 8 = true ∧ ni_T d 122 0 [.ref o, .int x0] [] z h (ni_K (d + 1) 131 5 [a0, a1, a2, a3, a4, a5] st z Q)) := ni_T_ce [.ref o, .int x0] rfl rfl rfl rfl rfl rfl rfl rfl rfl
theorem s131_5 : ni_T d 131 5 [a0, a1, a2, a3, a4, a5] (.int x :: st) z h Q = if x = 0 then ni_T d 131 18 [a0, a1, a2, a3, a4, a5] st z h Q else ni_T d 131 8 [a0, a1, a2, a3, a4, a5] st z h Q := ni_T_b rfl rfl
theorem s131_8 : ni_T d 131 8 [a0, a1, .int x, a3, a4, a5] st z h Q = ni_T d 131 9 [a0, a1, .int x, a3, a4, a5] (.int x :: st) z h Q := ni_T_p rfl rfl
theorem s131_9 : ni_T d 131 9 [a0, a1, a2, a3, a4, a5] (.int x :: st) z h Q = if x < 0 then ni_T d 131 18 [a0, a1, a2, a3, a4, a5] st z h Q else ni_T d 131 12 [a0, a1, a2, a3, a4, a5] st z h Q := ni_T_b rfl rfl
theorem s131_12 : ni_T d 131 12 [a0, a1, .int x, a3, a4, a5] st z h Q = ni_T d 131 13 [a0, a1, .int x, a3, a4, a5] (.int x :: st) z h Q := ni_T_p rfl rfl
theorem s131_13 : ni_T d 131 13 [a0, a1, a2, a3, a4, a5] st z h Q = ni_T d 131 15 [a0, a1, a2, a3, a4, a5] (.int 6 :: st) z h Q := ni_T_p rfl rfl
theorem s131_15 : ni_T d 131 15 [a0, a1, a2, a3, a4, a5] (.int y :: .int x :: st) z h Q = if x ≤ y then ni_T d 131 24 [a0, a1, a2, a3, a4, a5] st z h Q else ni_T d 131 18 [a0, a1, a2, a3, a4, a5] st z h Q := ni_T_b rfl rfl
theorem s131_18 : ni_T d 131 18 [.ref o, a1, a2, a3, a4, a5] st z h Q = ni_T d 131 19 [.ref o, a1, a2, a3, a4, a5] (.ref o :: st) z h Q := ni_T_p rfl rfl
theorem s131_19 : ni_T d 131 19 [a0, a1, a2, a3, a4, a5] st z h Q = ni_T d 131 20 [a0, a1, a2, a3, a4, a5] (.int (-1) :: st) z h Q := ni_T_p rfl rfl
theorem s131_20 : ni_T (d + 1) 131 20 [a0, a1, a2, a3, a4, a5] (.int x0 :: .ref o :: st) z h Q = (ni_rc (h o) 7 = true ∧ Nat.ble (ni_sw st) 8 = true ∧ ni_T d 120 0 [.ref o, .int x0] [] z h (ni_K (d + 1) 131 23 [a0, a1, a2, a3, a4, a5] st z Q)) := ni_T_ce [.ref o, .int x0] rfl rfl rfl rfl rfl rfl rfl rfl rfl
theorem s131_23 : ni_T d 131 23 [a0, a1, a2, a3, a4, a5] [.int x] z h Q = Q (some (.int x)) z h := ni_T_i rfl rfl
theorem s131_24 : ni_T d 131 24 [.ref o, a1, a2, a3, a4, a5] st z h Q = ni_T d 131 25 [.ref o, a1, a2, a3, a4, a5] (.ref o :: st) z h Q := ni_T_p rfl rfl
theorem s131_25 : ni_T d 131 25 [a0, a1, a2, a3, a4, a5] (.ref o :: st) z h Q = (ni_is (h o) 7 12 = true ∧ ni_T d 131 28 [a0, a1, a2, a3, a4, a5] (ni_gv (h o) 12 :: st) z h Q) := ni_T_getf rfl
theorem s131_28 : ni_T d 131 28 [a0, .int x, a2, a3, a4, a5] st z h Q = ni_T d 131 29 [a0, .int x, a2, a3, a4, a5] (.int x :: st) z h Q := ni_T_p rfl rfl
theorem s131_29 : ni_T d 131 29 [a0, a1, a2, a3, a4, a5] (.int x :: .ref o :: st) z h Q = (ni_okI (h o) x = true ∧ ni_T d 131 30 [a0, a1, a2, a3, a4, a5] (.int (ni_gi (h o) x) :: st) z h Q) := ni_T_iald rfl
theorem s131_30 : ni_T d 131 30 [a0, a1, a2, a3, a4, a5] st z h Q = ni_T d 131 31 [a0, a1, a2, a3, a4, a5] (.int 1 :: st) z h Q := ni_T_p rfl rfl
theorem s131_31 : ni_T d 131 31 [a0, a1, a2, a3, a4, a5] (.int y :: .int x :: st) z h Q = if x = y then ni_T d 131 34 [a0, a1, a2, a3, a4, a5] st z h Q else ni_T d 131 41 [a0, a1, a2, a3, a4, a5] st z h Q := ni_T_b rfl rfl
theorem s131_34 : ni_T d 131 34 [.ref o, a1, a2, a3, a4, a5] st z h Q = ni_T d 131 35 [.ref o, a1, a2, a3, a4, a5] (.ref o :: st) z h Q := ni_T_p rfl rfl
theorem s131_35 : ni_T d 131 35 [a0, a1, a2, a3, a4, a5] st z h Q = ni_T d 131 37 [a0, a1, a2, a3, a4, a5] (.int (-2) :: st) z h Q := ni_T_p rfl rfl
theorem s131_37 : ni_T (d + 1) 131 37 [a0, a1, a2, a3, a4, a5] (.int x0 :: .ref o :: st) z h Q = (ni_rc (h o) 7 = true ∧ Nat.ble (ni_sw st) 8 = true ∧ ni_T d 120 0 [.ref o, .int x0] [] z h (ni_K (d + 1) 131 40 [a0, a1, a2, a3, a4, a5] st z Q)) := ni_T_ce [.ref o, .int x0] rfl rfl rfl rfl rfl rfl rfl rfl rfl
theorem s131_40 : ni_T d 131 40 [a0, a1, a2, a3, a4, a5] [.int x] z h Q = Q (some (.int x)) z h := ni_T_i rfl rfl
theorem s131_41 : ni_T d 131 41 [.ref o, a1, a2, a3, a4, a5] st z h Q = ni_T d 131 42 [.ref o, a1, a2, a3, a4, a5] (.ref o :: st) z h Q := ni_T_p rfl rfl
theorem s131_42 : ni_T d 131 42 [a0, a1, a2, a3, a4, a5] (.ref o :: st) z h Q = (ni_is (h o) 7 12 = true ∧ ni_T d 131 45 [a0, a1, a2, a3, a4, a5] (ni_gv (h o) 12 :: st) z h Q) := ni_T_getf rfl
theorem s131_45 : ni_T d 131 45 [a0, .int x, a2, a3, a4, a5] st z h Q = ni_T d 131 46 [a0, .int x, a2, a3, a4, a5] (.int x :: st) z h Q := ni_T_p rfl rfl
theorem s131_46 : ni_T d 131 46 [a0, a1, a2, a3, a4, a5] (.int x :: .ref o :: st) z h Q = (ni_okI (h o) x = true ∧ ni_T d 131 47 [a0, a1, a2, a3, a4, a5] (.int (ni_gi (h o) x) :: st) z h Q) := ni_T_iald rfl
theorem s131_47 : ni_T d 131 47 [a0, a1, a2, a3, a4, a5] (.int x :: st) z h Q = if x = 0 then ni_T d 131 50 [a0, a1, a2, a3, a4, a5] st z h Q else ni_T d 131 57 [a0, a1, a2, a3, a4, a5] st z h Q := ni_T_b rfl rfl
theorem s131_50 : ni_T d 131 50 [.ref o, a1, a2, a3, a4, a5] st z h Q = ni_T d 131 51 [.ref o, a1, a2, a3, a4, a5] (.ref o :: st) z h Q := ni_T_p rfl rfl
theorem s131_51 : ni_T d 131 51 [a0, a1, a2, a3, a4, a5] st z h Q = ni_T d 131 53 [a0, a1, a2, a3, a4, a5] (.int (-3) :: st) z h Q := ni_T_p rfl rfl
theorem s131_53 : ni_T (d + 1) 131 53 [a0, a1, a2, a3, a4, a5] (.int x0 :: .ref o :: st) z h Q = (ni_rc (h o) 7 = true ∧ Nat.ble (ni_sw st) 8 = true ∧ ni_T d 120 0 [.ref o, .int x0] [] z h (ni_K (d + 1) 131 56 [a0, a1, a2, a3, a4, a5] st z Q)) := ni_T_ce [.ref o, .int x0] rfl rfl rfl rfl rfl rfl rfl rfl rfl
theorem s131_56 : ni_T d 131 56 [a0, a1, a2, a3, a4, a5] [.int x] z h Q = Q (some (.int x)) z h := ni_T_i rfl rfl
theorem s131_57 : ni_T d 131 57 [.ref o, a1, a2, a3, a4, a5] st z h Q = ni_T d 131 58 [.ref o, a1, a2, a3, a4, a5] (.ref o :: st) z h Q := ni_T_p rfl rfl
theorem s131_58 : ni_T d 131 58 [a0, a1, a2, a3, a4, a5] (.ref o :: st) z h Q = (ni_is (h o) 7 15 = true ∧ ni_T d 131 61 [a0, a1, a2, a3, a4, a5] (ni_gv (h o) 15 :: st) z h Q) := ni_T_getf rfl
theorem s131_61 : ni_T d 131 61 [a0, .int x, a2, a3, a4, a5] st z h Q = ni_T d 131 62 [a0, .int x, a2, a3, a4, a5] (.int x :: st) z h Q := ni_T_p rfl rfl
theorem s131_62 : ni_T d 131 62 [a0, a1, a2, a3, a4, a5] (.int x :: .ref o :: st) z h Q = (ni_okI (h o) x = true ∧ ni_T d 131 63 [a0, a1, a2, a3, a4, a5] (.int (ni_gi (h o) x) :: st) z h Q) := ni_T_iald rfl
theorem s131_63 : ni_T d 131 63 [a0, a1, a2, a3, a4, a5] (.int x :: st) z h Q = ni_T d 131 64 [a0, a1, ni_kl a2, .int x, a4, a5] st z h Q := ni_T_p rfl rfl
theorem s131_64 : ni_T d 131 64 [.ref o, a1, a2, a3, a4, a5] st z h Q = ni_T d 131 65 [.ref o, a1, a2, a3, a4, a5] (.ref o :: st) z h Q := ni_T_p rfl rfl
theorem s131_65 : ni_T d 131 65 [a0, a1, a2, a3, a4, a5] (.ref o :: st) z h Q = (ni_is (h o) 7 6 = true ∧ ni_T d 131 68 [a0, a1, a2, a3, a4, a5] (ni_gv (h o) 6 :: st) z h Q) := ni_T_getf rfl
theorem s131_68 : ni_T d 131 68 [a0, a1, a2, .int x, a4, a5] st z h Q = ni_T d 131 69 [a0, a1, a2, .int x, a4, a5] (.int x :: st) z h Q := ni_T_p rfl rfl
theorem s131_69 : ni_T d 131 69 [a0, a1, a2, a3, a4, a5] (.int x :: .ref o :: st) z h Q = (ni_okI (h o) x = true ∧ ni_T d 131 70 [a0, a1, a2, a3, a4, a5] (.int (ni_gi (h o) x) :: st) z h Q) := ni_T_iald rfl
theorem s131_70 : ni_T d 131 70 [a0, a1, a2, a3, a4, a5] (.int x :: st) z h Q = ni_T d 131 72 [a0, a1, a2, ni_kl a3, .int x, a5] st z h Q := ni_T_p rfl rfl
theorem s131_72 : ni_T d 131 72 [a0, a1, .int x, a3, a4, a5] st z h Q = ni_T d 131 73 [a0, a1, .int x, a3, a4, a5] (.int x :: st) z h Q := ni_T_p rfl rfl
theorem s131_73 : ni_T d 131 73 [a0, a1, a2, a3, a4, a5] st z h Q = ni_T d 131 74 [a0, a1, a2, a3, a4, a5] (.int 1 :: st) z h Q := ni_T_p rfl rfl
theorem s131_74 : ni_T d 131 74 [a0, a1, a2, a3, a4, a5] (.int y :: .int x :: st) z h Q = if x = y then ni_T d 131 77 [a0, a1, a2, a3, a4, a5] st z h Q else ni_T d 131 83 [a0, a1, a2, a3, a4, a5] st z h Q := ni_T_b rfl rfl
theorem s131_77 : ni_T d 131 77 [a0, a1, a2, a3, .int x, a5] st z h Q = ni_T d 131 79 [a0, a1, a2, a3, .int x, a5] (.int x :: st) z h Q := ni_T_p rfl rfl
theorem s131_79 : ni_T d 131 79 [a0, a1, a2, a3, a4, a5] st z h Q = ni_T d 131 80 [a0, a1, a2, a3, a4, a5] (.int 5 :: st) z h Q := ni_T_p rfl rfl
theorem s131_80 : ni_T d 131 80 [a0, a1, a2, a3, a4, a5] (.int y :: .int x :: st) z h Q = if x = y then ni_T d 131 106 [a0, a1, a2, a3, a4, a5] st z h Q else ni_T d 131 83 [a0, a1, a2, a3, a4, a5] st z h Q := ni_T_b rfl rfl
theorem s131_83 : ni_T d 131 83 [a0, a1, .int x, a3, a4, a5] st z h Q = ni_T d 131 84 [a0, a1, .int x, a3, a4, a5] (.int x :: st) z h Q := ni_T_p rfl rfl
theorem s131_84 : ni_T d 131 84 [a0, a1, a2, a3, a4, a5] st z h Q = ni_T d 131 85 [a0, a1, a2, a3, a4, a5] (.int 2 :: st) z h Q := ni_T_p rfl rfl
theorem s131_85 : ni_T d 131 85 [a0, a1, a2, a3, a4, a5] (.int y :: .int x :: st) z h Q = if x = y then ni_T d 131 88 [a0, a1, a2, a3, a4, a5] st z h Q else ni_T d 131 94 [a0, a1, a2, a3, a4, a5] st z h Q := ni_T_b rfl rfl
theorem s131_88 : ni_T d 131 88 [a0, a1, a2, a3, .int x, a5] st z h Q = ni_T d 131 90 [a0, a1, a2, a3, .int x, a5] (.int x :: st) z h Q := ni_T_p rfl rfl
theorem s131_90 : ni_T d 131 90 [a0, a1, a2, a3, a4, a5] st z h Q = ni_T d 131 91 [a0, a1, a2, a3, a4, a5] (.int 3 :: st) z h Q := ni_T_p rfl rfl
theorem s131_91 : ni_T d 131 91 [a0, a1, a2, a3, a4, a5] (.int y :: .int x :: st) z h Q = if x = y then ni_T d 131 106 [a0, a1, a2, a3, a4, a5] st z h Q else ni_T d 131 94 [a0, a1, a2, a3, a4, a5] st z h Q := ni_T_b rfl rfl
theorem s131_94 : ni_T d 131 94 [a0, a1, .int x, a3, a4, a5] st z h Q = ni_T d 131 95 [a0, a1, .int x, a3, a4, a5] (.int x :: st) z h Q := ni_T_p rfl rfl
theorem s131_95 : ni_T d 131 95 [a0, a1, a2, a3, a4, a5] st z h Q = ni_T d 131 96 [a0, a1, a2, a3, a4, a5] (.int 4 :: st) z h Q := ni_T_p rfl rfl
theorem s131_96 : ni_T d 131 96 [a0, a1, a2, a3, a4, a5] (.int y :: .int x :: st) z h Q = if x = y then ni_T d 131 99 [a0, a1, a2, a3, a4, a5] st z h Q else ni_T d 131 110 [a0, a1, a2, a3, a4, a5] st z h Q := ni_T_b rfl rfl
theorem s131_99 : ni_T d 131 99 [a0, a1, a2, a3, .int x, a5] st z h Q = ni_T d 131 101 [a0, a1, a2, a3, .int x, a5] (.int x :: st) z h Q := ni_T_p rfl rfl
theorem s131_101 : ni_T d 131 101 [a0, a1, a2, a3, a4, a5] st z h Q = ni_T d 131 103 [a0, a1, a2, a3, a4, a5] (.int 6 :: st) z h Q := ni_T_p rfl rfl
theorem s131_103 : ni_T d 131 103 [a0, a1, a2, a3, a4, a5] (.int y :: .int x :: st) z h Q = if x = y then ni_T d 131 106 [a0, a1, a2, a3, a4, a5] st z h Q else ni_T d 131 110 [a0, a1, a2, a3, a4, a5] st z h Q := ni_T_b rfl rfl
theorem s131_106 : ni_T d 131 106 [a0, a1, a2, a3, a4, a5] st z h Q = ni_T d 131 107 [a0, a1, a2, a3, a4, a5] (.int 1 :: st) z h Q := ni_T_p rfl rfl
theorem s131_107 : ni_T d 131 107 [a0, a1, a2, a3, a4, a5] st z h Q = ni_T d 131 111 [a0, a1, a2, a3, a4, a5] st z h Q := ni_T_p rfl rfl
theorem s131_110 : ni_T d 131 110 [a0, a1, a2, a3, a4, a5] st z h Q = ni_T d 131 111 [a0, a1, a2, a3, a4, a5] (.int 0 :: st) z h Q := ni_T_p rfl rfl
theorem s131_111 : ni_T d 131 111 [a0, a1, a2, a3, a4, a5] (.int x :: st) z h Q = ni_T d 131 113 [a0, a1, a2, a3, ni_kl a4, .int x] st z h Q := ni_T_p rfl rfl
theorem s131_113 : ni_T d 131 113 [a0, a1, .int x, a3, a4, a5] st z h Q = ni_T d 131 114 [a0, a1, .int x, a3, a4, a5] (.int x :: st) z h Q := ni_T_p rfl rfl
theorem s131_114 : ni_T d 131 114 [a0, a1, a2, a3, a4, a5] (.int x :: st) z h Q = if x = 0 then ni_T d 131 135 [a0, a1, a2, a3, a4, a5] st z h Q else ni_T d 131 117 [a0, a1, a2, a3, a4, a5] st z h Q := ni_T_b rfl rfl
theorem s131_117 : ni_T d 131 117 [a0, a1, .int x, a3, a4, a5] st z h Q = ni_T d 131 118 [a0, a1, .int x, a3, a4, a5] (.int x :: st) z h Q := ni_T_p rfl rfl
theorem s131_118 : ni_T d 131 118 [a0, a1, a2, a3, .int x, a5] st z h Q = ni_T d 131 120 [a0, a1, a2, a3, .int x, a5] (.int x :: st) z h Q := ni_T_p rfl rfl
theorem s131_120 : ni_T d 131 120 [a0, a1, a2, a3, a4, a5] (.int y :: .int x :: st) z h Q = if x = y then ni_T d 131 135 [a0, a1, a2, a3, a4, a5] st z h Q else ni_T d 131 123 [a0, a1, a2, a3, a4, a5] st z h Q := ni_T_b rfl rfl
theorem s131_123 : ni_T d 131 123 [a0, a1, a2, a3, a4, .int x] st z h Q = ni_T d 131 125 [a0, a1, a2, a3, a4, .int x] (.int x :: st) z h Q := ni_T_p rfl rfl
theorem s131_125 : ni_T d 131 125 [a0, a1, a2, a3, a4, a5] (.int x :: st) z h Q = if x = 0 then ni_T d 131 128 [a0, a1, a2, a3, a4, a5] st z h Q else ni_T d 131 135 [a0, a1, a2, a3, a4, a5] st z h Q := ni_T_b rfl rfl
theorem s131_128 : ni_T d 131 128 [.ref o, a1, a2, a3, a4, a5] st z h Q = ni_T d 131 129 [.ref o, a1, a2, a3, a4, a5] (.ref o :: st) z h Q := ni_T_p rfl rfl
theorem s131_129 : ni_T d 131 129 [a0, a1, a2, a3, a4, a5] st z h Q = ni_T d 131 131 [a0, a1, a2, a3, a4, a5] (.int (-2) :: st) z h Q := ni_T_p rfl rfl
theorem s131_131 : ni_T (d + 1) 131 131 [a0, a1, a2, a3, a4, a5] (.int x0 :: .ref o :: st) z h Q = (ni_rc (h o) 7 = true ∧ Nat.ble (ni_sw st) 8 = true ∧ ni_T d 120 0 [.ref o, .int x0] [] z h (ni_K (d + 1) 131 134 [a0, a1, a2, a3, a4, a5] st z Q)) := ni_T_ce [.ref o, .int x0] rfl rfl rfl rfl rfl rfl rfl rfl rfl
theorem s131_134 : ni_T d 131 134 [a0, a1, a2, a3, a4, a5] [.int x] z h Q = Q (some (.int x)) z h := ni_T_i rfl rfl
theorem s131_135 : ni_T d 131 135 [a0, a1, .int x, a3, a4, a5] st z h Q = ni_T d 131 136 [a0, a1, .int x, a3, a4, a5] (.int x :: st) z h Q := ni_T_p rfl rfl
theorem s131_136_0 : ni_T d 131 136 [a0, a1, a2, a3, a4, a5] (.int 0 :: st) z h Q = ni_T d 131 180 [a0, a1, a2, a3, a4, a5] st z h Q := ni_T_p rfl rfl
theorem s131_136_1 : ni_T d 131 136 [a0, a1, a2, a3, a4, a5] (.int 1 :: st) z h Q = ni_T d 131 187 [a0, a1, a2, a3, a4, a5] st z h Q := ni_T_p rfl rfl
theorem s131_136_2 : ni_T d 131 136 [a0, a1, a2, a3, a4, a5] (.int 2 :: st) z h Q = ni_T d 131 193 [a0, a1, a2, a3, a4, a5] st z h Q := ni_T_p rfl rfl
theorem s131_136_3 : ni_T d 131 136 [a0, a1, a2, a3, a4, a5] (.int 3 :: st) z h Q = ni_T d 131 207 [a0, a1, a2, a3, a4, a5] st z h Q := ni_T_p rfl rfl
theorem s131_136_4 : ni_T d 131 136 [a0, a1, a2, a3, a4, a5] (.int 4 :: st) z h Q = ni_T d 131 207 [a0, a1, a2, a3, a4, a5] st z h Q := ni_T_p rfl rfl
theorem s131_136_5 : ni_T d 131 136 [a0, a1, a2, a3, a4, a5] (.int 5 :: st) z h Q = ni_T d 131 207 [a0, a1, a2, a3, a4, a5] st z h Q := ni_T_p rfl rfl
theorem s131_136_6 : ni_T d 131 136 [a0, a1, a2, a3, a4, a5] (.int 6 :: st) z h Q = ni_T d 131 200 [a0, a1, a2, a3, a4, a5] st z h Q := ni_T_p rfl rfl
theorem s131_136_d (hx : x.toInt < 0 ∨ 6 < x.toInt) : ni_T d 131 136 [a0, a1, a2, a3, a4, a5] (.int x :: st) z h Q = ni_T d 131 207 [a0, a1, a2, a3, a4, a5] st z h Q := ni_T_tsw rfl hx (by decide) rfl
theorem s131_180 : ni_T d 131 180 [.ref o, a1, a2, a3, a4, a5] st z h Q = ni_T d 131 181 [.ref o, a1, a2, a3, a4, a5] (.ref o :: st) z h Q := ni_T_p rfl rfl
theorem s131_181 : ni_T d 131 181 [a0, a1, a2, a3, a4, a5] (.ref o :: st) z h Q = (ni_is (h o) 7 10 = true ∧ ni_T d 131 184 [a0, a1, a2, a3, a4, a5] (ni_gv (h o) 10 :: st) z h Q) := ni_T_getf rfl
theorem s131_184 : ni_T d 131 184 [a0, a1, a2, .int x, a4, a5] st z h Q = ni_T d 131 185 [a0, a1, a2, .int x, a4, a5] (.int x :: st) z h Q := ni_T_p rfl rfl
theorem s131_185 : ni_T d 131 185 [a0, a1, a2, a3, a4, a5] (.int x :: .ref o :: st) z h Q = (ni_okI (h o) x = true ∧ ni_T d 131 186 [a0, a1, a2, a3, a4, a5] (.int (ni_gi (h o) x) :: st) z h Q) := ni_T_iald rfl
theorem s131_186 : ni_T d 131 186 [a0, a1, a2, a3, a4, a5] [.int x] z h Q = Q (some (.int x)) z h := ni_T_i rfl rfl
theorem s131_187 : ni_T d 131 187 [.ref o, a1, a2, a3, a4, a5] st z h Q = ni_T d 131 188 [.ref o, a1, a2, a3, a4, a5] (.ref o :: st) z h Q := ni_T_p rfl rfl
theorem s131_188 : ni_T d 131 188 [a0, a1, a2, .int x, a4, a5] st z h Q = ni_T d 131 189 [a0, a1, a2, .int x, a4, a5] (.int x :: st) z h Q := ni_T_p rfl rfl
theorem s131_189 : ni_T (d + 1) 131 189 [a0, a1, a2, a3, a4, a5] (.int x0 :: .ref o :: st) z h Q = (ni_rc (h o) 7 = true ∧ Nat.ble (ni_sw st) 8 = true ∧ ni_T d 162 0 [.ref o, .int x0] [] z h (ni_K (d + 1) 131 192 [a0, a1, a2, a3, a4, a5] st z Q)) := ni_T_ce [.ref o, .int x0] rfl rfl rfl rfl rfl rfl rfl rfl rfl
theorem s131_192 : ni_T d 131 192 [a0, a1, a2, a3, a4, a5] [.int x] z h Q = Q (some (.int x)) z h := ni_T_i rfl rfl
theorem s131_193 : ni_T d 131 193 [.ref o, a1, a2, a3, a4, a5] st z h Q = ni_T d 131 194 [.ref o, a1, a2, a3, a4, a5] (.ref o :: st) z h Q := ni_T_p rfl rfl
theorem s131_194 : ni_T d 131 194 [a0, a1, a2, .int x, a4, a5] st z h Q = ni_T d 131 195 [a0, a1, a2, .int x, a4, a5] (.int x :: st) z h Q := ni_T_p rfl rfl
theorem s131_195 : ni_T d 131 195 [a0, a1, a2, a3, a4, a5] st z h Q = ni_T d 131 196 [a0, a1, a2, a3, a4, a5] (.int 5 :: st) z h Q := ni_T_p rfl rfl
theorem s131_196 : ni_T (d + 1) 131 196 [a0, a1, a2, a3, a4, a5] (.int x1 :: .int x0 :: .ref o :: st) z h Q = (ni_rc (h o) 7 = true ∧ Nat.ble (ni_sw st) 8 = true ∧ ni_T d 160 0 [.ref o, .int x0, .int x1, .retAddr 0, .retAddr 0] [] z h (ni_K (d + 1) 131 199 [a0, a1, a2, a3, a4, a5] st z Q)) := ni_T_ce [.ref o, .int x0, .int x1] rfl rfl rfl rfl rfl rfl rfl rfl rfl
theorem s131_199 : ni_T d 131 199 [a0, a1, a2, a3, a4, a5] [.int x] z h Q = Q (some (.int x)) z h := ni_T_i rfl rfl
theorem s131_200 : ni_T d 131 200 [.ref o, a1, a2, a3, a4, a5] st z h Q = ni_T d 131 201 [.ref o, a1, a2, a3, a4, a5] (.ref o :: st) z h Q := ni_T_p rfl rfl
theorem s131_201 : ni_T d 131 201 [a0, a1, a2, a3, a4, a5] (.ref o :: st) z h Q = (ni_is (h o) 7 7 = true ∧ ni_T d 131 204 [a0, a1, a2, a3, a4, a5] (ni_gv (h o) 7 :: st) z h Q) := ni_T_getf rfl
theorem s131_204 : ni_T d 131 204 [a0, a1, a2, .int x, a4, a5] st z h Q = ni_T d 131 205 [a0, a1, a2, .int x, a4, a5] (.int x :: st) z h Q := ni_T_p rfl rfl
theorem s131_205 : ni_T d 131 205 [a0, a1, a2, a3, a4, a5] (.int x :: .ref o :: st) z h Q = (ni_okI (h o) x = true ∧ ni_T d 131 206 [a0, a1, a2, a3, a4, a5] (.int (ni_gi (h o) x) :: st) z h Q) := ni_T_iald rfl
theorem s131_206 : ni_T d 131 206 [a0, a1, a2, a3, a4, a5] [.int x] z h Q = Q (some (.int x)) z h := ni_T_i rfl rfl
theorem s131_207 : ni_T d 131 207 [.ref o, a1, a2, a3, a4, a5] st z h Q = ni_T d 131 208 [.ref o, a1, a2, a3, a4, a5] (.ref o :: st) z h Q := ni_T_p rfl rfl
theorem s131_208 : ni_T d 131 208 [a0, a1, a2, .int x, a4, a5] st z h Q = ni_T d 131 209 [a0, a1, a2, .int x, a4, a5] (.int x :: st) z h Q := ni_T_p rfl rfl
theorem s131_209 : ni_T (d + 1) 131 209 [a0, a1, a2, a3, a4, a5] (.int x0 :: .ref o :: st) z h Q = (ni_rc (h o) 7 = true ∧ Nat.ble (ni_sw st) 8 = true ∧ ni_T d 161 0 [.ref o, .int x0] [] z h (ni_K (d + 1) 131 212 [a0, a1, a2, a3, a4, a5] st z Q)) := ni_T_ce [.ref o, .int x0] rfl rfl rfl rfl rfl rfl rfl rfl rfl
theorem s131_212 : ni_T d 131 212 [a0, a1, a2, a3, a4, a5] [.int x] z h Q = Q (some (.int x)) z h := ni_T_i rfl rfl
theorem s132_0 : ni_T d 132 0 [.ref o, a1] st z h Q = ni_T d 132 1 [.ref o, a1] (.ref o :: st) z h Q := ni_T_p rfl rfl
theorem s132_1 : ni_T d 132 1 [a0, .int x] st z h Q = ni_T d 132 2 [a0, .int x] (.int x :: st) z h Q := ni_T_p rfl rfl
theorem s132_2 : ni_T (d + 1) 132 2 [a0, a1] (.int x0 :: .ref o :: st) z h Q = (ni_rc (h o) 7 = true ∧ Nat.ble (ni_sw st) 8 = true ∧ ni_T d 122 0 [.ref o, .int x0] [] z h (ni_K (d + 1) 132 5 [a0, a1] st z Q)) := ni_T_ce [.ref o, .int x0] rfl rfl rfl rfl rfl rfl rfl rfl rfl
theorem s132_5 : ni_T d 132 5 [a0, a1] (.int x :: st) z h Q = if x = 0 then ni_T d 132 8 [a0, a1] st z h Q else ni_T d 132 12 [a0, a1] st z h Q := ni_T_b rfl rfl
theorem s132_8 : ni_T d 132 8 [a0, a1] st z h Q = ni_T d 132 9 [a0, a1] (.int (-1) :: st) z h Q := ni_T_p rfl rfl
theorem s132_9 : ni_T d 132 9 [a0, a1] st z h Q = ni_T d 132 42 [a0, a1] st z h Q := ni_T_p rfl rfl
theorem s132_12 : ni_T d 132 12 [.ref o, a1] st z h Q = ni_T d 132 13 [.ref o, a1] (.ref o :: st) z h Q := ni_T_p rfl rfl
theorem s132_13 : ni_T d 132 13 [a0, a1] (.ref o :: st) z h Q = (ni_is (h o) 7 12 = true ∧ ni_T d 132 16 [a0, a1] (ni_gv (h o) 12 :: st) z h Q) := ni_T_getf rfl
theorem s132_16 : ni_T d 132 16 [a0, .int x] st z h Q = ni_T d 132 17 [a0, .int x] (.int x :: st) z h Q := ni_T_p rfl rfl
theorem s132_17 : ni_T d 132 17 [a0, a1] (.int x :: .ref o :: st) z h Q = (ni_okI (h o) x = true ∧ ni_T d 132 18 [a0, a1] (.int (ni_gi (h o) x) :: st) z h Q) := ni_T_iald rfl
theorem s132_18 : ni_T d 132 18 [a0, a1] st z h Q = ni_T d 132 19 [a0, a1] (.int 2 :: st) z h Q := ni_T_p rfl rfl
theorem s132_19 : ni_T d 132 19 [a0, a1] (.int y :: .int x :: st) z h Q = if x = y then ni_T d 132 22 [a0, a1] st z h Q else ni_T d 132 27 [a0, a1] st z h Q := ni_T_b rfl rfl
theorem s132_22 : ni_T d 132 22 [a0, a1] st z h Q = ni_T d 132 24 [a0, a1] (.int (-2) :: st) z h Q := ni_T_p rfl rfl
theorem s132_24 : ni_T d 132 24 [a0, a1] st z h Q = ni_T d 132 42 [a0, a1] st z h Q := ni_T_p rfl rfl
theorem s132_27 : ni_T d 132 27 [.ref o, a1] st z h Q = ni_T d 132 28 [.ref o, a1] (.ref o :: st) z h Q := ni_T_p rfl rfl
theorem s132_28 : ni_T d 132 28 [a0, a1] (.ref o :: st) z h Q = (ni_is (h o) 7 12 = true ∧ ni_T d 132 31 [a0, a1] (ni_gv (h o) 12 :: st) z h Q) := ni_T_getf rfl
theorem s132_31 : ni_T d 132 31 [a0, .int x] st z h Q = ni_T d 132 32 [a0, .int x] (.int x :: st) z h Q := ni_T_p rfl rfl
theorem s132_32 : ni_T d 132 32 [a0, a1] (.int x :: .ref o :: st) z h Q = (ni_okI (h o) x = true ∧ ni_T d 132 33 [a0, a1] (.int (ni_gi (h o) x) :: st) z h Q) := ni_T_iald rfl
theorem s132_33 : ni_T d 132 33 [a0, a1] (.int x :: st) z h Q = if x = 0 then ni_T d 132 36 [a0, a1] st z h Q else ni_T d 132 41 [a0, a1] st z h Q := ni_T_b rfl rfl
theorem s132_36 : ni_T d 132 36 [a0, a1] st z h Q = ni_T d 132 38 [a0, a1] (.int (-3) :: st) z h Q := ni_T_p rfl rfl
theorem s132_38 : ni_T d 132 38 [a0, a1] st z h Q = ni_T d 132 42 [a0, a1] st z h Q := ni_T_p rfl rfl
theorem s132_41 : ni_T d 132 41 [a0, a1] st z h Q = ni_T d 132 42 [a0, a1] (.int 0 :: st) z h Q := ni_T_p rfl rfl
theorem s132_42 : ni_T d 132 42 [a0, a1] [.int x] z h Q = Q (some (.int x)) z h := ni_T_i rfl rfl
theorem s133_0 : ni_T d 133 0 [.ref o, a1, a2] st z h Q = ni_T d 133 1 [.ref o, a1, a2] (.ref o :: st) z h Q := ni_T_p rfl rfl
theorem s133_1 : ni_T d 133 1 [a0, a1, a2] (.ref o :: st) z h Q = (ni_is (h o) 7 16 = true ∧ ni_T d 133 4 [a0, a1, a2] (ni_gv (h o) 16 :: st) z h Q) := ni_T_getf rfl
theorem s133_4 : ni_T d 133 4 [a0, a1, a2] st z h Q = ni_T d 133 7 [a0, a1, a2] (.int 160 :: st) z h Q := ni_T_p rfl rfl
theorem s133_7 : ni_T d 133 7 [a0, .int x, a2] st z h Q = ni_T d 133 8 [a0, .int x, a2] (.int x :: st) z h Q := ni_T_p rfl rfl
theorem s133_8 : ni_T d 133 8 [a0, a1, a2] (.int y :: .int x :: st) z h Q = ni_T d 133 9 [a0, a1, a2] (.int (x * y) :: st) z h Q := ni_T_p rfl rfl
theorem s133_9 : ni_T d 133 9 [a0, a1, .int x] st z h Q = ni_T d 133 10 [a0, a1, .int x] (.int x :: st) z h Q := ni_T_p rfl rfl
theorem s133_10 : ni_T d 133 10 [a0, a1, a2] (.int y :: .int x :: st) z h Q = ni_T d 133 11 [a0, a1, a2] (.int (x + y) :: st) z h Q := ni_T_p rfl rfl
theorem s133_11 : ni_T d 133 11 [a0, a1, a2] (.int x :: .ref o :: st) z h Q = (ni_okL (h o) x = true ∧ ni_T d 133 12 [a0, a1, a2] (.long (ni_gl (h o) x) :: st) z h Q) := ni_T_lald rfl
theorem s133_12 : ni_T d 133 12 [a0, a1, a2] (.long u :: st) z h Q = ni_T d 133 13 [a0, a1, a2] (.int u.toInt32 :: st) z h Q := ni_T_p rfl rfl
theorem s133_13 : ni_T d 133 13 [a0, a1, a2] [.int x] z h Q = Q (some (.int x)) z h := ni_T_i rfl rfl
theorem s134_0 : ni_T d 134 0 [.ref o, a1, a2, a3, a4] st z h Q = ni_T d 134 1 [.ref o, a1, a2, a3, a4] (.ref o :: st) z h Q := ni_T_p rfl rfl
theorem s134_1 : ni_T d 134 1 [a0, a1, .int x, a3, a4] st z h Q = ni_T d 134 2 [a0, a1, .int x, a3, a4] (.int x :: st) z h Q := ni_T_p rfl rfl
theorem s134_2 : ni_T (d + 1) 134 2 [a0, a1, a2, a3, a4] (.int x0 :: .ref o :: st) z h Q = (ni_rc (h o) 7 = true ∧ Nat.ble (ni_sw st) 8 = true ∧ ni_T d 122 0 [.ref o, .int x0] [] z h (ni_K (d + 1) 134 5 [a0, a1, a2, a3, a4] st z Q)) := ni_T_ce [.ref o, .int x0] rfl rfl rfl rfl rfl rfl rfl rfl rfl
theorem s134_5 : ni_T d 134 5 [a0, a1, a2, a3, a4] (.int x :: st) z h Q = if x = 0 then ni_T d 134 18 [a0, a1, a2, a3, a4] st z h Q else ni_T d 134 8 [a0, a1, a2, a3, a4] st z h Q := ni_T_b rfl rfl
theorem s134_8 : ni_T d 134 8 [.ref o, a1, a2, a3, a4] st z h Q = ni_T d 134 9 [.ref o, a1, a2, a3, a4] (.ref o :: st) z h Q := ni_T_p rfl rfl
theorem s134_9 : ni_T d 134 9 [a0, .int x, a2, a3, a4] st z h Q = ni_T d 134 10 [a0, .int x, a2, a3, a4] (.int x :: st) z h Q := ni_T_p rfl rfl
theorem s134_10 : ni_T (d + 1) 134 10 [a0, a1, a2, a3, a4] (.int x0 :: .ref o :: st) z h Q = (ni_rc (h o) 7 = true ∧ Nat.ble (ni_sw st) 8 = true ∧ ni_T d 123 0 [.ref o, .int x0] [] z h (ni_K (d + 1) 134 13 [a0, a1, a2, a3, a4] st z Q)) := ni_T_ce [.ref o, .int x0] rfl rfl rfl rfl rfl rfl rfl rfl rfl
theorem s134_13 : ni_T d 134 13 [a0, a1, a2, a3, a4] (.int x :: st) z h Q = if x = 0 then ni_T d 134 16 [a0, a1, a2, a3, a4] st z h Q else ni_T d 134 18 [a0, a1, a2, a3, a4] st z h Q := ni_T_b rfl rfl
theorem s134_16 : ni_T d 134 16 [a0, a1, a2, a3, a4] st z h Q = ni_T d 134 17 [a0, a1, a2, a3, a4] (.int (-1) :: st) z h Q := ni_T_p rfl rfl
theorem s134_17 : ni_T d 134 17 [a0, a1, a2, a3, a4] [.int x] z h Q = Q (some (.int x)) z h := ni_T_i rfl rfl
theorem s134_18 : ni_T d 134 18 [.ref o, a1, a2, a3, a4] st z h Q = ni_T d 134 19 [.ref o, a1, a2, a3, a4] (.ref o :: st) z h Q := ni_T_p rfl rfl
theorem s134_19 : ni_T d 134 19 [a0, a1, .int x, a3, a4] st z h Q = ni_T d 134 20 [a0, a1, .int x, a3, a4] (.int x :: st) z h Q := ni_T_p rfl rfl
theorem s134_20 : ni_T (d + 1) 134 20 [a0, a1, a2, a3, a4] (.int x0 :: .ref o :: st) z h Q = (ni_rc (h o) 7 = true ∧ Nat.ble (ni_sw st) 8 = true ∧ ni_T d 132 0 [.ref o, .int x0] [] z h (ni_K (d + 1) 134 23 [a0, a1, a2, a3, a4] st z Q)) := ni_T_ce [.ref o, .int x0] rfl rfl rfl rfl rfl rfl rfl rfl rfl
theorem s134_23 : ni_T d 134 23 [a0, a1, a2, a3, a4] (.int x :: st) z h Q = ni_T d 134 25 [a0, a1, a2, ni_kl a3, .int x] st z h Q := ni_T_p rfl rfl
theorem s134_25 : ni_T d 134 25 [a0, a1, a2, a3, .int x] st z h Q = ni_T d 134 27 [a0, a1, a2, a3, .int x] (.int x :: st) z h Q := ni_T_p rfl rfl
theorem s134_27 : ni_T d 134 27 [a0, a1, a2, a3, a4] (.int x :: st) z h Q = if x = 0 then ni_T d 134 33 [a0, a1, a2, a3, a4] st z h Q else ni_T d 134 30 [a0, a1, a2, a3, a4] st z h Q := ni_T_b rfl rfl
theorem s134_30 : ni_T d 134 30 [a0, a1, a2, a3, .int x] st z h Q = ni_T d 134 32 [a0, a1, a2, a3, .int x] (.int x :: st) z h Q := ni_T_p rfl rfl
theorem s134_32 : ni_T d 134 32 [a0, a1, a2, a3, a4] [.int x] z h Q = Q (some (.int x)) z h := ni_T_i rfl rfl
theorem s134_33 : ni_T d 134 33 [a0, a1, a2, .int x, a4] st z h Q = ni_T d 134 34 [a0, a1, a2, .int x, a4] (.int x :: st) z h Q := ni_T_p rfl rfl
theorem s134_34 : ni_T d 134 34 [a0, a1, a2, a3, a4] (.int x :: st) z h Q = if 0 ≤ x then ni_T d 134 42 [a0, a1, a2, a3, a4] st z h Q else ni_T d 134 37 [a0, a1, a2, a3, a4] st z h Q := ni_T_b rfl rfl
theorem s134_37 : ni_T d 134 37 [a0, a1, a2, a3, a4] st z h Q = ni_T d 134 39 [a0, a1, a2, a3, a4] (.int (-4) :: st) z h Q := ni_T_p rfl rfl
theorem s134_39 : ni_T d 134 39 [a0, a1, a2, a3, a4] st z h Q = ni_T d 134 58 [a0, a1, a2, a3, a4] st z h Q := ni_T_p rfl rfl
theorem s134_42 : ni_T d 134 42 [a0, a1, a2, .int x, a4] st z h Q = ni_T d 134 43 [a0, a1, a2, .int x, a4] (.int x :: st) z h Q := ni_T_p rfl rfl
theorem s134_43 : ni_T d 134 43 [.ref o, a1, a2, a3, a4] st z h Q = ni_T d 134 44 [.ref o, a1, a2, a3, a4] (.ref o :: st) z h Q := ni_T_p rfl rfl
theorem s134_44 : ni_T d 134 44 [a0, a1, a2, a3, a4] (.ref o :: st) z h Q = (ni_is (h o) 7 14 = true ∧ ni_T d 134 47 [a0, a1, a2, a3, a4] (ni_gv (h o) 14 :: st) z h Q) := ni_T_getf rfl
theorem s134_47 : ni_T d 134 47 [a0, a1, .int x, a3, a4] st z h Q = ni_T d 134 48 [a0, a1, .int x, a3, a4] (.int x :: st) z h Q := ni_T_p rfl rfl
theorem s134_48 : ni_T d 134 48 [a0, a1, a2, a3, a4] (.int x :: .ref o :: st) z h Q = (ni_okI (h o) x = true ∧ ni_T d 134 49 [a0, a1, a2, a3, a4] (.int (ni_gi (h o) x) :: st) z h Q) := ni_T_iald rfl
theorem s134_49 : ni_T d 134 49 [a0, a1, a2, a3, a4] (.int y :: .int x :: st) z h Q = if x ≤ y then ni_T d 134 57 [a0, a1, a2, a3, a4] st z h Q else ni_T d 134 52 [a0, a1, a2, a3, a4] st z h Q := ni_T_b rfl rfl
theorem s134_52 : ni_T d 134 52 [a0, a1, a2, a3, a4] st z h Q = ni_T d 134 54 [a0, a1, a2, a3, a4] (.int (-5) :: st) z h Q := ni_T_p rfl rfl
theorem s134_54 : ni_T d 134 54 [a0, a1, a2, a3, a4] st z h Q = ni_T d 134 58 [a0, a1, a2, a3, a4] st z h Q := ni_T_p rfl rfl
theorem s134_57 : ni_T d 134 57 [a0, a1, a2, a3, a4] st z h Q = ni_T d 134 58 [a0, a1, a2, a3, a4] (.int 0 :: st) z h Q := ni_T_p rfl rfl
theorem s134_58 : ni_T d 134 58 [a0, a1, a2, a3, a4] [.int x] z h Q = Q (some (.int x)) z h := ni_T_i rfl rfl
theorem s135_0 : ni_T d 135 0 [.ref o, a1, a2] st z h Q = ni_T d 135 1 [.ref o, a1, a2] (.ref o :: st) z h Q := ni_T_p rfl rfl
theorem s135_1 : ni_T d 135 1 [a0, a1, a2] (.ref o :: st) z h Q = (ni_is (h o) 7 6 = true ∧ ni_T d 135 4 [a0, a1, a2] (ni_gv (h o) 6 :: st) z h Q) := ni_T_getf rfl
theorem s135_4 : ni_T d 135 4 [.ref o, a1, a2] st z h Q = ni_T d 135 5 [.ref o, a1, a2] (.ref o :: st) z h Q := ni_T_p rfl rfl
theorem s135_5 : ni_T d 135 5 [a0, a1, a2] (.ref o :: st) z h Q = (ni_is (h o) 7 0 = true ∧ ni_T d 135 8 [a0, a1, a2] (ni_gv (h o) 0 :: st) z h Q) := ni_T_getf rfl
theorem s135_8 : ni_T d 135 8 [a0, .int x, a2] st z h Q = ni_T d 135 9 [a0, .int x, a2] (.int x :: st) z h Q := ni_T_p rfl rfl
theorem s135_9 : ni_T d 135 9 [a0, a1, a2] (.int y :: .int x :: .ref o :: st) z h Q = (ni_okS (h o) x = true ∧ ni_T d 135 10 [a0, a1, a2] st z (ni_up h o (ni_pi (h o) x y)) Q) := ni_T_iast rfl
theorem s135_10 : ni_T d 135 10 [.ref o, a1, a2] st z h Q = ni_T d 135 11 [.ref o, a1, a2] (.ref o :: st) z h Q := ni_T_p rfl rfl
theorem s135_11 : ni_T d 135 11 [a0, a1, a2] (.ref o :: st) z h Q = (ni_is (h o) 7 7 = true ∧ ni_T d 135 14 [a0, a1, a2] (ni_gv (h o) 7 :: st) z h Q) := ni_T_getf rfl
theorem s135_14 : ni_T d 135 14 [.ref o, a1, a2] st z h Q = ni_T d 135 15 [.ref o, a1, a2] (.ref o :: st) z h Q := ni_T_p rfl rfl
theorem s135_15 : ni_T d 135 15 [a0, a1, a2] (.ref o :: st) z h Q = (ni_is (h o) 7 0 = true ∧ ni_T d 135 18 [a0, a1, a2] (ni_gv (h o) 0 :: st) z h Q) := ni_T_getf rfl
theorem s135_18 : ni_T d 135 18 [a0, a1, .int x] st z h Q = ni_T d 135 19 [a0, a1, .int x] (.int x :: st) z h Q := ni_T_p rfl rfl
theorem s135_19 : ni_T d 135 19 [a0, a1, a2] (.int y :: .int x :: .ref o :: st) z h Q = (ni_okS (h o) x = true ∧ ni_T d 135 20 [a0, a1, a2] st z (ni_up h o (ni_pi (h o) x y)) Q) := ni_T_iast rfl
theorem s135_20 : ni_T d 135 20 [.ref o, a1, a2] st z h Q = ni_T d 135 21 [.ref o, a1, a2] (.ref o :: st) z h Q := ni_T_p rfl rfl
theorem s135_21 : ni_T d 135 21 [a0, a1, a2] (.ref o :: st) z h Q = (ni_is (h o) 7 8 = true ∧ ni_T d 135 24 [a0, a1, a2] (ni_gv (h o) 8 :: st) z h Q) := ni_T_getf rfl
theorem s135_24 : ni_T d 135 24 [.ref o, a1, a2] st z h Q = ni_T d 135 25 [.ref o, a1, a2] (.ref o :: st) z h Q := ni_T_p rfl rfl
theorem s135_25 : ni_T d 135 25 [a0, a1, a2] (.ref o :: st) z h Q = (ni_is (h o) 7 0 = true ∧ ni_T d 135 28 [a0, a1, a2] (ni_gv (h o) 0 :: st) z h Q) := ni_T_getf rfl
theorem s135_28 : ni_T d 135 28 [a0, a1, a2] st z h Q = ni_T d 135 29 [a0, a1, a2] (.int 1 :: st) z h Q := ni_T_p rfl rfl
theorem s135_29 : ni_T d 135 29 [a0, a1, a2] (.int y :: .int x :: .ref o :: st) z h Q = (ni_okS (h o) x = true ∧ ni_T d 135 30 [a0, a1, a2] st z (ni_up h o (ni_pi (h o) x y)) Q) := ni_T_iast rfl
theorem s135_30 : ni_T d 135 30 [.ref o, a1, a2] st z h Q = ni_T d 135 31 [.ref o, a1, a2] (.ref o :: st) z h Q := ni_T_p rfl rfl
theorem s135_31 : ni_T d 135 31 [a0, a1, a2] (.ref o :: st) z h Q = (ni_is (h o) 7 9 = true ∧ ni_T d 135 34 [a0, a1, a2] (ni_gv (h o) 9 :: st) z h Q) := ni_T_getf rfl
theorem s135_34 : ni_T d 135 34 [.ref o, a1, a2] st z h Q = ni_T d 135 35 [.ref o, a1, a2] (.ref o :: st) z h Q := ni_T_p rfl rfl
theorem s135_35 : ni_T d 135 35 [a0, a1, a2] (.ref o :: st) z h Q = (ni_is (h o) 7 0 = true ∧ ni_T d 135 38 [a0, a1, a2] (ni_gv (h o) 0 :: st) z h Q) := ni_T_getf rfl
theorem s135_38 : ni_T d 135 38 [a0, a1, a2] st z h Q = ni_T d 135 39 [a0, a1, a2] (.int 0 :: st) z h Q := ni_T_p rfl rfl
theorem s135_39 : ni_T d 135 39 [a0, a1, a2] (.int y :: .int x :: .ref o :: st) z h Q = (ni_okS (h o) x = true ∧ ni_T d 135 40 [a0, a1, a2] st z (ni_up h o (ni_pi (h o) x y)) Q) := ni_T_iast rfl
theorem s135_40 : ni_T d 135 40 [.ref o, a1, a2] st z h Q = ni_T d 135 41 [.ref o, a1, a2] (.ref o :: st) z h Q := ni_T_p rfl rfl
theorem s135_41 : ni_T d 135 41 [a0, a1, a2] (.ref o :: st) z h Q = (ni_is (h o) 7 10 = true ∧ ni_T d 135 44 [a0, a1, a2] (ni_gv (h o) 10 :: st) z h Q) := ni_T_getf rfl
theorem s135_44 : ni_T d 135 44 [.ref o, a1, a2] st z h Q = ni_T d 135 45 [.ref o, a1, a2] (.ref o :: st) z h Q := ni_T_p rfl rfl
theorem s135_45 : ni_T d 135 45 [a0, a1, a2] (.ref o :: st) z h Q = (ni_is (h o) 7 0 = true ∧ ni_T d 135 48 [a0, a1, a2] (ni_gv (h o) 0 :: st) z h Q) := ni_T_getf rfl
theorem s135_48 : ni_T d 135 48 [a0, a1, a2] st z h Q = ni_T d 135 49 [a0, a1, a2] (.int 0 :: st) z h Q := ni_T_p rfl rfl
theorem s135_49 : ni_T d 135 49 [a0, a1, a2] (.int y :: .int x :: .ref o :: st) z h Q = (ni_okS (h o) x = true ∧ ni_T d 135 50 [a0, a1, a2] st z (ni_up h o (ni_pi (h o) x y)) Q) := ni_T_iast rfl
theorem s135_50 : ni_T d 135 50 [.ref o, a1, a2] st z h Q = ni_T d 135 51 [.ref o, a1, a2] (.ref o :: st) z h Q := ni_T_p rfl rfl
theorem s135_51 : ni_T d 135 51 [a0, a1, a2] (.ref o :: st) z h Q = ni_T d 135 52 [a0, a1, a2] (.ref o :: .ref o :: st) z h Q := ni_T_p rfl rfl
theorem s135_51i : ni_T d 135 51 [a0, a1, a2] (.int x :: st) z h Q = ni_T d 135 52 [a0, a1, a2] (.int x :: .int x :: st) z h Q := ni_T_p rfl rfl
theorem s135_52 : ni_T d 135 52 [a0, a1, a2] (.ref o :: st) z h Q = (ni_is (h o) 7 0 = true ∧ ni_T d 135 55 [a0, a1, a2] (ni_gv (h o) 0 :: st) z h Q) := ni_T_getf rfl
theorem s135_55 : ni_T d 135 55 [a0, a1, a2] (.int x :: .ref o :: st) z h Q = ni_T d 135 56 [a0, a1, a2] (.int x :: .ref o :: .int x :: st) z h Q := ni_T_p rfl rfl
theorem s135_56 : ni_T d 135 56 [a0, a1, a2] st z h Q = ni_T d 135 57 [a0, a1, a2] (.int 1 :: st) z h Q := ni_T_p rfl rfl
theorem s135_57 : ni_T d 135 57 [a0, a1, a2] (.int y :: .int x :: st) z h Q = ni_T d 135 58 [a0, a1, a2] (.int (x + y) :: st) z h Q := ni_T_p rfl rfl
theorem s135_58 : ni_T d 135 58 [a0, a1, a2] (b0 :: .ref o :: st) z h Q = ((Nat.ble 7 7 && ni_is (h o) 7 0 && ni_fit (.int) b0) = true ∧ ni_T d 135 61 [a0, a1, a2] st z (ni_up h o (ni_pv (h o) 0 b0)) Q) := ni_T_putf rfl
theorem s135_61 : ni_T d 135 61 [a0, a1, a2] [.int x] z h Q = Q (some (.int x)) z h := ni_T_i rfl rfl
theorem s136_0 : ni_T d 136 0 [a0, .int x, a2] st z h Q = ni_T d 136 1 [a0, .int x, a2] (.int x :: st) z h Q := ni_T_p rfl rfl
theorem s136_1 : ni_T d 136 1 [a0, a1, a2] (.int x :: st) z h Q = if x < 0 then ni_T d 136 10 [a0, a1, a2] st z h Q else ni_T d 136 4 [a0, a1, a2] st z h Q := ni_T_b rfl rfl
theorem s136_4 : ni_T d 136 4 [a0, .int x, a2] st z h Q = ni_T d 136 5 [a0, .int x, a2] (.int x :: st) z h Q := ni_T_p rfl rfl
theorem s136_5 : ni_T d 136 5 [a0, a1, a2] st z h Q = ni_T d 136 7 [a0, a1, a2] (.int 6 :: st) z h Q := ni_T_p rfl rfl
theorem s136_7 : ni_T d 136 7 [a0, a1, a2] (.int y :: .int x :: st) z h Q = if x ≤ y then ni_T d 136 16 [a0, a1, a2] st z h Q else ni_T d 136 10 [a0, a1, a2] st z h Q := ni_T_b rfl rfl
theorem s136_10 : ni_T d 136 10 [.ref o, a1, a2] st z h Q = ni_T d 136 11 [.ref o, a1, a2] (.ref o :: st) z h Q := ni_T_p rfl rfl
theorem s136_11 : ni_T d 136 11 [a0, a1, a2] st z h Q = ni_T d 136 12 [a0, a1, a2] (.int (-1) :: st) z h Q := ni_T_p rfl rfl
theorem s136_12 : ni_T (d + 1) 136 12 [a0, a1, a2] (.int x0 :: .ref o :: st) z h Q = (ni_rc (h o) 7 = true ∧ Nat.ble (ni_sw st) 8 = true ∧ ni_T d 120 0 [.ref o, .int x0] [] z h (ni_K (d + 1) 136 15 [a0, a1, a2] st z Q)) := ni_T_ce [.ref o, .int x0] rfl rfl rfl rfl rfl rfl rfl rfl rfl
theorem s136_15 : ni_T d 136 15 [a0, a1, a2] [.int x] z h Q = Q (some (.int x)) z h := ni_T_i rfl rfl
theorem s136_16 : ni_T d 136 16 [a0, a1, .int x] st z h Q = ni_T d 136 17 [a0, a1, .int x] (.int x :: st) z h Q := ni_T_p rfl rfl
theorem s136_17 : ni_T d 136 17 [a0, a1, a2] (.int x :: st) z h Q = if x < 0 then ni_T d 136 26 [a0, a1, a2] st z h Q else ni_T d 136 20 [a0, a1, a2] st z h Q := ni_T_b rfl rfl
theorem s136_20 : ni_T d 136 20 [a0, a1, .int x] st z h Q = ni_T d 136 21 [a0, a1, .int x] (.int x :: st) z h Q := ni_T_p rfl rfl
theorem s136_21 : ni_T d 136 21 [a0, a1, a2] st z h Q = ni_T d 136 23 [a0, a1, a2] (.int 9 :: st) z h Q := ni_T_p rfl rfl
theorem s136_23 : ni_T d 136 23 [a0, a1, a2] (.int y :: .int x :: st) z h Q = if x ≤ y then ni_T d 136 33 [a0, a1, a2] st z h Q else ni_T d 136 26 [a0, a1, a2] st z h Q := ni_T_b rfl rfl
theorem s136_26 : ni_T d 136 26 [.ref o, a1, a2] st z h Q = ni_T d 136 27 [.ref o, a1, a2] (.ref o :: st) z h Q := ni_T_p rfl rfl
theorem s136_27 : ni_T d 136 27 [a0, a1, a2] st z h Q = ni_T d 136 29 [a0, a1, a2] (.int (-6) :: st) z h Q := ni_T_p rfl rfl
theorem s136_29 : ni_T (d + 1) 136 29 [a0, a1, a2] (.int x0 :: .ref o :: st) z h Q = (ni_rc (h o) 7 = true ∧ Nat.ble (ni_sw st) 8 = true ∧ ni_T d 120 0 [.ref o, .int x0] [] z h (ni_K (d + 1) 136 32 [a0, a1, a2] st z Q)) := ni_T_ce [.ref o, .int x0] rfl rfl rfl rfl rfl rfl rfl rfl rfl
theorem s136_32 : ni_T d 136 32 [a0, a1, a2] [.int x] z h Q = Q (some (.int x)) z h := ni_T_i rfl rfl
theorem s136_33 : ni_T d 136 33 [.ref o, a1, a2] st z h Q = ni_T d 136 34 [.ref o, a1, a2] (.ref o :: st) z h Q := ni_T_p rfl rfl
theorem s136_34 : ni_T d 136 34 [a0, a1, a2] (.ref o :: st) z h Q = (ni_is (h o) 7 0 = true ∧ ni_T d 136 37 [a0, a1, a2] (ni_gv (h o) 0 :: st) z h Q) := ni_T_getf rfl
theorem s136_37 : ni_T d 136 37 [a0, a1, a2] st z h Q = ni_T d 136 38 [a0, a1, a2] (.int 4 :: st) z h Q := ni_T_p rfl rfl
theorem s136_38 : ni_T d 136 38 [a0, a1, a2] (.int y :: .int x :: st) z h Q = if x = y then ni_T d 136 41 [a0, a1, a2] st z h Q else ni_T d 136 50 [a0, a1, a2] st z h Q := ni_T_b rfl rfl
theorem s136_41 : ni_T d 136 41 [.ref o, a1, a2] st z h Q = ni_T d 136 42 [.ref o, a1, a2] (.ref o :: st) z h Q := ni_T_p rfl rfl
theorem s136_42 : ni_T d 136 42 [a0, a1, a2] st z h Q = ni_T d 136 44 [a0, a1, a2] (.int (-7) :: st) z h Q := ni_T_p rfl rfl
theorem s136_44 : ni_T (d + 1) 136 44 [a0, a1, a2] (.int x0 :: .ref o :: st) z h Q = (ni_rc (h o) 7 = true ∧ Nat.ble (ni_sw st) 8 = true ∧ ni_T d 120 0 [.ref o, .int x0] [] z h (ni_K (d + 1) 136 47 [a0, a1, a2] st z Q)) := ni_T_ce [.ref o, .int x0] rfl rfl rfl rfl rfl rfl rfl rfl rfl
theorem s136_47 : ni_T d 136 47 [a0, a1, a2] st z h Q = ni_T d 136 56 [a0, a1, a2] st z h Q := ni_T_p rfl rfl
theorem s136_50 : ni_T d 136 50 [.ref o, a1, a2] st z h Q = ni_T d 136 51 [.ref o, a1, a2] (.ref o :: st) z h Q := ni_T_p rfl rfl
theorem s136_51 : ni_T d 136 51 [a0, .int x, a2] st z h Q = ni_T d 136 52 [a0, .int x, a2] (.int x :: st) z h Q := ni_T_p rfl rfl
theorem s136_52 : ni_T d 136 52 [a0, a1, .int x] st z h Q = ni_T d 136 53 [a0, a1, .int x] (.int x :: st) z h Q := ni_T_p rfl rfl
theorem s136_53 : ni_T (d + 1) 136 53 [a0, a1, a2] (.int x1 :: .int x0 :: .ref o :: st) z h Q = (ni_rc (h o) 7 = true ∧ Nat.ble (ni_sw st) 8 = true ∧ ni_T d 135 0 [.ref o, .int x0, .int x1] [] z h (ni_K (d + 1) 136 56 [a0, a1, a2] st z Q)) := ni_T_ce [.ref o, .int x0, .int x1] rfl rfl rfl rfl rfl rfl rfl rfl rfl
theorem s136_56 : ni_T d 136 56 [a0, a1, a2] [.int x] z h Q = Q (some (.int x)) z h := ni_T_i rfl rfl
theorem s137_0 : ni_T d 137 0 [.ref o, a1, a2] st z h Q = ni_T d 137 1 [.ref o, a1, a2] (.ref o :: st) z h Q := ni_T_p rfl rfl
theorem s137_1 : ni_T d 137 1 [a0, .int x, a2] st z h Q = ni_T d 137 2 [a0, .int x, a2] (.int x :: st) z h Q := ni_T_p rfl rfl
theorem s137_2 : ni_T (d + 1) 137 2 [a0, a1, a2] (.int x0 :: .ref o :: st) z h Q = (ni_rc (h o) 7 = true ∧ Nat.ble (ni_sw st) 8 = true ∧ ni_T d 123 0 [.ref o, .int x0] [] z h (ni_K (d + 1) 137 5 [a0, a1, a2] st z Q)) := ni_T_ce [.ref o, .int x0] rfl rfl rfl rfl rfl rfl rfl rfl rfl
theorem s137_5 : ni_T d 137 5 [a0, a1, a2] (.int x :: st) z h Q = if x = 0 then ni_T d 137 8 [a0, a1, a2] st z h Q else ni_T d 137 15 [a0, a1, a2] st z h Q := ni_T_b rfl rfl
theorem s137_8 : ni_T d 137 8 [.ref o, a1, a2] st z h Q = ni_T d 137 9 [.ref o, a1, a2] (.ref o :: st) z h Q := ni_T_p rfl rfl
theorem s137_9 : ni_T d 137 9 [a0, a1, a2] st z h Q = ni_T d 137 11 [a0, a1, a2] (.int (-5) :: st) z h Q := ni_T_p rfl rfl
theorem s137_11 : ni_T (d + 1) 137 11 [a0, a1, a2] (.int x0 :: .ref o :: st) z h Q = (ni_rc (h o) 7 = true ∧ Nat.ble (ni_sw st) 8 = true ∧ ni_T d 120 0 [.ref o, .int x0] [] z h (ni_K (d + 1) 137 14 [a0, a1, a2] st z Q)) := ni_T_ce [.ref o, .int x0] rfl rfl rfl rfl rfl rfl rfl rfl rfl
theorem s137_14 : ni_T d 137 14 [a0, a1, a2] [.int x] z h Q = Q (some (.int x)) z h := ni_T_i rfl rfl
theorem s137_15 : ni_T d 137 15 [a0, a1, .int x] st z h Q = ni_T d 137 16 [a0, a1, .int x] (.int x :: st) z h Q := ni_T_p rfl rfl
theorem s137_16_0 : ni_T d 137 16 [a0, a1, a2] (.int 0 :: st) z h Q = ni_T d 137 60 [a0, a1, a2] st z h Q := ni_T_p rfl rfl
theorem s137_16_1 : ni_T d 137 16 [a0, a1, a2] (.int 1 :: st) z h Q = ni_T d 137 67 [a0, a1, a2] st z h Q := ni_T_p rfl rfl
theorem s137_16_2 : ni_T d 137 16 [a0, a1, a2] (.int 2 :: st) z h Q = ni_T d 137 74 [a0, a1, a2] st z h Q := ni_T_p rfl rfl
theorem s137_16_3 : ni_T d 137 16 [a0, a1, a2] (.int 3 :: st) z h Q = ni_T d 137 81 [a0, a1, a2] st z h Q := ni_T_p rfl rfl
theorem s137_16_4 : ni_T d 137 16 [a0, a1, a2] (.int 4 :: st) z h Q = ni_T d 137 88 [a0, a1, a2] st z h Q := ni_T_p rfl rfl
theorem s137_16_5 : ni_T d 137 16 [a0, a1, a2] (.int 5 :: st) z h Q = ni_T d 137 95 [a0, a1, a2] st z h Q := ni_T_p rfl rfl
theorem s137_16_6 : ni_T d 137 16 [a0, a1, a2] (.int 6 :: st) z h Q = ni_T d 137 101 [a0, a1, a2] st z h Q := ni_T_p rfl rfl
theorem s137_16_d (hx : x.toInt < 0 ∨ 6 < x.toInt) : ni_T d 137 16 [a0, a1, a2] (.int x :: st) z h Q = ni_T d 137 107 [a0, a1, a2] st z h Q := ni_T_tsw rfl hx (by decide) rfl
theorem s137_60 : ni_T d 137 60 [.ref o, a1, a2] st z h Q = ni_T d 137 61 [.ref o, a1, a2] (.ref o :: st) z h Q := ni_T_p rfl rfl
theorem s137_61 : ni_T d 137 61 [a0, a1, a2] (.ref o :: st) z h Q = (ni_is (h o) 7 6 = true ∧ ni_T d 137 64 [a0, a1, a2] (ni_gv (h o) 6 :: st) z h Q) := ni_T_getf rfl
theorem s137_64 : ni_T d 137 64 [a0, .int x, a2] st z h Q = ni_T d 137 65 [a0, .int x, a2] (.int x :: st) z h Q := ni_T_p rfl rfl
theorem s137_65 : ni_T d 137 65 [a0, a1, a2] (.int x :: .ref o :: st) z h Q = (ni_okI (h o) x = true ∧ ni_T d 137 66 [a0, a1, a2] (.int (ni_gi (h o) x) :: st) z h Q) := ni_T_iald rfl
theorem s137_66 : ni_T d 137 66 [a0, a1, a2] [.int x] z h Q = Q (some (.int x)) z h := ni_T_i rfl rfl
theorem s137_67 : ni_T d 137 67 [.ref o, a1, a2] st z h Q = ni_T d 137 68 [.ref o, a1, a2] (.ref o :: st) z h Q := ni_T_p rfl rfl
theorem s137_68 : ni_T d 137 68 [a0, a1, a2] (.ref o :: st) z h Q = (ni_is (h o) 7 7 = true ∧ ni_T d 137 71 [a0, a1, a2] (ni_gv (h o) 7 :: st) z h Q) := ni_T_getf rfl
theorem s137_71 : ni_T d 137 71 [a0, .int x, a2] st z h Q = ni_T d 137 72 [a0, .int x, a2] (.int x :: st) z h Q := ni_T_p rfl rfl
theorem s137_72 : ni_T d 137 72 [a0, a1, a2] (.int x :: .ref o :: st) z h Q = (ni_okI (h o) x = true ∧ ni_T d 137 73 [a0, a1, a2] (.int (ni_gi (h o) x) :: st) z h Q) := ni_T_iald rfl
theorem s137_73 : ni_T d 137 73 [a0, a1, a2] [.int x] z h Q = Q (some (.int x)) z h := ni_T_i rfl rfl
theorem s137_74 : ni_T d 137 74 [.ref o, a1, a2] st z h Q = ni_T d 137 75 [.ref o, a1, a2] (.ref o :: st) z h Q := ni_T_p rfl rfl
theorem s137_75 : ni_T d 137 75 [a0, a1, a2] (.ref o :: st) z h Q = (ni_is (h o) 7 8 = true ∧ ni_T d 137 78 [a0, a1, a2] (ni_gv (h o) 8 :: st) z h Q) := ni_T_getf rfl
theorem s137_78 : ni_T d 137 78 [a0, .int x, a2] st z h Q = ni_T d 137 79 [a0, .int x, a2] (.int x :: st) z h Q := ni_T_p rfl rfl
theorem s137_79 : ni_T d 137 79 [a0, a1, a2] (.int x :: .ref o :: st) z h Q = (ni_okI (h o) x = true ∧ ni_T d 137 80 [a0, a1, a2] (.int (ni_gi (h o) x) :: st) z h Q) := ni_T_iald rfl
theorem s137_80 : ni_T d 137 80 [a0, a1, a2] [.int x] z h Q = Q (some (.int x)) z h := ni_T_i rfl rfl
theorem s137_81 : ni_T d 137 81 [.ref o, a1, a2] st z h Q = ni_T d 137 82 [.ref o, a1, a2] (.ref o :: st) z h Q := ni_T_p rfl rfl
theorem s137_82 : ni_T d 137 82 [a0, a1, a2] (.ref o :: st) z h Q = (ni_is (h o) 7 9 = true ∧ ni_T d 137 85 [a0, a1, a2] (ni_gv (h o) 9 :: st) z h Q) := ni_T_getf rfl
theorem s137_85 : ni_T d 137 85 [a0, .int x, a2] st z h Q = ni_T d 137 86 [a0, .int x, a2] (.int x :: st) z h Q := ni_T_p rfl rfl
theorem s137_86 : ni_T d 137 86 [a0, a1, a2] (.int x :: .ref o :: st) z h Q = (ni_okI (h o) x = true ∧ ni_T d 137 87 [a0, a1, a2] (.int (ni_gi (h o) x) :: st) z h Q) := ni_T_iald rfl
theorem s137_87 : ni_T d 137 87 [a0, a1, a2] [.int x] z h Q = Q (some (.int x)) z h := ni_T_i rfl rfl
theorem s137_88 : ni_T d 137 88 [.ref o, a1, a2] st z h Q = ni_T d 137 89 [.ref o, a1, a2] (.ref o :: st) z h Q := ni_T_p rfl rfl
theorem s137_89 : ni_T d 137 89 [a0, a1, a2] (.ref o :: st) z h Q = (ni_is (h o) 7 10 = true ∧ ni_T d 137 92 [a0, a1, a2] (ni_gv (h o) 10 :: st) z h Q) := ni_T_getf rfl
theorem s137_92 : ni_T d 137 92 [a0, .int x, a2] st z h Q = ni_T d 137 93 [a0, .int x, a2] (.int x :: st) z h Q := ni_T_p rfl rfl
theorem s137_93 : ni_T d 137 93 [a0, a1, a2] (.int x :: .ref o :: st) z h Q = (ni_okI (h o) x = true ∧ ni_T d 137 94 [a0, a1, a2] (.int (ni_gi (h o) x) :: st) z h Q) := ni_T_iald rfl
theorem s137_94 : ni_T d 137 94 [a0, a1, a2] [.int x] z h Q = Q (some (.int x)) z h := ni_T_i rfl rfl
theorem s137_95 : ni_T d 137 95 [.ref o, a1, a2] st z h Q = ni_T d 137 96 [.ref o, a1, a2] (.ref o :: st) z h Q := ni_T_p rfl rfl
theorem s137_96 : ni_T d 137 96 [a0, .int x, a2] st z h Q = ni_T d 137 97 [a0, .int x, a2] (.int x :: st) z h Q := ni_T_p rfl rfl
theorem s137_97 : ni_T (d + 1) 137 97 [a0, a1, a2] (.int x0 :: .ref o :: st) z h Q = (ni_rc (h o) 7 = true ∧ Nat.ble (ni_sw st) 8 = true ∧ ni_T d 161 0 [.ref o, .int x0] [] z h (ni_K (d + 1) 137 100 [a0, a1, a2] st z Q)) := ni_T_ce [.ref o, .int x0] rfl rfl rfl rfl rfl rfl rfl rfl rfl
theorem s137_100 : ni_T d 137 100 [a0, a1, a2] [.int x] z h Q = Q (some (.int x)) z h := ni_T_i rfl rfl
theorem s137_101 : ni_T d 137 101 [.ref o, a1, a2] st z h Q = ni_T d 137 102 [.ref o, a1, a2] (.ref o :: st) z h Q := ni_T_p rfl rfl
theorem s137_102 : ni_T d 137 102 [a0, .int x, a2] st z h Q = ni_T d 137 103 [a0, .int x, a2] (.int x :: st) z h Q := ni_T_p rfl rfl
theorem s137_103 : ni_T (d + 1) 137 103 [a0, a1, a2] (.int x0 :: .ref o :: st) z h Q = (ni_rc (h o) 7 = true ∧ Nat.ble (ni_sw st) 8 = true ∧ ni_T d 162 0 [.ref o, .int x0] [] z h (ni_K (d + 1) 137 106 [a0, a1, a2] st z Q)) := ni_T_ce [.ref o, .int x0] rfl rfl rfl rfl rfl rfl rfl rfl rfl
theorem s137_106 : ni_T d 137 106 [a0, a1, a2] [.int x] z h Q = Q (some (.int x)) z h := ni_T_i rfl rfl
theorem s137_107 : ni_T d 137 107 [.ref o, a1, a2] st z h Q = ni_T d 137 108 [.ref o, a1, a2] (.ref o :: st) z h Q := ni_T_p rfl rfl
theorem s137_108 : ni_T d 137 108 [a0, a1, a2] st z h Q = ni_T d 137 110 [a0, a1, a2] (.int (-5) :: st) z h Q := ni_T_p rfl rfl
theorem s137_110 : ni_T (d + 1) 137 110 [a0, a1, a2] (.int x0 :: .ref o :: st) z h Q = (ni_rc (h o) 7 = true ∧ Nat.ble (ni_sw st) 8 = true ∧ ni_T d 120 0 [.ref o, .int x0] [] z h (ni_K (d + 1) 137 113 [a0, a1, a2] st z Q)) := ni_T_ce [.ref o, .int x0] rfl rfl rfl rfl rfl rfl rfl rfl rfl
theorem s137_113 : ni_T d 137 113 [a0, a1, a2] [.int x] z h Q = Q (some (.int x)) z h := ni_T_i rfl rfl
theorem s138_0 : ni_T d 138 0 [a0, a1, a2, a3] st z h Q = ni_T d 138 1 [a0, a1, a2, a3] (.int 0 :: st) z h Q := ni_T_p rfl rfl
theorem s138_1 : ni_T d 138 1 [a0, a1, a2, a3] (.int x :: st) z h Q = ni_T d 138 2 [a0, a1, ni_kl a2, .int x] st z h Q := ni_T_p rfl rfl
theorem s138_2 : ni_T d 138 2 [a0, a1, a2, .int x] st z h Q = ni_T d 138 3 [a0, a1, a2, .int x] (.int x :: st) z h Q := ni_T_p rfl rfl
theorem s138_3 : ni_T d 138 3 [a0, a1, a2, a3] st z h Q = ni_T d 138 4 [a0, a1, a2, a3] (.int 5 :: st) z h Q := ni_T_p rfl rfl
theorem s138_4 : ni_T d 138 4 [a0, a1, a2, a3] (.int y :: .int x :: st) z h Q = if y ≤ x then ni_T d 138 30 [a0, a1, a2, a3] st z h Q else ni_T d 138 7 [a0, a1, a2, a3] st z h Q := ni_T_b rfl rfl
theorem s138_7 : ni_T d 138 7 [a0, a1, a2, .int x] st z h Q = ni_T d 138 8 [a0, a1, a2, .int x] (.int x :: st) z h Q := ni_T_p rfl rfl
theorem s138_8 : ni_T d 138 8 [a0, .int x, a2, a3] st z h Q = ni_T d 138 9 [a0, .int x, a2, a3] (.int x :: st) z h Q := ni_T_p rfl rfl
theorem s138_9 : ni_T d 138 9 [a0, a1, a2, a3] (.int y :: .int x :: st) z h Q = if x = y then ni_T d 138 24 [a0, a1, a2, a3] st z h Q else ni_T d 138 12 [a0, a1, a2, a3] st z h Q := ni_T_b rfl rfl
theorem s138_12 : ni_T d 138 12 [.ref o, a1, a2, a3] st z h Q = ni_T d 138 13 [.ref o, a1, a2, a3] (.ref o :: st) z h Q := ni_T_p rfl rfl
theorem s138_13 : ni_T d 138 13 [a0, a1, a2, a3] (.ref o :: st) z h Q = (ni_is (h o) 7 11 = true ∧ ni_T d 138 16 [a0, a1, a2, a3] (ni_gv (h o) 11 :: st) z h Q) := ni_T_getf rfl
theorem s138_16 : ni_T d 138 16 [a0, a1, a2, .int x] st z h Q = ni_T d 138 17 [a0, a1, a2, .int x] (.int x :: st) z h Q := ni_T_p rfl rfl
theorem s138_17 : ni_T d 138 17 [a0, a1, a2, a3] (.int x :: .ref o :: st) z h Q = (ni_okI (h o) x = true ∧ ni_T d 138 18 [a0, a1, a2, a3] (.int (ni_gi (h o) x) :: st) z h Q) := ni_T_iald rfl
theorem s138_18 : ni_T d 138 18 [a0, a1, .int x, a3] st z h Q = ni_T d 138 19 [a0, a1, .int x, a3] (.int x :: st) z h Q := ni_T_p rfl rfl
theorem s138_19 : ni_T d 138 19 [a0, a1, a2, a3] (.int y :: .int x :: st) z h Q = if x = y then ni_T d 138 22 [a0, a1, a2, a3] st z h Q else ni_T d 138 24 [a0, a1, a2, a3] st z h Q := ni_T_b rfl rfl
theorem s138_22 : ni_T d 138 22 [a0, a1, a2, a3] st z h Q = ni_T d 138 23 [a0, a1, a2, a3] (.int 0 :: st) z h Q := ni_T_p rfl rfl
theorem s138_23 : ni_T d 138 23 [a0, a1, a2, a3] [.int x] z h Q = (narrow .boolean (.int x) = .int x ∧ Q (some (.int x)) z h) := ni_T_z rfl rfl
theorem s138_24 : ni_T d 138 24 [a0, a1, a2, .int x] st z h Q = ni_T d 138 27 [a0, a1, ni_kl a2, .int (x + 1)] st z h Q := ni_T_p rfl rfl
theorem s138_27 : ni_T d 138 27 [a0, a1, a2, a3] st z h Q = ni_T d 138 2 [a0, a1, a2, a3] st z h Q := ni_T_p rfl rfl
theorem s138_30 : ni_T d 138 30 [a0, a1, a2, a3] st z h Q = ni_T d 138 31 [a0, a1, a2, a3] (.int 1 :: st) z h Q := ni_T_p rfl rfl
theorem s138_31 : ni_T d 138 31 [a0, a1, a2, a3] [.int x] z h Q = (narrow .boolean (.int x) = .int x ∧ Q (some (.int x)) z h) := ni_T_z rfl rfl
theorem s139_0 : ni_T d 139 0 [.ref o, a1, a2, a3] st z h Q = ni_T d 139 1 [.ref o, a1, a2, a3] (.ref o :: st) z h Q := ni_T_p rfl rfl
theorem s139_1 : ni_T d 139 1 [a0, .int x, a2, a3] st z h Q = ni_T d 139 2 [a0, .int x, a2, a3] (.int x :: st) z h Q := ni_T_p rfl rfl
theorem s139_2 : ni_T (d + 1) 139 2 [a0, a1, a2, a3] (.int x0 :: .ref o :: st) z h Q = (ni_rc (h o) 7 = true ∧ Nat.ble (ni_sw st) 8 = true ∧ ni_T d 124 0 [.ref o, .int x0] [] z h (ni_K (d + 1) 139 5 [a0, a1, a2, a3] st z Q)) := ni_T_ce [.ref o, .int x0] rfl rfl rfl rfl rfl rfl rfl rfl rfl
theorem s139_5 : ni_T d 139 5 [a0, a1, a2, a3] (.int x :: st) z h Q = if x = 0 then ni_T d 139 8 [a0, a1, a2, a3] st z h Q else ni_T d 139 14 [a0, a1, a2, a3] st z h Q := ni_T_b rfl rfl
theorem s139_8 : ni_T d 139 8 [.ref o, a1, a2, a3] st z h Q = ni_T d 139 9 [.ref o, a1, a2, a3] (.ref o :: st) z h Q := ni_T_p rfl rfl
theorem s139_9 : ni_T d 139 9 [a0, a1, a2, a3] st z h Q = ni_T d 139 10 [a0, a1, a2, a3] (.int (-1) :: st) z h Q := ni_T_p rfl rfl
theorem s139_10 : ni_T (d + 1) 139 10 [a0, a1, a2, a3] (.int x0 :: .ref o :: st) z h Q = (ni_rc (h o) 7 = true ∧ Nat.ble (ni_sw st) 8 = true ∧ ni_T d 121 0 [.ref o, .int x0] [] z h (ni_K (d + 1) 139 13 [a0, a1, a2, a3] st z Q)) := ni_T_ce [.ref o, .int x0] rfl rfl rfl rfl rfl rfl rfl rfl rfl
theorem s139_13 : ni_T d 139 13 [a0, a1, a2, a3] [.int x] z h Q = Q (some (.int x)) z h := ni_T_i rfl rfl
theorem s139_14 : ni_T d 139 14 [a0, a1, .int x, a3] st z h Q = ni_T d 139 15 [a0, a1, .int x, a3] (.int x :: st) z h Q := ni_T_p rfl rfl
theorem s139_15 : ni_T d 139 15 [a0, a1, a2, a3] st z h Q = ni_T d 139 16 [a0, a1, a2, a3] (.int (-1) :: st) z h Q := ni_T_p rfl rfl
theorem s139_16 : ni_T d 139 16 [a0, a1, a2, a3] (.int y :: .int x :: st) z h Q = if x < y then ni_T d 139 39 [a0, a1, a2, a3] st z h Q else ni_T d 139 19 [a0, a1, a2, a3] st z h Q := ni_T_b rfl rfl
theorem s139_19 : ni_T d 139 19 [a0, a1, .int x, a3] st z h Q = ni_T d 139 20 [a0, a1, .int x, a3] (.int x :: st) z h Q := ni_T_p rfl rfl
theorem s139_20 : ni_T d 139 20 [a0, a1, a2, a3] st z h Q = ni_T d 139 22 [a0, a1, a2, a3] (.int 35 :: st) z h Q := ni_T_p rfl rfl
theorem s139_22 : ni_T d 139 22 [a0, a1, a2, a3] (.int y :: .int x :: st) z h Q = if y < x then ni_T d 139 39 [a0, a1, a2, a3] st z h Q else ni_T d 139 25 [a0, a1, a2, a3] st z h Q := ni_T_b rfl rfl
theorem s139_25 : ni_T d 139 25 [a0, a1, .int x, a3] st z h Q = ni_T d 139 26 [a0, a1, .int x, a3] (.int x :: st) z h Q := ni_T_p rfl rfl
theorem s139_26 : ni_T d 139 26 [a0, a1, a2, a3] st z h Q = ni_T d 139 27 [a0, a1, a2, a3] (.int (-1) :: st) z h Q := ni_T_p rfl rfl
theorem s139_27 : ni_T d 139 27 [a0, a1, a2, a3] (.int y :: .int x :: st) z h Q = if x = y then ni_T d 139 46 [a0, a1, a2, a3] st z h Q else ni_T d 139 30 [a0, a1, a2, a3] st z h Q := ni_T_b rfl rfl
theorem s139_30 : ni_T d 139 30 [.ref o, a1, a2, a3] st z h Q = ni_T d 139 31 [.ref o, a1, a2, a3] (.ref o :: st) z h Q := ni_T_p rfl rfl
theorem s139_31 : ni_T d 139 31 [a0, .int x, a2, a3] st z h Q = ni_T d 139 32 [a0, .int x, a2, a3] (.int x :: st) z h Q := ni_T_p rfl rfl
theorem s139_32 : ni_T d 139 32 [a0, a1, .int x, a3] st z h Q = ni_T d 139 33 [a0, a1, .int x, a3] (.int x :: st) z h Q := ni_T_p rfl rfl
theorem s139_33 : ni_T (d + 1) 139 33 [a0, a1, a2, a3] (.int x1 :: .int x0 :: .ref o :: st) z h Q = (ni_rc (h o) 7 = true ∧ Nat.ble (ni_sw st) 8 = true ∧ ni_T d 138 0 [.ref o, .int x0, .int x1, .retAddr 0] [] z h (ni_K (d + 1) 139 36 [a0, a1, a2, a3] st z Q)) := ni_T_ce [.ref o, .int x0, .int x1] rfl rfl rfl rfl rfl rfl rfl rfl rfl
theorem s139_36 : ni_T d 139 36 [a0, a1, a2, a3] (.int x :: st) z h Q = if x = 0 then ni_T d 139 39 [a0, a1, a2, a3] st z h Q else ni_T d 139 46 [a0, a1, a2, a3] st z h Q := ni_T_b rfl rfl
theorem s139_39 : ni_T d 139 39 [.ref o, a1, a2, a3] st z h Q = ni_T d 139 40 [.ref o, a1, a2, a3] (.ref o :: st) z h Q := ni_T_p rfl rfl
theorem s139_40 : ni_T d 139 40 [a0, a1, a2, a3] st z h Q = ni_T d 139 42 [a0, a1, a2, a3] (.int (-6) :: st) z h Q := ni_T_p rfl rfl
theorem s139_42 : ni_T (d + 1) 139 42 [a0, a1, a2, a3] (.int x0 :: .ref o :: st) z h Q = (ni_rc (h o) 7 = true ∧ Nat.ble (ni_sw st) 8 = true ∧ ni_T d 121 0 [.ref o, .int x0] [] z h (ni_K (d + 1) 139 45 [a0, a1, a2, a3] st z Q)) := ni_T_ce [.ref o, .int x0] rfl rfl rfl rfl rfl rfl rfl rfl rfl
theorem s139_45 : ni_T d 139 45 [a0, a1, a2, a3] [.int x] z h Q = Q (some (.int x)) z h := ni_T_i rfl rfl
theorem s139_46 : ni_T d 139 46 [.ref o, a1, a2, a3] st z h Q = ni_T d 139 47 [.ref o, a1, a2, a3] (.ref o :: st) z h Q := ni_T_p rfl rfl
theorem s139_47 : ni_T d 139 47 [a0, a1, a2, a3] (.ref o :: st) z h Q = (ni_is (h o) 7 11 = true ∧ ni_T d 139 50 [a0, a1, a2, a3] (ni_gv (h o) 11 :: st) z h Q) := ni_T_getf rfl
theorem s139_50 : ni_T d 139 50 [a0, .int x, a2, a3] st z h Q = ni_T d 139 51 [a0, .int x, a2, a3] (.int x :: st) z h Q := ni_T_p rfl rfl
theorem s139_51 : ni_T d 139 51 [a0, a1, a2, a3] (.int x :: .ref o :: st) z h Q = (ni_okI (h o) x = true ∧ ni_T d 139 52 [a0, a1, a2, a3] (.int (ni_gi (h o) x) :: st) z h Q) := ni_T_iald rfl
theorem s139_52 : ni_T d 139 52 [a0, a1, a2, a3] (.int x :: st) z h Q = ni_T d 139 53 [a0, a1, ni_kl a2, .int x] st z h Q := ni_T_p rfl rfl
theorem s139_53 : ni_T d 139 53 [.ref o, a1, a2, a3] st z h Q = ni_T d 139 54 [.ref o, a1, a2, a3] (.ref o :: st) z h Q := ni_T_p rfl rfl
theorem s139_54 : ni_T d 139 54 [a0, a1, a2, a3] (.ref o :: st) z h Q = (ni_is (h o) 7 11 = true ∧ ni_T d 139 57 [a0, a1, a2, a3] (ni_gv (h o) 11 :: st) z h Q) := ni_T_getf rfl
theorem s139_57 : ni_T d 139 57 [a0, .int x, a2, a3] st z h Q = ni_T d 139 58 [a0, .int x, a2, a3] (.int x :: st) z h Q := ni_T_p rfl rfl
theorem s139_58 : ni_T d 139 58 [a0, a1, .int x, a3] st z h Q = ni_T d 139 59 [a0, a1, .int x, a3] (.int x :: st) z h Q := ni_T_p rfl rfl
theorem s139_59 : ni_T d 139 59 [a0, a1, a2, a3] (.int y :: .int x :: .ref o :: st) z h Q = (ni_okS (h o) x = true ∧ ni_T d 139 60 [a0, a1, a2, a3] st z (ni_up h o (ni_pi (h o) x y)) Q) := ni_T_iast rfl
theorem s139_60 : ni_T d 139 60 [a0, a1, a2, .int x] st z h Q = ni_T d 139 61 [a0, a1, a2, .int x] (.int x :: st) z h Q := ni_T_p rfl rfl
theorem s139_61 : ni_T d 139 61 [a0, a1, a2, a3] [.int x] z h Q = Q (some (.int x)) z h := ni_T_i rfl rfl
theorem s140_0 : ni_T d 140 0 [.ref o, a1] st z h Q = ni_T d 140 1 [.ref o, a1] (.ref o :: st) z h Q := ni_T_p rfl rfl
theorem s140_1 : ni_T d 140 1 [a0, .int x] st z h Q = ni_T d 140 2 [a0, .int x] (.int x :: st) z h Q := ni_T_p rfl rfl
theorem s140_2 : ni_T (d + 1) 140 2 [a0, a1] (.int x0 :: .ref o :: st) z h Q = (ni_rc (h o) 7 = true ∧ Nat.ble (ni_sw st) 8 = true ∧ ni_T d 124 0 [.ref o, .int x0] [] z h (ni_K (d + 1) 140 5 [a0, a1] st z Q)) := ni_T_ce [.ref o, .int x0] rfl rfl rfl rfl rfl rfl rfl rfl rfl
theorem s140_5 : ni_T d 140 5 [a0, a1] (.int x :: st) z h Q = if x = 0 then ni_T d 140 17 [a0, a1] st z h Q else ni_T d 140 8 [a0, a1] st z h Q := ni_T_b rfl rfl
theorem s140_8 : ni_T d 140 8 [.ref o, a1] st z h Q = ni_T d 140 9 [.ref o, a1] (.ref o :: st) z h Q := ni_T_p rfl rfl
theorem s140_9 : ni_T d 140 9 [a0, a1] (.ref o :: st) z h Q = (ni_is (h o) 7 11 = true ∧ ni_T d 140 12 [a0, a1] (ni_gv (h o) 11 :: st) z h Q) := ni_T_getf rfl
theorem s140_12 : ni_T d 140 12 [a0, .int x] st z h Q = ni_T d 140 13 [a0, .int x] (.int x :: st) z h Q := ni_T_p rfl rfl
theorem s140_13 : ni_T d 140 13 [a0, a1] (.int x :: .ref o :: st) z h Q = (ni_okI (h o) x = true ∧ ni_T d 140 14 [a0, a1] (.int (ni_gi (h o) x) :: st) z h Q) := ni_T_iald rfl
theorem s140_14 : ni_T d 140 14 [a0, a1] st z h Q = ni_T d 140 22 [a0, a1] st z h Q := ni_T_p rfl rfl
theorem s140_17 : ni_T d 140 17 [.ref o, a1] st z h Q = ni_T d 140 18 [.ref o, a1] (.ref o :: st) z h Q := ni_T_p rfl rfl
theorem s140_18 : ni_T d 140 18 [a0, a1] st z h Q = ni_T d 140 19 [a0, a1] (.int (-1) :: st) z h Q := ni_T_p rfl rfl
theorem s140_19 : ni_T (d + 1) 140 19 [a0, a1] (.int x0 :: .ref o :: st) z h Q = (ni_rc (h o) 7 = true ∧ Nat.ble (ni_sw st) 8 = true ∧ ni_T d 121 0 [.ref o, .int x0] [] z h (ni_K (d + 1) 140 22 [a0, a1] st z Q)) := ni_T_ce [.ref o, .int x0] rfl rfl rfl rfl rfl rfl rfl rfl rfl
theorem s140_22 : ni_T d 140 22 [a0, a1] [.int x] z h Q = Q (some (.int x)) z h := ni_T_i rfl rfl
theorem s141_0 : ni_T d 141 0 [.ref o, a1, a2, a3] st z h Q = ni_T d 141 1 [.ref o, a1, a2, a3] (.ref o :: st) z h Q := ni_T_p rfl rfl
theorem s141_1 : ni_T d 141 1 [a0, .int x, a2, a3] st z h Q = ni_T d 141 2 [a0, .int x, a2, a3] (.int x :: st) z h Q := ni_T_p rfl rfl
theorem s141_2 : ni_T (d + 1) 141 2 [a0, a1, a2, a3] (.int x0 :: .ref o :: st) z h Q = (ni_rc (h o) 7 = true ∧ Nat.ble (ni_sw st) 8 = true ∧ ni_T d 123 0 [.ref o, .int x0] [] z h (ni_K (d + 1) 141 5 [a0, a1, a2, a3] st z Q)) := ni_T_ce [.ref o, .int x0] rfl rfl rfl rfl rfl rfl rfl rfl rfl
theorem s141_5 : ni_T d 141 5 [a0, a1, a2, a3] (.int x :: st) z h Q = if x = 0 then ni_T d 141 8 [a0, a1, a2, a3] st z h Q else ni_T d 141 14 [a0, a1, a2, a3] st z h Q := ni_T_b rfl rfl
theorem s141_8 : ni_T d 141 8 [.ref o, a1, a2, a3] st z h Q = ni_T d 141 9 [.ref o, a1, a2, a3] (.ref o :: st) z h Q := ni_T_p rfl rfl
theorem s141_9 : ni_T d 141 9 [a0, a1, a2, a3] st z h Q = ni_T d 141 10 [a0, a1, a2, a3] (.int (-1) :: st) z h Q := ni_T_p rfl rfl
theorem s141_10 : ni_T (d + 1) 141 10 [a0, a1, a2, a3] (.int x0 :: .ref o :: st) z h Q = (ni_rc (h o) 7 = true ∧ Nat.ble (ni_sw st) 8 = true ∧ ni_T d 120 0 [.ref o, .int x0] [] z h (ni_K (d + 1) 141 13 [a0, a1, a2, a3] st z Q)) := ni_T_ce [.ref o, .int x0] rfl rfl rfl rfl rfl rfl rfl rfl rfl
theorem s141_13 : ni_T d 141 13 [a0, a1, a2, a3] [.int x] z h Q = Q (some (.int x)) z h := ni_T_i rfl rfl
theorem s141_14 : ni_T d 141 14 [a0, a1, .int x, a3] st z h Q = ni_T d 141 15 [a0, a1, .int x, a3] (.int x :: st) z h Q := ni_T_p rfl rfl
theorem s141_15 : ni_T d 141 15 [a0, a1, a2, a3] st z h Q = ni_T d 141 16 [a0, a1, a2, a3] (.int 1 :: st) z h Q := ni_T_p rfl rfl
theorem s141_16 : ni_T d 141 16 [a0, a1, a2, a3] (.int y :: .int x :: st) z h Q = if x < y then ni_T d 141 24 [a0, a1, a2, a3] st z h Q else ni_T d 141 19 [a0, a1, a2, a3] st z h Q := ni_T_b rfl rfl
theorem s141_19 : ni_T d 141 19 [a0, a1, .int x, a3] st z h Q = ni_T d 141 20 [a0, a1, .int x, a3] (.int x :: st) z h Q := ni_T_p rfl rfl
theorem s141_20 : ni_T d 141 20 [a0, a1, a2, a3] st z h Q = ni_T d 141 21 [a0, a1, a2, a3] (.int 4 :: st) z h Q := ni_T_p rfl rfl
theorem s141_21 : ni_T d 141 21 [a0, a1, a2, a3] (.int y :: .int x :: st) z h Q = if x ≤ y then ni_T d 141 31 [a0, a1, a2, a3] st z h Q else ni_T d 141 24 [a0, a1, a2, a3] st z h Q := ni_T_b rfl rfl
theorem s141_24 : ni_T d 141 24 [.ref o, a1, a2, a3] st z h Q = ni_T d 141 25 [.ref o, a1, a2, a3] (.ref o :: st) z h Q := ni_T_p rfl rfl
theorem s141_25 : ni_T d 141 25 [a0, a1, a2, a3] st z h Q = ni_T d 141 27 [a0, a1, a2, a3] (.int (-6) :: st) z h Q := ni_T_p rfl rfl
theorem s141_27 : ni_T (d + 1) 141 27 [a0, a1, a2, a3] (.int x0 :: .ref o :: st) z h Q = (ni_rc (h o) 7 = true ∧ Nat.ble (ni_sw st) 8 = true ∧ ni_T d 120 0 [.ref o, .int x0] [] z h (ni_K (d + 1) 141 30 [a0, a1, a2, a3] st z Q)) := ni_T_ce [.ref o, .int x0] rfl rfl rfl rfl rfl rfl rfl rfl rfl
theorem s141_30 : ni_T d 141 30 [a0, a1, a2, a3] [.int x] z h Q = Q (some (.int x)) z h := ni_T_i rfl rfl
theorem s141_31 : ni_T d 141 31 [.ref o, a1, a2, a3] st z h Q = ni_T d 141 32 [.ref o, a1, a2, a3] (.ref o :: st) z h Q := ni_T_p rfl rfl
theorem s141_32 : ni_T d 141 32 [a0, a1, a2, a3] (.ref o :: st) z h Q = (ni_is (h o) 7 8 = true ∧ ni_T d 141 35 [a0, a1, a2, a3] (ni_gv (h o) 8 :: st) z h Q) := ni_T_getf rfl
theorem s141_35 : ni_T d 141 35 [a0, .int x, a2, a3] st z h Q = ni_T d 141 36 [a0, .int x, a2, a3] (.int x :: st) z h Q := ni_T_p rfl rfl
theorem s141_36 : ni_T d 141 36 [a0, a1, a2, a3] (.int x :: .ref o :: st) z h Q = (ni_okI (h o) x = true ∧ ni_T d 141 37 [a0, a1, a2, a3] (.int (ni_gi (h o) x) :: st) z h Q) := ni_T_iald rfl
theorem s141_37 : ni_T d 141 37 [a0, a1, a2, a3] (.int x :: st) z h Q = ni_T d 141 38 [a0, a1, ni_kl a2, .int x] st z h Q := ni_T_p rfl rfl
theorem s141_38 : ni_T d 141 38 [.ref o, a1, a2, a3] st z h Q = ni_T d 141 39 [.ref o, a1, a2, a3] (.ref o :: st) z h Q := ni_T_p rfl rfl
theorem s141_39 : ni_T d 141 39 [a0, a1, a2, a3] (.ref o :: st) z h Q = (ni_is (h o) 7 8 = true ∧ ni_T d 141 42 [a0, a1, a2, a3] (ni_gv (h o) 8 :: st) z h Q) := ni_T_getf rfl
theorem s141_42 : ni_T d 141 42 [a0, .int x, a2, a3] st z h Q = ni_T d 141 43 [a0, .int x, a2, a3] (.int x :: st) z h Q := ni_T_p rfl rfl
theorem s141_43 : ni_T d 141 43 [a0, a1, .int x, a3] st z h Q = ni_T d 141 44 [a0, a1, .int x, a3] (.int x :: st) z h Q := ni_T_p rfl rfl
theorem s141_44 : ni_T d 141 44 [a0, a1, a2, a3] (.int y :: .int x :: .ref o :: st) z h Q = (ni_okS (h o) x = true ∧ ni_T d 141 45 [a0, a1, a2, a3] st z (ni_up h o (ni_pi (h o) x y)) Q) := ni_T_iast rfl
theorem s141_45 : ni_T d 141 45 [a0, a1, a2, .int x] st z h Q = ni_T d 141 46 [a0, a1, a2, .int x] (.int x :: st) z h Q := ni_T_p rfl rfl
theorem s141_46 : ni_T d 141 46 [a0, a1, a2, a3] [.int x] z h Q = Q (some (.int x)) z h := ni_T_i rfl rfl
theorem s142_0 : ni_T d 142 0 [.ref o, a1, a2] st z h Q = ni_T d 142 1 [.ref o, a1, a2] (.ref o :: st) z h Q := ni_T_p rfl rfl
theorem s142_1 : ni_T d 142 1 [a0, .int x, a2] st z h Q = ni_T d 142 2 [a0, .int x, a2] (.int x :: st) z h Q := ni_T_p rfl rfl
theorem s142_2 : ni_T (d + 1) 142 2 [a0, a1, a2] (.int x0 :: .ref o :: st) z h Q = (ni_rc (h o) 7 = true ∧ Nat.ble (ni_sw st) 8 = true ∧ ni_T d 123 0 [.ref o, .int x0] [] z h (ni_K (d + 1) 142 5 [a0, a1, a2] st z Q)) := ni_T_ce [.ref o, .int x0] rfl rfl rfl rfl rfl rfl rfl rfl rfl
theorem s142_5 : ni_T d 142 5 [a0, a1, a2] (.int x :: st) z h Q = if x = 0 then ni_T d 142 8 [a0, a1, a2] st z h Q else ni_T d 142 14 [a0, a1, a2] st z h Q := ni_T_b rfl rfl
theorem s142_8 : ni_T d 142 8 [.ref o, a1, a2] st z h Q = ni_T d 142 9 [.ref o, a1, a2] (.ref o :: st) z h Q := ni_T_p rfl rfl
theorem s142_9 : ni_T d 142 9 [a0, a1, a2] st z h Q = ni_T d 142 10 [a0, a1, a2] (.int (-1) :: st) z h Q := ni_T_p rfl rfl
theorem s142_10 : ni_T (d + 1) 142 10 [a0, a1, a2] (.int x0 :: .ref o :: st) z h Q = (ni_rc (h o) 7 = true ∧ Nat.ble (ni_sw st) 8 = true ∧ ni_T d 120 0 [.ref o, .int x0] [] z h (ni_K (d + 1) 142 13 [a0, a1, a2] st z Q)) := ni_T_ce [.ref o, .int x0] rfl rfl rfl rfl rfl rfl rfl rfl rfl
theorem s142_13 : ni_T d 142 13 [a0, a1, a2] [.int x] z h Q = Q (some (.int x)) z h := ni_T_i rfl rfl
theorem s142_14 : ni_T d 142 14 [.ref o, a1, a2] st z h Q = ni_T d 142 15 [.ref o, a1, a2] (.ref o :: st) z h Q := ni_T_p rfl rfl
theorem s142_15 : ni_T d 142 15 [a0, a1, a2] (.ref o :: st) z h Q = (ni_is (h o) 7 1 = true ∧ ni_T d 142 18 [a0, a1, a2] (ni_gv (h o) 1 :: st) z h Q) := ni_T_getf rfl
theorem s142_18 : ni_T d 142 18 [a0, a1, a2] (.int x :: st) z h Q = ni_T d 142 19 [a0, ni_kl a1, .int x] st z h Q := ni_T_p rfl rfl
theorem s142_19 : ni_T d 142 19 [.ref o, a1, a2] st z h Q = ni_T d 142 20 [.ref o, a1, a2] (.ref o :: st) z h Q := ni_T_p rfl rfl
theorem s142_20 : ni_T d 142 20 [a0, .int x, a2] st z h Q = ni_T d 142 21 [a0, .int x, a2] (.int x :: st) z h Q := ni_T_p rfl rfl
theorem s142_21 : ni_T d 142 21 [a0, a1, a2] (b0 :: .ref o :: st) z h Q = ((Nat.ble 7 7 && ni_is (h o) 7 1 && ni_fit (.int) b0) = true ∧ ni_T d 142 24 [a0, a1, a2] st z (ni_up h o (ni_pv (h o) 1 b0)) Q) := ni_T_putf rfl
theorem s142_24 : ni_T d 142 24 [a0, a1, .int x] st z h Q = ni_T d 142 25 [a0, a1, .int x] (.int x :: st) z h Q := ni_T_p rfl rfl
theorem s142_25 : ni_T d 142 25 [a0, a1, a2] [.int x] z h Q = Q (some (.int x)) z h := ni_T_i rfl rfl
theorem s143_0 : ni_T d 143 0 [a0, a1, a2] st z h Q = ni_T d 143 1 [a0, a1, a2] (.int 0 :: st) z h Q := ni_T_p rfl rfl
theorem s143_1 : ni_T d 143 1 [a0, a1, a2] (.int x :: st) z h Q = ni_T d 143 2 [ni_kl a0, .int x, a2] st z h Q := ni_T_p rfl rfl
theorem s143_2 : ni_T d 143 2 [a0, a1, a2] st z h Q = ni_T d 143 3 [a0, a1, a2] (.int 0 :: st) z h Q := ni_T_p rfl rfl
theorem s143_3 : ni_T d 143 3 [a0, a1, a2] (.int x :: st) z h Q = ni_T d 143 4 [a0, ni_kl a1, .int x] st z h Q := ni_T_p rfl rfl
theorem s143_4 : ni_T d 143 4 [a0, a1, .int x] st z h Q = ni_T d 143 5 [a0, a1, .int x] (.int x :: st) z h Q := ni_T_p rfl rfl
theorem s143_5 : ni_T d 143 5 [a0, a1, a2] st z h Q = ni_T d 143 6 [a0, a1, a2] (.int 5 :: st) z h Q := ni_T_p rfl rfl
theorem s143_6 : ni_T d 143 6 [a0, a1, a2] (.int y :: .int x :: st) z h Q = if y ≤ x then ni_T d 143 31 [a0, a1, a2] st z h Q else ni_T d 143 9 [a0, a1, a2] st z h Q := ni_T_b rfl rfl
theorem s143_9 : ni_T d 143 9 [.ref o, a1, a2] st z h Q = ni_T d 143 10 [.ref o, a1, a2] (.ref o :: st) z h Q := ni_T_p rfl rfl
theorem s143_10 : ni_T d 143 10 [a0, a1, a2] (.ref o :: st) z h Q = (ni_is (h o) 7 11 = true ∧ ni_T d 143 13 [a0, a1, a2] (ni_gv (h o) 11 :: st) z h Q) := ni_T_getf rfl
theorem s143_13 : ni_T d 143 13 [a0, a1, .int x] st z h Q = ni_T d 143 14 [a0, a1, .int x] (.int x :: st) z h Q := ni_T_p rfl rfl
theorem s143_14 : ni_T d 143 14 [a0, a1, a2] (.int x :: .ref o :: st) z h Q = (ni_okI (h o) x = true ∧ ni_T d 143 15 [a0, a1, a2] (.int (ni_gi (h o) x) :: st) z h Q) := ni_T_iald rfl
theorem s143_15 : ni_T d 143 15 [a0, a1, a2] st z h Q = ni_T d 143 16 [a0, a1, a2] (.int (-1) :: st) z h Q := ni_T_p rfl rfl
theorem s143_16 : ni_T d 143 16 [a0, a1, a2] (.int y :: .int x :: st) z h Q = if x = y then ni_T d 143 25 [a0, a1, a2] st z h Q else ni_T d 143 19 [a0, a1, a2] st z h Q := ni_T_b rfl rfl
theorem s143_19 : ni_T d 143 19 [a0, .int x, a2] st z h Q = ni_T d 143 20 [a0, .int x, a2] (.int x :: st) z h Q := ni_T_p rfl rfl
theorem s143_20 : ni_T d 143 20 [a0, a1, a2] st z h Q = ni_T d 143 21 [a0, a1, a2] (.int 1 :: st) z h Q := ni_T_p rfl rfl
theorem s143_21 : ni_T d 143 21 [a0, a1, .int x] st z h Q = ni_T d 143 22 [a0, a1, .int x] (.int x :: st) z h Q := ni_T_p rfl rfl
theorem s143_22 : ni_T d 143 22 [a0, a1, a2] (.int y :: .int x :: st) z h Q = ni_T d 143 23 [a0, a1, a2] (.int (x <<< (y &&& 31)) :: st) z h Q := ni_T_p rfl rfl
theorem s143_23 : ni_T d 143 23 [a0, a1, a2] (.int y :: .int x :: st) z h Q = ni_T d 143 24 [a0, a1, a2] (.int (x ||| y) :: st) z h Q := ni_T_p rfl rfl
theorem s143_24 : ni_T d 143 24 [a0, a1, a2] (.int x :: st) z h Q = ni_T d 143 25 [ni_kl a0, .int x, a2] st z h Q := ni_T_p rfl rfl
theorem s143_25 : ni_T d 143 25 [a0, a1, .int x] st z h Q = ni_T d 143 28 [a0, ni_kl a1, .int (x + 1)] st z h Q := ni_T_p rfl rfl
theorem s143_28 : ni_T d 143 28 [a0, a1, a2] st z h Q = ni_T d 143 4 [a0, a1, a2] st z h Q := ni_T_p rfl rfl
theorem s143_31 : ni_T d 143 31 [a0, .int x, a2] st z h Q = ni_T d 143 32 [a0, .int x, a2] (.int x :: st) z h Q := ni_T_p rfl rfl
theorem s143_32 : ni_T d 143 32 [a0, a1, a2] [.int x] z h Q = Q (some (.int x)) z h := ni_T_i rfl rfl
theorem s144_0 : ni_T d 144 0 [a0, a1, a2, a3] st z h Q = ni_T d 144 1 [a0, a1, a2, a3] (.int 0 :: st) z h Q := ni_T_p rfl rfl
theorem s144_1 : ni_T d 144 1 [a0, a1, a2, a3] (.int x :: st) z h Q = ni_T d 144 2 [a0, ni_kl a1, .int x, a3] st z h Q := ni_T_p rfl rfl
theorem s144_2 : ni_T d 144 2 [a0, a1, a2, a3] st z h Q = ni_T d 144 3 [a0, a1, a2, a3] (.int 0 :: st) z h Q := ni_T_p rfl rfl
theorem s144_3 : ni_T d 144 3 [a0, a1, a2, a3] (.int x :: st) z h Q = ni_T d 144 4 [a0, a1, ni_kl a2, .int x] st z h Q := ni_T_p rfl rfl
theorem s144_4 : ni_T d 144 4 [a0, a1, a2, .int x] st z h Q = ni_T d 144 5 [a0, a1, a2, .int x] (.int x :: st) z h Q := ni_T_p rfl rfl
theorem s144_5 : ni_T d 144 5 [a0, a1, a2, a3] st z h Q = ni_T d 144 6 [a0, a1, a2, a3] (.int 5 :: st) z h Q := ni_T_p rfl rfl
theorem s144_6 : ni_T d 144 6 [a0, a1, a2, a3] (.int y :: .int x :: st) z h Q = if y ≤ x then ni_T d 144 23 [a0, a1, a2, a3] st z h Q else ni_T d 144 9 [a0, a1, a2, a3] st z h Q := ni_T_b rfl rfl
theorem s144_9 : ni_T d 144 9 [a0, a1, .int x, a3] st z h Q = ni_T d 144 10 [a0, a1, .int x, a3] (.int x :: st) z h Q := ni_T_p rfl rfl
theorem s144_10 : ni_T d 144 10 [a0, .int x, a2, a3] st z h Q = ni_T d 144 11 [a0, .int x, a2, a3] (.int x :: st) z h Q := ni_T_p rfl rfl
theorem s144_11 : ni_T d 144 11 [a0, a1, a2, .int x] st z h Q = ni_T d 144 12 [a0, a1, a2, .int x] (.int x :: st) z h Q := ni_T_p rfl rfl
theorem s144_12 : ni_T d 144 12 [a0, a1, a2, a3] (.int y :: .int x :: st) z h Q = ni_T d 144 13 [a0, a1, a2, a3] (.int (x >>> (y &&& 31)) :: st) z h Q := ni_T_p rfl rfl
theorem s144_13 : ni_T d 144 13 [a0, a1, a2, a3] st z h Q = ni_T d 144 14 [a0, a1, a2, a3] (.int 1 :: st) z h Q := ni_T_p rfl rfl
theorem s144_14 : ni_T d 144 14 [a0, a1, a2, a3] (.int y :: .int x :: st) z h Q = ni_T d 144 15 [a0, a1, a2, a3] (.int (x &&& y) :: st) z h Q := ni_T_p rfl rfl
theorem s144_15 : ni_T d 144 15 [a0, a1, a2, a3] (.int y :: .int x :: st) z h Q = ni_T d 144 16 [a0, a1, a2, a3] (.int (x + y) :: st) z h Q := ni_T_p rfl rfl
theorem s144_16 : ni_T d 144 16 [a0, a1, a2, a3] (.int x :: st) z h Q = ni_T d 144 17 [a0, ni_kl a1, .int x, a3] st z h Q := ni_T_p rfl rfl
theorem s144_17 : ni_T d 144 17 [a0, a1, a2, .int x] st z h Q = ni_T d 144 20 [a0, a1, ni_kl a2, .int (x + 1)] st z h Q := ni_T_p rfl rfl
theorem s144_20 : ni_T d 144 20 [a0, a1, a2, a3] st z h Q = ni_T d 144 4 [a0, a1, a2, a3] st z h Q := ni_T_p rfl rfl
theorem s144_23 : ni_T d 144 23 [a0, a1, .int x, a3] st z h Q = ni_T d 144 24 [a0, a1, .int x, a3] (.int x :: st) z h Q := ni_T_p rfl rfl
theorem s144_24 : ni_T d 144 24 [a0, a1, a2, a3] [.int x] z h Q = Q (some (.int x)) z h := ni_T_i rfl rfl
theorem s145_0 : ni_T d 145 0 [.ref o, a1] st z h Q = ni_T d 145 1 [.ref o, a1] (.ref o :: st) z h Q := ni_T_p rfl rfl
theorem s145_1 : ni_T d 145 1 [a0, .int x] st z h Q = ni_T d 145 2 [a0, .int x] (.int x :: st) z h Q := ni_T_p rfl rfl
theorem s145_2 : ni_T d 145 2 [a0, a1] (b0 :: .ref o :: st) z h Q = ((Nat.ble 7 7 && ni_is (h o) 7 24 && ni_fit (.int) b0) = true ∧ ni_T d 145 5 [a0, a1] st z (ni_up h o (ni_pv (h o) 24 b0)) Q) := ni_T_putf rfl
theorem s145_5 : ni_T d 145 5 [a0, a1] st z h Q = ni_T d 145 6 [a0, a1] (.int 0 :: st) z h Q := ni_T_p rfl rfl
theorem s145_6 : ni_T d 145 6 [a0, a1] [.int x] z h Q = (narrow .boolean (.int x) = .int x ∧ Q (some (.int x)) z h) := ni_T_z rfl rfl
theorem s146_0 : ni_T d 146 0 [a0, a1, a2, a3] st z h Q = ni_T d 146 1 [a0, a1, a2, a3] (.int 0 :: st) z h Q := ni_T_p rfl rfl
theorem s146_1 : ni_T d 146 1 [a0, a1, a2, a3] (.int x :: st) z h Q = ni_T d 146 2 [a0, ni_kl a1, .int x, a3] st z h Q := ni_T_p rfl rfl
theorem s146_2 : ni_T d 146 2 [a0, a1, a2, a3] st z h Q = ni_T d 146 3 [a0, a1, a2, a3] (.int 0 :: st) z h Q := ni_T_p rfl rfl
theorem s146_3 : ni_T d 146 3 [a0, a1, a2, a3] (.int x :: st) z h Q = ni_T d 146 4 [a0, a1, ni_kl a2, .int x] st z h Q := ni_T_p rfl rfl
theorem s146_4 : ni_T d 146 4 [a0, a1, a2, .int x] st z h Q = ni_T d 146 5 [a0, a1, a2, .int x] (.int x :: st) z h Q := ni_T_p rfl rfl
theorem s146_5 : ni_T d 146 5 [a0, .int x, a2, a3] st z h Q = ni_T d 146 6 [a0, .int x, a2, a3] (.int x :: st) z h Q := ni_T_p rfl rfl
theorem s146_6 : ni_T d 146 6 [a0, a1, a2, a3] (.int y :: .int x :: st) z h Q = if y ≤ x then ni_T d 146 32 [a0, a1, a2, a3] st z h Q else ni_T d 146 9 [a0, a1, a2, a3] st z h Q := ni_T_b rfl rfl
theorem s146_9 : ni_T d 146 9 [a0, a1, a2, .int x] st z h Q = ni_T d 146 10 [a0, a1, a2, .int x] (.int x :: st) z h Q := ni_T_p rfl rfl
theorem s146_10 : ni_T d 146 10 [.ref o, a1, a2, a3] st z h Q = ni_T d 146 11 [.ref o, a1, a2, a3] (.ref o :: st) z h Q := ni_T_p rfl rfl
theorem s146_11 : ni_T d 146 11 [a0, a1, a2, a3] (.ref o :: st) z h Q = (ni_is (h o) 7 18 = true ∧ ni_T d 146 14 [a0, a1, a2, a3] (ni_gv (h o) 18 :: st) z h Q) := ni_T_getf rfl
theorem s146_14 : ni_T d 146 14 [a0, a1, .int x, a3] st z h Q = ni_T d 146 15 [a0, a1, .int x, a3] (.int x :: st) z h Q := ni_T_p rfl rfl
theorem s146_15 : ni_T d 146 15 [a0, a1, a2, a3] (.int x :: .ref o :: st) z h Q = (ni_okI (h o) x = true ∧ ni_T d 146 16 [a0, a1, a2, a3] (.int (ni_gi (h o) x) :: st) z h Q) := ni_T_iald rfl
theorem s146_16 : ni_T d 146 16 [a0, a1, a2, a3] (.int x :: st) z h Q = if x = 0 then ni_T d 146 19 [a0, a1, a2, a3] st z h Q else ni_T d 146 23 [a0, a1, a2, a3] st z h Q := ni_T_b rfl rfl
theorem s146_19 : ni_T d 146 19 [a0, a1, a2, a3] st z h Q = ni_T d 146 20 [a0, a1, a2, a3] (.int 1 :: st) z h Q := ni_T_p rfl rfl
theorem s146_20 : ni_T d 146 20 [a0, a1, a2, a3] st z h Q = ni_T d 146 24 [a0, a1, a2, a3] st z h Q := ni_T_p rfl rfl
theorem s146_23 : ni_T d 146 23 [a0, a1, a2, a3] st z h Q = ni_T d 146 24 [a0, a1, a2, a3] (.int 0 :: st) z h Q := ni_T_p rfl rfl
theorem s146_24 : ni_T d 146 24 [a0, a1, a2, a3] (.int y :: .int x :: st) z h Q = ni_T d 146 25 [a0, a1, a2, a3] (.int (x + y) :: st) z h Q := ni_T_p rfl rfl
theorem s146_25 : ni_T d 146 25 [a0, a1, a2, a3] (.int x :: st) z h Q = ni_T d 146 26 [a0, a1, ni_kl a2, .int x] st z h Q := ni_T_p rfl rfl
theorem s146_26 : ni_T d 146 26 [a0, a1, .int x, a3] st z h Q = ni_T d 146 29 [a0, ni_kl a1, .int (x + 1), a3] st z h Q := ni_T_p rfl rfl
theorem s146_29 : ni_T d 146 29 [a0, a1, a2, a3] st z h Q = ni_T d 146 4 [a0, a1, a2, a3] st z h Q := ni_T_p rfl rfl
theorem s146_32 : ni_T d 146 32 [.ref o, a1, a2, a3] st z h Q = ni_T d 146 33 [.ref o, a1, a2, a3] (.ref o :: st) z h Q := ni_T_p rfl rfl
theorem s146_33 : ni_T d 146 33 [a0, a1, a2, a3] (.ref o :: st) z h Q = (ni_is (h o) 7 21 = true ∧ ni_T d 146 36 [a0, a1, a2, a3] (ni_gv (h o) 21 :: st) z h Q) := ni_T_getf rfl
theorem s146_36 : ni_T d 146 36 [a0, a1, a2, a3] (.int x :: st) z h Q = ni_T d 146 37 [a0, a1, ni_kl a2, .int x] st z h Q := ni_T_p rfl rfl
theorem s146_37 : ni_T d 146 37 [.ref o, a1, a2, a3] st z h Q = ni_T d 146 38 [.ref o, a1, a2, a3] (.ref o :: st) z h Q := ni_T_p rfl rfl
theorem s146_38 : ni_T d 146 38 [a0, a1, a2, a3] (.ref o :: st) z h Q = (ni_is (h o) 7 18 = true ∧ ni_T d 146 41 [a0, a1, a2, a3] (ni_gv (h o) 18 :: st) z h Q) := ni_T_getf rfl
theorem s146_41 : ni_T d 146 41 [a0, a1, .int x, a3] st z h Q = ni_T d 146 42 [a0, a1, .int x, a3] (.int x :: st) z h Q := ni_T_p rfl rfl
theorem s146_42 : ni_T d 146 42 [a0, a1, a2, a3] (.int x :: .ref o :: st) z h Q = (ni_okI (h o) x = true ∧ ni_T d 146 43 [a0, a1, a2, a3] (.int (ni_gi (h o) x) :: st) z h Q) := ni_T_iald rfl
theorem s146_43 : ni_T d 146 43 [a0, a1, a2, a3] st z h Q = ni_T d 146 45 [a0, a1, a2, a3] (.int 32 :: st) z h Q := ni_T_p rfl rfl
theorem s146_45 : ni_T d 146 45 [a0, a1, a2, a3] (.int y :: .int x :: st) z h Q = if x ≤ y then ni_T d 146 86 [a0, a1, a2, a3] st z h Q else ni_T d 146 48 [a0, a1, a2, a3] st z h Q := ni_T_b rfl rfl
theorem s146_48 : ni_T d 146 48 [a0, a1, a2, .int x] st z h Q = ni_T d 146 49 [a0, a1, a2, .int x] (.int x :: st) z h Q := ni_T_p rfl rfl
theorem s146_49 : ni_T d 146 49 [.ref o, a1, a2, a3] st z h Q = ni_T d 146 50 [.ref o, a1, a2, a3] (.ref o :: st) z h Q := ni_T_p rfl rfl
theorem s146_50 : ni_T d 146 50 [a0, a1, a2, a3] (.ref o :: st) z h Q = (ni_is (h o) 7 22 = true ∧ ni_T d 146 53 [a0, a1, a2, a3] (ni_gv (h o) 22 :: st) z h Q) := ni_T_getf rfl
theorem s146_53 : ni_T d 146 53 [a0, a1, a2, a3] (.int y :: .int x :: st) z h Q = if y ≤ x then ni_T d 146 86 [a0, a1, a2, a3] st z h Q else ni_T d 146 56 [a0, a1, a2, a3] st z h Q := ni_T_b rfl rfl
theorem s146_56 : ni_T d 146 56 [.ref o, a1, a2, a3] st z h Q = ni_T d 146 57 [.ref o, a1, a2, a3] (.ref o :: st) z h Q := ni_T_p rfl rfl
theorem s146_57 : ni_T d 146 57 [a0, a1, a2, a3] (.ref o :: st) z h Q = (ni_is (h o) 7 16 = true ∧ ni_T d 146 60 [a0, a1, a2, a3] (ni_gv (h o) 16 :: st) z h Q) := ni_T_getf rfl
theorem s146_60 : ni_T d 146 60 [.ref o, a1, a2, a3] st z h Q = ni_T d 146 61 [.ref o, a1, a2, a3] (.ref o :: st) z h Q := ni_T_p rfl rfl
theorem s146_61 : ni_T d 146 61 [a0, a1, a2, a3] (.ref o :: st) z h Q = (ni_is (h o) 7 20 = true ∧ ni_T d 146 64 [a0, a1, a2, a3] (ni_gv (h o) 20 :: st) z h Q) := ni_T_getf rfl
theorem s146_64 : ni_T d 146 64 [a0, a1, a2, .int x] st z h Q = ni_T d 146 65 [a0, a1, a2, .int x] (.int x :: st) z h Q := ni_T_p rfl rfl
theorem s146_65 : ni_T d 146 65 [a0, a1, a2, a3] (.int y :: .int x :: st) z h Q = ni_T d 146 66 [a0, a1, a2, a3] (.int (x + y) :: st) z h Q := ni_T_p rfl rfl
theorem s146_66 : ni_T d 146 66 [a0, a1, a2, a3] (.int x :: .ref o :: st) z h Q = (ni_okL (h o) x = true ∧ ni_T d 146 67 [a0, a1, a2, a3] (.long (ni_gl (h o) x) :: st) z h Q) := ni_T_lald rfl
theorem s146_67 : ni_T d 146 67 [a0, a1, a2, a3] (.long u :: st) z h Q = ni_T d 146 68 [a0, a1, a2, a3] (.int u.toInt32 :: st) z h Q := ni_T_p rfl rfl
theorem s146_68 : ni_T d 146 68 [.ref o, a1, a2, a3] st z h Q = ni_T d 146 69 [.ref o, a1, a2, a3] (.ref o :: st) z h Q := ni_T_p rfl rfl
theorem s146_69 : ni_T d 146 69 [a0, a1, a2, a3] (.ref o :: st) z h Q = (ni_is (h o) 7 18 = true ∧ ni_T d 146 72 [a0, a1, a2, a3] (ni_gv (h o) 18 :: st) z h Q) := ni_T_getf rfl
theorem s146_72 : ni_T d 146 72 [a0, a1, .int x, a3] st z h Q = ni_T d 146 73 [a0, a1, .int x, a3] (.int x :: st) z h Q := ni_T_p rfl rfl
theorem s146_73 : ni_T d 146 73 [a0, a1, a2, a3] (.int x :: .ref o :: st) z h Q = (ni_okI (h o) x = true ∧ ni_T d 146 74 [a0, a1, a2, a3] (.int (ni_gi (h o) x) :: st) z h Q) := ni_T_iald rfl
theorem s146_74 : ni_T d 146 74 [a0, a1, a2, a3] (.int y :: .int x :: st) z h Q = if x = y then ni_T d 146 77 [a0, a1, a2, a3] st z h Q else ni_T d 146 86 [a0, a1, a2, a3] st z h Q := ni_T_b rfl rfl
theorem s146_77 : ni_T d 146 77 [a0, a1, a2, .int x] st z h Q = ni_T d 146 80 [a0, a1, ni_kl a2, .int (x + 1)] st z h Q := ni_T_p rfl rfl
theorem s146_80 : ni_T d 146 80 [a0, a1, .int x, a3] st z h Q = ni_T d 146 83 [a0, ni_kl a1, .int (x + 1), a3] st z h Q := ni_T_p rfl rfl
theorem s146_83 : ni_T d 146 83 [a0, a1, a2, a3] st z h Q = ni_T d 146 37 [a0, a1, a2, a3] st z h Q := ni_T_p rfl rfl
theorem s146_86 : ni_T d 146 86 [.ref o, a1, a2, a3] st z h Q = ni_T d 146 87 [.ref o, a1, a2, a3] (.ref o :: st) z h Q := ni_T_p rfl rfl
theorem s146_87 : ni_T d 146 87 [a0, a1, a2, a3] (.ref o :: st) z h Q = (ni_is (h o) 7 18 = true ∧ ni_T d 146 90 [a0, a1, a2, a3] (ni_gv (h o) 18 :: st) z h Q) := ni_T_getf rfl
theorem s146_90 : ni_T d 146 90 [a0, a1, .int x, a3] st z h Q = ni_T d 146 91 [a0, a1, .int x, a3] (.int x :: st) z h Q := ni_T_p rfl rfl
theorem s146_91 : ni_T d 146 91 [a0, a1, a2, a3] (.int x :: .ref o :: st) z h Q = (ni_okI (h o) x = true ∧ ni_T d 146 92 [a0, a1, a2, a3] (.int (ni_gi (h o) x) :: st) z h Q) := ni_T_iald rfl
theorem s146_92 : ni_T d 146 92 [a0, a1, a2, a3] st z h Q = ni_T d 146 94 [a0, a1, a2, a3] (.int 32 :: st) z h Q := ni_T_p rfl rfl
theorem s146_94 : ni_T d 146 94 [a0, a1, a2, a3] (.int y :: .int x :: st) z h Q = if y < x then ni_T d 146 101 [a0, a1, a2, a3] st z h Q else ni_T d 146 97 [a0, a1, a2, a3] st z h Q := ni_T_b rfl rfl
theorem s146_97 : ni_T d 146 97 [a0, a1, a2, a3] st z h Q = ni_T d 146 98 [a0, a1, a2, a3] (.int 1 :: st) z h Q := ni_T_p rfl rfl
theorem s146_98 : ni_T d 146 98 [a0, a1, a2, a3] st z h Q = ni_T d 146 102 [a0, a1, a2, a3] st z h Q := ni_T_p rfl rfl
theorem s146_101 : ni_T d 146 101 [a0, a1, a2, a3] st z h Q = ni_T d 146 102 [a0, a1, a2, a3] (.int 0 :: st) z h Q := ni_T_p rfl rfl
theorem s146_102 : ni_T d 146 102 [a0, a1, a2, a3] [.int x] z h Q = (narrow .boolean (.int x) = .int x ∧ Q (some (.int x)) z h) := ni_T_z rfl rfl
theorem s147_0 : ni_T d 147 0 [a0, a1, a2, a3, a4, a5] st z h Q = ni_T d 147 1 [a0, a1, a2, a3, a4, a5] (.int 0 :: st) z h Q := ni_T_p rfl rfl
theorem s147_1 : ni_T d 147 1 [a0, a1, a2, a3, a4, a5] (.int x :: st) z h Q = ni_T d 147 2 [ni_kl a0, .int x, a2, a3, a4, a5] st z h Q := ni_T_p rfl rfl
theorem s147_2 : ni_T d 147 2 [.ref o, a1, a2, a3, a4, a5] st z h Q = ni_T d 147 3 [.ref o, a1, a2, a3, a4, a5] (.ref o :: st) z h Q := ni_T_p rfl rfl
theorem s147_3 : ni_T d 147 3 [a0, a1, a2, a3, a4, a5] (.ref o :: st) z h Q = (ni_is (h o) 7 21 = true ∧ ni_T d 147 6 [a0, a1, a2, a3, a4, a5] (ni_gv (h o) 21 :: st) z h Q) := ni_T_getf rfl
theorem s147_6 : ni_T d 147 6 [a0, a1, a2, a3, a4, a5] (.int x :: st) z h Q = ni_T d 147 7 [a0, ni_kl a1, .int x, a3, a4, a5] st z h Q := ni_T_p rfl rfl
theorem s147_7 : ni_T d 147 7 [a0, a1, a2, a3, a4, a5] st z h Q = ni_T d 147 8 [a0, a1, a2, a3, a4, a5] (.int 0 :: st) z h Q := ni_T_p rfl rfl
theorem s147_8 : ni_T d 147 8 [a0, a1, a2, a3, a4, a5] (.int x :: st) z h Q = ni_T d 147 9 [a0, a1, ni_kl a2, .int x, a4, a5] st z h Q := ni_T_p rfl rfl
theorem s147_9 : ni_T d 147 9 [a0, a1, a2, .int x, a4, a5] st z h Q = ni_T d 147 10 [a0, a1, a2, .int x, a4, a5] (.int x :: st) z h Q := ni_T_p rfl rfl
theorem s147_10 : ni_T d 147 10 [a0, a1, a2, a3, a4, a5] st z h Q = ni_T d 147 11 [a0, a1, a2, a3, a4, a5] (.int 5 :: st) z h Q := ni_T_p rfl rfl
theorem s147_11 : ni_T d 147 11 [a0, a1, a2, a3, a4, a5] (.int y :: .int x :: st) z h Q = if y ≤ x then ni_T d 147 129 [a0, a1, a2, a3, a4, a5] st z h Q else ni_T d 147 14 [a0, a1, a2, a3, a4, a5] st z h Q := ni_T_b rfl rfl
theorem s147_14 : ni_T d 147 14 [.ref o, a1, a2, a3, a4, a5] st z h Q = ni_T d 147 15 [.ref o, a1, a2, a3, a4, a5] (.ref o :: st) z h Q := ni_T_p rfl rfl
theorem s147_15 : ni_T d 147 15 [a0, a1, a2, a3, a4, a5] (.ref o :: st) z h Q = (ni_is (h o) 7 21 = true ∧ ni_T d 147 18 [a0, a1, a2, a3, a4, a5] (ni_gv (h o) 21 :: st) z h Q) := ni_T_getf rfl
theorem s147_18 : ni_T d 147 18 [a0, a1, a2, a3, a4, a5] (.int x :: st) z h Q = ni_T d 147 20 [a0, a1, a2, ni_kl a3, .int x, a5] st z h Q := ni_T_p rfl rfl
theorem s147_20 : ni_T d 147 20 [a0, .int x, a2, a3, a4, a5] st z h Q = ni_T d 147 21 [a0, .int x, a2, a3, a4, a5] (.int x :: st) z h Q := ni_T_p rfl rfl
theorem s147_21 : ni_T d 147 21 [a0, a1, a2, a3, a4, a5] (.int x :: st) z h Q = ni_T d 147 23 [a0, a1, a2, a3, ni_kl a4, .int x] st z h Q := ni_T_p rfl rfl
theorem s147_23 : ni_T d 147 23 [.ref o, a1, a2, a3, a4, a5] st z h Q = ni_T d 147 24 [.ref o, a1, a2, a3, a4, a5] (.ref o :: st) z h Q := ni_T_p rfl rfl
theorem s147_24 : ni_T d 147 24 [a0, a1, a2, a3, a4, a5] (.ref o :: st) z h Q = (ni_is (h o) 7 18 = true ∧ ni_T d 147 27 [a0, a1, a2, a3, a4, a5] (ni_gv (h o) 18 :: st) z h Q) := ni_T_getf rfl
theorem s147_27 : ni_T d 147 27 [a0, a1, a2, a3, a4, .int x] st z h Q = ni_T d 147 29 [a0, a1, a2, a3, a4, .int x] (.int x :: st) z h Q := ni_T_p rfl rfl
theorem s147_29 : ni_T d 147 29 [a0, a1, a2, a3, a4, a5] (.int x :: .ref o :: st) z h Q = (ni_okI (h o) x = true ∧ ni_T d 147 30 [a0, a1, a2, a3, a4, a5] (.int (ni_gi (h o) x) :: st) z h Q) := ni_T_iald rfl
theorem s147_30 : ni_T d 147 30 [a0, a1, a2, a3, a4, a5] (.int x :: st) z h Q = if x = 0 then ni_T d 147 74 [a0, a1, a2, a3, a4, a5] st z h Q else ni_T d 147 33 [a0, a1, a2, a3, a4, a5] st z h Q := ni_T_b rfl rfl
theorem s147_33 : ni_T d 147 33 [a0, a1, a2, a3, .int x, a5] st z h Q = ni_T d 147 35 [a0, a1, a2, a3, .int x, a5] (.int x :: st) z h Q := ni_T_p rfl rfl
theorem s147_35 : ni_T d 147 35 [.ref o, a1, a2, a3, a4, a5] st z h Q = ni_T d 147 36 [.ref o, a1, a2, a3, a4, a5] (.ref o :: st) z h Q := ni_T_p rfl rfl
theorem s147_36 : ni_T d 147 36 [a0, a1, a2, a3, a4, a5] (.ref o :: st) z h Q = (ni_is (h o) 7 22 = true ∧ ni_T d 147 39 [a0, a1, a2, a3, a4, a5] (ni_gv (h o) 22 :: st) z h Q) := ni_T_getf rfl
theorem s147_39 : ni_T d 147 39 [a0, a1, a2, a3, a4, a5] (.int y :: .int x :: st) z h Q = if y ≤ x then ni_T d 147 74 [a0, a1, a2, a3, a4, a5] st z h Q else ni_T d 147 42 [a0, a1, a2, a3, a4, a5] st z h Q := ni_T_b rfl rfl
theorem s147_42 : ni_T d 147 42 [.ref o, a1, a2, a3, a4, a5] st z h Q = ni_T d 147 43 [.ref o, a1, a2, a3, a4, a5] (.ref o :: st) z h Q := ni_T_p rfl rfl
theorem s147_43 : ni_T d 147 43 [a0, a1, a2, a3, a4, a5] (.ref o :: st) z h Q = (ni_is (h o) 7 16 = true ∧ ni_T d 147 46 [a0, a1, a2, a3, a4, a5] (ni_gv (h o) 16 :: st) z h Q) := ni_T_getf rfl
theorem s147_46 : ni_T d 147 46 [.ref o, a1, a2, a3, a4, a5] st z h Q = ni_T d 147 47 [.ref o, a1, a2, a3, a4, a5] (.ref o :: st) z h Q := ni_T_p rfl rfl
theorem s147_47 : ni_T d 147 47 [a0, a1, a2, a3, a4, a5] (.ref o :: st) z h Q = (ni_is (h o) 7 20 = true ∧ ni_T d 147 50 [a0, a1, a2, a3, a4, a5] (ni_gv (h o) 20 :: st) z h Q) := ni_T_getf rfl
theorem s147_50 : ni_T d 147 50 [a0, a1, a2, a3, .int x, a5] st z h Q = ni_T d 147 52 [a0, a1, a2, a3, .int x, a5] (.int x :: st) z h Q := ni_T_p rfl rfl
theorem s147_52 : ni_T d 147 52 [a0, a1, a2, a3, a4, a5] (.int y :: .int x :: st) z h Q = ni_T d 147 53 [a0, a1, a2, a3, a4, a5] (.int (x + y) :: st) z h Q := ni_T_p rfl rfl
theorem s147_53 : ni_T d 147 53 [a0, a1, a2, a3, a4, a5] (.int x :: .ref o :: st) z h Q = (ni_okL (h o) x = true ∧ ni_T d 147 54 [a0, a1, a2, a3, a4, a5] (.long (ni_gl (h o) x) :: st) z h Q) := ni_T_lald rfl
theorem s147_54 : ni_T d 147 54 [a0, a1, a2, a3, a4, a5] (.long u :: st) z h Q = ni_T d 147 55 [a0, a1, a2, a3, a4, a5] (.int u.toInt32 :: st) z h Q := ni_T_p rfl rfl
theorem s147_55 : ni_T d 147 55 [.ref o, a1, a2, a3, a4, a5] st z h Q = ni_T d 147 56 [.ref o, a1, a2, a3, a4, a5] (.ref o :: st) z h Q := ni_T_p rfl rfl
theorem s147_56 : ni_T d 147 56 [a0, a1, a2, a3, a4, a5] (.ref o :: st) z h Q = (ni_is (h o) 7 18 = true ∧ ni_T d 147 59 [a0, a1, a2, a3, a4, a5] (ni_gv (h o) 18 :: st) z h Q) := ni_T_getf rfl
theorem s147_59 : ni_T d 147 59 [a0, a1, a2, a3, a4, .int x] st z h Q = ni_T d 147 61 [a0, a1, a2, a3, a4, .int x] (.int x :: st) z h Q := ni_T_p rfl rfl
theorem s147_61 : ni_T d 147 61 [a0, a1, a2, a3, a4, a5] (.int x :: .ref o :: st) z h Q = (ni_okI (h o) x = true ∧ ni_T d 147 62 [a0, a1, a2, a3, a4, a5] (.int (ni_gi (h o) x) :: st) z h Q) := ni_T_iald rfl
theorem s147_62 : ni_T d 147 62 [a0, a1, a2, a3, a4, a5] (.int y :: .int x :: st) z h Q = if x = y then ni_T d 147 65 [a0, a1, a2, a3, a4, a5] st z h Q else ni_T d 147 74 [a0, a1, a2, a3, a4, a5] st z h Q := ni_T_b rfl rfl
theorem s147_65 : ni_T d 147 65 [a0, a1, a2, a3, .int x, a5] st z h Q = ni_T d 147 68 [a0, a1, a2, ni_kl a3, .int (x + 1), a5] st z h Q := ni_T_p rfl rfl
theorem s147_68 : ni_T d 147 68 [a0, a1, a2, a3, a4, .int x] st z h Q = ni_T d 147 71 [a0, a1, a2, a3, ni_kl a4, .int (x + 1)] st z h Q := ni_T_p rfl rfl
theorem s147_71 : ni_T d 147 71 [a0, a1, a2, a3, a4, a5] st z h Q = ni_T d 147 23 [a0, a1, a2, a3, a4, a5] st z h Q := ni_T_p rfl rfl
theorem s147_74 : ni_T d 147 74 [.ref o, a1, a2, a3, a4, a5] st z h Q = ni_T d 147 75 [.ref o, a1, a2, a3, a4, a5] (.ref o :: st) z h Q := ni_T_p rfl rfl
theorem s147_75 : ni_T d 147 75 [a0, a1, a2, a3, a4, a5] (.ref o :: st) z h Q = (ni_is (h o) 7 18 = true ∧ ni_T d 147 78 [a0, a1, a2, a3, a4, a5] (ni_gv (h o) 18 :: st) z h Q) := ni_T_getf rfl
theorem s147_78 : ni_T d 147 78 [a0, a1, a2, a3, a4, .int x] st z h Q = ni_T d 147 80 [a0, a1, a2, a3, a4, .int x] (.int x :: st) z h Q := ni_T_p rfl rfl
theorem s147_80 : ni_T d 147 80 [a0, a1, a2, a3, a4, a5] (.int x :: .ref o :: st) z h Q = (ni_okI (h o) x = true ∧ ni_T d 147 81 [a0, a1, a2, a3, a4, a5] (.int (ni_gi (h o) x) :: st) z h Q) := ni_T_iald rfl
theorem s147_81 : ni_T d 147 81 [a0, a1, a2, a3, a4, a5] (.int x :: st) z h Q = if x = 0 then ni_T d 147 84 [a0, a1, a2, a3, a4, a5] st z h Q else ni_T d 147 92 [a0, a1, a2, a3, a4, a5] st z h Q := ni_T_b rfl rfl
theorem s147_84 : ni_T d 147 84 [.ref o, a1, a2, a3, a4, a5] st z h Q = ni_T d 147 85 [.ref o, a1, a2, a3, a4, a5] (.ref o :: st) z h Q := ni_T_p rfl rfl
theorem s147_85 : ni_T d 147 85 [a0, a1, a2, a3, .int x, a5] st z h Q = ni_T d 147 87 [a0, a1, a2, a3, .int x, a5] (.int x :: st) z h Q := ni_T_p rfl rfl
theorem s147_87 : ni_T d 147 87 [a0, a1, a2, a3, a4, a5] (b0 :: .ref o :: st) z h Q = ((Nat.ble 7 7 && ni_is (h o) 7 21 && ni_fit (.int) b0) = true ∧ ni_T d 147 90 [a0, a1, a2, a3, a4, a5] st z (ni_up h o (ni_pv (h o) 21 b0)) Q) := ni_T_putf rfl
theorem s147_90 : ni_T d 147 90 [a0, a1, a2, .int x, a4, a5] st z h Q = ni_T d 147 91 [a0, a1, a2, .int x, a4, a5] (.int x :: st) z h Q := ni_T_p rfl rfl
theorem s147_91 : ni_T d 147 91 [a0, a1, a2, a3, a4, a5] [.int x] z h Q = Q (some (.int x)) z h := ni_T_i rfl rfl
theorem s147_92 : ni_T d 147 92 [a0, a1, a2, a3, .int x, a5] st z h Q = ni_T d 147 94 [a0, a1, a2, a3, .int x, a5] (.int x :: st) z h Q := ni_T_p rfl rfl
theorem s147_94 : ni_T d 147 94 [a0, a1, .int x, a3, a4, a5] st z h Q = ni_T d 147 95 [a0, a1, .int x, a3, a4, a5] (.int x :: st) z h Q := ni_T_p rfl rfl
theorem s147_95 : ni_T d 147 95 [a0, a1, a2, a3, a4, a5] (.int y :: .int x :: st) z h Q = if x ≤ y then ni_T d 147 103 [a0, a1, a2, a3, a4, a5] st z h Q else ni_T d 147 98 [a0, a1, a2, a3, a4, a5] st z h Q := ni_T_b rfl rfl
theorem s147_98 : ni_T d 147 98 [a0, a1, a2, a3, .int x, a5] st z h Q = ni_T d 147 100 [a0, a1, a2, a3, .int x, a5] (.int x :: st) z h Q := ni_T_p rfl rfl
theorem s147_100 : ni_T d 147 100 [a0, a1, a2, a3, a4, a5] st z h Q = ni_T d 147 104 [a0, a1, a2, a3, a4, a5] st z h Q := ni_T_p rfl rfl
theorem s147_103 : ni_T d 147 103 [a0, a1, .int x, a3, a4, a5] st z h Q = ni_T d 147 104 [a0, a1, .int x, a3, a4, a5] (.int x :: st) z h Q := ni_T_p rfl rfl
theorem s147_104 : ni_T d 147 104 [a0, a1, a2, a3, a4, a5] (.int x :: st) z h Q = ni_T d 147 105 [a0, ni_kl a1, .int x, a3, a4, a5] st z h Q := ni_T_p rfl rfl
theorem s147_105 : ni_T d 147 105 [.ref o, a1, a2, a3, a4, a5] st z h Q = ni_T d 147 106 [.ref o, a1, a2, a3, a4, a5] (.ref o :: st) z h Q := ni_T_p rfl rfl
theorem s147_106 : ni_T d 147 106 [a0, a1, a2, a3, a4, a5] (.ref o :: st) z h Q = (ni_is (h o) 7 18 = true ∧ ni_T d 147 109 [a0, a1, a2, a3, a4, a5] (ni_gv (h o) 18 :: st) z h Q) := ni_T_getf rfl
theorem s147_109 : ni_T d 147 109 [a0, .int x, a2, a3, a4, a5] st z h Q = ni_T d 147 110 [a0, .int x, a2, a3, a4, a5] (.int x :: st) z h Q := ni_T_p rfl rfl
theorem s147_110 : ni_T d 147 110 [a0, a1, a2, a3, a4, a5] (.int x :: .ref o :: st) z h Q = (ni_okI (h o) x = true ∧ ni_T d 147 111 [a0, a1, a2, a3, a4, a5] (.int (ni_gi (h o) x) :: st) z h Q) := ni_T_iald rfl
theorem s147_111 : ni_T d 147 111 [a0, a1, a2, a3, a4, a5] (.int x :: st) z h Q = if x = 0 then ni_T d 147 120 [a0, a1, a2, a3, a4, a5] st z h Q else ni_T d 147 114 [a0, a1, a2, a3, a4, a5] st z h Q := ni_T_b rfl rfl
theorem s147_114 : ni_T d 147 114 [a0, .int x, a2, a3, a4, a5] st z h Q = ni_T d 147 117 [ni_kl a0, .int (x + 1), a2, a3, a4, a5] st z h Q := ni_T_p rfl rfl
theorem s147_117 : ni_T d 147 117 [a0, a1, a2, a3, a4, a5] st z h Q = ni_T d 147 105 [a0, a1, a2, a3, a4, a5] st z h Q := ni_T_p rfl rfl
theorem s147_120 : ni_T d 147 120 [a0, .int x, a2, a3, a4, a5] st z h Q = ni_T d 147 123 [ni_kl a0, .int (x + 1), a2, a3, a4, a5] st z h Q := ni_T_p rfl rfl
theorem s147_123 : ni_T d 147 123 [a0, a1, a2, .int x, a4, a5] st z h Q = ni_T d 147 126 [a0, a1, ni_kl a2, .int (x + 1), a4, a5] st z h Q := ni_T_p rfl rfl
theorem s147_126 : ni_T d 147 126 [a0, a1, a2, a3, a4, a5] st z h Q = ni_T d 147 9 [a0, a1, a2, a3, a4, a5] st z h Q := ni_T_p rfl rfl
theorem s147_129 : ni_T d 147 129 [.ref o, a1, a2, a3, a4, a5] st z h Q = ni_T d 147 130 [.ref o, a1, a2, a3, a4, a5] (.ref o :: st) z h Q := ni_T_p rfl rfl
theorem s147_130 : ni_T d 147 130 [a0, a1, .int x, a3, a4, a5] st z h Q = ni_T d 147 131 [a0, a1, .int x, a3, a4, a5] (.int x :: st) z h Q := ni_T_p rfl rfl
theorem s147_131 : ni_T d 147 131 [a0, a1, a2, a3, a4, a5] (b0 :: .ref o :: st) z h Q = ((Nat.ble 7 7 && ni_is (h o) 7 24 && ni_fit (.int) b0) = true ∧ ni_T d 147 134 [a0, a1, a2, a3, a4, a5] st z (ni_up h o (ni_pv (h o) 24 b0)) Q) := ni_T_putf rfl
theorem s147_134 : ni_T d 147 134 [a0, a1, a2, a3, a4, a5] st z h Q = ni_T d 147 135 [a0, a1, a2, a3, a4, a5] (.int (-1) :: st) z h Q := ni_T_p rfl rfl
theorem s147_135 : ni_T d 147 135 [a0, a1, a2, a3, a4, a5] [.int x] z h Q = Q (some (.int x)) z h := ni_T_i rfl rfl
theorem s148_0 : ni_T d 148 0 [.ref o] st z h Q = ni_T d 148 1 [.ref o] (.ref o :: st) z h Q := ni_T_p rfl rfl
theorem s148_1 : ni_T d 148 1 [a0] (.ref o :: st) z h Q = (ni_is (h o) 7 21 = true ∧ ni_T d 148 4 [a0] (ni_gv (h o) 21 :: st) z h Q) := ni_T_getf rfl
theorem s148_4 : ni_T d 148 4 [.ref o] st z h Q = ni_T d 148 5 [.ref o] (.ref o :: st) z h Q := ni_T_p rfl rfl
theorem s148_5 : ni_T d 148 5 [a0] (.ref o :: st) z h Q = (ni_is (h o) 7 22 = true ∧ ni_T d 148 8 [a0] (ni_gv (h o) 22 :: st) z h Q) := ni_T_getf rfl
theorem s148_8 : ni_T d 148 8 [a0] (.int y :: .int x :: st) z h Q = if y ≤ x then ni_T d 148 55 [a0] st z h Q else ni_T d 148 11 [a0] st z h Q := ni_T_b rfl rfl
theorem s148_11 : ni_T d 148 11 [.ref o] st z h Q = ni_T d 148 12 [.ref o] (.ref o :: st) z h Q := ni_T_p rfl rfl
theorem s148_12 : ni_T d 148 12 [a0] (.ref o :: st) z h Q = (ni_is (h o) 7 16 = true ∧ ni_T d 148 15 [a0] (ni_gv (h o) 16 :: st) z h Q) := ni_T_getf rfl
theorem s148_15 : ni_T d 148 15 [.ref o] st z h Q = ni_T d 148 16 [.ref o] (.ref o :: st) z h Q := ni_T_p rfl rfl
theorem s148_16 : ni_T d 148 16 [a0] (.ref o :: st) z h Q = (ni_is (h o) 7 20 = true ∧ ni_T d 148 19 [a0] (ni_gv (h o) 20 :: st) z h Q) := ni_T_getf rfl
theorem s148_19 : ni_T d 148 19 [.ref o] st z h Q = ni_T d 148 20 [.ref o] (.ref o :: st) z h Q := ni_T_p rfl rfl
theorem s148_20 : ni_T d 148 20 [a0] (.ref o :: st) z h Q = (ni_is (h o) 7 21 = true ∧ ni_T d 148 23 [a0] (ni_gv (h o) 21 :: st) z h Q) := ni_T_getf rfl
theorem s148_23 : ni_T d 148 23 [a0] (.int y :: .int x :: st) z h Q = ni_T d 148 24 [a0] (.int (x + y) :: st) z h Q := ni_T_p rfl rfl
theorem s148_24 : ni_T d 148 24 [a0] (.int x :: .ref o :: st) z h Q = (ni_okL (h o) x = true ∧ ni_T d 148 25 [a0] (.long (ni_gl (h o) x) :: st) z h Q) := ni_T_lald rfl
theorem s148_25 : ni_T d 148 25 [a0] (.long u :: st) z h Q = ni_T d 148 26 [a0] (.int u.toInt32 :: st) z h Q := ni_T_p rfl rfl
theorem s148_26 : ni_T d 148 26 [a0] st z h Q = ni_T d 148 28 [a0] (.int 48 :: st) z h Q := ni_T_p rfl rfl
theorem s148_28 : ni_T d 148 28 [a0] (.int y :: .int x :: st) z h Q = if x < y then ni_T d 148 55 [a0] st z h Q else ni_T d 148 31 [a0] st z h Q := ni_T_b rfl rfl
theorem s148_31 : ni_T d 148 31 [.ref o] st z h Q = ni_T d 148 32 [.ref o] (.ref o :: st) z h Q := ni_T_p rfl rfl
theorem s148_32 : ni_T d 148 32 [a0] (.ref o :: st) z h Q = (ni_is (h o) 7 16 = true ∧ ni_T d 148 35 [a0] (ni_gv (h o) 16 :: st) z h Q) := ni_T_getf rfl
theorem s148_35 : ni_T d 148 35 [.ref o] st z h Q = ni_T d 148 36 [.ref o] (.ref o :: st) z h Q := ni_T_p rfl rfl
theorem s148_36 : ni_T d 148 36 [a0] (.ref o :: st) z h Q = (ni_is (h o) 7 20 = true ∧ ni_T d 148 39 [a0] (ni_gv (h o) 20 :: st) z h Q) := ni_T_getf rfl
theorem s148_39 : ni_T d 148 39 [.ref o] st z h Q = ni_T d 148 40 [.ref o] (.ref o :: st) z h Q := ni_T_p rfl rfl
theorem s148_40 : ni_T d 148 40 [a0] (.ref o :: st) z h Q = (ni_is (h o) 7 21 = true ∧ ni_T d 148 43 [a0] (ni_gv (h o) 21 :: st) z h Q) := ni_T_getf rfl
theorem s148_43 : ni_T d 148 43 [a0] (.int y :: .int x :: st) z h Q = ni_T d 148 44 [a0] (.int (x + y) :: st) z h Q := ni_T_p rfl rfl
theorem s148_44 : ni_T d 148 44 [a0] (.int x :: .ref o :: st) z h Q = (ni_okL (h o) x = true ∧ ni_T d 148 45 [a0] (.long (ni_gl (h o) x) :: st) z h Q) := ni_T_lald rfl
theorem s148_45 : ni_T d 148 45 [a0] (.long u :: st) z h Q = ni_T d 148 46 [a0] (.int u.toInt32 :: st) z h Q := ni_T_p rfl rfl
theorem s148_46 : ni_T d 148 46 [a0] st z h Q = ni_T d 148 48 [a0] (.int 57 :: st) z h Q := ni_T_p rfl rfl
theorem s148_48 : ni_T d 148 48 [a0] (.int y :: .int x :: st) z h Q = if y < x then ni_T d 148 55 [a0] st z h Q else ni_T d 148 51 [a0] st z h Q := ni_T_b rfl rfl
theorem s148_51 : ni_T d 148 51 [a0] st z h Q = ni_T d 148 52 [a0] (.int 1 :: st) z h Q := ni_T_p rfl rfl
theorem s148_52 : ni_T d 148 52 [a0] st z h Q = ni_T d 148 56 [a0] st z h Q := ni_T_p rfl rfl
theorem s148_55 : ni_T d 148 55 [a0] st z h Q = ni_T d 148 56 [a0] (.int 0 :: st) z h Q := ni_T_p rfl rfl
theorem s148_56 : ni_T d 148 56 [a0] [.int x] z h Q = (narrow .boolean (.int x) = .int x ∧ Q (some (.int x)) z h) := ni_T_z rfl rfl
theorem s149_0 : ni_T d 149 0 [.ref o] st z h Q = ni_T d 149 1 [.ref o] (.ref o :: st) z h Q := ni_T_p rfl rfl
theorem s149_1 : ni_T d 149 1 [a0] st z h Q = ni_T d 149 2 [a0] (.int 0 :: st) z h Q := ni_T_p rfl rfl
theorem s149_2 : ni_T d 149 2 [a0] (b0 :: .ref o :: st) z h Q = ((Nat.ble 7 7 && ni_is (h o) 7 23 && ni_fit (.int) b0) = true ∧ ni_T d 149 5 [a0] st z (ni_up h o (ni_pv (h o) 23 b0)) Q) := ni_T_putf rfl
theorem s149_5 : ni_T d 149 5 [.ref o] st z h Q = ni_T d 149 6 [.ref o] (.ref o :: st) z h Q := ni_T_p rfl rfl
theorem s149_6 : ni_T (d + 1) 149 6 [a0] (.ref o :: st) z h Q = (ni_rc (h o) 7 = true ∧ Nat.ble (ni_sw st) 8 = true ∧ ni_T d 148 0 [.ref o] [] z h (ni_K (d + 1) 149 9 [a0] st z Q)) := ni_T_ce [.ref o] rfl rfl rfl rfl rfl rfl rfl rfl rfl
theorem s149_9 : ni_T d 149 9 [a0] (.int x :: st) z h Q = if x = 0 then ni_T d 149 12 [a0] st z h Q else ni_T d 149 21 [a0] st z h Q := ni_T_b rfl rfl
theorem s149_12 : ni_T d 149 12 [.ref o] st z h Q = ni_T d 149 13 [.ref o] (.ref o :: st) z h Q := ni_T_p rfl rfl
theorem s149_13 : ni_T d 149 13 [.ref o] st z h Q = ni_T d 149 14 [.ref o] (.ref o :: st) z h Q := ni_T_p rfl rfl
theorem s149_14 : ni_T d 149 14 [a0] (.ref o :: st) z h Q = (ni_is (h o) 7 21 = true ∧ ni_T d 149 17 [a0] (ni_gv (h o) 21 :: st) z h Q) := ni_T_getf rfl
theorem s149_17 : ni_T (d + 1) 149 17 [a0] (.int x0 :: .ref o :: st) z h Q = (ni_rc (h o) 7 = true ∧ Nat.ble (ni_sw st) 8 = true ∧ ni_T d 145 0 [.ref o, .int x0] [] z h (ni_K (d + 1) 149 20 [a0] st z Q)) := ni_T_ce [.ref o, .int x0] rfl rfl rfl rfl rfl rfl rfl rfl rfl
theorem s149_20 : ni_T d 149 20 [a0] [.int x] z h Q = (narrow .boolean (.int x) = .int x ∧ Q (some (.int x)) z h) := ni_T_z rfl rfl
theorem s149_21 : ni_T d 149 21 [.ref o] st z h Q = ni_T d 149 22 [.ref o] (.ref o :: st) z h Q := ni_T_p rfl rfl
theorem s149_22 : ni_T d 149 22 [.ref o] st z h Q = ni_T d 149 23 [.ref o] (.ref o :: st) z h Q := ni_T_p rfl rfl
theorem s149_23 : ni_T d 149 23 [a0] (.ref o :: st) z h Q = (ni_is (h o) 7 16 = true ∧ ni_T d 149 26 [a0] (ni_gv (h o) 16 :: st) z h Q) := ni_T_getf rfl
theorem s149_26 : ni_T d 149 26 [.ref o] st z h Q = ni_T d 149 27 [.ref o] (.ref o :: st) z h Q := ni_T_p rfl rfl
theorem s149_27 : ni_T d 149 27 [a0] (.ref o :: st) z h Q = (ni_is (h o) 7 20 = true ∧ ni_T d 149 30 [a0] (ni_gv (h o) 20 :: st) z h Q) := ni_T_getf rfl
theorem s149_30 : ni_T d 149 30 [.ref o] st z h Q = ni_T d 149 31 [.ref o] (.ref o :: st) z h Q := ni_T_p rfl rfl
theorem s149_31 : ni_T d 149 31 [a0] (.ref o :: st) z h Q = (ni_is (h o) 7 21 = true ∧ ni_T d 149 34 [a0] (ni_gv (h o) 21 :: st) z h Q) := ni_T_getf rfl
theorem s149_34 : ni_T d 149 34 [a0] (.int y :: .int x :: st) z h Q = ni_T d 149 35 [a0] (.int (x + y) :: st) z h Q := ni_T_p rfl rfl
theorem s149_35 : ni_T d 149 35 [a0] (.int x :: .ref o :: st) z h Q = (ni_okL (h o) x = true ∧ ni_T d 149 36 [a0] (.long (ni_gl (h o) x) :: st) z h Q) := ni_T_lald rfl
theorem s149_36 : ni_T d 149 36 [a0] (.long u :: st) z h Q = ni_T d 149 37 [a0] (.int u.toInt32 :: st) z h Q := ni_T_p rfl rfl
theorem s149_37 : ni_T d 149 37 [a0] st z h Q = ni_T d 149 39 [a0] (.int 48 :: st) z h Q := ni_T_p rfl rfl
theorem s149_39 : ni_T d 149 39 [a0] (.int y :: .int x :: st) z h Q = ni_T d 149 40 [a0] (.int (x - y) :: st) z h Q := ni_T_p rfl rfl
theorem s149_40 : ni_T d 149 40 [a0] (b0 :: .ref o :: st) z h Q = ((Nat.ble 7 7 && ni_is (h o) 7 23 && ni_fit (.int) b0) = true ∧ ni_T d 149 43 [a0] st z (ni_up h o (ni_pv (h o) 23 b0)) Q) := ni_T_putf rfl
theorem s149_43 : ni_T d 149 43 [.ref o] st z h Q = ni_T d 149 44 [.ref o] (.ref o :: st) z h Q := ni_T_p rfl rfl
theorem s149_44 : ni_T d 149 44 [a0] (.ref o :: st) z h Q = ni_T d 149 45 [a0] (.ref o :: .ref o :: st) z h Q := ni_T_p rfl rfl
theorem s149_44i : ni_T d 149 44 [a0] (.int x :: st) z h Q = ni_T d 149 45 [a0] (.int x :: .int x :: st) z h Q := ni_T_p rfl rfl
theorem s149_45 : ni_T d 149 45 [a0] (.ref o :: st) z h Q = (ni_is (h o) 7 21 = true ∧ ni_T d 149 48 [a0] (ni_gv (h o) 21 :: st) z h Q) := ni_T_getf rfl
theorem s149_48 : ni_T d 149 48 [a0] st z h Q = ni_T d 149 49 [a0] (.int 1 :: st) z h Q := ni_T_p rfl rfl
theorem s149_49 : ni_T d 149 49 [a0] (.int y :: .int x :: st) z h Q = ni_T d 149 50 [a0] (.int (x + y) :: st) z h Q := ni_T_p rfl rfl
theorem s149_50 : ni_T d 149 50 [a0] (b0 :: .ref o :: st) z h Q = ((Nat.ble 7 7 && ni_is (h o) 7 21 && ni_fit (.int) b0) = true ∧ ni_T d 149 53 [a0] st z (ni_up h o (ni_pv (h o) 21 b0)) Q) := ni_T_putf rfl
theorem s149_53 : ni_T d 149 53 [.ref o] st z h Q = ni_T d 149 54 [.ref o] (.ref o :: st) z h Q := ni_T_p rfl rfl
theorem s149_54 : ni_T (d + 1) 149 54 [a0] (.ref o :: st) z h Q = (ni_rc (h o) 7 = true ∧ Nat.ble (ni_sw st) 8 = true ∧ ni_T d 148 0 [.ref o] [] z h (ni_K (d + 1) 149 57 [a0] st z Q)) := ni_T_ce [.ref o] rfl rfl rfl rfl rfl rfl rfl rfl rfl
theorem s149_57 : ni_T d 149 57 [a0] (.int x :: st) z h Q = if x = 0 then ni_T d 149 100 [a0] st z h Q else ni_T d 149 60 [a0] st z h Q := ni_T_b rfl rfl
theorem s149_60 : ni_T d 149 60 [.ref o] st z h Q = ni_T d 149 61 [.ref o] (.ref o :: st) z h Q := ni_T_p rfl rfl
theorem s149_61 : ni_T d 149 61 [a0] st z h Q = ni_T d 149 63 [a0] (.int 10 :: st) z h Q := ni_T_p rfl rfl
theorem s149_63 : ni_T d 149 63 [.ref o] st z h Q = ni_T d 149 64 [.ref o] (.ref o :: st) z h Q := ni_T_p rfl rfl
theorem s149_64 : ni_T d 149 64 [a0] (.ref o :: st) z h Q = (ni_is (h o) 7 23 = true ∧ ni_T d 149 67 [a0] (ni_gv (h o) 23 :: st) z h Q) := ni_T_getf rfl
theorem s149_67 : ni_T d 149 67 [a0] (.int y :: .int x :: st) z h Q = ni_T d 149 68 [a0] (.int (x * y) :: st) z h Q := ni_T_p rfl rfl
theorem s149_68 : ni_T d 149 68 [.ref o] st z h Q = ni_T d 149 69 [.ref o] (.ref o :: st) z h Q := ni_T_p rfl rfl
theorem s149_69 : ni_T d 149 69 [a0] (.ref o :: st) z h Q = (ni_is (h o) 7 16 = true ∧ ni_T d 149 72 [a0] (ni_gv (h o) 16 :: st) z h Q) := ni_T_getf rfl
theorem s149_72 : ni_T d 149 72 [.ref o] st z h Q = ni_T d 149 73 [.ref o] (.ref o :: st) z h Q := ni_T_p rfl rfl
theorem s149_73 : ni_T d 149 73 [a0] (.ref o :: st) z h Q = (ni_is (h o) 7 20 = true ∧ ni_T d 149 76 [a0] (ni_gv (h o) 20 :: st) z h Q) := ni_T_getf rfl
theorem s149_76 : ni_T d 149 76 [.ref o] st z h Q = ni_T d 149 77 [.ref o] (.ref o :: st) z h Q := ni_T_p rfl rfl
theorem s149_77 : ni_T d 149 77 [a0] (.ref o :: st) z h Q = (ni_is (h o) 7 21 = true ∧ ni_T d 149 80 [a0] (ni_gv (h o) 21 :: st) z h Q) := ni_T_getf rfl
theorem s149_80 : ni_T d 149 80 [a0] (.int y :: .int x :: st) z h Q = ni_T d 149 81 [a0] (.int (x + y) :: st) z h Q := ni_T_p rfl rfl
theorem s149_81 : ni_T d 149 81 [a0] (.int x :: .ref o :: st) z h Q = (ni_okL (h o) x = true ∧ ni_T d 149 82 [a0] (.long (ni_gl (h o) x) :: st) z h Q) := ni_T_lald rfl
theorem s149_82 : ni_T d 149 82 [a0] (.long u :: st) z h Q = ni_T d 149 83 [a0] (.int u.toInt32 :: st) z h Q := ni_T_p rfl rfl
theorem s149_83 : ni_T d 149 83 [a0] (.int y :: .int x :: st) z h Q = ni_T d 149 84 [a0] (.int (x + y) :: st) z h Q := ni_T_p rfl rfl
theorem s149_84 : ni_T d 149 84 [a0] st z h Q = ni_T d 149 86 [a0] (.int 48 :: st) z h Q := ni_T_p rfl rfl
theorem s149_86 : ni_T d 149 86 [a0] (.int y :: .int x :: st) z h Q = ni_T d 149 87 [a0] (.int (x - y) :: st) z h Q := ni_T_p rfl rfl
theorem s149_87 : ni_T d 149 87 [a0] (b0 :: .ref o :: st) z h Q = ((Nat.ble 7 7 && ni_is (h o) 7 23 && ni_fit (.int) b0) = true ∧ ni_T d 149 90 [a0] st z (ni_up h o (ni_pv (h o) 23 b0)) Q) := ni_T_putf rfl
theorem s149_90 : ni_T d 149 90 [.ref o] st z h Q = ni_T d 149 91 [.ref o] (.ref o :: st) z h Q := ni_T_p rfl rfl
theorem s149_91 : ni_T d 149 91 [a0] (.ref o :: st) z h Q = ni_T d 149 92 [a0] (.ref o :: .ref o :: st) z h Q := ni_T_p rfl rfl
theorem s149_91i : ni_T d 149 91 [a0] (.int x :: st) z h Q = ni_T d 149 92 [a0] (.int x :: .int x :: st) z h Q := ni_T_p rfl rfl
theorem s149_92 : ni_T d 149 92 [a0] (.ref o :: st) z h Q = (ni_is (h o) 7 21 = true ∧ ni_T d 149 95 [a0] (ni_gv (h o) 21 :: st) z h Q) := ni_T_getf rfl
theorem s149_95 : ni_T d 149 95 [a0] st z h Q = ni_T d 149 96 [a0] (.int 1 :: st) z h Q := ni_T_p rfl rfl
theorem s149_96 : ni_T d 149 96 [a0] (.int y :: .int x :: st) z h Q = ni_T d 149 97 [a0] (.int (x + y) :: st) z h Q := ni_T_p rfl rfl
theorem s149_97 : ni_T d 149 97 [a0] (b0 :: .ref o :: st) z h Q = ((Nat.ble 7 7 && ni_is (h o) 7 21 && ni_fit (.int) b0) = true ∧ ni_T d 149 100 [a0] st z (ni_up h o (ni_pv (h o) 21 b0)) Q) := ni_T_putf rfl
theorem s149_100 : ni_T d 149 100 [a0] st z h Q = ni_T d 149 101 [a0] (.int 1 :: st) z h Q := ni_T_p rfl rfl
theorem s149_101 : ni_T d 149 101 [a0] [.int x] z h Q = (narrow .boolean (.int x) = .int x ∧ Q (some (.int x)) z h) := ni_T_z rfl rfl
theorem s150_0 : ni_T d 150 0 [a0, .int x, a2] st z h Q = ni_T d 150 1 [a0, .int x, a2] (.int x :: st) z h Q := ni_T_p rfl rfl
theorem s150_1_0 : ni_T d 150 1 [a0, a1, a2] (.int 0 :: st) z h Q = ni_T d 150 32 [a0, a1, a2] st z h Q := ni_T_p rfl rfl
theorem s150_1_1 : ni_T d 150 1 [a0, a1, a2] (.int 1 :: st) z h Q = ni_T d 150 56 [a0, a1, a2] st z h Q := ni_T_p rfl rfl
theorem s150_1_2 : ni_T d 150 1 [a0, a1, a2] (.int 2 :: st) z h Q = ni_T d 150 108 [a0, a1, a2] st z h Q := ni_T_p rfl rfl
theorem s150_1_3 : ni_T d 150 1 [a0, a1, a2] (.int 3 :: st) z h Q = ni_T d 150 122 [a0, a1, a2] st z h Q := ni_T_p rfl rfl
theorem s150_1_d (hx : x.toInt < 0 ∨ 3 < x.toInt) : ni_T d 150 1 [a0, a1, a2] (.int x :: st) z h Q = ni_T d 150 167 [a0, a1, a2] st z h Q := ni_T_tsw rfl hx (by decide) rfl
theorem s150_32 : ni_T d 150 32 [.ref o, a1, a2] st z h Q = ni_T d 150 33 [.ref o, a1, a2] (.ref o :: st) z h Q := ni_T_p rfl rfl
theorem s150_33 : ni_T d 150 33 [a0, a1, a2] (.ref o :: st) z h Q = (ni_is (h o) 7 23 = true ∧ ni_T d 150 36 [a0, a1, a2] (ni_gv (h o) 23 :: st) z h Q) := ni_T_getf rfl
theorem s150_36 : ni_T d 150 36 [a0, a1, .int x] st z h Q = ni_T d 150 37 [a0, a1, .int x] (.int x :: st) z h Q := ni_T_p rfl rfl
theorem s150_37 : ni_T d 150 37 [a0, a1, a2] (.int x :: st) z h Q = if x = 0 then ni_T d 150 40 [a0, a1, a2] st z h Q else ni_T d 150 45 [a0, a1, a2] st z h Q := ni_T_b rfl rfl
theorem s150_40 : ni_T d 150 40 [a0, a1, a2] st z h Q = ni_T d 150 42 [a0, a1, a2] (.int 6 :: st) z h Q := ni_T_p rfl rfl
theorem s150_42 : ni_T d 150 42 [a0, a1, a2] st z h Q = ni_T d 150 47 [a0, a1, a2] st z h Q := ni_T_p rfl rfl
theorem s150_45 : ni_T d 150 45 [a0, a1, a2] st z h Q = ni_T d 150 47 [a0, a1, a2] (.int 9 :: st) z h Q := ni_T_p rfl rfl
theorem s150_47 : ni_T d 150 47 [a0, a1, a2] (.int y :: .int x :: st) z h Q = if y < x then ni_T d 150 54 [a0, a1, a2] st z h Q else ni_T d 150 50 [a0, a1, a2] st z h Q := ni_T_b rfl rfl
theorem s150_50 : ni_T d 150 50 [a0, a1, a2] st z h Q = ni_T d 150 51 [a0, a1, a2] (.int 1 :: st) z h Q := ni_T_p rfl rfl
theorem s150_51 : ni_T d 150 51 [a0, a1, a2] st z h Q = ni_T d 150 55 [a0, a1, a2] st z h Q := ni_T_p rfl rfl
theorem s150_54 : ni_T d 150 54 [a0, a1, a2] st z h Q = ni_T d 150 55 [a0, a1, a2] (.int 0 :: st) z h Q := ni_T_p rfl rfl
theorem s150_55 : ni_T d 150 55 [a0, a1, a2] [.int x] z h Q = (narrow .boolean (.int x) = .int x ∧ Q (some (.int x)) z h) := ni_T_z rfl rfl
theorem s150_56 : ni_T d 150 56 [a0, a1, .int x] st z h Q = ni_T d 150 57 [a0, a1, .int x] (.int x :: st) z h Q := ni_T_p rfl rfl
theorem s150_57 : ni_T d 150 57 [a0, a1, a2] (.int x :: st) z h Q = if x = 0 then ni_T d 150 60 [a0, a1, a2] st z h Q else ni_T d 150 76 [a0, a1, a2] st z h Q := ni_T_b rfl rfl
theorem s150_60 : ni_T d 150 60 [.ref o, a1, a2] st z h Q = ni_T d 150 61 [.ref o, a1, a2] (.ref o :: st) z h Q := ni_T_p rfl rfl
theorem s150_61 : ni_T d 150 61 [a0, a1, a2] (.ref o :: st) z h Q = (ni_is (h o) 7 23 = true ∧ ni_T d 150 64 [a0, a1, a2] (ni_gv (h o) 23 :: st) z h Q) := ni_T_getf rfl
theorem s150_64 : ni_T d 150 64 [a0, a1, a2] st z h Q = ni_T d 150 65 [a0, a1, a2] (.int 5 :: st) z h Q := ni_T_p rfl rfl
theorem s150_65 : ni_T d 150 65 [a0, a1, a2] (.int y :: .int x :: st) z h Q = if y ≤ x then ni_T d 150 72 [a0, a1, a2] st z h Q else ni_T d 150 68 [a0, a1, a2] st z h Q := ni_T_b rfl rfl
theorem s150_68 : ni_T d 150 68 [a0, a1, a2] st z h Q = ni_T d 150 69 [a0, a1, a2] (.int 1 :: st) z h Q := ni_T_p rfl rfl
theorem s150_69 : ni_T d 150 69 [a0, a1, a2] st z h Q = ni_T d 150 107 [a0, a1, a2] st z h Q := ni_T_p rfl rfl
theorem s150_72 : ni_T d 150 72 [a0, a1, a2] st z h Q = ni_T d 150 73 [a0, a1, a2] (.int 0 :: st) z h Q := ni_T_p rfl rfl
theorem s150_73 : ni_T d 150 73 [a0, a1, a2] st z h Q = ni_T d 150 107 [a0, a1, a2] st z h Q := ni_T_p rfl rfl
theorem s150_76 : ni_T d 150 76 [.ref o, a1, a2] st z h Q = ni_T d 150 77 [.ref o, a1, a2] (.ref o :: st) z h Q := ni_T_p rfl rfl
theorem s150_77 : ni_T d 150 77 [a0, a1, a2] (.ref o :: st) z h Q = (ni_is (h o) 7 23 = true ∧ ni_T d 150 80 [a0, a1, a2] (ni_gv (h o) 23 :: st) z h Q) := ni_T_getf rfl
theorem s150_80 : ni_T d 150 80 [a0, a1, a2] st z h Q = ni_T d 150 82 [a0, a1, a2] (.int 36 :: st) z h Q := ni_T_p rfl rfl
theorem s150_82 : ni_T d 150 82 [a0, a1, a2] (.int y :: .int x :: st) z h Q = if y ≤ x then ni_T d 150 106 [a0, a1, a2] st z h Q else ni_T d 150 85 [a0, a1, a2] st z h Q := ni_T_b rfl rfl
theorem s150_85 : ni_T d 150 85 [.ref o, a1, a2] st z h Q = ni_T d 150 86 [.ref o, a1, a2] (.ref o :: st) z h Q := ni_T_p rfl rfl
theorem s150_86 : ni_T d 150 86 [.ref o, a1, a2] st z h Q = ni_T d 150 87 [.ref o, a1, a2] (.ref o :: st) z h Q := ni_T_p rfl rfl
theorem s150_87 : ni_T d 150 87 [a0, a1, a2] (.ref o :: st) z h Q = (ni_is (h o) 7 19 = true ∧ ni_T d 150 90 [a0, a1, a2] (ni_gv (h o) 19 :: st) z h Q) := ni_T_getf rfl
theorem s150_90 : ni_T d 150 90 [a0, a1, a2] st z h Q = ni_T d 150 91 [a0, a1, a2] (.int 0 :: st) z h Q := ni_T_p rfl rfl
theorem s150_91 : ni_T d 150 91 [a0, a1, a2] (.int x :: .ref o :: st) z h Q = (ni_okI (h o) x = true ∧ ni_T d 150 92 [a0, a1, a2] (.int (ni_gi (h o) x) :: st) z h Q) := ni_T_iald rfl
theorem s150_92 : ni_T d 150 92 [.ref o, a1, a2] st z h Q = ni_T d 150 93 [.ref o, a1, a2] (.ref o :: st) z h Q := ni_T_p rfl rfl
theorem s150_93 : ni_T d 150 93 [a0, a1, a2] (.ref o :: st) z h Q = (ni_is (h o) 7 23 = true ∧ ni_T d 150 96 [a0, a1, a2] (ni_gv (h o) 23 :: st) z h Q) := ni_T_getf rfl
theorem s150_96 : ni_T (d + 1) 150 96 [a0, a1, a2] (.int x1 :: .int x0 :: .ref o :: st) z h Q = (ni_rc (h o) 7 = true ∧ Nat.ble (ni_sw st) 8 = true ∧ ni_T d 138 0 [.ref o, .int x0, .int x1, .retAddr 0] [] z h (ni_K (d + 1) 150 99 [a0, a1, a2] st z Q)) := ni_T_ce [.ref o, .int x0, .int x1] rfl rfl rfl rfl rfl rfl rfl rfl rfl
theorem s150_99 : ni_T d 150 99 [a0, a1, a2] (.int x :: st) z h Q = if x = 0 then ni_T d 150 106 [a0, a1, a2] st z h Q else ni_T d 150 102 [a0, a1, a2] st z h Q := ni_T_b rfl rfl
theorem s150_102 : ni_T d 150 102 [a0, a1, a2] st z h Q = ni_T d 150 103 [a0, a1, a2] (.int 1 :: st) z h Q := ni_T_p rfl rfl
theorem s150_103 : ni_T d 150 103 [a0, a1, a2] st z h Q = ni_T d 150 107 [a0, a1, a2] st z h Q := ni_T_p rfl rfl
theorem s150_106 : ni_T d 150 106 [a0, a1, a2] st z h Q = ni_T d 150 107 [a0, a1, a2] (.int 0 :: st) z h Q := ni_T_p rfl rfl
theorem s150_107 : ni_T d 150 107 [a0, a1, a2] [.int x] z h Q = (narrow .boolean (.int x) = .int x ∧ Q (some (.int x)) z h) := ni_T_z rfl rfl
theorem s150_108 : ni_T d 150 108 [.ref o, a1, a2] st z h Q = ni_T d 150 109 [.ref o, a1, a2] (.ref o :: st) z h Q := ni_T_p rfl rfl
theorem s150_109 : ni_T d 150 109 [a0, a1, a2] (.ref o :: st) z h Q = (ni_is (h o) 7 23 = true ∧ ni_T d 150 112 [a0, a1, a2] (ni_gv (h o) 23 :: st) z h Q) := ni_T_getf rfl
theorem s150_112 : ni_T d 150 112 [a0, a1, a2] st z h Q = ni_T d 150 113 [a0, a1, a2] (.int 5 :: st) z h Q := ni_T_p rfl rfl
theorem s150_113 : ni_T d 150 113 [a0, a1, a2] (.int y :: .int x :: st) z h Q = if y ≤ x then ni_T d 150 120 [a0, a1, a2] st z h Q else ni_T d 150 116 [a0, a1, a2] st z h Q := ni_T_b rfl rfl
theorem s150_116 : ni_T d 150 116 [a0, a1, a2] st z h Q = ni_T d 150 117 [a0, a1, a2] (.int 1 :: st) z h Q := ni_T_p rfl rfl
theorem s150_117 : ni_T d 150 117 [a0, a1, a2] st z h Q = ni_T d 150 121 [a0, a1, a2] st z h Q := ni_T_p rfl rfl
theorem s150_120 : ni_T d 150 120 [a0, a1, a2] st z h Q = ni_T d 150 121 [a0, a1, a2] (.int 0 :: st) z h Q := ni_T_p rfl rfl
theorem s150_121 : ni_T d 150 121 [a0, a1, a2] [.int x] z h Q = (narrow .boolean (.int x) = .int x ∧ Q (some (.int x)) z h) := ni_T_z rfl rfl
theorem s150_122 : ni_T d 150 122 [a0, a1, .int x] st z h Q = ni_T d 150 123 [a0, a1, .int x] (.int x :: st) z h Q := ni_T_p rfl rfl
theorem s150_123 : ni_T d 150 123 [a0, a1, a2] (.int x :: st) z h Q = if x = 0 then ni_T d 150 126 [a0, a1, a2] st z h Q else ni_T d 150 145 [a0, a1, a2] st z h Q := ni_T_b rfl rfl
theorem s150_126 : ni_T d 150 126 [.ref o, a1, a2] st z h Q = ni_T d 150 127 [.ref o, a1, a2] (.ref o :: st) z h Q := ni_T_p rfl rfl
theorem s150_127 : ni_T d 150 127 [a0, a1, a2] (.ref o :: st) z h Q = (ni_is (h o) 7 23 = true ∧ ni_T d 150 130 [a0, a1, a2] (ni_gv (h o) 23 :: st) z h Q) := ni_T_getf rfl
theorem s150_130 : ni_T d 150 130 [.ref o, a1, a2] st z h Q = ni_T d 150 131 [.ref o, a1, a2] (.ref o :: st) z h Q := ni_T_p rfl rfl
theorem s150_131 : ni_T d 150 131 [a0, a1, a2] (.ref o :: st) z h Q = (ni_is (h o) 7 0 = true ∧ ni_T d 150 134 [a0, a1, a2] (ni_gv (h o) 0 :: st) z h Q) := ni_T_getf rfl
theorem s150_134 : ni_T d 150 134 [a0, a1, a2] (.int y :: .int x :: st) z h Q = if y ≤ x then ni_T d 150 141 [a0, a1, a2] st z h Q else ni_T d 150 137 [a0, a1, a2] st z h Q := ni_T_b rfl rfl
theorem s150_137 : ni_T d 150 137 [a0, a1, a2] st z h Q = ni_T d 150 138 [a0, a1, a2] (.int 1 :: st) z h Q := ni_T_p rfl rfl
theorem s150_138 : ni_T d 150 138 [a0, a1, a2] st z h Q = ni_T d 150 166 [a0, a1, a2] st z h Q := ni_T_p rfl rfl
theorem s150_141 : ni_T d 150 141 [a0, a1, a2] st z h Q = ni_T d 150 142 [a0, a1, a2] (.int 0 :: st) z h Q := ni_T_p rfl rfl
theorem s150_142 : ni_T d 150 142 [a0, a1, a2] st z h Q = ni_T d 150 166 [a0, a1, a2] st z h Q := ni_T_p rfl rfl
theorem s150_145 : ni_T d 150 145 [.ref o, a1, a2] st z h Q = ni_T d 150 146 [.ref o, a1, a2] (.ref o :: st) z h Q := ni_T_p rfl rfl
theorem s150_146 : ni_T d 150 146 [a0, a1, a2] (.ref o :: st) z h Q = (ni_is (h o) 7 23 = true ∧ ni_T d 150 149 [a0, a1, a2] (ni_gv (h o) 23 :: st) z h Q) := ni_T_getf rfl
theorem s150_149 : ni_T d 150 149 [a0, a1, a2] st z h Q = ni_T d 150 150 [a0, a1, a2] (.int 1 :: st) z h Q := ni_T_p rfl rfl
theorem s150_150 : ni_T d 150 150 [a0, a1, a2] (.int y :: .int x :: st) z h Q = if x < y then ni_T d 150 165 [a0, a1, a2] st z h Q else ni_T d 150 153 [a0, a1, a2] st z h Q := ni_T_b rfl rfl
theorem s150_153 : ni_T d 150 153 [.ref o, a1, a2] st z h Q = ni_T d 150 154 [.ref o, a1, a2] (.ref o :: st) z h Q := ni_T_p rfl rfl
theorem s150_154 : ni_T d 150 154 [a0, a1, a2] (.ref o :: st) z h Q = (ni_is (h o) 7 23 = true ∧ ni_T d 150 157 [a0, a1, a2] (ni_gv (h o) 23 :: st) z h Q) := ni_T_getf rfl
theorem s150_157 : ni_T d 150 157 [a0, a1, a2] st z h Q = ni_T d 150 158 [a0, a1, a2] (.int 4 :: st) z h Q := ni_T_p rfl rfl
theorem s150_158 : ni_T d 150 158 [a0, a1, a2] (.int y :: .int x :: st) z h Q = if y < x then ni_T d 150 165 [a0, a1, a2] st z h Q else ni_T d 150 161 [a0, a1, a2] st z h Q := ni_T_b rfl rfl
theorem s150_161 : ni_T d 150 161 [a0, a1, a2] st z h Q = ni_T d 150 162 [a0, a1, a2] (.int 1 :: st) z h Q := ni_T_p rfl rfl
theorem s150_162 : ni_T d 150 162 [a0, a1, a2] st z h Q = ni_T d 150 166 [a0, a1, a2] st z h Q := ni_T_p rfl rfl
theorem s150_165 : ni_T d 150 165 [a0, a1, a2] st z h Q = ni_T d 150 166 [a0, a1, a2] (.int 0 :: st) z h Q := ni_T_p rfl rfl
theorem s150_166 : ni_T d 150 166 [a0, a1, a2] [.int x] z h Q = (narrow .boolean (.int x) = .int x ∧ Q (some (.int x)) z h) := ni_T_z rfl rfl
theorem s150_167 : ni_T d 150 167 [.ref o, a1, a2] st z h Q = ni_T d 150 168 [.ref o, a1, a2] (.ref o :: st) z h Q := ni_T_p rfl rfl
theorem s150_168 : ni_T d 150 168 [a0, a1, a2] (.ref o :: st) z h Q = (ni_is (h o) 7 23 = true ∧ ni_T d 150 171 [a0, a1, a2] (ni_gv (h o) 23 :: st) z h Q) := ni_T_getf rfl
theorem s150_171 : ni_T d 150 171 [.ref o, a1, a2] st z h Q = ni_T d 150 172 [.ref o, a1, a2] (.ref o :: st) z h Q := ni_T_p rfl rfl
theorem s150_172 : ni_T d 150 172 [a0, a1, a2] (.ref o :: st) z h Q = (ni_is (h o) 7 0 = true ∧ ni_T d 150 175 [a0, a1, a2] (ni_gv (h o) 0 :: st) z h Q) := ni_T_getf rfl
theorem s150_175 : ni_T d 150 175 [a0, a1, a2] (.int y :: .int x :: st) z h Q = if y ≤ x then ni_T d 150 182 [a0, a1, a2] st z h Q else ni_T d 150 178 [a0, a1, a2] st z h Q := ni_T_b rfl rfl
theorem s150_178 : ni_T d 150 178 [a0, a1, a2] st z h Q = ni_T d 150 179 [a0, a1, a2] (.int 1 :: st) z h Q := ni_T_p rfl rfl
theorem s150_179 : ni_T d 150 179 [a0, a1, a2] st z h Q = ni_T d 150 183 [a0, a1, a2] st z h Q := ni_T_p rfl rfl
theorem s150_182 : ni_T d 150 182 [a0, a1, a2] st z h Q = ni_T d 150 183 [a0, a1, a2] (.int 0 :: st) z h Q := ni_T_p rfl rfl
theorem s150_183 : ni_T d 150 183 [a0, a1, a2] [.int x] z h Q = (narrow .boolean (.int x) = .int x ∧ Q (some (.int x)) z h) := ni_T_z rfl rfl
theorem s151_0 : ni_T d 151 0 [.ref o, a1, a2, a3, a4] st z h Q = ni_T d 151 1 [.ref o, a1, a2, a3, a4] (.ref o :: st) z h Q := ni_T_p rfl rfl
theorem s151_1 : ni_T d 151 1 [a0, a1, a2, a3, a4] st z h Q = ni_T d 151 2 [a0, a1, a2, a3, a4] (.int 0 :: st) z h Q := ni_T_p rfl rfl
theorem s151_2 : ni_T (d + 1) 151 2 [a0, a1, a2, a3, a4] (.int x0 :: .ref o :: st) z h Q = (ni_rc (h o) 7 = true ∧ Nat.ble (ni_sw st) 8 = true ∧ ni_T d 146 0 [.ref o, .int x0, .retAddr 0, .retAddr 0] [] z h (ni_K (d + 1) 151 5 [a0, a1, a2, a3, a4] st z Q)) := ni_T_ce [.ref o, .int x0] rfl rfl rfl rfl rfl rfl rfl rfl rfl
theorem s151_5 : ni_T d 151 5 [a0, a1, a2, a3, a4] (.int x :: st) z h Q = if x = 0 then ni_T d 151 25 [a0, a1, a2, a3, a4] st z h Q else ni_T d 151 8 [a0, a1, a2, a3, a4] st z h Q := ni_T_b rfl rfl
theorem s151_8 : ni_T d 151 8 [.ref o, a1, a2, a3, a4] st z h Q = ni_T d 151 9 [.ref o, a1, a2, a3, a4] (.ref o :: st) z h Q := ni_T_p rfl rfl
theorem s151_9 : ni_T d 151 9 [a0, a1, a2, a3, a4] (.ref o :: st) z h Q = (ni_is (h o) 7 0 = true ∧ ni_T d 151 12 [a0, a1, a2, a3, a4] (ni_gv (h o) 0 :: st) z h Q) := ni_T_getf rfl
theorem s151_12 : ni_T d 151 12 [a0, a1, a2, a3, a4] st z h Q = ni_T d 151 13 [a0, a1, a2, a3, a4] (.int 4 :: st) z h Q := ni_T_p rfl rfl
theorem s151_13 : ni_T d 151 13 [a0, a1, a2, a3, a4] (.int y :: .int x :: st) z h Q = if x = y then ni_T d 151 16 [a0, a1, a2, a3, a4] st z h Q else ni_T d 151 25 [a0, a1, a2, a3, a4] st z h Q := ni_T_b rfl rfl
theorem s151_16 : ni_T d 151 16 [.ref o, a1, a2, a3, a4] st z h Q = ni_T d 151 17 [.ref o, a1, a2, a3, a4] (.ref o :: st) z h Q := ni_T_p rfl rfl
theorem s151_17 : ni_T d 151 17 [.ref o, a1, a2, a3, a4] st z h Q = ni_T d 151 18 [.ref o, a1, a2, a3, a4] (.ref o :: st) z h Q := ni_T_p rfl rfl
theorem s151_18 : ni_T d 151 18 [a0, a1, a2, a3, a4] (.ref o :: st) z h Q = (ni_is (h o) 7 21 = true ∧ ni_T d 151 21 [a0, a1, a2, a3, a4] (ni_gv (h o) 21 :: st) z h Q) := ni_T_getf rfl
theorem s151_21 : ni_T (d + 1) 151 21 [a0, a1, a2, a3, a4] (.int x0 :: .ref o :: st) z h Q = (ni_rc (h o) 7 = true ∧ Nat.ble (ni_sw st) 8 = true ∧ ni_T d 145 0 [.ref o, .int x0] [] z h (ni_K (d + 1) 151 24 [a0, a1, a2, a3, a4] st z Q)) := ni_T_ce [.ref o, .int x0] rfl rfl rfl rfl rfl rfl rfl rfl rfl
theorem s151_24 : ni_T d 151 24 [a0, a1, a2, a3, a4] [.int x] z h Q = (narrow .boolean (.int x) = .int x ∧ Q (some (.int x)) z h) := ni_T_z rfl rfl
theorem s151_25 : ni_T d 151 25 [.ref o, a1, a2, a3, a4] st z h Q = ni_T d 151 26 [.ref o, a1, a2, a3, a4] (.ref o :: st) z h Q := ni_T_p rfl rfl
theorem s151_26 : ni_T (d + 1) 151 26 [a0, a1, a2, a3, a4] (.ref o :: st) z h Q = (ni_rc (h o) 7 = true ∧ Nat.ble (ni_sw st) 8 = true ∧ ni_T d 147 0 [.ref o, .retAddr 0, .retAddr 0, .retAddr 0, .retAddr 0, .retAddr 0] [] z h (ni_K (d + 1) 151 29 [a0, a1, a2, a3, a4] st z Q)) := ni_T_ce [.ref o] rfl rfl rfl rfl rfl rfl rfl rfl rfl
theorem s151_29 : ni_T d 151 29 [a0, a1, a2, a3, a4] (.int x :: st) z h Q = ni_T d 151 30 [ni_kl a0, .int x, a2, a3, a4] st z h Q := ni_T_p rfl rfl
theorem s151_30 : ni_T d 151 30 [a0, .int x, a2, a3, a4] st z h Q = ni_T d 151 31 [a0, .int x, a2, a3, a4] (.int x :: st) z h Q := ni_T_p rfl rfl
theorem s151_31 : ni_T d 151 31 [a0, a1, a2, a3, a4] st z h Q = ni_T d 151 32 [a0, a1, a2, a3, a4] (.int (-1) :: st) z h Q := ni_T_p rfl rfl
theorem s151_32 : ni_T d 151 32 [a0, a1, a2, a3, a4] (.int y :: .int x :: st) z h Q = if x = y then ni_T d 151 35 [a0, a1, a2, a3, a4] st z h Q else ni_T d 151 37 [a0, a1, a2, a3, a4] st z h Q := ni_T_b rfl rfl
theorem s151_35 : ni_T d 151 35 [a0, a1, a2, a3, a4] st z h Q = ni_T d 151 36 [a0, a1, a2, a3, a4] (.int 0 :: st) z h Q := ni_T_p rfl rfl
theorem s151_36 : ni_T d 151 36 [a0, a1, a2, a3, a4] [.int x] z h Q = (narrow .boolean (.int x) = .int x ∧ Q (some (.int x)) z h) := ni_T_z rfl rfl
theorem s151_37 : ni_T d 151 37 [a0, .int x, a2, a3, a4] st z h Q = ni_T d 151 38 [a0, .int x, a2, a3, a4] (.int x :: st) z h Q := ni_T_p rfl rfl
theorem s151_38 : ni_T d 151 38 [a0, a1, a2, a3, a4] st z h Q = ni_T d 151 39 [a0, a1, a2, a3, a4] (.int 2 :: st) z h Q := ni_T_p rfl rfl
theorem s151_39 : ni_T d 151 39 [a0, a1, a2, a3, a4] (.int y :: .int x :: st) z h Q = if x = y then ni_T d 151 47 [a0, a1, a2, a3, a4] st z h Q else ni_T d 151 42 [a0, a1, a2, a3, a4] st z h Q := ni_T_b rfl rfl
theorem s151_42 : ni_T d 151 42 [a0, .int x, a2, a3, a4] st z h Q = ni_T d 151 43 [a0, .int x, a2, a3, a4] (.int x :: st) z h Q := ni_T_p rfl rfl
theorem s151_43 : ni_T d 151 43 [a0, a1, a2, a3, a4] st z h Q = ni_T d 151 44 [a0, a1, a2, a3, a4] (.int 4 :: st) z h Q := ni_T_p rfl rfl
theorem s151_44 : ni_T d 151 44 [a0, a1, a2, a3, a4] (.int y :: .int x :: st) z h Q = if x = y then ni_T d 151 47 [a0, a1, a2, a3, a4] st z h Q else ni_T d 151 51 [a0, a1, a2, a3, a4] st z h Q := ni_T_b rfl rfl
theorem s151_47 : ni_T d 151 47 [a0, a1, a2, a3, a4] st z h Q = ni_T d 151 48 [a0, a1, a2, a3, a4] (.int 1 :: st) z h Q := ni_T_p rfl rfl
theorem s151_48 : ni_T d 151 48 [a0, a1, a2, a3, a4] st z h Q = ni_T d 151 52 [a0, a1, a2, a3, a4] st z h Q := ni_T_p rfl rfl
theorem s151_51 : ni_T d 151 51 [a0, a1, a2, a3, a4] st z h Q = ni_T d 151 52 [a0, a1, a2, a3, a4] (.int 2 :: st) z h Q := ni_T_p rfl rfl
theorem s151_52 : ni_T d 151 52 [a0, a1, a2, a3, a4] (.int x :: st) z h Q = ni_T d 151 53 [a0, ni_kl a1, .int x, a3, a4] st z h Q := ni_T_p rfl rfl
theorem s151_53 : ni_T d 151 53 [a0, a1, a2, a3, a4] st z h Q = ni_T d 151 54 [a0, a1, a2, a3, a4] (.int 0 :: st) z h Q := ni_T_p rfl rfl
theorem s151_54 : ni_T d 151 54 [a0, a1, a2, a3, a4] (.int x :: st) z h Q = ni_T d 151 55 [a0, a1, ni_kl a2, .int x, a4] st z h Q := ni_T_p rfl rfl
theorem s151_55 : ni_T d 151 55 [a0, a1, a2, .int x, a4] st z h Q = ni_T d 151 56 [a0, a1, a2, .int x, a4] (.int x :: st) z h Q := ni_T_p rfl rfl
theorem s151_56 : ni_T d 151 56 [a0, a1, .int x, a3, a4] st z h Q = ni_T d 151 57 [a0, a1, .int x, a3, a4] (.int x :: st) z h Q := ni_T_p rfl rfl
theorem s151_57 : ni_T d 151 57 [a0, a1, a2, a3, a4] (.int y :: .int x :: st) z h Q = if y ≤ x then ni_T d 151 161 [a0, a1, a2, a3, a4] st z h Q else ni_T d 151 60 [a0, a1, a2, a3, a4] st z h Q := ni_T_b rfl rfl
theorem s151_60 : ni_T d 151 60 [a0, a1, a2, .int x, a4] st z h Q = ni_T d 151 61 [a0, a1, a2, .int x, a4] (.int x :: st) z h Q := ni_T_p rfl rfl
theorem s151_61 : ni_T d 151 61 [a0, a1, a2, a3, a4] (.int x :: st) z h Q = if x ≤ 0 then ni_T d 151 114 [a0, a1, a2, a3, a4] st z h Q else ni_T d 151 64 [a0, a1, a2, a3, a4] st z h Q := ni_T_b rfl rfl
theorem s151_64 : ni_T d 151 64 [.ref o, a1, a2, a3, a4] st z h Q = ni_T d 151 65 [.ref o, a1, a2, a3, a4] (.ref o :: st) z h Q := ni_T_p rfl rfl
theorem s151_65 : ni_T d 151 65 [a0, a1, a2, a3, a4] (.ref o :: st) z h Q = (ni_is (h o) 7 21 = true ∧ ni_T d 151 68 [a0, a1, a2, a3, a4] (ni_gv (h o) 21 :: st) z h Q) := ni_T_getf rfl
theorem s151_68 : ni_T d 151 68 [.ref o, a1, a2, a3, a4] st z h Q = ni_T d 151 69 [.ref o, a1, a2, a3, a4] (.ref o :: st) z h Q := ni_T_p rfl rfl
theorem s151_69 : ni_T d 151 69 [a0, a1, a2, a3, a4] (.ref o :: st) z h Q = (ni_is (h o) 7 22 = true ∧ ni_T d 151 72 [a0, a1, a2, a3, a4] (ni_gv (h o) 22 :: st) z h Q) := ni_T_getf rfl
theorem s151_72 : ni_T d 151 72 [a0, a1, a2, a3, a4] (.int y :: .int x :: st) z h Q = if y ≤ x then ni_T d 151 95 [a0, a1, a2, a3, a4] st z h Q else ni_T d 151 75 [a0, a1, a2, a3, a4] st z h Q := ni_T_b rfl rfl
theorem s151_75 : ni_T d 151 75 [.ref o, a1, a2, a3, a4] st z h Q = ni_T d 151 76 [.ref o, a1, a2, a3, a4] (.ref o :: st) z h Q := ni_T_p rfl rfl
theorem s151_76 : ni_T d 151 76 [a0, a1, a2, a3, a4] (.ref o :: st) z h Q = (ni_is (h o) 7 16 = true ∧ ni_T d 151 79 [a0, a1, a2, a3, a4] (ni_gv (h o) 16 :: st) z h Q) := ni_T_getf rfl
theorem s151_79 : ni_T d 151 79 [.ref o, a1, a2, a3, a4] st z h Q = ni_T d 151 80 [.ref o, a1, a2, a3, a4] (.ref o :: st) z h Q := ni_T_p rfl rfl
theorem s151_80 : ni_T d 151 80 [a0, a1, a2, a3, a4] (.ref o :: st) z h Q = (ni_is (h o) 7 20 = true ∧ ni_T d 151 83 [a0, a1, a2, a3, a4] (ni_gv (h o) 20 :: st) z h Q) := ni_T_getf rfl
theorem s151_83 : ni_T d 151 83 [.ref o, a1, a2, a3, a4] st z h Q = ni_T d 151 84 [.ref o, a1, a2, a3, a4] (.ref o :: st) z h Q := ni_T_p rfl rfl
theorem s151_84 : ni_T d 151 84 [a0, a1, a2, a3, a4] (.ref o :: st) z h Q = (ni_is (h o) 7 21 = true ∧ ni_T d 151 87 [a0, a1, a2, a3, a4] (ni_gv (h o) 21 :: st) z h Q) := ni_T_getf rfl
theorem s151_87 : ni_T d 151 87 [a0, a1, a2, a3, a4] (.int y :: .int x :: st) z h Q = ni_T d 151 88 [a0, a1, a2, a3, a4] (.int (x + y) :: st) z h Q := ni_T_p rfl rfl
theorem s151_88 : ni_T d 151 88 [a0, a1, a2, a3, a4] (.int x :: .ref o :: st) z h Q = (ni_okL (h o) x = true ∧ ni_T d 151 89 [a0, a1, a2, a3, a4] (.long (ni_gl (h o) x) :: st) z h Q) := ni_T_lald rfl
theorem s151_89 : ni_T d 151 89 [a0, a1, a2, a3, a4] (.long u :: st) z h Q = ni_T d 151 90 [a0, a1, a2, a3, a4] (.int u.toInt32 :: st) z h Q := ni_T_p rfl rfl
theorem s151_90 : ni_T d 151 90 [a0, a1, a2, a3, a4] st z h Q = ni_T d 151 92 [a0, a1, a2, a3, a4] (.int 32 :: st) z h Q := ni_T_p rfl rfl
theorem s151_92 : ni_T d 151 92 [a0, a1, a2, a3, a4] (.int y :: .int x :: st) z h Q = if x = y then ni_T d 151 104 [a0, a1, a2, a3, a4] st z h Q else ni_T d 151 95 [a0, a1, a2, a3, a4] st z h Q := ni_T_b rfl rfl
theorem s151_95 : ni_T d 151 95 [.ref o, a1, a2, a3, a4] st z h Q = ni_T d 151 96 [.ref o, a1, a2, a3, a4] (.ref o :: st) z h Q := ni_T_p rfl rfl
theorem s151_96 : ni_T d 151 96 [.ref o, a1, a2, a3, a4] st z h Q = ni_T d 151 97 [.ref o, a1, a2, a3, a4] (.ref o :: st) z h Q := ni_T_p rfl rfl
theorem s151_97 : ni_T d 151 97 [a0, a1, a2, a3, a4] (.ref o :: st) z h Q = (ni_is (h o) 7 21 = true ∧ ni_T d 151 100 [a0, a1, a2, a3, a4] (ni_gv (h o) 21 :: st) z h Q) := ni_T_getf rfl
theorem s151_100 : ni_T (d + 1) 151 100 [a0, a1, a2, a3, a4] (.int x0 :: .ref o :: st) z h Q = (ni_rc (h o) 7 = true ∧ Nat.ble (ni_sw st) 8 = true ∧ ni_T d 145 0 [.ref o, .int x0] [] z h (ni_K (d + 1) 151 103 [a0, a1, a2, a3, a4] st z Q)) := ni_T_ce [.ref o, .int x0] rfl rfl rfl rfl rfl rfl rfl rfl rfl
theorem s151_103 : ni_T d 151 103 [a0, a1, a2, a3, a4] [.int x] z h Q = (narrow .boolean (.int x) = .int x ∧ Q (some (.int x)) z h) := ni_T_z rfl rfl
theorem s151_104 : ni_T d 151 104 [.ref o, a1, a2, a3, a4] st z h Q = ni_T d 151 105 [.ref o, a1, a2, a3, a4] (.ref o :: st) z h Q := ni_T_p rfl rfl
theorem s151_105 : ni_T d 151 105 [a0, a1, a2, a3, a4] (.ref o :: st) z h Q = ni_T d 151 106 [a0, a1, a2, a3, a4] (.ref o :: .ref o :: st) z h Q := ni_T_p rfl rfl
theorem s151_105i : ni_T d 151 105 [a0, a1, a2, a3, a4] (.int x :: st) z h Q = ni_T d 151 106 [a0, a1, a2, a3, a4] (.int x :: .int x :: st) z h Q := ni_T_p rfl rfl
theorem s151_106 : ni_T d 151 106 [a0, a1, a2, a3, a4] (.ref o :: st) z h Q = (ni_is (h o) 7 21 = true ∧ ni_T d 151 109 [a0, a1, a2, a3, a4] (ni_gv (h o) 21 :: st) z h Q) := ni_T_getf rfl
theorem s151_109 : ni_T d 151 109 [a0, a1, a2, a3, a4] st z h Q = ni_T d 151 110 [a0, a1, a2, a3, a4] (.int 1 :: st) z h Q := ni_T_p rfl rfl
theorem s151_110 : ni_T d 151 110 [a0, a1, a2, a3, a4] (.int y :: .int x :: st) z h Q = ni_T d 151 111 [a0, a1, a2, a3, a4] (.int (x + y) :: st) z h Q := ni_T_p rfl rfl
theorem s151_111 : ni_T d 151 111 [a0, a1, a2, a3, a4] (b0 :: .ref o :: st) z h Q = ((Nat.ble 7 7 && ni_is (h o) 7 21 && ni_fit (.int) b0) = true ∧ ni_T d 151 114 [a0, a1, a2, a3, a4] st z (ni_up h o (ni_pv (h o) 21 b0)) Q) := ni_T_putf rfl
theorem s151_114 : ni_T d 151 114 [.ref o, a1, a2, a3, a4] st z h Q = ni_T d 151 115 [.ref o, a1, a2, a3, a4] (.ref o :: st) z h Q := ni_T_p rfl rfl
theorem s151_115 : ni_T d 151 115 [a0, a1, a2, a3, a4] (.ref o :: st) z h Q = (ni_is (h o) 7 21 = true ∧ ni_T d 151 118 [a0, a1, a2, a3, a4] (ni_gv (h o) 21 :: st) z h Q) := ni_T_getf rfl
theorem s151_118 : ni_T d 151 118 [a0, a1, a2, a3, a4] (.int x :: st) z h Q = ni_T d 151 120 [a0, a1, a2, ni_kl a3, .int x] st z h Q := ni_T_p rfl rfl
theorem s151_120 : ni_T d 151 120 [.ref o, a1, a2, a3, a4] st z h Q = ni_T d 151 121 [.ref o, a1, a2, a3, a4] (.ref o :: st) z h Q := ni_T_p rfl rfl
theorem s151_121 : ni_T (d + 1) 151 121 [a0, a1, a2, a3, a4] (.ref o :: st) z h Q = (ni_rc (h o) 7 = true ∧ Nat.ble (ni_sw st) 8 = true ∧ ni_T d 149 0 [.ref o] [] z h (ni_K (d + 1) 151 124 [a0, a1, a2, a3, a4] st z Q)) := ni_T_ce [.ref o] rfl rfl rfl rfl rfl rfl rfl rfl rfl
theorem s151_124 : ni_T d 151 124 [a0, a1, a2, a3, a4] (.int x :: st) z h Q = if x = 0 then ni_T d 151 127 [a0, a1, a2, a3, a4] st z h Q else ni_T d 151 129 [a0, a1, a2, a3, a4] st z h Q := ni_T_b rfl rfl
theorem s151_127 : ni_T d 151 127 [a0, a1, a2, a3, a4] st z h Q = ni_T d 151 128 [a0, a1, a2, a3, a4] (.int 0 :: st) z h Q := ni_T_p rfl rfl
theorem s151_128 : ni_T d 151 128 [a0, a1, a2, a3, a4] [.int x] z h Q = (narrow .boolean (.int x) = .int x ∧ Q (some (.int x)) z h) := ni_T_z rfl rfl
theorem s151_129 : ni_T d 151 129 [.ref o, a1, a2, a3, a4] st z h Q = ni_T d 151 130 [.ref o, a1, a2, a3, a4] (.ref o :: st) z h Q := ni_T_p rfl rfl
theorem s151_130 : ni_T d 151 130 [a0, .int x, a2, a3, a4] st z h Q = ni_T d 151 131 [a0, .int x, a2, a3, a4] (.int x :: st) z h Q := ni_T_p rfl rfl
theorem s151_131 : ni_T d 151 131 [a0, a1, a2, .int x, a4] st z h Q = ni_T d 151 132 [a0, a1, a2, .int x, a4] (.int x :: st) z h Q := ni_T_p rfl rfl
theorem s151_132 : ni_T (d + 1) 151 132 [a0, a1, a2, a3, a4] (.int x1 :: .int x0 :: .ref o :: st) z h Q = (ni_rc (h o) 7 = true ∧ Nat.ble (ni_sw st) 8 = true ∧ ni_T d 150 0 [.ref o, .int x0, .int x1] [] z h (ni_K (d + 1) 151 135 [a0, a1, a2, a3, a4] st z Q)) := ni_T_ce [.ref o, .int x0, .int x1] rfl rfl rfl rfl rfl rfl rfl rfl rfl
theorem s151_135 : ni_T d 151 135 [a0, a1, a2, a3, a4] (.int x :: st) z h Q = if x = 0 then ni_T d 151 138 [a0, a1, a2, a3, a4] st z h Q else ni_T d 151 145 [a0, a1, a2, a3, a4] st z h Q := ni_T_b rfl rfl
theorem s151_138 : ni_T d 151 138 [.ref o, a1, a2, a3, a4] st z h Q = ni_T d 151 139 [.ref o, a1, a2, a3, a4] (.ref o :: st) z h Q := ni_T_p rfl rfl
theorem s151_139 : ni_T d 151 139 [a0, a1, a2, a3, .int x] st z h Q = ni_T d 151 141 [a0, a1, a2, a3, .int x] (.int x :: st) z h Q := ni_T_p rfl rfl
theorem s151_141 : ni_T (d + 1) 151 141 [a0, a1, a2, a3, a4] (.int x0 :: .ref o :: st) z h Q = (ni_rc (h o) 7 = true ∧ Nat.ble (ni_sw st) 8 = true ∧ ni_T d 145 0 [.ref o, .int x0] [] z h (ni_K (d + 1) 151 144 [a0, a1, a2, a3, a4] st z Q)) := ni_T_ce [.ref o, .int x0] rfl rfl rfl rfl rfl rfl rfl rfl rfl
theorem s151_144 : ni_T d 151 144 [a0, a1, a2, a3, a4] [.int x] z h Q = (narrow .boolean (.int x) = .int x ∧ Q (some (.int x)) z h) := ni_T_z rfl rfl
theorem s151_145 : ni_T d 151 145 [.ref o, a1, a2, a3, a4] st z h Q = ni_T d 151 146 [.ref o, a1, a2, a3, a4] (.ref o :: st) z h Q := ni_T_p rfl rfl
theorem s151_146 : ni_T d 151 146 [a0, a1, a2, a3, a4] (.ref o :: st) z h Q = (ni_is (h o) 7 19 = true ∧ ni_T d 151 149 [a0, a1, a2, a3, a4] (ni_gv (h o) 19 :: st) z h Q) := ni_T_getf rfl
theorem s151_149 : ni_T d 151 149 [a0, a1, a2, .int x, a4] st z h Q = ni_T d 151 150 [a0, a1, a2, .int x, a4] (.int x :: st) z h Q := ni_T_p rfl rfl
theorem s151_150 : ni_T d 151 150 [.ref o, a1, a2, a3, a4] st z h Q = ni_T d 151 151 [.ref o, a1, a2, a3, a4] (.ref o :: st) z h Q := ni_T_p rfl rfl
theorem s151_151 : ni_T d 151 151 [a0, a1, a2, a3, a4] (.ref o :: st) z h Q = (ni_is (h o) 7 23 = true ∧ ni_T d 151 154 [a0, a1, a2, a3, a4] (ni_gv (h o) 23 :: st) z h Q) := ni_T_getf rfl
theorem s151_154 : ni_T d 151 154 [a0, a1, a2, a3, a4] (.int y :: .int x :: .ref o :: st) z h Q = (ni_okS (h o) x = true ∧ ni_T d 151 155 [a0, a1, a2, a3, a4] st z (ni_up h o (ni_pi (h o) x y)) Q) := ni_T_iast rfl
theorem s151_155 : ni_T d 151 155 [a0, a1, a2, .int x, a4] st z h Q = ni_T d 151 158 [a0, a1, ni_kl a2, .int (x + 1), a4] st z h Q := ni_T_p rfl rfl
theorem s151_158 : ni_T d 151 158 [a0, a1, a2, a3, a4] st z h Q = ni_T d 151 55 [a0, a1, a2, a3, a4] st z h Q := ni_T_p rfl rfl
theorem s151_161 : ni_T d 151 161 [a0, .int x, a2, a3, a4] st z h Q = ni_T d 151 162 [a0, .int x, a2, a3, a4] (.int x :: st) z h Q := ni_T_p rfl rfl
theorem s151_162_0 : ni_T d 151 162 [a0, a1, a2, a3, a4] (.int 0 :: st) z h Q = ni_T d 151 192 [a0, a1, a2, a3, a4] st z h Q := ni_T_p rfl rfl
theorem s151_162_1 : ni_T d 151 162 [a0, a1, a2, a3, a4] (.int 1 :: st) z h Q = ni_T d 151 212 [a0, a1, a2, a3, a4] st z h Q := ni_T_p rfl rfl
theorem s151_162_2 : ni_T d 151 162 [a0, a1, a2, a3, a4] (.int 2 :: st) z h Q = ni_T d 151 232 [a0, a1, a2, a3, a4] st z h Q := ni_T_p rfl rfl
theorem s151_162_3 : ni_T d 151 162 [a0, a1, a2, a3, a4] (.int 3 :: st) z h Q = ni_T d 151 247 [a0, a1, a2, a3, a4] st z h Q := ni_T_p rfl rfl
theorem s151_162_d (hx : x.toInt < 0 ∨ 3 < x.toInt) : ni_T d 151 162 [a0, a1, a2, a3, a4] (.int x :: st) z h Q = ni_T d 151 267 [a0, a1, a2, a3, a4] st z h Q := ni_T_tsw rfl hx (by decide) rfl
theorem s151_192 : ni_T d 151 192 [.ref o, a1, a2, a3, a4] st z h Q = ni_T d 151 193 [.ref o, a1, a2, a3, a4] (.ref o :: st) z h Q := ni_T_p rfl rfl
theorem s151_193 : ni_T d 151 193 [.ref o, a1, a2, a3, a4] st z h Q = ni_T d 151 194 [.ref o, a1, a2, a3, a4] (.ref o :: st) z h Q := ni_T_p rfl rfl
theorem s151_194 : ni_T d 151 194 [a0, a1, a2, a3, a4] (.ref o :: st) z h Q = (ni_is (h o) 7 19 = true ∧ ni_T d 151 197 [a0, a1, a2, a3, a4] (ni_gv (h o) 19 :: st) z h Q) := ni_T_getf rfl
theorem s151_197 : ni_T d 151 197 [a0, a1, a2, a3, a4] st z h Q = ni_T d 151 198 [a0, a1, a2, a3, a4] (.int 0 :: st) z h Q := ni_T_p rfl rfl
theorem s151_198 : ni_T d 151 198 [a0, a1, a2, a3, a4] (.int x :: .ref o :: st) z h Q = (ni_okI (h o) x = true ∧ ni_T d 151 199 [a0, a1, a2, a3, a4] (.int (ni_gi (h o) x) :: st) z h Q) := ni_T_iald rfl
theorem s151_199 : ni_T d 151 199 [.ref o, a1, a2, a3, a4] st z h Q = ni_T d 151 200 [.ref o, a1, a2, a3, a4] (.ref o :: st) z h Q := ni_T_p rfl rfl
theorem s151_200 : ni_T d 151 200 [a0, a1, a2, a3, a4] (.ref o :: st) z h Q = (ni_is (h o) 7 19 = true ∧ ni_T d 151 203 [a0, a1, a2, a3, a4] (ni_gv (h o) 19 :: st) z h Q) := ni_T_getf rfl
theorem s151_203 : ni_T d 151 203 [a0, a1, a2, a3, a4] st z h Q = ni_T d 151 204 [a0, a1, a2, a3, a4] (.int 1 :: st) z h Q := ni_T_p rfl rfl
theorem s151_204 : ni_T d 151 204 [a0, a1, a2, a3, a4] (.int x :: .ref o :: st) z h Q = (ni_okI (h o) x = true ∧ ni_T d 151 205 [a0, a1, a2, a3, a4] (.int (ni_gi (h o) x) :: st) z h Q) := ni_T_iald rfl
theorem s151_205 : ni_T (d + 1) 151 205 [a0, a1, a2, a3, a4] (.int x1 :: .int x0 :: .ref o :: st) z h Q = (ni_rc (h o) 7 = true ∧ Nat.ble (ni_sw st) 8 = true ∧ ni_T d 135 0 [.ref o, .int x0, .int x1] [] z h (ni_K (d + 1) 151 208 [a0, a1, a2, a3, a4] st z Q)) := ni_T_ce [.ref o, .int x0, .int x1] rfl rfl rfl rfl rfl rfl rfl rfl rfl
theorem s151_208 : ni_T d 151 208 [a0, a1, a2, a3, a4] (.ref o :: st) z h Q = ni_T d 151 209 [a0, a1, a2, a3, a4] st z h Q := ni_T_p rfl rfl
theorem s151_208i : ni_T d 151 208 [a0, a1, a2, a3, a4] (.int x :: st) z h Q = ni_T d 151 209 [a0, a1, a2, a3, a4] st z h Q := ni_T_p rfl rfl
theorem s151_209 : ni_T d 151 209 [a0, a1, a2, a3, a4] st z h Q = ni_T d 151 277 [a0, a1, a2, a3, a4] st z h Q := ni_T_p rfl rfl
theorem s151_212 : ni_T d 151 212 [.ref o, a1, a2, a3, a4] st z h Q = ni_T d 151 213 [.ref o, a1, a2, a3, a4] (.ref o :: st) z h Q := ni_T_p rfl rfl
theorem s151_213 : ni_T d 151 213 [a0, a1, a2, a3, a4] (.ref o :: st) z h Q = (ni_is (h o) 7 11 = true ∧ ni_T d 151 216 [a0, a1, a2, a3, a4] (ni_gv (h o) 11 :: st) z h Q) := ni_T_getf rfl
theorem s151_216 : ni_T d 151 216 [.ref o, a1, a2, a3, a4] st z h Q = ni_T d 151 217 [.ref o, a1, a2, a3, a4] (.ref o :: st) z h Q := ni_T_p rfl rfl
theorem s151_217 : ni_T d 151 217 [a0, a1, a2, a3, a4] (.ref o :: st) z h Q = (ni_is (h o) 7 19 = true ∧ ni_T d 151 220 [a0, a1, a2, a3, a4] (ni_gv (h o) 19 :: st) z h Q) := ni_T_getf rfl
theorem s151_220 : ni_T d 151 220 [a0, a1, a2, a3, a4] st z h Q = ni_T d 151 221 [a0, a1, a2, a3, a4] (.int 0 :: st) z h Q := ni_T_p rfl rfl
theorem s151_221 : ni_T d 151 221 [a0, a1, a2, a3, a4] (.int x :: .ref o :: st) z h Q = (ni_okI (h o) x = true ∧ ni_T d 151 222 [a0, a1, a2, a3, a4] (.int (ni_gi (h o) x) :: st) z h Q) := ni_T_iald rfl
theorem s151_222 : ni_T d 151 222 [.ref o, a1, a2, a3, a4] st z h Q = ni_T d 151 223 [.ref o, a1, a2, a3, a4] (.ref o :: st) z h Q := ni_T_p rfl rfl
theorem s151_223 : ni_T d 151 223 [a0, a1, a2, a3, a4] (.ref o :: st) z h Q = (ni_is (h o) 7 19 = true ∧ ni_T d 151 226 [a0, a1, a2, a3, a4] (ni_gv (h o) 19 :: st) z h Q) := ni_T_getf rfl
theorem s151_226 : ni_T d 151 226 [a0, a1, a2, a3, a4] st z h Q = ni_T d 151 227 [a0, a1, a2, a3, a4] (.int 1 :: st) z h Q := ni_T_p rfl rfl
theorem s151_227 : ni_T d 151 227 [a0, a1, a2, a3, a4] (.int x :: .ref o :: st) z h Q = (ni_okI (h o) x = true ∧ ni_T d 151 228 [a0, a1, a2, a3, a4] (.int (ni_gi (h o) x) :: st) z h Q) := ni_T_iald rfl
theorem s151_228 : ni_T d 151 228 [a0, a1, a2, a3, a4] (.int y :: .int x :: .ref o :: st) z h Q = (ni_okS (h o) x = true ∧ ni_T d 151 229 [a0, a1, a2, a3, a4] st z (ni_up h o (ni_pi (h o) x y)) Q) := ni_T_iast rfl
theorem s151_229 : ni_T d 151 229 [a0, a1, a2, a3, a4] st z h Q = ni_T d 151 277 [a0, a1, a2, a3, a4] st z h Q := ni_T_p rfl rfl
theorem s151_232 : ni_T d 151 232 [.ref o, a1, a2, a3, a4] st z h Q = ni_T d 151 233 [.ref o, a1, a2, a3, a4] (.ref o :: st) z h Q := ni_T_p rfl rfl
theorem s151_233 : ni_T d 151 233 [a0, a1, a2, a3, a4] (.ref o :: st) z h Q = (ni_is (h o) 7 11 = true ∧ ni_T d 151 236 [a0, a1, a2, a3, a4] (ni_gv (h o) 11 :: st) z h Q) := ni_T_getf rfl
theorem s151_236 : ni_T d 151 236 [.ref o, a1, a2, a3, a4] st z h Q = ni_T d 151 237 [.ref o, a1, a2, a3, a4] (.ref o :: st) z h Q := ni_T_p rfl rfl
theorem s151_237 : ni_T d 151 237 [a0, a1, a2, a3, a4] (.ref o :: st) z h Q = (ni_is (h o) 7 19 = true ∧ ni_T d 151 240 [a0, a1, a2, a3, a4] (ni_gv (h o) 19 :: st) z h Q) := ni_T_getf rfl
theorem s151_240 : ni_T d 151 240 [a0, a1, a2, a3, a4] st z h Q = ni_T d 151 241 [a0, a1, a2, a3, a4] (.int 0 :: st) z h Q := ni_T_p rfl rfl
theorem s151_241 : ni_T d 151 241 [a0, a1, a2, a3, a4] (.int x :: .ref o :: st) z h Q = (ni_okI (h o) x = true ∧ ni_T d 151 242 [a0, a1, a2, a3, a4] (.int (ni_gi (h o) x) :: st) z h Q) := ni_T_iald rfl
theorem s151_242 : ni_T d 151 242 [a0, a1, a2, a3, a4] st z h Q = ni_T d 151 243 [a0, a1, a2, a3, a4] (.int (-1) :: st) z h Q := ni_T_p rfl rfl
theorem s151_243 : ni_T d 151 243 [a0, a1, a2, a3, a4] (.int y :: .int x :: .ref o :: st) z h Q = (ni_okS (h o) x = true ∧ ni_T d 151 244 [a0, a1, a2, a3, a4] st z (ni_up h o (ni_pi (h o) x y)) Q) := ni_T_iast rfl
theorem s151_244 : ni_T d 151 244 [a0, a1, a2, a3, a4] st z h Q = ni_T d 151 277 [a0, a1, a2, a3, a4] st z h Q := ni_T_p rfl rfl
theorem s151_247 : ni_T d 151 247 [.ref o, a1, a2, a3, a4] st z h Q = ni_T d 151 248 [.ref o, a1, a2, a3, a4] (.ref o :: st) z h Q := ni_T_p rfl rfl
theorem s151_248 : ni_T d 151 248 [a0, a1, a2, a3, a4] (.ref o :: st) z h Q = (ni_is (h o) 7 8 = true ∧ ni_T d 151 251 [a0, a1, a2, a3, a4] (ni_gv (h o) 8 :: st) z h Q) := ni_T_getf rfl
theorem s151_251 : ni_T d 151 251 [.ref o, a1, a2, a3, a4] st z h Q = ni_T d 151 252 [.ref o, a1, a2, a3, a4] (.ref o :: st) z h Q := ni_T_p rfl rfl
theorem s151_252 : ni_T d 151 252 [a0, a1, a2, a3, a4] (.ref o :: st) z h Q = (ni_is (h o) 7 19 = true ∧ ni_T d 151 255 [a0, a1, a2, a3, a4] (ni_gv (h o) 19 :: st) z h Q) := ni_T_getf rfl
theorem s151_255 : ni_T d 151 255 [a0, a1, a2, a3, a4] st z h Q = ni_T d 151 256 [a0, a1, a2, a3, a4] (.int 0 :: st) z h Q := ni_T_p rfl rfl
theorem s151_256 : ni_T d 151 256 [a0, a1, a2, a3, a4] (.int x :: .ref o :: st) z h Q = (ni_okI (h o) x = true ∧ ni_T d 151 257 [a0, a1, a2, a3, a4] (.int (ni_gi (h o) x) :: st) z h Q) := ni_T_iald rfl
theorem s151_257 : ni_T d 151 257 [.ref o, a1, a2, a3, a4] st z h Q = ni_T d 151 258 [.ref o, a1, a2, a3, a4] (.ref o :: st) z h Q := ni_T_p rfl rfl
theorem s151_258 : ni_T d 151 258 [a0, a1, a2, a3, a4] (.ref o :: st) z h Q = (ni_is (h o) 7 19 = true ∧ ni_T d 151 261 [a0, a1, a2, a3, a4] (ni_gv (h o) 19 :: st) z h Q) := ni_T_getf rfl
theorem s151_261 : ni_T d 151 261 [a0, a1, a2, a3, a4] st z h Q = ni_T d 151 262 [a0, a1, a2, a3, a4] (.int 1 :: st) z h Q := ni_T_p rfl rfl
theorem s151_262 : ni_T d 151 262 [a0, a1, a2, a3, a4] (.int x :: .ref o :: st) z h Q = (ni_okI (h o) x = true ∧ ni_T d 151 263 [a0, a1, a2, a3, a4] (.int (ni_gi (h o) x) :: st) z h Q) := ni_T_iald rfl
theorem s151_263 : ni_T d 151 263 [a0, a1, a2, a3, a4] (.int y :: .int x :: .ref o :: st) z h Q = (ni_okS (h o) x = true ∧ ni_T d 151 264 [a0, a1, a2, a3, a4] st z (ni_up h o (ni_pi (h o) x y)) Q) := ni_T_iast rfl
theorem s151_264 : ni_T d 151 264 [a0, a1, a2, a3, a4] st z h Q = ni_T d 151 277 [a0, a1, a2, a3, a4] st z h Q := ni_T_p rfl rfl
theorem s151_267 : ni_T d 151 267 [.ref o, a1, a2, a3, a4] st z h Q = ni_T d 151 268 [.ref o, a1, a2, a3, a4] (.ref o :: st) z h Q := ni_T_p rfl rfl
theorem s151_268 : ni_T d 151 268 [.ref o, a1, a2, a3, a4] st z h Q = ni_T d 151 269 [.ref o, a1, a2, a3, a4] (.ref o :: st) z h Q := ni_T_p rfl rfl
theorem s151_269 : ni_T d 151 269 [a0, a1, a2, a3, a4] (.ref o :: st) z h Q = (ni_is (h o) 7 19 = true ∧ ni_T d 151 272 [a0, a1, a2, a3, a4] (ni_gv (h o) 19 :: st) z h Q) := ni_T_getf rfl
theorem s151_272 : ni_T d 151 272 [a0, a1, a2, a3, a4] st z h Q = ni_T d 151 273 [a0, a1, a2, a3, a4] (.int 0 :: st) z h Q := ni_T_p rfl rfl
theorem s151_273 : ni_T d 151 273 [a0, a1, a2, a3, a4] (.int x :: .ref o :: st) z h Q = (ni_okI (h o) x = true ∧ ni_T d 151 274 [a0, a1, a2, a3, a4] (.int (ni_gi (h o) x) :: st) z h Q) := ni_T_iald rfl
theorem s151_274 : ni_T d 151 274 [a0, a1, a2, a3, a4] (b0 :: .ref o :: st) z h Q = ((Nat.ble 7 7 && ni_is (h o) 7 1 && ni_fit (.int) b0) = true ∧ ni_T d 151 277 [a0, a1, a2, a3, a4] st z (ni_up h o (ni_pv (h o) 1 b0)) Q) := ni_T_putf rfl
theorem s151_277 : ni_T d 151 277 [a0, a1, a2, a3, a4] st z h Q = ni_T d 151 278 [a0, a1, a2, a3, a4] (.int 1 :: st) z h Q := ni_T_p rfl rfl
theorem s151_278 : ni_T d 151 278 [a0, a1, a2, a3, a4] [.int x] z h Q = (narrow .boolean (.int x) = .int x ∧ Q (some (.int x)) z h) := ni_T_z rfl rfl
theorem s152_0 : ni_T d 152 0 [a0, a1, a2, a3, a4, a5, a6] st z h Q = ni_T d 152 1 [a0, a1, a2, a3, a4, a5, a6] (.int 0 :: st) z h Q := ni_T_p rfl rfl
theorem s152_1 : ni_T d 152 1 [a0, a1, a2, a3, a4, a5, a6] (.int x :: st) z h Q = ni_T d 152 3 [a0, a1, a2, a3, a4, ni_kl a5, .int x] st z h Q := ni_T_p rfl rfl
theorem s152_3 : ni_T d 152 3 [a0, a1, a2, a3, a4, a5, .int x] st z h Q = ni_T d 152 5 [a0, a1, a2, a3, a4, a5, .int x] (.int x :: st) z h Q := ni_T_p rfl rfl
theorem s152_5 : ni_T d 152 5 [a0, a1, .int x, a3, a4, a5, a6] st z h Q = ni_T d 152 6 [a0, a1, .int x, a3, a4, a5, a6] (.int x :: st) z h Q := ni_T_p rfl rfl
theorem s152_6 : ni_T d 152 6 [a0, a1, a2, a3, a4, a5, a6] (.int y :: .int x :: st) z h Q = if y ≤ x then ni_T d 152 45 [a0, a1, a2, a3, a4, a5, a6] st z h Q else ni_T d 152 9 [a0, a1, a2, a3, a4, a5, a6] st z h Q := ni_T_b rfl rfl
theorem s152_9 : ni_T d 152 9 [a0, a1, a2, a3, a4, .int x, a6] st z h Q = ni_T d 152 11 [a0, a1, a2, a3, a4, .int x, a6] (.int x :: st) z h Q := ni_T_p rfl rfl
theorem s152_11 : ni_T d 152 11 [a0, a1, a2, a3, a4, a5, a6] (.int x :: st) z h Q = if x = 0 then ni_T d 152 28 [a0, a1, a2, a3, a4, a5, a6] st z h Q else ni_T d 152 14 [a0, a1, a2, a3, a4, a5, a6] st z h Q := ni_T_b rfl rfl
theorem s152_14 : ni_T d 152 14 [a0, .ref o, a2, a3, a4, a5, a6] st z h Q = ni_T d 152 15 [a0, .ref o, a2, a3, a4, a5, a6] (.ref o :: st) z h Q := ni_T_p rfl rfl
theorem s152_14N : ni_T d 152 14 [a0, .null, a2, a3, a4, a5, a6] st z h Q = ni_T d 152 15 [a0, .null, a2, a3, a4, a5, a6] (.null :: st) z h Q := ni_T_p rfl rfl
theorem s152_15 : ni_T d 152 15 [a0, a1, a2, a3, a4, a5, .int x] st z h Q = ni_T d 152 17 [a0, a1, a2, a3, a4, a5, .int x] (.int x :: st) z h Q := ni_T_p rfl rfl
theorem s152_17 : ni_T d 152 17 [a0, a1, a2, .ref o, a4, a5, a6] st z h Q = ni_T d 152 18 [a0, a1, a2, .ref o, a4, a5, a6] (.ref o :: st) z h Q := ni_T_p rfl rfl
theorem s152_17N : ni_T d 152 17 [a0, a1, a2, .null, a4, a5, a6] st z h Q = ni_T d 152 18 [a0, a1, a2, .null, a4, a5, a6] (.null :: st) z h Q := ni_T_p rfl rfl
theorem s152_18 : ni_T d 152 18 [a0, a1, a2, a3, .int x, a5, a6] st z h Q = ni_T d 152 20 [a0, a1, a2, a3, .int x, a5, a6] (.int x :: st) z h Q := ni_T_p rfl rfl
theorem s152_20 : ni_T d 152 20 [a0, a1, a2, a3, a4, a5, .int x] st z h Q = ni_T d 152 22 [a0, a1, a2, a3, a4, a5, .int x] (.int x :: st) z h Q := ni_T_p rfl rfl
theorem s152_22 : ni_T d 152 22 [a0, a1, a2, a3, a4, a5, a6] (.int y :: .int x :: st) z h Q = ni_T d 152 23 [a0, a1, a2, a3, a4, a5, a6] (.int (x + y) :: st) z h Q := ni_T_p rfl rfl
theorem s152_23 : ni_T d 152 23 [a0, a1, a2, a3, a4, a5, a6] (.int x :: .ref o :: st) z h Q = (ni_okI (h o) x = true ∧ ni_T d 152 24 [a0, a1, a2, a3, a4, a5, a6] (.int (ni_gi (h o) x) :: st) z h Q) := ni_T_iald rfl
theorem s152_24 : ni_T d 152 24 [a0, a1, a2, a3, a4, a5, a6] (.int y :: .int x :: .ref o :: st) z h Q = (ni_okS (h o) x = true ∧ ni_T d 152 25 [a0, a1, a2, a3, a4, a5, a6] st z (ni_up h o (ni_pi (h o) x y)) Q) := ni_T_iast rfl
theorem s152_25 : ni_T d 152 25 [a0, a1, a2, a3, a4, a5, a6] st z h Q = ni_T d 152 39 [a0, a1, a2, a3, a4, a5, a6] st z h Q := ni_T_p rfl rfl
theorem s152_28 : ni_T d 152 28 [a0, a1, a2, .ref o, a4, a5, a6] st z h Q = ni_T d 152 29 [a0, a1, a2, .ref o, a4, a5, a6] (.ref o :: st) z h Q := ni_T_p rfl rfl
theorem s152_28N : ni_T d 152 28 [a0, a1, a2, .null, a4, a5, a6] st z h Q = ni_T d 152 29 [a0, a1, a2, .null, a4, a5, a6] (.null :: st) z h Q := ni_T_p rfl rfl
theorem s152_29 : ni_T d 152 29 [a0, a1, a2, a3, .int x, a5, a6] st z h Q = ni_T d 152 31 [a0, a1, a2, a3, .int x, a5, a6] (.int x :: st) z h Q := ni_T_p rfl rfl
theorem s152_31 : ni_T d 152 31 [a0, a1, a2, a3, a4, a5, .int x] st z h Q = ni_T d 152 33 [a0, a1, a2, a3, a4, a5, .int x] (.int x :: st) z h Q := ni_T_p rfl rfl
theorem s152_33 : ni_T d 152 33 [a0, a1, a2, a3, a4, a5, a6] (.int y :: .int x :: st) z h Q = ni_T d 152 34 [a0, a1, a2, a3, a4, a5, a6] (.int (x + y) :: st) z h Q := ni_T_p rfl rfl
theorem s152_34 : ni_T d 152 34 [a0, .ref o, a2, a3, a4, a5, a6] st z h Q = ni_T d 152 35 [a0, .ref o, a2, a3, a4, a5, a6] (.ref o :: st) z h Q := ni_T_p rfl rfl
theorem s152_34N : ni_T d 152 34 [a0, .null, a2, a3, a4, a5, a6] st z h Q = ni_T d 152 35 [a0, .null, a2, a3, a4, a5, a6] (.null :: st) z h Q := ni_T_p rfl rfl
theorem s152_35 : ni_T d 152 35 [a0, a1, a2, a3, a4, a5, .int x] st z h Q = ni_T d 152 37 [a0, a1, a2, a3, a4, a5, .int x] (.int x :: st) z h Q := ni_T_p rfl rfl
theorem s152_37 : ni_T d 152 37 [a0, a1, a2, a3, a4, a5, a6] (.int x :: .ref o :: st) z h Q = (ni_okI (h o) x = true ∧ ni_T d 152 38 [a0, a1, a2, a3, a4, a5, a6] (.int (ni_gi (h o) x) :: st) z h Q) := ni_T_iald rfl
theorem s152_38 : ni_T d 152 38 [a0, a1, a2, a3, a4, a5, a6] (.int y :: .int x :: .ref o :: st) z h Q = (ni_okS (h o) x = true ∧ ni_T d 152 39 [a0, a1, a2, a3, a4, a5, a6] st z (ni_up h o (ni_pi (h o) x y)) Q) := ni_T_iast rfl
theorem s152_39 : ni_T d 152 39 [a0, a1, a2, a3, a4, a5, .int x] st z h Q = ni_T d 152 42 [a0, a1, a2, a3, a4, ni_kl a5, .int (x + 1)] st z h Q := ni_T_p rfl rfl
theorem s152_42 : ni_T d 152 42 [a0, a1, a2, a3, a4, a5, a6] st z h Q = ni_T d 152 3 [a0, a1, a2, a3, a4, a5, a6] st z h Q := ni_T_p rfl rfl
theorem s152_45 : ni_T d 152 45 [a0, a1, a2, a3, .int x, a5, a6] st z h Q = ni_T d 152 47 [a0, a1, a2, a3, .int x, a5, a6] (.int x :: st) z h Q := ni_T_p rfl rfl
theorem s152_47 : ni_T d 152 47 [a0, a1, .int x, a3, a4, a5, a6] st z h Q = ni_T d 152 48 [a0, a1, .int x, a3, a4, a5, a6] (.int x :: st) z h Q := ni_T_p rfl rfl
theorem s152_48 : ni_T d 152 48 [a0, a1, a2, a3, a4, a5, a6] (.int y :: .int x :: st) z h Q = ni_T d 152 49 [a0, a1, a2, a3, a4, a5, a6] (.int (x + y) :: st) z h Q := ni_T_p rfl rfl
theorem s152_49 : ni_T d 152 49 [a0, a1, a2, a3, a4, a5, a6] [.int x] z h Q = Q (some (.int x)) z h := ni_T_i rfl rfl
theorem s153_0 : ni_T d 153 0 [.ref o, a1, a2, a3] st z h Q = ni_T d 153 1 [.ref o, a1, a2, a3] (.ref o :: st) z h Q := ni_T_p rfl rfl
theorem s153_1 : ni_T d 153 1 [.ref o, a1, a2, a3] st z h Q = ni_T d 153 2 [.ref o, a1, a2, a3] (.ref o :: st) z h Q := ni_T_p rfl rfl
theorem s153_2 : ni_T d 153 2 [a0, a1, a2, a3] (.ref o :: st) z h Q = (ni_is (h o) 7 6 = true ∧ ni_T d 153 5 [a0, a1, a2, a3] (ni_gv (h o) 6 :: st) z h Q) := ni_T_getf rfl
theorem s153_5 : ni_T d 153 5 [a0, a1, a2, a3] st z h Q = ni_T d 153 6 [a0, a1, a2, a3] (.int 4 :: st) z h Q := ni_T_p rfl rfl
theorem s153_6 : ni_T d 153 6 [a0, .ref o, a2, a3] st z h Q = ni_T d 153 7 [a0, .ref o, a2, a3] (.ref o :: st) z h Q := ni_T_p rfl rfl
theorem s153_6N : ni_T d 153 6 [a0, .null, a2, a3] st z h Q = ni_T d 153 7 [a0, .null, a2, a3] (.null :: st) z h Q := ni_T_p rfl rfl
theorem s153_7 : ni_T d 153 7 [a0, a1, a2, a3] st z h Q = ni_T d 153 8 [a0, a1, a2, a3] (.int 0 :: st) z h Q := ni_T_p rfl rfl
theorem s153_8 : ni_T d 153 8 [a0, a1, .int x, a3] st z h Q = ni_T d 153 9 [a0, a1, .int x, a3] (.int x :: st) z h Q := ni_T_p rfl rfl
theorem s153_9 : ni_T (d + 1) 153 9 [a0, a1, a2, a3] (.int x4 :: .int x3 :: .ref o22 :: .int x1 :: .ref o20 :: .ref o :: st) z h Q = (ni_rc (h o) 7 = true ∧ Nat.ble (ni_sw st) 8 = true ∧ ni_T d 152 0 [.ref o, .ref o20, .int x1, .ref o22, .int x3, .int x4, .retAddr 0] [] z h (ni_K (d + 1) 153 12 [a0, a1, a2, a3] st z Q)) := ni_T_ce [.ref o, .ref o20, .int x1, .ref o22, .int x3, .int x4] rfl rfl rfl rfl rfl rfl rfl rfl rfl
theorem s153_9N2 : ni_T (d + 1) 153 9 [a0, a1, a2, a3] (.int x4 :: .int x3 :: .null :: .int x1 :: .ref o20 :: .ref o :: st) z h Q = (ni_rc (h o) 7 = true ∧ Nat.ble (ni_sw st) 8 = true ∧ ni_T d 152 0 [.ref o, .ref o20, .int x1, .null, .int x3, .int x4, .retAddr 0] [] z h (ni_K (d + 1) 153 12 [a0, a1, a2, a3] st z Q)) := ni_T_ce [.ref o, .ref o20, .int x1, .null, .int x3, .int x4] rfl rfl rfl rfl rfl rfl rfl rfl rfl
theorem s153_9N0 : ni_T (d + 1) 153 9 [a0, a1, a2, a3] (.int x4 :: .int x3 :: .ref o22 :: .int x1 :: .null :: .ref o :: st) z h Q = (ni_rc (h o) 7 = true ∧ Nat.ble (ni_sw st) 8 = true ∧ ni_T d 152 0 [.ref o, .null, .int x1, .ref o22, .int x3, .int x4, .retAddr 0] [] z h (ni_K (d + 1) 153 12 [a0, a1, a2, a3] st z Q)) := ni_T_ce [.ref o, .null, .int x1, .ref o22, .int x3, .int x4] rfl rfl rfl rfl rfl rfl rfl rfl rfl
theorem s153_9N0N2 : ni_T (d + 1) 153 9 [a0, a1, a2, a3] (.int x4 :: .int x3 :: .null :: .int x1 :: .null :: .ref o :: st) z h Q = (ni_rc (h o) 7 = true ∧ Nat.ble (ni_sw st) 8 = true ∧ ni_T d 152 0 [.ref o, .null, .int x1, .null, .int x3, .int x4, .retAddr 0] [] z h (ni_K (d + 1) 153 12 [a0, a1, a2, a3] st z Q)) := ni_T_ce [.ref o, .null, .int x1, .null, .int x3, .int x4] rfl rfl rfl rfl rfl rfl rfl rfl rfl
theorem s153_12 : ni_T d 153 12 [a0, a1, a2, a3] (.int x :: st) z h Q = ni_T d 153 13 [a0, a1, ni_kl a2, .int x] st z h Q := ni_T_p rfl rfl
theorem s153_13 : ni_T d 153 13 [.ref o, a1, a2, a3] st z h Q = ni_T d 153 14 [.ref o, a1, a2, a3] (.ref o :: st) z h Q := ni_T_p rfl rfl
theorem s153_14 : ni_T d 153 14 [.ref o, a1, a2, a3] st z h Q = ni_T d 153 15 [.ref o, a1, a2, a3] (.ref o :: st) z h Q := ni_T_p rfl rfl
theorem s153_15 : ni_T d 153 15 [a0, a1, a2, a3] (.ref o :: st) z h Q = (ni_is (h o) 7 7 = true ∧ ni_T d 153 18 [a0, a1, a2, a3] (ni_gv (h o) 7 :: st) z h Q) := ni_T_getf rfl
theorem s153_18 : ni_T d 153 18 [a0, a1, a2, a3] st z h Q = ni_T d 153 19 [a0, a1, a2, a3] (.int 4 :: st) z h Q := ni_T_p rfl rfl
theorem s153_19 : ni_T d 153 19 [a0, .ref o, a2, a3] st z h Q = ni_T d 153 20 [a0, .ref o, a2, a3] (.ref o :: st) z h Q := ni_T_p rfl rfl
theorem s153_19N : ni_T d 153 19 [a0, .null, a2, a3] st z h Q = ni_T d 153 20 [a0, .null, a2, a3] (.null :: st) z h Q := ni_T_p rfl rfl
theorem s153_20 : ni_T d 153 20 [a0, a1, a2, .int x] st z h Q = ni_T d 153 21 [a0, a1, a2, .int x] (.int x :: st) z h Q := ni_T_p rfl rfl
theorem s153_21 : ni_T d 153 21 [a0, a1, .int x, a3] st z h Q = ni_T d 153 22 [a0, a1, .int x, a3] (.int x :: st) z h Q := ni_T_p rfl rfl
theorem s153_22 : ni_T (d + 1) 153 22 [a0, a1, a2, a3] (.int x4 :: .int x3 :: .ref o22 :: .int x1 :: .ref o20 :: .ref o :: st) z h Q = (ni_rc (h o) 7 = true ∧ Nat.ble (ni_sw st) 8 = true ∧ ni_T d 152 0 [.ref o, .ref o20, .int x1, .ref o22, .int x3, .int x4, .retAddr 0] [] z h (ni_K (d + 1) 153 25 [a0, a1, a2, a3] st z Q)) := ni_T_ce [.ref o, .ref o20, .int x1, .ref o22, .int x3, .int x4] rfl rfl rfl rfl rfl rfl rfl rfl rfl
theorem s153_22N2 : ni_T (d + 1) 153 22 [a0, a1, a2, a3] (.int x4 :: .int x3 :: .null :: .int x1 :: .ref o20 :: .ref o :: st) z h Q = (ni_rc (h o) 7 = true ∧ Nat.ble (ni_sw st) 8 = true ∧ ni_T d 152 0 [.ref o, .ref o20, .int x1, .null, .int x3, .int x4, .retAddr 0] [] z h (ni_K (d + 1) 153 25 [a0, a1, a2, a3] st z Q)) := ni_T_ce [.ref o, .ref o20, .int x1, .null, .int x3, .int x4] rfl rfl rfl rfl rfl rfl rfl rfl rfl
theorem s153_22N0 : ni_T (d + 1) 153 22 [a0, a1, a2, a3] (.int x4 :: .int x3 :: .ref o22 :: .int x1 :: .null :: .ref o :: st) z h Q = (ni_rc (h o) 7 = true ∧ Nat.ble (ni_sw st) 8 = true ∧ ni_T d 152 0 [.ref o, .null, .int x1, .ref o22, .int x3, .int x4, .retAddr 0] [] z h (ni_K (d + 1) 153 25 [a0, a1, a2, a3] st z Q)) := ni_T_ce [.ref o, .null, .int x1, .ref o22, .int x3, .int x4] rfl rfl rfl rfl rfl rfl rfl rfl rfl
theorem s153_22N0N2 : ni_T (d + 1) 153 22 [a0, a1, a2, a3] (.int x4 :: .int x3 :: .null :: .int x1 :: .null :: .ref o :: st) z h Q = (ni_rc (h o) 7 = true ∧ Nat.ble (ni_sw st) 8 = true ∧ ni_T d 152 0 [.ref o, .null, .int x1, .null, .int x3, .int x4, .retAddr 0] [] z h (ni_K (d + 1) 153 25 [a0, a1, a2, a3] st z Q)) := ni_T_ce [.ref o, .null, .int x1, .null, .int x3, .int x4] rfl rfl rfl rfl rfl rfl rfl rfl rfl
theorem s153_25 : ni_T d 153 25 [a0, a1, a2, a3] (.int x :: st) z h Q = ni_T d 153 26 [a0, a1, ni_kl a2, .int x] st z h Q := ni_T_p rfl rfl
theorem s153_26 : ni_T d 153 26 [.ref o, a1, a2, a3] st z h Q = ni_T d 153 27 [.ref o, a1, a2, a3] (.ref o :: st) z h Q := ni_T_p rfl rfl
theorem s153_27 : ni_T d 153 27 [.ref o, a1, a2, a3] st z h Q = ni_T d 153 28 [.ref o, a1, a2, a3] (.ref o :: st) z h Q := ni_T_p rfl rfl
theorem s153_28 : ni_T d 153 28 [a0, a1, a2, a3] (.ref o :: st) z h Q = (ni_is (h o) 7 8 = true ∧ ni_T d 153 31 [a0, a1, a2, a3] (ni_gv (h o) 8 :: st) z h Q) := ni_T_getf rfl
theorem s153_31 : ni_T d 153 31 [a0, a1, a2, a3] st z h Q = ni_T d 153 32 [a0, a1, a2, a3] (.int 4 :: st) z h Q := ni_T_p rfl rfl
theorem s153_32 : ni_T d 153 32 [a0, .ref o, a2, a3] st z h Q = ni_T d 153 33 [a0, .ref o, a2, a3] (.ref o :: st) z h Q := ni_T_p rfl rfl
theorem s153_32N : ni_T d 153 32 [a0, .null, a2, a3] st z h Q = ni_T d 153 33 [a0, .null, a2, a3] (.null :: st) z h Q := ni_T_p rfl rfl
theorem s153_33 : ni_T d 153 33 [a0, a1, a2, .int x] st z h Q = ni_T d 153 34 [a0, a1, a2, .int x] (.int x :: st) z h Q := ni_T_p rfl rfl
theorem s153_34 : ni_T d 153 34 [a0, a1, .int x, a3] st z h Q = ni_T d 153 35 [a0, a1, .int x, a3] (.int x :: st) z h Q := ni_T_p rfl rfl
theorem s153_35 : ni_T (d + 1) 153 35 [a0, a1, a2, a3] (.int x4 :: .int x3 :: .ref o22 :: .int x1 :: .ref o20 :: .ref o :: st) z h Q = (ni_rc (h o) 7 = true ∧ Nat.ble (ni_sw st) 8 = true ∧ ni_T d 152 0 [.ref o, .ref o20, .int x1, .ref o22, .int x3, .int x4, .retAddr 0] [] z h (ni_K (d + 1) 153 38 [a0, a1, a2, a3] st z Q)) := ni_T_ce [.ref o, .ref o20, .int x1, .ref o22, .int x3, .int x4] rfl rfl rfl rfl rfl rfl rfl rfl rfl
theorem s153_35N2 : ni_T (d + 1) 153 35 [a0, a1, a2, a3] (.int x4 :: .int x3 :: .null :: .int x1 :: .ref o20 :: .ref o :: st) z h Q = (ni_rc (h o) 7 = true ∧ Nat.ble (ni_sw st) 8 = true ∧ ni_T d 152 0 [.ref o, .ref o20, .int x1, .null, .int x3, .int x4, .retAddr 0] [] z h (ni_K (d + 1) 153 38 [a0, a1, a2, a3] st z Q)) := ni_T_ce [.ref o, .ref o20, .int x1, .null, .int x3, .int x4] rfl rfl rfl rfl rfl rfl rfl rfl rfl
theorem s153_35N0 : ni_T (d + 1) 153 35 [a0, a1, a2, a3] (.int x4 :: .int x3 :: .ref o22 :: .int x1 :: .null :: .ref o :: st) z h Q = (ni_rc (h o) 7 = true ∧ Nat.ble (ni_sw st) 8 = true ∧ ni_T d 152 0 [.ref o, .null, .int x1, .ref o22, .int x3, .int x4, .retAddr 0] [] z h (ni_K (d + 1) 153 38 [a0, a1, a2, a3] st z Q)) := ni_T_ce [.ref o, .null, .int x1, .ref o22, .int x3, .int x4] rfl rfl rfl rfl rfl rfl rfl rfl rfl
theorem s153_35N0N2 : ni_T (d + 1) 153 35 [a0, a1, a2, a3] (.int x4 :: .int x3 :: .null :: .int x1 :: .null :: .ref o :: st) z h Q = (ni_rc (h o) 7 = true ∧ Nat.ble (ni_sw st) 8 = true ∧ ni_T d 152 0 [.ref o, .null, .int x1, .null, .int x3, .int x4, .retAddr 0] [] z h (ni_K (d + 1) 153 38 [a0, a1, a2, a3] st z Q)) := ni_T_ce [.ref o, .null, .int x1, .null, .int x3, .int x4] rfl rfl rfl rfl rfl rfl rfl rfl rfl
theorem s153_38 : ni_T d 153 38 [a0, a1, a2, a3] (.int x :: st) z h Q = ni_T d 153 39 [a0, a1, ni_kl a2, .int x] st z h Q := ni_T_p rfl rfl
theorem s153_39 : ni_T d 153 39 [.ref o, a1, a2, a3] st z h Q = ni_T d 153 40 [.ref o, a1, a2, a3] (.ref o :: st) z h Q := ni_T_p rfl rfl
theorem s153_40 : ni_T d 153 40 [.ref o, a1, a2, a3] st z h Q = ni_T d 153 41 [.ref o, a1, a2, a3] (.ref o :: st) z h Q := ni_T_p rfl rfl
theorem s153_41 : ni_T d 153 41 [a0, a1, a2, a3] (.ref o :: st) z h Q = (ni_is (h o) 7 9 = true ∧ ni_T d 153 44 [a0, a1, a2, a3] (ni_gv (h o) 9 :: st) z h Q) := ni_T_getf rfl
theorem s153_44 : ni_T d 153 44 [a0, a1, a2, a3] st z h Q = ni_T d 153 45 [a0, a1, a2, a3] (.int 4 :: st) z h Q := ni_T_p rfl rfl
theorem s153_45 : ni_T d 153 45 [a0, .ref o, a2, a3] st z h Q = ni_T d 153 46 [a0, .ref o, a2, a3] (.ref o :: st) z h Q := ni_T_p rfl rfl
theorem s153_45N : ni_T d 153 45 [a0, .null, a2, a3] st z h Q = ni_T d 153 46 [a0, .null, a2, a3] (.null :: st) z h Q := ni_T_p rfl rfl
theorem s153_46 : ni_T d 153 46 [a0, a1, a2, .int x] st z h Q = ni_T d 153 47 [a0, a1, a2, .int x] (.int x :: st) z h Q := ni_T_p rfl rfl
theorem s153_47 : ni_T d 153 47 [a0, a1, .int x, a3] st z h Q = ni_T d 153 48 [a0, a1, .int x, a3] (.int x :: st) z h Q := ni_T_p rfl rfl
theorem s153_48 : ni_T (d + 1) 153 48 [a0, a1, a2, a3] (.int x4 :: .int x3 :: .ref o22 :: .int x1 :: .ref o20 :: .ref o :: st) z h Q = (ni_rc (h o) 7 = true ∧ Nat.ble (ni_sw st) 8 = true ∧ ni_T d 152 0 [.ref o, .ref o20, .int x1, .ref o22, .int x3, .int x4, .retAddr 0] [] z h (ni_K (d + 1) 153 51 [a0, a1, a2, a3] st z Q)) := ni_T_ce [.ref o, .ref o20, .int x1, .ref o22, .int x3, .int x4] rfl rfl rfl rfl rfl rfl rfl rfl rfl
theorem s153_48N2 : ni_T (d + 1) 153 48 [a0, a1, a2, a3] (.int x4 :: .int x3 :: .null :: .int x1 :: .ref o20 :: .ref o :: st) z h Q = (ni_rc (h o) 7 = true ∧ Nat.ble (ni_sw st) 8 = true ∧ ni_T d 152 0 [.ref o, .ref o20, .int x1, .null, .int x3, .int x4, .retAddr 0] [] z h (ni_K (d + 1) 153 51 [a0, a1, a2, a3] st z Q)) := ni_T_ce [.ref o, .ref o20, .int x1, .null, .int x3, .int x4] rfl rfl rfl rfl rfl rfl rfl rfl rfl
theorem s153_48N0 : ni_T (d + 1) 153 48 [a0, a1, a2, a3] (.int x4 :: .int x3 :: .ref o22 :: .int x1 :: .null :: .ref o :: st) z h Q = (ni_rc (h o) 7 = true ∧ Nat.ble (ni_sw st) 8 = true ∧ ni_T d 152 0 [.ref o, .null, .int x1, .ref o22, .int x3, .int x4, .retAddr 0] [] z h (ni_K (d + 1) 153 51 [a0, a1, a2, a3] st z Q)) := ni_T_ce [.ref o, .null, .int x1, .ref o22, .int x3, .int x4] rfl rfl rfl rfl rfl rfl rfl rfl rfl
theorem s153_48N0N2 : ni_T (d + 1) 153 48 [a0, a1, a2, a3] (.int x4 :: .int x3 :: .null :: .int x1 :: .null :: .ref o :: st) z h Q = (ni_rc (h o) 7 = true ∧ Nat.ble (ni_sw st) 8 = true ∧ ni_T d 152 0 [.ref o, .null, .int x1, .null, .int x3, .int x4, .retAddr 0] [] z h (ni_K (d + 1) 153 51 [a0, a1, a2, a3] st z Q)) := ni_T_ce [.ref o, .null, .int x1, .null, .int x3, .int x4] rfl rfl rfl rfl rfl rfl rfl rfl rfl
theorem s153_51 : ni_T d 153 51 [a0, a1, a2, a3] (.int x :: st) z h Q = ni_T d 153 52 [a0, a1, ni_kl a2, .int x] st z h Q := ni_T_p rfl rfl
theorem s153_52 : ni_T d 153 52 [.ref o, a1, a2, a3] st z h Q = ni_T d 153 53 [.ref o, a1, a2, a3] (.ref o :: st) z h Q := ni_T_p rfl rfl
theorem s153_53 : ni_T d 153 53 [.ref o, a1, a2, a3] st z h Q = ni_T d 153 54 [.ref o, a1, a2, a3] (.ref o :: st) z h Q := ni_T_p rfl rfl
theorem s153_54 : ni_T d 153 54 [a0, a1, a2, a3] (.ref o :: st) z h Q = (ni_is (h o) 7 10 = true ∧ ni_T d 153 57 [a0, a1, a2, a3] (ni_gv (h o) 10 :: st) z h Q) := ni_T_getf rfl
theorem s153_57 : ni_T d 153 57 [a0, a1, a2, a3] st z h Q = ni_T d 153 58 [a0, a1, a2, a3] (.int 4 :: st) z h Q := ni_T_p rfl rfl
theorem s153_58 : ni_T d 153 58 [a0, .ref o, a2, a3] st z h Q = ni_T d 153 59 [a0, .ref o, a2, a3] (.ref o :: st) z h Q := ni_T_p rfl rfl
theorem s153_58N : ni_T d 153 58 [a0, .null, a2, a3] st z h Q = ni_T d 153 59 [a0, .null, a2, a3] (.null :: st) z h Q := ni_T_p rfl rfl
theorem s153_59 : ni_T d 153 59 [a0, a1, a2, .int x] st z h Q = ni_T d 153 60 [a0, a1, a2, .int x] (.int x :: st) z h Q := ni_T_p rfl rfl
theorem s153_60 : ni_T d 153 60 [a0, a1, .int x, a3] st z h Q = ni_T d 153 61 [a0, a1, .int x, a3] (.int x :: st) z h Q := ni_T_p rfl rfl
theorem s153_61 : ni_T (d + 1) 153 61 [a0, a1, a2, a3] (.int x4 :: .int x3 :: .ref o22 :: .int x1 :: .ref o20 :: .ref o :: st) z h Q = (ni_rc (h o) 7 = true ∧ Nat.ble (ni_sw st) 8 = true ∧ ni_T d 152 0 [.ref o, .ref o20, .int x1, .ref o22, .int x3, .int x4, .retAddr 0] [] z h (ni_K (d + 1) 153 64 [a0, a1, a2, a3] st z Q)) := ni_T_ce [.ref o, .ref o20, .int x1, .ref o22, .int x3, .int x4] rfl rfl rfl rfl rfl rfl rfl rfl rfl
theorem s153_61N2 : ni_T (d + 1) 153 61 [a0, a1, a2, a3] (.int x4 :: .int x3 :: .null :: .int x1 :: .ref o20 :: .ref o :: st) z h Q = (ni_rc (h o) 7 = true ∧ Nat.ble (ni_sw st) 8 = true ∧ ni_T d 152 0 [.ref o, .ref o20, .int x1, .null, .int x3, .int x4, .retAddr 0] [] z h (ni_K (d + 1) 153 64 [a0, a1, a2, a3] st z Q)) := ni_T_ce [.ref o, .ref o20, .int x1, .null, .int x3, .int x4] rfl rfl rfl rfl rfl rfl rfl rfl rfl
theorem s153_61N0 : ni_T (d + 1) 153 61 [a0, a1, a2, a3] (.int x4 :: .int x3 :: .ref o22 :: .int x1 :: .null :: .ref o :: st) z h Q = (ni_rc (h o) 7 = true ∧ Nat.ble (ni_sw st) 8 = true ∧ ni_T d 152 0 [.ref o, .null, .int x1, .ref o22, .int x3, .int x4, .retAddr 0] [] z h (ni_K (d + 1) 153 64 [a0, a1, a2, a3] st z Q)) := ni_T_ce [.ref o, .null, .int x1, .ref o22, .int x3, .int x4] rfl rfl rfl rfl rfl rfl rfl rfl rfl
theorem s153_61N0N2 : ni_T (d + 1) 153 61 [a0, a1, a2, a3] (.int x4 :: .int x3 :: .null :: .int x1 :: .null :: .ref o :: st) z h Q = (ni_rc (h o) 7 = true ∧ Nat.ble (ni_sw st) 8 = true ∧ ni_T d 152 0 [.ref o, .null, .int x1, .null, .int x3, .int x4, .retAddr 0] [] z h (ni_K (d + 1) 153 64 [a0, a1, a2, a3] st z Q)) := ni_T_ce [.ref o, .null, .int x1, .null, .int x3, .int x4] rfl rfl rfl rfl rfl rfl rfl rfl rfl
theorem s153_64 : ni_T d 153 64 [a0, a1, a2, a3] (.int x :: st) z h Q = ni_T d 153 65 [a0, a1, ni_kl a2, .int x] st z h Q := ni_T_p rfl rfl
theorem s153_65 : ni_T d 153 65 [.ref o, a1, a2, a3] st z h Q = ni_T d 153 66 [.ref o, a1, a2, a3] (.ref o :: st) z h Q := ni_T_p rfl rfl
theorem s153_66 : ni_T d 153 66 [.ref o, a1, a2, a3] st z h Q = ni_T d 153 67 [.ref o, a1, a2, a3] (.ref o :: st) z h Q := ni_T_p rfl rfl
theorem s153_67 : ni_T d 153 67 [a0, a1, a2, a3] (.ref o :: st) z h Q = (ni_is (h o) 7 11 = true ∧ ni_T d 153 70 [a0, a1, a2, a3] (ni_gv (h o) 11 :: st) z h Q) := ni_T_getf rfl
theorem s153_70 : ni_T d 153 70 [a0, a1, a2, a3] st z h Q = ni_T d 153 71 [a0, a1, a2, a3] (.int 5 :: st) z h Q := ni_T_p rfl rfl
theorem s153_71 : ni_T d 153 71 [a0, .ref o, a2, a3] st z h Q = ni_T d 153 72 [a0, .ref o, a2, a3] (.ref o :: st) z h Q := ni_T_p rfl rfl
theorem s153_71N : ni_T d 153 71 [a0, .null, a2, a3] st z h Q = ni_T d 153 72 [a0, .null, a2, a3] (.null :: st) z h Q := ni_T_p rfl rfl
theorem s153_72 : ni_T d 153 72 [a0, a1, a2, .int x] st z h Q = ni_T d 153 73 [a0, a1, a2, .int x] (.int x :: st) z h Q := ni_T_p rfl rfl
theorem s153_73 : ni_T d 153 73 [a0, a1, .int x, a3] st z h Q = ni_T d 153 74 [a0, a1, .int x, a3] (.int x :: st) z h Q := ni_T_p rfl rfl
theorem s153_74 : ni_T (d + 1) 153 74 [a0, a1, a2, a3] (.int x4 :: .int x3 :: .ref o22 :: .int x1 :: .ref o20 :: .ref o :: st) z h Q = (ni_rc (h o) 7 = true ∧ Nat.ble (ni_sw st) 8 = true ∧ ni_T d 152 0 [.ref o, .ref o20, .int x1, .ref o22, .int x3, .int x4, .retAddr 0] [] z h (ni_K (d + 1) 153 77 [a0, a1, a2, a3] st z Q)) := ni_T_ce [.ref o, .ref o20, .int x1, .ref o22, .int x3, .int x4] rfl rfl rfl rfl rfl rfl rfl rfl rfl
theorem s153_74N2 : ni_T (d + 1) 153 74 [a0, a1, a2, a3] (.int x4 :: .int x3 :: .null :: .int x1 :: .ref o20 :: .ref o :: st) z h Q = (ni_rc (h o) 7 = true ∧ Nat.ble (ni_sw st) 8 = true ∧ ni_T d 152 0 [.ref o, .ref o20, .int x1, .null, .int x3, .int x4, .retAddr 0] [] z h (ni_K (d + 1) 153 77 [a0, a1, a2, a3] st z Q)) := ni_T_ce [.ref o, .ref o20, .int x1, .null, .int x3, .int x4] rfl rfl rfl rfl rfl rfl rfl rfl rfl
theorem s153_74N0 : ni_T (d + 1) 153 74 [a0, a1, a2, a3] (.int x4 :: .int x3 :: .ref o22 :: .int x1 :: .null :: .ref o :: st) z h Q = (ni_rc (h o) 7 = true ∧ Nat.ble (ni_sw st) 8 = true ∧ ni_T d 152 0 [.ref o, .null, .int x1, .ref o22, .int x3, .int x4, .retAddr 0] [] z h (ni_K (d + 1) 153 77 [a0, a1, a2, a3] st z Q)) := ni_T_ce [.ref o, .null, .int x1, .ref o22, .int x3, .int x4] rfl rfl rfl rfl rfl rfl rfl rfl rfl
theorem s153_74N0N2 : ni_T (d + 1) 153 74 [a0, a1, a2, a3] (.int x4 :: .int x3 :: .null :: .int x1 :: .null :: .ref o :: st) z h Q = (ni_rc (h o) 7 = true ∧ Nat.ble (ni_sw st) 8 = true ∧ ni_T d 152 0 [.ref o, .null, .int x1, .null, .int x3, .int x4, .retAddr 0] [] z h (ni_K (d + 1) 153 77 [a0, a1, a2, a3] st z Q)) := ni_T_ce [.ref o, .null, .int x1, .null, .int x3, .int x4] rfl rfl rfl rfl rfl rfl rfl rfl rfl
theorem s153_77 : ni_T d 153 77 [a0, a1, a2, a3] (.int x :: st) z h Q = ni_T d 153 78 [a0, a1, ni_kl a2, .int x] st z h Q := ni_T_p rfl rfl
theorem s153_78 : ni_T d 153 78 [a0, a1, .int x, a3] st z h Q = ni_T d 153 79 [a0, a1, .int x, a3] (.int x :: st) z h Q := ni_T_p rfl rfl
theorem s153_79 : ni_T d 153 79 [a0, a1, a2, a3] (.int x :: st) z h Q = if x = 0 then ni_T d 153 119 [a0, a1, a2, a3] st z h Q else ni_T d 153 82 [a0, a1, a2, a3] st z h Q := ni_T_b rfl rfl
theorem s153_82 : ni_T d 153 82 [.ref o, a1, a2, a3] st z h Q = ni_T d 153 83 [.ref o, a1, a2, a3] (.ref o :: st) z h Q := ni_T_p rfl rfl
theorem s153_83 : ni_T d 153 83 [a0, .ref o, a2, a3] st z h Q = ni_T d 153 84 [a0, .ref o, a2, a3] (.ref o :: st) z h Q := ni_T_p rfl rfl
theorem s153_83N : ni_T d 153 83 [a0, .null, a2, a3] st z h Q = ni_T d 153 84 [a0, .null, a2, a3] (.null :: st) z h Q := ni_T_p rfl rfl
theorem s153_84 : ni_T d 153 84 [a0, a1, a2, .int x] st z h Q = ni_T d 153 85 [a0, a1, a2, .int x] (.int x :: st) z h Q := ni_T_p rfl rfl
theorem s153_85 : ni_T d 153 85 [a0, a1, a2, a3] (.int x :: .ref o :: st) z h Q = (ni_okI (h o) x = true ∧ ni_T d 153 86 [a0, a1, a2, a3] (.int (ni_gi (h o) x) :: st) z h Q) := ni_T_iald rfl
theorem s153_86 : ni_T d 153 86 [a0, a1, a2, a3] (b0 :: .ref o :: st) z h Q = ((Nat.ble 7 7 && ni_is (h o) 7 0 && ni_fit (.int) b0) = true ∧ ni_T d 153 89 [a0, a1, a2, a3] st z (ni_up h o (ni_pv (h o) 0 b0)) Q) := ni_T_putf rfl
theorem s153_89 : ni_T d 153 89 [.ref o, a1, a2, a3] st z h Q = ni_T d 153 90 [.ref o, a1, a2, a3] (.ref o :: st) z h Q := ni_T_p rfl rfl
theorem s153_90 : ni_T d 153 90 [a0, .ref o, a2, a3] st z h Q = ni_T d 153 91 [a0, .ref o, a2, a3] (.ref o :: st) z h Q := ni_T_p rfl rfl
theorem s153_90N : ni_T d 153 90 [a0, .null, a2, a3] st z h Q = ni_T d 153 91 [a0, .null, a2, a3] (.null :: st) z h Q := ni_T_p rfl rfl
theorem s153_91 : ni_T d 153 91 [a0, a1, a2, .int x] st z h Q = ni_T d 153 92 [a0, a1, a2, .int x] (.int x :: st) z h Q := ni_T_p rfl rfl
theorem s153_92 : ni_T d 153 92 [a0, a1, a2, a3] st z h Q = ni_T d 153 93 [a0, a1, a2, a3] (.int 1 :: st) z h Q := ni_T_p rfl rfl
theorem s153_93 : ni_T d 153 93 [a0, a1, a2, a3] (.int y :: .int x :: st) z h Q = ni_T d 153 94 [a0, a1, a2, a3] (.int (x + y) :: st) z h Q := ni_T_p rfl rfl
theorem s153_94 : ni_T d 153 94 [a0, a1, a2, a3] (.int x :: .ref o :: st) z h Q = (ni_okI (h o) x = true ∧ ni_T d 153 95 [a0, a1, a2, a3] (.int (ni_gi (h o) x) :: st) z h Q) := ni_T_iald rfl
theorem s153_95 : ni_T d 153 95 [a0, a1, a2, a3] (b0 :: .ref o :: st) z h Q = ((Nat.ble 7 7 && ni_is (h o) 7 1 && ni_fit (.int) b0) = true ∧ ni_T d 153 98 [a0, a1, a2, a3] st z (ni_up h o (ni_pv (h o) 1 b0)) Q) := ni_T_putf rfl
theorem s153_98 : ni_T d 153 98 [.ref o, a1, a2, a3] st z h Q = ni_T d 153 99 [.ref o, a1, a2, a3] (.ref o :: st) z h Q := ni_T_p rfl rfl
theorem s153_99 : ni_T d 153 99 [a0, .ref o, a2, a3] st z h Q = ni_T d 153 100 [a0, .ref o, a2, a3] (.ref o :: st) z h Q := ni_T_p rfl rfl
theorem s153_99N : ni_T d 153 99 [a0, .null, a2, a3] st z h Q = ni_T d 153 100 [a0, .null, a2, a3] (.null :: st) z h Q := ni_T_p rfl rfl
theorem s153_100 : ni_T d 153 100 [a0, a1, a2, .int x] st z h Q = ni_T d 153 101 [a0, a1, a2, .int x] (.int x :: st) z h Q := ni_T_p rfl rfl
theorem s153_101 : ni_T d 153 101 [a0, a1, a2, a3] st z h Q = ni_T d 153 102 [a0, a1, a2, a3] (.int 2 :: st) z h Q := ni_T_p rfl rfl
theorem s153_102 : ni_T d 153 102 [a0, a1, a2, a3] (.int y :: .int x :: st) z h Q = ni_T d 153 103 [a0, a1, a2, a3] (.int (x + y) :: st) z h Q := ni_T_p rfl rfl
theorem s153_103 : ni_T d 153 103 [a0, a1, a2, a3] (.int x :: .ref o :: st) z h Q = (ni_okI (h o) x = true ∧ ni_T d 153 104 [a0, a1, a2, a3] (.int (ni_gi (h o) x) :: st) z h Q) := ni_T_iald rfl
theorem s153_104 : ni_T d 153 104 [a0, a1, a2, a3] (b0 :: .ref o :: st) z h Q = ((Nat.ble 7 7 && ni_is (h o) 7 2 && ni_fit (.int) b0) = true ∧ ni_T d 153 107 [a0, a1, a2, a3] st z (ni_up h o (ni_pv (h o) 2 b0)) Q) := ni_T_putf rfl
theorem s153_107 : ni_T d 153 107 [.ref o, a1, a2, a3] st z h Q = ni_T d 153 108 [.ref o, a1, a2, a3] (.ref o :: st) z h Q := ni_T_p rfl rfl
theorem s153_108 : ni_T d 153 108 [a0, .ref o, a2, a3] st z h Q = ni_T d 153 109 [a0, .ref o, a2, a3] (.ref o :: st) z h Q := ni_T_p rfl rfl
theorem s153_108N : ni_T d 153 108 [a0, .null, a2, a3] st z h Q = ni_T d 153 109 [a0, .null, a2, a3] (.null :: st) z h Q := ni_T_p rfl rfl
theorem s153_109 : ni_T d 153 109 [a0, a1, a2, .int x] st z h Q = ni_T d 153 110 [a0, a1, a2, .int x] (.int x :: st) z h Q := ni_T_p rfl rfl
theorem s153_110 : ni_T d 153 110 [a0, a1, a2, a3] st z h Q = ni_T d 153 111 [a0, a1, a2, a3] (.int 3 :: st) z h Q := ni_T_p rfl rfl
theorem s153_111 : ni_T d 153 111 [a0, a1, a2, a3] (.int y :: .int x :: st) z h Q = ni_T d 153 112 [a0, a1, a2, a3] (.int (x + y) :: st) z h Q := ni_T_p rfl rfl
theorem s153_112 : ni_T d 153 112 [a0, a1, a2, a3] (.int x :: .ref o :: st) z h Q = (ni_okI (h o) x = true ∧ ni_T d 153 113 [a0, a1, a2, a3] (.int (ni_gi (h o) x) :: st) z h Q) := ni_T_iald rfl
theorem s153_113 : ni_T d 153 113 [a0, a1, a2, a3] (b0 :: .ref o :: st) z h Q = ((Nat.ble 7 7 && ni_is (h o) 7 3 && ni_fit (.int) b0) = true ∧ ni_T d 153 116 [a0, a1, a2, a3] st z (ni_up h o (ni_pv (h o) 3 b0)) Q) := ni_T_putf rfl
theorem s153_116 : ni_T d 153 116 [a0, a1, a2, a3] st z h Q = ni_T d 153 153 [a0, a1, a2, a3] st z h Q := ni_T_p rfl rfl
theorem s153_119 : ni_T d 153 119 [a0, .ref o, a2, a3] st z h Q = ni_T d 153 120 [a0, .ref o, a2, a3] (.ref o :: st) z h Q := ni_T_p rfl rfl
theorem s153_119N : ni_T d 153 119 [a0, .null, a2, a3] st z h Q = ni_T d 153 120 [a0, .null, a2, a3] (.null :: st) z h Q := ni_T_p rfl rfl
theorem s153_120 : ni_T d 153 120 [a0, a1, a2, .int x] st z h Q = ni_T d 153 121 [a0, a1, a2, .int x] (.int x :: st) z h Q := ni_T_p rfl rfl
theorem s153_121 : ni_T d 153 121 [.ref o, a1, a2, a3] st z h Q = ni_T d 153 122 [.ref o, a1, a2, a3] (.ref o :: st) z h Q := ni_T_p rfl rfl
theorem s153_122 : ni_T d 153 122 [a0, a1, a2, a3] (.ref o :: st) z h Q = (ni_is (h o) 7 0 = true ∧ ni_T d 153 125 [a0, a1, a2, a3] (ni_gv (h o) 0 :: st) z h Q) := ni_T_getf rfl
theorem s153_125 : ni_T d 153 125 [a0, a1, a2, a3] (.int y :: .int x :: .ref o :: st) z h Q = (ni_okS (h o) x = true ∧ ni_T d 153 126 [a0, a1, a2, a3] st z (ni_up h o (ni_pi (h o) x y)) Q) := ni_T_iast rfl
theorem s153_126 : ni_T d 153 126 [a0, .ref o, a2, a3] st z h Q = ni_T d 153 127 [a0, .ref o, a2, a3] (.ref o :: st) z h Q := ni_T_p rfl rfl
theorem s153_126N : ni_T d 153 126 [a0, .null, a2, a3] st z h Q = ni_T d 153 127 [a0, .null, a2, a3] (.null :: st) z h Q := ni_T_p rfl rfl
theorem s153_127 : ni_T d 153 127 [a0, a1, a2, .int x] st z h Q = ni_T d 153 128 [a0, a1, a2, .int x] (.int x :: st) z h Q := ni_T_p rfl rfl
theorem s153_128 : ni_T d 153 128 [a0, a1, a2, a3] st z h Q = ni_T d 153 129 [a0, a1, a2, a3] (.int 1 :: st) z h Q := ni_T_p rfl rfl
theorem s153_129 : ni_T d 153 129 [a0, a1, a2, a3] (.int y :: .int x :: st) z h Q = ni_T d 153 130 [a0, a1, a2, a3] (.int (x + y) :: st) z h Q := ni_T_p rfl rfl
theorem s153_130 : ni_T d 153 130 [.ref o, a1, a2, a3] st z h Q = ni_T d 153 131 [.ref o, a1, a2, a3] (.ref o :: st) z h Q := ni_T_p rfl rfl
theorem s153_131 : ni_T d 153 131 [a0, a1, a2, a3] (.ref o :: st) z h Q = (ni_is (h o) 7 1 = true ∧ ni_T d 153 134 [a0, a1, a2, a3] (ni_gv (h o) 1 :: st) z h Q) := ni_T_getf rfl
theorem s153_134 : ni_T d 153 134 [a0, a1, a2, a3] (.int y :: .int x :: .ref o :: st) z h Q = (ni_okS (h o) x = true ∧ ni_T d 153 135 [a0, a1, a2, a3] st z (ni_up h o (ni_pi (h o) x y)) Q) := ni_T_iast rfl
theorem s153_135 : ni_T d 153 135 [a0, .ref o, a2, a3] st z h Q = ni_T d 153 136 [a0, .ref o, a2, a3] (.ref o :: st) z h Q := ni_T_p rfl rfl
theorem s153_135N : ni_T d 153 135 [a0, .null, a2, a3] st z h Q = ni_T d 153 136 [a0, .null, a2, a3] (.null :: st) z h Q := ni_T_p rfl rfl
theorem s153_136 : ni_T d 153 136 [a0, a1, a2, .int x] st z h Q = ni_T d 153 137 [a0, a1, a2, .int x] (.int x :: st) z h Q := ni_T_p rfl rfl
theorem s153_137 : ni_T d 153 137 [a0, a1, a2, a3] st z h Q = ni_T d 153 138 [a0, a1, a2, a3] (.int 2 :: st) z h Q := ni_T_p rfl rfl
theorem s153_138 : ni_T d 153 138 [a0, a1, a2, a3] (.int y :: .int x :: st) z h Q = ni_T d 153 139 [a0, a1, a2, a3] (.int (x + y) :: st) z h Q := ni_T_p rfl rfl
theorem s153_139 : ni_T d 153 139 [.ref o, a1, a2, a3] st z h Q = ni_T d 153 140 [.ref o, a1, a2, a3] (.ref o :: st) z h Q := ni_T_p rfl rfl
theorem s153_140 : ni_T d 153 140 [a0, a1, a2, a3] (.ref o :: st) z h Q = (ni_is (h o) 7 2 = true ∧ ni_T d 153 143 [a0, a1, a2, a3] (ni_gv (h o) 2 :: st) z h Q) := ni_T_getf rfl
theorem s153_143 : ni_T d 153 143 [a0, a1, a2, a3] (.int y :: .int x :: .ref o :: st) z h Q = (ni_okS (h o) x = true ∧ ni_T d 153 144 [a0, a1, a2, a3] st z (ni_up h o (ni_pi (h o) x y)) Q) := ni_T_iast rfl
theorem s153_144 : ni_T d 153 144 [a0, .ref o, a2, a3] st z h Q = ni_T d 153 145 [a0, .ref o, a2, a3] (.ref o :: st) z h Q := ni_T_p rfl rfl
theorem s153_144N : ni_T d 153 144 [a0, .null, a2, a3] st z h Q = ni_T d 153 145 [a0, .null, a2, a3] (.null :: st) z h Q := ni_T_p rfl rfl
theorem s153_145 : ni_T d 153 145 [a0, a1, a2, .int x] st z h Q = ni_T d 153 146 [a0, a1, a2, .int x] (.int x :: st) z h Q := ni_T_p rfl rfl
theorem s153_146 : ni_T d 153 146 [a0, a1, a2, a3] st z h Q = ni_T d 153 147 [a0, a1, a2, a3] (.int 3 :: st) z h Q := ni_T_p rfl rfl
theorem s153_147 : ni_T d 153 147 [a0, a1, a2, a3] (.int y :: .int x :: st) z h Q = ni_T d 153 148 [a0, a1, a2, a3] (.int (x + y) :: st) z h Q := ni_T_p rfl rfl
theorem s153_148 : ni_T d 153 148 [.ref o, a1, a2, a3] st z h Q = ni_T d 153 149 [.ref o, a1, a2, a3] (.ref o :: st) z h Q := ni_T_p rfl rfl
theorem s153_149 : ni_T d 153 149 [a0, a1, a2, a3] (.ref o :: st) z h Q = (ni_is (h o) 7 3 = true ∧ ni_T d 153 152 [a0, a1, a2, a3] (ni_gv (h o) 3 :: st) z h Q) := ni_T_getf rfl
theorem s153_152 : ni_T d 153 152 [a0, a1, a2, a3] (.int y :: .int x :: .ref o :: st) z h Q = (ni_okS (h o) x = true ∧ ni_T d 153 153 [a0, a1, a2, a3] st z (ni_up h o (ni_pi (h o) x y)) Q) := ni_T_iast rfl
theorem s153_153 : ni_T d 153 153 [a0, a1, a2, a3] [] z h Q = Q none z h := ni_T_v rfl rfl
theorem s154_0 : ni_T d 154 0 [.ref o, a1, a2, a3, a4] st z h Q = ni_T d 154 1 [.ref o, a1, a2, a3, a4] (.ref o :: st) z h Q := ni_T_p rfl rfl
theorem s154_1 : ni_T d 154 1 [a0, .int x, a2, a3, a4] st z h Q = ni_T d 154 2 [a0, .int x, a2, a3, a4] (.int x :: st) z h Q := ni_T_p rfl rfl
theorem s154_2 : ni_T (d + 1) 154 2 [a0, a1, a2, a3, a4] (.int x0 :: .ref o :: st) z h Q = (ni_rc (h o) 7 = true ∧ Nat.ble (ni_sw st) 8 = true ∧ ni_T d 132 0 [.ref o, .int x0] [] z h (ni_K (d + 1) 154 5 [a0, a1, a2, a3, a4] st z Q)) := ni_T_ce [.ref o, .int x0] rfl rfl rfl rfl rfl rfl rfl rfl rfl
theorem s154_5 : ni_T d 154 5 [a0, a1, a2, a3, a4] (.int x :: st) z h Q = ni_T d 154 6 [a0, ni_kl a1, .int x, a3, a4] st z h Q := ni_T_p rfl rfl
theorem s154_6 : ni_T d 154 6 [a0, a1, .int x, a3, a4] st z h Q = ni_T d 154 7 [a0, a1, .int x, a3, a4] (.int x :: st) z h Q := ni_T_p rfl rfl
theorem s154_7 : ni_T d 154 7 [a0, a1, a2, a3, a4] (.int x :: st) z h Q = if x = 0 then ni_T d 154 16 [a0, a1, a2, a3, a4] st z h Q else ni_T d 154 10 [a0, a1, a2, a3, a4] st z h Q := ni_T_b rfl rfl
theorem s154_10 : ni_T d 154 10 [.ref o, a1, a2, a3, a4] st z h Q = ni_T d 154 11 [.ref o, a1, a2, a3, a4] (.ref o :: st) z h Q := ni_T_p rfl rfl
theorem s154_11 : ni_T d 154 11 [a0, a1, .int x, a3, a4] st z h Q = ni_T d 154 12 [a0, a1, .int x, a3, a4] (.int x :: st) z h Q := ni_T_p rfl rfl
theorem s154_12 : ni_T (d + 1) 154 12 [a0, a1, a2, a3, a4] (.int x0 :: .ref o :: st) z h Q = (ni_rc (h o) 7 = true ∧ Nat.ble (ni_sw st) 8 = true ∧ ni_T d 120 0 [.ref o, .int x0] [] z h (ni_K (d + 1) 154 15 [a0, a1, a2, a3, a4] st z Q)) := ni_T_ce [.ref o, .int x0] rfl rfl rfl rfl rfl rfl rfl rfl rfl
theorem s154_15 : ni_T d 154 15 [a0, a1, a2, a3, a4] [.int x] z h Q = Q (some (.int x)) z h := ni_T_i rfl rfl
theorem s154_16 : ni_T d 154 16 [.ref o, a1, a2, a3, a4] st z h Q = ni_T d 154 17 [.ref o, a1, a2, a3, a4] (.ref o :: st) z h Q := ni_T_p rfl rfl
theorem s154_17 : ni_T d 154 17 [.ref o, a1, a2, a3, a4] st z h Q = ni_T d 154 18 [.ref o, a1, a2, a3, a4] (.ref o :: st) z h Q := ni_T_p rfl rfl
theorem s154_18 : ni_T d 154 18 [a0, a1, a2, a3, a4] (.ref o :: st) z h Q = (ni_is (h o) 7 25 = true ∧ ni_T d 154 21 [a0, a1, a2, a3, a4] (ni_gv (h o) 25 :: st) z h Q) := ni_T_getf rfl
theorem s154_21 : ni_T d 154 21 [a0, a1, a2, a3, a4] st z h Q = ni_T d 154 22 [a0, a1, a2, a3, a4] (.int 0 :: st) z h Q := ni_T_p rfl rfl
theorem s154_22 : ni_T (d + 1) 154 22 [a0, a1, a2, a3, a4] (.int x1 :: .ref o20 :: .ref o :: st) z h Q = (ni_rc (h o) 7 = true ∧ Nat.ble (ni_sw st) 8 = true ∧ ni_T d 153 0 [.ref o, .ref o20, .int x1, .retAddr 0] [] z h (ni_K (d + 1) 154 25 [a0, a1, a2, a3, a4] st z Q)) := ni_T_ce [.ref o, .ref o20, .int x1] rfl rfl rfl rfl rfl rfl rfl rfl rfl
theorem s154_22N0 : ni_T (d + 1) 154 22 [a0, a1, a2, a3, a4] (.int x1 :: .null :: .ref o :: st) z h Q = (ni_rc (h o) 7 = true ∧ Nat.ble (ni_sw st) 8 = true ∧ ni_T d 153 0 [.ref o, .null, .int x1, .retAddr 0] [] z h (ni_K (d + 1) 154 25 [a0, a1, a2, a3, a4] st z Q)) := ni_T_ce [.ref o, .null, .int x1] rfl rfl rfl rfl rfl rfl rfl rfl rfl
theorem s154_25 : ni_T d 154 25 [.ref o, a1, a2, a3, a4] st z h Q = ni_T d 154 26 [.ref o, a1, a2, a3, a4] (.ref o :: st) z h Q := ni_T_p rfl rfl
theorem s154_26 : ni_T d 154 26 [a0, a1, a2, a3, a4] st z h Q = ni_T d 154 29 [a0, a1, a2, a3, a4] (.int 160 :: st) z h Q := ni_T_p rfl rfl
theorem s154_29 : ni_T d 154 29 [a0, .int x, a2, a3, a4] st z h Q = ni_T d 154 30 [a0, .int x, a2, a3, a4] (.int x :: st) z h Q := ni_T_p rfl rfl
theorem s154_30 : ni_T d 154 30 [a0, a1, a2, a3, a4] (.int y :: .int x :: st) z h Q = ni_T d 154 31 [a0, a1, a2, a3, a4] (.int (x * y) :: st) z h Q := ni_T_p rfl rfl
theorem s154_31 : ni_T d 154 31 [a0, a1, a2, a3, a4] (b0 :: .ref o :: st) z h Q = ((Nat.ble 7 7 && ni_is (h o) 7 20 && ni_fit (.int) b0) = true ∧ ni_T d 154 34 [a0, a1, a2, a3, a4] st z (ni_up h o (ni_pv (h o) 20 b0)) Q) := ni_T_putf rfl
theorem s154_34 : ni_T d 154 34 [.ref o, a1, a2, a3, a4] st z h Q = ni_T d 154 35 [.ref o, a1, a2, a3, a4] (.ref o :: st) z h Q := ni_T_p rfl rfl
theorem s154_35 : ni_T d 154 35 [a0, a1, a2, a3, a4] st z h Q = ni_T d 154 36 [a0, a1, a2, a3, a4] (.int 0 :: st) z h Q := ni_T_p rfl rfl
theorem s154_36 : ni_T d 154 36 [a0, a1, a2, a3, a4] (b0 :: .ref o :: st) z h Q = ((Nat.ble 7 7 && ni_is (h o) 7 21 && ni_fit (.int) b0) = true ∧ ni_T d 154 39 [a0, a1, a2, a3, a4] st z (ni_up h o (ni_pv (h o) 21 b0)) Q) := ni_T_putf rfl
theorem s154_39 : ni_T d 154 39 [.ref o, a1, a2, a3, a4] st z h Q = ni_T d 154 40 [.ref o, a1, a2, a3, a4] (.ref o :: st) z h Q := ni_T_p rfl rfl
theorem s154_40 : ni_T d 154 40 [.ref o, a1, a2, a3, a4] st z h Q = ni_T d 154 41 [.ref o, a1, a2, a3, a4] (.ref o :: st) z h Q := ni_T_p rfl rfl
theorem s154_41 : ni_T d 154 41 [a0, a1, a2, a3, a4] (.ref o :: st) z h Q = (ni_is (h o) 7 14 = true ∧ ni_T d 154 44 [a0, a1, a2, a3, a4] (ni_gv (h o) 14 :: st) z h Q) := ni_T_getf rfl
theorem s154_44 : ni_T d 154 44 [a0, .int x, a2, a3, a4] st z h Q = ni_T d 154 45 [a0, .int x, a2, a3, a4] (.int x :: st) z h Q := ni_T_p rfl rfl
theorem s154_45 : ni_T d 154 45 [a0, a1, a2, a3, a4] (.int x :: .ref o :: st) z h Q = (ni_okI (h o) x = true ∧ ni_T d 154 46 [a0, a1, a2, a3, a4] (.int (ni_gi (h o) x) :: st) z h Q) := ni_T_iald rfl
theorem s154_46 : ni_T d 154 46 [a0, a1, a2, a3, a4] (b0 :: .ref o :: st) z h Q = ((Nat.ble 7 7 && ni_is (h o) 7 22 && ni_fit (.int) b0) = true ∧ ni_T d 154 49 [a0, a1, a2, a3, a4] st z (ni_up h o (ni_pv (h o) 22 b0)) Q) := ni_T_putf rfl
theorem s154_49 : ni_T d 154 49 [.ref o, a1, a2, a3, a4] st z h Q = ni_T d 154 50 [.ref o, a1, a2, a3, a4] (.ref o :: st) z h Q := ni_T_p rfl rfl
theorem s154_50 : ni_T d 154 50 [a0, a1, a2, a3, a4] st z h Q = ni_T d 154 51 [a0, a1, a2, a3, a4] (.int (-1) :: st) z h Q := ni_T_p rfl rfl
theorem s154_51 : ni_T d 154 51 [a0, a1, a2, a3, a4] (b0 :: .ref o :: st) z h Q = ((Nat.ble 7 7 && ni_is (h o) 7 4 && ni_fit (.int) b0) = true ∧ ni_T d 154 54 [a0, a1, a2, a3, a4] st z (ni_up h o (ni_pv (h o) 4 b0)) Q) := ni_T_putf rfl
theorem s154_54 : ni_T d 154 54 [a0, a1, a2, a3, a4] st z h Q = ni_T d 154 55 [a0, a1, a2, a3, a4] (.int 1 :: st) z h Q := ni_T_p rfl rfl
theorem s154_55 : ni_T d 154 55 [a0, a1, a2, a3, a4] (.int x :: st) z h Q = ni_T d 154 56 [a0, a1, ni_kl a2, .int x, a4] st z h Q := ni_T_p rfl rfl
theorem s154_56 : ni_T d 154 56 [.ref o, a1, a2, a3, a4] st z h Q = ni_T d 154 57 [.ref o, a1, a2, a3, a4] (.ref o :: st) z h Q := ni_T_p rfl rfl
theorem s154_57 : ni_T (d + 1) 154 57 [a0, a1, a2, a3, a4] (.ref o :: st) z h Q = (ni_rc (h o) 7 = true ∧ Nat.ble (ni_sw st) 8 = true ∧ ni_T d 151 0 [.ref o, .retAddr 0, .retAddr 0, .retAddr 0, .retAddr 0] [] z h (ni_K (d + 1) 154 60 [a0, a1, a2, a3, a4] st z Q)) := ni_T_ce [.ref o] rfl rfl rfl rfl rfl rfl rfl rfl rfl
theorem s154_60 : ni_T d 154 60 [a0, a1, a2, a3, a4] (.int x :: st) z h Q = ni_T d 154 62 [a0, a1, a2, ni_kl a3, .int x] st z h Q := ni_T_p rfl rfl
theorem s154_62 : ni_T d 154 62 [a0, a1, a2, a3, .int x] st z h Q = ni_T d 154 64 [a0, a1, a2, a3, .int x] (.int x :: st) z h Q := ni_T_p rfl rfl
theorem s154_64 : ni_T d 154 64 [a0, a1, a2, a3, a4] (.int x :: st) z h Q = if x = 0 then ni_T d 154 133 [a0, a1, a2, a3, a4] st z h Q else ni_T d 154 67 [a0, a1, a2, a3, a4] st z h Q := ni_T_b rfl rfl
theorem s154_67 : ni_T d 154 67 [.ref o, a1, a2, a3, a4] st z h Q = ni_T d 154 68 [.ref o, a1, a2, a3, a4] (.ref o :: st) z h Q := ni_T_p rfl rfl
theorem s154_68 : ni_T d 154 68 [a0, a1, a2, a3, a4] (.ref o :: st) z h Q = (ni_is (h o) 7 21 = true ∧ ni_T d 154 71 [a0, a1, a2, a3, a4] (ni_gv (h o) 21 :: st) z h Q) := ni_T_getf rfl
theorem s154_71 : ni_T d 154 71 [.ref o, a1, a2, a3, a4] st z h Q = ni_T d 154 72 [.ref o, a1, a2, a3, a4] (.ref o :: st) z h Q := ni_T_p rfl rfl
theorem s154_72 : ni_T d 154 72 [a0, a1, a2, a3, a4] (.ref o :: st) z h Q = (ni_is (h o) 7 22 = true ∧ ni_T d 154 75 [a0, a1, a2, a3, a4] (ni_gv (h o) 22 :: st) z h Q) := ni_T_getf rfl
theorem s154_75 : ni_T d 154 75 [a0, a1, a2, a3, a4] (.int y :: .int x :: st) z h Q = if y ≤ x then ni_T d 154 133 [a0, a1, a2, a3, a4] st z h Q else ni_T d 154 78 [a0, a1, a2, a3, a4] st z h Q := ni_T_b rfl rfl
theorem s154_78 : ni_T d 154 78 [.ref o, a1, a2, a3, a4] st z h Q = ni_T d 154 79 [.ref o, a1, a2, a3, a4] (.ref o :: st) z h Q := ni_T_p rfl rfl
theorem s154_79 : ni_T d 154 79 [a0, a1, a2, a3, a4] (.ref o :: st) z h Q = (ni_is (h o) 7 16 = true ∧ ni_T d 154 82 [a0, a1, a2, a3, a4] (ni_gv (h o) 16 :: st) z h Q) := ni_T_getf rfl
theorem s154_82 : ni_T d 154 82 [.ref o, a1, a2, a3, a4] st z h Q = ni_T d 154 83 [.ref o, a1, a2, a3, a4] (.ref o :: st) z h Q := ni_T_p rfl rfl
theorem s154_83 : ni_T d 154 83 [a0, a1, a2, a3, a4] (.ref o :: st) z h Q = (ni_is (h o) 7 20 = true ∧ ni_T d 154 86 [a0, a1, a2, a3, a4] (ni_gv (h o) 20 :: st) z h Q) := ni_T_getf rfl
theorem s154_86 : ni_T d 154 86 [.ref o, a1, a2, a3, a4] st z h Q = ni_T d 154 87 [.ref o, a1, a2, a3, a4] (.ref o :: st) z h Q := ni_T_p rfl rfl
theorem s154_87 : ni_T d 154 87 [a0, a1, a2, a3, a4] (.ref o :: st) z h Q = (ni_is (h o) 7 21 = true ∧ ni_T d 154 90 [a0, a1, a2, a3, a4] (ni_gv (h o) 21 :: st) z h Q) := ni_T_getf rfl
theorem s154_90 : ni_T d 154 90 [a0, a1, a2, a3, a4] (.int y :: .int x :: st) z h Q = ni_T d 154 91 [a0, a1, a2, a3, a4] (.int (x + y) :: st) z h Q := ni_T_p rfl rfl
theorem s154_91 : ni_T d 154 91 [a0, a1, a2, a3, a4] (.int x :: .ref o :: st) z h Q = (ni_okL (h o) x = true ∧ ni_T d 154 92 [a0, a1, a2, a3, a4] (.long (ni_gl (h o) x) :: st) z h Q) := ni_T_lald rfl
theorem s154_92 : ni_T d 154 92 [a0, a1, a2, a3, a4] (.long u :: st) z h Q = ni_T d 154 93 [a0, a1, a2, a3, a4] (.int u.toInt32 :: st) z h Q := ni_T_p rfl rfl
theorem s154_93 : ni_T d 154 93 [a0, a1, a2, a3, a4] st z h Q = ni_T d 154 95 [a0, a1, a2, a3, a4] (.int 59 :: st) z h Q := ni_T_p rfl rfl
theorem s154_95 : ni_T d 154 95 [a0, a1, a2, a3, a4] (.int y :: .int x :: st) z h Q = if x = y then ni_T d 154 111 [a0, a1, a2, a3, a4] st z h Q else ni_T d 154 98 [a0, a1, a2, a3, a4] st z h Q := ni_T_b rfl rfl
theorem s154_98 : ni_T d 154 98 [.ref o, a1, a2, a3, a4] st z h Q = ni_T d 154 99 [.ref o, a1, a2, a3, a4] (.ref o :: st) z h Q := ni_T_p rfl rfl
theorem s154_99 : ni_T d 154 99 [.ref o, a1, a2, a3, a4] st z h Q = ni_T d 154 100 [.ref o, a1, a2, a3, a4] (.ref o :: st) z h Q := ni_T_p rfl rfl
theorem s154_100 : ni_T d 154 100 [a0, a1, a2, a3, a4] (.ref o :: st) z h Q = (ni_is (h o) 7 21 = true ∧ ni_T d 154 103 [a0, a1, a2, a3, a4] (ni_gv (h o) 21 :: st) z h Q) := ni_T_getf rfl
theorem s154_103 : ni_T (d + 1) 154 103 [a0, a1, a2, a3, a4] (.int x0 :: .ref o :: st) z h Q = (ni_rc (h o) 7 = true ∧ Nat.ble (ni_sw st) 8 = true ∧ ni_T d 145 0 [.ref o, .int x0] [] z h (ni_K (d + 1) 154 106 [a0, a1, a2, a3, a4] st z Q)) := ni_T_ce [.ref o, .int x0] rfl rfl rfl rfl rfl rfl rfl rfl rfl
theorem s154_106 : ni_T d 154 106 [a0, a1, a2, a3, a4] (.int x :: st) z h Q = ni_T d 154 108 [a0, a1, a2, ni_kl a3, .int x] st z h Q := ni_T_p rfl rfl
theorem s154_108 : ni_T d 154 108 [a0, a1, a2, a3, a4] st z h Q = ni_T d 154 62 [a0, a1, a2, a3, a4] st z h Q := ni_T_p rfl rfl
theorem s154_111 : ni_T d 154 111 [.ref o, a1, a2, a3, a4] st z h Q = ni_T d 154 112 [.ref o, a1, a2, a3, a4] (.ref o :: st) z h Q := ni_T_p rfl rfl
theorem s154_112 : ni_T d 154 112 [a0, a1, a2, a3, a4] (.ref o :: st) z h Q = ni_T d 154 113 [a0, a1, a2, a3, a4] (.ref o :: .ref o :: st) z h Q := ni_T_p rfl rfl
theorem s154_112i : ni_T d 154 112 [a0, a1, a2, a3, a4] (.int x :: st) z h Q = ni_T d 154 113 [a0, a1, a2, a3, a4] (.int x :: .int x :: st) z h Q := ni_T_p rfl rfl
theorem s154_113 : ni_T d 154 113 [a0, a1, a2, a3, a4] (.ref o :: st) z h Q = (ni_is (h o) 7 21 = true ∧ ni_T d 154 116 [a0, a1, a2, a3, a4] (ni_gv (h o) 21 :: st) z h Q) := ni_T_getf rfl
theorem s154_116 : ni_T d 154 116 [a0, a1, a2, a3, a4] st z h Q = ni_T d 154 117 [a0, a1, a2, a3, a4] (.int 1 :: st) z h Q := ni_T_p rfl rfl
theorem s154_117 : ni_T d 154 117 [a0, a1, a2, a3, a4] (.int y :: .int x :: st) z h Q = ni_T d 154 118 [a0, a1, a2, a3, a4] (.int (x + y) :: st) z h Q := ni_T_p rfl rfl
theorem s154_118 : ni_T d 154 118 [a0, a1, a2, a3, a4] (b0 :: .ref o :: st) z h Q = ((Nat.ble 7 7 && ni_is (h o) 7 21 && ni_fit (.int) b0) = true ∧ ni_T d 154 121 [a0, a1, a2, a3, a4] st z (ni_up h o (ni_pv (h o) 21 b0)) Q) := ni_T_putf rfl
theorem s154_121 : ni_T d 154 121 [a0, a1, a2, .int x, a4] st z h Q = ni_T d 154 124 [a0, a1, ni_kl a2, .int (x + 1), a4] st z h Q := ni_T_p rfl rfl
theorem s154_124 : ni_T d 154 124 [.ref o, a1, a2, a3, a4] st z h Q = ni_T d 154 125 [.ref o, a1, a2, a3, a4] (.ref o :: st) z h Q := ni_T_p rfl rfl
theorem s154_125 : ni_T (d + 1) 154 125 [a0, a1, a2, a3, a4] (.ref o :: st) z h Q = (ni_rc (h o) 7 = true ∧ Nat.ble (ni_sw st) 8 = true ∧ ni_T d 151 0 [.ref o, .retAddr 0, .retAddr 0, .retAddr 0, .retAddr 0] [] z h (ni_K (d + 1) 154 128 [a0, a1, a2, a3, a4] st z Q)) := ni_T_ce [.ref o] rfl rfl rfl rfl rfl rfl rfl rfl rfl
theorem s154_128 : ni_T d 154 128 [a0, a1, a2, a3, a4] (.int x :: st) z h Q = ni_T d 154 130 [a0, a1, a2, ni_kl a3, .int x] st z h Q := ni_T_p rfl rfl
theorem s154_130 : ni_T d 154 130 [a0, a1, a2, a3, a4] st z h Q = ni_T d 154 62 [a0, a1, a2, a3, a4] st z h Q := ni_T_p rfl rfl
theorem s154_133 : ni_T d 154 133 [a0, a1, a2, a3, .int x] st z h Q = ni_T d 154 135 [a0, a1, a2, a3, .int x] (.int x :: st) z h Q := ni_T_p rfl rfl
theorem s154_135 : ni_T d 154 135 [a0, a1, a2, a3, a4] (.int x :: st) z h Q = if x = 0 then ni_T d 154 140 [a0, a1, a2, a3, a4] st z h Q else ni_T d 154 138 [a0, a1, a2, a3, a4] st z h Q := ni_T_b rfl rfl
theorem s154_138 : ni_T d 154 138 [a0, a1, a2, .int x, a4] st z h Q = ni_T d 154 139 [a0, a1, a2, .int x, a4] (.int x :: st) z h Q := ni_T_p rfl rfl
theorem s154_139 : ni_T d 154 139 [a0, a1, a2, a3, a4] [.int x] z h Q = Q (some (.int x)) z h := ni_T_i rfl rfl
theorem s154_140 : ni_T d 154 140 [.ref o, a1, a2, a3, a4] st z h Q = ni_T d 154 141 [.ref o, a1, a2, a3, a4] (.ref o :: st) z h Q := ni_T_p rfl rfl
theorem s154_141 : ni_T d 154 141 [.ref o, a1, a2, a3, a4] st z h Q = ni_T d 154 142 [.ref o, a1, a2, a3, a4] (.ref o :: st) z h Q := ni_T_p rfl rfl
theorem s154_142 : ni_T d 154 142 [a0, a1, a2, a3, a4] (.ref o :: st) z h Q = (ni_is (h o) 7 25 = true ∧ ni_T d 154 145 [a0, a1, a2, a3, a4] (ni_gv (h o) 25 :: st) z h Q) := ni_T_getf rfl
theorem s154_145 : ni_T d 154 145 [a0, a1, a2, a3, a4] st z h Q = ni_T d 154 146 [a0, a1, a2, a3, a4] (.int 1 :: st) z h Q := ni_T_p rfl rfl
theorem s154_146 : ni_T (d + 1) 154 146 [a0, a1, a2, a3, a4] (.int x1 :: .ref o20 :: .ref o :: st) z h Q = (ni_rc (h o) 7 = true ∧ Nat.ble (ni_sw st) 8 = true ∧ ni_T d 153 0 [.ref o, .ref o20, .int x1, .retAddr 0] [] z h (ni_K (d + 1) 154 149 [a0, a1, a2, a3, a4] st z Q)) := ni_T_ce [.ref o, .ref o20, .int x1] rfl rfl rfl rfl rfl rfl rfl rfl rfl
theorem s154_146N0 : ni_T (d + 1) 154 146 [a0, a1, a2, a3, a4] (.int x1 :: .null :: .ref o :: st) z h Q = (ni_rc (h o) 7 = true ∧ Nat.ble (ni_sw st) 8 = true ∧ ni_T d 153 0 [.ref o, .null, .int x1, .retAddr 0] [] z h (ni_K (d + 1) 154 149 [a0, a1, a2, a3, a4] st z Q)) := ni_T_ce [.ref o, .null, .int x1] rfl rfl rfl rfl rfl rfl rfl rfl rfl
theorem s154_149 : ni_T d 154 149 [.ref o, a1, a2, a3, a4] st z h Q = ni_T d 154 150 [.ref o, a1, a2, a3, a4] (.ref o :: st) z h Q := ni_T_p rfl rfl
theorem s154_150 : ni_T d 154 150 [.ref o, a1, a2, a3, a4] st z h Q = ni_T d 154 151 [.ref o, a1, a2, a3, a4] (.ref o :: st) z h Q := ni_T_p rfl rfl
theorem s154_151 : ni_T d 154 151 [a0, a1, a2, a3, a4] (.ref o :: st) z h Q = (ni_is (h o) 7 24 = true ∧ ni_T d 154 154 [a0, a1, a2, a3, a4] (ni_gv (h o) 24 :: st) z h Q) := ni_T_getf rfl
theorem s154_154 : ni_T d 154 154 [a0, a1, a2, a3, a4] (b0 :: .ref o :: st) z h Q = ((Nat.ble 7 7 && ni_is (h o) 7 4 && ni_fit (.int) b0) = true ∧ ni_T d 154 157 [a0, a1, a2, a3, a4] st z (ni_up h o (ni_pv (h o) 4 b0)) Q) := ni_T_putf rfl
theorem s154_157 : ni_T d 154 157 [.ref o, a1, a2, a3, a4] st z h Q = ni_T d 154 158 [.ref o, a1, a2, a3, a4] (.ref o :: st) z h Q := ni_T_p rfl rfl
theorem s154_158 : ni_T d 154 158 [a0, a1, a2, a3, a4] st z h Q = ni_T d 154 160 [a0, a1, a2, a3, a4] (.int (-6) :: st) z h Q := ni_T_p rfl rfl
theorem s154_160 : ni_T (d + 1) 154 160 [a0, a1, a2, a3, a4] (.int x0 :: .ref o :: st) z h Q = (ni_rc (h o) 7 = true ∧ Nat.ble (ni_sw st) 8 = true ∧ ni_T d 120 0 [.ref o, .int x0] [] z h (ni_K (d + 1) 154 163 [a0, a1, a2, a3, a4] st z Q)) := ni_T_ce [.ref o, .int x0] rfl rfl rfl rfl rfl rfl rfl rfl rfl
theorem s154_163 : ni_T d 154 163 [a0, a1, a2, a3, a4] [.int x] z h Q = Q (some (.int x)) z h := ni_T_i rfl rfl
theorem s155_0 : ni_T d 155 0 [.ref o] st z h Q = ni_T d 155 1 [.ref o] (.ref o :: st) z h Q := ni_T_p rfl rfl
theorem s155_1 : ni_T d 155 1 [a0] (.ref o :: st) z h Q = (ni_is (h o) 7 4 = true ∧ ni_T d 155 4 [a0] (ni_gv (h o) 4 :: st) z h Q) := ni_T_getf rfl
theorem s155_4 : ni_T d 155 4 [a0] [.int x] z h Q = Q (some (.int x)) z h := ni_T_i rfl rfl
theorem s156_0 : ni_T d 156 0 [a0, .int x, a2, a3, a4] st z h Q = ni_T d 156 1 [a0, .int x, a2, a3, a4] (.int x :: st) z h Q := ni_T_p rfl rfl
theorem s156_1 : ni_T d 156 1 [a0, a1, a2, a3, a4] st z h Q = ni_T d 156 3 [a0, a1, a2, a3, a4] (.int 6 :: st) z h Q := ni_T_p rfl rfl
theorem s156_3 : ni_T d 156 3 [a0, a1, a2, a3, a4] (.int y :: .int x :: st) z h Q = (¬ y = 0 ∧ ni_T d 156 4 [a0, a1, a2, a3, a4] (.int (x / y) :: st) z h Q) := ni_T_idiv rfl
theorem s156_4 : ni_T d 156 4 [a0, a1, .int x, a3, a4] st z h Q = ni_T d 156 5 [a0, a1, .int x, a3, a4] (.int x :: st) z h Q := ni_T_p rfl rfl
theorem s156_5 : ni_T d 156 5 [a0, a1, a2, a3, a4] st z h Q = ni_T d 156 7 [a0, a1, a2, a3, a4] (.int 6 :: st) z h Q := ni_T_p rfl rfl
theorem s156_7 : ni_T d 156 7 [a0, a1, a2, a3, a4] (.int y :: .int x :: st) z h Q = (¬ y = 0 ∧ ni_T d 156 8 [a0, a1, a2, a3, a4] (.int (x / y) :: st) z h Q) := ni_T_idiv rfl
theorem s156_8 : ni_T d 156 8 [a0, a1, a2, a3, a4] (.int y :: .int x :: st) z h Q = ni_T d 156 9 [a0, a1, a2, a3, a4] (.int (x - y) :: st) z h Q := ni_T_p rfl rfl
theorem s156_9 : ni_T d 156 9 [a0, a1, a2, a3, a4] (.int x :: st) z h Q = ni_T d 156 10 [a0, a1, ni_kl a2, .int x, a4] st z h Q := ni_T_p rfl rfl
theorem s156_10 : ni_T d 156 10 [a0, .int x, a2, a3, a4] st z h Q = ni_T d 156 11 [a0, .int x, a2, a3, a4] (.int x :: st) z h Q := ni_T_p rfl rfl
theorem s156_11 : ni_T d 156 11 [a0, a1, a2, a3, a4] st z h Q = ni_T d 156 13 [a0, a1, a2, a3, a4] (.int 6 :: st) z h Q := ni_T_p rfl rfl
theorem s156_13 : ni_T d 156 13 [a0, a1, a2, a3, a4] (.int y :: .int x :: st) z h Q = (¬ y = 0 ∧ ni_T d 156 14 [a0, a1, a2, a3, a4] (.int (x - x / y * y) :: st) z h Q) := ni_T_irem rfl
theorem s156_14 : ni_T d 156 14 [a0, a1, .int x, a3, a4] st z h Q = ni_T d 156 15 [a0, a1, .int x, a3, a4] (.int x :: st) z h Q := ni_T_p rfl rfl
theorem s156_15 : ni_T d 156 15 [a0, a1, a2, a3, a4] st z h Q = ni_T d 156 17 [a0, a1, a2, a3, a4] (.int 6 :: st) z h Q := ni_T_p rfl rfl
theorem s156_17 : ni_T d 156 17 [a0, a1, a2, a3, a4] (.int y :: .int x :: st) z h Q = (¬ y = 0 ∧ ni_T d 156 18 [a0, a1, a2, a3, a4] (.int (x - x / y * y) :: st) z h Q) := ni_T_irem rfl
theorem s156_18 : ni_T d 156 18 [a0, a1, a2, a3, a4] (.int y :: .int x :: st) z h Q = ni_T d 156 19 [a0, a1, a2, a3, a4] (.int (x - y) :: st) z h Q := ni_T_p rfl rfl
theorem s156_19 : ni_T d 156 19 [a0, a1, a2, a3, a4] (.int x :: st) z h Q = ni_T d 156 21 [a0, a1, a2, ni_kl a3, .int x] st z h Q := ni_T_p rfl rfl
theorem s156_21 : ni_T d 156 21 [a0, a1, a2, .int x, a4] st z h Q = ni_T d 156 22 [a0, a1, a2, .int x, a4] (.int x :: st) z h Q := ni_T_p rfl rfl
theorem s156_22 : ni_T d 156 22 [a0, a1, a2, a3, a4] (.int x :: st) z h Q = if 0 ≤ x then ni_T d 156 30 [a0, a1, a2, a3, a4] st z h Q else ni_T d 156 25 [a0, a1, a2, a3, a4] st z h Q := ni_T_b rfl rfl
theorem s156_25 : ni_T d 156 25 [a0, a1, a2, .int x, a4] st z h Q = ni_T d 156 26 [a0, a1, a2, .int x, a4] (.int x :: st) z h Q := ni_T_p rfl rfl
theorem s156_26 : ni_T d 156 26 [a0, a1, a2, a3, a4] (.int x :: st) z h Q = ni_T d 156 27 [a0, a1, a2, a3, a4] (.int (-x) :: st) z h Q := ni_T_p rfl rfl
theorem s156_27 : ni_T d 156 27 [a0, a1, a2, a3, a4] st z h Q = ni_T d 156 31 [a0, a1, a2, a3, a4] st z h Q := ni_T_p rfl rfl
theorem s156_30 : ni_T d 156 30 [a0, a1, a2, .int x, a4] st z h Q = ni_T d 156 31 [a0, a1, a2, .int x, a4] (.int x :: st) z h Q := ni_T_p rfl rfl
theorem s156_31 : ni_T d 156 31 [a0, a1, a2, a3, .int x] st z h Q = ni_T d 156 33 [a0, a1, a2, a3, .int x] (.int x :: st) z h Q := ni_T_p rfl rfl
theorem s156_33 : ni_T d 156 33 [a0, a1, a2, a3, a4] (.int x :: st) z h Q = if 0 ≤ x then ni_T d 156 42 [a0, a1, a2, a3, a4] st z h Q else ni_T d 156 36 [a0, a1, a2, a3, a4] st z h Q := ni_T_b rfl rfl
theorem s156_36 : ni_T d 156 36 [a0, a1, a2, a3, .int x] st z h Q = ni_T d 156 38 [a0, a1, a2, a3, .int x] (.int x :: st) z h Q := ni_T_p rfl rfl
theorem s156_38 : ni_T d 156 38 [a0, a1, a2, a3, a4] (.int x :: st) z h Q = ni_T d 156 39 [a0, a1, a2, a3, a4] (.int (-x) :: st) z h Q := ni_T_p rfl rfl
theorem s156_39 : ni_T d 156 39 [a0, a1, a2, a3, a4] st z h Q = ni_T d 156 44 [a0, a1, a2, a3, a4] st z h Q := ni_T_p rfl rfl
theorem s156_42 : ni_T d 156 42 [a0, a1, a2, a3, .int x] st z h Q = ni_T d 156 44 [a0, a1, a2, a3, .int x] (.int x :: st) z h Q := ni_T_p rfl rfl
theorem s156_44 : ni_T d 156 44 [a0, a1, a2, a3, a4] (.int y :: .int x :: st) z h Q = ni_T d 156 45 [a0, a1, a2, a3, a4] (.int (x + y) :: st) z h Q := ni_T_p rfl rfl
theorem s156_45 : ni_T d 156 45 [a0, a1, a2, a3, a4] [.int x] z h Q = Q (some (.int x)) z h := ni_T_i rfl rfl
end
