set_option maxRecDepth 100000
set_option maxHeartbeats 1000000
/-! ===== lying ===== -/
def fs_oS (c : Nat → Int32) : Nat → Nat → Int32 → Int32
  | 0, _, b => b
  | m + 1, k, b => fs_oS c m (k + 1) (fs_ms c k 5 0 b)
def fs_oP (c : Nat → Int32) : Nat → Nat → Int32 → Int32
  | 0, _, b => b
  | m + 1, k, b => fs_oP c m (k + 1) (fs_mp c k 5 0 b)
def fs_oL (c : Nat → Int32) : Nat → Nat → Int32 → Int32 → Int32
  | 0, _, lo, _ => lo
  | m + 1, k, lo, be => if fs_ml c k 5 0 100 = 100 then fs_oL c m (k + 1) lo be else if fs_ml c k 5 0 100 ≤ be then fs_oL c m (k + 1) lo be else fs_oL c m (k + 1) (nI k) (fs_ml c k 5 0 100)
section
variable {z : ni_Z} {h : ni_H} {c g : Nat → Int32}
theorem L_mo {x : Int32} (hM : h 49 = fs_mo g) (hC : h 56 = ni_I 5 c) (d : Nat) (Q : ni_Q) : ∀ (m k : Nat) (s p lo be : Int32) (a7 a8 a9 : Value), k + m = 5 → ni_T (d + 1) 179 29 [.ref 49, .int x, .int s, .int p, .int lo, .int be, .int (nI k), a7, a8, a9] [] z h Q = Q (some (.int (if x = 0 then fs_oS c m k s else if x = 1 then fs_oP c m k p else fs_oL c m k lo be))) z h := by
  intro m
  induction m with
  | zero =>
    intro k s p lo be a7 a8 a9 e
    obtain rfl : k = 5 := by omega
    rw [s179_29]
    by_cases v0 : x = 0
    · simp +decide only [s179_0, s179_1, s179_4, s179_5, s179_6, s179_9, s179_10, s179_12, s179_15, s179_16, s179_17, s179_18, s179_19, s179_20, s179_21, s179_23, s179_24, s179_26, s179_27, s179_31, s179_32, s179_35, s179_37, s179_39, s179_40, s179_44, s179_45, s179_48, s179_50, s179_52, s179_55, s179_56, s179_59, s179_61, s179_62, s179_63, s179_66, s179_67, s179_70, s179_72, s179_73, s179_74, s179_77, s179_80, s179_81, s179_82, s179_85, s179_87, s179_88, s179_89, s179_92, s179_94, s179_95, s179_98, s179_100, s179_102, s179_103, s179_106, s179_108, s179_111, s179_112, s179_113, s179_115, s179_116, s179_119, s179_121, s179_123, s179_126, s179_129, s179_131, s179_133, s179_136, s179_138, s179_141, s179_143, s179_145, s179_148, s179_151, s179_153, s179_155, s179_158, s179_160, s179_162, s179_165, s179_168, s179_170, s179_172, s179_174, s179_176, s179_179, s179_182, s179_183, s179_186, s179_187, s179_190, s179_191, s179_192, s179_195, s179_196, s179_199, s179_201, show nI 5 = 5 from rfl, v0, mi_0, mg_0, mi_1, mg_1, mi_2, mg_2, mi_3, mg_3, mi_4, mg_4, mi_5, mg_5, mi_6, mg_6, mi_7, mg_7, mi_8, mg_8, mi_9, mg_9, mi_10, mg_10, mi_11, mg_11, mi_12, mg_12, mi_13, mg_13, mi_14, mg_14, mi_15, mg_15, mi_16, mg_16, mi_17, mg_17, mi_18, mg_18, mi_19, mg_19, mi_20, mg_20, mi_21, mg_21, mi_22, mg_22, mi_23, mg_23, mi_24, mg_24, mi_25, mg_25, mi_26, mg_26, mi_27, mg_27, mi_28, mg_28, mi_29, mg_29, mi_30, mg_30, mi_31, mg_31, mi_32, mg_32, mq_0, mq_1, mq_2, mq_3, mq_4, mq_20, mq_21, mq_22, mq_23, mq_24, mq_27, mq_28, mq_29, mq_31, mq_32, mrc, ud_s, ud_n, ud_u, up_n, ↓reduceIte, kl_i, kl_r, kl_n, kl_a, kl_l, up_s, up_up, is_0, is_s, gv_0, gv_s, pv_o, rc_o, okI_i, okI_x, okS_i, okB_x, gi_i, pi_i, okL_l, gl_l, pl_l, okA_2, okA_3, ga_a, arr_0, arr_1, arr_10, arr_11, len_a, sw_0, sw_i, sw_r, sw_l, fit_i, fit_z0, fit_z1, nz_0, nz_1, ni_K_s, ni_K_n, Nat.ble_eq, Nat.zero_le, Nat.zero_add, true_and, and_true, and_self, Bool.and_true, Bool.true_and, Bool.and_self, not_true_eq_false, not_false_eq_true, Int32.reduceLE, Int32.reduceLT, Int32.reduceAdd, Int32.reduceSub, Int32.reduceToNatClampNeg, Nat.reduceLeDiff, Nat.reduceAdd, Nat.reduceEqDiff, Nat.reduceSub, List.set_cons_zero, List.set_cons_succ, false_and, and_false, fs_oS]
    · by_cases v1 : x = 1
      · simp +decide only [s179_0, s179_1, s179_4, s179_5, s179_6, s179_9, s179_10, s179_12, s179_15, s179_16, s179_17, s179_18, s179_19, s179_20, s179_21, s179_23, s179_24, s179_26, s179_27, s179_31, s179_32, s179_35, s179_37, s179_39, s179_40, s179_44, s179_45, s179_48, s179_50, s179_52, s179_55, s179_56, s179_59, s179_61, s179_62, s179_63, s179_66, s179_67, s179_70, s179_72, s179_73, s179_74, s179_77, s179_80, s179_81, s179_82, s179_85, s179_87, s179_88, s179_89, s179_92, s179_94, s179_95, s179_98, s179_100, s179_102, s179_103, s179_106, s179_108, s179_111, s179_112, s179_113, s179_115, s179_116, s179_119, s179_121, s179_123, s179_126, s179_129, s179_131, s179_133, s179_136, s179_138, s179_141, s179_143, s179_145, s179_148, s179_151, s179_153, s179_155, s179_158, s179_160, s179_162, s179_165, s179_168, s179_170, s179_172, s179_174, s179_176, s179_179, s179_182, s179_183, s179_186, s179_187, s179_190, s179_191, s179_192, s179_195, s179_196, s179_199, s179_201, show nI 5 = 5 from rfl, v0, v1, mi_0, mg_0, mi_1, mg_1, mi_2, mg_2, mi_3, mg_3, mi_4, mg_4, mi_5, mg_5, mi_6, mg_6, mi_7, mg_7, mi_8, mg_8, mi_9, mg_9, mi_10, mg_10, mi_11, mg_11, mi_12, mg_12, mi_13, mg_13, mi_14, mg_14, mi_15, mg_15, mi_16, mg_16, mi_17, mg_17, mi_18, mg_18, mi_19, mg_19, mi_20, mg_20, mi_21, mg_21, mi_22, mg_22, mi_23, mg_23, mi_24, mg_24, mi_25, mg_25, mi_26, mg_26, mi_27, mg_27, mi_28, mg_28, mi_29, mg_29, mi_30, mg_30, mi_31, mg_31, mi_32, mg_32, mq_0, mq_1, mq_2, mq_3, mq_4, mq_20, mq_21, mq_22, mq_23, mq_24, mq_27, mq_28, mq_29, mq_31, mq_32, mrc, ud_s, ud_n, ud_u, up_n, ↓reduceIte, kl_i, kl_r, kl_n, kl_a, kl_l, up_s, up_up, is_0, is_s, gv_0, gv_s, pv_o, rc_o, okI_i, okI_x, okS_i, okB_x, gi_i, pi_i, okL_l, gl_l, pl_l, okA_2, okA_3, ga_a, arr_0, arr_1, arr_10, arr_11, len_a, sw_0, sw_i, sw_r, sw_l, fit_i, fit_z0, fit_z1, nz_0, nz_1, ni_K_s, ni_K_n, Nat.ble_eq, Nat.zero_le, Nat.zero_add, true_and, and_true, and_self, Bool.and_true, Bool.true_and, Bool.and_self, not_true_eq_false, not_false_eq_true, Int32.reduceLE, Int32.reduceLT, Int32.reduceAdd, Int32.reduceSub, Int32.reduceToNatClampNeg, Nat.reduceLeDiff, Nat.reduceAdd, Nat.reduceEqDiff, Nat.reduceSub, List.set_cons_zero, List.set_cons_succ, false_and, and_false, fs_oP]
      · simp +decide only [s179_0, s179_1, s179_4, s179_5, s179_6, s179_9, s179_10, s179_12, s179_15, s179_16, s179_17, s179_18, s179_19, s179_20, s179_21, s179_23, s179_24, s179_26, s179_27, s179_31, s179_32, s179_35, s179_37, s179_39, s179_40, s179_44, s179_45, s179_48, s179_50, s179_52, s179_55, s179_56, s179_59, s179_61, s179_62, s179_63, s179_66, s179_67, s179_70, s179_72, s179_73, s179_74, s179_77, s179_80, s179_81, s179_82, s179_85, s179_87, s179_88, s179_89, s179_92, s179_94, s179_95, s179_98, s179_100, s179_102, s179_103, s179_106, s179_108, s179_111, s179_112, s179_113, s179_115, s179_116, s179_119, s179_121, s179_123, s179_126, s179_129, s179_131, s179_133, s179_136, s179_138, s179_141, s179_143, s179_145, s179_148, s179_151, s179_153, s179_155, s179_158, s179_160, s179_162, s179_165, s179_168, s179_170, s179_172, s179_174, s179_176, s179_179, s179_182, s179_183, s179_186, s179_187, s179_190, s179_191, s179_192, s179_195, s179_196, s179_199, s179_201, show nI 5 = 5 from rfl, v0, v1, mi_0, mg_0, mi_1, mg_1, mi_2, mg_2, mi_3, mg_3, mi_4, mg_4, mi_5, mg_5, mi_6, mg_6, mi_7, mg_7, mi_8, mg_8, mi_9, mg_9, mi_10, mg_10, mi_11, mg_11, mi_12, mg_12, mi_13, mg_13, mi_14, mg_14, mi_15, mg_15, mi_16, mg_16, mi_17, mg_17, mi_18, mg_18, mi_19, mg_19, mi_20, mg_20, mi_21, mg_21, mi_22, mg_22, mi_23, mg_23, mi_24, mg_24, mi_25, mg_25, mi_26, mg_26, mi_27, mg_27, mi_28, mg_28, mi_29, mg_29, mi_30, mg_30, mi_31, mg_31, mi_32, mg_32, mq_0, mq_1, mq_2, mq_3, mq_4, mq_20, mq_21, mq_22, mq_23, mq_24, mq_27, mq_28, mq_29, mq_31, mq_32, mrc, ud_s, ud_n, ud_u, up_n, ↓reduceIte, kl_i, kl_r, kl_n, kl_a, kl_l, up_s, up_up, is_0, is_s, gv_0, gv_s, pv_o, rc_o, okI_i, okI_x, okS_i, okB_x, gi_i, pi_i, okL_l, gl_l, pl_l, okA_2, okA_3, ga_a, arr_0, arr_1, arr_10, arr_11, len_a, sw_0, sw_i, sw_r, sw_l, fit_i, fit_z0, fit_z1, nz_0, nz_1, ni_K_s, ni_K_n, Nat.ble_eq, Nat.zero_le, Nat.zero_add, true_and, and_true, and_self, Bool.and_true, Bool.true_and, Bool.and_self, not_true_eq_false, not_false_eq_true, Int32.reduceLE, Int32.reduceLT, Int32.reduceAdd, Int32.reduceSub, Int32.reduceToNatClampNeg, Nat.reduceLeDiff, Nat.reduceAdd, Nat.reduceEqDiff, Nat.reduceSub, List.set_cons_zero, List.set_cons_succ, false_and, and_false, fs_oL]
  | succ m ih =>
    intro k s p lo be a7 a8 a9 e
    have h1 : ¬ (5 : Int32) ≤ nI k := nI_ge (a := k) (b := 5) (by omega) (by omega)
    have ih2 := fun s p lo be a7 a8 a9 => ih (k + 1) s p lo be a7 a8 a9 (by omega)
    obtain ⟨a9', il⟩ := L_ml (z := z) (x := x) (lo := lo) (be := be) (show k < 5 by omega) hM hC 5 0 s p 100 a9 rfl
    rw [nI_0] at il
    rw [fs_oS, fs_oP, fs_oL, s179_29]
    by_cases v1 : fs_ml c k 5 0 100 = 100
    · rw [if_pos v1]
      simp +decide only [s179_0, s179_1, s179_4, s179_5, s179_6, s179_9, s179_10, s179_12, s179_15, s179_16, s179_17, s179_18, s179_19, s179_20, s179_21, s179_23, s179_24, s179_26, s179_27, s179_31, s179_32, s179_35, s179_37, s179_39, s179_40, s179_44, s179_45, s179_48, s179_50, s179_52, s179_55, s179_56, s179_59, s179_61, s179_62, s179_63, s179_66, s179_67, s179_70, s179_72, s179_73, s179_74, s179_77, s179_80, s179_81, s179_82, s179_85, s179_87, s179_88, s179_89, s179_92, s179_94, s179_95, s179_98, s179_100, s179_102, s179_103, s179_106, s179_108, s179_111, s179_112, s179_113, s179_115, s179_116, s179_119, s179_121, s179_123, s179_126, s179_129, s179_131, s179_133, s179_136, s179_138, s179_141, s179_143, s179_145, s179_148, s179_151, s179_153, s179_155, s179_158, s179_160, s179_162, s179_165, s179_168, s179_170, s179_172, s179_174, s179_176, s179_179, s179_182, s179_183, s179_186, s179_187, s179_190, s179_191, s179_192, s179_195, s179_196, s179_199, s179_201, h1, il, v1, nI_1, ih2, mi_0, mg_0, mi_1, mg_1, mi_2, mg_2, mi_3, mg_3, mi_4, mg_4, mi_5, mg_5, mi_6, mg_6, mi_7, mg_7, mi_8, mg_8, mi_9, mg_9, mi_10, mg_10, mi_11, mg_11, mi_12, mg_12, mi_13, mg_13, mi_14, mg_14, mi_15, mg_15, mi_16, mg_16, mi_17, mg_17, mi_18, mg_18, mi_19, mg_19, mi_20, mg_20, mi_21, mg_21, mi_22, mg_22, mi_23, mg_23, mi_24, mg_24, mi_25, mg_25, mi_26, mg_26, mi_27, mg_27, mi_28, mg_28, mi_29, mg_29, mi_30, mg_30, mi_31, mg_31, mi_32, mg_32, mq_0, mq_1, mq_2, mq_3, mq_4, mq_20, mq_21, mq_22, mq_23, mq_24, mq_27, mq_28, mq_29, mq_31, mq_32, mrc, ud_s, ud_n, ud_u, up_n, ↓reduceIte, kl_i, kl_r, kl_n, kl_a, kl_l, up_s, up_up, is_0, is_s, gv_0, gv_s, pv_o, rc_o, okI_i, okI_x, okS_i, okB_x, gi_i, pi_i, okL_l, gl_l, pl_l, okA_2, okA_3, ga_a, arr_0, arr_1, arr_10, arr_11, len_a, sw_0, sw_i, sw_r, sw_l, fit_i, fit_z0, fit_z1, nz_0, nz_1, ni_K_s, ni_K_n, Nat.ble_eq, Nat.zero_le, Nat.zero_add, true_and, and_true, and_self, Bool.and_true, Bool.true_and, Bool.and_self, not_true_eq_false, not_false_eq_true, Int32.reduceLE, Int32.reduceLT, Int32.reduceAdd, Int32.reduceSub, Int32.reduceToNatClampNeg, Nat.reduceLeDiff, Nat.reduceAdd, Nat.reduceEqDiff, Nat.reduceSub, List.set_cons_zero, List.set_cons_succ, false_and, and_false]
    · rw [if_neg v1]
      by_cases v2 : fs_ml c k 5 0 100 ≤ be
      · rw [if_pos v2]
        simp +decide only [s179_0, s179_1, s179_4, s179_5, s179_6, s179_9, s179_10, s179_12, s179_15, s179_16, s179_17, s179_18, s179_19, s179_20, s179_21, s179_23, s179_24, s179_26, s179_27, s179_31, s179_32, s179_35, s179_37, s179_39, s179_40, s179_44, s179_45, s179_48, s179_50, s179_52, s179_55, s179_56, s179_59, s179_61, s179_62, s179_63, s179_66, s179_67, s179_70, s179_72, s179_73, s179_74, s179_77, s179_80, s179_81, s179_82, s179_85, s179_87, s179_88, s179_89, s179_92, s179_94, s179_95, s179_98, s179_100, s179_102, s179_103, s179_106, s179_108, s179_111, s179_112, s179_113, s179_115, s179_116, s179_119, s179_121, s179_123, s179_126, s179_129, s179_131, s179_133, s179_136, s179_138, s179_141, s179_143, s179_145, s179_148, s179_151, s179_153, s179_155, s179_158, s179_160, s179_162, s179_165, s179_168, s179_170, s179_172, s179_174, s179_176, s179_179, s179_182, s179_183, s179_186, s179_187, s179_190, s179_191, s179_192, s179_195, s179_196, s179_199, s179_201, h1, il, v1, v2, Int32.not_lt.mpr v2, nI_1, ih2, mi_0, mg_0, mi_1, mg_1, mi_2, mg_2, mi_3, mg_3, mi_4, mg_4, mi_5, mg_5, mi_6, mg_6, mi_7, mg_7, mi_8, mg_8, mi_9, mg_9, mi_10, mg_10, mi_11, mg_11, mi_12, mg_12, mi_13, mg_13, mi_14, mg_14, mi_15, mg_15, mi_16, mg_16, mi_17, mg_17, mi_18, mg_18, mi_19, mg_19, mi_20, mg_20, mi_21, mg_21, mi_22, mg_22, mi_23, mg_23, mi_24, mg_24, mi_25, mg_25, mi_26, mg_26, mi_27, mg_27, mi_28, mg_28, mi_29, mg_29, mi_30, mg_30, mi_31, mg_31, mi_32, mg_32, mq_0, mq_1, mq_2, mq_3, mq_4, mq_20, mq_21, mq_22, mq_23, mq_24, mq_27, mq_28, mq_29, mq_31, mq_32, mrc, ud_s, ud_n, ud_u, up_n, ↓reduceIte, kl_i, kl_r, kl_n, kl_a, kl_l, up_s, up_up, is_0, is_s, gv_0, gv_s, pv_o, rc_o, okI_i, okI_x, okS_i, okB_x, gi_i, pi_i, okL_l, gl_l, pl_l, okA_2, okA_3, ga_a, arr_0, arr_1, arr_10, arr_11, len_a, sw_0, sw_i, sw_r, sw_l, fit_i, fit_z0, fit_z1, nz_0, nz_1, ni_K_s, ni_K_n, Nat.ble_eq, Nat.zero_le, Nat.zero_add, true_and, and_true, and_self, Bool.and_true, Bool.true_and, Bool.and_self, not_true_eq_false, not_false_eq_true, Int32.reduceLE, Int32.reduceLT, Int32.reduceAdd, Int32.reduceSub, Int32.reduceToNatClampNeg, Nat.reduceLeDiff, Nat.reduceAdd, Nat.reduceEqDiff, Nat.reduceSub, List.set_cons_zero, List.set_cons_succ, false_and, and_false]
      · rw [if_neg v2]
        simp +decide only [s179_0, s179_1, s179_4, s179_5, s179_6, s179_9, s179_10, s179_12, s179_15, s179_16, s179_17, s179_18, s179_19, s179_20, s179_21, s179_23, s179_24, s179_26, s179_27, s179_31, s179_32, s179_35, s179_37, s179_39, s179_40, s179_44, s179_45, s179_48, s179_50, s179_52, s179_55, s179_56, s179_59, s179_61, s179_62, s179_63, s179_66, s179_67, s179_70, s179_72, s179_73, s179_74, s179_77, s179_80, s179_81, s179_82, s179_85, s179_87, s179_88, s179_89, s179_92, s179_94, s179_95, s179_98, s179_100, s179_102, s179_103, s179_106, s179_108, s179_111, s179_112, s179_113, s179_115, s179_116, s179_119, s179_121, s179_123, s179_126, s179_129, s179_131, s179_133, s179_136, s179_138, s179_141, s179_143, s179_145, s179_148, s179_151, s179_153, s179_155, s179_158, s179_160, s179_162, s179_165, s179_168, s179_170, s179_172, s179_174, s179_176, s179_179, s179_182, s179_183, s179_186, s179_187, s179_190, s179_191, s179_192, s179_195, s179_196, s179_199, s179_201, h1, il, v1, v2, Int32.not_le.mp v2, nI_1, ih2, mi_0, mg_0, mi_1, mg_1, mi_2, mg_2, mi_3, mg_3, mi_4, mg_4, mi_5, mg_5, mi_6, mg_6, mi_7, mg_7, mi_8, mg_8, mi_9, mg_9, mi_10, mg_10, mi_11, mg_11, mi_12, mg_12, mi_13, mg_13, mi_14, mg_14, mi_15, mg_15, mi_16, mg_16, mi_17, mg_17, mi_18, mg_18, mi_19, mg_19, mi_20, mg_20, mi_21, mg_21, mi_22, mg_22, mi_23, mg_23, mi_24, mg_24, mi_25, mg_25, mi_26, mg_26, mi_27, mg_27, mi_28, mg_28, mi_29, mg_29, mi_30, mg_30, mi_31, mg_31, mi_32, mg_32, mq_0, mq_1, mq_2, mq_3, mq_4, mq_20, mq_21, mq_22, mq_23, mq_24, mq_27, mq_28, mq_29, mq_31, mq_32, mrc, ud_s, ud_n, ud_u, up_n, ↓reduceIte, kl_i, kl_r, kl_n, kl_a, kl_l, up_s, up_up, is_0, is_s, gv_0, gv_s, pv_o, rc_o, okI_i, okI_x, okS_i, okB_x, gi_i, pi_i, okL_l, gl_l, pl_l, okA_2, okA_3, ga_a, arr_0, arr_1, arr_10, arr_11, len_a, sw_0, sw_i, sw_r, sw_l, fit_i, fit_z0, fit_z1, nz_0, nz_1, ni_K_s, ni_K_n, Nat.ble_eq, Nat.zero_le, Nat.zero_add, true_and, and_true, and_self, Bool.and_true, Bool.true_and, Bool.and_self, not_true_eq_false, not_false_eq_true, Int32.reduceLE, Int32.reduceLT, Int32.reduceAdd, Int32.reduceSub, Int32.reduceToNatClampNeg, Nat.reduceLeDiff, Nat.reduceAdd, Nat.reduceEqDiff, Nat.reduceSub, List.set_cons_zero, List.set_cons_succ, false_and, and_false]
end
section
variable {c : Nat → Int32}
theorem far_p0 : ∀ p, p < 36 → ∀ q, q < 36 → p ≠ q → ¬ fs_far (nI p) (nI q) = nI 0 := by decide +kernel
theorem far_p {x y : Int32} (hx : fs_ce x) (hy : fs_ce y) (hn : x ≠ y) : ∃ f, 1 ≤ f ∧ f ≤ 10 ∧ fs_far x y = nI f := by
  obtain ⟨f, h1, h2⟩ := far_b hx hy
  obtain ⟨p, hp, rfl⟩ := hx
  obtain ⟨q, hq, rfl⟩ := hy
  have := far_p0 p hp q hq (fun e => hn (by rw [e]))
  refine ⟨f, ?_, by omega, h2⟩
  rcases Nat.eq_zero_or_pos f with e | e
  · rw [h2, e] at this; exact absurd rfl this
  · exact e
def fs_R (b l : Int32) : Prop := (b = 0 ∧ l = 100) ∨ ∃ a, 1 ≤ a ∧ a ≤ 10 ∧ b = nI a ∧ l = nI a
theorem nt_ml (hc : ∀ j, j < 5 → c j = -1 ∨ fs_ce (c j)) (hd : ∀ i j, i < 5 → j < 5 → i ≠ j → c i = c j → c i = -1) {k : Nat} (hk : k < 5) : ∀ (m j : Nat) (b l : Int32), j + m = 5 → fs_R b l → fs_R (fs_nt c k m j b) (fs_ml c k m j l) := by
  intro m
  induction m with
  | zero => intro j b l _ h; exact h
  | succ m ih =>
    intro j b l e h
    rw [fs_nt, fs_ml]
    refine ih (j + 1) _ _ (by omega) ?_
    by_cases q1 : j = k
    · subst q1
      rw [if_pos rfl, if_pos (by simp [fs_sk])]
      exact h
    · rw [if_neg (fun e => q1 ((nI_eq (by omega) (by omega)).mp e))]
      by_cases q2 : c k = -1
      · rw [if_pos q2, if_pos (by simp [fs_sk, q2])]
        exact h
      · rw [if_neg q2]
        by_cases q3 : c j = -1
        · rw [if_pos q3, if_pos (by simp [fs_sk, q3])]
          exact h
        · have sk : ¬ fs_sk c k j = true := by simp [fs_sk, q1, q2, q3]
          rw [if_neg q3, if_neg sk]
          obtain ⟨f, f1, f2, ef⟩ := far_p ((hc k hk).resolve_left q2) ((hc j (by omega)).resolve_left q3) (fun e => q2 (hd k j hk (by omega) (fun e => q1 e.symm) e))
          rw [ef]
          rcases h with ⟨rfl, rfl⟩ | ⟨a, a1, a2, rfl, rfl⟩
          · rw [if_pos rfl, fs_min, if_pos (show nI f < (100 : Int32) from nI_lt (a := f) (b := 100) (by omega) (by decide))]
            exact Or.inr ⟨f, f1, f2, rfl, rfl⟩
          · rw [if_neg (nI_ne0 (by omega) (by omega)), fs_min]
            split
            · exact Or.inr ⟨f, f1, f2, rfl, rfl⟩
            · exact Or.inr ⟨a, a1, a2, rfl, rfl⟩
theorem lone_eq (hc : ∀ j, j < 5 → c j = -1 ∨ fs_ce (c j)) (hd : ∀ i j, i < 5 → j < 5 → i ≠ j → c i = c j → c i = -1) : ∀ (m k : Nat) (lo : Int32) (w : Nat), k + m = 5 → w ≤ 10 → fs_lone c m k lo (nI w) = fs_oL c m k lo (nI w) := by
  intro m
  induction m with
  | zero => intro k lo w _ _; rfl
  | succ m ih =>
    intro k lo w e hw
    rw [fs_lone, fs_oL]
    rcases nt_ml hc hd (show k < 5 by omega) 5 0 0 100 rfl (Or.inl ⟨rfl, rfl⟩) with ⟨e1, e2⟩ | ⟨a, a1, a2, e1, e2⟩
    · rw [e1, e2, if_pos rfl, if_pos (Int32.not_lt.mp (nI_pos (by omega)))]
      exact ih (k + 1) lo w (by omega) hw
    · rw [e1, e2, if_neg (show ¬ nI a = (100 : Int32) from fun e => absurd ((nI_eq (a := a) (b := 100) (by omega) (by decide)).mp e) (by omega))]
      split
      · exact ih (k + 1) lo w (by omega) hw
      · exact ih (k + 1) (nI k) a (by omega) a2
def fs_mx (D : Nat → Nat) : Nat → Nat → Nat → Nat
  | 0, _, b => b
  | m + 1, j, b => fs_mx D m (j + 1) (max b (D j))
def fs_D (c : Nat → Int32) (k j : Nat) : Nat := if fs_sk c k j = true then 0 else (fs_far (c k) (c j)).toNatClampNeg
theorem max_n {a b : Nat} (ha : a < 11) (hb : b < 11) : fs_max (nI a) (nI b) = nI (max a b) := by
  have : ∀ a, a < 11 → ∀ b, b < 11 → fs_max (nI a) (nI b) = nI (max a b) := by decide +kernel
  exact this a ha b hb
theorem D_n (hc : ∀ j, j < 5 → c j = -1 ∨ fs_ce (c j)) {k j : Nat} (hk : k < 5) (hj : j < 5) (q : ¬ fs_sk c k j = true) : fs_far (c k) (c j) = nI (fs_D c k j) ∧ fs_D c k j < 11 := by
  have q2 : ¬ c k = -1 := fun e => q (by simp [fs_sk, e])
  have q3 : ¬ c j = -1 := fun e => q (by simp [fs_sk, e])
  obtain ⟨f, h1, h2⟩ := far_b ((hc k hk).resolve_left q2) ((hc j hj).resolve_left q3)
  rw [fs_D, if_neg q, h2, nI_clamp (by omega)]
  exact ⟨rfl, h1⟩
theorem sk_c {k j : Nat} : fs_sk c k j = fs_sk c j k := by
  unfold fs_sk
  rw [Bool.or_comm (decide (c k = -1)), show decide (j = k) = decide (k = j) from by simp only [eq_comm]]
theorem D_c (hc : ∀ j, j < 5 → c j = -1 ∨ fs_ce (c j)) {k j : Nat} (hk : k < 5) (hj : j < 5) : fs_D c k j = fs_D c j k := by
  unfold fs_D
  rw [sk_c]
  split
  · rfl
  · next q =>
    have q2 : ¬ c k = -1 := fun e => q (by simp [fs_sk, e])
    have q3 : ¬ c j = -1 := fun e => q (by simp [fs_sk, e])
    rw [far_s ((hc k hk).resolve_left q2) ((hc j hj).resolve_left q3)]
theorem D_0 {k : Nat} : fs_D c k k = 0 := by simp [fs_D, fs_sk]
theorem ms_n (hc : ∀ j, j < 5 → c j = -1 ∨ fs_ce (c j)) {k : Nat} (hk : k < 5) : ∀ (m j b : Nat), j + m = 5 → b < 11 → fs_ms c k m j (nI b) = nI (fs_mx (fs_D c k) m j b) ∧ fs_mx (fs_D c k) m j b < 11 := by
  intro m
  induction m with
  | zero => intro j b _ h; exact ⟨rfl, h⟩
  | succ m ih =>
    intro j b e h
    rw [fs_ms, fs_mx]
    by_cases q : fs_sk c k j = true
    · have : fs_D c k j = 0 := by rw [fs_D, if_pos q]
      rw [if_pos q, this, Nat.max_zero]
      exact ih (j + 1) b (by omega) h
    · obtain ⟨d1, d2⟩ := D_n hc hk (show j < 5 by omega) q
      rw [if_neg q, d1, max_n h d2]
      exact ih (j + 1) _ (by omega) (by omega)
theorem sp1_n (hc : ∀ j, j < 5 → c j = -1 ∨ fs_ce (c j)) {k : Nat} (hk : k < 5) : ∀ (m j b : Nat), j + m = 5 → k < j → b < 11 → fs_sp1 c k m j (nI b) = nI (fs_mx (fs_D c k) m j b) ∧ fs_mx (fs_D c k) m j b < 11 := by
  intro m
  induction m with
  | zero => intro j b _ _ h; exact ⟨rfl, h⟩
  | succ m ih =>
    intro j b e lt h
    rw [fs_sp1, fs_mx]
    by_cases q : fs_sk c k j = true
    · have : fs_D c k j = 0 := by rw [fs_D, if_pos q]
      have q' : c k = -1 ∨ c j = -1 := by
        have : ¬ j = k := by omega
        simpa [fs_sk, this] using q
      have : (if c k = -1 then nI b else if c j = -1 then nI b else fs_max (nI b) (fs_far (c k) (c j))) = nI b := by
        rcases q' with q' | q'
        · rw [if_pos q']
        · rw [if_pos q']; split <;> rfl
      rw [this, ‹fs_D c k j = 0›, Nat.max_zero]
      exact ih (j + 1) b (by omega) (by omega) h
    · have q2 : ¬ c k = -1 := fun e => q (by simp [fs_sk, e])
      have q3 : ¬ c j = -1 := fun e => q (by simp [fs_sk, e])
      obtain ⟨d1, d2⟩ := D_n hc hk (show j < 5 by omega) q
      rw [if_neg q2, if_neg q3, d1, max_n h d2]
      exact ih (j + 1) _ (by omega) (by omega) (by omega)
theorem sp_eq (hc : ∀ j, j < 5 → c j = -1 ∨ fs_ce (c j)) : fs_oS c 5 0 0 = fs_sp c 5 0 0 := by
  obtain ⟨a0, b0⟩ := ms_n hc (k := 0) (by decide) 5 0 0 rfl (by decide)
  obtain ⟨a1, b1⟩ := ms_n hc (k := 1) (by decide) 5 0 _ rfl b0
  obtain ⟨a2, b2⟩ := ms_n hc (k := 2) (by decide) 5 0 _ rfl b1
  obtain ⟨a3, b3⟩ := ms_n hc (k := 3) (by decide) 5 0 _ rfl b2
  obtain ⟨a4, b4⟩ := ms_n hc (k := 4) (by decide) 5 0 _ rfl b3
  obtain ⟨c0, d0⟩ := sp1_n hc (k := 0) (by decide) 4 1 0 rfl (by decide) (by decide)
  obtain ⟨c1, d1⟩ := sp1_n hc (k := 1) (by decide) 3 2 _ rfl (by decide) d0
  obtain ⟨c2, d2⟩ := sp1_n hc (k := 2) (by decide) 2 3 _ rfl (by decide) d1
  obtain ⟨c3, d3⟩ := sp1_n hc (k := 3) (by decide) 1 4 _ rfl (by decide) d2
  have eS : fs_oS c 5 0 0 = fs_ms c 4 5 0 (fs_ms c 3 5 0 (fs_ms c 2 5 0 (fs_ms c 1 5 0 (fs_ms c 0 5 0 (nI 0))))) := by
    simp only [fs_oS, Nat.zero_add, Nat.reduceAdd, nI_0]
  have eP : fs_sp c 5 0 0 = fs_sp1 c 3 1 4 (fs_sp1 c 2 2 3 (fs_sp1 c 1 3 2 (fs_sp1 c 0 4 1 (nI 0)))) := by
    simp only [fs_sp, Nat.zero_add, Nat.reduceAdd, nI_0]
    rw [fs_sp1]
  rw [eS, eP, a0, a1, a2, a3, a4, c0, c1, c2, c3]
  have key : ∀ t, fs_mx (fs_D c 4) 5 0 (fs_mx (fs_D c 3) 5 0 (fs_mx (fs_D c 2) 5 0 (fs_mx (fs_D c 1) 5 0 (fs_mx (fs_D c 0) 5 0 0)))) ≤ t ↔ fs_mx (fs_D c 3) 1 4 (fs_mx (fs_D c 2) 2 3 (fs_mx (fs_D c 1) 3 2 (fs_mx (fs_D c 0) 4 1 0))) ≤ t := by
    intro t
    simp only [fs_mx, Nat.max_le, Nat.zero_add, Nat.reduceAdd, D_0, Nat.max_zero, Nat.zero_max, D_c hc (k := 1) (j := 0) (by decide) (by decide), D_c hc (k := 2) (j := 0) (by decide) (by decide), D_c hc (k := 3) (j := 0) (by decide) (by decide), D_c hc (k := 4) (j := 0) (by decide) (by decide), D_c hc (k := 2) (j := 1) (by decide) (by decide), D_c hc (k := 3) (j := 1) (by decide) (by decide), D_c hc (k := 4) (j := 1) (by decide) (by decide), D_c hc (k := 3) (j := 2) (by decide) (by decide), D_c hc (k := 4) (j := 2) (by decide) (by decide), D_c hc (k := 4) (j := 3) (by decide) (by decide)]
    constructor
    · intro q; omega
    · intro q; omega
  rw [Nat.le_antisymm ((key _).mpr (Nat.le_refl _)) ((key _).mp (Nat.le_refl _))]
def fs_e (c : Nat → Int32) (k j : Nat) : Int32 := if fs_near c k j = true then 1 else 0
theorem e_x {k j : Nat} {b : Int32} : (if fs_near c k j = true then b + 1 else b) = b + fs_e c k j := by
  unfold fs_e
  split
  · rfl
  · rw [Int32.add_zero]
theorem e_m {k j : Nat} {b : Int32} (lt : j < k) : (if fs_sk c k j = true then b else if fs_far (c k) (c j) = 1 ∧ j < k then b + 1 else b) = b + fs_e c k j := by
  have q1 : ¬ j = k := by omega
  by_cases q2 : c k = -1
  · simp [fs_e, fs_sk, fs_near, q2]
  · by_cases q3 : c j = -1
    · simp [fs_e, fs_sk, fs_near, q3]
    · by_cases q4 : fs_far (c k) (c j) = 1
      · simp [fs_e, fs_sk, fs_near, q1, q2, q3, q4, lt]
      · simp [fs_e, fs_sk, fs_near, q1, q2, q3, q4]
theorem e_n {k j : Nat} {b : Int32} (lt : ¬ j < k) : (if fs_sk c k j = true then b else if fs_far (c k) (c j) = 1 ∧ j < k then b + 1 else b) = b := by
  simp [lt]
theorem e_c (hc : ∀ j, j < 5 → c j = -1 ∨ fs_ce (c j)) {k j : Nat} (hk : k < 5) (hj : j < 5) : fs_e c k j = fs_e c j k := by
  unfold fs_e fs_near
  rcases hc k hk with q | q
  · simp [q]
  · rcases hc j hj with q' | q'
    · simp [q']
    · rw [far_s q q', ← Bool.and_assoc, ← Bool.and_assoc, Bool.and_comm (!decide (c k = -1))]
theorem mp_s {k m j : Nat} {b : Int32} (lt : j < k) : fs_mp c k (m + 1) j b = fs_mp c k m (j + 1) (b + fs_e c k j) := by
  rw [fs_mp, e_m lt]
theorem mp_n {k : Nat} : ∀ (m j : Nat) (b : Int32), k ≤ j → fs_mp c k m j b = b := by
  intro m
  induction m with
  | zero => intro j b _; rfl
  | succ m ih => intro j b h; rw [fs_mp, e_n (by omega), ih (j + 1) b (by omega)]
theorem np1_s {k m j : Nat} {b : Int32} : fs_np1 c k (m + 1) j b = fs_np1 c k m (j + 1) (b + fs_e c k j) := by
  rw [fs_np1, e_x]
theorem np_eq (hc : ∀ j, j < 5 → c j = -1 ∨ fs_ce (c j)) : fs_oP c 5 0 0 = fs_np c 5 0 0 := by
  have c10 := e_c hc (k := 1) (j := 0) (by decide) (by decide)
  have c20 := e_c hc (k := 2) (j := 0) (by decide) (by decide)
  have c21 := e_c hc (k := 2) (j := 1) (by decide) (by decide)
  have c30 := e_c hc (k := 3) (j := 0) (by decide) (by decide)
  have c31 := e_c hc (k := 3) (j := 1) (by decide) (by decide)
  have c32 := e_c hc (k := 3) (j := 2) (by decide) (by decide)
  have c40 := e_c hc (k := 4) (j := 0) (by decide) (by decide)
  have c41 := e_c hc (k := 4) (j := 1) (by decide) (by decide)
  have c42 := e_c hc (k := 4) (j := 2) (by decide) (by decide)
  have c43 := e_c hc (k := 4) (j := 3) (by decide) (by decide)
  have eP : fs_oP c 5 0 0 = fs_mp c 4 5 0 (fs_mp c 3 5 0 (fs_mp c 2 5 0 (fs_mp c 1 5 0 (fs_mp c 0 5 0 0)))) := by
    simp only [fs_oP, Nat.zero_add, Nat.reduceAdd]
  have eN : fs_np c 5 0 0 = fs_np1 c 3 1 4 (fs_np1 c 2 2 3 (fs_np1 c 1 3 2 (fs_np1 c 0 4 1 0))) := by
    simp only [fs_np, Nat.zero_add, Nat.reduceAdd]
    rw [fs_np1]
  rw [eP, eN]
  have m0 : ∀ b, fs_mp c 0 5 0 b = b := fun b => mp_n 5 0 b (by decide)
  have m1 : ∀ b, fs_mp c 1 5 0 b = b + fs_e c 0 1 := fun b => by
    rw [mp_s (by decide), mp_n _ _ _ (by decide), c10]
  have m2 : ∀ b, fs_mp c 2 5 0 b = b + fs_e c 0 2 + fs_e c 1 2 := fun b => by
    rw [mp_s (by decide), mp_s (by decide), mp_n _ _ _ (by decide), c20, c21]
  have m3 : ∀ b, fs_mp c 3 5 0 b = b + fs_e c 0 3 + fs_e c 1 3 + fs_e c 2 3 := fun b => by
    rw [mp_s (by decide), mp_s (by decide), mp_s (by decide), mp_n _ _ _ (by decide), c30, c31, c32]
  have m4 : ∀ b, fs_mp c 4 5 0 b = b + fs_e c 0 4 + fs_e c 1 4 + fs_e c 2 4 + fs_e c 3 4 := fun b => by
    rw [mp_s (by decide), mp_s (by decide), mp_s (by decide), mp_s (by decide), mp_n _ _ _ (by decide), c40, c41, c42, c43]
  have n0 : ∀ b, fs_np1 c 0 4 1 b = b + fs_e c 0 1 + fs_e c 0 2 + fs_e c 0 3 + fs_e c 0 4 := fun b => by
    rw [np1_s, np1_s, np1_s, np1_s, fs_np1]
  have n1 : ∀ b, fs_np1 c 1 3 2 b = b + fs_e c 1 2 + fs_e c 1 3 + fs_e c 1 4 := fun b => by
    rw [np1_s, np1_s, np1_s, fs_np1]
  have n2 : ∀ b, fs_np1 c 2 2 3 b = b + fs_e c 2 3 + fs_e c 2 4 := fun b => by
    rw [np1_s, np1_s, fs_np1]
  have n3 : ∀ b, fs_np1 c 3 1 4 b = b + fs_e c 3 4 := fun b => by
    rw [np1_s, fs_np1]
  rw [m0, m1, m2, m3, m4, n0, n1, n2, n3]
  ac_rfl
end
section
variable {J : Nat} {z : ni_Z} {h : ni_H}
theorem C_lying (x : Int32) : fs_Inv J h → fs_C J z 93 179 [.ref 0, .int x] [.ref 49, .int x, .retAddr 0, .retAddr 0, .retAddr 0, .retAddr 0, .retAddr 0, .retAddr 0, .retAddr 0, .retAddr 0] h := by
  intro hI
  obtain ⟨hE, n, w, im, lf, u, v, mu, ran, tr, rf, hl, hd, so, szf, sh, kp, g, sz, ee, ce, X, M, P⟩ := hI
  have X' := X
  have M' := M
  have P' := P
  obtain ⟨x0, x1, xT, xV, xD, xM, x29, x30, x31, x32, xS, xL⟩ := X'
  obtain ⟨mT, m50, m57, m58, m59, m60, m61, m62, m63, m64, m65, m66, m67⟩ := M'
  have mT' := mT
  obtain ⟨m49, m51, m52, m53, m54, m55, m56, g0, g1, g2, g3⟩ := mT'
  have xT' := xT
  obtain ⟨t2, t3, t4, tH⟩ := xT'
  obtain ⟨pG, pR, p4, p31, p32, pr, pI, pS⟩ := P'
  have pG' := pG
  obtain ⟨u60, n4, u61, wn, cel, cel5, cdis, hnd⟩ := pG'
  have pR' := pR
  obtain ⟨r6, r0, rH⟩ := pR'
  have gn : g 0 = nI n := (g0.trans (r6 0 (by decide))).trans u60
  have gw : g 1 = nI w := (g1.trans (r6 1 (by decide))).trans u61
  have gf : g 2 = u 6 2 := g2.trans (r6 2 (by decide))
  have gs : g 3 = u 6 3 := g3.trans (r6 3 (by decide))
  rw [u60, u61] at t2
  rw [r0] at m56
  simp only [Nat.reduceAdd] at t2 t3 t4
  have xs := fun (d : Nat) (Q : ni_Q) => X_sp (t := 2) (d := d) (z := z) (Q := Q) t2 t3
  have xp := fun (d : Nat) (Q : ni_Q) => X_np (t := 2) (d := d) (z := z) (Q := Q) t2 t3
  have xl := fun (d : Nat) (Q : ni_Q) => X_lone (t := 2) (d := d) (z := z) (Q := Q) t2 t3
  have el := lone_eq cel cdis 5 0 (-1) 0 rfl (by decide)
  rw [nI_0] at el
  have mo := fun (x : Int32) (d : Nat) (Q : ni_Q) => L_mo (z := z) (x := x) m49 m56 d Q 5 0 0 0 (-1) 0 (.retAddr 0) (.retAddr 0) (.retAddr 0) rfl
  rw [nI_0, sp_eq cel, np_eq cel, ← el] at mo
  rcases pk_ix x (n := 3) (by decide) with q | q | ⟨j, hj, rfl⟩
  · have hd : x.toInt < 0 ∨ 2 < x.toInt := by
      have := ix_d (K := 3) (by decide) (Or.inl q)
      omega
    refine C_r hE X M P (r := .int (-15)) (c := -5) (fun d Q => ?_) (fun h' N d Q => ?_)
    · simp +decide only [s93_0, s93_1_0, s93_1_1, s93_1_2, s93_28, s93_29, s93_32, s93_35, s93_36, s93_37, s93_40, s93_43, s93_44, s93_45, s93_48, s93_51, s93_52, s93_53, s93_55, s93_58, x0, t2, s93_1_d hd, X_refuseA x0 x32 no_5, ↓reduceIte, kl_i, kl_r, kl_n, kl_a, kl_l, up_s, up_up, is_0, is_s, gv_0, gv_s, pv_o, rc_o, okI_i, okI_x, okS_i, okB_x, gi_i, pi_i, okL_l, gl_l, pl_l, okA_2, okA_3, ga_a, arr_0, arr_1, arr_10, arr_11, len_a, sw_0, sw_i, sw_r, sw_l, fit_i, fit_z0, fit_z1, nz_0, nz_1, ni_K_s, ni_K_n, Nat.ble_eq, Nat.zero_le, Nat.zero_add, true_and, and_true, and_self, Bool.and_true, Bool.true_and, Bool.and_self, not_true_eq_false, not_false_eq_true, Int32.reduceLE, Int32.reduceLT, Int32.reduceAdd, Int32.reduceSub, Int32.reduceToNatClampNeg, Nat.reduceLeDiff, Nat.reduceAdd, Nat.reduceEqDiff, Nat.reduceSub, List.set_cons_zero, List.set_cons_succ, false_and, and_false]
    · obtain ⟨⟨k49, k51, k52, k53, k54, k55, k56, -, -, -, -⟩, k50, k57, k58, k59, k60, k61, k62, k63, k64, k65, k66, k67⟩ := N
      rw [r0] at k56
      simp +decide only [s179_0, s179_1, s179_4, s179_5, s179_6, s179_9, s179_10, s179_12, s179_15, s179_16, s179_17, s179_18, s179_19, s179_20, s179_21, s179_23, s179_24, s179_26, s179_27, s179_29, s179_31, s179_32, s179_35, s179_37, s179_39, s179_40, s179_42, s179_44, s179_45, s179_48, s179_50, s179_52, s179_55, s179_56, s179_59, s179_61, s179_62, s179_63, s179_66, s179_67, s179_70, s179_72, s179_73, s179_74, s179_77, s179_80, s179_81, s179_82, s179_85, s179_87, s179_88, s179_89, s179_92, s179_94, s179_95, s179_98, s179_100, s179_102, s179_103, s179_106, s179_108, s179_111, s179_112, s179_113, s179_115, s179_116, s179_119, s179_121, s179_123, s179_126, s179_129, s179_131, s179_133, s179_136, s179_138, s179_141, s179_143, s179_145, s179_148, s179_151, s179_153, s179_155, s179_158, s179_160, s179_162, s179_165, s179_168, s179_170, s179_172, s179_174, s179_176, s179_179, s179_182, s179_183, s179_186, s179_187, s179_190, s179_191, s179_192, s179_195, s179_196, s179_199, s179_201, k49, gn, fs_b, q, M_noTen k49 k50 no_5, Bool.false_eq_true, mi_0, mg_0, mi_1, mg_1, mi_2, mg_2, mi_3, mg_3, mi_4, mg_4, mi_5, mg_5, mi_6, mg_6, mi_7, mg_7, mi_8, mg_8, mi_9, mg_9, mi_10, mg_10, mi_11, mg_11, mi_12, mg_12, mi_13, mg_13, mi_14, mg_14, mi_15, mg_15, mi_16, mg_16, mi_17, mg_17, mi_18, mg_18, mi_19, mg_19, mi_20, mg_20, mi_21, mg_21, mi_22, mg_22, mi_23, mg_23, mi_24, mg_24, mi_25, mg_25, mi_26, mg_26, mi_27, mg_27, mi_28, mg_28, mi_29, mg_29, mi_30, mg_30, mi_31, mg_31, mi_32, mg_32, mq_0, mq_1, mq_2, mq_3, mq_4, mq_20, mq_21, mq_22, mq_23, mq_24, mq_27, mq_28, mq_29, mq_31, mq_32, mrc, ud_s, ud_n, ud_u, up_n, ↓reduceIte, kl_i, kl_r, kl_n, kl_a, kl_l, up_s, up_up, is_0, is_s, gv_0, gv_s, pv_o, rc_o, okI_i, okI_x, okS_i, okB_x, gi_i, pi_i, okL_l, gl_l, pl_l, okA_2, okA_3, ga_a, arr_0, arr_1, arr_10, arr_11, len_a, sw_0, sw_i, sw_r, sw_l, fit_i, fit_z0, fit_z1, nz_0, nz_1, ni_K_s, ni_K_n, Nat.ble_eq, Nat.zero_le, Nat.zero_add, true_and, and_true, and_self, Bool.and_true, Bool.true_and, Bool.and_self, not_true_eq_false, not_false_eq_true, Int32.reduceLE, Int32.reduceLT, Int32.reduceAdd, Int32.reduceSub, Int32.reduceToNatClampNeg, Nat.reduceLeDiff, Nat.reduceAdd, Nat.reduceEqDiff, Nat.reduceSub, List.set_cons_zero, List.set_cons_succ, false_and, and_false]
  · have hd : x.toInt < 0 ∨ 2 < x.toInt := by
      have := ix_d (K := 3) (by decide) (Or.inr q)
      omega
    have q2 : (3 : Int32) ≤ x := q
    have q1 : ¬ x < 0 := fun e => absurd (Int32.lt_of_le_of_lt q2 e) (by decide)
    have q3 : 2 < x := Int32.lt_of_lt_of_le (by decide) q2
    have q4 : ¬ x < 3 := Int32.not_lt.mpr q2
    have q5 : ¬ x ≤ 2 := Int32.not_le.mpr q3
    refine C_r hE X M P (r := .int (-15)) (c := -5) (fun d Q => ?_) (fun h' N d Q => ?_)
    · simp +decide only [s93_0, s93_1_0, s93_1_1, s93_1_2, s93_28, s93_29, s93_32, s93_35, s93_36, s93_37, s93_40, s93_43, s93_44, s93_45, s93_48, s93_51, s93_52, s93_53, s93_55, s93_58, x0, t2, s93_1_d hd, X_refuseA x0 x32 no_5, ↓reduceIte, kl_i, kl_r, kl_n, kl_a, kl_l, up_s, up_up, is_0, is_s, gv_0, gv_s, pv_o, rc_o, okI_i, okI_x, okS_i, okB_x, gi_i, pi_i, okL_l, gl_l, pl_l, okA_2, okA_3, ga_a, arr_0, arr_1, arr_10, arr_11, len_a, sw_0, sw_i, sw_r, sw_l, fit_i, fit_z0, fit_z1, nz_0, nz_1, ni_K_s, ni_K_n, Nat.ble_eq, Nat.zero_le, Nat.zero_add, true_and, and_true, and_self, Bool.and_true, Bool.true_and, Bool.and_self, not_true_eq_false, not_false_eq_true, Int32.reduceLE, Int32.reduceLT, Int32.reduceAdd, Int32.reduceSub, Int32.reduceToNatClampNeg, Nat.reduceLeDiff, Nat.reduceAdd, Nat.reduceEqDiff, Nat.reduceSub, List.set_cons_zero, List.set_cons_succ, false_and, and_false]
    · obtain ⟨⟨k49, k51, k52, k53, k54, k55, k56, -, -, -, -⟩, k50, k57, k58, k59, k60, k61, k62, k63, k64, k65, k66, k67⟩ := N
      rw [r0] at k56
      simp +decide only [s179_0, s179_1, s179_4, s179_5, s179_6, s179_9, s179_10, s179_12, s179_15, s179_16, s179_17, s179_18, s179_19, s179_20, s179_21, s179_23, s179_24, s179_26, s179_27, s179_29, s179_31, s179_32, s179_35, s179_37, s179_39, s179_40, s179_42, s179_44, s179_45, s179_48, s179_50, s179_52, s179_55, s179_56, s179_59, s179_61, s179_62, s179_63, s179_66, s179_67, s179_70, s179_72, s179_73, s179_74, s179_77, s179_80, s179_81, s179_82, s179_85, s179_87, s179_88, s179_89, s179_92, s179_94, s179_95, s179_98, s179_100, s179_102, s179_103, s179_106, s179_108, s179_111, s179_112, s179_113, s179_115, s179_116, s179_119, s179_121, s179_123, s179_126, s179_129, s179_131, s179_133, s179_136, s179_138, s179_141, s179_143, s179_145, s179_148, s179_151, s179_153, s179_155, s179_158, s179_160, s179_162, s179_165, s179_168, s179_170, s179_172, s179_174, s179_176, s179_179, s179_182, s179_183, s179_186, s179_187, s179_190, s179_191, s179_192, s179_195, s179_196, s179_199, s179_201, k49, gn, fs_b, q1, q2, q3, q4, q5, M_noTen k49 k50 no_5, Bool.false_eq_true, mi_0, mg_0, mi_1, mg_1, mi_2, mg_2, mi_3, mg_3, mi_4, mg_4, mi_5, mg_5, mi_6, mg_6, mi_7, mg_7, mi_8, mg_8, mi_9, mg_9, mi_10, mg_10, mi_11, mg_11, mi_12, mg_12, mi_13, mg_13, mi_14, mg_14, mi_15, mg_15, mi_16, mg_16, mi_17, mg_17, mi_18, mg_18, mi_19, mg_19, mi_20, mg_20, mi_21, mg_21, mi_22, mg_22, mi_23, mg_23, mi_24, mg_24, mi_25, mg_25, mi_26, mg_26, mi_27, mg_27, mi_28, mg_28, mi_29, mg_29, mi_30, mg_30, mi_31, mg_31, mi_32, mg_32, mq_0, mq_1, mq_2, mq_3, mq_4, mq_20, mq_21, mq_22, mq_23, mq_24, mq_27, mq_28, mq_29, mq_31, mq_32, mrc, ud_s, ud_n, ud_u, up_n, ↓reduceIte, kl_i, kl_r, kl_n, kl_a, kl_l, up_s, up_up, is_0, is_s, gv_0, gv_s, pv_o, rc_o, okI_i, okI_x, okS_i, okB_x, gi_i, pi_i, okL_l, gl_l, pl_l, okA_2, okA_3, ga_a, arr_0, arr_1, arr_10, arr_11, len_a, sw_0, sw_i, sw_r, sw_l, fit_i, fit_z0, fit_z1, nz_0, nz_1, ni_K_s, ni_K_n, Nat.ble_eq, Nat.zero_le, Nat.zero_add, true_and, and_true, and_self, Bool.and_true, Bool.true_and, Bool.and_self, not_true_eq_false, not_false_eq_true, Int32.reduceLE, Int32.reduceLT, Int32.reduceAdd, Int32.reduceSub, Int32.reduceToNatClampNeg, Nat.reduceLeDiff, Nat.reduceAdd, Nat.reduceEqDiff, Nat.reduceSub, List.set_cons_zero, List.set_cons_succ, false_and, and_false]
  match j, hj with
  | 0, _ =>
    refine C_p hE X M P (r := .int (fs_sp (u 0) 5 0 0)) (fun d Q => ?_) (fun d Q => ?_)
    · simp +decide only [s93_0, s93_1_0, s93_1_1, s93_1_2, s93_28, s93_29, s93_32, s93_35, s93_36, s93_37, s93_40, s93_43, s93_44, s93_45, s93_48, s93_51, s93_52, s93_53, s93_55, s93_58, show nI 0 = 0 from rfl, x0, t2, xs, xp, xl, ↓reduceIte, kl_i, kl_r, kl_n, kl_a, kl_l, up_s, up_up, is_0, is_s, gv_0, gv_s, pv_o, rc_o, okI_i, okI_x, okS_i, okB_x, gi_i, pi_i, okL_l, gl_l, pl_l, okA_2, okA_3, ga_a, arr_0, arr_1, arr_10, arr_11, len_a, sw_0, sw_i, sw_r, sw_l, fit_i, fit_z0, fit_z1, nz_0, nz_1, ni_K_s, ni_K_n, Nat.ble_eq, Nat.zero_le, Nat.zero_add, true_and, and_true, and_self, Bool.and_true, Bool.true_and, Bool.and_self, not_true_eq_false, not_false_eq_true, Int32.reduceLE, Int32.reduceLT, Int32.reduceAdd, Int32.reduceSub, Int32.reduceToNatClampNeg, Nat.reduceLeDiff, Nat.reduceAdd, Nat.reduceEqDiff, Nat.reduceSub, List.set_cons_zero, List.set_cons_succ, false_and, and_false]
    · simp +decide only [s179_0, s179_1, s179_4, s179_5, s179_6, s179_9, s179_10, s179_12, s179_15, s179_16, s179_17, s179_18, s179_19, s179_20, s179_21, s179_23, s179_24, s179_26, s179_27, s179_31, s179_32, s179_35, s179_37, s179_39, s179_40, s179_44, s179_45, s179_48, s179_50, s179_52, s179_55, s179_56, s179_59, s179_61, s179_62, s179_63, s179_66, s179_67, s179_70, s179_72, s179_73, s179_74, s179_77, s179_80, s179_81, s179_82, s179_85, s179_87, s179_88, s179_89, s179_92, s179_94, s179_95, s179_98, s179_100, s179_102, s179_103, s179_106, s179_108, s179_111, s179_112, s179_113, s179_115, s179_116, s179_119, s179_121, s179_123, s179_126, s179_129, s179_131, s179_133, s179_136, s179_138, s179_141, s179_143, s179_145, s179_148, s179_151, s179_153, s179_155, s179_158, s179_160, s179_162, s179_165, s179_168, s179_170, s179_172, s179_174, s179_176, s179_179, s179_182, s179_183, s179_186, s179_187, s179_190, s179_191, s179_192, s179_195, s179_196, s179_199, s179_201, show nI 0 = 0 from rfl, m49, mo, mi_0, mg_0, mi_1, mg_1, mi_2, mg_2, mi_3, mg_3, mi_4, mg_4, mi_5, mg_5, mi_6, mg_6, mi_7, mg_7, mi_8, mg_8, mi_9, mg_9, mi_10, mg_10, mi_11, mg_11, mi_12, mg_12, mi_13, mg_13, mi_14, mg_14, mi_15, mg_15, mi_16, mg_16, mi_17, mg_17, mi_18, mg_18, mi_19, mg_19, mi_20, mg_20, mi_21, mg_21, mi_22, mg_22, mi_23, mg_23, mi_24, mg_24, mi_25, mg_25, mi_26, mg_26, mi_27, mg_27, mi_28, mg_28, mi_29, mg_29, mi_30, mg_30, mi_31, mg_31, mi_32, mg_32, mq_0, mq_1, mq_2, mq_3, mq_4, mq_20, mq_21, mq_22, mq_23, mq_24, mq_27, mq_28, mq_29, mq_31, mq_32, mrc, ud_s, ud_n, ud_u, up_n, ↓reduceIte, kl_i, kl_r, kl_n, kl_a, kl_l, up_s, up_up, is_0, is_s, gv_0, gv_s, pv_o, rc_o, okI_i, okI_x, okS_i, okB_x, gi_i, pi_i, okL_l, gl_l, pl_l, okA_2, okA_3, ga_a, arr_0, arr_1, arr_10, arr_11, len_a, sw_0, sw_i, sw_r, sw_l, fit_i, fit_z0, fit_z1, nz_0, nz_1, ni_K_s, ni_K_n, Nat.ble_eq, Nat.zero_le, Nat.zero_add, true_and, and_true, and_self, Bool.and_true, Bool.true_and, Bool.and_self, not_true_eq_false, not_false_eq_true, Int32.reduceLE, Int32.reduceLT, Int32.reduceAdd, Int32.reduceSub, Int32.reduceToNatClampNeg, Nat.reduceLeDiff, Nat.reduceAdd, Nat.reduceEqDiff, Nat.reduceSub, List.set_cons_zero, List.set_cons_succ, false_and, and_false]
  | 1, _ =>
    refine C_p hE X M P (r := .int (fs_np (u 0) 5 0 0)) (fun d Q => ?_) (fun d Q => ?_)
    · simp +decide only [s93_0, s93_1_0, s93_1_1, s93_1_2, s93_28, s93_29, s93_32, s93_35, s93_36, s93_37, s93_40, s93_43, s93_44, s93_45, s93_48, s93_51, s93_52, s93_53, s93_55, s93_58, show nI 1 = 1 from rfl, x0, t2, xs, xp, xl, ↓reduceIte, kl_i, kl_r, kl_n, kl_a, kl_l, up_s, up_up, is_0, is_s, gv_0, gv_s, pv_o, rc_o, okI_i, okI_x, okS_i, okB_x, gi_i, pi_i, okL_l, gl_l, pl_l, okA_2, okA_3, ga_a, arr_0, arr_1, arr_10, arr_11, len_a, sw_0, sw_i, sw_r, sw_l, fit_i, fit_z0, fit_z1, nz_0, nz_1, ni_K_s, ni_K_n, Nat.ble_eq, Nat.zero_le, Nat.zero_add, true_and, and_true, and_self, Bool.and_true, Bool.true_and, Bool.and_self, not_true_eq_false, not_false_eq_true, Int32.reduceLE, Int32.reduceLT, Int32.reduceAdd, Int32.reduceSub, Int32.reduceToNatClampNeg, Nat.reduceLeDiff, Nat.reduceAdd, Nat.reduceEqDiff, Nat.reduceSub, List.set_cons_zero, List.set_cons_succ, false_and, and_false]
    · simp +decide only [s179_0, s179_1, s179_4, s179_5, s179_6, s179_9, s179_10, s179_12, s179_15, s179_16, s179_17, s179_18, s179_19, s179_20, s179_21, s179_23, s179_24, s179_26, s179_27, s179_31, s179_32, s179_35, s179_37, s179_39, s179_40, s179_44, s179_45, s179_48, s179_50, s179_52, s179_55, s179_56, s179_59, s179_61, s179_62, s179_63, s179_66, s179_67, s179_70, s179_72, s179_73, s179_74, s179_77, s179_80, s179_81, s179_82, s179_85, s179_87, s179_88, s179_89, s179_92, s179_94, s179_95, s179_98, s179_100, s179_102, s179_103, s179_106, s179_108, s179_111, s179_112, s179_113, s179_115, s179_116, s179_119, s179_121, s179_123, s179_126, s179_129, s179_131, s179_133, s179_136, s179_138, s179_141, s179_143, s179_145, s179_148, s179_151, s179_153, s179_155, s179_158, s179_160, s179_162, s179_165, s179_168, s179_170, s179_172, s179_174, s179_176, s179_179, s179_182, s179_183, s179_186, s179_187, s179_190, s179_191, s179_192, s179_195, s179_196, s179_199, s179_201, show nI 1 = 1 from rfl, m49, mo, mi_0, mg_0, mi_1, mg_1, mi_2, mg_2, mi_3, mg_3, mi_4, mg_4, mi_5, mg_5, mi_6, mg_6, mi_7, mg_7, mi_8, mg_8, mi_9, mg_9, mi_10, mg_10, mi_11, mg_11, mi_12, mg_12, mi_13, mg_13, mi_14, mg_14, mi_15, mg_15, mi_16, mg_16, mi_17, mg_17, mi_18, mg_18, mi_19, mg_19, mi_20, mg_20, mi_21, mg_21, mi_22, mg_22, mi_23, mg_23, mi_24, mg_24, mi_25, mg_25, mi_26, mg_26, mi_27, mg_27, mi_28, mg_28, mi_29, mg_29, mi_30, mg_30, mi_31, mg_31, mi_32, mg_32, mq_0, mq_1, mq_2, mq_3, mq_4, mq_20, mq_21, mq_22, mq_23, mq_24, mq_27, mq_28, mq_29, mq_31, mq_32, mrc, ud_s, ud_n, ud_u, up_n, ↓reduceIte, kl_i, kl_r, kl_n, kl_a, kl_l, up_s, up_up, is_0, is_s, gv_0, gv_s, pv_o, rc_o, okI_i, okI_x, okS_i, okB_x, gi_i, pi_i, okL_l, gl_l, pl_l, okA_2, okA_3, ga_a, arr_0, arr_1, arr_10, arr_11, len_a, sw_0, sw_i, sw_r, sw_l, fit_i, fit_z0, fit_z1, nz_0, nz_1, ni_K_s, ni_K_n, Nat.ble_eq, Nat.zero_le, Nat.zero_add, true_and, and_true, and_self, Bool.and_true, Bool.true_and, Bool.and_self, not_true_eq_false, not_false_eq_true, Int32.reduceLE, Int32.reduceLT, Int32.reduceAdd, Int32.reduceSub, Int32.reduceToNatClampNeg, Nat.reduceLeDiff, Nat.reduceAdd, Nat.reduceEqDiff, Nat.reduceSub, List.set_cons_zero, List.set_cons_succ, false_and, and_false]
  | 2, _ =>
    refine C_p hE X M P (r := .int (fs_lone (u 0) 5 0 (-1) 0)) (fun d Q => ?_) (fun d Q => ?_)
    · simp +decide only [s93_0, s93_1_0, s93_1_1, s93_1_2, s93_28, s93_29, s93_32, s93_35, s93_36, s93_37, s93_40, s93_43, s93_44, s93_45, s93_48, s93_51, s93_52, s93_53, s93_55, s93_58, show nI 2 = 2 from rfl, x0, t2, xs, xp, xl, ↓reduceIte, kl_i, kl_r, kl_n, kl_a, kl_l, up_s, up_up, is_0, is_s, gv_0, gv_s, pv_o, rc_o, okI_i, okI_x, okS_i, okB_x, gi_i, pi_i, okL_l, gl_l, pl_l, okA_2, okA_3, ga_a, arr_0, arr_1, arr_10, arr_11, len_a, sw_0, sw_i, sw_r, sw_l, fit_i, fit_z0, fit_z1, nz_0, nz_1, ni_K_s, ni_K_n, Nat.ble_eq, Nat.zero_le, Nat.zero_add, true_and, and_true, and_self, Bool.and_true, Bool.true_and, Bool.and_self, not_true_eq_false, not_false_eq_true, Int32.reduceLE, Int32.reduceLT, Int32.reduceAdd, Int32.reduceSub, Int32.reduceToNatClampNeg, Nat.reduceLeDiff, Nat.reduceAdd, Nat.reduceEqDiff, Nat.reduceSub, List.set_cons_zero, List.set_cons_succ, false_and, and_false]
    · simp +decide only [s179_0, s179_1, s179_4, s179_5, s179_6, s179_9, s179_10, s179_12, s179_15, s179_16, s179_17, s179_18, s179_19, s179_20, s179_21, s179_23, s179_24, s179_26, s179_27, s179_31, s179_32, s179_35, s179_37, s179_39, s179_40, s179_44, s179_45, s179_48, s179_50, s179_52, s179_55, s179_56, s179_59, s179_61, s179_62, s179_63, s179_66, s179_67, s179_70, s179_72, s179_73, s179_74, s179_77, s179_80, s179_81, s179_82, s179_85, s179_87, s179_88, s179_89, s179_92, s179_94, s179_95, s179_98, s179_100, s179_102, s179_103, s179_106, s179_108, s179_111, s179_112, s179_113, s179_115, s179_116, s179_119, s179_121, s179_123, s179_126, s179_129, s179_131, s179_133, s179_136, s179_138, s179_141, s179_143, s179_145, s179_148, s179_151, s179_153, s179_155, s179_158, s179_160, s179_162, s179_165, s179_168, s179_170, s179_172, s179_174, s179_176, s179_179, s179_182, s179_183, s179_186, s179_187, s179_190, s179_191, s179_192, s179_195, s179_196, s179_199, s179_201, show nI 2 = 2 from rfl, m49, mo, mi_0, mg_0, mi_1, mg_1, mi_2, mg_2, mi_3, mg_3, mi_4, mg_4, mi_5, mg_5, mi_6, mg_6, mi_7, mg_7, mi_8, mg_8, mi_9, mg_9, mi_10, mg_10, mi_11, mg_11, mi_12, mg_12, mi_13, mg_13, mi_14, mg_14, mi_15, mg_15, mi_16, mg_16, mi_17, mg_17, mi_18, mg_18, mi_19, mg_19, mi_20, mg_20, mi_21, mg_21, mi_22, mg_22, mi_23, mg_23, mi_24, mg_24, mi_25, mg_25, mi_26, mg_26, mi_27, mg_27, mi_28, mg_28, mi_29, mg_29, mi_30, mg_30, mi_31, mg_31, mi_32, mg_32, mq_0, mq_1, mq_2, mq_3, mq_4, mq_20, mq_21, mq_22, mq_23, mq_24, mq_27, mq_28, mq_29, mq_31, mq_32, mrc, ud_s, ud_n, ud_u, up_n, ↓reduceIte, kl_i, kl_r, kl_n, kl_a, kl_l, up_s, up_up, is_0, is_s, gv_0, gv_s, pv_o, rc_o, okI_i, okI_x, okS_i, okB_x, gi_i, pi_i, okL_l, gl_l, pl_l, okA_2, okA_3, ga_a, arr_0, arr_1, arr_10, arr_11, len_a, sw_0, sw_i, sw_r, sw_l, fit_i, fit_z0, fit_z1, nz_0, nz_1, ni_K_s, ni_K_n, Nat.ble_eq, Nat.zero_le, Nat.zero_add, true_and, and_true, and_self, Bool.and_true, Bool.true_and, Bool.and_self, not_true_eq_false, not_false_eq_true, Int32.reduceLE, Int32.reduceLT, Int32.reduceAdd, Int32.reduceSub, Int32.reduceToNatClampNeg, Nat.reduceLeDiff, Nat.reduceAdd, Nat.reduceEqDiff, Nat.reduceSub, List.set_cons_zero, List.set_cons_succ, false_and, and_false]
  | j + 3, h => omega
end
