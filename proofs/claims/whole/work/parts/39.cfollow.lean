set_option maxRecDepth 100000
set_option maxHeartbeats 4000000
section
variable {d o s n : Nat} {z : ni_Z} {Q : ni_Q} {nu kd a lv ro ts wh hd so le : Int32} {wy ne : Nat → Int32} {f : Nat → Int64}
theorem fs_sub_nI {x : Int32} {L : Nat} (hL : L < 32) (q : fs_sub x (nI L) = true) : x = nI x.toNatClampNeg ∧ x.toNatClampNeg < 32 := by
  have q1 : x &&& (nI L ^^^ (-1)) = 0 := of_decide_eq_true q
  have q2 : x = x &&& nI L := by
    apply Int32.toBitVec_inj.mp
    have q3 := congrArg Int32.toBitVec q1
    rw [Int32.toBitVec_and, Int32.toBitVec_xor] at q3
    rw [Int32.toBitVec_and]
    apply BitVec.eq_of_getLsbD_eq
    intro i hi
    have q4 := congrArg (fun b => BitVec.getLsbD b i) q3
    have q5 : (Int32.toBitVec (-1)).getLsbD i = true := by
      rw [show Int32.toBitVec (-1) = BitVec.allOnes 32 from rfl, BitVec.getLsbD_allOnes]; exact decide_eq_true hi
    simp only [BitVec.getLsbD_and, BitVec.getLsbD_xor, q5] at q4
    rw [BitVec.getLsbD_and]
    have q6 : (Int32.toBitVec 0).getLsbD i = false := by rw [show Int32.toBitVec 0 = 0#32 from rfl, BitVec.getLsbD_zero]
    rw [q6] at q4
    revert q4
    cases x.toBitVec.getLsbD i <;> cases (nI L).toBitVec.getLsbD i <;> simp
  have q7 : x.toBitVec.toNat ≤ L := by
    rw [q2, Int32.toBitVec_and, BitVec.toNat_and]
    refine Nat.le_trans Nat.and_le_right ?_
    have : ∀ l, l < 32 → (nI l).toBitVec.toNat ≤ l := by decide +kernel
    exact this L hL
  have q8 : x = nI x.toBitVec.toNat := by
    apply Int32.toBitVec_inj.mp
    have : ∀ l, l < 32 → (nI l).toBitVec = BitVec.ofNat 32 l := by decide +kernel
    rw [this _ (by omega), BitVec.ofNat_toNat, BitVec.setWidth_eq]
  have q9 : ∀ l, l < 32 → (nI l).toNatClampNeg = l := by decide +kernel
  have q10 : x.toNatClampNeg = x.toBitVec.toNat := by
    conv => lhs; rw [q8]
    exact q9 _ (by omega)
  rw [q10]
  exact ⟨q8, by omega⟩
/-- the group and the height that a number names -/
def fs_fg (x : Int32) : Int32 := x / 10
def fs_fh (x : Int32) : Int32 := x - x / 10 * 10
def fs_fw (od : Nat → Nat → Int32 → Int32) (xs : Nat → Int32) : Nat → Nat → Nat → Int32 → Int32 × Int32
  | 0, _, _, fo => (-1, fo)
  | m + 1, j, L, fo => if fs_isHt (fs_fh (xs j)) = true then (if fs_sub (fs_fg (xs j)) (nI L) = true then (if od L (fs_fg (xs j)).toNatClampNeg (fs_fh (xs j)) = 0 then (nI j, fo) else fs_fw od xs m (j + 1) (L &&& (31 - (fs_fg (xs j)).toNatClampNeg)) (fo * od L (fs_fg (xs j)).toNatClampNeg (fs_fh (xs j)) / 100)) else (nI j, fo)) else (nI j, fo)
theorem L_fw {li : Int32} {le N : Nat} (hle : le ≤ 160) (hN1 : N ≤ 160) (hk : fs_kd kd) (o3 : o ≠ 23) (s3 : s ≠ 23) (s4 : s + 1 ≠ 23) : ∀ (m j L : Nat) (fo : Int32) (a6 a7 a8 : Value) (h : ni_H), j + m = N → L < 32 → h o = ni_O 1 [.int nu, .int kd, .int a, .int lv, .int ro, .int ts] → h 23 = ni_O 2 [.ref 24, .ref 25, .ref 26, .ref 27, .ref 28, .int li, .int fo] → h 24 = ni_I 32 wy → h 27 = ni_I 5 ne → h s = ni_O 4 [.ref (s + 1), .int wh, .int hd, .int so, .int (nI le)] → h (s + 1) = ni_L 160 f → ni_T (d + 2) 26 15 [.ref 23, .ref o, .ref s, .int (nI N), .int (nI L), .int (nI j), a6, a7, a8] [] z h Q = Q (some (.int (fs_fw (fun L G t => fs_oc wy ne kd a ts G (nI L) t) (fun j => fs_int f (nI le) (nI j)) m j L fo).1)) z (ni_up h 23 (ni_O 2 [.ref 24, .ref 25, .ref 26, .ref 27, .ref 28, .int li, .int (fs_fw (fun L G t => fs_oc wy ne kd a ts G (nI L) t) (fun j => fs_int f (nI le) (nI j)) m j L fo).2])) := by
  intro m
  induction m with
  | zero =>
    intro j L fo a6 a7 a8 h e hL hO hI hW hN hs he
    obtain rfl : j = N := by omega
    have h1 : nI j ≤ nI j := Int32.le_refl _
    rw [s26_15]
    simp +decide only [s26_0, s26_1, s26_4, s26_6, s26_7, s26_9, s26_12, s26_13, s26_17, s26_18, s26_21, s26_21N, s26_22, s26_24, s26_27, s26_29, s26_30, s26_32, s26_32N, s26_33, s26_35, s26_38, s26_40, s26_41, s26_43, s26_45, s26_48, s26_51, s26_53, s26_55, s26_58, s26_61, s26_63, s26_64, s26_65, s26_65N, s26_66, s26_68, s26_70, s26_72, s26_72N0, s26_75, s26_77, s26_79, s26_82, s26_84, s26_85, s26_86, s26_87, s26_90, s26_92, s26_93, s26_95, s26_96, s26_99, s26_101, s26_103, s26_104, s26_105, s26_106, s26_108, s26_111, s26_114, s26_115, h1, ↓reduceIte, kl_i, kl_r, kl_n, kl_a, kl_l, up_s, up_up, is_0, is_s, gv_0, gv_s, pv_o, rc_o, okI_i, okI_x, okS_i, okB_x, gi_i, pi_i, okL_l, gl_l, pl_l, okA_2, okA_3, ga_a, arr_0, arr_1, arr_10, arr_11, len_a, sw_0, sw_i, sw_r, sw_l, fit_i, fit_z0, fit_z1, nz_0, nz_1, ni_K_s, ni_K_n, Nat.ble_eq, Nat.zero_le, Nat.zero_add, true_and, and_true, and_self, Bool.and_true, Bool.true_and, Bool.and_self, not_true_eq_false, not_false_eq_true, Int32.reduceLE, Int32.reduceLT, Int32.reduceAdd, Int32.reduceSub, Int32.reduceToNatClampNeg, Nat.reduceLeDiff, Nat.reduceAdd, Nat.reduceEqDiff, Nat.reduceSub, List.set_cons_zero, List.set_cons_succ, false_and, and_false, fs_fw]
    rw [up_id hI]
  | succ m ih =>
    intro j L fo a6 a7 a8 h e hL hO hI hW hN hs he
    have h1 : ¬ nI N ≤ nI j := nI_ge (a := j) (b := N) (by omega) (by omega)
    have hi := fun (d : Nat) (Q : ni_Q) => X_intAt (d := d) (z := z) (Q := Q) (i := nI j) hs he hle
    rw [s26_15]
    cases q1 : fs_isHt (fs_fh (fs_int f (nI le) (nI j)))
    · have q1' := q1
      rw [fs_fh] at q1'
      simp +decide only [s26_0, s26_1, s26_4, s26_6, s26_7, s26_9, s26_12, s26_13, s26_17, s26_18, s26_21, s26_21N, s26_22, s26_24, s26_27, s26_29, s26_30, s26_32, s26_32N, s26_33, s26_35, s26_38, s26_40, s26_41, s26_43, s26_45, s26_48, s26_51, s26_53, s26_55, s26_58, s26_61, s26_63, s26_64, s26_65, s26_65N, s26_66, s26_68, s26_70, s26_72, s26_72N0, s26_75, s26_77, s26_79, s26_82, s26_84, s26_85, s26_86, s26_87, s26_90, s26_92, s26_93, s26_95, s26_96, s26_99, s26_101, s26_103, s26_104, s26_105, s26_106, s26_108, s26_111, s26_114, s26_115, h1, hi, hs, q1, q1', X_isHeight, fs_b, ↓reduceIte, kl_i, kl_r, kl_n, kl_a, kl_l, up_s, up_up, is_0, is_s, gv_0, gv_s, pv_o, rc_o, okI_i, okI_x, okS_i, okB_x, gi_i, pi_i, okL_l, gl_l, pl_l, okA_2, okA_3, ga_a, arr_0, arr_1, arr_10, arr_11, len_a, sw_0, sw_i, sw_r, sw_l, fit_i, fit_z0, fit_z1, nz_0, nz_1, ni_K_s, ni_K_n, Nat.ble_eq, Nat.zero_le, Nat.zero_add, true_and, and_true, and_self, Bool.and_true, Bool.true_and, Bool.and_self, not_true_eq_false, not_false_eq_true, Int32.reduceLE, Int32.reduceLT, Int32.reduceAdd, Int32.reduceSub, Int32.reduceToNatClampNeg, Nat.reduceLeDiff, Nat.reduceAdd, Nat.reduceEqDiff, Nat.reduceSub, List.set_cons_zero, List.set_cons_succ, false_and, and_false, fs_fw, Bool.false_eq_true]
      rw [up_id hI]
    · have q1' := q1
      rw [fs_fh] at q1'
      cases q2 : fs_sub (fs_fg (fs_int f (nI le) (nI j))) (nI L)
      · have q2' := q2
        rw [fs_fg] at q2'
        simp +decide only [s26_0, s26_1, s26_4, s26_6, s26_7, s26_9, s26_12, s26_13, s26_17, s26_18, s26_21, s26_21N, s26_22, s26_24, s26_27, s26_29, s26_30, s26_32, s26_32N, s26_33, s26_35, s26_38, s26_40, s26_41, s26_43, s26_45, s26_48, s26_51, s26_53, s26_55, s26_58, s26_61, s26_63, s26_64, s26_65, s26_65N, s26_66, s26_68, s26_70, s26_72, s26_72N0, s26_75, s26_77, s26_79, s26_82, s26_84, s26_85, s26_86, s26_87, s26_90, s26_92, s26_93, s26_95, s26_96, s26_99, s26_101, s26_103, s26_104, s26_105, s26_106, s26_108, s26_111, s26_114, s26_115, h1, hi, hs, q1, q1', q2, q2', X_isHeight, X_within, fs_b, ↓reduceIte, kl_i, kl_r, kl_n, kl_a, kl_l, up_s, up_up, is_0, is_s, gv_0, gv_s, pv_o, rc_o, okI_i, okI_x, okS_i, okB_x, gi_i, pi_i, okL_l, gl_l, pl_l, okA_2, okA_3, ga_a, arr_0, arr_1, arr_10, arr_11, len_a, sw_0, sw_i, sw_r, sw_l, fit_i, fit_z0, fit_z1, nz_0, nz_1, ni_K_s, ni_K_n, Nat.ble_eq, Nat.zero_le, Nat.zero_add, true_and, and_true, and_self, Bool.and_true, Bool.true_and, Bool.and_self, not_true_eq_false, not_false_eq_true, Int32.reduceLE, Int32.reduceLT, Int32.reduceAdd, Int32.reduceSub, Int32.reduceToNatClampNeg, Nat.reduceLeDiff, Nat.reduceAdd, Nat.reduceEqDiff, Nat.reduceSub, List.set_cons_zero, List.set_cons_succ, false_and, and_false, fs_fw, Bool.false_eq_true]
        rw [up_id hI]
      · have q2' := q2
        rw [fs_fg] at q2'
        obtain ⟨g1, g2⟩ := fs_sub_nI hL q2
        have g1' : fs_int f (nI le) (nI j) / 10 = nI (fs_fg (fs_int f (nI le) (nI j))).toNatClampNeg := g1
        generalize hG : (fs_fg (fs_int f (nI le) (nI j))).toNatClampNeg = G at g1 g1' g2
        have ho := fun (d : Nat) (Q : ni_Q) (t : Int32) => X_odds (d := d) (z := z) (Q := Q) (S := G) (ly := nI L) (ht := t) hO hk hI hW hN g2
        have hr : fs_int f (nI le) (nI j) - nI G * 10 = fs_fh (fs_int f (nI le) (nI j)) := by rw [← g1']; rfl
        have q2g : fs_sub (nI G) (nI L) = true := by rw [← g1]; exact q2
        have e3 := bt_3 L hL G g2
        have l3 := bt_8 L hL G g2
        by_cases q3 : fs_oc wy ne kd a ts G (nI L) (fs_fh (fs_int f (nI le) (nI j))) = 0
        · simp +decide only [s26_0, s26_1, s26_4, s26_6, s26_7, s26_9, s26_12, s26_13, s26_17, s26_18, s26_21, s26_21N, s26_22, s26_24, s26_27, s26_29, s26_30, s26_32, s26_32N, s26_33, s26_35, s26_38, s26_40, s26_41, s26_43, s26_45, s26_48, s26_51, s26_53, s26_55, s26_58, s26_61, s26_63, s26_64, s26_65, s26_65N, s26_66, s26_68, s26_70, s26_72, s26_72N0, s26_75, s26_77, s26_79, s26_82, s26_84, s26_85, s26_86, s26_87, s26_90, s26_92, s26_93, s26_95, s26_96, s26_99, s26_101, s26_103, s26_104, s26_105, s26_106, s26_108, s26_111, s26_114, s26_115, h1, hi, hs, hI, hO, ho, q1, g1', hr, q2, q2g, hG, q3, X_isHeight, X_within, fs_b, ↓reduceIte, kl_i, kl_r, kl_n, kl_a, kl_l, up_s, up_up, is_0, is_s, gv_0, gv_s, pv_o, rc_o, okI_i, okI_x, okS_i, okB_x, gi_i, pi_i, okL_l, gl_l, pl_l, okA_2, okA_3, ga_a, arr_0, arr_1, arr_10, arr_11, len_a, sw_0, sw_i, sw_r, sw_l, fit_i, fit_z0, fit_z1, nz_0, nz_1, ni_K_s, ni_K_n, Nat.ble_eq, Nat.zero_le, Nat.zero_add, true_and, and_true, and_self, Bool.and_true, Bool.true_and, Bool.and_self, not_true_eq_false, not_false_eq_true, Int32.reduceLE, Int32.reduceLT, Int32.reduceAdd, Int32.reduceSub, Int32.reduceToNatClampNeg, Nat.reduceLeDiff, Nat.reduceAdd, Nat.reduceEqDiff, Nat.reduceSub, List.set_cons_zero, List.set_cons_succ, false_and, and_false, fs_fw]
          rw [up_id hI]
        · simp +decide only [s26_0, s26_1, s26_4, s26_6, s26_7, s26_9, s26_12, s26_13, s26_17, s26_18, s26_21, s26_21N, s26_22, s26_24, s26_27, s26_29, s26_30, s26_32, s26_32N, s26_33, s26_35, s26_38, s26_40, s26_41, s26_43, s26_45, s26_48, s26_51, s26_53, s26_55, s26_58, s26_61, s26_63, s26_64, s26_65, s26_65N, s26_66, s26_68, s26_70, s26_72, s26_72N0, s26_75, s26_77, s26_79, s26_82, s26_84, s26_85, s26_86, s26_87, s26_90, s26_92, s26_93, s26_95, s26_96, s26_99, s26_101, s26_103, s26_104, s26_105, s26_106, s26_108, s26_111, s26_114, s26_115, h1, hi, hs, hI, hO, ho, q1, g1', hr, q2, q2g, hG, q3, e3, nI_1, X_isHeight, X_within, fs_b, ↓reduceIte, kl_i, kl_r, kl_n, kl_a, kl_l, up_s, up_up, is_0, is_s, gv_0, gv_s, pv_o, rc_o, okI_i, okI_x, okS_i, okB_x, gi_i, pi_i, okL_l, gl_l, pl_l, okA_2, okA_3, ga_a, arr_0, arr_1, arr_10, arr_11, len_a, sw_0, sw_i, sw_r, sw_l, fit_i, fit_z0, fit_z1, nz_0, nz_1, ni_K_s, ni_K_n, Nat.ble_eq, Nat.zero_le, Nat.zero_add, true_and, and_true, and_self, Bool.and_true, Bool.true_and, Bool.and_self, not_true_eq_false, not_false_eq_true, Int32.reduceLE, Int32.reduceLT, Int32.reduceAdd, Int32.reduceSub, Int32.reduceToNatClampNeg, Nat.reduceLeDiff, Nat.reduceAdd, Nat.reduceEqDiff, Nat.reduceSub, List.set_cons_zero, List.set_cons_succ, false_and, and_false, fs_fw]
          rw [ih (j + 1) (L &&& (31 - G)) _ _ _ _ _ (by omega) l3 (by rw [up_n o3]; exact hO) up_s (by rw [up_n (by decide)]; exact hW) (by rw [up_n (by decide)]; exact hN) (by rw [up_n s3]; exact hs) (by rw [up_n s4]; exact he), up_up]
theorem X_fw {L le N : Nat} {fo : Int32} {h : ni_H} (hle : le ≤ 160) (hN1 : N ≤ 160) (hk : fs_kd kd) (o3 : o ≠ 23) (s3 : s ≠ 23) (s4 : s + 1 ≠ 23) (hL : L < 32) (hO : h o = ni_O 1 [.int nu, .int kd, .int a, .int lv, .int ro, .int ts]) (hI : h 23 = ni_O 2 [.ref 24, .ref 25, .ref 26, .ref 27, .ref 28, .int (nI L), .int fo]) (hW : h 24 = ni_I 32 wy) (hN : h 27 = ni_I 5 ne) (hs : h s = ni_O 4 [.ref (s + 1), .int wh, .int hd, .int so, .int (nI le)]) (he : h (s + 1) = ni_L 160 f) : ni_T (d + 2) 26 0 [.ref 23, .ref o, .ref s, .int (nI N), .retAddr 0, .retAddr 0, .retAddr 0, .retAddr 0, .retAddr 0] [] z h Q = Q (some (.int (fs_fw (fun L G t => fs_oc wy ne kd a ts G (nI L) t) (fun j => fs_int f (nI le) (nI j)) N 0 L 1000000).1)) z (ni_up h 23 (ni_O 2 [.ref 24, .ref 25, .ref 26, .ref 27, .ref 28, .int (nI L), .int (fs_fw (fun L G t => fs_oc wy ne kd a ts G (nI L) t) (fun j => fs_int f (nI le) (nI j)) N 0 L 1000000).2])) := by
  have e := L_fw (d := d) (z := z) (Q := Q) (li := nI L) (wy := wy) (ne := ne) (f := f) hle hN1 hk o3 s3 s4 N 0 L 1000000 (.retAddr 0) (.retAddr 0) (.retAddr 0) (ni_up h 23 (ni_O 2 [.ref 24, .ref 25, .ref 26, .ref 27, .ref 28, .int (nI L), .int 1000000])) (by omega) hL (by rw [up_n o3]; exact hO) up_s (by rw [up_n (by decide)]; exact hW) (by rw [up_n (by decide)]; exact hN) (by rw [up_n s3]; exact hs) (by rw [up_n s4]; exact he)
  rw [nI_0] at e
  simp +decide only [s26_0, s26_1, s26_4, s26_6, s26_7, s26_9, s26_12, s26_13, s26_17, s26_18, s26_21, s26_21N, s26_22, s26_24, s26_27, s26_29, s26_30, s26_32, s26_32N, s26_33, s26_35, s26_38, s26_40, s26_41, s26_43, s26_45, s26_48, s26_51, s26_53, s26_55, s26_58, s26_61, s26_63, s26_64, s26_65, s26_65N, s26_66, s26_68, s26_70, s26_72, s26_72N0, s26_75, s26_77, s26_79, s26_82, s26_84, s26_85, s26_86, s26_87, s26_90, s26_92, s26_93, s26_95, s26_96, s26_99, s26_101, s26_103, s26_104, s26_105, s26_106, s26_108, s26_111, s26_114, s26_115, hI, ↓reduceIte, kl_i, kl_r, kl_n, kl_a, kl_l, up_s, up_up, is_0, is_s, gv_0, gv_s, pv_o, rc_o, okI_i, okI_x, okS_i, okB_x, gi_i, pi_i, okL_l, gl_l, pl_l, okA_2, okA_3, ga_a, arr_0, arr_1, arr_10, arr_11, len_a, sw_0, sw_i, sw_r, sw_l, fit_i, fit_z0, fit_z1, nz_0, nz_1, ni_K_s, ni_K_n, Nat.ble_eq, Nat.zero_le, Nat.zero_add, true_and, and_true, and_self, Bool.and_true, Bool.true_and, Bool.and_self, not_true_eq_false, not_false_eq_true, Int32.reduceLE, Int32.reduceLT, Int32.reduceAdd, Int32.reduceSub, Int32.reduceToNatClampNeg, Nat.reduceLeDiff, Nat.reduceAdd, Nat.reduceEqDiff, Nat.reduceSub, List.set_cons_zero, List.set_cons_succ, false_and, and_false]
  rw [e, up_up]
end
