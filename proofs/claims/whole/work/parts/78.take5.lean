/-! takeDown -/
section TK
variable {Lh m : Nat} {I : zx_MI} {J : zx_MJ}
def zf_ans (b : Option Nat) (z : Nat) : Int32 := match b with
  | none => -1
  | some c => if z = 0 then nI (zf_pop c) else nI c
theorem q_takeDown (v : zInv I J m) (hm : m < 2 ^ 29) (x y : Int32) : zQ Lh 132 253 [.int x, .int y] I J := by
  obtain ⟨⟨hw, hh, hN⟩, gr, g, ex, ok, N8, wh⟩ := zInv_k v
  have h1 := fun d P => sc_hasStone (d := d) (Lh := Lh) (I := I) (J := J) (P := P) zx_sq1 x hw hh wh
  have ok2 : zM_ok (zx_u I 138 0 (nI 0) 139) (zw (I 139)) (zh (I 139)) (zn (I 139)) := by rw [zu_139]; exact ok
  have h2 := fun d P => sp_isStone (d := d) (Lh := Lh) (J := J) (P := P) x.toInt64 ok2.1.1 ok2.1.2.1 (by omega)
  rw [Int32.toInt_toInt64] at h2
  have hbt := fun d L I J P => sp_bt (d := d) (L := L) (I := I) (J := J) (P := P) y (a := 0) (b := 1) (by omega) (by omega)
  have yl := zq_lt0 y
  have yg := zq_gt y (n := 1) (by omega)
  cases c : zf_in x.toInt (zw (I 139) * zh (I 139)) with
  | false =>
    refine ⟨.int (-2), I, J, zx_u I 138 0 (nI 0), J, fun d P => ?_, fun d P => ?_, zScr_s (zFs_0 _ _)⟩
    · rw [ze_132]
      simp (disch := omega) only [↓zs_132_0, ↓zs_132_1, ↓zs_132_4, ↓zs_132_5, ↓zs_132_8, ↓zs_132_11, ↓zs_132_12, ↓zs_132_15, ↓zs_132_16, ↓zs_132_17, ↓zs_132_20, ↓zs_132_22, ↓zs_132_23, ↓zs_132_24, ↓zs_132_25, ↓zs_132_28, ↓zs_132_29, ↓zs_132_30, ↓zs_132_31, ↓zs_132_34, ↓zs_132_35, ↓zs_132_36, ↓zs_132_37, ↓zs_132_40, ↓zs_132_41, ↓zs_132_44, ↓zs_132_47, ↓zs_132_48, zx_pu_s, zx_pu_n, zx_rv_s, zx_rv_n, true_and, and_true, true_or, or_true, zb_0, zb_1, zq_lcl, zq_lcg, zq_lce, eq_self, ite_true, ite_false, zk_0, zw_0, zk_1, zw_1, zq_0_0, zq_0_1, zq_0_2, zq_0_3, zq_0_4, zq_0_5, zq_0_6, zq_0_7, zq_0_8, zq_0_9, zq_0_10, zq_0_11, zq_1_0, zq_1_1, zq_1_2, zq_1_3, zq_1_4, zq_1_5, h1, c, zB_0, reduceCtorEq]
    · rw [ze_253]
      simp (disch := omega) only [↓zs_253_0, ↓zs_253_1, ↓zs_253_2, ↓zs_253_5, ↓zs_253_6, ↓zs_253_7, ↓zs_253_8, ↓zs_253_11, ↓zs_253_14, ↓zs_253_15, ↓zs_253_16, ↓zs_253_17, ↓zs_253_18, ↓zs_253_21, ↓zs_253_24, ↓zs_253_26, ↓zs_253_27, ↓zs_253_28, ↓zs_253_29, ↓zs_253_30, ↓zs_253_33, ↓zs_253_34, ↓zs_253_35, ↓zs_253_36, ↓zs_253_39, ↓zs_253_40, ↓zs_253_41, ↓zs_253_44, ↓zs_253_45, ↓zs_253_48, ↓zs_253_49, ↓zs_253_50, ↓zs_253_53, zx_pu_s, zx_pu_n, zx_rv_s, zx_rv_n, true_and, and_true, true_or, or_true, zb_0, zb_1, zq_lcl, zq_lcg, zq_lce, eq_self, ite_true, ite_false, zk_138, zw_138, zk_139, zw_139, zk_140, zw_140, zk_141, zw_141, zk_142, zw_142, zk_143, zw_143, zk_144, zw_144, zk_145, zw_145, zk_146, zw_146, zk_147, zw_147, zk_148, zw_148, zk_149, zw_149, zk_150, zw_150, zk_151, zw_151, zk_152, zw_152, zq_138_1, zq_138_2, zq_138_3, zq_138_4, zq_138_16, zq_138_19, zq_138_20, zq_138_24, zq_138_25, zq_138_26, zq_138_27, zq_138_31, zq_138_32, zq_138_33, h2, c, zB_0, reduceCtorEq]
  | true =>
    rw [c] at h1 h2
    cases cy : zf_bt 0 1 y.toInt with
    | false =>
      rw [cy] at hbt
      refine ⟨.int (-2), I, J, zx_u I 138 0 (nI 0), J, fun d P => ?_, fun d P => ?_, zScr_s (zFs_0 _ _)⟩
      · rw [ze_132]
        rcases zf_bt_no cy with q | ⟨q1, q2⟩
        · simp (disch := omega) only [↓zs_132_0, ↓zs_132_1, ↓zs_132_4, ↓zs_132_5, ↓zs_132_8, ↓zs_132_11, ↓zs_132_12, ↓zs_132_15, ↓zs_132_16, ↓zs_132_17, ↓zs_132_20, ↓zs_132_22, ↓zs_132_23, ↓zs_132_24, ↓zs_132_25, ↓zs_132_28, ↓zs_132_29, ↓zs_132_30, ↓zs_132_31, ↓zs_132_34, ↓zs_132_35, ↓zs_132_36, ↓zs_132_37, ↓zs_132_40, ↓zs_132_41, ↓zs_132_44, ↓zs_132_47, ↓zs_132_48, zx_pu_s, zx_pu_n, zx_rv_s, zx_rv_n, true_and, and_true, true_or, or_true, zb_0, zb_1, zq_lcl, zq_lcg, zq_lce, eq_self, ite_true, ite_false, zk_0, zw_0, zk_1, zw_1, zq_0_0, zq_0_1, zq_0_2, zq_0_3, zq_0_4, zq_0_5, zq_0_6, zq_0_7, zq_0_8, zq_0_9, zq_0_10, zq_0_11, zq_1_0, zq_1_1, zq_1_2, zq_1_3, zq_1_4, zq_1_5, h1, zB_0, reduceCtorEq, yl, q]
        · have q3 : ((1 : Nat) : Int) < y.toInt := q2
          simp (disch := omega) only [↓zs_132_0, ↓zs_132_1, ↓zs_132_4, ↓zs_132_5, ↓zs_132_8, ↓zs_132_11, ↓zs_132_12, ↓zs_132_15, ↓zs_132_16, ↓zs_132_17, ↓zs_132_20, ↓zs_132_22, ↓zs_132_23, ↓zs_132_24, ↓zs_132_25, ↓zs_132_28, ↓zs_132_29, ↓zs_132_30, ↓zs_132_31, ↓zs_132_34, ↓zs_132_35, ↓zs_132_36, ↓zs_132_37, ↓zs_132_40, ↓zs_132_41, ↓zs_132_44, ↓zs_132_47, ↓zs_132_48, zx_pu_s, zx_pu_n, zx_rv_s, zx_rv_n, true_and, and_true, true_or, or_true, zb_0, zb_1, zq_lcl, zq_lcg, zq_lce, eq_self, ite_true, ite_false, zk_0, zw_0, zk_1, zw_1, zq_0_0, zq_0_1, zq_0_2, zq_0_3, zq_0_4, zq_0_5, zq_0_6, zq_0_7, zq_0_8, zq_0_9, zq_0_10, zq_0_11, zq_1_0, zq_1_1, zq_1_2, zq_1_3, zq_1_4, zq_1_5, h1, zB_0, reduceCtorEq, yl, q1, yg, q3]
      · rw [ze_253]
        simp (disch := omega) only [↓zs_253_0, ↓zs_253_1, ↓zs_253_2, ↓zs_253_5, ↓zs_253_6, ↓zs_253_7, ↓zs_253_8, ↓zs_253_11, ↓zs_253_14, ↓zs_253_15, ↓zs_253_16, ↓zs_253_17, ↓zs_253_18, ↓zs_253_21, ↓zs_253_24, ↓zs_253_26, ↓zs_253_27, ↓zs_253_28, ↓zs_253_29, ↓zs_253_30, ↓zs_253_33, ↓zs_253_34, ↓zs_253_35, ↓zs_253_36, ↓zs_253_39, ↓zs_253_40, ↓zs_253_41, ↓zs_253_44, ↓zs_253_45, ↓zs_253_48, ↓zs_253_49, ↓zs_253_50, ↓zs_253_53, zx_pu_s, zx_pu_n, zx_rv_s, zx_rv_n, true_and, and_true, true_or, or_true, zb_0, zb_1, zq_lcl, zq_lcg, zq_lce, eq_self, ite_true, ite_false, zk_138, zw_138, zk_139, zw_139, zk_140, zw_140, zk_141, zw_141, zk_142, zw_142, zk_143, zw_143, zk_144, zw_144, zk_145, zw_145, zk_146, zw_146, zk_147, zw_147, zk_148, zw_148, zk_149, zw_149, zk_150, zw_150, zk_151, zw_151, zk_152, zw_152, zq_138_1, zq_138_2, zq_138_3, zq_138_4, zq_138_16, zq_138_19, zq_138_20, zq_138_24, zq_138_25, zq_138_26, zq_138_27, zq_138_31, zq_138_32, zq_138_33, h2, hbt, zB_0, reduceCtorEq]
    | true =>
      rw [cy] at hbt
      obtain ⟨z, -, hz, rfl⟩ := zf_bt_nI cy (by omega)
      have a1 : ¬ 1 < z := by omega
      have e := zq_toI (x := x) rfl c (by omega)
      have hk : x.toInt.toNat < 64 := by have := zf_inP.mp c; omega
      generalize x.toInt.toNat = k at e hk
      subst e
      obtain ⟨I2, f2, h3⟩ := sc_smallest (Lh := Lh) v hm hk
      have e139 : I2 139 = I 139 := zFc_m zx_st19 f2 (by decide)
      have si0 : zx_SI (zx_u I2 138 0 (nI 0)) := zx_SI_u (zFc_si zx_st19 f2 v.1) (by decide)
      obtain ⟨I3, s3, h4⟩ := sp_smallest (Lh := Lh) (J := J) (k := k) (z := 1) (r := 109) (B := I 139) si0 (by rw [zu_139]; exact e139) v.2.1 hm hk (.inl ⟨rfl, rfl⟩)
      have okc : zM_ok (zx_u I2 138 0 (nI 0) 139) (zw (I 139)) (zh (I 139)) (zn (I 139)) := by rw [zu_139, e139]; exact ok
      have h5 := fun d P => sp_isStone (d := d) (Lh := Lh) (I := zx_u I2 138 0 (nI 0)) (J := J) (P := P) (nI k).toInt64 okc.1.1 okc.1.2.1 (by omega)
      rw [Int32.toInt_toInt64, c] at h5
      have ho : ∀ c, zf_min (zf_gd 109 (I 139) k) (2 ^ zn (I 139)) 0 none = some c → c < 256 := fun c e => zf_min_o _ _ 0 none 256 (by have : 2 ^ zn (I 139) ≤ 256 := Nat.pow_le_pow_right (n := 2) (by decide) N8; omega) (fun c e => by cases e) c e
      generalize zf_min (zf_gd 109 (I 139) k) (2 ^ zn (I 139)) 0 none = b at *
      refine ⟨.int (zf_ans b z), I2, J, I3, J, fun d P => ?_, fun d P => ?_, zScr_t (zScr_t (zScr_c f2 (by omega)) (zScr_s (zFs_0 _ _))) s3⟩
      · rw [ze_132]
        cases b with
        | none =>
          have o1 : zf_oi none = -1 := rfl
          rw [o1] at h3
          simp (disch := omega) only [↓zs_132_0, ↓zs_132_1, ↓zs_132_4, ↓zs_132_5, ↓zs_132_8, ↓zs_132_11, ↓zs_132_12, ↓zs_132_15, ↓zs_132_16, ↓zs_132_17, ↓zs_132_20, ↓zs_132_22, ↓zs_132_23, ↓zs_132_24, ↓zs_132_25, ↓zs_132_28, ↓zs_132_29, ↓zs_132_30, ↓zs_132_31, ↓zs_132_34, ↓zs_132_35, ↓zs_132_36, ↓zs_132_37, ↓zs_132_40, ↓zs_132_41, ↓zs_132_44, ↓zs_132_47, ↓zs_132_48, zx_pu_s, zx_pu_n, zx_rv_s, zx_rv_n, true_and, and_true, true_or, or_true, zb_0, zb_1, zq_lcl, zq_lcg, zq_lce, eq_self, ite_true, ite_false, zk_0, zw_0, zk_1, zw_1, zq_0_0, zq_0_1, zq_0_2, zq_0_3, zq_0_4, zq_0_5, zq_0_6, zq_0_7, zq_0_8, zq_0_9, zq_0_10, zq_0_11, zq_1_0, zq_1_1, zq_1_2, zq_1_3, zq_1_4, zq_1_5, nI_ltI, zn_lt0, h1, zB_0, reduceCtorEq, a1, h3]
          rfl
        | some c9 =>
          have hc := ho c9 rfl
          have o1 : zf_oi (some c9) = nI c9 := rfl
          have m1 : (nI c9 = -1) = False := zq_m1 (by omega)
          have hbc : ∀ d L I J P, zx_rn d 274 [.int (nI c9)] L I J P = P (some (.int (nI (zf_pop c9)))) L I J := fun d L I J P => zl_bitCountI (d := d) (L := L) (I := I) (J := J) (P := P) (by omega)
          rw [o1] at h3
          unfold zf_ans
          rcases (show z = 0 ∨ z = 1 by omega) with q | q <;> subst q
          · simp (disch := omega) only [↓zs_132_0, ↓zs_132_1, ↓zs_132_4, ↓zs_132_5, ↓zs_132_8, ↓zs_132_11, ↓zs_132_12, ↓zs_132_15, ↓zs_132_16, ↓zs_132_17, ↓zs_132_20, ↓zs_132_22, ↓zs_132_23, ↓zs_132_24, ↓zs_132_25, ↓zs_132_28, ↓zs_132_29, ↓zs_132_30, ↓zs_132_31, ↓zs_132_34, ↓zs_132_35, ↓zs_132_36, ↓zs_132_37, ↓zs_132_40, ↓zs_132_41, ↓zs_132_44, ↓zs_132_47, ↓zs_132_48, zx_pu_s, zx_pu_n, zx_rv_s, zx_rv_n, true_and, and_true, true_or, or_true, zb_0, zb_1, zq_lcl, zq_lcg, zq_lce, eq_self, ite_true, ite_false, zk_0, zw_0, zk_1, zw_1, zq_0_0, zq_0_1, zq_0_2, zq_0_3, zq_0_4, zq_0_5, zq_0_6, zq_0_7, zq_0_8, zq_0_9, zq_0_10, zq_0_11, zq_1_0, zq_1_1, zq_1_2, zq_1_3, zq_1_4, zq_1_5, nI_ltI, zn_lt0, h1, zB_0, reduceCtorEq, a1, h3, m1, hbc, if_true]
          · simp (disch := omega) only [↓zs_132_0, ↓zs_132_1, ↓zs_132_4, ↓zs_132_5, ↓zs_132_8, ↓zs_132_11, ↓zs_132_12, ↓zs_132_15, ↓zs_132_16, ↓zs_132_17, ↓zs_132_20, ↓zs_132_22, ↓zs_132_23, ↓zs_132_24, ↓zs_132_25, ↓zs_132_28, ↓zs_132_29, ↓zs_132_30, ↓zs_132_31, ↓zs_132_34, ↓zs_132_35, ↓zs_132_36, ↓zs_132_37, ↓zs_132_40, ↓zs_132_41, ↓zs_132_44, ↓zs_132_47, ↓zs_132_48, zx_pu_s, zx_pu_n, zx_rv_s, zx_rv_n, true_and, and_true, true_or, or_true, zb_0, zb_1, zq_lcl, zq_lcg, zq_lce, eq_self, ite_true, ite_false, zk_0, zw_0, zk_1, zw_1, zq_0_0, zq_0_1, zq_0_2, zq_0_3, zq_0_4, zq_0_5, zq_0_6, zq_0_7, zq_0_8, zq_0_9, zq_0_10, zq_0_11, zq_1_0, zq_1_1, zq_1_2, zq_1_3, zq_1_4, zq_1_5, nI_ltI, zn_lt0, h1, zB_0, reduceCtorEq, a1, h3, m1, zq_ne]
      · rw [ze_253]
        cases b with
        | none =>
          have o1 : zf_oi none = -1 := rfl
          rw [o1] at h4
          simp (disch := omega) only [↓zs_253_0, ↓zs_253_1, ↓zs_253_2, ↓zs_253_5, ↓zs_253_6, ↓zs_253_7, ↓zs_253_8, ↓zs_253_11, ↓zs_253_14, ↓zs_253_15, ↓zs_253_16, ↓zs_253_17, ↓zs_253_18, ↓zs_253_21, ↓zs_253_24, ↓zs_253_26, ↓zs_253_27, ↓zs_253_28, ↓zs_253_29, ↓zs_253_30, ↓zs_253_33, ↓zs_253_34, ↓zs_253_35, ↓zs_253_36, ↓zs_253_39, ↓zs_253_40, ↓zs_253_41, ↓zs_253_44, ↓zs_253_45, ↓zs_253_48, ↓zs_253_49, ↓zs_253_50, ↓zs_253_53, zx_pu_s, zx_pu_n, zx_rv_s, zx_rv_n, true_and, and_true, true_or, or_true, zb_0, zb_1, zq_lcl, zq_lcg, zq_lce, eq_self, ite_true, ite_false, zk_138, zw_138, zk_139, zw_139, zk_140, zw_140, zk_141, zw_141, zk_142, zw_142, zk_143, zw_143, zk_144, zw_144, zk_145, zw_145, zk_146, zw_146, zk_147, zw_147, zk_148, zw_148, zk_149, zw_149, zk_150, zw_150, zk_151, zw_151, zk_152, zw_152, zq_138_1, zq_138_2, zq_138_3, zq_138_4, zq_138_16, zq_138_19, zq_138_20, zq_138_24, zq_138_25, zq_138_26, zq_138_27, zq_138_31, zq_138_32, zq_138_33, h5, hbt, zB_0, reduceCtorEq, h4]
          rfl
        | some c9 =>
          have hc := ho c9 rfl
          have o1 : zf_oi (some c9) = nI c9 := rfl
          have m1 : (nI c9 = -1) = False := zq_m1 (by omega)
          have bits : ∀ d P, zx_rn (d + 1) 196 [.long (nI c9).toInt64] (zx_LL Lh) I3 J P = P (some (.int (nI (zf_pop c9)))) (zx_LL Lh) I3 J := fun d P => by
            rw [zq_lon (by omega), sp_bits, zf_bit_n (by omega), zf_pop64 hc]
          rw [o1] at h4
          unfold zf_ans
          rcases (show z = 0 ∨ z = 1 by omega) with q | q <;> subst q
          · simp (disch := omega) only [↓zs_253_0, ↓zs_253_1, ↓zs_253_2, ↓zs_253_5, ↓zs_253_6, ↓zs_253_7, ↓zs_253_8, ↓zs_253_11, ↓zs_253_14, ↓zs_253_15, ↓zs_253_16, ↓zs_253_17, ↓zs_253_18, ↓zs_253_21, ↓zs_253_24, ↓zs_253_26, ↓zs_253_27, ↓zs_253_28, ↓zs_253_29, ↓zs_253_30, ↓zs_253_33, ↓zs_253_34, ↓zs_253_35, ↓zs_253_36, ↓zs_253_39, ↓zs_253_40, ↓zs_253_41, ↓zs_253_44, ↓zs_253_45, ↓zs_253_48, ↓zs_253_49, ↓zs_253_50, ↓zs_253_53, zx_pu_s, zx_pu_n, zx_rv_s, zx_rv_n, true_and, and_true, true_or, or_true, zb_0, zb_1, zq_lcl, zq_lcg, zq_lce, eq_self, ite_true, ite_false, zk_138, zw_138, zk_139, zw_139, zk_140, zw_140, zk_141, zw_141, zk_142, zw_142, zk_143, zw_143, zk_144, zw_144, zk_145, zw_145, zk_146, zw_146, zk_147, zw_147, zk_148, zw_148, zk_149, zw_149, zk_150, zw_150, zk_151, zw_151, zk_152, zw_152, zq_138_1, zq_138_2, zq_138_3, zq_138_4, zq_138_16, zq_138_19, zq_138_20, zq_138_24, zq_138_25, zq_138_26, zq_138_27, zq_138_31, zq_138_32, zq_138_33, h5, hbt, zB_0, reduceCtorEq, h4, m1, bits, zq_ne, if_true]
          · simp (disch := omega) only [↓zs_253_0, ↓zs_253_1, ↓zs_253_2, ↓zs_253_5, ↓zs_253_6, ↓zs_253_7, ↓zs_253_8, ↓zs_253_11, ↓zs_253_14, ↓zs_253_15, ↓zs_253_16, ↓zs_253_17, ↓zs_253_18, ↓zs_253_21, ↓zs_253_24, ↓zs_253_26, ↓zs_253_27, ↓zs_253_28, ↓zs_253_29, ↓zs_253_30, ↓zs_253_33, ↓zs_253_34, ↓zs_253_35, ↓zs_253_36, ↓zs_253_39, ↓zs_253_40, ↓zs_253_41, ↓zs_253_44, ↓zs_253_45, ↓zs_253_48, ↓zs_253_49, ↓zs_253_50, ↓zs_253_53, zx_pu_s, zx_pu_n, zx_rv_s, zx_rv_n, true_and, and_true, true_or, or_true, zb_0, zb_1, zq_lcl, zq_lcg, zq_lce, eq_self, ite_true, ite_false, zk_138, zw_138, zk_139, zw_139, zk_140, zw_140, zk_141, zw_141, zk_142, zw_142, zk_143, zw_143, zk_144, zw_144, zk_145, zw_145, zk_146, zw_146, zk_147, zw_147, zk_148, zw_148, zk_149, zw_149, zk_150, zw_150, zk_151, zw_151, zk_152, zw_152, zq_138_1, zq_138_2, zq_138_3, zq_138_4, zq_138_16, zq_138_19, zq_138_20, zq_138_24, zq_138_25, zq_138_26, zq_138_27, zq_138_31, zq_138_32, zq_138_33, h5, hbt, zB_0, reduceCtorEq, h4, m1]
end TK
