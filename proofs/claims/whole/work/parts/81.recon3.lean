/-! reconcile, the call -/
section RK
variable {Lh m : Nat} {I : zx_MI} {J : zx_MJ}
theorem q_reconcile (v : zInv I J m) (hm : m < 2 ^ 29) (x y : Int32) : zQ Lh 135 254 [.int x, .int y] I J := by
  obtain ⟨⟨hw, hh, hN⟩, gr, g, ex, ok, N8, wh⟩ := zInv_k v
  have h1 := fun d P => sc_hasStone (d := d) (Lh := Lh) (I := I) (J := J) (P := P) zx_sq1 x hw hh wh
  have ok2 : zM_ok (zx_u I 138 0 (nI 0) 139) (zw (I 139)) (zh (I 139)) (zn (I 139)) := by rw [zu_139]; exact ok
  have h2 := fun d P => sp_isStone (d := d) (Lh := Lh) (J := J) (P := P) x.toInt64 ok2.1.1 ok2.1.2.1 (by omega)
  rw [Int32.toInt_toInt64] at h2
  have hbt := fun d L I J P => sp_bt (d := d) (L := L) (I := I) (J := J) (P := P) y (a := 0) (b := 1) (by omega) (by omega)
  have yl := zq_lt0 y
  have yg := zq_gt y (n := 1) (by omega)
  cases c : zf_in x.toInt (zw (I 139) * zh (I 139)) with
  | false =>
    refine ⟨.int (-2), I, J, zx_u I 138 0 (nI 0), J, fun d P => ?_, fun d P => ?_, zScr_s (zFs_0 _ _)⟩
    · rw [ze_135]
      simp (disch := omega) only [↓zs_135_0, ↓zs_135_1, ↓zs_135_4, ↓zs_135_5, ↓zs_135_8, ↓zs_135_11, ↓zs_135_12, ↓zs_135_15, ↓zs_135_16, ↓zs_135_17, ↓zs_135_20, ↓zs_135_22, ↓zs_135_23, ↓zs_135_24, ↓zs_135_27, ↓zs_135_28, ↓zs_135_31, ↓zs_135_32, ↓zs_135_35, ↓zs_135_36, ↓zs_135_37, ↓zs_135_40, ↓zs_135_41, ↓zs_135_44, ↓zs_135_47, ↓zs_135_48, zx_pu_s, zx_pu_n, zx_rv_s, zx_rv_n, true_and, and_true, true_or, or_true, zb_0, zb_1, zq_lcl, zq_lcg, zq_lce, eq_self, ite_true, ite_false, zk_0, zw_0, zk_1, zw_1, zq_0_0, zq_0_1, zq_0_2, zq_0_3, zq_0_4, zq_0_5, zq_0_6, zq_0_7, zq_0_8, zq_0_9, zq_0_10, zq_0_11, zq_1_0, zq_1_1, zq_1_2, zq_1_3, zq_1_4, zq_1_5, h1, c, zB_0, reduceCtorEq]
    · rw [ze_254]
      simp (disch := omega) only [↓zs_254_0, ↓zs_254_1, ↓zs_254_2, ↓zs_254_5, ↓zs_254_6, ↓zs_254_7, ↓zs_254_8, ↓zs_254_11, ↓zs_254_14, ↓zs_254_15, ↓zs_254_16, ↓zs_254_17, ↓zs_254_18, ↓zs_254_21, ↓zs_254_24, ↓zs_254_26, ↓zs_254_27, ↓zs_254_28, ↓zs_254_29, ↓zs_254_30, ↓zs_254_33, ↓zs_254_34, ↓zs_254_35, ↓zs_254_36, ↓zs_254_39, ↓zs_254_40, ↓zs_254_41, ↓zs_254_44, ↓zs_254_45, ↓zs_254_48, ↓zs_254_49, ↓zs_254_50, ↓zs_254_53, zx_pu_s, zx_pu_n, zx_rv_s, zx_rv_n, true_and, and_true, true_or, or_true, zb_0, zb_1, zq_lcl, zq_lcg, zq_lce, eq_self, ite_true, ite_false, zk_138, zw_138, zk_139, zw_139, zk_140, zw_140, zk_141, zw_141, zk_142, zw_142, zk_143, zw_143, zk_144, zw_144, zk_145, zw_145, zk_146, zw_146, zk_147, zw_147, zk_148, zw_148, zk_149, zw_149, zk_150, zw_150, zk_151, zw_151, zk_152, zw_152, zq_138_1, zq_138_2, zq_138_3, zq_138_4, zq_138_16, zq_138_19, zq_138_20, zq_138_24, zq_138_25, zq_138_26, zq_138_27, zq_138_31, zq_138_32, zq_138_33, h2, c, zB_0, reduceCtorEq]
  | true =>
    rw [c] at h1 h2
    cases cy : zf_bt 0 1 y.toInt with
    | false =>
      rw [cy] at hbt
      refine ⟨.int (-2), I, J, zx_u I 138 0 (nI 0), J, fun d P => ?_, fun d P => ?_, zScr_s (zFs_0 _ _)⟩
      · rw [ze_135]
        rcases zf_bt_no cy with q | ⟨q1, q2⟩
        · simp (disch := omega) only [↓zs_135_0, ↓zs_135_1, ↓zs_135_4, ↓zs_135_5, ↓zs_135_8, ↓zs_135_11, ↓zs_135_12, ↓zs_135_15, ↓zs_135_16, ↓zs_135_17, ↓zs_135_20, ↓zs_135_22, ↓zs_135_23, ↓zs_135_24, ↓zs_135_27, ↓zs_135_28, ↓zs_135_31, ↓zs_135_32, ↓zs_135_35, ↓zs_135_36, ↓zs_135_37, ↓zs_135_40, ↓zs_135_41, ↓zs_135_44, ↓zs_135_47, ↓zs_135_48, zx_pu_s, zx_pu_n, zx_rv_s, zx_rv_n, true_and, and_true, true_or, or_true, zb_0, zb_1, zq_lcl, zq_lcg, zq_lce, eq_self, ite_true, ite_false, zk_0, zw_0, zk_1, zw_1, zq_0_0, zq_0_1, zq_0_2, zq_0_3, zq_0_4, zq_0_5, zq_0_6, zq_0_7, zq_0_8, zq_0_9, zq_0_10, zq_0_11, zq_1_0, zq_1_1, zq_1_2, zq_1_3, zq_1_4, zq_1_5, h1, zB_0, reduceCtorEq, yl, q]
        · have q3 : ((1 : Nat) : Int) < y.toInt := q2
          simp (disch := omega) only [↓zs_135_0, ↓zs_135_1, ↓zs_135_4, ↓zs_135_5, ↓zs_135_8, ↓zs_135_11, ↓zs_135_12, ↓zs_135_15, ↓zs_135_16, ↓zs_135_17, ↓zs_135_20, ↓zs_135_22, ↓zs_135_23, ↓zs_135_24, ↓zs_135_27, ↓zs_135_28, ↓zs_135_31, ↓zs_135_32, ↓zs_135_35, ↓zs_135_36, ↓zs_135_37, ↓zs_135_40, ↓zs_135_41, ↓zs_135_44, ↓zs_135_47, ↓zs_135_48, zx_pu_s, zx_pu_n, zx_rv_s, zx_rv_n, true_and, and_true, true_or, or_true, zb_0, zb_1, zq_lcl, zq_lcg, zq_lce, eq_self, ite_true, ite_false, zk_0, zw_0, zk_1, zw_1, zq_0_0, zq_0_1, zq_0_2, zq_0_3, zq_0_4, zq_0_5, zq_0_6, zq_0_7, zq_0_8, zq_0_9, zq_0_10, zq_0_11, zq_1_0, zq_1_1, zq_1_2, zq_1_3, zq_1_4, zq_1_5, h1, zB_0, reduceCtorEq, yl, q1, yg, q3]
      · rw [ze_254]
        simp (disch := omega) only [↓zs_254_0, ↓zs_254_1, ↓zs_254_2, ↓zs_254_5, ↓zs_254_6, ↓zs_254_7, ↓zs_254_8, ↓zs_254_11, ↓zs_254_14, ↓zs_254_15, ↓zs_254_16, ↓zs_254_17, ↓zs_254_18, ↓zs_254_21, ↓zs_254_24, ↓zs_254_26, ↓zs_254_27, ↓zs_254_28, ↓zs_254_29, ↓zs_254_30, ↓zs_254_33, ↓zs_254_34, ↓zs_254_35, ↓zs_254_36, ↓zs_254_39, ↓zs_254_40, ↓zs_254_41, ↓zs_254_44, ↓zs_254_45, ↓zs_254_48, ↓zs_254_49, ↓zs_254_50, ↓zs_254_53, zx_pu_s, zx_pu_n, zx_rv_s, zx_rv_n, true_and, and_true, true_or, or_true, zb_0, zb_1, zq_lcl, zq_lcg, zq_lce, eq_self, ite_true, ite_false, zk_138, zw_138, zk_139, zw_139, zk_140, zw_140, zk_141, zw_141, zk_142, zw_142, zk_143, zw_143, zk_144, zw_144, zk_145, zw_145, zk_146, zw_146, zk_147, zw_147, zk_148, zw_148, zk_149, zw_149, zk_150, zw_150, zk_151, zw_151, zk_152, zw_152, zq_138_1, zq_138_2, zq_138_3, zq_138_4, zq_138_16, zq_138_19, zq_138_20, zq_138_24, zq_138_25, zq_138_26, zq_138_27, zq_138_31, zq_138_32, zq_138_33, h2, hbt, zB_0, reduceCtorEq]
    | true =>
      rw [cy] at hbt
      obtain ⟨z, -, hz, rfl⟩ := zf_bt_nI cy (by omega)
      have a1 : ¬ 1 < z := by omega
      have e := zq_toI (x := x) rfl c (by omega)
      have hk : x.toInt.toNat < 64 := by have := zf_inP.mp c; omega
      generalize x.toInt.toNat = k at e hk
      subst e
      have h3 := fun d P => sc_watch (d := d) (Lh := Lh) (P := P) zx_sq1 zx_st11 v.1 hw hh hN gr g v.2.2.2.1 ok hk
      obtain ⟨I3, s3, h4⟩ := sp_smallest (Lh := Lh) (I := zx_u I 138 0 (nI 0)) (J := J) (k := k) (z := 0) (r := 125) (B := I 139) (zx_SI_u v.1 (by decide)) (zu_139 _ _ _) v.2.1 hm hk (.inr ⟨rfl, rfl⟩)
      rw [zf_recon hk N8 wh (fun s hs => (ok.2 s (by omega)).2.1)] at h4
      have hc : zf_wat (I 139) (zw (I 139)) (zh (I 139)) (zn (I 139)) k < 256 := zf_bs_lt (n := 8) _ (by omega) (by decide)
      generalize zf_wat (I 139) (zw (I 139)) (zh (I 139)) (zn (I 139)) k = W at *
      have o1 : zf_oi (some W) = nI W := rfl
      have m1 : (nI W = -1) = False := zq_m1 (by omega)
      have hbc : ∀ d L I J P, zx_rn d 274 [.int (nI W)] L I J P = P (some (.int (nI (zf_pop W)))) L I J := fun d L I J P => zl_bitCountI (d := d) (L := L) (I := I) (J := J) (P := P) (by omega)
      have bits : ∀ d P, zx_rn (d + 1) 196 [.long (nI W).toInt64] (zx_LL Lh) I3 J P = P (some (.int (nI (zf_pop W)))) (zx_LL Lh) I3 J := fun d P => by
        rw [zq_lon (by omega), sp_bits, zf_bit_n (by omega), zf_pop64 hc]
      rw [o1] at h4
      refine ⟨.int (zf_ans (some W) z), I, J, I3, J, fun d P => ?_, fun d P => ?_, zScr_t (zScr_s (zFs_0 _ _)) s3⟩
      · rw [ze_135]
        unfold zf_ans
        rcases (show z = 0 ∨ z = 1 by omega) with q | q <;> subst q
        · simp (disch := omega) only [↓zs_135_0, ↓zs_135_1, ↓zs_135_4, ↓zs_135_5, ↓zs_135_8, ↓zs_135_11, ↓zs_135_12, ↓zs_135_15, ↓zs_135_16, ↓zs_135_17, ↓zs_135_20, ↓zs_135_22, ↓zs_135_23, ↓zs_135_24, ↓zs_135_27, ↓zs_135_28, ↓zs_135_31, ↓zs_135_32, ↓zs_135_35, ↓zs_135_36, ↓zs_135_37, ↓zs_135_40, ↓zs_135_41, ↓zs_135_44, ↓zs_135_47, ↓zs_135_48, zx_pu_s, zx_pu_n, zx_rv_s, zx_rv_n, true_and, and_true, true_or, or_true, zb_0, zb_1, zq_lcl, zq_lcg, zq_lce, eq_self, ite_true, ite_false, zk_0, zw_0, zk_1, zw_1, zq_0_0, zq_0_1, zq_0_2, zq_0_3, zq_0_4, zq_0_5, zq_0_6, zq_0_7, zq_0_8, zq_0_9, zq_0_10, zq_0_11, zq_1_0, zq_1_1, zq_1_2, zq_1_3, zq_1_4, zq_1_5, zk_11, zw_11, zq_11_0, zq_11_1, zq_11_2, nI_ltI, zn_lt0, h1, zB_0, reduceCtorEq, a1, h3, hbc, if_true]
        · simp (disch := omega) only [↓zs_135_0, ↓zs_135_1, ↓zs_135_4, ↓zs_135_5, ↓zs_135_8, ↓zs_135_11, ↓zs_135_12, ↓zs_135_15, ↓zs_135_16, ↓zs_135_17, ↓zs_135_20, ↓zs_135_22, ↓zs_135_23, ↓zs_135_24, ↓zs_135_27, ↓zs_135_28, ↓zs_135_31, ↓zs_135_32, ↓zs_135_35, ↓zs_135_36, ↓zs_135_37, ↓zs_135_40, ↓zs_135_41, ↓zs_135_44, ↓zs_135_47, ↓zs_135_48, zx_pu_s, zx_pu_n, zx_rv_s, zx_rv_n, true_and, and_true, true_or, or_true, zb_0, zb_1, zq_lcl, zq_lcg, zq_lce, eq_self, ite_true, ite_false, zk_0, zw_0, zk_1, zw_1, zq_0_0, zq_0_1, zq_0_2, zq_0_3, zq_0_4, zq_0_5, zq_0_6, zq_0_7, zq_0_8, zq_0_9, zq_0_10, zq_0_11, zq_1_0, zq_1_1, zq_1_2, zq_1_3, zq_1_4, zq_1_5, zk_11, zw_11, zq_11_0, zq_11_1, zq_11_2, nI_ltI, zn_lt0, h1, zB_0, reduceCtorEq, a1, h3, zq_ne]
      · rw [ze_254]
        unfold zf_ans
        rcases (show z = 0 ∨ z = 1 by omega) with q | q <;> subst q
        · simp (disch := omega) only [↓zs_254_0, ↓zs_254_1, ↓zs_254_2, ↓zs_254_5, ↓zs_254_6, ↓zs_254_7, ↓zs_254_8, ↓zs_254_11, ↓zs_254_14, ↓zs_254_15, ↓zs_254_16, ↓zs_254_17, ↓zs_254_18, ↓zs_254_21, ↓zs_254_24, ↓zs_254_26, ↓zs_254_27, ↓zs_254_28, ↓zs_254_29, ↓zs_254_30, ↓zs_254_33, ↓zs_254_34, ↓zs_254_35, ↓zs_254_36, ↓zs_254_39, ↓zs_254_40, ↓zs_254_41, ↓zs_254_44, ↓zs_254_45, ↓zs_254_48, ↓zs_254_49, ↓zs_254_50, ↓zs_254_53, zx_pu_s, zx_pu_n, zx_rv_s, zx_rv_n, true_and, and_true, true_or, or_true, zb_0, zb_1, zq_lcl, zq_lcg, zq_lce, eq_self, ite_true, ite_false, zk_138, zw_138, zk_139, zw_139, zk_140, zw_140, zk_141, zw_141, zk_142, zw_142, zk_143, zw_143, zk_144, zw_144, zk_145, zw_145, zk_146, zw_146, zk_147, zw_147, zk_148, zw_148, zk_149, zw_149, zk_150, zw_150, zk_151, zw_151, zk_152, zw_152, zq_138_1, zq_138_2, zq_138_3, zq_138_4, zq_138_16, zq_138_19, zq_138_20, zq_138_24, zq_138_25, zq_138_26, zq_138_27, zq_138_31, zq_138_32, zq_138_33, h2, hbt, zB_0, reduceCtorEq, h4, m1, bits, zq_ne, if_true]
        · simp (disch := omega) only [↓zs_254_0, ↓zs_254_1, ↓zs_254_2, ↓zs_254_5, ↓zs_254_6, ↓zs_254_7, ↓zs_254_8, ↓zs_254_11, ↓zs_254_14, ↓zs_254_15, ↓zs_254_16, ↓zs_254_17, ↓zs_254_18, ↓zs_254_21, ↓zs_254_24, ↓zs_254_26, ↓zs_254_27, ↓zs_254_28, ↓zs_254_29, ↓zs_254_30, ↓zs_254_33, ↓zs_254_34, ↓zs_254_35, ↓zs_254_36, ↓zs_254_39, ↓zs_254_40, ↓zs_254_41, ↓zs_254_44, ↓zs_254_45, ↓zs_254_48, ↓zs_254_49, ↓zs_254_50, ↓zs_254_53, zx_pu_s, zx_pu_n, zx_rv_s, zx_rv_n, true_and, and_true, true_or, or_true, zb_0, zb_1, zq_lcl, zq_lcg, zq_lce, eq_self, ite_true, ite_false, zk_138, zw_138, zk_139, zw_139, zk_140, zw_140, zk_141, zw_141, zk_142, zw_142, zk_143, zw_143, zk_144, zw_144, zk_145, zw_145, zk_146, zw_146, zk_147, zw_147, zk_148, zw_148, zk_149, zw_149, zk_150, zw_150, zk_151, zw_151, zk_152, zw_152, zq_138_1, zq_138_2, zq_138_3, zq_138_4, zq_138_16, zq_138_19, zq_138_20, zq_138_24, zq_138_25, zq_138_26, zq_138_27, zq_138_31, zq_138_32, zq_138_33, h2, hbt, zB_0, reduceCtorEq, h4, m1]
end RK
