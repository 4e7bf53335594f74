/-! ways: the call -/
section QH
variable {Lh m : Nat} {I : zx_MI} {J : zx_MJ}
theorem zScr_J {I : zx_MI} {J J2 : zx_MJ} (f : ∀ a, ¬ ((65 ≤ a ∧ a ≤ 78) ∨ (146 ≤ a ∧ a ≤ 149)) → J2 a = J a) : zScr I J I J2 := ⟨fun _ _ _ => rfl, fun a j n => congrFun (f a n) j⟩
theorem q_ways (v : zInv I J m) (hm : m < 2 ^ 29) (x y z : Int32) : zQ Lh 129 247 [.int x, .int y, .int z] I J := by
  obtain ⟨⟨hw, hh, hN⟩, gr, g, ex, ok, N8, wh⟩ := zInv_k v
  have h1 := fun d P => sc_hasStone (d := d) (Lh := Lh) (I := I) (J := J) (P := P) zx_sq1 x hw hh wh
  have h2 := fun d P => sc_hasStone (d := d) (Lh := Lh) (I := I) (J := J) (P := P) zx_sq1 y hw hh wh
  have ok2 : zM_ok (zx_u I 138 0 (nI 0) 139) (zw (I 139)) (zh (I 139)) (zn (I 139)) := by rw [zu_139]; exact ok
  have p1 := fun d P => sp_isStone (d := d) (Lh := Lh) (J := J) (P := P) x.toInt64 ok2.1.1 ok2.1.2.1 (by omega)
  have p2 := fun d P => sp_isStone (d := d) (Lh := Lh) (J := J) (P := P) y.toInt64 ok2.1.1 ok2.1.2.1 (by omega)
  rw [Int32.toInt_toInt64] at p1 p2
  have hbz := fun d L I J P => sp_bt (d := d) (L := L) (I := I) (J := J) (P := P) z (a := 0) (b := 20) (by omega) (by omega)
  have zl := zq_lt0 z
  have zg := zq_gt z (n := 20) (by omega)
  have no : ∀ u : Int64, (∀ d P, zx_rn (d + 30) 129 [.ref 0, .int x, .int y, .int z] (zx_LL Lh) I J P = P (some (.long u)) (zx_LL Lh) I J) → (∀ d P, zx_rn (d + 30) 247 [.ref 138, .int x, .int y, .int z] (zx_LL Lh) I J P = P (some (.long u)) (zx_LL Lh) (zx_u I 138 0 (nI 0)) J) → zQ Lh 129 247 [.int x, .int y, .int z] I J := fun u a b => ⟨.long u, I, J, zx_u I 138 0 (nI 0), J, a, b, zScr_s (zFs_0 _ _)⟩
  cases c1 : zf_in x.toInt (zw (I 139) * zh (I 139)) with
  | false =>
    rw [c1] at h1 p1
    refine no (-2) (fun d P => ?_) (fun d P => ?_)
    · rw [ze_129]
      simp (disch := omega) only [↓zs_129_0, ↓zs_129_1, ↓zs_129_4, ↓zs_129_5, ↓zs_129_8, ↓zs_129_11, ↓zs_129_12, ↓zs_129_15, ↓zs_129_16, ↓zs_129_19, ↓zs_129_22, ↓zs_129_25, zx_pu_s, zx_pu_n, zx_rv_s, zx_rv_n, true_and, and_true, true_or, or_true, zb_0, zb_1, zq_lcl, zq_lcg, zq_lce, eq_self, ite_true, ite_false, zk_0, zw_0, zk_1, zw_1, zq_0_0, zq_0_1, zq_0_2, zq_0_3, zq_0_4, zq_0_5, zq_0_6, zq_0_7, zq_0_8, zq_0_9, zq_0_10, zq_0_11, zq_1_0, zq_1_1, zq_1_2, zq_1_3, zq_1_4, zq_1_5, h1, zB_0, reduceCtorEq]
    · rw [ze_247]
      simp (disch := omega) only [↓zs_247_0, ↓zs_247_1, ↓zs_247_2, ↓zs_247_5, ↓zs_247_6, ↓zs_247_7, ↓zs_247_8, ↓zs_247_11, ↓zs_247_14, ↓zs_247_15, ↓zs_247_16, ↓zs_247_17, ↓zs_247_20, ↓zs_247_23, ↓zs_247_26, zx_pu_s, zx_pu_n, zx_rv_s, zx_rv_n, true_and, and_true, true_or, or_true, zb_0, zb_1, zq_lcl, zq_lcg, zq_lce, eq_self, ite_true, ite_false, zk_138, zw_138, zk_139, zw_139, zk_140, zw_140, zk_141, zw_141, zk_142, zw_142, zk_143, zw_143, zk_144, zw_144, zk_145, zw_145, zk_146, zw_146, zk_147, zw_147, zk_148, zw_148, zk_149, zw_149, zk_150, zw_150, zk_151, zw_151, zk_152, zw_152, zq_138_1, zq_138_2, zq_138_3, zq_138_4, zq_138_16, zq_138_19, zq_138_20, zq_138_24, zq_138_25, zq_138_26, zq_138_27, zq_138_31, zq_138_32, zq_138_33, p1, zB_0, reduceCtorEq]
  | true =>
    rw [c1] at h1 p1
    cases c2 : zf_in y.toInt (zw (I 139) * zh (I 139)) with
    | false =>
      rw [c2] at h2 p2
      refine no (-2) (fun d P => ?_) (fun d P => ?_)
      · rw [ze_129]
        simp (disch := omega) only [↓zs_129_0, ↓zs_129_1, ↓zs_129_4, ↓zs_129_5, ↓zs_129_8, ↓zs_129_11, ↓zs_129_12, ↓zs_129_15, ↓zs_129_16, ↓zs_129_19, ↓zs_129_22, ↓zs_129_25, zx_pu_s, zx_pu_n, zx_rv_s, zx_rv_n, true_and, and_true, true_or, or_true, zb_0, zb_1, zq_lcl, zq_lcg, zq_lce, eq_self, ite_true, ite_false, zk_0, zw_0, zk_1, zw_1, zq_0_0, zq_0_1, zq_0_2, zq_0_3, zq_0_4, zq_0_5, zq_0_6, zq_0_7, zq_0_8, zq_0_9, zq_0_10, zq_0_11, zq_1_0, zq_1_1, zq_1_2, zq_1_3, zq_1_4, zq_1_5, h1, h2, zB_0, reduceCtorEq]
      · rw [ze_247]
        simp (disch := omega) only [↓zs_247_0, ↓zs_247_1, ↓zs_247_2, ↓zs_247_5, ↓zs_247_6, ↓zs_247_7, ↓zs_247_8, ↓zs_247_11, ↓zs_247_14, ↓zs_247_15, ↓zs_247_16, ↓zs_247_17, ↓zs_247_20, ↓zs_247_23, ↓zs_247_26, zx_pu_s, zx_pu_n, zx_rv_s, zx_rv_n, true_and, and_true, true_or, or_true, zb_0, zb_1, zq_lcl, zq_lcg, zq_lce, eq_self, ite_true, ite_false, zk_138, zw_138, zk_139, zw_139, zk_140, zw_140, zk_141, zw_141, zk_142, zw_142, zk_143, zw_143, zk_144, zw_144, zk_145, zw_145, zk_146, zw_146, zk_147, zw_147, zk_148, zw_148, zk_149, zw_149, zk_150, zw_150, zk_151, zw_151, zk_152, zw_152, zq_138_1, zq_138_2, zq_138_3, zq_138_4, zq_138_16, zq_138_19, zq_138_20, zq_138_24, zq_138_25, zq_138_26, zq_138_27, zq_138_31, zq_138_32, zq_138_33, p1, p2, zB_0, reduceCtorEq]
    | true =>
      rw [c2] at h2 p2
      obtain ⟨q, hq, q64, rfl⟩ := zq_in2 c1 wh
      obtain ⟨t, ht, t64, rfl⟩ := zq_in2 c2 wh
      have w0 : 0 < zw (I 139) := Nat.pos_of_ne_zero (fun e => by rw [e, Nat.zero_mul] at hq; omega)
      cases cz : zf_bt 0 20 z.toInt with
      | false =>
        rw [cz] at hbz
        refine no (-3) (fun d P => ?_) (fun d P => ?_)
        · rw [ze_129]
          simp (disch := omega) only [↓zs_129_0, ↓zs_129_1, ↓zs_129_4, ↓zs_129_5, ↓zs_129_8, ↓zs_129_11, ↓zs_129_12, ↓zs_129_15, ↓zs_129_16, ↓zs_129_19, ↓zs_129_22, ↓zs_129_25, zx_pu_s, zx_pu_n, zx_rv_s, zx_rv_n, true_and, and_true, true_or, or_true, zb_0, zb_1, zq_lcl, zq_lcg, zq_lce, eq_self, ite_true, ite_false, zk_0, zw_0, zk_1, zw_1, zq_0_0, zq_0_1, zq_0_2, zq_0_3, zq_0_4, zq_0_5, zq_0_6, zq_0_7, zq_0_8, zq_0_9, zq_0_10, zq_0_11, zq_1_0, zq_1_1, zq_1_2, zq_1_3, zq_1_4, zq_1_5, h1, h2, zB_0, reduceCtorEq]
          rcases zf_bt_no cz with e | ⟨e1, e2⟩
          · simp (disch := omega) only [↓zs_129_26, ↓zs_129_27, ↓zs_129_30, ↓zs_129_31, ↓zs_129_33, ↓zs_129_36, ↓zs_129_39, zx_pu_s, zx_pu_n, zx_rv_s, zx_rv_n, true_and, and_true, true_or, or_true, zb_0, zb_1, zq_lcl, zq_lcg, zq_lce, eq_self, ite_true, ite_false, zl, e]
          · have e3 : ((20 : Nat) : Int) < z.toInt := e2
            simp (disch := omega) only [↓zs_129_26, ↓zs_129_27, ↓zs_129_30, ↓zs_129_31, ↓zs_129_33, ↓zs_129_36, ↓zs_129_39, zx_pu_s, zx_pu_n, zx_rv_s, zx_rv_n, true_and, and_true, true_or, or_true, zb_0, zb_1, zq_lcl, zq_lcg, zq_lce, eq_self, ite_true, ite_false, zl, e1, zg, e3]
        · rw [ze_247]
          simp (disch := omega) only [↓zs_247_0, ↓zs_247_1, ↓zs_247_2, ↓zs_247_5, ↓zs_247_6, ↓zs_247_7, ↓zs_247_8, ↓zs_247_11, ↓zs_247_14, ↓zs_247_15, ↓zs_247_16, ↓zs_247_17, ↓zs_247_20, ↓zs_247_23, ↓zs_247_26, zx_pu_s, zx_pu_n, zx_rv_s, zx_rv_n, true_and, and_true, true_or, or_true, zb_0, zb_1, zq_lcl, zq_lcg, zq_lce, eq_self, ite_true, ite_false, zk_138, zw_138, zk_139, zw_139, zk_140, zw_140, zk_141, zw_141, zk_142, zw_142, zk_143, zw_143, zk_144, zw_144, zk_145, zw_145, zk_146, zw_146, zk_147, zw_147, zk_148, zw_148, zk_149, zw_149, zk_150, zw_150, zk_151, zw_151, zk_152, zw_152, zq_138_1, zq_138_2, zq_138_3, zq_138_4, zq_138_16, zq_138_19, zq_138_20, zq_138_24, zq_138_25, zq_138_26, zq_138_27, zq_138_31, zq_138_32, zq_138_33, p1, p2, zB_0, reduceCtorEq]
          simp (disch := omega) only [↓zs_247_27, ↓zs_247_28, ↓zs_247_29, ↓zs_247_30, ↓zs_247_33, ↓zs_247_36, ↓zs_247_39, ↓zs_247_42, zx_pu_s, zx_pu_n, zx_rv_s, zx_rv_n, true_and, and_true, true_or, or_true, zb_0, zb_1, zq_lcl, zq_lcg, zq_lce, eq_self, ite_true, ite_false, zk_138, zw_138, zk_139, zw_139, zk_140, zw_140, zk_141, zw_141, zk_142, zw_142, zk_143, zw_143, zk_144, zw_144, zk_145, zw_145, zk_146, zw_146, zk_147, zw_147, zk_148, zw_148, zk_149, zw_149, zk_150, zw_150, zk_151, zw_151, zk_152, zw_152, zq_138_1, zq_138_2, zq_138_3, zq_138_4, zq_138_16, zq_138_19, zq_138_20, zq_138_24, zq_138_25, zq_138_26, zq_138_27, zq_138_31, zq_138_32, zq_138_33, hbz, zB_0, reduceCtorEq]
      | true =>
        rw [cz] at hbz
        obtain ⟨n, -, hn, rfl⟩ := zf_bt_nI cz (by omega)
        have a1 : ¬ 20 < n := by omega
        have k1 := fun d P => sc_isTaken (d := d) (Lh := Lh) (I := I) (J := J) (P := P) zx_sq1 zx_st11 gr g v.2.2.2.1 ok q64
        have k2 := fun d P => sc_isTaken (d := d) (Lh := Lh) (I := I) (J := J) (P := P) zx_sq1 zx_st11 gr g v.2.2.2.1 ok t64
        have m1 := sp_taken2 (Lh := Lh) (J := J) (zu_139 I 0 (nI 0)) v.2.1 q64
        have m2 := sp_taken2 (Lh := Lh) (J := J) (zu_139 I 0 (nI 0)) v.2.1 t64
        have hc : ∀ d P, zx_rn (d + 30) 129 [.ref 0, .int (nI q), .int (nI t), .int (nI n)] (zx_LL Lh) I J P = zx_wp (d + 30) 129 40 [.ref 0, .int (nI q), .int (nI t), .int (nI n)] [] (zx_LL Lh) I J P := fun d P => by
          rw [ze_129]
          simp (disch := omega) only [↓zs_129_0, ↓zs_129_1, ↓zs_129_4, ↓zs_129_5, ↓zs_129_8, ↓zs_129_11, ↓zs_129_12, ↓zs_129_15, ↓zs_129_16, ↓zs_129_19, ↓zs_129_22, ↓zs_129_25, ↓zs_129_26, ↓zs_129_27, ↓zs_129_30, ↓zs_129_31, ↓zs_129_33, ↓zs_129_36, ↓zs_129_39, zx_pu_s, zx_pu_n, zx_rv_s, zx_rv_n, true_and, and_true, true_or, or_true, zb_0, zb_1, zq_lcl, zq_lcg, zq_lce, eq_self, ite_true, ite_false, zk_0, zw_0, zk_1, zw_1, zq_0_0, zq_0_1, zq_0_2, zq_0_3, zq_0_4, zq_0_5, zq_0_6, zq_0_7, zq_0_8, zq_0_9, zq_0_10, zq_0_11, zq_1_0, zq_1_1, zq_1_2, zq_1_3, zq_1_4, zq_1_5, h1, h2, zB_0, reduceCtorEq, nI_ltI, zn_lt0, a1]
        have hmm : ∀ d P, zx_rn (d + 30) 247 [.ref 138, .int (nI q), .int (nI t), .int (nI n)] (zx_LL Lh) I J P = zx_wp (d + 30) 247 43 [.ref 138, .int (nI q), .int (nI t), .int (nI n), zx_u0, zx_u0] [] (zx_LL Lh) (zx_u I 138 0 (nI 0)) J P := fun d P => by
          rw [ze_247]
          simp (disch := omega) only [↓zs_247_0, ↓zs_247_1, ↓zs_247_2, ↓zs_247_5, ↓zs_247_6, ↓zs_247_7, ↓zs_247_8, ↓zs_247_11, ↓zs_247_14, ↓zs_247_15, ↓zs_247_16, ↓zs_247_17, ↓zs_247_20, ↓zs_247_23, ↓zs_247_26, zx_pu_s, zx_pu_n, zx_rv_s, zx_rv_n, true_and, and_true, true_or, or_true, zb_0, zb_1, zq_lcl, zq_lcg, zq_lce, eq_self, ite_true, ite_false, zk_138, zw_138, zk_139, zw_139, zk_140, zw_140, zk_141, zw_141, zk_142, zw_142, zk_143, zw_143, zk_144, zw_144, zk_145, zw_145, zk_146, zw_146, zk_147, zw_147, zk_148, zw_148, zk_149, zw_149, zk_150, zw_150, zk_151, zw_151, zk_152, zw_152, zq_138_1, zq_138_2, zq_138_3, zq_138_4, zq_138_16, zq_138_19, zq_138_20, zq_138_24, zq_138_25, zq_138_26, zq_138_27, zq_138_31, zq_138_32, zq_138_33, p1, p2, zB_0, reduceCtorEq]
          simp (disch := omega) only [↓zs_247_27, ↓zs_247_28, ↓zs_247_29, ↓zs_247_30, ↓zs_247_33, ↓zs_247_36, ↓zs_247_39, ↓zs_247_42, zx_pu_s, zx_pu_n, zx_rv_s, zx_rv_n, true_and, and_true, true_or, or_true, zb_0, zb_1, zq_lcl, zq_lcg, zq_lce, eq_self, ite_true, ite_false, zk_138, zw_138, zk_139, zw_139, zk_140, zw_140, zk_141, zw_141, zk_142, zw_142, zk_143, zw_143, zk_144, zw_144, zk_145, zw_145, zk_146, zw_146, zk_147, zw_147, zk_148, zw_148, zk_149, zw_149, zk_150, zw_150, zk_151, zw_151, zk_152, zw_152, zq_138_1, zq_138_2, zq_138_3, zq_138_4, zq_138_16, zq_138_19, zq_138_20, zq_138_24, zq_138_25, zq_138_26, zq_138_27, zq_138_31, zq_138_32, zq_138_33, hbz, zB_0, reduceCtorEq]
        cases c3 : zf_taken (I 139) (zn (I 139)) q with
        | true =>
          rw [c3] at k1 m1
          refine no (-5) (fun d P => ?_) (fun d P => ?_)
          · rw [hc]
            simp (disch := omega) only [↓zs_129_40, ↓zs_129_41, ↓zs_129_44, ↓zs_129_45, ↓zs_129_48, ↓zs_129_49, ↓zs_129_52, ↓zs_129_55, ↓zs_129_56, ↓zs_129_59, ↓zs_129_60, ↓zs_129_63, ↓zs_129_64, ↓zs_129_67, ↓zs_129_70, ↓zs_129_73, zx_pu_s, zx_pu_n, zx_rv_s, zx_rv_n, true_and, and_true, true_or, or_true, zb_0, zb_1, zq_lcl, zq_lcg, zq_lce, eq_self, ite_true, ite_false, zk_0, zw_0, zk_1, zw_1, zq_0_0, zq_0_1, zq_0_2, zq_0_3, zq_0_4, zq_0_5, zq_0_6, zq_0_7, zq_0_8, zq_0_9, zq_0_10, zq_0_11, zq_1_0, zq_1_1, zq_1_2, zq_1_3, zq_1_4, zq_1_5, zk_11, zw_11, zq_11_0, zq_11_1, zq_11_2, k1, zB_0, reduceCtorEq]
          · rw [hmm]
            simp (disch := omega) only [↓zs_247_43, ↓zs_247_44, ↓zs_247_45, ↓zs_247_48, ↓zs_247_51, ↓zs_247_52, ↓zs_247_53, ↓zs_247_56, ↓zs_247_59, ↓zs_247_62, zx_pu_s, zx_pu_n, zx_rv_s, zx_rv_n, true_and, and_true, true_or, or_true, zb_0, zb_1, zq_lcl, zq_lcg, zq_lce, eq_self, ite_true, ite_false, zk_138, zw_138, zk_139, zw_139, zk_140, zw_140, zk_141, zw_141, zk_142, zw_142, zk_143, zw_143, zk_144, zw_144, zk_145, zw_145, zk_146, zw_146, zk_147, zw_147, zk_148, zw_148, zk_149, zw_149, zk_150, zw_150, zk_151, zw_151, zk_152, zw_152, zq_138_1, zq_138_2, zq_138_3, zq_138_4, zq_138_16, zq_138_19, zq_138_20, zq_138_24, zq_138_25, zq_138_26, zq_138_27, zq_138_31, zq_138_32, zq_138_33, m1, zB_0, reduceCtorEq]
        | false =>
          rw [c3] at k1 m1
          cases c4 : zf_taken (I 139) (zn (I 139)) t with
          | true =>
            rw [c4] at k2 m2
            refine no (-5) (fun d P => ?_) (fun d P => ?_)
            · rw [hc]
              simp (disch := omega) only [↓zs_129_40, ↓zs_129_41, ↓zs_129_44, ↓zs_129_45, ↓zs_129_48, ↓zs_129_49, ↓zs_129_52, ↓zs_129_55, ↓zs_129_56, ↓zs_129_59, ↓zs_129_60, ↓zs_129_63, ↓zs_129_64, ↓zs_129_67, ↓zs_129_70, ↓zs_129_73, zx_pu_s, zx_pu_n, zx_rv_s, zx_rv_n, true_and, and_true, true_or, or_true, zb_0, zb_1, zq_lcl, zq_lcg, zq_lce, eq_self, ite_true, ite_false, zk_0, zw_0, zk_1, zw_1, zq_0_0, zq_0_1, zq_0_2, zq_0_3, zq_0_4, zq_0_5, zq_0_6, zq_0_7, zq_0_8, zq_0_9, zq_0_10, zq_0_11, zq_1_0, zq_1_1, zq_1_2, zq_1_3, zq_1_4, zq_1_5, zk_11, zw_11, zq_11_0, zq_11_1, zq_11_2, k1, k2, zB_0, reduceCtorEq]
            · rw [hmm]
              simp (disch := omega) only [↓zs_247_43, ↓zs_247_44, ↓zs_247_45, ↓zs_247_48, ↓zs_247_51, ↓zs_247_52, ↓zs_247_53, ↓zs_247_56, ↓zs_247_59, ↓zs_247_62, zx_pu_s, zx_pu_n, zx_rv_s, zx_rv_n, true_and, and_true, true_or, or_true, zb_0, zb_1, zq_lcl, zq_lcg, zq_lce, eq_self, ite_true, ite_false, zk_138, zw_138, zk_139, zw_139, zk_140, zw_140, zk_141, zw_141, zk_142, zw_142, zk_143, zw_143, zk_144, zw_144, zk_145, zw_145, zk_146, zw_146, zk_147, zw_147, zk_148, zw_148, zk_149, zw_149, zk_150, zw_150, zk_151, zw_151, zk_152, zw_152, zq_138_1, zq_138_2, zq_138_3, zq_138_4, zq_138_16, zq_138_19, zq_138_20, zq_138_24, zq_138_25, zq_138_26, zq_138_27, zq_138_31, zq_138_32, zq_138_33, m1, m2, zB_0, reduceCtorEq]
          | false =>
            rw [c4] at k2 m2
            obtain ⟨I2, J2, s2, z2, h3⟩ := sc_lookAhead (Lh := Lh) v hm w0
            obtain ⟨J3, f3, h4⟩ := sc_howMany (Lh := Lh) (t := t) z2 v.2.1 hq ht hn
            have s3 : zScr I J I2 J3 := zScr_t s2 (zScr_J (fun a n => f3 a (by omega) (by omega)))
            have v3 : zInv I2 J3 m := zInv_scr s3 v
            have e3 : I2 139 = I 139 := zScr_139 s3
            obtain ⟨I4, J4, s4, z4, h5⟩ := sp_lookAhead (Lh := Lh) (n := n) v3 hm (by omega)
            rw [e3] at z4
            obtain ⟨J5, f5, h6⟩ := sp_howMany (Lh := Lh) (t := t) z4 v.2.1 hq ht (by omega)
            have s5 : zScr I2 J3 I4 J5 := zScr_t s4 (zScr_J (fun a n => f5 a (by omega) (by omega)))
            have m1' := sp_taken2 (Lh := Lh) (J := J3) (B := I 139) (I := zx_u I2 138 0 (nI 0)) (by rw [zu_139, e3]) v.2.1 q64
            have m2' := sp_taken2 (Lh := Lh) (J := J3) (B := I 139) (I := zx_u I2 138 0 (nI 0)) (by rw [zu_139, e3]) v.2.1 t64
            rw [c3] at m1'
            rw [c4] at m2'
            have ok3 : zM_ok (zx_u I2 138 0 (nI 0) 139) (zw (I 139)) (zh (I 139)) (zn (I 139)) := by rw [zu_139, e3]; exact ok
            have p1' := fun d P => sp_isStone (d := d) (Lh := Lh) (J := J3) (P := P) (nI q).toInt64 ok3.1.1 ok3.1.2.1 (by omega)
            have p2' := fun d P => sp_isStone (d := d) (Lh := Lh) (J := J3) (P := P) (nI t).toInt64 ok3.1.1 ok3.1.2.1 (by omega)
            rw [Int32.toInt_toInt64, c1] at p1'
            rw [Int32.toInt_toInt64, c2] at p2'
            refine ⟨.long (zf_M (I 139) q n t), I2, J3, I4, J5, fun d P => ?_, fun d P => ?_, zScr_t s3 s5⟩
            · rw [hc]
              simp (disch := omega) only [↓zs_129_40, ↓zs_129_41, ↓zs_129_44, ↓zs_129_45, ↓zs_129_48, ↓zs_129_49, ↓zs_129_52, ↓zs_129_55, ↓zs_129_56, ↓zs_129_59, ↓zs_129_60, ↓zs_129_63, ↓zs_129_64, ↓zs_129_67, ↓zs_129_70, ↓zs_129_73, zx_pu_s, zx_pu_n, zx_rv_s, zx_rv_n, true_and, and_true, true_or, or_true, zb_0, zb_1, zq_lcl, zq_lcg, zq_lce, eq_self, ite_true, ite_false, zk_0, zw_0, zk_1, zw_1, zq_0_0, zq_0_1, zq_0_2, zq_0_3, zq_0_4, zq_0_5, zq_0_6, zq_0_7, zq_0_8, zq_0_9, zq_0_10, zq_0_11, zq_1_0, zq_1_1, zq_1_2, zq_1_3, zq_1_4, zq_1_5, zk_11, zw_11, zq_11_0, zq_11_1, zq_11_2, k1, k2, zB_0, reduceCtorEq]
              simp (disch := omega) only [↓zs_129_74, ↓zs_129_75, ↓zs_129_78, ↓zs_129_79, ↓zs_129_82, ↓zs_129_83, ↓zs_129_86, ↓zs_129_89, ↓zs_129_90, ↓zs_129_93, ↓zs_129_94, ↓zs_129_97, ↓zs_129_98, ↓zs_129_99, ↓zs_129_100, ↓zs_129_103, zx_pu_s, zx_pu_n, zx_rv_s, zx_rv_n, true_and, and_true, true_or, or_true, zb_0, zb_1, zq_lcl, zq_lcg, zq_lce, eq_self, ite_true, ite_false, zk_0, zw_0, zk_1, zw_1, zq_0_0, zq_0_1, zq_0_2, zq_0_3, zq_0_4, zq_0_5, zq_0_6, zq_0_7, zq_0_8, zq_0_9, zq_0_10, zq_0_11, zq_1_0, zq_1_1, zq_1_2, zq_1_3, zq_1_4, zq_1_5, zk_11, zw_11, zq_11_0, zq_11_1, zq_11_2, zk_70, zw_70, zq_70_0, zq_70_1, zq_70_2, zq_70_3, zq_70_4, h3, h4]
            · rw [← h6 (d + 24) P, ze_247]
              simp (disch := omega) only [↓zs_247_0, ↓zs_247_1, ↓zs_247_2, ↓zs_247_5, ↓zs_247_6, ↓zs_247_7, ↓zs_247_8, ↓zs_247_11, ↓zs_247_14, ↓zs_247_15, ↓zs_247_16, ↓zs_247_17, ↓zs_247_20, ↓zs_247_23, ↓zs_247_26, zx_pu_s, zx_pu_n, zx_rv_s, zx_rv_n, true_and, and_true, true_or, or_true, zb_0, zb_1, zq_lcl, zq_lcg, zq_lce, eq_self, ite_true, ite_false, zk_138, zw_138, zk_139, zw_139, zk_140, zw_140, zk_141, zw_141, zk_142, zw_142, zk_143, zw_143, zk_144, zw_144, zk_145, zw_145, zk_146, zw_146, zk_147, zw_147, zk_148, zw_148, zk_149, zw_149, zk_150, zw_150, zk_151, zw_151, zk_152, zw_152, zq_138_1, zq_138_2, zq_138_3, zq_138_4, zq_138_16, zq_138_19, zq_138_20, zq_138_24, zq_138_25, zq_138_26, zq_138_27, zq_138_31, zq_138_32, zq_138_33, p1', p2', zB_0, reduceCtorEq]
              simp (disch := omega) only [↓zs_247_27, ↓zs_247_28, ↓zs_247_29, ↓zs_247_30, ↓zs_247_33, ↓zs_247_36, ↓zs_247_39, ↓zs_247_42, zx_pu_s, zx_pu_n, zx_rv_s, zx_rv_n, true_and, and_true, true_or, or_true, zb_0, zb_1, zq_lcl, zq_lcg, zq_lce, eq_self, ite_true, ite_false, zk_138, zw_138, zk_139, zw_139, zk_140, zw_140, zk_141, zw_141, zk_142, zw_142, zk_143, zw_143, zk_144, zw_144, zk_145, zw_145, zk_146, zw_146, zk_147, zw_147, zk_148, zw_148, zk_149, zw_149, zk_150, zw_150, zk_151, zw_151, zk_152, zw_152, zq_138_1, zq_138_2, zq_138_3, zq_138_4, zq_138_16, zq_138_19, zq_138_20, zq_138_24, zq_138_25, zq_138_26, zq_138_27, zq_138_31, zq_138_32, zq_138_33, hbz, zB_0, reduceCtorEq]
              simp (disch := omega) only [↓zs_247_43, ↓zs_247_44, ↓zs_247_45, ↓zs_247_48, ↓zs_247_51, ↓zs_247_52, ↓zs_247_53, ↓zs_247_56, ↓zs_247_59, ↓zs_247_62, ↓zs_247_63, ↓zs_247_64, ↓zs_247_65, zx_pu_s, zx_pu_n, zx_rv_s, zx_rv_n, true_and, and_true, true_or, or_true, zb_0, zb_1, zq_lcl, zq_lcg, zq_lce, eq_self, ite_true, ite_false, zk_138, zw_138, zk_139, zw_139, zk_140, zw_140, zk_141, zw_141, zk_142, zw_142, zk_143, zw_143, zk_144, zw_144, zk_145, zw_145, zk_146, zw_146, zk_147, zw_147, zk_148, zw_148, zk_149, zw_149, zk_150, zw_150, zk_151, zw_151, zk_152, zw_152, zq_138_1, zq_138_2, zq_138_3, zq_138_4, zq_138_16, zq_138_19, zq_138_20, zq_138_24, zq_138_25, zq_138_26, zq_138_27, zq_138_31, zq_138_32, zq_138_33, m1', m2', zB_0, reduceCtorEq, h5]
end QH
