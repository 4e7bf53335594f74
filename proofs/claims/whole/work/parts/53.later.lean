/-! later, statue -/
section LA
variable {Lh m : Nat}
theorem c_later (hm : m < 2 ^ 29) (x y z : Int32) : zCq Lh 121 [.int x, .int y, .int z] (fun B => .int (zf_later x y z B)) m := by
  intro I J v
  obtain ⟨⟨hw, hh, hN⟩, gr, g, ex, ok, N8, wh⟩ := zInv_k v
  have h1 := fun d P => sc_hasStatue (d := d) (Lh := Lh) (I := I) (J := J) (P := P) zx_sq1 x hN N8
  have yl := zq_lt0 y
  have yg := zq_gt y (n := 200) (by omega)
  have zl' := zq_lt0 z
  have zg := zq_gt z (n := 2) (by omega)
  unfold zf_later
  dsimp only
  cases c1 : zf_in x.toInt (zn (I 139)) with
  | false =>
    refine ⟨I, J, zScr_r I J, fun d P => ?_⟩
    rw [Bool.false_and, Bool.false_and, if_neg (by decide), ze_121]
    simp (disch := omega) only [↓zs_121_0, ↓zs_121_1, ↓zs_121_4, ↓zs_121_5, ↓zs_121_8, ↓zs_121_11, ↓zs_121_12, ↓zs_121_15, ↓zs_121_16, ↓zs_121_19, ↓zs_121_22, ↓zs_121_23, ↓zs_121_26, ↓zs_121_27, ↓zs_121_28, ↓zs_121_31, ↓zs_121_33, ↓zs_121_34, ↓zs_121_35, ↓zs_121_38, ↓zs_121_39, ↓zs_121_42, ↓zs_121_45, ↓zs_121_46, zx_pu_s, zx_pu_n, zx_rv_s, zx_rv_n, true_and, and_true, true_or, or_true, zb_0, zb_1, zq_lcl, zq_lcg, zq_lce, eq_self, ite_true, ite_false, zk_0, zw_0, zk_1, zw_1, zq_0_0, zq_0_1, zq_0_2, zq_0_3, zq_0_4, zq_0_5, zq_0_6, zq_0_7, zq_0_8, zq_0_9, zq_0_10, zq_0_11, zq_1_0, zq_1_1, zq_1_2, zq_1_3, zq_1_4, zq_1_5, h1, c1, zB_0, reduceCtorEq]
  | true =>
    cases c2 : zf_bt 0 200 y.toInt with
    | false =>
      refine ⟨I, J, zScr_r I J, fun d P => ?_⟩
      rw [Bool.true_and, Bool.false_and, if_neg (by decide), ze_121]
      rcases zf_bt_no c2 with q | ⟨q1, q2⟩
      · simp (disch := omega) only [↓zs_121_0, ↓zs_121_1, ↓zs_121_4, ↓zs_121_5, ↓zs_121_8, ↓zs_121_11, ↓zs_121_12, ↓zs_121_15, ↓zs_121_16, ↓zs_121_19, ↓zs_121_22, ↓zs_121_23, ↓zs_121_26, ↓zs_121_27, ↓zs_121_28, ↓zs_121_31, ↓zs_121_33, ↓zs_121_34, ↓zs_121_35, ↓zs_121_38, ↓zs_121_39, ↓zs_121_42, ↓zs_121_45, ↓zs_121_46, zx_pu_s, zx_pu_n, zx_rv_s, zx_rv_n, true_and, and_true, true_or, or_true, zb_0, zb_1, zq_lcl, zq_lcg, zq_lce, eq_self, ite_true, ite_false, zk_0, zw_0, zk_1, zw_1, zq_0_0, zq_0_1, zq_0_2, zq_0_3, zq_0_4, zq_0_5, zq_0_6, zq_0_7, zq_0_8, zq_0_9, zq_0_10, zq_0_11, zq_1_0, zq_1_1, zq_1_2, zq_1_3, zq_1_4, zq_1_5, h1, c1, zB_0, reduceCtorEq, yl, q]
      · simp (disch := omega) only [↓zs_121_0, ↓zs_121_1, ↓zs_121_4, ↓zs_121_5, ↓zs_121_8, ↓zs_121_11, ↓zs_121_12, ↓zs_121_15, ↓zs_121_16, ↓zs_121_19, ↓zs_121_22, ↓zs_121_23, ↓zs_121_26, ↓zs_121_27, ↓zs_121_28, ↓zs_121_31, ↓zs_121_33, ↓zs_121_34, ↓zs_121_35, ↓zs_121_38, ↓zs_121_39, ↓zs_121_42, ↓zs_121_45, ↓zs_121_46, zx_pu_s, zx_pu_n, zx_rv_s, zx_rv_n, true_and, and_true, true_or, or_true, zb_0, zb_1, zq_lcl, zq_lcg, zq_lce, eq_self, ite_true, ite_false, zk_0, zw_0, zk_1, zw_1, zq_0_0, zq_0_1, zq_0_2, zq_0_3, zq_0_4, zq_0_5, zq_0_6, zq_0_7, zq_0_8, zq_0_9, zq_0_10, zq_0_11, zq_1_0, zq_1_1, zq_1_2, zq_1_3, zq_1_4, zq_1_5, h1, c1, zB_0, reduceCtorEq, yl, yg, q1, q2]
    | true =>
      cases c3 : zf_bt 0 2 z.toInt with
      | false =>
        obtain ⟨q4, q5⟩ := zf_btP.mp c2
        have q6 : ¬ y.toInt < 0 := by omega
        have q7 : ¬ ((200 : Nat) : Int) < y.toInt := by omega
        refine ⟨I, J, zScr_r I J, fun d P => ?_⟩
        rw [Bool.true_and, Bool.true_and, if_neg (by decide), ze_121]
        rcases zf_bt_no c3 with q | ⟨q1, q2⟩
        · simp (disch := omega) only [↓zs_121_0, ↓zs_121_1, ↓zs_121_4, ↓zs_121_5, ↓zs_121_8, ↓zs_121_11, ↓zs_121_12, ↓zs_121_15, ↓zs_121_16, ↓zs_121_19, ↓zs_121_22, ↓zs_121_23, ↓zs_121_26, ↓zs_121_27, ↓zs_121_28, ↓zs_121_31, ↓zs_121_33, ↓zs_121_34, ↓zs_121_35, ↓zs_121_38, ↓zs_121_39, ↓zs_121_42, ↓zs_121_45, ↓zs_121_46, zx_pu_s, zx_pu_n, zx_rv_s, zx_rv_n, true_and, and_true, true_or, or_true, zb_0, zb_1, zq_lcl, zq_lcg, zq_lce, eq_self, ite_true, ite_false, zk_0, zw_0, zk_1, zw_1, zq_0_0, zq_0_1, zq_0_2, zq_0_3, zq_0_4, zq_0_5, zq_0_6, zq_0_7, zq_0_8, zq_0_9, zq_0_10, zq_0_11, zq_1_0, zq_1_1, zq_1_2, zq_1_3, zq_1_4, zq_1_5, h1, c1, zB_0, reduceCtorEq, yl, yg, q6, q7, zl', q]
        · simp (disch := omega) only [↓zs_121_0, ↓zs_121_1, ↓zs_121_4, ↓zs_121_5, ↓zs_121_8, ↓zs_121_11, ↓zs_121_12, ↓zs_121_15, ↓zs_121_16, ↓zs_121_19, ↓zs_121_22, ↓zs_121_23, ↓zs_121_26, ↓zs_121_27, ↓zs_121_28, ↓zs_121_31, ↓zs_121_33, ↓zs_121_34, ↓zs_121_35, ↓zs_121_38, ↓zs_121_39, ↓zs_121_42, ↓zs_121_45, ↓zs_121_46, zx_pu_s, zx_pu_n, zx_rv_s, zx_rv_n, true_and, and_true, true_or, or_true, zb_0, zb_1, zq_lcl, zq_lcg, zq_lce, eq_self, ite_true, ite_false, zk_0, zw_0, zk_1, zw_1, zq_0_0, zq_0_1, zq_0_2, zq_0_3, zq_0_4, zq_0_5, zq_0_6, zq_0_7, zq_0_8, zq_0_9, zq_0_10, zq_0_11, zq_1_0, zq_1_1, zq_1_2, zq_1_3, zq_1_4, zq_1_5, h1, c1, zB_0, reduceCtorEq, yl, yg, q6, q7, zl', zg, q1, q2]
      | true =>
        rw [Bool.true_and, Bool.true_and, if_pos rfl]
        have e := zq_toI (x := x) rfl c1 (by omega)
        have hs : x.toInt.toNat < 8 := by have := zf_inP.mp c1; omega
        generalize x.toInt.toNat = s at e hs
        subst e
        obtain ⟨k, -, hk, rfl⟩ := zf_bt_nI c2 (by omega)
        rw [nI_toInt (by omega), Int.toNat_natCast]
        obtain ⟨z9, -, hz9, rfl⟩ := zf_bt_nI c3 (by omega)
        have a1 : ¬ 200 < k := by omega
        have a2 : ¬ 2 < z9 := by omega
        obtain ⟨I1, f1, -, r1, hb⟩ := sc_become (Lh := Lh) (I := I) (J := J) zx_st19 zx_st11 (by decide)
        have loop : ∀ mm n I2, n + mm = k → zFc 19 I I2 → zR_st I2 19 (zf_ni (I 139) n) → ∃ I3, zFc 19 I I3 ∧ zR_st I3 19 (zf_ni (I 139) k) ∧ ∀ d P, zx_wp (d + 30) 121 48 [.ref 0, .int (nI s), .int (nI k), .int (nI z9), .int (nI n)] [] (zx_LL Lh) I2 J P = zx_wp (d + 30) 121 72 [.ref 0, .int (nI s), .int (nI k), .int (nI z9), .int (nI k)] [] (zx_LL Lh) I3 J P := by
          intro mm
          induction mm with
          | zero =>
            intro n I2 hn f r
            obtain rfl : n = k := by omega
            refine ⟨I2, f, r, fun d P => ?_⟩
            rw [zs_121_48]
            simp (disch := omega) only [↓zs_121_50, ↓zs_121_51, ↓zs_121_54, ↓zs_121_55, ↓zs_121_58, ↓zs_121_59, ↓zs_121_62, ↓zs_121_65, ↓zs_121_66, ↓zs_121_69, zx_pu_s, zx_pu_n, zx_rv_s, zx_rv_n, true_and, and_true, true_or, or_true, zb_0, zb_1, zq_lcl, zq_lcg, zq_lce, eq_self, ite_true, ite_false, zk_0, zw_0, zk_1, zw_1, zq_0_0, zq_0_1, zq_0_2, zq_0_3, zq_0_4, zq_0_5, zq_0_6, zq_0_7, zq_0_8, zq_0_9, zq_0_10, zq_0_11, zq_1_0, zq_1_1, zq_1_2, zq_1_3, zq_1_4, zq_1_5, zk_19, zw_19, zq_19_0, zq_19_1, zq_19_2, zn_10, zn_40, zn_040, zn_340, nI_add, zin_nI, nI_clamp, nI_ltI, nI_eq, pk_mul, nI_1, Nat.lt_irrefl]
          | succ mm ih =>
            intro n I2 hn f r
            have hlt : n < k := by omega
            obtain ⟨I3, f3, r3, h3⟩ := sc_nightN (Lh := Lh) (n := n) zx_st19 v.2.1 (by omega) v.2.2.1 f r
            obtain ⟨I4, f4, r4, h4⟩ := ih (n + 1) I3 (by omega) f3 r3
            refine ⟨I4, f4, r4, fun d P => ?_⟩
            rw [← h4 d P, zs_121_48]
            simp (disch := omega) only [↓zs_121_50, ↓zs_121_51, ↓zs_121_54, ↓zs_121_55, ↓zs_121_58, ↓zs_121_59, ↓zs_121_62, ↓zs_121_65, ↓zs_121_66, ↓zs_121_69, zx_pu_s, zx_pu_n, zx_rv_s, zx_rv_n, true_and, and_true, true_or, or_true, zb_0, zb_1, zq_lcl, zq_lcg, zq_lce, eq_self, ite_true, ite_false, zk_0, zw_0, zk_1, zw_1, zq_0_0, zq_0_1, zq_0_2, zq_0_3, zq_0_4, zq_0_5, zq_0_6, zq_0_7, zq_0_8, zq_0_9, zq_0_10, zq_0_11, zq_1_0, zq_1_1, zq_1_2, zq_1_3, zq_1_4, zq_1_5, zk_19, zw_19, zq_19_0, zq_19_1, zq_19_2, zn_10, zn_40, zn_040, zn_340, nI_add, zin_nI, nI_clamp, nI_ltI, nI_eq, pk_mul, nI_1, Nat.lt_irrefl, hlt, h3]
        obtain ⟨I3, f3, r3, h3⟩ := loop k 0 I1 (by omega) f1 (r1 _ v.2.2.2.1)
        obtain ⟨okn, gn, en, sn⟩ := zf_ni_ok v.2.1 k (by omega)
        have hsee := fun d P => sc_seenBy (d := d) (Lh := Lh) (J := J) (P := P) (s := s) zx_sq1 zx_st19 (zFc_si zx_st19 f3 v.1) hs ((f3 1 6 (by omega)).trans hw) ((f3 1 7 (by omega)).trans hh) (zR_ground_s sn gr) gn en r3 okn
        have d1 := (r3.2 s hs).2.1
        have d2 := (r3.2 s hs).2.2
        refine ⟨I3, J, zScr_c f3 (by omega), fun d P => ?_⟩
        rw [ze_121]
        simp (disch := omega) only [↓zs_121_0, ↓zs_121_1, ↓zs_121_4, ↓zs_121_5, ↓zs_121_8, ↓zs_121_11, ↓zs_121_12, ↓zs_121_15, ↓zs_121_16, ↓zs_121_19, ↓zs_121_22, ↓zs_121_23, ↓zs_121_26, ↓zs_121_27, ↓zs_121_28, ↓zs_121_31, ↓zs_121_33, ↓zs_121_34, ↓zs_121_35, ↓zs_121_38, ↓zs_121_39, ↓zs_121_42, ↓zs_121_45, ↓zs_121_46, zx_pu_s, zx_pu_n, zx_rv_s, zx_rv_n, true_and, and_true, true_or, or_true, zb_0, zb_1, zq_lcl, zq_lcg, zq_lce, eq_self, ite_true, ite_false, zk_0, zw_0, zk_1, zw_1, zq_0_0, zq_0_1, zq_0_2, zq_0_3, zq_0_4, zq_0_5, zq_0_6, zq_0_7, zq_0_8, zq_0_9, zq_0_10, zq_0_11, zq_1_0, zq_1_1, zq_1_2, zq_1_3, zq_1_4, zq_1_5, zk_11, zw_11, zq_11_0, zq_11_1, zq_11_2, zk_19, zw_19, zq_19_0, zq_19_1, zq_19_2, zn_10, zn_40, zn_040, zn_340, nI_add, zin_nI, nI_clamp, nI_ltI, nI_eq, pk_mul, nI_1, Nat.lt_irrefl, h1, c1, zB_0, reduceCtorEq, zn_lt0, a1, a2, hb]
        rw [h3]
        rcases (show z9 = 0 ∨ z9 = 1 ∨ z9 = 2 by omega) with e | e | e <;> subst e
        · simp (disch := omega) only [↓zs_121_72, ↓zs_121_73, ↓zs_121_76, ↓zs_121_77, ↓zs_121_80, ↓zs_121_83, ↓zs_121_84, ↓zs_121_85, ↓zs_121_86, ↓zs_121_87, ↓zs_121_88, ↓zs_121_91, ↓zs_121_92, ↓zs_121_95, ↓zs_121_98, ↓zs_121_99, ↓zs_121_100, ↓zs_121_103, ↓zs_121_104, ↓zs_121_107, ↓zs_121_108, ↓zs_121_111, ↓zs_121_112, ↓zs_121_115, zx_pu_s, zx_pu_n, zx_rv_s, zx_rv_n, true_and, and_true, true_or, or_true, zb_0, zb_1, zq_lcl, zq_lcg, zq_lce, eq_self, ite_true, ite_false, zk_0, zw_0, zk_1, zw_1, zq_0_0, zq_0_1, zq_0_2, zq_0_3, zq_0_4, zq_0_5, zq_0_6, zq_0_7, zq_0_8, zq_0_9, zq_0_10, zq_0_11, zq_1_0, zq_1_1, zq_1_2, zq_1_3, zq_1_4, zq_1_5, zk_19, zw_19, zk_20, zw_20, zk_21, zw_21, zk_22, zw_22, zq_19_0, zq_19_1, zq_19_2, zn_10, zn_40, zn_040, zn_340, nI_add, zin_nI, nI_clamp, nI_ltI, nI_eq, pk_mul, nI_1, Nat.lt_irrefl, d1]
        · simp (disch := omega) only [↓zs_121_72, ↓zs_121_73, ↓zs_121_76, ↓zs_121_77, ↓zs_121_80, ↓zs_121_83, ↓zs_121_84, ↓zs_121_85, ↓zs_121_86, ↓zs_121_87, ↓zs_121_88, ↓zs_121_91, ↓zs_121_92, ↓zs_121_95, ↓zs_121_98, ↓zs_121_99, ↓zs_121_100, ↓zs_121_103, ↓zs_121_104, ↓zs_121_107, ↓zs_121_108, ↓zs_121_111, ↓zs_121_112, ↓zs_121_115, zx_pu_s, zx_pu_n, zx_rv_s, zx_rv_n, true_and, and_true, true_or, or_true, zb_0, zb_1, zq_lcl, zq_lcg, zq_lce, eq_self, ite_true, ite_false, zk_0, zw_0, zk_1, zw_1, zq_0_0, zq_0_1, zq_0_2, zq_0_3, zq_0_4, zq_0_5, zq_0_6, zq_0_7, zq_0_8, zq_0_9, zq_0_10, zq_0_11, zq_1_0, zq_1_1, zq_1_2, zq_1_3, zq_1_4, zq_1_5, zk_19, zw_19, zk_20, zw_20, zk_21, zw_21, zk_22, zw_22, zq_19_0, zq_19_1, zq_19_2, zn_10, zn_40, zn_040, zn_340, zin_nI, nI_clamp, zq_ne, d2]
        · simp (disch := omega) only [↓zs_121_72, ↓zs_121_73, ↓zs_121_76, ↓zs_121_77, ↓zs_121_80, ↓zs_121_83, ↓zs_121_84, ↓zs_121_85, ↓zs_121_86, ↓zs_121_87, ↓zs_121_88, ↓zs_121_91, ↓zs_121_92, ↓zs_121_95, ↓zs_121_98, ↓zs_121_99, ↓zs_121_100, ↓zs_121_103, ↓zs_121_104, ↓zs_121_107, ↓zs_121_108, ↓zs_121_111, ↓zs_121_112, ↓zs_121_115, zx_pu_s, zx_pu_n, zx_rv_s, zx_rv_n, true_and, and_true, true_or, or_true, zb_0, zb_1, zq_lcl, zq_lcg, zq_lce, eq_self, ite_true, ite_false, zk_0, zw_0, zk_1, zw_1, zq_0_0, zq_0_1, zq_0_2, zq_0_3, zq_0_4, zq_0_5, zq_0_6, zq_0_7, zq_0_8, zq_0_9, zq_0_10, zq_0_11, zq_1_0, zq_1_1, zq_1_2, zq_1_3, zq_1_4, zq_1_5, zk_19, zw_19, zk_20, zw_20, zk_21, zw_21, zk_22, zw_22, zq_19_0, zq_19_1, zq_19_2, zn_10, zn_40, zn_040, zn_340, zin_nI, nI_clamp, zq_ne, hsee]
          rfl
theorem m_later (hm : m < 2 ^ 29) (x y z : Int32) : zMq Lh 233 [.int x, .int y, .int z] (fun B => .int (zf_later x y z B)) m := by
  intro I J v
  obtain ⟨⟨hw, hh, hN⟩, gr, g, ex, ok, N8, wh⟩ := zInv_k v
  have ok2 : zM_ok (zx_u I 138 0 (nI 0) 139) (zw (I 139)) (zh (I 139)) (zn (I 139)) := by rw [zu_139]; exact ok
  have h2 := fun d P => sp_isStatue (d := d) (Lh := Lh) (J := J) (P := P) x.toInt64 ok2.1.2.2.1 N8
  rw [Int32.toInt_toInt64] at h2
  have hby := fun d L I J P => sp_bt (d := d) (L := L) (I := I) (J := J) (P := P) y (a := 0) (b := 200) (by omega) (by omega)
  have hbz := fun d L I J P => sp_bt (d := d) (L := L) (I := I) (J := J) (P := P) z (a := 0) (b := 2) (by omega) (by omega)
  unfold zf_later
  dsimp only
  cases c1 : zf_in x.toInt (zn (I 139)) with
  | false =>
    refine ⟨zx_u I 138 0 (nI 0), J, zScr_s (zFs_0 _ _), fun d P => ?_⟩
    rw [Bool.false_and, Bool.false_and, if_neg (by decide), ze_233]
    simp (disch := omega) only [↓zs_233_0, ↓zs_233_1, ↓zs_233_2, ↓zs_233_5, ↓zs_233_6, ↓zs_233_7, ↓zs_233_8, ↓zs_233_11, ↓zs_233_14, ↓zs_233_15, ↓zs_233_16, ↓zs_233_17, ↓zs_233_20, ↓zs_233_23, ↓zs_233_26, ↓zs_233_27, ↓zs_233_28, ↓zs_233_29, ↓zs_233_32, ↓zs_233_35, ↓zs_233_38, ↓zs_233_40, ↓zs_233_41, ↓zs_233_42, ↓zs_233_45, ↓zs_233_46, zx_pu_s, zx_pu_n, zx_rv_s, zx_rv_n, true_and, and_true, true_or, or_true, zb_0, zb_1, zq_lcl, zq_lcg, zq_lce, eq_self, ite_true, ite_false, zk_138, zw_138, zk_139, zw_139, zk_140, zw_140, zk_141, zw_141, zk_142, zw_142, zk_143, zw_143, zk_144, zw_144, zk_145, zw_145, zk_146, zw_146, zk_147, zw_147, zk_148, zw_148, zk_149, zw_149, zk_150, zw_150, zk_151, zw_151, zk_152, zw_152, zq_138_1, zq_138_2, zq_138_3, zq_138_4, zq_138_16, zq_138_19, zq_138_20, zq_138_24, zq_138_25, zq_138_26, zq_138_27, zq_138_31, zq_138_32, zq_138_33, h2, c1, zB_0, reduceCtorEq]
  | true =>
    cases c3 : zf_bt 0 2 z.toInt with
    | false =>
      refine ⟨zx_u I 138 0 (nI 0), J, zScr_s (zFs_0 _ _), fun d P => ?_⟩
      rw [Bool.and_false, if_neg (by decide), ze_233]
      simp (disch := omega) only [↓zs_233_0, ↓zs_233_1, ↓zs_233_2, ↓zs_233_5, ↓zs_233_6, ↓zs_233_7, ↓zs_233_8, ↓zs_233_11, ↓zs_233_14, ↓zs_233_15, ↓zs_233_16, ↓zs_233_17, ↓zs_233_20, ↓zs_233_23, ↓zs_233_26, ↓zs_233_27, ↓zs_233_28, ↓zs_233_29, ↓zs_233_32, ↓zs_233_35, ↓zs_233_38, ↓zs_233_40, ↓zs_233_41, ↓zs_233_42, ↓zs_233_45, ↓zs_233_46, zx_pu_s, zx_pu_n, zx_rv_s, zx_rv_n, true_and, and_true, true_or, or_true, zb_0, zb_1, zq_lcl, zq_lcg, zq_lce, eq_self, ite_true, ite_false, zk_138, zw_138, zk_139, zw_139, zk_140, zw_140, zk_141, zw_141, zk_142, zw_142, zk_143, zw_143, zk_144, zw_144, zk_145, zw_145, zk_146, zw_146, zk_147, zw_147, zk_148, zw_148, zk_149, zw_149, zk_150, zw_150, zk_151, zw_151, zk_152, zw_152, zq_138_1, zq_138_2, zq_138_3, zq_138_4, zq_138_16, zq_138_19, zq_138_20, zq_138_24, zq_138_25, zq_138_26, zq_138_27, zq_138_31, zq_138_32, zq_138_33, h2, c1, zB_0, reduceCtorEq, hbz, c3]
    | true =>
      cases c2 : zf_bt 0 200 y.toInt with
      | false =>
        refine ⟨zx_u I 138 0 (nI 0), J, zScr_s (zFs_0 _ _), fun d P => ?_⟩
        rw [Bool.true_and, Bool.false_and, if_neg (by decide), ze_233]
        simp (disch := omega) only [↓zs_233_0, ↓zs_233_1, ↓zs_233_2, ↓zs_233_5, ↓zs_233_6, ↓zs_233_7, ↓zs_233_8, ↓zs_233_11, ↓zs_233_14, ↓zs_233_15, ↓zs_233_16, ↓zs_233_17, ↓zs_233_20, ↓zs_233_23, ↓zs_233_26, ↓zs_233_27, ↓zs_233_28, ↓zs_233_29, ↓zs_233_32, ↓zs_233_35, ↓zs_233_38, ↓zs_233_40, ↓zs_233_41, ↓zs_233_42, ↓zs_233_45, ↓zs_233_46, zx_pu_s, zx_pu_n, zx_rv_s, zx_rv_n, true_and, and_true, true_or, or_true, zb_0, zb_1, zq_lcl, zq_lcg, zq_lce, eq_self, ite_true, ite_false, zk_138, zw_138, zk_139, zw_139, zk_140, zw_140, zk_141, zw_141, zk_142, zw_142, zk_143, zw_143, zk_144, zw_144, zk_145, zw_145, zk_146, zw_146, zk_147, zw_147, zk_148, zw_148, zk_149, zw_149, zk_150, zw_150, zk_151, zw_151, zk_152, zw_152, zq_138_1, zq_138_2, zq_138_3, zq_138_4, zq_138_16, zq_138_19, zq_138_20, zq_138_24, zq_138_25, zq_138_26, zq_138_27, zq_138_31, zq_138_32, zq_138_33, h2, c1, zB_0, reduceCtorEq, hbz, c3, hby, c2]
      | true =>
        rw [Bool.true_and, Bool.true_and, if_pos rfl]
        rw [c2] at hby
        rw [c3] at hbz
        have e := zq_toI (x := x) rfl c1 (by omega)
        have hs : x.toInt.toNat < 8 := by have := zf_inP.mp c1; omega
        rw [c1] at h2
        generalize x.toInt.toNat = s at e hs
        subst e
        obtain ⟨k, -, hk, rfl⟩ := zf_bt_nI c2 (by omega)
        rw [nI_toInt (by omega), Int.toNat_natCast]
        obtain ⟨z9, -, hz9, rfl⟩ := zf_bt_nI c3 (by omega)
        obtain ⟨I1, f1, f1', g1, hb⟩ := sp_begin (Lh := Lh) (J := J) (I 139) rfl
        have loop : ∀ mm n I2, n + mm = k → zFm I1 I2 → I2 139 = zf_ni (I 139) n → ∃ I3, zFm I1 I3 ∧ I3 139 = zf_ni (I 139) k ∧ ∀ d P, zx_wp (d + 30) 233 48 [.ref 138, .int (nI s), .int (nI k), .int (nI z9), .int (nI n)] [] (zx_LL Lh) I2 J P = zx_wp (d + 30) 233 65 [.ref 138, .int (nI s), .int (nI k), .int (nI z9), .int (nI k)] [] (zx_LL Lh) I3 J P := by
          intro mm
          induction mm with
          | zero =>
            intro n I2 hn f r
            obtain rfl : n = k := by omega
            refine ⟨I2, f, r, fun d P => ?_⟩
            rw [zs_233_48]
            simp (disch := omega) only [↓zs_233_50, ↓zs_233_51, ↓zs_233_54, ↓zs_233_55, ↓zs_233_58, ↓zs_233_59, ↓zs_233_62, zx_pu_s, zx_pu_n, zx_rv_s, zx_rv_n, true_and, and_true, true_or, or_true, zb_0, zb_1, zq_lcl, zq_lcg, zq_lce, eq_self, ite_true, ite_false, zk_138, zw_138, zk_139, zw_139, zk_140, zw_140, zk_141, zw_141, zk_142, zw_142, zk_143, zw_143, zk_144, zw_144, zk_145, zw_145, zk_146, zw_146, zk_147, zw_147, zk_148, zw_148, zk_149, zw_149, zk_150, zw_150, zk_151, zw_151, zk_152, zw_152, zq_138_1, zq_138_2, zq_138_3, zq_138_4, zq_138_16, zq_138_19, zq_138_20, zq_138_24, zq_138_25, zq_138_26, zq_138_27, zq_138_31, zq_138_32, zq_138_33, zn_10, zn_40, zn_040, zn_340, nI_add, zin_nI, nI_clamp, nI_ltI, nI_eq, pk_mul, nI_1, Nat.lt_irrefl]
          | succ mm ih =>
            intro n I2 hn f r
            have hlt : n < k := by omega
            obtain ⟨I3, f3, r3, -, -, h3⟩ := sp_nightN (Lh := Lh) (J := J) (n := n) v.2.1 (by omega) f r
            obtain ⟨I4, f4, r4, h4⟩ := ih (n + 1) I3 (by omega) f3 r3
            refine ⟨I4, f4, r4, fun d P => ?_⟩
            rw [← h4 d P, zs_233_48]
            simp (disch := omega) only [↓zs_233_50, ↓zs_233_51, ↓zs_233_54, ↓zs_233_55, ↓zs_233_58, ↓zs_233_59, ↓zs_233_62, zx_pu_s, zx_pu_n, zx_rv_s, zx_rv_n, true_and, and_true, true_or, or_true, zb_0, zb_1, zq_lcl, zq_lcg, zq_lce, eq_self, ite_true, ite_false, zk_138, zw_138, zk_139, zw_139, zk_140, zw_140, zk_141, zw_141, zk_142, zw_142, zk_143, zw_143, zk_144, zw_144, zk_145, zw_145, zk_146, zw_146, zk_147, zw_147, zk_148, zw_148, zk_149, zw_149, zk_150, zw_150, zk_151, zw_151, zk_152, zw_152, zq_138_1, zq_138_2, zq_138_3, zq_138_4, zq_138_16, zq_138_19, zq_138_20, zq_138_24, zq_138_25, zq_138_26, zq_138_27, zq_138_31, zq_138_32, zq_138_33, zn_10, zn_40, zn_040, zn_340, nI_add, zin_nI, nI_clamp, nI_ltI, nI_eq, pk_mul, nI_1, Nat.lt_irrefl, hlt, h3]
        obtain ⟨I3, f3, r3, h3⟩ := loop k 0 I1 (by omega) (zFm_r I1) (f1 139 (by decide) (by decide))
        obtain ⟨okn, gn, en, sn⟩ := zf_ni_ok v.2.1 k (by omega)
        have si1 : zx_SI I1 := fun a j ha => by rw [f1 a (by omega) (by omega)]; exact v.1 a j ha
        rcases (show z9 = 0 ∨ z9 = 1 ∨ z9 = 2 by omega) with e | e | e
        · subst e
          obtain ⟨he, hscr⟩ := sp_end (Lh := Lh) (J := J) rfl f1 f1' g1 f3 (by rw [r3]; exact sn)
          refine ⟨_, J, hscr, fun d P => ?_⟩
          rw [ze_233]
          simp (disch := omega) only [↓zs_233_0, ↓zs_233_1, ↓zs_233_2, ↓zs_233_5, ↓zs_233_6, ↓zs_233_7, ↓zs_233_8, ↓zs_233_11, ↓zs_233_14, ↓zs_233_15, ↓zs_233_16, ↓zs_233_17, ↓zs_233_20, ↓zs_233_23, ↓zs_233_26, ↓zs_233_27, ↓zs_233_28, ↓zs_233_29, ↓zs_233_32, ↓zs_233_35, ↓zs_233_38, ↓zs_233_40, ↓zs_233_41, ↓zs_233_42, ↓zs_233_45, ↓zs_233_46, zx_pu_s, zx_pu_n, zx_rv_s, zx_rv_n, true_and, and_true, true_or, or_true, zb_0, zb_1, zq_lcl, zq_lcg, zq_lce, eq_self, ite_true, ite_false, zk_138, zw_138, zk_139, zw_139, zk_140, zw_140, zk_141, zw_141, zk_142, zw_142, zk_143, zw_143, zk_144, zw_144, zk_145, zw_145, zk_146, zw_146, zk_147, zw_147, zk_148, zw_148, zk_149, zw_149, zk_150, zw_150, zk_151, zw_151, zk_152, zw_152, zq_138_1, zq_138_2, zq_138_3, zq_138_4, zq_138_16, zq_138_19, zq_138_20, zq_138_24, zq_138_25, zq_138_26, zq_138_27, zq_138_31, zq_138_32, zq_138_33, h2, zB_0, reduceCtorEq, hbz, hby, hb]
          rw [h3]
          simp (disch := omega) only [↓zs_233_65, ↓zs_233_66, ↓zs_233_69, ↓zs_233_70, ↓zs_233_73, ↓zs_233_75, ↓zs_233_76, ↓zs_233_77, ↓zs_233_78, ↓zs_233_81, ↓zs_233_82, ↓zs_233_83, ↓zs_233_86, ↓zs_233_87, ↓zs_233_90, ↓zs_233_92, ↓zs_233_93, ↓zs_233_94, ↓zs_233_95, ↓zs_233_98, ↓zs_233_99, ↓zs_233_100, ↓zs_233_103, ↓zs_233_105, ↓zs_233_106, ↓zs_233_109, ↓zs_233_111, zx_pu_s, zx_pu_n, zx_rv_s, zx_rv_n, true_and, and_true, true_or, or_true, zb_0, zb_1, zq_lcl, zq_lcg, zq_lce, eq_self, ite_true, ite_false, zk_138, zw_138, zk_139, zw_139, zk_140, zw_140, zk_141, zw_141, zk_142, zw_142, zk_143, zw_143, zk_144, zw_144, zk_145, zw_145, zk_146, zw_146, zk_147, zw_147, zk_148, zw_148, zk_149, zw_149, zk_150, zw_150, zk_151, zw_151, zk_152, zw_152, zq_138_1, zq_138_2, zq_138_3, zq_138_4, zq_138_16, zq_138_19, zq_138_20, zq_138_24, zq_138_25, zq_138_26, zq_138_27, zq_138_31, zq_138_32, zq_138_33, zn_10, zn_40, zn_040, zn_340, nI_add, zin_nI, nI_clamp, nI_ltI, nI_eq, pk_mul, nI_1, Nat.lt_irrefl, r3, he]
        · subst e
          obtain ⟨he, hscr⟩ := sp_end (Lh := Lh) (J := J) rfl f1 f1' g1 f3 (by rw [r3]; exact sn)
          refine ⟨_, J, hscr, fun d P => ?_⟩
          rw [ze_233]
          simp (disch := omega) only [↓zs_233_0, ↓zs_233_1, ↓zs_233_2, ↓zs_233_5, ↓zs_233_6, ↓zs_233_7, ↓zs_233_8, ↓zs_233_11, ↓zs_233_14, ↓zs_233_15, ↓zs_233_16, ↓zs_233_17, ↓zs_233_20, ↓zs_233_23, ↓zs_233_26, ↓zs_233_27, ↓zs_233_28, ↓zs_233_29, ↓zs_233_32, ↓zs_233_35, ↓zs_233_38, ↓zs_233_40, ↓zs_233_41, ↓zs_233_42, ↓zs_233_45, ↓zs_233_46, zx_pu_s, zx_pu_n, zx_rv_s, zx_rv_n, true_and, and_true, true_or, or_true, zb_0, zb_1, zq_lcl, zq_lcg, zq_lce, eq_self, ite_true, ite_false, zk_138, zw_138, zk_139, zw_139, zk_140, zw_140, zk_141, zw_141, zk_142, zw_142, zk_143, zw_143, zk_144, zw_144, zk_145, zw_145, zk_146, zw_146, zk_147, zw_147, zk_148, zw_148, zk_149, zw_149, zk_150, zw_150, zk_151, zw_151, zk_152, zw_152, zq_138_1, zq_138_2, zq_138_3, zq_138_4, zq_138_16, zq_138_19, zq_138_20, zq_138_24, zq_138_25, zq_138_26, zq_138_27, zq_138_31, zq_138_32, zq_138_33, h2, zB_0, reduceCtorEq, hbz, hby, hb]
          rw [h3]
          simp (disch := omega) only [↓zs_233_65, ↓zs_233_66, ↓zs_233_69, ↓zs_233_70, ↓zs_233_73, ↓zs_233_75, ↓zs_233_76, ↓zs_233_77, ↓zs_233_78, ↓zs_233_81, ↓zs_233_82, ↓zs_233_83, ↓zs_233_86, ↓zs_233_87, ↓zs_233_90, ↓zs_233_92, ↓zs_233_93, ↓zs_233_94, ↓zs_233_95, ↓zs_233_98, ↓zs_233_99, ↓zs_233_100, ↓zs_233_103, ↓zs_233_105, ↓zs_233_106, ↓zs_233_109, ↓zs_233_111, zx_pu_s, zx_pu_n, zx_rv_s, zx_rv_n, true_and, and_true, true_or, or_true, zb_0, zb_1, zq_lcl, zq_lcg, zq_lce, eq_self, ite_true, ite_false, zk_138, zw_138, zk_139, zw_139, zk_140, zw_140, zk_141, zw_141, zk_142, zw_142, zk_143, zw_143, zk_144, zw_144, zk_145, zw_145, zk_146, zw_146, zk_147, zw_147, zk_148, zw_148, zk_149, zw_149, zk_150, zw_150, zk_151, zw_151, zk_152, zw_152, zq_138_1, zq_138_2, zq_138_3, zq_138_4, zq_138_16, zq_138_19, zq_138_20, zq_138_24, zq_138_25, zq_138_26, zq_138_27, zq_138_31, zq_138_32, zq_138_33, zn_10, zn_40, zn_040, zn_340, zin_nI, nI_clamp, nI_add, zq_ne, r3, he]
        · subst e
          obtain ⟨I4, f4, h4⟩ := sp_seesOf (Lh := Lh) (I := I3) (J := J) (s := s) (zFm_si f3 si1) hs (by rw [r3]; exact okn)
          rw [r3] at h4
          obtain ⟨he, hscr⟩ := sp_end (Lh := Lh) (J := J) rfl f1 f1' g1 (zFm_t f3 (zFs_m f4)) (by rw [zFs_139 f4, r3]; exact sn)
          refine ⟨_, J, hscr, fun d P => ?_⟩
          rw [ze_233]
          simp (disch := omega) only [↓zs_233_0, ↓zs_233_1, ↓zs_233_2, ↓zs_233_5, ↓zs_233_6, ↓zs_233_7, ↓zs_233_8, ↓zs_233_11, ↓zs_233_14, ↓zs_233_15, ↓zs_233_16, ↓zs_233_17, ↓zs_233_20, ↓zs_233_23, ↓zs_233_26, ↓zs_233_27, ↓zs_233_28, ↓zs_233_29, ↓zs_233_32, ↓zs_233_35, ↓zs_233_38, ↓zs_233_40, ↓zs_233_41, ↓zs_233_42, ↓zs_233_45, ↓zs_233_46, zx_pu_s, zx_pu_n, zx_rv_s, zx_rv_n, true_and, and_true, true_or, or_true, zb_0, zb_1, zq_lcl, zq_lcg, zq_lce, eq_self, ite_true, ite_false, zk_138, zw_138, zk_139, zw_139, zk_140, zw_140, zk_141, zw_141, zk_142, zw_142, zk_143, zw_143, zk_144, zw_144, zk_145, zw_145, zk_146, zw_146, zk_147, zw_147, zk_148, zw_148, zk_149, zw_149, zk_150, zw_150, zk_151, zw_151, zk_152, zw_152, zq_138_1, zq_138_2, zq_138_3, zq_138_4, zq_138_16, zq_138_19, zq_138_20, zq_138_24, zq_138_25, zq_138_26, zq_138_27, zq_138_31, zq_138_32, zq_138_33, h2, zB_0, reduceCtorEq, hbz, hby, hb]
          rw [h3]
          simp (disch := omega) only [↓zs_233_65, ↓zs_233_66, ↓zs_233_69, ↓zs_233_70, ↓zs_233_73, ↓zs_233_75, ↓zs_233_76, ↓zs_233_77, ↓zs_233_78, ↓zs_233_81, ↓zs_233_82, ↓zs_233_83, ↓zs_233_86, ↓zs_233_87, ↓zs_233_90, ↓zs_233_92, ↓zs_233_93, ↓zs_233_94, ↓zs_233_95, ↓zs_233_98, ↓zs_233_99, ↓zs_233_100, ↓zs_233_103, ↓zs_233_105, ↓zs_233_106, ↓zs_233_109, ↓zs_233_111, zx_pu_s, zx_pu_n, zx_rv_s, zx_rv_n, true_and, and_true, true_or, or_true, zb_0, zb_1, zq_lcl, zq_lcg, zq_lce, eq_self, ite_true, ite_false, zk_138, zw_138, zk_139, zw_139, zk_140, zw_140, zk_141, zw_141, zk_142, zw_142, zk_143, zw_143, zk_144, zw_144, zk_145, zw_145, zk_146, zw_146, zk_147, zw_147, zk_148, zw_148, zk_149, zw_149, zk_150, zw_150, zk_151, zw_151, zk_152, zw_152, zq_138_1, zq_138_2, zq_138_3, zq_138_4, zq_138_16, zq_138_19, zq_138_20, zq_138_24, zq_138_25, zq_138_26, zq_138_27, zq_138_31, zq_138_32, zq_138_33, zn_10, zn_40, zn_040, zn_340, zin_nI, nI_clamp, nI_add, zq_ne, h4, he]
theorem q_later {I : zx_MI} {J : zx_MJ} (v : zInv I J m) (hm : m < 2 ^ 29) (x y z : Int32) : zQ Lh 121 233 [.int x, .int y, .int z] I J := zQ_mk (c_later hm x y z) (m_later hm x y z) v
/-- what a call of statue answers of a STATUE that is there -/
def zf_stat (B : Nat → Int32) (s k : Nat) : Int32 := if k = 0 then B (109 + s) else if k = 1 then B (117 + s) else if k = 2 then B (125 + s) else if k = 3 then zf_off B (zw B) s else if k = 4 then zf_end B (zn B) (zf_look B (zw B) (zh B) (zn B) s).2 else zB (!zf_snow B && zf_turns B s)
def zf_statue (x y : Int32) (B : Nat → Int32) : Int32 := if (zf_in x.toInt (zn B) && zf_bt 0 5 y.toInt) = true then zf_stat B x.toInt.toNat y.toInt.toNat else -8
theorem c_statue (hm : m < 2 ^ 29) (x y : Int32) : zCq Lh 104 [.int x, .int y] (fun B => .int (zf_statue x y B)) m := by
  intro I J v
  obtain ⟨⟨hw, hh, hN⟩, gr, g, ex, ok, N8, wh⟩ := zInv_k v
  have h1 := fun d P => sc_hasStatue (d := d) (Lh := Lh) (I := I) (J := J) (P := P) zx_sq1 x hN N8
  have yl := zq_lt0 y
  have yg := zq_gt y (n := 5) (by omega)
  unfold zf_statue
  dsimp only
  cases c1 : zf_in x.toInt (zn (I 139)) with
  | false =>
    refine ⟨I, J, zScr_r I J, fun d P => ?_⟩
    rw [Bool.false_and, if_neg (by decide), ze_104]
    simp (disch := omega) only [↓zs_104_0, ↓zs_104_1, ↓zs_104_4, ↓zs_104_5, ↓zs_104_8, ↓zs_104_11, ↓zs_104_12, ↓zs_104_15, ↓zs_104_16, ↓zs_104_17, ↓zs_104_20, ↓zs_104_22, ↓zs_104_23, zx_pu_s, zx_pu_n, zx_rv_s, zx_rv_n, true_and, and_true, true_or, or_true, zb_0, zb_1, zq_lcl, zq_lcg, zq_lce, eq_self, ite_true, ite_false, zk_0, zw_0, zk_1, zw_1, zq_0_0, zq_0_1, zq_0_2, zq_0_3, zq_0_4, zq_0_5, zq_0_6, zq_0_7, zq_0_8, zq_0_9, zq_0_10, zq_0_11, zq_1_0, zq_1_1, zq_1_2, zq_1_3, zq_1_4, zq_1_5, h1, c1, zB_0, reduceCtorEq]
  | true =>
    cases c2 : zf_bt 0 5 y.toInt with
    | false =>
      refine ⟨I, J, zScr_r I J, fun d P => ?_⟩
      rw [Bool.true_and, if_neg (by decide), ze_104]
      rcases zf_bt_no c2 with q | ⟨q1, q2⟩
      · simp (disch := omega) only [↓zs_104_0, ↓zs_104_1, ↓zs_104_4, ↓zs_104_5, ↓zs_104_8, ↓zs_104_11, ↓zs_104_12, ↓zs_104_15, ↓zs_104_16, ↓zs_104_17, ↓zs_104_20, ↓zs_104_22, ↓zs_104_23, zx_pu_s, zx_pu_n, zx_rv_s, zx_rv_n, true_and, and_true, true_or, or_true, zb_0, zb_1, zq_lcl, zq_lcg, zq_lce, eq_self, ite_true, ite_false, zk_0, zw_0, zk_1, zw_1, zq_0_0, zq_0_1, zq_0_2, zq_0_3, zq_0_4, zq_0_5, zq_0_6, zq_0_7, zq_0_8, zq_0_9, zq_0_10, zq_0_11, zq_1_0, zq_1_1, zq_1_2, zq_1_3, zq_1_4, zq_1_5, h1, c1, zB_0, reduceCtorEq, yl, q]
      · simp (disch := omega) only [↓zs_104_0, ↓zs_104_1, ↓zs_104_4, ↓zs_104_5, ↓zs_104_8, ↓zs_104_11, ↓zs_104_12, ↓zs_104_15, ↓zs_104_16, ↓zs_104_17, ↓zs_104_20, ↓zs_104_22, ↓zs_104_23, zx_pu_s, zx_pu_n, zx_rv_s, zx_rv_n, true_and, and_true, true_or, or_true, zb_0, zb_1, zq_lcl, zq_lcg, zq_lce, eq_self, ite_true, ite_false, zk_0, zw_0, zk_1, zw_1, zq_0_0, zq_0_1, zq_0_2, zq_0_3, zq_0_4, zq_0_5, zq_0_6, zq_0_7, zq_0_8, zq_0_9, zq_0_10, zq_0_11, zq_1_0, zq_1_1, zq_1_2, zq_1_3, zq_1_4, zq_1_5, h1, c1, zB_0, reduceCtorEq, yl, yg, q1, q2]
    | true =>
      rw [Bool.true_and, if_pos rfl]
      have e := zq_toI (x := x) rfl c1 (by omega)
      have hs : x.toInt.toNat < 8 := by have := zf_inP.mp c1; omega
      rw [c1] at h1
      generalize x.toInt.toNat = s at e hs
      subst e
      obtain ⟨k, -, hk, rfl⟩ := zf_bt_nI c2 (by omega)
      rw [nI_toInt (by omega), Int.toNat_natCast]
      have a1 : ¬ 5 < k := by omega
      obtain ⟨s1, s2, s3⟩ := v.2.2.2.1.2 s hs
      have hof := fun d P => sc_offOf (d := d) (Lh := Lh) (J := J) (P := P) zx_sq1 zx_st11 hs hw v.2.2.2.1 ok
      have hsee := fun d P => sc_seenBy (d := d) (Lh := Lh) (J := J) (P := P) (s := s) zx_sq1 zx_st11 v.1 hs hw hh gr g ex v.2.2.2.1 ok
      unfold zf_stat
      rcases (show k = 0 ∨ k = 1 ∨ k = 2 ∨ k = 3 ∨ k = 4 ∨ k = 5 by omega) with e | e | e | e | e | e <;> subst e
      · refine ⟨I, J, zScr_r I J, fun d P => ?_⟩
        rw [ze_104]
        simp (disch := omega) only [↓zs_104_0, ↓zs_104_1, ↓zs_104_4, ↓zs_104_5, ↓zs_104_8, ↓zs_104_11, ↓zs_104_12, ↓zs_104_15, ↓zs_104_16, ↓zs_104_17, ↓zs_104_20, ↓zs_104_22, ↓zs_104_23, ↓zs_104_24, zx_pu_s, zx_pu_n, zx_rv_s, zx_rv_n, true_and, and_true, true_or, or_true, zb_0, zb_1, zq_lcl, zq_lcg, zq_lce, eq_self, ite_true, ite_false, zk_0, zw_0, zk_1, zw_1, zq_0_0, zq_0_1, zq_0_2, zq_0_3, zq_0_4, zq_0_5, zq_0_6, zq_0_7, zq_0_8, zq_0_9, zq_0_10, zq_0_11, zq_1_0, zq_1_1, zq_1_2, zq_1_3, zq_1_4, zq_1_5, zn_10, zn_40, zn_040, zn_340, nI_add, zin_nI, nI_clamp, nI_ltI, nI_eq, pk_mul, nI_1, Nat.lt_irrefl, zi_c, zi_n, zq_ne, h1, zB_0, reduceCtorEq, zn_lt0, a1]
        simp (disch := omega) only [↓zs_104_60, ↓zs_104_61, ↓zs_104_64, ↓zs_104_67, ↓zs_104_68, ↓zs_104_69, ↓zs_104_70, ↓zs_104_71, ↓zs_104_74, ↓zs_104_77, ↓zs_104_78, ↓zs_104_79, ↓zs_104_80, ↓zs_104_81, ↓zs_104_84, ↓zs_104_87, ↓zs_104_88, ↓zs_104_89, ↓zs_104_90, ↓zs_104_91, ↓zs_104_94, ↓zs_104_95, ↓zs_104_98, ↓zs_104_99, ↓zs_104_102, ↓zs_104_103, ↓zs_104_104, ↓zs_104_107, ↓zs_104_108, ↓zs_104_111, ↓zs_104_112, ↓zs_104_115, ↓zs_104_116, ↓zs_104_117, ↓zs_104_120, ↓zs_104_121, ↓zs_104_124, ↓zs_104_125, ↓zs_104_128, ↓zs_104_131, ↓zs_104_132, ↓zs_104_135, ↓zs_104_136, ↓zs_104_139, ↓zs_104_142, ↓zs_104_145, ↓zs_104_148, ↓zs_104_149, ↓zs_104_152, ↓zs_104_153, zx_pu_s, zx_pu_n, zx_rv_s, zx_rv_n, true_and, and_true, true_or, or_true, zb_0, zb_1, zq_lcl, zq_lcg, zq_lce, eq_self, ite_true, ite_false, zk_0, zw_0, zk_1, zw_1, zq_0_0, zq_0_1, zq_0_2, zq_0_3, zq_0_4, zq_0_5, zq_0_6, zq_0_7, zq_0_8, zq_0_9, zq_0_10, zq_0_11, zq_1_0, zq_1_1, zq_1_2, zq_1_3, zq_1_4, zq_1_5, zk_11, zw_11, zk_12, zw_12, zk_13, zw_13, zk_14, zw_14, zq_11_0, zq_11_1, zq_11_2, zn_10, zn_40, zn_040, zn_340, nI_add, zin_nI, nI_clamp, nI_ltI, nI_eq, pk_mul, nI_1, Nat.lt_irrefl, s1]
      · refine ⟨I, J, zScr_r I J, fun d P => ?_⟩
        rw [ze_104, if_neg (by decide), if_pos rfl]
        simp (disch := omega) only [↓zs_104_0, ↓zs_104_1, ↓zs_104_4, ↓zs_104_5, ↓zs_104_8, ↓zs_104_11, ↓zs_104_12, ↓zs_104_15, ↓zs_104_16, ↓zs_104_17, ↓zs_104_20, ↓zs_104_22, ↓zs_104_23, ↓zs_104_24, zx_pu_s, zx_pu_n, zx_rv_s, zx_rv_n, true_and, and_true, true_or, or_true, zb_0, zb_1, zq_lcl, zq_lcg, zq_lce, eq_self, ite_true, ite_false, zk_0, zw_0, zk_1, zw_1, zq_0_0, zq_0_1, zq_0_2, zq_0_3, zq_0_4, zq_0_5, zq_0_6, zq_0_7, zq_0_8, zq_0_9, zq_0_10, zq_0_11, zq_1_0, zq_1_1, zq_1_2, zq_1_3, zq_1_4, zq_1_5, zin_nI, nI_clamp, nI_ltI, zi_c, zi_n, zq_ne, h1, zB_0, reduceCtorEq, zn_lt0, a1]
        simp (disch := omega) only [↓zs_104_60, ↓zs_104_61, ↓zs_104_64, ↓zs_104_67, ↓zs_104_68, ↓zs_104_69, ↓zs_104_70, ↓zs_104_71, ↓zs_104_74, ↓zs_104_77, ↓zs_104_78, ↓zs_104_79, ↓zs_104_80, ↓zs_104_81, ↓zs_104_84, ↓zs_104_87, ↓zs_104_88, ↓zs_104_89, ↓zs_104_90, ↓zs_104_91, ↓zs_104_94, ↓zs_104_95, ↓zs_104_98, ↓zs_104_99, ↓zs_104_102, ↓zs_104_103, ↓zs_104_104, ↓zs_104_107, ↓zs_104_108, ↓zs_104_111, ↓zs_104_112, ↓zs_104_115, ↓zs_104_116, ↓zs_104_117, ↓zs_104_120, ↓zs_104_121, ↓zs_104_124, ↓zs_104_125, ↓zs_104_128, ↓zs_104_131, ↓zs_104_132, ↓zs_104_135, ↓zs_104_136, ↓zs_104_139, ↓zs_104_142, ↓zs_104_145, ↓zs_104_148, ↓zs_104_149, ↓zs_104_152, ↓zs_104_153, zx_pu_s, zx_pu_n, zx_rv_s, zx_rv_n, true_and, and_true, true_or, or_true, zb_0, zb_1, zq_lcl, zq_lcg, zq_lce, eq_self, ite_true, ite_false, zk_0, zw_0, zk_1, zw_1, zq_0_0, zq_0_1, zq_0_2, zq_0_3, zq_0_4, zq_0_5, zq_0_6, zq_0_7, zq_0_8, zq_0_9, zq_0_10, zq_0_11, zq_1_0, zq_1_1, zq_1_2, zq_1_3, zq_1_4, zq_1_5, zk_11, zw_11, zk_12, zw_12, zk_13, zw_13, zk_14, zw_14, zq_11_0, zq_11_1, zq_11_2, zn_10, zn_40, zn_040, zn_340, nI_add, zin_nI, nI_clamp, nI_ltI, nI_eq, pk_mul, nI_1, Nat.lt_irrefl, s2]
      · refine ⟨I, J, zScr_r I J, fun d P => ?_⟩
        rw [ze_104, if_neg (by decide), if_neg (by decide), if_pos rfl]
        simp (disch := omega) only [↓zs_104_0, ↓zs_104_1, ↓zs_104_4, ↓zs_104_5, ↓zs_104_8, ↓zs_104_11, ↓zs_104_12, ↓zs_104_15, ↓zs_104_16, ↓zs_104_17, ↓zs_104_20, ↓zs_104_22, ↓zs_104_23, ↓zs_104_24, zx_pu_s, zx_pu_n, zx_rv_s, zx_rv_n, true_and, and_true, true_or, or_true, zb_0, zb_1, zq_lcl, zq_lcg, zq_lce, eq_self, ite_true, ite_false, zk_0, zw_0, zk_1, zw_1, zq_0_0, zq_0_1, zq_0_2, zq_0_3, zq_0_4, zq_0_5, zq_0_6, zq_0_7, zq_0_8, zq_0_9, zq_0_10, zq_0_11, zq_1_0, zq_1_1, zq_1_2, zq_1_3, zq_1_4, zq_1_5, zin_nI, nI_clamp, nI_ltI, zi_c, zi_n, zq_ne, h1, zB_0, reduceCtorEq, zn_lt0, a1]
        simp (disch := omega) only [↓zs_104_60, ↓zs_104_61, ↓zs_104_64, ↓zs_104_67, ↓zs_104_68, ↓zs_104_69, ↓zs_104_70, ↓zs_104_71, ↓zs_104_74, ↓zs_104_77, ↓zs_104_78, ↓zs_104_79, ↓zs_104_80, ↓zs_104_81, ↓zs_104_84, ↓zs_104_87, ↓zs_104_88, ↓zs_104_89, ↓zs_104_90, ↓zs_104_91, ↓zs_104_94, ↓zs_104_95, ↓zs_104_98, ↓zs_104_99, ↓zs_104_102, ↓zs_104_103, ↓zs_104_104, ↓zs_104_107, ↓zs_104_108, ↓zs_104_111, ↓zs_104_112, ↓zs_104_115, ↓zs_104_116, ↓zs_104_117, ↓zs_104_120, ↓zs_104_121, ↓zs_104_124, ↓zs_104_125, ↓zs_104_128, ↓zs_104_131, ↓zs_104_132, ↓zs_104_135, ↓zs_104_136, ↓zs_104_139, ↓zs_104_142, ↓zs_104_145, ↓zs_104_148, ↓zs_104_149, ↓zs_104_152, ↓zs_104_153, zx_pu_s, zx_pu_n, zx_rv_s, zx_rv_n, true_and, and_true, true_or, or_true, zb_0, zb_1, zq_lcl, zq_lcg, zq_lce, eq_self, ite_true, ite_false, zk_0, zw_0, zk_1, zw_1, zq_0_0, zq_0_1, zq_0_2, zq_0_3, zq_0_4, zq_0_5, zq_0_6, zq_0_7, zq_0_8, zq_0_9, zq_0_10, zq_0_11, zq_1_0, zq_1_1, zq_1_2, zq_1_3, zq_1_4, zq_1_5, zk_11, zw_11, zk_12, zw_12, zk_13, zw_13, zk_14, zw_14, zq_11_0, zq_11_1, zq_11_2, zn_10, zn_40, zn_040, zn_340, nI_add, zin_nI, nI_clamp, nI_ltI, nI_eq, pk_mul, nI_1, Nat.lt_irrefl, s3]
      · refine ⟨I, J, zScr_r I J, fun d P => ?_⟩
        rw [ze_104, if_neg (by decide), if_neg (by decide), if_neg (by decide), if_pos rfl]
        simp (disch := omega) only [↓zs_104_0, ↓zs_104_1, ↓zs_104_4, ↓zs_104_5, ↓zs_104_8, ↓zs_104_11, ↓zs_104_12, ↓zs_104_15, ↓zs_104_16, ↓zs_104_17, ↓zs_104_20, ↓zs_104_22, ↓zs_104_23, ↓zs_104_24, zx_pu_s, zx_pu_n, zx_rv_s, zx_rv_n, true_and, and_true, true_or, or_true, zb_0, zb_1, zq_lcl, zq_lcg, zq_lce, eq_self, ite_true, ite_false, zk_0, zw_0, zk_1, zw_1, zq_0_0, zq_0_1, zq_0_2, zq_0_3, zq_0_4, zq_0_5, zq_0_6, zq_0_7, zq_0_8, zq_0_9, zq_0_10, zq_0_11, zq_1_0, zq_1_1, zq_1_2, zq_1_3, zq_1_4, zq_1_5, zin_nI, nI_clamp, nI_ltI, zi_c, zi_n, zq_ne, h1, zB_0, reduceCtorEq, zn_lt0, a1]
        simp (disch := omega) only [↓zs_104_60, ↓zs_104_61, ↓zs_104_64, ↓zs_104_67, ↓zs_104_68, ↓zs_104_69, ↓zs_104_70, ↓zs_104_71, ↓zs_104_74, ↓zs_104_77, ↓zs_104_78, ↓zs_104_79, ↓zs_104_80, ↓zs_104_81, ↓zs_104_84, ↓zs_104_87, ↓zs_104_88, ↓zs_104_89, ↓zs_104_90, ↓zs_104_91, ↓zs_104_94, ↓zs_104_95, ↓zs_104_98, ↓zs_104_99, ↓zs_104_102, ↓zs_104_103, ↓zs_104_104, ↓zs_104_107, ↓zs_104_108, ↓zs_104_111, ↓zs_104_112, ↓zs_104_115, ↓zs_104_116, ↓zs_104_117, ↓zs_104_120, ↓zs_104_121, ↓zs_104_124, ↓zs_104_125, ↓zs_104_128, ↓zs_104_131, ↓zs_104_132, ↓zs_104_135, ↓zs_104_136, ↓zs_104_139, ↓zs_104_142, ↓zs_104_145, ↓zs_104_148, ↓zs_104_149, ↓zs_104_152, ↓zs_104_153, zx_pu_s, zx_pu_n, zx_rv_s, zx_rv_n, true_and, and_true, true_or, or_true, zb_0, zb_1, zq_lcl, zq_lcg, zq_lce, eq_self, ite_true, ite_false, zk_0, zw_0, zk_1, zw_1, zq_0_0, zq_0_1, zq_0_2, zq_0_3, zq_0_4, zq_0_5, zq_0_6, zq_0_7, zq_0_8, zq_0_9, zq_0_10, zq_0_11, zq_1_0, zq_1_1, zq_1_2, zq_1_3, zq_1_4, zq_1_5, zk_11, zw_11, zk_12, zw_12, zk_13, zw_13, zk_14, zw_14, zq_11_0, zq_11_1, zq_11_2, zn_10, zn_40, zn_040, zn_340, nI_add, zin_nI, nI_clamp, nI_ltI, nI_eq, pk_mul, nI_1, Nat.lt_irrefl, hof]
      · refine ⟨I, J, zScr_r I J, fun d P => ?_⟩
        rw [ze_104, if_neg (by decide), if_neg (by decide), if_neg (by decide), if_neg (by decide), if_pos rfl]
        simp (disch := omega) only [↓zs_104_0, ↓zs_104_1, ↓zs_104_4, ↓zs_104_5, ↓zs_104_8, ↓zs_104_11, ↓zs_104_12, ↓zs_104_15, ↓zs_104_16, ↓zs_104_17, ↓zs_104_20, ↓zs_104_22, ↓zs_104_23, ↓zs_104_24, zx_pu_s, zx_pu_n, zx_rv_s, zx_rv_n, true_and, and_true, true_or, or_true, zb_0, zb_1, zq_lcl, zq_lcg, zq_lce, eq_self, ite_true, ite_false, zk_0, zw_0, zk_1, zw_1, zq_0_0, zq_0_1, zq_0_2, zq_0_3, zq_0_4, zq_0_5, zq_0_6, zq_0_7, zq_0_8, zq_0_9, zq_0_10, zq_0_11, zq_1_0, zq_1_1, zq_1_2, zq_1_3, zq_1_4, zq_1_5, zin_nI, nI_clamp, nI_ltI, zi_c, zi_n, zq_ne, h1, zB_0, reduceCtorEq, zn_lt0, a1]
        simp (disch := omega) only [↓zs_104_60, ↓zs_104_61, ↓zs_104_64, ↓zs_104_67, ↓zs_104_68, ↓zs_104_69, ↓zs_104_70, ↓zs_104_71, ↓zs_104_74, ↓zs_104_77, ↓zs_104_78, ↓zs_104_79, ↓zs_104_80, ↓zs_104_81, ↓zs_104_84, ↓zs_104_87, ↓zs_104_88, ↓zs_104_89, ↓zs_104_90, ↓zs_104_91, ↓zs_104_94, ↓zs_104_95, ↓zs_104_98, ↓zs_104_99, ↓zs_104_102, ↓zs_104_103, ↓zs_104_104, ↓zs_104_107, ↓zs_104_108, ↓zs_104_111, ↓zs_104_112, ↓zs_104_115, ↓zs_104_116, ↓zs_104_117, ↓zs_104_120, ↓zs_104_121, ↓zs_104_124, ↓zs_104_125, ↓zs_104_128, ↓zs_104_131, ↓zs_104_132, ↓zs_104_135, ↓zs_104_136, ↓zs_104_139, ↓zs_104_142, ↓zs_104_145, ↓zs_104_148, ↓zs_104_149, ↓zs_104_152, ↓zs_104_153, zx_pu_s, zx_pu_n, zx_rv_s, zx_rv_n, true_and, and_true, true_or, or_true, zb_0, zb_1, zq_lcl, zq_lcg, zq_lce, eq_self, ite_true, ite_false, zk_0, zw_0, zk_1, zw_1, zq_0_0, zq_0_1, zq_0_2, zq_0_3, zq_0_4, zq_0_5, zq_0_6, zq_0_7, zq_0_8, zq_0_9, zq_0_10, zq_0_11, zq_1_0, zq_1_1, zq_1_2, zq_1_3, zq_1_4, zq_1_5, zk_11, zw_11, zk_12, zw_12, zk_13, zw_13, zk_14, zw_14, zq_11_0, zq_11_1, zq_11_2, zn_10, zn_40, zn_040, zn_340, nI_add, zin_nI, nI_clamp, nI_ltI, nI_eq, pk_mul, nI_1, Nat.lt_irrefl, hsee]
      · obtain ⟨I2, f2, h2⟩ := sc_turnOf (Lh := Lh) zx_st11 hs v.2.1 (by omega) v.2.2.1 v.2.2.2.1
        have f2' : zFc 19 I I2 := zF4_c f2
        have tn : I2 11 3 = nI (zt (I 139)) := by rw [f2 11 (by decide) (by decide)]; exact v.2.2.2.1.1.trans v.2.1.2.2.2.2.2.2.1
        have htz := v.2.1.2.2.2.2.2.2.2
        have hsn := fun d P => sc_snowLies (d := d) (Lh := Lh) (J := J) (P := P) (n := zt (I 139)) zx_sq1 (zFc_sq zx_st19 f2' v.2.2.1).2.2.2.2.2.2.1 v.2.1.2.2.2.1 (by omega)
        have es : zf_any (zf_snowP (I 139) (zt (I 139))) (zo (I 139)) 0 = zf_snow (I 139) := rfl
        rw [es] at hsn
        refine ⟨I2, J, zScr_c f2' (by omega), fun d P => ?_⟩
        rw [ze_104, if_neg (by decide), if_neg (by decide), if_neg (by decide), if_neg (by decide), if_neg (by decide)]
        simp (disch := omega) only [↓zs_104_0, ↓zs_104_1, ↓zs_104_4, ↓zs_104_5, ↓zs_104_8, ↓zs_104_11, ↓zs_104_12, ↓zs_104_15, ↓zs_104_16, ↓zs_104_17, ↓zs_104_20, ↓zs_104_22, ↓zs_104_23, ↓zs_104_24, zx_pu_s, zx_pu_n, zx_rv_s, zx_rv_n, true_and, and_true, true_or, or_true, zb_0, zb_1, zq_lcl, zq_lcg, zq_lce, eq_self, ite_true, ite_false, zk_0, zw_0, zk_1, zw_1, zq_0_0, zq_0_1, zq_0_2, zq_0_3, zq_0_4, zq_0_5, zq_0_6, zq_0_7, zq_0_8, zq_0_9, zq_0_10, zq_0_11, zq_1_0, zq_1_1, zq_1_2, zq_1_3, zq_1_4, zq_1_5, zin_nI, nI_clamp, nI_ltI, zi_c, zi_n, zq_ne, h1, zB_0, reduceCtorEq, zn_lt0, a1]
        unfold zf_turnv at h2
        have e10 : ((-1 : Int32) = nI 0) = False := eq_false (by decide)
        have e11 : (nI 1 = nI 0) = False := eq_false (by decide)
        cases ct : zf_turns (I 139) s with
        | false =>
          rw [ct, if_neg (by decide)] at h2
          rw [Bool.and_false]
          simp (disch := omega) only [↓zs_104_60, ↓zs_104_61, ↓zs_104_64, ↓zs_104_67, ↓zs_104_68, ↓zs_104_69, ↓zs_104_70, ↓zs_104_71, ↓zs_104_74, ↓zs_104_77, ↓zs_104_78, ↓zs_104_79, ↓zs_104_80, ↓zs_104_81, ↓zs_104_84, ↓zs_104_87, ↓zs_104_88, ↓zs_104_89, ↓zs_104_90, ↓zs_104_91, ↓zs_104_94, ↓zs_104_95, ↓zs_104_98, ↓zs_104_99, ↓zs_104_102, ↓zs_104_103, ↓zs_104_104, ↓zs_104_107, ↓zs_104_108, ↓zs_104_111, ↓zs_104_112, ↓zs_104_115, ↓zs_104_116, ↓zs_104_117, ↓zs_104_120, ↓zs_104_121, ↓zs_104_124, ↓zs_104_125, ↓zs_104_128, ↓zs_104_131, ↓zs_104_132, ↓zs_104_135, ↓zs_104_136, ↓zs_104_139, ↓zs_104_142, ↓zs_104_145, ↓zs_104_148, ↓zs_104_149, ↓zs_104_152, ↓zs_104_153, zx_pu_s, zx_pu_n, zx_rv_s, zx_rv_n, true_and, and_true, true_or, or_true, zb_0, zb_1, zq_lcl, zq_lcg, zq_lce, eq_self, ite_true, ite_false, zk_0, zw_0, zk_1, zw_1, zq_0_0, zq_0_1, zq_0_2, zq_0_3, zq_0_4, zq_0_5, zq_0_6, zq_0_7, zq_0_8, zq_0_9, zq_0_10, zq_0_11, zq_1_0, zq_1_1, zq_1_2, zq_1_3, zq_1_4, zq_1_5, zk_11, zw_11, zk_12, zw_12, zk_13, zw_13, zk_14, zw_14, zq_11_0, zq_11_1, zq_11_2, zn_10, zn_40, zn_040, zn_340, nI_add, zin_nI, nI_clamp, nI_ltI, nI_eq, pk_mul, nI_1, Nat.lt_irrefl, h2]
          rfl
        | true =>
          rw [ct, if_pos rfl] at h2
          rw [Bool.and_true]
          by_cases c4 : zf_cw (zf_nat (zf_to (I 139) (zw (I 139)) s)) (zf_nat (I 139 (117 + s))) ≤ 4
          · simp only [if_pos c4] at h2
            cases cs : zf_snow (I 139) <;> simp (disch := omega) only [↓zs_104_60, ↓zs_104_61, ↓zs_104_64, ↓zs_104_67, ↓zs_104_68, ↓zs_104_69, ↓zs_104_70, ↓zs_104_71, ↓zs_104_74, ↓zs_104_77, ↓zs_104_78, ↓zs_104_79, ↓zs_104_80, ↓zs_104_81, ↓zs_104_84, ↓zs_104_87, ↓zs_104_88, ↓zs_104_89, ↓zs_104_90, ↓zs_104_91, ↓zs_104_94, ↓zs_104_95, ↓zs_104_98, ↓zs_104_99, ↓zs_104_102, ↓zs_104_103, ↓zs_104_104, ↓zs_104_107, ↓zs_104_108, ↓zs_104_111, ↓zs_104_112, ↓zs_104_115, ↓zs_104_116, ↓zs_104_117, ↓zs_104_120, ↓zs_104_121, ↓zs_104_124, ↓zs_104_125, ↓zs_104_128, ↓zs_104_131, ↓zs_104_132, ↓zs_104_135, ↓zs_104_136, ↓zs_104_139, ↓zs_104_142, ↓zs_104_145, ↓zs_104_148, ↓zs_104_149, ↓zs_104_152, ↓zs_104_153, zx_pu_s, zx_pu_n, zx_rv_s, zx_rv_n, true_and, and_true, true_or, or_true, zb_0, zb_1, zq_lcl, zq_lcg, zq_lce, eq_self, ite_true, ite_false, zk_0, zw_0, zk_1, zw_1, zq_0_0, zq_0_1, zq_0_2, zq_0_3, zq_0_4, zq_0_5, zq_0_6, zq_0_7, zq_0_8, zq_0_9, zq_0_10, zq_0_11, zq_1_0, zq_1_1, zq_1_2, zq_1_3, zq_1_4, zq_1_5, zk_11, zw_11, zk_12, zw_12, zk_13, zw_13, zk_14, zw_14, zq_11_0, zq_11_1, zq_11_2, zin_nI, nI_clamp, h2, e11, tn, hsn, cs, zB_0, reduceCtorEq] <;> rfl
          · simp only [if_neg c4] at h2
            cases cs : zf_snow (I 139) <;> simp (disch := omega) only [↓zs_104_60, ↓zs_104_61, ↓zs_104_64, ↓zs_104_67, ↓zs_104_68, ↓zs_104_69, ↓zs_104_70, ↓zs_104_71, ↓zs_104_74, ↓zs_104_77, ↓zs_104_78, ↓zs_104_79, ↓zs_104_80, ↓zs_104_81, ↓zs_104_84, ↓zs_104_87, ↓zs_104_88, ↓zs_104_89, ↓zs_104_90, ↓zs_104_91, ↓zs_104_94, ↓zs_104_95, ↓zs_104_98, ↓zs_104_99, ↓zs_104_102, ↓zs_104_103, ↓zs_104_104, ↓zs_104_107, ↓zs_104_108, ↓zs_104_111, ↓zs_104_112, ↓zs_104_115, ↓zs_104_116, ↓zs_104_117, ↓zs_104_120, ↓zs_104_121, ↓zs_104_124, ↓zs_104_125, ↓zs_104_128, ↓zs_104_131, ↓zs_104_132, ↓zs_104_135, ↓zs_104_136, ↓zs_104_139, ↓zs_104_142, ↓zs_104_145, ↓zs_104_148, ↓zs_104_149, ↓zs_104_152, ↓zs_104_153, zx_pu_s, zx_pu_n, zx_rv_s, zx_rv_n, true_and, and_true, true_or, or_true, zb_0, zb_1, zq_lcl, zq_lcg, zq_lce, eq_self, ite_true, ite_false, zk_0, zw_0, zk_1, zw_1, zq_0_0, zq_0_1, zq_0_2, zq_0_3, zq_0_4, zq_0_5, zq_0_6, zq_0_7, zq_0_8, zq_0_9, zq_0_10, zq_0_11, zq_1_0, zq_1_1, zq_1_2, zq_1_3, zq_1_4, zq_1_5, zk_11, zw_11, zk_12, zw_12, zk_13, zw_13, zk_14, zw_14, zq_11_0, zq_11_1, zq_11_2, zin_nI, nI_clamp, h2, e10, tn, hsn, cs, zB_0, reduceCtorEq] <;> rfl
theorem m_statue (hm : m < 2 ^ 29) (x y : Int32) : zMq Lh 205 [.int x, .int y] (fun B => .int (zf_statue x y B)) m := by
  intro I J v
  obtain ⟨⟨hw, hh, hN⟩, gr, g, ex, ok, N8, wh⟩ := zInv_k v
  have ok2 : zM_ok (zx_u I 138 0 (nI 0) 139) (zw (I 139)) (zh (I 139)) (zn (I 139)) := by rw [zu_139]; exact ok
  have v2 : zV (zx_u I 138 0 (nI 0) 139) m := by rw [zu_139]; exact v.2.1
  have h2 := fun d P => sp_isStatue (d := d) (Lh := Lh) (J := J) (P := P) x.toInt64 ok2.1.2.2.1 N8
  rw [Int32.toInt_toInt64] at h2
  unfold zf_statue
  dsimp only
  cases c1 : zf_in x.toInt (zn (I 139)) with
  | false =>
    refine ⟨zx_u I 138 0 (nI 0), J, zScr_s (zFs_0 _ _), fun d P => ?_⟩
    rw [Bool.false_and, if_neg (by decide), ze_205]
    simp (disch := omega) only [↓zs_205_0, ↓zs_205_1, ↓zs_205_2, ↓zs_205_5, ↓zs_205_6, ↓zs_205_7, ↓zs_205_8, ↓zs_205_11, ↓zs_205_14, ↓zs_205_16, ↓zs_205_17, zx_pu_s, zx_pu_n, zx_rv_s, zx_rv_n, true_and, and_true, true_or, or_true, zb_0, zb_1, zq_lcl, zq_lcg, zq_lce, eq_self, ite_true, ite_false, zk_138, zw_138, zk_139, zw_139, zk_140, zw_140, zk_141, zw_141, zk_142, zw_142, zk_143, zw_143, zk_144, zw_144, zk_145, zw_145, zk_146, zw_146, zk_147, zw_147, zk_148, zw_148, zk_149, zw_149, zk_150, zw_150, zk_151, zw_151, zk_152, zw_152, zq_138_1, zq_138_2, zq_138_3, zq_138_4, zq_138_16, zq_138_19, zq_138_20, zq_138_24, zq_138_25, zq_138_26, zq_138_27, zq_138_31, zq_138_32, zq_138_33, h2, c1, zB_0, reduceCtorEq]
  | true =>
    rw [c1] at h2
    cases c2 : zf_bt 0 5 y.toInt with
    | false =>
      refine ⟨zx_u I 138 0 (nI 0), J, zScr_s (zFs_0 _ _), fun d P => ?_⟩
      have ny : ∀ k, k ≤ 5 → (y = nI k) = False := fun k hk => eq_false (fun e => by
        rw [e, nI_toInt (by omega)] at c2
        rw [zf_bt, Bool.and_eq_false_iff, decide_eq_false_iff_not, decide_eq_false_iff_not] at c2
        omega)
      rw [Bool.true_and, if_neg (by decide), ze_205]
      simp (disch := omega) only [↓zs_205_0, ↓zs_205_1, ↓zs_205_2, ↓zs_205_5, ↓zs_205_6, ↓zs_205_7, ↓zs_205_8, ↓zs_205_11, ↓zs_205_14, ↓zs_205_16, ↓zs_205_17, ↓zs_205_18, ↓zs_205_56, ↓zs_205_57, ↓zs_205_60, ↓zs_205_62, ↓zs_205_63, ↓zs_205_64, ↓zs_205_65, ↓zs_205_66, ↓zs_205_67, ↓zs_205_70, ↓zs_205_72, ↓zs_205_73, ↓zs_205_74, ↓zs_205_75, ↓zs_205_76, ↓zs_205_77, ↓zs_205_80, ↓zs_205_82, ↓zs_205_83, ↓zs_205_84, ↓zs_205_85, ↓zs_205_86, ↓zs_205_87, ↓zs_205_88, ↓zs_205_91, ↓zs_205_92, ↓zs_205_93, ↓zs_205_94, ↓zs_205_97, ↓zs_205_98, ↓zs_205_99, ↓zs_205_100, ↓zs_205_103, ↓zs_205_106, ↓zs_205_107, ↓zs_205_110, ↓zs_205_111, ↓zs_205_112, ↓zs_205_114, zx_pu_s, zx_pu_n, zx_rv_s, zx_rv_n, true_and, and_true, true_or, or_true, zb_0, zb_1, zq_lcl, zq_lcg, zq_lce, eq_self, ite_true, ite_false, zk_138, zw_138, zk_139, zw_139, zk_140, zw_140, zk_141, zw_141, zk_142, zw_142, zk_143, zw_143, zk_144, zw_144, zk_145, zw_145, zk_146, zw_146, zk_147, zw_147, zk_148, zw_148, zk_149, zw_149, zk_150, zw_150, zk_151, zw_151, zk_152, zw_152, zq_138_1, zq_138_2, zq_138_3, zq_138_4, zq_138_16, zq_138_19, zq_138_20, zq_138_24, zq_138_25, zq_138_26, zq_138_27, zq_138_31, zq_138_32, zq_138_33, h2, zB_0, reduceCtorEq, zi_c, zi_n, ny]
    | true =>
      rw [Bool.true_and, if_pos rfl]
      have e := zq_toI (x := x) rfl c1 (by omega)
      have hs : x.toInt.toNat < 8 := by have := zf_inP.mp c1; omega
      generalize x.toInt.toNat = s at e hs
      subst e
      obtain ⟨k, -, hk, rfl⟩ := zf_bt_nI c2 (by omega)
      rw [nI_toInt (by omega), Int.toNat_natCast]
      have hof := fun d P => sp_offOf (d := d) (Lh := Lh) (J := J) (P := P) hs ok2
      rw [zu_139] at hof
      unfold zf_stat
      rcases (show k = 0 ∨ k = 1 ∨ k = 2 ∨ k = 3 ∨ k = 4 ∨ k = 5 by omega) with e | e | e | e | e | e <;> subst e
      · refine ⟨zx_u I 138 0 (nI 0), J, zScr_s (zFs_0 _ _), fun d P => ?_⟩
        rw [ze_205]
        simp (disch := omega) only [↓zs_205_0, ↓zs_205_1, ↓zs_205_2, ↓zs_205_5, ↓zs_205_6, ↓zs_205_7, ↓zs_205_8, ↓zs_205_11, ↓zs_205_14, ↓zs_205_16, ↓zs_205_17, ↓zs_205_18, ↓zs_205_56, ↓zs_205_57, ↓zs_205_60, ↓zs_205_62, ↓zs_205_63, ↓zs_205_64, ↓zs_205_65, ↓zs_205_66, ↓zs_205_67, ↓zs_205_70, ↓zs_205_72, ↓zs_205_73, ↓zs_205_74, ↓zs_205_75, ↓zs_205_76, ↓zs_205_77, ↓zs_205_80, ↓zs_205_82, ↓zs_205_83, ↓zs_205_84, ↓zs_205_85, ↓zs_205_86, ↓zs_205_87, ↓zs_205_88, ↓zs_205_91, ↓zs_205_92, ↓zs_205_93, ↓zs_205_94, ↓zs_205_97, ↓zs_205_98, ↓zs_205_99, ↓zs_205_100, ↓zs_205_103, ↓zs_205_106, ↓zs_205_107, ↓zs_205_110, ↓zs_205_111, ↓zs_205_112, ↓zs_205_114, zx_pu_s, zx_pu_n, zx_rv_s, zx_rv_n, true_and, and_true, true_or, or_true, zb_0, zb_1, zq_lcl, zq_lcg, zq_lce, eq_self, ite_true, ite_false, zk_138, zw_138, zk_139, zw_139, zk_140, zw_140, zk_141, zw_141, zk_142, zw_142, zk_143, zw_143, zk_144, zw_144, zk_145, zw_145, zk_146, zw_146, zk_147, zw_147, zk_148, zw_148, zk_149, zw_149, zk_150, zw_150, zk_151, zw_151, zk_152, zw_152, zq_138_1, zq_138_2, zq_138_3, zq_138_4, zq_138_16, zq_138_19, zq_138_20, zq_138_24, zq_138_25, zq_138_26, zq_138_27, zq_138_31, zq_138_32, zq_138_33, zin_nI, nI_clamp, nI_add, zi_c, zi_n, zq_ne, h2, zB_0, reduceCtorEq, zu_139]
      · refine ⟨zx_u I 138 0 (nI 0), J, zScr_s (zFs_0 _ _), fun d P => ?_⟩
        rw [ze_205, if_neg (by decide), if_pos rfl]
        simp (disch := omega) only [↓zs_205_0, ↓zs_205_1, ↓zs_205_2, ↓zs_205_5, ↓zs_205_6, ↓zs_205_7, ↓zs_205_8, ↓zs_205_11, ↓zs_205_14, ↓zs_205_16, ↓zs_205_17, ↓zs_205_18, ↓zs_205_56, ↓zs_205_57, ↓zs_205_60, ↓zs_205_62, ↓zs_205_63, ↓zs_205_64, ↓zs_205_65, ↓zs_205_66, ↓zs_205_67, ↓zs_205_70, ↓zs_205_72, ↓zs_205_73, ↓zs_205_74, ↓zs_205_75, ↓zs_205_76, ↓zs_205_77, ↓zs_205_80, ↓zs_205_82, ↓zs_205_83, ↓zs_205_84, ↓zs_205_85, ↓zs_205_86, ↓zs_205_87, ↓zs_205_88, ↓zs_205_91, ↓zs_205_92, ↓zs_205_93, ↓zs_205_94, ↓zs_205_97, ↓zs_205_98, ↓zs_205_99, ↓zs_205_100, ↓zs_205_103, ↓zs_205_106, ↓zs_205_107, ↓zs_205_110, ↓zs_205_111, ↓zs_205_112, ↓zs_205_114, zx_pu_s, zx_pu_n, zx_rv_s, zx_rv_n, true_and, and_true, true_or, or_true, zb_0, zb_1, zq_lcl, zq_lcg, zq_lce, eq_self, ite_true, ite_false, zk_138, zw_138, zk_139, zw_139, zk_140, zw_140, zk_141, zw_141, zk_142, zw_142, zk_143, zw_143, zk_144, zw_144, zk_145, zw_145, zk_146, zw_146, zk_147, zw_147, zk_148, zw_148, zk_149, zw_149, zk_150, zw_150, zk_151, zw_151, zk_152, zw_152, zq_138_1, zq_138_2, zq_138_3, zq_138_4, zq_138_16, zq_138_19, zq_138_20, zq_138_24, zq_138_25, zq_138_26, zq_138_27, zq_138_31, zq_138_32, zq_138_33, zin_nI, nI_clamp, nI_add, zi_c, zi_n, zq_ne, h2, zB_0, reduceCtorEq, zu_139]
      · refine ⟨zx_u I 138 0 (nI 0), J, zScr_s (zFs_0 _ _), fun d P => ?_⟩
        rw [ze_205, if_neg (by decide), if_neg (by decide), if_pos rfl]
        simp (disch := omega) only [↓zs_205_0, ↓zs_205_1, ↓zs_205_2, ↓zs_205_5, ↓zs_205_6, ↓zs_205_7, ↓zs_205_8, ↓zs_205_11, ↓zs_205_14, ↓zs_205_16, ↓zs_205_17, ↓zs_205_18, ↓zs_205_56, ↓zs_205_57, ↓zs_205_60, ↓zs_205_62, ↓zs_205_63, ↓zs_205_64, ↓zs_205_65, ↓zs_205_66, ↓zs_205_67, ↓zs_205_70, ↓zs_205_72, ↓zs_205_73, ↓zs_205_74, ↓zs_205_75, ↓zs_205_76, ↓zs_205_77, ↓zs_205_80, ↓zs_205_82, ↓zs_205_83, ↓zs_205_84, ↓zs_205_85, ↓zs_205_86, ↓zs_205_87, ↓zs_205_88, ↓zs_205_91, ↓zs_205_92, ↓zs_205_93, ↓zs_205_94, ↓zs_205_97, ↓zs_205_98, ↓zs_205_99, ↓zs_205_100, ↓zs_205_103, ↓zs_205_106, ↓zs_205_107, ↓zs_205_110, ↓zs_205_111, ↓zs_205_112, ↓zs_205_114, zx_pu_s, zx_pu_n, zx_rv_s, zx_rv_n, true_and, and_true, true_or, or_true, zb_0, zb_1, zq_lcl, zq_lcg, zq_lce, eq_self, ite_true, ite_false, zk_138, zw_138, zk_139, zw_139, zk_140, zw_140, zk_141, zw_141, zk_142, zw_142, zk_143, zw_143, zk_144, zw_144, zk_145, zw_145, zk_146, zw_146, zk_147, zw_147, zk_148, zw_148, zk_149, zw_149, zk_150, zw_150, zk_151, zw_151, zk_152, zw_152, zq_138_1, zq_138_2, zq_138_3, zq_138_4, zq_138_16, zq_138_19, zq_138_20, zq_138_24, zq_138_25, zq_138_26, zq_138_27, zq_138_31, zq_138_32, zq_138_33, zin_nI, nI_clamp, nI_add, zi_c, zi_n, zq_ne, h2, zB_0, reduceCtorEq, zu_139]
      · refine ⟨zx_u I 138 0 (nI 0), J, zScr_s (zFs_0 _ _), fun d P => ?_⟩
        rw [ze_205, if_neg (by decide), if_neg (by decide), if_neg (by decide), if_pos rfl]
        simp (disch := omega) only [↓zs_205_0, ↓zs_205_1, ↓zs_205_2, ↓zs_205_5, ↓zs_205_6, ↓zs_205_7, ↓zs_205_8, ↓zs_205_11, ↓zs_205_14, ↓zs_205_16, ↓zs_205_17, ↓zs_205_18, ↓zs_205_56, ↓zs_205_57, ↓zs_205_60, ↓zs_205_62, ↓zs_205_63, ↓zs_205_64, ↓zs_205_65, ↓zs_205_66, ↓zs_205_67, ↓zs_205_70, ↓zs_205_72, ↓zs_205_73, ↓zs_205_74, ↓zs_205_75, ↓zs_205_76, ↓zs_205_77, ↓zs_205_80, ↓zs_205_82, ↓zs_205_83, ↓zs_205_84, ↓zs_205_85, ↓zs_205_86, ↓zs_205_87, ↓zs_205_88, ↓zs_205_91, ↓zs_205_92, ↓zs_205_93, ↓zs_205_94, ↓zs_205_97, ↓zs_205_98, ↓zs_205_99, ↓zs_205_100, ↓zs_205_103, ↓zs_205_106, ↓zs_205_107, ↓zs_205_110, ↓zs_205_111, ↓zs_205_112, ↓zs_205_114, zx_pu_s, zx_pu_n, zx_rv_s, zx_rv_n, true_and, and_true, true_or, or_true, zb_0, zb_1, zq_lcl, zq_lcg, zq_lce, eq_self, ite_true, ite_false, zk_138, zw_138, zk_139, zw_139, zk_140, zw_140, zk_141, zw_141, zk_142, zw_142, zk_143, zw_143, zk_144, zw_144, zk_145, zw_145, zk_146, zw_146, zk_147, zw_147, zk_148, zw_148, zk_149, zw_149, zk_150, zw_150, zk_151, zw_151, zk_152, zw_152, zq_138_1, zq_138_2, zq_138_3, zq_138_4, zq_138_16, zq_138_19, zq_138_20, zq_138_24, zq_138_25, zq_138_26, zq_138_27, zq_138_31, zq_138_32, zq_138_33, zin_nI, nI_clamp, nI_add, zi_c, zi_n, zq_ne, h2, zB_0, reduceCtorEq, hof]
      · obtain ⟨I2, f2, h4⟩ := sp_seesOf (Lh := Lh) (J := J) (s := s) (zx_SI_u v.1 (by decide)) hs ok2
        rw [zu_139] at h4
        refine ⟨I2, J, zScr_s (zFs_t (zFs_0 _ _) f2), fun d P => ?_⟩
        rw [ze_205, if_neg (by decide), if_neg (by decide), if_neg (by decide), if_neg (by decide), if_pos rfl]
        simp (disch := omega) only [↓zs_205_0, ↓zs_205_1, ↓zs_205_2, ↓zs_205_5, ↓zs_205_6, ↓zs_205_7, ↓zs_205_8, ↓zs_205_11, ↓zs_205_14, ↓zs_205_16, ↓zs_205_17, ↓zs_205_18, ↓zs_205_56, ↓zs_205_57, ↓zs_205_60, ↓zs_205_62, ↓zs_205_63, ↓zs_205_64, ↓zs_205_65, ↓zs_205_66, ↓zs_205_67, ↓zs_205_70, ↓zs_205_72, ↓zs_205_73, ↓zs_205_74, ↓zs_205_75, ↓zs_205_76, ↓zs_205_77, ↓zs_205_80, ↓zs_205_82, ↓zs_205_83, ↓zs_205_84, ↓zs_205_85, ↓zs_205_86, ↓zs_205_87, ↓zs_205_88, ↓zs_205_91, ↓zs_205_92, ↓zs_205_93, ↓zs_205_94, ↓zs_205_97, ↓zs_205_98, ↓zs_205_99, ↓zs_205_100, ↓zs_205_103, ↓zs_205_106, ↓zs_205_107, ↓zs_205_110, ↓zs_205_111, ↓zs_205_112, ↓zs_205_114, zx_pu_s, zx_pu_n, zx_rv_s, zx_rv_n, true_and, and_true, true_or, or_true, zb_0, zb_1, zq_lcl, zq_lcg, zq_lce, eq_self, ite_true, ite_false, zk_138, zw_138, zk_139, zw_139, zk_140, zw_140, zk_141, zw_141, zk_142, zw_142, zk_143, zw_143, zk_144, zw_144, zk_145, zw_145, zk_146, zw_146, zk_147, zw_147, zk_148, zw_148, zk_149, zw_149, zk_150, zw_150, zk_151, zw_151, zk_152, zw_152, zq_138_1, zq_138_2, zq_138_3, zq_138_4, zq_138_16, zq_138_19, zq_138_20, zq_138_24, zq_138_25, zq_138_26, zq_138_27, zq_138_31, zq_138_32, zq_138_33, zin_nI, nI_clamp, nI_add, zi_c, zi_n, zq_ne, h2, zB_0, reduceCtorEq, h4]
      · obtain ⟨I2, f2, h4⟩ := sp_turns (Lh := Lh) (J := J) (s := s) v2 (by omega) hs
        rw [zu_139] at h4
        refine ⟨I2, J, zScr_s (zFs_t (zFs_0 _ _) (zF1_s f2)), fun d P => ?_⟩
        rw [ze_205, if_neg (by decide), if_neg (by decide), if_neg (by decide), if_neg (by decide), if_neg (by decide)]
        cases cs : (!zf_snow (I 139) && zf_turns (I 139) s) <;> simp (disch := omega) only [↓zs_205_0, ↓zs_205_1, ↓zs_205_2, ↓zs_205_5, ↓zs_205_6, ↓zs_205_7, ↓zs_205_8, ↓zs_205_11, ↓zs_205_14, ↓zs_205_16, ↓zs_205_17, ↓zs_205_18, ↓zs_205_56, ↓zs_205_57, ↓zs_205_60, ↓zs_205_62, ↓zs_205_63, ↓zs_205_64, ↓zs_205_65, ↓zs_205_66, ↓zs_205_67, ↓zs_205_70, ↓zs_205_72, ↓zs_205_73, ↓zs_205_74, ↓zs_205_75, ↓zs_205_76, ↓zs_205_77, ↓zs_205_80, ↓zs_205_82, ↓zs_205_83, ↓zs_205_84, ↓zs_205_85, ↓zs_205_86, ↓zs_205_87, ↓zs_205_88, ↓zs_205_91, ↓zs_205_92, ↓zs_205_93, ↓zs_205_94, ↓zs_205_97, ↓zs_205_98, ↓zs_205_99, ↓zs_205_100, ↓zs_205_103, ↓zs_205_106, ↓zs_205_107, ↓zs_205_110, ↓zs_205_111, ↓zs_205_112, ↓zs_205_114, zx_pu_s, zx_pu_n, zx_rv_s, zx_rv_n, true_and, and_true, true_or, or_true, zb_0, zb_1, zq_lcl, zq_lcg, zq_lce, eq_self, ite_true, ite_false, zk_138, zw_138, zk_139, zw_139, zk_140, zw_140, zk_141, zw_141, zk_142, zw_142, zk_143, zw_143, zk_144, zw_144, zk_145, zw_145, zk_146, zw_146, zk_147, zw_147, zk_148, zw_148, zk_149, zw_149, zk_150, zw_150, zk_151, zw_151, zk_152, zw_152, zq_138_1, zq_138_2, zq_138_3, zq_138_4, zq_138_16, zq_138_19, zq_138_20, zq_138_24, zq_138_25, zq_138_26, zq_138_27, zq_138_31, zq_138_32, zq_138_33, zin_nI, nI_clamp, nI_add, zi_c, zi_n, zq_ne, h2, zB_0, reduceCtorEq, h4, cs] <;> rfl
theorem q_statue {I : zx_MI} {J : zx_MJ} (v : zInv I J m) (hm : m < 2 ^ 29) (x y : Int32) : zQ Lh 104 205 [.int x, .int y] I J := zQ_mk (c_statue hm x y) (m_statue hm x y) v
end LA
