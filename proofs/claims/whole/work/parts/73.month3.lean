/-! month -/
section MD
variable {Lh m : Nat} {I : zx_MI} {J : zx_MJ}
theorem d_month (v : zInv I J m) (hm : m < 2 ^ 29) (x y : Int32) : zD Lh 118 231 [.int x, .int y] I J (m + 60) := by
  obtain ⟨⟨hw, hh, hN⟩, gr, g, ex, ok, N8, wh⟩ := zInv_k v
  obtain ⟨e, D, he, hD, p1, p2, p3, p4⟩ := v.2.2.2.2.1
  have hm9 : (e + D) % 10 < 10 := Nat.mod_lt _ (by omega)
  have e3 : I 139 3 = nI (zn (I 139)) := ok.1.2.2.1
  have hbt := fun d L I J P => sp_bt (d := d) (L := L) (I := I) (J := J) (P := P) y (a := 1) (b := 60) (by omega) (by omega)
  cases c : zf_bt 1 60 y.toInt with
  | false =>
    rw [c] at hbt
    have yl := zq_ltn y (n := 1) (by omega)
    have yg := zq_gt y (n := 60) (by omega)
    refine zQ_D (m := m) ⟨.int (-3), I, J, zx_u I 138 0 (nI 0), J, fun d P => ?_, fun d P => ?_, zScr_s (zFs_0 _ _)⟩ v (by omega)
    · rw [ze_118]
      rcases zf_bt_no1 c with q | ⟨q1, q2⟩
      · simp (disch := omega) only [↓zs_118_0, ↓zs_118_1, ↓zs_118_2, ↓zs_118_5, ↓zs_118_6, ↓zs_118_8, ↓zs_118_11, ↓zs_118_13, ↓zs_118_14, ↓zs_118_15, ↓zs_118_18, ↓zs_118_21, ↓zs_118_22, ↓zs_118_23, ↓zs_118_24, ↓zs_118_27, ↓zs_118_29, ↓zs_118_30, ↓zs_118_31, ↓zs_118_34, ↓zs_118_35, ↓zs_118_38, ↓zs_118_41, ↓zs_118_42, ↓zs_118_44, ↓zs_118_45, ↓zs_118_47, ↓zs_118_48, zx_pu_s, zx_pu_n, zx_rv_s, zx_rv_n, true_and, and_true, true_or, or_true, zb_0, zb_1, zq_lcl, zq_lcg, zq_lce, eq_self, ite_true, ite_false, yl, q]
      · simp (disch := omega) only [↓zs_118_0, ↓zs_118_1, ↓zs_118_2, ↓zs_118_5, ↓zs_118_6, ↓zs_118_8, ↓zs_118_11, ↓zs_118_13, ↓zs_118_14, ↓zs_118_15, ↓zs_118_18, ↓zs_118_21, ↓zs_118_22, ↓zs_118_23, ↓zs_118_24, ↓zs_118_27, ↓zs_118_29, ↓zs_118_30, ↓zs_118_31, ↓zs_118_34, ↓zs_118_35, ↓zs_118_38, ↓zs_118_41, ↓zs_118_42, ↓zs_118_44, ↓zs_118_45, ↓zs_118_47, ↓zs_118_48, zx_pu_s, zx_pu_n, zx_rv_s, zx_rv_n, true_and, and_true, true_or, or_true, zb_0, zb_1, zq_lcl, zq_lcg, zq_lce, eq_self, ite_true, ite_false, yl, yg, q1, q2]
    · rw [ze_231]
      simp (disch := omega) only [↓zs_231_0, ↓zs_231_1, ↓zs_231_2, ↓zs_231_5, ↓zs_231_6, ↓zs_231_7, ↓zs_231_8, ↓zs_231_11, ↓zs_231_14, ↓zs_231_17, ↓zs_231_19, ↓zs_231_20, ↓zs_231_21, ↓zs_231_24, ↓zs_231_25, ↓zs_231_26, ↓zs_231_29, ↓zs_231_31, ↓zs_231_32, ↓zs_231_33, ↓zs_231_36, ↓zs_231_37, ↓zs_231_38, ↓zs_231_41, ↓zs_231_42, ↓zs_231_43, ↓zs_231_44, zx_pu_s, zx_pu_n, zx_rv_s, zx_rv_n, true_and, and_true, true_or, or_true, zb_0, zb_1, zq_lcl, zq_lcg, zq_lce, eq_self, ite_true, ite_false, zk_138, zw_138, zk_139, zw_139, zk_140, zw_140, zk_141, zw_141, zk_142, zw_142, zk_143, zw_143, zk_144, zw_144, zk_145, zw_145, zk_146, zw_146, zk_147, zw_147, zk_148, zw_148, zk_149, zw_149, zk_150, zw_150, zk_151, zw_151, zk_152, zw_152, zq_138_1, zq_138_2, zq_138_3, zq_138_4, zq_138_16, zq_138_19, zq_138_20, zq_138_24, zq_138_25, zq_138_26, zq_138_27, zq_138_31, zq_138_32, zq_138_33, hbt, zB_0]
  | true =>
    rw [c] at hbt
    obtain ⟨k, hk1, hk, rfl⟩ := zf_bt_nI c (by omega)
    have a1 : ¬ k < 1 := by omega
    have a2 : ¬ 60 < k := by omega
    have z139 : ∀ y, zx_u I 138 0 y 139 3 = nI (zn (I 139)) := fun y => (zu_n (by decide)).trans e3
    by_cases h0 : zn (I 139) < 1
    · have q0 : zn (I 139) = 0 := by omega
      rw [q0] at hN z139
      refine zQ_D (m := m) ⟨.int (-5), I, J, zx_u I 138 0 (nI 0), J, fun d P => ?_, fun d P => ?_, zScr_s (zFs_0 _ _)⟩ v (by omega)
      · rw [ze_118]
        simp (disch := omega) only [↓zs_118_0, ↓zs_118_1, ↓zs_118_2, ↓zs_118_5, ↓zs_118_6, ↓zs_118_8, ↓zs_118_11, ↓zs_118_13, ↓zs_118_14, ↓zs_118_15, ↓zs_118_18, ↓zs_118_21, ↓zs_118_22, ↓zs_118_23, ↓zs_118_24, ↓zs_118_27, ↓zs_118_29, ↓zs_118_30, ↓zs_118_31, ↓zs_118_34, ↓zs_118_35, ↓zs_118_38, ↓zs_118_41, ↓zs_118_42, ↓zs_118_44, ↓zs_118_45, ↓zs_118_47, ↓zs_118_48, zx_pu_s, zx_pu_n, zx_rv_s, zx_rv_n, true_and, and_true, true_or, or_true, zb_0, zb_1, zq_lcl, zq_lcg, zq_lce, eq_self, ite_true, ite_false, zk_0, zw_0, zk_1, zw_1, zq_0_0, zq_0_1, zq_0_2, zq_0_3, zq_0_4, zq_0_5, zq_0_6, zq_0_7, zq_0_8, zq_0_9, zq_0_10, zq_0_11, zq_1_0, zq_1_1, zq_1_2, zq_1_3, zq_1_4, zq_1_5, nI_ltI, a1, a2, hN, Nat.zero_lt_one]
      · rw [ze_231]
        simp (disch := omega) only [↓zs_231_0, ↓zs_231_1, ↓zs_231_2, ↓zs_231_5, ↓zs_231_6, ↓zs_231_7, ↓zs_231_8, ↓zs_231_11, ↓zs_231_14, ↓zs_231_17, ↓zs_231_19, ↓zs_231_20, ↓zs_231_21, ↓zs_231_24, ↓zs_231_25, ↓zs_231_26, ↓zs_231_29, ↓zs_231_31, ↓zs_231_32, ↓zs_231_33, ↓zs_231_36, ↓zs_231_37, ↓zs_231_38, ↓zs_231_41, ↓zs_231_42, ↓zs_231_43, ↓zs_231_44, zx_pu_s, zx_pu_n, zx_rv_s, zx_rv_n, true_and, and_true, true_or, or_true, zb_0, zb_1, zq_lcl, zq_lcg, zq_lce, eq_self, ite_true, ite_false, zk_138, zw_138, zk_139, zw_139, zk_140, zw_140, zk_141, zw_141, zk_142, zw_142, zk_143, zw_143, zk_144, zw_144, zk_145, zw_145, zk_146, zw_146, zk_147, zw_147, zk_148, zw_148, zk_149, zw_149, zk_150, zw_150, zk_151, zw_151, zk_152, zw_152, zq_138_1, zq_138_2, zq_138_3, zq_138_4, zq_138_16, zq_138_19, zq_138_20, zq_138_24, zq_138_25, zq_138_26, zq_138_27, zq_138_31, zq_138_32, zq_138_33, zin_nI, nI_clamp, hbt, zB_0, reduceCtorEq, z139]
    · have h0' : 0 < zn (I 139) := by omega
      have n0 : (nI (zn (I 139)) = nI 0) = False := zq_ne (by omega) (by omega) (by omega)
      obtain ⟨I1, f1, f1', r1, hb⟩ := sc_become (Lh := Lh) (I := I) (J := J) zx_st15 zx_st11 (by decide)
      have sq1 : zR_sq I1 J 1 (I 139) := zFc_sq zx_st15 f1 v.2.2.1
      have rb : zR_st I1 15 (I 139) := r1 _ v.2.2.2.1
      have rn : zR_st I1 11 (I 139) := zFc_st zx_st15 zx_st11 (by decide) f1 v.2.2.2.1
      obtain ⟨I3, f3, r3, z3, h3⟩ := sc_monthL (Lh := Lh) (I := I) (J := J) (x := x) h0' N8 hk (by omega) sq1 v.2.1 k 0 x (I 139) 0 I1 (by omega) (by omega) (zFc_r _ _) rn v.2.1 (zSm_r _)
      obtain ⟨vR, sR, -, kR, zR⟩ := zf_mon_V (zn (I 139)) k x (I 139) 0 m v.2.1 (by omega)
      have rb3 : zR_st I3 15 (I 139) := zFc_st zx_st11 zx_st15 (by decide) f3 rb
      have p13 : I3 23 1 = nI e := (f3 23 1 (by decide)).trans ((f1 23 1 (by decide)).trans p1)
      have p23 : I3 23 2 = nI D := (f3 23 2 (by decide)).trans ((f1 23 2 (by decide)).trans p2)
      obtain ⟨Ik, kf, kr, kg1, kg2, hkp⟩ := sc_keep (Lh := Lh) (I := I3) (J := J) zx_st15 (by decide) he hD p13 p23
      obtain ⟨C, hC⟩ : ∃ C, C = if (zf_mon (zn (I 139)) k x (I 139) 0).2 = 0 then I3 else Ik := ⟨_, rfl⟩
      have eC : ∀ a, a ≠ 23 → ¬ (25 ≤ a ∧ a ≤ 64) → C a = I3 a := by
        intro a h1 h2
        rw [hC]
        split
        · rfl
        · funext j; exact kf a j (by omega)
      have eA : C 139 = I 139 := by
        rw [eC 139 (by decide) (by decide), zFc_m zx_st11 f3 (by decide), zFc_m zx_st15 f1 (by decide)]
      obtain ⟨I5, f5, g5, h5⟩ := sp_keeps (Lh := Lh) (I := zx_u C 138 0 (nI 0)) (J := J)
      have v139 : (zx_u C 138 0 (nI 0)) 139 = I 139 := by rw [zu_139, eA]
      have v3 : (zx_u C 138 0 (nI 0)) 139 3 = nI (zn (I 139)) := by rw [v139]; exact e3
      obtain ⟨I6, f6, r6, h6⟩ := sp_monthL (Lh := Lh) (I := I) (J := J) (x := x) (I1 := zx_u I5 138 23 x) h0' N8 hk (by omega) e3 k 0 x (I 139) 0 (zx_u I5 138 23 x) (by omega) (by omega) (fun _ _ _ => rfl) (by rw [zu_139, f5 139 (by decide)]; exact v139) (zu_s _ _ _ _) v.2.1 (zSm_r _)
      generalize zf_mon (zn (I 139)) k x (I 139) 0 = R at *
      have e144 : I6 144 = I5 144 := funext fun j => (f6 144 j (by omega)).trans (zu_n (by omega))
      by_cases q : R.2 = 0
      · rw [if_pos q] at hC
        have eR : R.1 = I 139 := zR q
        have z1 : I3 = I1 := z3 q
        have hscr : zScr I J I6 J := zScr_i (fun a j h => by
          by_cases w : a = 139
          · subst w; rw [r6, eR]
          · unfold zSc at h
            rw [f6 a j (by omega), zu_n (by omega), f5 a (by omega), zu_n (by omega), hC, z1, f1 a j (by omega)])
        subst hC
        refine zQ_D (m := m) ⟨.int (nI 0), C, J, I6, J, fun d P => ?_, fun d P => ?_, hscr⟩ v (by omega)
        · obtain ⟨y5, y7, y8, y9, y10, h4⟩ := h3 d P zx_u0 zx_u0 zx_u0 zx_u0
          rw [ze_118]
          simp (disch := omega) only [↓zs_118_0, ↓zs_118_1, ↓zs_118_2, ↓zs_118_5, ↓zs_118_6, ↓zs_118_8, ↓zs_118_11, ↓zs_118_13, ↓zs_118_14, ↓zs_118_15, ↓zs_118_18, ↓zs_118_21, ↓zs_118_22, ↓zs_118_23, ↓zs_118_24, ↓zs_118_27, ↓zs_118_29, ↓zs_118_30, ↓zs_118_31, ↓zs_118_34, ↓zs_118_35, ↓zs_118_38, ↓zs_118_41, ↓zs_118_42, ↓zs_118_44, ↓zs_118_45, ↓zs_118_47, ↓zs_118_48, zx_pu_s, zx_pu_n, zx_rv_s, zx_rv_n, true_and, and_true, true_or, or_true, zb_0, zb_1, zq_lcl, zq_lcg, zq_lce, eq_self, ite_true, ite_false, zk_0, zw_0, zk_1, zw_1, zq_0_0, zq_0_1, zq_0_2, zq_0_3, zq_0_4, zq_0_5, zq_0_6, zq_0_7, zq_0_8, zq_0_9, zq_0_10, zq_0_11, zq_1_0, zq_1_1, zq_1_2, zq_1_3, zq_1_4, zq_1_5, zk_11, zw_11, zq_11_0, zq_11_1, zq_11_2, zk_15, zw_15, zq_15_0, zq_15_1, zq_15_2, nI_ltI, a1, a2, hN, h0, hb]
          rw [h4, q]
          simp (disch := omega) only [↓zs_118_190, ↓zs_118_192, ↓zs_118_195, ↓zs_118_196, ↓zs_118_199, ↓zs_118_200, ↓zs_118_203, ↓zs_118_206, ↓zs_118_208, zx_pu_s, zx_pu_n, zx_rv_s, zx_rv_n, true_and, and_true, true_or, or_true, zb_0, zb_1, zq_lcl, zq_lcg, zq_lce, eq_self, ite_true, ite_false, zk_0, zw_0, zk_1, zw_1, zq_0_0, zq_0_1, zq_0_2, zq_0_3, zq_0_4, zq_0_5, zq_0_6, zq_0_7, zq_0_8, zq_0_9, zq_0_10, zq_0_11, zq_1_0, zq_1_1, zq_1_2, zq_1_3, zq_1_4, zq_1_5, nI_ltI, Nat.lt_irrefl]
        · obtain ⟨y5, h4⟩ := h6 d P zx_u0
          rw [ze_231]
          simp (disch := omega) only [↓zs_231_0, ↓zs_231_1, ↓zs_231_2, ↓zs_231_5, ↓zs_231_6, ↓zs_231_7, ↓zs_231_8, ↓zs_231_11, ↓zs_231_14, ↓zs_231_17, ↓zs_231_19, ↓zs_231_20, ↓zs_231_21, ↓zs_231_24, ↓zs_231_25, ↓zs_231_26, ↓zs_231_29, ↓zs_231_31, ↓zs_231_32, ↓zs_231_33, ↓zs_231_36, ↓zs_231_37, ↓zs_231_38, ↓zs_231_41, ↓zs_231_42, ↓zs_231_43, ↓zs_231_44, zx_pu_s, zx_pu_n, zx_rv_s, zx_rv_n, true_and, and_true, true_or, or_true, zb_0, zb_1, zq_lcl, zq_lcg, zq_lce, eq_self, ite_true, ite_false, zk_138, zw_138, zk_139, zw_139, zk_140, zw_140, zk_141, zw_141, zk_142, zw_142, zk_143, zw_143, zk_144, zw_144, zk_145, zw_145, zk_146, zw_146, zk_147, zw_147, zk_148, zw_148, zk_149, zw_149, zk_150, zw_150, zk_151, zw_151, zk_152, zw_152, zq_138_1, zq_138_2, zq_138_3, zq_138_4, zq_138_16, zq_138_19, zq_138_20, zq_138_24, zq_138_25, zq_138_26, zq_138_27, zq_138_31, zq_138_32, zq_138_33, zin_nI, nI_clamp, hbt, zB_0, reduceCtorEq, v3, n0, h5]
          rw [h4, q]
          simp (disch := omega) only [↓zs_231_87, ↓zs_231_88, ↓zs_231_91, ↓zs_231_92, ↓zs_231_95, ↓zs_231_96, zx_pu_s, zx_pu_n, zx_rv_s, zx_rv_n, true_and, and_true, true_or, or_true, zb_0, zb_1, zq_lcl, zq_lcg, zq_lce, eq_self, ite_true, ite_false, zk_138, zw_138, zk_139, zw_139, zk_140, zw_140, zk_141, zw_141, zk_142, zw_142, zk_143, zw_143, zk_144, zw_144, zk_145, zw_145, zk_146, zw_146, zk_147, zw_147, zk_148, zw_148, zk_149, zw_149, zk_150, zw_150, zk_151, zw_151, zk_152, zw_152, zq_138_1, zq_138_2, zq_138_3, zq_138_4, zq_138_16, zq_138_19, zq_138_20, zq_138_24, zq_138_25, zq_138_26, zq_138_27, zq_138_31, zq_138_32, zq_138_33, nI_ltI, Nat.lt_irrefl]
      · rw [if_neg q] at hC
        have hlt : 0 < R.2 := by omega
        have ko : zKo I Ik R.1 e D := by
          refine ⟨fun a j h => ?_, kg1, kg2, kr _ rb3, zR_st_f r3 (fun a j h1 h2 => kf a j (by omega))⟩
          unfold zSc at h
          rw [kf a j (by omega), f3 a j (by omega), f1 a j (by omega)]
        have hnote := fun d P => sp_notes (Lh := Lh) (I := I6) (J := J) (D := D) hD (by rw [r6, sR 134 (by omega)]; exact p3) (d := d) (P := P)
        have o : zMo C (zx_ur I6 139 (zf_note (I6 139) (I6 144) D)) R.1 (I 139) D := by
          refine ⟨fun a j w => ?_, I5 144, fun j hj => ?_, by rw [zr_s, r6, e144]⟩
          · unfold zSc at w
            rw [zr_o (fun x => w (.inl x)), f6 a j (by omega), zu_n (by omega), f5 a (by omega), zu_n (by omega)]
          · rw [g5 j hj, v139]
        subst hC
        have fin := zKM v (m2 := m + 60) (by omega) sR (zV_mono vR (by omega)) he hD p1 p2 p3 p4 ko o
        refine ⟨.int (nI R.2), C, J, _, J, fun d P => ?_, fun d P => ?_, fin⟩
        · obtain ⟨y5, y7, y8, y9, y10, h4⟩ := h3 d P zx_u0 zx_u0 zx_u0 zx_u0
          rw [ze_118]
          simp (disch := omega) only [↓zs_118_0, ↓zs_118_1, ↓zs_118_2, ↓zs_118_5, ↓zs_118_6, ↓zs_118_8, ↓zs_118_11, ↓zs_118_13, ↓zs_118_14, ↓zs_118_15, ↓zs_118_18, ↓zs_118_21, ↓zs_118_22, ↓zs_118_23, ↓zs_118_24, ↓zs_118_27, ↓zs_118_29, ↓zs_118_30, ↓zs_118_31, ↓zs_118_34, ↓zs_118_35, ↓zs_118_38, ↓zs_118_41, ↓zs_118_42, ↓zs_118_44, ↓zs_118_45, ↓zs_118_47, ↓zs_118_48, zx_pu_s, zx_pu_n, zx_rv_s, zx_rv_n, true_and, and_true, true_or, or_true, zb_0, zb_1, zq_lcl, zq_lcg, zq_lce, eq_self, ite_true, ite_false, zk_0, zw_0, zk_1, zw_1, zq_0_0, zq_0_1, zq_0_2, zq_0_3, zq_0_4, zq_0_5, zq_0_6, zq_0_7, zq_0_8, zq_0_9, zq_0_10, zq_0_11, zq_1_0, zq_1_1, zq_1_2, zq_1_3, zq_1_4, zq_1_5, zk_11, zw_11, zq_11_0, zq_11_1, zq_11_2, zk_15, zw_15, zq_15_0, zq_15_1, zq_15_2, nI_ltI, a1, a2, hN, h0, hb]
          rw [h4]
          simp (disch := omega) only [↓zs_118_190, ↓zs_118_192, ↓zs_118_195, ↓zs_118_196, ↓zs_118_199, ↓zs_118_200, ↓zs_118_203, ↓zs_118_206, ↓zs_118_208, zx_pu_s, zx_pu_n, zx_rv_s, zx_rv_n, true_and, and_true, true_or, or_true, zb_0, zb_1, zq_lcl, zq_lcg, zq_lce, eq_self, ite_true, ite_false, zk_0, zw_0, zk_1, zw_1, zq_0_0, zq_0_1, zq_0_2, zq_0_3, zq_0_4, zq_0_5, zq_0_6, zq_0_7, zq_0_8, zq_0_9, zq_0_10, zq_0_11, zq_1_0, zq_1_1, zq_1_2, zq_1_3, zq_1_4, zq_1_5, zk_15, zw_15, zq_15_0, zq_15_1, zq_15_2, zk_23, zw_23, zq_23_0, nI_ltI, hlt, hkp]
        · obtain ⟨y5, h4⟩ := h6 d P zx_u0
          rw [ze_231]
          simp (disch := omega) only [↓zs_231_0, ↓zs_231_1, ↓zs_231_2, ↓zs_231_5, ↓zs_231_6, ↓zs_231_7, ↓zs_231_8, ↓zs_231_11, ↓zs_231_14, ↓zs_231_17, ↓zs_231_19, ↓zs_231_20, ↓zs_231_21, ↓zs_231_24, ↓zs_231_25, ↓zs_231_26, ↓zs_231_29, ↓zs_231_31, ↓zs_231_32, ↓zs_231_33, ↓zs_231_36, ↓zs_231_37, ↓zs_231_38, ↓zs_231_41, ↓zs_231_42, ↓zs_231_43, ↓zs_231_44, zx_pu_s, zx_pu_n, zx_rv_s, zx_rv_n, true_and, and_true, true_or, or_true, zb_0, zb_1, zq_lcl, zq_lcg, zq_lce, eq_self, ite_true, ite_false, zk_138, zw_138, zk_139, zw_139, zk_140, zw_140, zk_141, zw_141, zk_142, zw_142, zk_143, zw_143, zk_144, zw_144, zk_145, zw_145, zk_146, zw_146, zk_147, zw_147, zk_148, zw_148, zk_149, zw_149, zk_150, zw_150, zk_151, zw_151, zk_152, zw_152, zq_138_1, zq_138_2, zq_138_3, zq_138_4, zq_138_16, zq_138_19, zq_138_20, zq_138_24, zq_138_25, zq_138_26, zq_138_27, zq_138_31, zq_138_32, zq_138_33, zin_nI, nI_clamp, hbt, zB_0, reduceCtorEq, v3, n0, h5]
          rw [h4]
          simp (disch := omega) only [↓zs_231_87, ↓zs_231_88, ↓zs_231_91, ↓zs_231_92, ↓zs_231_95, ↓zs_231_96, zx_pu_s, zx_pu_n, zx_rv_s, zx_rv_n, true_and, and_true, true_or, or_true, zb_0, zb_1, zq_lcl, zq_lcg, zq_lce, eq_self, ite_true, ite_false, zk_138, zw_138, zk_139, zw_139, zk_140, zw_140, zk_141, zw_141, zk_142, zw_142, zk_143, zw_143, zk_144, zw_144, zk_145, zw_145, zk_146, zw_146, zk_147, zw_147, zk_148, zw_148, zk_149, zw_149, zk_150, zw_150, zk_151, zw_151, zk_152, zw_152, zq_138_1, zq_138_2, zq_138_3, zq_138_4, zq_138_16, zq_138_19, zq_138_20, zq_138_24, zq_138_25, zq_138_26, zq_138_27, zq_138_31, zq_138_32, zq_138_33, nI_ltI, hlt, hnote]
end MD
