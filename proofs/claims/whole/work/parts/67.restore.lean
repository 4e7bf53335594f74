/-! restore -/
section RE
variable {Lh m : Nat} {I : zx_MI} {J : zx_MJ}
theorem d_restore (v : zInv I J m) (x : Int32) : zD Lh 147 268 [.int x] I J m := by
  have hb := sp_bt1 x
  cases c : zf_in x.toInt 2 with
  | false =>
    rw [c] at hb
    have h1 := fun d P => sc_noImage (d := d) (Lh := Lh) (I := I) (J := J) (P := P) c
    refine zQ_D (m := m) ⟨.int (-2), I, J, zx_u I 138 0 (nI 0), J, fun d P => ?_, fun d P => ?_, zScr_s (zFs_0 _ _)⟩ v (Nat.le_refl m)
    · rw [ze_147]
      simp (disch := omega) only [↓zs_147_0, ↓zs_147_1, ↓zs_147_2, ↓zs_147_5, ↓zs_147_8, ↓zs_147_10, ↓zs_147_11, ↓zs_147_12, ↓zs_147_15, ↓zs_147_16, ↓zs_147_17, ↓zs_147_20, ↓zs_147_22, ↓zs_147_23, ↓zs_147_24, ↓zs_147_27, ↓zs_147_28, ↓zs_147_31, ↓zs_147_32, ↓zs_147_33, ↓zs_147_36, ↓zs_147_37, ↓zs_147_40, ↓zs_147_41, ↓zs_147_44, ↓zs_147_45, ↓zs_147_46, ↓zs_147_49, ↓zs_147_50, ↓zs_147_53, ↓zs_147_56, ↓zs_147_57, zx_pu_s, zx_pu_n, zx_rv_s, zx_rv_n, true_and, and_true, true_or, or_true, zb_0, zb_1, zq_lcl, zq_lcg, zq_lce, eq_self, ite_true, ite_false, zk_0, zw_0, zq_0_0, zq_0_1, zq_0_2, zq_0_3, zq_0_4, zq_0_5, zq_0_6, zq_0_7, zq_0_8, zq_0_9, zq_0_10, zq_0_11, h1]
    · rw [ze_268]
      simp (disch := omega) only [↓zs_268_0, ↓zs_268_1, ↓zs_268_2, ↓zs_268_5, ↓zs_268_6, ↓zs_268_7, ↓zs_268_8, ↓zs_268_9, ↓zs_268_12, ↓zs_268_15, ↓zs_268_17, ↓zs_268_18, ↓zs_268_19, ↓zs_268_22, ↓zs_268_23, ↓zs_268_24, ↓zs_268_27, ↓zs_268_29, ↓zs_268_30, ↓zs_268_31, zx_pu_s, zx_pu_n, zx_rv_s, zx_rv_n, true_and, and_true, true_or, or_true, zb_0, zb_1, zq_lcl, zq_lcg, zq_lce, eq_self, ite_true, ite_false, zk_138, zw_138, zk_139, zw_139, zk_140, zw_140, zk_141, zw_141, zk_142, zw_142, zk_143, zw_143, zk_144, zw_144, zk_145, zw_145, zk_146, zw_146, zk_147, zw_147, zk_148, zw_148, zk_149, zw_149, zk_150, zw_150, zk_151, zw_151, zk_152, zw_152, zq_138_1, zq_138_2, zq_138_3, zq_138_4, zq_138_16, zq_138_19, zq_138_20, zq_138_24, zq_138_25, zq_138_26, zq_138_27, zq_138_31, zq_138_32, zq_138_33, hb, zB_0]
  | true =>
    rw [c] at hb
    have ex1 := zq_toI (x := x) rfl c (by omega)
    have hi : x.toInt.toNat < 2 := by have := zf_inP.mp c; omega
    generalize x.toInt.toNat = i at ex1 hi
    subst ex1
    obtain ⟨k1, k2, k3, k4⟩ := zIm_k Lh hi
    have h1 := fun d I J P => sc_isImage (d := d) (Lh := Lh) (I := I) (J := J) (P := P) hi
    have c1 : (nI 1 = nI 0) = False := eq_false (by decide)
    obtain ⟨b, b1, b2, b3⟩ := v.2.2.2.2.2.1 i hi
    have u140 : zx_u I 138 0 (nI 0) 140 = I 140 := zu_o (by decide)
    cases b with
    | false =>
      rw [zBf] at b1 b2
      refine zQ_D (m := m) ⟨.int (-5), I, J, zx_u I 138 0 (nI 0), J, fun d P => ?_, fun d P => ?_, zScr_s (zFs_0 _ _)⟩ v (Nat.le_refl m)
      · rw [ze_147]
        simp (disch := omega) only [↓zs_147_0, ↓zs_147_1, ↓zs_147_2, ↓zs_147_5, ↓zs_147_8, ↓zs_147_10, ↓zs_147_11, ↓zs_147_12, ↓zs_147_15, ↓zs_147_16, ↓zs_147_17, ↓zs_147_20, ↓zs_147_22, ↓zs_147_23, ↓zs_147_24, ↓zs_147_27, ↓zs_147_28, ↓zs_147_31, ↓zs_147_32, ↓zs_147_33, ↓zs_147_36, ↓zs_147_37, ↓zs_147_40, ↓zs_147_41, ↓zs_147_44, ↓zs_147_45, ↓zs_147_46, ↓zs_147_49, ↓zs_147_50, ↓zs_147_53, ↓zs_147_56, ↓zs_147_57, zx_pu_s, zx_pu_n, zx_rv_s, zx_rv_n, true_and, and_true, true_or, or_true, zb_0, zb_1, zq_lcl, zq_lcg, zq_lce, eq_self, ite_true, ite_false, zk_0, zw_0, zq_0_0, zq_0_1, zq_0_2, zq_0_3, zq_0_4, zq_0_5, zq_0_6, zq_0_7, zq_0_8, zq_0_9, zq_0_10, zq_0_11, zk_82, zw_82, zn_10, zn_40, zn_040, zn_340, nI_add, zin_nI, nI_clamp, nI_ltI, nI_eq, pk_mul, nI_1, Nat.lt_irrefl, h1, c1, hi, b1]
      · rw [ze_268]
        simp (disch := omega) only [↓zs_268_0, ↓zs_268_1, ↓zs_268_2, ↓zs_268_5, ↓zs_268_6, ↓zs_268_7, ↓zs_268_8, ↓zs_268_9, ↓zs_268_12, ↓zs_268_15, ↓zs_268_17, ↓zs_268_18, ↓zs_268_19, ↓zs_268_22, ↓zs_268_23, ↓zs_268_24, ↓zs_268_27, ↓zs_268_29, ↓zs_268_30, ↓zs_268_31, zx_pu_s, zx_pu_n, zx_rv_s, zx_rv_n, true_and, and_true, true_or, or_true, zb_0, zb_1, zq_lcl, zq_lcg, zq_lce, eq_self, ite_true, ite_false, zk_138, zw_138, zk_139, zw_139, zk_140, zw_140, zk_141, zw_141, zk_142, zw_142, zk_143, zw_143, zk_144, zw_144, zk_145, zw_145, zk_146, zw_146, zk_147, zw_147, zk_148, zw_148, zk_149, zw_149, zk_150, zw_150, zk_151, zw_151, zk_152, zw_152, zq_138_1, zq_138_2, zq_138_3, zq_138_4, zq_138_16, zq_138_19, zq_138_20, zq_138_24, zq_138_25, zq_138_26, zq_138_27, zq_138_31, zq_138_32, zq_138_33, zn_10, zn_40, zn_040, zn_340, nI_add, zin_nI, nI_clamp, nI_ltI, nI_eq, pk_mul, nI_1, Nat.lt_irrefl, hb, zB_0, reduceCtorEq, hi, u140, b2]
    | true =>
      obtain ⟨q1, q2, q3⟩ := b3 rfl
      rw [zBt] at b1 b2
      obtain ⟨I1, J1, f1, j1, r1, hq⟩ := sc_sqBecome (Lh := Lh) zx_sq1 k3 (by omega) q3 q1
      have rT : zR_st I1 (120 + 14 * i) (zf_img (I 139) i) := zR_st_f q2 (fun a j h1 h2 => f1 a j (by omega))
      obtain ⟨I2, -, f2, r2, hst⟩ := sc_become (Lh := Lh) (I := I1) (J := J1) zx_st11 k4 (by omega)
      have r2' := r2 _ rT
      obtain ⟨I3, hI3⟩ : ∃ I3, I3 = zx_u I2 23 2 (nI 0) := ⟨_, rfl⟩
      have hfor : ∀ d P, zx_rn d 25 [.ref 23] (zx_LL Lh) I2 J1 P = P none (zx_LL Lh) I3 J1 := by
        intro d P
        rw [ze_25, hI3]
        simp (disch := omega) only [↓zs_25_0, ↓zs_25_1, ↓zs_25_2, ↓zs_25_5, zx_pu_s, zx_pu_n, zx_rv_s, zx_rv_n, true_and, and_true, true_or, or_true, zb_0, zb_1, zq_lcl, zq_lcg, zq_lce, eq_self, ite_true, ite_false, zk_23, zw_23, zq_23_0]
      have row3 : ∀ a, ¬ (1 ≤ a ∧ a ≤ 14) → a ≠ 23 → I3 a = I a := by
        intro a h1 h2
        rw [hI3, zu_o h2, f2 a (by omega) (by omega) (by omega) (by omega)]
        exact funext fun j => f1 a j (by omega)
      have e139 : I3 139 = I 139 := row3 139 (by omega) (by omega)
      have lm : ∀ mm n, n + mm = 1286 → ∀ d P, zx_wp d 268 32 [.ref 138, .int (nI i), .int (nI n)] [] (zx_LL Lh) (zx_ur (zx_u I3 138 0 (nI 0)) 139 (zf_load (I 139) i n)) J1 P = P (some (.int (nI 0))) (zx_LL Lh) (zx_ur (zx_u I3 138 0 (nI 0)) 139 (zu1 (zf_load (I 139) i 1286) 134 (nI 0))) J1 := by
        intro mm
        induction mm with
        | zero =>
          intro n hn d P
          obtain rfl : n = 1286 := by omega
          rw [zs_268_32]
          simp (disch := omega) only [↓zs_268_33, ↓zs_268_36, ↓zs_268_39, ↓zs_268_40, ↓zs_268_43, ↓zs_268_44, ↓zs_268_45, ↓zs_268_48, ↓zs_268_51, ↓zs_268_52, ↓zs_268_53, ↓zs_268_54, ↓zs_268_55, ↓zs_268_56, ↓zs_268_57, ↓zs_268_58, ↓zs_268_59, ↓zs_268_62, ↓zs_268_65, ↓zs_268_66, ↓zs_268_69, ↓zs_268_72, ↓zs_268_73, ↓zs_268_74, ↓zs_268_75, zx_pu_s, zx_pu_n, zx_rv_s, zx_rv_n, true_and, and_true, true_or, or_true, zb_0, zb_1, zq_lcl, zq_lcg, zq_lce, eq_self, ite_true, ite_false, zk_138, zw_138, zk_139, zw_139, zk_140, zw_140, zk_141, zw_141, zk_142, zw_142, zk_143, zw_143, zk_144, zw_144, zk_145, zw_145, zk_146, zw_146, zk_147, zw_147, zk_148, zw_148, zk_149, zw_149, zk_150, zw_150, zk_151, zw_151, zk_152, zw_152, zq_138_1, zq_138_2, zq_138_3, zq_138_4, zq_138_16, zq_138_19, zq_138_20, zq_138_24, zq_138_25, zq_138_26, zq_138_27, zq_138_31, zq_138_32, zq_138_33, zn_10, zn_40, zn_040, zn_340, nI_add, zin_nI, nI_clamp, nI_ltI, nI_eq, pk_mul, nI_1, Nat.lt_irrefl, zu_ur]
        | succ mm ih =>
          intro n hn d P
          have hlt : n < 1286 := by omega
          have r0 : zf_load (I 139) i n (1286 * (i + 1) + n) = I 139 (1286 * (i + 1) + n) := by unfold zf_load; rw [if_neg (by omega)]
          have es : zu1 (zf_load (I 139) i n) n (I 139 (1286 * (i + 1) + n)) = zf_load (I 139) i (n + 1) := by
            funext j
            unfold zf_load
            by_cases q : j = n
            · rw [q, zu1_s, if_pos (show n < n + 1 by omega)]
            · rw [zu1_n q]
              by_cases c9 : j < n
              · rw [if_pos c9, if_pos (show j < n + 1 by omega)]
              · rw [if_neg c9, if_neg (show ¬ j < n + 1 by omega)]
          rw [← ih (n + 1) (by omega) d P, zs_268_32]
          simp (disch := omega) only [↓zs_268_33, ↓zs_268_36, ↓zs_268_39, ↓zs_268_40, ↓zs_268_43, ↓zs_268_44, ↓zs_268_45, ↓zs_268_48, ↓zs_268_51, ↓zs_268_52, ↓zs_268_53, ↓zs_268_54, ↓zs_268_55, ↓zs_268_56, ↓zs_268_57, ↓zs_268_58, ↓zs_268_59, ↓zs_268_62, zx_pu_s, zx_pu_n, zx_rv_s, zx_rv_n, true_and, and_true, true_or, or_true, zb_0, zb_1, zq_lcl, zq_lcg, zq_lce, eq_self, ite_true, ite_false, zk_138, zw_138, zk_139, zw_139, zk_140, zw_140, zk_141, zw_141, zk_142, zw_142, zk_143, zw_143, zk_144, zw_144, zk_145, zw_145, zk_146, zw_146, zk_147, zw_147, zk_148, zw_148, zk_149, zw_149, zk_150, zw_150, zk_151, zw_151, zk_152, zw_152, zq_138_1, zq_138_2, zq_138_3, zq_138_4, zq_138_16, zq_138_19, zq_138_20, zq_138_24, zq_138_25, zq_138_26, zq_138_27, zq_138_31, zq_138_32, zq_138_33, zn_10, zn_40, zn_040, zn_340, nI_add, zin_nI, nI_clamp, nI_ltI, nI_eq, pk_mul, nI_1, Nat.lt_irrefl, hlt, zr_s, r0, zu_ur, es]
      have e0 : zx_ur (zx_u I3 138 0 (nI 0)) 139 (zf_load (I 139) i 0) = zx_u I3 138 0 (nI 0) := by
        have : zf_load (I 139) i 0 = zx_u I3 138 0 (nI 0) 139 := by
          rw [zu_139, e139]
          exact funext fun j => if_neg (by omega)
        rw [this, zr_id]
      have l0 := lm 1286 0 rfl
      rw [e0] at l0
      obtain ⟨Im, hIm⟩ : ∃ Im, Im = zx_ur (zx_u I3 138 0 (nI 0)) 139 (zu1 (zf_load (I 139) i 1286) 134 (nI 0)) := ⟨_, rfl⟩
      rw [← hIm] at l0
      have r139 : Im 139 = zu1 (zf_load (I 139) i 1286) 134 (nI 0) := by rw [hIm, zr_s]
      have exA : zEx (zf_img (I 139) i) (Im 139) := by
        intro j h1 h2
        rw [r139, zu1_n (by omega)]
        unfold zf_load
        rw [if_pos h1]
        rfl
      have row : ∀ a, ¬ (1 ≤ a ∧ a ≤ 14) → a ≠ 23 → a ≠ 138 → a ≠ 139 → Im a = I a := by
        intro a h1 h2 h3 h4
        rw [hIm, zr_o h4, zu_o h3, row3 a h1 h2]
      have rowc : ∀ a, a < 138 → Im a = I3 a := by
        intro a h1
        rw [hIm, zr_o (by omega), zu_o (by omega)]
      have r138 : ∀ j, j ≠ 0 → Im 138 j = I 138 j := by
        intro j hj
        rw [hIm, zr_o (by decide), zu_n (by omega), row3 138 (by omega) (by omega)]
      have u140' : zx_u I3 138 0 (nI 0) 140 i = nI 1 := by rw [zu_o (by decide), row3 140 (by omega) (by omega)]; exact b2
      have k0 := (zT_k (Lh := Lh) zx_st11).1
      refine ⟨.int (nI 0), I3, J1, Im, J1, fun d P => ?_, fun d P => ?_, ?_⟩
      · rw [ze_147]
        simp (disch := omega) only [↓zs_147_0, ↓zs_147_1, ↓zs_147_2, ↓zs_147_5, ↓zs_147_8, ↓zs_147_10, ↓zs_147_11, ↓zs_147_12, ↓zs_147_15, ↓zs_147_16, ↓zs_147_17, ↓zs_147_20, ↓zs_147_22, ↓zs_147_23, ↓zs_147_24, ↓zs_147_27, ↓zs_147_28, ↓zs_147_31, ↓zs_147_32, ↓zs_147_33, ↓zs_147_36, ↓zs_147_37, ↓zs_147_40, ↓zs_147_41, ↓zs_147_44, ↓zs_147_45, ↓zs_147_46, ↓zs_147_49, ↓zs_147_50, ↓zs_147_53, ↓zs_147_56, ↓zs_147_57, zx_pu_s, zx_pu_n, zx_rv_s, zx_rv_n, true_and, and_true, true_or, or_true, zb_0, zb_1, zq_lcl, zq_lcg, zq_lce, eq_self, ite_true, ite_false, zk_0, zw_0, zk_1, zw_1, zq_0_0, zq_0_1, zq_0_2, zq_0_3, zq_0_4, zq_0_5, zq_0_6, zq_0_7, zq_0_8, zq_0_9, zq_0_10, zq_0_11, zq_1_0, zq_1_1, zq_1_2, zq_1_3, zq_1_4, zq_1_5, zk_11, zw_11, zq_11_0, zq_11_1, zq_11_2, zk_23, zw_23, zq_23_0, zk_80, zw_80, zk_81, zw_81, zk_82, zw_82, zq_80_0, zq_80_1, zq_81_0, zq_81_1, zn_10, zn_40, zn_040, zn_340, nI_add, zin_nI, nI_clamp, nI_ltI, nI_eq, pk_mul, nI_1, Nat.lt_irrefl, h1, c1, zn_1016, zn_1640, zn_1017, zn_1740, k1, k2, hq, hst, hfor, hi, b1]
      · rw [← l0 (d + 30) P, ze_268]
        simp (disch := omega) only [↓zs_268_0, ↓zs_268_1, ↓zs_268_2, ↓zs_268_5, ↓zs_268_6, ↓zs_268_7, ↓zs_268_8, ↓zs_268_9, ↓zs_268_12, ↓zs_268_15, ↓zs_268_17, ↓zs_268_18, ↓zs_268_19, ↓zs_268_22, ↓zs_268_23, ↓zs_268_24, ↓zs_268_27, ↓zs_268_29, ↓zs_268_30, ↓zs_268_31, zx_pu_s, zx_pu_n, zx_rv_s, zx_rv_n, true_and, and_true, true_or, or_true, zb_0, zb_1, zq_lcl, zq_lcg, zq_lce, eq_self, ite_true, ite_false, zk_138, zw_138, zk_139, zw_139, zk_140, zw_140, zk_141, zw_141, zk_142, zw_142, zk_143, zw_143, zk_144, zw_144, zk_145, zw_145, zk_146, zw_146, zk_147, zw_147, zk_148, zw_148, zk_149, zw_149, zk_150, zw_150, zk_151, zw_151, zk_152, zw_152, zq_138_1, zq_138_2, zq_138_3, zq_138_4, zq_138_16, zq_138_19, zq_138_20, zq_138_24, zq_138_25, zq_138_26, zq_138_27, zq_138_31, zq_138_32, zq_138_33, zn_10, zn_40, zn_040, zn_340, nI_add, zin_nI, nI_clamp, nI_ltI, nI_eq, pk_mul, nI_1, Nat.lt_irrefl, hb, zB_0, reduceCtorEq, hi, u140', c1]
      · obtain ⟨v1, v2, v3, v4, v5, v6, v7, v8, v9, v10⟩ := v
        refine ⟨?_, ?_, ?_, ?_, ?_, ?_, ?_, ?_, ?_, ?_⟩
        · intro a j ha; rw [row a (by omega) (by omega) (by omega) (by omega)]; exact v1 a j ha
        · exact zEx_V exA q3
        · refine zEx_sq exA q3 (zR_sq_f r1 (fun a j h1 h2 h3 h4 => ?_) (fun _ => rfl))
          rw [rowc a (by omega), hI3, zu_o (by omega), f2 a (by omega) (by omega) (by omega) (by omega)]
        · refine zEx_st exA (zR_st_f r2' (fun a j h1 h2 => ?_))
          rw [rowc a (by omega), hI3, zu_o (by omega)]
        · obtain ⟨e, D, he, hD, p1, p2, p3, p4⟩ := v5
          refine ⟨e, 0, he, by omega, ?_, ?_, ?_, fun i2 hi2 => absurd hi2 (Nat.not_lt_zero i2)⟩
          · rw [rowc 23 (by omega), hI3, zu_n (by omega), f2 23 (by omega) (by omega) (by omega) (by omega), f1 23 1 (by omega)]; exact p1
          · rw [rowc 23 (by omega), hI3, zu_s]
          · rw [r139, zu1_s]
        · intro i2 hi2
          obtain ⟨b, g1, g2, g3⟩ := v6 i2 hi2
          have ei : zf_img (Im 139) i2 = zf_img (I 139) i2 := by
            funext j
            unfold zf_img
            rw [r139, zu1_n (by omega)]
            unfold zf_load
            rw [if_neg (by omega)]
          rw [ei, row 82 (by omega) (by omega) (by omega) (by omega), row 140 (by omega) (by omega) (by omega) (by omega)]
          refine ⟨b, g1, g2, fun hb => ?_⟩
          obtain ⟨c1, c2, c3⟩ := g3 hb
          exact ⟨zR_sq_f c1 (fun a j h1 h2 h3 h4 => by rw [row a (by omega) (by omega) (by omega) (by omega)]) (fun j => j1 _ j (by omega)), zR_st_f c2 (fun a j h1 h2 => by rw [row a (by omega) (by omega) (by omega) (by omega)]), c3⟩
        · intro t ht
          rw [row 150 (by omega) (by omega) (by omega) (by omega), row 151 (by omega) (by omega) (by omega) (by omega), row (102 + 2 * t) (by omega) (by omega) (by omega) (by omega)]
          rcases v7 t ht with q | ⟨s2, nn2, t1, t2, t3, t4, t5, t6, t7, t8⟩
          · exact .inl q
          · refine .inr ⟨s2, nn2, t1, t2, t3, t4, t5, t6, t7, fun i2 hi2 => ?_⟩
            rw [j1 _ _ (by omega), j1 _ _ (by omega)]
            exact t8 i2 hi2
        · obtain ⟨p, t1, t2, t3, t4⟩ := v8
          refine ⟨p, t1, by rw [row 0 (by omega) (by omega) (by omega) (by omega)]; exact t2, by rw [r138 5 (by omega)]; exact t3, fun i hi => ?_⟩
          rw [row 141 (by omega) (by omega) (by omega) (by omega), row 85 (by omega) (by omega) (by omega) (by omega)]
          exact t4 i hi
        · rw [row 0 (by omega) (by omega) (by omega) (by omega), r138 13 (by omega)]; exact v9
        · rw [row 0 (by omega) (by omega) (by omega) (by omega), r138 14 (by omega)]; exact v10
end RE
