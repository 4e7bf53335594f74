/-! calls that only look -/
theorem zq_ne {a b : Nat} (h : a ≠ b) (ha : a < 2 ^ 31) (hb : b < 2 ^ 31) : (nI a = nI b) = False := eq_false (fun e => h ((nI_eq ha hb).mp e))
section Q1
variable {Lh m : Nat} {I : zx_MI} {J : zx_MJ}
theorem zInv_k (v : zInv I J m) : (I 1 6 = nI (zw (I 139)) ∧ I 1 7 = nI (zh (I 139)) ∧ I 1 8 = nI (zn (I 139))) ∧ zR_ground J 1 (I 139) ∧ zM_ground (I 139) ∧ zM_excl (I 139) ∧ zM_ok (I 139) (zw (I 139)) (zh (I 139)) (zn (I 139)) ∧ zn (I 139) ≤ 8 ∧ zw (I 139) * zh (I 139) ≤ 64 := by
  obtain ⟨-, v2, v3, -⟩ := v
  have ok := v2.1
  exact ⟨⟨v3.1.trans ok.1.1, v3.2.1.trans ok.1.2.1, v3.2.2.1.trans ok.1.2.2.1⟩, v3.2.2.2.2.2.1, v2.2.1, v2.2.2.1, ok, ok.1.2.2.2.2.2, Nat.mul_le_mul ok.1.2.2.2.1 ok.1.2.2.2.2.1⟩
theorem zu_139 (I : zx_MI) (j : Nat) (x : Int32) : zx_u I 138 j x 139 = I 139 := zu_o (by decide)
theorem zx_SI_u {I : zx_MI} {a j : Nat} {x : Int32} (si : zx_SI I) (h : a < 5001) : zx_SI (zx_u I a j x) := fun b i hb => (zu_n (by omega)).trans (si b i hb)
theorem q_towards (v : zInv I J m) (x : Int32) : zQ Lh 109 210 [.int x] I J := by
  obtain ⟨⟨hw, hh, hN⟩, gr, g, ex, ok, N8, wh⟩ := zInv_k v
  refine ⟨_, I, J, _, J, fun d P => sc_towards (d := d + 27) x ok hw hN v.2.2.2.1, fun d P => sp_towards (d := d + 27) x ok, zScr_s (zFs_0 _ _)⟩
theorem q_fault (v : zInv I J m) (x : Int32) : zQ Lh 103 182 [.int x] I J := by
  have e1 := v.2.2.2.2.2.2.2.2.1
  have e2 := v.2.2.2.2.2.2.2.2.2
  refine ⟨.int (if x = nI 0 then I 138 13 else if x = nI 1 then I 138 14 else -1), I, J, zx_u I 138 0 (nI 0), J, fun d P => ?_, fun d P => ?_, zScr_s (zFs_0 _ _)⟩
  · rw [ze_103]
    by_cases c : x = nI 0
    · simp only [↓zs_103_0, ↓zs_103_1, ↓zs_103_4, ↓zs_103_5, ↓zs_103_8, ↓zs_103_9, ↓zs_103_10, ↓zs_103_11, ↓zs_103_14, ↓zs_103_15, ↓zs_103_18, ↓zs_103_21, ↓zs_103_22, zx_pu_s, zx_pu_n, zx_rv_s, zx_rv_n, true_and, and_true, true_or, or_true, zb_0, zb_1, zq_lcl, zq_lcg, zq_lce, eq_self, ite_true, ite_false, zk_0, zw_0, zq_0_0, zq_0_1, zq_0_2, zq_0_3, zq_0_4, zq_0_5, zq_0_6, zq_0_7, zq_0_8, zq_0_9, zq_0_10, zq_0_11, c, e1]
    · by_cases c1 : x = nI 1
      · simp only [↓zs_103_0, ↓zs_103_1, ↓zs_103_4, ↓zs_103_5, ↓zs_103_8, ↓zs_103_9, ↓zs_103_10, ↓zs_103_11, ↓zs_103_14, ↓zs_103_15, ↓zs_103_18, ↓zs_103_21, ↓zs_103_22, zx_pu_s, zx_pu_n, zx_rv_s, zx_rv_n, true_and, and_true, true_or, or_true, zb_0, zb_1, zq_lcl, zq_lcg, zq_lce, eq_self, ite_true, ite_false, zk_0, zw_0, zq_0_0, zq_0_1, zq_0_2, zq_0_3, zq_0_4, zq_0_5, zq_0_6, zq_0_7, zq_0_8, zq_0_9, zq_0_10, zq_0_11, c, c1, e2]
        rfl
      · simp only [↓zs_103_0, ↓zs_103_1, ↓zs_103_4, ↓zs_103_5, ↓zs_103_8, ↓zs_103_9, ↓zs_103_10, ↓zs_103_11, ↓zs_103_14, ↓zs_103_15, ↓zs_103_18, ↓zs_103_21, ↓zs_103_22, zx_pu_s, zx_pu_n, zx_rv_s, zx_rv_n, true_and, and_true, true_or, or_true, zb_0, zb_1, zq_lcl, zq_lcg, zq_lce, eq_self, ite_true, ite_false, zk_0, zw_0, zq_0_0, zq_0_1, zq_0_2, zq_0_3, zq_0_4, zq_0_5, zq_0_6, zq_0_7, zq_0_8, zq_0_9, zq_0_10, zq_0_11, c, c1, e2]
  · have u1 : ∀ y, zx_u I 138 0 y 138 13 = I 138 13 := fun y => zu_n (by decide)
    have u2 : ∀ y, zx_u I 138 0 y 138 14 = I 138 14 := fun y => zu_n (by decide)
    rw [ze_182]
    by_cases c : x = nI 0
    · simp only [↓zs_182_0, ↓zs_182_1, ↓zs_182_2, ↓zs_182_5, ↓zs_182_6, ↓zs_182_9, ↓zs_182_10, ↓zs_182_13, ↓zs_182_16, ↓zs_182_17, ↓zs_182_18, ↓zs_182_21, ↓zs_182_22, ↓zs_182_25, ↓zs_182_28, ↓zs_182_29, zx_pu_s, zx_pu_n, zx_rv_s, zx_rv_n, true_and, and_true, true_or, or_true, zb_0, zb_1, zq_lcl, zq_lcg, zq_lce, eq_self, ite_true, ite_false, zk_138, zw_138, zk_139, zw_139, zk_140, zw_140, zk_141, zw_141, zk_142, zw_142, zk_143, zw_143, zk_144, zw_144, zk_145, zw_145, zk_146, zw_146, zk_147, zw_147, zk_148, zw_148, zk_149, zw_149, zk_150, zw_150, zk_151, zw_151, zk_152, zw_152, zq_138_1, zq_138_2, zq_138_3, zq_138_4, zq_138_16, zq_138_19, zq_138_20, zq_138_24, zq_138_25, zq_138_26, zq_138_27, zq_138_31, zq_138_32, zq_138_33, c, u1]
    · by_cases c1 : x = nI 1
      · simp only [↓zs_182_0, ↓zs_182_1, ↓zs_182_2, ↓zs_182_5, ↓zs_182_6, ↓zs_182_9, ↓zs_182_10, ↓zs_182_13, ↓zs_182_16, ↓zs_182_17, ↓zs_182_18, ↓zs_182_21, ↓zs_182_22, ↓zs_182_25, ↓zs_182_28, ↓zs_182_29, zx_pu_s, zx_pu_n, zx_rv_s, zx_rv_n, true_and, and_true, true_or, or_true, zb_0, zb_1, zq_lcl, zq_lcg, zq_lce, eq_self, ite_true, ite_false, zk_138, zw_138, zk_139, zw_139, zk_140, zw_140, zk_141, zw_141, zk_142, zw_142, zk_143, zw_143, zk_144, zw_144, zk_145, zw_145, zk_146, zw_146, zk_147, zw_147, zk_148, zw_148, zk_149, zw_149, zk_150, zw_150, zk_151, zw_151, zk_152, zw_152, zq_138_1, zq_138_2, zq_138_3, zq_138_4, zq_138_16, zq_138_19, zq_138_20, zq_138_24, zq_138_25, zq_138_26, zq_138_27, zq_138_31, zq_138_32, zq_138_33, c, c1, u2]
        rfl
      · simp only [↓zs_182_0, ↓zs_182_1, ↓zs_182_2, ↓zs_182_5, ↓zs_182_6, ↓zs_182_9, ↓zs_182_10, ↓zs_182_13, ↓zs_182_16, ↓zs_182_17, ↓zs_182_18, ↓zs_182_21, ↓zs_182_22, ↓zs_182_25, ↓zs_182_28, ↓zs_182_29, zx_pu_s, zx_pu_n, zx_rv_s, zx_rv_n, true_and, and_true, true_or, or_true, zb_0, zb_1, zq_lcl, zq_lcg, zq_lce, eq_self, ite_true, ite_false, zk_138, zw_138, zk_139, zw_139, zk_140, zw_140, zk_141, zw_141, zk_142, zw_142, zk_143, zw_143, zk_144, zw_144, zk_145, zw_145, zk_146, zw_146, zk_147, zw_147, zk_148, zw_148, zk_149, zw_149, zk_150, zw_150, zk_151, zw_151, zk_152, zw_152, zq_138_1, zq_138_2, zq_138_3, zq_138_4, zq_138_16, zq_138_19, zq_138_20, zq_138_24, zq_138_25, zq_138_26, zq_138_27, zq_138_31, zq_138_32, zq_138_33, c, c1]
theorem q_stone (v : zInv I J m) (x : Int32) : zQ Lh 105 206 [.int x] I J := by
  obtain ⟨⟨hw, hh, hN⟩, gr, g, ex, ok, N8, wh⟩ := zInv_k v
  have h1 := fun d P => sc_hasStone (d := d) (Lh := Lh) (I := I) (J := J) (P := P) zx_sq1 x hw hh wh
  have ok2 : zM_ok (zx_u I 138 0 (nI 0) 139) (zw (I 139)) (zh (I 139)) (zn (I 139)) := by rw [zu_139]; exact ok
  have h2 := fun d P => sp_isStone (d := d) (Lh := Lh) (J := J) (P := P) x.toInt64 ok2.1.1 ok2.1.2.1 (by omega)
  rw [Int32.toInt_toInt64] at h2
  by_cases c : zf_in x.toInt (zw (I 139) * zh (I 139)) = true
  · have e := zq_toI (x := x) rfl c (by omega)
    have hk : x.toInt.toNat < 64 := by have := zf_inP.mp c; omega
    generalize x.toInt.toNat = k at e hk
    subst e
    have h3 := fun d P => sc_standing (d := d) (Lh := Lh) (P := P) zx_sq1 zx_st11 gr v.2.2.2.1 ok hk
    have h4 := fun d P => sp_statueOn (d := d) (Lh := Lh) (J := J) (P := P) (k := nI k) (a := 139) (n := 3858) rfl (by omega) (by omega) N8 ok2.1.2.2.1
    rw [zu_139] at h4
    refine ⟨.int (zf_stand (I 139) (zn (I 139)) k), I, J, zx_u I 138 0 (nI 0), J, fun d P => ?_, fun d P => ?_, zScr_s (zFs_0 _ _)⟩
    · rw [ze_105]
      simp only [↓zs_105_0, ↓zs_105_1, ↓zs_105_4, ↓zs_105_5, ↓zs_105_8, ↓zs_105_11, ↓zs_105_12, ↓zs_105_15, ↓zs_105_16, ↓zs_105_19, ↓zs_105_20, ↓zs_105_23, ↓zs_105_26, ↓zs_105_28, zx_pu_s, zx_pu_n, zx_rv_s, zx_rv_n, true_and, and_true, true_or, or_true, zb_0, zb_1, zq_lcl, zq_lcg, zq_lce, eq_self, ite_true, ite_false, zk_0, zw_0, zk_1, zw_1, zq_0_0, zq_0_1, zq_0_2, zq_0_3, zq_0_4, zq_0_5, zq_0_6, zq_0_7, zq_0_8, zq_0_9, zq_0_10, zq_0_11, zq_1_0, zq_1_1, zq_1_2, zq_1_3, zq_1_4, zq_1_5, zk_11, zw_11, zq_11_0, zq_11_1, zq_11_2, h1, c, zB_0, reduceCtorEq, h3]
    · rw [ze_206]
      unfold zf_stand
      rcases g k hk with q | q | q
      · simp (disch := omega) only [↓zs_206_0, ↓zs_206_1, ↓zs_206_2, ↓zs_206_5, ↓zs_206_6, ↓zs_206_7, ↓zs_206_8, ↓zs_206_11, ↓zs_206_14, ↓zs_206_16, ↓zs_206_19, ↓zs_206_20, ↓zs_206_23, ↓zs_206_25, ↓zs_206_26, ↓zs_206_27, ↓zs_206_28, ↓zs_206_31, ↓zs_206_32, ↓zs_206_35, ↓zs_206_37, ↓zs_206_38, ↓zs_206_39, ↓zs_206_40, ↓zs_206_43, ↓zs_206_44, ↓zs_206_47, ↓zs_206_48, ↓zs_206_51, zx_pu_s, zx_pu_n, zx_rv_s, zx_rv_n, true_and, and_true, true_or, or_true, zb_0, zb_1, zq_lcl, zq_lcg, zq_lce, eq_self, ite_true, ite_false, zk_138, zw_138, zk_139, zw_139, zk_140, zw_140, zk_141, zw_141, zk_142, zw_142, zk_143, zw_143, zk_144, zw_144, zk_145, zw_145, zk_146, zw_146, zk_147, zw_147, zk_148, zw_148, zk_149, zw_149, zk_150, zw_150, zk_151, zw_151, zk_152, zw_152, zq_138_1, zq_138_2, zq_138_3, zq_138_4, zq_138_16, zq_138_19, zq_138_20, zq_138_24, zq_138_25, zq_138_26, zq_138_27, zq_138_31, zq_138_32, zq_138_33, zn_10, zn_40, zn_040, zn_340, nI_add, zin_nI, nI_clamp, nI_ltI, nI_eq, pk_mul, nI_1, Nat.lt_irrefl, h2, c, zB_0, reduceCtorEq, zu_139, q, h4, show (nI 0 = -10) = False from eq_false (by decide), show (nI 0 = -11) = False from eq_false (by decide)]
      · simp (disch := omega) only [↓zs_206_0, ↓zs_206_1, ↓zs_206_2, ↓zs_206_5, ↓zs_206_6, ↓zs_206_7, ↓zs_206_8, ↓zs_206_11, ↓zs_206_14, ↓zs_206_16, ↓zs_206_19, ↓zs_206_20, ↓zs_206_23, ↓zs_206_25, ↓zs_206_26, ↓zs_206_27, ↓zs_206_28, ↓zs_206_31, ↓zs_206_32, ↓zs_206_35, ↓zs_206_37, ↓zs_206_38, ↓zs_206_39, ↓zs_206_40, ↓zs_206_43, ↓zs_206_44, ↓zs_206_47, ↓zs_206_48, ↓zs_206_51, zx_pu_s, zx_pu_n, zx_rv_s, zx_rv_n, true_and, and_true, true_or, or_true, zb_0, zb_1, zq_lcl, zq_lcg, zq_lce, eq_self, ite_true, ite_false, zk_138, zw_138, zk_139, zw_139, zk_140, zw_140, zk_141, zw_141, zk_142, zw_142, zk_143, zw_143, zk_144, zw_144, zk_145, zw_145, zk_146, zw_146, zk_147, zw_147, zk_148, zw_148, zk_149, zw_149, zk_150, zw_150, zk_151, zw_151, zk_152, zw_152, zq_138_1, zq_138_2, zq_138_3, zq_138_4, zq_138_16, zq_138_19, zq_138_20, zq_138_24, zq_138_25, zq_138_26, zq_138_27, zq_138_31, zq_138_32, zq_138_33, zn_10, zn_40, zn_040, zn_340, nI_add, zin_nI, nI_clamp, nI_ltI, nI_eq, pk_mul, nI_1, Nat.lt_irrefl, h2, c, zB_0, reduceCtorEq, zu_139, q, show ((-10 : Int32) = nI 0) = False from eq_false (by decide)]
      · simp (disch := omega) only [↓zs_206_0, ↓zs_206_1, ↓zs_206_2, ↓zs_206_5, ↓zs_206_6, ↓zs_206_7, ↓zs_206_8, ↓zs_206_11, ↓zs_206_14, ↓zs_206_16, ↓zs_206_19, ↓zs_206_20, ↓zs_206_23, ↓zs_206_25, ↓zs_206_26, ↓zs_206_27, ↓zs_206_28, ↓zs_206_31, ↓zs_206_32, ↓zs_206_35, ↓zs_206_37, ↓zs_206_38, ↓zs_206_39, ↓zs_206_40, ↓zs_206_43, ↓zs_206_44, ↓zs_206_47, ↓zs_206_48, ↓zs_206_51, zx_pu_s, zx_pu_n, zx_rv_s, zx_rv_n, true_and, and_true, true_or, or_true, zb_0, zb_1, zq_lcl, zq_lcg, zq_lce, eq_self, ite_true, ite_false, zk_138, zw_138, zk_139, zw_139, zk_140, zw_140, zk_141, zw_141, zk_142, zw_142, zk_143, zw_143, zk_144, zw_144, zk_145, zw_145, zk_146, zw_146, zk_147, zw_147, zk_148, zw_148, zk_149, zw_149, zk_150, zw_150, zk_151, zw_151, zk_152, zw_152, zq_138_1, zq_138_2, zq_138_3, zq_138_4, zq_138_16, zq_138_19, zq_138_20, zq_138_24, zq_138_25, zq_138_26, zq_138_27, zq_138_31, zq_138_32, zq_138_33, zn_10, zn_40, zn_040, zn_340, nI_add, zin_nI, nI_clamp, nI_ltI, nI_eq, pk_mul, nI_1, Nat.lt_irrefl, h2, c, zB_0, reduceCtorEq, zu_139, q, show ((-11 : Int32) = nI 0) = False from eq_false (by decide), show ((-11 : Int32) = -10) = False from eq_false (by decide)]
  · rw [Bool.not_eq_true] at c
    refine ⟨.int (-2), I, J, zx_u I 138 0 (nI 0), J, fun d P => ?_, fun d P => ?_, zScr_s (zFs_0 _ _)⟩
    · rw [ze_105]
      simp only [↓zs_105_0, ↓zs_105_1, ↓zs_105_4, ↓zs_105_5, ↓zs_105_8, ↓zs_105_11, ↓zs_105_12, ↓zs_105_15, ↓zs_105_16, ↓zs_105_19, ↓zs_105_20, ↓zs_105_23, ↓zs_105_26, ↓zs_105_28, zx_pu_s, zx_pu_n, zx_rv_s, zx_rv_n, true_and, and_true, true_or, or_true, zb_0, zb_1, zq_lcl, zq_lcg, zq_lce, eq_self, ite_true, ite_false, zk_0, zw_0, zk_1, zw_1, zq_0_0, zq_0_1, zq_0_2, zq_0_3, zq_0_4, zq_0_5, zq_0_6, zq_0_7, zq_0_8, zq_0_9, zq_0_10, zq_0_11, zq_1_0, zq_1_1, zq_1_2, zq_1_3, zq_1_4, zq_1_5, zk_11, zw_11, zq_11_0, zq_11_1, zq_11_2, h1, c, zB_0, reduceCtorEq]
    · rw [ze_206]
      simp (disch := omega) only [↓zs_206_0, ↓zs_206_1, ↓zs_206_2, ↓zs_206_5, ↓zs_206_6, ↓zs_206_7, ↓zs_206_8, ↓zs_206_11, ↓zs_206_14, ↓zs_206_16, ↓zs_206_19, ↓zs_206_20, ↓zs_206_23, ↓zs_206_25, ↓zs_206_26, ↓zs_206_27, ↓zs_206_28, ↓zs_206_31, ↓zs_206_32, ↓zs_206_35, ↓zs_206_37, ↓zs_206_38, ↓zs_206_39, ↓zs_206_40, ↓zs_206_43, ↓zs_206_44, ↓zs_206_47, ↓zs_206_48, ↓zs_206_51, zx_pu_s, zx_pu_n, zx_rv_s, zx_rv_n, true_and, and_true, true_or, or_true, zb_0, zb_1, zq_lcl, zq_lcg, zq_lce, eq_self, ite_true, ite_false, zk_138, zw_138, zk_139, zw_139, zk_140, zw_140, zk_141, zw_141, zk_142, zw_142, zk_143, zw_143, zk_144, zw_144, zk_145, zw_145, zk_146, zw_146, zk_147, zw_147, zk_148, zw_148, zk_149, zw_149, zk_150, zw_150, zk_151, zw_151, zk_152, zw_152, zq_138_1, zq_138_2, zq_138_3, zq_138_4, zq_138_16, zq_138_19, zq_138_20, zq_138_24, zq_138_25, zq_138_26, zq_138_27, zq_138_31, zq_138_32, zq_138_33, zn_10, zn_40, zn_040, zn_340, nI_add, zin_nI, nI_clamp, nI_ltI, nI_eq, pk_mul, nI_1, Nat.lt_irrefl, h2, c, zB_0, reduceCtorEq]
theorem q_look (v : zInv I J m) (x : Int32) : zQ Lh 106 207 [.int x] I J := by
  obtain ⟨⟨hw, hh, hN⟩, gr, g, ex, ok, N8, wh⟩ := zInv_k v
  have h1 := fun d P => sc_hasStatue (d := d) (Lh := Lh) (I := I) (J := J) (P := P) zx_sq1 x hN N8
  have ok2 : zM_ok (zx_u I 138 0 (nI 0) 139) (zw (I 139)) (zh (I 139)) (zn (I 139)) := by rw [zu_139]; exact ok
  have h2 := fun d P => sp_isStatue (d := d) (Lh := Lh) (J := J) (P := P) x.toInt64 ok2.1.2.2.1 N8
  rw [Int32.toInt_toInt64] at h2
  by_cases c : zf_in x.toInt (zn (I 139)) = true
  · have e := zq_toI (x := x) rfl c (by omega)
    have hk : x.toInt.toNat < 8 := by have := zf_inP.mp c; omega
    generalize x.toInt.toNat = k at e hk
    subst e
    have h3 := fun d P => sc_lookB (d := d) (Lh := Lh) (P := P) zx_sq1 zx_st11 v.1 hk hw hh gr g v.2.2.2.1 ok
    have h5 := fun d P => sc_takenT (d := d) (Lh := Lh) (J := J) (P := P) zx_sq1 zx_st11 v.2.2.2.1 ok
    obtain ⟨I2, f2, -, h4⟩ := sp_lookF (Lh := Lh) (J := J) v.1 hk ok (zFs_0 I (nI 0))
    refine ⟨.long (zf_look (I 139) (zw (I 139)) (zh (I 139)) (zn (I 139)) k).1, I, J, I2, J, fun d P => ?_, fun d P => ?_, zScr_s f2⟩
    · rw [ze_106]
      simp only [↓zs_106_0, ↓zs_106_1, ↓zs_106_4, ↓zs_106_5, ↓zs_106_8, ↓zs_106_11, ↓zs_106_12, ↓zs_106_15, ↓zs_106_16, ↓zs_106_19, ↓zs_106_20, ↓zs_106_21, ↓zs_106_24, ↓zs_106_25, ↓zs_106_28, ↓zs_106_31, ↓zs_106_34, ↓zs_106_37, ↓zs_106_40, zx_pu_s, zx_pu_n, zx_rv_s, zx_rv_n, true_and, and_true, true_or, or_true, zb_0, zb_1, zq_lcl, zq_lcg, zq_lce, eq_self, ite_true, ite_false, zk_0, zw_0, zk_1, zw_1, zq_0_0, zq_0_1, zq_0_2, zq_0_3, zq_0_4, zq_0_5, zq_0_6, zq_0_7, zq_0_8, zq_0_9, zq_0_10, zq_0_11, zq_1_0, zq_1_1, zq_1_2, zq_1_3, zq_1_4, zq_1_5, zk_11, zw_11, zq_11_0, zq_11_1, zq_11_2, h1, c, zB_0, reduceCtorEq, h5, h3]
    · rw [ze_207]
      simp (disch := omega) only [↓zs_207_0, ↓zs_207_1, ↓zs_207_2, ↓zs_207_5, ↓zs_207_6, ↓zs_207_7, ↓zs_207_8, ↓zs_207_11, ↓zs_207_14, ↓zs_207_15, ↓zs_207_16, ↓zs_207_19, ↓zs_207_22, ↓zs_207_25, zx_pu_s, zx_pu_n, zx_rv_s, zx_rv_n, true_and, and_true, true_or, or_true, zb_0, zb_1, zq_lcl, zq_lcg, zq_lce, eq_self, ite_true, ite_false, zk_138, zw_138, zk_139, zw_139, zk_140, zw_140, zk_141, zw_141, zk_142, zw_142, zk_143, zw_143, zk_144, zw_144, zk_145, zw_145, zk_146, zw_146, zk_147, zw_147, zk_148, zw_148, zk_149, zw_149, zk_150, zw_150, zk_151, zw_151, zk_152, zw_152, zq_138_1, zq_138_2, zq_138_3, zq_138_4, zq_138_16, zq_138_19, zq_138_20, zq_138_24, zq_138_25, zq_138_26, zq_138_27, zq_138_31, zq_138_32, zq_138_33, h2, c, zB_0, reduceCtorEq, h4]
  · rw [Bool.not_eq_true] at c
    refine ⟨.long (-2), I, J, zx_u I 138 0 (nI 0), J, fun d P => ?_, fun d P => ?_, zScr_s (zFs_0 _ _)⟩
    · rw [ze_106]
      simp only [↓zs_106_0, ↓zs_106_1, ↓zs_106_4, ↓zs_106_5, ↓zs_106_8, ↓zs_106_11, ↓zs_106_12, ↓zs_106_15, ↓zs_106_16, ↓zs_106_19, ↓zs_106_20, ↓zs_106_21, ↓zs_106_24, ↓zs_106_25, ↓zs_106_28, ↓zs_106_31, ↓zs_106_34, ↓zs_106_37, ↓zs_106_40, zx_pu_s, zx_pu_n, zx_rv_s, zx_rv_n, true_and, and_true, true_or, or_true, zb_0, zb_1, zq_lcl, zq_lcg, zq_lce, eq_self, ite_true, ite_false, zk_0, zw_0, zk_1, zw_1, zq_0_0, zq_0_1, zq_0_2, zq_0_3, zq_0_4, zq_0_5, zq_0_6, zq_0_7, zq_0_8, zq_0_9, zq_0_10, zq_0_11, zq_1_0, zq_1_1, zq_1_2, zq_1_3, zq_1_4, zq_1_5, zk_11, zw_11, zq_11_0, zq_11_1, zq_11_2, h1, c, zB_0, reduceCtorEq]
    · rw [ze_207]
      simp (disch := omega) only [↓zs_207_0, ↓zs_207_1, ↓zs_207_2, ↓zs_207_5, ↓zs_207_6, ↓zs_207_7, ↓zs_207_8, ↓zs_207_11, ↓zs_207_14, ↓zs_207_15, ↓zs_207_16, ↓zs_207_19, ↓zs_207_22, ↓zs_207_25, zx_pu_s, zx_pu_n, zx_rv_s, zx_rv_n, true_and, and_true, true_or, or_true, zb_0, zb_1, zq_lcl, zq_lcg, zq_lce, eq_self, ite_true, ite_false, zk_138, zw_138, zk_139, zw_139, zk_140, zw_140, zk_141, zw_141, zk_142, zw_142, zk_143, zw_143, zk_144, zw_144, zk_145, zw_145, zk_146, zw_146, zk_147, zw_147, zk_148, zw_148, zk_149, zw_149, zk_150, zw_150, zk_151, zw_151, zk_152, zw_152, zq_138_1, zq_138_2, zq_138_3, zq_138_4, zq_138_16, zq_138_19, zq_138_20, zq_138_24, zq_138_25, zq_138_26, zq_138_27, zq_138_31, zq_138_32, zq_138_33, h2, c, zB_0, reduceCtorEq]
theorem zFs_139 {I2 : zx_MI} (h : zFs I I2) : I2 139 = I 139 := zFs_row h (by decide) (by decide)
theorem q_under (v : zInv I J m) : zQ Lh 107 208 [] I J := by
  obtain ⟨⟨hw, hh, hN⟩, gr, g, ex, ok, N8, wh⟩ := zInv_k v
  have h1 := fun d P => sc_under (d := d) (Lh := Lh) (P := P) zx_sq1 zx_st11 v.1 hw hh hN gr g v.2.2.2.1 ok
  have ok2 : zM_ok (zx_u I 138 0 (nI 0) 139) (zw (I 139)) (zh (I 139)) (zn (I 139)) := by rw [zu_139]; exact ok
  obtain ⟨I2, f2, h2⟩ := sp_under (Lh := Lh) (J := J) (zx_SI_u v.1 (by decide)) ok2
  rw [zu_139] at h2
  refine ⟨.long (zf_under (I 139) (zw (I 139)) (zh (I 139)) (zn (I 139))), I, J, I2, J, fun d P => ?_, fun d P => ?_, zScr_s (zFs_t (zFs_0 _ _) f2)⟩
  · rw [ze_107]
    simp only [↓zs_107_0, ↓zs_107_1, ↓zs_107_4, ↓zs_107_5, ↓zs_107_8, ↓zs_107_11, zx_pu_s, zx_pu_n, zx_rv_s, zx_rv_n, true_and, and_true, true_or, or_true, zb_0, zb_1, zq_lcl, zq_lcg, zq_lce, eq_self, ite_true, ite_false, zk_0, zw_0, zk_1, zw_1, zq_0_0, zq_0_1, zq_0_2, zq_0_3, zq_0_4, zq_0_5, zq_0_6, zq_0_7, zq_0_8, zq_0_9, zq_0_10, zq_0_11, zq_1_0, zq_1_1, zq_1_2, zq_1_3, zq_1_4, zq_1_5, zk_11, zw_11, zq_11_0, zq_11_1, zq_11_2, h1]
  · rw [ze_208]
    simp (disch := omega) only [↓zs_208_0, ↓zs_208_1, ↓zs_208_2, ↓zs_208_5, ↓zs_208_6, ↓zs_208_9, zx_pu_s, zx_pu_n, zx_rv_s, zx_rv_n, true_and, and_true, true_or, or_true, zb_0, zb_1, zq_lcl, zq_lcg, zq_lce, eq_self, ite_true, ite_false, zk_138, zw_138, zk_139, zw_139, zk_140, zw_140, zk_141, zw_141, zk_142, zw_142, zk_143, zw_143, zk_144, zw_144, zk_145, zw_145, zk_146, zw_146, zk_147, zw_147, zk_148, zw_148, zk_149, zw_149, zk_150, zw_150, zk_151, zw_151, zk_152, zw_152, zq_138_1, zq_138_2, zq_138_3, zq_138_4, zq_138_16, zq_138_19, zq_138_20, zq_138_24, zq_138_25, zq_138_26, zq_138_27, zq_138_31, zq_138_32, zq_138_33, h2]
theorem q_watchers (v : zInv I J m) (x : Int32) : zQ Lh 108 209 [.int x] I J := by
  obtain ⟨⟨hw, hh, hN⟩, gr, g, ex, ok, N8, wh⟩ := zInv_k v
  have h1 := fun d P => sc_hasStone (d := d) (Lh := Lh) (I := I) (J := J) (P := P) zx_sq1 x hw hh wh
  have ok2 : zM_ok (zx_u I 138 0 (nI 0) 139) (zw (I 139)) (zh (I 139)) (zn (I 139)) := by rw [zu_139]; exact ok
  have h2 := fun d P => sp_isStone (d := d) (Lh := Lh) (J := J) (P := P) x.toInt64 ok2.1.1 ok2.1.2.1 (by omega)
  rw [Int32.toInt_toInt64] at h2
  by_cases c : zf_in x.toInt (zw (I 139) * zh (I 139)) = true
  · have e := zq_toI (x := x) rfl c (by omega)
    have hk : x.toInt.toNat < 64 := by have := zf_inP.mp c; omega
    generalize x.toInt.toNat = k at e hk
    subst e
    have h3 := fun d P => sc_watch (d := d) (Lh := Lh) (P := P) zx_sq1 zx_st11 v.1 hw hh hN gr g v.2.2.2.1 ok hk
    obtain ⟨I2, f2, h4⟩ := sp_watch (Lh := Lh) (J := J) (zx_SI_u v.1 (by decide)) ok2 hk
    rw [zu_139] at h4
    refine ⟨.int (nI (zf_wat (I 139) (zw (I 139)) (zh (I 139)) (zn (I 139)) k)), I, J, I2, J, fun d P => ?_, fun d P => ?_, zScr_s (zFs_t (zFs_0 _ _) f2)⟩
    · rw [ze_108]
      simp only [↓zs_108_0, ↓zs_108_1, ↓zs_108_4, ↓zs_108_5, ↓zs_108_8, ↓zs_108_11, ↓zs_108_12, ↓zs_108_15, ↓zs_108_16, ↓zs_108_19, ↓zs_108_20, ↓zs_108_23, ↓zs_108_26, ↓zs_108_28, zx_pu_s, zx_pu_n, zx_rv_s, zx_rv_n, true_and, and_true, true_or, or_true, zb_0, zb_1, zq_lcl, zq_lcg, zq_lce, eq_self, ite_true, ite_false, zk_0, zw_0, zk_1, zw_1, zq_0_0, zq_0_1, zq_0_2, zq_0_3, zq_0_4, zq_0_5, zq_0_6, zq_0_7, zq_0_8, zq_0_9, zq_0_10, zq_0_11, zq_1_0, zq_1_1, zq_1_2, zq_1_3, zq_1_4, zq_1_5, zk_11, zw_11, zq_11_0, zq_11_1, zq_11_2, h1, c, zB_0, reduceCtorEq, h3]
    · rw [ze_209]
      simp (disch := omega) only [↓zs_209_0, ↓zs_209_1, ↓zs_209_2, ↓zs_209_5, ↓zs_209_6, ↓zs_209_7, ↓zs_209_8, ↓zs_209_11, ↓zs_209_14, ↓zs_209_16, zx_pu_s, zx_pu_n, zx_rv_s, zx_rv_n, true_and, and_true, true_or, or_true, zb_0, zb_1, zq_lcl, zq_lcg, zq_lce, eq_self, ite_true, ite_false, zk_138, zw_138, zk_139, zw_139, zk_140, zw_140, zk_141, zw_141, zk_142, zw_142, zk_143, zw_143, zk_144, zw_144, zk_145, zw_145, zk_146, zw_146, zk_147, zw_147, zk_148, zw_148, zk_149, zw_149, zk_150, zw_150, zk_151, zw_151, zk_152, zw_152, zq_138_1, zq_138_2, zq_138_3, zq_138_4, zq_138_16, zq_138_19, zq_138_20, zq_138_24, zq_138_25, zq_138_26, zq_138_27, zq_138_31, zq_138_32, zq_138_33, zn_10, zn_40, zn_040, zn_340, nI_add, zin_nI, nI_clamp, nI_ltI, nI_eq, pk_mul, nI_1, Nat.lt_irrefl, h2, c, zB_0, reduceCtorEq]
      exact h4 (d + 24) P
  · rw [Bool.not_eq_true] at c
    refine ⟨.int (-2), I, J, zx_u I 138 0 (nI 0), J, fun d P => ?_, fun d P => ?_, zScr_s (zFs_0 _ _)⟩
    · rw [ze_108]
      simp only [↓zs_108_0, ↓zs_108_1, ↓zs_108_4, ↓zs_108_5, ↓zs_108_8, ↓zs_108_11, ↓zs_108_12, ↓zs_108_15, ↓zs_108_16, ↓zs_108_19, ↓zs_108_20, ↓zs_108_23, ↓zs_108_26, ↓zs_108_28, zx_pu_s, zx_pu_n, zx_rv_s, zx_rv_n, true_and, and_true, true_or, or_true, zb_0, zb_1, zq_lcl, zq_lcg, zq_lce, eq_self, ite_true, ite_false, zk_0, zw_0, zk_1, zw_1, zq_0_0, zq_0_1, zq_0_2, zq_0_3, zq_0_4, zq_0_5, zq_0_6, zq_0_7, zq_0_8, zq_0_9, zq_0_10, zq_0_11, zq_1_0, zq_1_1, zq_1_2, zq_1_3, zq_1_4, zq_1_5, zk_11, zw_11, zq_11_0, zq_11_1, zq_11_2, h1, c, zB_0, reduceCtorEq]
    · rw [ze_209]
      simp (disch := omega) only [↓zs_209_0, ↓zs_209_1, ↓zs_209_2, ↓zs_209_5, ↓zs_209_6, ↓zs_209_7, ↓zs_209_8, ↓zs_209_11, ↓zs_209_14, ↓zs_209_16, zx_pu_s, zx_pu_n, zx_rv_s, zx_rv_n, true_and, and_true, true_or, or_true, zb_0, zb_1, zq_lcl, zq_lcg, zq_lce, eq_self, ite_true, ite_false, zk_138, zw_138, zk_139, zw_139, zk_140, zw_140, zk_141, zw_141, zk_142, zw_142, zk_143, zw_143, zk_144, zw_144, zk_145, zw_145, zk_146, zw_146, zk_147, zw_147, zk_148, zw_148, zk_149, zw_149, zk_150, zw_150, zk_151, zw_151, zk_152, zw_152, zq_138_1, zq_138_2, zq_138_3, zq_138_4, zq_138_16, zq_138_19, zq_138_20, zq_138_24, zq_138_25, zq_138_26, zq_138_27, zq_138_31, zq_138_32, zq_138_33, zn_10, zn_40, zn_040, zn_340, nI_add, zin_nI, nI_clamp, nI_ltI, nI_eq, pk_mul, nI_1, Nat.lt_irrefl, h2, c, zB_0, reduceCtorEq]
end Q1
