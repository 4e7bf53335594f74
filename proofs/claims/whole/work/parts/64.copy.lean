/-! copy -/
section CY
variable {Lh m : Nat} {I : zx_MI} {J : zx_MJ}
theorem d_copy (v : zInv I J m) (x : Int32) : zD Lh 145 266 [.int x] I J m := by
  have hT := v.2.2.2.2.2.2.1
  obtain ⟨⟨hw, hh, hN⟩, gr, g, ex, ok, N8, wh⟩ := zInv_k v
  obtain ⟨n1, n2⟩ := sp_noTray (Lh := Lh) (I := zx_u I 138 0 (nI 0)) (J := J) (x := x)
  cases c : zf_in x.toInt 4 with
  | false =>
    have h1 := fun d P => sc_trayNo (d := d) (Lh := Lh) (I := I) (J := J) (P := P) c
    have h2 := n1 c
    have c2 : ((-2 : Int32) = nI 0) = False := eq_false (by decide)
    refine zQ_D (m := m) ⟨.int (-2), I, J, zx_u I 138 0 (nI 0), J, fun d P => ?_, fun d P => ?_, zScr_s (zFs_0 _ _)⟩ v (Nat.le_refl m)
    · rw [ze_145]
      simp (disch := omega) only [↓zs_145_0, ↓zs_145_1, ↓zs_145_2, ↓zs_145_5, ↓zs_145_5N, ↓zs_145_6, ↓zs_145_6N, ↓zs_145_7, ↓zs_145_7N, ↓zs_145_10, ↓zs_145_12, ↓zs_145_13, ↓zs_145_13N, ↓zs_145_14, ↓zs_145_17, ↓zs_145_20, ↓zs_145_22, ↓zs_145_23, ↓zs_145_23N, ↓zs_145_24, ↓zs_145_27, ↓zs_145_28, ↓zs_145_31, ↓zs_145_34, ↓zs_145_37, ↓zs_145_38, ↓zs_145_39, zx_pu_s, zx_pu_n, zx_rv_s, zx_rv_n, true_and, and_true, true_or, or_true, zb_0, zb_1, zq_lcl, zq_lcg, zq_lce, eq_self, ite_true, ite_false, zk_0, zw_0, zq_0_0, zq_0_1, zq_0_2, zq_0_3, zq_0_4, zq_0_5, zq_0_6, zq_0_7, zq_0_8, zq_0_9, zq_0_10, zq_0_11, h1]
    · rw [ze_266]
      simp (disch := omega) only [↓zs_266_0, ↓zs_266_1, ↓zs_266_2, ↓zs_266_5, ↓zs_266_6, ↓zs_266_7, ↓zs_266_10, ↓zs_266_11, ↓zs_266_12, ↓zs_266_15, ↓zs_266_16, ↓zs_266_17, ↓zs_266_18, ↓zs_266_21, ↓zs_266_22, ↓zs_266_23, ↓zs_266_24, ↓zs_266_27, ↓zs_266_28, ↓zs_266_29, ↓zs_266_32, ↓zs_266_33, ↓zs_266_36, ↓zs_266_37, ↓zs_266_38, ↓zs_266_41, ↓zs_266_42, ↓zs_266_45, ↓zs_266_46, ↓zs_266_47, ↓zs_266_48, ↓zs_266_49, zx_pu_s, zx_pu_n, zx_rv_s, zx_rv_n, true_and, and_true, true_or, or_true, zb_0, zb_1, zq_lcl, zq_lcg, zq_lce, eq_self, ite_true, ite_false, zk_138, zw_138, zk_139, zw_139, zk_140, zw_140, zk_141, zw_141, zk_142, zw_142, zk_143, zw_143, zk_144, zw_144, zk_145, zw_145, zk_146, zw_146, zk_147, zw_147, zk_148, zw_148, zk_149, zw_149, zk_150, zw_150, zk_151, zw_151, zk_152, zw_152, zq_138_1, zq_138_2, zq_138_3, zq_138_4, zq_138_16, zq_138_19, zq_138_20, zq_138_24, zq_138_25, zq_138_26, zq_138_27, zq_138_31, zq_138_32, zq_138_33, h2, c2]
  | true =>
    have ex1 := zq_toI (x := x) rfl c (by omega)
    have ht : x.toInt.toNat < 4 := by have := zf_inP.mp c; omega
    generalize x.toInt.toNat = t at ex1 ht
    subst ex1
    obtain ⟨n3, n4⟩ := n2 t ht rfl
    obtain ⟨k1, k2, k3, k4, k5, k6⟩ := zTr_k Lh ht
    have h1 := fun d P => sc_trayAt (d := d) (Lh := Lh) (I := I) (J := J) (P := P) ht
    have l5 : (102 + 2 * t < 5000) = True := eq_true (by omega)
    have u150 : zx_u I 138 0 (nI 0) 150 = I 150 := zu_o (by decide)
    have u151 : zx_u I 138 0 (nI 0) 151 = I 151 := zu_o (by decide)
    rcases hT t ht with ⟨e1, e2⟩ | ⟨s, n, hs, hn, e1, e2, e3, e4, e5, e6⟩
    · have h2 := n3 (by rw [u150]; exact e1)
      have c2 : ((-6 : Int32) = nI 0) = False := eq_false (by decide)
      refine zQ_D (m := m) ⟨.int (-6), I, J, zx_u I 138 0 (nI 0), J, fun d P => ?_, fun d P => ?_, zScr_s (zFs_0 _ _)⟩ v (Nat.le_refl m)
      · rw [ze_145]
        simp (disch := omega) only [↓zs_145_0, ↓zs_145_1, ↓zs_145_2, ↓zs_145_5, ↓zs_145_5N, ↓zs_145_6, ↓zs_145_6N, ↓zs_145_7, ↓zs_145_7N, ↓zs_145_10, ↓zs_145_12, ↓zs_145_13, ↓zs_145_13N, ↓zs_145_14, ↓zs_145_17, ↓zs_145_20, ↓zs_145_22, ↓zs_145_23, ↓zs_145_23N, ↓zs_145_24, ↓zs_145_27, ↓zs_145_28, ↓zs_145_31, ↓zs_145_34, ↓zs_145_37, ↓zs_145_38, ↓zs_145_39, zx_pu_s, zx_pu_n, zx_rv_s, zx_rv_n, true_and, and_true, true_or, or_true, zb_0, zb_1, zq_lcl, zq_lcg, zq_lce, eq_self, ite_true, ite_false, zk_0, zw_0, zq_0_0, zq_0_1, zq_0_2, zq_0_3, zq_0_4, zq_0_5, zq_0_6, zq_0_7, zq_0_8, zq_0_9, zq_0_10, zq_0_11, h1, l5, k1, e2]
      · rw [ze_266]
        simp (disch := omega) only [↓zs_266_0, ↓zs_266_1, ↓zs_266_2, ↓zs_266_5, ↓zs_266_6, ↓zs_266_7, ↓zs_266_10, ↓zs_266_11, ↓zs_266_12, ↓zs_266_15, ↓zs_266_16, ↓zs_266_17, ↓zs_266_18, ↓zs_266_21, ↓zs_266_22, ↓zs_266_23, ↓zs_266_24, ↓zs_266_27, ↓zs_266_28, ↓zs_266_29, ↓zs_266_32, ↓zs_266_33, ↓zs_266_36, ↓zs_266_37, ↓zs_266_38, ↓zs_266_41, ↓zs_266_42, ↓zs_266_45, ↓zs_266_46, ↓zs_266_47, ↓zs_266_48, ↓zs_266_49, zx_pu_s, zx_pu_n, zx_rv_s, zx_rv_n, true_and, and_true, true_or, or_true, zb_0, zb_1, zq_lcl, zq_lcg, zq_lce, eq_self, ite_true, ite_false, zk_138, zw_138, zk_139, zw_139, zk_140, zw_140, zk_141, zw_141, zk_142, zw_142, zk_143, zw_143, zk_144, zw_144, zk_145, zw_145, zk_146, zw_146, zk_147, zw_147, zk_148, zw_148, zk_149, zw_149, zk_150, zw_150, zk_151, zw_151, zk_152, zw_152, zq_138_1, zq_138_2, zq_138_3, zq_138_4, zq_138_16, zq_138_19, zq_138_20, zq_138_24, zq_138_25, zq_138_26, zq_138_27, zq_138_31, zq_138_32, zq_138_33, h2, c2]
    · have h2 := fun J => ((sp_noTray (Lh := Lh) (I := zx_u I 138 0 (nI 0)) (J := J) (x := nI t)).2 t ht rfl).2 s hs (by rw [u150]; exact e1)
      have c1 : (nI 1 = nI 0) = False := eq_false (by decide)
      obtain ⟨M, hM⟩ : ∃ M, M = if zn (I 139) < n then zn (I 139) else n := ⟨_, rfl⟩
      have M1 : M ≤ zn (I 139) := by rw [hM]; split <;> omega
      have M2 : M ≤ n := by rw [hM]; split <;> omega
      have emin : (if nI (zn (I 139)) < nI n then nI (zn (I 139)) else nI n) = nI M := by
        rw [hM]
        by_cases q : zn (I 139) < n
        · rw [if_pos q, if_pos (nI_lt q (by omega))]
        · rw [if_neg q, if_neg (nI_nlt (by omega) (by omega))]
      have cell : ∀ i, zf_cutv s (I 139 (117 + i)).toInt64 = zf_cutv s (I 139 (117 + i)).toInt64 := fun _ => rfl
      have lc : ∀ mm i J1, i + mm = M → (∀ a j, ¬ (a = 103 + 2 * t ∧ j < M) → J1 a j = J a j) → (∀ j, j < i → J1 (103 + 2 * t) j = zf_cutv s (I 139 (117 + j)).toInt64) → ∃ J2, (∀ a j, ¬ (a = 103 + 2 * t ∧ j < M) → J2 a j = J a j) ∧ (∀ j, j < M → J2 (103 + 2 * t) j = zf_cutv s (I 139 (117 + j)).toInt64) ∧ ∀ d P, zx_wp (d + 30) 145 41 [.ref 0, .int (nI t), .ref (102 + 2 * t), .int (nI M), .int (nI i)] [] (zx_LL Lh) I J1 P = P (some (.int (nI M))) (zx_LL Lh) I J2 := by
        intro mm
        induction mm with
        | zero =>
          intro i J1 hi f g
          obtain rfl : i = M := by omega
          refine ⟨J1, f, g, fun d P => ?_⟩
          rw [zs_145_41]
          simp (disch := omega) only [↓zs_145_0, ↓zs_145_1, ↓zs_145_2, ↓zs_145_5, ↓zs_145_5N, ↓zs_145_6, ↓zs_145_6N, ↓zs_145_7, ↓zs_145_7N, ↓zs_145_10, ↓zs_145_12, ↓zs_145_13, ↓zs_145_13N, ↓zs_145_14, ↓zs_145_17, ↓zs_145_20, ↓zs_145_22, ↓zs_145_23, ↓zs_145_23N, ↓zs_145_24, ↓zs_145_27, ↓zs_145_28, ↓zs_145_31, ↓zs_145_34, ↓zs_145_37, ↓zs_145_38, ↓zs_145_39, ↓zs_145_43, ↓zs_145_44, ↓zs_145_47, ↓zs_145_49, ↓zs_145_51, ↓zs_145_54, ↓zs_145_54N, ↓zs_145_55, ↓zs_145_57, ↓zs_145_58, ↓zs_145_61, ↓zs_145_64, ↓zs_145_66, ↓zs_145_67, ↓zs_145_68, ↓zs_145_71, ↓zs_145_74, ↓zs_145_77, ↓zs_145_78, zx_pu_s, zx_pu_n, zx_rv_s, zx_rv_n, true_and, and_true, true_or, or_true, zb_0, zb_1, zq_lcl, zq_lcg, zq_lce, eq_self, ite_true, ite_false, zn_10, zn_40, zn_040, zn_340, nI_add, zin_nI, nI_clamp, nI_ltI, nI_eq, pk_mul, nI_1, Nat.lt_irrefl]
        | succ mm ih =>
          intro i J1 hi f g
          have hlt : i < M := by omega
          have hlt8 : i < 8 := by omega
          have ed : I 13 i = I 139 (117 + i) := (v.2.2.2.1.2 i hlt8).2.1
          have hput := fun d P => sc_put (d := d) (Lh := Lh) (I := I) (J := J1) (P := P) (i := i) ht hs hn (by omega) (I 139 (117 + i)).toInt64 e4 e5
          obtain ⟨J2, f2, g2, hh2⟩ := ih (i + 1) (zx_u J1 (103 + 2 * t) i (zf_cutv s (I 139 (117 + i)).toInt64)) (by omega) (fun a j h => by rw [zu_n (by omega)]; exact f a j h) (fun j hj => by
            by_cases q : j = i
            · rw [q, zu_s]
            · rw [zu_n (by omega)]; exact g j (by omega))
          refine ⟨J2, f2, g2, fun d P => ?_⟩
          rw [← hh2 d P, zs_145_41]
          simp (disch := omega) only [↓zs_145_0, ↓zs_145_1, ↓zs_145_2, ↓zs_145_5, ↓zs_145_5N, ↓zs_145_6, ↓zs_145_6N, ↓zs_145_7, ↓zs_145_7N, ↓zs_145_10, ↓zs_145_12, ↓zs_145_13, ↓zs_145_13N, ↓zs_145_14, ↓zs_145_17, ↓zs_145_20, ↓zs_145_22, ↓zs_145_23, ↓zs_145_23N, ↓zs_145_24, ↓zs_145_27, ↓zs_145_28, ↓zs_145_31, ↓zs_145_34, ↓zs_145_37, ↓zs_145_38, ↓zs_145_39, ↓zs_145_43, ↓zs_145_44, ↓zs_145_47, ↓zs_145_49, ↓zs_145_51, ↓zs_145_54, ↓zs_145_54N, ↓zs_145_55, ↓zs_145_57, ↓zs_145_58, ↓zs_145_61, ↓zs_145_64, ↓zs_145_66, ↓zs_145_67, ↓zs_145_68, ↓zs_145_71, ↓zs_145_74, ↓zs_145_77, ↓zs_145_78, zx_pu_s, zx_pu_n, zx_rv_s, zx_rv_n, true_and, and_true, true_or, or_true, zb_0, zb_1, zq_lcl, zq_lcg, zq_lce, eq_self, ite_true, ite_false, zk_0, zw_0, zq_0_0, zq_0_1, zq_0_2, zq_0_3, zq_0_4, zq_0_5, zq_0_6, zq_0_7, zq_0_8, zq_0_9, zq_0_10, zq_0_11, zk_11, zw_11, zk_12, zw_12, zk_13, zw_13, zk_14, zw_14, zq_11_0, zq_11_1, zq_11_2, zn_10, zn_40, zn_040, zn_340, nI_add, zin_nI, nI_clamp, nI_ltI, k1, hlt, hlt8, ed, hput]
      obtain ⟨J1, f1, g1, hc⟩ := lc M 0 J (by omega) (fun _ _ _ => rfl) (fun j hj => absurd hj (Nat.not_lt_zero j))
      have lm : ∀ mm i J2, i + mm = M → (∀ a j, ¬ (a = 152 ∧ 40 * t ≤ j ∧ j < 40 * t + M) → J2 a j = J1 a j) → (∀ j, j < i → J2 152 (40 * t + j) = zf_cutv s (I 139 (117 + j)).toInt64) → ∃ J3, (∀ a j, ¬ (a = 152 ∧ 40 * t ≤ j ∧ j < 40 * t + M) → J3 a j = J1 a j) ∧ (∀ j, j < M → J3 152 (40 * t + j) = zf_cutv s (I 139 (117 + j)).toInt64) ∧ ∀ d P, zx_wp (d + 30) 266 51 [.ref 138, .int (nI t), .int (nI 0), .int (nI M), .int (nI i)] [] (zx_LL Lh) (zx_u I 138 0 (nI 0)) J2 P = P (some (.int (nI M))) (zx_LL Lh) (zx_u I 138 0 (nI 0)) J3 := by
        intro mm
        induction mm with
        | zero =>
          intro i J2 hi f g
          obtain rfl : i = M := by omega
          refine ⟨J2, f, g, fun d P => ?_⟩
          rw [zs_266_51]
          simp (disch := omega) only [↓zs_266_0, ↓zs_266_1, ↓zs_266_2, ↓zs_266_5, ↓zs_266_6, ↓zs_266_7, ↓zs_266_10, ↓zs_266_11, ↓zs_266_12, ↓zs_266_15, ↓zs_266_16, ↓zs_266_17, ↓zs_266_18, ↓zs_266_21, ↓zs_266_22, ↓zs_266_23, ↓zs_266_24, ↓zs_266_27, ↓zs_266_28, ↓zs_266_29, ↓zs_266_32, ↓zs_266_33, ↓zs_266_36, ↓zs_266_37, ↓zs_266_38, ↓zs_266_41, ↓zs_266_42, ↓zs_266_45, ↓zs_266_46, ↓zs_266_47, ↓zs_266_48, ↓zs_266_49, ↓zs_266_53, ↓zs_266_54, ↓zs_266_57, ↓zs_266_58, ↓zs_266_61, ↓zs_266_63, ↓zs_266_64, ↓zs_266_65, ↓zs_266_67, ↓zs_266_68, ↓zs_266_69, ↓zs_266_72, ↓zs_266_74, ↓zs_266_76, ↓zs_266_77, ↓zs_266_78, ↓zs_266_79, ↓zs_266_80, ↓zs_266_83, ↓zs_266_84, ↓zs_266_85, ↓zs_266_88, ↓zs_266_89, ↓zs_266_92, ↓zs_266_95, ↓zs_266_96, zx_pu_s, zx_pu_n, zx_rv_s, zx_rv_n, true_and, and_true, true_or, or_true, zb_0, zb_1, zq_lcl, zq_lcg, zq_lce, eq_self, ite_true, ite_false, zn_10, zn_40, zn_040, zn_340, nI_add, zin_nI, nI_clamp, nI_ltI, nI_eq, pk_mul, nI_1, Nat.lt_irrefl]
        | succ mm ih =>
          intro i J2 hi f g
          have hlt : i < M := by omega
          have hp : 40 * t + i < 160 := by omega
          have hcut := fun d L I J P u => sp_cut (d := d) (L := L) (I := I) (J := J) (P := P) hs u
          obtain ⟨J3, f2, g2, hh2⟩ := ih (i + 1) (zx_u J2 152 (40 * t + i) (zf_cutv s (I 139 (117 + i)).toInt64)) (by omega) (fun a j h => by rw [zu_n (by omega)]; exact f a j h) (fun j hj => by
            by_cases q : j = i
            · rw [q, zu_s]
            · rw [zu_n (by omega)]; exact g j (by omega))
          refine ⟨J3, f2, g2, fun d P => ?_⟩
          rw [← hh2 d P, zs_266_51]
          simp (disch := omega) only [↓zs_266_0, ↓zs_266_1, ↓zs_266_2, ↓zs_266_5, ↓zs_266_6, ↓zs_266_7, ↓zs_266_10, ↓zs_266_11, ↓zs_266_12, ↓zs_266_15, ↓zs_266_16, ↓zs_266_17, ↓zs_266_18, ↓zs_266_21, ↓zs_266_22, ↓zs_266_23, ↓zs_266_24, ↓zs_266_27, ↓zs_266_28, ↓zs_266_29, ↓zs_266_32, ↓zs_266_33, ↓zs_266_36, ↓zs_266_37, ↓zs_266_38, ↓zs_266_41, ↓zs_266_42, ↓zs_266_45, ↓zs_266_46, ↓zs_266_47, ↓zs_266_48, ↓zs_266_49, ↓zs_266_53, ↓zs_266_54, ↓zs_266_57, ↓zs_266_58, ↓zs_266_61, ↓zs_266_63, ↓zs_266_64, ↓zs_266_65, ↓zs_266_67, ↓zs_266_68, ↓zs_266_69, ↓zs_266_72, ↓zs_266_74, ↓zs_266_76, ↓zs_266_77, ↓zs_266_78, ↓zs_266_79, ↓zs_266_80, ↓zs_266_83, ↓zs_266_84, ↓zs_266_85, ↓zs_266_88, ↓zs_266_89, ↓zs_266_92, ↓zs_266_95, ↓zs_266_96, zx_pu_s, zx_pu_n, zx_rv_s, zx_rv_n, true_and, and_true, true_or, or_true, zb_0, zb_1, zq_lcl, zq_lcg, zq_lce, eq_self, ite_true, ite_false, zk_138, zw_138, zk_139, zw_139, zk_140, zw_140, zk_141, zw_141, zk_142, zw_142, zk_143, zw_143, zk_144, zw_144, zk_145, zw_145, zk_146, zw_146, zk_147, zw_147, zk_148, zw_148, zk_149, zw_149, zk_150, zw_150, zk_151, zw_151, zk_152, zw_152, zq_138_1, zq_138_2, zq_138_3, zq_138_4, zq_138_16, zq_138_19, zq_138_20, zq_138_24, zq_138_25, zq_138_26, zq_138_27, zq_138_31, zq_138_32, zq_138_33, zn_10, zn_40, zn_040, zn_340, nI_add, zin_nI, nI_clamp, nI_ltI, pk_mul, zu_139, u150, e1, hlt, hcut]
      obtain ⟨J3, f3, g3, hcm⟩ := lm M 0 J1 (by omega) (fun _ _ _ => rfl) (fun j hj => absurd hj (Nat.not_lt_zero j))
      have n3' : zx_u I 138 0 (nI 0) 139 3 = nI (zn (I 139)) := by rw [zu_139]; exact ok.1.2.2.1
      refine ⟨.int (nI M), I, J1, zx_u I 138 0 (nI 0), J3, fun d P => ?_, fun d P => ?_, ?_⟩
      · rw [← hc d P, ze_145]
        simp (disch := omega) only [↓zs_145_0, ↓zs_145_1, ↓zs_145_2, ↓zs_145_5, ↓zs_145_5N, ↓zs_145_6, ↓zs_145_6N, ↓zs_145_7, ↓zs_145_7N, ↓zs_145_10, ↓zs_145_12, ↓zs_145_13, ↓zs_145_13N, ↓zs_145_14, ↓zs_145_17, ↓zs_145_20, ↓zs_145_22, ↓zs_145_23, ↓zs_145_23N, ↓zs_145_24, ↓zs_145_27, ↓zs_145_28, ↓zs_145_31, ↓zs_145_34, ↓zs_145_37, ↓zs_145_38, ↓zs_145_39, zx_pu_s, zx_pu_n, zx_rv_s, zx_rv_n, true_and, and_true, true_or, or_true, zb_0, zb_1, zq_lcl, zq_lcg, zq_lce, eq_self, ite_true, ite_false, zk_0, zw_0, zk_1, zw_1, zq_0_0, zq_0_1, zq_0_2, zq_0_3, zq_0_4, zq_0_5, zq_0_6, zq_0_7, zq_0_8, zq_0_9, zq_0_10, zq_0_11, zq_1_0, zq_1_1, zq_1_2, zq_1_3, zq_1_4, zq_1_5, h1, l5, k1, e3, e5, hN, c1, emin]
      · rw [← hcm d P, ze_266]
        by_cases q : zn (I 139) < n
        · rw [if_pos q] at hM
          simp (disch := omega) only [↓zs_266_0, ↓zs_266_1, ↓zs_266_2, ↓zs_266_5, ↓zs_266_6, ↓zs_266_7, ↓zs_266_10, ↓zs_266_11, ↓zs_266_12, ↓zs_266_15, ↓zs_266_16, ↓zs_266_17, ↓zs_266_18, ↓zs_266_21, ↓zs_266_22, ↓zs_266_23, ↓zs_266_24, ↓zs_266_27, ↓zs_266_28, ↓zs_266_29, ↓zs_266_32, ↓zs_266_33, ↓zs_266_36, ↓zs_266_37, ↓zs_266_38, ↓zs_266_41, ↓zs_266_42, ↓zs_266_45, ↓zs_266_46, ↓zs_266_47, ↓zs_266_48, ↓zs_266_49, zx_pu_s, zx_pu_n, zx_rv_s, zx_rv_n, true_and, and_true, true_or, or_true, zb_0, zb_1, zq_lcl, zq_lcg, zq_lce, eq_self, ite_true, ite_false, zk_138, zw_138, zk_139, zw_139, zk_140, zw_140, zk_141, zw_141, zk_142, zw_142, zk_143, zw_143, zk_144, zw_144, zk_145, zw_145, zk_146, zw_146, zk_147, zw_147, zk_148, zw_148, zk_149, zw_149, zk_150, zw_150, zk_151, zw_151, zk_152, zw_152, zq_138_1, zq_138_2, zq_138_3, zq_138_4, zq_138_16, zq_138_19, zq_138_20, zq_138_24, zq_138_25, zq_138_26, zq_138_27, zq_138_31, zq_138_32, zq_138_33, zn_10, zn_40, zn_040, zn_340, nI_add, zin_nI, nI_clamp, nI_ltI, nI_eq, pk_mul, nI_1, Nat.lt_irrefl, h2, n3', u151, e2, q, hM]
        · rw [if_neg q] at hM
          simp (disch := omega) only [↓zs_266_0, ↓zs_266_1, ↓zs_266_2, ↓zs_266_5, ↓zs_266_6, ↓zs_266_7, ↓zs_266_10, ↓zs_266_11, ↓zs_266_12, ↓zs_266_15, ↓zs_266_16, ↓zs_266_17, ↓zs_266_18, ↓zs_266_21, ↓zs_266_22, ↓zs_266_23, ↓zs_266_24, ↓zs_266_27, ↓zs_266_28, ↓zs_266_29, ↓zs_266_32, ↓zs_266_33, ↓zs_266_36, ↓zs_266_37, ↓zs_266_38, ↓zs_266_41, ↓zs_266_42, ↓zs_266_45, ↓zs_266_46, ↓zs_266_47, ↓zs_266_48, ↓zs_266_49, zx_pu_s, zx_pu_n, zx_rv_s, zx_rv_n, true_and, and_true, true_or, or_true, zb_0, zb_1, zq_lcl, zq_lcg, zq_lce, eq_self, ite_true, ite_false, zk_138, zw_138, zk_139, zw_139, zk_140, zw_140, zk_141, zw_141, zk_142, zw_142, zk_143, zw_143, zk_144, zw_144, zk_145, zw_145, zk_146, zw_146, zk_147, zw_147, zk_148, zw_148, zk_149, zw_149, zk_150, zw_150, zk_151, zw_151, zk_152, zw_152, zq_138_1, zq_138_2, zq_138_3, zq_138_4, zq_138_16, zq_138_19, zq_138_20, zq_138_24, zq_138_25, zq_138_26, zq_138_27, zq_138_31, zq_138_32, zq_138_33, zn_10, zn_40, zn_040, zn_340, nI_add, zin_nI, nI_clamp, nI_ltI, nI_eq, pk_mul, nI_1, Nat.lt_irrefl, h2, n3', u151, e2, q, hM]
      · refine zInv_tr v (fun a j q => zu_n (fun z => q (.inl (by unfold zSc; omega)))) (fun a j q => by rw [f3 a j (by omega), f1 a j (by omega)]) ?_
        intro t2 ht2
        rw [u150, u151, zu_o (show 102 + 2 * t2 ≠ 138 by omega)]
        rcases hT t2 ht2 with ⟨f9, f8⟩ | ⟨s2, nn2, q1, q2, q3, q4, q5, q6, q7, q8⟩
        · exact .inl ⟨f9, f8⟩
        · refine .inr ⟨s2, nn2, q1, q2, q3, q4, q5, q6, q7, fun i hi => ?_⟩
          by_cases q : t2 = t ∧ i < M
          · obtain ⟨rfl, hiM⟩ := q
            rw [g3 i hiM, f3 _ _ (by omega), g1 i hiM]
          · rw [f3 _ _ (by omega), f1 _ _ (by omega), f3 _ _ (by omega), f1 _ _ (by omega)]
            exact q8 i hi
end CY
