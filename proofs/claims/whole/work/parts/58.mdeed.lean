/-! deeds: the model's -/
section WM
variable {d Lh m : Nat} {I : zx_MI} {J : zx_MJ} {P : Option Value → zx_Lay → zx_MI → zx_MJ → Prop}
theorem sp_isStN {n : Nat} (hn : n < 2 ^ 31) (hN : I 139 3 = nI (zn (I 139))) (N8 : zn (I 139) ≤ 8) : zx_rn (d + 1) 183 [.ref 138, .long (lN n)] (zx_LL Lh) I J P = P (some (.int (zB (decide (n < zn (I 139)))))) (zx_LL Lh) I J := by
  rw [sp_isStatue (lN n) hN N8, lN_toInt hn, zf_in, decide_eq_true (show (0 : Int) ≤ (n : Int) by omega), Bool.true_and, show decide ((n : Int) < (zn (I 139) : Int)) = decide (n < zn (I 139)) from decide_eq_decide.mpr (by omega)]
theorem sp_isSoN {n w h : Nat} (hn : n < 2 ^ 31) (hw : I 139 1 = nI w) (hh : I 139 2 = nI h) (hs : w * h ≤ 64) : zx_rn (d + 1) 185 [.ref 138, .long (lN n)] (zx_LL Lh) I J P = P (some (.int (zB (decide (n < w * h))))) (zx_LL Lh) I J := by
  rw [sp_isStone (lN n) hw hh (by omega), lN_toInt hn, zf_in, decide_eq_true (show (0 : Int) ≤ (n : Int) by omega), Bool.true_and, show decide ((n : Int) < ((w * h : Nat) : Int)) = decide (n < w * h) from decide_eq_decide.mpr (by omega)]
theorem zn_r1 {n : Nat} (h : 1000 ≤ n) : n % 100 = (n - 1000) % 100 := by omega
theorem sp_whyNot (u : Int64) (v : zV (I 139) m) : zx_rn (d + 3) 217 [.ref 138, .long u] (zx_LL Lh) I J P = P (some (.int (nI (zf_why (I 139) u)))) (zx_LL Lh) I J := by
  have hN := v.1.1.2.2.1
  have N8 : zn (I 139) ≤ 8 := v.1.1.2.2.2.2.2
  have wh : zw (I 139) * zh (I 139) ≤ 64 := Nat.mul_le_mul v.1.1.2.2.2.1 v.1.1.2.2.2.2.1
  have hS := fun n hn d P => sp_isStN (d := d) (Lh := Lh) (J := J) (P := P) (n := n) hn hN N8
  have hK := fun n hn d P => sp_isSoN (d := d) (Lh := Lh) (J := J) (P := P) (n := n) hn v.1.1.1 v.1.1.2.1 wh
  have hst : ∀ s, s < 8 → ∀ d P, zx_rn d 186 [.ref 138, .int (nI s)] (zx_LL Lh) I J P = P (some (.int (zB (zf_stds (I 139) s)))) (zx_LL Lh) I J := fun s hs d P => sp_stands s hs
  have htk : ∀ k, k < 64 → ∀ d P, zx_rn (d + 1) 187 [.ref 138, .int (nI k)] (zx_LL Lh) I J P = P (some (.int (zB (zf_taken (I 139) (zn (I 139)) k)))) (zx_LL Lh) I J := fun k hk d P => sp_isTaken hk N8 hN
  rw [ze_217]
  rcases zf_kind u with rfl | ⟨c1, c2⟩ | ⟨n, hn, rfl⟩ | ⟨c1, c2, c3, c4⟩
  · unfold zf_why
    rw [if_pos rfl]
    simp only [↓zs_217_0, ↓zs_217_1, ↓zs_217_4, ↓zs_217_5, ↓zs_217_8, ↓zs_217_9, ↓zs_217_10, ↓zs_217_11, ↓zs_217_12, ↓zs_217_15, ↓zs_217_18, ↓zs_217_21, ↓zs_217_22, ↓zs_217_23, zx_pu_s, zx_pu_n, zx_rv_s, zx_rv_n, true_and, and_true, true_or, or_true, zb_0, zb_1, zq_lcl, zq_lcg, zq_lce, eq_self, ite_true, ite_false]
  · have e : zf_why (I 139) u = 1 := by
      unfold zf_why
      rw [if_neg (of_eq_false c1), if_pos (of_eq_true c2)]
    rw [e]
    simp (disch := omega) only [↓zs_217_0, ↓zs_217_1, ↓zs_217_4, ↓zs_217_5, ↓zs_217_8, ↓zs_217_9, ↓zs_217_10, ↓zs_217_11, ↓zs_217_12, ↓zs_217_15, ↓zs_217_18, ↓zs_217_21, ↓zs_217_22, ↓zs_217_23, zx_pu_s, zx_pu_n, zx_rv_s, zx_rv_n, true_and, and_true, true_or, or_true, zb_0, zb_1, zq_lcl, zq_lcg, zq_lce, eq_self, ite_true, ite_false, c1, sp_within, c2, decide_true, Bool.not_true, Bool.false_and, zB_0]
  · have w1 : (!decide (lN n < lN 0) && !decide (lN 1999 < lN n)) = true := by
      rw [decide_eq_false (by rw [zL_ltN (by omega) (by omega)]; omega), decide_eq_false (by rw [zL_ltN (by omega) (by omega)]; omega)]; rfl
    rw [zf_why_n hn]
    unfold zf_whyN
    by_cases h80 : n < 80
    · rw [if_pos h80]
      have a1 : n < 1000 := by omega
      have a2 : n < 100 := by omega
      unfold zf_wL
      by_cases c1 : n / 10 < zn (I 139)
      · by_cases c2 : n % 10 < zn (I 139)
        · by_cases c3 : n / 10 = n % 10
          · rw [if_neg (fun e => e.2.2 c3)]
            have e3 : (nI (n / 10) = nI (n % 10)) = True := eq_true (congrArg nI c3)
            simp (disch := omega) only [↓zs_217_0, ↓zs_217_1, ↓zs_217_4, ↓zs_217_5, ↓zs_217_8, ↓zs_217_9, ↓zs_217_10, ↓zs_217_11, ↓zs_217_12, ↓zs_217_15, ↓zs_217_18, ↓zs_217_21, ↓zs_217_22, ↓zs_217_23, ↓zs_217_24, ↓zs_217_25, ↓zs_217_26, ↓zs_217_27, ↓zs_217_30, ↓zs_217_33, ↓zs_217_34, ↓zs_217_37, ↓zs_217_38, ↓zs_217_40, ↓zs_217_41, ↓zs_217_43, ↓zs_217_44, ↓zs_217_46, ↓zs_217_47, ↓zs_217_50, ↓zs_217_53, ↓zs_217_54, ↓zs_217_55, ↓zs_217_57, ↓zs_217_58, ↓zs_217_59, ↓zs_217_62, ↓zs_217_65, ↓zs_217_66, ↓zs_217_67, ↓zs_217_68, ↓zs_217_70, ↓zs_217_73, ↓zs_217_76, ↓zs_217_77, ↓zs_217_80, ↓zs_217_81, ↓zs_217_82, ↓zs_217_84, ↓zs_217_85, ↓zs_217_88, ↓zs_217_91, ↓zs_217_92, ↓zs_217_95, ↓zs_217_96, ↓zs_217_97, ↓zs_217_98, ↓zs_217_100, ↓zs_217_103, ↓zs_217_104, ↓zs_217_105, ↓zs_217_108, ↓zs_217_111, ↓zs_217_114, ↓zs_217_117, ↓zs_217_118, ↓zs_217_119, ↓zs_217_121, ↓zs_217_122, ↓zs_217_123, ↓zs_217_126, ↓zs_217_129, ↓zs_217_130, ↓zs_217_133, ↓zs_217_134, ↓zs_217_135, ↓zs_217_137, ↓zs_217_138, ↓zs_217_141, ↓zs_217_144, ↓zs_217_145, ↓zs_217_148, ↓zs_217_149, ↓zs_217_150, ↓zs_217_151, ↓zs_217_152, ↓zs_217_154, ↓zs_217_155, ↓zs_217_156, ↓zs_217_159, ↓zs_217_162, ↓zs_217_163, ↓zs_217_164, ↓zs_217_166, ↓zs_217_167, ↓zs_217_168, ↓zs_217_171, ↓zs_217_174, ↓zs_217_175, ↓zs_217_177, ↓zs_217_178, ↓zs_217_179, ↓zs_217_181, ↓zs_217_182, ↓zs_217_185, ↓zs_217_186, ↓zs_217_187, ↓zs_217_188, ↓zs_217_189, ↓zs_217_191, ↓zs_217_192, ↓zs_217_195, ↓zs_217_198, ↓zs_217_199, ↓zs_217_200, ↓zs_217_202, ↓zs_217_203, ↓zs_217_206, ↓zs_217_209, ↓zs_217_210, ↓zs_217_213, ↓zs_217_214, zx_pu_s, zx_pu_n, zx_rv_s, zx_rv_n, true_and, and_true, true_or, or_true, zb_0, zb_1, zq_lcl, zq_lcg, zq_lce, eq_self, ite_true, ite_false, zk_138, zw_138, zk_139, zw_139, zk_140, zw_140, zk_141, zw_141, zk_142, zw_142, zk_143, zw_143, zk_144, zw_144, zk_145, zw_145, zk_146, zw_146, zk_147, zw_147, zk_148, zw_148, zk_149, zw_149, zk_150, zw_150, zk_151, zw_151, zk_152, zw_152, zq_138_1, zq_138_2, zq_138_3, zq_138_4, zq_138_16, zq_138_19, zq_138_20, zq_138_24, zq_138_25, zq_138_26, zq_138_27, zq_138_31, zq_138_32, zq_138_33, nI_ltI, nI_l, zL_m1, sp_within, w1, zB_0, reduceCtorEq, lN_i, a1, a2, zq_10, not_false_eq_true, pk_div, pk_mul, zq_rem, hS, decide_eq_true c1, decide_eq_true c2, e3]
          · rw [if_pos ⟨c1, c2, c3⟩]
            have e3 : (nI (n / 10) = nI (n % 10)) = False := zq_ne c3 (by omega) (by omega)
            have b1 : n / 10 < 8 := by omega
            have b2 : n % 10 < 8 := by omega
            cases q1 : zf_stds (I 139) (n / 10) <;> cases q2 : zf_stds (I 139) (n % 10) <;> simp (disch := omega) only [↓zs_217_0, ↓zs_217_1, ↓zs_217_4, ↓zs_217_5, ↓zs_217_8, ↓zs_217_9, ↓zs_217_10, ↓zs_217_11, ↓zs_217_12, ↓zs_217_15, ↓zs_217_18, ↓zs_217_21, ↓zs_217_22, ↓zs_217_23, ↓zs_217_24, ↓zs_217_25, ↓zs_217_26, ↓zs_217_27, ↓zs_217_30, ↓zs_217_33, ↓zs_217_34, ↓zs_217_37, ↓zs_217_38, ↓zs_217_40, ↓zs_217_41, ↓zs_217_43, ↓zs_217_44, ↓zs_217_46, ↓zs_217_47, ↓zs_217_50, ↓zs_217_53, ↓zs_217_54, ↓zs_217_55, ↓zs_217_57, ↓zs_217_58, ↓zs_217_59, ↓zs_217_62, ↓zs_217_65, ↓zs_217_66, ↓zs_217_67, ↓zs_217_68, ↓zs_217_70, ↓zs_217_73, ↓zs_217_76, ↓zs_217_77, ↓zs_217_80, ↓zs_217_81, ↓zs_217_82, ↓zs_217_84, ↓zs_217_85, ↓zs_217_88, ↓zs_217_91, ↓zs_217_92, ↓zs_217_95, ↓zs_217_96, ↓zs_217_97, ↓zs_217_98, ↓zs_217_100, ↓zs_217_103, ↓zs_217_104, ↓zs_217_105, ↓zs_217_108, ↓zs_217_111, ↓zs_217_114, ↓zs_217_117, ↓zs_217_118, ↓zs_217_119, ↓zs_217_121, ↓zs_217_122, ↓zs_217_123, ↓zs_217_126, ↓zs_217_129, ↓zs_217_130, ↓zs_217_133, ↓zs_217_134, ↓zs_217_135, ↓zs_217_137, ↓zs_217_138, ↓zs_217_141, ↓zs_217_144, ↓zs_217_145, ↓zs_217_148, ↓zs_217_149, ↓zs_217_150, ↓zs_217_151, ↓zs_217_152, ↓zs_217_154, ↓zs_217_155, ↓zs_217_156, ↓zs_217_159, ↓zs_217_162, ↓zs_217_163, ↓zs_217_164, ↓zs_217_166, ↓zs_217_167, ↓zs_217_168, ↓zs_217_171, ↓zs_217_174, ↓zs_217_175, ↓zs_217_177, ↓zs_217_178, ↓zs_217_179, ↓zs_217_181, ↓zs_217_182, ↓zs_217_185, ↓zs_217_186, ↓zs_217_187, ↓zs_217_188, ↓zs_217_189, ↓zs_217_191, ↓zs_217_192, ↓zs_217_195, ↓zs_217_198, ↓zs_217_199, ↓zs_217_200, ↓zs_217_202, ↓zs_217_203, ↓zs_217_206, ↓zs_217_209, ↓zs_217_210, ↓zs_217_213, ↓zs_217_214, zx_pu_s, zx_pu_n, zx_rv_s, zx_rv_n, true_and, and_true, true_or, or_true, zb_0, zb_1, zq_lcl, zq_lcg, zq_lce, eq_self, ite_true, ite_false, zk_138, zw_138, zk_139, zw_139, zk_140, zw_140, zk_141, zw_141, zk_142, zw_142, zk_143, zw_143, zk_144, zw_144, zk_145, zw_145, zk_146, zw_146, zk_147, zw_147, zk_148, zw_148, zk_149, zw_149, zk_150, zw_150, zk_151, zw_151, zk_152, zw_152, zq_138_1, zq_138_2, zq_138_3, zq_138_4, zq_138_16, zq_138_19, zq_138_20, zq_138_24, zq_138_25, zq_138_26, zq_138_27, zq_138_31, zq_138_32, zq_138_33, nI_ltI, nI_l, zL_m1, sp_within, w1, zB_0, reduceCtorEq, lN_i, a1, a2, zq_10, not_false_eq_true, pk_div, pk_mul, zq_rem, hS, decide_eq_true c1, decide_eq_true c2, e3, hst, q1, q2, and_self, and_false, false_and, if_true, if_false]
        · rw [if_neg (fun e => c2 e.2.1)]
          simp (disch := omega) only [↓zs_217_0, ↓zs_217_1, ↓zs_217_4, ↓zs_217_5, ↓zs_217_8, ↓zs_217_9, ↓zs_217_10, ↓zs_217_11, ↓zs_217_12, ↓zs_217_15, ↓zs_217_18, ↓zs_217_21, ↓zs_217_22, ↓zs_217_23, ↓zs_217_24, ↓zs_217_25, ↓zs_217_26, ↓zs_217_27, ↓zs_217_30, ↓zs_217_33, ↓zs_217_34, ↓zs_217_37, ↓zs_217_38, ↓zs_217_40, ↓zs_217_41, ↓zs_217_43, ↓zs_217_44, ↓zs_217_46, ↓zs_217_47, ↓zs_217_50, ↓zs_217_53, ↓zs_217_54, ↓zs_217_55, ↓zs_217_57, ↓zs_217_58, ↓zs_217_59, ↓zs_217_62, ↓zs_217_65, ↓zs_217_66, ↓zs_217_67, ↓zs_217_68, ↓zs_217_70, ↓zs_217_73, ↓zs_217_76, ↓zs_217_77, ↓zs_217_80, ↓zs_217_81, ↓zs_217_82, ↓zs_217_84, ↓zs_217_85, ↓zs_217_88, ↓zs_217_91, ↓zs_217_92, ↓zs_217_95, ↓zs_217_96, ↓zs_217_97, ↓zs_217_98, ↓zs_217_100, ↓zs_217_103, ↓zs_217_104, ↓zs_217_105, ↓zs_217_108, ↓zs_217_111, ↓zs_217_114, ↓zs_217_117, ↓zs_217_118, ↓zs_217_119, ↓zs_217_121, ↓zs_217_122, ↓zs_217_123, ↓zs_217_126, ↓zs_217_129, ↓zs_217_130, ↓zs_217_133, ↓zs_217_134, ↓zs_217_135, ↓zs_217_137, ↓zs_217_138, ↓zs_217_141, ↓zs_217_144, ↓zs_217_145, ↓zs_217_148, ↓zs_217_149, ↓zs_217_150, ↓zs_217_151, ↓zs_217_152, ↓zs_217_154, ↓zs_217_155, ↓zs_217_156, ↓zs_217_159, ↓zs_217_162, ↓zs_217_163, ↓zs_217_164, ↓zs_217_166, ↓zs_217_167, ↓zs_217_168, ↓zs_217_171, ↓zs_217_174, ↓zs_217_175, ↓zs_217_177, ↓zs_217_178, ↓zs_217_179, ↓zs_217_181, ↓zs_217_182, ↓zs_217_185, ↓zs_217_186, ↓zs_217_187, ↓zs_217_188, ↓zs_217_189, ↓zs_217_191, ↓zs_217_192, ↓zs_217_195, ↓zs_217_198, ↓zs_217_199, ↓zs_217_200, ↓zs_217_202, ↓zs_217_203, ↓zs_217_206, ↓zs_217_209, ↓zs_217_210, ↓zs_217_213, ↓zs_217_214, zx_pu_s, zx_pu_n, zx_rv_s, zx_rv_n, true_and, and_true, true_or, or_true, zb_0, zb_1, zq_lcl, zq_lcg, zq_lce, eq_self, ite_true, ite_false, zk_138, zw_138, zk_139, zw_139, zk_140, zw_140, zk_141, zw_141, zk_142, zw_142, zk_143, zw_143, zk_144, zw_144, zk_145, zw_145, zk_146, zw_146, zk_147, zw_147, zk_148, zw_148, zk_149, zw_149, zk_150, zw_150, zk_151, zw_151, zk_152, zw_152, zq_138_1, zq_138_2, zq_138_3, zq_138_4, zq_138_16, zq_138_19, zq_138_20, zq_138_24, zq_138_25, zq_138_26, zq_138_27, zq_138_31, zq_138_32, zq_138_33, nI_ltI, nI_l, zL_m1, sp_within, w1, zB_0, reduceCtorEq, lN_i, a1, a2, zq_10, not_false_eq_true, pk_div, pk_mul, zq_rem, hS, decide_eq_true c1, decide_eq_false c2]
      · rw [if_neg (fun e => c1 e.1)]
        simp (disch := omega) only [↓zs_217_0, ↓zs_217_1, ↓zs_217_4, ↓zs_217_5, ↓zs_217_8, ↓zs_217_9, ↓zs_217_10, ↓zs_217_11, ↓zs_217_12, ↓zs_217_15, ↓zs_217_18, ↓zs_217_21, ↓zs_217_22, ↓zs_217_23, ↓zs_217_24, ↓zs_217_25, ↓zs_217_26, ↓zs_217_27, ↓zs_217_30, ↓zs_217_33, ↓zs_217_34, ↓zs_217_37, ↓zs_217_38, ↓zs_217_40, ↓zs_217_41, ↓zs_217_43, ↓zs_217_44, ↓zs_217_46, ↓zs_217_47, ↓zs_217_50, ↓zs_217_53, ↓zs_217_54, ↓zs_217_55, ↓zs_217_57, ↓zs_217_58, ↓zs_217_59, ↓zs_217_62, ↓zs_217_65, ↓zs_217_66, ↓zs_217_67, ↓zs_217_68, ↓zs_217_70, ↓zs_217_73, ↓zs_217_76, ↓zs_217_77, ↓zs_217_80, ↓zs_217_81, ↓zs_217_82, ↓zs_217_84, ↓zs_217_85, ↓zs_217_88, ↓zs_217_91, ↓zs_217_92, ↓zs_217_95, ↓zs_217_96, ↓zs_217_97, ↓zs_217_98, ↓zs_217_100, ↓zs_217_103, ↓zs_217_104, ↓zs_217_105, ↓zs_217_108, ↓zs_217_111, ↓zs_217_114, ↓zs_217_117, ↓zs_217_118, ↓zs_217_119, ↓zs_217_121, ↓zs_217_122, ↓zs_217_123, ↓zs_217_126, ↓zs_217_129, ↓zs_217_130, ↓zs_217_133, ↓zs_217_134, ↓zs_217_135, ↓zs_217_137, ↓zs_217_138, ↓zs_217_141, ↓zs_217_144, ↓zs_217_145, ↓zs_217_148, ↓zs_217_149, ↓zs_217_150, ↓zs_217_151, ↓zs_217_152, ↓zs_217_154, ↓zs_217_155, ↓zs_217_156, ↓zs_217_159, ↓zs_217_162, ↓zs_217_163, ↓zs_217_164, ↓zs_217_166, ↓zs_217_167, ↓zs_217_168, ↓zs_217_171, ↓zs_217_174, ↓zs_217_175, ↓zs_217_177, ↓zs_217_178, ↓zs_217_179, ↓zs_217_181, ↓zs_217_182, ↓zs_217_185, ↓zs_217_186, ↓zs_217_187, ↓zs_217_188, ↓zs_217_189, ↓zs_217_191, ↓zs_217_192, ↓zs_217_195, ↓zs_217_198, ↓zs_217_199, ↓zs_217_200, ↓zs_217_202, ↓zs_217_203, ↓zs_217_206, ↓zs_217_209, ↓zs_217_210, ↓zs_217_213, ↓zs_217_214, zx_pu_s, zx_pu_n, zx_rv_s, zx_rv_n, true_and, and_true, true_or, or_true, zb_0, zb_1, zq_lcl, zq_lcg, zq_lce, eq_self, ite_true, ite_false, zk_138, zw_138, zk_139, zw_139, zk_140, zw_140, zk_141, zw_141, zk_142, zw_142, zk_143, zw_143, zk_144, zw_144, zk_145, zw_145, zk_146, zw_146, zk_147, zw_147, zk_148, zw_148, zk_149, zw_149, zk_150, zw_150, zk_151, zw_151, zk_152, zw_152, zq_138_1, zq_138_2, zq_138_3, zq_138_4, zq_138_16, zq_138_19, zq_138_20, zq_138_24, zq_138_25, zq_138_26, zq_138_27, zq_138_31, zq_138_32, zq_138_33, nI_ltI, nI_l, zL_m1, sp_within, w1, zB_0, reduceCtorEq, lN_i, a1, a2, zq_10, not_false_eq_true, pk_div, pk_mul, zq_rem, hS, decide_eq_false c1]
    · rw [if_neg h80]
      by_cases h100 : n < 100
      · rw [if_pos h100]
        have a1 : n < 1000 := by omega
        have c1 : ¬ n / 10 < zn (I 139) := by omega
        simp (disch := omega) only [↓zs_217_0, ↓zs_217_1, ↓zs_217_4, ↓zs_217_5, ↓zs_217_8, ↓zs_217_9, ↓zs_217_10, ↓zs_217_11, ↓zs_217_12, ↓zs_217_15, ↓zs_217_18, ↓zs_217_21, ↓zs_217_22, ↓zs_217_23, ↓zs_217_24, ↓zs_217_25, ↓zs_217_26, ↓zs_217_27, ↓zs_217_30, ↓zs_217_33, ↓zs_217_34, ↓zs_217_37, ↓zs_217_38, ↓zs_217_40, ↓zs_217_41, ↓zs_217_43, ↓zs_217_44, ↓zs_217_46, ↓zs_217_47, ↓zs_217_50, ↓zs_217_53, ↓zs_217_54, ↓zs_217_55, ↓zs_217_57, ↓zs_217_58, ↓zs_217_59, ↓zs_217_62, ↓zs_217_65, ↓zs_217_66, ↓zs_217_67, ↓zs_217_68, ↓zs_217_70, ↓zs_217_73, ↓zs_217_76, ↓zs_217_77, ↓zs_217_80, ↓zs_217_81, ↓zs_217_82, ↓zs_217_84, ↓zs_217_85, ↓zs_217_88, ↓zs_217_91, ↓zs_217_92, ↓zs_217_95, ↓zs_217_96, ↓zs_217_97, ↓zs_217_98, ↓zs_217_100, ↓zs_217_103, ↓zs_217_104, ↓zs_217_105, ↓zs_217_108, ↓zs_217_111, ↓zs_217_114, ↓zs_217_117, ↓zs_217_118, ↓zs_217_119, ↓zs_217_121, ↓zs_217_122, ↓zs_217_123, ↓zs_217_126, ↓zs_217_129, ↓zs_217_130, ↓zs_217_133, ↓zs_217_134, ↓zs_217_135, ↓zs_217_137, ↓zs_217_138, ↓zs_217_141, ↓zs_217_144, ↓zs_217_145, ↓zs_217_148, ↓zs_217_149, ↓zs_217_150, ↓zs_217_151, ↓zs_217_152, ↓zs_217_154, ↓zs_217_155, ↓zs_217_156, ↓zs_217_159, ↓zs_217_162, ↓zs_217_163, ↓zs_217_164, ↓zs_217_166, ↓zs_217_167, ↓zs_217_168, ↓zs_217_171, ↓zs_217_174, ↓zs_217_175, ↓zs_217_177, ↓zs_217_178, ↓zs_217_179, ↓zs_217_181, ↓zs_217_182, ↓zs_217_185, ↓zs_217_186, ↓zs_217_187, ↓zs_217_188, ↓zs_217_189, ↓zs_217_191, ↓zs_217_192, ↓zs_217_195, ↓zs_217_198, ↓zs_217_199, ↓zs_217_200, ↓zs_217_202, ↓zs_217_203, ↓zs_217_206, ↓zs_217_209, ↓zs_217_210, ↓zs_217_213, ↓zs_217_214, zx_pu_s, zx_pu_n, zx_rv_s, zx_rv_n, true_and, and_true, true_or, or_true, zb_0, zb_1, zq_lcl, zq_lcg, zq_lce, eq_self, ite_true, ite_false, zk_138, zw_138, zk_139, zw_139, zk_140, zw_140, zk_141, zw_141, zk_142, zw_142, zk_143, zw_143, zk_144, zw_144, zk_145, zw_145, zk_146, zw_146, zk_147, zw_147, zk_148, zw_148, zk_149, zw_149, zk_150, zw_150, zk_151, zw_151, zk_152, zw_152, zq_138_1, zq_138_2, zq_138_3, zq_138_4, zq_138_16, zq_138_19, zq_138_20, zq_138_24, zq_138_25, zq_138_26, zq_138_27, zq_138_31, zq_138_32, zq_138_33, nI_ltI, nI_l, zL_m1, sp_within, w1, zB_0, reduceCtorEq, lN_i, a1, h100, zq_10, not_false_eq_true, pk_div, pk_mul, zq_rem, hS, decide_eq_false c1]
      · rw [if_neg h100]
        by_cases h1000 : n < 1000
        · by_cases h300 : n < 300
          · have w2 : (!decide (lN n < lN 100) && !decide (lN 299 < lN n)) = true := by
              rw [decide_eq_false (by rw [zL_ltN (by omega) (by omega)]; omega), decide_eq_false (by rw [zL_ltN (by omega) (by omega)]; omega)]; rfl
            have main : ∀ s, n % 100 = s → zx_wp (d + 3) 217 117 [.ref 138, .long (lN n), zx_u0, .int (nI n), zx_u0] [] (zx_LL Lh) I J P = P (some (.int (nI (zf_w1 (I 139) s)))) (zx_LL Lh) I J := by
              intro s es
              unfold zf_w1
              by_cases c1 : s < zn (I 139)
              · rw [if_pos c1]
                have b1 : s < 8 := by omega
                cases q1 : zf_stds (I 139) s <;> simp (disch := omega) only [↓zs_217_117, ↓zs_217_118, ↓zs_217_119, ↓zs_217_121, ↓zs_217_122, ↓zs_217_123, ↓zs_217_126, ↓zs_217_129, ↓zs_217_130, ↓zs_217_133, ↓zs_217_134, ↓zs_217_135, ↓zs_217_137, ↓zs_217_138, ↓zs_217_141, ↓zs_217_144, ↓zs_217_145, ↓zs_217_148, ↓zs_217_149, zx_pu_s, zx_pu_n, zx_rv_s, zx_rv_n, true_and, and_true, true_or, or_true, zb_0, zb_1, zq_lcl, zq_lcg, zq_lce, eq_self, ite_true, ite_false, zk_138, zw_138, zk_139, zw_139, zk_140, zw_140, zk_141, zw_141, zk_142, zw_142, zk_143, zw_143, zk_144, zw_144, zk_145, zw_145, zk_146, zw_146, zk_147, zw_147, zk_148, zw_148, zk_149, zw_149, zk_150, zw_150, zk_151, zw_151, zk_152, zw_152, zq_138_1, zq_138_2, zq_138_3, zq_138_4, zq_138_16, zq_138_19, zq_138_20, zq_138_24, zq_138_25, zq_138_26, zq_138_27, zq_138_31, zq_138_32, zq_138_33, nI_l, zq_100, not_false_eq_true, pk_div, pk_mul, zq_rem, es, hS, decide_eq_true c1, zB_0, reduceCtorEq, hst, q1, if_true, if_false]
              · rw [if_neg c1]
                simp (disch := omega) only [↓zs_217_117, ↓zs_217_118, ↓zs_217_119, ↓zs_217_121, ↓zs_217_122, ↓zs_217_123, ↓zs_217_126, ↓zs_217_129, ↓zs_217_130, ↓zs_217_133, ↓zs_217_134, ↓zs_217_135, ↓zs_217_137, ↓zs_217_138, ↓zs_217_141, ↓zs_217_144, ↓zs_217_145, ↓zs_217_148, ↓zs_217_149, zx_pu_s, zx_pu_n, zx_rv_s, zx_rv_n, true_and, and_true, true_or, or_true, zb_0, zb_1, zq_lcl, zq_lcg, zq_lce, eq_self, ite_true, ite_false, zk_138, zw_138, zk_139, zw_139, zk_140, zw_140, zk_141, zw_141, zk_142, zw_142, zk_143, zw_143, zk_144, zw_144, zk_145, zw_145, zk_146, zw_146, zk_147, zw_147, zk_148, zw_148, zk_149, zw_149, zk_150, zw_150, zk_151, zw_151, zk_152, zw_152, zq_138_1, zq_138_2, zq_138_3, zq_138_4, zq_138_16, zq_138_19, zq_138_20, zq_138_24, zq_138_25, zq_138_26, zq_138_27, zq_138_31, zq_138_32, zq_138_33, nI_l, zq_100, not_false_eq_true, pk_div, pk_mul, zq_rem, es, hS, decide_eq_false c1, zB_0, reduceCtorEq]
            have fin : zx_wp (d + 3) 217 0 [.ref 138, .long (lN n), zx_u0, zx_u0, zx_u0] [] (zx_LL Lh) I J P = zx_wp (d + 3) 217 117 [.ref 138, .long (lN n), zx_u0, .int (nI n), zx_u0] [] (zx_LL Lh) I J P := by
              simp (disch := omega) only [↓zs_217_0, ↓zs_217_1, ↓zs_217_4, ↓zs_217_5, ↓zs_217_8, ↓zs_217_9, ↓zs_217_10, ↓zs_217_11, ↓zs_217_12, ↓zs_217_15, ↓zs_217_18, ↓zs_217_21, ↓zs_217_22, ↓zs_217_23, ↓zs_217_24, ↓zs_217_25, ↓zs_217_26, ↓zs_217_27, ↓zs_217_30, ↓zs_217_33, ↓zs_217_34, ↓zs_217_37, ↓zs_217_38, ↓zs_217_40, ↓zs_217_41, ↓zs_217_43, ↓zs_217_44, ↓zs_217_46, ↓zs_217_47, ↓zs_217_50, ↓zs_217_53, ↓zs_217_54, ↓zs_217_55, ↓zs_217_57, ↓zs_217_58, ↓zs_217_59, ↓zs_217_62, ↓zs_217_65, ↓zs_217_66, ↓zs_217_67, ↓zs_217_68, ↓zs_217_70, ↓zs_217_73, ↓zs_217_76, ↓zs_217_77, ↓zs_217_80, ↓zs_217_81, ↓zs_217_82, ↓zs_217_84, ↓zs_217_85, ↓zs_217_88, ↓zs_217_91, ↓zs_217_92, ↓zs_217_95, ↓zs_217_96, ↓zs_217_97, ↓zs_217_98, ↓zs_217_100, ↓zs_217_103, ↓zs_217_104, ↓zs_217_105, ↓zs_217_108, ↓zs_217_111, ↓zs_217_114, zx_pu_s, zx_pu_n, zx_rv_s, zx_rv_n, true_and, and_true, true_or, or_true, zb_0, zb_1, zq_lcl, zq_lcg, zq_lce, eq_self, ite_true, ite_false, zk_138, zw_138, zk_139, zw_139, zk_140, zw_140, zk_141, zw_141, zk_142, zw_142, zk_143, zw_143, zk_144, zw_144, zk_145, zw_145, zk_146, zw_146, zk_147, zw_147, zk_148, zw_148, zk_149, zw_149, zk_150, zw_150, zk_151, zw_151, zk_152, zw_152, zq_138_1, zq_138_2, zq_138_3, zq_138_4, zq_138_16, zq_138_19, zq_138_20, zq_138_24, zq_138_25, zq_138_26, zq_138_27, zq_138_31, zq_138_32, zq_138_33, nI_ltI, nI_l, zL_m1, sp_within, w1, w2, zB_0, reduceCtorEq, lN_i, h1000, h100]
            rw [fin]
            by_cases h200 : n < 200
            · rw [main (n - 100) (by omega)]
              by_cases h108 : n < 108
              · rw [if_pos h108]
              · rw [if_neg h108, if_pos h200]
                unfold zf_w1
                rw [if_neg (by omega)]
            · rw [main (n - 200) (by omega), if_neg (by omega), if_neg h200]
              by_cases h208 : n < 208
              · rw [if_pos h208]
              · rw [if_neg h208, if_pos h1000]
                unfold zf_w1
                rw [if_neg (by omega)]
          · rw [if_neg (by omega), if_neg (by omega), if_neg (by omega), if_pos h1000]
            have w2 : (!decide (lN n < lN 100) && !decide (lN 299 < lN n)) = false := by
              rw [decide_eq_false (by rw [zL_ltN (by omega) (by omega)]; omega), decide_eq_true (by rw [zL_ltN (by omega) (by omega)]; omega)]; rfl
            simp (disch := omega) only [↓zs_217_0, ↓zs_217_1, ↓zs_217_4, ↓zs_217_5, ↓zs_217_8, ↓zs_217_9, ↓zs_217_10, ↓zs_217_11, ↓zs_217_12, ↓zs_217_15, ↓zs_217_18, ↓zs_217_21, ↓zs_217_22, ↓zs_217_23, ↓zs_217_24, ↓zs_217_25, ↓zs_217_26, ↓zs_217_27, ↓zs_217_30, ↓zs_217_33, ↓zs_217_34, ↓zs_217_37, ↓zs_217_38, ↓zs_217_40, ↓zs_217_41, ↓zs_217_43, ↓zs_217_44, ↓zs_217_46, ↓zs_217_47, ↓zs_217_50, ↓zs_217_53, ↓zs_217_54, ↓zs_217_55, ↓zs_217_57, ↓zs_217_58, ↓zs_217_59, ↓zs_217_62, ↓zs_217_65, ↓zs_217_66, ↓zs_217_67, ↓zs_217_68, ↓zs_217_70, ↓zs_217_73, ↓zs_217_76, ↓zs_217_77, ↓zs_217_80, ↓zs_217_81, ↓zs_217_82, ↓zs_217_84, ↓zs_217_85, ↓zs_217_88, ↓zs_217_91, ↓zs_217_92, ↓zs_217_95, ↓zs_217_96, ↓zs_217_97, ↓zs_217_98, ↓zs_217_100, ↓zs_217_103, ↓zs_217_104, ↓zs_217_105, ↓zs_217_108, ↓zs_217_111, ↓zs_217_114, ↓zs_217_117, ↓zs_217_118, ↓zs_217_119, ↓zs_217_121, ↓zs_217_122, ↓zs_217_123, ↓zs_217_126, ↓zs_217_129, ↓zs_217_130, ↓zs_217_133, ↓zs_217_134, ↓zs_217_135, ↓zs_217_137, ↓zs_217_138, ↓zs_217_141, ↓zs_217_144, ↓zs_217_145, ↓zs_217_148, ↓zs_217_149, zx_pu_s, zx_pu_n, zx_rv_s, zx_rv_n, true_and, and_true, true_or, or_true, zb_0, zb_1, zq_lcl, zq_lcg, zq_lce, eq_self, ite_true, ite_false, zk_138, zw_138, zk_139, zw_139, zk_140, zw_140, zk_141, zw_141, zk_142, zw_142, zk_143, zw_143, zk_144, zw_144, zk_145, zw_145, zk_146, zw_146, zk_147, zw_147, zk_148, zw_148, zk_149, zw_149, zk_150, zw_150, zk_151, zw_151, zk_152, zw_152, zq_138_1, zq_138_2, zq_138_3, zq_138_4, zq_138_16, zq_138_19, zq_138_20, zq_138_24, zq_138_25, zq_138_26, zq_138_27, zq_138_31, zq_138_32, zq_138_33, nI_ltI, nI_l, zL_m1, sp_within, w1, w2, zB_0, reduceCtorEq, lN_i, h1000, h100]
        · have main : zx_wp (d + 3) 217 0 [.ref 138, .long (lN n), zx_u0, zx_u0, zx_u0] [] (zx_LL Lh) I J P = P (some (.int (nI (zf_wU (I 139) ((n - 1000) / 100) ((n - 1000) % 100))))) (zx_LL Lh) I J := by
            have er : n % 100 = (n - 1000) % 100 := zn_r1 (by omega)
            unfold zf_wU
            by_cases c1 : (n - 1000) / 100 < zn (I 139)
            · by_cases c2 : (n - 1000) % 100 < zw (I 139) * zh (I 139)
              · rw [if_pos ⟨c1, c2⟩]
                have b1 : (n - 1000) / 100 < 8 := by omega
                have b2 : (n - 1000) % 100 < 64 := by omega
                cases q1 : zf_stds (I 139) ((n - 1000) / 100) <;> cases q2 : zf_taken (I 139) (zn (I 139)) ((n - 1000) % 100) <;> simp (disch := omega) only [↓zs_217_0, ↓zs_217_1, ↓zs_217_4, ↓zs_217_5, ↓zs_217_8, ↓zs_217_9, ↓zs_217_10, ↓zs_217_11, ↓zs_217_12, ↓zs_217_15, ↓zs_217_18, ↓zs_217_21, ↓zs_217_22, ↓zs_217_23, ↓zs_217_24, ↓zs_217_25, ↓zs_217_26, ↓zs_217_27, ↓zs_217_30, ↓zs_217_33, ↓zs_217_34, ↓zs_217_37, ↓zs_217_38, ↓zs_217_40, ↓zs_217_41, ↓zs_217_43, ↓zs_217_44, ↓zs_217_46, ↓zs_217_47, ↓zs_217_50, ↓zs_217_53, ↓zs_217_54, ↓zs_217_55, ↓zs_217_57, ↓zs_217_58, ↓zs_217_59, ↓zs_217_62, ↓zs_217_65, ↓zs_217_66, ↓zs_217_67, ↓zs_217_68, ↓zs_217_70, ↓zs_217_73, ↓zs_217_76, ↓zs_217_77, ↓zs_217_80, ↓zs_217_81, ↓zs_217_82, ↓zs_217_84, ↓zs_217_85, ↓zs_217_88, ↓zs_217_91, ↓zs_217_92, ↓zs_217_95, ↓zs_217_96, ↓zs_217_97, ↓zs_217_98, ↓zs_217_100, ↓zs_217_103, ↓zs_217_104, ↓zs_217_105, ↓zs_217_108, ↓zs_217_111, ↓zs_217_114, ↓zs_217_117, ↓zs_217_118, ↓zs_217_119, ↓zs_217_121, ↓zs_217_122, ↓zs_217_123, ↓zs_217_126, ↓zs_217_129, ↓zs_217_130, ↓zs_217_133, ↓zs_217_134, ↓zs_217_135, ↓zs_217_137, ↓zs_217_138, ↓zs_217_141, ↓zs_217_144, ↓zs_217_145, ↓zs_217_148, ↓zs_217_149, ↓zs_217_150, ↓zs_217_151, ↓zs_217_152, ↓zs_217_154, ↓zs_217_155, ↓zs_217_156, ↓zs_217_159, ↓zs_217_162, ↓zs_217_163, ↓zs_217_164, ↓zs_217_166, ↓zs_217_167, ↓zs_217_168, ↓zs_217_171, ↓zs_217_174, ↓zs_217_175, ↓zs_217_177, ↓zs_217_178, ↓zs_217_179, ↓zs_217_181, ↓zs_217_182, ↓zs_217_185, ↓zs_217_186, ↓zs_217_187, ↓zs_217_188, ↓zs_217_189, ↓zs_217_191, ↓zs_217_192, ↓zs_217_195, ↓zs_217_198, ↓zs_217_199, ↓zs_217_200, ↓zs_217_202, ↓zs_217_203, ↓zs_217_206, ↓zs_217_209, ↓zs_217_210, ↓zs_217_213, ↓zs_217_214, zx_pu_s, zx_pu_n, zx_rv_s, zx_rv_n, true_and, and_true, true_or, or_true, zb_0, zb_1, zq_lcl, zq_lcg, zq_lce, eq_self, ite_true, ite_false, zk_138, zw_138, zk_139, zw_139, zk_140, zw_140, zk_141, zw_141, zk_142, zw_142, zk_143, zw_143, zk_144, zw_144, zk_145, zw_145, zk_146, zw_146, zk_147, zw_147, zk_148, zw_148, zk_149, zw_149, zk_150, zw_150, zk_151, zw_151, zk_152, zw_152, zq_138_1, zq_138_2, zq_138_3, zq_138_4, zq_138_16, zq_138_19, zq_138_20, zq_138_24, zq_138_25, zq_138_26, zq_138_27, zq_138_31, zq_138_32, zq_138_33, nI_ltI, nI_l, zL_m1, sp_within, w1, zB_0, reduceCtorEq, lN_i, h1000, pk_sub, zq_100, not_false_eq_true, pk_div, pk_mul, zn_rem, er, hS, hK, decide_eq_true c1, decide_eq_true c2, hst, q1, htk, q2, if_true, if_false]
              · rw [if_neg (fun e => c2 e.2)]
                simp (disch := omega) only [↓zs_217_0, ↓zs_217_1, ↓zs_217_4, ↓zs_217_5, ↓zs_217_8, ↓zs_217_9, ↓zs_217_10, ↓zs_217_11, ↓zs_217_12, ↓zs_217_15, ↓zs_217_18, ↓zs_217_21, ↓zs_217_22, ↓zs_217_23, ↓zs_217_24, ↓zs_217_25, ↓zs_217_26, ↓zs_217_27, ↓zs_217_30, ↓zs_217_33, ↓zs_217_34, ↓zs_217_37, ↓zs_217_38, ↓zs_217_40, ↓zs_217_41, ↓zs_217_43, ↓zs_217_44, ↓zs_217_46, ↓zs_217_47, ↓zs_217_50, ↓zs_217_53, ↓zs_217_54, ↓zs_217_55, ↓zs_217_57, ↓zs_217_58, ↓zs_217_59, ↓zs_217_62, ↓zs_217_65, ↓zs_217_66, ↓zs_217_67, ↓zs_217_68, ↓zs_217_70, ↓zs_217_73, ↓zs_217_76, ↓zs_217_77, ↓zs_217_80, ↓zs_217_81, ↓zs_217_82, ↓zs_217_84, ↓zs_217_85, ↓zs_217_88, ↓zs_217_91, ↓zs_217_92, ↓zs_217_95, ↓zs_217_96, ↓zs_217_97, ↓zs_217_98, ↓zs_217_100, ↓zs_217_103, ↓zs_217_104, ↓zs_217_105, ↓zs_217_108, ↓zs_217_111, ↓zs_217_114, ↓zs_217_117, ↓zs_217_118, ↓zs_217_119, ↓zs_217_121, ↓zs_217_122, ↓zs_217_123, ↓zs_217_126, ↓zs_217_129, ↓zs_217_130, ↓zs_217_133, ↓zs_217_134, ↓zs_217_135, ↓zs_217_137, ↓zs_217_138, ↓zs_217_141, ↓zs_217_144, ↓zs_217_145, ↓zs_217_148, ↓zs_217_149, ↓zs_217_150, ↓zs_217_151, ↓zs_217_152, ↓zs_217_154, ↓zs_217_155, ↓zs_217_156, ↓zs_217_159, ↓zs_217_162, ↓zs_217_163, ↓zs_217_164, ↓zs_217_166, ↓zs_217_167, ↓zs_217_168, ↓zs_217_171, ↓zs_217_174, ↓zs_217_175, ↓zs_217_177, ↓zs_217_178, ↓zs_217_179, ↓zs_217_181, ↓zs_217_182, ↓zs_217_185, ↓zs_217_186, ↓zs_217_187, ↓zs_217_188, ↓zs_217_189, ↓zs_217_191, ↓zs_217_192, ↓zs_217_195, ↓zs_217_198, ↓zs_217_199, ↓zs_217_200, ↓zs_217_202, ↓zs_217_203, ↓zs_217_206, ↓zs_217_209, ↓zs_217_210, ↓zs_217_213, ↓zs_217_214, zx_pu_s, zx_pu_n, zx_rv_s, zx_rv_n, true_and, and_true, true_or, or_true, zb_0, zb_1, zq_lcl, zq_lcg, zq_lce, eq_self, ite_true, ite_false, zk_138, zw_138, zk_139, zw_139, zk_140, zw_140, zk_141, zw_141, zk_142, zw_142, zk_143, zw_143, zk_144, zw_144, zk_145, zw_145, zk_146, zw_146, zk_147, zw_147, zk_148, zw_148, zk_149, zw_149, zk_150, zw_150, zk_151, zw_151, zk_152, zw_152, zq_138_1, zq_138_2, zq_138_3, zq_138_4, zq_138_16, zq_138_19, zq_138_20, zq_138_24, zq_138_25, zq_138_26, zq_138_27, zq_138_31, zq_138_32, zq_138_33, nI_ltI, nI_l, zL_m1, sp_within, w1, zB_0, reduceCtorEq, lN_i, h1000, pk_sub, zq_100, not_false_eq_true, pk_div, pk_mul, zn_rem, er, hS, hK, decide_eq_true c1, decide_eq_false c2]
            · rw [if_neg (fun e => c1 e.1)]
              simp (disch := omega) only [↓zs_217_0, ↓zs_217_1, ↓zs_217_4, ↓zs_217_5, ↓zs_217_8, ↓zs_217_9, ↓zs_217_10, ↓zs_217_11, ↓zs_217_12, ↓zs_217_15, ↓zs_217_18, ↓zs_217_21, ↓zs_217_22, ↓zs_217_23, ↓zs_217_24, ↓zs_217_25, ↓zs_217_26, ↓zs_217_27, ↓zs_217_30, ↓zs_217_33, ↓zs_217_34, ↓zs_217_37, ↓zs_217_38, ↓zs_217_40, ↓zs_217_41, ↓zs_217_43, ↓zs_217_44, ↓zs_217_46, ↓zs_217_47, ↓zs_217_50, ↓zs_217_53, ↓zs_217_54, ↓zs_217_55, ↓zs_217_57, ↓zs_217_58, ↓zs_217_59, ↓zs_217_62, ↓zs_217_65, ↓zs_217_66, ↓zs_217_67, ↓zs_217_68, ↓zs_217_70, ↓zs_217_73, ↓zs_217_76, ↓zs_217_77, ↓zs_217_80, ↓zs_217_81, ↓zs_217_82, ↓zs_217_84, ↓zs_217_85, ↓zs_217_88, ↓zs_217_91, ↓zs_217_92, ↓zs_217_95, ↓zs_217_96, ↓zs_217_97, ↓zs_217_98, ↓zs_217_100, ↓zs_217_103, ↓zs_217_104, ↓zs_217_105, ↓zs_217_108, ↓zs_217_111, ↓zs_217_114, ↓zs_217_117, ↓zs_217_118, ↓zs_217_119, ↓zs_217_121, ↓zs_217_122, ↓zs_217_123, ↓zs_217_126, ↓zs_217_129, ↓zs_217_130, ↓zs_217_133, ↓zs_217_134, ↓zs_217_135, ↓zs_217_137, ↓zs_217_138, ↓zs_217_141, ↓zs_217_144, ↓zs_217_145, ↓zs_217_148, ↓zs_217_149, ↓zs_217_150, ↓zs_217_151, ↓zs_217_152, ↓zs_217_154, ↓zs_217_155, ↓zs_217_156, ↓zs_217_159, ↓zs_217_162, ↓zs_217_163, ↓zs_217_164, ↓zs_217_166, ↓zs_217_167, ↓zs_217_168, ↓zs_217_171, ↓zs_217_174, ↓zs_217_175, ↓zs_217_177, ↓zs_217_178, ↓zs_217_179, ↓zs_217_181, ↓zs_217_182, ↓zs_217_185, ↓zs_217_186, ↓zs_217_187, ↓zs_217_188, ↓zs_217_189, ↓zs_217_191, ↓zs_217_192, ↓zs_217_195, ↓zs_217_198, ↓zs_217_199, ↓zs_217_200, ↓zs_217_202, ↓zs_217_203, ↓zs_217_206, ↓zs_217_209, ↓zs_217_210, ↓zs_217_213, ↓zs_217_214, zx_pu_s, zx_pu_n, zx_rv_s, zx_rv_n, true_and, and_true, true_or, or_true, zb_0, zb_1, zq_lcl, zq_lcg, zq_lce, eq_self, ite_true, ite_false, zk_138, zw_138, zk_139, zw_139, zk_140, zw_140, zk_141, zw_141, zk_142, zw_142, zk_143, zw_143, zk_144, zw_144, zk_145, zw_145, zk_146, zw_146, zk_147, zw_147, zk_148, zw_148, zk_149, zw_149, zk_150, zw_150, zk_151, zw_151, zk_152, zw_152, zq_138_1, zq_138_2, zq_138_3, zq_138_4, zq_138_16, zq_138_19, zq_138_20, zq_138_24, zq_138_25, zq_138_26, zq_138_27, zq_138_31, zq_138_32, zq_138_33, nI_ltI, nI_l, zL_m1, sp_within, w1, zB_0, reduceCtorEq, lN_i, h1000, pk_sub, zq_100, not_false_eq_true, pk_div, pk_mul, zn_rem, er, hS, hK, decide_eq_false c1]
          rw [main, if_neg (by omega), if_neg (by omega), if_neg (by omega), if_neg h1000]
          by_cases h1800 : n < 1800
          · rw [if_pos h1800]
          · rw [if_neg h1800]
            unfold zf_wU
            rw [if_neg (by omega)]
  · have e : zf_why (I 139) u = 1 := by
      unfold zf_why
      rw [if_neg (of_eq_false c1), if_neg (of_eq_false c2), if_neg (of_eq_false c3)]
    have c5 : (lN 1999 < u) = True := eq_true (by
      have := of_eq_false c3
      rw [zL_lt _ (by omega)] at this
      rw [Int64.lt_iff_toInt_lt, lN_toInt (by omega)]
      omega)
    rw [e]
    simp (disch := omega) only [↓zs_217_0, ↓zs_217_1, ↓zs_217_4, ↓zs_217_5, ↓zs_217_8, ↓zs_217_9, ↓zs_217_10, ↓zs_217_11, ↓zs_217_12, ↓zs_217_15, ↓zs_217_18, ↓zs_217_21, ↓zs_217_22, ↓zs_217_23, zx_pu_s, zx_pu_n, zx_rv_s, zx_rv_n, true_and, and_true, true_or, or_true, zb_0, zb_1, zq_lcl, zq_lcg, zq_lce, eq_self, ite_true, ite_false, c1, sp_within, c2, c5, decide_true, decide_false, Bool.not_true, Bool.and_false, zB_0]
/-- what a deed that can be keeps to -/
theorem zf_do_V {B : Nat → Int32} {u : Int64} (v : zV B m) (hm : m < 2 ^ 30) (h0 : zf_why B u = 0) : zV (zf_do B u) (m + 1) ∧ zSm B (zf_do B u) := by
  have N8 : zn B ≤ 8 := v.1.1.2.2.2.2.2
  have wh : zw B * zh B ≤ 64 := Nat.mul_le_mul v.1.1.2.2.2.1 v.1.1.2.2.2.2.1
  have z133 := v.2.2.2.2.2.2.1
  have zm := v.2.2.2.2.2.2.2
  rcases zf_why_0 h0 with rfl | ⟨n, hn, rfl, hz, hk⟩
  · unfold zf_do
    rw [if_pos rfl]
    exact ⟨zf_night_V v hm, zf_night_sm v⟩
  · rw [(zf_do_n (B := B) (n := n) (by omega)).1]
    unfold zf_doN
    unfold zf_whyN at hz
    have foe : ∀ f x, f < 8 → zf_opt x 8 → zV (zu1 B (125 + f) x) (m + 1) ∧ zSm B (zu1 B (125 + f) x) := by
      intro f x hf hx
      have hs : zSm B (zu1 B (125 + f) x) := zSm_u (by omega)
      have e133 : zu1 B (125 + f) x 133 = B 133 := zu1_n (by omega)
      have ez : zt (zu1 B (125 + f) x) = zt B := by unfold zt; rw [e133]
      refine ⟨zV_of v hs (fun s hs => ?_) (fun k s hk hs => ?_) (by rw [e133, ez]; exact z133) (by rw [ez]; omega), hs⟩
      · rw [zu1_n (show 109 + s ≠ 125 + f by omega), zu1_n (show 117 + s ≠ 125 + f by omega)]
        obtain ⟨o1, o2, o3, o4⟩ := v.1.2 s hs
        refine ⟨o1, ?_, o3, o4⟩
        by_cases q : s = f
        · rw [q, zu1_s]; exact hx
        · rw [zu1_n (by omega)]; exact o2
      · rw [zu1_n (show 109 + s ≠ 125 + f by omega), zu1_n (show 45 + k ≠ 125 + f by omega)]
        exact fun hne => (v.2.2.1 k s hk hs hne).2
    have place : ∀ f x, f < zn B → zf_opt x (zw B * zh B) → (∀ k, k < 64 → ¬ B (45 + k) = nI 0 → ¬ x = nI k) → zV (zu1 B (109 + f) x) (m + 1) ∧ zSm B (zu1 B (109 + f) x) := by
      intro f x hf hx hg
      have hs : zSm B (zu1 B (109 + f) x) := zSm_u (by omega)
      have e133 : zu1 B (109 + f) x 133 = B 133 := zu1_n (by omega)
      have ez : zt (zu1 B (109 + f) x) = zt B := by unfold zt; rw [e133]
      refine ⟨zV_of v hs (fun s hs => ?_) (fun k s hk hs => ?_) (by rw [e133, ez]; exact z133) (by rw [ez]; omega), hs⟩
      · rw [zu1_n (show 125 + s ≠ 109 + f by omega), zu1_n (show 117 + s ≠ 109 + f by omega)]
        obtain ⟨o1, o2, o3, o4⟩ := v.1.2 s hs
        by_cases q : s = f
        · subst q
          rw [zu1_s]; exact ⟨hx, o2, o3, fun e => by omega⟩
        · rw [zu1_n (by omega)]; exact ⟨o1, o2, o3, o4⟩
      · rw [zu1_n (show 45 + k ≠ 109 + f by omega)]
        intro hne
        by_cases q : s = f
        · rw [q, zu1_s]; exact hg k hk hne
        · rw [zu1_n (by omega)]; exact (v.2.2.1 k s hk hs hne).2
    rcases hk with h80 | ⟨h1, h108⟩ | ⟨h1, h208⟩ | h1
    · rw [if_pos h80]
      rw [if_pos h80] at hz
      unfold zf_wL at hz
      by_cases c : n / 10 < zn B ∧ n % 10 < zn B ∧ n / 10 ≠ n % 10
      · exact foe _ _ (by omega) (.inr ⟨n % 10, by omega, rfl⟩)
      · rw [if_neg c] at hz; omega
    · rw [if_neg (by omega), if_pos (by omega)]
      exact foe _ _ (by omega) (.inl rfl)
    · rw [if_neg (by omega), if_neg (by omega), if_pos (by omega)]
      rw [if_neg (by omega), if_neg (by omega), if_neg (by omega), if_neg (by omega), if_pos (by omega)] at hz
      unfold zf_w1 at hz
      by_cases c : n - 200 < zn B
      · exact place _ _ c (.inl rfl) (fun k hk _ e => by have := zq_m1 (a := k) (by omega); rw [← e] at this; exact this.mp rfl)
      · rw [if_neg c] at hz; omega
    · rw [if_neg (by omega), if_neg (by omega), if_neg (by omega)]
      rw [if_neg (by omega), if_neg (by omega), if_neg (by omega), if_neg (by omega), if_neg (by omega), if_neg (by omega), if_pos hn] at hz
      unfold zf_wU at hz
      by_cases c : (n - 1000) / 100 < zn B ∧ (n - 1000) % 100 < zw B * zh B
      · rw [if_pos c] at hz
        refine place _ _ c.1 (.inr ⟨_, c.2, rfl⟩) (fun k hk hne e => ?_)
        have ek : (n - 1000) % 100 = k := (nI_eq (by omega) (by omega)).mp e
        by_cases c3 : zf_stds B ((n - 1000) / 100) = true
        · rw [if_pos c3] at hz; omega
        · rw [if_neg c3] at hz
          have tk : zf_taken B (zn B) ((n - 1000) % 100) = true := by
            unfold zf_taken
            rw [ek, decide_eq_false hne]
            rfl
          rw [if_pos tk] at hz
          omega
      · rw [if_neg c] at hz; omega
theorem sp_does (u : Int64) (v : zV (I 139) m) (hm : m < 2 ^ 30) (h0 : zf_why (I 139) u = 0) : ∃ I2, zFm I I2 ∧ I2 139 = zf_do (I 139) u ∧ ∀ d P, zx_rn (d + 8) 218 [.ref 138, .int u.toInt32] (zx_LL Lh) I J P = P (some (.int (nI (zf_doC (I 139) u)))) (zx_LL Lh) I2 J := by
  have N8 : zn (I 139) ≤ 8 := v.1.1.2.2.2.2.2
  rcases zf_why_0 h0 with rfl | ⟨n, hn, rfl, hz, hk⟩
  · obtain ⟨I2, f2, e2, -, -, h2⟩ := sp_night (Lh := Lh) (J := J) v hm
    unfold zf_do zf_doC
    rw [if_pos rfl, if_pos rfl]
    refine ⟨I2, f2, e2, fun d P => ?_⟩
    rw [ze_218, show (-1 : Int64).toInt32 = -1 by decide +kernel]
    simp only [↓zs_218_0, ↓zs_218_1, ↓zs_218_2, ↓zs_218_5, ↓zs_218_6, ↓zs_218_9, zx_pu_s, zx_pu_n, zx_rv_s, zx_rv_n, true_and, and_true, true_or, or_true, zb_0, zb_1, zq_lcl, zq_lcg, zq_lce, eq_self, ite_true, ite_false, zk_138, zw_138, zk_139, zw_139, zk_140, zw_140, zk_141, zw_141, zk_142, zw_142, zk_143, zw_143, zk_144, zw_144, zk_145, zw_145, zk_146, zw_146, zk_147, zw_147, zk_148, zw_148, zk_149, zw_149, zk_150, zw_150, zk_151, zw_151, zk_152, zw_152, zq_138_1, zq_138_2, zq_138_3, zq_138_4, zq_138_16, zq_138_19, zq_138_20, zq_138_24, zq_138_25, zq_138_26, zq_138_27, zq_138_31, zq_138_32, zq_138_33, h2]
  · obtain ⟨e1, e2⟩ := zf_do_n (B := I 139) (n := n) (by omega)
    rw [e1, e2, lN_i]
    unfold zf_doN
    unfold zf_whyN at hz
    have foe : ∀ (f : Nat) (x : Int32), zFm I (zx_u I 139 (125 + f) x) ∧ zx_u I 139 (125 + f) x 139 = zu1 (I 139) (125 + f) x := fun f x => ⟨zFm_u _ _ _, by rw [zu_r, zr_s]⟩
    have place : ∀ (f : Nat) (x : Int32), zFm I (zx_u I 139 (109 + f) x) ∧ zx_u I 139 (109 + f) x 139 = zu1 (I 139) (109 + f) x := fun f x => ⟨zFm_u _ _ _, by rw [zu_r, zr_s]⟩
    rcases hk with h80 | ⟨h1, h108⟩ | ⟨h1, h208⟩ | h1
    · have a1 : n < 1000 := by omega
      have a2 : n < 200 := by omega
      have a3 : n < 100 := by omega
      rw [if_pos h80]
      refine ⟨_, (foe (n / 10) (nI (n % 10))).1, (foe (n / 10) (nI (n % 10))).2, fun d P => ?_⟩
      rw [ze_218]
      simp (disch := omega) only [↓zs_218_0, ↓zs_218_1, ↓zs_218_2, ↓zs_218_5, ↓zs_218_6, ↓zs_218_9, ↓zs_218_10, ↓zs_218_11, ↓zs_218_14, ↓zs_218_17, ↓zs_218_18, ↓zs_218_21, ↓zs_218_23, ↓zs_218_24, ↓zs_218_27, ↓zs_218_28, ↓zs_218_30, ↓zs_218_31, ↓zs_218_32, ↓zs_218_33, ↓zs_218_35, ↓zs_218_36, ↓zs_218_37, ↓zs_218_40, ↓zs_218_41, ↓zs_218_44, ↓zs_218_47, ↓zs_218_48, ↓zs_218_51, ↓zs_218_53, ↓zs_218_54, ↓zs_218_55, ↓zs_218_58, ↓zs_218_59, ↓zs_218_60, ↓zs_218_61, ↓zs_218_64, ↓zs_218_65, ↓zs_218_67, ↓zs_218_70, ↓zs_218_71, ↓zs_218_74, ↓zs_218_76, ↓zs_218_77, ↓zs_218_78, ↓zs_218_80, ↓zs_218_81, ↓zs_218_82, ↓zs_218_83, ↓zs_218_86, ↓zs_218_87, ↓zs_218_90, ↓zs_218_92, ↓zs_218_93, ↓zs_218_95, ↓zs_218_96, ↓zs_218_97, ↓zs_218_98, ↓zs_218_100, ↓zs_218_101, ↓zs_218_102, ↓zs_218_103, zx_pu_s, zx_pu_n, zx_rv_s, zx_rv_n, true_and, and_true, true_or, or_true, zb_0, zb_1, zq_lcl, zq_lcg, zq_lce, eq_self, ite_true, ite_false, zk_138, zw_138, zk_139, zw_139, zk_140, zw_140, zk_141, zw_141, zk_142, zw_142, zk_143, zw_143, zk_144, zw_144, zk_145, zw_145, zk_146, zw_146, zk_147, zw_147, zk_148, zw_148, zk_149, zw_149, zk_150, zw_150, zk_151, zw_151, zk_152, zw_152, zq_138_1, zq_138_2, zq_138_3, zq_138_4, zq_138_16, zq_138_19, zq_138_20, zq_138_24, zq_138_25, zq_138_26, zq_138_27, zq_138_31, zq_138_32, zq_138_33, zin_nI, nI_clamp, nI_ltI, nI_add, zq_m1, a1, a2, a3, zq_10, not_false_eq_true, pk_div, pk_mul, zq_rem]
    · have a1 : n < 1000 := by omega
      have a2 : n < 200 := by omega
      have a3 : ¬ n < 100 := by omega
      have a4 : 125 + n - 100 = 125 + (n - 100) := by omega
      rw [if_neg (by omega), if_pos a2]
      refine ⟨_, (foe (n - 100) (-1)).1, (foe (n - 100) (-1)).2, fun d P => ?_⟩
      rw [ze_218]
      simp (disch := omega) only [↓zs_218_0, ↓zs_218_1, ↓zs_218_2, ↓zs_218_5, ↓zs_218_6, ↓zs_218_9, ↓zs_218_10, ↓zs_218_11, ↓zs_218_14, ↓zs_218_17, ↓zs_218_18, ↓zs_218_21, ↓zs_218_23, ↓zs_218_24, ↓zs_218_27, ↓zs_218_28, ↓zs_218_30, ↓zs_218_31, ↓zs_218_32, ↓zs_218_33, ↓zs_218_35, ↓zs_218_36, ↓zs_218_37, ↓zs_218_40, ↓zs_218_41, ↓zs_218_44, ↓zs_218_47, ↓zs_218_48, ↓zs_218_51, ↓zs_218_53, ↓zs_218_54, ↓zs_218_55, ↓zs_218_58, ↓zs_218_59, ↓zs_218_60, ↓zs_218_61, ↓zs_218_64, ↓zs_218_65, ↓zs_218_67, ↓zs_218_70, ↓zs_218_71, ↓zs_218_74, ↓zs_218_76, ↓zs_218_77, ↓zs_218_78, ↓zs_218_80, ↓zs_218_81, ↓zs_218_82, ↓zs_218_83, ↓zs_218_86, ↓zs_218_87, ↓zs_218_90, ↓zs_218_92, ↓zs_218_93, ↓zs_218_95, ↓zs_218_96, ↓zs_218_97, ↓zs_218_98, ↓zs_218_100, ↓zs_218_101, ↓zs_218_102, ↓zs_218_103, zx_pu_s, zx_pu_n, zx_rv_s, zx_rv_n, true_and, and_true, true_or, or_true, zb_0, zb_1, zq_lcl, zq_lcg, zq_lce, eq_self, ite_true, ite_false, zk_138, zw_138, zk_139, zw_139, zk_140, zw_140, zk_141, zw_141, zk_142, zw_142, zk_143, zw_143, zk_144, zw_144, zk_145, zw_145, zk_146, zw_146, zk_147, zw_147, zk_148, zw_148, zk_149, zw_149, zk_150, zw_150, zk_151, zw_151, zk_152, zw_152, zq_138_1, zq_138_2, zq_138_3, zq_138_4, zq_138_16, zq_138_19, zq_138_20, zq_138_24, zq_138_25, zq_138_26, zq_138_27, zq_138_31, zq_138_32, zq_138_33, zin_nI, nI_clamp, nI_ltI, nI_add, zq_m1, a1, a2, a3, pk_sub, a4]
    · have a1 : n < 1000 := by omega
      have a2 : ¬ n < 200 := by omega
      have a4 : 109 + n - 200 = 109 + (n - 200) := by omega
      rw [if_neg (by omega), if_neg a2, if_pos a1]
      refine ⟨_, (place (n - 200) (-1)).1, (place (n - 200) (-1)).2, fun d P => ?_⟩
      rw [ze_218]
      simp (disch := omega) only [↓zs_218_0, ↓zs_218_1, ↓zs_218_2, ↓zs_218_5, ↓zs_218_6, ↓zs_218_9, ↓zs_218_10, ↓zs_218_11, ↓zs_218_14, ↓zs_218_17, ↓zs_218_18, ↓zs_218_21, ↓zs_218_23, ↓zs_218_24, ↓zs_218_27, ↓zs_218_28, ↓zs_218_30, ↓zs_218_31, ↓zs_218_32, ↓zs_218_33, ↓zs_218_35, ↓zs_218_36, ↓zs_218_37, ↓zs_218_40, ↓zs_218_41, ↓zs_218_44, ↓zs_218_47, ↓zs_218_48, ↓zs_218_51, ↓zs_218_53, ↓zs_218_54, ↓zs_218_55, ↓zs_218_58, ↓zs_218_59, ↓zs_218_60, ↓zs_218_61, ↓zs_218_64, ↓zs_218_65, ↓zs_218_67, ↓zs_218_70, ↓zs_218_71, ↓zs_218_74, ↓zs_218_76, ↓zs_218_77, ↓zs_218_78, ↓zs_218_80, ↓zs_218_81, ↓zs_218_82, ↓zs_218_83, ↓zs_218_86, ↓zs_218_87, ↓zs_218_90, ↓zs_218_92, ↓zs_218_93, ↓zs_218_95, ↓zs_218_96, ↓zs_218_97, ↓zs_218_98, ↓zs_218_100, ↓zs_218_101, ↓zs_218_102, ↓zs_218_103, zx_pu_s, zx_pu_n, zx_rv_s, zx_rv_n, true_and, and_true, true_or, or_true, zb_0, zb_1, zq_lcl, zq_lcg, zq_lce, eq_self, ite_true, ite_false, zk_138, zw_138, zk_139, zw_139, zk_140, zw_140, zk_141, zw_141, zk_142, zw_142, zk_143, zw_143, zk_144, zw_144, zk_145, zw_145, zk_146, zw_146, zk_147, zw_147, zk_148, zw_148, zk_149, zw_149, zk_150, zw_150, zk_151, zw_151, zk_152, zw_152, zq_138_1, zq_138_2, zq_138_3, zq_138_4, zq_138_16, zq_138_19, zq_138_20, zq_138_24, zq_138_25, zq_138_26, zq_138_27, zq_138_31, zq_138_32, zq_138_33, zin_nI, nI_clamp, nI_ltI, nI_add, zq_m1, a1, a2, pk_sub, a4]
    · have a1 : ¬ n < 1000 := by omega
      have er : n % 100 = (n - 1000) % 100 := zn_r1 (by omega)
      rw [if_neg (by omega), if_neg (by omega), if_neg a1]
      refine ⟨_, (place ((n - 1000) / 100) (nI ((n - 1000) % 100))).1, (place ((n - 1000) / 100) (nI ((n - 1000) % 100))).2, fun d P => ?_⟩
      rw [ze_218]
      simp (disch := omega) only [↓zs_218_0, ↓zs_218_1, ↓zs_218_2, ↓zs_218_5, ↓zs_218_6, ↓zs_218_9, ↓zs_218_10, ↓zs_218_11, ↓zs_218_14, ↓zs_218_17, ↓zs_218_18, ↓zs_218_21, ↓zs_218_23, ↓zs_218_24, ↓zs_218_27, ↓zs_218_28, ↓zs_218_30, ↓zs_218_31, ↓zs_218_32, ↓zs_218_33, ↓zs_218_35, ↓zs_218_36, ↓zs_218_37, ↓zs_218_40, ↓zs_218_41, ↓zs_218_44, ↓zs_218_47, ↓zs_218_48, ↓zs_218_51, ↓zs_218_53, ↓zs_218_54, ↓zs_218_55, ↓zs_218_58, ↓zs_218_59, ↓zs_218_60, ↓zs_218_61, ↓zs_218_64, ↓zs_218_65, ↓zs_218_67, ↓zs_218_70, ↓zs_218_71, ↓zs_218_74, ↓zs_218_76, ↓zs_218_77, ↓zs_218_78, ↓zs_218_80, ↓zs_218_81, ↓zs_218_82, ↓zs_218_83, ↓zs_218_86, ↓zs_218_87, ↓zs_218_90, ↓zs_218_92, ↓zs_218_93, ↓zs_218_95, ↓zs_218_96, ↓zs_218_97, ↓zs_218_98, ↓zs_218_100, ↓zs_218_101, ↓zs_218_102, ↓zs_218_103, zx_pu_s, zx_pu_n, zx_rv_s, zx_rv_n, true_and, and_true, true_or, or_true, zb_0, zb_1, zq_lcl, zq_lcg, zq_lce, eq_self, ite_true, ite_false, zk_138, zw_138, zk_139, zw_139, zk_140, zw_140, zk_141, zw_141, zk_142, zw_142, zk_143, zw_143, zk_144, zw_144, zk_145, zw_145, zk_146, zw_146, zk_147, zw_147, zk_148, zw_148, zk_149, zw_149, zk_150, zw_150, zk_151, zw_151, zk_152, zw_152, zq_138_1, zq_138_2, zq_138_3, zq_138_4, zq_138_16, zq_138_19, zq_138_20, zq_138_24, zq_138_25, zq_138_26, zq_138_27, zq_138_31, zq_138_32, zq_138_33, zin_nI, nI_clamp, nI_ltI, nI_add, zq_m1, a1, pk_sub, zq_100, not_false_eq_true, pk_div, pk_mul, zn_rem, er]
end WM
