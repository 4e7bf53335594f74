/-! lines: statues, whole -/
section E1
variable {Lh n : Nat} {b : Nat → Nat} {I Im : zx_MI} {J Jm : zx_MJ} {T : zTk} {F : Nat → Int32}
theorem zTk_kw {T : zTk} (z : zl_tk2 n T) : (zf_tkc T.2.2.1 = nI 208 ↔ T.2.2.1 = 2) ∧ (zf_tkc T.2.2.1 = nI 209 ↔ T.2.2.1 = 3) ∧ (zf_tkc T.2.2.1 = nI 210 ↔ T.2.2.1 = 7) ∧ (zf_tkc T.2.2.1 = nI 211 ↔ T.2.2.1 = 8) ∧ (zf_tkc T.2.2.1 = nI 212 ↔ T.2.2.1 = 11) := (zf_tkc_kw ⟨_, z.1.2.1⟩ z.1.2.2.1).1
theorem zBad_k {f s : Nat} (bd : zBad Im f s) : (nI f = nI 0) = False := zq_ne (by have := bd.1; omega) (by have := bd.2.1; omega) (by omega)
theorem zStatue (hk : T.2.2.1 ≠ 29) (hc : zPc I J b n T F) (hm : zPm Im b n T F) (pf : zPf F) (w0 : 0 < zw F) : zLn Lh b n T I J Im Jm 35 [.ref 83] 175 [.ref 138] 9 := by
  have v := pf.1
  obtain ⟨⟨vw, vh, vN, w8, h8, N8⟩, vs⟩ := v.1
  have wh : zw F * zh F ≤ 64 := Nat.mul_le_mul w8 h8
  have e6 : I 88 6 = nI (zw F) := hc.2.2.2.1.1.trans vw
  have e8 : I 88 8 = nI (zn F) := hc.2.2.2.1.2.2.1.trans vN
  have ew : (nI (zw F) = nI 0) = False := zq_ne (by omega) (by omega) (by omega)
  have n1 : (nI 1 = nI 0) = False := eq_false (by decide)
  have m3 : Im 142 3 = nI (zn F) := by rw [hm.2]; exact vN
  have b11 := hm.1.2.2.2.2
  have lN : (nI (zn F) < nI 0) = False := eq_false (by rw [nI_ltI (by omega) (by omega)]; omega)
  have hn1 := fun {I : zx_MI} {f s : Nat} (z : zBad I f s) d x P => sp_eats1 (Lh := Lh) (J := Jm) (d := d) (x := x) (P := P) z
  have hf1 := fun {I : zx_MI} {f s : Nat} (z : zBad I f s) d x P => sp_fails1 (Lh := Lh) (J := Jm) (d := d) (x := x) (P := P) z
  have hm1 := fun {I : zx_MI} {f s : Nat} (z : zBad I f s) d lo hi P => sp_num1 (Lh := Lh) (J := Jm) (lo := lo) (hi := hi) z d P
  have hcp := hc.1
  by_cases N88 : zn F = 8
  · left
    have hf := fun d P => sc_flt (Lh := Lh) (J := J) (d := d) (f := 4) (P := P) hcp.2.2.1.2.1
    have hfm := fun d P => sp_fails (Lh := Lh) (J := Jm) (d := d) (f := 4) (P := P) hm.1
    rw [show zMf 4 T.2.2.1 = 4 from if_neg hk] at hfm
    obtain ⟨z1, z2⟩ := zFk1_9 I 4 T.1
    have bd : zBad (zMb Im 4 T.1) 4 T.1 := zMb_b (by decide) (by decide)
    have bd11 := bd.2.2.1
    have n4 : (nI 4 = nI 0) = False := eq_false (by decide)
    have l8 : (nI 8 < nI 8) = False := eq_false (by decide)
    rw [N88] at e8 m3 lN
    refine ⟨4, T.1, _, J, _, by decide, by decide, zFk1_C z1, zFkJ_r J, z2, fun d P hd => ?_, zFk2_M (zFk2_b _ _ _), .inl bd, fun d P hd => ?_⟩
    · obtain ⟨e, rfl⟩ : ∃ e, d = e + 9 := ⟨d - 9, by omega⟩
      rw [ze_35]
      simp (disch := omega) only [↓zs_35_0, ↓zs_35_1, ↓zs_35_4, ↓zs_35_7, ↓zs_35_10, ↓zs_35_11, ↓zs_35_14, ↓zs_35_17, ↓zs_35_18, ↓zs_35_19, ↓zs_35_22, ↓zs_35_25, ↓zs_35_26, ↓zs_35_27, ↓zs_35_30, ↓zs_35_31, ↓zs_35_33, ↓zs_35_36, ↓zs_35_37, ↓zs_35_40, ↓zs_35_41, ↓zs_35_44, zx_pu_s, zx_pu_n, zx_rv_s, zx_rv_n, true_and, and_true, true_or, or_true, zb_0, zb_1, zq_lcl, zq_lcg, zq_lce, eq_self, ite_true, ite_false, zk_83, zw_83, zq_83_0, zq_83_1, zq_83_2, zq_83_3, zk_88, zw_88, zq_88_0, zq_88_1, zq_88_2, zq_88_3, zq_88_4, zq_88_5, zk_84, zw_84, zq_84_0, e6, e8, ew, lN, l8, hf]
    · obtain ⟨e, rfl⟩ : ∃ e, d = e + 9 := ⟨d - 9, by omega⟩
      rw [ze_175]
      simp (disch := omega) only [↓zs_175_0, ↓zs_175_1, ↓zs_175_4, ↓zs_175_5, ↓zs_175_6, ↓zs_175_7, ↓zs_175_8, ↓zs_175_10, ↓zs_175_13, ↓zs_175_14, ↓zs_175_15, ↓zs_175_18, ↓zs_175_19, ↓zs_175_22, ↓zs_175_25, zx_pu_s, zx_pu_n, zx_rv_s, zx_rv_n, true_and, and_true, true_or, or_true, zb_0, zb_1, zq_lcl, zq_lcg, zq_lce, eq_self, ite_true, ite_false, zk_138, zw_138, zk_139, zw_139, zk_140, zw_140, zk_141, zw_141, zk_142, zw_142, zk_143, zw_143, zk_144, zw_144, zk_145, zw_145, zk_146, zw_146, zk_147, zw_147, zk_148, zw_148, zk_149, zw_149, zk_150, zw_150, zk_151, zw_151, zk_152, zw_152, zq_138_1, zq_138_2, zq_138_3, zq_138_4, zq_138_16, zq_138_19, zq_138_20, zq_138_24, zq_138_25, zq_138_26, zq_138_27, zq_138_31, zq_138_32, zq_138_33, zin_nI, nI_clamp, m3, hfm, bd11, n4]
  have Nlt : zn F < 8 := by omega
  have l8 : (nI (zn F) < nI 8) = True := eq_true (by rw [nI_ltI (by omega) (by omega)]; omega)
  have N8f : (nI (zn F) = nI 8) = False := zq_ne N88 (by omega) (by omega)
  obtain ⟨I1, f1, c1, hA⟩ := zPc_adv (Lh := Lh) hc
  obtain ⟨Im1, g1, m1, hB⟩ := zPm_nxt (Lh := Lh) (Jm := Jm) hm
  have tle1 := (zl_tk2_nx b hc.1.2.2.2.1.1).2
  generalize hT1 : zf_nx b n T.2.1 = T1 at *
  have tk1 := c1.1.2.2.2
  -- both up to the place
  have cl1 : ∀ e P, zx_rn (e + 9) 35 [.ref 83] (zx_LL Lh) I J P = zx_wp (e + 9) 35 52 [.ref 83, .int (nI (zn F))] [] (zx_LL Lh) I1 J P := fun e P => by
    have a1 := fun P => hA (e + 8) P (by omega)
    rw [ze_35]
    simp (disch := omega) only [↓zs_35_0, ↓zs_35_1, ↓zs_35_4, ↓zs_35_7, ↓zs_35_10, ↓zs_35_11, ↓zs_35_14, ↓zs_35_17, ↓zs_35_18, ↓zs_35_19, ↓zs_35_22, ↓zs_35_25, ↓zs_35_26, ↓zs_35_27, ↓zs_35_30, ↓zs_35_31, ↓zs_35_33, ↓zs_35_36, ↓zs_35_37, ↓zs_35_40, ↓zs_35_41, ↓zs_35_44, ↓zs_35_45, ↓zs_35_46, ↓zs_35_49, zx_pu_s, zx_pu_n, zx_rv_s, zx_rv_n, true_and, and_true, true_or, or_true, zb_0, zb_1, zq_lcl, zq_lcg, zq_lce, eq_self, ite_true, ite_false, zk_83, zw_83, zq_83_0, zq_83_1, zq_83_2, zq_83_3, zk_88, zw_88, zq_88_0, zq_88_1, zq_88_2, zq_88_3, zq_88_4, zq_88_5, zk_84, zw_84, zq_84_0, e6, e8, ew, lN, l8, a1]
  have ml1 : ∀ e P, zx_rn (e + 9) 175 [.ref 138] (zx_LL Lh) Im Jm P = zx_wp (e + 9) 175 30 [.ref 138, .int (nI (zn F)), zx_u0, zx_u0, zx_u0] [] (zx_LL Lh) Im1 Jm P := fun e P => by
    have a1 := fun P => hB (e + 8) P (by omega)
    rw [ze_175]
    simp (disch := omega) only [↓zs_175_0, ↓zs_175_1, ↓zs_175_4, ↓zs_175_5, ↓zs_175_6, ↓zs_175_7, ↓zs_175_8, ↓zs_175_10, ↓zs_175_13, ↓zs_175_14, ↓zs_175_15, ↓zs_175_18, ↓zs_175_19, ↓zs_175_22, ↓zs_175_25, ↓zs_175_26, ↓zs_175_27, zx_pu_s, zx_pu_n, zx_rv_s, zx_rv_n, true_and, and_true, true_or, or_true, zb_0, zb_1, zq_lcl, zq_lcg, zq_lce, eq_self, ite_true, ite_false, zk_138, zw_138, zk_139, zw_139, zk_140, zw_140, zk_141, zw_141, zk_142, zw_142, zk_143, zw_143, zk_144, zw_144, zk_145, zw_145, zk_146, zw_146, zk_147, zw_147, zk_148, zw_148, zk_149, zw_149, zk_150, zw_150, zk_151, zw_151, zk_152, zw_152, zq_138_1, zq_138_2, zq_138_3, zq_138_4, zq_138_16, zq_138_19, zq_138_20, zq_138_24, zq_138_25, zq_138_26, zq_138_27, zq_138_31, zq_138_32, zq_138_33, zin_nI, nI_clamp, m3, N8f, b11, a1]
  rcases zSpot (Lh := Lh) (Jm := Jm) c1 m1 pf w0 with ⟨f, s, I2, Im2, x, b1, f2, fl, hA2, g2, bd, hB2⟩ | ⟨k, T2, I2, Im2, kw, kf, tle2, f2, s6, s7, s5, p2, hA2, g2, md2, hB2⟩
  · left
    have bd11 := bd.2.2.1
    have cf := zBad_k bd
    have k1 := hn1 bd
    have k2 := hf1 bd
    have k3 := hm1 bd
    refine ⟨f, s, I2, J, Im2, b1, bd.2.1, zFk1_C (zFk1_t f1 f2), zFkJ_r J, fl, fun d P hd => ?_, zFk2_M (zFk2_t g1 g2), .inl bd, fun d P hd => ?_⟩
    · obtain ⟨e, rfl⟩ : ∃ e, d = e + 9 := ⟨d - 9, by omega⟩
      have a2 := fun P => hA2 (e + 8) P (by omega)
      rw [cl1]
      simp (disch := omega) only [↓zs_35_52, ↓zs_35_53, ↓zs_35_56, ↓zs_35_59, ↓zs_35_60, ↓zs_35_63, ↓zs_35_66, ↓zs_35_69, ↓zs_35_72, ↓zs_35_73, ↓zs_35_74, ↓zs_35_76, ↓zs_35_79, ↓zs_35_82, ↓zs_35_83, zx_pu_s, zx_pu_n, zx_rv_s, zx_rv_n, true_and, and_true, true_or, or_true, zb_0, zb_1, zq_lcl, zq_lcg, zq_lce, eq_self, ite_true, ite_false, zk_83, zw_83, zq_83_0, zq_83_1, zq_83_2, zq_83_3, zk_88, zw_88, zq_88_0, zq_88_1, zq_88_2, zq_88_3, zq_88_4, zq_88_5, zk_84, zw_84, zq_84_0, a2]
    · obtain ⟨e, rfl⟩ : ∃ e, d = e + 9 := ⟨d - 9, by omega⟩
      have a2 := fun P => hB2 (e + 8) P (by omega)
      have a3 := fun lo hi P => k3 (e + 2) lo hi P
      rw [ml1]
      simp (disch := omega) only [↓zs_175_30, ↓zs_175_31, ↓zs_175_34, ↓zs_175_35, ↓zs_175_36, ↓zs_175_37, ↓zs_175_40, ↓zs_175_43, ↓zs_175_44, ↓zs_175_45, ↓zs_175_48, ↓zs_175_49, ↓zs_175_50, ↓zs_175_52, ↓zs_175_55, ↓zs_175_56, ↓zs_175_57, ↓zs_175_58, ↓zs_175_61, ↓zs_175_64, ↓zs_175_65, ↓zs_175_66, ↓zs_175_67, ↓zs_175_68, ↓zs_175_69, ↓zs_175_72, ↓zs_175_75, ↓zs_175_76, ↓zs_175_78, ↓zs_175_79, ↓zs_175_82, ↓zs_175_85, zx_pu_s, zx_pu_n, zx_rv_s, zx_rv_n, true_and, and_true, true_or, or_true, zb_0, zb_1, zq_lcl, zq_lcg, zq_lce, eq_self, ite_true, ite_false, zk_138, zw_138, zk_139, zw_139, zk_140, zw_140, zk_141, zw_141, zk_142, zw_142, zk_143, zw_143, zk_144, zw_144, zk_145, zw_145, zk_146, zw_146, zk_147, zw_147, zk_148, zw_148, zk_149, zw_149, zk_150, zw_150, zk_151, zw_151, zk_152, zw_152, zq_138_1, zq_138_2, zq_138_3, zq_138_4, zq_138_16, zq_138_19, zq_138_20, zq_138_24, zq_138_25, zq_138_26, zq_138_27, zq_138_31, zq_138_32, zq_138_33, a2, k1, k2, a3, bd11, cf]
  have c2 := zPc_k c1 f2 s6 s7 p2
  have m2 := zPm_k m1 g2 md2
  have tk2 := p2.2.2.2
  obtain ⟨kw208, -⟩ := zTk_kw tk2
  have cl2 : ∀ e P, zx_rn (e + 9) 35 [.ref 83] (zx_LL Lh) I J P = zx_wp (e + 9) 35 59 [.ref 83, .int (nI (zn F))] [] (zx_LL Lh) I2 J P := fun e P => by
    have a2 := fun P => hA2 (e + 8) P (by omega)
    rw [cl1]
    simp (disch := omega) only [↓zs_35_52, ↓zs_35_53, ↓zs_35_56, zx_pu_s, zx_pu_n, zx_rv_s, zx_rv_n, true_and, and_true, true_or, or_true, zb_0, zb_1, zq_lcl, zq_lcg, zq_lce, eq_self, ite_true, ite_false, zk_83, zw_83, zq_83_0, zq_83_1, zq_83_2, zq_83_3, zk_88, zw_88, zq_88_0, zq_88_1, zq_88_2, zq_88_3, zq_88_4, zq_88_5, zk_84, zw_84, zq_84_0, a2, n1]
  have ml2 : ∀ e P, zx_rn (e + 9) 175 [.ref 138] (zx_LL Lh) Im Jm P = zx_wp (e + 9) 175 35 [.ref 138, .int (nI (zn F)), .int (nI k), zx_u0, zx_u0] [] (zx_LL Lh) Im2 Jm P := fun e P => by
    have a2 := fun P => hB2 (e + 8) P (by omega)
    rw [ml1]
    simp (disch := omega) only [↓zs_175_30, ↓zs_175_31, ↓zs_175_34, zx_pu_s, zx_pu_n, zx_rv_s, zx_rv_n, true_and, and_true, true_or, or_true, zb_0, zb_1, zq_lcl, zq_lcg, zq_lce, eq_self, ite_true, ite_false, zk_138, zw_138, zk_139, zw_139, zk_140, zw_140, zk_141, zw_141, zk_142, zw_142, zk_143, zw_143, zk_144, zw_144, zk_145, zw_145, zk_146, zw_146, zk_147, zw_147, zk_148, zw_148, zk_149, zw_149, zk_150, zw_150, zk_151, zw_151, zk_152, zw_152, zq_138_1, zq_138_2, zq_138_3, zq_138_4, zq_138_16, zq_138_19, zq_138_20, zq_138_24, zq_138_25, zq_138_26, zq_138_27, zq_138_31, zq_138_32, zq_138_33, a2]
  have f12 := zFk1_t f1 f2
  have g12 := zFk2_t g1 g2
  by_cases q2 : T2.2.2.1 = 2
  case neg =>
    left
    have hcN := sc_expN (Lh := Lh) (J := J) p2 (fun h => q2 (kw208.mp h))
    have hn := fun d P => sp_eatsN (Lh := Lh) (J := Jm) (d := d) (P := P) md2 (q := 2) (by decide) q2
    have hf := fun d P => sp_fails (Lh := Lh) (J := Jm) (d := d) (f := 2) (P := P) md2
    rw [show zMf 2 T2.2.2.1 = zl_mp T2.2.2.1 from rfl] at hf
    obtain ⟨mb1, mb2⟩ := zl_mp_b T2.2.2.1
    have bd : zBad (zMb Im2 (zl_mp T2.2.2.1) T2.1) (zl_mp T2.2.2.1) T2.1 := zMb_b mb1 mb2
    have bd11 := bd.2.2.1
    have cf := zBad_k bd
    have k1 := hn1 bd
    have k3 := hm1 bd
    obtain ⟨z1, z2⟩ := zFk1_9 I2 (zl_mp T2.2.2.1) T2.1
    refine ⟨_, _, _, J, _, mb1, mb2, zFk1_C (zFk1_t f12 z1), zFkJ_r J, z2, fun d P hd => ?_, zFk2_M (zFk2_t g12 (zFk2_b _ _ _)), .inl bd, fun d P hd => ?_⟩
    · obtain ⟨e, rfl⟩ : ∃ e, d = e + 9 := ⟨d - 9, by omega⟩
      have a3 := fun P => hcN (e + 8) P (by omega)
      rw [cl2]
      simp (disch := omega) only [↓zs_35_59, ↓zs_35_60, ↓zs_35_63, ↓zs_35_66, ↓zs_35_69, ↓zs_35_72, ↓zs_35_73, ↓zs_35_74, ↓zs_35_76, ↓zs_35_79, ↓zs_35_82, ↓zs_35_83, zx_pu_s, zx_pu_n, zx_rv_s, zx_rv_n, true_and, and_true, true_or, or_true, zb_0, zb_1, zq_lcl, zq_lcg, zq_lce, eq_self, ite_true, ite_false, zk_83, zw_83, zq_83_0, zq_83_1, zq_83_2, zq_83_3, zk_88, zw_88, zq_88_0, zq_88_1, zq_88_2, zq_88_3, zq_88_4, zq_88_5, zk_84, zw_84, zq_84_0, a3]
    · obtain ⟨e, rfl⟩ : ∃ e, d = e + 9 := ⟨d - 9, by omega⟩
      have a3 := fun lo hi P => k3 (e + 2) lo hi P
      rw [ml2]
      simp (disch := omega) only [↓zs_175_35, ↓zs_175_36, ↓zs_175_37, ↓zs_175_40, ↓zs_175_43, ↓zs_175_44, ↓zs_175_45, ↓zs_175_48, ↓zs_175_49, ↓zs_175_50, ↓zs_175_52, ↓zs_175_55, ↓zs_175_56, ↓zs_175_57, ↓zs_175_58, ↓zs_175_61, ↓zs_175_64, ↓zs_175_65, ↓zs_175_66, ↓zs_175_67, ↓zs_175_68, ↓zs_175_69, ↓zs_175_72, ↓zs_175_75, ↓zs_175_76, ↓zs_175_78, ↓zs_175_79, ↓zs_175_82, ↓zs_175_85, zx_pu_s, zx_pu_n, zx_rv_s, zx_rv_n, true_and, and_true, true_or, or_true, zb_0, zb_1, zq_lcl, zq_lcg, zq_lce, eq_self, ite_true, ite_false, zk_138, zw_138, zk_139, zw_139, zk_140, zw_140, zk_141, zw_141, zk_142, zw_142, zk_143, zw_143, zk_144, zw_144, zk_145, zw_145, zk_146, zw_146, zk_147, zw_147, zk_148, zw_148, zk_149, zw_149, zk_150, zw_150, zk_151, zw_151, zk_152, zw_152, zq_138_1, zq_138_2, zq_138_3, zq_138_4, zq_138_16, zq_138_19, zq_138_20, zq_138_24, zq_138_25, zq_138_26, zq_138_27, zq_138_31, zq_138_32, zq_138_33, hn, hf, k1, a3, bd11, cf]
  obtain ⟨I3, f3, p3, hA3⟩ := sc_expY (Lh := Lh) (J := J) p2 (kw208.mpr q2)
  obtain ⟨Im3, g3, md3, hB3⟩ := sp_eatsY (Lh := Lh) (J := Jm) md2 (by omega)
  rw [q2] at hB3
  obtain ⟨tk3, tle3⟩ := zl_tk2_nx b tk2.1.1
  generalize hT3 : zf_nx b n T2.2.1 = T3 at *
  have f13 := zFk1_t f12 (zFk_adv f3)
  have g13 := zFk2_t g12 (zFk_nxt g3)
  have cl3 : ∀ e P, zx_rn (e + 9) 35 [.ref 83] (zx_LL Lh) I J P = zx_wp (e + 9) 35 72 [.ref 83, .int (nI (zn F))] [] (zx_LL Lh) I3 J P := fun e P => by
    have a2 := fun P => hA3 (e + 8) P (by omega)
    rw [cl2]
    simp (disch := omega) only [↓zs_35_59, ↓zs_35_60, ↓zs_35_63, ↓zs_35_66, ↓zs_35_69, zx_pu_s, zx_pu_n, zx_rv_s, zx_rv_n, true_and, and_true, true_or, or_true, zb_0, zb_1, zq_lcl, zq_lcg, zq_lce, eq_self, ite_true, ite_false, zk_83, zw_83, zq_83_0, zq_83_1, zq_83_2, zq_83_3, zk_88, zw_88, zq_88_0, zq_88_1, zq_88_2, zq_88_3, zq_88_4, zq_88_5, zk_84, zw_84, zq_84_0, a2, n1]
  have ml3 : ∀ e P, zx_rn (e + 9) 175 [.ref 138] (zx_LL Lh) Im Jm P = zx_wp (e + 9) 175 48 [.ref 138, .int (nI (zn F)), .int (nI k), zx_u0, zx_u0] [] (zx_LL Lh) Im3 Jm P := fun e P => by
    have a2 := fun P => hB3 (e + 8) P (by omega)
    rw [ml2]
    simp (disch := omega) only [↓zs_175_35, ↓zs_175_36, ↓zs_175_37, ↓zs_175_40, ↓zs_175_43, ↓zs_175_44, ↓zs_175_45, zx_pu_s, zx_pu_n, zx_rv_s, zx_rv_n, true_and, and_true, true_or, or_true, zb_0, zb_1, zq_lcl, zq_lcg, zq_lce, eq_self, ite_true, ite_false, zk_138, zw_138, zk_139, zw_139, zk_140, zw_140, zk_141, zw_141, zk_142, zw_142, zk_143, zw_143, zk_144, zw_144, zk_145, zw_145, zk_146, zw_146, zk_147, zw_147, zk_148, zw_148, zk_149, zw_149, zk_150, zw_150, zk_151, zw_151, zk_152, zw_152, zq_138_1, zq_138_2, zq_138_3, zq_138_4, zq_138_16, zq_138_19, zq_138_20, zq_138_24, zq_138_25, zq_138_26, zq_138_27, zq_138_31, zq_138_32, zq_138_33, a2, n1]
  by_cases hx : zf_nk T3 (nI 0) (nI 7) = 0
  case neg =>
    left
    have hcN := sc_numN (Lh := Lh) (J := J) p3 hx
    obtain ⟨bd, x, hmN⟩ := sp_numN (Lh := Lh) (J := Jm) md3 hx
    obtain ⟨fb1, fb2⟩ := zf_nk_b hx
    obtain ⟨z1, z2⟩ := zFk1_9 I3 (zf_nk T3 (nI 0) (nI 7)) T3.1
    have bd11 := bd.2.2.1
    have cf := zBad_k bd
    have k1 := hn1 bd
    have fm := zFk2_b Im3 (zf_nk T3 (nI 0) (nI 7)) T3.1
    generalize zMb Im3 (zf_nk T3 (nI 0) (nI 7)) T3.1 = Ib at *
    refine ⟨_, _, _, J, Ib, fb1, fb2, zFk1_C (zFk1_t f13 z1), zFkJ_r J, z2, fun d P hd => ?_, zFk2_M (zFk2_t g13 fm), .inl bd, fun d P hd => ?_⟩
    · obtain ⟨e, rfl⟩ : ∃ e, d = e + 9 := ⟨d - 9, by omega⟩
      have a3 := fun P => hcN (e + 8) P (by omega)
      rw [cl3]
      simp (disch := omega) only [↓zs_35_72, ↓zs_35_73, ↓zs_35_74, ↓zs_35_76, ↓zs_35_79, ↓zs_35_82, ↓zs_35_83, zx_pu_s, zx_pu_n, zx_rv_s, zx_rv_n, true_and, and_true, true_or, or_true, zb_0, zb_1, zq_lcl, zq_lcg, zq_lce, eq_self, ite_true, ite_false, zk_83, zw_83, zq_83_0, zq_83_1, zq_83_2, zq_83_3, zk_88, zw_88, zq_88_0, zq_88_1, zq_88_2, zq_88_3, zq_88_4, zq_88_5, zk_84, zw_84, zq_84_0, a3]
    · obtain ⟨e, rfl⟩ : ∃ e, d = e + 9 := ⟨d - 9, by omega⟩
      have a3 := fun P => hmN (e + 8) P (by omega)
      rw [ml3]
      simp (disch := omega) only [↓zs_175_48, ↓zs_175_49, ↓zs_175_50, ↓zs_175_52, ↓zs_175_55, ↓zs_175_56, ↓zs_175_57, ↓zs_175_58, ↓zs_175_61, ↓zs_175_64, ↓zs_175_65, ↓zs_175_66, ↓zs_175_67, ↓zs_175_68, ↓zs_175_69, ↓zs_175_72, ↓zs_175_75, ↓zs_175_76, ↓zs_175_78, ↓zs_175_79, ↓zs_175_82, ↓zs_175_85, zx_pu_s, zx_pu_n, zx_rv_s, zx_rv_n, true_and, and_true, true_or, or_true, zb_0, zb_1, zq_lcl, zq_lcg, zq_lce, eq_self, ite_true, ite_false, zk_138, zw_138, zk_139, zw_139, zk_140, zw_140, zk_141, zw_141, zk_142, zw_142, zk_143, zw_143, zk_144, zw_144, zk_145, zw_145, zk_146, zw_146, zk_147, zw_147, zk_148, zw_148, zk_149, zw_149, zk_150, zw_150, zk_151, zw_151, zk_152, zw_152, zq_138_1, zq_138_2, zq_138_3, zq_138_4, zq_138_16, zq_138_19, zq_138_20, zq_138_24, zq_138_25, zq_138_26, zq_138_27, zq_138_31, zq_138_32, zq_138_33, a3, k1, bd11, cf]
  obtain ⟨-, g7⟩ := zf_nk_lt hx tk3.1.2.2.2 (by omega) (by omega)
  obtain ⟨I4, f4, g44, p4, hA4⟩ := sc_numY (Lh := Lh) (J := J) p3 hx
  obtain ⟨Im4, g4, md4, hB4⟩ := sp_numY (Lh := Lh) (J := Jm) md3 hx
  obtain ⟨tk4, tle4⟩ := zl_tk2_nx b tk3.1.1
  generalize hT4 : zf_nx b n T3.2.1 = T4 at *
  generalize hG : T3.2.2.2 = g at *
  have f14 := zFk1_t f13 (zFk_num f4)
  have g14 := zFk2_t g13 (zFk_nxt g4)
  obtain ⟨-, kw209, -⟩ := zTk_kw tk4
  -- the class has laid the direction
  have p4' : zPt (zx_u I4 100 (zn F) (nI g)) b n T4 := zPt_f p4 (fun a j w => zu_n (by omega))
  have cl4 : ∀ e P, zx_rn (e + 9) 35 [.ref 83] (zx_LL Lh) I J P = zx_wp (e + 9) 35 97 [.ref 83, .int (nI (zn F))] [] (zx_LL Lh) (zx_u I4 100 (zn F) (nI g)) J P := fun e P => by
    have a2 := fun P => hA4 (e + 8) P (by omega)
    rw [cl3]
    simp (disch := omega) only [↓zs_35_72, ↓zs_35_73, ↓zs_35_74, ↓zs_35_76, ↓zs_35_79, ↓zs_35_82, ↓zs_35_83, ↓zs_35_84, ↓zs_35_85, ↓zs_35_88, ↓zs_35_91, ↓zs_35_92, ↓zs_35_93, ↓zs_35_96, zx_pu_s, zx_pu_n, zx_rv_s, zx_rv_n, true_and, and_true, true_or, or_true, zb_0, zb_1, zq_lcl, zq_lcg, zq_lce, eq_self, ite_true, ite_false, zk_83, zw_83, zq_83_0, zq_83_1, zq_83_2, zq_83_3, zk_88, zw_88, zq_88_0, zq_88_1, zq_88_2, zq_88_3, zq_88_4, zq_88_5, zk_84, zw_84, zq_84_0, zk_98, zw_98, zk_99, zw_99, zk_100, zw_100, zk_101, zw_101, zq_98_0, zq_98_1, zq_98_2, a2, n1, g44, zin_nI, nI_clamp]
  have ml4 : ∀ e P, zx_rn (e + 9) 175 [.ref 138] (zx_LL Lh) Im Jm P = zx_wp (e + 9) 175 56 [.ref 138, .int (nI (zn F)), .int (nI k), .int (nI g), zx_u0] [] (zx_LL Lh) Im4 Jm P := fun e P => by
    have a2 := fun P => hB4 (e + 8) P (by omega)
    rw [ml3]
    simp (disch := omega) only [↓zs_175_48, ↓zs_175_49, ↓zs_175_50, ↓zs_175_52, ↓zs_175_55, zx_pu_s, zx_pu_n, zx_rv_s, zx_rv_n, true_and, and_true, true_or, or_true, zb_0, zb_1, zq_lcl, zq_lcg, zq_lce, eq_self, ite_true, ite_false, zk_138, zw_138, zk_139, zw_139, zk_140, zw_140, zk_141, zw_141, zk_142, zw_142, zk_143, zw_143, zk_144, zw_144, zk_145, zw_145, zk_146, zw_146, zk_147, zw_147, zk_148, zw_148, zk_149, zw_149, zk_150, zw_150, zk_151, zw_151, zk_152, zw_152, zq_138_1, zq_138_2, zq_138_3, zq_138_4, zq_138_16, zq_138_19, zq_138_20, zq_138_24, zq_138_25, zq_138_26, zq_138_27, zq_138_31, zq_138_32, zq_138_33, a2]
  have t4c : zx_u I4 100 (zn F) (nI g) 84 4 = zf_tkc T4.2.2.1 := p4'.2.2.1.2.2.1
  -- the end of the line
  have last : ∀ (T5 : zTk) (I5 I6 Im5 : zx_MI) (y : Int32), T4.1 ≤ T5.1 → zFk1 (zx_u I4 100 (zn F) (nI g)) I5 → zPt I5 b n T5 → I5 84 6 = nI 0 → I5 84 7 = -1 → I5 83 5 = nI k → zFk2 Im4 Im5 → zMd Im5 b n T5 → zf_opt y 8 → (∀ a j, ¬ (a = 101 ∧ j = zn F) → I6 a j = I5 a j) → I6 101 (zn F) = y → (∀ e P, zx_rn (e + 9) 35 [.ref 83] (zx_LL Lh) I J P = zx_wp (e + 9) 35 143 [.ref 83, .int (nI (zn F))] [] (zx_LL Lh) I6 J P) → (∀ e P, zx_rn (e + 9) 175 [.ref 138] (zx_LL Lh) Im Jm P = zx_wp (e + 9) 175 78 [.ref 138, .int (nI (zn F)), .int (nI k), .int (nI g), .int y] [] (zx_LL Lh) Im5 Jm P) → zLn Lh b n T I J Im Jm 35 [.ref 83] 175 [.ref 138] 9 := by
    intro T5 I5 I6 Im5 y tle5 f5 p5 h56 h57 s55 g5 md5 hy f6 e6y hcl hml
    right
    have k5 : I6 83 5 = nI k := (f6 83 5 (by omega)).trans s55
    have f56 : ∀ a j, ¬ ((a = 84 ∧ 2 ≤ j) ∨ (a = 83 ∧ (j = 4 ∨ j = 5)) ∨ (a = 88 ∧ j = 8) ∨ ((a = 99 ∨ a = 100 ∨ a = 101) ∧ j = zn F)) → I6 a j = I a j := fun a j w => by
      rw [f6 a j (by omega), f5 a j (by omega), zu_n (by omega), f14 a j (by omega)]
    have w8 : I6 88 8 = nI (zn F) := by
      rw [f6 88 8 (by omega), f5 88 8 (by omega), zu_n (by omega), f14 88 8 (by omega)]; exact e8
    have e97 : I6 100 (zn F) = nI g := by rw [f6 100 _ (by omega), f5 100 _ (by omega), zu_s]
    have p6 : zPt I6 b n T5 := zPt_f p5 (fun a j w => f6 a j (by omega))
    obtain ⟨pc7, pf7⟩ := zStaFin (I2 := zx_u (zx_u I6 99 (zn F) (nI k)) 88 8 (nI (zn F + 1))) (T2 := T5) (k := k) (g := g) (y := y) hc pf Nlt kw kf (by omega) hy (fun a j w => by rw [zu_n (by omega), zu_n (by omega)]; exact f56 a j w) (zPt_f p6 (fun a j w => by rw [zu_n (by omega), zu_n (by omega)])) (by rw [zu_n (by omega), zu_n (by omega), f6 84 6 (by omega)]; exact h56) (by rw [zu_n (by omega), zu_n (by omega), f6 84 7 (by omega)]; exact h57) (zu_s _ _ _ _) (by rw [zu_n (by omega), zu_s]) (by rw [zu_n (by omega), zu_n (by omega)]; exact e97) (by rw [zu_n (by omega), zu_n (by omega)]; exact e6y)
    have gm := zFk2_t g14 g5
    have hF5 : Im5 142 = F := by rw [← hm.2]; exact funext fun j => gm 142 j (by omega)
    have w11 := md5.2.2.2.2
    have w3 : ∀ x1 x2 x3, zx_u (zx_u (zx_u Im5 142 (109 + zn F) x1) 142 (117 + zn F) x2) 142 (125 + zn F) x3 142 3 = nI (zn F) := fun x1 x2 x3 => by
      rw [zu_n (by omega), zu_n (by omega), zu_n (by omega), hF5]; exact vN
    refine ⟨T5, zf_sta F (zn F) k g y, zx_u (zx_u I6 99 (zn F) (nI k)) 88 8 (nI (zn F + 1)), J, zx_u (zx_u (zx_u (zx_u Im5 142 (109 + zn F) (nI k)) 142 (117 + zn F) (nI g)) 142 (125 + zn F) y) 142 3 (nI (zn F + 1)), ?_, fun a j w => by rw [zu_n (by omega), zu_n (by omega)]; exact f56 a j (by omega), zFkJ_r J, pc7, pf7, fun d P hd => ?_, zFkM_t (zFk2_M gm) (zFkM_t zFkM_u (zFkM_t zFkM_u (zFkM_t zFkM_u zFkM_u))), ⟨zMd_w md5 (fun a j w => by rw [zu_n (by omega), zu_n (by omega), zu_n (by omega), zu_n (by omega)]), ?_⟩, fun d P hd => ?_⟩
    · have := tk1.2.1; have := tk2.2.1; have := tk3.2.1; omega
    · obtain ⟨e, rfl⟩ : ∃ e, d = e + 9 := ⟨d - 9, by omega⟩
      have w8' : ∀ x, zx_u I6 99 (zn F) x 88 8 = nI (zn F) := fun x => (zu_n (by omega)).trans w8
      rw [hcl]
      simp (disch := omega) only [↓zs_35_143, ↓zs_35_144, ↓zs_35_147, ↓zs_35_150, ↓zs_35_151, ↓zs_35_152, ↓zs_35_155, ↓zs_35_156, ↓zs_35_157, ↓zs_35_160, ↓zs_35_161, ↓zs_35_164, ↓zs_35_165, ↓zs_35_166, ↓zs_35_169, ↓zs_35_170, zx_pu_s, zx_pu_n, zx_rv_s, zx_rv_n, true_and, and_true, true_or, or_true, zb_0, zb_1, zq_lcl, zq_lcg, zq_lce, eq_self, ite_true, ite_false, zk_83, zw_83, zq_83_0, zq_83_1, zq_83_2, zq_83_3, zk_88, zw_88, zq_88_0, zq_88_1, zq_88_2, zq_88_3, zq_88_4, zq_88_5, zk_84, zw_84, zq_84_0, zk_98, zw_98, zk_99, zw_99, zk_100, zw_100, zk_101, zw_101, zq_98_0, zq_98_1, zq_98_2, k5, zin_nI, nI_clamp, w8', nI_add]
    · rw [zu_r, zr_s, zu_r, zr_s, zu_r, zr_s, zu_r, zr_s, hF5]; rfl
    · obtain ⟨e, rfl⟩ : ∃ e, d = e + 9 := ⟨d - 9, by omega⟩
      rw [hml]
      simp (disch := omega) only [↓zs_175_78, ↓zs_175_79, ↓zs_175_82, ↓zs_175_85, ↓zs_175_86, ↓zs_175_87, ↓zs_175_90, ↓zs_175_92, ↓zs_175_93, ↓zs_175_94, ↓zs_175_95, ↓zs_175_96, ↓zs_175_97, ↓zs_175_100, ↓zs_175_102, ↓zs_175_103, ↓zs_175_104, ↓zs_175_105, ↓zs_175_106, ↓zs_175_107, ↓zs_175_110, ↓zs_175_112, ↓zs_175_113, ↓zs_175_114, ↓zs_175_116, ↓zs_175_117, ↓zs_175_118, ↓zs_175_121, ↓zs_175_122, ↓zs_175_123, ↓zs_175_124, ↓zs_175_125, ↓zs_175_126, ↓zs_175_127, zx_pu_s, zx_pu_n, zx_rv_s, zx_rv_n, true_and, and_true, true_or, or_true, zb_0, zb_1, zq_lcl, zq_lcg, zq_lce, eq_self, ite_true, ite_false, zk_138, zw_138, zk_139, zw_139, zk_140, zw_140, zk_141, zw_141, zk_142, zw_142, zk_143, zw_143, zk_144, zw_144, zk_145, zw_145, zk_146, zw_146, zk_147, zw_147, zk_148, zw_148, zk_149, zw_149, zk_150, zw_150, zk_151, zw_151, zk_152, zw_152, zq_138_1, zq_138_2, zq_138_3, zq_138_4, zq_138_16, zq_138_19, zq_138_20, zq_138_24, zq_138_25, zq_138_26, zq_138_27, zq_138_31, zq_138_32, zq_138_33, w11, zin_nI, nI_clamp, nI_add, w3]
  have h46 : ∀ j, j = 6 ∨ j = 7 → zx_u I4 100 (zn F) (nI g) 84 j = I 84 j := fun j h => by
    rw [zu_n (by omega), f4 84 j (by omega), f3 84 j (by omega)]
    rcases h with h | h <;> rw [h]
    · exact s6.trans (c1.2.1.trans hc.2.1.symm)
    · exact s7.trans (c1.2.2.1.trans hc.2.2.1.symm)
  have s45 : zx_u I4 100 (zn F) (nI g) 83 5 = nI k := by rw [zu_n (by omega), f4 83 5 (by omega), f3 83 5 (by omega)]; exact s5
  by_cases q3 : T4.2.2.1 = 3
  case neg =>
    have hn := fun d P => sp_eatsN (Lh := Lh) (J := Jm) (d := d) (P := P) md4 (q := 3) (by decide) q3
    have g9 := eq_false (fun h => q3 (kw209.mp h))
    refine last T4 _ (zx_u I4 100 (zn F) (nI g)) Im4 (-1) (Nat.le_refl _) (fun _ _ _ => rfl) p4' ((h46 6 (.inl rfl)).trans hc.2.1) ((h46 7 (.inr rfl)).trans hc.2.2.1) s45 (fun _ _ _ => rfl) md4 (.inl rfl) (fun _ _ _ => rfl) ?_ (fun e P => ?_) (fun e P => ?_)
    · rw [zu_n (by omega), f14 101 _ (by omega)]
      rw [(hc.2.2.2.2.2 (zn F) Nlt).2.2]
      exact zf_G_N pf Nlt
    · rw [cl4]
      simp (disch := omega) only [↓zs_35_97, ↓zs_35_98, ↓zs_35_101, ↓zs_35_104, ↓zs_35_107, zx_pu_s, zx_pu_n, zx_rv_s, zx_rv_n, true_and, and_true, true_or, or_true, zb_0, zb_1, zq_lcl, zq_lcg, zq_lce, eq_self, ite_true, ite_false, zk_83, zw_83, zq_83_0, zq_83_1, zq_83_2, zq_83_3, zk_88, zw_88, zq_88_0, zq_88_1, zq_88_2, zq_88_3, zq_88_4, zq_88_5, zk_84, zw_84, zq_84_0, zk_98, zw_98, zk_99, zw_99, zk_100, zw_100, zk_101, zw_101, zq_98_0, zq_98_1, zq_98_2, t4c, g9]
    · rw [ml4]
      simp (disch := omega) only [↓zs_175_56, ↓zs_175_57, ↓zs_175_58, ↓zs_175_61, ↓zs_175_64, ↓zs_175_65, ↓zs_175_66, ↓zs_175_67, ↓zs_175_68, ↓zs_175_69, ↓zs_175_72, ↓zs_175_75, ↓zs_175_76, zx_pu_s, zx_pu_n, zx_rv_s, zx_rv_n, true_and, and_true, true_or, or_true, zb_0, zb_1, zq_lcl, zq_lcg, zq_lce, eq_self, ite_true, ite_false, zk_138, zw_138, zk_139, zw_139, zk_140, zw_140, zk_141, zw_141, zk_142, zw_142, zk_143, zw_143, zk_144, zw_144, zk_145, zw_145, zk_146, zw_146, zk_147, zw_147, zk_148, zw_148, zk_149, zw_149, zk_150, zw_150, zk_151, zw_151, zk_152, zw_152, zq_138_1, zq_138_2, zq_138_3, zq_138_4, zq_138_16, zq_138_19, zq_138_20, zq_138_24, zq_138_25, zq_138_26, zq_138_27, zq_138_31, zq_138_32, zq_138_33, hn]
  have g9 := eq_true (kw209.mpr q3)
  obtain ⟨I5, f5, p5, hA5⟩ := sc_adv (Lh := Lh) (J := J) p4'
  obtain ⟨Im5, g5, md5, hB5⟩ := sp_eatsY (Lh := Lh) (J := Jm) md4 (by omega)
  rw [q3] at hB5
  obtain ⟨tk5, tle5⟩ := zl_tk2_nx b tk4.1.1
  generalize hT5 : zf_nx b n T4.2.1 = T5 at *
  have cl5 : ∀ e P, zx_rn (e + 9) 35 [.ref 83] (zx_LL Lh) I J P = zx_wp (e + 9) 35 117 [.ref 83, .int (nI (zn F))] [] (zx_LL Lh) I5 J P := fun e P => by
    have a2 := fun P => hA5 (e + 8) P (by omega)
    rw [cl4]
    simp (disch := omega) only [↓zs_35_97, ↓zs_35_98, ↓zs_35_101, ↓zs_35_104, ↓zs_35_107, ↓zs_35_110, ↓zs_35_111, ↓zs_35_114, zx_pu_s, zx_pu_n, zx_rv_s, zx_rv_n, true_and, and_true, true_or, or_true, zb_0, zb_1, zq_lcl, zq_lcg, zq_lce, eq_self, ite_true, ite_false, zk_83, zw_83, zq_83_0, zq_83_1, zq_83_2, zq_83_3, zk_88, zw_88, zq_88_0, zq_88_1, zq_88_2, zq_88_3, zq_88_4, zq_88_5, zk_84, zw_84, zq_84_0, zk_98, zw_98, zk_99, zw_99, zk_100, zw_100, zk_101, zw_101, zq_98_0, zq_98_1, zq_98_2, t4c, g9, a2]
  have ml5 : ∀ e P, zx_rn (e + 9) 175 [.ref 138] (zx_LL Lh) Im Jm P = zx_wp (e + 9) 175 64 [.ref 138, .int (nI (zn F)), .int (nI k), .int (nI g), zx_u0] [] (zx_LL Lh) Im5 Jm P := fun e P => by
    have a2 := fun P => hB5 (e + 8) P (by omega)
    rw [ml4]
    simp (disch := omega) only [↓zs_175_56, ↓zs_175_57, ↓zs_175_58, ↓zs_175_61, zx_pu_s, zx_pu_n, zx_rv_s, zx_rv_n, true_and, and_true, true_or, or_true, zb_0, zb_1, zq_lcl, zq_lcg, zq_lce, eq_self, ite_true, ite_false, zk_138, zw_138, zk_139, zw_139, zk_140, zw_140, zk_141, zw_141, zk_142, zw_142, zk_143, zw_143, zk_144, zw_144, zk_145, zw_145, zk_146, zw_146, zk_147, zw_147, zk_148, zw_148, zk_149, zw_149, zk_150, zw_150, zk_151, zw_151, zk_152, zw_152, zq_138_1, zq_138_2, zq_138_3, zq_138_4, zq_138_16, zq_138_19, zq_138_20, zq_138_24, zq_138_25, zq_138_26, zq_138_27, zq_138_31, zq_138_32, zq_138_33, a2, n1]
  have f45 : zFk1 (zx_u I4 100 (zn F) (nI g)) I5 := zFk_adv f5
  by_cases hy : zf_nk T5 (nI 0) (nI (zn F) - nI 1) = 0
  case neg =>
    left
    have hcN := sc_numN (Lh := Lh) (J := J) p5 hy
    obtain ⟨bd, x, hmN⟩ := sp_numN (Lh := Lh) (J := Jm) md5 hy
    obtain ⟨fb1, fb2⟩ := zf_nk_b hy
    obtain ⟨z1, z2⟩ := zFk1_9 I5 (zf_nk T5 (nI 0) (nI (zn F) - nI 1)) T5.1
    have bd11 := bd.2.2.1
    have cf := zBad_k bd
    have fm := zFk2_b Im5 (zf_nk T5 (nI 0) (nI (zn F) - nI 1)) T5.1
    generalize zMb Im5 (zf_nk T5 (nI 0) (nI (zn F) - nI 1)) T5.1 = Ib at *
    refine ⟨_, _, _, J, Ib, fb1, fb2, zFkC_t (zFk1_C f14) (zFkC_t (zFkC_u (by omega)) (zFk1_C (zFk1_t f45 z1))), zFkJ_r J, z2, fun d P hd => ?_, zFk2_M (zFk2_t g14 (zFk2_t (zFk_nxt g5) fm)), .inl bd, fun d P hd => ?_⟩
    · obtain ⟨e, rfl⟩ : ∃ e, d = e + 9 := ⟨d - 9, by omega⟩
      have a3 := fun P => hcN (e + 8) P (by omega)
      rw [cl5]
      simp (disch := omega) only [↓zs_35_117, ↓zs_35_118, ↓zs_35_119, ↓zs_35_120, ↓zs_35_121, ↓zs_35_122, ↓zs_35_125, ↓zs_35_128, ↓zs_35_129, zx_pu_s, zx_pu_n, zx_rv_s, zx_rv_n, true_and, and_true, true_or, or_true, zb_0, zb_1, zq_lcl, zq_lcg, zq_lce, eq_self, ite_true, ite_false, zk_83, zw_83, zq_83_0, zq_83_1, zq_83_2, zq_83_3, zk_88, zw_88, zq_88_0, zq_88_1, zq_88_2, zq_88_3, zq_88_4, zq_88_5, zk_84, zw_84, zq_84_0, zk_98, zw_98, zk_99, zw_99, zk_100, zw_100, zk_101, zw_101, zq_98_0, zq_98_1, zq_98_2, a3]
    · obtain ⟨e, rfl⟩ : ∃ e, d = e + 9 := ⟨d - 9, by omega⟩
      have a3 := fun P => hmN (e + 8) P (by omega)
      rw [ml5]
      simp (disch := omega) only [↓zs_175_64, ↓zs_175_65, ↓zs_175_66, ↓zs_175_67, ↓zs_175_68, ↓zs_175_69, ↓zs_175_72, ↓zs_175_75, ↓zs_175_76, ↓zs_175_78, ↓zs_175_79, ↓zs_175_82, ↓zs_175_85, zx_pu_s, zx_pu_n, zx_rv_s, zx_rv_n, true_and, and_true, true_or, or_true, zb_0, zb_1, zq_lcl, zq_lcg, zq_lce, eq_self, ite_true, ite_false, zk_138, zw_138, zk_139, zw_139, zk_140, zw_140, zk_141, zw_141, zk_142, zw_142, zk_143, zw_143, zk_144, zw_144, zk_145, zw_145, zk_146, zw_146, zk_147, zw_147, zk_148, zw_148, zk_149, zw_149, zk_150, zw_150, zk_151, zw_151, zk_152, zw_152, zq_138_1, zq_138_2, zq_138_3, zq_138_4, zq_138_16, zq_138_19, zq_138_20, zq_138_24, zq_138_25, zq_138_26, zq_138_27, zq_138_31, zq_138_32, zq_138_33, a3, bd11, cf]
  obtain ⟨y27, y0, y1⟩ := zf_nk_0 hy
  obtain ⟨I6, f6, g64, p6, hA6⟩ := sc_numY (Lh := Lh) (J := J) p5 hy
  obtain ⟨Im6, g6, md6, hB6⟩ := sp_numY (Lh := Lh) (J := Jm) md5 hy
  obtain ⟨tk6, tle6⟩ := zl_tk2_nx b tk5.1.1
  generalize hT6 : zf_nx b n T5.2.1 = T6 at *
  have v9 := tk5.1.2.2.2
  generalize hV : T5.2.2.2 = V at *
  have Vn : V < zn F := by
    by_cases z0 : zn F = 0
    · exfalso
      apply y1
      rw [z0, show nI 0 - nI 1 = (-1 : Int32) by decide, Int32.lt_iff_toInt_lt, nI_toInt (by omega), show (-1 : Int32).toInt = -1 by decide]
      omega
    · rw [pk_sub (by omega), nI_ltI (by omega) (by omega)] at y1
      omega
  refine last T6 I6 (zx_u I6 101 (zn F) (nI V)) Im6 (nI V) ?_ (zFk1_t f45 (zFk_num f6)) p6 ?_ ?_ ?_ (zFk2_t (zFk_nxt g5) (zFk_nxt g6)) md6 (.inr ⟨V, by omega, rfl⟩) (fun a j w => zu_n w) (zu_s _ _ _ _) (fun e P => ?_) (fun e P => ?_)
  · have := tk4.2.1; have := tk5.2.1; omega
  · rw [f6 84 6 (by omega), f5 84 6 (by omega), h46 6 (.inl rfl)]; exact hc.2.1
  · rw [f6 84 7 (by omega), f5 84 7 (by omega), h46 7 (.inr rfl)]; exact hc.2.2.1
  · rw [f6 83 5 (by omega), f5 83 5 (by omega)]; exact s45
  · have a3 := fun P => hA6 (e + 8) P (by omega)
    rw [cl5]
    simp (disch := omega) only [↓zs_35_117, ↓zs_35_118, ↓zs_35_119, ↓zs_35_120, ↓zs_35_121, ↓zs_35_122, ↓zs_35_125, ↓zs_35_128, ↓zs_35_129, ↓zs_35_130, ↓zs_35_131, ↓zs_35_134, ↓zs_35_137, ↓zs_35_138, ↓zs_35_139, ↓zs_35_142, zx_pu_s, zx_pu_n, zx_rv_s, zx_rv_n, true_and, and_true, true_or, or_true, zb_0, zb_1, zq_lcl, zq_lcg, zq_lce, eq_self, ite_true, ite_false, zk_83, zw_83, zq_83_0, zq_83_1, zq_83_2, zq_83_3, zk_88, zw_88, zq_88_0, zq_88_1, zq_88_2, zq_88_3, zq_88_4, zq_88_5, zk_84, zw_84, zq_84_0, zk_98, zw_98, zk_99, zw_99, zk_100, zw_100, zk_101, zw_101, zq_98_0, zq_98_1, zq_98_2, a3, n1, g64, zin_nI, nI_clamp]
  · have a3 := fun P => hB6 (e + 8) P (by omega)
    rw [ml5]
    simp (disch := omega) only [↓zs_175_64, ↓zs_175_65, ↓zs_175_66, ↓zs_175_67, ↓zs_175_68, ↓zs_175_69, ↓zs_175_72, ↓zs_175_75, ↓zs_175_76, zx_pu_s, zx_pu_n, zx_rv_s, zx_rv_n, true_and, and_true, true_or, or_true, zb_0, zb_1, zq_lcl, zq_lcg, zq_lce, eq_self, ite_true, ite_false, zk_138, zw_138, zk_139, zw_139, zk_140, zw_140, zk_141, zw_141, zk_142, zw_142, zk_143, zw_143, zk_144, zw_144, zk_145, zw_145, zk_146, zw_146, zk_147, zw_147, zk_148, zw_148, zk_149, zw_149, zk_150, zw_150, zk_151, zw_151, zk_152, zw_152, zq_138_1, zq_138_2, zq_138_3, zq_138_4, zq_138_16, zq_138_19, zq_138_20, zq_138_24, zq_138_25, zq_138_26, zq_138_27, zq_138_31, zq_138_32, zq_138_33, a3]
end E1
