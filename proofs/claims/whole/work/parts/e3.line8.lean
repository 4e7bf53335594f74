/-! lines: letters, whole -/
section E3
variable {Lh n : Nat} {b : Nat → Nat} {I Im : zx_MI} {J Jm : zx_MJ} {T : zTk} {F : Nat → Int32}
theorem zf_nk_N {V N : Nat} {T : zTk} (hy : zf_nk T (nI 0) (nI N - nI 1) = 0) (hT : T.2.2.2 ≤ 999) (hN : N < 1000) : T.2.2.2 < N := by
  obtain ⟨y27, y0, y1⟩ := zf_nk_0 hy
  by_cases z0 : N = 0
  · exfalso
    apply y1
    rw [z0, show nI 0 - nI 1 = (-1 : Int32) by decide, Int32.lt_iff_toInt_lt, nI_toInt (by omega), show (-1 : Int32).toInt = -1 by decide]
    omega
  · rw [pk_sub (by omega), nI_ltI (by omega) (by omega)] at y1
    omega
theorem zLetter {w x1 : Nat} (hw : (w = 1 ∧ x1 = 0 ∧ T.2.2.1 = 9) ∨ (w = 0 ∧ x1 = 1 ∧ T.2.2.1 ≠ 9)) (hk : T.2.2.1 ≠ 29) (hc : zPc I J b n T F) (hm : zPm Im b n T F) (pf : zPf F) : zLn Lh b n T I J Im Jm 37 [.ref 83, .int (nI x1)] 177 [.ref 138] 9 := by
  have v := pf.1
  obtain ⟨⟨vw, vh, vN, w8, h8, N8⟩, vs⟩ := v.1
  have vl := v.2.2.2.2.1.1
  have l10 := v.2.2.2.2.1.2.1
  have e8 : I 88 8 = nI (zn F) := hc.2.2.2.1.2.2.1.trans vN
  have e10 : I 88 10 = nI (zl F) := hc.2.2.2.1.2.2.2.2.1.trans vl
  have n1 : (nI 1 = nI 0) = False := eq_false (by decide)
  have n0 : (nI 0 = nI 0) = True := eq_true rfl
  have m4 : Im 142 4 = nI (zl F) := by rw [hm.2]; exact vl
  have b11 := hm.1.2.2.2.2
  have hn1 := fun {I : zx_MI} {f s : Nat} (z : zBad I f s) d x P => sp_eats1 (Lh := Lh) (J := Jm) (d := d) (x := x) (P := P) z
  have hi1 := fun {I : zx_MI} {f s : Nat} (z : zBad I f s) d x P => sp_is1 (Lh := Lh) (J := Jm) (d := d) (x := x) (P := P) z
  have hf1 := fun {I : zx_MI} {f s : Nat} (z : zBad I f s) d x P => sp_fails1 (Lh := Lh) (J := Jm) (d := d) (x := x) (P := P) z
  have hm1 := fun {I : zx_MI} {f s : Nat} (z : zBad I f s) d lo hi P => sp_num1 (Lh := Lh) (J := Jm) (lo := lo) (hi := hi) z d P
  have hcp := hc.1
  have w01 : (w = 1 ∨ w = 0) := by omega
  have hi9 := fun d P => sp_is (Lh := Lh) (J := Jm) (d := d) (q := 9) (P := P) hm.1 (by decide)
  have ez : zB (decide (T.2.2.1 = 9)) = nI w := by
    rcases hw with ⟨rfl, -, h⟩ | ⟨rfl, -, h⟩
    · rw [decide_eq_true h]; rfl
    · rw [decide_eq_false h]; rfl
  rw [ez] at hi9
  by_cases L1 : zl F = 10
  · left
    have hf := fun d P => sc_flt (Lh := Lh) (J := J) (d := d) (f := 4) (P := P) hcp.2.2.1.2.1
    have hfm := fun d P => sp_fails (Lh := Lh) (J := Jm) (d := d) (f := 4) (P := P) hm.1
    rw [show zMf 4 T.2.2.1 = 4 from if_neg hk] at hfm
    obtain ⟨z1, z2⟩ := zFk1_9 I 4 T.1
    have bd : zBad (zMb Im 4 T.1) 4 T.1 := zMb_b (by decide) (by decide)
    have bd11 := bd.2.2.1
    have n4 : (nI 4 = nI 0) = False := eq_false (by decide)
    have l8 : (nI 10 < nI 10) = False := eq_false (by decide)
    rw [L1] at e10 m4
    refine ⟨4, T.1, _, J, _, by decide, by decide, zFk1_C z1, zFkJ_r J, z2, fun d P hd => ?_, zFk2_M (zFk2_b _ _ _), .inl bd, fun d P hd => ?_⟩
    · obtain ⟨e, rfl⟩ : ∃ e, d = e + 9 := ⟨d - 9, by omega⟩
      rw [ze_37]
      simp (disch := omega) only [↓zs_37_0, ↓zs_37_1, ↓zs_37_4, ↓zs_37_7, ↓zs_37_9, ↓zs_37_12, ↓zs_37_13, ↓zs_37_16, ↓zs_37_17, ↓zs_37_20, zx_pu_s, zx_pu_n, zx_rv_s, zx_rv_n, true_and, and_true, true_or, or_true, zb_0, zb_1, zq_lcl, zq_lcg, zq_lce, eq_self, ite_true, ite_false, zk_83, zw_83, zq_83_0, zq_83_1, zq_83_2, zq_83_3, zk_88, zw_88, zq_88_0, zq_88_1, zq_88_2, zq_88_3, zq_88_4, zq_88_5, zk_84, zw_84, zq_84_0, e10, l8, hf]
    · obtain ⟨e, rfl⟩ : ∃ e, d = e + 9 := ⟨d - 9, by omega⟩
      rw [ze_177]
      simp (disch := omega) only [↓zs_177_0, ↓zs_177_1, ↓zs_177_3, ↓zs_177_6, ↓zs_177_7, ↓zs_177_8, ↓zs_177_11, ↓zs_177_12, ↓zs_177_13, ↓zs_177_15, ↓zs_177_18, ↓zs_177_19, ↓zs_177_20, ↓zs_177_23, ↓zs_177_24, ↓zs_177_27, ↓zs_177_30, zx_pu_s, zx_pu_n, zx_rv_s, zx_rv_n, true_and, and_true, true_or, or_true, zb_0, zb_1, zq_lcl, zq_lcg, zq_lce, eq_self, ite_true, ite_false, zk_138, zw_138, zk_139, zw_139, zk_140, zw_140, zk_141, zw_141, zk_142, zw_142, zk_143, zw_143, zk_144, zw_144, zk_145, zw_145, zk_146, zw_146, zk_147, zw_147, zk_148, zw_148, zk_149, zw_149, zk_150, zw_150, zk_151, zw_151, zk_152, zw_152, zq_138_1, zq_138_2, zq_138_3, zq_138_4, zq_138_16, zq_138_19, zq_138_20, zq_138_24, zq_138_25, zq_138_26, zq_138_27, zq_138_31, zq_138_32, zq_138_33, hi9, zin_nI, nI_clamp, m4, hfm, bd11, n4]
  have L8 : (nI (zl F) < nI 10) = True := eq_true (by rw [nI_ltI (by omega) (by omega)]; omega)
  have L8f : (nI (zl F) = nI 10) = False := zq_ne L1 (by omega) (by omega)
  obtain ⟨I1, f1, c1, hA⟩ := zPc_adv (Lh := Lh) hc
  obtain ⟨Im1, g1, m1, hB⟩ := zPm_nxt (Lh := Lh) (Jm := Jm) hm
  have tle1 := (zl_tk2_nx b hc.1.2.2.2.1.1).2
  generalize hT1 : zf_nx b n T.2.1 = T1 at *
  have tk1 := c1.1.2.2.2
  have p1 := c1.1
  have md1 := m1.1
  have cl1 : ∀ e P, zx_rn (e + 9) 37 [.ref 83, .int (nI x1)] (zx_LL Lh) I J P = zx_wp (e + 9) 37 28 [.ref 83, .int (nI x1), zx_u0, zx_u0, zx_u0] [] (zx_LL Lh) I1 J P := fun e P => by
    have a1 := fun P => hA (e + 8) P (by omega)
    rw [ze_37]
    simp (disch := omega) only [↓zs_37_0, ↓zs_37_1, ↓zs_37_4, ↓zs_37_7, ↓zs_37_9, ↓zs_37_12, ↓zs_37_13, ↓zs_37_16, ↓zs_37_17, ↓zs_37_20, ↓zs_37_21, ↓zs_37_22, ↓zs_37_25, zx_pu_s, zx_pu_n, zx_rv_s, zx_rv_n, true_and, and_true, true_or, or_true, zb_0, zb_1, zq_lcl, zq_lcg, zq_lce, eq_self, ite_true, ite_false, zk_83, zw_83, zq_83_0, zq_83_1, zq_83_2, zq_83_3, zk_88, zw_88, zq_88_0, zq_88_1, zq_88_2, zq_88_3, zq_88_4, zq_88_5, zk_84, zw_84, zq_84_0, e10, L8, a1]
  have ml1 : ∀ e P, zx_rn (e + 9) 177 [.ref 138] (zx_LL Lh) Im Jm P = zx_wp (e + 9) 177 35 [.ref 138, .int (nI w), zx_u0, zx_u0, zx_u0, zx_u0] [] (zx_LL Lh) Im1 Jm P := fun e P => by
    have a1 := fun P => hB (e + 8) P (by omega)
    rw [ze_177]
    simp (disch := omega) only [↓zs_177_0, ↓zs_177_1, ↓zs_177_3, ↓zs_177_6, ↓zs_177_7, ↓zs_177_8, ↓zs_177_11, ↓zs_177_12, ↓zs_177_13, ↓zs_177_15, ↓zs_177_18, ↓zs_177_19, ↓zs_177_20, ↓zs_177_23, ↓zs_177_24, ↓zs_177_27, ↓zs_177_30, ↓zs_177_31, ↓zs_177_32, zx_pu_s, zx_pu_n, zx_rv_s, zx_rv_n, true_and, and_true, true_or, or_true, zb_0, zb_1, zq_lcl, zq_lcg, zq_lce, eq_self, ite_true, ite_false, zk_138, zw_138, zk_139, zw_139, zk_140, zw_140, zk_141, zw_141, zk_142, zw_142, zk_143, zw_143, zk_144, zw_144, zk_145, zw_145, zk_146, zw_146, zk_147, zw_147, zk_148, zw_148, zk_149, zw_149, zk_150, zw_150, zk_151, zw_151, zk_152, zw_152, zq_138_1, zq_138_2, zq_138_3, zq_138_4, zq_138_16, zq_138_19, zq_138_20, zq_138_24, zq_138_25, zq_138_26, zq_138_27, zq_138_31, zq_138_32, zq_138_33, hi9, zin_nI, nI_clamp, m4, L8f, b11, a1]
  -- where something is wrong already
  have tb90 : ∀ {Ib : zx_MI} {f s : Nat}, zBad Ib f s → ∀ e l2 l3 P, zx_wp (e + 9) 177 90 [.ref 138, .int (nI w), .int l2, .int l3, zx_u0, zx_u0] [] (zx_LL Lh) Ib Jm P = P none (zx_LL Lh) Ib Jm := by
    intro Ib f s bd e l2 l3 P
    have k1 := hi1 bd
    have k2 := hf1 bd
    have k3 := fun lo hi P => hm1 bd (e + 2) lo hi P
    have bd11 := bd.2.2.1
    have cf := zBad_k bd
    rcases w01 with q | q <;> rw [q] <;> simp (disch := omega) only [↓zs_177_90, ↓zs_177_91, ↓zs_177_94, ↓zs_177_95, ↓zs_177_97, ↓zs_177_100, ↓zs_177_103, ↓zs_177_104, ↓zs_177_107, ↓zs_177_108, ↓zs_177_111, ↓zs_177_112, ↓zs_177_113, ↓zs_177_116, ↓zs_177_117, ↓zs_177_120, ↓zs_177_121, ↓zs_177_124, ↓zs_177_125, ↓zs_177_126, ↓zs_177_127, ↓zs_177_130, ↓zs_177_131, ↓zs_177_132, ↓zs_177_133, ↓zs_177_134, ↓zs_177_137, ↓zs_177_139, ↓zs_177_140, ↓zs_177_143, ↓zs_177_146, zx_pu_s, zx_pu_n, zx_rv_s, zx_rv_n, true_and, and_true, true_or, or_true, zb_0, zb_1, zq_lcl, zq_lcg, zq_lce, eq_self, ite_true, ite_false, zk_138, zw_138, zk_139, zw_139, zk_140, zw_140, zk_141, zw_141, zk_142, zw_142, zk_143, zw_143, zk_144, zw_144, zk_145, zw_145, zk_146, zw_146, zk_147, zw_147, zk_148, zw_148, zk_149, zw_149, zk_150, zw_150, zk_151, zw_151, zk_152, zw_152, zq_138_1, zq_138_2, zq_138_3, zq_138_4, zq_138_16, zq_138_19, zq_138_20, zq_138_24, zq_138_25, zq_138_26, zq_138_27, zq_138_31, zq_138_32, zq_138_33, n1, k1, k2, k3, bd11, cf, zin_nI, nI_clamp]
  have tb72 : ∀ {Ib : zx_MI} {f s : Nat}, zBad Ib f s → ∀ e l2 l3 P, zx_wp (e + 9) 177 72 [.ref 138, .int (nI w), .int l2, .int l3, zx_u0, zx_u0] [] (zx_LL Lh) Ib Jm P = P none (zx_LL Lh) Ib Jm := by
    intro Ib f s bd e l2 l3 P
    have k1 := hn1 bd
    have k2 := hf1 bd
    have t := tb90 bd
    rcases w01 with q | q <;> rw [q] at t ⊢ <;> simp (disch := omega) only [↓zs_177_72, ↓zs_177_73, ↓zs_177_76, ↓zs_177_77, ↓zs_177_79, ↓zs_177_82, ↓zs_177_85, ↓zs_177_86, ↓zs_177_87, zx_pu_s, zx_pu_n, zx_rv_s, zx_rv_n, true_and, and_true, true_or, or_true, zb_0, zb_1, zq_lcl, zq_lcg, zq_lce, eq_self, ite_true, ite_false, zk_138, zw_138, zk_139, zw_139, zk_140, zw_140, zk_141, zw_141, zk_142, zw_142, zk_143, zw_143, zk_144, zw_144, zk_145, zw_145, zk_146, zw_146, zk_147, zw_147, zk_148, zw_148, zk_149, zw_149, zk_150, zw_150, zk_151, zw_151, zk_152, zw_152, zq_138_1, zq_138_2, zq_138_3, zq_138_4, zq_138_16, zq_138_19, zq_138_20, zq_138_24, zq_138_25, zq_138_26, zq_138_27, zq_138_31, zq_138_32, zq_138_33, n1, k1, k2, t]
  have tb58 : ∀ {Ib : zx_MI} {f s : Nat}, zBad Ib f s → ∀ e l2 P, zx_wp (e + 9) 177 58 [.ref 138, .int (nI w), .int l2, zx_u0, zx_u0, zx_u0] [] (zx_LL Lh) Ib Jm P = P none (zx_LL Lh) Ib Jm := by
    intro Ib f s bd e l2 P
    have k3 := fun lo hi P => hm1 bd (e + 2) lo hi P
    have t := tb72 bd
    simp (disch := omega) only [↓zs_177_58, ↓zs_177_59, ↓zs_177_60, ↓zs_177_61, ↓zs_177_64, ↓zs_177_65, ↓zs_177_66, ↓zs_177_67, ↓zs_177_68, ↓zs_177_71, zx_pu_s, zx_pu_n, zx_rv_s, zx_rv_n, true_and, and_true, true_or, or_true, zb_0, zb_1, zq_lcl, zq_lcg, zq_lce, eq_self, ite_true, ite_false, zk_138, zw_138, zk_139, zw_139, zk_140, zw_140, zk_141, zw_141, zk_142, zw_142, zk_143, zw_143, zk_144, zw_144, zk_145, zw_145, zk_146, zw_146, zk_147, zw_147, zk_148, zw_148, zk_149, zw_149, zk_150, zw_150, zk_151, zw_151, zk_152, zw_152, zq_138_1, zq_138_2, zq_138_3, zq_138_4, zq_138_16, zq_138_19, zq_138_20, zq_138_24, zq_138_25, zq_138_26, zq_138_27, zq_138_31, zq_138_32, zq_138_33, k3, t, zin_nI, nI_clamp]
  by_cases hx : zf_nk T1 (nI 0) (nI 999) = 0
  case neg =>
    left
    have hcN := sc_numN (Lh := Lh) (J := J) p1 hx
    obtain ⟨bd, x, hmN⟩ := sp_numN (Lh := Lh) (J := Jm) md1 hx
    obtain ⟨fb1, fb2⟩ := zf_nk_b hx
    obtain ⟨z1, z2⟩ := zFk1_9 I1 (zf_nk T1 (nI 0) (nI 999)) T1.1
    have k1 := hn1 bd
    have k2 := hf1 bd
    have t := tb58 bd
    have fm := zFk2_b Im1 (zf_nk T1 (nI 0) (nI 999)) T1.1
    generalize zMb Im1 (zf_nk T1 (nI 0) (nI 999)) T1.1 = Ib at *
    refine ⟨_, _, _, J, Ib, fb1, fb2, zFk1_C (zFk1_t f1 z1), zFkJ_r J, z2, fun d P hd => ?_, zFk2_M (zFk2_t g1 fm), .inl bd, fun d P hd => ?_⟩
    · obtain ⟨e, rfl⟩ : ∃ e, d = e + 9 := ⟨d - 9, by omega⟩
      have a3 := fun P => hcN (e + 8) P (by omega)
      rw [cl1]
      simp (disch := omega) only [↓zs_37_28, ↓zs_37_29, ↓zs_37_30, ↓zs_37_33, ↓zs_37_36, ↓zs_37_39, ↓zs_37_40, zx_pu_s, zx_pu_n, zx_rv_s, zx_rv_n, true_and, and_true, true_or, or_true, zb_0, zb_1, zq_lcl, zq_lcg, zq_lce, eq_self, ite_true, ite_false, zk_83, zw_83, zq_83_0, zq_83_1, zq_83_2, zq_83_3, zk_88, zw_88, zq_88_0, zq_88_1, zq_88_2, zq_88_3, zq_88_4, zq_88_5, zk_84, zw_84, zq_84_0, a3]
    · obtain ⟨e, rfl⟩ : ∃ e, d = e + 9 := ⟨d - 9, by omega⟩
      have a3 := fun P => hmN (e + 8) P (by omega)
      rw [ml1]
      simp (disch := omega) only [↓zs_177_35, ↓zs_177_36, ↓zs_177_37, ↓zs_177_40, ↓zs_177_43, ↓zs_177_44, ↓zs_177_45, ↓zs_177_47, ↓zs_177_50, ↓zs_177_53, ↓zs_177_54, ↓zs_177_55, zx_pu_s, zx_pu_n, zx_rv_s, zx_rv_n, true_and, and_true, true_or, or_true, zb_0, zb_1, zq_lcl, zq_lcg, zq_lce, eq_self, ite_true, ite_false, zk_138, zw_138, zk_139, zw_139, zk_140, zw_140, zk_141, zw_141, zk_142, zw_142, zk_143, zw_143, zk_144, zw_144, zk_145, zw_145, zk_146, zw_146, zk_147, zw_147, zk_148, zw_148, zk_149, zw_149, zk_150, zw_150, zk_151, zw_151, zk_152, zw_152, zq_138_1, zq_138_2, zq_138_3, zq_138_4, zq_138_16, zq_138_19, zq_138_20, zq_138_24, zq_138_25, zq_138_26, zq_138_27, zq_138_31, zq_138_32, zq_138_33, a3, k1, k2, t]
  obtain ⟨-, a9⟩ := zf_nk_lt hx tk1.1.2.2.2 (by omega) (by omega)
  obtain ⟨I2, f2, g42, p2, hA2⟩ := sc_numY (Lh := Lh) (J := J) p1 hx
  obtain ⟨Im2, g2, md2, hB2⟩ := sp_numY (Lh := Lh) (J := Jm) md1 hx
  obtain ⟨tk2, tle2⟩ := zl_tk2_nx b tk1.1.1
  generalize hT2 : zf_nx b n T1.2.1 = T2 at *
  generalize hAA : T1.2.2.2 = a at *
  have f12 := zFk1_t f1 (zFk_num f2)
  have g12 := zFk2_t g1 (zFk_nxt g2)
  obtain ⟨-, -, kw210, -⟩ := zTk_kw tk2
  have cl2 : ∀ e P, zx_rn (e + 9) 37 [.ref 83, .int (nI x1)] (zx_LL Lh) I J P = zx_wp (e + 9) 37 46 [.ref 83, .int (nI x1), .int (nI a), zx_u0, zx_u0] [] (zx_LL Lh) I2 J P := fun e P => by
    have a1 := fun P => hA2 (e + 8) P (by omega)
    rw [cl1]
    simp (disch := omega) only [↓zs_37_28, ↓zs_37_29, ↓zs_37_30, ↓zs_37_33, ↓zs_37_36, ↓zs_37_39, ↓zs_37_40, ↓zs_37_41, ↓zs_37_42, ↓zs_37_45, zx_pu_s, zx_pu_n, zx_rv_s, zx_rv_n, true_and, and_true, true_or, or_true, zb_0, zb_1, zq_lcl, zq_lcg, zq_lce, eq_self, ite_true, ite_false, zk_83, zw_83, zq_83_0, zq_83_1, zq_83_2, zq_83_3, zk_88, zw_88, zq_88_0, zq_88_1, zq_88_2, zq_88_3, zq_88_4, zq_88_5, zk_84, zw_84, zq_84_0, n1, a1, g42]
  have ml2 : ∀ e P, zx_rn (e + 9) 177 [.ref 138] (zx_LL Lh) Im Jm P = zx_wp (e + 9) 177 44 [.ref 138, .int (nI w), .int (nI a), zx_u0, zx_u0, zx_u0] [] (zx_LL Lh) Im2 Jm P := fun e P => by
    have a1 := fun P => hB2 (e + 8) P (by omega)
    rw [ml1]
    simp (disch := omega) only [↓zs_177_35, ↓zs_177_36, ↓zs_177_37, ↓zs_177_40, ↓zs_177_43, zx_pu_s, zx_pu_n, zx_rv_s, zx_rv_n, true_and, and_true, true_or, or_true, zb_0, zb_1, zq_lcl, zq_lcg, zq_lce, eq_self, ite_true, ite_false, zk_138, zw_138, zk_139, zw_139, zk_140, zw_140, zk_141, zw_141, zk_142, zw_142, zk_143, zw_143, zk_144, zw_144, zk_145, zw_145, zk_146, zw_146, zk_147, zw_147, zk_148, zw_148, zk_149, zw_149, zk_150, zw_150, zk_151, zw_151, zk_152, zw_152, zq_138_1, zq_138_2, zq_138_3, zq_138_4, zq_138_16, zq_138_19, zq_138_20, zq_138_24, zq_138_25, zq_138_26, zq_138_27, zq_138_31, zq_138_32, zq_138_33, a1]
  by_cases q7 : T2.2.2.1 = 7
  case neg =>
    left
    have hcN := sc_expN (Lh := Lh) (J := J) p2 (fun h => q7 (kw210.mp h))
    have hn := fun d P => sp_eatsN (Lh := Lh) (J := Jm) (d := d) (P := P) md2 (q := 7) (by decide) q7
    have hf := fun d P => sp_fails (Lh := Lh) (J := Jm) (d := d) (f := 2) (P := P) md2
    rw [show zMf 2 T2.2.2.1 = zl_mp T2.2.2.1 from rfl] at hf
    obtain ⟨mb1, mb2⟩ := zl_mp_b T2.2.2.1
    have bd : zBad (zMb Im2 (zl_mp T2.2.2.1) T2.1) (zl_mp T2.2.2.1) T2.1 := zMb_b mb1 mb2
    have t := tb58 bd
    obtain ⟨z1, z2⟩ := zFk1_9 I2 (zl_mp T2.2.2.1) T2.1
    refine ⟨_, _, _, J, _, mb1, mb2, zFk1_C (zFk1_t f12 z1), zFkJ_r J, z2, fun d P hd => ?_, zFk2_M (zFk2_t g12 (zFk2_b _ _ _)), .inl bd, fun d P hd => ?_⟩
    · obtain ⟨e, rfl⟩ : ∃ e, d = e + 9 := ⟨d - 9, by omega⟩
      have a3 := fun P => hcN (e + 8) P (by omega)
      rw [cl2]
      simp (disch := omega) only [↓zs_37_46, ↓zs_37_47, ↓zs_37_50, ↓zs_37_53, ↓zs_37_56, ↓zs_37_59, ↓zs_37_60, ↓zs_37_61, ↓zs_37_62, ↓zs_37_65, ↓zs_37_68, ↓zs_37_69, ↓zs_37_70, ↓zs_37_73, ↓zs_37_76, ↓zs_37_77, zx_pu_s, zx_pu_n, zx_rv_s, zx_rv_n, true_and, and_true, true_or, or_true, zb_0, zb_1, zq_lcl, zq_lcg, zq_lce, eq_self, ite_true, ite_false, zk_83, zw_83, zq_83_0, zq_83_1, zq_83_2, zq_83_3, zk_88, zw_88, zq_88_0, zq_88_1, zq_88_2, zq_88_3, zq_88_4, zq_88_5, zk_84, zw_84, zq_84_0, a3]
    · obtain ⟨e, rfl⟩ : ∃ e, d = e + 9 := ⟨d - 9, by omega⟩
      rw [ml2]
      simp (disch := omega) only [↓zs_177_44, ↓zs_177_45, ↓zs_177_47, ↓zs_177_50, ↓zs_177_53, ↓zs_177_54, ↓zs_177_55, zx_pu_s, zx_pu_n, zx_rv_s, zx_rv_n, true_and, and_true, true_or, or_true, zb_0, zb_1, zq_lcl, zq_lcg, zq_lce, eq_self, ite_true, ite_false, zk_138, zw_138, zk_139, zw_139, zk_140, zw_140, zk_141, zw_141, zk_142, zw_142, zk_143, zw_143, zk_144, zw_144, zk_145, zw_145, zk_146, zw_146, zk_147, zw_147, zk_148, zw_148, zk_149, zw_149, zk_150, zw_150, zk_151, zw_151, zk_152, zw_152, zq_138_1, zq_138_2, zq_138_3, zq_138_4, zq_138_16, zq_138_19, zq_138_20, zq_138_24, zq_138_25, zq_138_26, zq_138_27, zq_138_31, zq_138_32, zq_138_33, hn, hf, t]
  obtain ⟨I3, f3, p3, hA3⟩ := sc_expY (Lh := Lh) (J := J) p2 (kw210.mpr q7)
  obtain ⟨Im3, g3, md3, hB3⟩ := sp_eatsY (Lh := Lh) (J := Jm) md2 (by omega)
  rw [q7] at hB3
  obtain ⟨tk3, tle3⟩ := zl_tk2_nx b tk2.1.1
  generalize hT3 : zf_nx b n T2.2.1 = T3 at *
  have f13 := zFk1_t f12 (zFk_adv f3)
  have g13 := zFk2_t g12 (zFk_nxt g3)
  have e83 : I3 88 8 = nI (zn F) := (f13 88 8 (by omega)).trans e8
  have r33 : Im3 142 3 = nI (zn F) := by rw [g13 142 3 (by omega), hm.2]; exact vN
  have cl3 : ∀ e P, zx_rn (e + 9) 37 [.ref 83, .int (nI x1)] (zx_LL Lh) I J P = zx_wp (e + 9) 37 59 [.ref 83, .int (nI x1), .int (nI a), zx_u0, zx_u0] [] (zx_LL Lh) I3 J P := fun e P => by
    have a2 := fun P => hA3 (e + 8) P (by omega)
    rw [cl2]
    simp (disch := omega) only [↓zs_37_46, ↓zs_37_47, ↓zs_37_50, ↓zs_37_53, ↓zs_37_56, zx_pu_s, zx_pu_n, zx_rv_s, zx_rv_n, true_and, and_true, true_or, or_true, zb_0, zb_1, zq_lcl, zq_lcg, zq_lce, eq_self, ite_true, ite_false, zk_83, zw_83, zq_83_0, zq_83_1, zq_83_2, zq_83_3, zk_88, zw_88, zq_88_0, zq_88_1, zq_88_2, zq_88_3, zq_88_4, zq_88_5, zk_84, zw_84, zq_84_0, a2, n1]
  have ml3 : ∀ e P, zx_rn (e + 9) 177 [.ref 138] (zx_LL Lh) Im Jm P = zx_wp (e + 9) 177 58 [.ref 138, .int (nI w), .int (nI a), zx_u0, zx_u0, zx_u0] [] (zx_LL Lh) Im3 Jm P := fun e P => by
    have a2 := fun P => hB3 (e + 8) P (by omega)
    rw [ml2]
    simp (disch := omega) only [↓zs_177_44, ↓zs_177_45, ↓zs_177_47, ↓zs_177_50, ↓zs_177_53, ↓zs_177_54, ↓zs_177_55, zx_pu_s, zx_pu_n, zx_rv_s, zx_rv_n, true_and, and_true, true_or, or_true, zb_0, zb_1, zq_lcl, zq_lcg, zq_lce, eq_self, ite_true, ite_false, zk_138, zw_138, zk_139, zw_139, zk_140, zw_140, zk_141, zw_141, zk_142, zw_142, zk_143, zw_143, zk_144, zw_144, zk_145, zw_145, zk_146, zw_146, zk_147, zw_147, zk_148, zw_148, zk_149, zw_149, zk_150, zw_150, zk_151, zw_151, zk_152, zw_152, zq_138_1, zq_138_2, zq_138_3, zq_138_4, zq_138_16, zq_138_19, zq_138_20, zq_138_24, zq_138_25, zq_138_26, zq_138_27, zq_138_31, zq_138_32, zq_138_33, a2, n1]
  by_cases hy : zf_nk T3 (nI 0) (nI (zn F) - nI 1) = 0
  case neg =>
    left
    have hcN := sc_numN (Lh := Lh) (J := J) p3 hy
    obtain ⟨bd, x, hmN⟩ := sp_numN (Lh := Lh) (J := Jm) md3 hy
    obtain ⟨fb1, fb2⟩ := zf_nk_b hy
    obtain ⟨z1, z2⟩ := zFk1_9 I3 (zf_nk T3 (nI 0) (nI (zn F) - nI 1)) T3.1
    have t := tb72 bd
    have fm := zFk2_b Im3 (zf_nk T3 (nI 0) (nI (zn F) - nI 1)) T3.1
    generalize zMb Im3 (zf_nk T3 (nI 0) (nI (zn F) - nI 1)) T3.1 = Ib at *
    refine ⟨_, _, _, J, Ib, fb1, fb2, zFk1_C (zFk1_t f13 z1), zFkJ_r J, z2, fun d P hd => ?_, zFk2_M (zFk2_t g13 fm), .inl bd, fun d P hd => ?_⟩
    · obtain ⟨e, rfl⟩ : ∃ e, d = e + 9 := ⟨d - 9, by omega⟩
      have a3 := fun P => hcN (e + 8) P (by omega)
      rw [cl3]
      simp (disch := omega) only [↓zs_37_59, ↓zs_37_60, ↓zs_37_61, ↓zs_37_62, ↓zs_37_65, ↓zs_37_68, ↓zs_37_69, ↓zs_37_70, ↓zs_37_73, ↓zs_37_76, ↓zs_37_77, zx_pu_s, zx_pu_n, zx_rv_s, zx_rv_n, true_and, and_true, true_or, or_true, zb_0, zb_1, zq_lcl, zq_lcg, zq_lce, eq_self, ite_true, ite_false, zk_83, zw_83, zq_83_0, zq_83_1, zq_83_2, zq_83_3, zk_88, zw_88, zq_88_0, zq_88_1, zq_88_2, zq_88_3, zq_88_4, zq_88_5, zk_84, zw_84, zq_84_0, e83, a3]
    · obtain ⟨e, rfl⟩ : ∃ e, d = e + 9 := ⟨d - 9, by omega⟩
      have a3 := fun P => hmN (e + 8) P (by omega)
      rw [ml3]
      simp (disch := omega) only [↓zs_177_58, ↓zs_177_59, ↓zs_177_60, ↓zs_177_61, ↓zs_177_64, ↓zs_177_65, ↓zs_177_66, ↓zs_177_67, ↓zs_177_68, ↓zs_177_71, zx_pu_s, zx_pu_n, zx_rv_s, zx_rv_n, true_and, and_true, true_or, or_true, zb_0, zb_1, zq_lcl, zq_lcg, zq_lce, eq_self, ite_true, ite_false, zk_138, zw_138, zk_139, zw_139, zk_140, zw_140, zk_141, zw_141, zk_142, zw_142, zk_143, zw_143, zk_144, zw_144, zk_145, zw_145, zk_146, zw_146, zk_147, zw_147, zk_148, zw_148, zk_149, zw_149, zk_150, zw_150, zk_151, zw_151, zk_152, zw_152, zq_138_1, zq_138_2, zq_138_3, zq_138_4, zq_138_16, zq_138_19, zq_138_20, zq_138_24, zq_138_25, zq_138_26, zq_138_27, zq_138_31, zq_138_32, zq_138_33, zin_nI, nI_clamp, r33, a3, t]
  have gN := zf_nk_N (V := 0) hy tk3.1.2.2.2 (by omega)
  obtain ⟨I4, f4, g44, p4, hA4⟩ := sc_numY (Lh := Lh) (J := J) p3 hy
  obtain ⟨Im4, g4, md4, hB4⟩ := sp_numY (Lh := Lh) (J := Jm) md3 hy
  obtain ⟨tk4, tle4⟩ := zl_tk2_nx b tk3.1.1
  generalize hT4 : zf_nx b n T3.2.1 = T4 at *
  generalize hG : T3.2.2.2 = g at *
  have f14 := zFk1_t f13 (zFk_num f4)
  have g14 := zFk2_t g13 (zFk_nxt g4)
  have cl4 : ∀ e P, zx_rn (e + 9) 37 [.ref 83, .int (nI x1)] (zx_LL Lh) I J P = zx_wp (e + 9) 37 86 [.ref 83, .int (nI x1), .int (nI a), .int (nI g), .int (-1)] [] (zx_LL Lh) I4 J P := fun e P => by
    have a2 := fun P => hA4 (e + 8) P (by omega)
    rw [cl3]
    simp (disch := omega) only [↓zs_37_59, ↓zs_37_60, ↓zs_37_61, ↓zs_37_62, ↓zs_37_65, ↓zs_37_68, ↓zs_37_69, ↓zs_37_70, ↓zs_37_73, ↓zs_37_76, ↓zs_37_77, ↓zs_37_78, ↓zs_37_79, ↓zs_37_82, ↓zs_37_83, ↓zs_37_84, zx_pu_s, zx_pu_n, zx_rv_s, zx_rv_n, true_and, and_true, true_or, or_true, zb_0, zb_1, zq_lcl, zq_lcg, zq_lce, eq_self, ite_true, ite_false, zk_83, zw_83, zq_83_0, zq_83_1, zq_83_2, zq_83_3, zk_88, zw_88, zq_88_0, zq_88_1, zq_88_2, zq_88_3, zq_88_4, zq_88_5, zk_84, zw_84, zq_84_0, e83, a2, n1, g44]
  have ml4 : ∀ e P, zx_rn (e + 9) 177 [.ref 138] (zx_LL Lh) Im Jm P = zx_wp (e + 9) 177 72 [.ref 138, .int (nI w), .int (nI a), .int (nI g), zx_u0, zx_u0] [] (zx_LL Lh) Im4 Jm P := fun e P => by
    have a2 := fun P => hB4 (e + 8) P (by omega)
    rw [ml3]
    simp (disch := omega) only [↓zs_177_58, ↓zs_177_59, ↓zs_177_60, ↓zs_177_61, ↓zs_177_64, ↓zs_177_65, ↓zs_177_66, ↓zs_177_67, ↓zs_177_68, ↓zs_177_71, zx_pu_s, zx_pu_n, zx_rv_s, zx_rv_n, true_and, and_true, true_or, or_true, zb_0, zb_1, zq_lcl, zq_lcg, zq_lce, eq_self, ite_true, ite_false, zk_138, zw_138, zk_139, zw_139, zk_140, zw_140, zk_141, zw_141, zk_142, zw_142, zk_143, zw_143, zk_144, zw_144, zk_145, zw_145, zk_146, zw_146, zk_147, zw_147, zk_148, zw_148, zk_149, zw_149, zk_150, zw_150, zk_151, zw_151, zk_152, zw_152, zq_138_1, zq_138_2, zq_138_3, zq_138_4, zq_138_16, zq_138_19, zq_138_20, zq_138_24, zq_138_25, zq_138_26, zq_138_27, zq_138_31, zq_138_32, zq_138_33, zin_nI, nI_clamp, r33, a2]
  have h46 : ∀ j, j = 6 ∨ j = 7 → I4 84 j = I1 84 j := fun j h => by
    rw [f4 84 j (by omega), f3 84 j (by omega), f2 84 j (by omega)]
  -- the end of the line
  have last : ∀ (T5 : zTk) (I5 Im5 : zx_MI) (y : Int32), T4.1 ≤ T5.1 → zFk1 I4 I5 → zPt I5 b n T5 → I5 84 6 = nI 0 → I5 84 7 = -1 → zFk2 Im4 Im5 → zMd Im5 b n T5 → zf_opt y 8 → (∀ e P, zx_rn (e + 9) 37 [.ref 83, .int (nI x1)] (zx_LL Lh) I J P = zx_wp (e + 9) 37 161 [.ref 83, .int (nI x1), .int (nI a), .int (nI g), .int y] [] (zx_LL Lh) I5 J P) → (∀ e P, zx_rn (e + 9) 177 [.ref 138] (zx_LL Lh) Im Jm P = zx_wp (e + 9) 177 139 [.ref 138, .int (nI w), .int (nI a), .int (nI g), .int y, zx_u0] [] (zx_LL Lh) Im5 Jm P) → zLn Lh b n T I J Im Jm 37 [.ref 83, .int (nI x1)] 177 [.ref 138] 9 := by
    intro T5 I5 Im5 y tle5 f5 p5 h56 h57 g5 md5 hyo hcl hml
    right
    have f15 := zFk1_t f14 f5
    have w10 : I5 88 10 = nI (zl F) := (f15 88 10 (by omega)).trans e10
    have hL := sc_addLetter (Lh := Lh) (J := J) (I := I5) (L := zl F) (a := a) (g := g) (y := y) w10 (by omega) (by omega) (by omega)
    obtain ⟨o1, o2, o3, o4, o5, o6⟩ := zF52_o (I := I5) (L := zl F) (a := a) (g := g) (y := y)
    obtain ⟨pc7, pf7⟩ := zLetFin (I2 := zF52 I5 (zl F) a g y) (T2 := T5) (a := a) (g := g) (y := y) hc pf (by omega) (by omega) gN hyo (fun c j w => by rw [o1 c j (by omega)]; exact f15 c j (by omega)) (zPt_f p5 (fun c j w => o1 c j (by omega))) ((o1 84 6 (by omega)).trans h56) ((o1 84 7 (by omega)).trans h57) o2 o3 o4 o5 (fun s => by rw [o6 s, f15 101 s (by omega)])
    have gm := zFk2_t g14 g5
    have hF5 : Im5 142 = F := by rw [← hm.2]; exact funext fun j => gm 142 j (by omega)
    have w11 := md5.2.2.2.2
    have w4 : Im5 142 4 = nI (zl F) := by rw [hF5]; exact vl
    have w3 : ∀ x1 x2 x3, zx_u (zx_u (zx_u Im5 142 (7 + 3 * zl F) x1) 142 (7 + 3 * zl F + 1) x2) 142 (7 + 3 * zl F + 2) x3 142 4 = nI (zl F) := fun x1 x2 x3 => by
      rw [zu_n (by omega), zu_n (by omega), zu_n (by omega)]; exact w4
    refine ⟨T5, zf_ltr F (zl F) a g y, zF52 I5 (zl F) a g y, J, zx_u (zx_u (zx_u (zx_u Im5 142 (7 + 3 * zl F) (nI a)) 142 (7 + 3 * zl F + 1) (nI g)) 142 (7 + 3 * zl F + 2) y) 142 4 (nI (zl F + 1)), ?_, fun c j w => by rw [o1 c j (by omega)]; exact f15 c j (by omega), zFkJ_r J, pc7, pf7, fun d P hd => ?_, zFkM_t (zFk2_M gm) (zFkM_t zFkM_u (zFkM_t zFkM_u (zFkM_t zFkM_u zFkM_u))), ⟨zMd_w md5 (fun a j w => by rw [zu_n (by omega), zu_n (by omega), zu_n (by omega), zu_n (by omega)]), ?_⟩, fun d P hd => ?_⟩
    · have := tk1.2.1; have := tk2.2.1; have := tk3.2.1; omega
    · obtain ⟨e, rfl⟩ : ∃ e, d = e + 9 := ⟨d - 9, by omega⟩
      have a2 := fun P => hL (e + 8) P
      rw [hcl]
      simp (disch := omega) only [↓zs_37_161, ↓zs_37_162, ↓zs_37_165, ↓zs_37_166, ↓zs_37_169, ↓zs_37_170, ↓zs_37_171, ↓zs_37_173, ↓zs_37_176, ↓zs_37_177, zx_pu_s, zx_pu_n, zx_rv_s, zx_rv_n, true_and, and_true, true_or, or_true, zb_0, zb_1, zq_lcl, zq_lcg, zq_lce, eq_self, ite_true, ite_false, zk_83, zw_83, zq_83_0, zq_83_1, zq_83_2, zq_83_3, zk_88, zw_88, zq_88_0, zq_88_1, zq_88_2, zq_88_3, zq_88_4, zq_88_5, zk_84, zw_84, zq_84_0, zk_98, zw_98, zk_99, zw_99, zk_100, zw_100, zk_101, zw_101, zq_98_0, zq_98_1, zq_98_2, a2]
    · rw [zu_r, zr_s, zu_r, zr_s, zu_r, zr_s, zu_r, zr_s, hF5]; rfl
    · obtain ⟨e, rfl⟩ : ∃ e, d = e + 9 := ⟨d - 9, by omega⟩
      rw [hml]
      simp (disch := omega) only [↓zs_177_139, ↓zs_177_140, ↓zs_177_143, ↓zs_177_146, ↓zs_177_147, ↓zs_177_149, ↓zs_177_150, ↓zs_177_151, ↓zs_177_154, ↓zs_177_155, ↓zs_177_156, ↓zs_177_157, ↓zs_177_158, ↓zs_177_160, zx_pu_s, zx_pu_n, zx_rv_s, zx_rv_n, true_and, and_true, true_or, or_true, zb_0, zb_1, zq_lcl, zq_lcg, zq_lce, eq_self, ite_true, ite_false, zk_138, zw_138, zk_139, zw_139, zk_140, zw_140, zk_141, zw_141, zk_142, zw_142, zk_143, zw_143, zk_144, zw_144, zk_145, zw_145, zk_146, zw_146, zk_147, zw_147, zk_148, zw_148, zk_149, zw_149, zk_150, zw_150, zk_151, zw_151, zk_152, zw_152, zq_138_1, zq_138_2, zq_138_3, zq_138_4, zq_138_16, zq_138_19, zq_138_20, zq_138_24, zq_138_25, zq_138_26, zq_138_27, zq_138_31, zq_138_32, zq_138_33, w11, zin_nI, nI_clamp, pk_mul, nI_add, w4]
      simp (disch := omega) only [↓zs_177_161, ↓zs_177_164, ↓zs_177_166, ↓zs_177_167, ↓zs_177_168, ↓zs_177_169, ↓zs_177_172, ↓zs_177_174, ↓zs_177_175, ↓zs_177_176, ↓zs_177_177, ↓zs_177_178, ↓zs_177_179, ↓zs_177_182, ↓zs_177_184, ↓zs_177_185, ↓zs_177_186, ↓zs_177_188, ↓zs_177_189, ↓zs_177_190, ↓zs_177_193, ↓zs_177_194, ↓zs_177_195, ↓zs_177_196, ↓zs_177_197, ↓zs_177_198, ↓zs_177_199, zx_pu_s, zx_pu_n, zx_rv_s, zx_rv_n, true_and, and_true, true_or, or_true, zb_0, zb_1, zq_lcl, zq_lcg, zq_lce, eq_self, ite_true, ite_false, zk_138, zw_138, zk_139, zw_139, zk_140, zw_140, zk_141, zw_141, zk_142, zw_142, zk_143, zw_143, zk_144, zw_144, zk_145, zw_145, zk_146, zw_146, zk_147, zw_147, zk_148, zw_148, zk_149, zw_149, zk_150, zw_150, zk_151, zw_151, zk_152, zw_152, zq_138_1, zq_138_2, zq_138_3, zq_138_4, zq_138_16, zq_138_19, zq_138_20, zq_138_24, zq_138_25, zq_138_26, zq_138_27, zq_138_31, zq_138_32, zq_138_33, zin_nI, nI_clamp, nI_add, w3]
  have q6 : I4 84 6 = nI 0 := (h46 6 (.inl rfl)).trans c1.2.1
  have q7' : I4 84 7 = -1 := (h46 7 (.inr rfl)).trans c1.2.2.1
  rcases hw with ⟨ew, ex, hk9⟩ | ⟨ew, ex, hk9⟩
  · subst ew; subst ex
    refine last T4 I4 Im4 (-1) (Nat.le_refl _) (fun _ _ _ => rfl) p4 q6 q7' (fun _ _ _ => rfl) md4 (.inl rfl) (fun e P => ?_) (fun e P => ?_)
    · rw [cl4]
      simp (disch := omega) only [↓zs_37_86, ↓zs_37_87, zx_pu_s, zx_pu_n, zx_rv_s, zx_rv_n, true_and, and_true, true_or, or_true, zb_0, zb_1, zq_lcl, zq_lcg, zq_lce, eq_self, ite_true, ite_false]
    · rw [ml4]
      simp (disch := omega) only [↓zs_177_72, ↓zs_177_73, ↓zs_177_76, ↓zs_177_77, ↓zs_177_79, ↓zs_177_82, ↓zs_177_85, ↓zs_177_86, ↓zs_177_87, ↓zs_177_90, ↓zs_177_91, ↓zs_177_94, ↓zs_177_95, ↓zs_177_97, ↓zs_177_100, ↓zs_177_103, ↓zs_177_104, ↓zs_177_107, ↓zs_177_108, ↓zs_177_111, ↓zs_177_112, ↓zs_177_113, ↓zs_177_116, ↓zs_177_117, ↓zs_177_120, ↓zs_177_121, ↓zs_177_124, ↓zs_177_125, ↓zs_177_126, ↓zs_177_127, ↓zs_177_130, ↓zs_177_131, ↓zs_177_132, ↓zs_177_133, ↓zs_177_134, ↓zs_177_137, zx_pu_s, zx_pu_n, zx_rv_s, zx_rv_n, true_and, and_true, true_or, or_true, zb_0, zb_1, zq_lcl, zq_lcg, zq_lce, eq_self, ite_true, ite_false, zk_138, zw_138, zk_139, zw_139, zk_140, zw_140, zk_141, zw_141, zk_142, zw_142, zk_143, zw_143, zk_144, zw_144, zk_145, zw_145, zk_146, zw_146, zk_147, zw_147, zk_148, zw_148, zk_149, zw_149, zk_150, zw_150, zk_151, zw_151, zk_152, zw_152, zq_138_1, zq_138_2, zq_138_3, zq_138_4, zq_138_16, zq_138_19, zq_138_20, zq_138_24, zq_138_25, zq_138_26, zq_138_27, zq_138_31, zq_138_32, zq_138_33, n1]
  subst ew; subst ex
  obtain ⟨-, -, -, kw211, -⟩ := zTk_kw tk4
  by_cases q8 : T4.2.2.1 = 8
  case neg =>
    left
    have hcN := sc_expN (Lh := Lh) (J := J) p4 (fun h => q8 (kw211.mp h))
    have hn := fun d P => sp_eatsN (Lh := Lh) (J := Jm) (d := d) (P := P) md4 (q := 8) (by decide) q8
    have hf := fun d P => sp_fails (Lh := Lh) (J := Jm) (d := d) (f := 2) (P := P) md4
    rw [show zMf 2 T4.2.2.1 = zl_mp T4.2.2.1 from rfl] at hf
    obtain ⟨mb1, mb2⟩ := zl_mp_b T4.2.2.1
    have bd : zBad (zMb Im4 (zl_mp T4.2.2.1) T4.1) (zl_mp T4.2.2.1) T4.1 := zMb_b mb1 mb2
    have t := tb90 bd
    obtain ⟨z1, z2⟩ := zFk1_9 I4 (zl_mp T4.2.2.1) T4.1
    refine ⟨_, _, _, J, _, mb1, mb2, zFk1_C (zFk1_t f14 z1), zFkJ_r J, z2, fun d P hd => ?_, zFk2_M (zFk2_t g14 (zFk2_b _ _ _)), .inl bd, fun d P hd => ?_⟩
    · obtain ⟨e, rfl⟩ : ∃ e, d = e + 9 := ⟨d - 9, by omega⟩
      have a3 := fun P => hcN (e + 8) P (by omega)
      rw [cl4]
      simp (disch := omega) only [↓zs_37_86, ↓zs_37_87, ↓zs_37_90, ↓zs_37_91, ↓zs_37_94, ↓zs_37_97, ↓zs_37_100, ↓zs_37_103, ↓zs_37_104, zx_pu_s, zx_pu_n, zx_rv_s, zx_rv_n, true_and, and_true, true_or, or_true, zb_0, zb_1, zq_lcl, zq_lcg, zq_lce, eq_self, ite_true, ite_false, zk_83, zw_83, zq_83_0, zq_83_1, zq_83_2, zq_83_3, zk_88, zw_88, zq_88_0, zq_88_1, zq_88_2, zq_88_3, zq_88_4, zq_88_5, zk_84, zw_84, zq_84_0, n1, a3]
    · obtain ⟨e, rfl⟩ : ∃ e, d = e + 9 := ⟨d - 9, by omega⟩
      rw [ml4]
      simp (disch := omega) only [↓zs_177_72, ↓zs_177_73, ↓zs_177_76, ↓zs_177_77, ↓zs_177_79, ↓zs_177_82, ↓zs_177_85, ↓zs_177_86, ↓zs_177_87, zx_pu_s, zx_pu_n, zx_rv_s, zx_rv_n, true_and, and_true, true_or, or_true, zb_0, zb_1, zq_lcl, zq_lcg, zq_lce, eq_self, ite_true, ite_false, zk_138, zw_138, zk_139, zw_139, zk_140, zw_140, zk_141, zw_141, zk_142, zw_142, zk_143, zw_143, zk_144, zw_144, zk_145, zw_145, zk_146, zw_146, zk_147, zw_147, zk_148, zw_148, zk_149, zw_149, zk_150, zw_150, zk_151, zw_151, zk_152, zw_152, zq_138_1, zq_138_2, zq_138_3, zq_138_4, zq_138_16, zq_138_19, zq_138_20, zq_138_24, zq_138_25, zq_138_26, zq_138_27, zq_138_31, zq_138_32, zq_138_33, hn, hf, t]
  obtain ⟨I5, f5, p5, hA5⟩ := sc_expY (Lh := Lh) (J := J) p4 (kw211.mpr q8)
  obtain ⟨Im5, g5, md5, hB5⟩ := sp_eatsY (Lh := Lh) (J := Jm) md4 (by omega)
  rw [q8] at hB5
  obtain ⟨tk5, tle5⟩ := zl_tk2_nx b tk4.1.1
  generalize hT5 : zf_nx b n T4.2.1 = T5 at *
  have f15 := zFk1_t f14 (zFk_adv f5)
  have g15 := zFk2_t g14 (zFk_nxt g5)
  have e85 : I5 88 8 = nI (zn F) := (f15 88 8 (by omega)).trans e8
  have r35 : Im5 142 3 = nI (zn F) := by rw [g15 142 3 (by omega), hm.2]; exact vN
  have t27 := (zf_tkc_eq ⟨_, tk5.1.2.1⟩ tk5.1.2.2.1).1.1
  dsimp only at t27
  have c4 : I5 84 4 = zf_tkc T5.2.2.1 := p5.2.2.1.2.2.1
  have hi27 := fun d P => sp_is (Lh := Lh) (J := Jm) (d := d) (q := 27) (P := P) md5 (by decide)
  have cl5 : ∀ e P, zx_rn (e + 9) 37 [.ref 83, .int (nI 1)] (zx_LL Lh) I J P = zx_wp (e + 9) 37 105 [.ref 83, .int (nI 1), .int (nI a), .int (nI g), .int (-1)] [] (zx_LL Lh) I5 J P := fun e P => by
    have a2 := fun P => hA5 (e + 8) P (by omega)
    rw [cl4]
    simp (disch := omega) only [↓zs_37_86, ↓zs_37_87, ↓zs_37_90, ↓zs_37_91, ↓zs_37_94, ↓zs_37_97, ↓zs_37_100, ↓zs_37_103, ↓zs_37_104, zx_pu_s, zx_pu_n, zx_rv_s, zx_rv_n, true_and, and_true, true_or, or_true, zb_0, zb_1, zq_lcl, zq_lcg, zq_lce, eq_self, ite_true, ite_false, zk_83, zw_83, zq_83_0, zq_83_1, zq_83_2, zq_83_3, zk_88, zw_88, zq_88_0, zq_88_1, zq_88_2, zq_88_3, zq_88_4, zq_88_5, zk_84, zw_84, zq_84_0, n1, a2]
  have ml5 : ∀ e P, zx_rn (e + 9) 177 [.ref 138] (zx_LL Lh) Im Jm P = zx_wp (e + 9) 177 94 [.ref 138, .int (nI 0), .int (nI a), .int (nI g), zx_u0, zx_u0] [] (zx_LL Lh) Im5 Jm P := fun e P => by
    have a2 := fun P => hB5 (e + 8) P (by omega)
    rw [ml4]
    simp (disch := omega) only [↓zs_177_72, ↓zs_177_73, ↓zs_177_76, ↓zs_177_77, ↓zs_177_79, ↓zs_177_82, ↓zs_177_85, ↓zs_177_86, ↓zs_177_87, ↓zs_177_90, ↓zs_177_91, zx_pu_s, zx_pu_n, zx_rv_s, zx_rv_n, true_and, and_true, true_or, or_true, zb_0, zb_1, zq_lcl, zq_lcg, zq_lce, eq_self, ite_true, ite_false, zk_138, zw_138, zk_139, zw_139, zk_140, zw_140, zk_141, zw_141, zk_142, zw_142, zk_143, zw_143, zk_144, zw_144, zk_145, zw_145, zk_146, zw_146, zk_147, zw_147, zk_148, zw_148, zk_149, zw_149, zk_150, zw_150, zk_151, zw_151, zk_152, zw_152, zq_138_1, zq_138_2, zq_138_3, zq_138_4, zq_138_16, zq_138_19, zq_138_20, zq_138_24, zq_138_25, zq_138_26, zq_138_27, zq_138_31, zq_138_32, zq_138_33, a2, n1]
  by_cases qs : T5.2.2.1 = 27 ∧ T5.2.2.2 = g
  · left
    obtain ⟨q27, qg⟩ := qs
    rw [decide_eq_true q27] at hi27
    have g9 := eq_true (t27.mpr q27)
    have c5 : I5 84 5 = nI g := by rw [p5.2.2.1.2.2.2 q27, qg]
    have m10 : Im5 138 10 = nI g := by rw [md5.2.2.1.2.2.2 q27, qg]
    have hf := fun d P => sc_flt (Lh := Lh) (J := J) (d := d) (f := 3) (P := P) p5.2.2.1.2.1
    have hfm := fun d P => sp_fails (Lh := Lh) (J := Jm) (d := d) (f := 3) (P := P) md5
    rw [show zMf 3 T5.2.2.1 = 3 from if_neg (by omega)] at hfm
    obtain ⟨z1, z2⟩ := zFk1_9 I5 3 T5.1
    have bd : zBad (zMb Im5 3 T5.1) 3 T5.1 := zMb_b (by decide) (by decide)
    have bd11 := bd.2.2.1
    have n4 : (nI 3 = nI 0) = False := eq_false (by decide)
    have k3 := fun lo hi e P => hm1 bd (e + 2) lo hi P
    refine ⟨3, T5.1, _, J, _, by decide, by decide, zFk1_C (zFk1_t f15 z1), zFkJ_r J, z2, fun d P hd => ?_, zFk2_M (zFk2_t g15 (zFk2_b _ _ _)), .inl bd, fun d P hd => ?_⟩
    · obtain ⟨e, rfl⟩ : ∃ e, d = e + 9 := ⟨d - 9, by omega⟩
      rw [cl5]
      simp (disch := omega) only [↓zs_37_105, ↓zs_37_106, ↓zs_37_109, ↓zs_37_112, ↓zs_37_113, ↓zs_37_116, ↓zs_37_117, ↓zs_37_120, ↓zs_37_123, ↓zs_37_124, ↓zs_37_127, ↓zs_37_128, ↓zs_37_131, ↓zs_37_132, ↓zs_37_135, zx_pu_s, zx_pu_n, zx_rv_s, zx_rv_n, true_and, and_true, true_or, or_true, zb_0, zb_1, zq_lcl, zq_lcg, zq_lce, eq_self, ite_true, ite_false, zk_83, zw_83, zq_83_0, zq_83_1, zq_83_2, zq_83_3, zk_88, zw_88, zq_88_0, zq_88_1, zq_88_2, zq_88_3, zq_88_4, zq_88_5, zk_84, zw_84, zq_84_0, c4, g9, c5, hf]
    · obtain ⟨e, rfl⟩ : ∃ e, d = e + 9 := ⟨d - 9, by omega⟩
      have k3' := fun lo hi P => k3 lo hi e P
      rw [ml5]
      simp (disch := omega) only [↓zs_177_94, ↓zs_177_95, ↓zs_177_97, ↓zs_177_100, ↓zs_177_103, ↓zs_177_104, ↓zs_177_107, ↓zs_177_108, ↓zs_177_111, ↓zs_177_112, ↓zs_177_113, ↓zs_177_116, ↓zs_177_117, ↓zs_177_120, ↓zs_177_121, ↓zs_177_124, ↓zs_177_125, ↓zs_177_126, ↓zs_177_127, ↓zs_177_130, ↓zs_177_131, ↓zs_177_132, ↓zs_177_133, ↓zs_177_134, ↓zs_177_137, ↓zs_177_139, ↓zs_177_140, ↓zs_177_143, ↓zs_177_146, zx_pu_s, zx_pu_n, zx_rv_s, zx_rv_n, true_and, and_true, true_or, or_true, zb_0, zb_1, zq_lcl, zq_lcg, zq_lce, eq_self, ite_true, ite_false, zk_138, zw_138, zk_139, zw_139, zk_140, zw_140, zk_141, zw_141, zk_142, zw_142, zk_143, zw_143, zk_144, zw_144, zk_145, zw_145, zk_146, zw_146, zk_147, zw_147, zk_148, zw_148, zk_149, zw_149, zk_150, zw_150, zk_151, zw_151, zk_152, zw_152, zq_138_1, zq_138_2, zq_138_3, zq_138_4, zq_138_16, zq_138_19, zq_138_20, zq_138_24, zq_138_25, zq_138_26, zq_138_27, zq_138_31, zq_138_32, zq_138_33, hi27, zB_0, reduceCtorEq, m10, hfm, k3', bd11, n4, zin_nI, nI_clamp]
  have cl6 : ∀ e P, zx_rn (e + 9) 37 [.ref 83, .int (nI 1)] (zx_LL Lh) I J P = zx_wp (e + 9) 37 136 [.ref 83, .int (nI 1), .int (nI a), .int (nI g), .int (-1)] [] (zx_LL Lh) I5 J P := fun e P => by
    rw [cl5]
    by_cases q27 : T5.2.2.1 = 27
    · have g9 := eq_true (t27.mpr q27)
      have c5 := p5.2.2.1.2.2.2 q27
      have ne : (nI T5.2.2.2 = nI g) = False := zq_ne (fun h => qs ⟨q27, h⟩) (by have := tk5.1.2.2.2; omega) (by omega)
      simp (disch := omega) only [↓zs_37_105, ↓zs_37_106, ↓zs_37_109, ↓zs_37_112, ↓zs_37_113, ↓zs_37_116, ↓zs_37_117, ↓zs_37_120, ↓zs_37_123, ↓zs_37_124, ↓zs_37_127, ↓zs_37_128, ↓zs_37_131, ↓zs_37_132, ↓zs_37_135, zx_pu_s, zx_pu_n, zx_rv_s, zx_rv_n, true_and, and_true, true_or, or_true, zb_0, zb_1, zq_lcl, zq_lcg, zq_lce, eq_self, ite_true, ite_false, zk_83, zw_83, zq_83_0, zq_83_1, zq_83_2, zq_83_3, zk_88, zw_88, zq_88_0, zq_88_1, zq_88_2, zq_88_3, zq_88_4, zq_88_5, zk_84, zw_84, zq_84_0, c4, g9, c5, ne]
    · have g9 := eq_false (fun h => q27 (t27.mp h))
      simp (disch := omega) only [↓zs_37_105, ↓zs_37_106, ↓zs_37_109, ↓zs_37_112, ↓zs_37_113, ↓zs_37_116, ↓zs_37_117, ↓zs_37_120, ↓zs_37_123, ↓zs_37_124, ↓zs_37_127, ↓zs_37_128, ↓zs_37_131, ↓zs_37_132, ↓zs_37_135, zx_pu_s, zx_pu_n, zx_rv_s, zx_rv_n, true_and, and_true, true_or, or_true, zb_0, zb_1, zq_lcl, zq_lcg, zq_lce, eq_self, ite_true, ite_false, zk_83, zw_83, zq_83_0, zq_83_1, zq_83_2, zq_83_3, zk_88, zw_88, zq_88_0, zq_88_1, zq_88_2, zq_88_3, zq_88_4, zq_88_5, zk_84, zw_84, zq_84_0, c4, g9]
  have ml6 : ∀ e P, zx_rn (e + 9) 177 [.ref 138] (zx_LL Lh) Im Jm P = zx_wp (e + 9) 177 116 [.ref 138, .int (nI 0), .int (nI a), .int (nI g), zx_u0, zx_u0] [] (zx_LL Lh) Im5 Jm P := fun e P => by
    rw [ml5]
    by_cases q27 : T5.2.2.1 = 27
    · rw [decide_eq_true q27] at hi27
      have m10 := md5.2.2.1.2.2.2 q27
      have ne : (nI T5.2.2.2 = nI g) = False := zq_ne (fun h => qs ⟨q27, h⟩) (by have := tk5.1.2.2.2; omega) (by omega)
      simp (disch := omega) only [↓zs_177_94, ↓zs_177_95, ↓zs_177_97, ↓zs_177_100, ↓zs_177_103, ↓zs_177_104, ↓zs_177_107, ↓zs_177_108, ↓zs_177_111, ↓zs_177_112, ↓zs_177_113, zx_pu_s, zx_pu_n, zx_rv_s, zx_rv_n, true_and, and_true, true_or, or_true, zb_0, zb_1, zq_lcl, zq_lcg, zq_lce, eq_self, ite_true, ite_false, zk_138, zw_138, zk_139, zw_139, zk_140, zw_140, zk_141, zw_141, zk_142, zw_142, zk_143, zw_143, zk_144, zw_144, zk_145, zw_145, zk_146, zw_146, zk_147, zw_147, zk_148, zw_148, zk_149, zw_149, zk_150, zw_150, zk_151, zw_151, zk_152, zw_152, zq_138_1, zq_138_2, zq_138_3, zq_138_4, zq_138_16, zq_138_19, zq_138_20, zq_138_24, zq_138_25, zq_138_26, zq_138_27, zq_138_31, zq_138_32, zq_138_33, hi27, zB_0, reduceCtorEq, m10, ne]
    · rw [decide_eq_false q27] at hi27
      simp (disch := omega) only [↓zs_177_94, ↓zs_177_95, ↓zs_177_97, ↓zs_177_100, ↓zs_177_103, ↓zs_177_104, ↓zs_177_107, ↓zs_177_108, ↓zs_177_111, ↓zs_177_112, ↓zs_177_113, zx_pu_s, zx_pu_n, zx_rv_s, zx_rv_n, true_and, and_true, true_or, or_true, zb_0, zb_1, zq_lcl, zq_lcg, zq_lce, eq_self, ite_true, ite_false, zk_138, zw_138, zk_139, zw_139, zk_140, zw_140, zk_141, zw_141, zk_142, zw_142, zk_143, zw_143, zk_144, zw_144, zk_145, zw_145, zk_146, zw_146, zk_147, zw_147, zk_148, zw_148, zk_149, zw_149, zk_150, zw_150, zk_151, zw_151, zk_152, zw_152, zq_138_1, zq_138_2, zq_138_3, zq_138_4, zq_138_16, zq_138_19, zq_138_20, zq_138_24, zq_138_25, zq_138_26, zq_138_27, zq_138_31, zq_138_32, zq_138_33, hi27, zB_0]
  by_cases hz : zf_nk T5 (nI 0) (nI (zn F) - nI 1) = 0
  case neg =>
    left
    have hcN := sc_numN (Lh := Lh) (J := J) p5 hz
    obtain ⟨bd, x, hmN⟩ := sp_numN (Lh := Lh) (J := Jm) md5 hz
    obtain ⟨fb1, fb2⟩ := zf_nk_b hz
    obtain ⟨z1, z2⟩ := zFk1_9 I5 (zf_nk T5 (nI 0) (nI (zn F) - nI 1)) T5.1
    have bd11 := bd.2.2.1
    have cf := zBad_k bd
    have fm := zFk2_b Im5 (zf_nk T5 (nI 0) (nI (zn F) - nI 1)) T5.1
    generalize zMb Im5 (zf_nk T5 (nI 0) (nI (zn F) - nI 1)) T5.1 = Ib at *
    refine ⟨_, _, _, J, Ib, fb1, fb2, zFk1_C (zFk1_t f15 z1), zFkJ_r J, z2, fun d P hd => ?_, zFk2_M (zFk2_t g15 fm), .inl bd, fun d P hd => ?_⟩
    · obtain ⟨e, rfl⟩ : ∃ e, d = e + 9 := ⟨d - 9, by omega⟩
      have a3 := fun P => hcN (e + 8) P (by omega)
      rw [cl6]
      simp (disch := omega) only [↓zs_37_136, ↓zs_37_137, ↓zs_37_138, ↓zs_37_139, ↓zs_37_142, ↓zs_37_145, ↓zs_37_146, ↓zs_37_147, ↓zs_37_150, ↓zs_37_153, ↓zs_37_154, ↓zs_37_155, ↓zs_37_156, ↓zs_37_159, zx_pu_s, zx_pu_n, zx_rv_s, zx_rv_n, true_and, and_true, true_or, or_true, zb_0, zb_1, zq_lcl, zq_lcg, zq_lce, eq_self, ite_true, ite_false, zk_83, zw_83, zq_83_0, zq_83_1, zq_83_2, zq_83_3, zk_88, zw_88, zq_88_0, zq_88_1, zq_88_2, zq_88_3, zq_88_4, zq_88_5, zk_84, zw_84, zq_84_0, e85, a3]
    · obtain ⟨e, rfl⟩ : ∃ e, d = e + 9 := ⟨d - 9, by omega⟩
      have a3 := fun P => hmN (e + 8) P (by omega)
      rw [ml6]
      simp (disch := omega) only [↓zs_177_116, ↓zs_177_117, ↓zs_177_120, ↓zs_177_121, ↓zs_177_124, ↓zs_177_125, ↓zs_177_126, ↓zs_177_127, ↓zs_177_130, ↓zs_177_131, ↓zs_177_132, ↓zs_177_133, ↓zs_177_134, ↓zs_177_137, ↓zs_177_139, ↓zs_177_140, ↓zs_177_143, ↓zs_177_146, zx_pu_s, zx_pu_n, zx_rv_s, zx_rv_n, true_and, and_true, true_or, or_true, zb_0, zb_1, zq_lcl, zq_lcg, zq_lce, eq_self, ite_true, ite_false, zk_138, zw_138, zk_139, zw_139, zk_140, zw_140, zk_141, zw_141, zk_142, zw_142, zk_143, zw_143, zk_144, zw_144, zk_145, zw_145, zk_146, zw_146, zk_147, zw_147, zk_148, zw_148, zk_149, zw_149, zk_150, zw_150, zk_151, zw_151, zk_152, zw_152, zq_138_1, zq_138_2, zq_138_3, zq_138_4, zq_138_16, zq_138_19, zq_138_20, zq_138_24, zq_138_25, zq_138_26, zq_138_27, zq_138_31, zq_138_32, zq_138_33, zin_nI, nI_clamp, r35, a3, bd11, cf]
  have yN := zf_nk_N (V := 0) hz tk5.1.2.2.2 (by omega)
  obtain ⟨I6, f6, g64, p6, hA6⟩ := sc_numY (Lh := Lh) (J := J) p5 hz
  obtain ⟨Im6, g6, md6, hB6⟩ := sp_numY (Lh := Lh) (J := Jm) md5 hz
  obtain ⟨tk6, tle6⟩ := zl_tk2_nx b tk5.1.1
  generalize hT6 : zf_nx b n T5.2.1 = T6 at *
  generalize hY : T5.2.2.2 = y at *
  refine last T6 I6 Im6 (nI y) ?_ (zFk1_t (zFk_adv f5) (zFk_num f6)) p6 ?_ ?_ (zFk2_t (zFk_nxt g5) (zFk_nxt g6)) md6 (.inr ⟨y, by omega, rfl⟩) (fun e P => ?_) (fun e P => ?_)
  · have := tk4.2.1; have := tk5.2.1; omega
  · rw [f6 84 6 (by omega), f5 84 6 (by omega)]; exact q6
  · rw [f6 84 7 (by omega), f5 84 7 (by omega)]; exact q7'
  · have a3 := fun P => hA6 (e + 8) P (by omega)
    rw [cl6]
    simp (disch := omega) only [↓zs_37_136, ↓zs_37_137, ↓zs_37_138, ↓zs_37_139, ↓zs_37_142, ↓zs_37_145, ↓zs_37_146, ↓zs_37_147, ↓zs_37_150, ↓zs_37_153, ↓zs_37_154, ↓zs_37_155, ↓zs_37_156, ↓zs_37_159, zx_pu_s, zx_pu_n, zx_rv_s, zx_rv_n, true_and, and_true, true_or, or_true, zb_0, zb_1, zq_lcl, zq_lcg, zq_lce, eq_self, ite_true, ite_false, zk_83, zw_83, zq_83_0, zq_83_1, zq_83_2, zq_83_3, zk_88, zw_88, zq_88_0, zq_88_1, zq_88_2, zq_88_3, zq_88_4, zq_88_5, zk_84, zw_84, zq_84_0, e85, n1, a3, g64]
  · have a3 := fun P => hB6 (e + 8) P (by omega)
    rw [ml6]
    simp (disch := omega) only [↓zs_177_116, ↓zs_177_117, ↓zs_177_120, ↓zs_177_121, ↓zs_177_124, ↓zs_177_125, ↓zs_177_126, ↓zs_177_127, ↓zs_177_130, ↓zs_177_131, ↓zs_177_132, ↓zs_177_133, ↓zs_177_134, ↓zs_177_137, zx_pu_s, zx_pu_n, zx_rv_s, zx_rv_n, true_and, and_true, true_or, or_true, zb_0, zb_1, zq_lcl, zq_lcg, zq_lce, eq_self, ite_true, ite_false, zk_138, zw_138, zk_139, zw_139, zk_140, zw_140, zk_141, zw_141, zk_142, zw_142, zk_143, zw_143, zk_144, zw_144, zk_145, zw_145, zk_146, zw_146, zk_147, zw_147, zk_148, zw_148, zk_149, zw_149, zk_150, zw_150, zk_151, zw_151, zk_152, zw_152, zq_138_1, zq_138_2, zq_138_3, zq_138_4, zq_138_16, zq_138_19, zq_138_20, zq_138_24, zq_138_25, zq_138_26, zq_138_27, zq_138_31, zq_138_32, zq_138_33, zin_nI, nI_clamp, r35, a3]
end E3
