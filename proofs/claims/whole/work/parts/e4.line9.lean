/-! lines: snow -/
section E4
variable {Lh n : Nat} {b : Nat → Nat} {I Im : zx_MI} {J Jm : zx_MJ} {T : zTk} {F : Nat → Int32}
/-- a row with one more snow -/
def zf_snw (F : Nat → Int32) (M a g : Nat) : Nat → Int32 := zu1 (zu1 (zu1 F (37 + 2 * M) (nI a)) (37 + 2 * M + 1) (nI g)) 5 (nI (M + 1))
theorem zf_snw_o {M a g : Nat} : (∀ j, ¬ (j = 5 ∨ j = 37 + 2 * M ∨ j = 37 + 2 * M + 1) → zf_snw F M a g j = F j) ∧ zf_snw F M a g (37 + 2 * M) = nI a ∧ zf_snw F M a g (37 + 2 * M + 1) = nI g ∧ zf_snw F M a g 5 = nI (M + 1) := by
  unfold zf_snw
  refine ⟨fun j h => ?_, ?_, ?_, zu1_s _ _ _⟩
  · rw [zu1_n (by omega), zu1_n (by omega), zu1_n (by omega)]
  · rw [zu1_n (by omega), zu1_n (by omega), zu1_s]
  · rw [zu1_n (by omega), zu1_s]
theorem zSnowFin {I2 : zx_MI} {T2 : zTk} {a g : Nat} (hc : zPc I J b n T F) (pf : zPf F) (M4 : zo F < 4) (a3 : a < 1000) (g3 : g < 1000) (f : ∀ c j, ¬ ((c = 84 ∧ 2 ≤ j) ∨ (c = 83 ∧ (j = 4 ∨ j = 5)) ∨ (c = 88 ∧ j = 11) ∨ ((c = 96 ∨ c = 97) ∧ j = zo F)) → I2 c j = I c j) (p2 : zPt I2 b n T2) (h6 : I2 84 6 = nI 0) (h7 : I2 84 7 = -1) (e11 : I2 88 11 = nI (zo F + 1)) (e1 : I2 96 (zo F) = nI a) (e2 : I2 97 (zo F) = nI g) : zPc I2 J b n T2 (zf_snw F (zo F) a g) ∧ zPf (zf_snw F (zo F) a g) := by
  have v := pf.1
  obtain ⟨⟨vw, vh, vN, w8, h8, N8⟩, vs⟩ := v.1
  obtain ⟨ek, k1, k2, k3⟩ := zf_snw_o (F := F) (M := zo F) (a := a) (g := g)
  have l10 := v.2.2.2.2.1.2.1
  generalize hF2 : zf_snw F (zo F) a g = F2 at *
  have ewF : zw F2 = zw F := by unfold zw; rw [ek 1 (by omega)]
  have ehF : zh F2 = zh F := by unfold zh; rw [ek 2 (by omega)]
  have enF : zn F2 = zn F := by unfold zn; rw [ek 3 (by omega)]
  have etF : zt F2 = zt F := by unfold zt; rw [ek 133 (by omega)]
  have elF : zl F2 = zl F := by unfold zl; rw [ek 4 (by omega)]
  have eoF : zo F2 = zo F + 1 := by show zf_nat (F2 5) = _; rw [k3, zf_nat, nI_clamp (by omega)]
  have ekF : zk F2 = zk F := by unfold zk; rw [ek 385 (by omega)]
  have v2 : zV F2 0 := by
    obtain ⟨v1, v2, v3, v4, v5, v6, v7, v8⟩ := v
    refine ⟨⟨?_, fun s hs => ?_⟩, fun j hj => ?_, fun j s hj hs hne => ?_, ⟨?_, ?_, fun i hi => ?_⟩, zV_let (ek 4 (by omega)) (fun j h1 h2 => ek j (by omega)) v5, zV_law (ek 6 (by omega)) (fun j h1 => ek j (by omega)) v6, ?_, ?_⟩
    · rw [ek 1 (by omega), ek 2 (by omega), ek 3 (by omega), ewF, ehF, enF]; exact v1.1
    · rw [ek (109 + s) (by omega), ek (125 + s) (by omega), ek (117 + s) (by omega), ewF, ehF, enF]; exact vs s hs
    · rw [ek (45 + j) (by omega)]; exact v2 j hj
    · rw [ek (45 + j) (by omega)] at hne
      rw [ewF, ehF, ek (109 + s) (by omega)]; exact v3 j s hj hs hne
    · rw [eoF]; exact k3
    · rw [eoF]; omega
    · rw [eoF] at hi
      by_cases q : i = zo F
      · rw [q, k1, k2]; exact ⟨a, g, by omega, by omega, rfl, rfl⟩
      · rw [ek (37 + 2 * i) (by omega), ek (37 + 2 * i + 1) (by omega)]; exact v4.2.2 i (by omega)
    · rw [etF, ek 133 (by omega)]; exact v7
    · rw [etF]; exact v8
  have G : ∀ j, ¬ (j = 5 ∨ j = 37 + 2 * zo F ∨ j = 37 + 2 * zo F + 1) → zf_G F2 j = zf_G F j := fun j h => zf_G_k v (fun i _ _ _ _ => ek i (by omega)) (ek 133 (by omega)) (ek j h)
  obtain ⟨-, -, -, sq, st⟩ := hc
  refine ⟨⟨p2, h6, h7, ?_, ?_⟩, v2, fun s h1 h2 => ?_, fun i hi => ?_⟩
  · obtain ⟨r1, r2, r3, r4, r5, r6, r7, r8, r9, r10⟩ := sq
    unfold zR_sq zR_ground zR_snow
    rw [elF, eoF, ekF]
    refine ⟨?_, ?_, ?_, ?_, ?_, fun j hj => ?_, ⟨?_, fun i hi => ?_⟩, fun i hi => ?_, ?_, fun j hj => ?_⟩
    · rw [f 88 6 (by omega), ek 1 (by omega)]; exact r1
    · rw [f 88 7 (by omega), ek 2 (by omega)]; exact r2
    · rw [f 88 8 (by omega), ek 3 (by omega)]; exact r3
    · rw [f 88 9 (by omega), ek 0 (by omega)]; exact r4
    · rw [f 88 10 (by omega), ek 4 (by omega)]; exact r5
    · rw [ek (45 + j) (by omega)]; exact r6 j hj
    · rw [e11, k3]
    · by_cases q : i = zo F
      · rw [q, k1, k2]; exact ⟨e1, e2⟩
      · rw [f (88 + 8) i (by omega), f (88 + 9) i (by omega), ek (37 + 2 * i) (by omega), ek (37 + 2 * i + 1) (by omega)]; exact r7.2 i (by omega)
    · rw [f (88 + 5) i (by omega), f (88 + 6) i (by omega), f (88 + 7) i (by omega), ek (7 + 3 * i) (by omega), ek (7 + 3 * i + 1) (by omega), ek (7 + 3 * i + 2) (by omega)]; exact r8 i hi
    · rw [f (88 + 1) 3 (by omega)]; exact r9
    · rw [f (88 + 2) j (by omega), ek (386 + j) (by omega)]; exact r10 j hj
  · refine ⟨by rw [f 98 3 (by omega), G 133 (by omega)]; exact st.1, fun s hs => ?_⟩
    rw [f (98 + 1) s (by omega), f (98 + 2) s (by omega), f (98 + 3) s (by omega), G (109 + s) (by omega), G (117 + s) (by omega), G (125 + s) (by omega)]; exact st.2 s hs
  · rw [enF] at h1
    rw [ek (125 + s) (by omega)]; exact pf.2.1 s h1 h2
  · rw [elF] at hi
    rw [ek (7 + 3 * i + 1) (by omega), enF]; exact pf.2.2 i hi
theorem sc_addSnow {M a g : Nat} (h11 : I 88 11 = nI M) (hM : M < 4) : ∀ d P, zx_rn d 53 [.ref 88, .int (nI a), .int (nI g)] (zx_LL Lh) I J P = P none (zx_LL Lh) (zx_u (zx_u (zx_u I 96 M (nI a)) 97 M (nI g)) 88 11 (nI (M + 1))) J := by
  intro d P
  have l0 : (nI M < nI 0) = False := eq_false (by rw [nI_ltI (by omega) (by omega)]; omega)
  have l4 : (nI M < nI 4) = True := eq_true (by rw [nI_ltI (by omega) (by omega)]; omega)
  have w1 : ∀ x1, zx_u I 96 M x1 88 11 = nI M := fun x1 => by rw [zu_n (by omega)]; exact h11
  have w2 : ∀ x1 x2, zx_u (zx_u I 96 M x1) 97 M x2 88 11 = nI M := fun x1 x2 => by rw [zu_n (by omega), zu_n (by omega)]; exact h11
  rw [ze_53]
  simp (disch := omega) only [↓zs_53_0, ↓zs_53_1, ↓zs_53_4, ↓zs_53_7, ↓zs_53_8, ↓zs_53_11, ↓zs_53_12, ↓zs_53_15, ↓zs_53_16, ↓zs_53_19, ↓zs_53_20, ↓zs_53_23, ↓zs_53_24, ↓zs_53_25, ↓zs_53_26, ↓zs_53_29, ↓zs_53_30, ↓zs_53_33, ↓zs_53_34, ↓zs_53_35, ↓zs_53_36, ↓zs_53_37, ↓zs_53_40, ↓zs_53_41, ↓zs_53_42, ↓zs_53_45, zx_pu_s, zx_pu_n, zx_rv_s, zx_rv_n, true_and, and_true, true_or, or_true, zb_0, zb_1, zq_lcl, zq_lcg, zq_lce, eq_self, ite_true, ite_false, zk_84, zw_84, zq_84_0, zk_88, zw_88, zk_89, zw_89, zk_90, zw_90, zk_91, zw_91, zk_92, zw_92, zk_93, zw_93, zk_94, zw_94, zk_95, zw_95, zk_96, zw_96, zk_97, zw_97, zk_98, zw_98, zk_99, zw_99, zk_100, zw_100, zk_101, zw_101, zq_88_0, zq_88_1, zq_88_2, zq_88_3, zq_88_4, zq_88_5, zq_89_0, zq_89_1, zq_89_2, zq_98_0, zq_98_1, zq_98_2, h11, l0, l4, w1, w2, zin_nI, nI_clamp, nI_add]
theorem zSnow (hk : T.2.2.1 ≠ 29) (hc : zPc I J b n T F) (hm : zPm Im b n T F) (pf : zPf F) : zLn Lh b n T I J Im Jm 38 [.ref 83] 178 [.ref 138] 9 := by
  have v := pf.1
  have vo := v.2.2.2.1.1
  have o4 := v.2.2.2.1.2.1
  have e11 : I 88 11 = nI (zo F) := hc.2.2.2.1.2.2.2.2.2.2.1.1.trans vo
  have n1 : (nI 1 = nI 0) = False := eq_false (by decide)
  have m5 : Im 142 5 = nI (zo F) := by rw [hm.2]; exact vo
  have b11 := hm.1.2.2.2.2
  have hn1 := fun {I : zx_MI} {f s : Nat} (z : zBad I f s) d x P => sp_eats1 (Lh := Lh) (J := Jm) (d := d) (x := x) (P := P) z
  have hf1 := fun {I : zx_MI} {f s : Nat} (z : zBad I f s) d x P => sp_fails1 (Lh := Lh) (J := Jm) (d := d) (x := x) (P := P) z
  have hm1 := fun {I : zx_MI} {f s : Nat} (z : zBad I f s) d lo hi P => sp_num1 (Lh := Lh) (J := Jm) (lo := lo) (hi := hi) z d P
  have hcp := hc.1
  by_cases L1 : zo F = 4
  · left
    have hf := fun d P => sc_flt (Lh := Lh) (J := J) (d := d) (f := 4) (P := P) hcp.2.2.1.2.1
    have hfm := fun d P => sp_fails (Lh := Lh) (J := Jm) (d := d) (f := 4) (P := P) hm.1
    rw [show zMf 4 T.2.2.1 = 4 from if_neg hk] at hfm
    obtain ⟨z1, z2⟩ := zFk1_9 I 4 T.1
    have bd : zBad (zMb Im 4 T.1) 4 T.1 := zMb_b (by decide) (by decide)
    have bd11 := bd.2.2.1
    have n4 : (nI 4 = nI 0) = False := eq_false (by decide)
    have l8 : (nI 4 < nI 4) = False := eq_false (by decide)
    rw [L1] at e11 m5
    refine ⟨4, T.1, _, J, _, by decide, by decide, zFk1_C z1, zFkJ_r J, z2, fun d P hd => ?_, zFk2_M (zFk2_b _ _ _), .inl bd, fun d P hd => ?_⟩
    · obtain ⟨e, rfl⟩ : ∃ e, d = e + 9 := ⟨d - 9, by omega⟩
      rw [ze_38]
      simp (disch := omega) only [↓zs_38_0, ↓zs_38_1, ↓zs_38_4, ↓zs_38_7, ↓zs_38_8, ↓zs_38_11, ↓zs_38_12, ↓zs_38_15, ↓zs_38_16, ↓zs_38_19, zx_pu_s, zx_pu_n, zx_rv_s, zx_rv_n, true_and, and_true, true_or, or_true, zb_0, zb_1, zq_lcl, zq_lcg, zq_lce, eq_self, ite_true, ite_false, zk_83, zw_83, zq_83_0, zq_83_1, zq_83_2, zq_83_3, zk_88, zw_88, zq_88_0, zq_88_1, zq_88_2, zq_88_3, zq_88_4, zq_88_5, zk_84, zw_84, zq_84_0, e11, l8, hf]
    · obtain ⟨e, rfl⟩ : ∃ e, d = e + 9 := ⟨d - 9, by omega⟩
      rw [ze_178]
      simp (disch := omega) only [↓zs_178_0, ↓zs_178_1, ↓zs_178_4, ↓zs_178_5, ↓zs_178_6, ↓zs_178_7, ↓zs_178_10, ↓zs_178_11, ↓zs_178_12, ↓zs_178_15, ↓zs_178_16, ↓zs_178_19, ↓zs_178_22, zx_pu_s, zx_pu_n, zx_rv_s, zx_rv_n, true_and, and_true, true_or, or_true, zb_0, zb_1, zq_lcl, zq_lcg, zq_lce, eq_self, ite_true, ite_false, zk_138, zw_138, zk_139, zw_139, zk_140, zw_140, zk_141, zw_141, zk_142, zw_142, zk_143, zw_143, zk_144, zw_144, zk_145, zw_145, zk_146, zw_146, zk_147, zw_147, zk_148, zw_148, zk_149, zw_149, zk_150, zw_150, zk_151, zw_151, zk_152, zw_152, zq_138_1, zq_138_2, zq_138_3, zq_138_4, zq_138_16, zq_138_19, zq_138_20, zq_138_24, zq_138_25, zq_138_26, zq_138_27, zq_138_31, zq_138_32, zq_138_33, zin_nI, nI_clamp, m5, hfm, bd11, n4]
  have L8 : (nI (zo F) < nI 4) = True := eq_true (by rw [nI_ltI (by omega) (by omega)]; omega)
  have L8f : (nI (zo F) = nI 4) = False := zq_ne L1 (by omega) (by omega)
  obtain ⟨I1, f1, c1, hA⟩ := zPc_adv (Lh := Lh) hc
  obtain ⟨Im1, g1, m1, hB⟩ := zPm_nxt (Lh := Lh) (Jm := Jm) hm
  have tle1 := (zl_tk2_nx b hc.1.2.2.2.1.1).2
  generalize hT1 : zf_nx b n T.2.1 = T1 at *
  have tk1 := c1.1.2.2.2
  have p1 := c1.1
  have md1 := m1.1
  have cl1 : ∀ e P, zx_rn (e + 9) 38 [.ref 83] (zx_LL Lh) I J P = zx_wp (e + 9) 38 27 [.ref 83, zx_u0] [] (zx_LL Lh) I1 J P := fun e P => by
    have a1 := fun P => hA (e + 8) P (by omega)
    rw [ze_38]
    simp (disch := omega) only [↓zs_38_0, ↓zs_38_1, ↓zs_38_4, ↓zs_38_7, ↓zs_38_8, ↓zs_38_11, ↓zs_38_12, ↓zs_38_15, ↓zs_38_16, ↓zs_38_19, ↓zs_38_20, ↓zs_38_21, ↓zs_38_24, zx_pu_s, zx_pu_n, zx_rv_s, zx_rv_n, true_and, and_true, true_or, or_true, zb_0, zb_1, zq_lcl, zq_lcg, zq_lce, eq_self, ite_true, ite_false, zk_83, zw_83, zq_83_0, zq_83_1, zq_83_2, zq_83_3, zk_88, zw_88, zq_88_0, zq_88_1, zq_88_2, zq_88_3, zq_88_4, zq_88_5, zk_84, zw_84, zq_84_0, e11, L8, a1]
  have ml1 : ∀ e P, zx_rn (e + 9) 178 [.ref 138] (zx_LL Lh) Im Jm P = zx_wp (e + 9) 178 27 [.ref 138, zx_u0, zx_u0] [] (zx_LL Lh) Im1 Jm P := fun e P => by
    have a1 := fun P => hB (e + 8) P (by omega)
    rw [ze_178]
    simp (disch := omega) only [↓zs_178_0, ↓zs_178_1, ↓zs_178_4, ↓zs_178_5, ↓zs_178_6, ↓zs_178_7, ↓zs_178_10, ↓zs_178_11, ↓zs_178_12, ↓zs_178_15, ↓zs_178_16, ↓zs_178_19, ↓zs_178_22, ↓zs_178_23, ↓zs_178_24, zx_pu_s, zx_pu_n, zx_rv_s, zx_rv_n, true_and, and_true, true_or, or_true, zb_0, zb_1, zq_lcl, zq_lcg, zq_lce, eq_self, ite_true, ite_false, zk_138, zw_138, zk_139, zw_139, zk_140, zw_140, zk_141, zw_141, zk_142, zw_142, zk_143, zw_143, zk_144, zw_144, zk_145, zw_145, zk_146, zw_146, zk_147, zw_147, zk_148, zw_148, zk_149, zw_149, zk_150, zw_150, zk_151, zw_151, zk_152, zw_152, zq_138_1, zq_138_2, zq_138_3, zq_138_4, zq_138_16, zq_138_19, zq_138_20, zq_138_24, zq_138_25, zq_138_26, zq_138_27, zq_138_31, zq_138_32, zq_138_33, zin_nI, nI_clamp, m5, L8f, b11, a1]
  have tb50 : ∀ {Ib : zx_MI} {f s : Nat}, zBad Ib f s → ∀ e l2 P, zx_wp (e + 9) 178 50 [.ref 138, .int l2, zx_u0] [] (zx_LL Lh) Ib Jm P = P none (zx_LL Lh) Ib Jm := by
    intro Ib f s bd e l2 P
    have k3 := fun lo hi P => hm1 bd (e + 2) lo hi P
    have bd11 := bd.2.2.1
    have cf := zBad_k bd
    simp (disch := omega) only [↓zs_178_50, ↓zs_178_51, ↓zs_178_52, ↓zs_178_54, ↓zs_178_57, ↓zs_178_58, ↓zs_178_59, ↓zs_178_62, ↓zs_178_65, zx_pu_s, zx_pu_n, zx_rv_s, zx_rv_n, true_and, and_true, true_or, or_true, zb_0, zb_1, zq_lcl, zq_lcg, zq_lce, eq_self, ite_true, ite_false, zk_138, zw_138, zk_139, zw_139, zk_140, zw_140, zk_141, zw_141, zk_142, zw_142, zk_143, zw_143, zk_144, zw_144, zk_145, zw_145, zk_146, zw_146, zk_147, zw_147, zk_148, zw_148, zk_149, zw_149, zk_150, zw_150, zk_151, zw_151, zk_152, zw_152, zq_138_1, zq_138_2, zq_138_3, zq_138_4, zq_138_16, zq_138_19, zq_138_20, zq_138_24, zq_138_25, zq_138_26, zq_138_27, zq_138_31, zq_138_32, zq_138_33, k3, bd11, cf]
  by_cases hx : zf_nk T1 (nI 0) (nI 999) = 0
  case neg =>
    left
    have hcN := sc_numN (Lh := Lh) (J := J) p1 hx
    obtain ⟨bd, x, hmN⟩ := sp_numN (Lh := Lh) (J := Jm) md1 hx
    obtain ⟨fb1, fb2⟩ := zf_nk_b hx
    obtain ⟨z1, z2⟩ := zFk1_9 I1 (zf_nk T1 (nI 0) (nI 999)) T1.1
    have k1 := hn1 bd
    have k2 := hf1 bd
    have t := tb50 bd
    have fm := zFk2_b Im1 (zf_nk T1 (nI 0) (nI 999)) T1.1
    generalize zMb Im1 (zf_nk T1 (nI 0) (nI 999)) T1.1 = Ib at *
    refine ⟨_, _, _, J, Ib, fb1, fb2, zFk1_C (zFk1_t f1 z1), zFkJ_r J, z2, fun d P hd => ?_, zFk2_M (zFk2_t g1 fm), .inl bd, fun d P hd => ?_⟩
    · obtain ⟨e, rfl⟩ : ∃ e, d = e + 9 := ⟨d - 9, by omega⟩
      have a3 := fun P => hcN (e + 8) P (by omega)
      rw [cl1]
      simp (disch := omega) only [↓zs_38_27, ↓zs_38_28, ↓zs_38_29, ↓zs_38_32, ↓zs_38_35, ↓zs_38_38, ↓zs_38_39, zx_pu_s, zx_pu_n, zx_rv_s, zx_rv_n, true_and, and_true, true_or, or_true, zb_0, zb_1, zq_lcl, zq_lcg, zq_lce, eq_self, ite_true, ite_false, zk_83, zw_83, zq_83_0, zq_83_1, zq_83_2, zq_83_3, zk_88, zw_88, zq_88_0, zq_88_1, zq_88_2, zq_88_3, zq_88_4, zq_88_5, zk_84, zw_84, zq_84_0, a3]
    · obtain ⟨e, rfl⟩ : ∃ e, d = e + 9 := ⟨d - 9, by omega⟩
      have a3 := fun P => hmN (e + 8) P (by omega)
      rw [ml1]
      simp (disch := omega) only [↓zs_178_27, ↓zs_178_28, ↓zs_178_29, ↓zs_178_32, ↓zs_178_35, ↓zs_178_36, ↓zs_178_37, ↓zs_178_39, ↓zs_178_42, ↓zs_178_45, ↓zs_178_46, ↓zs_178_47, zx_pu_s, zx_pu_n, zx_rv_s, zx_rv_n, true_and, and_true, true_or, or_true, zb_0, zb_1, zq_lcl, zq_lcg, zq_lce, eq_self, ite_true, ite_false, zk_138, zw_138, zk_139, zw_139, zk_140, zw_140, zk_141, zw_141, zk_142, zw_142, zk_143, zw_143, zk_144, zw_144, zk_145, zw_145, zk_146, zw_146, zk_147, zw_147, zk_148, zw_148, zk_149, zw_149, zk_150, zw_150, zk_151, zw_151, zk_152, zw_152, zq_138_1, zq_138_2, zq_138_3, zq_138_4, zq_138_16, zq_138_19, zq_138_20, zq_138_24, zq_138_25, zq_138_26, zq_138_27, zq_138_31, zq_138_32, zq_138_33, a3, k1, k2, t]
  obtain ⟨-, a9⟩ := zf_nk_lt hx tk1.1.2.2.2 (by omega) (by omega)
  obtain ⟨I2, f2, g42, p2, hA2⟩ := sc_numY (Lh := Lh) (J := J) p1 hx
  obtain ⟨Im2, g2, md2, hB2⟩ := sp_numY (Lh := Lh) (J := Jm) md1 hx
  obtain ⟨tk2, tle2⟩ := zl_tk2_nx b tk1.1.1
  generalize hT2 : zf_nx b n T1.2.1 = T2 at *
  generalize hAA : T1.2.2.2 = a at *
  have f12 := zFk1_t f1 (zFk_num f2)
  have g12 := zFk2_t g1 (zFk_nxt g2)
  obtain ⟨-, -, -, -, kw212⟩ := zTk_kw tk2
  have cl2 : ∀ e P, zx_rn (e + 9) 38 [.ref 83] (zx_LL Lh) I J P = zx_wp (e + 9) 38 45 [.ref 83, .int (nI a)] [] (zx_LL Lh) I2 J P := fun e P => by
    have a1 := fun P => hA2 (e + 8) P (by omega)
    rw [cl1]
    simp (disch := omega) only [↓zs_38_27, ↓zs_38_28, ↓zs_38_29, ↓zs_38_32, ↓zs_38_35, ↓zs_38_38, ↓zs_38_39, ↓zs_38_40, ↓zs_38_41, ↓zs_38_44, zx_pu_s, zx_pu_n, zx_rv_s, zx_rv_n, true_and, and_true, true_or, or_true, zb_0, zb_1, zq_lcl, zq_lcg, zq_lce, eq_self, ite_true, ite_false, zk_83, zw_83, zq_83_0, zq_83_1, zq_83_2, zq_83_3, zk_88, zw_88, zq_88_0, zq_88_1, zq_88_2, zq_88_3, zq_88_4, zq_88_5, zk_84, zw_84, zq_84_0, n1, a1, g42]
  have ml2 : ∀ e P, zx_rn (e + 9) 178 [.ref 138] (zx_LL Lh) Im Jm P = zx_wp (e + 9) 178 36 [.ref 138, .int (nI a), zx_u0] [] (zx_LL Lh) Im2 Jm P := fun e P => by
    have a1 := fun P => hB2 (e + 8) P (by omega)
    rw [ml1]
    simp (disch := omega) only [↓zs_178_27, ↓zs_178_28, ↓zs_178_29, ↓zs_178_32, ↓zs_178_35, zx_pu_s, zx_pu_n, zx_rv_s, zx_rv_n, true_and, and_true, true_or, or_true, zb_0, zb_1, zq_lcl, zq_lcg, zq_lce, eq_self, ite_true, ite_false, zk_138, zw_138, zk_139, zw_139, zk_140, zw_140, zk_141, zw_141, zk_142, zw_142, zk_143, zw_143, zk_144, zw_144, zk_145, zw_145, zk_146, zw_146, zk_147, zw_147, zk_148, zw_148, zk_149, zw_149, zk_150, zw_150, zk_151, zw_151, zk_152, zw_152, zq_138_1, zq_138_2, zq_138_3, zq_138_4, zq_138_16, zq_138_19, zq_138_20, zq_138_24, zq_138_25, zq_138_26, zq_138_27, zq_138_31, zq_138_32, zq_138_33, a1]
  by_cases q11 : T2.2.2.1 = 11
  case neg =>
    left
    have hcN := sc_expN (Lh := Lh) (J := J) p2 (fun h => q11 (kw212.mp h))
    have hn := fun d P => sp_eatsN (Lh := Lh) (J := Jm) (d := d) (P := P) md2 (q := 11) (by decide) q11
    have hf := fun d P => sp_fails (Lh := Lh) (J := Jm) (d := d) (f := 2) (P := P) md2
    rw [show zMf 2 T2.2.2.1 = zl_mp T2.2.2.1 from rfl] at hf
    obtain ⟨mb1, mb2⟩ := zl_mp_b T2.2.2.1
    have bd : zBad (zMb Im2 (zl_mp T2.2.2.1) T2.1) (zl_mp T2.2.2.1) T2.1 := zMb_b mb1 mb2
    have t := tb50 bd
    obtain ⟨z1, z2⟩ := zFk1_9 I2 (zl_mp T2.2.2.1) T2.1
    refine ⟨_, _, _, J, _, mb1, mb2, zFk1_C (zFk1_t f12 z1), zFkJ_r J, z2, fun d P hd => ?_, zFk2_M (zFk2_t g12 (zFk2_b _ _ _)), .inl bd, fun d P hd => ?_⟩
    · obtain ⟨e, rfl⟩ : ∃ e, d = e + 9 := ⟨d - 9, by omega⟩
      have a3 := fun P => hcN (e + 8) P (by omega)
      rw [cl2]
      simp (disch := omega) only [↓zs_38_45, ↓zs_38_46, ↓zs_38_49, ↓zs_38_52, ↓zs_38_55, ↓zs_38_58, ↓zs_38_59, ↓zs_38_60, ↓zs_38_62, ↓zs_38_65, ↓zs_38_68, ↓zs_38_69, zx_pu_s, zx_pu_n, zx_rv_s, zx_rv_n, true_and, and_true, true_or, or_true, zb_0, zb_1, zq_lcl, zq_lcg, zq_lce, eq_self, ite_true, ite_false, zk_83, zw_83, zq_83_0, zq_83_1, zq_83_2, zq_83_3, zk_88, zw_88, zq_88_0, zq_88_1, zq_88_2, zq_88_3, zq_88_4, zq_88_5, zk_84, zw_84, zq_84_0, a3]
    · obtain ⟨e, rfl⟩ : ∃ e, d = e + 9 := ⟨d - 9, by omega⟩
      rw [ml2]
      simp (disch := omega) only [↓zs_178_36, ↓zs_178_37, ↓zs_178_39, ↓zs_178_42, ↓zs_178_45, ↓zs_178_46, ↓zs_178_47, zx_pu_s, zx_pu_n, zx_rv_s, zx_rv_n, true_and, and_true, true_or, or_true, zb_0, zb_1, zq_lcl, zq_lcg, zq_lce, eq_self, ite_true, ite_false, zk_138, zw_138, zk_139, zw_139, zk_140, zw_140, zk_141, zw_141, zk_142, zw_142, zk_143, zw_143, zk_144, zw_144, zk_145, zw_145, zk_146, zw_146, zk_147, zw_147, zk_148, zw_148, zk_149, zw_149, zk_150, zw_150, zk_151, zw_151, zk_152, zw_152, zq_138_1, zq_138_2, zq_138_3, zq_138_4, zq_138_16, zq_138_19, zq_138_20, zq_138_24, zq_138_25, zq_138_26, zq_138_27, zq_138_31, zq_138_32, zq_138_33, hn, hf, t]
  obtain ⟨I3, f3, p3, hA3⟩ := sc_expY (Lh := Lh) (J := J) p2 (kw212.mpr q11)
  obtain ⟨Im3, g3, md3, hB3⟩ := sp_eatsY (Lh := Lh) (J := Jm) md2 (by omega)
  rw [q11] at hB3
  obtain ⟨tk3, tle3⟩ := zl_tk2_nx b tk2.1.1
  generalize hT3 : zf_nx b n T2.2.1 = T3 at *
  have f13 := zFk1_t f12 (zFk_adv f3)
  have g13 := zFk2_t g12 (zFk_nxt g3)
  have cl3 : ∀ e P, zx_rn (e + 9) 38 [.ref 83] (zx_LL Lh) I J P = zx_wp (e + 9) 38 58 [.ref 83, .int (nI a)] [] (zx_LL Lh) I3 J P := fun e P => by
    have a2 := fun P => hA3 (e + 8) P (by omega)
    rw [cl2]
    simp (disch := omega) only [↓zs_38_45, ↓zs_38_46, ↓zs_38_49, ↓zs_38_52, ↓zs_38_55, zx_pu_s, zx_pu_n, zx_rv_s, zx_rv_n, true_and, and_true, true_or, or_true, zb_0, zb_1, zq_lcl, zq_lcg, zq_lce, eq_self, ite_true, ite_false, zk_83, zw_83, zq_83_0, zq_83_1, zq_83_2, zq_83_3, zk_88, zw_88, zq_88_0, zq_88_1, zq_88_2, zq_88_3, zq_88_4, zq_88_5, zk_84, zw_84, zq_84_0, a2, n1]
  have ml3 : ∀ e P, zx_rn (e + 9) 178 [.ref 138] (zx_LL Lh) Im Jm P = zx_wp (e + 9) 178 50 [.ref 138, .int (nI a), zx_u0] [] (zx_LL Lh) Im3 Jm P := fun e P => by
    have a2 := fun P => hB3 (e + 8) P (by omega)
    rw [ml2]
    simp (disch := omega) only [↓zs_178_36, ↓zs_178_37, ↓zs_178_39, ↓zs_178_42, ↓zs_178_45, ↓zs_178_46, ↓zs_178_47, zx_pu_s, zx_pu_n, zx_rv_s, zx_rv_n, true_and, and_true, true_or, or_true, zb_0, zb_1, zq_lcl, zq_lcg, zq_lce, eq_self, ite_true, ite_false, zk_138, zw_138, zk_139, zw_139, zk_140, zw_140, zk_141, zw_141, zk_142, zw_142, zk_143, zw_143, zk_144, zw_144, zk_145, zw_145, zk_146, zw_146, zk_147, zw_147, zk_148, zw_148, zk_149, zw_149, zk_150, zw_150, zk_151, zw_151, zk_152, zw_152, zq_138_1, zq_138_2, zq_138_3, zq_138_4, zq_138_16, zq_138_19, zq_138_20, zq_138_24, zq_138_25, zq_138_26, zq_138_27, zq_138_31, zq_138_32, zq_138_33, a2, n1]
  by_cases hy : zf_nk T3 (nI 1) (nI 99) = 0
  case neg =>
    left
    have hcN := sc_numN (Lh := Lh) (J := J) p3 hy
    obtain ⟨bd, x, hmN⟩ := sp_numN (Lh := Lh) (J := Jm) md3 hy
    obtain ⟨fb1, fb2⟩ := zf_nk_b hy
    obtain ⟨z1, z2⟩ := zFk1_9 I3 (zf_nk T3 (nI 1) (nI 99)) T3.1
    have bd11 := bd.2.2.1
    have cf := zBad_k bd
    have fm := zFk2_b Im3 (zf_nk T3 (nI 1) (nI 99)) T3.1
    generalize zMb Im3 (zf_nk T3 (nI 1) (nI 99)) T3.1 = Ib at *
    refine ⟨_, _, _, J, Ib, fb1, fb2, zFk1_C (zFk1_t f13 z1), zFkJ_r J, z2, fun d P hd => ?_, zFk2_M (zFk2_t g13 fm), .inl bd, fun d P hd => ?_⟩
    · obtain ⟨e, rfl⟩ : ∃ e, d = e + 9 := ⟨d - 9, by omega⟩
      have a3 := fun P => hcN (e + 8) P (by omega)
      rw [cl3]
      simp (disch := omega) only [↓zs_38_58, ↓zs_38_59, ↓zs_38_60, ↓zs_38_62, ↓zs_38_65, ↓zs_38_68, ↓zs_38_69, zx_pu_s, zx_pu_n, zx_rv_s, zx_rv_n, true_and, and_true, true_or, or_true, zb_0, zb_1, zq_lcl, zq_lcg, zq_lce, eq_self, ite_true, ite_false, zk_83, zw_83, zq_83_0, zq_83_1, zq_83_2, zq_83_3, zk_88, zw_88, zq_88_0, zq_88_1, zq_88_2, zq_88_3, zq_88_4, zq_88_5, zk_84, zw_84, zq_84_0, a3]
    · obtain ⟨e, rfl⟩ : ∃ e, d = e + 9 := ⟨d - 9, by omega⟩
      have a3 := fun P => hmN (e + 8) P (by omega)
      rw [ml3]
      simp (disch := omega) only [↓zs_178_50, ↓zs_178_51, ↓zs_178_52, ↓zs_178_54, ↓zs_178_57, ↓zs_178_58, ↓zs_178_59, ↓zs_178_62, ↓zs_178_65, zx_pu_s, zx_pu_n, zx_rv_s, zx_rv_n, true_and, and_true, true_or, or_true, zb_0, zb_1, zq_lcl, zq_lcg, zq_lce, eq_self, ite_true, ite_false, zk_138, zw_138, zk_139, zw_139, zk_140, zw_140, zk_141, zw_141, zk_142, zw_142, zk_143, zw_143, zk_144, zw_144, zk_145, zw_145, zk_146, zw_146, zk_147, zw_147, zk_148, zw_148, zk_149, zw_149, zk_150, zw_150, zk_151, zw_151, zk_152, zw_152, zq_138_1, zq_138_2, zq_138_3, zq_138_4, zq_138_16, zq_138_19, zq_138_20, zq_138_24, zq_138_25, zq_138_26, zq_138_27, zq_138_31, zq_138_32, zq_138_33, a3, bd11, cf]
  obtain ⟨-, g9⟩ := zf_nk_lt hy tk3.1.2.2.2 (by omega) (by omega)
  obtain ⟨I4, f4, g44, p4, hA4⟩ := sc_numY (Lh := Lh) (J := J) p3 hy
  obtain ⟨Im4, g4, md4, hB4⟩ := sp_numY (Lh := Lh) (J := Jm) md3 hy
  obtain ⟨tk4, tle4⟩ := zl_tk2_nx b tk3.1.1
  generalize hT4 : zf_nx b n T3.2.1 = T4 at *
  generalize hG : T3.2.2.2 = g at *
  have f14 := zFk1_t f13 (zFk_num f4)
  have g14 := zFk2_t g13 (zFk_nxt g4)
  have h46 : ∀ j, j = 6 ∨ j = 7 → I4 84 j = I1 84 j := fun j h => by
    rw [f4 84 j (by omega), f3 84 j (by omega), f2 84 j (by omega)]
  right
  have w10 : I4 88 11 = nI (zo F) := (f14 88 11 (by omega)).trans e11
  have hL := sc_addSnow (Lh := Lh) (J := J) (I := I4) (M := zo F) (a := a) (g := g) w10 (by omega)
  have o1 : ∀ c j, ¬ ((c = 88 ∧ j = 11) ∨ ((c = 96 ∨ c = 97) ∧ j = zo F)) → zx_u (zx_u (zx_u I4 96 (zo F) (nI a)) 97 (zo F) (nI g)) 88 11 (nI (zo F + 1)) c j = I4 c j := fun c j w => by rw [zu_n (by omega), zu_n (by omega), zu_n (by omega)]
  obtain ⟨pc7, pf7⟩ := zSnowFin (I2 := zx_u (zx_u (zx_u I4 96 (zo F) (nI a)) 97 (zo F) (nI g)) 88 11 (nI (zo F + 1))) (T2 := T4) (a := a) (g := g) hc pf (by omega) (by omega) (by omega) (fun c j w => by rw [o1 c j (by omega)]; exact f14 c j (by omega)) (zPt_f p4 (fun c j w => o1 c j (by omega))) ((o1 84 6 (by omega)).trans ((h46 6 (.inl rfl)).trans c1.2.1)) ((o1 84 7 (by omega)).trans ((h46 7 (.inr rfl)).trans c1.2.2.1)) (zu_s _ _ _ _) (by rw [zu_n (by omega), zu_n (by omega), zu_s]) (by rw [zu_n (by omega), zu_s])
  have hF4 : Im4 142 = F := by rw [← hm.2]; exact funext fun j => g14 142 j (by omega)
  have w11 := md4.2.2.2.2
  have w5 : Im4 142 5 = nI (zo F) := by rw [hF4]; exact vo
  have w51 : ∀ x1, zx_u Im4 142 (37 + 2 * zo F) x1 142 5 = nI (zo F) := fun x1 => by rw [zu_n (by omega)]; exact w5
  have w52 : ∀ x1 x2, zx_u (zx_u Im4 142 (37 + 2 * zo F) x1) 142 (37 + 2 * zo F + 1) x2 142 5 = nI (zo F) := fun x1 x2 => by rw [zu_n (by omega), zu_n (by omega)]; exact w5
  refine ⟨T4, zf_snw F (zo F) a g, zx_u (zx_u (zx_u I4 96 (zo F) (nI a)) 97 (zo F) (nI g)) 88 11 (nI (zo F + 1)), J, zx_u (zx_u (zx_u Im4 142 (37 + 2 * zo F) (nI a)) 142 (37 + 2 * zo F + 1) (nI g)) 142 5 (nI (zo F + 1)), ?_, fun c j w => by rw [o1 c j (by omega)]; exact f14 c j (by omega), zFkJ_r J, pc7, pf7, fun d P hd => ?_, zFkM_t (zFk2_M g14) (zFkM_t zFkM_u (zFkM_t zFkM_u zFkM_u)), ⟨zMd_w md4 (fun a j w => by rw [zu_n (by omega), zu_n (by omega), zu_n (by omega)]), ?_⟩, fun d P hd => ?_⟩
  · have := tk1.2.1; have := tk2.2.1; have := tk3.2.1; omega
  · obtain ⟨e, rfl⟩ : ∃ e, d = e + 9 := ⟨d - 9, by omega⟩
    have a2 := fun P => hA4 (e + 8) P (by omega)
    have a3 := fun P => hL (e + 8) P
    rw [cl3]
    simp (disch := omega) only [↓zs_38_58, ↓zs_38_59, ↓zs_38_60, ↓zs_38_62, ↓zs_38_65, ↓zs_38_68, ↓zs_38_69, ↓zs_38_70, ↓zs_38_71, ↓zs_38_74, ↓zs_38_75, ↓zs_38_76, ↓zs_38_79, ↓zs_38_82, ↓zs_38_83, zx_pu_s, zx_pu_n, zx_rv_s, zx_rv_n, true_and, and_true, true_or, or_true, zb_0, zb_1, zq_lcl, zq_lcg, zq_lce, eq_self, ite_true, ite_false, zk_83, zw_83, zq_83_0, zq_83_1, zq_83_2, zq_83_3, zk_88, zw_88, zq_88_0, zq_88_1, zq_88_2, zq_88_3, zq_88_4, zq_88_5, zk_84, zw_84, zq_84_0, zk_98, zw_98, zk_99, zw_99, zk_100, zw_100, zk_101, zw_101, zq_98_0, zq_98_1, zq_98_2, a2, n1, g44, a3]
  · rw [zu_r, zr_s, zu_r, zr_s, zu_r, zr_s, hF4]; rfl
  · obtain ⟨e, rfl⟩ : ∃ e, d = e + 9 := ⟨d - 9, by omega⟩
    have a2 := fun P => hB4 (e + 8) P (by omega)
    rw [ml3]
    simp (disch := omega) only [↓zs_178_50, ↓zs_178_51, ↓zs_178_52, ↓zs_178_54, ↓zs_178_57, ↓zs_178_58, ↓zs_178_59, ↓zs_178_62, ↓zs_178_65, ↓zs_178_66, ↓zs_178_67, ↓zs_178_70, ↓zs_178_72, ↓zs_178_73, ↓zs_178_74, ↓zs_178_77, ↓zs_178_78, ↓zs_178_79, ↓zs_178_80, ↓zs_178_81, ↓zs_178_82, zx_pu_s, zx_pu_n, zx_rv_s, zx_rv_n, true_and, and_true, true_or, or_true, zb_0, zb_1, zq_lcl, zq_lcg, zq_lce, eq_self, ite_true, ite_false, zk_138, zw_138, zk_139, zw_139, zk_140, zw_140, zk_141, zw_141, zk_142, zw_142, zk_143, zw_143, zk_144, zw_144, zk_145, zw_145, zk_146, zw_146, zk_147, zw_147, zk_148, zw_148, zk_149, zw_149, zk_150, zw_150, zk_151, zw_151, zk_152, zw_152, zq_138_1, zq_138_2, zq_138_3, zq_138_4, zq_138_16, zq_138_19, zq_138_20, zq_138_24, zq_138_25, zq_138_26, zq_138_27, zq_138_31, zq_138_32, zq_138_33, a2, w11, zin_nI, nI_clamp, pk_mul, nI_add, w5]
    simp (disch := omega) only [↓zs_178_83, ↓zs_178_84, ↓zs_178_87, ↓zs_178_89, ↓zs_178_90, ↓zs_178_91, ↓zs_178_94, ↓zs_178_95, ↓zs_178_96, ↓zs_178_97, ↓zs_178_98, ↓zs_178_99, ↓zs_178_100, ↓zs_178_101, ↓zs_178_102, ↓zs_178_103, ↓zs_178_106, ↓zs_178_107, ↓zs_178_108, ↓zs_178_109, ↓zs_178_110, ↓zs_178_111, ↓zs_178_112, zx_pu_s, zx_pu_n, zx_rv_s, zx_rv_n, true_and, and_true, true_or, or_true, zb_0, zb_1, zq_lcl, zq_lcg, zq_lce, eq_self, ite_true, ite_false, zk_138, zw_138, zk_139, zw_139, zk_140, zw_140, zk_141, zw_141, zk_142, zw_142, zk_143, zw_143, zk_144, zw_144, zk_145, zw_145, zk_146, zw_146, zk_147, zw_147, zk_148, zw_148, zk_149, zw_149, zk_150, zw_150, zk_151, zw_151, zk_152, zw_152, zq_138_1, zq_138_2, zq_138_3, zq_138_4, zq_138_16, zq_138_19, zq_138_20, zq_138_24, zq_138_25, zq_138_26, zq_138_27, zq_138_31, zq_138_32, zq_138_33, zin_nI, nI_clamp, pk_mul, nI_add, w51, w52]
end E4
