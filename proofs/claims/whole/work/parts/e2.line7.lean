/-! lines: letters -/
section E2
variable {Lh n : Nat} {b : Nat → Nat} {I Im : zx_MI} {J Jm : zx_MJ} {T : zTk} {F : Nat → Int32}
/-- a row with one more letter -/
def zf_ltr (F : Nat → Int32) (L a g : Nat) (y : Int32) : Nat → Int32 := zu1 (zu1 (zu1 (zu1 F (7 + 3 * L) (nI a)) (7 + 3 * L + 1) (nI g)) (7 + 3 * L + 2) y) 4 (nI (L + 1))
theorem zf_ltr_o {L a g : Nat} {y : Int32} : (∀ j, ¬ (j = 4 ∨ j = 7 + 3 * L ∨ j = 7 + 3 * L + 1 ∨ j = 7 + 3 * L + 2) → zf_ltr F L a g y j = F j) ∧ zf_ltr F L a g y (7 + 3 * L) = nI a ∧ zf_ltr F L a g y (7 + 3 * L + 1) = nI g ∧ zf_ltr F L a g y (7 + 3 * L + 2) = y ∧ zf_ltr F L a g y 4 = nI (L + 1) := by
  unfold zf_ltr
  refine ⟨fun j h => ?_, ?_, ?_, ?_, zu1_s _ _ _⟩
  · rw [zu1_n (by omega), zu1_n (by omega), zu1_n (by omega), zu1_n (by omega)]
  · rw [zu1_n (by omega), zu1_n (by omega), zu1_n (by omega), zu1_s]
  · rw [zu1_n (by omega), zu1_n (by omega), zu1_s]
  · rw [zu1_n (by omega), zu1_s]
theorem zLetFin {I2 : zx_MI} {T2 : zTk} {a g : Nat} {y : Int32} (hc : zPc I J b n T F) (pf : zPf F) (L10 : zl F < 10) (a3 : a < 1000) (gN : g < zn F) (hy : zf_opt y 8) (f : ∀ c j, ¬ ((c = 84 ∧ 2 ≤ j) ∨ (c = 83 ∧ (j = 4 ∨ j = 5)) ∨ (c = 88 ∧ j = 10) ∨ ((c = 93 ∨ c = 94 ∨ c = 95) ∧ j = zl F) ∨ c = 101) → I2 c j = I c j) (p2 : zPt I2 b n T2) (h6 : I2 84 6 = nI 0) (h7 : I2 84 7 = -1) (e10 : I2 88 10 = nI (zl F + 1)) (e1 : I2 93 (zl F) = nI a) (e2 : I2 94 (zl F) = nI g) (e3 : I2 95 (zl F) = y) (e98 : ∀ s, I2 101 s = if a = 0 ∧ s = g then y else I 101 s) : zPc I2 J b n T2 (zf_ltr F (zl F) a g y) ∧ zPf (zf_ltr F (zl F) a g y) := by
  have v := pf.1
  obtain ⟨⟨vw, vh, vN, w8, h8, N8⟩, vs⟩ := v.1
  obtain ⟨ek, k1, k2, k3, k4⟩ := zf_ltr_o (F := F) (L := zl F) (a := a) (g := g) (y := y)
  have o4 := v.2.2.2.1.2.1
  have F133 := zPf_0 pf
  generalize hF2 : zf_ltr F (zl F) a g y = F2 at *
  have ewF : zw F2 = zw F := by unfold zw; rw [ek 1 (by omega)]
  have ehF : zh F2 = zh F := by unfold zh; rw [ek 2 (by omega)]
  have enF : zn F2 = zn F := by unfold zn; rw [ek 3 (by omega)]
  have etF : zt F2 = zt F := by unfold zt; rw [ek 133 (by omega)]
  have elF : zl F2 = zl F + 1 := by show zf_nat (F2 4) = _; rw [k4, zf_nat, nI_clamp (by omega)]
  have eoF : zo F2 = zo F := by unfold zo; rw [ek 5 (by omega)]
  have ekF : zk F2 = zk F := by unfold zk; rw [ek 385 (by omega)]
  have v2 : zV F2 0 := by
    obtain ⟨v1, v2, v3, v4, v5, v6, v7, v8⟩ := v
    refine ⟨⟨?_, fun s hs => ?_⟩, fun j hj => ?_, fun j s hj hs hne => ?_, zV_snow (ek 5 (by omega)) (fun j h1 h2 => ek j (by omega)) v4, ⟨?_, ?_, fun i hi => ?_⟩, zV_law (ek 6 (by omega)) (fun j h1 => ek j (by omega)) v6, ?_, ?_⟩
    · rw [ek 1 (by omega), ek 2 (by omega), ek 3 (by omega), ewF, ehF, enF]; exact v1.1
    · rw [ek (109 + s) (by omega), ek (125 + s) (by omega), ek (117 + s) (by omega), ewF, ehF, enF]; exact vs s hs
    · rw [ek (45 + j) (by omega)]; exact v2 j hj
    · rw [ek (45 + j) (by omega)] at hne
      rw [ewF, ehF, ek (109 + s) (by omega)]; exact v3 j s hj hs hne
    · rw [elF]; exact k4
    · rw [elF]; omega
    · rw [elF] at hi
      by_cases q : i = zl F
      · rw [q, k1, k2, k3]; exact ⟨⟨a, a3, rfl⟩, ⟨g, by omega, rfl⟩, hy⟩
      · rw [ek (7 + 3 * i) (by omega), ek (7 + 3 * i + 1) (by omega), ek (7 + 3 * i + 2) (by omega)]; exact v5.2.2 i (by omega)
    · rw [etF, ek 133 (by omega)]; exact v7
    · rw [etF]; exact v8
  have X : ∀ j, ¬ (j = 4 ∨ j = 7 + 3 * zl F ∨ j = 7 + 3 * zl F + 1 ∨ j = 7 + 3 * zl F + 2) → zf_lets F2 (zl F) 0 F2 j = zf_G F j := fun j h => zf_lets_p (ek 133 (by omega)) _ _ _ _ j (fun i _ hi => ⟨ek _ (by omega), ek _ (by omega), ek _ (by omega)⟩) (ek j h)
  have g8 : g < 8 := by omega
  have G : ∀ s, s < 8 → zf_G F2 (125 + s) = if a = 0 ∧ s = g then y else zf_G F (125 + s) := fun s hs => by
    show zf_lets F2 (zl F2) 0 F2 (125 + s) = _
    rw [elF, zf_lets_s, Nat.zero_add, k1, k2, k3, ek 133 (by omega), F133]
    by_cases q : a = 0
    · rw [if_pos (congrArg nI q), zf_nat, nI_clamp (by omega)]
      by_cases q2 : s = g
      · rw [q2, zu1_s, if_pos ⟨q, rfl⟩]
      · rw [zu1_n (by omega), X (125 + s) (by omega), if_neg (fun e => q2 e.2)]
    · rw [if_neg (of_eq_false (zq_ne q (by omega) (by omega))), X (125 + s) (by omega), if_neg (fun e => q e.1)]
  obtain ⟨-, -, -, sq, st⟩ := hc
  refine ⟨⟨p2, h6, h7, ?_, ?_⟩, v2, fun s h1 h2 => ?_, fun i hi => ?_⟩
  · obtain ⟨r1, r2, r3, r4, r5, r6, r7, r8, r9, r10⟩ := sq
    unfold zR_sq zR_ground zR_snow
    rw [elF, eoF, ekF]
    refine ⟨?_, ?_, ?_, ?_, ?_, fun j hj => ?_, ⟨?_, fun i hi => ?_⟩, fun i hi => ?_, ?_, fun j hj => ?_⟩
    · rw [f 88 6 (by omega), ek 1 (by omega)]; exact r1
    · rw [f 88 7 (by omega), ek 2 (by omega)]; exact r2
    · rw [f 88 8 (by omega), ek 3 (by omega)]; exact r3
    · rw [f 88 9 (by omega), ek 0 (by omega)]; exact r4
    · rw [e10, k4]
    · rw [ek (45 + j) (by omega)]; exact r6 j hj
    · rw [f 88 11 (by omega), ek 5 (by omega)]; exact r7.1
    · rw [f (88 + 8) i (by omega), f (88 + 9) i (by omega), ek (37 + 2 * i) (by omega), ek (37 + 2 * i + 1) (by omega)]; exact r7.2 i hi
    · by_cases q : i = zl F
      · rw [q, k1, k2, k3]; exact ⟨e1, e2, e3⟩
      · rw [f (88 + 5) i (by omega), f (88 + 6) i (by omega), f (88 + 7) i (by omega), ek (7 + 3 * i) (by omega), ek (7 + 3 * i + 1) (by omega), ek (7 + 3 * i + 2) (by omega)]; exact r8 i (by omega)
    · rw [f (88 + 1) 3 (by omega)]; exact r9
    · rw [f (88 + 2) j (by omega), ek (386 + j) (by omega)]; exact r10 j hj
  · refine ⟨by rw [f 98 3 (by omega), zf_G_o v2 133 (by omega), ek 133 (by omega), ← zf_G_o v 133 (by omega)]; exact st.1, fun s hs => ?_⟩
    rw [f (98 + 1) s (by omega), f (98 + 2) s (by omega), zf_G_o v2 (109 + s) (by omega), zf_G_o v2 (117 + s) (by omega), ek (109 + s) (by omega), ek (117 + s) (by omega), ← zf_G_o v (109 + s) (by omega), ← zf_G_o v (117 + s) (by omega), G s hs]
    obtain ⟨s1, s2, s3⟩ := st.2 s hs
    refine ⟨s1, s2, ?_⟩
    show I2 101 s = _
    rw [e98 s]
    by_cases q : a = 0 ∧ s = g
    · rw [if_pos q, if_pos q]
    · rw [if_neg q, if_neg q]; exact s3
  · rw [enF] at h1
    rw [ek (125 + s) (by omega)]; exact pf.2.1 s h1 h2
  · rw [elF] at hi
    rw [enF]
    by_cases q : i = zl F
    · rw [q, k2]; exact ⟨g, gN, rfl⟩
    · rw [ek (7 + 3 * i + 1) (by omega)]; exact pf.2.2 i (by omega)
def zF52 (I : zx_MI) (L a g : Nat) (y : Int32) : zx_MI := if a = 0 then zx_u (zx_u (zx_u (zx_u (zx_u I 93 L (nI a)) 94 L (nI g)) 95 L y) 88 10 (nI (L + 1))) 101 g y else zx_u (zx_u (zx_u (zx_u I 93 L (nI a)) 94 L (nI g)) 95 L y) 88 10 (nI (L + 1))
theorem sc_addLetter {L a g : Nat} {y : Int32} (h10 : I 88 10 = nI L) (hL : L < 10) (ha : a < 1000) (hg : g < 8) : ∀ d P, zx_rn d 52 [.ref 88, .ref 98, .int (nI a), .int (nI g), .int y] (zx_LL Lh) I J P = P none (zx_LL Lh) (zF52 I L a g y) J := by
  intro d P
  have l0 : (nI L < nI 0) = False := eq_false (by rw [nI_ltI (by omega) (by omega)]; omega)
  have l10 : (nI L < nI 10) = True := eq_true (by rw [nI_ltI (by omega) (by omega)]; omega)
  have g0 : (nI g < nI 0) = False := eq_false (by rw [nI_ltI (by omega) (by omega)]; omega)
  have g8 : (nI g < nI 8) = True := eq_true (by rw [nI_ltI (by omega) (by omega)]; omega)
  have w : ∀ x1 x2 x3, zx_u (zx_u (zx_u I 93 L x1) 94 L x2) 95 L x3 88 10 = nI L := fun x1 x2 x3 => by rw [zu_n (by omega), zu_n (by omega), zu_n (by omega)]; exact h10
  have w1 : ∀ x1, zx_u I 93 L x1 88 10 = nI L := fun x1 => by rw [zu_n (by omega)]; exact h10
  have w2 : ∀ x1 x2, zx_u (zx_u I 93 L x1) 94 L x2 88 10 = nI L := fun x1 x2 => by rw [zu_n (by omega), zu_n (by omega)]; exact h10
  unfold zF52
  rw [ze_52]
  by_cases q : a = 0
  · have a0 : (nI a = nI 0) = True := eq_true (congrArg nI q)
    rw [if_pos q]
    simp (disch := omega) only [↓zs_52_0, ↓zs_52_1, ↓zs_52_4, ↓zs_52_7, ↓zs_52_8, ↓zs_52_11, ↓zs_52_13, ↓zs_52_16, ↓zs_52_17, ↓zs_52_20, ↓zs_52_21, ↓zs_52_23, ↓zs_52_26, zx_pu_s, zx_pu_n, zx_rv_s, zx_rv_n, true_and, and_true, true_or, or_true, zb_0, zb_1, zq_lcl, zq_lcg, zq_lce, eq_self, ite_true, ite_false, zk_83, zw_83, zq_83_0, zq_83_1, zq_83_2, zq_83_3, zk_88, zw_88, zq_88_0, zq_88_1, zq_88_2, zq_88_3, zq_88_4, zq_88_5, h10, l0, l10, g0, g8]
    simp (disch := omega) only [↓zs_52_27, ↓zs_52_28, ↓zs_52_31, ↓zs_52_32, ↓zs_52_35, ↓zs_52_36, ↓zs_52_37, ↓zs_52_38, ↓zs_52_41, ↓zs_52_42, ↓zs_52_45, ↓zs_52_46, ↓zs_52_47, ↓zs_52_48, ↓zs_52_51, ↓zs_52_52, ↓zs_52_55, ↓zs_52_57, ↓zs_52_58, ↓zs_52_59, ↓zs_52_60, ↓zs_52_63, ↓zs_52_64, ↓zs_52_65, ↓zs_52_68, ↓zs_52_69, ↓zs_52_72, ↓zs_52_73, ↓zs_52_76, ↓zs_52_77, ↓zs_52_79, ↓zs_52_80, zx_pu_s, zx_pu_n, zx_rv_s, zx_rv_n, true_and, and_true, true_or, or_true, zb_0, zb_1, zq_lcl, zq_lcg, zq_lce, eq_self, ite_true, ite_false, zk_84, zw_84, zq_84_0, zk_88, zw_88, zk_89, zw_89, zk_90, zw_90, zk_91, zw_91, zk_92, zw_92, zk_93, zw_93, zk_94, zw_94, zk_95, zw_95, zk_96, zw_96, zk_97, zw_97, zk_98, zw_98, zk_99, zw_99, zk_100, zw_100, zk_101, zw_101, zq_88_0, zq_88_1, zq_88_2, zq_88_3, zq_88_4, zq_88_5, zq_89_0, zq_89_1, zq_89_2, zq_98_0, zq_98_1, zq_98_2, h10, w1, w2, w, zin_nI, nI_clamp, nI_add, a0]
  · have a0 : (nI a = nI 0) = False := zq_ne q (by omega) (by omega)
    rw [if_neg q]
    simp (disch := omega) only [↓zs_52_0, ↓zs_52_1, ↓zs_52_4, ↓zs_52_7, ↓zs_52_8, ↓zs_52_11, ↓zs_52_13, ↓zs_52_16, ↓zs_52_17, ↓zs_52_20, ↓zs_52_21, ↓zs_52_23, ↓zs_52_26, zx_pu_s, zx_pu_n, zx_rv_s, zx_rv_n, true_and, and_true, true_or, or_true, zb_0, zb_1, zq_lcl, zq_lcg, zq_lce, eq_self, ite_true, ite_false, zk_83, zw_83, zq_83_0, zq_83_1, zq_83_2, zq_83_3, zk_88, zw_88, zq_88_0, zq_88_1, zq_88_2, zq_88_3, zq_88_4, zq_88_5, h10, l0, l10, g0, g8]
    simp (disch := omega) only [↓zs_52_27, ↓zs_52_28, ↓zs_52_31, ↓zs_52_32, ↓zs_52_35, ↓zs_52_36, ↓zs_52_37, ↓zs_52_38, ↓zs_52_41, ↓zs_52_42, ↓zs_52_45, ↓zs_52_46, ↓zs_52_47, ↓zs_52_48, ↓zs_52_51, ↓zs_52_52, ↓zs_52_55, ↓zs_52_57, ↓zs_52_58, ↓zs_52_59, ↓zs_52_60, ↓zs_52_63, ↓zs_52_64, ↓zs_52_65, ↓zs_52_68, ↓zs_52_69, ↓zs_52_72, ↓zs_52_73, ↓zs_52_76, ↓zs_52_77, ↓zs_52_79, ↓zs_52_80, zx_pu_s, zx_pu_n, zx_rv_s, zx_rv_n, true_and, and_true, true_or, or_true, zb_0, zb_1, zq_lcl, zq_lcg, zq_lce, eq_self, ite_true, ite_false, zk_84, zw_84, zq_84_0, zk_88, zw_88, zk_89, zw_89, zk_90, zw_90, zk_91, zw_91, zk_92, zw_92, zk_93, zw_93, zk_94, zw_94, zk_95, zw_95, zk_96, zw_96, zk_97, zw_97, zk_98, zw_98, zk_99, zw_99, zk_100, zw_100, zk_101, zw_101, zq_88_0, zq_88_1, zq_88_2, zq_88_3, zq_88_4, zq_88_5, zq_89_0, zq_89_1, zq_89_2, zq_98_0, zq_98_1, zq_98_2, h10, w1, w2, w, zin_nI, nI_clamp, nI_add, a0]
theorem zF52_o {L a g : Nat} {y : Int32} : (∀ c j, ¬ ((c = 88 ∧ j = 10) ∨ ((c = 93 ∨ c = 94 ∨ c = 95) ∧ j = L) ∨ c = 101) → zF52 I L a g y c j = I c j) ∧ zF52 I L a g y 88 10 = nI (L + 1) ∧ zF52 I L a g y 93 L = nI a ∧ zF52 I L a g y 94 L = nI g ∧ zF52 I L a g y 95 L = y ∧ ∀ s, zF52 I L a g y 101 s = if a = 0 ∧ s = g then y else I 101 s := by
  unfold zF52
  by_cases q : a = 0
  · rw [if_pos q]
    refine ⟨fun c j w => ?_, ?_, ?_, ?_, ?_, fun s => ?_⟩
    · rw [zu_n (by omega), zu_n (by omega), zu_n (by omega), zu_n (by omega), zu_n (by omega)]
    · rw [zu_n (by omega), zu_s]
    · rw [zu_n (by omega), zu_n (by omega), zu_n (by omega), zu_n (by omega), zu_s]
    · rw [zu_n (by omega), zu_n (by omega), zu_n (by omega), zu_s]
    · rw [zu_n (by omega), zu_n (by omega), zu_s]
    · by_cases q2 : s = g
      · rw [q2, zu_s, if_pos ⟨q, rfl⟩]
      · rw [zu_n (by omega), zu_n (by omega), zu_n (by omega), zu_n (by omega), zu_n (by omega), if_neg (fun e => q2 e.2)]
  · rw [if_neg q]
    refine ⟨fun c j w => ?_, ?_, ?_, ?_, ?_, fun s => ?_⟩
    · rw [zu_n (by omega), zu_n (by omega), zu_n (by omega), zu_n (by omega)]
    · rw [zu_s]
    · rw [zu_n (by omega), zu_n (by omega), zu_n (by omega), zu_s]
    · rw [zu_n (by omega), zu_n (by omega), zu_s]
    · rw [zu_n (by omega), zu_s]
    · rw [zu_n (by omega), zu_n (by omega), zu_n (by omega), zu_n (by omega), if_neg (fun e => q e.1)]
end E2
