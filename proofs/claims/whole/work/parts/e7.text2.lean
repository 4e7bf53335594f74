/-! the lines of a text, one behind the other -/
section E7
variable {Lh n : Nat} {b : Nat → Nat} {Jm : zx_MJ}
theorem zLineFin {I : zx_MI} {J : zx_MJ} {T : zTk} {F : Nat → Int32} (hc : zPc I J b n T F) (pf : zPf F) : zPc (zx_u I 88 9 (F 0 + nI 1)) J b n T (zu1 F 0 (F 0 + nI 1)) ∧ zPf (zu1 F 0 (F 0 + nI 1)) := by
  have v := pf.1
  have l10 := v.2.2.2.2.1.2.1
  have o4 := v.2.2.2.1.2.1
  have ek : ∀ j, j ≠ 0 → zu1 F 0 (F 0 + nI 1) j = F j := fun j h => zu1_n h
  have k0 : zu1 F 0 (F 0 + nI 1) 0 = F 0 + nI 1 := zu1_s _ _ _
  generalize zu1 F 0 (F 0 + nI 1) = F2 at *
  have f : ∀ a j, ¬ (a = 88 ∧ j = 9) → zx_u I 88 9 (F 0 + nI 1) a j = I a j := fun a j w => zu_n w
  have ewF : zw F2 = zw F := by unfold zw; rw [ek 1 (by omega)]
  have ehF : zh F2 = zh F := by unfold zh; rw [ek 2 (by omega)]
  have enF : zn F2 = zn F := by unfold zn; rw [ek 3 (by omega)]
  have etF : zt F2 = zt F := by unfold zt; rw [ek 133 (by omega)]
  have elF : zl F2 = zl F := by unfold zl; rw [ek 4 (by omega)]
  have eoF : zo F2 = zo F := by unfold zo; rw [ek 5 (by omega)]
  have ekF : zk F2 = zk F := by unfold zk; rw [ek 385 (by omega)]
  have v2 : zV F2 0 := by
    obtain ⟨⟨-, vs⟩, v2, v3, v4, v5, v6, v7, v8⟩ := v
    refine ⟨⟨?_, fun s hs => ?_⟩, fun j hj => ?_, fun j s hj hs hne => ?_, zV_snow (ek 5 (by omega)) (fun j h1 h2 => ek j (by omega)) v4, zV_let (ek 4 (by omega)) (fun j h1 h2 => ek j (by omega)) v5, zV_law (ek 6 (by omega)) (fun j h1 => ek j (by omega)) v6, ?_, ?_⟩
    · rw [ek 1 (by omega), ek 2 (by omega), ek 3 (by omega), ewF, ehF, enF]; exact pf.1.1.1
    · rw [ek (109 + s) (by omega), ek (125 + s) (by omega), ek (117 + s) (by omega), ewF, ehF, enF]; exact vs s hs
    · rw [ek (45 + j) (by omega)]; exact v2 j hj
    · rw [ek (45 + j) (by omega)] at hne
      rw [ewF, ehF, ek (109 + s) (by omega)]; exact v3 j s hj hs hne
    · rw [etF, ek 133 (by omega)]; exact v7
    · rw [etF]; exact v8
  have G : ∀ j, j ≠ 0 → zf_G F2 j = zf_G F j := fun j h => zf_G_k v (fun i _ _ _ _ => ek i (by omega)) (ek 133 (by omega)) (ek j h)
  obtain ⟨p, h6, h7, sq, st⟩ := hc
  refine ⟨⟨zPt_f p (fun a j w => f a j (by omega)), (f 84 6 (by omega)).trans h6, (f 84 7 (by omega)).trans h7, ?_, ?_⟩, v2, fun s h1 h2 => ?_, fun i hi => ?_⟩
  · obtain ⟨r1, r2, r3, r4, r5, r6, r7, r8, r9, r10⟩ := sq
    unfold zR_sq zR_ground zR_snow
    rw [elF, eoF, ekF]
    refine ⟨?_, ?_, ?_, ?_, ?_, fun j hj => ?_, ⟨?_, fun i hi => ?_⟩, fun i hi => ?_, ?_, fun j hj => ?_⟩
    · rw [f 88 6 (by omega), ek 1 (by omega)]; exact r1
    · rw [f 88 7 (by omega), ek 2 (by omega)]; exact r2
    · rw [f 88 8 (by omega), ek 3 (by omega)]; exact r3
    · rw [zu_s, k0]
    · rw [f 88 10 (by omega), ek 4 (by omega)]; exact r5
    · rw [ek (45 + j) (by omega)]; exact r6 j hj
    · rw [f 88 11 (by omega), ek 5 (by omega)]; exact r7.1
    · rw [f (88 + 8) i (by omega), f (88 + 9) i (by omega), ek (37 + 2 * i) (by omega), ek (37 + 2 * i + 1) (by omega)]; exact r7.2 i hi
    · rw [f (88 + 5) i (by omega), f (88 + 6) i (by omega), f (88 + 7) i (by omega), ek (7 + 3 * i) (by omega), ek (7 + 3 * i + 1) (by omega), ek (7 + 3 * i + 2) (by omega)]; exact r8 i hi
    · rw [f (88 + 1) 3 (by omega)]; exact r9
    · rw [f (88 + 2) j (by omega), ek (386 + j) (by omega)]; exact r10 j hj
  · refine ⟨by rw [f 98 3 (by omega), G 133 (by omega)]; exact st.1, fun s hs => ?_⟩
    rw [f (98 + 1) s (by omega), f (98 + 2) s (by omega), f (98 + 3) s (by omega), G (109 + s) (by omega), G (117 + s) (by omega), G (125 + s) (by omega)]; exact st.2 s hs
  · rw [enF] at h1
    rw [ek (125 + s) (by omega)]; exact pf.2.1 s h1 h2
  · rw [elF] at hi
    rw [ek (7 + 3 * i + 1) (by omega), enF]; exact pf.2.2 i hi
theorem zTextL : ∀ (m : Nat) (T : zTk) (F : Nat → Int32) (I : zx_MI) (J : zx_MJ) (Im : zx_MI) (k : Nat), n < T.1 + m → k ≤ T.1 → zPc I J b n T F → zPm Im b n T F → zPf F → (∃ f s I2 J2 Im2, 1 ≤ f ∧ f < 5 ∧ zFkC I I2 ∧ zFkJ J J2 ∧ zFl9 I2 f s ∧ (∀ d P x1 v3, 72 ≤ d → zx_wp d 30 24 [.ref 83, .int x1, .int (nI k), v3] [] (zx_LL Lh) I J P = P (some (.int (nI f))) (zx_LL Lh) I2 J2) ∧ zFkM Im Im2 ∧ zBad Im2 f s ∧ ∀ d P x1 v, 72 ≤ d → zx_wp d 181 53 [.ref 138, .int x1, v] [] (zx_LL Lh) Im Jm P = zx_wp d 181 100 [.ref 138, .int x1, v] [] (zx_LL Lh) Im2 Jm P) ∨ (∃ T2 F2 I2 J2 Im2, zFkC I I2 ∧ zFkJ J J2 ∧ zPc I2 J2 b n T2 F2 ∧ zPf F2 ∧ (∀ d P x1 v3, 72 ≤ d → zx_wp d 30 24 [.ref 83, .int x1, .int (nI k), v3] [] (zx_LL Lh) I J P = P (some (.int (nI 0))) (zx_LL Lh) I2 J2) ∧ zFkM Im Im2 ∧ zPm Im2 b n T2 F2 ∧ ∀ d P x1 v, 72 ≤ d → zx_wp d 181 53 [.ref 138, .int x1, v] [] (zx_LL Lh) Im Jm P = zx_wp d 181 100 [.ref 138, .int x1, v] [] (zx_LL Lh) Im2 Jm P) := by
  intro m
  induction m with
  | zero =>
    intro T F I J Im k hm hk hc hmm pf
    have tk := hc.1.2.2.2
    have := tk.1.1
    have := tk.2.1
    omega
  | succ m ih =>
    intro T F I J Im k hm hk hc hmm pf
    have tk := hc.1.2.2.2
    have tN := tk.1.1
    have tl := tk.2.1
    have n900 := hc.1.1.1
    have n1 : (nI 1 = nI 0) = False := eq_false (by decide)
    have e4 : I 84 4 = zf_tkc T.2.2.1 := hc.1.2.2.1.2.2.1
    have k52 := tk.1.2.1
    have kd := tk.1.2.2.1
    have b11 := hmm.1.2.2.2.2
    have b9 : Im 138 9 = nI T.2.2.1 := hmm.1.2.2.1.2.2.1
    have t0 : zf_tkc T.2.2.1 = nI 0 ↔ T.2.2.1 = 28 := by
      have : ∀ k : Fin 52, zl_kd k.1 = true → (zf_tkc k.1 = nI 0 ↔ k.1 = 28) := by decide +kernel
      exact this ⟨_, k52⟩ kd
    by_cases c28 : T.2.2.1 = 28
    · right
      have g0 := eq_true (t0.mpr c28)
      have g28 : (nI T.2.2.1 = nI 28) = True := eq_true (congrArg nI c28)
      have h6 := hc.2.1
      refine ⟨T, F, I, J, Im, fun _ _ _ => rfl, zFkJ_r J, hc, pf, fun d P x1 v3 hd => ?_, fun _ _ _ => rfl, hmm, fun d P x1 v hd => ?_⟩
      · rw [zs_30_24]
        by_cases ck : nI k < nI 900
        · have ck' := eq_true ck
          simp (disch := omega) only [↓zs_30_25, ↓zs_30_28, ↓zs_30_31, ↓zs_30_32, ↓zs_30_35, ↓zs_30_38, ↓zs_30_223, ↓zs_30_224, ↓zs_30_227, ↓zs_30_230, zx_pu_s, zx_pu_n, zx_rv_s, zx_rv_n, true_and, and_true, true_or, or_true, zb_0, zb_1, zq_lcl, zq_lcg, zq_lce, eq_self, ite_true, ite_false, zk_83, zw_83, zq_83_0, zq_83_1, zq_83_2, zq_83_3, zk_88, zw_88, zq_88_0, zq_88_1, zq_88_2, zq_88_3, zq_88_4, zq_88_5, zk_84, zw_84, zq_84_0, ck', e4, g0, h6]
        · have ck' := eq_false ck
          simp (disch := omega) only [↓zs_30_25, ↓zs_30_28, ↓zs_30_31, ↓zs_30_32, ↓zs_30_35, ↓zs_30_38, ↓zs_30_223, ↓zs_30_224, ↓zs_30_227, ↓zs_30_230, zx_pu_s, zx_pu_n, zx_rv_s, zx_rv_n, true_and, and_true, true_or, or_true, zb_0, zb_1, zq_lcl, zq_lcg, zq_lce, eq_self, ite_true, ite_false, zk_83, zw_83, zq_83_0, zq_83_1, zq_83_2, zq_83_3, zk_88, zw_88, zq_88_0, zq_88_1, zq_88_2, zq_88_3, zq_88_4, zq_88_5, zk_84, zw_84, zq_84_0, ck', h6]
      · rw [zs_181_53]
        simp (disch := omega) only [↓zs_181_54, ↓zs_181_57, ↓zs_181_60, ↓zs_181_61, ↓zs_181_64, ↓zs_181_66, zx_pu_s, zx_pu_n, zx_rv_s, zx_rv_n, true_and, and_true, true_or, or_true, zb_0, zb_1, zq_lcl, zq_lcg, zq_lce, eq_self, ite_true, ite_false, zk_138, zw_138, zk_139, zw_139, zk_140, zw_140, zk_141, zw_141, zk_142, zw_142, zk_143, zw_143, zk_144, zw_144, zk_145, zw_145, zk_146, zw_146, zk_147, zw_147, zk_148, zw_148, zk_149, zw_149, zk_150, zw_150, zk_151, zw_151, zk_152, zw_152, zq_138_1, zq_138_2, zq_138_3, zq_138_4, zq_138_16, zq_138_19, zq_138_20, zq_138_24, zq_138_25, zq_138_26, zq_138_27, zq_138_31, zq_138_32, zq_138_33, b11, b9, g28]
    have f0 := eq_false (fun e => c28 (t0.mp e))
    have g28 : (nI T.2.2.1 = nI 28) = False := zq_ne c28 (by omega) (by omega)
    have T1n : T.1 < n := by
      by_cases q : n ≤ T.1
      · exact absurd (tk.2.2.1.mpr q) c28
      · omega
    have tlt : T.1 < T.2.1 := tk.2.2.2 c28
    have ck' : (nI k < nI 900) = True := eq_true (by rw [nI_ltI (by omega) (by omega)]; omega)
    have cl0 : ∀ d P x1 v3, zx_wp d 30 24 [.ref 83, .int x1, .int (nI k), v3] [] (zx_LL Lh) I J P = zx_wp d 30 31 [.ref 83, .int x1, .int (nI k), v3] [] (zx_LL Lh) I J P := fun d P x1 v3 => by
      rw [zs_30_24]
      simp (disch := omega) only [↓zs_30_25, ↓zs_30_28, zx_pu_s, zx_pu_n, zx_rv_s, zx_rv_n, true_and, and_true, true_or, or_true, zb_0, zb_1, zq_lcl, zq_lcg, zq_lce, eq_self, ite_true, ite_false, ck']
    have ml0 : ∀ d P x1 v, zx_wp (d + 1) 181 53 [.ref 138, .int x1, v] [] (zx_LL Lh) Im Jm P = zx_rn d 180 [.ref 138] (zx_LL Lh) Im Jm (fun r L9 I9 J9 => zx_wp (d + 1) 181 73 [.ref 138, .int x1, v] (zx_pu r []) L9 I9 J9 P) := fun d P x1 v => by
      rw [zs_181_53]
      simp (disch := omega) only [↓zs_181_54, ↓zs_181_57, ↓zs_181_60, ↓zs_181_61, ↓zs_181_64, ↓zs_181_66, ↓zs_181_69, ↓zs_181_70, zx_pu_s, zx_pu_n, zx_rv_s, zx_rv_n, true_and, and_true, true_or, or_true, zb_0, zb_1, zq_lcl, zq_lcg, zq_lce, eq_self, ite_true, ite_false, zk_138, zw_138, zk_139, zw_139, zk_140, zw_140, zk_141, zw_141, zk_142, zw_142, zk_143, zw_143, zk_144, zw_144, zk_145, zw_145, zk_146, zw_146, zk_147, zw_147, zk_148, zw_148, zk_149, zw_149, zk_150, zw_150, zk_151, zw_151, zk_152, zw_152, zq_138_1, zq_138_2, zq_138_3, zq_138_4, zq_138_16, zq_138_19, zq_138_20, zq_138_24, zq_138_25, zq_138_26, zq_138_27, zq_138_31, zq_138_32, zq_138_33, b11, b9, g28]
    -- the model where the class has found a fault
    have mlb : ∀ {Im2 : zx_MI} {f s : Nat}, (zBad Im2 f s ∨ ∃ T2, zMd Im2 b n T2 ∧ T2.2.2.1 ≠ 40 ∧ f = zl_mp T2.2.2.1 ∧ s = T2.1) → ∃ Im3, zFkM Im2 Im3 ∧ zBad Im3 f s ∧ ∀ d P x1 v, 71 ≤ d → zx_wp (d + 1) 181 73 [.ref 138, .int x1, v] [] (zx_LL Lh) Im2 Jm P = zx_wp (d + 1) 181 100 [.ref 138, .int x1, v] [] (zx_LL Lh) Im3 Jm P := by
      intro Im2 f s h
      rcases h with bd | ⟨T2, md, q40, ef, es⟩
      · have k1 := fun d x P => sp_eats1 (Lh := Lh) (J := Jm) (d := d) (x := x) (P := P) bd
        have k2 := fun d x P => sp_fails1 (Lh := Lh) (J := Jm) (d := d) (x := x) (P := P) bd
        have bd2 : zBad (zx_u Im2 142 0 (Im2 142 0 + nI 1)) f s := zBad_w bd (fun j => zu_n (by omega))
        have bd11 := bd2.2.2.1
        have cf := zBad_k bd2
        refine ⟨_, zFkM_u, bd2, fun d P x1 v hd => ?_⟩
        obtain ⟨e, rfl⟩ : ∃ e, d = e + 1 := ⟨d - 1, by omega⟩
        simp (disch := omega) only [↓zs_181_73, ↓zs_181_74, ↓zs_181_76, ↓zs_181_79, ↓zs_181_82, ↓zs_181_83, ↓zs_181_84, ↓zs_181_87, ↓zs_181_88, ↓zs_181_91, ↓zs_181_92, ↓zs_181_93, ↓zs_181_94, ↓zs_181_95, ↓zs_181_96, ↓zs_181_97, zx_pu_s, zx_pu_n, zx_rv_s, zx_rv_n, true_and, and_true, true_or, or_true, zb_0, zb_1, zq_lcl, zq_lcg, zq_lce, eq_self, ite_true, ite_false, zk_138, zw_138, zk_139, zw_139, zk_140, zw_140, zk_141, zw_141, zk_142, zw_142, zk_143, zw_143, zk_144, zw_144, zk_145, zw_145, zk_146, zw_146, zk_147, zw_147, zk_148, zw_148, zk_149, zw_149, zk_150, zw_150, zk_151, zw_151, zk_152, zw_152, zq_138_1, zq_138_2, zq_138_3, zq_138_4, zq_138_16, zq_138_19, zq_138_20, zq_138_24, zq_138_25, zq_138_26, zq_138_27, zq_138_31, zq_138_32, zq_138_33, k1, k2, zin_nI, nI_clamp]
        rw [zs_181_53]
        simp (disch := omega) only [↓zs_181_54, ↓zs_181_57, ↓zs_181_60, ↓zs_181_61, ↓zs_181_64, ↓zs_181_66, ↓zs_181_69, ↓zs_181_70, zx_pu_s, zx_pu_n, zx_rv_s, zx_rv_n, true_and, and_true, true_or, or_true, zb_0, zb_1, zq_lcl, zq_lcg, zq_lce, eq_self, ite_true, ite_false, zk_138, zw_138, zk_139, zw_139, zk_140, zw_140, zk_141, zw_141, zk_142, zw_142, zk_143, zw_143, zk_144, zw_144, zk_145, zw_145, zk_146, zw_146, zk_147, zw_147, zk_148, zw_148, zk_149, zw_149, zk_150, zw_150, zk_151, zw_151, zk_152, zw_152, zq_138_1, zq_138_2, zq_138_3, zq_138_4, zq_138_16, zq_138_19, zq_138_20, zq_138_24, zq_138_25, zq_138_26, zq_138_27, zq_138_31, zq_138_32, zq_138_33, bd11, cf]
      · have k1 := fun d P => sp_eatsN (Lh := Lh) (J := Jm) (d := d) (P := P) md (q := 40) (by decide) q40
        have k2 := fun d P => sp_fails (Lh := Lh) (J := Jm) (d := d) (f := 2) (P := P) md
        rw [show zMf 2 T2.2.2.1 = zl_mp T2.2.2.1 from rfl] at k2
        obtain ⟨mb1, mb2⟩ := zl_mp_b T2.2.2.1
        have bd : zBad (zMb Im2 (zl_mp T2.2.2.1) T2.1) (zl_mp T2.2.2.1) T2.1 := zMb_b mb1 mb2
        rw [← ef, ← es] at bd k2
        have fm := zFk2_b Im2 f s
        generalize zMb Im2 f s = Ib at *
        have bd2 : zBad (zx_u Ib 142 0 (Ib 142 0 + nI 1)) f s := zBad_w bd (fun j => zu_n (by omega))
        have bd11 := bd2.2.2.1
        have cf := zBad_k bd2
        refine ⟨_, zFkM_t (zFk2_M fm) zFkM_u, bd2, fun d P x1 v hd => ?_⟩
        obtain ⟨e, rfl⟩ : ∃ e, d = e + 1 := ⟨d - 1, by omega⟩
        simp (disch := omega) only [↓zs_181_73, ↓zs_181_74, ↓zs_181_76, ↓zs_181_79, ↓zs_181_82, ↓zs_181_83, ↓zs_181_84, ↓zs_181_87, ↓zs_181_88, ↓zs_181_91, ↓zs_181_92, ↓zs_181_93, ↓zs_181_94, ↓zs_181_95, ↓zs_181_96, ↓zs_181_97, zx_pu_s, zx_pu_n, zx_rv_s, zx_rv_n, true_and, and_true, true_or, or_true, zb_0, zb_1, zq_lcl, zq_lcg, zq_lce, eq_self, ite_true, ite_false, zk_138, zw_138, zk_139, zw_139, zk_140, zw_140, zk_141, zw_141, zk_142, zw_142, zk_143, zw_143, zk_144, zw_144, zk_145, zw_145, zk_146, zw_146, zk_147, zw_147, zk_148, zw_148, zk_149, zw_149, zk_150, zw_150, zk_151, zw_151, zk_152, zw_152, zq_138_1, zq_138_2, zq_138_3, zq_138_4, zq_138_16, zq_138_19, zq_138_20, zq_138_24, zq_138_25, zq_138_26, zq_138_27, zq_138_31, zq_138_32, zq_138_33, k1, k2, zin_nI, nI_clamp]
        rw [zs_181_53]
        simp (disch := omega) only [↓zs_181_54, ↓zs_181_57, ↓zs_181_60, ↓zs_181_61, ↓zs_181_64, ↓zs_181_66, ↓zs_181_69, ↓zs_181_70, zx_pu_s, zx_pu_n, zx_rv_s, zx_rv_n, true_and, and_true, true_or, or_true, zb_0, zb_1, zq_lcl, zq_lcg, zq_lce, eq_self, ite_true, ite_false, zk_138, zw_138, zk_139, zw_139, zk_140, zw_140, zk_141, zw_141, zk_142, zw_142, zk_143, zw_143, zk_144, zw_144, zk_145, zw_145, zk_146, zw_146, zk_147, zw_147, zk_148, zw_148, zk_149, zw_149, zk_150, zw_150, zk_151, zw_151, zk_152, zw_152, zq_138_1, zq_138_2, zq_138_3, zq_138_4, zq_138_16, zq_138_19, zq_138_20, zq_138_24, zq_138_25, zq_138_26, zq_138_27, zq_138_31, zq_138_32, zq_138_33, bd11, cf]
    rcases zDisp (Lh := Lh) (Jm := Jm) c28 hc hmm pf k with ⟨f, s, I2, J2, Im2, b1, b2, fc, fj, fl, hC, fm, bd, hM⟩ | ⟨T2, F2, I2, J2, Im2, tle, fc, fj, pc, pf2, hC, fm, pm, hM⟩
    · left
      obtain ⟨Im3, fm3, bd3, h3⟩ := mlb bd
      refine ⟨f, s, I2, J2, Im3, b1, b2, fc, fj, fl, fun d P x1 v3 hd => ?_, zFkM_t fm fm3, bd3, fun d P x1 v hd => ?_⟩
      · have e6 := fl.1
        rw [cl0, hC d P x1 v3 (by omega)]
        simp (disch := omega) only [↓zs_30_180, ↓zs_30_181, ↓zs_30_184, ↓zs_30_185, ↓zs_30_188, ↓zs_30_190, ↓zs_30_193, ↓zs_30_196, ↓zs_30_197, ↓zs_30_200, ↓zs_30_203, zx_pu_s, zx_pu_n, zx_rv_s, zx_rv_n, true_and, and_true, true_or, or_true, zb_0, zb_1, zq_lcl, zq_lcg, zq_lce, eq_self, ite_true, ite_false, zk_83, zw_83, zq_83_0, zq_83_1, zq_83_2, zq_83_3, zk_88, zw_88, zq_88_0, zq_88_1, zq_88_2, zq_88_3, zq_88_4, zq_88_5, zk_84, zw_84, zq_84_0, e6]
      · obtain ⟨e, rfl⟩ : ∃ e, d = e + 1 := ⟨d - 1, by omega⟩
        rw [ml0, hM e _ (by omega), zx_pu_n, h3 e P x1 v (by omega)]
    have tk2 := pc.1.2.2.2
    have t59 : zf_tkc T2.2.2.1 = nI 59 ↔ T2.2.2.1 = 40 := by
      have : ∀ k : Fin 52, zl_kd k.1 = true → (zf_tkc k.1 = nI 59 ↔ k.1 = 40) := by decide +kernel
      exact this ⟨_, tk2.1.2.1⟩ tk2.1.2.2.1
    by_cases q40 : T2.2.2.1 = 40
    case neg =>
      left
      obtain ⟨mb1, mb2⟩ := zl_mp_b T2.2.2.1
      obtain ⟨Im3, fm3, bd3, h3⟩ := mlb (.inr ⟨T2, pm.1, q40, rfl, rfl⟩)
      have hcN := sc_expN (Lh := Lh) (J := J2) pc.1 (fun h => q40 (t59.mp h))
      obtain ⟨z1, z2⟩ := zFk1_9 I2 (zl_mp T2.2.2.1) T2.1
      have e6 := z2.1
      refine ⟨_, _, _, J2, Im3, mb1, mb2, zFkC_t fc (zFk1_C z1), fj, z2, fun d P x1 v3 hd => ?_, zFkM_t fm fm3, bd3, fun d P x1 v hd => ?_⟩
      · obtain ⟨e, rfl⟩ : ∃ e, d = e + 1 := ⟨d - 1, by omega⟩
        have a1 := fun P => hcN e P (by omega)
        rw [cl0, hC (e + 1) P x1 v3 (by omega)]
        simp (disch := omega) only [↓zs_30_180, ↓zs_30_181, ↓zs_30_184, ↓zs_30_185, ↓zs_30_188, ↓zs_30_190, ↓zs_30_193, ↓zs_30_196, ↓zs_30_197, ↓zs_30_200, ↓zs_30_203, zx_pu_s, zx_pu_n, zx_rv_s, zx_rv_n, true_and, and_true, true_or, or_true, zb_0, zb_1, zq_lcl, zq_lcg, zq_lce, eq_self, ite_true, ite_false, zk_83, zw_83, zq_83_0, zq_83_1, zq_83_2, zq_83_3, zk_88, zw_88, zq_88_0, zq_88_1, zq_88_2, zq_88_3, zq_88_4, zq_88_5, zk_84, zw_84, zq_84_0, n1, a1, e6]
      · obtain ⟨e, rfl⟩ : ∃ e, d = e + 1 := ⟨d - 1, by omega⟩
        rw [ml0, hM e _ (by omega), zx_pu_n, h3 e P x1 v (by omega)]
    obtain ⟨I3, f3, p3, hA3⟩ := sc_expY (Lh := Lh) (J := J2) pc.1 (t59.mpr q40)
    obtain ⟨Im3, g3, md3, hB3⟩ := sp_eatsY (Lh := Lh) (J := Jm) pm.1 (by omega)
    rw [q40] at hB3
    obtain ⟨tk3, tle3⟩ := zl_tk2_nx b tk2.1.1
    have s2 : T2.1 < T2.2.1 := tk2.2.2.2 (by omega)
    generalize hT3 : zf_nx b n T2.2.1 = T3 at *
    have pc3 := zPc_k pc (zFk_adv f3) (f3 84 6 (by omega)) (f3 84 7 (by omega)) p3
    have pm3 := zPm_k pm (zFk_nxt g3) md3
    obtain ⟨pc4, pf4⟩ := zLineFin pc3 pf2
    have e9 : I3 88 9 = F2 0 := pc3.2.2.2.1.2.2.2.1
    have e0 : Im3 142 0 = F2 0 := by rw [pm3.2]
    have pm4 : zPm (zx_u Im3 142 0 (F2 0 + nI 1)) b n T3 (zu1 F2 0 (F2 0 + nI 1)) := ⟨zMd_w md3 (fun a j w => zu_n (fun e => w e.1)), by rw [zu_r, zr_s, pm3.2]⟩
    have fc4 : zFkC I (zx_u I3 88 9 (F2 0 + nI 1)) := zFkC_t fc (zFkC_t (zFk1_C (zFk_adv f3)) (zFkC_u (by omega)))
    have fm4 : zFkM Im (zx_u Im3 142 0 (F2 0 + nI 1)) := zFkM_t fm (zFkM_t (zFk2_M (zFk_nxt g3)) zFkM_u)
    have cl4 : ∀ d P x1 v3, 72 ≤ d → zx_wp d 30 24 [.ref 83, .int x1, .int (nI k), v3] [] (zx_LL Lh) I J P = zx_wp d 30 24 [.ref 83, .int x1, .int (nI (k + 1)), .int (nI 1)] [] (zx_LL Lh) (zx_u I3 88 9 (F2 0 + nI 1)) J2 P := fun d P x1 v3 hd => by
      obtain ⟨e, rfl⟩ : ∃ e, d = e + 1 := ⟨d - 1, by omega⟩
      have a1 := fun P => hA3 e P (by omega)
      rw [cl0, hC (e + 1) P x1 v3 (by omega)]
      simp (disch := omega) only [↓zs_30_180, ↓zs_30_181, ↓zs_30_184, ↓zs_30_185, ↓zs_30_188, ↓zs_30_190, ↓zs_30_193, ↓zs_30_196, ↓zs_30_197, ↓zs_30_200, ↓zs_30_203, ↓zs_30_204, ↓zs_30_205, ↓zs_30_208, ↓zs_30_209, ↓zs_30_212, ↓zs_30_213, ↓zs_30_214, ↓zs_30_217, ↓zs_30_220, ↓zs_30_223, zx_pu_s, zx_pu_n, zx_rv_s, zx_rv_n, true_and, and_true, true_or, or_true, zb_0, zb_1, zq_lcl, zq_lcg, zq_lce, eq_self, ite_true, ite_false, zk_83, zw_83, zq_83_0, zq_83_1, zq_83_2, zq_83_3, zk_88, zw_88, zq_88_0, zq_88_1, zq_88_2, zq_88_3, zq_88_4, zq_88_5, zk_84, zw_84, zq_84_0, n1, a1, e9, nI_add]
    have ml4 : ∀ d P x1 v, 72 ≤ d → zx_wp d 181 53 [.ref 138, .int x1, v] [] (zx_LL Lh) Im Jm P = zx_wp d 181 53 [.ref 138, .int x1, v] [] (zx_LL Lh) (zx_u Im3 142 0 (F2 0 + nI 1)) Jm P := fun d P x1 v hd => by
      obtain ⟨e, rfl⟩ : ∃ e, d = e + 1 := ⟨d - 1, by omega⟩
      have a1 := fun P => hB3 e P (by omega)
      rw [ml0, hM e _ (by omega), zx_pu_n]
      simp (disch := omega) only [↓zs_181_73, ↓zs_181_74, ↓zs_181_76, ↓zs_181_79, ↓zs_181_82, ↓zs_181_83, ↓zs_181_84, ↓zs_181_87, ↓zs_181_88, ↓zs_181_91, ↓zs_181_92, ↓zs_181_93, ↓zs_181_94, ↓zs_181_95, ↓zs_181_96, ↓zs_181_97, zx_pu_s, zx_pu_n, zx_rv_s, zx_rv_n, true_and, and_true, true_or, or_true, zb_0, zb_1, zq_lcl, zq_lcg, zq_lce, eq_self, ite_true, ite_false, zk_138, zw_138, zk_139, zw_139, zk_140, zw_140, zk_141, zw_141, zk_142, zw_142, zk_143, zw_143, zk_144, zw_144, zk_145, zw_145, zk_146, zw_146, zk_147, zw_147, zk_148, zw_148, zk_149, zw_149, zk_150, zw_150, zk_151, zw_151, zk_152, zw_152, zq_138_1, zq_138_2, zq_138_3, zq_138_4, zq_138_16, zq_138_19, zq_138_20, zq_138_24, zq_138_25, zq_138_26, zq_138_27, zq_138_31, zq_138_32, zq_138_33, n1, a1, zin_nI, nI_clamp, e0]
    rcases ih T3 _ _ J2 _ (k + 1) (by omega) (by omega) pc4 pm4 pf4 with ⟨f, s, I5, J5, Im5, b1, b2, fc5, fj5, fl5, hC5, fm5, bd5, hM5⟩ | ⟨T5, F5, I5, J5, Im5, fc5, fj5, pc5, pf5, hC5, fm5, pm5, hM5⟩
    · exact .inl ⟨f, s, I5, J5, Im5, b1, b2, zFkC_t fc4 fc5, fun a j h => (fj5 a j h).trans (fj a j h), fl5, fun d P x1 v3 hd => (cl4 d P x1 v3 hd).trans (hC5 d P x1 _ hd), zFkM_t fm4 fm5, bd5, fun d P x1 v hd => (ml4 d P x1 v hd).trans (hM5 d P x1 v hd)⟩
    · exact .inr ⟨T5, F5, I5, J5, Im5, zFkC_t fc4 fc5, fun a j h => (fj5 a j h).trans (fj a j h), pc5, pf5, fun d P x1 v3 hd => (cl4 d P x1 v3 hd).trans (hC5 d P x1 _ hd), zFkM_t fm4 fm5, pm5, fun d P x1 v hd => (ml4 d P x1 v hd).trans (hM5 d P x1 v hd)⟩
end E7
