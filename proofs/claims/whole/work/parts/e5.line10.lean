/-! lines: laws -/
theorem zl_g_mem : ∀ (x : List Nat) (i : Nat), i < x.length → zl_g x i ∈ x := by
  intro x
  induction x with
  | nil => intro i hi; exact absurd hi (Nat.not_lt_zero i)
  | cons e r ih =>
    intro i hi
    cases i with
    | zero => exact List.mem_cons_self
    | succ i => exact List.mem_cons_of_mem _ (ih i (Nat.lt_of_succ_lt_succ hi))
theorem zf_ty_L {cd : Nat → Int32} : ∀ (x : List Nat) (k : Nat) (ts : List Bool), (∀ i, i < x.length → zf_nat (cd (k + i)) = zl_g x i) → zf_ty cd x.length k ts = zf_tyL x ts := by
  intro x
  induction x with
  | nil => intro k ts _; rfl
  | cons e r ih =>
    intro k ts h
    have h0 : zf_nat (cd k) = e := h 0 (Nat.zero_lt_succ _)
    have hr : ∀ ts, zf_ty cd r.length (k + 1) ts = zf_tyL r ts := fun ts => ih (k + 1) ts (fun i hi => by
      have := h (i + 1) (Nat.succ_lt_succ hi)
      rw [show k + 1 + i = k + (i + 1) by omega]
      exact this)
    show zf_ty cd (r.length + 1) k ts = _
    rw [zf_ty, zf_tyL, h0, hr, hr, hr]
section E5
variable {Lh n : Nat} {b : Nat → Nat} {I Im : zx_MI} {J Jm : zx_MJ} {T : zTk} {F : Nat → Int32}
theorem sp_truthB {I : zx_MI} {f s : Nat} {x : Int32} (z : zBad I f s) : ∀ d P, zx_rn (d + 9) 171 [.ref 138, .int x] (zx_LL Lh) I J P = P none (zx_LL Lh) I J := by
  have hi := fun d x P => sp_is1 (Lh := Lh) (J := J) (d := d) (x := x) (P := P) z
  have hn := fun d x P => sp_eats1 (Lh := Lh) (J := J) (d := d) (x := x) (P := P) z
  have hf := fun d x P => sp_fails1 (Lh := Lh) (J := J) (d := d) (x := x) (P := P) z
  have hc := fun d x P => sp_codes1 (Lh := Lh) (J := J) (d := d) (x := x) (P := P) z
  have hs := fun d P => sp_sumB (Lh := Lh) (J := J) (x := x) z d P
  have hu : ∀ d P, zx_rn (d + 7) 169 [.ref 138, .int x] (zx_LL Lh) I J P = P none (zx_LL Lh) I J := fun d P => by
    have hs' := fun P => hs (d + 1) P
    rw [ze_169]
    simp (disch := omega) only [↓zs_169_0, ↓zs_169_1, ↓zs_169_3, ↓zs_169_6, ↓zs_169_33, ↓zs_169_34, ↓zs_169_36, ↓zs_169_39, ↓zs_169_73, ↓zs_169_74, ↓zs_169_75, ↓zs_169_78, ↓zs_169_79, ↓zs_169_81, ↓zs_169_84, ↓zs_169_87, ↓zs_169_90, ↓zs_169_93, ↓zs_169_94, ↓zs_169_96, ↓zs_169_99, ↓zs_169_102, ↓zs_169_105, ↓zs_169_108, ↓zs_169_111, zx_pu_s, zx_pu_n, zx_rv_s, zx_rv_n, true_and, and_true, true_or, or_true, zb_0, zb_1, zq_lcl, zq_lcg, zq_lce, eq_self, ite_true, ite_false, zk_138, zw_138, zk_139, zw_139, zk_140, zw_140, zk_141, zw_141, zk_142, zw_142, zk_143, zw_143, zk_144, zw_144, zk_145, zw_145, zk_146, zw_146, zk_147, zw_147, zk_148, zw_148, zk_149, zw_149, zk_150, zw_150, zk_151, zw_151, zk_152, zw_152, zq_138_1, zq_138_2, zq_138_3, zq_138_4, zq_138_16, zq_138_19, zq_138_20, zq_138_24, zq_138_25, zq_138_26, zq_138_27, zq_138_31, zq_138_32, zq_138_33, hi, hs']
    simp (disch := omega) only [↓zs_169_112, ↓zs_169_113, ↓zs_169_115, ↓zs_169_118, ↓zs_169_121, ↓zs_169_122, ↓zs_169_124, ↓zs_169_127, ↓zs_169_130, ↓zs_169_131, ↓zs_169_133, ↓zs_169_136, ↓zs_169_139, ↓zs_169_140, ↓zs_169_143, ↓zs_169_146, ↓zs_169_147, ↓zs_169_148, ↓zs_169_151, ↓zs_169_152, ↓zs_169_153, ↓zs_169_156, ↓zs_169_157, ↓zs_169_158, ↓zs_169_161, zx_pu_s, zx_pu_n, zx_rv_s, zx_rv_n, true_and, and_true, true_or, or_true, zb_0, zb_1, zq_lcl, zq_lcg, zq_lce, eq_self, ite_true, ite_false, zk_138, zw_138, zk_139, zw_139, zk_140, zw_140, zk_141, zw_141, zk_142, zw_142, zk_143, zw_143, zk_144, zw_144, zk_145, zw_145, zk_146, zw_146, zk_147, zw_147, zk_148, zw_148, zk_149, zw_149, zk_150, zw_150, zk_151, zw_151, zk_152, zw_152, zq_138_1, zq_138_2, zq_138_3, zq_138_4, zq_138_16, zq_138_19, zq_138_20, zq_138_24, zq_138_25, zq_138_26, zq_138_27, zq_138_31, zq_138_32, zq_138_33, hi, hf, hs', hc]
  have hb : ∀ d P, zx_rn (d + 8) 170 [.ref 138, .int x] (zx_LL Lh) I J P = P none (zx_LL Lh) I J := fun d P => by
    rw [ze_170]
    simp (disch := omega) only [↓zs_170_0, ↓zs_170_1, ↓zs_170_2, zx_pu_s, zx_pu_n, zx_rv_s, zx_rv_n, true_and, and_true, true_or, or_true, zb_0, zb_1, zq_lcl, zq_lcg, zq_lce, eq_self, ite_true, ite_false, zk_138, zw_138, zk_139, zw_139, zk_140, zw_140, zk_141, zw_141, zk_142, zw_142, zk_143, zw_143, zk_144, zw_144, zk_145, zw_145, zk_146, zw_146, zk_147, zw_147, zk_148, zw_148, zk_149, zw_149, zk_150, zw_150, zk_151, zw_151, zk_152, zw_152, zq_138_1, zq_138_2, zq_138_3, zq_138_4, zq_138_16, zq_138_19, zq_138_20, zq_138_24, zq_138_25, zq_138_26, zq_138_27, zq_138_31, zq_138_32, zq_138_33, hu]
    rw [zs_170_5]
    simp (disch := omega) only [↓zs_170_6, ↓zs_170_8, ↓zs_170_11, ↓zs_170_14, ↓zs_170_15, ↓zs_170_16, ↓zs_170_29, zx_pu_s, zx_pu_n, zx_rv_s, zx_rv_n, true_and, and_true, true_or, or_true, zb_0, zb_1, zq_lcl, zq_lcg, zq_lce, eq_self, ite_true, ite_false, zk_138, zw_138, zk_139, zw_139, zk_140, zw_140, zk_141, zw_141, zk_142, zw_142, zk_143, zw_143, zk_144, zw_144, zk_145, zw_145, zk_146, zw_146, zk_147, zw_147, zk_148, zw_148, zk_149, zw_149, zk_150, zw_150, zk_151, zw_151, zk_152, zw_152, zq_138_1, zq_138_2, zq_138_3, zq_138_4, zq_138_16, zq_138_19, zq_138_20, zq_138_24, zq_138_25, zq_138_26, zq_138_27, zq_138_31, zq_138_32, zq_138_33, hn]
  intro d P
  rw [ze_171]
  simp (disch := omega) only [↓zs_171_0, ↓zs_171_1, ↓zs_171_2, zx_pu_s, zx_pu_n, zx_rv_s, zx_rv_n, true_and, and_true, true_or, or_true, zb_0, zb_1, zq_lcl, zq_lcg, zq_lce, eq_self, ite_true, ite_false, zk_138, zw_138, zk_139, zw_139, zk_140, zw_140, zk_141, zw_141, zk_142, zw_142, zk_143, zw_143, zk_144, zw_144, zk_145, zw_145, zk_146, zw_146, zk_147, zw_147, zk_148, zw_148, zk_149, zw_149, zk_150, zw_150, zk_151, zw_151, zk_152, zw_152, zq_138_1, zq_138_2, zq_138_3, zq_138_4, zq_138_16, zq_138_19, zq_138_20, zq_138_24, zq_138_25, zq_138_26, zq_138_27, zq_138_31, zq_138_32, zq_138_33, hb]
  rw [zs_171_5]
  simp (disch := omega) only [↓zs_171_6, ↓zs_171_8, ↓zs_171_11, ↓zs_171_14, ↓zs_171_15, ↓zs_171_16, ↓zs_171_29, zx_pu_s, zx_pu_n, zx_rv_s, zx_rv_n, true_and, and_true, true_or, or_true, zb_0, zb_1, zq_lcl, zq_lcg, zq_lce, eq_self, ite_true, ite_false, zk_138, zw_138, zk_139, zw_139, zk_140, zw_140, zk_141, zw_141, zk_142, zw_142, zk_143, zw_143, zk_144, zw_144, zk_145, zw_145, zk_146, zw_146, zk_147, zw_147, zk_148, zw_148, zk_149, zw_149, zk_150, zw_150, zk_151, zw_151, zk_152, zw_152, zq_138_1, zq_138_2, zq_138_3, zq_138_4, zq_138_16, zq_138_19, zq_138_20, zq_138_24, zq_138_25, zq_138_26, zq_138_27, zq_138_31, zq_138_32, zq_138_33, hn]
theorem zBad_w {I I2 : zx_MI} {f s : Nat} (z : zBad I f s) (h : ∀ j, I2 138 j = I 138 j) : zBad I2 f s := ⟨z.1, z.2.1, (h 11).trans z.2.2.1, (h 12).trans z.2.2.2⟩
theorem zRest (hk : T.2.2.1 = 12) (hc : zPc I J b n T F) (hm : zPm Im b n T F) (pf : zPf F) : zLn Lh b n T I J Im Jm 31 [.ref 83] 179 [.ref 138] 70 := by
  have v := pf.1
  have n1 : (nI 1 = nI 0) = False := eq_false (by decide)
  obtain ⟨I1, f1, c1, hA⟩ := zPc_adv (Lh := Lh) hc
  obtain ⟨Im1, g1, m1, hB⟩ := zPm_nxt (Lh := Lh) (Jm := Jm) hm
  have tk0 := hc.1.2.2.2
  have tle1 := (zl_tk2_nx b tk0.1.1).2
  have s0 : T.1 < T.2.1 := tk0.2.2.2 (by omega)
  generalize hT1 : zf_nx b n T.2.1 = T1 at *
  have tk1 := c1.1.2.2.2
  have p1 := c1.1
  have md1 := m1.1
  have n900 := p1.1.1
  have t41 := (zf_tkc_eq ⟨_, tk1.1.2.1⟩ tk1.1.2.2.1)
  have cl1 : ∀ e P, zx_rn (e + 70) 31 [.ref 83] (zx_LL Lh) I J P = zx_wp (e + 70) 31 7 [.ref 83] [] (zx_LL Lh) I1 J P := fun e P => by
    have a1 := fun P => hA (e + 69) P (by omega)
    rw [ze_31]
    simp (disch := omega) only [↓zs_31_0, ↓zs_31_1, ↓zs_31_4, zx_pu_s, zx_pu_n, zx_rv_s, zx_rv_n, true_and, and_true, true_or, or_true, zb_0, zb_1, zq_lcl, zq_lcg, zq_lce, eq_self, ite_true, ite_false, zk_83, zw_83, zq_83_0, zq_83_1, zq_83_2, zq_83_3, zk_88, zw_88, zq_88_0, zq_88_1, zq_88_2, zq_88_3, zq_88_4, zq_88_5, zk_84, zw_84, zq_84_0, a1]
  have ml1 : ∀ e P, zx_rn (e + 70) 179 [.ref 138] (zx_LL Lh) Im Jm P = zx_wp (e + 70) 179 4 [.ref 138] [] (zx_LL Lh) Im1 Jm P := fun e P => by
    have a1 := fun P => hB (e + 69) P (by omega)
    rw [ze_179]
    simp (disch := omega) only [↓zs_179_0, ↓zs_179_1, zx_pu_s, zx_pu_n, zx_rv_s, zx_rv_n, true_and, and_true, true_or, or_true, zb_0, zb_1, zq_lcl, zq_lcg, zq_lce, eq_self, ite_true, ite_false, zk_138, zw_138, zk_139, zw_139, zk_140, zw_140, zk_141, zw_141, zk_142, zw_142, zk_143, zw_143, zk_144, zw_144, zk_145, zw_145, zk_146, zw_146, zk_147, zw_147, zk_148, zw_148, zk_149, zw_149, zk_150, zw_150, zk_151, zw_151, zk_152, zw_152, zq_138_1, zq_138_2, zq_138_3, zq_138_4, zq_138_16, zq_138_19, zq_138_20, zq_138_24, zq_138_25, zq_138_26, zq_138_27, zq_138_31, zq_138_32, zq_138_33, a1]
  have q58 : zf_tkc T1.2.2.1 = nI 58 ↔ T1.2.2.1 = 41 := by
    have : ∀ k : Fin 52, zl_kd k.1 = true → (zf_tkc k.1 = nI 58 ↔ k.1 = 41) := by decide +kernel
    exact this ⟨_, tk1.1.2.1⟩ tk1.1.2.2.1
  by_cases q41 : T1.2.2.1 = 41
  case neg =>
    left
    have hcN := sc_expN (Lh := Lh) (J := J) p1 (fun h => q41 (q58.mp h))
    have hn := fun d P => sp_eatsN (Lh := Lh) (J := Jm) (d := d) (P := P) md1 (q := 41) (by decide) q41
    have hf := fun d P => sp_fails (Lh := Lh) (J := Jm) (d := d) (f := 2) (P := P) md1
    rw [show zMf 2 T1.2.2.1 = zl_mp T1.2.2.1 from rfl] at hf
    obtain ⟨mb1, mb2⟩ := zl_mp_b T1.2.2.1
    have bd : zBad (zMb Im1 (zl_mp T1.2.2.1) T1.1) (zl_mp T1.2.2.1) T1.1 := zMb_b mb1 mb2
    have bd2 : zBad (zx_u (zMb Im1 (zl_mp T1.2.2.1) T1.1) 142 385 (nI 0)) (zl_mp T1.2.2.1) T1.1 := zBad_w bd (fun j => zu_n (by omega))
    have t := fun d P => sp_truthB (Lh := Lh) (J := Jm) (x := nI 0) bd2 d P
    have bd11 := bd2.2.2.1
    have cf := zBad_k bd2
    obtain ⟨z1, z2⟩ := zFk1_9 I1 (zl_mp T1.2.2.1) T1.1
    refine ⟨_, _, _, J, _, mb1, mb2, zFk1_C (zFk1_t f1 z1), zFkJ_r J, z2, fun d P hd => ?_, zFkM_t (zFk2_M (zFk2_t g1 (zFk2_b _ _ _))) zFkM_u, .inl bd2, fun d P hd => ?_⟩
    · obtain ⟨e, rfl⟩ : ∃ e, d = e + 70 := ⟨d - 70, by omega⟩
      have a3 := fun P => hcN (e + 69) P (by omega)
      rw [cl1]
      simp (disch := omega) only [↓zs_31_7, ↓zs_31_8, ↓zs_31_11, ↓zs_31_13, ↓zs_31_16, ↓zs_31_19, ↓zs_31_20, ↓zs_31_23, ↓zs_31_24, ↓zs_31_27, ↓zs_31_28, ↓zs_31_31, ↓zs_31_34, ↓zs_31_37, ↓zs_31_40, ↓zs_31_41, ↓zs_31_44, ↓zs_31_45, zx_pu_s, zx_pu_n, zx_rv_s, zx_rv_n, true_and, and_true, true_or, or_true, zb_0, zb_1, zq_lcl, zq_lcg, zq_lce, eq_self, ite_true, ite_false, zk_83, zw_83, zq_83_0, zq_83_1, zq_83_2, zq_83_3, zk_88, zw_88, zq_88_0, zq_88_1, zq_88_2, zq_88_3, zq_88_4, zq_88_5, zk_84, zw_84, zq_84_0, a3]
    · obtain ⟨e, rfl⟩ : ∃ e, d = e + 70 := ⟨d - 70, by omega⟩
      have t' := fun P => t (e + 60) P
      rw [ml1]
      simp (disch := omega) only [↓zs_179_4, ↓zs_179_5, ↓zs_179_7, ↓zs_179_10, ↓zs_179_13, ↓zs_179_14, ↓zs_179_15, ↓zs_179_18, ↓zs_179_19, ↓zs_179_22, ↓zs_179_25, ↓zs_179_26, ↓zs_179_27, ↓zs_179_28, ↓zs_179_29, ↓zs_179_32, ↓zs_179_33, ↓zs_179_36, ↓zs_179_39, ↓zs_179_40, ↓zs_179_43, ↓zs_179_45, ↓zs_179_46, ↓zs_179_47, zx_pu_s, zx_pu_n, zx_rv_s, zx_rv_n, true_and, and_true, true_or, or_true, zb_0, zb_1, zq_lcl, zq_lcg, zq_lce, eq_self, ite_true, ite_false, zk_138, zw_138, zk_139, zw_139, zk_140, zw_140, zk_141, zw_141, zk_142, zw_142, zk_143, zw_143, zk_144, zw_144, zk_145, zw_145, zk_146, zw_146, zk_147, zw_147, zk_148, zw_148, zk_149, zw_149, zk_150, zw_150, zk_151, zw_151, zk_152, zw_152, zq_138_1, zq_138_2, zq_138_3, zq_138_4, zq_138_16, zq_138_19, zq_138_20, zq_138_24, zq_138_25, zq_138_26, zq_138_27, zq_138_31, zq_138_32, zq_138_33, hn, hf, zin_nI, nI_clamp, t', bd11, cf]
  obtain ⟨I2, f2, p2, hA2⟩ := sc_expY (Lh := Lh) (J := J) p1 (q58.mpr q41)
  obtain ⟨Im2, g2, md2, hB2⟩ := sp_eatsY (Lh := Lh) (J := Jm) md1 (by omega)
  rw [q41] at hB2
  obtain ⟨tk2, tle2⟩ := zl_tk2_nx b tk1.1.1
  have s1 : T1.1 < T1.2.1 := tk1.2.2.2 (by omega)
  generalize hT2 : zf_nx b n T1.2.1 = T2 at *
  have f12 := zFk1_t f1 (zFk_adv f2)
  have g12 := zFk2_t g1 (zFk_nxt g2)
  have h26 : ∀ j, j = 6 ∨ j = 7 → I2 84 j = I1 84 j := fun j h => f2 84 j (by omega)
  -- the class from the law's start
  have hI3 : ∃ I3, (∀ a j, ¬ ((a = 89 ∧ j = 3) ∨ (a = 86 ∧ 1 ≤ j ∧ j ≤ 5)) → I3 a j = I2 a j) ∧ zLr I3 [] 0 0 0 false [] ∧ ∀ e P, zx_rn (e + 70) 31 [.ref 83] (zx_LL Lh) I J P = zx_wp (e + 69) 15 34 [.ref 86, .ref 84, .ref 89, .int (nI 0), .int (nI 0)] [] (zx_LL Lh) I3 J (fun r L9 I9 J9 => zx_wp (e + 70) 31 37 [.ref 83] (zx_pu r []) L9 I9 J9 P) := by
    refine ⟨zx_u (zx_u (zx_u (zx_u (zx_u (zx_u I2 89 3 (nI 0)) 86 1 (nI 0)) 86 2 (nI 0)) 86 3 (nI 0)) 86 4 (nI 0)) 86 5 (nI 0), fun a j w => ?_, ⟨?_, trivial, ?_, ?_, ?_, ?_, ?_, fun i hi => absurd hi (Nat.not_lt_zero i)⟩, fun e P => ?_⟩
    · rw [zu_n (by omega), zu_n (by omega), zu_n (by omega), zu_n (by omega), zu_n (by omega), zu_n (by omega)]
    · rw [zu_n (by omega), zu_n (by omega), zu_n (by omega), zu_n (by omega), zu_s]; rfl
    · rw [zu_n (by omega), zu_n (by omega), zu_n (by omega), zu_s]
    · rw [zu_n (by omega), zu_n (by omega), zu_s]
    · rw [zu_n (by omega), zu_s]
    · rw [zu_s]; rfl
    · rw [zu_n (by omega), zu_n (by omega), zu_n (by omega), zu_n (by omega), zu_n (by omega), zu_s]; rfl
    · have a2 := fun P => hA2 (e + 69) P (by omega)
      have h9 : ∀ d I P, zx_rn d 9 [.ref 89] (zx_LL Lh) I J P = P none (zx_LL Lh) (zx_u I 89 3 (nI 0)) J := fun d I P => by
        rw [ze_9]
        simp (disch := omega) only [↓zs_9_0, ↓zs_9_1, ↓zs_9_2, ↓zs_9_5, zx_pu_s, zx_pu_n, zx_rv_s, zx_rv_n, true_and, and_true, true_or, or_true, zb_0, zb_1, zq_lcl, zq_lcg, zq_lce, eq_self, ite_true, ite_false, zk_83, zw_83, zk_84, zw_84, zq_83_0, zq_83_1, zq_83_2, zq_83_3, zq_84_0, zk_86, zw_86, zk_87, zw_87, zk_88, zw_88, zk_89, zw_89, zk_90, zw_90, zk_91, zw_91, zk_92, zw_92, zk_93, zw_93, zk_94, zw_94, zk_95, zw_95, zk_96, zw_96, zk_97, zw_97, zk_98, zw_98, zk_99, zw_99, zk_100, zw_100, zk_101, zw_101, zq_86_0, zq_88_0, zq_88_1, zq_88_2, zq_88_3, zq_88_4, zq_88_5, zq_89_0, zq_89_1, zq_89_2, zq_98_0, zq_98_1, zq_98_2]
      rw [cl1]
      simp (disch := omega) only [↓zs_31_7, ↓zs_31_8, ↓zs_31_11, ↓zs_31_13, ↓zs_31_16, ↓zs_31_19, ↓zs_31_20, ↓zs_31_23, ↓zs_31_24, ↓zs_31_27, ↓zs_31_28, ↓zs_31_31, ↓zs_31_34, zx_pu_s, zx_pu_n, zx_rv_s, zx_rv_n, true_and, and_true, true_or, or_true, zb_0, zb_1, zq_lcl, zq_lcg, zq_lce, eq_self, ite_true, ite_false, zk_83, zw_83, zq_83_0, zq_83_1, zq_83_2, zq_83_3, zk_88, zw_88, zk_89, zw_89, zq_88_0, zq_88_1, zq_88_2, zq_88_3, zq_88_4, zq_88_5, zq_89_0, zq_89_1, zq_89_2, zk_84, zw_84, zq_84_0, zk_86, zw_86, zk_87, zw_87, zq_86_0, n1, a2]
      rw [ze_15]
      simp (disch := omega) only [↓zs_15_0, ↓zs_15_1, ↓zs_15_4, ↓zs_15_5, ↓zs_15_6, ↓zs_15_9, ↓zs_15_10, ↓zs_15_11, ↓zs_15_14, ↓zs_15_15, ↓zs_15_16, ↓zs_15_19, ↓zs_15_20, ↓zs_15_21, ↓zs_15_24, ↓zs_15_25, ↓zs_15_26, ↓zs_15_29, ↓zs_15_30, ↓zs_15_31, ↓zs_15_32, zx_pu_s, zx_pu_n, zx_rv_s, zx_rv_n, true_and, and_true, true_or, or_true, zb_0, zb_1, zq_lcl, zq_lcg, zq_lce, eq_self, ite_true, ite_false, zk_83, zw_83, zq_83_0, zq_83_1, zq_83_2, zq_83_3, zk_88, zw_88, zk_89, zw_89, zq_88_0, zq_88_1, zq_88_2, zq_88_3, zq_88_4, zq_88_5, zq_89_0, zq_89_1, zq_89_2, zk_84, zw_84, zq_84_0, zk_86, zw_86, zk_87, zw_87, zq_86_0, h9]
  obtain ⟨I3, f3, zr3, hA3⟩ := hI3
  have p3 : zPt I3 b n T2 := zPt_f p2 (fun a j w => f3 a j (by omega))
  obtain ⟨I4, f4, hA4⟩ := sc_lawL (Lh := Lh) (J := J) (b := b) 900 T2 (0, [], 0, 0, 0, false, []) I3 (Nat.le_refl _) p3.1 p3.2.1 p3.2.2.1 tk2.1 ⟨by decide, fun k hk => absurd hk (List.not_mem_nil), trivial, rfl, by decide, rfl, rfl, fun _ => by decide, by decide, fun _ => rfl, trivial⟩ zr3
  have fc4 : zFkC I I4 := fun a j w => by rw [f4 a j (by omega), f3 a j (by omega), f12 a j (by omega)]
  have ok2 : zl_ok n 900 T2 := by
    by_cases c28 : T2.2.2.1 = 28
    · exact .inl ⟨c28, by decide⟩
    · have := tk2.2.1
      exact .inr ⟨c28, by omega⟩
  -- the model
  have md3 : zMd (zx_u Im2 142 385 (nI 0)) b n T2 := zMd_w md2 (fun a j w => zu_n (fun e => w e.1))
  have mc3 : zMc (zx_u Im2 142 385 (nI 0)) [] := ⟨zu_s _ _ _ _, fun i hi => absurd hi (Nat.not_lt_zero i)⟩
  obtain ⟨Im4, ⟨g4, e4⟩, hB4⟩ := (sp_lawAll (Lh := Lh) (b := b) (n := n) (J := Jm) (n + 1)).2.2 0 T2 [] (zx_u Im2 142 385 (nI 0)) (by decide) (by omega) md3 mc3 (Nat.zero_le _)
  have gm4 : zFkM Im Im4 := zFkM_t (zFk2_M g12) (zFkM_t zFkM_u (fun a j w => g4 a j (by omega)))
  have ml4 : ∀ e P, zx_rn (e + 70) 179 [.ref 138] (zx_LL Lh) Im Jm P = zx_wp (e + 70) 179 32 [.ref 138] [] (zx_LL Lh) Im4 Jm P := fun e P => by
    have a2 := fun P => hB2 (e + 69) P (by omega)
    have a3 := fun P => hB4 (e + 69) P (by omega)
    rw [ml1]
    simp (disch := omega) only [↓zs_179_4, ↓zs_179_5, ↓zs_179_7, ↓zs_179_10, ↓zs_179_13, ↓zs_179_14, ↓zs_179_15, ↓zs_179_18, ↓zs_179_19, ↓zs_179_22, ↓zs_179_25, ↓zs_179_26, ↓zs_179_27, ↓zs_179_28, ↓zs_179_29, zx_pu_s, zx_pu_n, zx_rv_s, zx_rv_n, true_and, and_true, true_or, or_true, zb_0, zb_1, zq_lcl, zq_lcg, zq_lce, eq_self, ite_true, ite_false, zk_138, zw_138, zk_139, zw_139, zk_140, zw_140, zk_141, zw_141, zk_142, zw_142, zk_143, zw_143, zk_144, zw_144, zk_145, zw_145, zk_146, zw_146, zk_147, zw_147, zk_148, zw_148, zk_149, zw_149, zk_150, zw_150, zk_151, zw_151, zk_152, zw_152, zq_138_1, zq_138_2, zq_138_3, zq_138_4, zq_138_16, zq_138_19, zq_138_20, zq_138_24, zq_138_25, zq_138_26, zq_138_27, zq_138_31, zq_138_32, zq_138_33, a2, n1, zin_nI, nI_clamp, a3]
  -- a fault of the class
  have bad : ∀ f s, 1 ≤ f → f < 5 → I4 84 6 = nI f → I4 84 7 = nI s → (∀ d P, zx_wp (d + 6) 15 34 [.ref 86, .ref 84, .ref 89, .int (nI 0), .int (nI 0)] [] (zx_LL Lh) I3 J P = P (some (.int (nI 0))) (zx_LL Lh) I4 J) → zFl9 I4 f s ∧ ∀ d P, 70 ≤ d → zx_rn d 31 [.ref 83] (zx_LL Lh) I J P = P (some (.int (nI 0))) (zx_LL Lh) I4 J := by
    intro f s b1 b2 e6 e7 hr
    refine ⟨⟨e6, e7⟩, fun d P hd => ?_⟩
    obtain ⟨e, rfl⟩ : ∃ e, d = e + 70 := ⟨d - 70, by omega⟩
    have hr' := fun P => hr (e + 63) P
    rw [hA3, hr']
    simp (disch := omega) only [↓zs_31_37, ↓zs_31_40, ↓zs_31_41, ↓zs_31_44, ↓zs_31_45, zx_pu_s, zx_pu_n, zx_rv_s, zx_rv_n, true_and, and_true, true_or, or_true, zb_0, zb_1, zq_lcl, zq_lcg, zq_lce, eq_self, ite_true, ite_false]
  rcases e4 with ⟨T3, x, z3, m3, l3, st3, cp3, w3, g1, g2, g3, gs⟩ | ⟨f, s, b4, gE⟩
  case inr =>
    left
    have hrun := gE 900 ok2 [] 0 (by decide)
    rcases hA4 with ⟨f', s', r1, r2, r3, r4, r5, r6⟩ | ⟨c', T2', r1, -⟩
    case inr => rw [hrun] at r1; cases r1
    rw [hrun] at r1
    cases r1
    obtain ⟨z2, hr⟩ := bad f s r2 r3 r4 r5 r6
    have bd11 := b4.2.2.1
    have cf := zBad_k b4
    refine ⟨f, s, I4, J, Im4, r2, r3, fc4, zFkJ_r J, z2, hr, gm4, .inl b4, fun d P hd => ?_⟩
    obtain ⟨e, rfl⟩ : ∃ e, d = e + 70 := ⟨d - 70, by omega⟩
    rw [ml4]
    simp (disch := omega) only [↓zs_179_32, ↓zs_179_33, ↓zs_179_36, ↓zs_179_39, ↓zs_179_40, ↓zs_179_43, ↓zs_179_45, ↓zs_179_46, ↓zs_179_47, zx_pu_s, zx_pu_n, zx_rv_s, zx_rv_n, true_and, and_true, true_or, or_true, zb_0, zb_1, zq_lcl, zq_lcg, zq_lce, eq_self, ite_true, ite_false, zk_138, zw_138, zk_139, zw_139, zk_140, zw_140, zk_141, zw_141, zk_142, zw_142, zk_143, zw_143, zk_144, zw_144, zk_145, zw_145, zk_146, zw_146, zk_147, zw_147, zk_148, zw_148, zk_149, zw_149, zk_150, zw_150, zk_151, zw_151, zk_152, zw_152, zq_138_1, zq_138_2, zq_138_3, zq_138_4, zq_138_16, zq_138_19, zq_138_20, zq_138_24, zq_138_25, zq_138_26, zq_138_27, zq_138_31, zq_138_32, zq_138_33, bd11, cf]
  have tk3 := zT_tk z3
  obtain ⟨i', ok', hsim⟩ := gs 900 ok2
  obtain ⟨j, rfl⟩ := zl_ok_s ok' tk3
  have hsim' := hsim [] 0 (by decide)
  rw [List.nil_append] at hsim' m3
  have b11 := z3.2.2.2.2
  have ml5 : ∀ d P, 70 ≤ d → zx_rn d 179 [.ref 138] (zx_LL Lh) Im Jm P = P none (zx_LL Lh) (zx_u Im4 142 6 (nI 1)) Jm := fun d P hd => by
    obtain ⟨e, rfl⟩ : ∃ e, d = e + 70 := ⟨d - 70, by omega⟩
    rw [ml4]
    simp (disch := omega) only [↓zs_179_32, ↓zs_179_33, ↓zs_179_36, ↓zs_179_39, ↓zs_179_40, ↓zs_179_43, ↓zs_179_45, ↓zs_179_46, ↓zs_179_47, zx_pu_s, zx_pu_n, zx_rv_s, zx_rv_n, true_and, and_true, true_or, or_true, zb_0, zb_1, zq_lcl, zq_lcg, zq_lce, eq_self, ite_true, ite_false, zk_138, zw_138, zk_139, zw_139, zk_140, zw_140, zk_141, zw_141, zk_142, zw_142, zk_143, zw_143, zk_144, zw_144, zk_145, zw_145, zk_146, zw_146, zk_147, zw_147, zk_148, zw_148, zk_149, zw_149, zk_150, zw_150, zk_151, zw_151, zk_152, zw_152, zq_138_1, zq_138_2, zq_138_3, zq_138_4, zq_138_16, zq_138_19, zq_138_20, zq_138_24, zq_138_25, zq_138_26, zq_138_27, zq_138_31, zq_138_32, zq_138_33, b11, zin_nI, nI_clamp]
  have gm5 : zFkM Im (zx_u Im4 142 6 (nI 1)) := zFkM_t gm4 zFkM_u
  have z5 : zMd (zx_u Im4 142 6 (nI 1)) b n T3 := zMd_w z3 (fun a j w => zu_n (fun e => w e.1))
  by_cases q40 : T3.2.2.1 = 40
  case neg =>
    left
    have hrun : zl_run b n 900 T2 (0, [], 0, 0, 0, false, []) = .inl (zl_mp T3.2.2.1, T3.1) := by
      rw [hsim', zl_run_bad (zl_s_n4 w3 g2.1 ⟨g2.2.2 (by decide), g2.2.1 (by decide)⟩ q40)]
    rcases hA4 with ⟨f', s', r1, r2, r3, r4, r5, r6⟩ | ⟨c', T2', r1, -⟩
    case inr => rw [hrun] at r1; cases r1
    rw [hrun] at r1
    cases r1
    obtain ⟨z2, hr⟩ := bad _ _ r2 r3 r4 r5 r6
    exact ⟨_, _, I4, J, _, r2, r3, fc4, zFkJ_r J, z2, hr, gm5, .inr ⟨T3, z5, q40, rfl, rfl⟩, ml5⟩
  right
  have hrun : zl_run b n 900 T2 (0, [], 0, 0, 0, false, []) = .inr (x, T3) := by
    rw [hsim', zl_run, zl_s_40 w3 q40]
  rcases hA4 with ⟨f', s', r1, -⟩ | ⟨c', T2', r1, r2, r3, r4, r5, r6, r7, r8, r9, r10⟩
  case inl => rw [hrun] at r1; cases r1
  rw [hrun] at r1
  cases r1
  have p4 : zPt I4 b n T3 := ⟨zTx_f p3.1 (fun j => f4 85 j (by omega)) (f4 84 1 (by omega)), fun a j ha => (f4 a j (by omega)).trans (p3.2.1 a j ha), r5, tk3⟩
  -- the new row
  have ek : ∀ j, j < 385 → j ≠ 6 → zx_u Im4 142 6 (nI 1) 142 j = F j := fun j h1 h2 => by
    rw [zu_n (by omega), g4 142 j (by omega), zu_n (by omega), g12 142 j (by omega), hm.2]
  have k6 : zx_u Im4 142 6 (nI 1) 142 6 = nI 1 := zu_s _ _ _ _
  have k385 : zx_u Im4 142 6 (nI 1) 142 385 = nI x.length := by rw [zu_n (by omega)]; exact m3.1
  have kc : ∀ i, i < x.length → zx_u Im4 142 6 (nI 1) 142 (386 + i) = nI (zl_g x i) := fun i hi => by rw [zu_n (by omega)]; exact m3.2 i hi
  have x900 : x.length ≤ 900 := r2
  have cv := g3.1
  have hty := g3.2 [] (by decide)
  generalize hF2 : zx_u Im4 142 6 (nI 1) 142 = F2 at *
  have l10 := v.2.2.2.2.1.2.1
  have o4 := v.2.2.2.1.2.1
  have ewF : zw F2 = zw F := by unfold zw; rw [ek 1 (by omega) (by omega)]
  have ehF : zh F2 = zh F := by unfold zh; rw [ek 2 (by omega) (by omega)]
  have enF : zn F2 = zn F := by unfold zn; rw [ek 3 (by omega) (by omega)]
  have etF : zt F2 = zt F := by unfold zt; rw [ek 133 (by omega) (by omega)]
  have elF : zl F2 = zl F := by unfold zl; rw [ek 4 (by omega) (by omega)]
  have eoF : zo F2 = zo F := by unfold zo; rw [ek 5 (by omega) (by omega)]
  have ekF : zk F2 = x.length := by show zf_nat (F2 385) = _; rw [k385, zf_nat, nI_clamp (by omega)]
  have cvi : ∀ i, i < x.length → zl_g x i < 1008 ∨ (3000 ≤ zl_g x i ∧ zl_g x i ≤ 3008) := fun i hi => cv _ (zl_g_mem x i hi)
  have kn : ∀ i, i < x.length → zf_nat (F2 (386 + i)) = zl_g x i := fun i hi => by
    have := cvi i hi
    rw [kc i hi, zf_nat, nI_clamp (by omega)]
  have x0 : 0 < x.length := by
    cases x with
    | nil => cases hty
    | cons e r => exact Nat.zero_lt_succ _
  have v2 : zV F2 0 := by
    obtain ⟨⟨-, vs⟩, v2, v3, v4, v5, v6, v7, v8⟩ := v
    refine ⟨⟨?_, fun s hs => ?_⟩, fun j hj => ?_, fun j s hj hs hne => ?_, zV_snow (ek 5 (by omega) (by omega)) (fun j h1 h2 => ek j (by omega) (by omega)) v4, zV_let (ek 4 (by omega) (by omega)) (fun j h1 h2 => ek j (by omega) (by omega)) v5, ⟨?_, ?_, fun k hk => ?_, .inr ⟨?_, k6, ?_⟩⟩, ?_, ?_⟩
    · rw [ek 1 (by omega) (by omega), ek 2 (by omega) (by omega), ek 3 (by omega) (by omega), ewF, ehF, enF]; exact pf.1.1.1
    · rw [ek (109 + s) (by omega) (by omega), ek (125 + s) (by omega) (by omega), ek (117 + s) (by omega) (by omega), ewF, ehF, enF]; exact vs s hs
    · rw [ek (45 + j) (by omega) (by omega)]; exact v2 j hj
    · rw [ek (45 + j) (by omega) (by omega)] at hne
      rw [ewF, ehF, ek (109 + s) (by omega) (by omega)]; exact v3 j s hj hs hne
    · rw [ekF]; exact k385
    · rw [ekF]; exact x900
    · rw [ekF] at hk
      rw [kn k hk]
      exact ⟨kc k hk, cvi k hk⟩
    · rw [ekF]; exact x0
    · rw [ekF, zf_ty_L x 0 [] (fun i hi => by rw [Nat.zero_add]; exact kn i hi)]; exact hty
    · rw [etF, ek 133 (by omega) (by omega)]; exact v7
    · rw [etF]; exact v8
  have G : ∀ j, j < 385 → j ≠ 6 → zf_G F2 j = zf_G F j := fun j h1 h2 => zf_G_k v (fun i _ _ _ _ => ek i (by omega) (by omega)) (ek 133 (by omega) (by omega)) (ek j h1 h2)
  have fI : ∀ a j, ¬ ((a = 89 ∨ a = 90 ∨ a = 86 ∨ a = 87) ∨ (a = 84 ∧ 2 ≤ j) ∨ (a = 83 ∧ (j = 4 ∨ j = 5))) → I4 a j = I a j := fun a j w => by rw [f4 a j (by omega), f3 a j (by omega), f12 a j (by omega)]
  refine ⟨T3, F2, I4, J, _, ?_, fc4, zFkJ_r J, ⟨p4, ?_, ?_, ?_, ?_⟩, ⟨v2, fun s h1 h2 => ?_, fun i hi => ?_⟩, fun d P hd => ?_, gm5, ⟨z5, hF2⟩, ml5⟩
  · have := tk1.2.1; have := tk2.2.1; omega
  · rw [r8, f3 84 6 (by omega), h26 6 (.inl rfl)]; exact c1.2.1
  · rw [r9, f3 84 7 (by omega), h26 7 (.inr rfl)]; exact c1.2.2.1
  · obtain ⟨q1, q2, q3, q4, q5, q6, q7, q8, q9, q10⟩ := hc.2.2.2.1
    unfold zR_sq zR_ground zR_snow
    rw [elF, eoF, ekF]
    refine ⟨?_, ?_, ?_, ?_, ?_, fun j hj => ?_, ⟨?_, fun i hi => ?_⟩, fun i hi => ?_, r3, fun j hj => ?_⟩
    · rw [fI 88 6 (by omega), ek 1 (by omega) (by omega)]; exact q1
    · rw [fI 88 7 (by omega), ek 2 (by omega) (by omega)]; exact q2
    · rw [fI 88 8 (by omega), ek 3 (by omega) (by omega)]; exact q3
    · rw [fI 88 9 (by omega), ek 0 (by omega) (by omega)]; exact q4
    · rw [fI 88 10 (by omega), ek 4 (by omega) (by omega)]; exact q5
    · rw [ek (45 + j) (by omega) (by omega)]; exact q6 j hj
    · rw [fI 88 11 (by omega), ek 5 (by omega) (by omega)]; exact q7.1
    · rw [fI (88 + 8) i (by omega), fI (88 + 9) i (by omega), ek (37 + 2 * i) (by omega) (by omega), ek (37 + 2 * i + 1) (by omega) (by omega)]; exact q7.2 i hi
    · rw [fI (88 + 5) i (by omega), fI (88 + 6) i (by omega), fI (88 + 7) i (by omega), ek (7 + 3 * i) (by omega) (by omega), ek (7 + 3 * i + 1) (by omega) (by omega), ek (7 + 3 * i + 2) (by omega) (by omega)]; exact q8 i hi
    · rw [kn j hj]; exact r4 j hj
  · obtain ⟨s1, s2⟩ := hc.2.2.2.2
    refine ⟨by rw [fI 98 3 (by omega), G 133 (by omega) (by omega)]; exact s1, fun s hs => ?_⟩
    rw [fI (98 + 1) s (by omega), fI (98 + 2) s (by omega), fI (98 + 3) s (by omega), G (109 + s) (by omega) (by omega), G (117 + s) (by omega) (by omega), G (125 + s) (by omega) (by omega)]; exact s2 s hs
  · rw [enF] at h1
    rw [ek (125 + s) (by omega) (by omega)]; exact pf.2.1 s h1 h2
  · rw [elF] at hi
    rw [ek (7 + 3 * i + 1) (by omega) (by omega), enF]; exact pf.2.2 i hi
  · obtain ⟨e, rfl⟩ : ∃ e, d = e + 70 := ⟨d - 70, by omega⟩
    have hr : ∀ P, zx_wp (e + 69) 15 34 [.ref 86, .ref 84, .ref 89, .int (nI 0), .int (nI 0)] [] (zx_LL Lh) I3 J P = P (some (.int (nI 1))) (zx_LL Lh) I4 J := fun P => r10 (e + 63) P
    rw [hA3, hr]
    simp (disch := omega) only [↓zs_31_37, ↓zs_31_40, ↓zs_31_41, ↓zs_31_44, ↓zs_31_45, zx_pu_s, zx_pu_n, zx_rv_s, zx_rv_n, true_and, and_true, true_or, or_true, zb_0, zb_1, zq_lcl, zq_lcg, zq_lce, eq_self, ite_true, ite_false, n1]
end E5
