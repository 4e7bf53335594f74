/-! the model's law: units, truths -/
def zWh (st : Nat) (cp : Bool) : Prop := st = 3 ∨ (st = 2 ∧ cp = true)
def zNt (L st k : Nat) : Prop := (st = 2 → k ≠ 42 ∧ k ≠ 43 ∧ k ≠ 44) ∧ (L ≤ 2 → k ≠ 14) ∧ (L ≤ 1 → k ≠ 13)
def zTyT (q : Nat) (x : List Nat) : Prop := zl_cv x ∧ ∀ ts : List Bool, ts.length + q ≤ 60 → zf_tyL x ts = some (true :: ts)
def zTy3 (q : Nat) (x : List Nat) : Prop := zl_cv x ∧ ∀ ts : List Bool, ts.length + q ≤ 60 → zf_tyL x (true :: ts) = some (true :: ts)
def zSimT (b : Nat → Nat) (n L dp : Nat) (T : zTk) (c : List Nat) (T' : zTk) (c' : List Nat) (st' : Nat) (cp' : Bool) : Prop := ∀ i, zl_ok n i T → ∃ i', zl_ok n i' T' ∧ ∀ p ot, zl_tb p < L → zl_run b n i T (0, p, dp, 0, ot, false, c) = zl_run b n i' T' (st', p, dp, 0, ot, cp', c')
def zErrT (b : Nat → Nat) (n L dp : Nat) (T : zTk) (c : List Nat) (f s : Nat) : Prop := ∀ i, zl_ok n i T → ∀ p ot, zl_tb p < L → zl_run b n i T (0, p, dp, 0, ot, false, c) = .inl (f, s)
def zSim3 (b : Nat → Nat) (n L dp : Nat) (T : zTk) (c : List Nat) (st : Nat) (cp : Bool) (T' : zTk) (c' : List Nat) (st' : Nat) (cp' : Bool) : Prop := ∀ i, zl_ok n i T → ∃ i', zl_ok n i' T' ∧ ∀ p ot, zl_tb p < L → zl_run b n i T (st, p, dp, 0, ot, cp, c) = zl_run b n i' T' (st', p, dp, 0, ot, cp', c')
def zErr3 (b : Nat → Nat) (n L dp : Nat) (T : zTk) (c : List Nat) (st : Nat) (cp : Bool) (f s : Nat) : Prop := ∀ i, zl_ok n i T → ∀ p ot, zl_tb p < L → zl_run b n i T (st, p, dp, 0, ot, cp, c) = .inl (f, s)
def zGT (b : Nat → Nat) (n L q dp : Nat) (T : zTk) (c : List Nat) (T' : zTk) (x : List Nat) : Prop := ∃ st' cp', zWh st' cp' ∧ T.2.1 ≤ T'.1 ∧ zNt L st' T'.2.2.1 ∧ zTyT (5 * (6 - dp) + q) x ∧ zSimT b n L dp T c T' (c ++ x) st' cp'
def zG3 (b : Nat → Nat) (n L q dp : Nat) (T : zTk) (c : List Nat) (st : Nat) (cp : Bool) (T' : zTk) (x : List Nat) : Prop := ∃ st' cp', zWh st' cp' ∧ zNt L st' T'.2.2.1 ∧ zTy3 (5 * (6 - dp) + q) x ∧ zSim3 b n L dp T c st cp T' (c ++ x) st' cp'
def zPT (Lh : Nat) (b : Nat → Nat) (n : Nat) (J : zx_MJ) (m L q r : Nat) : Prop := ∀ (dp : Nat) (T : zTk) (c : List Nat) (I : zx_MI), dp ≤ 6 → n < T.1 + r → zMd I b n T → zMc I c → c.length ≤ T.1 → ∃ I2, zEnd b n I I2 T c (zGT b n L q dp T c) (zErrT b n L dp T c) ∧ ∀ d P, 10 + 8 * (6 - dp) + (q - 1) ≤ d → zx_rn d m [.ref 138, .int (nI dp)] (zx_LL Lh) I J P = P none (zx_LL Lh) I2 J
section LU
variable {Lh n : Nat} {b : Nat → Nat} {J : zx_MJ}
/-- sums where something is wrong already -/
theorem sp_sumB {I : zx_MI} {f s : Nat} {x : Int32} (z : zBad I f s) : ∀ d P, zx_rn (d + 5) 168 [.ref 138, .int x] (zx_LL Lh) I J P = P none (zx_LL Lh) I J := by
  have hi := fun d x P => sp_is1 (Lh := Lh) (J := J) (d := d) (x := x) (P := P) z
  have hn := fun d x P => sp_eats1 (Lh := Lh) (J := J) (d := d) (x := x) (P := P) z
  have hf := fun d x P => sp_fails1 (Lh := Lh) (J := J) (d := d) (x := x) (P := P) z
  obtain ⟨z1, z2, z3, z4⟩ := z
  have c : (nI f = nI 0) = False := zq_ne (by omega) (by omega) (by omega)
  have ha : ∀ d P, zx_rn (d + 3) 166 [.ref 138, .int x] (zx_LL Lh) I J P = P none (zx_LL Lh) I J := fun d P => by
    rw [ze_166]
    simp (disch := omega) only [↓zs_166_0, ↓zs_166_1, ↓zs_166_3, ↓zs_166_6, ↓zs_166_9, ↓zs_166_10, ↓zs_166_11, ↓zs_166_14, ↓zs_166_17, ↓zs_166_18, ↓zs_166_21, ↓zs_166_24, ↓zs_166_25, ↓zs_166_28, ↓zs_166_31, ↓zs_166_32, ↓zs_166_70, ↓zs_166_71, ↓zs_166_73, ↓zs_166_76, ↓zs_166_79, ↓zs_166_112, ↓zs_166_113, ↓zs_166_114, ↓zs_166_117, zx_pu_s, zx_pu_n, zx_rv_s, zx_rv_n, true_and, and_true, true_or, or_true, zb_0, zb_1, zq_lcl, zq_lcg, zq_lce, eq_self, ite_true, ite_false, zk_138, zw_138, zk_139, zw_139, zk_140, zw_140, zk_141, zw_141, zk_142, zw_142, zk_143, zw_143, zk_144, zw_144, zk_145, zw_145, zk_146, zw_146, zk_147, zw_147, zk_148, zw_148, zk_149, zw_149, zk_150, zw_150, zk_151, zw_151, zk_152, zw_152, zq_138_1, zq_138_2, zq_138_3, zq_138_4, zq_138_16, zq_138_19, zq_138_20, zq_138_24, zq_138_25, zq_138_26, zq_138_27, zq_138_31, zq_138_32, zq_138_33, hi, z3, c, hf]
  have ht : ∀ d P, zx_rn (d + 4) 167 [.ref 138, .int x] (zx_LL Lh) I J P = P none (zx_LL Lh) I J := fun d P => by
    rw [ze_167]
    simp (disch := omega) only [↓zs_167_0, ↓zs_167_1, ↓zs_167_2, zx_pu_s, zx_pu_n, zx_rv_s, zx_rv_n, true_and, and_true, true_or, or_true, zb_0, zb_1, zq_lcl, zq_lcg, zq_lce, eq_self, ite_true, ite_false, zk_138, zw_138, zk_139, zw_139, zk_140, zw_140, zk_141, zw_141, zk_142, zw_142, zk_143, zw_143, zk_144, zw_144, zk_145, zw_145, zk_146, zw_146, zk_147, zw_147, zk_148, zw_148, zk_149, zw_149, zk_150, zw_150, zk_151, zw_151, zk_152, zw_152, zq_138_1, zq_138_2, zq_138_3, zq_138_4, zq_138_16, zq_138_19, zq_138_20, zq_138_24, zq_138_25, zq_138_26, zq_138_27, zq_138_31, zq_138_32, zq_138_33, ha]
    rw [zs_167_5]
    simp (disch := omega) only [↓zs_167_6, ↓zs_167_8, ↓zs_167_11, ↓zs_167_14, ↓zs_167_15, ↓zs_167_16, ↓zs_167_29, zx_pu_s, zx_pu_n, zx_rv_s, zx_rv_n, true_and, and_true, true_or, or_true, zb_0, zb_1, zq_lcl, zq_lcg, zq_lce, eq_self, ite_true, ite_false, zk_138, zw_138, zk_139, zw_139, zk_140, zw_140, zk_141, zw_141, zk_142, zw_142, zk_143, zw_143, zk_144, zw_144, zk_145, zw_145, zk_146, zw_146, zk_147, zw_147, zk_148, zw_148, zk_149, zw_149, zk_150, zw_150, zk_151, zw_151, zk_152, zw_152, zq_138_1, zq_138_2, zq_138_3, zq_138_4, zq_138_16, zq_138_19, zq_138_20, zq_138_24, zq_138_25, zq_138_26, zq_138_27, zq_138_31, zq_138_32, zq_138_33, hn]
  intro d P
  rw [ze_168]
  simp (disch := omega) only [↓zs_168_0, ↓zs_168_1, ↓zs_168_2, zx_pu_s, zx_pu_n, zx_rv_s, zx_rv_n, true_and, and_true, true_or, or_true, zb_0, zb_1, zq_lcl, zq_lcg, zq_lce, eq_self, ite_true, ite_false, zk_138, zw_138, zk_139, zw_139, zk_140, zw_140, zk_141, zw_141, zk_142, zw_142, zk_143, zw_143, zk_144, zw_144, zk_145, zw_145, zk_146, zw_146, zk_147, zw_147, zk_148, zw_148, zk_149, zw_149, zk_150, zw_150, zk_151, zw_151, zk_152, zw_152, zq_138_1, zq_138_2, zq_138_3, zq_138_4, zq_138_16, zq_138_19, zq_138_20, zq_138_24, zq_138_25, zq_138_26, zq_138_27, zq_138_31, zq_138_32, zq_138_33, ht]
  rw [zs_168_5]
  simp (disch := omega) only [↓zs_168_6, ↓zs_168_8, ↓zs_168_11, ↓zs_168_14, ↓zs_168_15, ↓zs_168_17, ↓zs_168_20, ↓zs_168_59, zx_pu_s, zx_pu_n, zx_rv_s, zx_rv_n, true_and, and_true, true_or, or_true, zb_0, zb_1, zq_lcl, zq_lcg, zq_lce, eq_self, ite_true, ite_false, zk_138, zw_138, zk_139, zw_139, zk_140, zw_140, zk_141, zw_141, zk_142, zw_142, zk_143, zw_143, zk_144, zw_144, zk_145, zw_145, zk_146, zw_146, zk_147, zw_147, zk_148, zw_148, zk_149, zw_149, zk_150, zw_150, zk_151, zw_151, zk_152, zw_152, zq_138_1, zq_138_2, zq_138_3, zq_138_4, zq_138_16, zq_138_19, zq_138_20, zq_138_24, zq_138_25, zq_138_26, zq_138_27, zq_138_31, zq_138_32, zq_138_33, hi]
theorem sp_unit {r : Nat} (iu : zPT Lh b n J 169 4 4 r) (it : zPT Lh b n J 171 1 6 r) (ps : zPN Lh b n J 168 5 (r + 1)) : zPT Lh b n J 169 4 4 (r + 1) := by
  intro dp T c I hdp hr z m hc
  have tk := zT_tk z
  have k52 := tk.1.2.1
  have eN := tk.1.1
  have n900 := z.1.1
  obtain ⟨tn, tle⟩ := zT_nx z
  have n1 : (nI 1 = nI 0) = False := eq_false (by decide)
  have hi := fun q (hq : q < 60) d P => sp_is (Lh := Lh) (J := J) (d := d) (q := q) (P := P) z hq
  have h15 := hi 15 (by decide)
  have h47 := hi 47 (by decide)
  by_cases c15 : T.2.2.1 = 15
  · rw [decide_eq_true c15] at h15
    have hs : T.1 < T.2.1 := tk.2.2.2 (by omega)
    by_cases d6 : dp = 6
    · subst d6
      obtain ⟨b1, h2⟩ := sp_goes6 (Lh := Lh) (J := J) z (by omega)
      refine ⟨zMb I 4 T.1, ⟨zMb_f _ _ _, .inr ⟨4, T.1, b1, fun i hi p ot _ => ?_⟩⟩, fun d P hd => ?_⟩
      · obtain ⟨j, rfl⟩ := zl_ok_s hi tk
        exact zl_run_bad (zl_s_6 (by decide) (.inr ⟨rfl, .inr c15⟩) rfl)
      · obtain ⟨e, rfl⟩ : ∃ e, d = e + 3 := ⟨d - 3, by omega⟩
        rw [ze_169]
        simp (disch := omega) only [↓zs_169_0, ↓zs_169_1, ↓zs_169_3, ↓zs_169_6, ↓zs_169_9, ↓zs_169_10, ↓zs_169_11, ↓zs_169_14, ↓zs_169_17, zx_pu_s, zx_pu_n, zx_rv_s, zx_rv_n, true_and, and_true, true_or, or_true, zb_0, zb_1, zq_lcl, zq_lcg, zq_lce, eq_self, ite_true, ite_false, zk_138, zw_138, zk_139, zw_139, zk_140, zw_140, zk_141, zw_141, zk_142, zw_142, zk_143, zw_143, zk_144, zw_144, zk_145, zw_145, zk_146, zw_146, zk_147, zw_147, zk_148, zw_148, zk_149, zw_149, zk_150, zw_150, zk_151, zw_151, zk_152, zw_152, zq_138_1, zq_138_2, zq_138_3, zq_138_4, zq_138_16, zq_138_19, zq_138_20, zq_138_24, zq_138_25, zq_138_26, zq_138_27, zq_138_31, zq_138_32, zq_138_33, h15, zB_0, reduceCtorEq, h2]
    · obtain ⟨I2, f2, z2, h2⟩ := sp_goesY (Lh := Lh) (J := J) (dp := dp) z (by omega)
      have m2 := zMc_f m f2
      obtain ⟨I3, ⟨f3, e3⟩, h3⟩ := iu (dp + 1) (zf_nx b n T.2.1) c I2 (by omega) (by omega) z2 m2 (by omega)
      have f13 : zFq I I3 := zFq_t (zMd_q f2) f3
      have to25 : ∀ e P, 10 + 8 * (6 - dp) + (4 - 1) ≤ e + 3 → zx_rn (e + 3) 169 [.ref 138, .int (nI dp)] (zx_LL Lh) I J P = zx_wp (e + 3) 169 25 [.ref 138, .int (nI dp), zx_u0] [] (zx_LL Lh) I3 J P := fun e P hd => by
        have h2' := fun P => h2 (e + 2) P (by omega)
        have h3' := fun P => h3 (e + 2) P (by omega)
        rw [ze_169]
        simp (disch := omega) only [↓zs_169_0, ↓zs_169_1, ↓zs_169_3, ↓zs_169_6, ↓zs_169_9, ↓zs_169_10, ↓zs_169_11, ↓zs_169_14, ↓zs_169_17, ↓zs_169_18, ↓zs_169_19, ↓zs_169_20, ↓zs_169_21, ↓zs_169_22, zx_pu_s, zx_pu_n, zx_rv_s, zx_rv_n, true_and, and_true, true_or, or_true, zb_0, zb_1, zq_lcl, zq_lcg, zq_lce, eq_self, ite_true, ite_false, zk_138, zw_138, zk_139, zw_139, zk_140, zw_140, zk_141, zw_141, zk_142, zw_142, zk_143, zw_143, zk_144, zw_144, zk_145, zw_145, zk_146, zw_146, zk_147, zw_147, zk_148, zw_148, zk_149, zw_149, zk_150, zw_150, zk_151, zw_151, zk_152, zw_152, zq_138_1, zq_138_2, zq_138_3, zq_138_4, zq_138_16, zq_138_19, zq_138_20, zq_138_24, zq_138_25, zq_138_26, zq_138_27, zq_138_31, zq_138_32, zq_138_33, h15, zB_0, reduceCtorEq, h2', n1, nI_add, h3']
      rcases e3 with ⟨T3, x, z3, m3, l3, st3, cp3, w3, g1, g2, g3, g4⟩ | ⟨f, s, b3, g⟩
      · have tk3 := zT_tk z3
        have hcl : (c ++ x).length = c.length + x.length := List.length_append
        have hco := fun d P => sp_codes (Lh := Lh) (J := J) (d := d) (x := 3008) (P := P) z3.2.2.2.2 m3 (by have := tk3.1.1; have := tk3.2.1; omega)
        have z4 := zMd_c (x := nI 3008) (y := nI ((c ++ x).length + 1)) (i := 386 + (c ++ x).length) (j := 385) z3
        have m4 := zMc_add (x := 3008) m3
        rw [zl_appD] at m4
        refine ⟨_, ⟨zFq_t f13 zFq_c, .inl ⟨T3, x ++ [3008], z4, m4, by rw [zl_c1]; omega, st3, cp3, w3, by omega, g2, ⟨zl_cv_app g3.1 (zl_cv_1 (.inr (by decide))), fun ts hts => ?_⟩, fun i hi => ?_⟩⟩, fun d P hd => ?_⟩
        · rw [zf_tyL_app x _ (g3.2 ts (by omega))]
          rfl
        · obtain ⟨j, rfl⟩ := zl_ok_s hi tk
          obtain ⟨i3, o3, s3⟩ := g4 j (zl_ok_nx hi tk (by omega))
          refine ⟨i3, o3, fun p ot ht => ?_⟩
          rw [zl_run_go (zl_s_15 c15 (by omega)), s3 (15 :: p) ot (by show 3 < 4; decide), ← zl_appD]
          have st2 : 2 ≤ st3 := by rcases w3 with h | ⟨h, -⟩ <;> omega
          exact zl_run_eq (zl_fl (op := 15) st2 (by decide) (fun h => ⟨fun k => absurd k (g2.1 h).2.2, fun k => (by have := g2.1 h; omega), fun _ _ k => (by rcases w3 with q | ⟨-, q⟩; omega; rw [q] at k; exact Bool.noConfusion k)⟩) (fun _ _ => by decide))
        · obtain ⟨e, rfl⟩ : ∃ e, d = e + 3 := ⟨d - 3, by omega⟩
          rw [to25 e P hd]
          simp (disch := omega) only [↓zs_169_25, ↓zs_169_26, ↓zs_169_29, ↓zs_169_32, zx_pu_s, zx_pu_n, zx_rv_s, zx_rv_n, true_and, and_true, true_or, or_true, zb_0, zb_1, zq_lcl, zq_lcg, zq_lce, eq_self, ite_true, ite_false, zk_138, zw_138, zk_139, zw_139, zk_140, zw_140, zk_141, zw_141, zk_142, zw_142, zk_143, zw_143, zk_144, zw_144, zk_145, zw_145, zk_146, zw_146, zk_147, zw_147, zk_148, zw_148, zk_149, zw_149, zk_150, zw_150, zk_151, zw_151, zk_152, zw_152, zq_138_1, zq_138_2, zq_138_3, zq_138_4, zq_138_16, zq_138_19, zq_138_20, zq_138_24, zq_138_25, zq_138_26, zq_138_27, zq_138_31, zq_138_32, zq_138_33, hco]
      · have hco := fun d x P => sp_codes1 (Lh := Lh) (J := J) (d := d) (x := x) (P := P) b3
        refine ⟨I3, ⟨f13, .inr ⟨f, s, b3, fun i hi p ot ht => ?_⟩⟩, fun d P hd => ?_⟩
        · obtain ⟨j, rfl⟩ := zl_ok_s hi tk
          rw [zl_run_go (zl_s_15 c15 (by omega))]
          exact g j (zl_ok_nx hi tk (by omega)) (15 :: p) ot (by show 3 < 4; decide)
        · obtain ⟨e, rfl⟩ : ∃ e, d = e + 3 := ⟨d - 3, by omega⟩
          rw [to25 e P hd]
          simp (disch := omega) only [↓zs_169_25, ↓zs_169_26, ↓zs_169_29, ↓zs_169_32, zx_pu_s, zx_pu_n, zx_rv_s, zx_rv_n, true_and, and_true, true_or, or_true, zb_0, zb_1, zq_lcl, zq_lcg, zq_lce, eq_self, ite_true, ite_false, zk_138, zw_138, zk_139, zw_139, zk_140, zw_140, zk_141, zw_141, zk_142, zw_142, zk_143, zw_143, zk_144, zw_144, zk_145, zw_145, zk_146, zw_146, zk_147, zw_147, zk_148, zw_148, zk_149, zw_149, zk_150, zw_150, zk_151, zw_151, zk_152, zw_152, zq_138_1, zq_138_2, zq_138_3, zq_138_4, zq_138_16, zq_138_19, zq_138_20, zq_138_24, zq_138_25, zq_138_26, zq_138_27, zq_138_31, zq_138_32, zq_138_33, hco]
  · rw [decide_eq_false c15] at h15
    by_cases c47 : T.2.2.1 = 47
    · rw [decide_eq_true c47] at h47
      have hs : T.1 < T.2.1 := tk.2.2.2 (by omega)
      by_cases d6 : dp = 6
      · subst d6
        obtain ⟨b1, h2⟩ := sp_goes6 (Lh := Lh) (J := J) z (by omega)
        refine ⟨zMb I 4 T.1, ⟨zMb_f _ _ _, .inr ⟨4, T.1, b1, fun i hi p ot _ => ?_⟩⟩, fun d P hd => ?_⟩
        · obtain ⟨j, rfl⟩ := zl_ok_s hi tk
          exact zl_run_bad (zl_s_6 (by decide) (.inr ⟨rfl, .inl c47⟩) rfl)
        · obtain ⟨e, rfl⟩ : ∃ e, d = e + 3 := ⟨d - 3, by omega⟩
          rw [ze_169]
          simp (disch := omega) only [↓zs_169_0, ↓zs_169_1, ↓zs_169_3, ↓zs_169_6, ↓zs_169_33, ↓zs_169_34, ↓zs_169_36, ↓zs_169_39, ↓zs_169_42, ↓zs_169_43, ↓zs_169_44, ↓zs_169_47, ↓zs_169_50, zx_pu_s, zx_pu_n, zx_rv_s, zx_rv_n, true_and, and_true, true_or, or_true, zb_0, zb_1, zq_lcl, zq_lcg, zq_lce, eq_self, ite_true, ite_false, zk_138, zw_138, zk_139, zw_139, zk_140, zw_140, zk_141, zw_141, zk_142, zw_142, zk_143, zw_143, zk_144, zw_144, zk_145, zw_145, zk_146, zw_146, zk_147, zw_147, zk_148, zw_148, zk_149, zw_149, zk_150, zw_150, zk_151, zw_151, zk_152, zw_152, zq_138_1, zq_138_2, zq_138_3, zq_138_4, zq_138_16, zq_138_19, zq_138_20, zq_138_24, zq_138_25, zq_138_26, zq_138_27, zq_138_31, zq_138_32, zq_138_33, h15, h47, zB_0, reduceCtorEq, h2]
      · obtain ⟨I2, f2, z2, h2⟩ := sp_goesY (Lh := Lh) (J := J) (dp := dp) z (by omega)
        have m2 := zMc_f m f2
        obtain ⟨I3, ⟨f3, e3⟩, h3⟩ := it (dp + 1) (zf_nx b n T.2.1) c I2 (by omega) (by omega) z2 m2 (by omega)
        have f13 : zFq I I3 := zFq_t (zMd_q f2) f3
        have to58 : ∀ e P, 10 + 8 * (6 - dp) + (4 - 1) ≤ e + 3 → zx_rn (e + 3) 169 [.ref 138, .int (nI dp)] (zx_LL Lh) I J P = zx_wp (e + 3) 169 58 [.ref 138, .int (nI dp), zx_u0] [] (zx_LL Lh) I3 J P := fun e P hd => by
          have h2' := fun P => h2 (e + 2) P (by omega)
          have h3' := fun P => h3 (e + 2) P (by omega)
          rw [ze_169]
          simp (disch := omega) only [↓zs_169_0, ↓zs_169_1, ↓zs_169_3, ↓zs_169_6, ↓zs_169_33, ↓zs_169_34, ↓zs_169_36, ↓zs_169_39, ↓zs_169_42, ↓zs_169_43, ↓zs_169_44, ↓zs_169_47, ↓zs_169_50, ↓zs_169_51, ↓zs_169_52, ↓zs_169_53, ↓zs_169_54, ↓zs_169_55, zx_pu_s, zx_pu_n, zx_rv_s, zx_rv_n, true_and, and_true, true_or, or_true, zb_0, zb_1, zq_lcl, zq_lcg, zq_lce, eq_self, ite_true, ite_false, zk_138, zw_138, zk_139, zw_139, zk_140, zw_140, zk_141, zw_141, zk_142, zw_142, zk_143, zw_143, zk_144, zw_144, zk_145, zw_145, zk_146, zw_146, zk_147, zw_147, zk_148, zw_148, zk_149, zw_149, zk_150, zw_150, zk_151, zw_151, zk_152, zw_152, zq_138_1, zq_138_2, zq_138_3, zq_138_4, zq_138_16, zq_138_19, zq_138_20, zq_138_24, zq_138_25, zq_138_26, zq_138_27, zq_138_31, zq_138_32, zq_138_33, h15, h47, zB_0, reduceCtorEq, h2', n1, nI_add, h3']
        rcases e3 with ⟨T3, x, z3, m3, l3, st3, cp3, w3, g1, g2, g3, g4⟩ | ⟨f, s, b3, g⟩
        · have tk3 := zT_tk z3
          by_cases c48 : T3.2.2.1 = 48
          · obtain ⟨I4, f4, z4, h4⟩ := sp_eatsY (Lh := Lh) (J := J) z3 (by omega)
            rw [c48] at h4
            obtain ⟨tn3, tle3⟩ := zT_nx z3
            refine ⟨I4, ⟨zFq_t f13 (zMd_q f4), .inl ⟨_, x, z4, zMc_f m3 f4, by have := tk3.2.1; omega, 3, cp3, .inl rfl, by have := tk3.2.1; omega, ⟨fun h => absurd h (by decide), fun h => absurd h (by decide), fun h => absurd h (by decide)⟩, ⟨g3.1, fun ts hts => g3.2 ts (by omega)⟩, fun i hi => ?_⟩⟩, fun d P hd => ?_⟩
            · obtain ⟨j, rfl⟩ := zl_ok_s hi tk
              obtain ⟨i3, o3, s3⟩ := g4 j (zl_ok_nx hi tk (by omega))
              obtain ⟨j3, rfl⟩ := zl_ok_s o3 tk3
              refine ⟨j3, zl_ok_nx o3 tk3 (by omega), fun p ot ht => ?_⟩
              rw [zl_run_go (zl_s_47 c47 (by omega)), s3 (47 :: p) (ot + 1) (by show 0 < 1; decide), zl_run_go (zl_s_48 w3 c48)]
            · obtain ⟨e, rfl⟩ : ∃ e, d = e + 3 := ⟨d - 3, by omega⟩
              have h4' := fun P => h4 (e + 2) P (by omega)
              rw [to58 e P hd]
              simp (disch := omega) only [↓zs_169_58, ↓zs_169_59, ↓zs_169_61, ↓zs_169_64, ↓zs_169_67, ↓zs_169_68, ↓zs_169_69, ↓zs_169_72, zx_pu_s, zx_pu_n, zx_rv_s, zx_rv_n, true_and, and_true, true_or, or_true, zb_0, zb_1, zq_lcl, zq_lcg, zq_lce, eq_self, ite_true, ite_false, zk_138, zw_138, zk_139, zw_139, zk_140, zw_140, zk_141, zw_141, zk_142, zw_142, zk_143, zw_143, zk_144, zw_144, zk_145, zw_145, zk_146, zw_146, zk_147, zw_147, zk_148, zw_148, zk_149, zw_149, zk_150, zw_150, zk_151, zw_151, zk_152, zw_152, zq_138_1, zq_138_2, zq_138_3, zq_138_4, zq_138_16, zq_138_19, zq_138_20, zq_138_24, zq_138_25, zq_138_26, zq_138_27, zq_138_31, zq_138_32, zq_138_33, h4', n1]
          · have hn := fun d P => sp_eatsN (Lh := Lh) (J := J) (d := d) (P := P) z3 (q := 48) (by decide) c48
            have hf := fun d P => sp_fails (Lh := Lh) (J := J) (d := d) (f := 2) (P := P) z3
            obtain ⟨q1, q2⟩ := zMf_b (f := 2) (k := T3.2.2.1) (by decide) (by decide)
            refine ⟨zMb I3 (zMf 2 T3.2.2.1) T3.1, ⟨zFq_t f13 (zMb_f _ _ _), .inr ⟨_, _, zMb_b q1 q2, fun i hi p ot ht => ?_⟩⟩, fun d P hd => ?_⟩
            · obtain ⟨j, rfl⟩ := zl_ok_s hi tk
              obtain ⟨i3, o3, s3⟩ := g4 j (zl_ok_nx hi tk (by omega))
              obtain ⟨j3, rfl⟩ := zl_ok_s o3 tk3
              rw [zl_run_go (zl_s_47 c47 (by omega)), s3 (47 :: p) (ot + 1) (by show 0 < 1; decide), zl_run_bad (zl_s_n3 w3 g2.1 ⟨g2.2.2 (by decide), g2.2.1 (by decide)⟩ c48)]
              rfl
            · obtain ⟨e, rfl⟩ : ∃ e, d = e + 3 := ⟨d - 3, by omega⟩
              rw [to58 e P hd]
              simp (disch := omega) only [↓zs_169_58, ↓zs_169_59, ↓zs_169_61, ↓zs_169_64, ↓zs_169_67, ↓zs_169_68, ↓zs_169_69, ↓zs_169_72, zx_pu_s, zx_pu_n, zx_rv_s, zx_rv_n, true_and, and_true, true_or, or_true, zb_0, zb_1, zq_lcl, zq_lcg, zq_lce, eq_self, ite_true, ite_false, zk_138, zw_138, zk_139, zw_139, zk_140, zw_140, zk_141, zw_141, zk_142, zw_142, zk_143, zw_143, zk_144, zw_144, zk_145, zw_145, zk_146, zw_146, zk_147, zw_147, zk_148, zw_148, zk_149, zw_149, zk_150, zw_150, zk_151, zw_151, zk_152, zw_152, zq_138_1, zq_138_2, zq_138_3, zq_138_4, zq_138_16, zq_138_19, zq_138_20, zq_138_24, zq_138_25, zq_138_26, zq_138_27, zq_138_31, zq_138_32, zq_138_33, hn, hf]
        · have hn := fun d P => sp_eats1 (Lh := Lh) (J := J) (d := d) (x := nI 48) (P := P) b3
          have hf := fun d P => sp_fails1 (Lh := Lh) (J := J) (d := d) (x := nI 2) (P := P) b3
          refine ⟨I3, ⟨f13, .inr ⟨f, s, b3, fun i hi p ot ht => ?_⟩⟩, fun d P hd => ?_⟩
          · obtain ⟨j, rfl⟩ := zl_ok_s hi tk
            rw [zl_run_go (zl_s_47 c47 (by omega))]
            exact g j (zl_ok_nx hi tk (by omega)) (47 :: p) (ot + 1) (by show 0 < 1; decide)
          · obtain ⟨e, rfl⟩ : ∃ e, d = e + 3 := ⟨d - 3, by omega⟩
            rw [to58 e P hd]
            simp (disch := omega) only [↓zs_169_58, ↓zs_169_59, ↓zs_169_61, ↓zs_169_64, ↓zs_169_67, ↓zs_169_68, ↓zs_169_69, ↓zs_169_72, zx_pu_s, zx_pu_n, zx_rv_s, zx_rv_n, true_and, and_true, true_or, or_true, zb_0, zb_1, zq_lcl, zq_lcg, zq_lce, eq_self, ite_true, ite_false, zk_138, zw_138, zk_139, zw_139, zk_140, zw_140, zk_141, zw_141, zk_142, zw_142, zk_143, zw_143, zk_144, zw_144, zk_145, zw_145, zk_146, zw_146, zk_147, zw_147, zk_148, zw_148, zk_149, zw_149, zk_150, zw_150, zk_151, zw_151, zk_152, zw_152, zq_138_1, zq_138_2, zq_138_3, zq_138_4, zq_138_16, zq_138_19, zq_138_20, zq_138_24, zq_138_25, zq_138_26, zq_138_27, zq_138_31, zq_138_32, zq_138_33, hn, hf]
    · rw [decide_eq_false c47] at h47
      obtain ⟨I2, ⟨f2, e2⟩, h2⟩ := ps dp T c I hdp hr z m hc
      have to78 : ∀ e P, 10 + 8 * (6 - dp) + (4 - 1) ≤ e + 6 → zx_rn (e + 6) 169 [.ref 138, .int (nI dp)] (zx_LL Lh) I J P = zx_wp (e + 6) 169 78 [.ref 138, .int (nI dp), zx_u0] [] (zx_LL Lh) I2 J P := fun e P hd => by
        have h2' := fun P => h2 (e + 5) P (by omega)
        rw [ze_169]
        simp (disch := omega) only [↓zs_169_0, ↓zs_169_1, ↓zs_169_3, ↓zs_169_6, ↓zs_169_33, ↓zs_169_34, ↓zs_169_36, ↓zs_169_39, ↓zs_169_73, ↓zs_169_74, ↓zs_169_75, zx_pu_s, zx_pu_n, zx_rv_s, zx_rv_n, true_and, and_true, true_or, or_true, zb_0, zb_1, zq_lcl, zq_lcg, zq_lce, eq_self, ite_true, ite_false, zk_138, zw_138, zk_139, zw_139, zk_140, zw_140, zk_141, zw_141, zk_142, zw_142, zk_143, zw_143, zk_144, zw_144, zk_145, zw_145, zk_146, zw_146, zk_147, zw_147, zk_148, zw_148, zk_149, zw_149, zk_150, zw_150, zk_151, zw_151, zk_152, zw_152, zq_138_1, zq_138_2, zq_138_3, zq_138_4, zq_138_16, zq_138_19, zq_138_20, zq_138_24, zq_138_25, zq_138_26, zq_138_27, zq_138_31, zq_138_32, zq_138_33, h15, h47, zB_0, reduceCtorEq, h2']
      have pre : zPre T 0 := .inr ⟨rfl, c15, c47⟩
      rcases e2 with ⟨T2, x, z2, m2, l2, g1, g2, g3, g4⟩ | ⟨f, s, b2, g⟩
      · have tk2 := zT_tk z2
        have e2N := tk2.1.1
        have n5 := g2.2 (by decide)
        have n6 := g2.1 (by decide)
        have hcl : (c ++ x).length = c.length + x.length := List.length_append
        have hj := fun q (hq : q < 60) d P => sp_is (Lh := Lh) (J := J) (d := d) (q := q) (P := P) z2 hq
        have j49 := hj 49 (by decide)
        have j50 := hj 50 (by decide)
        have j51 := hj 51 (by decide)
        by_cases cc : T2.2.2.1 = 49 ∨ T2.2.2.1 = 50 ∨ T2.2.2.1 = 51
        · have hs2 : T2.1 < T2.2.1 := tk2.2.2.2 (by omega)
          have hbd : zl_bd T2.2.2.1 = 4 := by rcases cc with e | e | e <;> rw [e] <;> rfl
          have hoc : 3003 ≤ zl_oc T2.2.2.1 ∧ zl_oc T2.2.2.1 ≤ 3005 := by rcases cc with e | e | e <;> rw [e] <;> decide
          have b1 : 1 ≤ zl_bd T2.2.2.1 := by omega
          have b2 : 2 ≤ zl_bd T2.2.2.1 := by omega
          have k15 : T2.2.2.1 ≠ 15 := by omega
          have b5 : zl_bd T2.2.2.1 < 5 := by omega
          obtain ⟨tn2, tle2⟩ := zT_nx z2
          obtain ⟨I3, f3, z3, h3⟩ := sp_nextM (Lh := Lh) (J := J) z2
          have m3 := zMc_f m2 f3
          obtain ⟨I4, ⟨f4, e4⟩, h4⟩ := ps dp (zf_nx b n T2.2.1) (c ++ x) I3 hdp (by omega) z3 m3 (by omega)
          have f14 : zFq I I4 := zFq_t f2 (zFq_t (zMd_q f3) f4)
          have to156 : ∀ e P, 10 + 8 * (6 - dp) + (4 - 1) ≤ e + 6 → zx_rn (e + 6) 169 [.ref 138, .int (nI dp)] (zx_LL Lh) I J P = zx_wp (e + 6) 169 156 [.ref 138, .int (nI dp), .int (nI (zl_oc T2.2.2.1))] [] (zx_LL Lh) I4 J P := fun e P hd => by
            have h3' := fun P => h3 (e + 5) P (by omega)
            have h4' := fun P => h4 (e + 5) P (by omega)
            rw [to78 e P hd]
            rcases cc with q | q | q
            · rw [decide_eq_true q] at j49
              rw [q]
              simp (disch := omega) only [↓zs_169_78, ↓zs_169_79, ↓zs_169_81, ↓zs_169_84, ↓zs_169_87, ↓zs_169_90, ↓zs_169_93, ↓zs_169_94, ↓zs_169_96, ↓zs_169_99, ↓zs_169_102, ↓zs_169_105, ↓zs_169_108, ↓zs_169_111, zx_pu_s, zx_pu_n, zx_rv_s, zx_rv_n, true_and, and_true, true_or, or_true, zb_0, zb_1, zq_lcl, zq_lcg, zq_lce, eq_self, ite_true, ite_false, zk_138, zw_138, zk_139, zw_139, zk_140, zw_140, zk_141, zw_141, zk_142, zw_142, zk_143, zw_143, zk_144, zw_144, zk_145, zw_145, zk_146, zw_146, zk_147, zw_147, zk_148, zw_148, zk_149, zw_149, zk_150, zw_150, zk_151, zw_151, zk_152, zw_152, zq_138_1, zq_138_2, zq_138_3, zq_138_4, zq_138_16, zq_138_19, zq_138_20, zq_138_24, zq_138_25, zq_138_26, zq_138_27, zq_138_31, zq_138_32, zq_138_33, j49, zB_0, reduceCtorEq]
              simp (disch := omega) only [↓zs_169_112, ↓zs_169_113, ↓zs_169_115, ↓zs_169_118, ↓zs_169_121, ↓zs_169_122, ↓zs_169_124, ↓zs_169_127, ↓zs_169_130, ↓zs_169_131, ↓zs_169_133, ↓zs_169_136, ↓zs_169_139, ↓zs_169_140, ↓zs_169_143, ↓zs_169_146, ↓zs_169_147, ↓zs_169_148, ↓zs_169_151, ↓zs_169_152, ↓zs_169_153, zx_pu_s, zx_pu_n, zx_rv_s, zx_rv_n, true_and, and_true, true_or, or_true, zb_0, zb_1, zq_lcl, zq_lcg, zq_lce, eq_self, ite_true, ite_false, zk_138, zw_138, zk_139, zw_139, zk_140, zw_140, zk_141, zw_141, zk_142, zw_142, zk_143, zw_143, zk_144, zw_144, zk_145, zw_145, zk_146, zw_146, zk_147, zw_147, zk_148, zw_148, zk_149, zw_149, zk_150, zw_150, zk_151, zw_151, zk_152, zw_152, zq_138_1, zq_138_2, zq_138_3, zq_138_4, zq_138_16, zq_138_19, zq_138_20, zq_138_24, zq_138_25, zq_138_26, zq_138_27, zq_138_31, zq_138_32, zq_138_33, j49, zB_0, reduceCtorEq, h3', h4']
              rfl
            · rw [decide_eq_false (show ¬ T2.2.2.1 = 49 by omega)] at j49
              rw [decide_eq_true q] at j50
              rw [q]
              simp (disch := omega) only [↓zs_169_78, ↓zs_169_79, ↓zs_169_81, ↓zs_169_84, ↓zs_169_87, ↓zs_169_90, ↓zs_169_93, ↓zs_169_94, ↓zs_169_96, ↓zs_169_99, ↓zs_169_102, ↓zs_169_105, ↓zs_169_108, ↓zs_169_111, zx_pu_s, zx_pu_n, zx_rv_s, zx_rv_n, true_and, and_true, true_or, or_true, zb_0, zb_1, zq_lcl, zq_lcg, zq_lce, eq_self, ite_true, ite_false, zk_138, zw_138, zk_139, zw_139, zk_140, zw_140, zk_141, zw_141, zk_142, zw_142, zk_143, zw_143, zk_144, zw_144, zk_145, zw_145, zk_146, zw_146, zk_147, zw_147, zk_148, zw_148, zk_149, zw_149, zk_150, zw_150, zk_151, zw_151, zk_152, zw_152, zq_138_1, zq_138_2, zq_138_3, zq_138_4, zq_138_16, zq_138_19, zq_138_20, zq_138_24, zq_138_25, zq_138_26, zq_138_27, zq_138_31, zq_138_32, zq_138_33, j49, j50, zB_0, reduceCtorEq]
              simp (disch := omega) only [↓zs_169_112, ↓zs_169_113, ↓zs_169_115, ↓zs_169_118, ↓zs_169_121, ↓zs_169_122, ↓zs_169_124, ↓zs_169_127, ↓zs_169_130, ↓zs_169_131, ↓zs_169_133, ↓zs_169_136, ↓zs_169_139, ↓zs_169_140, ↓zs_169_143, ↓zs_169_146, ↓zs_169_147, ↓zs_169_148, ↓zs_169_151, ↓zs_169_152, ↓zs_169_153, zx_pu_s, zx_pu_n, zx_rv_s, zx_rv_n, true_and, and_true, true_or, or_true, zb_0, zb_1, zq_lcl, zq_lcg, zq_lce, eq_self, ite_true, ite_false, zk_138, zw_138, zk_139, zw_139, zk_140, zw_140, zk_141, zw_141, zk_142, zw_142, zk_143, zw_143, zk_144, zw_144, zk_145, zw_145, zk_146, zw_146, zk_147, zw_147, zk_148, zw_148, zk_149, zw_149, zk_150, zw_150, zk_151, zw_151, zk_152, zw_152, zq_138_1, zq_138_2, zq_138_3, zq_138_4, zq_138_16, zq_138_19, zq_138_20, zq_138_24, zq_138_25, zq_138_26, zq_138_27, zq_138_31, zq_138_32, zq_138_33, j49, j50, zB_0, reduceCtorEq, h3', h4']
              rfl
            · rw [decide_eq_false (show ¬ T2.2.2.1 = 49 by omega)] at j49
              rw [decide_eq_false (show ¬ T2.2.2.1 = 50 by omega)] at j50
              rw [decide_eq_true q] at j51
              rw [q]
              simp (disch := omega) only [↓zs_169_78, ↓zs_169_79, ↓zs_169_81, ↓zs_169_84, ↓zs_169_87, ↓zs_169_90, ↓zs_169_93, ↓zs_169_94, ↓zs_169_96, ↓zs_169_99, ↓zs_169_102, ↓zs_169_105, ↓zs_169_108, ↓zs_169_111, zx_pu_s, zx_pu_n, zx_rv_s, zx_rv_n, true_and, and_true, true_or, or_true, zb_0, zb_1, zq_lcl, zq_lcg, zq_lce, eq_self, ite_true, ite_false, zk_138, zw_138, zk_139, zw_139, zk_140, zw_140, zk_141, zw_141, zk_142, zw_142, zk_143, zw_143, zk_144, zw_144, zk_145, zw_145, zk_146, zw_146, zk_147, zw_147, zk_148, zw_148, zk_149, zw_149, zk_150, zw_150, zk_151, zw_151, zk_152, zw_152, zq_138_1, zq_138_2, zq_138_3, zq_138_4, zq_138_16, zq_138_19, zq_138_20, zq_138_24, zq_138_25, zq_138_26, zq_138_27, zq_138_31, zq_138_32, zq_138_33, j49, j50, zB_0, reduceCtorEq]
              simp (disch := omega) only [↓zs_169_112, ↓zs_169_113, ↓zs_169_115, ↓zs_169_118, ↓zs_169_121, ↓zs_169_122, ↓zs_169_124, ↓zs_169_127, ↓zs_169_130, ↓zs_169_131, ↓zs_169_133, ↓zs_169_136, ↓zs_169_139, ↓zs_169_140, ↓zs_169_143, ↓zs_169_146, ↓zs_169_147, ↓zs_169_148, ↓zs_169_151, ↓zs_169_152, ↓zs_169_153, zx_pu_s, zx_pu_n, zx_rv_s, zx_rv_n, true_and, and_true, true_or, or_true, zb_0, zb_1, zq_lcl, zq_lcg, zq_lce, eq_self, ite_true, ite_false, zk_138, zw_138, zk_139, zw_139, zk_140, zw_140, zk_141, zw_141, zk_142, zw_142, zk_143, zw_143, zk_144, zw_144, zk_145, zw_145, zk_146, zw_146, zk_147, zw_147, zk_148, zw_148, zk_149, zw_149, zk_150, zw_150, zk_151, zw_151, zk_152, zw_152, zq_138_1, zq_138_2, zq_138_3, zq_138_4, zq_138_16, zq_138_19, zq_138_20, zq_138_24, zq_138_25, zq_138_26, zq_138_27, zq_138_31, zq_138_32, zq_138_33, j49, j50, j51, zB_0, reduceCtorEq, h3', h4']
              rfl
          have simA : ∀ i, zl_ok n i T → ∃ i3, zl_ok n i3 (zf_nx b n T2.2.1) ∧ ∀ p ot, zl_tb p < 4 → zl_run b n i T (0, p, dp, 0, ot, false, c) = zl_run b n i3 (zf_nx b n T2.2.1) (1, T2.2.2.1 :: p, dp, 0, ot, true, c ++ x) := by
            intro i hi
            obtain ⟨i2, o2, s2⟩ := g4 i hi
            obtain ⟨j2, rfl⟩ := zl_ok_s o2 tk2
            refine ⟨j2, zl_ok_nx o2 tk2 (by omega), fun p ot ht => ?_⟩
            rw [s2 0 p 0 ot false pre (by omega), zl_run_go (zl_s_cmp cc ht)]
          rcases e4 with ⟨T4, y, z4, m4, l4, k1, k2, k3, k4⟩ | ⟨f, s, b4, g⟩
          · have tk4 := zT_tk z4
            have hcy : (c ++ x ++ y).length = c.length + x.length + y.length := by rw [List.length_append, hcl]
            have hco := fun d P => sp_codes (Lh := Lh) (J := J) (d := d) (x := zl_oc T2.2.2.1) (P := P) z4.2.2.2.2 m4 (by have := tk4.1.1; have := tk4.2.1; omega)
            have z5 := zMd_c (x := nI (zl_oc T2.2.2.1)) (y := nI ((c ++ x ++ y).length + 1)) (i := 386 + (c ++ x ++ y).length) (j := 385) z4
            have m5 := zMc_add (x := zl_oc T2.2.2.1) m4
            have n7 := k2.2 (by decide)
            have n8 := k2.1 (by decide)
            have eqc : c ++ x ++ y ++ [zl_oc T2.2.2.1] = c ++ (x ++ y ++ [zl_oc T2.2.2.1]) := by simp only [List.append_assoc]
            rw [eqc] at m5
            refine ⟨_, ⟨zFq_t f14 zFq_c, .inl ⟨T4, x ++ y ++ [zl_oc T2.2.2.1], z5, m5, ?_, 2, true, .inr ⟨rfl, rfl⟩, by have := tk2.2.1; omega, ⟨fun _ => ⟨n7.1, n7.2, n8⟩, fun h => absurd h (by decide), fun h => absurd h (by decide)⟩, ⟨zl_cv_app (zl_cv_app g3.1 k3.1) (zl_cv_1 (.inr (by omega))), fun ts hts => ?_⟩, fun i hi => ?_⟩⟩, fun d P hd => ?_⟩
            · rw [zl_c1, List.length_append]; omega
            · have a1 := g3.2 ts (by omega)
              have a2 := k3.2 (false :: ts) (by show ts.length + 1 + _ ≤ 60; omega)
              rw [zf_tyL_app (x ++ y) _ ((zf_tyL_app x _ a1).trans a2)]
              rcases cc with q | q | q <;> rw [q] <;> rfl
            · obtain ⟨i3, o3, s3⟩ := simA i hi
              obtain ⟨i4, o4, s4⟩ := k4 i3 o3
              refine ⟨i4, o4, fun p ot ht => ?_⟩
              rw [s3 p ot ht, s4 1 (T2.2.2.1 :: p) 0 ot true (.inl rfl) b5, ← eqc]
              have := zl_run_eq (b := b) (n := n) (i := i4) (T := T4) (zl_fl (k := T4.2.2.1) (v := T4.2.2.2) (p := p) (ns := dp) (os := 0) (ot := ot) (cp := true) (c := c ++ x ++ y) (op := T2.2.2.1) (Nat.le_refl 2) b1 (fun _ => ⟨fun h => absurd h n8, fun h => (h.elim (fun h => absurd h n7.1) (fun h => absurd h n7.2)), fun _ _ h => Bool.noConfusion h⟩) (fun _ _ => b2))
              rw [if_neg k15] at this
              exact this
            · obtain ⟨e, rfl⟩ : ∃ e, d = e + 6 := ⟨d - 6, by omega⟩
              rw [to156 e P hd]
              simp (disch := omega) only [↓zs_169_156, ↓zs_169_157, ↓zs_169_158, ↓zs_169_161, zx_pu_s, zx_pu_n, zx_rv_s, zx_rv_n, true_and, and_true, true_or, or_true, zb_0, zb_1, zq_lcl, zq_lcg, zq_lce, eq_self, ite_true, ite_false, zk_138, zw_138, zk_139, zw_139, zk_140, zw_140, zk_141, zw_141, zk_142, zw_142, zk_143, zw_143, zk_144, zw_144, zk_145, zw_145, zk_146, zw_146, zk_147, zw_147, zk_148, zw_148, zk_149, zw_149, zk_150, zw_150, zk_151, zw_151, zk_152, zw_152, zq_138_1, zq_138_2, zq_138_3, zq_138_4, zq_138_16, zq_138_19, zq_138_20, zq_138_24, zq_138_25, zq_138_26, zq_138_27, zq_138_31, zq_138_32, zq_138_33, hco]
          · have hco := fun d x P => sp_codes1 (Lh := Lh) (J := J) (d := d) (x := x) (P := P) b4
            refine ⟨I4, ⟨f14, .inr ⟨f, s, b4, fun i hi p ot ht => ?_⟩⟩, fun d P hd => ?_⟩
            · obtain ⟨i3, o3, s3⟩ := simA i hi
              rw [s3 p ot ht]
              exact g i3 o3 1 (T2.2.2.1 :: p) 0 ot true (.inl rfl) b5
            · obtain ⟨e, rfl⟩ : ∃ e, d = e + 6 := ⟨d - 6, by omega⟩
              rw [to156 e P hd]
              simp (disch := omega) only [↓zs_169_156, ↓zs_169_157, ↓zs_169_158, ↓zs_169_161, zx_pu_s, zx_pu_n, zx_rv_s, zx_rv_n, true_and, and_true, true_or, or_true, zb_0, zb_1, zq_lcl, zq_lcg, zq_lce, eq_self, ite_true, ite_false, zk_138, zw_138, zk_139, zw_139, zk_140, zw_140, zk_141, zw_141, zk_142, zw_142, zk_143, zw_143, zk_144, zw_144, zk_145, zw_145, zk_146, zw_146, zk_147, zw_147, zk_148, zw_148, zk_149, zw_149, zk_150, zw_150, zk_151, zw_151, zk_152, zw_152, zq_138_1, zq_138_2, zq_138_3, zq_138_4, zq_138_16, zq_138_19, zq_138_20, zq_138_24, zq_138_25, zq_138_26, zq_138_27, zq_138_31, zq_138_32, zq_138_33, hco]
        · have c49 : ¬ T2.2.2.1 = 49 := fun h => cc (.inl h)
          have c50 : ¬ T2.2.2.1 = 50 := fun h => cc (.inr (.inl h))
          have c51 : ¬ T2.2.2.1 = 51 := fun h => cc (.inr (.inr h))
          rw [decide_eq_false c49] at j49
          rw [decide_eq_false c50] at j50
          rw [decide_eq_false c51] at j51
          have hf := fun d P => sp_fails (Lh := Lh) (J := J) (d := d) (f := 2) (P := P) z2
          obtain ⟨q1, q2⟩ := zMf_b (f := 2) (k := T2.2.2.1) (by decide) (by decide)
          have bb := zMb_b (I := I2) (s := T2.1) q1 q2
          have hsb := sp_sumB (Lh := Lh) (J := J) (x := nI dp) bb
          have hco := fun d x P => sp_codes1 (Lh := Lh) (J := J) (d := d) (x := x) (P := P) bb
          refine ⟨zMb I2 (zMf 2 T2.2.2.1) T2.1, ⟨zFq_t f2 (zMb_f _ _ _), .inr ⟨_, _, bb, fun i hi p ot ht => ?_⟩⟩, fun d P hd => ?_⟩
          · obtain ⟨i2, o2, s2⟩ := g4 i hi
            obtain ⟨j2, rfl⟩ := zl_ok_s o2 tk2
            rw [s2 0 p 0 ot false pre (by omega), zl_run_bad (zl_s_n2 ⟨n5.1, n5.2, n6⟩ ⟨c49, c50, c51⟩)]
            rfl
          · obtain ⟨e, rfl⟩ : ∃ e, d = e + 6 := ⟨d - 6, by omega⟩
            rw [to78 e P hd]
            simp (disch := omega) only [↓zs_169_78, ↓zs_169_79, ↓zs_169_81, ↓zs_169_84, ↓zs_169_87, ↓zs_169_90, ↓zs_169_93, ↓zs_169_94, ↓zs_169_96, ↓zs_169_99, ↓zs_169_102, ↓zs_169_105, ↓zs_169_108, ↓zs_169_111, zx_pu_s, zx_pu_n, zx_rv_s, zx_rv_n, true_and, and_true, true_or, or_true, zb_0, zb_1, zq_lcl, zq_lcg, zq_lce, eq_self, ite_true, ite_false, zk_138, zw_138, zk_139, zw_139, zk_140, zw_140, zk_141, zw_141, zk_142, zw_142, zk_143, zw_143, zk_144, zw_144, zk_145, zw_145, zk_146, zw_146, zk_147, zw_147, zk_148, zw_148, zk_149, zw_149, zk_150, zw_150, zk_151, zw_151, zk_152, zw_152, zq_138_1, zq_138_2, zq_138_3, zq_138_4, zq_138_16, zq_138_19, zq_138_20, zq_138_24, zq_138_25, zq_138_26, zq_138_27, zq_138_31, zq_138_32, zq_138_33, j49, j50, zB_0, reduceCtorEq]
            simp (disch := omega) only [↓zs_169_112, ↓zs_169_113, ↓zs_169_115, ↓zs_169_118, ↓zs_169_121, ↓zs_169_122, ↓zs_169_124, ↓zs_169_127, ↓zs_169_130, ↓zs_169_131, ↓zs_169_133, ↓zs_169_136, ↓zs_169_139, ↓zs_169_140, ↓zs_169_143, ↓zs_169_146, ↓zs_169_147, ↓zs_169_148, ↓zs_169_151, ↓zs_169_152, ↓zs_169_153, ↓zs_169_156, ↓zs_169_157, ↓zs_169_158, ↓zs_169_161, zx_pu_s, zx_pu_n, zx_rv_s, zx_rv_n, true_and, and_true, true_or, or_true, zb_0, zb_1, zq_lcl, zq_lcg, zq_lce, eq_self, ite_true, ite_false, zk_138, zw_138, zk_139, zw_139, zk_140, zw_140, zk_141, zw_141, zk_142, zw_142, zk_143, zw_143, zk_144, zw_144, zk_145, zw_145, zk_146, zw_146, zk_147, zw_147, zk_148, zw_148, zk_149, zw_149, zk_150, zw_150, zk_151, zw_151, zk_152, zw_152, zq_138_1, zq_138_2, zq_138_3, zq_138_4, zq_138_16, zq_138_19, zq_138_20, zq_138_24, zq_138_25, zq_138_26, zq_138_27, zq_138_31, zq_138_32, zq_138_33, j49, j50, j51, zB_0, reduceCtorEq, hf, hsb, hco]
      · have hn := fun d x P => sp_is1 (Lh := Lh) (J := J) (d := d) (x := x) (P := P) b2
        have hf := fun d x P => sp_fails1 (Lh := Lh) (J := J) (d := d) (x := x) (P := P) b2
        have hco := fun d x P => sp_codes1 (Lh := Lh) (J := J) (d := d) (x := x) (P := P) b2
        have hsb := sp_sumB (Lh := Lh) (J := J) (x := nI dp) b2
        refine ⟨I2, ⟨f2, .inr ⟨f, s, b2, fun i hi p ot ht => g i hi 0 p 0 ot false pre (by omega)⟩⟩, fun d P hd => ?_⟩
        obtain ⟨e, rfl⟩ : ∃ e, d = e + 6 := ⟨d - 6, by omega⟩
        rw [to78 e P hd]
        simp (disch := omega) only [↓zs_169_78, ↓zs_169_79, ↓zs_169_81, ↓zs_169_84, ↓zs_169_87, ↓zs_169_90, ↓zs_169_93, ↓zs_169_94, ↓zs_169_96, ↓zs_169_99, ↓zs_169_102, ↓zs_169_105, ↓zs_169_108, ↓zs_169_111, zx_pu_s, zx_pu_n, zx_rv_s, zx_rv_n, true_and, and_true, true_or, or_true, zb_0, zb_1, zq_lcl, zq_lcg, zq_lce, eq_self, ite_true, ite_false, zk_138, zw_138, zk_139, zw_139, zk_140, zw_140, zk_141, zw_141, zk_142, zw_142, zk_143, zw_143, zk_144, zw_144, zk_145, zw_145, zk_146, zw_146, zk_147, zw_147, zk_148, zw_148, zk_149, zw_149, zk_150, zw_150, zk_151, zw_151, zk_152, zw_152, zq_138_1, zq_138_2, zq_138_3, zq_138_4, zq_138_16, zq_138_19, zq_138_20, zq_138_24, zq_138_25, zq_138_26, zq_138_27, zq_138_31, zq_138_32, zq_138_33, hn]
        simp (disch := omega) only [↓zs_169_112, ↓zs_169_113, ↓zs_169_115, ↓zs_169_118, ↓zs_169_121, ↓zs_169_122, ↓zs_169_124, ↓zs_169_127, ↓zs_169_130, ↓zs_169_131, ↓zs_169_133, ↓zs_169_136, ↓zs_169_139, ↓zs_169_140, ↓zs_169_143, ↓zs_169_146, ↓zs_169_147, ↓zs_169_148, ↓zs_169_151, ↓zs_169_152, ↓zs_169_153, ↓zs_169_156, ↓zs_169_157, ↓zs_169_158, ↓zs_169_161, zx_pu_s, zx_pu_n, zx_rv_s, zx_rv_n, true_and, and_true, true_or, or_true, zb_0, zb_1, zq_lcl, zq_lcg, zq_lce, eq_self, ite_true, ite_false, zk_138, zw_138, zk_139, zw_139, zk_140, zw_140, zk_141, zw_141, zk_142, zw_142, zk_143, zw_143, zk_144, zw_144, zk_145, zw_145, zk_146, zw_146, zk_147, zw_147, zk_148, zw_148, zk_149, zw_149, zk_150, zw_150, zk_151, zw_151, zk_152, zw_152, zq_138_1, zq_138_2, zq_138_3, zq_138_4, zq_138_16, zq_138_19, zq_138_20, zq_138_24, zq_138_25, zq_138_26, zq_138_27, zq_138_31, zq_138_32, zq_138_33, hn, hf, hsb, hco]
theorem sp_bothL {r0 : Nat} (pu : zPT Lh b n J 169 4 4 r0) : ∀ r, r ≤ r0 → ∀ (dp : Nat) (T : zTk) (c : List Nat) (st : Nat) (cp : Bool) (I : zx_MI), dp ≤ 6 → n < T.1 + r → zWh st cp → zNt 4 st T.2.2.1 → zMd I b n T → zMc I c → c.length ≤ T.1 → ∃ I2, zEnd b n I I2 T c (zG3 b n 2 5 dp T c st cp) (zErr3 b n 2 dp T c st cp) ∧ ∀ d P, 10 + 8 * (6 - dp) + (5 - 1) ≤ d → zx_wp d 170 5 [.ref 138, .int (nI dp)] [] (zx_LL Lh) I J P = P none (zx_LL Lh) I2 J := by
  intro r
  induction r with
  | zero =>
    intro hr0 dp T c st cp I hdp hr _ _ z m hc
    have := (zT_tk z).2.1
    have := (zT_tk z).1.1
    omega
  | succ r ih =>
    intro hr0 dp T c st cp I hdp hr w nt z m hc
    have tk := zT_tk z
    have k52 := tk.1.2.1
    have eN := tk.1.1
    have n900 := z.1.1
    obtain ⟨tn, tle⟩ := zT_nx z
    have n1 : (nI 1 = nI 0) = False := eq_false (by decide)
    by_cases cop : T.2.2.1 = 14
    · have hs : T.1 < T.2.1 := tk.2.2.2 (by omega)
      have hop : T.2.2.1 = 14 ∨ T.2.2.1 = 13 := by omega
      obtain ⟨I2, f2, z2, h2⟩ := sp_eatsY (Lh := Lh) (J := J) z (by omega)
      rw [cop] at h2
      have m2 := zMc_f m f2
      obtain ⟨I3, ⟨f3, e3⟩, h3⟩ := pu dp (zf_nx b n T.2.1) c I2 hdp (by omega) z2 m2 (by omega)
      have f13 : zFq I I3 := zFq_t (zMd_q f2) f3
      have to19 : ∀ e P, 10 + 8 * (6 - dp) + (5 - 1) ≤ e + 3 → zx_wp (e + 3) 170 5 [.ref 138, .int (nI dp)] [] (zx_LL Lh) I J P = zx_wp (e + 3) 170 19 [.ref 138, .int (nI dp)] [] (zx_LL Lh) I3 J P := fun e P hd => by
        have h2' := fun P => h2 (e + 2) P (by omega)
        have h3' := fun P => h3 (e + 2) P (by omega)
        rw [zs_170_5]
        simp (disch := omega) only [↓zs_170_6, ↓zs_170_8, ↓zs_170_11, ↓zs_170_14, ↓zs_170_15, ↓zs_170_16, zx_pu_s, zx_pu_n, zx_rv_s, zx_rv_n, true_and, and_true, true_or, or_true, zb_0, zb_1, zq_lcl, zq_lcg, zq_lce, eq_self, ite_true, ite_false, zk_138, zw_138, zk_139, zw_139, zk_140, zw_140, zk_141, zw_141, zk_142, zw_142, zk_143, zw_143, zk_144, zw_144, zk_145, zw_145, zk_146, zw_146, zk_147, zw_147, zk_148, zw_148, zk_149, zw_149, zk_150, zw_150, zk_151, zw_151, zk_152, zw_152, zq_138_1, zq_138_2, zq_138_3, zq_138_4, zq_138_16, zq_138_19, zq_138_20, zq_138_24, zq_138_25, zq_138_26, zq_138_27, zq_138_31, zq_138_32, zq_138_33, h2', n1, h3']
      rcases e3 with ⟨T3, x, z3, m3, l3, st3, cp3, w3, g1, g2, g3, g4⟩ | ⟨f, s, b3, g⟩
      · have tk3 := zT_tk z3
        have st2 : 2 ≤ st3 := by rcases w3 with h | ⟨h, -⟩ <;> omega
        have hcl : (c ++ x).length = c.length + x.length := List.length_append
        have hco := fun d P => sp_codes (Lh := Lh) (J := J) (d := d) (x := 3006) (P := P) z3.2.2.2.2 m3 (by have := tk3.1.1; have := tk3.2.1; omega)
        have z4 := zMd_c (x := nI 3006) (y := nI ((c ++ x).length + 1)) (i := 386 + (c ++ x).length) (j := 385) z3
        have m4 := zMc_add (x := 3006) m3
        obtain ⟨I5, ⟨f5, e5⟩, h5⟩ := ih (by omega) dp T3 (c ++ x ++ [3006]) st3 cp3 _ hdp (by omega) w3 g2 z4 m4 (by rw [zl_c1]; omega)
        have f15 : zFq I I5 := zFq_t f13 (zFq_t zFq_c f5)
        have simI : ∀ i, zl_ok n i T → ∃ i3, zl_ok n i3 T3 ∧ ∀ p ot, zl_tb p < 2 → zl_run b n i T (st, p, dp, 0, ot, cp, c) = zl_run b n i3 T3 (st3, p, dp, 0, ot, cp3, c ++ x ++ [3006]) := by
          intro i hi
          obtain ⟨j, rfl⟩ := zl_ok_s hi tk
          obtain ⟨i3, o3, s3⟩ := g4 j (zl_ok_nx hi tk (by omega))
          refine ⟨i3, o3, fun p ot ht => ?_⟩
          rw [zl_run_go (zl_s_and w hop (by rw [cop]; exact ht)), cop, s3 (14 :: p) ot (by show 2 < 4; decide)]
          exact zl_run_eq (zl_fl (op := 14) st2 (by decide) (fun h => ⟨fun k => absurd k (g2.1 h).2.2, fun k => k.elim (fun k => absurd k (g2.1 h).1) (fun k => absurd k (g2.1 h).2.1), fun _ _ k => (by rcases w3 with q | ⟨-, q⟩; omega; rw [q] at k; exact Bool.noConfusion k)⟩) (fun k _ => by decide))
        refine ⟨I5, ⟨f15, ?_⟩, fun d P hd => ?_⟩
        · rcases e5 with ⟨T5, y, z5, m5, l5, st5, cp5, w5, k1, k2, k3⟩ | ⟨f, s, b5, g5⟩
          · rw [zl_appC] at m5 k3
            refine .inl ⟨T5, x ++ [3006] ++ y, z5, m5, ?_, st5, cp5, w5, k1, ⟨zl_cv_app (zl_cv_app g3.1 (zl_cv_1 (.inr (by decide)))) k2.1, fun ts hts => ?_⟩, fun i hi => ?_⟩
            · rw [List.length_append, List.length_append]
              show T.1 + (x.length + 1 + y.length) ≤ T5.1
              omega
            · have a1 := g3.2 (true :: ts) (by show ts.length + 1 + _ ≤ 60; omega)
              have a2 : zf_tyL (x ++ [3006]) (true :: ts) = some (true :: ts) := by
                rw [zf_tyL_app x _ a1]; rfl
              rw [zf_tyL_app _ _ a2]
              exact k2.2 ts hts
            · obtain ⟨i3, o3, s3⟩ := simI i hi
              obtain ⟨i5, o5, s5⟩ := k3 i3 o3
              exact ⟨i5, o5, fun p ot ht => (s3 p ot ht).trans (s5 p ot ht)⟩
          · exact .inr ⟨f, s, b5, fun i hi p ot ht => by
              obtain ⟨i3, o3, s3⟩ := simI i hi
              exact (s3 p ot ht).trans (g5 i3 o3 p ot ht)⟩
        · obtain ⟨e, rfl⟩ : ∃ e, d = e + 3 := ⟨d - 3, by omega⟩
          rw [to19 e P hd, ← h5 (e + 3) P hd]
          simp (disch := omega) only [↓zs_170_19, ↓zs_170_20, ↓zs_170_23, ↓zs_170_26, zx_pu_s, zx_pu_n, zx_rv_s, zx_rv_n, true_and, and_true, true_or, or_true, zb_0, zb_1, zq_lcl, zq_lcg, zq_lce, eq_self, ite_true, ite_false, zk_138, zw_138, zk_139, zw_139, zk_140, zw_140, zk_141, zw_141, zk_142, zw_142, zk_143, zw_143, zk_144, zw_144, zk_145, zw_145, zk_146, zw_146, zk_147, zw_147, zk_148, zw_148, zk_149, zw_149, zk_150, zw_150, zk_151, zw_151, zk_152, zw_152, zq_138_1, zq_138_2, zq_138_3, zq_138_4, zq_138_16, zq_138_19, zq_138_20, zq_138_24, zq_138_25, zq_138_26, zq_138_27, zq_138_31, zq_138_32, zq_138_33, hco]
      · have hco := fun d x P => sp_codes1 (Lh := Lh) (J := J) (d := d) (x := x) (P := P) b3
        have hn := fun d x P => sp_eats1 (Lh := Lh) (J := J) (d := d) (x := x) (P := P) b3
        refine ⟨I3, ⟨f13, .inr ⟨f, s, b3, fun i hi p ot ht => ?_⟩⟩, fun d P hd => ?_⟩
        · obtain ⟨j, rfl⟩ := zl_ok_s hi tk
          rw [zl_run_go (zl_s_and w hop (by rw [cop]; exact ht)), cop]
          exact g j (zl_ok_nx hi tk (by omega)) (14 :: p) ot (by show 2 < 4; decide)
        · obtain ⟨e, rfl⟩ : ∃ e, d = e + 3 := ⟨d - 3, by omega⟩
          rw [to19 e P hd]
          simp (disch := omega) only [↓zs_170_19, ↓zs_170_20, ↓zs_170_23, ↓zs_170_26, zx_pu_s, zx_pu_n, zx_rv_s, zx_rv_n, true_and, and_true, true_or, or_true, zb_0, zb_1, zq_lcl, zq_lcg, zq_lce, eq_self, ite_true, ite_false, zk_138, zw_138, zk_139, zw_139, zk_140, zw_140, zk_141, zw_141, zk_142, zw_142, zk_143, zw_143, zk_144, zw_144, zk_145, zw_145, zk_146, zw_146, zk_147, zw_147, zk_148, zw_148, zk_149, zw_149, zk_150, zw_150, zk_151, zw_151, zk_152, zw_152, zq_138_1, zq_138_2, zq_138_3, zq_138_4, zq_138_16, zq_138_19, zq_138_20, zq_138_24, zq_138_25, zq_138_26, zq_138_27, zq_138_31, zq_138_32, zq_138_33, hco]
          rw [zs_170_5]
          simp (disch := omega) only [↓zs_170_6, ↓zs_170_8, ↓zs_170_11, ↓zs_170_14, ↓zs_170_15, ↓zs_170_16, ↓zs_170_29, zx_pu_s, zx_pu_n, zx_rv_s, zx_rv_n, true_and, and_true, true_or, or_true, zb_0, zb_1, zq_lcl, zq_lcg, zq_lce, eq_self, ite_true, ite_false, zk_138, zw_138, zk_139, zw_139, zk_140, zw_140, zk_141, zw_141, zk_142, zw_142, zk_143, zw_143, zk_144, zw_144, zk_145, zw_145, zk_146, zw_146, zk_147, zw_147, zk_148, zw_148, zk_149, zw_149, zk_150, zw_150, zk_151, zw_151, zk_152, zw_152, zq_138_1, zq_138_2, zq_138_3, zq_138_4, zq_138_16, zq_138_19, zq_138_20, zq_138_24, zq_138_25, zq_138_26, zq_138_27, zq_138_31, zq_138_32, zq_138_33, hn]
    · have hn := fun d P => sp_eatsN (Lh := Lh) (J := J) (d := d) (P := P) z (q := 14) (by decide) cop
      refine ⟨I, ⟨zFq_r I, .inl ⟨T, [], z, by rw [List.append_nil]; exact m, Nat.le_refl _, st, cp, w, ⟨nt.1, fun _ => cop, fun h => absurd h (by decide)⟩, ⟨fun e he => (by cases he), fun ts hts => rfl⟩, fun i hi => ⟨i, hi, fun p ot _ => by rw [List.append_nil]⟩⟩⟩, fun d P hd => ?_⟩
      obtain ⟨e, rfl⟩ : ∃ e, d = e + 3 := ⟨d - 3, by omega⟩
      rw [zs_170_5]
      simp (disch := omega) only [↓zs_170_6, ↓zs_170_8, ↓zs_170_11, ↓zs_170_14, ↓zs_170_15, ↓zs_170_16, ↓zs_170_29, zx_pu_s, zx_pu_n, zx_rv_s, zx_rv_n, true_and, and_true, true_or, or_true, zb_0, zb_1, zq_lcl, zq_lcg, zq_lce, eq_self, ite_true, ite_false, zk_138, zw_138, zk_139, zw_139, zk_140, zw_140, zk_141, zw_141, zk_142, zw_142, zk_143, zw_143, zk_144, zw_144, zk_145, zw_145, zk_146, zw_146, zk_147, zw_147, zk_148, zw_148, zk_149, zw_149, zk_150, zw_150, zk_151, zw_151, zk_152, zw_152, zq_138_1, zq_138_2, zq_138_3, zq_138_4, zq_138_16, zq_138_19, zq_138_20, zq_138_24, zq_138_25, zq_138_26, zq_138_27, zq_138_31, zq_138_32, zq_138_33, hn]
theorem sp_both {r : Nat} (pu : zPT Lh b n J 169 4 4 r) : zPT Lh b n J 170 2 5 r := by
  intro dp T c I hdp hr z m hc
  obtain ⟨I2, ⟨f2, e2⟩, h2⟩ := pu dp T c I hdp hr z m hc
  have tk := zT_tk z
  rcases e2 with ⟨T2, x, z2, m2, l2, st2, cp2, w2, g1, g2, g3, g4⟩ | ⟨f, s, b2, g⟩
  · have hcl : (c ++ x).length = c.length + x.length := List.length_append
    have te := tk.2.1
    obtain ⟨I3, ⟨f3, e3⟩, h3⟩ := sp_bothL pu r (Nat.le_refl r) dp T2 (c ++ x) st2 cp2 I2 hdp (by omega) w2 g2 z2 m2 (by omega)
    refine ⟨I3, ⟨zFq_t f2 f3, ?_⟩, fun d P hd => ?_⟩
    · rcases e3 with ⟨T3, y, z3, m3, l3, st3, cp3, w3, k1, k2, k3⟩ | ⟨f, s, b3, g5⟩
      · rw [zl_appD] at m3 k3
        refine .inl ⟨T3, x ++ y, z3, m3, ?_, st3, cp3, w3, by omega, k1, ⟨zl_cv_app g3.1 k2.1, fun ts hts => ?_⟩, fun i hi => ?_⟩
        · rw [List.length_append]; omega
        · rw [zf_tyL_app x _ (g3.2 ts (by omega))]
          exact k2.2 ts hts
        · obtain ⟨i2, o2, s2⟩ := g4 i hi
          obtain ⟨i3, o3, s3⟩ := k3 i2 o2
          exact ⟨i3, o3, fun p ot ht => (s2 p ot (by omega)).trans (s3 p ot ht)⟩
      · exact .inr ⟨f, s, b3, fun i hi p ot ht => by
          obtain ⟨i2, o2, s2⟩ := g4 i hi
          exact (s2 p ot (by omega)).trans (g5 i2 o2 p ot ht)⟩
    · obtain ⟨e, rfl⟩ : ∃ e, d = e + 3 := ⟨d - 3, by omega⟩
      have h2' := fun P => h2 (e + 2) P (by omega)
      rw [← h3 (e + 3) P (by omega), ze_170]
      simp (disch := omega) only [↓zs_170_0, ↓zs_170_1, ↓zs_170_2, zx_pu_s, zx_pu_n, zx_rv_s, zx_rv_n, true_and, and_true, true_or, or_true, zb_0, zb_1, zq_lcl, zq_lcg, zq_lce, eq_self, ite_true, ite_false, zk_138, zw_138, zk_139, zw_139, zk_140, zw_140, zk_141, zw_141, zk_142, zw_142, zk_143, zw_143, zk_144, zw_144, zk_145, zw_145, zk_146, zw_146, zk_147, zw_147, zk_148, zw_148, zk_149, zw_149, zk_150, zw_150, zk_151, zw_151, zk_152, zw_152, zq_138_1, zq_138_2, zq_138_3, zq_138_4, zq_138_16, zq_138_19, zq_138_20, zq_138_24, zq_138_25, zq_138_26, zq_138_27, zq_138_31, zq_138_32, zq_138_33, h2']
  · have hn := fun d x P => sp_eats1 (Lh := Lh) (J := J) (d := d) (x := x) (P := P) b2
    refine ⟨I2, ⟨f2, .inr ⟨f, s, b2, fun i hi p ot ht => g i hi p ot (by omega)⟩⟩, fun d P hd => ?_⟩
    obtain ⟨e, rfl⟩ : ∃ e, d = e + 3 := ⟨d - 3, by omega⟩
    have h2' := fun P => h2 (e + 2) P (by omega)
    rw [ze_170]
    simp (disch := omega) only [↓zs_170_0, ↓zs_170_1, ↓zs_170_2, zx_pu_s, zx_pu_n, zx_rv_s, zx_rv_n, true_and, and_true, true_or, or_true, zb_0, zb_1, zq_lcl, zq_lcg, zq_lce, eq_self, ite_true, ite_false, zk_138, zw_138, zk_139, zw_139, zk_140, zw_140, zk_141, zw_141, zk_142, zw_142, zk_143, zw_143, zk_144, zw_144, zk_145, zw_145, zk_146, zw_146, zk_147, zw_147, zk_148, zw_148, zk_149, zw_149, zk_150, zw_150, zk_151, zw_151, zk_152, zw_152, zq_138_1, zq_138_2, zq_138_3, zq_138_4, zq_138_16, zq_138_19, zq_138_20, zq_138_24, zq_138_25, zq_138_26, zq_138_27, zq_138_31, zq_138_32, zq_138_33, h2']
    rw [zs_170_5]
    simp (disch := omega) only [↓zs_170_6, ↓zs_170_8, ↓zs_170_11, ↓zs_170_14, ↓zs_170_15, ↓zs_170_16, ↓zs_170_29, zx_pu_s, zx_pu_n, zx_rv_s, zx_rv_n, true_and, and_true, true_or, or_true, zb_0, zb_1, zq_lcl, zq_lcg, zq_lce, eq_self, ite_true, ite_false, zk_138, zw_138, zk_139, zw_139, zk_140, zw_140, zk_141, zw_141, zk_142, zw_142, zk_143, zw_143, zk_144, zw_144, zk_145, zw_145, zk_146, zw_146, zk_147, zw_147, zk_148, zw_148, zk_149, zw_149, zk_150, zw_150, zk_151, zw_151, zk_152, zw_152, zq_138_1, zq_138_2, zq_138_3, zq_138_4, zq_138_16, zq_138_19, zq_138_20, zq_138_24, zq_138_25, zq_138_26, zq_138_27, zq_138_31, zq_138_32, zq_138_33, hn]
theorem sp_truthL {r0 : Nat} (pu : zPT Lh b n J 170 2 5 r0) : ∀ r, r ≤ r0 → ∀ (dp : Nat) (T : zTk) (c : List Nat) (st : Nat) (cp : Bool) (I : zx_MI), dp ≤ 6 → n < T.1 + r → zWh st cp → zNt 2 st T.2.2.1 → zMd I b n T → zMc I c → c.length ≤ T.1 → ∃ I2, zEnd b n I I2 T c (zG3 b n 1 6 dp T c st cp) (zErr3 b n 1 dp T c st cp) ∧ ∀ d P, 10 + 8 * (6 - dp) + (6 - 1) ≤ d → zx_wp d 171 5 [.ref 138, .int (nI dp)] [] (zx_LL Lh) I J P = P none (zx_LL Lh) I2 J := by
  intro r
  induction r with
  | zero =>
    intro hr0 dp T c st cp I hdp hr _ _ z m hc
    have := (zT_tk z).2.1
    have := (zT_tk z).1.1
    omega
  | succ r ih =>
    intro hr0 dp T c st cp I hdp hr w nt z m hc
    have tk := zT_tk z
    have k52 := tk.1.2.1
    have eN := tk.1.1
    have n900 := z.1.1
    obtain ⟨tn, tle⟩ := zT_nx z
    have n1 : (nI 1 = nI 0) = False := eq_false (by decide)
    by_cases cop : T.2.2.1 = 13
    · have hs : T.1 < T.2.1 := tk.2.2.2 (by omega)
      have hop : T.2.2.1 = 14 ∨ T.2.2.1 = 13 := by omega
      obtain ⟨I2, f2, z2, h2⟩ := sp_eatsY (Lh := Lh) (J := J) z (by omega)
      rw [cop] at h2
      have m2 := zMc_f m f2
      obtain ⟨I3, ⟨f3, e3⟩, h3⟩ := pu dp (zf_nx b n T.2.1) c I2 hdp (by omega) z2 m2 (by omega)
      have f13 : zFq I I3 := zFq_t (zMd_q f2) f3
      have to19 : ∀ e P, 10 + 8 * (6 - dp) + (6 - 1) ≤ e + 3 → zx_wp (e + 3) 171 5 [.ref 138, .int (nI dp)] [] (zx_LL Lh) I J P = zx_wp (e + 3) 171 19 [.ref 138, .int (nI dp)] [] (zx_LL Lh) I3 J P := fun e P hd => by
        have h2' := fun P => h2 (e + 2) P (by omega)
        have h3' := fun P => h3 (e + 2) P (by omega)
        rw [zs_171_5]
        simp (disch := omega) only [↓zs_171_6, ↓zs_171_8, ↓zs_171_11, ↓zs_171_14, ↓zs_171_15, ↓zs_171_16, zx_pu_s, zx_pu_n, zx_rv_s, zx_rv_n, true_and, and_true, true_or, or_true, zb_0, zb_1, zq_lcl, zq_lcg, zq_lce, eq_self, ite_true, ite_false, zk_138, zw_138, zk_139, zw_139, zk_140, zw_140, zk_141, zw_141, zk_142, zw_142, zk_143, zw_143, zk_144, zw_144, zk_145, zw_145, zk_146, zw_146, zk_147, zw_147, zk_148, zw_148, zk_149, zw_149, zk_150, zw_150, zk_151, zw_151, zk_152, zw_152, zq_138_1, zq_138_2, zq_138_3, zq_138_4, zq_138_16, zq_138_19, zq_138_20, zq_138_24, zq_138_25, zq_138_26, zq_138_27, zq_138_31, zq_138_32, zq_138_33, h2', n1, h3']
      rcases e3 with ⟨T3, x, z3, m3, l3, st3, cp3, w3, g1, g2, g3, g4⟩ | ⟨f, s, b3, g⟩
      · have tk3 := zT_tk z3
        have st2 : 2 ≤ st3 := by rcases w3 with h | ⟨h, -⟩ <;> omega
        have hcl : (c ++ x).length = c.length + x.length := List.length_append
        have hco := fun d P => sp_codes (Lh := Lh) (J := J) (d := d) (x := 3007) (P := P) z3.2.2.2.2 m3 (by have := tk3.1.1; have := tk3.2.1; omega)
        have z4 := zMd_c (x := nI 3007) (y := nI ((c ++ x).length + 1)) (i := 386 + (c ++ x).length) (j := 385) z3
        have m4 := zMc_add (x := 3007) m3
        obtain ⟨I5, ⟨f5, e5⟩, h5⟩ := ih (by omega) dp T3 (c ++ x ++ [3007]) st3 cp3 _ hdp (by omega) w3 g2 z4 m4 (by rw [zl_c1]; omega)
        have f15 : zFq I I5 := zFq_t f13 (zFq_t zFq_c f5)
        have simI : ∀ i, zl_ok n i T → ∃ i3, zl_ok n i3 T3 ∧ ∀ p ot, zl_tb p < 1 → zl_run b n i T (st, p, dp, 0, ot, cp, c) = zl_run b n i3 T3 (st3, p, dp, 0, ot, cp3, c ++ x ++ [3007]) := by
          intro i hi
          obtain ⟨j, rfl⟩ := zl_ok_s hi tk
          obtain ⟨i3, o3, s3⟩ := g4 j (zl_ok_nx hi tk (by omega))
          refine ⟨i3, o3, fun p ot ht => ?_⟩
          rw [zl_run_go (zl_s_and w hop (by rw [cop]; exact ht)), cop, s3 (13 :: p) ot (by show 1 < 2; decide)]
          exact zl_run_eq (zl_fl (op := 13) st2 (by decide) (fun h => ⟨fun k => absurd k (g2.1 h).2.2, fun k => k.elim (fun k => absurd k (g2.1 h).1) (fun k => absurd k (g2.1 h).2.1), fun _ _ k => (by rcases w3 with q | ⟨-, q⟩; omega; rw [q] at k; exact Bool.noConfusion k)⟩) (fun k _ => absurd k (g2.2.1 (by decide))))
        refine ⟨I5, ⟨f15, ?_⟩, fun d P hd => ?_⟩
        · rcases e5 with ⟨T5, y, z5, m5, l5, st5, cp5, w5, k1, k2, k3⟩ | ⟨f, s, b5, g5⟩
          · rw [zl_appC] at m5 k3
            refine .inl ⟨T5, x ++ [3007] ++ y, z5, m5, ?_, st5, cp5, w5, k1, ⟨zl_cv_app (zl_cv_app g3.1 (zl_cv_1 (.inr (by decide)))) k2.1, fun ts hts => ?_⟩, fun i hi => ?_⟩
            · rw [List.length_append, List.length_append]
              show T.1 + (x.length + 1 + y.length) ≤ T5.1
              omega
            · have a1 := g3.2 (true :: ts) (by show ts.length + 1 + _ ≤ 60; omega)
              have a2 : zf_tyL (x ++ [3007]) (true :: ts) = some (true :: ts) := by
                rw [zf_tyL_app x _ a1]; rfl
              rw [zf_tyL_app _ _ a2]
              exact k2.2 ts hts
            · obtain ⟨i3, o3, s3⟩ := simI i hi
              obtain ⟨i5, o5, s5⟩ := k3 i3 o3
              exact ⟨i5, o5, fun p ot ht => (s3 p ot ht).trans (s5 p ot ht)⟩
          · exact .inr ⟨f, s, b5, fun i hi p ot ht => by
              obtain ⟨i3, o3, s3⟩ := simI i hi
              exact (s3 p ot ht).trans (g5 i3 o3 p ot ht)⟩
        · obtain ⟨e, rfl⟩ : ∃ e, d = e + 3 := ⟨d - 3, by omega⟩
          rw [to19 e P hd, ← h5 (e + 3) P hd]
          simp (disch := omega) only [↓zs_171_19, ↓zs_171_20, ↓zs_171_23, ↓zs_171_26, zx_pu_s, zx_pu_n, zx_rv_s, zx_rv_n, true_and, and_true, true_or, or_true, zb_0, zb_1, zq_lcl, zq_lcg, zq_lce, eq_self, ite_true, ite_false, zk_138, zw_138, zk_139, zw_139, zk_140, zw_140, zk_141, zw_141, zk_142, zw_142, zk_143, zw_143, zk_144, zw_144, zk_145, zw_145, zk_146, zw_146, zk_147, zw_147, zk_148, zw_148, zk_149, zw_149, zk_150, zw_150, zk_151, zw_151, zk_152, zw_152, zq_138_1, zq_138_2, zq_138_3, zq_138_4, zq_138_16, zq_138_19, zq_138_20, zq_138_24, zq_138_25, zq_138_26, zq_138_27, zq_138_31, zq_138_32, zq_138_33, hco]
      · have hco := fun d x P => sp_codes1 (Lh := Lh) (J := J) (d := d) (x := x) (P := P) b3
        have hn := fun d x P => sp_eats1 (Lh := Lh) (J := J) (d := d) (x := x) (P := P) b3
        refine ⟨I3, ⟨f13, .inr ⟨f, s, b3, fun i hi p ot ht => ?_⟩⟩, fun d P hd => ?_⟩
        · obtain ⟨j, rfl⟩ := zl_ok_s hi tk
          rw [zl_run_go (zl_s_and w hop (by rw [cop]; exact ht)), cop]
          exact g j (zl_ok_nx hi tk (by omega)) (13 :: p) ot (by show 1 < 2; decide)
        · obtain ⟨e, rfl⟩ : ∃ e, d = e + 3 := ⟨d - 3, by omega⟩
          rw [to19 e P hd]
          simp (disch := omega) only [↓zs_171_19, ↓zs_171_20, ↓zs_171_23, ↓zs_171_26, zx_pu_s, zx_pu_n, zx_rv_s, zx_rv_n, true_and, and_true, true_or, or_true, zb_0, zb_1, zq_lcl, zq_lcg, zq_lce, eq_self, ite_true, ite_false, zk_138, zw_138, zk_139, zw_139, zk_140, zw_140, zk_141, zw_141, zk_142, zw_142, zk_143, zw_143, zk_144, zw_144, zk_145, zw_145, zk_146, zw_146, zk_147, zw_147, zk_148, zw_148, zk_149, zw_149, zk_150, zw_150, zk_151, zw_151, zk_152, zw_152, zq_138_1, zq_138_2, zq_138_3, zq_138_4, zq_138_16, zq_138_19, zq_138_20, zq_138_24, zq_138_25, zq_138_26, zq_138_27, zq_138_31, zq_138_32, zq_138_33, hco]
          rw [zs_171_5]
          simp (disch := omega) only [↓zs_171_6, ↓zs_171_8, ↓zs_171_11, ↓zs_171_14, ↓zs_171_15, ↓zs_171_16, ↓zs_171_29, zx_pu_s, zx_pu_n, zx_rv_s, zx_rv_n, true_and, and_true, true_or, or_true, zb_0, zb_1, zq_lcl, zq_lcg, zq_lce, eq_self, ite_true, ite_false, zk_138, zw_138, zk_139, zw_139, zk_140, zw_140, zk_141, zw_141, zk_142, zw_142, zk_143, zw_143, zk_144, zw_144, zk_145, zw_145, zk_146, zw_146, zk_147, zw_147, zk_148, zw_148, zk_149, zw_149, zk_150, zw_150, zk_151, zw_151, zk_152, zw_152, zq_138_1, zq_138_2, zq_138_3, zq_138_4, zq_138_16, zq_138_19, zq_138_20, zq_138_24, zq_138_25, zq_138_26, zq_138_27, zq_138_31, zq_138_32, zq_138_33, hn]
    · have hn := fun d P => sp_eatsN (Lh := Lh) (J := J) (d := d) (P := P) z (q := 13) (by decide) cop
      refine ⟨I, ⟨zFq_r I, .inl ⟨T, [], z, by rw [List.append_nil]; exact m, Nat.le_refl _, st, cp, w, ⟨nt.1, fun _ => nt.2.1 (by decide), fun _ => cop⟩, ⟨fun e he => (by cases he), fun ts hts => rfl⟩, fun i hi => ⟨i, hi, fun p ot _ => by rw [List.append_nil]⟩⟩⟩, fun d P hd => ?_⟩
      obtain ⟨e, rfl⟩ : ∃ e, d = e + 3 := ⟨d - 3, by omega⟩
      rw [zs_171_5]
      simp (disch := omega) only [↓zs_171_6, ↓zs_171_8, ↓zs_171_11, ↓zs_171_14, ↓zs_171_15, ↓zs_171_16, ↓zs_171_29, zx_pu_s, zx_pu_n, zx_rv_s, zx_rv_n, true_and, and_true, true_or, or_true, zb_0, zb_1, zq_lcl, zq_lcg, zq_lce, eq_self, ite_true, ite_false, zk_138, zw_138, zk_139, zw_139, zk_140, zw_140, zk_141, zw_141, zk_142, zw_142, zk_143, zw_143, zk_144, zw_144, zk_145, zw_145, zk_146, zw_146, zk_147, zw_147, zk_148, zw_148, zk_149, zw_149, zk_150, zw_150, zk_151, zw_151, zk_152, zw_152, zq_138_1, zq_138_2, zq_138_3, zq_138_4, zq_138_16, zq_138_19, zq_138_20, zq_138_24, zq_138_25, zq_138_26, zq_138_27, zq_138_31, zq_138_32, zq_138_33, hn]
theorem sp_truth {r : Nat} (pu : zPT Lh b n J 170 2 5 r) : zPT Lh b n J 171 1 6 r := by
  intro dp T c I hdp hr z m hc
  obtain ⟨I2, ⟨f2, e2⟩, h2⟩ := pu dp T c I hdp hr z m hc
  have tk := zT_tk z
  rcases e2 with ⟨T2, x, z2, m2, l2, st2, cp2, w2, g1, g2, g3, g4⟩ | ⟨f, s, b2, g⟩
  · have hcl : (c ++ x).length = c.length + x.length := List.length_append
    have te := tk.2.1
    obtain ⟨I3, ⟨f3, e3⟩, h3⟩ := sp_truthL pu r (Nat.le_refl r) dp T2 (c ++ x) st2 cp2 I2 hdp (by omega) w2 g2 z2 m2 (by omega)
    refine ⟨I3, ⟨zFq_t f2 f3, ?_⟩, fun d P hd => ?_⟩
    · rcases e3 with ⟨T3, y, z3, m3, l3, st3, cp3, w3, k1, k2, k3⟩ | ⟨f, s, b3, g5⟩
      · rw [zl_appD] at m3 k3
        refine .inl ⟨T3, x ++ y, z3, m3, ?_, st3, cp3, w3, by omega, k1, ⟨zl_cv_app g3.1 k2.1, fun ts hts => ?_⟩, fun i hi => ?_⟩
        · rw [List.length_append]; omega
        · rw [zf_tyL_app x _ (g3.2 ts (by omega))]
          exact k2.2 ts hts
        · obtain ⟨i2, o2, s2⟩ := g4 i hi
          obtain ⟨i3, o3, s3⟩ := k3 i2 o2
          exact ⟨i3, o3, fun p ot ht => (s2 p ot (by omega)).trans (s3 p ot ht)⟩
      · exact .inr ⟨f, s, b3, fun i hi p ot ht => by
          obtain ⟨i2, o2, s2⟩ := g4 i hi
          exact (s2 p ot (by omega)).trans (g5 i2 o2 p ot ht)⟩
    · obtain ⟨e, rfl⟩ : ∃ e, d = e + 3 := ⟨d - 3, by omega⟩
      have h2' := fun P => h2 (e + 2) P (by omega)
      rw [← h3 (e + 3) P (by omega), ze_171]
      simp (disch := omega) only [↓zs_171_0, ↓zs_171_1, ↓zs_171_2, zx_pu_s, zx_pu_n, zx_rv_s, zx_rv_n, true_and, and_true, true_or, or_true, zb_0, zb_1, zq_lcl, zq_lcg, zq_lce, eq_self, ite_true, ite_false, zk_138, zw_138, zk_139, zw_139, zk_140, zw_140, zk_141, zw_141, zk_142, zw_142, zk_143, zw_143, zk_144, zw_144, zk_145, zw_145, zk_146, zw_146, zk_147, zw_147, zk_148, zw_148, zk_149, zw_149, zk_150, zw_150, zk_151, zw_151, zk_152, zw_152, zq_138_1, zq_138_2, zq_138_3, zq_138_4, zq_138_16, zq_138_19, zq_138_20, zq_138_24, zq_138_25, zq_138_26, zq_138_27, zq_138_31, zq_138_32, zq_138_33, h2']
  · have hn := fun d x P => sp_eats1 (Lh := Lh) (J := J) (d := d) (x := x) (P := P) b2
    refine ⟨I2, ⟨f2, .inr ⟨f, s, b2, fun i hi p ot ht => g i hi p ot (by omega)⟩⟩, fun d P hd => ?_⟩
    obtain ⟨e, rfl⟩ : ∃ e, d = e + 3 := ⟨d - 3, by omega⟩
    have h2' := fun P => h2 (e + 2) P (by omega)
    rw [ze_171]
    simp (disch := omega) only [↓zs_171_0, ↓zs_171_1, ↓zs_171_2, zx_pu_s, zx_pu_n, zx_rv_s, zx_rv_n, true_and, and_true, true_or, or_true, zb_0, zb_1, zq_lcl, zq_lcg, zq_lce, eq_self, ite_true, ite_false, zk_138, zw_138, zk_139, zw_139, zk_140, zw_140, zk_141, zw_141, zk_142, zw_142, zk_143, zw_143, zk_144, zw_144, zk_145, zw_145, zk_146, zw_146, zk_147, zw_147, zk_148, zw_148, zk_149, zw_149, zk_150, zw_150, zk_151, zw_151, zk_152, zw_152, zq_138_1, zq_138_2, zq_138_3, zq_138_4, zq_138_16, zq_138_19, zq_138_20, zq_138_24, zq_138_25, zq_138_26, zq_138_27, zq_138_31, zq_138_32, zq_138_33, h2']
    rw [zs_171_5]
    simp (disch := omega) only [↓zs_171_6, ↓zs_171_8, ↓zs_171_11, ↓zs_171_14, ↓zs_171_15, ↓zs_171_16, ↓zs_171_29, zx_pu_s, zx_pu_n, zx_rv_s, zx_rv_n, true_and, and_true, true_or, or_true, zb_0, zb_1, zq_lcl, zq_lcg, zq_lce, eq_self, ite_true, ite_false, zk_138, zw_138, zk_139, zw_139, zk_140, zw_140, zk_141, zw_141, zk_142, zw_142, zk_143, zw_143, zk_144, zw_144, zk_145, zw_145, zk_146, zw_146, zk_147, zw_147, zk_148, zw_148, zk_149, zw_149, zk_150, zw_150, zk_151, zw_151, zk_152, zw_152, zq_138_1, zq_138_2, zq_138_3, zq_138_4, zq_138_16, zq_138_19, zq_138_20, zq_138_24, zq_138_25, zq_138_26, zq_138_27, zq_138_31, zq_138_32, zq_138_33, hn]
/-- the whole of it, by what is left of the text -/
theorem sp_lawAll : ∀ r, zPN Lh b n J 168 5 r ∧ zPT Lh b n J 169 4 4 r ∧ zPT Lh b n J 171 1 6 r := by
  intro r
  induction r with
  | zero =>
    have no : ∀ (T : zTk) (I : zx_MI), n < T.1 + 0 → zMd I b n T → False := fun T I h z => by
      have := (zT_tk z).2.1
      have := (zT_tk z).1.1
      omega
    exact ⟨fun dp T c I _ h z _ _ => (no T I h z).elim, fun dp T c I _ h z _ _ => (no T I h z).elim, fun dp T c I _ h z _ _ => (no T I h z).elim⟩
  | succ r ih =>
    obtain ⟨h1, h2, h3⟩ := ih
    have ps := sp_sum (sp_term (sp_atom h1))
    have pu := sp_unit h2 h3 ps
    exact ⟨ps, pu, sp_truth (sp_both pu)⟩
end LU
