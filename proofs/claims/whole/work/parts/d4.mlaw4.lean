/-! the model's law: terms and sums -/
theorem zl_appC (c x y : List Nat) (z : Nat) : c ++ x ++ [z] ++ y = c ++ (x ++ [z] ++ y) := by simp only [List.append_assoc]
theorem zl_appD (c x y : List Nat) : c ++ x ++ y = c ++ (x ++ y) := List.append_assoc _ _ _
section LT
variable {Lh n : Nat} {b : Nat → Nat} {J : zx_MJ}
theorem sp_termL {r0 : Nat} (pa : zPN Lh b n J 166 7 r0) : ∀ r, r ≤ r0 → ∀ (dp : Nat) (T : zTk) (c : List Nat) (I : zx_MI), dp ≤ 6 → n < T.1 + r → zMd I b n T → zMc I c → c.length ≤ T.1 → ∃ I2, zEnd b n I I2 T c (zG2 b n 6 dp T c) (zErr2 b n 6 dp T c) ∧ ∀ d P, 10 + 8 * (6 - dp) + 1 ≤ d → zx_wp d 167 5 [.ref 138, .int (nI dp)] [] (zx_LL Lh) I J P = P none (zx_LL Lh) I2 J := by
  intro r
  induction r with
  | zero =>
    intro hr0 dp T c I hdp hr z m hc
    have := (zT_tk z).2.1
    have := (zT_tk z).1.1
    omega
  | succ r ih =>
    intro hr0 dp T c I hdp hr z m hc
    have tk := zT_tk z
    have k52 := tk.1.2.1
    have eN := tk.1.1
    have n900 := z.1.1
    obtain ⟨tn, tle⟩ := zT_nx z
    have n1 : (nI 1 = nI 0) = False := eq_false (by decide)
    by_cases c44 : T.2.2.1 = 44
    · have hs : T.1 < T.2.1 := tk.2.2.2 (by omega)
      obtain ⟨I2, f2, z2, h2⟩ := sp_eatsY (Lh := Lh) (J := J) z (by omega)
      rw [c44] at h2
      have m2 := zMc_f m f2
      obtain ⟨I3, ⟨f3, e3⟩, h3⟩ := pa dp (zf_nx b n T.2.1) c I2 hdp (by omega) z2 m2 (by omega)
      have f13 : zFq I I3 := zFq_t (zMd_q f2) f3
      have to19 : ∀ e P, 10 + 8 * (6 - dp) + 1 ≤ e + 3 → zx_wp (e + 3) 167 5 [.ref 138, .int (nI dp)] [] (zx_LL Lh) I J P = zx_wp (e + 3) 167 19 [.ref 138, .int (nI dp)] [] (zx_LL Lh) I3 J P := fun e P hd => by
        have h2' := fun P => h2 (e + 2) P (by omega)
        have h3' := fun P => h3 (e + 2) P (by omega)
        rw [zs_167_5]
        simp (disch := omega) only [↓zs_167_6, ↓zs_167_8, ↓zs_167_11, ↓zs_167_14, ↓zs_167_15, ↓zs_167_16, zx_pu_s, zx_pu_n, zx_rv_s, zx_rv_n, true_and, and_true, true_or, or_true, zb_0, zb_1, zq_lcl, zq_lcg, zq_lce, eq_self, ite_true, ite_false, zk_138, zw_138, zk_139, zw_139, zk_140, zw_140, zk_141, zw_141, zk_142, zw_142, zk_143, zw_143, zk_144, zw_144, zk_145, zw_145, zk_146, zw_146, zk_147, zw_147, zk_148, zw_148, zk_149, zw_149, zk_150, zw_150, zk_151, zw_151, zk_152, zw_152, zq_138_1, zq_138_2, zq_138_3, zq_138_4, zq_138_16, zq_138_19, zq_138_20, zq_138_24, zq_138_25, zq_138_26, zq_138_27, zq_138_31, zq_138_32, zq_138_33, h2', n1, h3']
      rcases e3 with ⟨T3, x, z3, m3, l3, g1, g2, g3, g4⟩ | ⟨f, s, b3, g⟩
      · have tk3 := zT_tk z3
        have hcl : (c ++ x).length = c.length + x.length := List.length_append
        have hco := fun d P => sp_codes (Lh := Lh) (J := J) (d := d) (x := 3002) (P := P) z3.2.2.2.2 m3 (by have := tk3.1.1; have := tk3.2.1; omega)
        have z4 := zMd_c (x := nI 3002) (y := nI ((c ++ x).length + 1)) (i := 386 + (c ++ x).length) (j := 385) z3
        have m4 := zMc_add (x := 3002) m3
        obtain ⟨I5, ⟨f5, e5⟩, h5⟩ := ih (by omega) dp T3 (c ++ x ++ [3002]) _ hdp (by omega) z4 m4 (by rw [zl_c1]; omega)
        have f15 : zFq I I5 := zFq_t f13 (zFq_t zFq_c f5)
        have simI : ∀ i, zl_ok n i T → ∃ i3, zl_ok n i3 T3 ∧ ∀ p os ot cp, zl_tb p < 6 → zl_run b n i T (2, p, dp, os, ot, cp, c) = zl_run b n i3 T3 (2, p, dp, os, ot, cp, c ++ x ++ [3002]) := by
          intro i hi
          obtain ⟨j, rfl⟩ := zl_ok_s hi tk
          obtain ⟨i3, o3, s3⟩ := g4 j (zl_ok_nx hi tk (by omega))
          refine ⟨i3, o3, fun p os ot cp ht => ?_⟩
          rw [zl_run_go (zl_s_op (.inr (.inr c44)) (by rw [c44]; exact ht)), c44, s3 1 (44 :: p) os ot cp (.inl rfl) (by show 6 < 7; decide)]
          exact zl_run_eq (zl_fl (Nat.le_refl 2) (by decide) (fun _ => ⟨fun _ => by decide, fun _ => by decide, fun _ _ _ => by decide⟩) (fun _ _ => by decide))
        refine ⟨I5, ⟨f15, ?_⟩, fun d P hd => ?_⟩
        · rcases e5 with ⟨T5, y, z5, m5, l5, k1, k2, k3⟩ | ⟨f, s, b5, g5⟩
          · rw [zl_appC] at m5 k3
            refine .inl ⟨T5, x ++ [3002] ++ y, z5, m5, ?_, k1, ⟨zl_cv_app (zl_cv_app g3.1 (zl_cv_1 (.inr (by omega)))) k2.1, fun ts hts => ?_⟩, fun i hi => ?_⟩
            · rw [List.length_append, List.length_append]
              show T.1 + (x.length + 1 + y.length) ≤ T5.1
              omega
            · have a1 := g3.2 (false :: ts) (by show ts.length + 1 + _ ≤ 60; omega)
              have a2 : zf_tyL (x ++ [3002]) (false :: ts) = some (false :: ts) := by
                rw [zf_tyL_app x _ a1]; rfl
              rw [zf_tyL_app _ _ a2]
              exact k2.2 ts hts
            · obtain ⟨i3, o3, s3⟩ := simI i hi
              obtain ⟨i5, o5, s5⟩ := k3 i3 o3
              exact ⟨i5, o5, fun p os ot cp ht => (s3 p os ot cp ht).trans (s5 p os ot cp ht)⟩
          · exact .inr ⟨f, s, b5, fun i hi p os ot cp ht => by
              obtain ⟨i3, o3, s3⟩ := simI i hi
              exact (s3 p os ot cp ht).trans (g5 i3 o3 p os ot cp ht)⟩
        · obtain ⟨e, rfl⟩ : ∃ e, d = e + 3 := ⟨d - 3, by omega⟩
          rw [to19 e P hd, ← h5 (e + 3) P hd]
          simp (disch := omega) only [↓zs_167_19, ↓zs_167_20, ↓zs_167_23, ↓zs_167_26, zx_pu_s, zx_pu_n, zx_rv_s, zx_rv_n, true_and, and_true, true_or, or_true, zb_0, zb_1, zq_lcl, zq_lcg, zq_lce, eq_self, ite_true, ite_false, zk_138, zw_138, zk_139, zw_139, zk_140, zw_140, zk_141, zw_141, zk_142, zw_142, zk_143, zw_143, zk_144, zw_144, zk_145, zw_145, zk_146, zw_146, zk_147, zw_147, zk_148, zw_148, zk_149, zw_149, zk_150, zw_150, zk_151, zw_151, zk_152, zw_152, zq_138_1, zq_138_2, zq_138_3, zq_138_4, zq_138_16, zq_138_19, zq_138_20, zq_138_24, zq_138_25, zq_138_26, zq_138_27, zq_138_31, zq_138_32, zq_138_33, hco]
      · have hco := fun d x P => sp_codes1 (Lh := Lh) (J := J) (d := d) (x := x) (P := P) b3
        have hn := fun d x P => sp_eats1 (Lh := Lh) (J := J) (d := d) (x := x) (P := P) b3
        refine ⟨I3, ⟨f13, .inr ⟨f, s, b3, fun i hi p os ot cp ht => ?_⟩⟩, fun d P hd => ?_⟩
        · obtain ⟨j, rfl⟩ := zl_ok_s hi tk
          rw [zl_run_go (zl_s_op (.inr (.inr c44)) (by rw [c44]; exact ht)), c44]
          exact g j (zl_ok_nx hi tk (by omega)) 1 (44 :: p) os ot cp (.inl rfl) (by show 6 < 7; decide)
        · obtain ⟨e, rfl⟩ : ∃ e, d = e + 3 := ⟨d - 3, by omega⟩
          rw [to19 e P hd]
          simp (disch := omega) only [↓zs_167_19, ↓zs_167_20, ↓zs_167_23, ↓zs_167_26, zx_pu_s, zx_pu_n, zx_rv_s, zx_rv_n, true_and, and_true, true_or, or_true, zb_0, zb_1, zq_lcl, zq_lcg, zq_lce, eq_self, ite_true, ite_false, zk_138, zw_138, zk_139, zw_139, zk_140, zw_140, zk_141, zw_141, zk_142, zw_142, zk_143, zw_143, zk_144, zw_144, zk_145, zw_145, zk_146, zw_146, zk_147, zw_147, zk_148, zw_148, zk_149, zw_149, zk_150, zw_150, zk_151, zw_151, zk_152, zw_152, zq_138_1, zq_138_2, zq_138_3, zq_138_4, zq_138_16, zq_138_19, zq_138_20, zq_138_24, zq_138_25, zq_138_26, zq_138_27, zq_138_31, zq_138_32, zq_138_33, hco]
          rw [zs_167_5]
          simp (disch := omega) only [↓zs_167_6, ↓zs_167_8, ↓zs_167_11, ↓zs_167_14, ↓zs_167_15, ↓zs_167_16, ↓zs_167_29, zx_pu_s, zx_pu_n, zx_rv_s, zx_rv_n, true_and, and_true, true_or, or_true, zb_0, zb_1, zq_lcl, zq_lcg, zq_lce, eq_self, ite_true, ite_false, zk_138, zw_138, zk_139, zw_139, zk_140, zw_140, zk_141, zw_141, zk_142, zw_142, zk_143, zw_143, zk_144, zw_144, zk_145, zw_145, zk_146, zw_146, zk_147, zw_147, zk_148, zw_148, zk_149, zw_149, zk_150, zw_150, zk_151, zw_151, zk_152, zw_152, zq_138_1, zq_138_2, zq_138_3, zq_138_4, zq_138_16, zq_138_19, zq_138_20, zq_138_24, zq_138_25, zq_138_26, zq_138_27, zq_138_31, zq_138_32, zq_138_33, hn]
    · have hn := fun d P => sp_eatsN (Lh := Lh) (J := J) (d := d) (P := P) z (q := 44) (by decide) c44
      refine ⟨I, ⟨zFq_r I, .inl ⟨T, [], z, by rw [List.append_nil]; exact m, Nat.le_refl _, ⟨fun _ => c44, fun h => by omega⟩, ⟨fun e he => (by cases he), fun ts hts => rfl⟩, fun i hi => ⟨i, hi, fun p os ot cp _ => by rw [List.append_nil]⟩⟩⟩, fun d P hd => ?_⟩
      obtain ⟨e, rfl⟩ : ∃ e, d = e + 3 := ⟨d - 3, by omega⟩
      rw [zs_167_5]
      simp (disch := omega) only [↓zs_167_6, ↓zs_167_8, ↓zs_167_11, ↓zs_167_14, ↓zs_167_15, ↓zs_167_16, ↓zs_167_29, zx_pu_s, zx_pu_n, zx_rv_s, zx_rv_n, true_and, and_true, true_or, or_true, zb_0, zb_1, zq_lcl, zq_lcg, zq_lce, eq_self, ite_true, ite_false, zk_138, zw_138, zk_139, zw_139, zk_140, zw_140, zk_141, zw_141, zk_142, zw_142, zk_143, zw_143, zk_144, zw_144, zk_145, zw_145, zk_146, zw_146, zk_147, zw_147, zk_148, zw_148, zk_149, zw_149, zk_150, zw_150, zk_151, zw_151, zk_152, zw_152, zq_138_1, zq_138_2, zq_138_3, zq_138_4, zq_138_16, zq_138_19, zq_138_20, zq_138_24, zq_138_25, zq_138_26, zq_138_27, zq_138_31, zq_138_32, zq_138_33, hn]
theorem sp_term {r : Nat} (pa : zPN Lh b n J 166 7 r) : zPN Lh b n J 167 6 r := by
  intro dp T c I hdp hr z m hc
  obtain ⟨I2, ⟨f2, e2⟩, h2⟩ := pa dp T c I hdp hr z m hc
  have tk := zT_tk z
  rcases e2 with ⟨T2, x, z2, m2, l2, g1, g2, g3, g4⟩ | ⟨f, s, b2, g⟩
  · have hcl : (c ++ x).length = c.length + x.length := List.length_append
    have te := tk.2.1
    obtain ⟨I3, ⟨f3, e3⟩, h3⟩ := sp_termL pa r (Nat.le_refl r) dp T2 (c ++ x) I2 hdp (by omega) z2 m2 (by omega)
    refine ⟨I3, ⟨zFq_t f2 f3, ?_⟩, fun d P hd => ?_⟩
    · rcases e3 with ⟨T3, y, z3, m3, l3, k1, k2, k3⟩ | ⟨f, s, b3, g5⟩
      · rw [zl_appD] at m3 k3
        refine .inl ⟨T3, x ++ y, z3, m3, ?_, by omega, k1, ⟨zl_cv_app g3.1 k2.1, fun ts hts => ?_⟩, fun i hi => ?_⟩
        · rw [List.length_append]; omega
        · rw [zf_tyL_app x _ (g3.2 ts (by omega))]
          exact k2.2 ts hts
        · obtain ⟨i2, o2, s2⟩ := g4 i hi
          obtain ⟨i3, o3, s3⟩ := k3 i2 o2
          exact ⟨i3, o3, fun st p os ot cp hp ht => (s2 st p os ot cp hp (by omega)).trans (s3 p os ot cp ht)⟩
      · exact .inr ⟨f, s, b3, fun i hi st p os ot cp hp ht => by
          obtain ⟨i2, o2, s2⟩ := g4 i hi
          exact (s2 st p os ot cp hp (by omega)).trans (g5 i2 o2 p os ot cp ht)⟩
    · obtain ⟨e, rfl⟩ : ∃ e, d = e + 3 := ⟨d - 3, by omega⟩
      have h2' := fun P => h2 (e + 2) P (by omega)
      rw [← h3 (e + 3) P (by omega), ze_167]
      simp (disch := omega) only [↓zs_167_0, ↓zs_167_1, ↓zs_167_2, zx_pu_s, zx_pu_n, zx_rv_s, zx_rv_n, true_and, and_true, true_or, or_true, zb_0, zb_1, zq_lcl, zq_lcg, zq_lce, eq_self, ite_true, ite_false, zk_138, zw_138, zk_139, zw_139, zk_140, zw_140, zk_141, zw_141, zk_142, zw_142, zk_143, zw_143, zk_144, zw_144, zk_145, zw_145, zk_146, zw_146, zk_147, zw_147, zk_148, zw_148, zk_149, zw_149, zk_150, zw_150, zk_151, zw_151, zk_152, zw_152, zq_138_1, zq_138_2, zq_138_3, zq_138_4, zq_138_16, zq_138_19, zq_138_20, zq_138_24, zq_138_25, zq_138_26, zq_138_27, zq_138_31, zq_138_32, zq_138_33, h2']
  · have hn := fun d x P => sp_eats1 (Lh := Lh) (J := J) (d := d) (x := x) (P := P) b2
    refine ⟨I2, ⟨f2, .inr ⟨f, s, b2, fun i hi st p os ot cp hp ht => g i hi st p os ot cp hp (by omega)⟩⟩, fun d P hd => ?_⟩
    obtain ⟨e, rfl⟩ : ∃ e, d = e + 3 := ⟨d - 3, by omega⟩
    have h2' := fun P => h2 (e + 2) P (by omega)
    rw [ze_167]
    simp (disch := omega) only [↓zs_167_0, ↓zs_167_1, ↓zs_167_2, zx_pu_s, zx_pu_n, zx_rv_s, zx_rv_n, true_and, and_true, true_or, or_true, zb_0, zb_1, zq_lcl, zq_lcg, zq_lce, eq_self, ite_true, ite_false, zk_138, zw_138, zk_139, zw_139, zk_140, zw_140, zk_141, zw_141, zk_142, zw_142, zk_143, zw_143, zk_144, zw_144, zk_145, zw_145, zk_146, zw_146, zk_147, zw_147, zk_148, zw_148, zk_149, zw_149, zk_150, zw_150, zk_151, zw_151, zk_152, zw_152, zq_138_1, zq_138_2, zq_138_3, zq_138_4, zq_138_16, zq_138_19, zq_138_20, zq_138_24, zq_138_25, zq_138_26, zq_138_27, zq_138_31, zq_138_32, zq_138_33, h2']
    rw [zs_167_5]
    simp (disch := omega) only [↓zs_167_6, ↓zs_167_8, ↓zs_167_11, ↓zs_167_14, ↓zs_167_15, ↓zs_167_16, ↓zs_167_29, zx_pu_s, zx_pu_n, zx_rv_s, zx_rv_n, true_and, and_true, true_or, or_true, zb_0, zb_1, zq_lcl, zq_lcg, zq_lce, eq_self, ite_true, ite_false, zk_138, zw_138, zk_139, zw_139, zk_140, zw_140, zk_141, zw_141, zk_142, zw_142, zk_143, zw_143, zk_144, zw_144, zk_145, zw_145, zk_146, zw_146, zk_147, zw_147, zk_148, zw_148, zk_149, zw_149, zk_150, zw_150, zk_151, zw_151, zk_152, zw_152, zq_138_1, zq_138_2, zq_138_3, zq_138_4, zq_138_16, zq_138_19, zq_138_20, zq_138_24, zq_138_25, zq_138_26, zq_138_27, zq_138_31, zq_138_32, zq_138_33, hn]
theorem sp_sumL {r0 : Nat} (pt : zPN Lh b n J 167 6 r0) : ∀ r, r ≤ r0 → ∀ (dp : Nat) (T : zTk) (c : List Nat) (I : zx_MI), dp ≤ 6 → n < T.1 + r → T.2.2.1 ≠ 44 → zMd I b n T → zMc I c → c.length ≤ T.1 → ∃ I2, zEnd b n I I2 T c (zG2 b n 5 dp T c) (zErr2 b n 5 dp T c) ∧ ∀ d P v, 10 + 8 * (6 - dp) + 2 ≤ d → zx_wp d 168 5 [.ref 138, .int (nI dp), v] [] (zx_LL Lh) I J P = P none (zx_LL Lh) I2 J := by
  intro r
  induction r with
  | zero =>
    intro hr0 dp T c I hdp hr _ z m hc
    have := (zT_tk z).2.1
    have := (zT_tk z).1.1
    omega
  | succ r ih =>
    intro hr0 dp T c I hdp hr h44 z m hc
    have tk := zT_tk z
    have k52 := tk.1.2.1
    have eN := tk.1.1
    have n900 := z.1.1
    obtain ⟨tn, tle⟩ := zT_nx z
    have n1 : (nI 1 = nI 0) = False := eq_false (by decide)
    have hi := fun q (hq : q < 60) d P => sp_is (Lh := Lh) (J := J) (d := d) (q := q) (P := P) z hq
    have hi42 := hi 42 (by decide)
    have hi43 := hi 43 (by decide)
    have t3 := z.2.2.1.2.2.1
    by_cases cc : T.2.2.1 = 42 ∨ T.2.2.1 = 43
    · have hs : T.1 < T.2.1 := tk.2.2.2 (by omega)
      have hbd : zl_bd T.2.2.1 = 5 := by rcases cc with e | e <;> rw [e] <;> rfl
      have hoc : zl_oc T.2.2.1 < 3003 ∧ 3000 ≤ zl_oc T.2.2.1 := by rcases cc with e | e <;> rw [e] <;> decide
      have h15 : T.2.2.1 ≠ 15 := by omega
      have b1 : 1 ≤ zl_bd T.2.2.1 := by omega
      have c3 : T.2.2.1 = 42 ∨ T.2.2.1 = 43 ∨ T.2.2.1 = 44 := by omega
      have b2 : 2 ≤ zl_bd T.2.2.1 := by omega
      have b4 : 4 ≤ zl_bd T.2.2.1 := by omega
      have b5 : 5 ≤ zl_bd T.2.2.1 := by omega
      obtain ⟨I2, f2, z2, h2⟩ := sp_nextM (Lh := Lh) (J := J) z
      have m2 := zMc_f m f2
      obtain ⟨I3, ⟨f3, e3⟩, h3⟩ := pt dp (zf_nx b n T.2.1) c I2 hdp (by omega) z2 m2 (by omega)
      have f13 : zFq I I3 := zFq_t (zMd_q f2) f3
      have to51 : ∀ e P v, 10 + 8 * (6 - dp) + 2 ≤ e + 3 → zx_wp (e + 3) 168 5 [.ref 138, .int (nI dp), v] [] (zx_LL Lh) I J P = zx_wp (e + 3) 168 51 [.ref 138, .int (nI dp), .int (nI (zl_oc T.2.2.1))] [] (zx_LL Lh) I3 J P := fun e P v hd => by
        have h2' := fun P => h2 (e + 2) P (by omega)
        have h3' := fun P => h3 (e + 2) P (by omega)
        rw [zs_168_5]
        rcases cc with q | q
        · rw [decide_eq_true q] at hi42
          rw [q] at t3
          rw [q]
          simp (disch := omega) only [↓zs_168_6, ↓zs_168_8, ↓zs_168_11, ↓zs_168_14, ↓zs_168_15, ↓zs_168_17, ↓zs_168_20, ↓zs_168_23, ↓zs_168_24, ↓zs_168_27, ↓zs_168_29, ↓zs_168_32, ↓zs_168_35, ↓zs_168_38, ↓zs_168_41, zx_pu_s, zx_pu_n, zx_rv_s, zx_rv_n, true_and, and_true, true_or, or_true, zb_0, zb_1, zq_lcl, zq_lcg, zq_lce, eq_self, ite_true, ite_false, zk_138, zw_138, zk_139, zw_139, zk_140, zw_140, zk_141, zw_141, zk_142, zw_142, zk_143, zw_143, zk_144, zw_144, zk_145, zw_145, zk_146, zw_146, zk_147, zw_147, zk_148, zw_148, zk_149, zw_149, zk_150, zw_150, zk_151, zw_151, zk_152, zw_152, zq_138_1, zq_138_2, zq_138_3, zq_138_4, zq_138_16, zq_138_19, zq_138_20, zq_138_24, zq_138_25, zq_138_26, zq_138_27, zq_138_31, zq_138_32, zq_138_33, hi42, zB_0, reduceCtorEq, t3]
          simp (disch := omega) only [↓zs_168_42, ↓zs_168_43, ↓zs_168_46, ↓zs_168_47, ↓zs_168_48, zx_pu_s, zx_pu_n, zx_rv_s, zx_rv_n, true_and, and_true, true_or, or_true, zb_0, zb_1, zq_lcl, zq_lcg, zq_lce, eq_self, ite_true, ite_false, zk_138, zw_138, zk_139, zw_139, zk_140, zw_140, zk_141, zw_141, zk_142, zw_142, zk_143, zw_143, zk_144, zw_144, zk_145, zw_145, zk_146, zw_146, zk_147, zw_147, zk_148, zw_148, zk_149, zw_149, zk_150, zw_150, zk_151, zw_151, zk_152, zw_152, zq_138_1, zq_138_2, zq_138_3, zq_138_4, zq_138_16, zq_138_19, zq_138_20, zq_138_24, zq_138_25, zq_138_26, zq_138_27, zq_138_31, zq_138_32, zq_138_33, h2', h3']
          rfl
        · rw [decide_eq_false (show ¬ T.2.2.1 = 42 by omega)] at hi42
          rw [decide_eq_true q] at hi43
          rw [q] at t3
          rw [q]
          have n34 : (nI 43 = nI 42) = False := eq_false (by decide)
          simp (disch := omega) only [↓zs_168_6, ↓zs_168_8, ↓zs_168_11, ↓zs_168_14, ↓zs_168_15, ↓zs_168_17, ↓zs_168_20, ↓zs_168_23, ↓zs_168_24, ↓zs_168_27, ↓zs_168_29, ↓zs_168_32, ↓zs_168_35, ↓zs_168_38, ↓zs_168_41, zx_pu_s, zx_pu_n, zx_rv_s, zx_rv_n, true_and, and_true, true_or, or_true, zb_0, zb_1, zq_lcl, zq_lcg, zq_lce, eq_self, ite_true, ite_false, zk_138, zw_138, zk_139, zw_139, zk_140, zw_140, zk_141, zw_141, zk_142, zw_142, zk_143, zw_143, zk_144, zw_144, zk_145, zw_145, zk_146, zw_146, zk_147, zw_147, zk_148, zw_148, zk_149, zw_149, zk_150, zw_150, zk_151, zw_151, zk_152, zw_152, zq_138_1, zq_138_2, zq_138_3, zq_138_4, zq_138_16, zq_138_19, zq_138_20, zq_138_24, zq_138_25, zq_138_26, zq_138_27, zq_138_31, zq_138_32, zq_138_33, hi42, hi43, zB_0, reduceCtorEq, t3, n34]
          simp (disch := omega) only [↓zs_168_42, ↓zs_168_43, ↓zs_168_46, ↓zs_168_47, ↓zs_168_48, zx_pu_s, zx_pu_n, zx_rv_s, zx_rv_n, true_and, and_true, true_or, or_true, zb_0, zb_1, zq_lcl, zq_lcg, zq_lce, eq_self, ite_true, ite_false, zk_138, zw_138, zk_139, zw_139, zk_140, zw_140, zk_141, zw_141, zk_142, zw_142, zk_143, zw_143, zk_144, zw_144, zk_145, zw_145, zk_146, zw_146, zk_147, zw_147, zk_148, zw_148, zk_149, zw_149, zk_150, zw_150, zk_151, zw_151, zk_152, zw_152, zq_138_1, zq_138_2, zq_138_3, zq_138_4, zq_138_16, zq_138_19, zq_138_20, zq_138_24, zq_138_25, zq_138_26, zq_138_27, zq_138_31, zq_138_32, zq_138_33, h2', h3']
          rfl
      rcases e3 with ⟨T3, x, z3, m3, l3, g1, g2, g3, g4⟩ | ⟨f, s, b3, g⟩
      · have tk3 := zT_tk z3
        have hcl : (c ++ x).length = c.length + x.length := List.length_append
        have hco := fun d P => sp_codes (Lh := Lh) (J := J) (d := d) (x := zl_oc T.2.2.1) (P := P) z3.2.2.2.2 m3 (by have := tk3.1.1; have := tk3.2.1; omega)
        have z4 := zMd_c (x := nI (zl_oc T.2.2.1)) (y := nI ((c ++ x).length + 1)) (i := 386 + (c ++ x).length) (j := 385) z3
        have m4 := zMc_add (x := zl_oc T.2.2.1) m3
        have n44 := g2.1 (by decide)
        obtain ⟨I5, ⟨f5, e5⟩, h5⟩ := ih (by omega) dp T3 (c ++ x ++ [zl_oc T.2.2.1]) _ hdp (by omega) n44 z4 m4 (by rw [zl_c1]; omega)
        have f15 : zFq I I5 := zFq_t f13 (zFq_t zFq_c f5)
        have simI : ∀ i, zl_ok n i T → ∃ i3, zl_ok n i3 T3 ∧ ∀ p os ot cp, zl_tb p < 5 → zl_run b n i T (2, p, dp, os, ot, cp, c) = zl_run b n i3 T3 (2, p, dp, os, ot, cp, c ++ x ++ [zl_oc T.2.2.1]) := by
          intro i hi
          obtain ⟨j, rfl⟩ := zl_ok_s hi tk
          obtain ⟨i3, o3, s3⟩ := g4 j (zl_ok_nx hi tk (by omega))
          refine ⟨i3, o3, fun p os ot cp ht => ?_⟩
          rw [zl_run_go (zl_s_op c3 (by rw [hbd]; exact ht)), s3 1 (T.2.2.1 :: p) os ot cp (.inl rfl) (by show zl_bd T.2.2.1 < 6; omega)]
          have := zl_run_eq (b := b) (n := n) (i := i3) (T := T3) (zl_fl (k := T3.2.2.1) (v := T3.2.2.2) (p := p) (ns := dp) (os := os) (ot := ot) (cp := cp) (c := c ++ x) (op := T.2.2.1) (Nat.le_refl 2) b1 (fun _ => ⟨fun h => absurd h n44, fun _ => b5, fun _ _ _ => b4⟩) (fun _ _ => b2))
          rw [if_neg h15] at this
          exact this
        refine ⟨I5, ⟨f15, ?_⟩, fun d P v hd => ?_⟩
        · rcases e5 with ⟨T5, y, z5, m5, l5, k1, k2, k3⟩ | ⟨f, s, b5, g5⟩
          · rw [zl_appC] at m5 k3
            refine .inl ⟨T5, x ++ [zl_oc T.2.2.1] ++ y, z5, m5, ?_, k1, ⟨zl_cv_app (zl_cv_app g3.1 (zl_cv_1 (.inr (by omega)))) k2.1, fun ts hts => ?_⟩, fun i hi => ?_⟩
            · rw [List.length_append, List.length_append]
              show T.1 + (x.length + 1 + y.length) ≤ T5.1
              omega
            · have a1 := g3.2 (false :: ts) (by show ts.length + 1 + _ ≤ 60; omega)
              have a2 : zf_tyL (x ++ [zl_oc T.2.2.1]) (false :: ts) = some (false :: ts) := by
                rw [zf_tyL_app x _ a1]
                rcases cc with q | q <;> rw [q] <;> rfl
              rw [zf_tyL_app _ _ a2]
              exact k2.2 ts hts
            · obtain ⟨i3, o3, s3⟩ := simI i hi
              obtain ⟨i5, o5, s5⟩ := k3 i3 o3
              exact ⟨i5, o5, fun p os ot cp ht => (s3 p os ot cp ht).trans (s5 p os ot cp ht)⟩
          · exact .inr ⟨f, s, b5, fun i hi p os ot cp ht => by
              obtain ⟨i3, o3, s3⟩ := simI i hi
              exact (s3 p os ot cp ht).trans (g5 i3 o3 p os ot cp ht)⟩
        · obtain ⟨e, rfl⟩ : ∃ e, d = e + 3 := ⟨d - 3, by omega⟩
          rw [to51 e P v hd, ← h5 (e + 3) P (.int (nI (zl_oc T.2.2.1))) hd]
          simp (disch := omega) only [↓zs_168_51, ↓zs_168_52, ↓zs_168_53, ↓zs_168_56, zx_pu_s, zx_pu_n, zx_rv_s, zx_rv_n, true_and, and_true, true_or, or_true, zb_0, zb_1, zq_lcl, zq_lcg, zq_lce, eq_self, ite_true, ite_false, zk_138, zw_138, zk_139, zw_139, zk_140, zw_140, zk_141, zw_141, zk_142, zw_142, zk_143, zw_143, zk_144, zw_144, zk_145, zw_145, zk_146, zw_146, zk_147, zw_147, zk_148, zw_148, zk_149, zw_149, zk_150, zw_150, zk_151, zw_151, zk_152, zw_152, zq_138_1, zq_138_2, zq_138_3, zq_138_4, zq_138_16, zq_138_19, zq_138_20, zq_138_24, zq_138_25, zq_138_26, zq_138_27, zq_138_31, zq_138_32, zq_138_33, hco]
      · have hco := fun d x P => sp_codes1 (Lh := Lh) (J := J) (d := d) (x := x) (P := P) b3
        have hn := fun d x P => sp_is1 (Lh := Lh) (J := J) (d := d) (x := x) (P := P) b3
        refine ⟨I3, ⟨f13, .inr ⟨f, s, b3, fun i hi p os ot cp ht => ?_⟩⟩, fun d P v hd => ?_⟩
        · obtain ⟨j, rfl⟩ := zl_ok_s hi tk
          rw [zl_run_go (zl_s_op c3 (by rw [hbd]; exact ht))]
          exact g j (zl_ok_nx hi tk (by omega)) 1 (T.2.2.1 :: p) os ot cp (.inl rfl) (by show zl_bd T.2.2.1 < 6; omega)
        · obtain ⟨e, rfl⟩ : ∃ e, d = e + 3 := ⟨d - 3, by omega⟩
          rw [to51 e P v hd]
          simp (disch := omega) only [↓zs_168_51, ↓zs_168_52, ↓zs_168_53, ↓zs_168_56, zx_pu_s, zx_pu_n, zx_rv_s, zx_rv_n, true_and, and_true, true_or, or_true, zb_0, zb_1, zq_lcl, zq_lcg, zq_lce, eq_self, ite_true, ite_false, zk_138, zw_138, zk_139, zw_139, zk_140, zw_140, zk_141, zw_141, zk_142, zw_142, zk_143, zw_143, zk_144, zw_144, zk_145, zw_145, zk_146, zw_146, zk_147, zw_147, zk_148, zw_148, zk_149, zw_149, zk_150, zw_150, zk_151, zw_151, zk_152, zw_152, zq_138_1, zq_138_2, zq_138_3, zq_138_4, zq_138_16, zq_138_19, zq_138_20, zq_138_24, zq_138_25, zq_138_26, zq_138_27, zq_138_31, zq_138_32, zq_138_33, hco]
          rw [zs_168_5]
          simp (disch := omega) only [↓zs_168_6, ↓zs_168_8, ↓zs_168_11, ↓zs_168_14, ↓zs_168_15, ↓zs_168_17, ↓zs_168_20, ↓zs_168_59, zx_pu_s, zx_pu_n, zx_rv_s, zx_rv_n, true_and, and_true, true_or, or_true, zb_0, zb_1, zq_lcl, zq_lcg, zq_lce, eq_self, ite_true, ite_false, zk_138, zw_138, zk_139, zw_139, zk_140, zw_140, zk_141, zw_141, zk_142, zw_142, zk_143, zw_143, zk_144, zw_144, zk_145, zw_145, zk_146, zw_146, zk_147, zw_147, zk_148, zw_148, zk_149, zw_149, zk_150, zw_150, zk_151, zw_151, zk_152, zw_152, zq_138_1, zq_138_2, zq_138_3, zq_138_4, zq_138_16, zq_138_19, zq_138_20, zq_138_24, zq_138_25, zq_138_26, zq_138_27, zq_138_31, zq_138_32, zq_138_33, hn]
    · have c42 : ¬ T.2.2.1 = 42 := fun h => cc (.inl h)
      have c43 : ¬ T.2.2.1 = 43 := fun h => cc (.inr h)
      rw [decide_eq_false c42] at hi42
      rw [decide_eq_false c43] at hi43
      refine ⟨I, ⟨zFq_r I, .inl ⟨T, [], z, by rw [List.append_nil]; exact m, Nat.le_refl _, ⟨fun _ => h44, fun h => ⟨c42, c43⟩⟩, ⟨fun e he => (by cases he), fun ts hts => rfl⟩, fun i hi => ⟨i, hi, fun p os ot cp _ => by rw [List.append_nil]⟩⟩⟩, fun d P v hd => ?_⟩
      obtain ⟨e, rfl⟩ : ∃ e, d = e + 3 := ⟨d - 3, by omega⟩
      rw [zs_168_5]
      simp (disch := omega) only [↓zs_168_6, ↓zs_168_8, ↓zs_168_11, ↓zs_168_14, ↓zs_168_15, ↓zs_168_17, ↓zs_168_20, ↓zs_168_59, zx_pu_s, zx_pu_n, zx_rv_s, zx_rv_n, true_and, and_true, true_or, or_true, zb_0, zb_1, zq_lcl, zq_lcg, zq_lce, eq_self, ite_true, ite_false, zk_138, zw_138, zk_139, zw_139, zk_140, zw_140, zk_141, zw_141, zk_142, zw_142, zk_143, zw_143, zk_144, zw_144, zk_145, zw_145, zk_146, zw_146, zk_147, zw_147, zk_148, zw_148, zk_149, zw_149, zk_150, zw_150, zk_151, zw_151, zk_152, zw_152, zq_138_1, zq_138_2, zq_138_3, zq_138_4, zq_138_16, zq_138_19, zq_138_20, zq_138_24, zq_138_25, zq_138_26, zq_138_27, zq_138_31, zq_138_32, zq_138_33, hi42, hi43, zB_0]
theorem sp_sum {r : Nat} (pt : zPN Lh b n J 167 6 r) : zPN Lh b n J 168 5 r := by
  intro dp T c I hdp hr z m hc
  obtain ⟨I2, ⟨f2, e2⟩, h2⟩ := pt dp T c I hdp hr z m hc
  have tk := zT_tk z
  rcases e2 with ⟨T2, x, z2, m2, l2, g1, g2, g3, g4⟩ | ⟨f, s, b2, g⟩
  · have hcl : (c ++ x).length = c.length + x.length := List.length_append
    have te := tk.2.1
    obtain ⟨I3, ⟨f3, e3⟩, h3⟩ := sp_sumL pt r (Nat.le_refl r) dp T2 (c ++ x) I2 hdp (by omega) (g2.1 (by decide)) z2 m2 (by omega)
    refine ⟨I3, ⟨zFq_t f2 f3, ?_⟩, fun d P hd => ?_⟩
    · rcases e3 with ⟨T3, y, z3, m3, l3, k1, k2, k3⟩ | ⟨f, s, b3, g5⟩
      · rw [zl_appD] at m3 k3
        refine .inl ⟨T3, x ++ y, z3, m3, ?_, by omega, k1, ⟨zl_cv_app g3.1 k2.1, fun ts hts => ?_⟩, fun i hi => ?_⟩
        · rw [List.length_append]; omega
        · rw [zf_tyL_app x _ (g3.2 ts (by omega))]
          exact k2.2 ts hts
        · obtain ⟨i2, o2, s2⟩ := g4 i hi
          obtain ⟨i3, o3, s3⟩ := k3 i2 o2
          exact ⟨i3, o3, fun st p os ot cp hp ht => (s2 st p os ot cp hp (by omega)).trans (s3 p os ot cp ht)⟩
      · exact .inr ⟨f, s, b3, fun i hi st p os ot cp hp ht => by
          obtain ⟨i2, o2, s2⟩ := g4 i hi
          exact (s2 st p os ot cp hp (by omega)).trans (g5 i2 o2 p os ot cp ht)⟩
    · obtain ⟨e, rfl⟩ : ∃ e, d = e + 3 := ⟨d - 3, by omega⟩
      have h2' := fun P => h2 (e + 2) P (by omega)
      rw [← h3 (e + 3) P zx_u0 (by omega), ze_168]
      simp (disch := omega) only [↓zs_168_0, ↓zs_168_1, ↓zs_168_2, zx_pu_s, zx_pu_n, zx_rv_s, zx_rv_n, true_and, and_true, true_or, or_true, zb_0, zb_1, zq_lcl, zq_lcg, zq_lce, eq_self, ite_true, ite_false, zk_138, zw_138, zk_139, zw_139, zk_140, zw_140, zk_141, zw_141, zk_142, zw_142, zk_143, zw_143, zk_144, zw_144, zk_145, zw_145, zk_146, zw_146, zk_147, zw_147, zk_148, zw_148, zk_149, zw_149, zk_150, zw_150, zk_151, zw_151, zk_152, zw_152, zq_138_1, zq_138_2, zq_138_3, zq_138_4, zq_138_16, zq_138_19, zq_138_20, zq_138_24, zq_138_25, zq_138_26, zq_138_27, zq_138_31, zq_138_32, zq_138_33, h2']
  · have hn := fun d x P => sp_is1 (Lh := Lh) (J := J) (d := d) (x := x) (P := P) b2
    refine ⟨I2, ⟨f2, .inr ⟨f, s, b2, fun i hi st p os ot cp hp ht => g i hi st p os ot cp hp (by omega)⟩⟩, fun d P hd => ?_⟩
    obtain ⟨e, rfl⟩ : ∃ e, d = e + 3 := ⟨d - 3, by omega⟩
    have h2' := fun P => h2 (e + 2) P (by omega)
    rw [ze_168]
    simp (disch := omega) only [↓zs_168_0, ↓zs_168_1, ↓zs_168_2, zx_pu_s, zx_pu_n, zx_rv_s, zx_rv_n, true_and, and_true, true_or, or_true, zb_0, zb_1, zq_lcl, zq_lcg, zq_lce, eq_self, ite_true, ite_false, zk_138, zw_138, zk_139, zw_139, zk_140, zw_140, zk_141, zw_141, zk_142, zw_142, zk_143, zw_143, zk_144, zw_144, zk_145, zw_145, zk_146, zw_146, zk_147, zw_147, zk_148, zw_148, zk_149, zw_149, zk_150, zw_150, zk_151, zw_151, zk_152, zw_152, zq_138_1, zq_138_2, zq_138_3, zq_138_4, zq_138_16, zq_138_19, zq_138_20, zq_138_24, zq_138_25, zq_138_26, zq_138_27, zq_138_31, zq_138_32, zq_138_33, h2']
    rw [zs_168_5]
    simp (disch := omega) only [↓zs_168_6, ↓zs_168_8, ↓zs_168_11, ↓zs_168_14, ↓zs_168_15, ↓zs_168_17, ↓zs_168_20, ↓zs_168_59, zx_pu_s, zx_pu_n, zx_rv_s, zx_rv_n, true_and, and_true, true_or, or_true, zb_0, zb_1, zq_lcl, zq_lcg, zq_lce, eq_self, ite_true, ite_false, zk_138, zw_138, zk_139, zw_139, zk_140, zw_140, zk_141, zw_141, zk_142, zw_142, zk_143, zw_143, zk_144, zw_144, zk_145, zw_145, zk_146, zw_146, zk_147, zw_147, zk_148, zw_148, zk_149, zw_149, zk_150, zw_150, zk_151, zw_151, zk_152, zw_152, zq_138_1, zq_138_2, zq_138_3, zq_138_4, zq_138_16, zq_138_19, zq_138_20, zq_138_24, zq_138_25, zq_138_26, zq_138_27, zq_138_31, zq_138_32, zq_138_33, hn]
end LT
