/-! the model's law: atoms and terms against the plain machine -/
abbrev zTk : Type := Nat × Nat × Nat × Nat
def zNc (L k : Nat) : Prop := (L ≤ 6 → k ≠ 44) ∧ (L ≤ 5 → k ≠ 42 ∧ k ≠ 43)
def zTyN (q : Nat) (x : List Nat) : Prop := zl_cv x ∧ ∀ ts : List Bool, ts.length + q ≤ 60 → zf_tyL x ts = some (false :: ts)
def zTy2 (q : Nat) (x : List Nat) : Prop := zl_cv x ∧ ∀ ts : List Bool, ts.length + q ≤ 60 → zf_tyL x (false :: ts) = some (false :: ts)
def zPre (T : zTk) (st : Nat) : Prop := st = 1 ∨ (st = 0 ∧ T.2.2.1 ≠ 15 ∧ T.2.2.1 ≠ 47)
theorem zPre_2 {T : zTk} {st : Nat} (h : zPre T st) : st < 2 := by
  rcases h with h | ⟨h, -⟩ <;> omega
def zSimN (b : Nat → Nat) (n L dp : Nat) (T : zTk) (c : List Nat) (T' : zTk) (c' : List Nat) : Prop := ∀ i, zl_ok n i T → ∃ i', zl_ok n i' T' ∧ ∀ st p os ot cp, zPre T st → zl_tb p < L → zl_run b n i T (st, p, dp, os, ot, cp, c) = zl_run b n i' T' (2, p, dp, os, ot, cp, c')
def zErrN (b : Nat → Nat) (n L dp : Nat) (T : zTk) (c : List Nat) (f s : Nat) : Prop := ∀ i, zl_ok n i T → ∀ st p os ot cp, zPre T st → zl_tb p < L → zl_run b n i T (st, p, dp, os, ot, cp, c) = .inl (f, s)
def zSim2 (b : Nat → Nat) (n L dp : Nat) (T : zTk) (c : List Nat) (T' : zTk) (c' : List Nat) : Prop := ∀ i, zl_ok n i T → ∃ i', zl_ok n i' T' ∧ ∀ p os ot cp, zl_tb p < L → zl_run b n i T (2, p, dp, os, ot, cp, c) = zl_run b n i' T' (2, p, dp, os, ot, cp, c')
def zErr2 (b : Nat → Nat) (n L dp : Nat) (T : zTk) (c : List Nat) (f s : Nat) : Prop := ∀ i, zl_ok n i T → ∀ p os ot cp, zl_tb p < L → zl_run b n i T (2, p, dp, os, ot, cp, c) = .inl (f, s)
def zGN (b : Nat → Nat) (n L dp : Nat) (T : zTk) (c : List Nat) (T' : zTk) (x : List Nat) : Prop := T.2.1 ≤ T'.1 ∧ zNc L T'.2.2.1 ∧ zTyN (5 * (6 - dp) + (8 - L)) x ∧ zSimN b n L dp T c T' (c ++ x)
def zG2 (b : Nat → Nat) (n L dp : Nat) (T : zTk) (c : List Nat) (T' : zTk) (x : List Nat) : Prop := zNc L T'.2.2.1 ∧ zTy2 (5 * (6 - dp) + (8 - L)) x ∧ zSim2 b n L dp T c T' (c ++ x)
def zEnd (b : Nat → Nat) (n : Nat) (I I2 : zx_MI) (T : zTk) (c : List Nat) (G : zTk → List Nat → Prop) (E : Nat → Nat → Prop) : Prop := zFq I I2 ∧ ((∃ T' x, zMd I2 b n T' ∧ zMc I2 (c ++ x) ∧ T.1 + x.length ≤ T'.1 ∧ G T' x) ∨ ∃ f s, zBad I2 f s ∧ E f s)
def zPN (Lh : Nat) (b : Nat → Nat) (n : Nat) (J : zx_MJ) (m L r : Nat) : Prop := ∀ (dp : Nat) (T : zTk) (c : List Nat) (I : zx_MI), dp ≤ 6 → n < T.1 + r → zMd I b n T → zMc I c → c.length ≤ T.1 → ∃ I2, zEnd b n I I2 T c (zGN b n L dp T c) (zErrN b n L dp T c) ∧ ∀ d P, 10 + 8 * (6 - dp) + (7 - L) ≤ d → zx_rn d m [.ref 138, .int (nI dp)] (zx_LL Lh) I J P = P none (zx_LL Lh) I2 J
theorem zl_c1 (c : List Nat) (y : Nat) : (c ++ [y]).length = c.length + 1 := by rw [List.length_append]; rfl
section LA
variable {Lh n : Nat} {b : Nat → Nat} {J : zx_MJ}
theorem zT_tk {I : zx_MI} {T : zTk} (z : zMd I b n T) : zl_tk2 n T := z.2.2.2.1
theorem zT_nx {I : zx_MI} {T : zTk} (z : zMd I b n T) : zl_tk2 n (zf_nx b n T.2.1) ∧ T.2.1 ≤ (zf_nx b n T.2.1).1 := zl_tk2_nx b (zT_tk z).1.1
theorem sp_atom {r : Nat} (ih : zPN Lh b n J 168 5 r) : zPN Lh b n J 166 7 (r + 1) := by
  intro dp T c I hdp hr z m hc
  have tk := zT_tk z
  have k52 := tk.1.2.1
  have eN := tk.1.1
  have n900 := z.1.1
  obtain ⟨tn, tle⟩ := zT_nx z
  have hi := fun q (hq : q < 60) d P => sp_is (Lh := Lh) (J := J) (d := d) (q := q) (P := P) z hq
  have h27 := hi 27 (by decide)
  have h45 := hi 45 (by decide)
  have e11 := z.2.2.2.2
  obtain ⟨t1, t2, t3, t4⟩ := z.2.2.1
  by_cases c27 : T.2.2.1 = 27
  · have hs : T.1 < T.2.1 := tk.2.2.2 (by omega)
    have ne : ¬ n ≤ T.1 := fun h => by have := tk.2.2.1.mpr h; omega
    have e10 := t4 c27
    have hco := fun d P => sp_codes (Lh := Lh) (J := J) (d := d) (x := T.2.2.2) (P := P) e11 m (by omega)
    have z1 := zMd_c (x := nI T.2.2.2) (y := nI (c.length + 1)) (i := 386 + c.length) (j := 385) z
    have m1 := zMc_add (x := T.2.2.2) m
    obtain ⟨I2, f2, z2, h2⟩ := sp_nextM (Lh := Lh) (J := J) z1
    refine ⟨I2, ⟨zFq_t zFq_c (zMd_q f2), .inl ⟨_, [T.2.2.2], z2, zMc_f m1 f2, by show T.1 + 1 ≤ _; omega, tle, ⟨fun h => by omega, fun h => by omega⟩, ⟨zl_cv_1 (.inl (by have := tk.1.2.2.2; omega)), fun ts hts => ?_⟩, fun i hi => ?_⟩⟩, fun d P hd => ?_⟩
    · have v9 := tk.1.2.2.2
      rw [zf_tyL, if_pos (by omega), if_pos (by omega)]
      rfl
    · obtain ⟨j, rfl⟩ := zl_ok_s hi tk
      exact ⟨j, zl_ok_nx hi tk (by omega), fun st p os ot cp hp _ => zl_run_go (zl_s_num (zPre_2 hp) c27)⟩
    · obtain ⟨e, rfl⟩ : ∃ e, d = e + 3 := ⟨d - 3, by omega⟩
      have h2' := fun P => h2 (e + 2) P (by omega)
      rw [decide_eq_true c27] at h27
      rw [ze_166]
      simp (disch := omega) only [↓zs_166_0, ↓zs_166_1, ↓zs_166_3, ↓zs_166_6, ↓zs_166_9, ↓zs_166_10, ↓zs_166_11, ↓zs_166_14, ↓zs_166_17, ↓zs_166_18, ↓zs_166_21, ↓zs_166_117, zx_pu_s, zx_pu_n, zx_rv_s, zx_rv_n, true_and, and_true, true_or, or_true, zb_0, zb_1, zq_lcl, zq_lcg, zq_lce, eq_self, ite_true, ite_false, zk_138, zw_138, zk_139, zw_139, zk_140, zw_140, zk_141, zw_141, zk_142, zw_142, zk_143, zw_143, zk_144, zw_144, zk_145, zw_145, zk_146, zw_146, zk_147, zw_147, zk_148, zw_148, zk_149, zw_149, zk_150, zw_150, zk_151, zw_151, zk_152, zw_152, zq_138_1, zq_138_2, zq_138_3, zq_138_4, zq_138_16, zq_138_19, zq_138_20, zq_138_24, zq_138_25, zq_138_26, zq_138_27, zq_138_31, zq_138_32, zq_138_33, h27, zB_0, reduceCtorEq, e10, hco, h2']
  · rw [decide_eq_false c27] at h27
    by_cases cw : 16 ≤ T.2.2.1 ∧ T.2.2.1 ≤ 23
    · have hs : T.1 < T.2.1 := tk.2.2.2 (by omega)
      have ne : ¬ n ≤ T.1 := fun h => by have := tk.2.2.1.mpr h; omega
      have hco := fun d P => sp_codes (Lh := Lh) (J := J) (d := d) (x := 1000 + (T.2.2.1 - 16)) (P := P) e11 m (by have := z.1.1; omega)
      have z1 := zMd_c (x := nI (1000 + (T.2.2.1 - 16))) (y := nI (c.length + 1)) (i := 386 + c.length) (j := 385) z
      have m1 := zMc_add (x := 1000 + (T.2.2.1 - 16)) m
      obtain ⟨I2, f2, z2, h2⟩ := sp_nextM (Lh := Lh) (J := J) z1
      have hbt : zf_bt 16 23 (nI T.2.2.1).toInt = true := by
        rw [zf_btP, nI_toInt (by omega)]; omega
      have hw := fun d L I J P => sp_bt (d := d) (L := L) (I := I) (J := J) (P := P) (nI T.2.2.1) (a := 16) (b := 23) (by omega) (by omega)
      rw [hbt] at hw
      have ew : nI (1000 + T.2.2.1) - nI 16 = nI (1000 + (T.2.2.1 - 16)) := by rw [pk_sub (by omega), show 1000 + T.2.2.1 - 16 = 1000 + (T.2.2.1 - 16) by omega]
      refine ⟨I2, ⟨zFq_t zFq_c (zMd_q f2), .inl ⟨_, [1000 + (T.2.2.1 - 16)], z2, zMc_f m1 f2, by show T.1 + 1 ≤ _; omega, tle, ⟨fun h => by omega, fun h => by omega⟩, ⟨zl_cv_1 (.inl (by omega)), fun ts hts => ?_⟩, fun i hi => ?_⟩⟩, fun d P hd => ?_⟩
      · rw [zf_tyL, if_pos (by omega), if_pos (by omega)]
        rfl
      · obtain ⟨j, rfl⟩ := zl_ok_s hi tk
        exact ⟨j, zl_ok_nx hi tk (by omega), fun st p os ot cp hp _ => zl_run_go (zl_s_word (zPre_2 hp) cw)⟩
      · obtain ⟨e, rfl⟩ : ∃ e, d = e + 3 := ⟨d - 3, by omega⟩
        have h2' := fun P => h2 (e + 2) P (by omega)
        rw [ze_166]
        simp (disch := omega) only [↓zs_166_0, ↓zs_166_1, ↓zs_166_3, ↓zs_166_6, ↓zs_166_9, ↓zs_166_10, ↓zs_166_11, ↓zs_166_14, ↓zs_166_17, ↓zs_166_18, ↓zs_166_21, ↓zs_166_24, ↓zs_166_25, ↓zs_166_28, ↓zs_166_31, ↓zs_166_32, ↓zs_166_35, ↓zs_166_36, ↓zs_166_39, ↓zs_166_42, ↓zs_166_45, zx_pu_s, zx_pu_n, zx_rv_s, zx_rv_n, true_and, and_true, true_or, or_true, zb_0, zb_1, zq_lcl, zq_lcg, zq_lce, eq_self, ite_true, ite_false, zk_138, zw_138, zk_139, zw_139, zk_140, zw_140, zk_141, zw_141, zk_142, zw_142, zk_143, zw_143, zk_144, zw_144, zk_145, zw_145, zk_146, zw_146, zk_147, zw_147, zk_148, zw_148, zk_149, zw_149, zk_150, zw_150, zk_151, zw_151, zk_152, zw_152, zq_138_1, zq_138_2, zq_138_3, zq_138_4, zq_138_16, zq_138_19, zq_138_20, zq_138_24, zq_138_25, zq_138_26, zq_138_27, zq_138_31, zq_138_32, zq_138_33, h27, zB_0, reduceCtorEq, e11, t3, hw]
        simp (disch := omega) only [↓zs_166_48, ↓zs_166_49, ↓zs_166_52, ↓zs_166_53, ↓zs_166_56, ↓zs_166_57, ↓zs_166_59, ↓zs_166_60, ↓zs_166_63, ↓zs_166_64, ↓zs_166_67, ↓zs_166_117, zx_pu_s, zx_pu_n, zx_rv_s, zx_rv_n, true_and, and_true, true_or, or_true, zb_0, zb_1, zq_lcl, zq_lcg, zq_lce, eq_self, ite_true, ite_false, zk_138, zw_138, zk_139, zw_139, zk_140, zw_140, zk_141, zw_141, zk_142, zw_142, zk_143, zw_143, zk_144, zw_144, zk_145, zw_145, zk_146, zw_146, zk_147, zw_147, zk_148, zw_148, zk_149, zw_149, zk_150, zw_150, zk_151, zw_151, zk_152, zw_152, zq_138_1, zq_138_2, zq_138_3, zq_138_4, zq_138_16, zq_138_19, zq_138_20, zq_138_24, zq_138_25, zq_138_26, zq_138_27, zq_138_31, zq_138_32, zq_138_33, t3, nI_add, ew, hco, h2']
    · have hbt : zf_bt 16 23 (nI T.2.2.1).toInt = false := by
        cases q : zf_bt 16 23 (nI T.2.2.1).toInt with
        | false => rfl
        | true =>
          rw [zf_btP, nI_toInt (by omega)] at q
          omega
      have hw := fun d L I J P => sp_bt (d := d) (L := L) (I := I) (J := J) (P := P) (nI T.2.2.1) (a := 16) (b := 23) (by omega) (by omega)
      rw [hbt] at hw
      have to70 : ∀ e P, zx_rn (e + 3) 166 [.ref 138, .int (nI dp)] (zx_LL Lh) I J P = zx_wp (e + 3) 166 70 [.ref 138, .int (nI dp)] [] (zx_LL Lh) I J P := fun e P => by
        rw [ze_166]
        simp (disch := omega) only [↓zs_166_0, ↓zs_166_1, ↓zs_166_3, ↓zs_166_6, ↓zs_166_9, ↓zs_166_10, ↓zs_166_11, ↓zs_166_14, ↓zs_166_17, ↓zs_166_18, ↓zs_166_21, ↓zs_166_24, ↓zs_166_25, ↓zs_166_28, ↓zs_166_31, ↓zs_166_32, ↓zs_166_35, ↓zs_166_36, ↓zs_166_39, ↓zs_166_42, ↓zs_166_45, ↓zs_166_48, ↓zs_166_49, ↓zs_166_52, ↓zs_166_53, ↓zs_166_56, ↓zs_166_57, ↓zs_166_59, ↓zs_166_60, ↓zs_166_63, ↓zs_166_64, ↓zs_166_67, zx_pu_s, zx_pu_n, zx_rv_s, zx_rv_n, true_and, and_true, true_or, or_true, zb_0, zb_1, zq_lcl, zq_lcg, zq_lce, eq_self, ite_true, ite_false, zk_138, zw_138, zk_139, zw_139, zk_140, zw_140, zk_141, zw_141, zk_142, zw_142, zk_143, zw_143, zk_144, zw_144, zk_145, zw_145, zk_146, zw_146, zk_147, zw_147, zk_148, zw_148, zk_149, zw_149, zk_150, zw_150, zk_151, zw_151, zk_152, zw_152, zq_138_1, zq_138_2, zq_138_3, zq_138_4, zq_138_16, zq_138_19, zq_138_20, zq_138_24, zq_138_25, zq_138_26, zq_138_27, zq_138_31, zq_138_32, zq_138_33, h27, zB_0, reduceCtorEq, e11, t3, hw]
      by_cases c45 : T.2.2.1 = 45
      · rw [decide_eq_true c45] at h45
        have hs : T.1 < T.2.1 := tk.2.2.2 (by omega)
        by_cases d6 : dp = 6
        · subst d6
          obtain ⟨b1, h2⟩ := sp_goes6 (Lh := Lh) (J := J) z (by omega)
          refine ⟨zMb I 4 T.1, ⟨zMb_f _ _ _, .inr ⟨4, T.1, b1, fun i hi st p os ot cp hp _ => ?_⟩⟩, fun d P hd => ?_⟩
          · obtain ⟨j, rfl⟩ := zl_ok_s hi tk
            exact zl_run_bad (zl_s_6 (zPre_2 hp) (.inl c45) rfl)
          · obtain ⟨e, rfl⟩ : ∃ e, d = e + 3 := ⟨d - 3, by omega⟩
            rw [to70]
            simp (disch := omega) only [↓zs_166_70, ↓zs_166_71, ↓zs_166_73, ↓zs_166_76, ↓zs_166_79, ↓zs_166_80, ↓zs_166_81, ↓zs_166_84, ↓zs_166_87, zx_pu_s, zx_pu_n, zx_rv_s, zx_rv_n, true_and, and_true, true_or, or_true, zb_0, zb_1, zq_lcl, zq_lcg, zq_lce, eq_self, ite_true, ite_false, zk_138, zw_138, zk_139, zw_139, zk_140, zw_140, zk_141, zw_141, zk_142, zw_142, zk_143, zw_143, zk_144, zw_144, zk_145, zw_145, zk_146, zw_146, zk_147, zw_147, zk_148, zw_148, zk_149, zw_149, zk_150, zw_150, zk_151, zw_151, zk_152, zw_152, zq_138_1, zq_138_2, zq_138_3, zq_138_4, zq_138_16, zq_138_19, zq_138_20, zq_138_24, zq_138_25, zq_138_26, zq_138_27, zq_138_31, zq_138_32, zq_138_33, h45, zB_0, reduceCtorEq, h2]
        · obtain ⟨I2, f2, z2, h2⟩ := sp_goesY (Lh := Lh) (J := J) (dp := dp) z (by omega)
          have m2 := zMc_f m f2
          obtain ⟨I3, ⟨f3, e3⟩, h3⟩ := ih (dp + 1) (zf_nx b n T.2.1) c I2 (by omega) (by omega) z2 m2 (by omega)
          have f13 : zFq I I3 := zFq_t (zMd_q f2) f3
          have to95 : ∀ e P, 10 + 8 * (6 - dp) + (7 - 7) ≤ e + 3 → zx_rn (e + 3) 166 [.ref 138, .int (nI dp)] (zx_LL Lh) I J P = zx_wp (e + 3) 166 95 [.ref 138, .int (nI dp)] [] (zx_LL Lh) I3 J P := fun e P hd => by
            have h2' := fun P => h2 (e + 2) P (by omega)
            have h3' := fun P => h3 (e + 2) P (by omega)
            have n1 : (nI 1 = nI 0) = False := eq_false (by decide)
            rw [to70]
            simp (disch := omega) only [↓zs_166_70, ↓zs_166_71, ↓zs_166_73, ↓zs_166_76, ↓zs_166_79, ↓zs_166_80, ↓zs_166_81, ↓zs_166_84, ↓zs_166_87, ↓zs_166_88, ↓zs_166_89, ↓zs_166_90, ↓zs_166_91, ↓zs_166_92, zx_pu_s, zx_pu_n, zx_rv_s, zx_rv_n, true_and, and_true, true_or, or_true, zb_0, zb_1, zq_lcl, zq_lcg, zq_lce, eq_self, ite_true, ite_false, zk_138, zw_138, zk_139, zw_139, zk_140, zw_140, zk_141, zw_141, zk_142, zw_142, zk_143, zw_143, zk_144, zw_144, zk_145, zw_145, zk_146, zw_146, zk_147, zw_147, zk_148, zw_148, zk_149, zw_149, zk_150, zw_150, zk_151, zw_151, zk_152, zw_152, zq_138_1, zq_138_2, zq_138_3, zq_138_4, zq_138_16, zq_138_19, zq_138_20, zq_138_24, zq_138_25, zq_138_26, zq_138_27, zq_138_31, zq_138_32, zq_138_33, h45, zB_0, reduceCtorEq, h2', n1, nI_add, h3']
          rcases e3 with ⟨T3, x, z3, m3, l3, g1, g2, g3, g4⟩ | ⟨f, s, b3, g⟩
          · have tk3 := zT_tk z3
            by_cases c46 : T3.2.2.1 = 46
            · obtain ⟨I4, f4, z4, h4⟩ := sp_eatsY (Lh := Lh) (J := J) z3 (by omega)
              rw [c46] at h4
              obtain ⟨tn3, tle3⟩ := zT_nx z3
              refine ⟨I4, ⟨zFq_t f13 (zMd_q f4), .inl ⟨_, x, z4, zMc_f m3 f4, by have := tk3.2.1; omega, by have := tk3.2.1; omega, ⟨fun h => by omega, fun h => by omega⟩, ⟨g3.1, fun ts hts => g3.2 ts (by omega)⟩, fun i hi => ?_⟩⟩, fun d P hd => ?_⟩
              · obtain ⟨j, rfl⟩ := zl_ok_s hi tk
                obtain ⟨i3, o3, s3⟩ := g4 j (zl_ok_nx hi tk (by omega))
                obtain ⟨j3, rfl⟩ := zl_ok_s o3 tk3
                refine ⟨j3, zl_ok_nx o3 tk3 (by omega), fun st p os ot cp hp _ => ?_⟩
                rw [zl_run_go (zl_s_45 (zPre_2 hp) c45 (by omega)), s3 1 (45 :: p) (os + 1) ot cp (.inl rfl) (by show 0 < 5; decide), zl_run_go (zl_s_46 c46)]
              · obtain ⟨e, rfl⟩ : ∃ e, d = e + 3 := ⟨d - 3, by omega⟩
                have h4' := fun P => h4 (e + 2) P (by omega)
                have n1 : (nI 1 = nI 0) = False := eq_false (by decide)
                rw [to95 e P hd]
                simp (disch := omega) only [↓zs_166_95, ↓zs_166_96, ↓zs_166_98, ↓zs_166_101, ↓zs_166_104, ↓zs_166_105, ↓zs_166_106, ↓zs_166_109, ↓zs_166_112, ↓zs_166_113, ↓zs_166_114, ↓zs_166_117, zx_pu_s, zx_pu_n, zx_rv_s, zx_rv_n, true_and, and_true, true_or, or_true, zb_0, zb_1, zq_lcl, zq_lcg, zq_lce, eq_self, ite_true, ite_false, zk_138, zw_138, zk_139, zw_139, zk_140, zw_140, zk_141, zw_141, zk_142, zw_142, zk_143, zw_143, zk_144, zw_144, zk_145, zw_145, zk_146, zw_146, zk_147, zw_147, zk_148, zw_148, zk_149, zw_149, zk_150, zw_150, zk_151, zw_151, zk_152, zw_152, zq_138_1, zq_138_2, zq_138_3, zq_138_4, zq_138_16, zq_138_19, zq_138_20, zq_138_24, zq_138_25, zq_138_26, zq_138_27, zq_138_31, zq_138_32, zq_138_33, h4', n1]
            · have hn := fun d P => sp_eatsN (Lh := Lh) (J := J) (d := d) (P := P) z3 (q := 46) (by decide) c46
              have hf := fun d P => sp_fails (Lh := Lh) (J := J) (d := d) (f := 2) (P := P) z3
              obtain ⟨q1, q2⟩ := zMf_b (f := 2) (k := T3.2.2.1) (by decide) (by decide)
              refine ⟨zMb I3 (zMf 2 T3.2.2.1) T3.1, ⟨zFq_t f13 (zMb_f _ _ _), .inr ⟨_, _, zMb_b q1 q2, fun i hi st p os ot cp hp _ => ?_⟩⟩, fun d P hd => ?_⟩
              · obtain ⟨j, rfl⟩ := zl_ok_s hi tk
                obtain ⟨i3, o3, s3⟩ := g4 j (zl_ok_nx hi tk (by omega))
                obtain ⟨j3, rfl⟩ := zl_ok_s o3 tk3
                have n5 := g2.2 (by decide)
                have n6 := g2.1 (by decide)
                rw [zl_run_go (zl_s_45 (zPre_2 hp) c45 (by omega)), s3 1 (45 :: p) (os + 1) ot cp (.inl rfl) (by show 0 < 5; decide), zl_run_bad (zl_s_n1 ⟨n5.1, n5.2, n6⟩ c46)]
                rfl
              · obtain ⟨e, rfl⟩ : ∃ e, d = e + 3 := ⟨d - 3, by omega⟩
                rw [to95 e P hd]
                simp (disch := omega) only [↓zs_166_95, ↓zs_166_96, ↓zs_166_98, ↓zs_166_101, ↓zs_166_104, ↓zs_166_105, ↓zs_166_106, ↓zs_166_109, ↓zs_166_112, ↓zs_166_113, ↓zs_166_114, ↓zs_166_117, zx_pu_s, zx_pu_n, zx_rv_s, zx_rv_n, true_and, and_true, true_or, or_true, zb_0, zb_1, zq_lcl, zq_lcg, zq_lce, eq_self, ite_true, ite_false, zk_138, zw_138, zk_139, zw_139, zk_140, zw_140, zk_141, zw_141, zk_142, zw_142, zk_143, zw_143, zk_144, zw_144, zk_145, zw_145, zk_146, zw_146, zk_147, zw_147, zk_148, zw_148, zk_149, zw_149, zk_150, zw_150, zk_151, zw_151, zk_152, zw_152, zq_138_1, zq_138_2, zq_138_3, zq_138_4, zq_138_16, zq_138_19, zq_138_20, zq_138_24, zq_138_25, zq_138_26, zq_138_27, zq_138_31, zq_138_32, zq_138_33, hn, hf]
          · have hn := fun d P => sp_eats1 (Lh := Lh) (J := J) (d := d) (x := nI 46) (P := P) b3
            have hf := fun d P => sp_fails1 (Lh := Lh) (J := J) (d := d) (x := nI 2) (P := P) b3
            refine ⟨I3, ⟨f13, .inr ⟨f, s, b3, fun i hi st p os ot cp hp _ => ?_⟩⟩, fun d P hd => ?_⟩
            · obtain ⟨j, rfl⟩ := zl_ok_s hi tk
              rw [zl_run_go (zl_s_45 (zPre_2 hp) c45 (by omega)), g j (zl_ok_nx hi tk (by omega)) 1 (45 :: p) (os + 1) ot cp (.inl rfl) (by show 0 < 5; decide)]
            · obtain ⟨e, rfl⟩ : ∃ e, d = e + 3 := ⟨d - 3, by omega⟩
              rw [to95 e P hd]
              simp (disch := omega) only [↓zs_166_95, ↓zs_166_96, ↓zs_166_98, ↓zs_166_101, ↓zs_166_104, ↓zs_166_105, ↓zs_166_106, ↓zs_166_109, ↓zs_166_112, ↓zs_166_113, ↓zs_166_114, ↓zs_166_117, zx_pu_s, zx_pu_n, zx_rv_s, zx_rv_n, true_and, and_true, true_or, or_true, zb_0, zb_1, zq_lcl, zq_lcg, zq_lce, eq_self, ite_true, ite_false, zk_138, zw_138, zk_139, zw_139, zk_140, zw_140, zk_141, zw_141, zk_142, zw_142, zk_143, zw_143, zk_144, zw_144, zk_145, zw_145, zk_146, zw_146, zk_147, zw_147, zk_148, zw_148, zk_149, zw_149, zk_150, zw_150, zk_151, zw_151, zk_152, zw_152, zq_138_1, zq_138_2, zq_138_3, zq_138_4, zq_138_16, zq_138_19, zq_138_20, zq_138_24, zq_138_25, zq_138_26, zq_138_27, zq_138_31, zq_138_32, zq_138_33, hn, hf]
      · rw [decide_eq_false c45] at h45
        have hf := fun d P => sp_fails (Lh := Lh) (J := J) (d := d) (f := 2) (P := P) z
        obtain ⟨q1, q2⟩ := zMf_b (f := 2) (k := T.2.2.1) (by decide) (by decide)
        refine ⟨zMb I (zMf 2 T.2.2.1) T.1, ⟨zMb_f _ _ _, .inr ⟨_, _, zMb_b q1 q2, fun i hi st p os ot cp hp _ => ?_⟩⟩, fun d P hd => ?_⟩
        · obtain ⟨j, rfl⟩ := zl_ok_s hi tk
          exact zl_run_bad (zl_s_no (zPre_2 hp) c27 cw c45 (by rcases hp with h | ⟨-, h⟩; exact .inl h; exact .inr h))
        · obtain ⟨e, rfl⟩ : ∃ e, d = e + 3 := ⟨d - 3, by omega⟩
          rw [to70]
          simp (disch := omega) only [↓zs_166_70, ↓zs_166_71, ↓zs_166_73, ↓zs_166_76, ↓zs_166_79, ↓zs_166_80, ↓zs_166_81, ↓zs_166_84, ↓zs_166_87, ↓zs_166_112, ↓zs_166_113, ↓zs_166_114, ↓zs_166_117, zx_pu_s, zx_pu_n, zx_rv_s, zx_rv_n, true_and, and_true, true_or, or_true, zb_0, zb_1, zq_lcl, zq_lcg, zq_lce, eq_self, ite_true, ite_false, zk_138, zw_138, zk_139, zw_139, zk_140, zw_140, zk_141, zw_141, zk_142, zw_142, zk_143, zw_143, zk_144, zw_144, zk_145, zw_145, zk_146, zw_146, zk_147, zw_147, zk_148, zw_148, zk_149, zw_149, zk_150, zw_150, zk_151, zw_151, zk_152, zw_152, zq_138_1, zq_138_2, zq_138_3, zq_138_4, zq_138_16, zq_138_19, zq_138_20, zq_138_24, zq_138_25, zq_138_26, zq_138_27, zq_138_31, zq_138_32, zq_138_33, h45, zB_0, hf]
end LA
