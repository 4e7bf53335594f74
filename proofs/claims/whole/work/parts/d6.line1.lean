/-! lines: numbers and words on both sides -/
theorem zf_tkc_kw : ∀ k : Fin 52, zl_kd k.1 = true → ((zf_tkc k.1 = nI 208 ↔ k.1 = 2) ∧ (zf_tkc k.1 = nI 209 ↔ k.1 = 3) ∧ (zf_tkc k.1 = nI 210 ↔ k.1 = 7) ∧ (zf_tkc k.1 = nI 211 ↔ k.1 = 8) ∧ (zf_tkc k.1 = nI 212 ↔ k.1 = 11)) ∧ (zf_tkc k.1 = nI 202 ↔ k.1 = 4) := by decide +kernel
/-- the class's reader stands at a TOKEN -/
def zPt (I : zx_MI) (b : Nat → Nat) (n : Nat) (T : zTk) : Prop := zTx I b n ∧ zx_SI I ∧ zTc I T ∧ zl_tk2 n T
def zf_nk (T : zTk) (lo hi : Int32) : Nat := if T.2.2.1 = 27 then (if nI T.2.2.2 < lo ∨ hi < nI T.2.2.2 then 3 else 0) else zl_mp T.2.2.1
theorem zf_nk_0 {T : zTk} {lo hi : Int32} (h : zf_nk T lo hi = 0) : T.2.2.1 = 27 ∧ ¬ nI T.2.2.2 < lo ∧ ¬ hi < nI T.2.2.2 := by
  unfold zf_nk at h
  by_cases c : T.2.2.1 = 27
  · rw [if_pos c] at h
    by_cases c2 : nI T.2.2.2 < lo ∨ hi < nI T.2.2.2
    · rw [if_pos c2] at h; exact absurd h (by decide)
    · exact ⟨c, fun e => c2 (.inl e), fun e => c2 (.inr e)⟩
  · rw [if_neg c] at h
    have := (zl_mp_b T.2.2.1).1
    omega
theorem zf_nk_b {T : zTk} {lo hi : Int32} (h : zf_nk T lo hi ≠ 0) : 1 ≤ zf_nk T lo hi ∧ zf_nk T lo hi < 5 := by
  unfold zf_nk at h ⊢
  by_cases c : T.2.2.1 = 27
  · rw [if_pos c] at h ⊢
    by_cases c2 : nI T.2.2.2 < lo ∨ hi < nI T.2.2.2
    · rw [if_pos c2]; exact ⟨by decide, by decide⟩
    · rw [if_neg c2] at h; exact absurd rfl h
  · rw [if_neg c]; exact zl_mp_b _
theorem zl_64 (x y : Int32) : (x.toInt64 < y.toInt64) = (x < y) := by rw [Int64.lt_iff_toInt_lt, Int32.lt_iff_toInt_lt, Int32.toInt_toInt64, Int32.toInt_toInt64]
section NB
variable {Lh n : Nat} {b : Nat → Nat} {I : zx_MI} {J : zx_MJ} {T : zTk}
theorem zPt_f {I2 : zx_MI} (z : zPt I b n T) (h : ∀ a j, (a = 85 ∨ (a = 84 ∧ j ≤ 5) ∨ 5001 ≤ a) → I2 a j = I a j) : zPt I2 b n T := by
  obtain ⟨z1, z2, ⟨t1, t2, t3, t4⟩, z4⟩ := z
  exact ⟨zTx_f z1 (fun j => h 85 j (by omega)) (h 84 1 (by omega)), fun a j ha => (h a j (by omega)).trans (z2 a j ha), ⟨(h 84 2 (by omega)).trans t1, (h 84 3 (by omega)).trans t2, (h 84 4 (by omega)).trans t3, fun q => (h 84 5 (by omega)).trans (t4 q)⟩, z4⟩
theorem sc_adv (z : zPt I b n T) : ∃ I2, (∀ a j, ¬ (a = 84 ∧ 2 ≤ j ∧ j ≤ 5) → I2 a j = I a j) ∧ zPt I2 b n (zf_nx b n T.2.1) ∧ ∀ d P, 5 ≤ d → zx_rn d 78 [.ref 84] (zx_LL Lh) I J P = P none (zx_LL Lh) I2 J := by
  obtain ⟨z1, z2, z3, z4⟩ := z
  obtain ⟨I2, f2, g2, h2⟩ := sc_advance (Lh := Lh) (J := J) z1 z2 z4.1.1 z3.1
  refine ⟨I2, f2, ⟨zTx_f z1 (fun j => f2 85 j (by omega)) (f2 84 1 (by omega)), fun a j ha => (f2 a j (by omega)).trans (z2 a j ha), g2, (zl_tk2_nx b z4.1.1).1⟩, fun d P hd => ?_⟩
  obtain ⟨e, rfl⟩ : ∃ e, d = e + 5 := ⟨d - 5, by omega⟩
  exact h2 e P
theorem sc_mis (z : zPt I b n T) : ∀ d P, 1 ≤ d → zx_rn d 83 [.ref 84] (zx_LL Lh) I J P = P (some (.int (nI 0))) (zx_LL Lh) (zFc9 I (zl_mp T.2.2.1) T.1) J := by
  intro d P hd
  obtain ⟨e, rfl⟩ : ∃ e, d = e + 1 := ⟨d - 1, by omega⟩
  exact sc_misplaced z.2.2.2.1.2.1 z.2.2.2.1.2.2.1 z.2.2.1.2.2.1 z.2.2.1.2.1
theorem sc_numY {lo hi : Int32} (z : zPt I b n T) (h : zf_nk T lo hi = 0) : ∃ I2, (∀ a j, ¬ ((a = 84 ∧ 2 ≤ j ∧ j ≤ 5) ∨ (a = 83 ∧ j = 4)) → I2 a j = I a j) ∧ I2 83 4 = nI T.2.2.2 ∧ zPt I2 b n (zf_nx b n T.2.1) ∧ ∀ d P, 6 ≤ d → zx_rn d 32 [.ref 83, .int lo, .int hi] (zx_LL Lh) I J P = P (some (.int (nI 1))) (zx_LL Lh) I2 J := by
  obtain ⟨c27, h1, h2⟩ := zf_nk_0 h
  have e5 := z.2.2.1.2.2.2 c27
  have e4 := z.2.2.1.2.2.1
  have t27 := eq_true ((zf_tkc_eq ⟨_, z.2.2.2.1.2.1⟩ z.2.2.2.1.2.2.1).1.1.mpr c27)
  dsimp only at t27
  have z1 : zPt (zx_u I 83 4 (nI T.2.2.2)) b n T := zPt_f z (fun a j w => zu_n (by omega))
  obtain ⟨I2, f2, z2, h3⟩ := sc_adv (Lh := Lh) (J := J) z1
  refine ⟨I2, fun a j w => by rw [f2 a j (by omega), zu_n (by omega)], by rw [f2 83 4 (by omega), zu_s], z2, fun d P hd => ?_⟩
  obtain ⟨e, rfl⟩ : ∃ e, d = e + 6 := ⟨d - 6, by omega⟩
  have h3' := fun P => h3 (e + 5) P (by omega)
  rw [ze_32]
  simp (disch := omega) only [↓zs_32_0, ↓zs_32_1, ↓zs_32_4, ↓zs_32_7, ↓zs_32_8, ↓zs_32_11, ↓zs_32_12, ↓zs_32_15, ↓zs_32_18, ↓zs_32_19, ↓zs_32_20, ↓zs_32_23, ↓zs_32_26, ↓zs_32_27, ↓zs_32_30, ↓zs_32_31, ↓zs_32_34, ↓zs_32_37, ↓zs_32_38, ↓zs_32_41, ↓zs_32_42, ↓zs_32_45, ↓zs_32_46, ↓zs_32_49, zx_pu_s, zx_pu_n, zx_rv_s, zx_rv_n, true_and, and_true, true_or, or_true, zb_0, zb_1, zq_lcl, zq_lcg, zq_lce, eq_self, ite_true, ite_false, zk_83, zw_83, zq_83_0, zq_83_1, zq_83_2, zq_83_3, zk_84, zw_84, zq_84_0, e4, e5, t27, h1, h2]
  simp (disch := omega) only [↓zs_32_50, ↓zs_32_51, ↓zs_32_52, ↓zs_32_55, ↓zs_32_58, ↓zs_32_61, ↓zs_32_62, ↓zs_32_65, ↓zs_32_68, ↓zs_32_69, zx_pu_s, zx_pu_n, zx_rv_s, zx_rv_n, true_and, and_true, true_or, or_true, zb_0, zb_1, zq_lcl, zq_lcg, zq_lce, eq_self, ite_true, ite_false, zk_83, zw_83, zq_83_0, zq_83_1, zq_83_2, zq_83_3, zk_84, zw_84, zq_84_0, e5, h3']
theorem sc_numN {lo hi : Int32} (z : zPt I b n T) (h : zf_nk T lo hi ≠ 0) : ∀ d P, 6 ≤ d → zx_rn d 32 [.ref 83, .int lo, .int hi] (zx_LL Lh) I J P = P (some (.int (nI 0))) (zx_LL Lh) (zFc9 I (zf_nk T lo hi) T.1) J := by
  intro d P hd
  obtain ⟨e, rfl⟩ : ∃ e, d = e + 6 := ⟨d - 6, by omega⟩
  have e4 := z.2.2.1.2.2.1
  have t27 := (zf_tkc_eq ⟨_, z.2.2.2.1.2.1⟩ z.2.2.2.1.2.2.1).1.1
  dsimp only at t27
  have hm := fun P => sc_mis (Lh := Lh) (J := J) z (e + 5) P (by omega)
  have hf := fun d f P => sc_flt (Lh := Lh) (J := J) (d := d) (f := f) (P := P) z.2.2.1.2.1
  rw [ze_32]
  unfold zf_nk at h ⊢
  by_cases c27 : T.2.2.1 = 27
  · have g := eq_true (t27.mpr c27)
    have e5 := z.2.2.1.2.2.2 c27
    rw [if_pos c27] at h ⊢
    by_cases c2 : nI T.2.2.2 < lo ∨ hi < nI T.2.2.2
    · rw [if_pos c2]
      by_cases c3 : nI T.2.2.2 < lo
      · simp (disch := omega) only [↓zs_32_0, ↓zs_32_1, ↓zs_32_4, ↓zs_32_7, ↓zs_32_8, ↓zs_32_11, ↓zs_32_12, ↓zs_32_15, ↓zs_32_18, ↓zs_32_19, ↓zs_32_20, ↓zs_32_23, ↓zs_32_26, ↓zs_32_27, ↓zs_32_30, ↓zs_32_31, ↓zs_32_34, ↓zs_32_37, ↓zs_32_38, ↓zs_32_41, ↓zs_32_42, ↓zs_32_45, ↓zs_32_46, ↓zs_32_49, zx_pu_s, zx_pu_n, zx_rv_s, zx_rv_n, true_and, and_true, true_or, or_true, zb_0, zb_1, zq_lcl, zq_lcg, zq_lce, eq_self, ite_true, ite_false, zk_83, zw_83, zq_83_0, zq_83_1, zq_83_2, zq_83_3, zk_84, zw_84, zq_84_0, e4, e5, g, c3, hf]
      · have c4 : hi < nI T.2.2.2 := c2.resolve_left c3
        simp (disch := omega) only [↓zs_32_0, ↓zs_32_1, ↓zs_32_4, ↓zs_32_7, ↓zs_32_8, ↓zs_32_11, ↓zs_32_12, ↓zs_32_15, ↓zs_32_18, ↓zs_32_19, ↓zs_32_20, ↓zs_32_23, ↓zs_32_26, ↓zs_32_27, ↓zs_32_30, ↓zs_32_31, ↓zs_32_34, ↓zs_32_37, ↓zs_32_38, ↓zs_32_41, ↓zs_32_42, ↓zs_32_45, ↓zs_32_46, ↓zs_32_49, zx_pu_s, zx_pu_n, zx_rv_s, zx_rv_n, true_and, and_true, true_or, or_true, zb_0, zb_1, zq_lcl, zq_lcg, zq_lce, eq_self, ite_true, ite_false, zk_83, zw_83, zq_83_0, zq_83_1, zq_83_2, zq_83_3, zk_84, zw_84, zq_84_0, e4, e5, g, c3, c4, hf]
    · rw [if_neg c2] at h; exact absurd rfl h
  · have g := eq_false (fun w => c27 (t27.mp w))
    rw [if_neg c27]
    simp (disch := omega) only [↓zs_32_0, ↓zs_32_1, ↓zs_32_4, ↓zs_32_7, ↓zs_32_8, ↓zs_32_11, ↓zs_32_12, ↓zs_32_15, ↓zs_32_18, ↓zs_32_19, ↓zs_32_20, ↓zs_32_23, ↓zs_32_26, ↓zs_32_27, ↓zs_32_30, ↓zs_32_31, ↓zs_32_34, ↓zs_32_37, ↓zs_32_38, ↓zs_32_41, ↓zs_32_42, ↓zs_32_45, ↓zs_32_46, ↓zs_32_49, zx_pu_s, zx_pu_n, zx_rv_s, zx_rv_n, true_and, and_true, true_or, or_true, zb_0, zb_1, zq_lcl, zq_lcg, zq_lce, eq_self, ite_true, ite_false, zk_83, zw_83, zq_83_0, zq_83_1, zq_83_2, zq_83_3, zk_84, zw_84, zq_84_0, e4, g, hm]
theorem sp_numY {lo hi : Int32} (z : zMd I b n T) (h : zf_nk T lo hi = 0) : ∃ I2, (∀ a j, ¬ (a = 138 ∧ (j = 6 ∨ j = 7 ∨ j = 9 ∨ j = 10)) → I2 a j = I a j) ∧ zMd I2 b n (zf_nx b n T.2.1) ∧ ∀ d P, 6 ≤ d → zx_rn d 162 [.ref 138, .int lo, .int hi] (zx_LL Lh) I J P = P (some (.int (nI T.2.2.2))) (zx_LL Lh) I2 J := by
  obtain ⟨c27, h1, h2⟩ := zf_nk_0 h
  obtain ⟨I2, f2, z2, h3⟩ := sp_nextM (Lh := Lh) (J := J) z
  have hi27 := fun d P => sp_is (Lh := Lh) (J := J) (d := d) (q := 27) (P := P) z (by decide)
  rw [decide_eq_true c27] at hi27
  have e10 := z.2.2.1.2.2.2 c27
  have e11 := z.2.2.2.2
  have hw := fun d L I J P => sp_within (d := d) (L := L) (I := I) (J := J) (P := P) (nI T.2.2.2).toInt64 lo.toInt64 hi.toInt64
  have ew : (!decide ((nI T.2.2.2).toInt64 < lo.toInt64) && !decide (hi.toInt64 < (nI T.2.2.2).toInt64)) = true := by
    rw [decide_eq_false (by rw [zl_64]; exact h1), decide_eq_false (by rw [zl_64]; exact h2)]; rfl
  rw [ew] at hw
  refine ⟨I2, f2, z2, fun d P hd => ?_⟩
  obtain ⟨e, rfl⟩ : ∃ e, d = e + 6 := ⟨d - 6, by omega⟩
  have h3' := fun P => h3 (e + 5) P (by omega)
  rw [ze_162]
  simp (disch := omega) only [↓zs_162_0, ↓zs_162_1, ↓zs_162_3, ↓zs_162_6, ↓zs_162_9, ↓zs_162_10, ↓zs_162_11, ↓zs_162_14, ↓zs_162_17, ↓zs_162_18, ↓zs_162_21, ↓zs_162_22, ↓zs_162_23, ↓zs_162_24, ↓zs_162_25, ↓zs_162_26, ↓zs_162_29, ↓zs_162_32, ↓zs_162_33, ↓zs_162_34, zx_pu_s, zx_pu_n, zx_rv_s, zx_rv_n, true_and, and_true, true_or, or_true, zb_0, zb_1, zq_lcl, zq_lcg, zq_lce, eq_self, ite_true, ite_false, zk_138, zw_138, zk_139, zw_139, zk_140, zw_140, zk_141, zw_141, zk_142, zw_142, zk_143, zw_143, zk_144, zw_144, zk_145, zw_145, zk_146, zw_146, zk_147, zw_147, zk_148, zw_148, zk_149, zw_149, zk_150, zw_150, zk_151, zw_151, zk_152, zw_152, zq_138_1, zq_138_2, zq_138_3, zq_138_4, zq_138_16, zq_138_19, zq_138_20, zq_138_24, zq_138_25, zq_138_26, zq_138_27, zq_138_31, zq_138_32, zq_138_33, hi27, zB_0, reduceCtorEq, e10, hw]
  simp (disch := omega) only [↓zs_162_37, ↓zs_162_38, ↓zs_162_41, ↓zs_162_42, ↓zs_162_43, ↓zs_162_46, ↓zs_162_49, ↓zs_162_50, ↓zs_162_53, ↓zs_162_54, zx_pu_s, zx_pu_n, zx_rv_s, zx_rv_n, true_and, and_true, true_or, or_true, zb_0, zb_1, zq_lcl, zq_lcg, zq_lce, eq_self, ite_true, ite_false, zk_138, zw_138, zk_139, zw_139, zk_140, zw_140, zk_141, zw_141, zk_142, zw_142, zk_143, zw_143, zk_144, zw_144, zk_145, zw_145, zk_146, zw_146, zk_147, zw_147, zk_148, zw_148, zk_149, zw_149, zk_150, zw_150, zk_151, zw_151, zk_152, zw_152, zq_138_1, zq_138_2, zq_138_3, zq_138_4, zq_138_16, zq_138_19, zq_138_20, zq_138_24, zq_138_25, zq_138_26, zq_138_27, zq_138_31, zq_138_32, zq_138_33, e10, e11, h3']
theorem sp_numN {lo hi : Int32} (z : zMd I b n T) (h : zf_nk T lo hi ≠ 0) : zBad (zMb I (zf_nk T lo hi) T.1) (zf_nk T lo hi) T.1 ∧ ∃ x, ∀ d P, 6 ≤ d → zx_rn d 162 [.ref 138, .int lo, .int hi] (zx_LL Lh) I J P = P (some (.int x)) (zx_LL Lh) (zMb I (zf_nk T lo hi) T.1) J := by
  obtain ⟨b1, b2⟩ := zf_nk_b h
  have hb : zBad (zMb I (zf_nk T lo hi) T.1) (zf_nk T lo hi) T.1 := zMb_b b1 b2
  refine ⟨hb, zMb I (zf_nk T lo hi) T.1 138 10, fun d P hd => ?_⟩
  obtain ⟨e, rfl⟩ : ∃ e, d = e + 6 := ⟨d - 6, by omega⟩
  have hi27 := fun d P => sp_is (Lh := Lh) (J := J) (d := d) (q := 27) (P := P) z (by decide)
  have hf := fun d f P => sp_fails (Lh := Lh) (J := J) (d := d) (f := f) (P := P) z
  have c : (nI (zf_nk T lo hi) = nI 0) = False := zq_ne (by omega) (by omega) (by omega)
  have e11 := hb.2.2.1
  have key : zf_nk T lo hi = (if T.2.2.1 = 27 then 3 else zMf 2 T.2.2.1) := by
    unfold zf_nk at h ⊢
    by_cases c27 : T.2.2.1 = 27
    · rw [if_pos c27] at h ⊢
      by_cases c2 : nI T.2.2.2 < lo ∨ hi < nI T.2.2.2
      · rw [if_pos c2, if_pos c27]
      · rw [if_neg c2] at h; exact absurd rfl h
    · rw [if_neg c27, if_neg c27]; rfl
  rw [ze_162]
  by_cases c27 : T.2.2.1 = 27
  · rw [decide_eq_true c27] at hi27
    rw [if_pos c27] at key
    have e10 := z.2.2.1.2.2.2 c27
    have hw := fun d L I J P => sp_within (d := d) (L := L) (I := I) (J := J) (P := P) (nI T.2.2.2).toInt64 lo.toInt64 hi.toInt64
    have c2 : nI T.2.2.2 < lo ∨ hi < nI T.2.2.2 := by
      unfold zf_nk at h
      rw [if_pos c27] at h
      by_cases q : nI T.2.2.2 < lo ∨ hi < nI T.2.2.2
      · exact q
      · rw [if_neg q] at h; exact absurd rfl h
    have ew : (!decide ((nI T.2.2.2).toInt64 < lo.toInt64) && !decide (hi.toInt64 < (nI T.2.2.2).toInt64)) = false := by
      rcases c2 with q | q
      · rw [decide_eq_true (show _ from by rw [zl_64]; exact q)]; rfl
      · rw [decide_eq_true (show hi.toInt64 < (nI T.2.2.2).toInt64 from by rw [zl_64]; exact q)]
        simp only [Bool.not_true, Bool.and_false]
    rw [ew] at hw
    have e3 : zMf 3 T.2.2.1 = 3 := if_neg (by omega)
    have hf3 := fun d P => hf d 3 P
    rw [e3] at hf3
    rw [key] at e11 ⊢
    have c3 : (nI 3 = nI 0) = False := eq_false (by decide)
    simp (disch := omega) only [↓zs_162_0, ↓zs_162_1, ↓zs_162_3, ↓zs_162_6, ↓zs_162_9, ↓zs_162_10, ↓zs_162_11, ↓zs_162_14, ↓zs_162_17, ↓zs_162_18, ↓zs_162_21, ↓zs_162_22, ↓zs_162_23, ↓zs_162_24, ↓zs_162_25, ↓zs_162_26, ↓zs_162_29, ↓zs_162_32, ↓zs_162_33, ↓zs_162_34, zx_pu_s, zx_pu_n, zx_rv_s, zx_rv_n, true_and, and_true, true_or, or_true, zb_0, zb_1, zq_lcl, zq_lcg, zq_lce, eq_self, ite_true, ite_false, zk_138, zw_138, zk_139, zw_139, zk_140, zw_140, zk_141, zw_141, zk_142, zw_142, zk_143, zw_143, zk_144, zw_144, zk_145, zw_145, zk_146, zw_146, zk_147, zw_147, zk_148, zw_148, zk_149, zw_149, zk_150, zw_150, zk_151, zw_151, zk_152, zw_152, zq_138_1, zq_138_2, zq_138_3, zq_138_4, zq_138_16, zq_138_19, zq_138_20, zq_138_24, zq_138_25, zq_138_26, zq_138_27, zq_138_31, zq_138_32, zq_138_33, hi27, zB_0, reduceCtorEq, e10, hw, hf3]
    simp (disch := omega) only [↓zs_162_37, ↓zs_162_38, ↓zs_162_41, ↓zs_162_42, ↓zs_162_43, ↓zs_162_46, ↓zs_162_49, ↓zs_162_50, ↓zs_162_53, ↓zs_162_54, zx_pu_s, zx_pu_n, zx_rv_s, zx_rv_n, true_and, and_true, true_or, or_true, zb_0, zb_1, zq_lcl, zq_lcg, zq_lce, eq_self, ite_true, ite_false, zk_138, zw_138, zk_139, zw_139, zk_140, zw_140, zk_141, zw_141, zk_142, zw_142, zk_143, zw_143, zk_144, zw_144, zk_145, zw_145, zk_146, zw_146, zk_147, zw_147, zk_148, zw_148, zk_149, zw_149, zk_150, zw_150, zk_151, zw_151, zk_152, zw_152, zq_138_1, zq_138_2, zq_138_3, zq_138_4, zq_138_16, zq_138_19, zq_138_20, zq_138_24, zq_138_25, zq_138_26, zq_138_27, zq_138_31, zq_138_32, zq_138_33, e11, c3]
  · rw [decide_eq_false c27] at hi27
    rw [if_neg c27] at key
    rw [key] at e11 c ⊢
    simp (disch := omega) only [↓zs_162_0, ↓zs_162_1, ↓zs_162_3, ↓zs_162_6, ↓zs_162_9, ↓zs_162_10, ↓zs_162_11, ↓zs_162_14, ↓zs_162_17, ↓zs_162_18, ↓zs_162_21, ↓zs_162_22, ↓zs_162_23, ↓zs_162_24, ↓zs_162_25, ↓zs_162_26, ↓zs_162_29, ↓zs_162_32, ↓zs_162_33, ↓zs_162_34, zx_pu_s, zx_pu_n, zx_rv_s, zx_rv_n, true_and, and_true, true_or, or_true, zb_0, zb_1, zq_lcl, zq_lcg, zq_lce, eq_self, ite_true, ite_false, zk_138, zw_138, zk_139, zw_139, zk_140, zw_140, zk_141, zw_141, zk_142, zw_142, zk_143, zw_143, zk_144, zw_144, zk_145, zw_145, zk_146, zw_146, zk_147, zw_147, zk_148, zw_148, zk_149, zw_149, zk_150, zw_150, zk_151, zw_151, zk_152, zw_152, zq_138_1, zq_138_2, zq_138_3, zq_138_4, zq_138_16, zq_138_19, zq_138_20, zq_138_24, zq_138_25, zq_138_26, zq_138_27, zq_138_31, zq_138_32, zq_138_33, hi27, zB_0, hf]
    simp (disch := omega) only [↓zs_162_37, ↓zs_162_38, ↓zs_162_41, ↓zs_162_42, ↓zs_162_43, ↓zs_162_46, ↓zs_162_49, ↓zs_162_50, ↓zs_162_53, ↓zs_162_54, zx_pu_s, zx_pu_n, zx_rv_s, zx_rv_n, true_and, and_true, true_or, or_true, zb_0, zb_1, zq_lcl, zq_lcg, zq_lce, eq_self, ite_true, ite_false, zk_138, zw_138, zk_139, zw_139, zk_140, zw_140, zk_141, zw_141, zk_142, zw_142, zk_143, zw_143, zk_144, zw_144, zk_145, zw_145, zk_146, zw_146, zk_147, zw_147, zk_148, zw_148, zk_149, zw_149, zk_150, zw_150, zk_151, zw_151, zk_152, zw_152, zq_138_1, zq_138_2, zq_138_3, zq_138_4, zq_138_16, zq_138_19, zq_138_20, zq_138_24, zq_138_25, zq_138_26, zq_138_27, zq_138_31, zq_138_32, zq_138_33, e11, c]
/-- where something is wrong already -/
theorem sp_num1 {f s : Nat} {lo hi : Int32} (z : zBad I f s) : ∀ d P, zx_rn (d + 6) 162 [.ref 138, .int lo, .int hi] (zx_LL Lh) I J P = P (some (.int (I 138 10))) (zx_LL Lh) I J := by
  intro d P
  have hn := fun d x P => sp_is1 (Lh := Lh) (J := J) (d := d) (x := x) (P := P) z
  have hf := fun d x P => sp_fails1 (Lh := Lh) (J := J) (d := d) (x := x) (P := P) z
  obtain ⟨z1, z2, z3, z4⟩ := z
  have c : (nI f = nI 0) = False := zq_ne (by omega) (by omega) (by omega)
  rw [ze_162]
  simp (disch := omega) only [↓zs_162_0, ↓zs_162_1, ↓zs_162_3, ↓zs_162_6, ↓zs_162_9, ↓zs_162_10, ↓zs_162_11, ↓zs_162_14, ↓zs_162_17, ↓zs_162_18, ↓zs_162_21, ↓zs_162_22, ↓zs_162_23, ↓zs_162_24, ↓zs_162_25, ↓zs_162_26, ↓zs_162_29, ↓zs_162_32, ↓zs_162_33, ↓zs_162_34, ↓zs_162_37, ↓zs_162_38, ↓zs_162_41, ↓zs_162_42, ↓zs_162_43, ↓zs_162_46, ↓zs_162_49, ↓zs_162_50, ↓zs_162_53, ↓zs_162_54, zx_pu_s, zx_pu_n, zx_rv_s, zx_rv_n, true_and, and_true, true_or, or_true, zb_0, zb_1, zq_lcl, zq_lcg, zq_lce, eq_self, ite_true, ite_false, zk_138, zw_138, zk_139, zw_139, zk_140, zw_140, zk_141, zw_141, zk_142, zw_142, zk_143, zw_143, zk_144, zw_144, zk_145, zw_145, zk_146, zw_146, zk_147, zw_147, zk_148, zw_148, zk_149, zw_149, zk_150, zw_150, zk_151, zw_151, zk_152, zw_152, zq_138_1, zq_138_2, zq_138_3, zq_138_4, zq_138_16, zq_138_19, zq_138_20, zq_138_24, zq_138_25, zq_138_26, zq_138_27, zq_138_31, zq_138_32, zq_138_33, hn, hf, z3, c]
theorem sp_spot1 {f s : Nat} (z : zBad I f s) : ∃ x, ∀ d P, zx_rn (d + 7) 174 [.ref 138] (zx_LL Lh) I J P = P (some (.int x)) (zx_LL Lh) I J := by
  have hn := fun d lo hi P => sp_num1 (Lh := Lh) (J := J) (lo := lo) (hi := hi) z d P
  obtain ⟨z1, z2, z3, z4⟩ := z
  have c : (nI f = nI 0) = False := zq_ne (by omega) (by omega) (by omega)
  refine ⟨I 142 1 * I 138 10 + I 138 10, fun d P => ?_⟩
  rw [ze_174]
  simp (disch := omega) only [↓zs_174_0, ↓zs_174_1, ↓zs_174_2, ↓zs_174_3, ↓zs_174_6, ↓zs_174_7, ↓zs_174_8, ↓zs_174_9, ↓zs_174_10, ↓zs_174_13, ↓zs_174_14, ↓zs_174_15, ↓zs_174_18, ↓zs_174_19, ↓zs_174_20, ↓zs_174_21, ↓zs_174_24, ↓zs_174_25, ↓zs_174_26, ↓zs_174_27, ↓zs_174_28, ↓zs_174_29, ↓zs_174_32, ↓zs_174_94, ↓zs_174_95, ↓zs_174_98, ↓zs_174_99, ↓zs_174_100, ↓zs_174_101, ↓zs_174_102, ↓zs_174_103, ↓zs_174_106, ↓zs_174_107, ↓zs_174_108, ↓zs_174_109, ↓zs_174_110, ↓zs_174_113, ↓zs_174_114, ↓zs_174_115, ↓zs_174_116, zx_pu_s, zx_pu_n, zx_rv_s, zx_rv_n, true_and, and_true, true_or, or_true, zb_0, zb_1, zq_lcl, zq_lcg, zq_lce, eq_self, ite_true, ite_false, zk_138, zw_138, zk_139, zw_139, zk_140, zw_140, zk_141, zw_141, zk_142, zw_142, zk_143, zw_143, zk_144, zw_144, zk_145, zw_145, zk_146, zw_146, zk_147, zw_147, zk_148, zw_148, zk_149, zw_149, zk_150, zw_150, zk_151, zw_151, zk_152, zw_152, zq_138_1, zq_138_2, zq_138_3, zq_138_4, zq_138_16, zq_138_19, zq_138_20, zq_138_24, zq_138_25, zq_138_26, zq_138_27, zq_138_31, zq_138_32, zq_138_33, zin_nI, nI_clamp, hn, z3, c]
theorem sc_expY {q : Int32} (z : zPt I b n T) (h : zf_tkc T.2.2.1 = q) : ∃ I2, (∀ a j, ¬ (a = 84 ∧ 2 ≤ j ∧ j ≤ 5) → I2 a j = I a j) ∧ zPt I2 b n (zf_nx b n T.2.1) ∧ ∀ d P, 6 ≤ d → zx_rn d 84 [.ref 84, .int q] (zx_LL Lh) I J P = P (some (.int (nI 1))) (zx_LL Lh) I2 J := by
  obtain ⟨I2, f2, z2, h2⟩ := sc_adv (Lh := Lh) (J := J) z
  have e4 := z.2.2.1.2.2.1
  refine ⟨I2, f2, z2, fun d P hd => ?_⟩
  obtain ⟨e, rfl⟩ : ∃ e, d = e + 6 := ⟨d - 6, by omega⟩
  have h2' := fun P => h2 (e + 5) P (by omega)
  have g := eq_true h
  rw [ze_84]
  simp (disch := omega) only [↓zs_84_0, ↓zs_84_1, ↓zs_84_4, ↓zs_84_5, ↓zs_84_8, ↓zs_84_9, ↓zs_84_12, ↓zs_84_13, ↓zs_84_14, ↓zs_84_17, ↓zs_84_18, zx_pu_s, zx_pu_n, zx_rv_s, zx_rv_n, true_and, and_true, true_or, or_true, zb_0, zb_1, zq_lcl, zq_lcg, zq_lce, eq_self, ite_true, ite_false, zk_84, zw_84, zq_84_0, e4, g, h2']
theorem sc_expN {q : Int32} (z : zPt I b n T) (h : ¬ zf_tkc T.2.2.1 = q) : ∀ d P, 6 ≤ d → zx_rn d 84 [.ref 84, .int q] (zx_LL Lh) I J P = P (some (.int (nI 0))) (zx_LL Lh) (zFc9 I (zl_mp T.2.2.1) T.1) J := by
  intro d P hd
  obtain ⟨e, rfl⟩ : ∃ e, d = e + 6 := ⟨d - 6, by omega⟩
  have hm := fun P => sc_mis (Lh := Lh) (J := J) z (e + 5) P (by omega)
  have e4 := z.2.2.1.2.2.1
  have g := eq_false h
  rw [ze_84]
  simp (disch := omega) only [↓zs_84_0, ↓zs_84_1, ↓zs_84_4, ↓zs_84_5, ↓zs_84_8, ↓zs_84_9, ↓zs_84_12, ↓zs_84_13, ↓zs_84_14, ↓zs_84_17, ↓zs_84_18, zx_pu_s, zx_pu_n, zx_rv_s, zx_rv_n, true_and, and_true, true_or, or_true, zb_0, zb_1, zq_lcl, zq_lcg, zq_lce, eq_self, ite_true, ite_false, zk_84, zw_84, zq_84_0, e4, g, hm]
end NB
