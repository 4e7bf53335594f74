/-! month, the calls -/
def zf_mon (N : Nat) : Nat → Int32 → (Nat → Int32) → Nat → (Nat → Int32) × Nat
  | 0, _, B, c => (B, c)
  | mm + 1, r, B, c => if zf_why B (zf_dd N r).1.toInt64 = 0 then zf_mon N mm (zf_dd N r).2 (zf_do B (zf_dd N r).1.toInt64) (c + 1) else zf_mon N mm (zf_dd N r).2 B c
theorem zf_mon_V (N : Nat) : ∀ (mm : Nat) (r : Int32) (B : Nat → Int32) (c m : Nat), zV B m → m + mm < 2 ^ 30 → zV (zf_mon N mm r B c).1 (m + mm) ∧ zSm B (zf_mon N mm r B c).1 ∧ c ≤ (zf_mon N mm r B c).2 ∧ (zf_mon N mm r B c).2 ≤ c + mm ∧ ((zf_mon N mm r B c).2 = c → (zf_mon N mm r B c).1 = B) := by
  intro mm
  induction mm with
  | zero =>
    intro r B c m v h
    exact ⟨v, zSm_r B, Nat.le_refl _, Nat.le_refl _, fun _ => rfl⟩
  | succ mm ih =>
    intro r B c m v h
    unfold zf_mon
    by_cases h0 : zf_why B (zf_dd N r).1.toInt64 = 0
    · rw [if_pos h0]
      obtain ⟨v1, s1⟩ := zf_do_V v (u := (zf_dd N r).1.toInt64) (by omega) h0
      obtain ⟨a1, a2, a3, a4, a6⟩ := ih (zf_dd N r).2 _ (c + 1) (m + 1) v1 (by omega)
      refine ⟨by rw [show m + (mm + 1) = m + 1 + mm by omega]; exact a1, zSm_t s1 a2, by omega, by omega, fun e => ?_⟩
      omega
    · rw [if_neg h0]
      obtain ⟨a1, a2, a3, a4, a6⟩ := ih (zf_dd N r).2 B c m v (by omega)
      exact ⟨zV_mono a1 (by omega), a2, a3, by omega, a6⟩
section MN
variable {Lh m : Nat} {I : zx_MI} {J : zx_MJ}
theorem sc_monthL {k N : Nat} {x : Int32} {I1 : zx_MI} (h0 : 0 < N) (hN : N ≤ 8) (hk : k ≤ 60) (hm : m + 60 < 2 ^ 30) (sq : zR_sq I1 J 1 (I 139)) (v0 : zV (I 139) m) : ∀ mm i r B c I2, i + mm = k → c ≤ i → zFc 11 I1 I2 → zR_st I2 11 B → zV B (m + i) → zSm (I 139) B → ∃ I3, zFc 11 I1 I3 ∧ zR_st I3 11 (zf_mon N mm r B c).1 ∧ ((zf_mon N mm r B c).2 = c → I3 = I2) ∧ ∀ d P v7 v8 v9 v10, ∃ w5 w7 w8 w9 w10, zx_wp (d + 30) 118 50 [.ref 0, .int x, .int (nI k), .int (nI N), .int (nI c), .int r, .int (nI i), v7, v8, v9, v10] [] (zx_LL Lh) I2 J P = zx_wp (d + 30) 118 190 [.ref 0, .int x, .int (nI k), .int (nI N), .int (nI (zf_mon N mm r B c).2), w5, .int (nI k), w7, w8, w9, w10] [] (zx_LL Lh) I3 J P := by
  intro mm
  induction mm with
  | zero =>
    intro i r B c I2 hi hc f rl v s
    obtain rfl : i = k := by omega
    refine ⟨I2, f, rl, fun _ => rfl, fun d P v7 v8 v9 v10 => ⟨.int r, v7, v8, v9, v10, ?_⟩⟩
    rw [zs_118_50]
    simp (disch := omega) only [↓zs_118_52, ↓zs_118_53, zx_pu_s, zx_pu_n, zx_rv_s, zx_rv_n, true_and, and_true, true_or, or_true, zb_0, zb_1, zq_lcl, zq_lcg, zq_lce, eq_self, ite_true, ite_false, zk_0, zw_0, zk_1, zw_1, zq_0_0, zq_0_1, zq_0_2, zq_0_3, zq_0_4, zq_0_5, zq_0_6, zq_0_7, zq_0_8, zq_0_9, zq_0_10, zq_0_11, zq_1_0, zq_1_1, zq_1_2, zq_1_3, zq_1_4, zq_1_5, zn_10, zn_40, zn_040, zn_340, nI_add, zin_nI, nI_clamp, nI_ltI, nI_eq, pk_mul, nI_1, Nat.lt_irrefl]
    rfl
  | succ mm ih =>
    intro i r B c I2 hi hc f rl v s
    have hlt : i < k := by omega
    have sq2 : zR_sq I2 J 1 B := zSm_sq s v0.2.2.2.2.1.2.1 v0.2.2.2.1.2.1 (zFc_sq zx_st11 f sq)
    have hw := fun d P => sc_whyNot (d := d) (Lh := Lh) (P := P) (zf_dd N r).1.toInt64 zx_st11 v sq2 rl
    unfold zf_mon
    by_cases h0' : zf_why B (zf_dd N r).1.toInt64 = 0
    · rw [if_pos h0']
      obtain ⟨v1, s1⟩ := zf_do_V v (u := (zf_dd N r).1.toInt64) (by omega) h0'
      obtain ⟨I3, f3, r3, h3⟩ := sc_doDeed (Lh := Lh) (zf_dd N r).1.toInt64 zx_st11 v (by omega) sq2 rl h0'
      obtain ⟨-, -, t1, -⟩ := zf_mon_V N mm (zf_dd N r).2 (zf_do B (zf_dd N r).1.toInt64) (c + 1) _ v1 (by omega)
      obtain ⟨I4, f4, r4, -, h4⟩ := ih (i + 1) (zf_dd N r).2 _ (c + 1) I3 (by omega) (by omega) (zFc_t f f3) r3 v1 (zSm_t s s1)
      refine ⟨I4, f4, r4, fun w => absurd w (by omega), fun d P v7 v8 v9 v10 => ?_⟩
      obtain ⟨w7, w9, w10, h5⟩ := sc_dd (Lh := Lh) (I := I2) (J := J) (r := r) h0 hN (a := x) (b := nI k) (c4 := nI c) (c6 := nI i) (v7 := v7) (v8 := v8) (v9 := v9) (v10 := v10) (d + 29) P
      obtain ⟨y5, y7, y8, y9, y10, h6⟩ := h4 d P w7 (.long (zf_dd N r).1.toInt64) w9 w10
      refine ⟨y5, y7, y8, y9, y10, ?_⟩
      rw [← h6, zs_118_50]
      simp (disch := omega) only [↓zs_118_52, ↓zs_118_53, zx_pu_s, zx_pu_n, zx_rv_s, zx_rv_n, true_and, and_true, true_or, or_true, zb_0, zb_1, zq_lcl, zq_lcg, zq_lce, eq_self, ite_true, ite_false, zk_0, zw_0, zk_1, zw_1, zq_0_0, zq_0_1, zq_0_2, zq_0_3, zq_0_4, zq_0_5, zq_0_6, zq_0_7, zq_0_8, zq_0_9, zq_0_10, zq_0_11, zq_1_0, zq_1_1, zq_1_2, zq_1_3, zq_1_4, zq_1_5, zn_10, zn_40, zn_040, zn_340, nI_add, zin_nI, nI_clamp, nI_ltI, nI_eq, pk_mul, nI_1, Nat.lt_irrefl, hlt]
      rw [h5]
      simp (disch := omega) only [↓zs_118_151, ↓zs_118_152, ↓zs_118_155, ↓zs_118_156, ↓zs_118_159, ↓zs_118_161, ↓zs_118_164, ↓zs_118_167, ↓zs_118_168, ↓zs_118_171, ↓zs_118_172, ↓zs_118_175, ↓zs_118_177, ↓zs_118_180, ↓zs_118_181, ↓zs_118_184, ↓zs_118_187, zx_pu_s, zx_pu_n, zx_rv_s, zx_rv_n, true_and, and_true, true_or, or_true, zb_0, zb_1, zq_lcl, zq_lcg, zq_lce, eq_self, ite_true, ite_false, zk_0, zw_0, zk_1, zw_1, zq_0_0, zq_0_1, zq_0_2, zq_0_3, zq_0_4, zq_0_5, zq_0_6, zq_0_7, zq_0_8, zq_0_9, zq_0_10, zq_0_11, zq_1_0, zq_1_1, zq_1_2, zq_1_3, zq_1_4, zq_1_5, zk_11, zw_11, zq_11_0, zq_11_1, zq_11_2, zn_10, zn_40, zn_040, zn_340, nI_add, zin_nI, nI_clamp, nI_ltI, nI_eq, pk_mul, nI_1, Nat.lt_irrefl, hw, h0', h3]
    · rw [if_neg h0']
      have hn : (nI (zf_why B (zf_dd N r).1.toInt64) = nI 0) = False := zq_ne h0' (by have := zf_why_le B (zf_dd N r).1.toInt64; omega) (by omega)
      obtain ⟨I4, f4, r4, z4, h4⟩ := ih (i + 1) (zf_dd N r).2 B c I2 (by omega) (by omega) f rl (zV_mono v (by omega)) s
      refine ⟨I4, f4, r4, z4, fun d P v7 v8 v9 v10 => ?_⟩
      obtain ⟨w7, w9, w10, h5⟩ := sc_dd (Lh := Lh) (I := I2) (J := J) (r := r) h0 hN (a := x) (b := nI k) (c4 := nI c) (c6 := nI i) (v7 := v7) (v8 := v8) (v9 := v9) (v10 := v10) (d + 29) P
      obtain ⟨y5, y7, y8, y9, y10, h6⟩ := h4 d P w7 (.long (zf_dd N r).1.toInt64) w9 w10
      refine ⟨y5, y7, y8, y9, y10, ?_⟩
      rw [← h6, zs_118_50]
      simp (disch := omega) only [↓zs_118_52, ↓zs_118_53, zx_pu_s, zx_pu_n, zx_rv_s, zx_rv_n, true_and, and_true, true_or, or_true, zb_0, zb_1, zq_lcl, zq_lcg, zq_lce, eq_self, ite_true, ite_false, zk_0, zw_0, zk_1, zw_1, zq_0_0, zq_0_1, zq_0_2, zq_0_3, zq_0_4, zq_0_5, zq_0_6, zq_0_7, zq_0_8, zq_0_9, zq_0_10, zq_0_11, zq_1_0, zq_1_1, zq_1_2, zq_1_3, zq_1_4, zq_1_5, zn_10, zn_40, zn_040, zn_340, nI_add, zin_nI, nI_clamp, nI_ltI, nI_eq, pk_mul, nI_1, Nat.lt_irrefl, hlt]
      rw [h5]
      simp (disch := omega) only [↓zs_118_151, ↓zs_118_152, ↓zs_118_155, ↓zs_118_156, ↓zs_118_159, ↓zs_118_161, ↓zs_118_164, ↓zs_118_167, ↓zs_118_168, ↓zs_118_171, ↓zs_118_172, ↓zs_118_175, ↓zs_118_177, ↓zs_118_180, ↓zs_118_181, ↓zs_118_184, ↓zs_118_187, zx_pu_s, zx_pu_n, zx_rv_s, zx_rv_n, true_and, and_true, true_or, or_true, zb_0, zb_1, zq_lcl, zq_lcg, zq_lce, eq_self, ite_true, ite_false, zk_0, zw_0, zk_1, zw_1, zq_0_0, zq_0_1, zq_0_2, zq_0_3, zq_0_4, zq_0_5, zq_0_6, zq_0_7, zq_0_8, zq_0_9, zq_0_10, zq_0_11, zq_1_0, zq_1_1, zq_1_2, zq_1_3, zq_1_4, zq_1_5, zk_11, zw_11, zq_11_0, zq_11_1, zq_11_2, zn_10, zn_40, zn_040, zn_340, nI_add, zin_nI, nI_clamp, nI_ltI, nI_eq, pk_mul, nI_1, Nat.lt_irrefl, hw, hn]
theorem sp_monthL {k N : Nat} {x : Int32} {I1 : zx_MI} (h0 : 0 < N) (hN : N ≤ 8) (hk : k ≤ 60) (hm : m + 60 < 2 ^ 30) (e3 : I 139 3 = nI N) : ∀ mm i r B c I2, i + mm = k → c ≤ i → zFt I1 I2 → I2 139 = B → I2 138 23 = r → zV B (m + i) → zSm (I 139) B → ∃ I3, zFt I1 I3 ∧ I3 139 = (zf_mon N mm r B c).1 ∧ ∀ d P v5, ∃ w5, zx_wp (d + 30) 231 46 [.ref 138, .int x, .int (nI k), .int (nI c), .int (nI i), v5] [] (zx_LL Lh) I2 J P = zx_wp (d + 30) 231 87 [.ref 138, .int x, .int (nI k), .int (nI (zf_mon N mm r B c).2), .int (nI k), w5] [] (zx_LL Lh) I3 J P := by
  intro mm
  induction mm with
  | zero =>
    intro i r B c I2 hi hc f eB er v s
    obtain rfl : i = k := by omega
    refine ⟨I2, f, eB, fun d P v5 => ⟨v5, ?_⟩⟩
    rw [zs_231_46]
    simp (disch := omega) only [↓zs_231_48, ↓zs_231_49, ↓zs_231_52, ↓zs_231_53, ↓zs_231_56, ↓zs_231_58, ↓zs_231_59, ↓zs_231_61, ↓zs_231_62, ↓zs_231_65, ↓zs_231_68, ↓zs_231_71, ↓zs_231_72, ↓zs_231_74, ↓zs_231_77, ↓zs_231_78, ↓zs_231_81, ↓zs_231_84, zx_pu_s, zx_pu_n, zx_rv_s, zx_rv_n, true_and, and_true, true_or, or_true, zb_0, zb_1, zq_lcl, zq_lcg, zq_lce, eq_self, ite_true, ite_false, zk_138, zw_138, zk_139, zw_139, zk_140, zw_140, zk_141, zw_141, zk_142, zw_142, zk_143, zw_143, zk_144, zw_144, zk_145, zw_145, zk_146, zw_146, zk_147, zw_147, zk_148, zw_148, zk_149, zw_149, zk_150, zw_150, zk_151, zw_151, zk_152, zw_152, zq_138_1, zq_138_2, zq_138_3, zq_138_4, zq_138_16, zq_138_19, zq_138_20, zq_138_24, zq_138_25, zq_138_26, zq_138_27, zq_138_31, zq_138_32, zq_138_33, zn_10, zn_40, zn_040, zn_340, nI_add, zin_nI, nI_clamp, nI_ltI, nI_eq, pk_mul, nI_1, Nat.lt_irrefl]
    rfl
  | succ mm ih =>
    intro i r B c I2 hi hc f eB er v s
    have hlt : i < k := by omega
    have eN : I2 139 3 = nI N := by rw [eB, s 3 (by omega)]; exact e3
    have hd := sp_drawn (Lh := Lh) (J := J) h0 hN eN er
    obtain ⟨I5, hI5⟩ : ∃ I5, I5 = zx_u I2 138 23 (zf_dd N r).2 := ⟨_, rfl⟩
    rw [← hI5] at hd
    have e5 : I5 139 = B := by rw [hI5, zu_139, eB]
    have r5 : I5 138 23 = (zf_dd N r).2 := by rw [hI5]; exact zu_s _ _ _ _
    have f5 : zFt I1 I5 := by rw [hI5]; exact zFt_t f (zFt_u (by decide))
    have hw := fun d P => sp_whyNot (d := d) (Lh := Lh) (I := I5) (J := J) (P := P) (zf_dd N r).1.toInt64 (m := m + i) (by rw [e5]; exact v)
    rw [e5] at hw
    unfold zf_mon
    by_cases h0' : zf_why B (zf_dd N r).1.toInt64 = 0
    · rw [if_pos h0']
      obtain ⟨I3, f3, r3, h3⟩ := sp_does (Lh := Lh) (I := I5) (J := J) (zf_dd N r).1.toInt64 (by rw [e5]; exact v) (by omega) (by rw [e5]; exact h0')
      rw [e5] at r3 h3
      rw [Int32.toInt32_toInt64] at h3
      obtain ⟨v1, s1⟩ := zf_do_V v (u := (zf_dd N r).1.toInt64) (by omega) h0'
      obtain ⟨I4, f4, r4, h4⟩ := ih (i + 1) (zf_dd N r).2 _ (c + 1) I3 (by omega) (by omega) (zFt_t f5 (zFm_ft f3)) r3 ((f3 138 23 (by decide)).trans r5) v1 (zSm_t s s1)
      refine ⟨I4, f4, r4, fun d P v5 => ?_⟩
      obtain ⟨w5, h6⟩ := h4 d P (.int (zf_dd N r).1)
      refine ⟨w5, ?_⟩
      rw [← h6, zs_231_46]
      simp (disch := omega) only [↓zs_231_48, ↓zs_231_49, ↓zs_231_52, ↓zs_231_53, ↓zs_231_56, ↓zs_231_58, ↓zs_231_59, ↓zs_231_61, ↓zs_231_62, ↓zs_231_65, ↓zs_231_68, ↓zs_231_71, ↓zs_231_72, ↓zs_231_74, ↓zs_231_77, ↓zs_231_78, ↓zs_231_81, ↓zs_231_84, zx_pu_s, zx_pu_n, zx_rv_s, zx_rv_n, true_and, and_true, true_or, or_true, zb_0, zb_1, zq_lcl, zq_lcg, zq_lce, eq_self, ite_true, ite_false, zk_138, zw_138, zk_139, zw_139, zk_140, zw_140, zk_141, zw_141, zk_142, zw_142, zk_143, zw_143, zk_144, zw_144, zk_145, zw_145, zk_146, zw_146, zk_147, zw_147, zk_148, zw_148, zk_149, zw_149, zk_150, zw_150, zk_151, zw_151, zk_152, zw_152, zq_138_1, zq_138_2, zq_138_3, zq_138_4, zq_138_16, zq_138_19, zq_138_20, zq_138_24, zq_138_25, zq_138_26, zq_138_27, zq_138_31, zq_138_32, zq_138_33, zn_10, zn_40, zn_040, zn_340, nI_add, zin_nI, nI_clamp, nI_ltI, nI_eq, pk_mul, nI_1, Nat.lt_irrefl, hlt, hd, hw, h0', h3]
    · rw [if_neg h0']
      have hn : (nI (zf_why B (zf_dd N r).1.toInt64) = nI 0) = False := zq_ne h0' (by have := zf_why_le B (zf_dd N r).1.toInt64; omega) (by omega)
      obtain ⟨I4, f4, r4, h4⟩ := ih (i + 1) (zf_dd N r).2 B c I5 (by omega) (by omega) f5 e5 r5 (zV_mono v (by omega)) s
      refine ⟨I4, f4, r4, fun d P v5 => ?_⟩
      obtain ⟨w5, h6⟩ := h4 d P (.int (zf_dd N r).1)
      refine ⟨w5, ?_⟩
      rw [← h6, zs_231_46]
      simp (disch := omega) only [↓zs_231_48, ↓zs_231_49, ↓zs_231_52, ↓zs_231_53, ↓zs_231_56, ↓zs_231_58, ↓zs_231_59, ↓zs_231_61, ↓zs_231_62, ↓zs_231_65, ↓zs_231_68, ↓zs_231_71, ↓zs_231_72, ↓zs_231_74, ↓zs_231_77, ↓zs_231_78, ↓zs_231_81, ↓zs_231_84, zx_pu_s, zx_pu_n, zx_rv_s, zx_rv_n, true_and, and_true, true_or, or_true, zb_0, zb_1, zq_lcl, zq_lcg, zq_lce, eq_self, ite_true, ite_false, zk_138, zw_138, zk_139, zw_139, zk_140, zw_140, zk_141, zw_141, zk_142, zw_142, zk_143, zw_143, zk_144, zw_144, zk_145, zw_145, zk_146, zw_146, zk_147, zw_147, zk_148, zw_148, zk_149, zw_149, zk_150, zw_150, zk_151, zw_151, zk_152, zw_152, zq_138_1, zq_138_2, zq_138_3, zq_138_4, zq_138_16, zq_138_19, zq_138_20, zq_138_24, zq_138_25, zq_138_26, zq_138_27, zq_138_31, zq_138_32, zq_138_33, zn_10, zn_40, zn_040, zn_340, nI_add, zin_nI, nI_clamp, nI_ltI, nI_eq, pk_mul, nI_1, Nat.lt_irrefl, hlt, hd, hw, hn]
end MN
