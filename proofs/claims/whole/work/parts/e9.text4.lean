/-! a text begins and ends on both sides -/
section E9
variable {Lh n : Nat} {b : Nat → Nat} {I : zx_MI} {J : zx_MJ}
theorem sp_start {p : Nat} (si : zx_SI I) (hx : n ≤ p) (hp : p ≤ 900) (h5 : I 138 5 = nI p) (hb : ∀ i, i < n → b i < 256 ∧ I 141 i = nI (b i)) : ∃ I2, (∀ a j, ¬ (a = 142 ∨ (a = 138 ∧ (j = 0 ∨ (5 ≤ j ∧ j ≤ 11)))) → I2 a j = I a j) ∧ I2 138 5 = nI 0 ∧ zMd I2 b n (zf_nx b n 0) ∧ (∀ j, j < 1286 → I2 142 j = zf_f0 j) ∧ ∀ d P, 6 ≤ d → zx_rn d 181 [.ref 138, .int (nI n)] (zx_LL Lh) I J P = zx_wp d 181 53 [.ref 138, .int (nI n), zx_u0] [] (zx_LL Lh) I2 J P := by
  obtain ⟨I1, hI1⟩ : ∃ I1, I1 = zx_u (zx_u (zx_u (zx_u (zx_u I 138 0 (nI 0)) 138 8 (nI n)) 138 5 (nI 0)) 138 7 (nI 0)) 138 11 (nI 0) := ⟨_, rfl⟩
  have f1 : ∀ a j, ¬ (a = 138 ∧ (j = 0 ∨ j = 5 ∨ j = 7 ∨ j = 8 ∨ j = 11)) → I1 a j = I a j := fun a j w => by rw [hI1, zu_n (by omega), zu_n (by omega), zu_n (by omega), zu_n (by omega), zu_n (by omega)]
  obtain ⟨I2, f2, g2, h2⟩ := sp_clear (Lh := Lh) (J := J) I1
  have e8 : I2 138 8 = nI n := by rw [f2 138 8 (by omega), hI1, zu_n (by omega), zu_n (by omega), zu_n (by omega), zu_s]
  have e7 : I2 138 7 = nI 0 := by rw [f2 138 7 (by omega), hI1, zu_n (by omega), zu_s]
  have e5 : I2 138 5 = nI 0 := by rw [f2 138 5 (by omega), hI1, zu_n (by omega), zu_n (by omega), zu_s]
  have e11 : I2 138 11 = nI 0 := by rw [f2 138 11 (by omega), hI1, zu_s]
  have z2 : zTm I2 b n := ⟨by omega, e8, fun i hi => ⟨(hb i hi).1, by rw [f2 141 i (by omega), f1 141 i (by omega)]; exact (hb i hi).2⟩⟩
  have si2 : zx_SI I2 := fun a j ha => by rw [f2 a j (by omega), f1 a j (by omega)]; exact si a j ha
  obtain ⟨I3, f3, g3, h3⟩ := sp_next (Lh := Lh) (J := J) (e := 0) z2 si2 (by omega) e7
  refine ⟨I3, fun a j w => by rw [f3 a j (by omega), f2 a j (by omega), f1 a j (by omega)], (f3 138 5 (by omega)).trans e5, ⟨zTm_f z2 (fun j => f3 141 j (by omega)) (f3 138 8 (by omega)), fun a j ha => (f3 a j (by omega)).trans (si2 a j ha), g3, (zl_tk2_nx b (Nat.zero_le n)).1, (f3 138 11 (by omega)).trans e11⟩, fun j hj => (f3 142 j (by omega)).trans (g2 j hj), fun d P hd => ?_⟩
  obtain ⟨e, rfl⟩ : ∃ e, d = e + 6 := ⟨d - 6, by omega⟩
  have h5' : zx_u I 138 0 (nI 0) 138 5 = nI p := (zu_n (by omega)).trans h5
  have hbt := fun d L I J P => sp_bt (d := d) (L := L) (I := I) (J := J) (P := P) (nI n) (a := 0) (b := p) (by omega) (by omega)
  have et : zf_bt 0 p (nI n).toInt = true := by rw [nI_toInt (by omega)]; exact zf_btP.mpr ⟨by omega, by omega⟩
  rw [et] at hbt
  rw [hI1] at h2
  have h3' := fun P => h3 (e + 0) P
  have pl : (nI p).toInt64 = lN p := nI_l (by omega)
  rw [ze_181]
  simp (disch := omega) only [↓zs_181_0, ↓zs_181_1, ↓zs_181_2, ↓zs_181_5, ↓zs_181_6, ↓zs_181_7, ↓zs_181_8, ↓zs_181_9, ↓zs_181_12, ↓zs_181_13, ↓zs_181_16, ↓zs_181_19, ↓zs_181_21, zx_pu_s, zx_pu_n, zx_rv_s, zx_rv_n, true_and, and_true, true_or, or_true, zb_0, zb_1, zq_lcl, zq_lcg, zq_lce, eq_self, ite_true, ite_false, zk_138, zw_138, zk_139, zw_139, zk_140, zw_140, zk_141, zw_141, zk_142, zw_142, zk_143, zw_143, zk_144, zw_144, zk_145, zw_145, zk_146, zw_146, zk_147, zw_147, zk_148, zw_148, zk_149, zw_149, zk_150, zw_150, zk_151, zw_151, zk_152, zw_152, zq_138_1, zq_138_2, zq_138_3, zq_138_4, zq_138_16, zq_138_19, zq_138_20, zq_138_24, zq_138_25, zq_138_26, zq_138_27, zq_138_31, zq_138_32, zq_138_33, h5', pl, hbt, zB_0, reduceCtorEq]
  simp (disch := omega) only [↓zs_181_22, ↓zs_181_23, ↓zs_181_24, ↓zs_181_27, ↓zs_181_28, ↓zs_181_29, ↓zs_181_32, ↓zs_181_33, ↓zs_181_34, ↓zs_181_37, ↓zs_181_38, ↓zs_181_39, ↓zs_181_42, ↓zs_181_43, ↓zs_181_46, ↓zs_181_49, ↓zs_181_50, zx_pu_s, zx_pu_n, zx_rv_s, zx_rv_n, true_and, and_true, true_or, or_true, zb_0, zb_1, zq_lcl, zq_lcg, zq_lce, eq_self, ite_true, ite_false, zk_138, zw_138, zk_139, zw_139, zk_140, zw_140, zk_141, zw_141, zk_142, zw_142, zk_143, zw_143, zk_144, zw_144, zk_145, zw_145, zk_146, zw_146, zk_147, zw_147, zk_148, zw_148, zk_149, zw_149, zk_150, zw_150, zk_151, zw_151, zk_152, zw_152, zq_138_1, zq_138_2, zq_138_3, zq_138_4, zq_138_16, zq_138_19, zq_138_20, zq_138_24, zq_138_25, zq_138_26, zq_138_27, zq_138_31, zq_138_32, zq_138_33, h2, h3]
/-- the class's reader begins -/
theorem sc_start {p : Nat} (si : zx_SI I) (hx : n ≤ p) (hp : p ≤ 900) (h13 : I 0 12 = nI p) (hb : ∀ i, i < n → b i < 256 ∧ I 85 i = (nI (b i)).toInt8.toInt32) : ∃ I2 J2, (∀ a j, ¬ ((83 ≤ a ∧ a ≤ 101 ∧ a ≠ 85) ∨ (a = 0 ∧ j = 12)) → I2 a j = I a j) ∧ zFkJ J J2 ∧ I2 0 12 = nI 0 ∧ (∀ F, (∀ j, j < 1286 → F j = zf_f0 j) → zPc I2 J2 b n (zf_nx b n 0) F) ∧ ∀ d P, 8 ≤ d → zx_rn (d + 1) 102 [.ref 0, .int (nI n)] (zx_LL Lh) I J P = zx_wp d 30 24 [.ref 83, .int (nI n), .int (nI 0), zx_u0] [] (zx_LL Lh) I2 J2 (fun r9 L9 I9 J9 => zx_wp (d + 1) 102 29 [.ref 0, .int (nI n)] (zx_pu r9 [.ref 0]) L9 I9 J9 P) := by
  obtain ⟨I1, hI1⟩ : ∃ I1, I1 = zx_u I 0 12 (nI 0) := ⟨_, rfl⟩
  obtain ⟨I2, J2, f2, j2, g2, g86, w12, w13, h2⟩ := sc_sqClear (Lh := Lh) (I := I1) (J := J)
  obtain ⟨I3, f3, s95, g3, h3⟩ := sc_stClear (Lh := Lh) (I := I2) (J := J2)
  have fr : ∀ a j, ¬ ((83 ≤ a ∧ a ≤ 101 ∧ a ≠ 85) ∨ (a = 0 ∧ j = 12)) → I3 a j = I a j := fun a j w => by rw [f3 a j (by omega), f2 a j (by omega), hI1, zu_n (by omega)]
  have si3 : zx_SI I3 := fun a j ha => (fr a j (by omega)).trans (si a j ha)
  obtain ⟨I4, f4, q6, q7, p4, h4⟩ := sc_begin76 (Lh := Lh) (I := I3) (J := J2) (n := n) (b := b) si3 (by omega) (fun i hi => ⟨(hb i hi).1, (fr 85 i (by omega)).trans (hb i hi).2⟩)
  have x0 : (nI n < nI 0) = False := eq_false (by rw [nI_ltI (by omega) (by omega)]; omega)
  have xp : (nI p < nI n) = False := eq_false (by rw [nI_ltI (by omega) (by omega)]; omega)
  refine ⟨I4, J2, fun a j w => by rw [f4 a j (by omega)]; exact fr a j w, j2, ?_, fun F hF => ?_, fun d P hd => ?_⟩
  · rw [f4 0 12 (by omega), f3 0 12 (by omega), f2 0 12 (by omega), hI1, zu_s]
  · obtain ⟨pf, e1, e2, e3, e4, e5, e6, eG⟩ := zPf_f0 hF
    have z : ∀ j, j < 1286 → ¬ ((109 ≤ j ∧ j < 117) ∨ (125 ≤ j ∧ j < 133)) → F j = nI 0 := fun j h1 h2 => (hF j h1).trans (zf_f0_0 h2)
    have c85 : ∀ j, 6 ≤ j → j ≤ 11 → I4 88 j = nI 0 := fun j h1 h2 => by rw [f4 88 j (by omega), f3 88 j (by omega)]; exact g2 j h1 h2
    refine ⟨p4, q6, q7, ?_, ?_⟩
    · unfold zR_sq zR_ground zR_snow
      rw [e4, e5, e6]
      refine ⟨?_, ?_, ?_, ?_, ?_, fun k hk => ?_, ⟨?_, fun i hi => absurd hi (Nat.not_lt_zero i)⟩, fun i hi => absurd hi (Nat.not_lt_zero i), ?_, fun k hk => absurd hk (Nat.not_lt_zero k)⟩
      · rw [c85 6 (by omega) (by omega), z 1 (by omega) (by omega)]
      · rw [c85 7 (by omega) (by omega), z 2 (by omega) (by omega)]
      · rw [c85 8 (by omega) (by omega), z 3 (by omega) (by omega)]
      · rw [c85 9 (by omega) (by omega), z 0 (by omega) (by omega)]
      · rw [c85 10 (by omega) (by omega), z 4 (by omega) (by omega)]
      · rw [w12, w13, z (45 + k) (by omega) (by omega), zt_0]
        exact ⟨by decide, by decide⟩
      · rw [c85 11 (by omega) (by omega), z 5 (by omega) (by omega)]
      · rw [f4 89 3 (by omega), f3 89 3 (by omega)]; exact g86
    · rw [eG]
      refine ⟨?_, fun s hs => ?_⟩
      · rw [f4 98 3 (by omega), s95, z 133 (by omega) (by omega)]
      · obtain ⟨s1, s2, s3⟩ := g3 s hs
        rw [f4 99 s (by omega), f4 100 s (by omega), f4 101 s (by omega), s1, s2, s3, z (117 + s) (by omega) (by omega), hF (109 + s) (by omega), hF (125 + s) (by omega), zf_f0, zf_f0, if_pos (by omega), if_pos (by omega)]
        exact ⟨rfl, rfl, rfl⟩
  · obtain ⟨e, rfl⟩ : ∃ e, d = e + 8 := ⟨d - 8, by omega⟩
    have a1 := fun P => h2 (e + 6) P
    have a2 := fun P => h3 (e + 7) P
    have a3 := fun P => h4 (e + 7) P (by omega)
    rw [hI1] at a1
    rw [ze_102]
    simp (disch := omega) only [↓zs_102_0, ↓zs_102_1, ↓zs_102_4, ↓zs_102_5, ↓zs_102_6, ↓zs_102_9, ↓zs_102_12, ↓zs_102_14, ↓zs_102_15, ↓zs_102_16, ↓zs_102_17, ↓zs_102_20, ↓zs_102_21, ↓zs_102_22, ↓zs_102_25, ↓zs_102_26, zx_pu_s, zx_pu_n, zx_rv_s, zx_rv_n, true_and, and_true, true_or, or_true, zb_0, zb_1, zq_lcl, zq_lcg, zq_lce, eq_self, ite_true, ite_false, zk_0, zw_0, zq_0_0, zq_0_1, zq_0_2, zq_0_3, zq_0_4, zq_0_5, zq_0_6, zq_0_7, zq_0_8, zq_0_9, zq_0_10, zq_0_11, zk_83, zw_83, zq_83_0, zq_83_1, zq_83_2, zq_83_3, zk_88, zw_88, zq_88_0, zq_88_1, zq_88_2, zq_88_3, zq_88_4, zq_88_5, x0, h13, xp]
    rw [ze_30]
    simp (disch := omega) only [↓zs_30_0, ↓zs_30_1, ↓zs_30_4, ↓zs_30_7, ↓zs_30_8, ↓zs_30_11, ↓zs_30_14, ↓zs_30_15, ↓zs_30_18, ↓zs_30_19, ↓zs_30_22, ↓zs_30_23, zx_pu_s, zx_pu_n, zx_rv_s, zx_rv_n, true_and, and_true, true_or, or_true, zb_0, zb_1, zq_lcl, zq_lcg, zq_lce, eq_self, ite_true, ite_false, zk_83, zw_83, zq_83_0, zq_83_1, zq_83_2, zq_83_3, zk_88, zw_88, zq_88_0, zq_88_1, zq_88_2, zq_88_3, zq_88_4, zq_88_5, zk_98, zw_98, zq_98_0, zq_98_1, zq_98_2, zk_84, zw_84, zq_84_0, a1, a2, a3]
end E9
