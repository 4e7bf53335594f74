/-! the model's TOKENS -/
def zTm (I : zx_MI) (b : Nat → Nat) (n : Nat) : Prop := n ≤ 900 ∧ I 138 8 = nI n ∧ ∀ i, i < n → b i < 256 ∧ I 141 i = nI (b i)
theorem zTm_f {I I2 : zx_MI} {b : Nat → Nat} {n : Nat} (z : zTm I b n) (h : ∀ j, I2 141 j = I 141 j) (h1 : I2 138 8 = I 138 8) : zTm I2 b n := ⟨z.1, h1.trans z.2.1, fun i hi => ⟨(z.2.2 i hi).1, (h i).trans (z.2.2 i hi).2⟩⟩
theorem zf_cm_lt {I : zx_MI} {b : Nat → Nat} {n : Nat} (z : zTm I b n) (i : Nat) : zf_c b n i < 257 := by
  unfold zf_c
  split
  · have := (z.2.2 i (by assumption)).1; omega
  · omega
def zTt (I : zx_MI) (T : Nat × Nat × Nat × Nat) : Prop := I 138 7 = nI T.2.1 ∧ I 138 6 = nI T.1 ∧ I 138 9 = nI T.2.2.1 ∧ (T.2.2.1 = 27 → I 138 10 = nI T.2.2.2)
/-- the model's kind of a sign -/
def zf_sgl (c : Nat) : Nat → Nat → Nat → Nat
  | 0, _, r => r
  | mm + 1, k, r => zf_sgl c mm (k + 1) (if zf_mv c = zf_ch 1 k then 40 + k else r)
theorem zf_sgl_eq : ∀ c : Fin 256, zf_sgl c.1 12 0 29 = zf_sgn c.1 ∧ zf_sgn c.1 ≠ 27 := by decide +kernel
section TM
variable {Lh n : Nat} {b : Nat → Nat} {I : zx_MI} {J : zx_MJ}
theorem sp_see {d i : Nat} {P : Option Value → zx_Lay → zx_MI → zx_MJ → Prop} (z : zTm I b n) (hi : i < 2 ^ 30) : zx_rn d 154 [.ref 138, .int (nI i)] (zx_LL Lh) I J P = P (some (.int (zf_mv (zf_c b n i)))) (zx_LL Lh) I J := by
  obtain ⟨z1, z2, z3⟩ := z
  rw [ze_154]
  unfold zf_c
  by_cases c : i < n
  · obtain ⟨b1, b2⟩ := z3 i c
    have ev : zf_mv (b i) = nI (b i) := if_pos b1
    rw [if_pos c, ev]
    simp (disch := omega) only [↓zs_154_0, ↓zs_154_1, ↓zs_154_2, ↓zs_154_5, ↓zs_154_8, ↓zs_154_9, ↓zs_154_12, ↓zs_154_13, ↓zs_154_14, ↓zs_154_17, ↓zs_154_18, zx_pu_s, zx_pu_n, zx_rv_s, zx_rv_n, true_and, and_true, true_or, or_true, zb_0, zb_1, zq_lcl, zq_lcg, zq_lce, eq_self, ite_true, ite_false, zk_138, zw_138, zk_139, zw_139, zk_140, zw_140, zk_141, zw_141, zk_142, zw_142, zk_143, zw_143, zk_144, zw_144, zk_145, zw_145, zk_146, zw_146, zk_147, zw_147, zk_148, zw_148, zk_149, zw_149, zk_150, zw_150, zk_151, zw_151, zk_152, zw_152, zq_138_1, zq_138_2, zq_138_3, zq_138_4, zq_138_16, zq_138_19, zq_138_20, zq_138_24, zq_138_25, zq_138_26, zq_138_27, zq_138_31, zq_138_32, zq_138_33, nI_ltI, z2, c, zin_nI, nI_clamp, b2]
  · rw [if_neg c]
    simp (disch := omega) only [↓zs_154_0, ↓zs_154_1, ↓zs_154_2, ↓zs_154_5, ↓zs_154_8, ↓zs_154_9, ↓zs_154_12, ↓zs_154_13, ↓zs_154_14, ↓zs_154_17, ↓zs_154_18, zx_pu_s, zx_pu_n, zx_rv_s, zx_rv_n, true_and, and_true, true_or, or_true, zb_0, zb_1, zq_lcl, zq_lcg, zq_lce, eq_self, ite_true, ite_false, zk_138, zw_138, zk_139, zw_139, zk_140, zw_140, zk_141, zw_141, zk_142, zw_142, zk_143, zw_143, zk_144, zw_144, zk_145, zw_145, zk_146, zw_146, zk_147, zw_147, zk_148, zw_148, zk_149, zw_149, zk_150, zw_150, zk_151, zw_151, zk_152, zw_152, zq_138_1, zq_138_2, zq_138_3, zq_138_4, zq_138_16, zq_138_19, zq_138_20, zq_138_24, zq_138_25, zq_138_26, zq_138_27, zq_138_31, zq_138_32, zq_138_33, nI_ltI, z2, c]
    rfl
theorem sp_small {d c : Nat} {L : zx_Lay} {P : Option Value → zx_Lay → zx_MI → zx_MJ → Prop} (hc : c < 257) : zx_rn d 155 [.int (zf_mv c)] L I J P = P (some (.int (zB (zf_al c)))) L I J := by
  obtain ⟨-, c1, c2, -⟩ := zf_mv_f ⟨c, hc⟩
  dsimp only at c1 c2
  rw [ze_155]
  cases q : zf_al c with
  | true =>
    obtain ⟨q1, q2, -⟩ := c1 q
    simp (disch := omega) only [↓zs_155_0, ↓zs_155_1, ↓zs_155_3, ↓zs_155_6, ↓zs_155_7, ↓zs_155_9, ↓zs_155_12, ↓zs_155_13, ↓zs_155_16, ↓zs_155_17, zx_pu_s, zx_pu_n, zx_rv_s, zx_rv_n, true_and, and_true, true_or, or_true, zb_0, zb_1, zq_lcl, zq_lcg, zq_lce, eq_self, ite_true, ite_false, q1, q2]
    rfl
  | false =>
    rcases c2 q with q1 | ⟨q1, q2⟩
    · simp (disch := omega) only [↓zs_155_0, ↓zs_155_1, ↓zs_155_3, ↓zs_155_6, ↓zs_155_7, ↓zs_155_9, ↓zs_155_12, ↓zs_155_13, ↓zs_155_16, ↓zs_155_17, zx_pu_s, zx_pu_n, zx_rv_s, zx_rv_n, true_and, and_true, true_or, or_true, zb_0, zb_1, zq_lcl, zq_lcg, zq_lce, eq_self, ite_true, ite_false, q1]
      rfl
    · simp (disch := omega) only [↓zs_155_0, ↓zs_155_1, ↓zs_155_3, ↓zs_155_6, ↓zs_155_7, ↓zs_155_9, ↓zs_155_12, ↓zs_155_13, ↓zs_155_16, ↓zs_155_17, zx_pu_s, zx_pu_n, zx_rv_s, zx_rv_n, true_and, and_true, true_or, or_true, zb_0, zb_1, zq_lcl, zq_lcg, zq_lce, eq_self, ite_true, ite_false, q1, q2]
      rfl
theorem sp_digit {d c : Nat} {L : zx_Lay} {P : Option Value → zx_Lay → zx_MI → zx_MJ → Prop} (hc : c < 257) : zx_rn d 156 [.int (zf_mv c)] L I J P = P (some (.int (zB (zf_dg c)))) L I J := by
  obtain ⟨-, -, -, c1, c2⟩ := zf_mv_f ⟨c, hc⟩
  dsimp only at c1 c2
  rw [ze_156]
  cases q : zf_dg c with
  | true =>
    obtain ⟨q1, q2, -⟩ := c1 q
    simp (disch := omega) only [↓zs_156_0, ↓zs_156_1, ↓zs_156_3, ↓zs_156_6, ↓zs_156_7, ↓zs_156_9, ↓zs_156_12, ↓zs_156_13, ↓zs_156_16, ↓zs_156_17, zx_pu_s, zx_pu_n, zx_rv_s, zx_rv_n, true_and, and_true, true_or, or_true, zb_0, zb_1, zq_lcl, zq_lcg, zq_lce, eq_self, ite_true, ite_false, q1, q2]
    rfl
  | false =>
    rcases c2 q with q1 | ⟨q1, q2⟩
    · simp (disch := omega) only [↓zs_156_0, ↓zs_156_1, ↓zs_156_3, ↓zs_156_6, ↓zs_156_7, ↓zs_156_9, ↓zs_156_12, ↓zs_156_13, ↓zs_156_16, ↓zs_156_17, zx_pu_s, zx_pu_n, zx_rv_s, zx_rv_n, true_and, and_true, true_or, or_true, zb_0, zb_1, zq_lcl, zq_lcg, zq_lce, eq_self, ite_true, ite_false, q1]
      rfl
    · simp (disch := omega) only [↓zs_156_0, ↓zs_156_1, ↓zs_156_3, ↓zs_156_6, ↓zs_156_7, ↓zs_156_9, ↓zs_156_12, ↓zs_156_13, ↓zs_156_16, ↓zs_156_17, zx_pu_s, zx_pu_n, zx_rv_s, zx_rv_n, true_and, and_true, true_or, or_true, zb_0, zb_1, zq_lcl, zq_lcg, zq_lce, eq_self, ite_true, ite_false, q1, q2]
      rfl
theorem sp_keyAt {s f : Nat} (z : zTm I b n) (si : zx_SI I) (hs : s ≤ f) (hf : f ≤ n) (e6 : I 138 6 = nI s) (e7 : I 138 7 = nI f) : ∀ d P, zx_rn (d + 4) 157 [.ref 138] (zx_LL Lh) I J P = P (some (.int (nI (zf_wd b s f)))) (zx_LL Lh) I J := by
  have n9 := z.1
  have hl2 : zf_len 2 = 115 := by decide +kernel
  have k0 : (zx_LL Lh).1 5012 = (56, 0) := zk_txt (i := 2) (by omega)
  have hln := fun d P => zl_length (d := d) (Lh := Lh) (I := I) (J := J) (P := P) (i := 2) si (by omega)
  rw [hl2] at hln
  have hch := fun j (hj : j < 115) d P => zl_charAt (d := d) (Lh := Lh) (I := I) (J := J) (P := P) (i := 2) (j := j) si (by omega) (by rw [hl2]; exact hj)
  have skip : ∀ w k L, k + L < 115 → w < 300 → (∀ j, j < L → zf_ch 2 (k + j) ≠ nI 32) → zf_ch 2 (k + L) = nI 32 → ∀ x mm j, j + mm = L → ∀ d P, zx_wp (d + 4) 157 97 [.ref 138, .int (nI w), .int (nI (k + j)), .int x] [] (zx_LL Lh) I J P = zx_wp (d + 4) 157 4 [.ref 138, .int (nI (w + 1)), .int (nI (k + L + 1)), .int x] [] (zx_LL Lh) I J P := by
    intro w k L hk hw h1 h2 x mm
    induction mm with
    | zero =>
      intro j hj d P
      obtain rfl : j = L := by omega
      have hc := hch (k + j) (by omega)
      rw [h2] at hc
      rw [zs_157_97]
      simp (disch := omega) only [↓zs_157_99, ↓zs_157_100, ↓zs_157_103, ↓zs_157_105, ↓zs_157_108, ↓zs_157_111, ↓zs_157_114, ↓zs_157_117, ↓zs_157_120, zx_pu_s, zx_pu_n, zx_rv_s, zx_rv_n, true_and, and_true, true_or, or_true, zb_0, zb_1, zq_lcl, zq_lcg, zq_lce, eq_self, ite_true, ite_false, k0, hc, nI_add]
    | succ mm ih =>
      intro j hj d P
      have hc := hch (k + j) (by omega)
      have hne : (zf_ch 2 (k + j) = nI 32) = False := eq_false (h1 j (by omega))
      rw [← ih (j + 1) (by omega) d P, zs_157_97]
      simp (disch := omega) only [↓zs_157_99, ↓zs_157_100, ↓zs_157_103, ↓zs_157_105, ↓zs_157_108, ↓zs_157_111, ↓zs_157_114, ↓zs_157_117, ↓zs_157_120, zx_pu_s, zx_pu_n, zx_rv_s, zx_rv_n, true_and, and_true, true_or, or_true, zb_0, zb_1, zq_lcl, zq_lcg, zq_lce, eq_self, ite_true, ite_false, k0, hc, hne, nI_add]
      rfl
  have key : ∀ w k L, k + L < 115 → w < 300 → (∀ j, j < L → zf_ch 2 (k + j) ≠ nI 32) → zf_ch 2 (k + L) = nI 32 → ∀ mm j, j + mm = L → ∃ x, ∀ d P, zx_wp (d + 4) 157 15 [.ref 138, .int (nI w), .int (nI k), .int (nI j)] [] (zx_LL Lh) I J P = if (zf_ml b s f 2 k mm j && decide (s + L = f)) = true then P (some (.int (nI w))) (zx_LL Lh) I J else zx_wp (d + 4) 157 4 [.ref 138, .int (nI (w + 1)), .int (nI (k + L + 1)), .int x] [] (zx_LL Lh) I J P := by
    intro w k L hk hw h1 h2 mm
    have sk := fun x d P => skip w k L hk hw h1 h2 x L 0 (by omega) d P
    induction mm with
    | zero =>
      intro j hj
      obtain rfl : j = L := by omega
      refine ⟨nI j, fun d P => ?_⟩
      have hc := hch (k + j) (by omega)
      rw [h2] at hc
      rw [show zf_ml b s f 2 k 0 j = true from rfl, Bool.true_and, zs_157_15]
      by_cases c : s + j = f
      · have c' : (nI (s + j) = nI f) = True := eq_true (congrArg nI c)
        rw [decide_eq_true c, if_pos rfl]
        simp (disch := omega) only [↓zs_157_17, ↓zs_157_18, ↓zs_157_19, ↓zs_157_20, ↓zs_157_23, ↓zs_157_25, ↓zs_157_28, ↓zs_157_29, ↓zs_157_32, ↓zs_157_33, ↓zs_157_34, ↓zs_157_35, ↓zs_157_38, ↓zs_157_41, ↓zs_157_42, ↓zs_157_45, ↓zs_157_46, ↓zs_157_49, ↓zs_157_50, ↓zs_157_51, ↓zs_157_52, ↓zs_157_54, ↓zs_157_55, ↓zs_157_56, ↓zs_157_57, ↓zs_157_60, ↓zs_157_63, ↓zs_157_66, ↓zs_157_69, ↓zs_157_71, ↓zs_157_72, ↓zs_157_73, ↓zs_157_74, ↓zs_157_77, ↓zs_157_79, ↓zs_157_82, ↓zs_157_83, ↓zs_157_86, ↓zs_157_87, ↓zs_157_88, ↓zs_157_89, ↓zs_157_92, ↓zs_157_95, ↓zs_157_96, zx_pu_s, zx_pu_n, zx_rv_s, zx_rv_n, true_and, and_true, true_or, or_true, zb_0, zb_1, zq_lcl, zq_lcg, zq_lce, eq_self, ite_true, ite_false, zk_138, zw_138, zk_139, zw_139, zk_140, zw_140, zk_141, zw_141, zk_142, zw_142, zk_143, zw_143, zk_144, zw_144, zk_145, zw_145, zk_146, zw_146, zk_147, zw_147, zk_148, zw_148, zk_149, zw_149, zk_150, zw_150, zk_151, zw_151, zk_152, zw_152, zq_138_1, zq_138_2, zq_138_3, zq_138_4, zq_138_16, zq_138_19, zq_138_20, zq_138_24, zq_138_25, zq_138_26, zq_138_27, zq_138_31, zq_138_32, zq_138_33, k0, hc, nI_add, e6, e7, c']
      · have c' : (nI (s + j) = nI f) = False := zq_ne c (by omega) (by omega)
        rw [decide_eq_false c, if_neg (by decide), ← sk]
        simp (disch := omega) only [↓zs_157_17, ↓zs_157_18, ↓zs_157_19, ↓zs_157_20, ↓zs_157_23, ↓zs_157_25, ↓zs_157_28, ↓zs_157_29, ↓zs_157_32, ↓zs_157_33, ↓zs_157_34, ↓zs_157_35, ↓zs_157_38, ↓zs_157_41, ↓zs_157_42, ↓zs_157_45, ↓zs_157_46, ↓zs_157_49, ↓zs_157_50, ↓zs_157_51, ↓zs_157_52, ↓zs_157_54, ↓zs_157_55, ↓zs_157_56, ↓zs_157_57, ↓zs_157_60, ↓zs_157_63, ↓zs_157_66, ↓zs_157_69, ↓zs_157_71, ↓zs_157_72, ↓zs_157_73, ↓zs_157_74, ↓zs_157_77, ↓zs_157_79, ↓zs_157_82, ↓zs_157_83, ↓zs_157_86, ↓zs_157_87, ↓zs_157_88, ↓zs_157_89, ↓zs_157_92, ↓zs_157_95, ↓zs_157_96, zx_pu_s, zx_pu_n, zx_rv_s, zx_rv_n, true_and, and_true, true_or, or_true, zb_0, zb_1, zq_lcl, zq_lcg, zq_lce, eq_self, ite_true, ite_false, zk_138, zw_138, zk_139, zw_139, zk_140, zw_140, zk_141, zw_141, zk_142, zw_142, zk_143, zw_143, zk_144, zw_144, zk_145, zw_145, zk_146, zw_146, zk_147, zw_147, zk_148, zw_148, zk_149, zw_149, zk_150, zw_150, zk_151, zw_151, zk_152, zw_152, zq_138_1, zq_138_2, zq_138_3, zq_138_4, zq_138_16, zq_138_19, zq_138_20, zq_138_24, zq_138_25, zq_138_26, zq_138_27, zq_138_31, zq_138_32, zq_138_33, k0, hc, nI_add, e6, e7, c']
        rfl
    | succ mm ih =>
      intro j hj
      have hc := hch (k + j) (by omega)
      have hne : (zf_ch 2 (k + j) = nI 32) = False := eq_false (h1 j (by omega))
      rw [zf_ml]
      by_cases c : s + j < f
      · have eb := (z.2.2 (s + j) (by omega)).2
        rw [decide_eq_true c, Bool.true_and]
        by_cases ce : zf_ch 2 (k + j) = nI (b (s + j))
        · have ce' : (nI (b (s + j)) = zf_ch 2 (k + j)) = True := eq_true ce.symm
          rw [decide_eq_true ce, Bool.true_and]
          obtain ⟨x, hx⟩ := ih (j + 1) (by omega)
          refine ⟨x, fun d P => ?_⟩
          rw [← hx d P, zs_157_15]
          simp (disch := omega) only [↓zs_157_17, ↓zs_157_18, ↓zs_157_19, ↓zs_157_20, ↓zs_157_23, ↓zs_157_25, ↓zs_157_28, ↓zs_157_29, ↓zs_157_32, ↓zs_157_33, ↓zs_157_34, ↓zs_157_35, ↓zs_157_38, ↓zs_157_41, ↓zs_157_42, ↓zs_157_45, ↓zs_157_46, ↓zs_157_49, ↓zs_157_50, ↓zs_157_51, ↓zs_157_52, ↓zs_157_54, ↓zs_157_55, ↓zs_157_56, ↓zs_157_57, ↓zs_157_60, ↓zs_157_63, ↓zs_157_66, zx_pu_s, zx_pu_n, zx_rv_s, zx_rv_n, true_and, and_true, true_or, or_true, zb_0, zb_1, zq_lcl, zq_lcg, zq_lce, eq_self, ite_true, ite_false, zk_138, zw_138, zk_139, zw_139, zk_140, zw_140, zk_141, zw_141, zk_142, zw_142, zk_143, zw_143, zk_144, zw_144, zk_145, zw_145, zk_146, zw_146, zk_147, zw_147, zk_148, zw_148, zk_149, zw_149, zk_150, zw_150, zk_151, zw_151, zk_152, zw_152, zq_138_1, zq_138_2, zq_138_3, zq_138_4, zq_138_16, zq_138_19, zq_138_20, zq_138_24, zq_138_25, zq_138_26, zq_138_27, zq_138_31, zq_138_32, zq_138_33, k0, hc, hne, nI_add, nI_ltI, e6, e7, c, zin_nI, nI_clamp, eb, ce']
        · have ce' : (nI (b (s + j)) = zf_ch 2 (k + j)) = False := eq_false (fun e => ce e.symm)
          rw [decide_eq_false ce, Bool.false_and, Bool.false_and]
          refine ⟨nI j, fun d P => ?_⟩
          rw [if_neg (by decide), ← sk, zs_157_15]
          simp (disch := omega) only [↓zs_157_17, ↓zs_157_18, ↓zs_157_19, ↓zs_157_20, ↓zs_157_23, ↓zs_157_25, ↓zs_157_28, ↓zs_157_29, ↓zs_157_32, ↓zs_157_33, ↓zs_157_34, ↓zs_157_35, ↓zs_157_38, ↓zs_157_41, ↓zs_157_42, ↓zs_157_45, ↓zs_157_46, ↓zs_157_49, ↓zs_157_50, ↓zs_157_51, ↓zs_157_52, ↓zs_157_54, ↓zs_157_55, ↓zs_157_56, ↓zs_157_57, ↓zs_157_60, ↓zs_157_63, ↓zs_157_66, zx_pu_s, zx_pu_n, zx_rv_s, zx_rv_n, true_and, and_true, true_or, or_true, zb_0, zb_1, zq_lcl, zq_lcg, zq_lce, eq_self, ite_true, ite_false, zk_138, zw_138, zk_139, zw_139, zk_140, zw_140, zk_141, zw_141, zk_142, zw_142, zk_143, zw_143, zk_144, zw_144, zk_145, zw_145, zk_146, zw_146, zk_147, zw_147, zk_148, zw_148, zk_149, zw_149, zk_150, zw_150, zk_151, zw_151, zk_152, zw_152, zq_138_1, zq_138_2, zq_138_3, zq_138_4, zq_138_16, zq_138_19, zq_138_20, zq_138_24, zq_138_25, zq_138_26, zq_138_27, zq_138_31, zq_138_32, zq_138_33, k0, hc, hne, nI_add, nI_ltI, e6, e7, c, zin_nI, nI_clamp, eb, ce']
          simp (disch := omega) only [↓zs_157_69, ↓zs_157_71, ↓zs_157_72, ↓zs_157_73, ↓zs_157_74, ↓zs_157_77, ↓zs_157_79, ↓zs_157_82, ↓zs_157_83, ↓zs_157_86, ↓zs_157_87, ↓zs_157_88, ↓zs_157_89, ↓zs_157_92, ↓zs_157_95, ↓zs_157_96, zx_pu_s, zx_pu_n, zx_rv_s, zx_rv_n, true_and, and_true, true_or, or_true, zb_0, zb_1, zq_lcl, zq_lcg, zq_lce, eq_self, ite_true, ite_false, zk_138, zw_138, zk_139, zw_139, zk_140, zw_140, zk_141, zw_141, zk_142, zw_142, zk_143, zw_143, zk_144, zw_144, zk_145, zw_145, zk_146, zw_146, zk_147, zw_147, zk_148, zw_148, zk_149, zw_149, zk_150, zw_150, zk_151, zw_151, zk_152, zw_152, zq_138_1, zq_138_2, zq_138_3, zq_138_4, zq_138_16, zq_138_19, zq_138_20, zq_138_24, zq_138_25, zq_138_26, zq_138_27, zq_138_31, zq_138_32, zq_138_33, k0, hc, hne, nI_add]
          rfl
      · rw [decide_eq_false c, Bool.false_and, Bool.false_and, Bool.false_and]
        refine ⟨nI j, fun d P => ?_⟩
        rw [if_neg (by decide), ← sk, zs_157_15]
        simp (disch := omega) only [↓zs_157_17, ↓zs_157_18, ↓zs_157_19, ↓zs_157_20, ↓zs_157_23, ↓zs_157_25, ↓zs_157_28, ↓zs_157_29, ↓zs_157_32, ↓zs_157_33, ↓zs_157_34, ↓zs_157_35, ↓zs_157_38, ↓zs_157_41, ↓zs_157_42, ↓zs_157_45, ↓zs_157_46, ↓zs_157_49, ↓zs_157_50, ↓zs_157_51, ↓zs_157_52, ↓zs_157_54, ↓zs_157_55, ↓zs_157_56, ↓zs_157_57, ↓zs_157_60, ↓zs_157_63, ↓zs_157_66, zx_pu_s, zx_pu_n, zx_rv_s, zx_rv_n, true_and, and_true, true_or, or_true, zb_0, zb_1, zq_lcl, zq_lcg, zq_lce, eq_self, ite_true, ite_false, zk_138, zw_138, zk_139, zw_139, zk_140, zw_140, zk_141, zw_141, zk_142, zw_142, zk_143, zw_143, zk_144, zw_144, zk_145, zw_145, zk_146, zw_146, zk_147, zw_147, zk_148, zw_148, zk_149, zw_149, zk_150, zw_150, zk_151, zw_151, zk_152, zw_152, zq_138_1, zq_138_2, zq_138_3, zq_138_4, zq_138_16, zq_138_19, zq_138_20, zq_138_24, zq_138_25, zq_138_26, zq_138_27, zq_138_31, zq_138_32, zq_138_33, k0, hc, hne, nI_add, nI_ltI, e6, e7, c]
        simp (disch := omega) only [↓zs_157_69, ↓zs_157_71, ↓zs_157_72, ↓zs_157_73, ↓zs_157_74, ↓zs_157_77, ↓zs_157_79, ↓zs_157_82, ↓zs_157_83, ↓zs_157_86, ↓zs_157_87, ↓zs_157_88, ↓zs_157_89, ↓zs_157_92, ↓zs_157_95, ↓zs_157_96, zx_pu_s, zx_pu_n, zx_rv_s, zx_rv_n, true_and, and_true, true_or, or_true, zb_0, zb_1, zq_lcl, zq_lcg, zq_lce, eq_self, ite_true, ite_false, zk_138, zw_138, zk_139, zw_139, zk_140, zw_140, zk_141, zw_141, zk_142, zw_142, zk_143, zw_143, zk_144, zw_144, zk_145, zw_145, zk_146, zw_146, zk_147, zw_147, zk_148, zw_148, zk_149, zw_149, zk_150, zw_150, zk_151, zw_151, zk_152, zw_152, zq_138_1, zq_138_2, zq_138_3, zq_138_4, zq_138_16, zq_138_19, zq_138_20, zq_138_24, zq_138_25, zq_138_26, zq_138_27, zq_138_31, zq_138_32, zq_138_33, k0, hc, hne, nI_add]
        rfl
  have all : ∀ (l : List (Nat × Nat)) w k v3, zf_chn 2 115 l k = true → w + l.length < 300 → ∀ d P, zx_wp (d + 4) 157 4 [.ref 138, .int (nI w), .int (nI k), v3] [] (zx_LL Lh) I J P = P (some (.int (nI (zf_fi 2 (zf_x b s f) l w 26)))) (zx_LL Lh) I J := by
    intro l
    induction l with
    | nil =>
      intro w k v3 hk hw d P
      obtain rfl : k = 115 := of_decide_eq_true hk
      rw [zs_157_4]
      simp (disch := omega) only [↓zs_157_5, ↓zs_157_7, ↓zs_157_10, ↓zs_157_13, ↓zs_157_14, ↓zs_157_123, ↓zs_157_125, zx_pu_s, zx_pu_n, zx_rv_s, zx_rv_n, true_and, and_true, true_or, or_true, zb_0, zb_1, zq_lcl, zq_lcg, zq_lce, eq_self, ite_true, ite_false, nI_ltI, Nat.lt_irrefl, k0, hln]
      rfl
    | cons q r ih =>
      intro w k v3 hk hw d P
      obtain ⟨rfl, h1, h2, h3, h4⟩ := zf_chn_s hk
      have hw' : w + (r.length + 1) < 300 := hw
      obtain ⟨x, h5⟩ := key w q.1 q.2 h3 (by omega) h1 h2 q.2 0 (by omega)
      have lt : q.1 < 115 := by omega
      rw [zs_157_4]
      simp (disch := omega) only [↓zs_157_5, ↓zs_157_7, ↓zs_157_10, ↓zs_157_13, ↓zs_157_14, zx_pu_s, zx_pu_n, zx_rv_s, zx_rv_n, true_and, and_true, true_or, or_true, zb_0, zb_1, zq_lcl, zq_lcg, zq_lce, eq_self, ite_true, ite_false, nI_ltI, lt, k0, hln]
      rw [h5, zf_ml_x hs, zf_fi]
      by_cases c : zf_x b s f = zf_wl 2 q
      · rw [if_pos (decide_eq_true c), if_pos c]
      · rw [if_neg (by rw [decide_eq_false c]; decide), if_neg c]
        exact ih (w + 1) _ _ h4 (by omega) d P
  intro d P
  rw [ze_157]
  simp (disch := omega) only [↓zs_157_0, ↓zs_157_1, ↓zs_157_2, ↓zs_157_3, zx_pu_s, zx_pu_n, zx_rv_s, zx_rv_n, true_and, and_true, true_or, or_true, zb_0, zb_1, zq_lcl, zq_lcg, zq_lce, eq_self, ite_true, ite_false]
  exact all zf_km 0 1 zx_u0 (by decide +kernel) (by decide) d P
/-- the model goes on to the next TOKEN -/
theorem sp_next {e : Nat} (z : zTm I b n) (si : zx_SI I) (he : e ≤ n) (e7 : I 138 7 = nI e) : ∃ I2, (∀ a j, ¬ (a = 138 ∧ (j = 6 ∨ j = 7 ∨ j = 9 ∨ j = 10)) → I2 a j = I a j) ∧ zTt I2 (zf_nx b n e) ∧ ∀ d P, zx_rn (d + 5) 158 [.ref 138] (zx_LL Lh) I J P = P none (zx_LL Lh) I2 J := by
  obtain ⟨f1, f2, f3, f4⟩ := zf_st0_p (b := b) (n := n) (s := e) he
  have n9 := z.1
  unfold zf_nx
  generalize hf : zf_st0 b n e = s at *
  have loop : ∀ mm a (I1 : zx_MI), a + mm = s → e ≤ a → (∀ a j, ¬ (a = 138 ∧ j = 6) → I1 a j = I a j) → I1 138 6 = nI a → ∃ I2, (∀ a j, ¬ (a = 138 ∧ j = 6) → I2 a j = I a j) ∧ I2 138 6 = nI s ∧ ∀ d P, zx_wp (d + 5) 158 8 [.ref 138, zx_u0] [] (zx_LL Lh) I1 J P = zx_wp (d + 5) 158 47 [.ref 138, zx_u0] [] (zx_LL Lh) I2 J P := by
    intro mm
    induction mm with
    | zero =>
      intro a I1 ha sa fr e
      obtain rfl : a = s := by omega
      refine ⟨I1, fr, e, fun d P => ?_⟩
      have z1 : zTm I1 b n := zTm_f z (fun j => fr 141 j (by omega)) (fr 138 8 (by omega))
      have hb := fun d P => sp_see (d := d) (Lh := Lh) (J := J) (P := P) z1 (i := a) (by omega)
      obtain ⟨⟨c1, c2⟩, -⟩ := zf_mv_f ⟨_, zf_cm_lt z a⟩
      dsimp only at c1 c2
      rw [zf_sp, Bool.or_eq_false_iff, decide_eq_false_iff_not, decide_eq_false_iff_not] at f3
      have q1 : (zf_mv (zf_c b n a) = nI 32) = False := eq_false (fun w => f3.1 (c1.mp w))
      have q2 : (zf_mv (zf_c b n a) = nI 10) = False := eq_false (fun w => f3.2 (c2.mp w))
      rw [zs_158_8]
      simp (disch := omega) only [↓zs_158_9, ↓zs_158_10, ↓zs_158_13, ↓zs_158_16, ↓zs_158_18, ↓zs_158_21, ↓zs_158_22, ↓zs_158_23, ↓zs_158_26, ↓zs_158_29, ↓zs_158_31, ↓zs_158_34, ↓zs_158_35, ↓zs_158_36, ↓zs_158_39, ↓zs_158_40, ↓zs_158_41, ↓zs_158_44, zx_pu_s, zx_pu_n, zx_rv_s, zx_rv_n, true_and, and_true, true_or, or_true, zb_0, zb_1, zq_lcl, zq_lcg, zq_lce, eq_self, ite_true, ite_false, zk_138, zw_138, zk_139, zw_139, zk_140, zw_140, zk_141, zw_141, zk_142, zw_142, zk_143, zw_143, zk_144, zw_144, zk_145, zw_145, zk_146, zw_146, zk_147, zw_147, zk_148, zw_148, zk_149, zw_149, zk_150, zw_150, zk_151, zw_151, zk_152, zw_152, zq_138_1, zq_138_2, zq_138_3, zq_138_4, zq_138_16, zq_138_19, zq_138_20, zq_138_24, zq_138_25, zq_138_26, zq_138_27, zq_138_31, zq_138_32, zq_138_33, e, hb, q1, q2]
    | succ mm ih =>
      intro a I1 ha sa fr e
      have z1 : zTm I1 b n := zTm_f z (fun j => fr 141 j (by omega)) (fr 138 8 (by omega))
      have hb := fun d P => sp_see (d := d) (Lh := Lh) (J := J) (P := P) z1 (i := a) (by omega)
      obtain ⟨⟨c1, c2⟩, -⟩ := zf_mv_f ⟨_, zf_cm_lt z a⟩
      dsimp only at c1 c2
      have hsp := f4 a sa (by omega)
      rw [zf_sp, Bool.or_eq_true, decide_eq_true_iff, decide_eq_true_iff] at hsp
      obtain ⟨I2, fr2, g2, h2⟩ := ih (a + 1) (zx_u I1 138 6 (nI (a + 1))) (by omega) (by omega) (fun a j n => by rw [zu_n (by omega)]; exact fr a j n) (zu_s _ _ _ _)
      refine ⟨I2, fr2, g2, fun d P => ?_⟩
      rw [← h2 d P, zs_158_8]
      by_cases c10 : zf_c b n a = 10
      · have q1 : (zf_mv (zf_c b n a) = nI 10) = True := eq_true (c2.mpr c10)
        simp (disch := omega) only [↓zs_158_9, ↓zs_158_10, ↓zs_158_13, ↓zs_158_16, ↓zs_158_18, ↓zs_158_21, ↓zs_158_22, ↓zs_158_23, ↓zs_158_26, ↓zs_158_29, ↓zs_158_31, ↓zs_158_34, ↓zs_158_35, ↓zs_158_36, ↓zs_158_39, ↓zs_158_40, ↓zs_158_41, ↓zs_158_44, zx_pu_s, zx_pu_n, zx_rv_s, zx_rv_n, true_and, and_true, true_or, or_true, zb_0, zb_1, zq_lcl, zq_lcg, zq_lce, eq_self, ite_true, ite_false, zk_138, zw_138, zk_139, zw_139, zk_140, zw_140, zk_141, zw_141, zk_142, zw_142, zk_143, zw_143, zk_144, zw_144, zk_145, zw_145, zk_146, zw_146, zk_147, zw_147, zk_148, zw_148, zk_149, zw_149, zk_150, zw_150, zk_151, zw_151, zk_152, zw_152, zq_138_1, zq_138_2, zq_138_3, zq_138_4, zq_138_16, zq_138_19, zq_138_20, zq_138_24, zq_138_25, zq_138_26, zq_138_27, zq_138_31, zq_138_32, zq_138_33, nI_add, e, hb, q1]
      · have q1 : (zf_mv (zf_c b n a) = nI 10) = False := eq_false (fun w => c10 (c2.mp w))
        have q2 : (zf_mv (zf_c b n a) = nI 32) = True := eq_true (c1.mpr (by omega))
        simp (disch := omega) only [↓zs_158_9, ↓zs_158_10, ↓zs_158_13, ↓zs_158_16, ↓zs_158_18, ↓zs_158_21, ↓zs_158_22, ↓zs_158_23, ↓zs_158_26, ↓zs_158_29, ↓zs_158_31, ↓zs_158_34, ↓zs_158_35, ↓zs_158_36, ↓zs_158_39, ↓zs_158_40, ↓zs_158_41, ↓zs_158_44, zx_pu_s, zx_pu_n, zx_rv_s, zx_rv_n, true_and, and_true, true_or, or_true, zb_0, zb_1, zq_lcl, zq_lcg, zq_lce, eq_self, ite_true, ite_false, zk_138, zw_138, zk_139, zw_139, zk_140, zw_140, zk_141, zw_141, zk_142, zw_142, zk_143, zw_143, zk_144, zw_144, zk_145, zw_145, zk_146, zw_146, zk_147, zw_147, zk_148, zw_148, zk_149, zw_149, zk_150, zw_150, zk_151, zw_151, zk_152, zw_152, zq_138_1, zq_138_2, zq_138_3, zq_138_4, zq_138_16, zq_138_19, zq_138_20, zq_138_24, zq_138_25, zq_138_26, zq_138_27, zq_138_31, zq_138_32, zq_138_33, nI_add, e, hb, q1, q2]
  obtain ⟨I2, fr2, g2, h2⟩ := loop (s - e) e (zx_u I 138 6 (nI e)) (by omega) (Nat.le_refl _) (fun a j n => zu_n (by omega)) (zu_s _ _ _ _)
  have fr3 : ∀ a j, ¬ (a = 138 ∧ (j = 6 ∨ j = 7)) → zx_u I2 138 7 (nI s) a j = I a j := fun a j w => by rw [zu_n (by omega), fr2 a j (by omega)]
  have z3 : zTm (zx_u I2 138 7 (nI s)) b n := zTm_f z (fun j => fr3 141 j (by omega)) (fr3 138 8 (by omega))
  have si3 : zx_SI (zx_u I2 138 7 (nI s)) := fun a j ha => (fr3 a j (by omega)).trans (si a j ha)
  have g6 : zx_u I2 138 7 (nI s) 138 6 = nI s := (zu_n (by omega)).trans g2
  have g7 : zx_u I2 138 7 (nI s) 138 7 = nI s := zu_s _ _ _ _
  have g8 : zx_u I2 138 7 (nI s) 138 8 = nI n := z3.2.1
  have begin : ∀ d P, zx_rn (d + 5) 158 [.ref 138] (zx_LL Lh) I J P = zx_wp (d + 5) 158 55 [.ref 138, zx_u0] [] (zx_LL Lh) (zx_u I2 138 7 (nI s)) J P := fun d P => by
    rw [ze_158]
    simp (disch := omega) only [↓zs_158_0, ↓zs_158_1, ↓zs_158_2, ↓zs_158_5, zx_pu_s, zx_pu_n, zx_rv_s, zx_rv_n, true_and, and_true, true_or, or_true, zb_0, zb_1, zq_lcl, zq_lcg, zq_lce, eq_self, ite_true, ite_false, zk_138, zw_138, zk_139, zw_139, zk_140, zw_140, zk_141, zw_141, zk_142, zw_142, zk_143, zw_143, zk_144, zw_144, zk_145, zw_145, zk_146, zw_146, zk_147, zw_147, zk_148, zw_148, zk_149, zw_149, zk_150, zw_150, zk_151, zw_151, zk_152, zw_152, zq_138_1, zq_138_2, zq_138_3, zq_138_4, zq_138_16, zq_138_19, zq_138_20, zq_138_24, zq_138_25, zq_138_26, zq_138_27, zq_138_31, zq_138_32, zq_138_33, e7]
    rw [h2]
    simp (disch := omega) only [↓zs_158_47, ↓zs_158_48, ↓zs_158_49, ↓zs_158_52, zx_pu_s, zx_pu_n, zx_rv_s, zx_rv_n, true_and, and_true, true_or, or_true, zb_0, zb_1, zq_lcl, zq_lcg, zq_lce, eq_self, ite_true, ite_false, zk_138, zw_138, zk_139, zw_139, zk_140, zw_140, zk_141, zw_141, zk_142, zw_142, zk_143, zw_143, zk_144, zw_144, zk_145, zw_145, zk_146, zw_146, zk_147, zw_147, zk_148, zw_148, zk_149, zw_149, zk_150, zw_150, zk_151, zw_151, zk_152, zw_152, zq_138_1, zq_138_2, zq_138_3, zq_138_4, zq_138_16, zq_138_19, zq_138_20, zq_138_24, zq_138_25, zq_138_26, zq_138_27, zq_138_31, zq_138_32, zq_138_33, g2]
  generalize zx_u I2 138 7 (nI s) = I3 at *
  unfold zf_tk1
  by_cases cn : n ≤ s
  · rw [if_pos cn]
    have cn' : ¬ s < n := by omega
    refine ⟨zx_u I3 138 9 (nI 28), fun a j w => by rw [zu_n (by omega)]; exact fr3 a j (by omega), ⟨?_, ?_, zu_s _ _ _ _, fun w => absurd w (by show ¬ (28 : Nat) = 27; decide)⟩, fun d P => ?_⟩
    · rw [zu_n (by omega)]; exact g7
    · rw [zu_n (by omega)]; exact g6
    · rw [begin]
      simp (disch := omega) only [↓zs_158_55, ↓zs_158_56, ↓zs_158_59, ↓zs_158_60, ↓zs_158_63, ↓zs_158_66, ↓zs_158_67, ↓zs_158_69, ↓zs_158_72, ↓zs_158_294, zx_pu_s, zx_pu_n, zx_rv_s, zx_rv_n, true_and, and_true, true_or, or_true, zb_0, zb_1, zq_lcl, zq_lcg, zq_lce, eq_self, ite_true, ite_false, zk_138, zw_138, zk_139, zw_139, zk_140, zw_140, zk_141, zw_141, zk_142, zw_142, zk_143, zw_143, zk_144, zw_144, zk_145, zw_145, zk_146, zw_146, zk_147, zw_147, zk_148, zw_148, zk_149, zw_149, zk_150, zw_150, zk_151, zw_151, zk_152, zw_152, zq_138_1, zq_138_2, zq_138_3, zq_138_4, zq_138_16, zq_138_19, zq_138_20, zq_138_24, zq_138_25, zq_138_26, zq_138_27, zq_138_31, zq_138_32, zq_138_33, nI_ltI, g6, g8, cn']
  · rw [if_neg cn]
    have cn' : s < n := by omega
    have ec : zf_c b n s = b s := if_pos cn'
    have hb256 := (z.2.2 s cn').1
    have hb := fun d P => sp_see (d := d) (Lh := Lh) (J := J) (P := P) z3 (i := s) (by omega)
    rw [ec] at hb
    have hsm := fun d L P => sp_small (d := d) (c := b s) (L := L) (I := I3) (J := J) (P := P) (by omega)
    have hdg := fun d L P => sp_digit (d := d) (c := b s) (L := L) (I := I3) (J := J) (P := P) (by omega)
    by_cases c1 : zf_al (b s) = true
    · rw [if_pos c1]
      rw [c1] at hsm
      obtain ⟨w1, w2, w3, w4⟩ := zf_enw_p (b := b) (n := n) (s := s) (by omega)
      generalize hw : zf_enw b n s = f at *
      have wl : ∀ mm a (I1 : zx_MI), a + mm = f → s ≤ a → (∀ a j, ¬ (a = 138 ∧ j = 7) → I1 a j = I3 a j) → I1 138 7 = nI a → ∃ I4, (∀ a j, ¬ (a = 138 ∧ j = 7) → I4 a j = I3 a j) ∧ I4 138 7 = nI f ∧ ∀ d P, zx_wp (d + 5) 158 89 [.ref 138, zx_u0] [] (zx_LL Lh) I1 J P = zx_wp (d + 5) 158 116 [.ref 138, zx_u0] [] (zx_LL Lh) I4 J P := by
        intro mm
        induction mm with
        | zero =>
          intro a I1 ha sa fr e
          obtain rfl : a = f := by omega
          refine ⟨I1, fr, e, fun d P => ?_⟩
          have z1 : zTm I1 b n := zTm_f z3 (fun j => fr 141 j (by omega)) (fr 138 8 (by omega))
          have hb := fun d P => sp_see (d := d) (Lh := Lh) (J := J) (P := P) z1 (i := a) (by omega)
          have hs1 := fun d L P => sp_small (d := d) (c := zf_c b n a) (L := L) (I := I1) (J := J) (P := P) (zf_cm_lt z a)
          rw [w3] at hs1
          rw [zs_158_89]
          simp (disch := omega) only [↓zs_158_90, ↓zs_158_91, ↓zs_158_94, ↓zs_158_97, ↓zs_158_100, ↓zs_158_103, ↓zs_158_104, ↓zs_158_105, ↓zs_158_108, ↓zs_158_109, ↓zs_158_110, ↓zs_158_113, zx_pu_s, zx_pu_n, zx_rv_s, zx_rv_n, true_and, and_true, true_or, or_true, zb_0, zb_1, zq_lcl, zq_lcg, zq_lce, eq_self, ite_true, ite_false, zk_138, zw_138, zk_139, zw_139, zk_140, zw_140, zk_141, zw_141, zk_142, zw_142, zk_143, zw_143, zk_144, zw_144, zk_145, zw_145, zk_146, zw_146, zk_147, zw_147, zk_148, zw_148, zk_149, zw_149, zk_150, zw_150, zk_151, zw_151, zk_152, zw_152, zq_138_1, zq_138_2, zq_138_3, zq_138_4, zq_138_16, zq_138_19, zq_138_20, zq_138_24, zq_138_25, zq_138_26, zq_138_27, zq_138_31, zq_138_32, zq_138_33, e, hb, hs1, zB_0, reduceCtorEq]
        | succ mm ih =>
          intro a I1 ha sa fr e
          have z1 : zTm I1 b n := zTm_f z3 (fun j => fr 141 j (by omega)) (fr 138 8 (by omega))
          have hb := fun d P => sp_see (d := d) (Lh := Lh) (J := J) (P := P) z1 (i := a) (by omega)
          have hs1 := fun d L P => sp_small (d := d) (c := zf_c b n a) (L := L) (I := I1) (J := J) (P := P) (zf_cm_lt z a)
          rw [w4 a sa (by omega)] at hs1
          obtain ⟨I4, fr2, g2, h2⟩ := ih (a + 1) (zx_u I1 138 7 (nI (a + 1))) (by omega) (by omega) (fun a j n => by rw [zu_n (by omega)]; exact fr a j n) (zu_s _ _ _ _)
          refine ⟨I4, fr2, g2, fun d P => ?_⟩
          rw [← h2 d P, zs_158_89]
          simp (disch := omega) only [↓zs_158_90, ↓zs_158_91, ↓zs_158_94, ↓zs_158_97, ↓zs_158_100, ↓zs_158_103, ↓zs_158_104, ↓zs_158_105, ↓zs_158_108, ↓zs_158_109, ↓zs_158_110, ↓zs_158_113, zx_pu_s, zx_pu_n, zx_rv_s, zx_rv_n, true_and, and_true, true_or, or_true, zb_0, zb_1, zq_lcl, zq_lcg, zq_lce, eq_self, ite_true, ite_false, zk_138, zw_138, zk_139, zw_139, zk_140, zw_140, zk_141, zw_141, zk_142, zw_142, zk_143, zw_143, zk_144, zw_144, zk_145, zw_145, zk_146, zw_146, zk_147, zw_147, zk_148, zw_148, zk_149, zw_149, zk_150, zw_150, zk_151, zw_151, zk_152, zw_152, zq_138_1, zq_138_2, zq_138_3, zq_138_4, zq_138_16, zq_138_19, zq_138_20, zq_138_24, zq_138_25, zq_138_26, zq_138_27, zq_138_31, zq_138_32, zq_138_33, nI_add, e, hb, hs1, zB_0, reduceCtorEq]
      obtain ⟨I4, f4, k7, h4⟩ := wl (f - s) s I3 (by omega) (Nat.le_refl _) (fun _ _ _ => rfl) g7
      have z4 : zTm I4 b n := zTm_f z3 (fun j => f4 141 j (by omega)) (f4 138 8 (by omega))
      have si4 : zx_SI I4 := fun a j ha => (f4 a j (by omega)).trans (si3 a j ha)
      have hk := sp_keyAt (Lh := Lh) (J := J) z4 si4 w1 w2 ((f4 138 6 (by omega)).trans g6) k7
      have hn27 : zf_wd b s f ≠ 27 := by
        rcases zf_fi_lt (t := 2) (x := zf_x b s f) zf_km 0 26 with q | q
        · have q' : zf_wd b s f < 24 := q
          omega
        · have q' : zf_wd b s f = 26 := q
          omega
      refine ⟨zx_u I4 138 9 (nI (zf_wd b s f)), fun a j w => by rw [zu_n (by omega), f4 a j (by omega)]; exact fr3 a j (by omega), ⟨?_, ?_, zu_s _ _ _ _, fun w => absurd w hn27⟩, fun d P => ?_⟩
      · rw [zu_n (by omega)]; exact k7
      · rw [zu_n (by omega), f4 138 6 (by omega)]; exact g6
      · rw [begin]
        simp (disch := omega) only [↓zs_158_55, ↓zs_158_56, ↓zs_158_59, ↓zs_158_60, ↓zs_158_63, ↓zs_158_66, ↓zs_158_67, ↓zs_158_69, ↓zs_158_72, ↓zs_158_75, ↓zs_158_76, ↓zs_158_77, ↓zs_158_80, ↓zs_158_83, ↓zs_158_86, zx_pu_s, zx_pu_n, zx_rv_s, zx_rv_n, true_and, and_true, true_or, or_true, zb_0, zb_1, zq_lcl, zq_lcg, zq_lce, eq_self, ite_true, ite_false, zk_138, zw_138, zk_139, zw_139, zk_140, zw_140, zk_141, zw_141, zk_142, zw_142, zk_143, zw_143, zk_144, zw_144, zk_145, zw_145, zk_146, zw_146, zk_147, zw_147, zk_148, zw_148, zk_149, zw_149, zk_150, zw_150, zk_151, zw_151, zk_152, zw_152, zq_138_1, zq_138_2, zq_138_3, zq_138_4, zq_138_16, zq_138_19, zq_138_20, zq_138_24, zq_138_25, zq_138_26, zq_138_27, zq_138_31, zq_138_32, zq_138_33, nI_ltI, g6, g8, cn', hb, hsm, zB_0, reduceCtorEq]
        rw [h4]
        simp (disch := omega) only [↓zs_158_116, ↓zs_158_117, ↓zs_158_118, ↓zs_158_121, ↓zs_158_124, ↓zs_158_294, zx_pu_s, zx_pu_n, zx_rv_s, zx_rv_n, true_and, and_true, true_or, or_true, zb_0, zb_1, zq_lcl, zq_lcg, zq_lce, eq_self, ite_true, ite_false, zk_138, zw_138, zk_139, zw_139, zk_140, zw_140, zk_141, zw_141, zk_142, zw_142, zk_143, zw_143, zk_144, zw_144, zk_145, zw_145, zk_146, zw_146, zk_147, zw_147, zk_148, zw_148, zk_149, zw_149, zk_150, zw_150, zk_151, zw_151, zk_152, zw_152, zq_138_1, zq_138_2, zq_138_3, zq_138_4, zq_138_16, zq_138_19, zq_138_20, zq_138_24, zq_138_25, zq_138_26, zq_138_27, zq_138_31, zq_138_32, zq_138_33, hk]
    · rw [if_neg c1]
      rw [Bool.not_eq_true] at c1
      rw [c1] at hsm
      by_cases c2 : zf_dg (b s) = true
      · rw [if_pos c2]
        rw [c2] at hdg
        obtain ⟨w1, w2, w3, w4⟩ := zf_end2_p (b := b) (n := n) (s := s) (by omega)
        generalize hw : zf_end2 b n s = f at *
        have wl : ∀ mm i (I1 : zx_MI), s + i + mm = f → (∀ a j, ¬ (a = 138 ∧ (j = 7 ∨ j = 10)) → I1 a j = I3 a j) → I1 138 7 = nI (s + i) → I1 138 10 = nI (zf_num b s i) → ∃ I4, (∀ a j, ¬ (a = 138 ∧ (j = 7 ∨ j = 10)) → I4 a j = I3 a j) ∧ I4 138 7 = nI f ∧ I4 138 10 = nI (zf_num b s (f - s)) ∧ ∀ d P, zx_wp (d + 5) 158 146 [.ref 138, zx_u0] [] (zx_LL Lh) I1 J P = zx_wp (d + 5) 158 209 [.ref 138, zx_u0] [] (zx_LL Lh) I4 J P := by
          intro mm
          induction mm with
          | zero =>
            intro i I1 ha fr e ev
            refine ⟨I1, fr, by rw [e, show s + i = f by omega], by rw [ev, show f - s = i by omega], fun d P => ?_⟩
            have z1 : zTm I1 b n := zTm_f z3 (fun j => fr 141 j (by omega)) (fr 138 8 (by omega))
            have hb := fun d P => sp_see (d := d) (Lh := Lh) (J := J) (P := P) z1 (i := s + i) (by omega)
            have hs1 := fun d L P => sp_digit (d := d) (c := zf_c b n (s + i)) (L := L) (I := I1) (J := J) (P := P) (zf_cm_lt z _)
            rw [show s + i = f by omega] at hb hs1 e
            rw [w3] at hs1
            rw [zs_158_146]
            simp (disch := omega) only [↓zs_158_147, ↓zs_158_148, ↓zs_158_151, ↓zs_158_154, ↓zs_158_157, ↓zs_158_160, ↓zs_158_161, ↓zs_158_164, ↓zs_158_165, ↓zs_158_168, ↓zs_158_169, ↓zs_158_170, ↓zs_158_173, ↓zs_158_174, ↓zs_158_176, ↓zs_158_177, ↓zs_158_180, ↓zs_158_181, ↓zs_158_182, ↓zs_158_183, ↓zs_158_186, ↓zs_158_189, ↓zs_158_190, ↓zs_158_192, ↓zs_158_193, ↓zs_158_196, ↓zs_158_197, ↓zs_158_198, ↓zs_158_201, ↓zs_158_202, ↓zs_158_203, ↓zs_158_206, zx_pu_s, zx_pu_n, zx_rv_s, zx_rv_n, true_and, and_true, true_or, or_true, zb_0, zb_1, zq_lcl, zq_lcg, zq_lce, eq_self, ite_true, ite_false, zk_138, zw_138, zk_139, zw_139, zk_140, zw_140, zk_141, zw_141, zk_142, zw_142, zk_143, zw_143, zk_144, zw_144, zk_145, zw_145, zk_146, zw_146, zk_147, zw_147, zk_148, zw_148, zk_149, zw_149, zk_150, zw_150, zk_151, zw_151, zk_152, zw_152, zq_138_1, zq_138_2, zq_138_3, zq_138_4, zq_138_16, zq_138_19, zq_138_20, zq_138_24, zq_138_25, zq_138_26, zq_138_27, zq_138_31, zq_138_32, zq_138_33, e, hb, hs1, zB_0, reduceCtorEq]
          | succ mm ih =>
            intro i I1 ha fr e ev
            have z1 : zTm I1 b n := zTm_f z3 (fun j => fr 141 j (by omega)) (fr 138 8 (by omega))
            have hb := fun d P => sp_see (d := d) (Lh := Lh) (J := J) (P := P) z1 (i := s + i) (by omega)
            have hs1 := fun d L P => sp_digit (d := d) (c := zf_c b n (s + i)) (L := L) (I := I1) (J := J) (P := P) (zf_cm_lt z _)
            have hd := w4 (s + i) (by omega) (by omega)
            rw [hd] at hs1
            have ec : zf_c b n (s + i) = b (s + i) := if_pos (by omega)
            have b256 := (z.2.2 (s + i) (by omega)).1
            have em : zf_mv (b (s + i)) = nI (b (s + i)) := if_pos b256
            rw [ec] at hd hb hs1
            rw [em] at hb hs1
            have h48 : 48 ≤ b (s + i) := by
              unfold zf_dg at hd
              rw [Bool.and_eq_true, decide_eq_true_iff] at hd
              exact hd.1
            have hv := (zf_num_lt (b := b) (s := s) (f := f) (fun j j1 j2 => by
              have q := w4 j j1 j2
              have e1 : zf_c b n j = b j := if_pos (by omega)
              rw [e1, zf_dg, Bool.and_eq_true, decide_eq_true_iff, decide_eq_true_iff] at q
              exact q.2) i (by omega)).2.2.2
            obtain ⟨I4, fr2, k7, k10, h2⟩ := ih (i + 1) (zx_u (if i < 3 then zx_u I1 138 10 (nI (zf_num b s (i + 1))) else I1) 138 7 (nI (s + i + 1))) (by omega) (fun a j n => by
              rw [zu_n (by omega)]
              split
              · rw [zu_n (by omega)]; exact fr a j n
              · exact fr a j n) (zu_s _ _ _ _) (by
              rw [zu_n (by omega)]
              by_cases c3 : i < 3
              · rw [if_pos c3]; exact zu_s _ _ _ _
              · rw [if_neg c3, ev, zf_num, if_neg c3])
            refine ⟨I4, fr2, k7, k10, fun d P => ?_⟩
            have e6' : I1 138 6 = nI s := (fr 138 6 (by omega)).trans g6
            have es : nI (s + i) - nI s = nI i := by rw [pk_sub (by omega), Nat.add_sub_cancel_left]
            rw [← h2 d P, zs_158_146]
            by_cases c3 : i < 3
            · have e5 : ∀ y, zx_u I1 138 10 y 138 7 = nI (s + i) := fun y => (zu_n (by omega)).trans e
              have en : zf_num b s (i + 1) = 10 * zf_num b s i + (b (s + i) - 48) := by rw [zf_num, if_pos c3]
              have eq : nI (10 * zf_num b s i + b (s + i)) - nI 48 = nI (10 * zf_num b s i + (b (s + i) - 48)) := by rw [pk_sub (by omega), show 10 * zf_num b s i + b (s + i) - 48 = 10 * zf_num b s i + (b (s + i) - 48) by omega]
              rw [if_pos c3, en]
              simp (disch := omega) only [↓zs_158_147, ↓zs_158_148, ↓zs_158_151, ↓zs_158_154, ↓zs_158_157, ↓zs_158_160, ↓zs_158_161, ↓zs_158_164, ↓zs_158_165, ↓zs_158_168, ↓zs_158_169, ↓zs_158_170, zx_pu_s, zx_pu_n, zx_rv_s, zx_rv_n, true_and, and_true, true_or, or_true, zb_0, zb_1, zq_lcl, zq_lcg, zq_lce, eq_self, ite_true, ite_false, zk_138, zw_138, zk_139, zw_139, zk_140, zw_140, zk_141, zw_141, zk_142, zw_142, zk_143, zw_143, zk_144, zw_144, zk_145, zw_145, zk_146, zw_146, zk_147, zw_147, zk_148, zw_148, zk_149, zw_149, zk_150, zw_150, zk_151, zw_151, zk_152, zw_152, zq_138_1, zq_138_2, zq_138_3, zq_138_4, zq_138_16, zq_138_19, zq_138_20, zq_138_24, zq_138_25, zq_138_26, zq_138_27, zq_138_31, zq_138_32, zq_138_33, nI_ltI, e, e6', hb, hs1, zB_0, reduceCtorEq, es, c3]
              simp (disch := omega) only [↓zs_158_173, ↓zs_158_174, ↓zs_158_176, ↓zs_158_177, ↓zs_158_180, ↓zs_158_181, ↓zs_158_182, ↓zs_158_183, ↓zs_158_186, ↓zs_158_189, ↓zs_158_190, ↓zs_158_192, ↓zs_158_193, ↓zs_158_196, ↓zs_158_197, ↓zs_158_198, ↓zs_158_201, ↓zs_158_202, ↓zs_158_203, ↓zs_158_206, zx_pu_s, zx_pu_n, zx_rv_s, zx_rv_n, true_and, and_true, true_or, or_true, zb_0, zb_1, zq_lcl, zq_lcg, zq_lce, eq_self, ite_true, ite_false, zk_138, zw_138, zk_139, zw_139, zk_140, zw_140, zk_141, zw_141, zk_142, zw_142, zk_143, zw_143, zk_144, zw_144, zk_145, zw_145, zk_146, zw_146, zk_147, zw_147, zk_148, zw_148, zk_149, zw_149, zk_150, zw_150, zk_151, zw_151, zk_152, zw_152, zq_138_1, zq_138_2, zq_138_3, zq_138_4, zq_138_16, zq_138_19, zq_138_20, zq_138_24, zq_138_25, zq_138_26, zq_138_27, zq_138_31, zq_138_32, zq_138_33, nI_add, pk_mul, e, ev, hb, eq, e5]
            · rw [if_neg c3]
              simp (disch := omega) only [↓zs_158_147, ↓zs_158_148, ↓zs_158_151, ↓zs_158_154, ↓zs_158_157, ↓zs_158_160, ↓zs_158_161, ↓zs_158_164, ↓zs_158_165, ↓zs_158_168, ↓zs_158_169, ↓zs_158_170, ↓zs_158_173, ↓zs_158_174, ↓zs_158_176, ↓zs_158_177, ↓zs_158_180, ↓zs_158_181, ↓zs_158_182, ↓zs_158_183, ↓zs_158_186, ↓zs_158_189, ↓zs_158_190, ↓zs_158_192, ↓zs_158_193, ↓zs_158_196, ↓zs_158_197, ↓zs_158_198, ↓zs_158_201, ↓zs_158_202, ↓zs_158_203, ↓zs_158_206, zx_pu_s, zx_pu_n, zx_rv_s, zx_rv_n, true_and, and_true, true_or, or_true, zb_0, zb_1, zq_lcl, zq_lcg, zq_lce, eq_self, ite_true, ite_false, zk_138, zw_138, zk_139, zw_139, zk_140, zw_140, zk_141, zw_141, zk_142, zw_142, zk_143, zw_143, zk_144, zw_144, zk_145, zw_145, zk_146, zw_146, zk_147, zw_147, zk_148, zw_148, zk_149, zw_149, zk_150, zw_150, zk_151, zw_151, zk_152, zw_152, zq_138_1, zq_138_2, zq_138_3, zq_138_4, zq_138_16, zq_138_19, zq_138_20, zq_138_24, zq_138_25, zq_138_26, zq_138_27, zq_138_31, zq_138_32, zq_138_33, nI_ltI, nI_add, e, e6', hb, hs1, zB_0, reduceCtorEq, es, c3]
        obtain ⟨I4, f4, k7, k10, h4⟩ := wl (f - s) 0 (zx_u I3 138 10 (nI 0)) (by omega) (fun a j n => zu_n (by omega)) ((zu_n (by omega)).trans g7) (zu_s _ _ _ _)
        have k6 : I4 138 6 = nI s := (f4 138 6 (by omega)).trans g6
        have es : nI f - nI s = nI (f - s) := pk_sub w1
        refine ⟨zx_u I4 138 9 (nI (if 3 < f - s then 29 else 27)), fun a j w => by rw [zu_n (by omega), f4 a j (by omega)]; exact fr3 a j (by omega), ⟨?_, ?_, zu_s _ _ _ _, fun _ => ?_⟩, fun d P => ?_⟩
        · rw [zu_n (by omega)]; exact k7
        · rw [zu_n (by omega)]; exact k6
        · rw [zu_n (by omega)]; exact k10
        · rw [begin]
          simp (disch := omega) only [↓zs_158_55, ↓zs_158_56, ↓zs_158_59, ↓zs_158_60, ↓zs_158_63, ↓zs_158_66, ↓zs_158_67, ↓zs_158_69, ↓zs_158_72, ↓zs_158_75, ↓zs_158_76, ↓zs_158_77, ↓zs_158_80, ↓zs_158_83, ↓zs_158_86, ↓zs_158_127, ↓zs_158_128, ↓zs_158_129, ↓zs_158_132, ↓zs_158_135, ↓zs_158_138, ↓zs_158_141, ↓zs_158_142, ↓zs_158_143, zx_pu_s, zx_pu_n, zx_rv_s, zx_rv_n, true_and, and_true, true_or, or_true, zb_0, zb_1, zq_lcl, zq_lcg, zq_lce, eq_self, ite_true, ite_false, zk_138, zw_138, zk_139, zw_139, zk_140, zw_140, zk_141, zw_141, zk_142, zw_142, zk_143, zw_143, zk_144, zw_144, zk_145, zw_145, zk_146, zw_146, zk_147, zw_147, zk_148, zw_148, zk_149, zw_149, zk_150, zw_150, zk_151, zw_151, zk_152, zw_152, zq_138_1, zq_138_2, zq_138_3, zq_138_4, zq_138_16, zq_138_19, zq_138_20, zq_138_24, zq_138_25, zq_138_26, zq_138_27, zq_138_31, zq_138_32, zq_138_33, nI_ltI, g6, g8, cn', hb, hsm, hdg, zB_0, reduceCtorEq]
          rw [h4]
          by_cases c : 3 < f - s
          · rw [if_pos c]
            simp (disch := omega) only [↓zs_158_209, ↓zs_158_210, ↓zs_158_211, ↓zs_158_214, ↓zs_158_215, ↓zs_158_218, ↓zs_158_219, ↓zs_158_220, ↓zs_158_223, ↓zs_158_225, ↓zs_158_228, ↓zs_158_230, ↓zs_158_233, ↓zs_158_294, zx_pu_s, zx_pu_n, zx_rv_s, zx_rv_n, true_and, and_true, true_or, or_true, zb_0, zb_1, zq_lcl, zq_lcg, zq_lce, eq_self, ite_true, ite_false, zk_138, zw_138, zk_139, zw_139, zk_140, zw_140, zk_141, zw_141, zk_142, zw_142, zk_143, zw_143, zk_144, zw_144, zk_145, zw_145, zk_146, zw_146, zk_147, zw_147, zk_148, zw_148, zk_149, zw_149, zk_150, zw_150, zk_151, zw_151, zk_152, zw_152, zq_138_1, zq_138_2, zq_138_3, zq_138_4, zq_138_16, zq_138_19, zq_138_20, zq_138_24, zq_138_25, zq_138_26, zq_138_27, zq_138_31, zq_138_32, zq_138_33, nI_ltI, k6, k7, es, c]
          · rw [if_neg c]
            simp (disch := omega) only [↓zs_158_209, ↓zs_158_210, ↓zs_158_211, ↓zs_158_214, ↓zs_158_215, ↓zs_158_218, ↓zs_158_219, ↓zs_158_220, ↓zs_158_223, ↓zs_158_225, ↓zs_158_228, ↓zs_158_230, ↓zs_158_233, ↓zs_158_294, zx_pu_s, zx_pu_n, zx_rv_s, zx_rv_n, true_and, and_true, true_or, or_true, zb_0, zb_1, zq_lcl, zq_lcg, zq_lce, eq_self, ite_true, ite_false, zk_138, zw_138, zk_139, zw_139, zk_140, zw_140, zk_141, zw_141, zk_142, zw_142, zk_143, zw_143, zk_144, zw_144, zk_145, zw_145, zk_146, zw_146, zk_147, zw_147, zk_148, zw_148, zk_149, zw_149, zk_150, zw_150, zk_151, zw_151, zk_152, zw_152, zq_138_1, zq_138_2, zq_138_3, zq_138_4, zq_138_16, zq_138_19, zq_138_20, zq_138_24, zq_138_25, zq_138_26, zq_138_27, zq_138_31, zq_138_32, zq_138_33, nI_ltI, k6, k7, es, c]
      · rw [if_neg c2]
        rw [Bool.not_eq_true] at c2
        rw [c2] at hdg
        have hl1 : zf_len 1 = 12 := by decide +kernel
        have k1 : (zx_LL Lh).1 5011 = (56, 0) := zk_txt (i := 1) (by omega)
        obtain ⟨sg1, sg2⟩ := zf_sgl_eq ⟨b s, hb256⟩
        dsimp only at sg1 sg2
        have wl : ∀ mm k r (I1 : zx_MI), k + mm = 12 → (∀ a j, ¬ (a = 138 ∧ j = 9) → I1 a j = zx_u I3 138 7 (nI (s + 1)) a j) → I1 138 9 = nI r → ∃ I4, (∀ a j, ¬ (a = 138 ∧ j = 9) → I4 a j = zx_u I3 138 7 (nI (s + 1)) a j) ∧ I4 138 9 = nI (zf_sgl (b s) mm k r) ∧ ∀ d P, zx_wp (d + 5) 158 254 [.ref 138, .int (nI k)] [] (zx_LL Lh) I1 J P = P none (zx_LL Lh) I4 J := by
          intro mm
          induction mm with
          | zero =>
            intro k r I1 hk fr e9
            obtain rfl : k = 12 := by omega
            have si1 : zx_SI I1 := fun a j ha => (fr a j (by omega)).trans ((zu_n (by omega)).trans (si3 a j ha))
            have hln := fun d P => zl_length (d := d) (Lh := Lh) (I := I1) (J := J) (P := P) (i := 1) si1 (by omega)
            rw [hl1] at hln
            refine ⟨I1, fr, e9, fun d P => ?_⟩
            rw [zs_158_254]
            simp (disch := omega) only [↓zs_158_255, ↓zs_158_257, ↓zs_158_260, ↓zs_158_263, ↓zs_158_264, ↓zs_158_265, ↓zs_158_268, ↓zs_158_271, ↓zs_158_273, ↓zs_158_274, ↓zs_158_277, ↓zs_158_280, ↓zs_158_281, ↓zs_158_283, ↓zs_158_284, ↓zs_158_285, ↓zs_158_288, ↓zs_158_291, ↓zs_158_294, zx_pu_s, zx_pu_n, zx_rv_s, zx_rv_n, true_and, and_true, true_or, or_true, zb_0, zb_1, zq_lcl, zq_lcg, zq_lce, eq_self, ite_true, ite_false, nI_ltI, Nat.lt_irrefl, k1, hln]
          | succ mm ih =>
            intro k r I1 hk fr e9
            have lt : k < 12 := by omega
            have si1 : zx_SI I1 := fun a j ha => (fr a j (by omega)).trans ((zu_n (by omega)).trans (si3 a j ha))
            have hln := fun d P => zl_length (d := d) (Lh := Lh) (I := I1) (J := J) (P := P) (i := 1) si1 (by omega)
            rw [hl1] at hln
            have hc := fun d P => zl_charAt (d := d) (Lh := Lh) (I := I1) (J := J) (P := P) (i := 1) (j := k) si1 (by omega) (by rw [hl1]; exact lt)
            have z1 : zTm I1 b n := zTm_f z3 (fun j => (fr 141 j (by omega)).trans (zu_n (by omega))) ((fr 138 8 (by omega)).trans (zu_n (by omega)))
            have hb1 := fun d P => sp_see (d := d) (Lh := Lh) (J := J) (P := P) z1 (i := s) (by omega)
            rw [ec] at hb1
            have e6' : I1 138 6 = nI s := (fr 138 6 (by omega)).trans ((zu_n (by omega)).trans g6)
            rw [zf_sgl]
            by_cases c : zf_mv (b s) = zf_ch 1 k
            · have c' : (zf_mv (b s) = zf_ch 1 k) = True := eq_true c
              obtain ⟨I4, fr4, g4, h4⟩ := ih (k + 1) (40 + k) (zx_u I1 138 9 (nI (40 + k))) (by omega) (fun a j n => by rw [zu_n (by omega)]; exact fr a j n) (zu_s _ _ _ _)
              rw [if_pos c]
              refine ⟨I4, fr4, g4, fun d P => ?_⟩
              rw [← h4 d P, zs_158_254]
              simp (disch := omega) only [↓zs_158_255, ↓zs_158_257, ↓zs_158_260, ↓zs_158_263, ↓zs_158_264, ↓zs_158_265, ↓zs_158_268, ↓zs_158_271, ↓zs_158_273, ↓zs_158_274, ↓zs_158_277, ↓zs_158_280, ↓zs_158_281, ↓zs_158_283, ↓zs_158_284, ↓zs_158_285, ↓zs_158_288, ↓zs_158_291, ↓zs_158_294, zx_pu_s, zx_pu_n, zx_rv_s, zx_rv_n, true_and, and_true, true_or, or_true, zb_0, zb_1, zq_lcl, zq_lcg, zq_lce, eq_self, ite_true, ite_false, zk_138, zw_138, zk_139, zw_139, zk_140, zw_140, zk_141, zw_141, zk_142, zw_142, zk_143, zw_143, zk_144, zw_144, zk_145, zw_145, zk_146, zw_146, zk_147, zw_147, zk_148, zw_148, zk_149, zw_149, zk_150, zw_150, zk_151, zw_151, zk_152, zw_152, zq_138_1, zq_138_2, zq_138_3, zq_138_4, zq_138_16, zq_138_19, zq_138_20, zq_138_24, zq_138_25, zq_138_26, zq_138_27, zq_138_31, zq_138_32, zq_138_33, nI_ltI, nI_add, lt, k1, hln, hc, e6', hb1, c']
            · have c' : (zf_mv (b s) = zf_ch 1 k) = False := eq_false c
              obtain ⟨I4, fr4, g4, h4⟩ := ih (k + 1) r I1 (by omega) fr e9
              rw [if_neg c]
              refine ⟨I4, fr4, g4, fun d P => ?_⟩
              rw [← h4 d P, zs_158_254]
              simp (disch := omega) only [↓zs_158_255, ↓zs_158_257, ↓zs_158_260, ↓zs_158_263, ↓zs_158_264, ↓zs_158_265, ↓zs_158_268, ↓zs_158_271, ↓zs_158_273, ↓zs_158_274, ↓zs_158_277, ↓zs_158_280, ↓zs_158_281, ↓zs_158_283, ↓zs_158_284, ↓zs_158_285, ↓zs_158_288, ↓zs_158_291, ↓zs_158_294, zx_pu_s, zx_pu_n, zx_rv_s, zx_rv_n, true_and, and_true, true_or, or_true, zb_0, zb_1, zq_lcl, zq_lcg, zq_lce, eq_self, ite_true, ite_false, zk_138, zw_138, zk_139, zw_139, zk_140, zw_140, zk_141, zw_141, zk_142, zw_142, zk_143, zw_143, zk_144, zw_144, zk_145, zw_145, zk_146, zw_146, zk_147, zw_147, zk_148, zw_148, zk_149, zw_149, zk_150, zw_150, zk_151, zw_151, zk_152, zw_152, zq_138_1, zq_138_2, zq_138_3, zq_138_4, zq_138_16, zq_138_19, zq_138_20, zq_138_24, zq_138_25, zq_138_26, zq_138_27, zq_138_31, zq_138_32, zq_138_33, nI_ltI, nI_add, lt, k1, hln, hc, e6', hb1, c']
        obtain ⟨I4, f4, k9, h4⟩ := wl 12 0 29 (zx_u (zx_u I3 138 7 (nI (s + 1))) 138 9 (nI 29)) (by omega) (fun a j n => zu_n (by omega)) (zu_s _ _ _ _)
        rw [sg1] at k9
        refine ⟨I4, fun a j w => by rw [f4 a j (by omega), zu_n (by omega)]; exact fr3 a j (by omega), ⟨?_, ?_, k9, fun w => absurd w sg2⟩, fun d P => ?_⟩
        · rw [f4 138 7 (by omega), zu_s]
        · rw [f4 138 6 (by omega), zu_n (by omega)]; exact g6
        · rw [← h4 d P, begin]
          simp (disch := omega) only [↓zs_158_55, ↓zs_158_56, ↓zs_158_59, ↓zs_158_60, ↓zs_158_63, ↓zs_158_66, ↓zs_158_67, ↓zs_158_69, ↓zs_158_72, ↓zs_158_75, ↓zs_158_76, ↓zs_158_77, ↓zs_158_80, ↓zs_158_83, ↓zs_158_86, ↓zs_158_127, ↓zs_158_128, ↓zs_158_129, ↓zs_158_132, ↓zs_158_135, ↓zs_158_138, ↓zs_158_141, ↓zs_158_142, ↓zs_158_143, zx_pu_s, zx_pu_n, zx_rv_s, zx_rv_n, true_and, and_true, true_or, or_true, zb_0, zb_1, zq_lcl, zq_lcg, zq_lce, eq_self, ite_true, ite_false, zk_138, zw_138, zk_139, zw_139, zk_140, zw_140, zk_141, zw_141, zk_142, zw_142, zk_143, zw_143, zk_144, zw_144, zk_145, zw_145, zk_146, zw_146, zk_147, zw_147, zk_148, zw_148, zk_149, zw_149, zk_150, zw_150, zk_151, zw_151, zk_152, zw_152, zq_138_1, zq_138_2, zq_138_3, zq_138_4, zq_138_16, zq_138_19, zq_138_20, zq_138_24, zq_138_25, zq_138_26, zq_138_27, zq_138_31, zq_138_32, zq_138_33, nI_ltI, g6, g8, cn', hb, hsm, hdg, zB_0, reduceCtorEq]
          simp (disch := omega) only [↓zs_158_236, ↓zs_158_237, ↓zs_158_238, ↓zs_158_241, ↓zs_158_242, ↓zs_158_243, ↓zs_158_246, ↓zs_158_247, ↓zs_158_249, ↓zs_158_252, ↓zs_158_253, zx_pu_s, zx_pu_n, zx_rv_s, zx_rv_n, true_and, and_true, true_or, or_true, zb_0, zb_1, zq_lcl, zq_lcg, zq_lce, eq_self, ite_true, ite_false, zk_138, zw_138, zk_139, zw_139, zk_140, zw_140, zk_141, zw_141, zk_142, zw_142, zk_143, zw_143, zk_144, zw_144, zk_145, zw_145, zk_146, zw_146, zk_147, zw_147, zk_148, zw_148, zk_149, zw_149, zk_150, zw_150, zk_151, zw_151, zk_152, zw_152, zq_138_1, zq_138_2, zq_138_3, zq_138_4, zq_138_16, zq_138_19, zq_138_20, zq_138_24, zq_138_25, zq_138_26, zq_138_27, zq_138_31, zq_138_32, zq_138_33, nI_add, g7]
end TM
