/-! bits: a bit set, how many -/
section BT
variable {d Lh : Nat} {L : zx_Lay} {I : zx_MI} {J : zx_MJ} {P : Option Value → zx_Lay → zx_MI → zx_MJ → Prop}
theorem zl_01 : (lN 0 = lN 1) = False := eq_false (by decide +kernel)
theorem zl_10 : (lN 1 = lN 0) = False := eq_false (by decide +kernel)
theorem sp_isIn {b : Int64} {k : Nat} (hk : k < 64) : zx_rn d 163 [.long b, .int (nI k)] L I J P = P (some (.int (zB (zf_bit b k)))) L I J := by
  rw [ze_163]
  simp only [↓zs_163_0, ↓zs_163_1, ↓zs_163_2, ↓zs_163_3, ↓zs_163_4, ↓zs_163_5, ↓zs_163_6, ↓zs_163_7, ↓zs_163_10, ↓zs_163_11, ↓zs_163_14, ↓zs_163_15, zx_pu_s, zx_pu_n, zx_rv_s, zx_rv_n, true_and, and_true, true_or, or_true, zb_0, zb_1, zq_lcl, zq_lcg, zq_lce, eq_self, ite_true, ite_false, zt_shr hk]
  cases zf_bit b k <;> simp only [reduceCtorEq, if_true, if_false, zl_01] <;> rfl
theorem sp_bits {b : Int64} : zx_rn (d + 1) 196 [.long b] L I J P = P (some (.int (nI (zf_cnt (zf_bit b) 64 0)))) L I J := by
  have loop : ∀ m k c, k + m = 64 → zx_wp (d + 1) 196 4 [.long b, zx_u0, .int (nI c), .int (nI k)] [] L I J P = P (some (.int (nI (c + zf_cnt (zf_bit b) m k)))) L I J := by
    intro m
    induction m with
    | zero =>
      intro k c hk
      rw [zs_196_4]
      have h : ¬ k < 64 := by omega
      simp (disch := omega) only [↓zs_196_0, ↓zs_196_1, ↓zs_196_2, ↓zs_196_3, ↓zs_196_5, ↓zs_196_7, ↓zs_196_10, ↓zs_196_11, ↓zs_196_12, ↓zs_196_13, ↓zs_196_16, ↓zs_196_19, ↓zs_196_20, ↓zs_196_23, ↓zs_196_24, ↓zs_196_25, ↓zs_196_26, ↓zs_196_29, ↓zs_196_32, ↓zs_196_33, zx_pu_s, zx_pu_n, zx_rv_s, zx_rv_n, true_and, and_true, true_or, or_true, zb_0, zb_1, zq_lcl, zq_lcg, zq_lce, eq_self, ite_true, ite_false, zn_10, zn_40, zn_040, zn_340, nI_add, zin_nI, nI_clamp, nI_ltI, nI_eq, pk_mul, nI_l, h]
      rfl
    | succ m ih =>
      intro k c hk
      rw [zs_196_4]
      have h : k < 64 := by omega
      simp (disch := omega) only [↓zs_196_0, ↓zs_196_1, ↓zs_196_2, ↓zs_196_3, ↓zs_196_5, ↓zs_196_7, ↓zs_196_10, ↓zs_196_11, ↓zs_196_12, ↓zs_196_13, ↓zs_196_16, ↓zs_196_19, ↓zs_196_20, ↓zs_196_23, ↓zs_196_24, ↓zs_196_25, ↓zs_196_26, ↓zs_196_29, ↓zs_196_32, ↓zs_196_33, zx_pu_s, zx_pu_n, zx_rv_s, zx_rv_n, true_and, and_true, true_or, or_true, zb_0, zb_1, zq_lcl, zq_lcg, zq_lce, eq_self, ite_true, ite_false, zn_10, zn_40, zn_040, zn_340, nI_add, zin_nI, nI_clamp, nI_ltI, nI_eq, pk_mul, nI_l, h, sp_isIn, zB_0, nI_1]
      rw [zf_cnt]
      cases zf_bit b k
      · simp only [reduceCtorEq, if_true, if_false, Nat.add_zero, Nat.zero_add]
        exact ih (k + 1) c (by omega)
      · simp only [reduceCtorEq, if_true, if_false]
        rw [ih (k + 1) (c + 1) (by omega), Nat.add_assoc]
  rw [ze_196]
  simp only [↓zs_196_0, ↓zs_196_1, ↓zs_196_2, ↓zs_196_3, ↓zs_196_5, ↓zs_196_7, ↓zs_196_10, ↓zs_196_11, ↓zs_196_12, ↓zs_196_13, ↓zs_196_16, ↓zs_196_19, ↓zs_196_20, ↓zs_196_23, ↓zs_196_24, ↓zs_196_25, ↓zs_196_26, ↓zs_196_29, ↓zs_196_32, ↓zs_196_33, zx_pu_s, zx_pu_n, zx_rv_s, zx_rv_n, true_and, and_true, true_or, or_true, zb_0, zb_1, zq_lcl, zq_lcg, zq_lce, eq_self, ite_true, ite_false]
  rw [loop 64 0 0 (by omega), Nat.zero_add]
end BT
