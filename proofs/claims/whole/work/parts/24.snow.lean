/-! the snow -/
/-- snow i of the row B lies in NIGHT n -/
def zf_snowP (B : Nat → Int32) (n : Nat) (i : Nat) : Bool := decide (zf_nat (B (37 + 2 * i)) ≤ n) && decide (n < zf_nat (B (37 + 2 * i)) + zf_nat (B (37 + 2 * i + 1)))
/-- the row's snows are small numbers -/
def zM_snow (B : Nat → Int32) (M : Nat) : Prop := B 5 = nI M ∧ M ≤ 4 ∧ ∀ i, i < M → ∃ a b, a < 2 ^ 20 ∧ b < 2 ^ 20 ∧ B (37 + 2 * i) = nI a ∧ B (37 + 2 * i + 1) = nI b
section SN
variable {d Lh w h N M n : Nat} {I : zx_MI} {J : zx_MJ} {P : Option Value → zx_Lay → zx_MI → zx_MJ → Prop}
theorem sp_isSnow (ok : zM_snow (I 139) M) (hn : I 139 133 = nI n) (n30 : n < 2 ^ 30) : zx_rn (d + 1) 201 [.ref 138] (zx_LL Lh) I J P = P (some (.int (zB (zf_any (zf_snowP (I 139) n) M 0)))) (zx_LL Lh) I J := by
  obtain ⟨hM, M4, hs⟩ := ok
  have loop : ∀ m k, k + m = M → zx_wp (d + 1) 201 2 [.ref 138, .int (nI k)] [] (zx_LL Lh) I J P = P (some (.int (zB (zf_any (zf_snowP (I 139) n) m k)))) (zx_LL Lh) I J := by
    intro m
    induction m with
    | zero =>
      intro k hk
      rw [zs_201_2]
      have h : ¬ k < M := by omega
      simp (disch := omega) only [↓zs_201_0, ↓zs_201_1, ↓zs_201_3, ↓zs_201_4, ↓zs_201_7, ↓zs_201_8, ↓zs_201_9, ↓zs_201_12, ↓zs_201_13, ↓zs_201_16, ↓zs_201_19, ↓zs_201_20, ↓zs_201_21, ↓zs_201_22, ↓zs_201_25, ↓zs_201_27, ↓zs_201_28, ↓zs_201_29, ↓zs_201_30, ↓zs_201_31, ↓zs_201_32, ↓zs_201_33, ↓zs_201_34, ↓zs_201_37, ↓zs_201_39, ↓zs_201_40, ↓zs_201_41, ↓zs_201_42, ↓zs_201_43, ↓zs_201_44, ↓zs_201_45, ↓zs_201_48, ↓zs_201_50, ↓zs_201_51, ↓zs_201_52, ↓zs_201_53, ↓zs_201_54, ↓zs_201_55, ↓zs_201_56, ↓zs_201_57, ↓zs_201_58, ↓zs_201_59, ↓zs_201_60, ↓zs_201_61, ↓zs_201_64, ↓zs_201_67, ↓zs_201_68, ↓zs_201_69, ↓zs_201_72, ↓zs_201_75, ↓zs_201_76, zx_pu_s, zx_pu_n, zx_rv_s, zx_rv_n, true_and, and_true, true_or, or_true, zb_0, zb_1, zq_lcl, zq_lcg, zq_lce, eq_self, ite_true, ite_false, zk_138, zw_138, zk_139, zw_139, zk_140, zw_140, zk_141, zw_141, zk_142, zw_142, zk_143, zw_143, zk_144, zw_144, zk_145, zw_145, zk_146, zw_146, zk_147, zw_147, zk_148, zw_148, zk_149, zw_149, zk_150, zw_150, zk_151, zw_151, zk_152, zw_152, zq_138_1, zq_138_2, zq_138_3, zq_138_4, zq_138_16, zq_138_19, zq_138_20, zq_138_24, zq_138_25, zq_138_26, zq_138_27, zq_138_31, zq_138_32, zq_138_33, zn_10, zn_40, zn_040, zn_340, nI_add, zin_nI, nI_clamp, nI_ltI, nI_eq, pk_mul, nI_l, hM, h]
      rfl
    | succ m ih =>
      intro k hk
      rw [zs_201_2]
      have h : k < M := by omega
      obtain ⟨a, b, ha, hb, ea, eb⟩ := hs k h
      have e1 : (lN n < lN a) = (n < a) := propext (lN_lt (by omega) (by omega))
      have e2 : ((nI (a + b) - nI 1).toInt64 < lN n) = (a + b ≤ n) := by
        rw [zL_up _ (by omega), lN_toInt (by omega)]
        exact propext ⟨fun _ => by omega, fun _ => by omega⟩
      simp (disch := omega) only [↓zs_201_3, ↓zs_201_4, ↓zs_201_7, ↓zs_201_8, ↓zs_201_9, ↓zs_201_12, ↓zs_201_13, ↓zs_201_16, ↓zs_201_19, ↓zs_201_20, ↓zs_201_21, ↓zs_201_22, ↓zs_201_25, ↓zs_201_27, ↓zs_201_28, ↓zs_201_29, ↓zs_201_30, ↓zs_201_31, ↓zs_201_32, ↓zs_201_33, ↓zs_201_34, ↓zs_201_37, ↓zs_201_39, ↓zs_201_40, ↓zs_201_41, ↓zs_201_42, ↓zs_201_43, ↓zs_201_44, ↓zs_201_45, ↓zs_201_48, ↓zs_201_50, ↓zs_201_51, ↓zs_201_52, ↓zs_201_53, ↓zs_201_54, ↓zs_201_55, zx_pu_s, zx_pu_n, zx_rv_s, zx_rv_n, true_and, and_true, true_or, or_true, zb_0, zb_1, zq_lcl, zq_lcg, zq_lce, eq_self, ite_true, ite_false, zk_138, zw_138, zk_139, zw_139, zk_140, zw_140, zk_141, zw_141, zk_142, zw_142, zk_143, zw_143, zk_144, zw_144, zk_145, zw_145, zk_146, zw_146, zk_147, zw_147, zk_148, zw_148, zk_149, zw_149, zk_150, zw_150, zk_151, zw_151, zk_152, zw_152, zq_138_1, zq_138_2, zq_138_3, zq_138_4, zq_138_16, zq_138_19, zq_138_20, zq_138_24, zq_138_25, zq_138_26, zq_138_27, zq_138_31, zq_138_32, zq_138_33, zn_10, zn_40, zn_040, zn_340, nI_add, zin_nI, nI_clamp, nI_ltI, nI_eq, pk_mul, nI_l, hM, h, hn, ea, eb]
      simp (disch := omega) only [↓zs_201_56, ↓zs_201_57, ↓zs_201_58, ↓zs_201_59, ↓zs_201_60, ↓zs_201_61, ↓zs_201_64, ↓zs_201_67, ↓zs_201_68, ↓zs_201_69, ↓zs_201_72, ↓zs_201_75, ↓zs_201_76, zx_pu_s, zx_pu_n, zx_rv_s, zx_rv_n, true_and, and_true, true_or, or_true, zb_0, zb_1, zq_lcl, zq_lcg, zq_lce, eq_self, ite_true, ite_false, zk_138, zw_138, zk_139, zw_139, zk_140, zw_140, zk_141, zw_141, zk_142, zw_142, zk_143, zw_143, zk_144, zw_144, zk_145, zw_145, zk_146, zw_146, zk_147, zw_147, zk_148, zw_148, zk_149, zw_149, zk_150, zw_150, zk_151, zw_151, zk_152, zw_152, zq_138_1, zq_138_2, zq_138_3, zq_138_4, zq_138_16, zq_138_19, zq_138_20, zq_138_24, zq_138_25, zq_138_26, zq_138_27, zq_138_31, zq_138_32, zq_138_33, zn_10, zn_40, zn_040, zn_340, nI_add, zin_nI, nI_clamp, nI_ltI, nI_eq, pk_mul, nI_l, hM, h, hn, ea, eb, sp_within, zB_0, nI_1, e1, e2]
      have e3 : zf_snowP (I 139) n k = (!decide (n < a) && !decide (a + b ≤ n)) := by
        rw [zf_snowP, ea, eb, zf_nat, zf_nat, nI_clamp (by omega), nI_clamp (by omega)]
        by_cases h1 : n < a <;> by_cases h2 : a + b ≤ n <;> simp only [h1, h2, decide_true, decide_false] <;> simp only [Nat.not_lt.mpr, Nat.not_le.mpr, show (a ≤ n) = ¬ n < a from propext Nat.not_lt.symm, show (n < a + b) = ¬ a + b ≤ n from propext Nat.not_le.symm, h1, h2, not_true_eq_false, not_false_eq_true, decide_true, decide_false] <;> rfl
      rw [zf_any, e3]
      cases hc : (!decide (n < a) && !decide (a + b ≤ n))
      · simp only [Bool.false_or, if_true]
        exact ih (k + 1) (by omega)
      · simp only [Bool.true_or, reduceCtorEq, if_false]
        rfl
  rw [ze_201]
  simp only [↓zs_201_0, ↓zs_201_1, ↓zs_201_3, ↓zs_201_4, ↓zs_201_7, ↓zs_201_8, ↓zs_201_9, ↓zs_201_12, ↓zs_201_13, ↓zs_201_16, ↓zs_201_19, ↓zs_201_20, ↓zs_201_21, ↓zs_201_22, ↓zs_201_25, ↓zs_201_27, ↓zs_201_28, ↓zs_201_29, ↓zs_201_30, ↓zs_201_31, ↓zs_201_32, ↓zs_201_33, ↓zs_201_34, ↓zs_201_37, ↓zs_201_39, ↓zs_201_40, ↓zs_201_41, ↓zs_201_42, ↓zs_201_43, ↓zs_201_44, ↓zs_201_45, ↓zs_201_48, ↓zs_201_50, ↓zs_201_51, ↓zs_201_52, ↓zs_201_53, ↓zs_201_54, ↓zs_201_55, ↓zs_201_56, ↓zs_201_57, ↓zs_201_58, ↓zs_201_59, ↓zs_201_60, ↓zs_201_61, ↓zs_201_64, ↓zs_201_67, ↓zs_201_68, ↓zs_201_69, ↓zs_201_72, ↓zs_201_75, ↓zs_201_76, zx_pu_s, zx_pu_n, zx_rv_s, zx_rv_n, true_and, and_true, true_or, or_true, zb_0, zb_1, zq_lcl, zq_lcg, zq_lce, eq_self, ite_true, ite_false]
  exact loop M 0 (by omega)
end SN
