/-! the class's snow -/
/-- the snows of the square in cell S are those of the row B -/
def zR_snow (I : zx_MI) (S : Nat) (B : Nat → Int32) (M : Nat) : Prop := I S 11 = B 5 ∧ ∀ i, i < M → I (S + 8) i = B (37 + 2 * i) ∧ I (S + 9) i = B (37 + 2 * i + 1)
section SM
variable {d Lh w h N M n : Nat} {I : zx_MI} {J : zx_MJ} {P : Option Value → zx_Lay → zx_MI → zx_MJ → Prop}
theorem sc_snowLies {S : Nat} {B : Nat → Int32} (hS : zx_sq S) (rel : zR_snow I S B M) (ok : zM_snow B M) (n30 : n < 2 ^ 30) : zx_rn d 57 [.ref S, .int (nI n)] (zx_LL Lh) I J P = P (some (.int (zB (zf_any (zf_snowP B n) M 0)))) (zx_LL Lh) I J := by
  obtain ⟨hM, M4, hs⟩ := ok
  obtain ⟨k0, -, -, -, -, -, -, -, k8, k9⟩ := zS_k (Lh := Lh) hS
  obtain ⟨-, -, -, -, -, -, -, q8, q9⟩ := zS_q (Lh := Lh) hS
  have hm : I S 11 = nI M := rel.1.trans hM
  have loop : ∀ m k, k + m = M → zx_wp d 57 2 [.ref S, .int (nI n), .int (nI k)] [] (zx_LL Lh) I J P = P (some (.int (zB (zf_any (zf_snowP B n) m k)))) (zx_LL Lh) I J := by
    intro m
    induction m with
    | zero =>
      intro k hk
      rw [zs_57_2]
      have h : ¬ k < M := by omega
      simp (disch := omega) only [↓zs_57_0, ↓zs_57_1, ↓zs_57_3, ↓zs_57_4, ↓zs_57_7, ↓zs_57_10, ↓zs_57_11, ↓zs_57_12, ↓zs_57_15, ↓zs_57_16, ↓zs_57_17, ↓zs_57_20, ↓zs_57_21, ↓zs_57_22, ↓zs_57_25, ↓zs_57_26, ↓zs_57_27, ↓zs_57_30, ↓zs_57_31, ↓zs_57_32, ↓zs_57_33, ↓zs_57_34, ↓zs_57_37, ↓zs_57_38, ↓zs_57_39, ↓zs_57_42, ↓zs_57_43, ↓zs_57_44, ↓zs_57_47, ↓zs_57_50, ↓zs_57_51, zx_pu_s, zx_pu_n, zx_rv_s, zx_rv_n, true_and, and_true, true_or, or_true, zb_0, zb_1, zq_lcl, zq_lcg, zq_lce, eq_self, ite_true, ite_false, zn_10, zn_40, zn_040, zn_340, nI_add, zin_nI, nI_clamp, nI_ltI, nI_eq, pk_mul, nI_l, k0, hm, h]
      rfl
    | succ m ih =>
      intro k hk
      rw [zs_57_2]
      have h : k < M := by omega
      have h4 : k < 4 := by omega
      obtain ⟨a, b, ha, hb, ea, eb⟩ := hs k h
      have ra : I (S + 8) k = nI a := (rel.2 k h).1.trans ea
      have rb : I (S + 9) k = nI b := (rel.2 k h).2.trans eb
      have e3 : zf_snowP B n k = (decide (a ≤ n) && decide (n < a + b)) := by
        rw [zf_snowP, ea, eb, zf_nat, zf_nat, nI_clamp (by omega), nI_clamp (by omega)]
      rw [zf_any, e3]
      by_cases h1 : n < a
      · simp (disch := omega) only [↓zs_57_0, ↓zs_57_1, ↓zs_57_3, ↓zs_57_4, ↓zs_57_7, ↓zs_57_10, ↓zs_57_11, ↓zs_57_12, ↓zs_57_15, ↓zs_57_16, ↓zs_57_17, ↓zs_57_20, ↓zs_57_21, ↓zs_57_22, ↓zs_57_25, ↓zs_57_26, ↓zs_57_27, ↓zs_57_30, ↓zs_57_31, ↓zs_57_32, ↓zs_57_33, ↓zs_57_34, ↓zs_57_37, ↓zs_57_38, ↓zs_57_39, ↓zs_57_42, ↓zs_57_43, ↓zs_57_44, ↓zs_57_47, ↓zs_57_50, ↓zs_57_51, zx_pu_s, zx_pu_n, zx_rv_s, zx_rv_n, true_and, and_true, true_or, or_true, zb_0, zb_1, zq_lcl, zq_lcg, zq_lce, eq_self, ite_true, ite_false, zn_10, zn_40, zn_040, zn_340, nI_add, zin_nI, nI_clamp, nI_ltI, nI_eq, pk_mul, nI_l, k0, k8, k9, q8, q9, hm, h, h4, ra, rb, nI_1, h1]
        rw [ih (k + 1) (by omega), show decide (a ≤ n) = false from decide_eq_false (by omega), Bool.false_and, Bool.false_or]
      · rw [show decide (a ≤ n) = true from decide_eq_true (by omega), Bool.true_and]
        by_cases h2 : n < a + b
        · have h3 : n - a < b := by omega
          simp (disch := omega) only [↓zs_57_0, ↓zs_57_1, ↓zs_57_3, ↓zs_57_4, ↓zs_57_7, ↓zs_57_10, ↓zs_57_11, ↓zs_57_12, ↓zs_57_15, ↓zs_57_16, ↓zs_57_17, ↓zs_57_20, ↓zs_57_21, ↓zs_57_22, ↓zs_57_25, ↓zs_57_26, ↓zs_57_27, ↓zs_57_30, ↓zs_57_31, ↓zs_57_32, ↓zs_57_33, ↓zs_57_34, ↓zs_57_37, ↓zs_57_38, ↓zs_57_39, ↓zs_57_42, ↓zs_57_43, ↓zs_57_44, ↓zs_57_47, ↓zs_57_50, ↓zs_57_51, zx_pu_s, zx_pu_n, zx_rv_s, zx_rv_n, true_and, and_true, true_or, or_true, zb_0, zb_1, zq_lcl, zq_lcg, zq_lce, eq_self, ite_true, ite_false, zn_10, zn_40, zn_040, zn_340, nI_add, zin_nI, nI_clamp, nI_ltI, nI_eq, pk_mul, nI_l, k0, k8, k9, q8, q9, hm, h, h4, ra, rb, nI_1, h1, pk_sub, h3]
          rw [decide_eq_true h2, Bool.true_or]; rfl
        · have h3 : ¬ n - a < b := by omega
          simp (disch := omega) only [↓zs_57_0, ↓zs_57_1, ↓zs_57_3, ↓zs_57_4, ↓zs_57_7, ↓zs_57_10, ↓zs_57_11, ↓zs_57_12, ↓zs_57_15, ↓zs_57_16, ↓zs_57_17, ↓zs_57_20, ↓zs_57_21, ↓zs_57_22, ↓zs_57_25, ↓zs_57_26, ↓zs_57_27, ↓zs_57_30, ↓zs_57_31, ↓zs_57_32, ↓zs_57_33, ↓zs_57_34, ↓zs_57_37, ↓zs_57_38, ↓zs_57_39, ↓zs_57_42, ↓zs_57_43, ↓zs_57_44, ↓zs_57_47, ↓zs_57_50, ↓zs_57_51, zx_pu_s, zx_pu_n, zx_rv_s, zx_rv_n, true_and, and_true, true_or, or_true, zb_0, zb_1, zq_lcl, zq_lcg, zq_lce, eq_self, ite_true, ite_false, zn_10, zn_40, zn_040, zn_340, nI_add, zin_nI, nI_clamp, nI_ltI, nI_eq, pk_mul, nI_l, k0, k8, k9, q8, q9, hm, h, h4, ra, rb, nI_1, h1, pk_sub, h3]
          rw [ih (k + 1) (by omega), decide_eq_false h2, Bool.false_or]
  rw [ze_57]
  simp only [↓zs_57_0, ↓zs_57_1, ↓zs_57_3, ↓zs_57_4, ↓zs_57_7, ↓zs_57_10, ↓zs_57_11, ↓zs_57_12, ↓zs_57_15, ↓zs_57_16, ↓zs_57_17, ↓zs_57_20, ↓zs_57_21, ↓zs_57_22, ↓zs_57_25, ↓zs_57_26, ↓zs_57_27, ↓zs_57_30, ↓zs_57_31, ↓zs_57_32, ↓zs_57_33, ↓zs_57_34, ↓zs_57_37, ↓zs_57_38, ↓zs_57_39, ↓zs_57_42, ↓zs_57_43, ↓zs_57_44, ↓zs_57_47, ↓zs_57_50, ↓zs_57_51, zx_pu_s, zx_pu_n, zx_rv_s, zx_rv_n, true_and, and_true, true_or, or_true, zb_0, zb_1, zq_lcl, zq_lcg, zq_lce, eq_self, ite_true, ite_false]
  exact loop M 0 (by omega)
end SM
