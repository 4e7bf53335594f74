/-! the class's STANDING: who stands, who has a FOE -/
/-- number x, none or a STATUE's, stands by the row f of places -/
def zf_st (f : Nat → Int32) (x : Int32) : Bool := !decide (x = -1) && !decide (f x.toNatClampNeg = -1)
theorem zb_m1 : ((-1 : Int32) < nI 0) = True := eq_true (by decide +kernel)
section C1
variable {d Lh w h N : Nat} {I : zx_MI} {J : zx_MJ} {P : Option Value → zx_Lay → zx_MI → zx_MJ → Prop}
theorem sc_stands {T : Nat} {x : Int32} (hT : zx_st T) (hx : zf_opt x 8) : zx_rn d 70 [.ref T, .int x] (zx_LL Lh) I J P = P (some (.int (zB (zf_st (I (T + 1)) x)))) (zx_LL Lh) I J := by
  obtain ⟨k0, k1, k2, k3⟩ := zT_k (Lh := Lh) hT
  obtain ⟨q0, q1, q2⟩ := zT_q (Lh := Lh) hT
  rw [ze_70]
  unfold zf_st
  rcases hx with hx | ⟨s, hs, hx⟩
  · rw [hx]
    simp (disch := omega) only [↓zs_70_0, ↓zs_70_1, ↓zs_70_4, ↓zs_70_5, ↓zs_70_7, ↓zs_70_10, ↓zs_70_11, ↓zs_70_14, ↓zs_70_15, ↓zs_70_16, ↓zs_70_17, ↓zs_70_20, ↓zs_70_21, ↓zs_70_24, ↓zs_70_25, zx_pu_s, zx_pu_n, zx_rv_s, zx_rv_n, true_and, and_true, true_or, or_true, zb_0, zb_1, zq_lcl, zq_lcg, zq_lce, eq_self, ite_true, ite_false, zn_10, zn_40, zn_040, zn_340, nI_add, zin_nI, nI_clamp, nI_ltI, nI_eq, pk_mul, nI_l, k0, k1, q0, zb_m1]
    rfl
  · have hs' : ¬ s < 0 := by omega
    simp (disch := omega) only [↓zs_70_0, ↓zs_70_1, ↓zs_70_4, ↓zs_70_5, ↓zs_70_7, ↓zs_70_10, ↓zs_70_11, ↓zs_70_14, ↓zs_70_15, ↓zs_70_16, ↓zs_70_17, ↓zs_70_20, ↓zs_70_21, ↓zs_70_24, ↓zs_70_25, zx_pu_s, zx_pu_n, zx_rv_s, zx_rv_n, true_and, and_true, true_or, or_true, zb_0, zb_1, zq_lcl, zq_lcg, zq_lce, eq_self, ite_true, ite_false, zn_10, zn_40, zn_040, zn_340, nI_add, zin_nI, nI_clamp, nI_ltI, nI_eq, pk_mul, nI_l, k0, k1, q0, hx, hs, hs', zq_m1]
    by_cases h1 : I (T + 1) s = -1 <;> simp only [h1, if_true, if_false] <;> rfl
theorem sc_hates {T s : Nat} (hT : zx_st T) (hs : s < 8) (hf : zf_opt (I (T + 3) s) 8) : zx_rn (d + 1) 71 [.ref T, .int (nI s)] (zx_LL Lh) I J P = P (some (.int (zB (!decide (I (T + 1) s = -1) && zf_st (I (T + 1)) (I (T + 3) s))))) (zx_LL Lh) I J := by
  obtain ⟨k0, k1, k2, k3⟩ := zT_k (Lh := Lh) hT
  obtain ⟨q0, q1, q2⟩ := zT_q (Lh := Lh) hT
  rw [ze_71]
  have e : zf_st (I (T + 1)) (nI s) = !decide (I (T + 1) s = -1) := by
    unfold zf_st
    simp (disch := omega) only [zq_m1, nI_clamp, decide_false, Bool.not_false, Bool.true_and]
  simp (disch := omega) only [↓zs_71_0, ↓zs_71_1, ↓zs_71_2, ↓zs_71_5, ↓zs_71_8, ↓zs_71_9, ↓zs_71_10, ↓zs_71_13, ↓zs_71_14, ↓zs_71_15, ↓zs_71_18, ↓zs_71_21, ↓zs_71_22, ↓zs_71_25, ↓zs_71_26, zx_pu_s, zx_pu_n, zx_rv_s, zx_rv_n, true_and, and_true, true_or, or_true, zb_0, zb_1, zq_lcl, zq_lcg, zq_lce, eq_self, ite_true, ite_false, zn_10, zn_40, zn_040, zn_340, nI_add, zin_nI, nI_clamp, nI_ltI, nI_eq, pk_mul, nI_l, k0, k3, q2, sc_stands hT (.inr ⟨s, hs, rfl⟩), sc_stands hT hf, e, zB_0, zB_or]
  cases (!decide (I (T + 1) s = -1)) <;> cases (zf_st (I (T + 1)) (I (T + 3) s)) <;> simp only [reduceCtorEq, if_true, if_false] <;> rfl
theorem sc_columnOf {S p : Nat} (hS : zx_sq S) (hw : I S 6 = nI w) (w0 : 0 < w) (w8 : w ≤ 8) (hp : p < 2 ^ 31) : zx_rn d 50 [.ref S, .int (nI p)] (zx_LL Lh) I J P = P (some (.int (nI (p % w)))) (zx_LL Lh) I J := by
  have k0 := (zS_k (Lh := Lh) hS).1
  rw [ze_50]
  have w1 : ¬ w < 1 := by omega
  have w00 : ¬ nI w = 0 := nI_ne0 w0 (by omega)
  simp (disch := omega) only [↓zs_50_0, ↓zs_50_1, ↓zs_50_4, ↓zs_50_5, ↓zs_50_8, ↓zs_50_9, ↓zs_50_12, ↓zs_50_13, ↓zs_50_14, ↓zs_50_17, ↓zs_50_18, zx_pu_s, zx_pu_n, zx_rv_s, zx_rv_n, true_and, and_true, true_or, or_true, zb_0, zb_1, zq_lcl, zq_lcg, zq_lce, eq_self, ite_true, ite_false, zn_10, zn_40, zn_040, zn_340, nI_add, zin_nI, nI_clamp, nI_ltI, nI_eq, pk_mul, nI_l, k0, hw, w1, w00, not_false_eq_true, pk_div, zq_rem]
theorem sc_rowOf {S p : Nat} (hS : zx_sq S) (hw : I S 6 = nI w) (w0 : 0 < w) (w8 : w ≤ 8) (hp : p < 2 ^ 31) : zx_rn d 51 [.ref S, .int (nI p)] (zx_LL Lh) I J P = P (some (.int (nI (p / w)))) (zx_LL Lh) I J := by
  have k0 := (zS_k (Lh := Lh) hS).1
  rw [ze_51]
  have w1 : ¬ w < 1 := by omega
  have w00 : ¬ nI w = 0 := nI_ne0 w0 (by omega)
  simp (disch := omega) only [↓zs_51_0, ↓zs_51_1, ↓zs_51_4, ↓zs_51_5, ↓zs_51_8, ↓zs_51_9, ↓zs_51_12, ↓zs_51_13, ↓zs_51_14, ↓zs_51_17, ↓zs_51_18, zx_pu_s, zx_pu_n, zx_rv_s, zx_rv_n, true_and, and_true, true_or, or_true, zb_0, zb_1, zq_lcl, zq_lcg, zq_lce, eq_self, ite_true, ite_false, zn_10, zn_40, zn_040, zn_340, nI_add, zin_nI, nI_clamp, nI_ltI, nI_eq, pk_mul, nI_l, k0, hw, w1, w00, not_false_eq_true, pk_div]
end C1
