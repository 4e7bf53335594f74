/-! asked from outside: towards -/
/-- the answer of towards -/
def zf_towards (B : Nat → Int32) (w N : Nat) (x : Int32) : Int32 := if zf_in x.toInt N = true then zf_to B w x.toInt.toNat else -2
theorem zx_sq1 : zx_sq 1 := show 1 ∈ zx_sql by decide
theorem zx_st11 : zx_st 11 := show 11 ∈ zx_stl by decide
section TW
variable {d Lh w h N : Nat} {I : zx_MI} {J : zx_MJ} {P : Option Value → zx_Lay → zx_MI → zx_MJ → Prop}
theorem sc_towards (x : Int32) (ok : zM_ok (I 139) w h N) (hw : I 1 6 = nI w) (hN : I 1 8 = nI N) (rel : zR_st I 11 (I 139)) : zx_rn (d + 3) 109 [.ref 0, .int x] (zx_LL Lh) I J P = P (some (.int (zf_towards (I 139) w N x))) (zx_LL Lh) I J := by
  have h1 := fun d P => sc_hasStatue (d := d) (Lh := Lh) (J := J) (P := P) zx_sq1 x hN ok.1.2.2.2.2.2
  rw [ze_109]
  unfold zf_towards
  by_cases hx : zf_in x.toInt N = true
  · have N8 : N ≤ 8 := ok.1.2.2.2.2.2
    have e := zq_toI (x := x) rfl hx (by omega)
    have hs : x.toInt.toNat < 8 := by have := zf_inP.mp hx; omega
    have h2 := fun P => sc_towardsFoe (d := d) (Lh := Lh) (J := J) (P := P) zx_sq1 zx_st11 hs hw rel ok
    rw [← e] at h2
    simp only [↓zs_109_0, ↓zs_109_1, ↓zs_109_4, ↓zs_109_5, ↓zs_109_8, ↓zs_109_11, ↓zs_109_12, ↓zs_109_15, ↓zs_109_16, ↓zs_109_19, ↓zs_109_20, ↓zs_109_23, ↓zs_109_26, ↓zs_109_28, zx_pu_s, zx_pu_n, zx_rv_s, zx_rv_n, true_and, and_true, true_or, or_true, zb_0, zb_1, zq_lcl, zq_lcg, zq_lce, eq_self, ite_true, ite_false, zk_0, zw_0, zk_1, zw_1, zk_2, zw_2, zk_3, zw_3, zk_4, zw_4, zk_5, zw_5, zk_6, zw_6, zk_7, zw_7, zk_8, zw_8, zk_9, zw_9, zk_10, zw_10, zk_11, zw_11, zk_12, zw_12, zk_13, zw_13, zk_14, zw_14, zk_15, zw_15, zk_16, zw_16, zk_17, zw_17, zk_18, zw_18, zk_19, zw_19, zk_20, zw_20, zk_21, zw_21, zk_22, zw_22, zq_0_0, zq_0_1, zq_0_2, zq_0_3, zq_0_4, zq_0_5, zq_0_6, zq_0_7, zq_0_8, zq_0_9, zq_0_10, zq_0_11, zq_1_0, zq_1_1, zq_1_2, zq_1_3, zq_1_4, zq_1_5, zq_2_0, zq_2_1, zq_2_2, zq_11_0, zq_11_1, zq_11_2, zq_15_0, zq_15_1, zq_15_2, zq_19_0, zq_19_1, zq_19_2, h1, h2, hx, zB_0, reduceCtorEq]
  · rw [Bool.not_eq_true] at hx
    simp only [↓zs_109_0, ↓zs_109_1, ↓zs_109_4, ↓zs_109_5, ↓zs_109_8, ↓zs_109_11, ↓zs_109_12, ↓zs_109_15, ↓zs_109_16, ↓zs_109_19, ↓zs_109_20, ↓zs_109_23, ↓zs_109_26, ↓zs_109_28, zx_pu_s, zx_pu_n, zx_rv_s, zx_rv_n, true_and, and_true, true_or, or_true, zb_0, zb_1, zq_lcl, zq_lcg, zq_lce, eq_self, ite_true, ite_false, zk_0, zw_0, zk_1, zw_1, zk_2, zw_2, zk_3, zw_3, zk_4, zw_4, zk_5, zw_5, zk_6, zw_6, zk_7, zw_7, zk_8, zw_8, zk_9, zw_9, zk_10, zw_10, zk_11, zw_11, zk_12, zw_12, zk_13, zw_13, zk_14, zw_14, zk_15, zw_15, zk_16, zw_16, zk_17, zw_17, zk_18, zw_18, zk_19, zw_19, zk_20, zw_20, zk_21, zw_21, zk_22, zw_22, zq_0_0, zq_0_1, zq_0_2, zq_0_3, zq_0_4, zq_0_5, zq_0_6, zq_0_7, zq_0_8, zq_0_9, zq_0_10, zq_0_11, zq_1_0, zq_1_1, zq_1_2, zq_1_3, zq_1_4, zq_1_5, zq_2_0, zq_2_1, zq_2_2, zq_11_0, zq_11_1, zq_11_2, zq_15_0, zq_15_1, zq_15_2, zq_19_0, zq_19_1, zq_19_2, h1, hx, zB_0, reduceCtorEq]
end TW
