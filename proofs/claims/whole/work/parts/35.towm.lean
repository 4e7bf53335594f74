/-! the model asked from outside: towards -/
section TM
variable {d Lh w h N : Nat} {I : zx_MI} {J : zx_MJ} {P : Option Value → zx_Lay → zx_MI → zx_MJ → Prop}
theorem zu_o {α : Type} {f : Nat → Nat → α} {a b j : Nat} {x : α} (h : b ≠ a) : zx_u f a j x b = f b := by
  funext i
  unfold zx_u
  exact if_neg (fun e => h e.1)
theorem sp_towards (x : Int32) (ok : zM_ok (I 139) w h N) : zx_rn (d + 3) 210 [.ref 138, .int x] (zx_LL Lh) I J P = P (some (.int (zf_towards (I 139) w N x))) (zx_LL Lh) (zx_u I 138 0 (nI 0)) J := by
  have e139 : zx_u I 138 0 (nI 0) 139 = I 139 := zu_o (by decide)
  have ok2 : zM_ok (zx_u I 138 0 (nI 0) 139) w h N := by rw [e139]; exact ok
  have h1 := fun d P => sp_isStatue (d := d) (Lh := Lh) (J := J) (P := P) x.toInt64 ok2.1.2.2.1 ok2.1.2.2.2.2.2
  rw [Int32.toInt_toInt64] at h1
  rw [ze_210]
  unfold zf_towards
  by_cases hx : zf_in x.toInt N = true
  · have N8 : N ≤ 8 := ok.1.2.2.2.2.2
    have e := zq_toI (x := x) rfl hx (by omega)
    have hs : x.toInt.toNat < 8 := by have := zf_inP.mp hx; omega
    have h2 := fun P => sp_towardsOf (d := d) (Lh := Lh) (J := J) (P := P) hs ok2
    rw [← e, e139] at h2
    simp only [↓zs_210_0, ↓zs_210_1, ↓zs_210_2, ↓zs_210_5, ↓zs_210_6, ↓zs_210_7, ↓zs_210_8, ↓zs_210_11, ↓zs_210_14, ↓zs_210_15, ↓zs_210_16, ↓zs_210_19, ↓zs_210_22, ↓zs_210_24, zx_pu_s, zx_pu_n, zx_rv_s, zx_rv_n, true_and, and_true, true_or, or_true, zb_0, zb_1, zq_lcl, zq_lcg, zq_lce, eq_self, ite_true, ite_false, zk_138, zw_138, zk_139, zw_139, zk_140, zw_140, zk_141, zw_141, zk_142, zw_142, zk_143, zw_143, zk_144, zw_144, zk_145, zw_145, zk_146, zw_146, zk_147, zw_147, zk_148, zw_148, zk_149, zw_149, zk_150, zw_150, zk_151, zw_151, zk_152, zw_152, zq_138_1, zq_138_2, zq_138_3, zq_138_4, zq_138_16, zq_138_19, zq_138_20, zq_138_24, zq_138_25, zq_138_26, zq_138_27, zq_138_31, zq_138_32, zq_138_33, h1, h2, hx, zB_0, reduceCtorEq]
  · rw [Bool.not_eq_true] at hx
    simp only [↓zs_210_0, ↓zs_210_1, ↓zs_210_2, ↓zs_210_5, ↓zs_210_6, ↓zs_210_7, ↓zs_210_8, ↓zs_210_11, ↓zs_210_14, ↓zs_210_15, ↓zs_210_16, ↓zs_210_19, ↓zs_210_22, ↓zs_210_24, zx_pu_s, zx_pu_n, zx_rv_s, zx_rv_n, true_and, and_true, true_or, or_true, zb_0, zb_1, zq_lcl, zq_lcg, zq_lce, eq_self, ite_true, ite_false, zk_138, zw_138, zk_139, zw_139, zk_140, zw_140, zk_141, zw_141, zk_142, zw_142, zk_143, zw_143, zk_144, zw_144, zk_145, zw_145, zk_146, zw_146, zk_147, zw_147, zk_148, zw_148, zk_149, zw_149, zk_150, zw_150, zk_151, zw_151, zk_152, zw_152, zq_138_1, zq_138_2, zq_138_3, zq_138_4, zq_138_16, zq_138_19, zq_138_20, zq_138_24, zq_138_25, zq_138_26, zq_138_27, zq_138_31, zq_138_32, zq_138_33, h1, hx, zB_0, reduceCtorEq]
end TM
