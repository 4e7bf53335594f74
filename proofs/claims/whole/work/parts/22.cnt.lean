/-! how many: FOES of a STATUE -/
/-- how many of the m numbers from k on are so -/
def zf_cnt (p : Nat → Bool) : Nat → Nat → Nat
  | 0, _ => 0
  | m + 1, k => (if p k = true then 1 else 0) + zf_cnt p m (k + 1)
theorem zf_cnt_add (p : Nat → Bool) (a b k : Nat) : zf_cnt p (a + b) k = zf_cnt p a k + zf_cnt p b (k + a) := by
  induction a generalizing k with
  | zero => rw [Nat.zero_add, zf_cnt, Nat.zero_add, Nat.add_zero]
  | succ a ih => rw [show a + 1 + b = (a + b) + 1 by omega, zf_cnt, zf_cnt, ih, show k + 1 + a = k + (a + 1) by omega, Nat.add_assoc]
theorem zf_cnt_0 (p : Nat → Bool) (m k : Nat) (h : ∀ j, k ≤ j → j < k + m → p j = false) : zf_cnt p m k = 0 := by
  induction m generalizing k with
  | zero => rfl
  | succ m ih => rw [zf_cnt, h k (by omega) (by omega), ih (k + 1) (fun j h1 h2 => h j (by omega) (by omega))]; rfl
theorem zf_cnt_le (p : Nat → Bool) (m k : Nat) : zf_cnt p m k ≤ m := by
  induction m generalizing k with
  | zero => exact Nat.le_refl _
  | succ m ih => have := ih (k + 1); rw [zf_cnt]; split <;> omega
theorem zf_cnt_eq (p q : Nat → Bool) (m k : Nat) (h : ∀ j, k ≤ j → j < k + m → p j = q j) : zf_cnt p m k = zf_cnt q m k := by
  induction m generalizing k with
  | zero => rfl
  | succ m ih => rw [zf_cnt, zf_cnt, h k (by omega) (by omega), ih (k + 1) (fun j h1 h2 => h j (by omega) (by omega))]
/-- number k stands and x is its FOE -/
def zf_foeP (B : Nat → Int32) (x : Int32) (k : Nat) : Bool := !decide (B (109 + k) = -1) && decide (B (125 + k) = x)
section CN
variable {d Lh w h N : Nat} {I : zx_MI} {J : zx_MJ} {P : Option Value → zx_Lay → zx_MI → zx_MJ → Prop}
theorem sp_foesOf {x : Int32} (hN : I 139 3 = nI N) (hN8 : N ≤ 8) : zx_rn (d + 1) 198 [.ref 138, .int x] (zx_LL Lh) I J P = P (some (.int (nI (zf_cnt (zf_foeP (I 139) x) N 0)))) (zx_LL Lh) I J := by
  have loop : ∀ m k c, k + m = N → zx_wp (d + 1) 198 4 [.ref 138, .int x, .int (nI c), .int (nI k)] [] (zx_LL Lh) I J P = P (some (.int (nI (c + zf_cnt (zf_foeP (I 139) x) m k)))) (zx_LL Lh) I J := by
    intro m
    induction m with
    | zero =>
      intro k c hk
      rw [zs_198_4]
      have h : ¬ k < N := by omega
      simp (disch := omega) only [↓zs_198_0, ↓zs_198_1, ↓zs_198_2, ↓zs_198_3, ↓zs_198_5, ↓zs_198_6, ↓zs_198_9, ↓zs_198_10, ↓zs_198_11, ↓zs_198_14, ↓zs_198_15, ↓zs_198_16, ↓zs_198_17, ↓zs_198_20, ↓zs_198_23, ↓zs_198_24, ↓zs_198_27, ↓zs_198_29, ↓zs_198_30, ↓zs_198_31, ↓zs_198_32, ↓zs_198_33, ↓zs_198_36, ↓zs_198_37, ↓zs_198_40, ↓zs_198_41, ↓zs_198_42, ↓zs_198_43, ↓zs_198_46, ↓zs_198_49, ↓zs_198_50, zx_pu_s, zx_pu_n, zx_rv_s, zx_rv_n, true_and, and_true, true_or, or_true, zb_0, zb_1, zq_lcl, zq_lcg, zq_lce, eq_self, ite_true, ite_false, zk_138, zw_138, zk_139, zw_139, zk_140, zw_140, zk_141, zw_141, zk_142, zw_142, zk_143, zw_143, zk_144, zw_144, zk_145, zw_145, zk_146, zw_146, zk_147, zw_147, zk_148, zw_148, zk_149, zw_149, zk_150, zw_150, zk_151, zw_151, zk_152, zw_152, zq_138_1, zq_138_2, zq_138_3, zq_138_4, zq_138_16, zq_138_19, zq_138_20, zq_138_24, zq_138_25, zq_138_26, zq_138_27, zq_138_31, zq_138_32, zq_138_33, zn_10, zn_40, zn_040, zn_340, nI_add, zin_nI, nI_clamp, nI_ltI, nI_eq, pk_mul, nI_l, hN, h]
      rfl
    | succ m ih =>
      intro k c hk
      rw [zs_198_4]
      have h : k < N := by omega
      simp (disch := omega) only [↓zs_198_0, ↓zs_198_1, ↓zs_198_2, ↓zs_198_3, ↓zs_198_5, ↓zs_198_6, ↓zs_198_9, ↓zs_198_10, ↓zs_198_11, ↓zs_198_14, ↓zs_198_15, ↓zs_198_16, ↓zs_198_17, ↓zs_198_20, ↓zs_198_23, ↓zs_198_24, ↓zs_198_27, ↓zs_198_29, ↓zs_198_30, ↓zs_198_31, ↓zs_198_32, ↓zs_198_33, ↓zs_198_36, ↓zs_198_37, ↓zs_198_40, ↓zs_198_41, ↓zs_198_42, ↓zs_198_43, ↓zs_198_46, ↓zs_198_49, ↓zs_198_50, zx_pu_s, zx_pu_n, zx_rv_s, zx_rv_n, true_and, and_true, true_or, or_true, zb_0, zb_1, zq_lcl, zq_lcg, zq_lce, eq_self, ite_true, ite_false, zk_138, zw_138, zk_139, zw_139, zk_140, zw_140, zk_141, zw_141, zk_142, zw_142, zk_143, zw_143, zk_144, zw_144, zk_145, zw_145, zk_146, zw_146, zk_147, zw_147, zk_148, zw_148, zk_149, zw_149, zk_150, zw_150, zk_151, zw_151, zk_152, zw_152, zq_138_1, zq_138_2, zq_138_3, zq_138_4, zq_138_16, zq_138_19, zq_138_20, zq_138_24, zq_138_25, zq_138_26, zq_138_27, zq_138_31, zq_138_32, zq_138_33, zn_10, zn_40, zn_040, zn_340, nI_add, zin_nI, nI_clamp, nI_ltI, nI_eq, pk_mul, nI_l, hN, h, sp_stands, zB_0, nI_1]
      rw [zf_cnt, zf_foeP]
      by_cases h1 : I 139 (109 + k) = -1
      · simp only [h1, decide_true, Bool.not_true, Bool.false_and, reduceCtorEq, if_true, if_false, Nat.add_zero, Nat.zero_add]
        exact ih (k + 1) c (by omega)
      · by_cases h2 : I 139 (125 + k) = x
        · simp only [h1, h2, decide_true, decide_false, Bool.not_false, Bool.and_self, reduceCtorEq, if_true, if_false]
          rw [ih (k + 1) (c + 1) (by omega), Nat.add_assoc]
        · simp only [h1, h2, decide_true, decide_false, Bool.not_false, Bool.and_false, reduceCtorEq, if_true, if_false, Nat.add_zero, Nat.zero_add]
          exact ih (k + 1) c (by omega)
  rw [ze_198]
  simp only [↓zs_198_0, ↓zs_198_1, ↓zs_198_2, ↓zs_198_3, ↓zs_198_5, ↓zs_198_6, ↓zs_198_9, ↓zs_198_10, ↓zs_198_11, ↓zs_198_14, ↓zs_198_15, ↓zs_198_16, ↓zs_198_17, ↓zs_198_20, ↓zs_198_23, ↓zs_198_24, ↓zs_198_27, ↓zs_198_29, ↓zs_198_30, ↓zs_198_31, ↓zs_198_32, ↓zs_198_33, ↓zs_198_36, ↓zs_198_37, ↓zs_198_40, ↓zs_198_41, ↓zs_198_42, ↓zs_198_43, ↓zs_198_46, ↓zs_198_49, ↓zs_198_50, zx_pu_s, zx_pu_n, zx_rv_s, zx_rv_n, true_and, and_true, true_or, or_true, zb_0, zb_1, zq_lcl, zq_lcg, zq_lce, eq_self, ite_true, ite_false]
  rw [loop N 0 0 (by omega), Nat.zero_add]
end CN
