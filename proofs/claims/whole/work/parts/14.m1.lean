/-! numbers and small things -/
theorem zb_0 : (nI 0 = nI 0 ∨ nI 0 = nI 1) = True := eq_true (Or.inl rfl)
theorem zb_1 : (nI 1 = nI 0 ∨ nI 1 = nI 1) = True := eq_true (Or.inr rfl)
theorem zq_lcl (x y : Int64) : (lg_cmp x y < nI 0) = (x < y) := zx_lcl x y
theorem zq_lcg (x y : Int64) : (nI 0 < lg_cmp x y) = (y < x) := zx_lcg x y
theorem zq_lce (x y : Int64) : (lg_cmp x y = nI 0) = (x = y) := zx_lce x y
theorem zin_nI {a n : Nat} (h : a < n) (hn : n ≤ 2147483648) : zx_in (nI a) n = True := eq_true ⟨nI_pos (by omega), by rw [nI_clamp (by omega)]; exact h⟩
theorem zq_m1 {a : Nat} (h : a < 2147483648) : (nI a = -1) = False := eq_false (fun e => by
  have h1 := nI_toInt (n := a) (by omega)
  rw [e] at h1
  have h2 : (-1 : Int32).toInt = -1 := by decide +kernel
  omega)
theorem zn_10 : ((1 : Nat) = 0) = False := eq_false (by decide)
theorem zn_40 : ((1 : Nat) < 40) = True := eq_true (by decide)
theorem zn_040 : ((0 : Nat) < 40) = True := eq_true (by decide)
theorem zn_340 : ((3 : Nat) < 40) = True := eq_true (by decide)
/-- a number is one of the small ones, or none of them -/
theorem zq_of {x : Int32} {n : Nat} (h1 : ¬ x < nI 0) (h2 : ¬ nI n < x) (hn : n < 2 ^ 31) : ∃ k, k ≤ n ∧ x = nI k := nI_of2 (nI_toInt hn) h1 (Int32.not_lt.mp h2)
/-- a truth as an int -/
def zB (b : Bool) : Int32 := if b = true then nI 1 else nI 0
theorem zB_or (b : Bool) : (zB b = nI 0 ∨ zB b = nI 1) = True := by cases b <;> decide +kernel
theorem zB_0 (b : Bool) : (zB b = nI 0) = (b = false) := by cases b <;> decide +kernel
theorem zB_t : nI 1 = zB true := rfl
theorem zB_f : nI 0 = zB false := rfl
/-- a number lies among the first n -/
def zf_in (v : Int) (n : Nat) : Bool := decide (0 ≤ v) && decide (v < n)
theorem zf_inP {v : Int} {n : Nat} : zf_in v n = true ↔ 0 ≤ v ∧ v < n := by rw [zf_in, Bool.and_eq_true, decide_eq_true_iff, decide_eq_true_iff]
theorem zL_lt0 (v : Int64) : (v < lN 0) = (v.toInt < 0) := by rw [Int64.lt_iff_toInt_lt]; rfl
theorem zL_up (v : Int64) {n : Nat} (h : n < 2 ^ 31) : ((nI n - nI 1).toInt64 < v) = ((n : Int) ≤ v.toInt) := by
  rw [Int64.lt_iff_toInt_lt, Int32.toInt_toInt64]
  have e : (nI n - nI 1).toInt = (n : Int) - 1 := by
    cases n with
    | zero => decide +kernel
    | succ k => rw [show nI (k + 1) - nI 1 = nI k from nI_pred k, nI_toInt (by omega)]; omega
  rw [e]; exact propext ⟨fun _ => by omega, fun _ => by omega⟩
section M1
variable {d Lh : Nat} {I : zx_MI} {J : zx_MJ} {P : Option Value → zx_Lay → zx_MI → zx_MJ → Prop}
theorem sp_within {L : zx_Lay} (v lo hi : Int64) : zx_rn d 150 [.long v, .long lo, .long hi] L I J P = P (some (.int (zB (!decide (v < lo) && !decide (hi < v))))) L I J := by
  rw [ze_150]
  simp only [↓zs_150_0, ↓zs_150_1, ↓zs_150_2, ↓zs_150_3, ↓zs_150_6, ↓zs_150_7, ↓zs_150_9, ↓zs_150_10, ↓zs_150_13, ↓zs_150_14, ↓zs_150_17, ↓zs_150_18, zx_pu_s, zx_pu_n, zx_rv_s, zx_rv_n, true_and, and_true, true_or, or_true, zb_0, zb_1, zq_lcl, zq_lcg, zq_lce, eq_self, ite_true, ite_false]
  by_cases h1 : v < lo <;> by_cases h2 : hi < v <;> simp only [h1, h2, if_true, if_false] <;> rfl
theorem sp_in {L : zx_Lay} (v : Int64) (n : Nat) (hn : n < 2 ^ 31) : zx_rn d 150 [.long v, .long (lN 0), .long (nI n - nI 1).toInt64] L I J P = P (some (.int (zB (zf_in v.toInt n)))) L I J := by
  have e : (!decide (v < lN 0) && !decide ((nI n - nI 1).toInt64 < v)) = zf_in v.toInt n := by
    simp only [zL_lt0, zL_up v hn, zf_in, ← decide_not, Int.not_lt, Int.not_le]
  rw [sp_within, e]
theorem sp_stands (s : Nat) (hs : s < 8) : zx_rn d 186 [.ref 138, .int (nI s)] (zx_LL Lh) I J P = P (some (.int (zB (!decide (I 139 (109 + s) = -1))))) (zx_LL Lh) I J := by
  rw [ze_186]
  simp (disch := omega) only [↓zs_186_0, ↓zs_186_1, ↓zs_186_4, ↓zs_186_6, ↓zs_186_7, ↓zs_186_8, ↓zs_186_9, ↓zs_186_10, ↓zs_186_13, ↓zs_186_14, ↓zs_186_17, ↓zs_186_18, zx_pu_s, zx_pu_n, zx_rv_s, zx_rv_n, true_and, and_true, true_or, or_true, zb_0, zb_1, zq_lcl, zq_lcg, zq_lce, eq_self, ite_true, ite_false, zk_138, zw_138, zk_139, zw_139, zk_140, zw_140, zk_141, zw_141, zk_142, zw_142, zk_143, zw_143, zk_144, zw_144, zk_145, zw_145, zk_146, zw_146, zk_147, zw_147, zk_148, zw_148, zk_149, zw_149, zk_150, zw_150, zk_151, zw_151, zk_152, zw_152, zq_138_1, zq_138_2, zq_138_3, zq_138_4, zq_138_16, zq_138_19, zq_138_20, zq_138_24, zq_138_25, zq_138_26, zq_138_27, zq_138_31, zq_138_32, zq_138_33, zn_10, zn_40, zn_040, zn_340, nI_add, zin_nI, nI_clamp, nI_ltI, nI_eq, pk_mul, nI_l]
  by_cases h : I 139 (109 + s) = -1 <;> simp only [h, if_true, if_false] <;> rfl
/-- the first of the STATUES on a STONE, from s on, m of them -/
def zf_on (B : Nat → Int32) (k : Int32) : Nat → Nat → Int32
  | 0, _ => -1
  | m + 1, s => if B (109 + s) = k then nI s else zf_on B k m (s + 1)
theorem sp_statueOn {a n : Nat} {k : Int32} (ha : (zx_LL Lh).1 a = (0, n)) (hn : 200 ≤ n) (hn2 : n ≤ 100000) {N : Nat} (hN : N ≤ 8) (hA : I a 3 = nI N) : zx_rn d 173 [.ref a, .int k] (zx_LL Lh) I J P = P (some (.int (zf_on (I a) k N 0))) (zx_LL Lh) I J := by
  have loop : ∀ m s, s + m = N → zx_wp d 173 2 [.ref a, .int k, .int (nI s)] [] (zx_LL Lh) I J P = P (some (.int (zf_on (I a) k m s))) (zx_LL Lh) I J := by
    intro m
    induction m with
    | zero =>
      intro s hs
      rw [zs_173_2]
      have h : ¬ s < N := by omega
      simp (disch := omega) only [↓zs_173_0, ↓zs_173_1, ↓zs_173_3, ↓zs_173_4, ↓zs_173_5, ↓zs_173_6, ↓zs_173_9, ↓zs_173_10, ↓zs_173_12, ↓zs_173_13, ↓zs_173_14, ↓zs_173_15, ↓zs_173_16, ↓zs_173_19, ↓zs_173_20, ↓zs_173_21, ↓zs_173_24, ↓zs_173_27, ↓zs_173_28, zx_pu_s, zx_pu_n, zx_rv_s, zx_rv_n, true_and, and_true, true_or, or_true, zb_0, zb_1, zq_lcl, zq_lcg, zq_lce, eq_self, ite_true, ite_false, zn_10, zn_40, zn_040, zn_340, nI_add, zin_nI, nI_clamp, nI_ltI, nI_eq, pk_mul, nI_l, ha, hA, h]
      rfl
    | succ m ih =>
      intro s hs
      rw [zs_173_2]
      have h : s < N := by omega
      simp (disch := omega) only [↓zs_173_0, ↓zs_173_1, ↓zs_173_3, ↓zs_173_4, ↓zs_173_5, ↓zs_173_6, ↓zs_173_9, ↓zs_173_10, ↓zs_173_12, ↓zs_173_13, ↓zs_173_14, ↓zs_173_15, ↓zs_173_16, ↓zs_173_19, ↓zs_173_20, ↓zs_173_21, ↓zs_173_24, ↓zs_173_27, ↓zs_173_28, zx_pu_s, zx_pu_n, zx_rv_s, zx_rv_n, true_and, and_true, true_or, or_true, zb_0, zb_1, zq_lcl, zq_lcg, zq_lce, eq_self, ite_true, ite_false, zn_10, zn_40, zn_040, zn_340, nI_add, zin_nI, nI_clamp, nI_ltI, nI_eq, pk_mul, nI_l, ha, hA, h, nI_1]
      rw [ih (s + 1) (by omega), zf_on]
      split <;> rfl
  rw [ze_173]
  simp only [↓zs_173_0, ↓zs_173_1, ↓zs_173_3, ↓zs_173_4, ↓zs_173_5, ↓zs_173_6, ↓zs_173_9, ↓zs_173_10, ↓zs_173_12, ↓zs_173_13, ↓zs_173_14, ↓zs_173_15, ↓zs_173_16, ↓zs_173_19, ↓zs_173_20, ↓zs_173_21, ↓zs_173_24, ↓zs_173_27, ↓zs_173_28, zx_pu_s, zx_pu_n, zx_rv_s, zx_rv_n, true_and, and_true, true_or, or_true, zb_0, zb_1, zq_lcl, zq_lcg, zq_lce, eq_self, ite_true, ite_false]
  exact loop N 0 (by omega)
end M1
