/-! the class: has it the STATUE, the STONE -/
theorem zq_lt0 (x : Int32) : (x < nI 0) = (x.toInt < 0) := by rw [Int32.lt_iff_toInt_lt, nI_toInt (by omega)]; rfl
theorem zq_ltn (x : Int32) {n : Nat} (h : n < 2 ^ 31) : (x < nI n) = (x.toInt < n) := by rw [Int32.lt_iff_toInt_lt, nI_toInt h]
section HS
variable {d Lh w h N : Nat} {I : zx_MI} {J : zx_MJ} {P : Option Value → zx_Lay → zx_MI → zx_MJ → Prop}
theorem sc_hasStatue {S : Nat} (hS : zx_sq S) (x : Int32) (hN : I S 8 = nI N) (N8 : N ≤ 8) : zx_rn d 48 [.ref S, .int x] (zx_LL Lh) I J P = P (some (.int (zB (zf_in x.toInt N)))) (zx_LL Lh) I J := by
  have kS := (zS_k (Lh := Lh) hS).1
  have e8 := zq_ltn x (n := 8) (by omega)
  have eN := zq_ltn x (n := N) (by omega)
  rw [ze_48]
  simp only [↓zs_48_0, ↓zs_48_1, ↓zs_48_4, ↓zs_48_5, ↓zs_48_6, ↓zs_48_9, ↓zs_48_12, ↓zs_48_13, ↓zs_48_15, ↓zs_48_18, ↓zs_48_19, ↓zs_48_22, ↓zs_48_23, zx_pu_s, zx_pu_n, zx_rv_s, zx_rv_n, true_and, and_true, true_or, or_true, zb_0, zb_1, zq_lcl, zq_lcg, zq_lce, eq_self, ite_true, ite_false, kS, hN, zq_lt0, e8, eN, zf_in]
  by_cases h1 : x.toInt < 0
  · simp only [h1, if_true]
    rw [decide_eq_false (by omega)]; rfl
  · simp only [h1, if_false]
    rw [decide_eq_true (by omega), Bool.true_and]
    by_cases h2 : x.toInt < N
    · have h3 : x.toInt < ((8 : Nat) : Int) := by omega
      simp only [h2, h3, if_true]; rfl
    · simp only [h2, if_false]; rfl
theorem sc_hasStone {S : Nat} (hS : zx_sq S) (x : Int32) (hw : I S 6 = nI w) (hh : I S 7 = nI h) (hwh : w * h ≤ 64) : zx_rn d 49 [.ref S, .int x] (zx_LL Lh) I J P = P (some (.int (zB (zf_in x.toInt (w * h))))) (zx_LL Lh) I J := by
  have kS := (zS_k (Lh := Lh) hS).1
  have eN := zq_ltn x (n := w * h) (by omega)
  rw [ze_49]
  simp only [↓zs_49_0, ↓zs_49_1, ↓zs_49_4, ↓zs_49_5, ↓zs_49_6, ↓zs_49_9, ↓zs_49_10, ↓zs_49_13, ↓zs_49_14, ↓zs_49_17, ↓zs_49_18, ↓zs_49_21, ↓zs_49_22, zx_pu_s, zx_pu_n, zx_rv_s, zx_rv_n, true_and, and_true, true_or, or_true, zb_0, zb_1, zq_lcl, zq_lcg, zq_lce, eq_self, ite_true, ite_false, kS, hw, hh, pk_mul, zq_lt0, eN, zf_in]
  by_cases h1 : x.toInt < 0
  · simp only [h1, if_true]
    rw [decide_eq_false (by omega)]; rfl
  · simp only [h1, if_false]
    rw [decide_eq_true (by omega), Bool.true_and]
    by_cases h2 : x.toInt < ((w * h : Nat) : Int)
    · simp only [h2, if_true]; rfl
    · simp only [h2, if_false]; rfl
end HS
