/-! how many hate a STATUE, and the snow -/
/-- snow i of the row B lies in NIGHT n -/
def zf_snow1 (B : Nat → Int32) (n : Int32) (i : Nat) : Bool := zf_in (n.toInt - (B (37 + 2 * i)).toInt) (B (37 + 2 * i + 1)).toInt.toNat
/-- one of the m numbers from k on is so -/
def zf_any (p : Nat → Bool) : Nat → Nat → Bool
  | 0, _ => false
  | m + 1, k => p k || zf_any p m (k + 1)
section CH
variable {d Lh w h N : Nat} {I : zx_MI} {J : zx_MJ} {P : Option Value → zx_Lay → zx_MI → zx_MJ → Prop}
theorem sc_howManyHate {T : Nat} {x : Int32} {B : Nat → Int32} (hT : zx_st T) (rel : zR_st I T B) (ok : zM_ok B w h N) : zx_rn d 73 [.ref T, .int x] (zx_LL Lh) I J P = P (some (.int (nI (zf_cnt (zf_foeP B x) N 0)))) (zx_LL Lh) I J := by
  obtain ⟨k0, k1, k2, k3⟩ := zT_k (Lh := Lh) hT
  obtain ⟨q0, q1, q2⟩ := zT_q (Lh := Lh) hT
  have loop : ∀ m k c, k + m = 8 → zx_wp d 73 4 [.ref T, .int x, .int (nI c), .int (nI k)] [] (zx_LL Lh) I J P = P (some (.int (nI (c + zf_cnt (zf_foeP B x) m k)))) (zx_LL Lh) I J := by
    intro m
    induction m with
    | zero =>
      intro k c hk
      rw [zs_73_4]
      have h : ¬ k < 8 := by omega
      simp (disch := omega) only [↓zs_73_0, ↓zs_73_1, ↓zs_73_2, ↓zs_73_3, ↓zs_73_5, ↓zs_73_7, ↓zs_73_10, ↓zs_73_11, ↓zs_73_12, ↓zs_73_15, ↓zs_73_16, ↓zs_73_17, ↓zs_73_18, ↓zs_73_21, ↓zs_73_22, ↓zs_73_25, ↓zs_73_26, ↓zs_73_27, ↓zs_73_28, ↓zs_73_31, ↓zs_73_32, ↓zs_73_35, ↓zs_73_36, ↓zs_73_37, ↓zs_73_38, ↓zs_73_41, ↓zs_73_44, ↓zs_73_45, zx_pu_s, zx_pu_n, zx_rv_s, zx_rv_n, true_and, and_true, true_or, or_true, zb_0, zb_1, zq_lcl, zq_lcg, zq_lce, eq_self, ite_true, ite_false, zn_10, zn_40, zn_040, zn_340, nI_add, zin_nI, nI_clamp, nI_ltI, nI_eq, pk_mul, nI_l, h]
      rfl
    | succ m ih =>
      intro k c hk
      rw [zs_73_4]
      have h : k < 8 := by omega
      obtain ⟨e1, e2, e3⟩ := rel.2 k h
      simp (disch := omega) only [↓zs_73_0, ↓zs_73_1, ↓zs_73_2, ↓zs_73_3, ↓zs_73_5, ↓zs_73_7, ↓zs_73_10, ↓zs_73_11, ↓zs_73_12, ↓zs_73_15, ↓zs_73_16, ↓zs_73_17, ↓zs_73_18, ↓zs_73_21, ↓zs_73_22, ↓zs_73_25, ↓zs_73_26, ↓zs_73_27, ↓zs_73_28, ↓zs_73_31, ↓zs_73_32, ↓zs_73_35, ↓zs_73_36, ↓zs_73_37, ↓zs_73_38, ↓zs_73_41, ↓zs_73_44, ↓zs_73_45, zx_pu_s, zx_pu_n, zx_rv_s, zx_rv_n, true_and, and_true, true_or, or_true, zb_0, zb_1, zq_lcl, zq_lcg, zq_lce, eq_self, ite_true, ite_false, zn_10, zn_40, zn_040, zn_340, nI_add, zin_nI, nI_clamp, nI_ltI, nI_eq, pk_mul, nI_l, h, k0, k1, k3, q0, q2, e1, e3, nI_1]
      rw [zf_cnt, zf_foeP]
      by_cases h1 : B (109 + k) = -1
      · simp only [h1, decide_true, Bool.not_true, Bool.false_and, reduceCtorEq, if_true, if_false, Nat.add_zero, Nat.zero_add]
        exact ih (k + 1) c (by omega)
      · by_cases h2 : B (125 + k) = x
        · simp only [h1, h2, decide_true, decide_false, Bool.not_false, Bool.and_self, reduceCtorEq, if_true, if_false]
          rw [ih (k + 1) (c + 1) (by omega), Nat.add_assoc]
        · simp only [h1, h2, decide_true, decide_false, Bool.not_false, Bool.and_false, reduceCtorEq, if_true, if_false, Nat.add_zero, Nat.zero_add]
          exact ih (k + 1) c (by omega)
  rw [ze_73]
  simp only [↓zs_73_0, ↓zs_73_1, ↓zs_73_2, ↓zs_73_3, ↓zs_73_5, ↓zs_73_7, ↓zs_73_10, ↓zs_73_11, ↓zs_73_12, ↓zs_73_15, ↓zs_73_16, ↓zs_73_17, ↓zs_73_18, ↓zs_73_21, ↓zs_73_22, ↓zs_73_25, ↓zs_73_26, ↓zs_73_27, ↓zs_73_28, ↓zs_73_31, ↓zs_73_32, ↓zs_73_35, ↓zs_73_36, ↓zs_73_37, ↓zs_73_38, ↓zs_73_41, ↓zs_73_44, ↓zs_73_45, zx_pu_s, zx_pu_n, zx_rv_s, zx_rv_n, true_and, and_true, true_or, or_true, zb_0, zb_1, zq_lcl, zq_lcg, zq_lce, eq_self, ite_true, ite_false]
  have N8 : N ≤ 8 := ok.1.2.2.2.2.2
  rw [loop 8 0 0 (by omega), Nat.zero_add, show 8 = N + (8 - N) by omega, zf_cnt_add, zf_cnt_0 _ (8 - N) _ (fun j h1 h2 => by
    rw [zf_foeP, (ok.2 j (by omega)).2.2.2 (by omega)]; rfl), Nat.add_zero]
end CH
