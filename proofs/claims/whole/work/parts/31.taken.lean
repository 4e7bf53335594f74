/-! the STONES taken, as bits -/
/-- the bits b, with those of the places f k .. of m STATUES -/
def zf_orAll (f : Nat → Int32) : Nat → Nat → Int64 → Int64
  | 0, _, b => b
  | m + 1, k, b => zf_orAll f m (k + 1) (if f k = -1 then b else b ||| zf_one (zf_nat (f k)))
theorem zt_orAll {f : Nat → Int32} {j : Nat} (hj : j < 64) (m k : Nat) (b : Int64) (hf : ∀ i, k ≤ i → i < k + m → zf_opt (f i) 64) : zf_bit (zf_orAll f m k b) j = (zf_bit b j || zf_any (fun s => decide (f s = nI j)) m k) := by
  induction m generalizing k b with
  | zero => rw [zf_orAll, zf_any, Bool.or_false]
  | succ m ih =>
    rw [zf_orAll, zf_any, ih (k + 1) _ (fun i h1 h2 => hf i (by omega) (by omega))]
    rcases hf k (by omega) (by omega) with e | ⟨p, hp, e⟩
    · rw [if_pos e, e, decide_eq_false (fun x : (-1 : Int32) = nI j => by have := zq_m1 (a := j) (by omega); rw [← x] at this; exact this.mp rfl), Bool.false_or]
    · rw [if_neg (by rw [e, zq_m1 (by omega)]; exact fun x => x), zt_or, e, zf_nat, nI_clamp (by omega), zt_one hp hj, Bool.or_assoc]
      congr 2
      by_cases h : j = p
      · rw [decide_eq_true h, h, decide_eq_true rfl]
      · rw [decide_eq_false h, decide_eq_false (fun x => h ((nI_eq (by omega) (by omega)).mp x).symm)]
section TB
variable {d Lh w h N : Nat} {I : zx_MI} {J : zx_MJ} {P : Option Value → zx_Lay → zx_MI → zx_MJ → Prop}
theorem sc_takenBits {S T : Nat} (hS : zx_sq S) (hT : zx_st T) (hp : ∀ i, i < 8 → zf_opt (I (T + 1) i) 64) : zx_rn d 58 [.ref S, .ref T] (zx_LL Lh) I J P = P (some (.long (zf_orAll (I (T + 1)) 8 0 (J S 12 ||| J S 13)))) (zx_LL Lh) I J := by
  obtain ⟨k0, k1, k2, k3⟩ := zT_k (Lh := Lh) hT
  obtain ⟨q0, q1, q2⟩ := zT_q (Lh := Lh) hT
  have kS := (zS_k (Lh := Lh) hS).1
  have loop : ∀ m k b, k + m = 8 → zx_wp d 58 13 [.ref S, .ref T, .long b, zx_u0, .int (nI k)] [] (zx_LL Lh) I J P = P (some (.long (zf_orAll (I (T + 1)) m k b))) (zx_LL Lh) I J := by
    intro m
    induction m with
    | zero =>
      intro k b hk
      rw [zs_58_13]
      have h : ¬ k < 8 := by omega
      simp (disch := omega) only [↓zs_58_0, ↓zs_58_1, ↓zs_58_4, ↓zs_58_5, ↓zs_58_8, ↓zs_58_9, ↓zs_58_10, ↓zs_58_11, ↓zs_58_15, ↓zs_58_17, ↓zs_58_20, ↓zs_58_21, ↓zs_58_24, ↓zs_58_26, ↓zs_58_27, ↓zs_58_28, ↓zs_58_31, ↓zs_58_32, ↓zs_58_33, ↓zs_58_34, ↓zs_58_37, ↓zs_58_39, ↓zs_58_40, ↓zs_58_41, ↓zs_58_42, ↓zs_58_43, ↓zs_58_46, ↓zs_58_49, ↓zs_58_50, zx_pu_s, zx_pu_n, zx_rv_s, zx_rv_n, true_and, and_true, true_or, or_true, zb_0, zb_1, zq_lcl, zq_lcg, zq_lce, eq_self, ite_true, ite_false, zn_10, zn_40, zn_040, zn_340, nI_add, zin_nI, nI_clamp, nI_ltI, nI_eq, pk_mul, nI_l, h]
      rfl
    | succ m ih =>
      intro k b hk
      rw [zs_58_13]
      have h : k < 8 := by omega
      rw [zf_orAll]
      rcases hp k h with e | ⟨p, hp8, e⟩
      · simp (disch := omega) only [↓zs_58_0, ↓zs_58_1, ↓zs_58_4, ↓zs_58_5, ↓zs_58_8, ↓zs_58_9, ↓zs_58_10, ↓zs_58_11, ↓zs_58_15, ↓zs_58_17, ↓zs_58_20, ↓zs_58_21, ↓zs_58_24, ↓zs_58_26, ↓zs_58_27, ↓zs_58_28, ↓zs_58_31, ↓zs_58_32, ↓zs_58_33, ↓zs_58_34, ↓zs_58_37, ↓zs_58_39, ↓zs_58_40, ↓zs_58_41, ↓zs_58_42, ↓zs_58_43, ↓zs_58_46, ↓zs_58_49, ↓zs_58_50, zx_pu_s, zx_pu_n, zx_rv_s, zx_rv_n, true_and, and_true, true_or, or_true, zb_0, zb_1, zq_lcl, zq_lcg, zq_lce, eq_self, ite_true, ite_false, zn_10, zn_40, zn_040, zn_340, nI_add, zin_nI, nI_clamp, nI_ltI, nI_eq, pk_mul, nI_l, h, k0, k1, q0, e, nI_1]
        exact ih (k + 1) b (by omega)
      · simp (disch := omega) only [↓zs_58_0, ↓zs_58_1, ↓zs_58_4, ↓zs_58_5, ↓zs_58_8, ↓zs_58_9, ↓zs_58_10, ↓zs_58_11, ↓zs_58_15, ↓zs_58_17, ↓zs_58_20, ↓zs_58_21, ↓zs_58_24, ↓zs_58_26, ↓zs_58_27, ↓zs_58_28, ↓zs_58_31, ↓zs_58_32, ↓zs_58_33, ↓zs_58_34, ↓zs_58_37, ↓zs_58_39, ↓zs_58_40, ↓zs_58_41, ↓zs_58_42, ↓zs_58_43, ↓zs_58_46, ↓zs_58_49, ↓zs_58_50, zx_pu_s, zx_pu_n, zx_rv_s, zx_rv_n, true_and, and_true, true_or, or_true, zb_0, zb_1, zq_lcl, zq_lcg, zq_lce, eq_self, ite_true, ite_false, zin_nI, nI_clamp, nI_ltI, h, k0, k1, q0, e, zq_m1, nI_add, zf_nat]
        exact ih (k + 1) (b ||| zf_one p) (by omega)
  rw [ze_58]
  simp only [↓zs_58_0, ↓zs_58_1, ↓zs_58_4, ↓zs_58_5, ↓zs_58_8, ↓zs_58_9, ↓zs_58_10, ↓zs_58_11, ↓zs_58_15, ↓zs_58_17, ↓zs_58_20, ↓zs_58_21, ↓zs_58_24, ↓zs_58_26, ↓zs_58_27, ↓zs_58_28, ↓zs_58_31, ↓zs_58_32, ↓zs_58_33, ↓zs_58_34, ↓zs_58_37, ↓zs_58_39, ↓zs_58_40, ↓zs_58_41, ↓zs_58_42, ↓zs_58_43, ↓zs_58_46, ↓zs_58_49, ↓zs_58_50, zx_pu_s, zx_pu_n, zx_rv_s, zx_rv_n, true_and, and_true, true_or, or_true, zb_0, zb_1, zq_lcl, zq_lcg, zq_lce, eq_self, ite_true, ite_false, kS]
  exact loop 8 0 _ (by omega)
end TB
