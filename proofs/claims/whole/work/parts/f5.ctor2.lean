/-! squares and trays are made -/
section CS
variable {Lh w : Nat} {I : zx_MI} {J : zx_MJ}
theorem sc_newLaw {S : Nat} (hS : zx_sq S) : ∀ w L d P, zx_rn d 8 [.ref (S + 1)] (zx_Lc Lh (S + 2) w L) I J P = P none (zx_Lc Lh (S + 5) (w + 900 + 64 + 8) ((S + 1, 2) :: (S + 1, 1) :: (S + 1, 0) :: L)) I J := by
  intro w L d P
  obtain ⟨k0, k1, k2, k3, k4, -⟩ := zS_k (Lh := Lh) hS
  obtain ⟨-, q1, q2, q3, -⟩ := zS_q (Lh := Lh) hS
  have hr := zS_r hS
  have c9 : (nI 900 < 0) = False := eq_false (by decide)
  have c6 : (nI 64 < 0) = False := eq_false (by decide)
  have c8 : (nI 8 < 0) = False := eq_false (by decide)
  have n1 : zx_new (zx_Lc Lh (S + 2) w L) (0, 900) 900 = zx_Lc Lh (S + 3) (w + 900) L := zc_new (by omega) k2
  have n2 : zx_new (zx_Lc Lh (S + 3) (w + 900) ((S + 1, 0) :: L)) (0, 64) 64 = zx_Lc Lh (S + 4) (w + 900 + 64) ((S + 1, 0) :: L) := zc_new (by omega) k3
  have n3 : zx_new (zx_Lc Lh (S + 4) (w + 900 + 64) ((S + 1, 1) :: (S + 1, 0) :: L)) (0, 8) 8 = zx_Lc Lh (S + 5) (w + 900 + 64 + 8) ((S + 1, 1) :: (S + 1, 0) :: L) := zc_new (by omega) k4
  have u1 := zc_u (n := S + 3) (w := w + 900) (S := L) (by omega) q1
  have u2 := zc_u (n := S + 4) (w := w + 900 + 64) (S := (S + 1, 0) :: L) (by omega) q2
  have u3 := zc_u (n := S + 5) (w := w + 900 + 64 + 8) (S := (S + 1, 1) :: (S + 1, 0) :: L) (by omega) q3
  have b0 : ∀ n w L, S + 1 < n → n ≤ 153 → (zx_Lc Lh n w L).1 (S + 1) = (41, 0) := fun n w L h1 h2 => (zc_k h1 h2).trans k1
  rw [ze_8]
  simp (disch := omega) only [↓zs_8_0, ↓zs_8_1, ↓zs_8_4, ↓zs_8_5, ↓zs_8_8, ↓zs_8_10, ↓zs_8_13, ↓zs_8_14, ↓zs_8_16, ↓zs_8_18, ↓zs_8_21, ↓zs_8_22, ↓zs_8_24, ↓zs_8_26, ↓zs_8_29, zx_pu_s, zx_pu_n, zx_rv_s, zx_rv_n, true_and, and_true, true_or, or_true, zb_0, zb_1, zq_lcl, zq_lcg, zq_lce, eq_self, ite_true, ite_false, zc_n, zn_ltT, zn_leT, c9, c6, c8, not_false_eq_true, nI_clamp, n1, n2, n3, u1, u2, u3, b0, zc_w]
theorem sc_newSq {S : Nat} (hS : zx_sq S) : ∀ w L d P, zx_rn (d + 1) 45 [.ref S] (zx_Lc Lh (S + 1) w L) I J P = P none (zx_Lc Lh (S + 10) (w + 4 + 900 + 64 + 8 + 10 + 10 + 10 + 4 + 4) ((S, 5) :: (S, 4) :: (S, 3) :: (S, 2) :: (S, 1) :: (S, 0) :: (S + 1, 2) :: (S + 1, 1) :: (S + 1, 0) :: L)) I J := by
  intro w L d P
  obtain ⟨k0, k1, k2, k3, k4, k5, k6, k7, k8, k9⟩ := zS_k (Lh := Lh) hS
  obtain ⟨q0, -, -, -, q5, q6, q7, q8, q9⟩ := zS_q (Lh := Lh) hS
  have hr := zS_r hS
  have c10 : (nI 10 < 0) = False := eq_false (by decide)
  have c4 : (nI 4 < 0) = False := eq_false (by decide)
  have hl := fun w L d P => sc_newLaw (Lh := Lh) (I := I) (J := J) hS w L d P
  have n0 : zx_new (zx_Lc Lh (S + 1) w L) (41, 0) 4 = zx_Lc Lh (S + 2) (w + 4) L := zc_new (by omega) k1
  have n5 : ∀ w L, zx_new (zx_Lc Lh (S + 5) w L) (0, 10) 10 = zx_Lc Lh (S + 6) (w + 10) L := fun w L => zc_new (by omega) k5
  have n6 : ∀ w L, zx_new (zx_Lc Lh (S + 6) w L) (0, 10) 10 = zx_Lc Lh (S + 7) (w + 10) L := fun w L => zc_new (by omega) k6
  have n7 : ∀ w L, zx_new (zx_Lc Lh (S + 7) w L) (0, 10) 10 = zx_Lc Lh (S + 8) (w + 10) L := fun w L => zc_new (by omega) k7
  have n8 : ∀ w L, zx_new (zx_Lc Lh (S + 8) w L) (0, 4) 4 = zx_Lc Lh (S + 9) (w + 4) L := fun w L => zc_new (by omega) k8
  have n9 : ∀ w L, zx_new (zx_Lc Lh (S + 9) w L) (0, 4) 4 = zx_Lc Lh (S + 10) (w + 4) L := fun w L => zc_new (by omega) k9
  have u0 : ∀ n w L, _ := fun n w L => zc_u (n := n) (w := w) (S := L) (show S < 153 by omega) q0
  have u5 : ∀ n w L, _ := fun n w L => zc_u (n := n) (w := w) (S := L) (show S < 153 by omega) q5
  have u6 : ∀ n w L, _ := fun n w L => zc_u (n := n) (w := w) (S := L) (show S < 153 by omega) q6
  have u7 : ∀ n w L, _ := fun n w L => zc_u (n := n) (w := w) (S := L) (show S < 153 by omega) q7
  have u8 : ∀ n w L, _ := fun n w L => zc_u (n := n) (w := w) (S := L) (show S < 153 by omega) q8
  have u9 : ∀ n w L, _ := fun n w L => zc_u (n := n) (w := w) (S := L) (show S < 153 by omega) q9
  have b0 : ∀ n w L, S < n → n ≤ 153 → (zx_Lc Lh n w L).1 S = (46, 0) := fun n w L h1 h2 => (zc_k h1 h2).trans k0
  have l5 : (S + 1 < 5000) = True := eq_true (by omega)
  rw [ze_45]
  simp (disch := omega) only [↓zs_45_0, ↓zs_45_1, ↓zs_45_4, ↓zs_45_5, ↓zs_45_8, ↓zs_45_9, ↓zs_45_12, ↓zs_45_15, ↓zs_45_16, ↓zs_45_18, ↓zs_45_20, ↓zs_45_23, ↓zs_45_24, ↓zs_45_26, ↓zs_45_28, zx_pu_s, zx_pu_n, zx_rv_s, zx_rv_n, true_and, and_true, true_or, or_true, zb_0, zb_1, zq_lcl, zq_lcg, zq_lce, eq_self, ite_true, ite_false, zc_n, zn_ltT, zn_leT, c10, c4, not_false_eq_true, nI_clamp, n0, hl, n5, n6, n7, n8, n9, u0, u5, u6, u7, u8, u9, b0, zc_w]
  simp (disch := omega) only [↓zs_45_31, ↓zs_45_32, ↓zs_45_34, ↓zs_45_36, ↓zs_45_39, ↓zs_45_40, ↓zs_45_41, ↓zs_45_43, ↓zs_45_46, ↓zs_45_47, ↓zs_45_48, ↓zs_45_50, ↓zs_45_53, zx_pu_s, zx_pu_n, zx_rv_s, zx_rv_n, true_and, and_true, true_or, or_true, zb_0, zb_1, zq_lcl, zq_lcg, zq_lce, eq_self, ite_true, ite_false, zc_n, zn_ltT, zn_leT, c10, c4, not_false_eq_true, nI_clamp, n0, hl, n5, n6, n7, n8, n9, u0, u5, u6, u7, u8, u9, b0, zc_w]
theorem sc_newTray {t : Nat} (ht : t < 4) : ∀ w L d P, zx_rn d 85 [.ref (102 + 2 * t)] (zx_Lc Lh (103 + 2 * t) w L) I J P = P none (zx_Lc Lh (104 + 2 * t) (w + 40) ((102 + 2 * t, 0) :: L)) I J := by
  intro w L d P
  have k0 : (zx_LL Lh).1 (102 + 2 * t) = (49, 0) ∧ (zx_LL Lh).1 (103 + 2 * t) = (3, 40) ∧ (zx_LL Lh).2.1 (102 + 2 * t) 0 = some (103 + 2 * t) := by
    rcases (show t = 0 ∨ t = 1 ∨ t = 2 ∨ t = 3 by omega) with q | q | q | q <;> subst q <;> exact ⟨rfl, rfl, rfl⟩
  obtain ⟨k0, k1, q0⟩ := k0
  have c40 : (nI 40 < 0) = False := eq_false (by decide)
  have n0 : zx_new (zx_Lc Lh (103 + 2 * t) w L) (3, 40) 40 = zx_Lc Lh (104 + 2 * t) (w + 40) L := by
    rw [zc_new (by omega) k1, show 103 + 2 * t + 1 = 104 + 2 * t by omega]
  have u0 := zc_u (n := 104 + 2 * t) (w := w + 40) (S := L) (show 102 + 2 * t < 153 by omega) q0
  have b0 : ∀ n w L, 102 + 2 * t < n → n ≤ 153 → (zx_Lc Lh n w L).1 (102 + 2 * t) = (49, 0) := fun n w L h1 h2 => (zc_k h1 h2).trans k0
  rw [ze_85]
  simp (disch := omega) only [↓zs_85_0, ↓zs_85_1, ↓zs_85_4, ↓zs_85_5, ↓zs_85_7, ↓zs_85_9, ↓zs_85_12, zx_pu_s, zx_pu_n, zx_rv_s, zx_rv_n, true_and, and_true, true_or, or_true, zb_0, zb_1, zq_lcl, zq_lcg, zq_lce, eq_self, ite_true, ite_false, zc_n, zn_ltT, zn_leT, c40, not_false_eq_true, nI_clamp, n0, u0, b0, zc_w]
end CS
