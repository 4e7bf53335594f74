/-! the class's other parts are made -/
/-- what the first i STANDS of the past have brought -/
def zl_p : Nat → List (Nat × Nat) → List (Nat × Nat)
  | 0, L => L
  | i + 1, L => (24, i) :: (25 + 4 * i, 2) :: (25 + 4 * i, 1) :: (25 + 4 * i, 0) :: zl_p i L
theorem zl_p_m {x : Nat × Nat} {L : List (Nat × Nat)} (h : x ∈ L) : ∀ i, x ∈ zl_p i L := by
  intro i
  induction i with
  | zero => exact h
  | succ i ih => exact List.mem_cons_of_mem _ (List.mem_cons_of_mem _ (List.mem_cons_of_mem _ (List.mem_cons_of_mem _ ih)))
theorem zx_stp {i : Nat} (h : i < 10) : zx_st (25 + 4 * i) := by
  have : ∀ i : Fin 10, (25 + 4 * i.1) ∈ zx_stl := by decide
  exact this ⟨i, h⟩
section CP
variable {Lh w : Nat} {I : zx_MI} {J : zx_MJ}
theorem sc_newPast (I : zx_MI) : ∃ I2, (∀ a j, ¬ (25 ≤ a ∧ a < 65) → I2 a j = I a j) ∧ ∀ w L d P, zx_rn (d + 1) 24 [.ref 23] (zx_Lc Lh 24 w L) I J P = P none (zx_Lc Lh 65 (w + 10 + 280) (zl_p 10 ((23, 0) :: L))) I2 J := by
  have e10 : Int32.ofNat 10 = nI 10 := rfl
  have c10 : (nI 10 < 0) = False := eq_false (by decide)
  have k23 : ∀ n w L, 23 < n → n ≤ 153 → (zx_Lc Lh n w L).1 23 = (43, 0) := fun n w L h1 h2 => zc_k h1 h2
  have k24 : ∀ n w L, 24 < n → n ≤ 153 → (zx_Lc Lh n w L).1 24 = (17, 10) := fun n w L h1 h2 => zc_k h1 h2
  have loop : ∀ mm i I1, i + mm = 10 → (∀ a j, ¬ (25 ≤ a ∧ a < 65) → I1 a j = I a j) → ∃ I2, (∀ a j, ¬ (25 ≤ a ∧ a < 65) → I2 a j = I a j) ∧ ∀ w L d P, zx_wp (d + 1) 24 15 [.ref 23, .int (nI i)] [] (zx_Lc Lh (25 + 4 * i) (w + 28 * i) (zl_p i ((23, 0) :: L))) I1 J P = P none (zx_Lc Lh 65 (w + 280) (zl_p 10 ((23, 0) :: L))) I2 J := by
    intro mm
    induction mm with
    | zero =>
      intro i I1 hi f
      obtain rfl : i = 10 := by omega
      refine ⟨I1, f, fun w L d P => ?_⟩
      have q0 : ∀ n w i L, (zx_Lc Lh n w (zl_p i ((23, 0) :: L))).2.1 23 0 = some 24 := fun n w i L => zc_q (zl_p_m List.mem_cons_self i) (by omega)
      rw [zs_24_15]
      simp (disch := omega) only [↓zs_24_16, ↓zs_24_17, ↓zs_24_20, ↓zs_24_21, ↓zs_24_43, zx_pu_s, zx_pu_n, zx_rv_s, zx_rv_n, true_and, and_true, true_or, or_true, zb_0, zb_1, zq_lcl, zq_lcg, zq_lce, eq_self, ite_true, ite_false, zn_10, zn_40, zn_040, zn_340, nI_add, zin_nI, nI_clamp, nI_ltI, nI_eq, pk_mul, nI_1, Nat.lt_irrefl, zn_ltT, k23, k24, q0, e10, Nat.reduceMul, Nat.reduceAdd]
    | succ mm ih =>
      intro i I1 hi f
      have hlt : i < 10 := by omega
      have hT := zx_stp hlt
      obtain ⟨t0, -⟩ := zT_k (Lh := Lh) hT
      obtain ⟨I2, f2, -, h2⟩ := sc_newStand (Lh := Lh) (I := I1) (J := J) hT
      obtain ⟨I3, f3, h3⟩ := ih (i + 1) I2 (by omega) (fun a j h => by rw [f2 a j (by omega)]; exact f a j h)
      refine ⟨I3, f3, fun w L d P => ?_⟩
      have q0 : ∀ n w i L, (zx_Lc Lh n w (zl_p i ((23, 0) :: L))).2.1 23 0 = some 24 := fun n w i L => zc_q (zl_p_m List.mem_cons_self i) (by omega)
      have nn : ∀ w L, zx_new (zx_Lc Lh (25 + 4 * i) w L) (47, 0) 4 = zx_Lc Lh (25 + 4 * i + 1) (w + 4) L := fun w L => zc_new (by omega) t0
      have q24 : (zx_LL Lh).2.1 24 i = some (25 + 4 * i) := by
        have : ∀ i : Fin 10, (zx_tR.getD 24 []).getD i.1 none = some (25 + 4 * i.1) := by decide +kernel
        exact this ⟨i, hlt⟩
      have u24 : ∀ n w L, _ := fun n w L => zc_u (n := n) (w := w) (S := L) (show 24 < 153 by omega) q24
      have b0 : ∀ n w L, 25 + 4 * i < n → n ≤ 153 → (zx_Lc Lh n w L).1 (25 + 4 * i) = (47, 0) := fun n w L h1 h2 => (zc_k h1 h2).trans t0
      have hex : ∀ n w L, 25 + 4 * i < n → n ≤ 153 → (∃ c, 1 ≤ c ∧ c < 13 ∧ ((zx_Lc Lh n w L).1 24).1 = 10 + c ∧ (zx_Lc Lh n w L).1 (25 + 4 * i) = (40 + c, 0)) = True := fun n w L h1 h2 => eq_true ⟨7, by decide, by decide, by rw [k24 n w L (by omega) h2], b0 n w L h1 h2⟩
      have l5 : (25 + 4 * i < 5000) = True := eq_true (by omega)
      have fin := h3 w L d P
      rw [show 25 + 4 * (i + 1) = 25 + 4 * i + 4 by omega, show w + 28 * (i + 1) = w + 28 * i + 4 + 24 by omega] at fin
      rw [← fin, zs_24_15]
      simp (disch := omega) only [↓zs_24_16, ↓zs_24_17, ↓zs_24_20, ↓zs_24_21, ↓zs_24_24, ↓zs_24_25, ↓zs_24_28, ↓zs_24_29, ↓zs_24_32, ↓zs_24_33, ↓zs_24_36, ↓zs_24_37, ↓zs_24_40, zx_pu_s, zx_pu_n, zx_rv_s, zx_rv_n, true_and, and_true, true_or, or_true, zb_0, zb_1, zq_lcl, zq_lcg, zq_lce, eq_self, ite_true, ite_false, zn_10, zn_40, zn_040, zn_340, nI_add, zin_nI, nI_clamp, nI_ltI, nI_eq, pk_mul, nI_1, Nat.lt_irrefl, zc_n, zn_ltT, k23, k24, q0, e10, hlt, nn, h2, ↓hex, u24, zc_w]
      rfl
  obtain ⟨I2, f2, h2⟩ := loop 10 0 I rfl (fun _ _ _ => rfl)
  refine ⟨I2, f2, fun w L d P => ?_⟩
  have n0 : ∀ w L, zx_new (zx_Lc Lh 24 w L) (17, 10) 10 = zx_Lc Lh 25 (w + 10) L := fun w L => zc_new (by omega) rfl
  have u0 : ∀ n w L, _ := fun n w L => zc_u (n := n) (w := w) (S := L) (Lh := Lh) (a := 23) (j := 0) (b := 24) (by omega) rfl
  have fin := h2 (w + 10) L d P
  rw [← fin, ze_24]
  simp (disch := omega) only [↓zs_24_0, ↓zs_24_1, ↓zs_24_4, ↓zs_24_5, ↓zs_24_7, ↓zs_24_10, ↓zs_24_13, ↓zs_24_14, zx_pu_s, zx_pu_n, zx_rv_s, zx_rv_n, true_and, and_true, true_or, or_true, zb_0, zb_1, zq_lcl, zq_lcg, zq_lce, eq_self, ite_true, ite_false, zc_n, zn_ltT, zn_leT, c10, not_false_eq_true, nI_clamp, n0, u0, k23, zc_w, Nat.mul_zero, Nat.add_zero]
  rfl
theorem sc_newSearch (I : zx_MI) : ∃ I2, (∀ a j, ¬ (66 ≤ a ∧ a < 70) → I2 a j = I a j) ∧ ∀ w L d P, zx_rn (d + 1) 39 [.ref 65] (zx_Lc Lh 66 w L) I J P = P none (zx_Lc Lh 70 (w + 4 + 24) ((65, 0) :: (66, 2) :: (66, 1) :: (66, 0) :: L)) I2 J := by
  have hT : zx_st 66 := show 66 ∈ zx_stl by decide
  obtain ⟨I2, f2, -, h2⟩ := sc_newStand (Lh := Lh) (I := I) (J := J) hT
  refine ⟨I2, fun a j h => f2 a j (by omega), fun w L d P => ?_⟩
  have k65 : ∀ n w L, 65 < n → n ≤ 153 → (zx_Lc Lh n w L).1 65 = (45, 0) := fun n w L h1 h2 => zc_k h1 h2
  have n0 : ∀ w L, zx_new (zx_Lc Lh 66 w L) (47, 0) 4 = zx_Lc Lh 67 (w + 4) L := fun w L => zc_new (by omega) rfl
  have u0 : ∀ n w L, _ := fun n w L => zc_u (n := n) (w := w) (S := L) (Lh := Lh) (a := 65) (j := 0) (b := 66) (by omega) rfl
  have h2' := fun w S P => h2 w S d P
  rw [ze_39]
  simp (disch := omega) only [↓zs_39_0, ↓zs_39_1, ↓zs_39_4, ↓zs_39_5, ↓zs_39_8, ↓zs_39_9, ↓zs_39_12, ↓zs_39_15, zx_pu_s, zx_pu_n, zx_rv_s, zx_rv_n, true_and, and_true, true_or, or_true, zb_0, zb_1, zq_lcl, zq_lcg, zq_lce, eq_self, ite_true, ite_false, zc_n, zn_ltT, n0, u0, k65, zc_w, h2']
theorem sc_newWalks (I : zx_MI) : ∃ I2, (∀ a j, ¬ (71 ≤ a ∧ a < 75) → I2 a j = I a j) ∧ ∀ w L d P, zx_rn (d + 1) 90 [.ref 70] (zx_Lc Lh 71 w L) I J P = P none (zx_Lc Lh 79 (w + 4 + 24 + 40 + 41 + 64 + 64) ((70, 4) :: (70, 3) :: (70, 2) :: (70, 1) :: (70, 0) :: (71, 2) :: (71, 1) :: (71, 0) :: L)) I2 J := by
  have hT : zx_st 71 := show 71 ∈ zx_stl by decide
  obtain ⟨I2, f2, -, h2⟩ := sc_newStand (Lh := Lh) (I := I) (J := J) hT
  refine ⟨I2, fun a j h => f2 a j (by omega), fun w L d P => ?_⟩
  have k70 : ∀ n w L, 70 < n → n ≤ 153 → (zx_Lc Lh n w L).1 70 = (50, 0) := fun n w L h1 h2 => zc_k h1 h2
  have n0 : ∀ w L, zx_new (zx_Lc Lh 71 w L) (47, 0) 4 = zx_Lc Lh 72 (w + 4) L := fun w L => zc_new (by omega) rfl
  have n1 : ∀ w L, zx_new (zx_Lc Lh 75 w L) (3, 40) 40 = zx_Lc Lh 76 (w + 40) L := fun w L => zc_new (by omega) rfl
  have n2 : ∀ w L, zx_new (zx_Lc Lh 76 w L) (3, 41) 41 = zx_Lc Lh 77 (w + 41) L := fun w L => zc_new (by omega) rfl
  have n3 : ∀ w L, zx_new (zx_Lc Lh 77 w L) (3, 64) 64 = zx_Lc Lh 78 (w + 64) L := fun w L => zc_new (by omega) rfl
  have n4 : ∀ w L, zx_new (zx_Lc Lh 78 w L) (3, 64) 64 = zx_Lc Lh 79 (w + 64) L := fun w L => zc_new (by omega) rfl
  have u0 : ∀ n w L, _ := fun n w L => zc_u (n := n) (w := w) (S := L) (Lh := Lh) (a := 70) (j := 0) (b := 71) (by omega) rfl
  have u1 : ∀ n w L, _ := fun n w L => zc_u (n := n) (w := w) (S := L) (Lh := Lh) (a := 70) (j := 1) (b := 75) (by omega) rfl
  have u2 : ∀ n w L, _ := fun n w L => zc_u (n := n) (w := w) (S := L) (Lh := Lh) (a := 70) (j := 2) (b := 76) (by omega) rfl
  have u3 : ∀ n w L, _ := fun n w L => zc_u (n := n) (w := w) (S := L) (Lh := Lh) (a := 70) (j := 3) (b := 77) (by omega) rfl
  have u4 : ∀ n w L, _ := fun n w L => zc_u (n := n) (w := w) (S := L) (Lh := Lh) (a := 70) (j := 4) (b := 78) (by omega) rfl
  have c40 : (nI 40 < 0) = False := eq_false (by decide)
  have c41 : (nI 41 < 0) = False := eq_false (by decide)
  have c64 : (nI 64 < 0) = False := eq_false (by decide)
  have h2' := fun w S P => h2 w S d P
  rw [ze_90]
  simp (disch := omega) only [↓zs_90_0, ↓zs_90_1, ↓zs_90_4, ↓zs_90_5, ↓zs_90_8, ↓zs_90_9, ↓zs_90_12, ↓zs_90_15, ↓zs_90_16, ↓zs_90_18, ↓zs_90_20, ↓zs_90_23, ↓zs_90_24, ↓zs_90_26, ↓zs_90_28, ↓zs_90_31, ↓zs_90_32, ↓zs_90_34, ↓zs_90_36, ↓zs_90_39, ↓zs_90_40, ↓zs_90_42, ↓zs_90_44, ↓zs_90_47, zx_pu_s, zx_pu_n, zx_rv_s, zx_rv_n, true_and, and_true, true_or, or_true, zb_0, zb_1, zq_lcl, zq_lcg, zq_lce, eq_self, ite_true, ite_false, zc_n, zn_ltT, zn_leT, c40, c41, c64, not_false_eq_true, nI_clamp, n0, n1, n2, n3, n4, u0, u1, u2, u3, u4, k70, zc_w, h2', Nat.reduceAdd]
theorem sc_newReader (I : zx_MI) : ∃ I2, (∀ a j, ¬ (99 ≤ a ∧ a < 102) → I2 a j = I a j) ∧ ∀ w L d P, zx_rn (d + 2) 28 [.ref 83] (zx_Lc Lh 84 w L) I J P = P none (zx_Lc Lh 102 (w + 8 + 900 + 6 + 64 + 14 + 4 + 900 + 64 + 8 + 10 + 10 + 10 + 4 + 4 + 4 + 24) ((83, 3) :: (98, 2) :: (98, 1) :: (98, 0) :: (83, 2) :: (88, 5) :: (88, 4) :: (88, 3) :: (88, 2) :: (88, 1) :: (88, 0) :: (89, 2) :: (89, 1) :: (89, 0) :: (83, 1) :: (86, 0) :: (83, 0) :: (84, 0) :: L)) I2 J := by
  obtain ⟨I2, f2, -, h2⟩ := sc_newStand (Lh := Lh) (I := I) (J := J) zx_st98
  refine ⟨I2, fun a j h => f2 a j (by omega), fun w L d P => ?_⟩
  have hs := fun w L P => sc_newSq (Lh := Lh) (I := I) (J := J) zx_sq88 w L d P
  have h2' := fun w S P => h2 w S (d + 1) P
  have k83 : ∀ n w L, 83 < n → n ≤ 153 → (zx_Lc Lh n w L).1 83 = (44, 0) := fun n w L h1 h2 => zc_k h1 h2
  have k84 : ∀ n w L, 84 < n → n ≤ 153 → (zx_Lc Lh n w L).1 84 = (48, 0) := fun n w L h1 h2 => zc_k h1 h2
  have k86 : ∀ n w L, 86 < n → n ≤ 153 → (zx_Lc Lh n w L).1 86 = (42, 0) := fun n w L h1 h2 => zc_k h1 h2
  have n0 : ∀ w L, zx_new (zx_Lc Lh 84 w L) (48, 0) 8 = zx_Lc Lh 85 (w + 8) L := fun w L => zc_new (by omega) rfl
  have n1 : ∀ w L, zx_new (zx_Lc Lh 85 w L) (1, 900) 900 = zx_Lc Lh 86 (w + 900) L := fun w L => zc_new (by omega) rfl
  have n2 : ∀ w L, zx_new (zx_Lc Lh 86 w L) (42, 0) 6 = zx_Lc Lh 87 (w + 6) L := fun w L => zc_new (by omega) rfl
  have n3 : ∀ w L, zx_new (zx_Lc Lh 87 w L) (0, 64) 64 = zx_Lc Lh 88 (w + 64) L := fun w L => zc_new (by omega) rfl
  have n4 : ∀ w L, zx_new (zx_Lc Lh 88 w L) (46, 0) 14 = zx_Lc Lh 89 (w + 14) L := fun w L => zc_new (by omega) rfl
  have n5 : ∀ w L, zx_new (zx_Lc Lh 98 w L) (47, 0) 4 = zx_Lc Lh 99 (w + 4) L := fun w L => zc_new (by omega) rfl
  have u0 : ∀ n w L, _ := fun n w L => zc_u (n := n) (w := w) (S := L) (Lh := Lh) (a := 83) (j := 0) (b := 84) (by omega) rfl
  have u1 : ∀ n w L, _ := fun n w L => zc_u (n := n) (w := w) (S := L) (Lh := Lh) (a := 83) (j := 1) (b := 86) (by omega) rfl
  have u2 : ∀ n w L, _ := fun n w L => zc_u (n := n) (w := w) (S := L) (Lh := Lh) (a := 83) (j := 2) (b := 88) (by omega) rfl
  have u3 : ∀ n w L, _ := fun n w L => zc_u (n := n) (w := w) (S := L) (Lh := Lh) (a := 83) (j := 3) (b := 98) (by omega) rfl
  have u4 : ∀ n w L, _ := fun n w L => zc_u (n := n) (w := w) (S := L) (Lh := Lh) (a := 84) (j := 0) (b := 85) (by omega) rfl
  have u5 : ∀ n w L, _ := fun n w L => zc_u (n := n) (w := w) (S := L) (Lh := Lh) (a := 86) (j := 0) (b := 87) (by omega) rfl
  have c64 : (nI 64 < 0) = False := eq_false (by decide)
  have c9 : (nI 900 < 0) = False := eq_false (by decide)
  have h75 : ∀ w L I P, zx_rn (d + 1) 75 [.ref 84] (zx_Lc Lh 85 w L) I J P = P none (zx_Lc Lh 86 (w + 900) ((84, 0) :: L)) I J := fun w L I P => by
    rw [ze_75]
    simp (disch := omega) only [↓zs_75_0, ↓zs_75_1, ↓zs_75_4, ↓zs_75_5, ↓zs_75_8, ↓zs_75_10, ↓zs_75_13, zx_pu_s, zx_pu_n, zx_rv_s, zx_rv_n, true_and, and_true, true_or, or_true, zb_0, zb_1, zq_lcl, zq_lcg, zq_lce, eq_self, ite_true, ite_false, zc_n, zn_ltT, zn_leT, c9, not_false_eq_true, nI_clamp, k84, zc_w, n1, u4]
  have h14 : ∀ w L I P, zx_rn (d + 1) 14 [.ref 86] (zx_Lc Lh 87 w L) I J P = P none (zx_Lc Lh 88 (w + 64) ((86, 0) :: L)) I J := fun w L I P => by
    rw [ze_14]
    simp (disch := omega) only [↓zs_14_0, ↓zs_14_1, ↓zs_14_4, ↓zs_14_5, ↓zs_14_7, ↓zs_14_9, ↓zs_14_12, zx_pu_s, zx_pu_n, zx_rv_s, zx_rv_n, true_and, and_true, true_or, or_true, zb_0, zb_1, zq_lcl, zq_lcg, zq_lce, eq_self, ite_true, ite_false, zc_n, zn_ltT, zn_leT, c64, not_false_eq_true, nI_clamp, k86, zc_w, n3, u5]
  rw [ze_28]
  simp (disch := omega) only [↓zs_28_0, ↓zs_28_1, ↓zs_28_4, ↓zs_28_5, ↓zs_28_8, ↓zs_28_9, ↓zs_28_12, ↓zs_28_15, ↓zs_28_16, ↓zs_28_19, ↓zs_28_20, ↓zs_28_23, ↓zs_28_26, ↓zs_28_27, ↓zs_28_30, ↓zs_28_31, ↓zs_28_34, ↓zs_28_37, ↓zs_28_38, ↓zs_28_41, ↓zs_28_42, ↓zs_28_45, ↓zs_28_48, zx_pu_s, zx_pu_n, zx_rv_s, zx_rv_n, true_and, and_true, true_or, or_true, zb_0, zb_1, zq_lcl, zq_lcg, zq_lce, eq_self, ite_true, ite_false, zc_n, zn_ltT, n0, n2, n4, n5, u0, u1, u2, u3, k83, zc_w, hs, h2', h75, h14, Nat.reduceAdd]
end CP
