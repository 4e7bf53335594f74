/-! the class is made -/
def zl_st (T : Nat) (L : List (Nat × Nat)) : List (Nat × Nat) := (T, 2) :: (T, 1) :: (T, 0) :: L
def zl_sq (S : Nat) (L : List (Nat × Nat)) : List (Nat × Nat) := (S, 5) :: (S, 4) :: (S, 3) :: (S, 2) :: (S, 1) :: (S, 0) :: (S + 1, 2) :: (S + 1, 1) :: (S + 1, 0) :: L
theorem zl_st_m {x : Nat × Nat} {T : Nat} {L : List (Nat × Nat)} (h : x ∈ L) : x ∈ zl_st T L := List.mem_cons_of_mem _ (List.mem_cons_of_mem _ (List.mem_cons_of_mem _ h))
theorem zl_sq_m {x : Nat × Nat} {T : Nat} {L : List (Nat × Nat)} (h : x ∈ L) : x ∈ zl_sq T L := by
  unfold zl_sq
  simp only [List.mem_cons, h, or_true]
section C9
variable {Lh w : Nat} {I : zx_MI} {J : zx_MJ}
def zl_1 (L : List (Nat × Nat)) : List (Nat × Nat) := (0, 3) :: zl_st 19 ((0, 2) :: zl_st 15 ((0, 1) :: zl_st 11 ((0, 0) :: zl_sq 1 L)))
theorem sc_new1 (I : zx_MI) : ∃ I2, (∀ a j, ¬ (12 ≤ a ∧ a ≤ 22 ∧ a ≠ 13) → I2 a j = I a j) ∧ (∀ s, s < 8 → I2 12 s = -1 ∧ I2 14 s = -1) ∧ ∀ w L d P, zx_wp (d + 4) 99 0 [.ref 0, zx_u0] [] (zx_Lc Lh 1 w L) I J P = zx_wp (d + 4) 99 48 [.ref 0, zx_u0] [] (zx_Lc Lh 23 (w + 14 + 4 + 900 + 64 + 8 + 10 + 10 + 10 + 4 + 4 + 4 + 24 + 4 + 24 + 4 + 24) (zl_1 L)) I2 J P := by
  have t11 : zx_st 11 := show 11 ∈ zx_stl by decide
  have t15 : zx_st 15 := show 15 ∈ zx_stl by decide
  have t19 : zx_st 19 := show 19 ∈ zx_stl by decide
  obtain ⟨I1, f1, g1, h1⟩ := sc_newStand (Lh := Lh) (I := I) (J := J) t11
  obtain ⟨I2, f2, -, h2⟩ := sc_newStand (Lh := Lh) (I := I1) (J := J) t15
  obtain ⟨I3, f3, -, h3⟩ := sc_newStand (Lh := Lh) (I := I2) (J := J) t19
  refine ⟨I3, fun a j h => by rw [f3 a j (by omega), f2 a j (by omega), f1 a j (by omega)], fun s hs => by rw [f3 12 s (by omega), f3 14 s (by omega), f2 12 s (by omega), f2 14 s (by omega)]; exact g1 s hs, fun w L d P => ?_⟩
  have hs := fun w L P => sc_newSq (Lh := Lh) (I := I) (J := J) zx_sq1 w L (d + 2) P
  have h1' := fun w L P => h1 w L (d + 3) P
  have h2' := fun w L P => h2 w L (d + 3) P
  have h3' := fun w L P => h3 w L (d + 3) P
  have k0 : ∀ n w L, 0 < n → n ≤ 153 → (zx_Lc Lh n w L).1 0 = (51, 0) := fun n w L h1 h2 => zc_k h1 h2
  have n0 : ∀ w L, zx_new (zx_Lc Lh 1 w L) (46, 0) 14 = zx_Lc Lh 2 (w + 14) L := fun w L => zc_new (by omega) rfl
  have n1 : ∀ w L, zx_new (zx_Lc Lh 11 w L) (47, 0) 4 = zx_Lc Lh 12 (w + 4) L := fun w L => zc_new (by omega) rfl
  have n2 : ∀ w L, zx_new (zx_Lc Lh 15 w L) (47, 0) 4 = zx_Lc Lh 16 (w + 4) L := fun w L => zc_new (by omega) rfl
  have n3 : ∀ w L, zx_new (zx_Lc Lh 19 w L) (47, 0) 4 = zx_Lc Lh 20 (w + 4) L := fun w L => zc_new (by omega) rfl
  have u0 : ∀ n w L, _ := fun n w L => zc_u (n := n) (w := w) (S := L) (Lh := Lh) (a := 0) (j := 0) (b := 1) (by omega) rfl
  have u1 : ∀ n w L, _ := fun n w L => zc_u (n := n) (w := w) (S := L) (Lh := Lh) (a := 0) (j := 1) (b := 11) (by omega) rfl
  have u2 : ∀ n w L, _ := fun n w L => zc_u (n := n) (w := w) (S := L) (Lh := Lh) (a := 0) (j := 2) (b := 15) (by omega) rfl
  have u3 : ∀ n w L, _ := fun n w L => zc_u (n := n) (w := w) (S := L) (Lh := Lh) (a := 0) (j := 3) (b := 19) (by omega) rfl
  simp (disch := omega) only [↓zs_99_0, ↓zs_99_1, ↓zs_99_4, ↓zs_99_5, ↓zs_99_8, ↓zs_99_9, ↓zs_99_12, ↓zs_99_15, ↓zs_99_16, ↓zs_99_19, ↓zs_99_20, ↓zs_99_23, ↓zs_99_26, ↓zs_99_27, ↓zs_99_30, ↓zs_99_31, ↓zs_99_34, ↓zs_99_37, ↓zs_99_38, ↓zs_99_41, ↓zs_99_42, ↓zs_99_45, zx_pu_s, zx_pu_n, zx_rv_s, zx_rv_n, true_and, and_true, true_or, or_true, zb_0, zb_1, zq_lcl, zq_lcg, zq_lce, eq_self, ite_true, ite_false, zc_n, zn_ltT, n0, n1, n2, n3, u0, u1, u2, u3, k0, zc_w, hs, h1', h2', h3', Nat.reduceAdd]
  rfl
def zl_2 (L : List (Nat × Nat)) : List (Nat × Nat) := (0, 6) :: (70, 4) :: (70, 3) :: (70, 2) :: (70, 1) :: (70, 0) :: zl_st 71 ((0, 5) :: (65, 0) :: zl_st 66 ((0, 4) :: zl_p 10 ((23, 0) :: L)))
theorem sc_new2 (I : zx_MI) : ∃ I2, (∀ a j, ¬ (25 ≤ a ∧ a ≤ 74) → I2 a j = I a j) ∧ ∀ w L d P, zx_wp (d + 4) 99 48 [.ref 0, zx_u0] [] (zx_Lc Lh 23 w L) I J P = zx_wp (d + 4) 99 81 [.ref 0, zx_u0] [] (zx_Lc Lh 79 (w + 3 + 10 + 280 + 6 + 4 + 24 + 8 + 4 + 24 + 40 + 41 + 64 + 64) (zl_2 L)) I2 J P := by
  obtain ⟨I1, f1, h1⟩ := sc_newPast (Lh := Lh) (J := J) I
  obtain ⟨I2, f2, h2⟩ := sc_newSearch (Lh := Lh) (J := J) I1
  obtain ⟨I3, f3, h3⟩ := sc_newWalks (Lh := Lh) (J := J) I2
  refine ⟨I3, fun a j h => by rw [f3 a j (by omega), f2 a j (by omega), f1 a j (by omega)], fun w L d P => ?_⟩
  have h1' := fun w L P => h1 w L (d + 2) P
  have h2' := fun w L P => h2 w L (d + 2) P
  have h3' := fun w L P => h3 w L (d + 2) P
  have k0 : ∀ n w L, 0 < n → n ≤ 153 → (zx_Lc Lh n w L).1 0 = (51, 0) := fun n w L h1 h2 => zc_k h1 h2
  have n0 : ∀ w L, zx_new (zx_Lc Lh 23 w L) (43, 0) 3 = zx_Lc Lh 24 (w + 3) L := fun w L => zc_new (by omega) rfl
  have n1 : ∀ w L, zx_new (zx_Lc Lh 65 w L) (45, 0) 6 = zx_Lc Lh 66 (w + 6) L := fun w L => zc_new (by omega) rfl
  have n2 : ∀ w L, zx_new (zx_Lc Lh 70 w L) (50, 0) 8 = zx_Lc Lh 71 (w + 8) L := fun w L => zc_new (by omega) rfl
  have u0 : ∀ n w L, _ := fun n w L => zc_u (n := n) (w := w) (S := L) (Lh := Lh) (a := 0) (j := 4) (b := 23) (by omega) rfl
  have u1 : ∀ n w L, _ := fun n w L => zc_u (n := n) (w := w) (S := L) (Lh := Lh) (a := 0) (j := 5) (b := 65) (by omega) rfl
  have u2 : ∀ n w L, _ := fun n w L => zc_u (n := n) (w := w) (S := L) (Lh := Lh) (a := 0) (j := 6) (b := 70) (by omega) rfl
  simp (disch := omega) only [↓zs_99_48, ↓zs_99_49, ↓zs_99_52, ↓zs_99_53, ↓zs_99_56, ↓zs_99_59, ↓zs_99_60, ↓zs_99_63, ↓zs_99_64, ↓zs_99_67, ↓zs_99_70, ↓zs_99_71, ↓zs_99_74, ↓zs_99_75, ↓zs_99_78, zx_pu_s, zx_pu_n, zx_rv_s, zx_rv_n, true_and, and_true, true_or, or_true, zb_0, zb_1, zq_lcl, zq_lcg, zq_lce, eq_self, ite_true, ite_false, zc_n, zn_ltT, n0, n1, n2, u0, u1, u2, k0, zc_w, h1', h2', h3']
  rfl
def zl_3 (L : List (Nat × Nat)) : List (Nat × Nat) := (0, 11) :: (83, 3) :: zl_st 98 ((83, 2) :: zl_sq 88 ((83, 1) :: (86, 0) :: (83, 0) :: (84, 0) :: (0, 10) :: (0, 9) :: (0, 8) :: (0, 7) :: L))
theorem sc_new3 (I : zx_MI) : ∃ I2, (∀ a j, ¬ ((99 ≤ a ∧ a < 102) ∨ (a = 0 ∧ j = 14)) → I2 a j = I a j) ∧ I2 0 14 = -1 ∧ ∀ w L d P, zx_wp (d + 4) 99 81 [.ref 0, zx_u0] [] (zx_Lc Lh 79 w L) I J P = zx_wp (d + 4) 99 130 [.ref 0, .int (nI 0)] [] (zx_Lc Lh 102 (w + 4 + 2 + 2 + 2 + 6 + 8 + 900 + 6 + 64 + 14 + 4 + 900 + 64 + 8 + 10 + 10 + 10 + 4 + 4 + 4 + 24) (zl_3 L)) I2 J P := by
  obtain ⟨I1, f1, h1⟩ := sc_newReader (Lh := Lh) (J := J) I
  refine ⟨zx_u I1 0 14 (-1), fun a j h => by rw [zu_n (by omega), f1 a j (by omega)], zu_s _ _ _ _, fun w L d P => ?_⟩
  have h1' := fun w L P => h1 w L (d + 1) P
  have k0 : ∀ n w L, 0 < n → n ≤ 153 → (zx_Lc Lh n w L).1 0 = (51, 0) := fun n w L h1 h2 => zc_k h1 h2
  have n0 : ∀ w L, zx_new (zx_Lc Lh 79 w L) (19, 4) 4 = zx_Lc Lh 80 (w + 4) L := fun w L => zc_new (by omega) rfl
  have n1 : ∀ w L, zx_new (zx_Lc Lh 80 w L) (16, 2) 2 = zx_Lc Lh 81 (w + 2) L := fun w L => zc_new (by omega) rfl
  have n2 : ∀ w L, zx_new (zx_Lc Lh 81 w L) (17, 2) 2 = zx_Lc Lh 82 (w + 2) L := fun w L => zc_new (by omega) rfl
  have n3 : ∀ w L, zx_new (zx_Lc Lh 82 w L) (2, 2) 2 = zx_Lc Lh 83 (w + 2) L := fun w L => zc_new (by omega) rfl
  have n5 : ∀ w L, zx_new (zx_Lc Lh 83 w L) (44, 0) 6 = zx_Lc Lh 84 (w + 6) L := fun w L => zc_new (by omega) rfl
  have u0 : ∀ n w L, _ := fun n w L => zc_u (n := n) (w := w) (S := L) (Lh := Lh) (a := 0) (j := 7) (b := 79) (by omega) rfl
  have u1 : ∀ n w L, _ := fun n w L => zc_u (n := n) (w := w) (S := L) (Lh := Lh) (a := 0) (j := 8) (b := 80) (by omega) rfl
  have u2 : ∀ n w L, _ := fun n w L => zc_u (n := n) (w := w) (S := L) (Lh := Lh) (a := 0) (j := 9) (b := 81) (by omega) rfl
  have u3 : ∀ n w L, _ := fun n w L => zc_u (n := n) (w := w) (S := L) (Lh := Lh) (a := 0) (j := 10) (b := 82) (by omega) rfl
  have u5 : ∀ n w L, _ := fun n w L => zc_u (n := n) (w := w) (S := L) (Lh := Lh) (a := 0) (j := 11) (b := 83) (by omega) rfl
  have c2 : (nI 2 < 0) = False := eq_false (by decide)
  have c4 : (nI 4 < 0) = False := eq_false (by decide)
  simp (disch := omega) only [↓zs_99_81, ↓zs_99_82, ↓zs_99_83, ↓zs_99_86, ↓zs_99_89, ↓zs_99_90, ↓zs_99_91, ↓zs_99_94, ↓zs_99_97, ↓zs_99_98, ↓zs_99_99, ↓zs_99_102, ↓zs_99_105, ↓zs_99_106, ↓zs_99_107, ↓zs_99_109, zx_pu_s, zx_pu_n, zx_rv_s, zx_rv_n, true_and, and_true, true_or, or_true, zb_0, zb_1, zq_lcl, zq_lcg, zq_lce, eq_self, ite_true, ite_false, zc_n, zn_ltT, zn_leT, c2, c4, not_false_eq_true, nI_clamp, n0, n1, n2, n3, u0, u1, u2, u3, k0, zc_w, Nat.reduceAdd]
  simp (disch := omega) only [↓zs_99_112, ↓zs_99_113, ↓zs_99_116, ↓zs_99_117, ↓zs_99_120, ↓zs_99_123, ↓zs_99_124, ↓zs_99_125, ↓zs_99_128, ↓zs_99_129, zx_pu_s, zx_pu_n, zx_rv_s, zx_rv_n, true_and, and_true, true_or, or_true, zb_0, zb_1, zq_lcl, zq_lcg, zq_lce, eq_self, ite_true, ite_false, zc_n, zn_ltT, n5, u5, k0, zc_w, h1', Nat.reduceAdd]
  rfl
end C9
