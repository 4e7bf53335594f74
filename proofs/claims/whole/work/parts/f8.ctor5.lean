/-! the class is made, to the end -/
section C8
variable {Lh w : Nat} {I : zx_MI} {J : zx_MJ}
theorem sc_trayStep {t : Nat} (ht : t < 4) : ∀ w L d P, (0, 7) ∈ L → zx_wp (d + 4) 99 130 [.ref 0, .int (nI t)] [] (zx_Lc Lh (102 + 2 * t) w L) I J P = zx_wp (d + 4) 99 130 [.ref 0, .int (nI (t + 1))] [] (zx_Lc Lh (104 + 2 * t) (w + 4 + 40) ((79, t) :: (102 + 2 * t, 0) :: L)) I J P := by
  intro w L d P h7
  have k0 : ∀ n w L, 0 < n → n ≤ 153 → (zx_Lc Lh n w L).1 0 = (51, 0) := fun n w L h1 h2 => zc_k h1 h2
  have k79 : ∀ n w L, 79 < n → n ≤ 153 → (zx_Lc Lh n w L).1 79 = (19, 4) := fun n w L h1 h2 => zc_k h1 h2
  have q7 : ∀ n w, (zx_Lc Lh n w L).2.1 0 7 = some 79 := fun n w => zc_q h7 (by omega)
  have q7' : ∀ n w, (zx_Lc Lh n w ((102 + 2 * t, 0) :: L)).2.1 0 7 = some 79 := fun n w => zc_q (List.mem_cons_of_mem _ h7) (by omega)
  have e4 : Int32.ofNat 4 = nI 4 := rfl
  have kt : (zx_LL Lh).1 (102 + 2 * t) = (49, 0) ∧ (zx_LL Lh).2.1 79 t = some (102 + 2 * t) := by
    rcases (show t = 0 ∨ t = 1 ∨ t = 2 ∨ t = 3 by omega) with q | q | q | q <;> subst q <;> exact ⟨rfl, rfl⟩
  obtain ⟨kt, qt⟩ := kt
  have nn : ∀ w L, zx_new (zx_Lc Lh (102 + 2 * t) w L) (49, 0) 4 = zx_Lc Lh (103 + 2 * t) (w + 4) L := fun w L => by
    rw [zc_new (by omega) kt, show 102 + 2 * t + 1 = 103 + 2 * t by omega]
  have hT := fun w L P => sc_newTray (Lh := Lh) (I := I) (J := J) ht w L (d + 3) P
  have ut : ∀ n w L, _ := fun n w L => zc_u (n := n) (w := w) (S := L) (show 79 < 153 by omega) qt
  have b0 : ∀ n w L, 102 + 2 * t < n → n ≤ 153 → (zx_Lc Lh n w L).1 (102 + 2 * t) = (49, 0) := fun n w L h1 h2 => (zc_k h1 h2).trans kt
  have hex : ∀ n w L, 102 + 2 * t < n → n ≤ 153 → (∃ c, 1 ≤ c ∧ c < 13 ∧ ((zx_Lc Lh n w L).1 79).1 = 10 + c ∧ (zx_Lc Lh n w L).1 (102 + 2 * t) = (40 + c, 0)) = True := fun n w L h1 h2 => eq_true ⟨9, by decide, by decide, by rw [k79 n w L (by omega) h2], b0 n w L h1 h2⟩
  have l5 : (102 + 2 * t < 5000) = True := eq_true (by omega)
  rw [zs_99_130]
  simp (disch := omega) only [↓zs_99_131, ↓zs_99_132, ↓zs_99_135, ↓zs_99_136, ↓zs_99_139, ↓zs_99_140, ↓zs_99_143, ↓zs_99_144, ↓zs_99_147, ↓zs_99_148, ↓zs_99_151, ↓zs_99_152, ↓zs_99_155, zx_pu_s, zx_pu_n, zx_rv_s, zx_rv_n, true_and, and_true, true_or, or_true, zb_0, zb_1, zq_lcl, zq_lcg, zq_lce, eq_self, ite_true, ite_false, zn_10, zn_40, zn_040, zn_340, nI_add, zin_nI, nI_clamp, nI_ltI, nI_eq, pk_mul, nI_1, Nat.lt_irrefl, zc_n, zn_ltT, k0, k79, q7, q7', e4, ht, nn, hT, ↓hex, ut, zc_w]
theorem sc_imageStep {i : Nat} (hi : i < 2) (I : zx_MI) : ∃ I2, (∀ a j, ¬ (121 ≤ a ∧ a ≤ 137) → I2 a j = I a j) ∧ ∀ w L d P, (0, 8) ∈ L → (0, 9) ∈ L → zx_wp (d + 4) 99 160 [.ref 0, .int (nI i)] [] (zx_Lc Lh (110 + 14 * i) w L) I J P = zx_wp (d + 4) 99 160 [.ref 0, .int (nI (i + 1))] [] (zx_Lc Lh (124 + 14 * i) (w + 14 + 4 + 900 + 64 + 8 + 10 + 10 + 10 + 4 + 4 + 4 + 24) ((81, i) :: zl_st (120 + 14 * i) ((80, i) :: zl_sq (110 + 14 * i) L))) I2 J P := by
  obtain ⟨p1, p2, hS, hT⟩ := zIm_k Lh hi
  obtain ⟨I2, f2, -, h2⟩ := sc_newStand (Lh := Lh) (I := I) (J := J) hT
  refine ⟨I2, fun a j h => f2 a j (by omega), fun w L d P h8 h9 => ?_⟩
  have k0 : ∀ n w L, 0 < n → n ≤ 153 → (zx_Lc Lh n w L).1 0 = (51, 0) := fun n w L h1 h2 => zc_k h1 h2
  have k80 : ∀ n w L, 80 < n → n ≤ 153 → (zx_Lc Lh n w L).1 80 = (16, 2) := fun n w L h1 h2 => zc_k h1 h2
  have k81 : ∀ n w L, 81 < n → n ≤ 153 → (zx_Lc Lh n w L).1 81 = (17, 2) := fun n w L h1 h2 => zc_k h1 h2
  have q8 : ∀ n w, (zx_Lc Lh n w L).2.1 0 8 = some 80 := fun n w => zc_q h8 (by omega)
  have q9 : ∀ n w, (zx_Lc Lh n w L).2.1 0 9 = some 81 := fun n w => zc_q h9 (by omega)
  have q9' : ∀ n w, (zx_Lc Lh n w ((80, i) :: zl_sq (110 + 14 * i) L)).2.1 0 9 = some 81 := fun n w => zc_q (List.mem_cons_of_mem _ (zl_sq_m h9)) (by omega)
  have e2 : Int32.ofNat 2 = nI 2 := rfl
  obtain ⟨s0, -⟩ := zS_k (Lh := Lh) hS
  obtain ⟨t0, -⟩ := zT_k (Lh := Lh) hT
  have n1 : ∀ w L, zx_new (zx_Lc Lh (110 + 14 * i) w L) (46, 0) 14 = zx_Lc Lh (110 + 14 * i + 1) (w + 14) L := fun w L => zc_new (by omega) s0
  have n2 : ∀ w L, zx_new (zx_Lc Lh (120 + 14 * i) w L) (47, 0) 4 = zx_Lc Lh (120 + 14 * i + 1) (w + 4) L := fun w L => zc_new (by omega) t0
  have hq : ∀ w L P, zx_rn (d + 3) 45 [.ref (110 + 14 * i)] (zx_Lc Lh (110 + 14 * i + 1) w L) I J P = P none (zx_Lc Lh (120 + 14 * i) (w + 4 + 900 + 64 + 8 + 10 + 10 + 10 + 4 + 4) (zl_sq (110 + 14 * i) L)) I J := fun w L P => by
    rw [sc_newSq hS w L (d + 2) P, show 110 + 14 * i + 10 = 120 + 14 * i by omega]
    rfl
  have ht : ∀ w L P, zx_rn (d + 3) 67 [.ref (120 + 14 * i)] (zx_Lc Lh (120 + 14 * i + 1) w L) I J P = P none (zx_Lc Lh (124 + 14 * i) (w + 24) (zl_st (120 + 14 * i) L)) I2 J := fun w L P => by
    rw [h2 w L (d + 3) P, show 120 + 14 * i + 4 = 124 + 14 * i by omega]
    rfl
  have u1 : ∀ n w L, _ := fun n w L => zc_u (n := n) (w := w) (S := L) (show 80 < 153 by omega) p1
  have u2 : ∀ n w L, _ := fun n w L => zc_u (n := n) (w := w) (S := L) (show 81 < 153 by omega) p2
  have bs : ∀ n w L, 110 + 14 * i < n → n ≤ 153 → (zx_Lc Lh n w L).1 (110 + 14 * i) = (46, 0) := fun n w L h1 h2 => (zc_k h1 h2).trans s0
  have bt : ∀ n w L, 120 + 14 * i < n → n ≤ 153 → (zx_Lc Lh n w L).1 (120 + 14 * i) = (47, 0) := fun n w L h1 h2 => (zc_k h1 h2).trans t0
  have hex1 : ∀ n w L, 110 + 14 * i < n → n ≤ 153 → (∃ c, 1 ≤ c ∧ c < 13 ∧ ((zx_Lc Lh n w L).1 80).1 = 10 + c ∧ (zx_Lc Lh n w L).1 (110 + 14 * i) = (40 + c, 0)) = True := fun n w L h1 h2 => eq_true ⟨6, by decide, by decide, by rw [k80 n w L (by omega) h2], bs n w L h1 h2⟩
  have hex2 : ∀ n w L, 120 + 14 * i < n → n ≤ 153 → (∃ c, 1 ≤ c ∧ c < 13 ∧ ((zx_Lc Lh n w L).1 81).1 = 10 + c ∧ (zx_Lc Lh n w L).1 (120 + 14 * i) = (40 + c, 0)) = True := fun n w L h1 h2 => eq_true ⟨7, by decide, by decide, by rw [k81 n w L (by omega) h2], bt n w L h1 h2⟩
  have l5 : (110 + 14 * i < 5000) = True := eq_true (by omega)
  have l6 : (120 + 14 * i < 5000) = True := eq_true (by omega)
  rw [zs_99_160]
  simp (disch := omega) only [↓zs_99_161, ↓zs_99_162, ↓zs_99_165, ↓zs_99_166, ↓zs_99_169, ↓zs_99_170, ↓zs_99_171, ↓zs_99_174, ↓zs_99_175, ↓zs_99_178, ↓zs_99_179, ↓zs_99_182, ↓zs_99_183, ↓zs_99_186, ↓zs_99_187, ↓zs_99_190, zx_pu_s, zx_pu_n, zx_rv_s, zx_rv_n, true_and, and_true, true_or, or_true, zb_0, zb_1, zq_lcl, zq_lcg, zq_lce, eq_self, ite_true, ite_false, zn_10, zn_40, zn_040, zn_340, nI_add, zin_nI, nI_clamp, nI_ltI, nI_eq, pk_mul, nI_1, Nat.lt_irrefl, zc_n, zn_ltT, k0, k80, k81, q8, q9, e2, hi, n1, hq, ↓hex1, u1, zc_w]
  simp (disch := omega) only [↓zs_99_191, ↓zs_99_192, ↓zs_99_195, ↓zs_99_196, ↓zs_99_199, ↓zs_99_200, ↓zs_99_203, ↓zs_99_204, ↓zs_99_207, zx_pu_s, zx_pu_n, zx_rv_s, zx_rv_n, true_and, and_true, true_or, or_true, zb_0, zb_1, zq_lcl, zq_lcg, zq_lce, eq_self, ite_true, ite_false, zn_10, zn_40, zn_040, zn_340, nI_add, zin_nI, nI_clamp, nI_ltI, nI_eq, pk_mul, nI_1, Nat.lt_irrefl, zc_n, zn_ltT, k0, k81, q9', e2, hi, n2, ht, ↓hex2, u2, zc_w]
def zl_4 (L : List (Nat × Nat)) : List (Nat × Nat) := (79, 3) :: (108, 0) :: (79, 2) :: (106, 0) :: (79, 1) :: (104, 0) :: (79, 0) :: (102, 0) :: L
def zl_5 (L : List (Nat × Nat)) : List (Nat × Nat) := (81, 1) :: zl_st 134 ((80, 1) :: zl_sq 124 ((81, 0) :: zl_st 120 ((80, 0) :: zl_sq 110 L)))
def zl_9 : List (Nat × Nat) := zl_5 (zl_4 (zl_3 (zl_2 (zl_1 []))))
theorem sc_new99 (I : zx_MI) : ∃ I2, (∀ a j, ¬ ((12 ≤ a ∧ a ≤ 22 ∧ a ≠ 13) ∨ (25 ≤ a ∧ a ≤ 74) ∨ (99 ≤ a ∧ a < 102) ∨ (121 ≤ a ∧ a ≤ 137) ∨ (a = 0 ∧ j = 14)) → I2 a j = I a j) ∧ I2 0 14 = -1 ∧ (∀ s, s < 8 → I2 12 s = -1 ∧ I2 14 s = -1) ∧ ∀ d P, zx_rn (d + 4) 99 [.ref 0] (zx_Lc Lh 1 15 []) I J P = P none (zx_Lc Lh 138 6037 zl_9) I2 J := by
  obtain ⟨I1, f1, g1, h1⟩ := sc_new1 (Lh := Lh) (J := J) I
  obtain ⟨I2, f2, h2⟩ := sc_new2 (Lh := Lh) (J := J) I1
  obtain ⟨I3, f3, g3, h3⟩ := sc_new3 (Lh := Lh) (J := J) I2
  obtain ⟨I4, f4, h4⟩ := sc_imageStep (Lh := Lh) (J := J) (i := 0) (by omega) I3
  obtain ⟨I5, f5, h5⟩ := sc_imageStep (Lh := Lh) (J := J) (i := 1) (by omega) I4
  refine ⟨I5, fun a j h => by rw [f5 a j (by omega), f4 a j (by omega), f3 a j (by omega), f2 a j (by omega), f1 a j (by omega)], by rw [f5 0 14 (by omega), f4 0 14 (by omega)]; exact g3, fun s hs => ?_, fun d P => ?_⟩
  · rw [f5 12 s (by omega), f5 14 s (by omega), f4 12 s (by omega), f4 14 s (by omega), f3 12 s (by omega), f3 14 s (by omega), f2 12 s (by omega), f2 14 s (by omega)]; exact g1 s hs
  · have k0 : ∀ n w L, 0 < n → n ≤ 153 → (zx_Lc Lh n w L).1 0 = (51, 0) := fun n w L h1 h2 => zc_k h1 h2
    have k79 : ∀ n w L, 79 < n → n ≤ 153 → (zx_Lc Lh n w L).1 79 = (19, 4) := fun n w L h1 h2 => zc_k h1 h2
    have k80 : ∀ n w L, 80 < n → n ≤ 153 → (zx_Lc Lh n w L).1 80 = (16, 2) := fun n w L h1 h2 => zc_k h1 h2
    have e4 : Int32.ofNat 4 = nI 4 := rfl
    have e2 : Int32.ofNat 2 = nI 2 := rfl
    have m7 : (0, 7) ∈ zl_3 (zl_2 (zl_1 [])) := by decide +kernel
    have m8 : (0, 8) ∈ zl_4 (zl_3 (zl_2 (zl_1 []))) := by decide +kernel
    have m9 : (0, 9) ∈ zl_4 (zl_3 (zl_2 (zl_1 []))) := by decide +kernel
    have m7' : (0, 7) ∈ zl_4 (zl_3 (zl_2 (zl_1 []))) := by decide +kernel
    have m8' : (0, 8) ∈ zl_9 := by decide +kernel
    have q7 : ∀ w, (zx_Lc Lh 110 w (zl_4 (zl_3 (zl_2 (zl_1 []))))).2.1 0 7 = some 79 := fun w => zc_q m7' (by omega)
    have q8 : ∀ w, (zx_Lc Lh 138 w zl_9).2.1 0 8 = some 80 := fun w => zc_q m8' (by omega)
    have s3 : zx_rn (d + 4) 99 [.ref 0] (zx_Lc Lh 1 15 []) I J P = zx_wp (d + 4) 99 130 [.ref 0, .int (nI 0)] [] (zx_Lc Lh 102 3749 (zl_3 (zl_2 (zl_1 [])))) I3 J P := by
      rw [ze_99, h1 15 [] d P, h2 _ _ d P, h3 _ _ d P]
    have s4 : zx_wp (d + 4) 99 130 [.ref 0, .int (nI 0)] [] (zx_Lc Lh 102 3749 (zl_3 (zl_2 (zl_1 [])))) I3 J P = zx_wp (d + 4) 99 130 [.ref 0, .int (nI 4)] [] (zx_Lc Lh 110 3925 (zl_4 (zl_3 (zl_2 (zl_1 []))))) I3 J P := by
      have a0 := sc_trayStep (Lh := Lh) (I := I3) (J := J) (t := 0) (by omega) 3749 _ d P m7
      have a1 := sc_trayStep (Lh := Lh) (I := I3) (J := J) (t := 1) (by omega) 3793 _ d P (List.mem_cons_of_mem (79, 0) (List.mem_cons_of_mem (102, 0) m7))
      have a2 := sc_trayStep (Lh := Lh) (I := I3) (J := J) (t := 2) (by omega) 3837 _ d P (List.mem_cons_of_mem (79, 1) (List.mem_cons_of_mem (104, 0) (List.mem_cons_of_mem (79, 0) (List.mem_cons_of_mem (102, 0) m7))))
      have a3 := sc_trayStep (Lh := Lh) (I := I3) (J := J) (t := 3) (by omega) 3881 _ d P (List.mem_cons_of_mem (79, 2) (List.mem_cons_of_mem (106, 0) (List.mem_cons_of_mem (79, 1) (List.mem_cons_of_mem (104, 0) (List.mem_cons_of_mem (79, 0) (List.mem_cons_of_mem (102, 0) m7))))))
      exact a0.trans (a1.trans (a2.trans a3))
    have s5 : zx_wp (d + 4) 99 130 [.ref 0, .int (nI 4)] [] (zx_Lc Lh 110 3925 (zl_4 (zl_3 (zl_2 (zl_1 []))))) I3 J P = zx_wp (d + 4) 99 160 [.ref 0, .int (nI 0)] [] (zx_Lc Lh 110 3925 (zl_4 (zl_3 (zl_2 (zl_1 []))))) I3 J P := by
      rw [zs_99_130]
      simp (disch := omega) only [↓zs_99_131, ↓zs_99_132, ↓zs_99_135, ↓zs_99_136, ↓zs_99_158, ↓zs_99_159, zx_pu_s, zx_pu_n, zx_rv_s, zx_rv_n, true_and, and_true, true_or, or_true, zb_0, zb_1, zq_lcl, zq_lcg, zq_lce, eq_self, ite_true, ite_false, zn_10, zn_40, zn_040, zn_340, nI_add, zin_nI, nI_clamp, nI_ltI, nI_eq, pk_mul, nI_1, Nat.lt_irrefl, k0, k79, q7, e4, zn_ltT]
    have s6 : zx_wp (d + 4) 99 160 [.ref 0, .int (nI 0)] [] (zx_Lc Lh 110 3925 (zl_4 (zl_3 (zl_2 (zl_1 []))))) I3 J P = zx_wp (d + 4) 99 160 [.ref 0, .int (nI 2)] [] (zx_Lc Lh 138 6037 zl_9) I5 J P := by
      have a0 := h4 3925 _ d P m8 m9
      have a1 := h5 4981 _ d P (List.mem_cons_of_mem (81, 0) (zl_st_m (T := 120) (List.mem_cons_of_mem (80, 0) (zl_sq_m (T := 110) m8)))) (List.mem_cons_of_mem (81, 0) (zl_st_m (T := 120) (List.mem_cons_of_mem (80, 0) (zl_sq_m (T := 110) m9))))
      exact a0.trans a1
    rw [s3, s4, s5, s6, zs_99_160]
    simp (disch := omega) only [↓zs_99_161, ↓zs_99_162, ↓zs_99_165, ↓zs_99_166, ↓zs_99_210, zx_pu_s, zx_pu_n, zx_rv_s, zx_rv_n, true_and, and_true, true_or, or_true, zb_0, zb_1, zq_lcl, zq_lcg, zq_lce, eq_self, ite_true, ite_false, zn_10, zn_40, zn_040, zn_340, nI_add, zin_nI, nI_clamp, nI_ltI, nI_eq, pk_mul, nI_1, Nat.lt_irrefl, k0, k80, q8, e2, zn_ltT]
end C8
