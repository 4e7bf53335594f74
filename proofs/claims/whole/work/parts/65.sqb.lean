/-! a square becomes another -/
theorem zS_n {S U : Nat} (hS : zx_sq S) (hU : zx_sq U) (h : S ≠ U) : S + 9 < U ∨ U + 9 < S := by
  have h1 : zx_sql.all (fun S => zx_sql.all (fun U => decide (S ≠ U → S + 9 < U ∨ U + 9 < S))) = true := by decide +kernel
  exact of_decide_eq_true (zx_sq_all (zx_sq_all h1 hS) hU) h
theorem zS_r {S : Nat} (hS : zx_sq S) : S + 9 < 138 := by
  have h1 : zx_sql.all (fun S => decide (S + 9 < 138)) = true := by decide +kernel
  exact of_decide_eq_true (zx_sq_all h1 hS)
section SB
variable {Lh : Nat} {I : zx_MI} {J : zx_MJ}
theorem sc_lawBecome {S U K : Nat} (hS : zx_sq S) (hU : zx_sq U) (hn : S ≠ U) (hK : K ≤ 900) (e3 : I (U + 1) 3 = nI K) : ∃ I2, (∀ a j, ¬ ((a = S + 1 ∧ j = 3) ∨ a = S + 2) → I2 a j = I a j) ∧ I2 (S + 1) 3 = nI K ∧ (∀ j, j < K → I2 (S + 2) j = I (U + 2) j) ∧ ∀ d P, zx_rn d 10 [.ref (S + 1), .ref (U + 1)] (zx_LL Lh) I J P = P none (zx_LL Lh) I2 J := by
  obtain ⟨s0, s1, s2, -⟩ := zS_k (Lh := Lh) hS
  obtain ⟨u0, u1, u2, -⟩ := zS_k (Lh := Lh) hU
  obtain ⟨-, sq1, -⟩ := zS_q (Lh := Lh) hS
  obtain ⟨-, uq1, -⟩ := zS_q (Lh := Lh) hU
  have hsep := zS_n hS hU hn
  have hr := zS_r hS
  have w1 : zx_wr (zx_LL Lh) (S + 1) = True := eq_true (zx_wrp (by omega))
  have w2 : zx_wr (zx_LL Lh) (S + 2) = True := eq_true (zx_wrp (by omega))
  have e9 : Int32.ofNat 900 = nI 900 := rfl
  have loop : ∀ m i I1, i + m = K → (∀ a j, ¬ ((a = S + 1 ∧ j = 3) ∨ a = S + 2) → I1 a j = I a j) → I1 (S + 1) 3 = nI K → (∀ j, j < i → I1 (S + 2) j = I (U + 2) j) → ∃ I2, (∀ a j, ¬ ((a = S + 1 ∧ j = 3) ∨ a = S + 2) → I2 a j = I a j) ∧ I2 (S + 1) 3 = nI K ∧ (∀ j, j < K → I2 (S + 2) j = I (U + 2) j) ∧ ∀ d P, zx_wp d 10 10 [.ref (S + 1), .ref (U + 1), .int (nI i)] [] (zx_LL Lh) I1 J P = P none (zx_LL Lh) I2 J := by
    intro m
    induction m with
    | zero =>
      intro i I1 hi f g1 g2
      obtain rfl : i = K := by omega
      refine ⟨I1, f, g1, g2, fun d P => ?_⟩
      rw [zs_10_10]
      simp (disch := omega) only [↓zs_10_0, ↓zs_10_1, ↓zs_10_2, ↓zs_10_5, ↓zs_10_8, ↓zs_10_9, ↓zs_10_11, ↓zs_10_12, ↓zs_10_15, ↓zs_10_18, ↓zs_10_19, ↓zs_10_20, ↓zs_10_23, ↓zs_10_24, ↓zs_10_27, ↓zs_10_28, ↓zs_10_31, ↓zs_10_32, ↓zs_10_33, ↓zs_10_36, ↓zs_10_37, ↓zs_10_38, ↓zs_10_39, ↓zs_10_42, ↓zs_10_45, zx_pu_s, zx_pu_n, zx_rv_s, zx_rv_n, true_and, and_true, true_or, or_true, zb_0, zb_1, zq_lcl, zq_lcg, zq_lce, eq_self, ite_true, ite_false, zn_10, zn_40, zn_040, zn_340, nI_add, zin_nI, nI_clamp, nI_ltI, nI_eq, pk_mul, nI_1, Nat.lt_irrefl, s1, g1]
    | succ m ih =>
      intro i I1 hi f g1 g2
      have hlt : i < K := by omega
      have hlt9 : i < 900 := by omega
      have eu : I1 (U + 2) i = I (U + 2) i := f _ _ (by omega)
      obtain ⟨I2, f2, g12, g22, h2⟩ := ih (i + 1) (zx_u I1 (S + 2) i (I (U + 2) i)) (by omega) (fun a j h => by rw [zu_n (by omega)]; exact f a j h) (by rw [zu_n (by omega)]; exact g1) (fun j hj => by
        by_cases q : j = i
        · rw [q, zu_s]
        · rw [zu_n (by omega)]; exact g2 j (by omega))
      refine ⟨I2, f2, g12, g22, fun d P => ?_⟩
      rw [← h2 d P, zs_10_10]
      simp (disch := omega) only [↓zs_10_0, ↓zs_10_1, ↓zs_10_2, ↓zs_10_5, ↓zs_10_8, ↓zs_10_9, ↓zs_10_11, ↓zs_10_12, ↓zs_10_15, ↓zs_10_18, ↓zs_10_19, ↓zs_10_20, ↓zs_10_23, ↓zs_10_24, ↓zs_10_27, ↓zs_10_28, ↓zs_10_31, ↓zs_10_32, ↓zs_10_33, ↓zs_10_36, ↓zs_10_37, ↓zs_10_38, ↓zs_10_39, ↓zs_10_42, ↓zs_10_45, zx_pu_s, zx_pu_n, zx_rv_s, zx_rv_n, true_and, and_true, true_or, or_true, zb_0, zb_1, zq_lcl, zq_lcg, zq_lce, eq_self, ite_true, ite_false, zn_10, zn_40, zn_040, zn_340, nI_add, zin_nI, nI_clamp, nI_ltI, nI_eq, pk_mul, nI_1, Nat.lt_irrefl, s1, s2, sq1, u1, u2, uq1, w2, e9, g1, hlt, hlt9, eu]
  obtain ⟨I2, f2, g1, g2, h2⟩ := loop K 0 (zx_u I (S + 1) 3 (nI K)) (by omega) (fun a j h => zu_n (by omega)) (zu_s _ _ _ _) (fun j hj => absurd hj (Nat.not_lt_zero j))
  refine ⟨I2, f2, g1, g2, fun d P => ?_⟩
  rw [← h2 d P, ze_10]
  simp (disch := omega) only [↓zs_10_0, ↓zs_10_1, ↓zs_10_2, ↓zs_10_5, ↓zs_10_8, ↓zs_10_9, zx_pu_s, zx_pu_n, zx_rv_s, zx_rv_n, true_and, and_true, true_or, or_true, zb_0, zb_1, zq_lcl, zq_lcg, zq_lce, eq_self, ite_true, ite_false, s1, u1, w1, e3]
theorem sc_sqBecome {S U m : Nat} {B : Nat → Int32} (hS : zx_sq S) (hU : zx_sq U) (hn : S ≠ U) (v : zV B m) (r : zR_sq I J U B) : ∃ I2 J2, (∀ a j, ¬ (S ≤ a ∧ a ≤ S + 9) → I2 a j = I a j) ∧ (∀ a j, a ≠ S → J2 a j = J a j) ∧ zR_sq I2 J2 S B ∧ ∀ d P, zx_rn (d + 1) 47 [.ref S, .ref U] (zx_LL Lh) I J P = P none (zx_LL Lh) I2 J2 := by
  obtain ⟨s0, s1, s2, s3, s4, s5, s6, s7, s8, s9⟩ := zS_k (Lh := Lh) hS
  obtain ⟨u0, u1, u2, u3, u4, u5, u6, u7, u8, u9⟩ := zS_k (Lh := Lh) hU
  obtain ⟨sq0, sq1, sq2, sq3, sq5, sq6, sq7, sq8, sq9⟩ := zS_q (Lh := Lh) hS
  obtain ⟨uq0, uq1, uq2, uq3, uq5, uq6, uq7, uq8, uq9⟩ := zS_q (Lh := Lh) hU
  have hsep := zS_n hS hU hn
  have hr := zS_r hS
  have w0 : zx_wr (zx_LL Lh) S = True := eq_true (zx_wrp (by omega))
  have w5 : zx_wr (zx_LL Lh) (S + 5) = True := eq_true (zx_wrp (by omega))
  have w6 : zx_wr (zx_LL Lh) (S + 6) = True := eq_true (zx_wrp (by omega))
  have w7 : zx_wr (zx_LL Lh) (S + 7) = True := eq_true (zx_wrp (by omega))
  have w8 : zx_wr (zx_LL Lh) (S + 8) = True := eq_true (zx_wrp (by omega))
  have w9 : zx_wr (zx_LL Lh) (S + 9) = True := eq_true (zx_wrp (by omega))
  obtain ⟨r1, r2, r3, r4, r5, r6, r7, r8, r9, r10⟩ := r
  have hK : zk B ≤ 900 := v.2.2.2.2.2.1.2.1
  have l10 : zl B ≤ 10 := v.2.2.2.2.1.2.1
  have o4 : zo B ≤ 4 := v.2.2.2.1.2.1
  obtain ⟨I1, f1, g1, g2, hl⟩ := sc_lawBecome (Lh := Lh) (J := J) hS hU hn hK r9
  obtain ⟨I3, hI3⟩ : ∃ I3, I3 = zx_u (zx_u (zx_u (zx_u (zx_u (zx_u I1 S 6 (B 1)) S 7 (B 2)) S 8 (B 3)) S 9 (B 0)) S 10 (B 4)) S 11 (B 5) := ⟨_, rfl⟩
  obtain ⟨J3, hJ3⟩ : ∃ J3, J3 = zx_u (zx_u J S 12 (J U 12)) S 13 (J U 13) := ⟨_, rfl⟩
  have i3o : ∀ a, a ≠ S → I3 a = I1 a := fun a ha => by rw [hI3, zu_o ha, zu_o ha, zu_o ha, zu_o ha, zu_o ha, zu_o ha]
  have fU : ∀ a j, U ≤ a → a ≤ U + 9 → I3 a j = I a j := fun a j h1 h2 => by rw [i3o a (by omega), f1 a j (by omega)]
  -- the two loops
  have la : ∀ mm i I4, i + mm = 10 → (∀ a j, ¬ ((S + 5 ≤ a ∧ a ≤ S + 7) ∧ j < 10) → I4 a j = I3 a j) → (∀ j, j < i → I4 (S + 5) j = I (U + 5) j ∧ I4 (S + 6) j = I (U + 6) j ∧ I4 (S + 7) j = I (U + 7) j) → ∃ I5, (∀ a j, ¬ ((S + 5 ≤ a ∧ a ≤ S + 7) ∧ j < 10) → I5 a j = I3 a j) ∧ (∀ j, j < 10 → I5 (S + 5) j = I (U + 5) j ∧ I5 (S + 6) j = I (U + 6) j ∧ I5 (S + 7) j = I (U + 7) j) ∧ ∀ d P, zx_wp d 47 77 [.ref S, .ref U, .int (nI i)] [] (zx_LL Lh) I4 J3 P = zx_wp d 47 127 [.ref S, .ref U, .int (nI 0)] [] (zx_LL Lh) I5 J3 P := by
    intro mm
    induction mm with
    | zero =>
      intro i I4 hi f g
      obtain rfl : i = 10 := by omega
      refine ⟨I4, f, g, fun d P => ?_⟩
      rw [zs_47_77]
      simp (disch := omega) only [↓zs_47_78, ↓zs_47_80, ↓zs_47_83, ↓zs_47_84, ↓zs_47_87, ↓zs_47_88, ↓zs_47_89, ↓zs_47_92, ↓zs_47_93, ↓zs_47_94, ↓zs_47_95, ↓zs_47_96, ↓zs_47_99, ↓zs_47_100, ↓zs_47_101, ↓zs_47_104, ↓zs_47_105, ↓zs_47_106, ↓zs_47_107, ↓zs_47_108, ↓zs_47_111, ↓zs_47_112, ↓zs_47_113, ↓zs_47_116, ↓zs_47_117, ↓zs_47_118, ↓zs_47_119, ↓zs_47_122, ↓zs_47_125, ↓zs_47_126, zx_pu_s, zx_pu_n, zx_rv_s, zx_rv_n, true_and, and_true, true_or, or_true, zb_0, zb_1, zq_lcl, zq_lcg, zq_lce, eq_self, ite_true, ite_false, zn_10, zn_40, zn_040, zn_340, nI_add, zin_nI, nI_clamp, nI_ltI, nI_eq, pk_mul, nI_1, Nat.lt_irrefl]
    | succ mm ih =>
      intro i I4 hi f g
      have hlt : i < 10 := by omega
      have a1 : I4 (U + 5) i = I (U + 5) i := (f _ _ (by omega)).trans (fU _ _ (by omega) (by omega))
      have a2 : ∀ x, zx_u I4 (S + 5) i x (U + 6) i = I (U + 6) i := fun x => (zu_n (by omega)).trans ((f _ _ (by omega)).trans (fU _ _ (by omega) (by omega)))
      have a3 : ∀ x y, zx_u (zx_u I4 (S + 5) i x) (S + 6) i y (U + 7) i = I (U + 7) i := fun x y => (zu_n (by omega)).trans ((zu_n (by omega)).trans ((f _ _ (by omega)).trans (fU _ _ (by omega) (by omega))))
      obtain ⟨I5, f5, g5, h5⟩ := ih (i + 1) (zx_u (zx_u (zx_u I4 (S + 5) i (I (U + 5) i)) (S + 6) i (I (U + 6) i)) (S + 7) i (I (U + 7) i)) (by omega) (fun a j h => by rw [zu_n (by omega), zu_n (by omega), zu_n (by omega)]; exact f a j h) (fun j hj => by
        by_cases q : j = i
        · subst q
          exact ⟨by rw [zu_n (by omega), zu_n (by omega), zu_s], by rw [zu_n (by omega), zu_s], zu_s _ _ _ _⟩
        · rw [zu_n (by omega), zu_n (by omega), zu_n (by omega), zu_n (by omega), zu_n (by omega), zu_n (by omega), zu_n (by omega), zu_n (by omega), zu_n (by omega)]
          exact g j (by omega))
      refine ⟨I5, f5, g5, fun d P => ?_⟩
      rw [← h5 d P, zs_47_77]
      simp (disch := omega) only [↓zs_47_78, ↓zs_47_80, ↓zs_47_83, ↓zs_47_84, ↓zs_47_87, ↓zs_47_88, ↓zs_47_89, ↓zs_47_92, ↓zs_47_93, ↓zs_47_94, ↓zs_47_95, ↓zs_47_96, ↓zs_47_99, ↓zs_47_100, ↓zs_47_101, ↓zs_47_104, ↓zs_47_105, ↓zs_47_106, ↓zs_47_107, ↓zs_47_108, ↓zs_47_111, ↓zs_47_112, ↓zs_47_113, ↓zs_47_116, ↓zs_47_117, ↓zs_47_118, ↓zs_47_119, ↓zs_47_122, zx_pu_s, zx_pu_n, zx_rv_s, zx_rv_n, true_and, and_true, true_or, or_true, zb_0, zb_1, zq_lcl, zq_lcg, zq_lce, eq_self, ite_true, ite_false, zn_10, zn_40, zn_040, zn_340, nI_add, zin_nI, nI_clamp, nI_ltI, nI_eq, pk_mul, nI_1, Nat.lt_irrefl, hlt, s0, u0, s5, s6, s7, u5, u6, u7, sq5, sq6, sq7, uq5, uq6, uq7, w5, w6, w7, a1, a2, a3]
  obtain ⟨I5, f5, g5, h5⟩ := la 10 0 I3 rfl (fun _ _ _ => rfl) (fun j hj => absurd hj (Nat.not_lt_zero j))
  have lb : ∀ mm i I4, i + mm = 4 → (∀ a j, ¬ ((S + 8 ≤ a ∧ a ≤ S + 9) ∧ j < 4) → I4 a j = I5 a j) → (∀ j, j < i → I4 (S + 8) j = I (U + 8) j ∧ I4 (S + 9) j = I (U + 9) j) → ∃ I6, (∀ a j, ¬ ((S + 8 ≤ a ∧ a ≤ S + 9) ∧ j < 4) → I6 a j = I5 a j) ∧ (∀ j, j < 4 → I6 (S + 8) j = I (U + 8) j ∧ I6 (S + 9) j = I (U + 9) j) ∧ ∀ d P, zx_wp d 47 127 [.ref S, .ref U, .int (nI i)] [] (zx_LL Lh) I4 J3 P = P none (zx_LL Lh) I6 J3 := by
    intro mm
    induction mm with
    | zero =>
      intro i I4 hi f g
      obtain rfl : i = 4 := by omega
      refine ⟨I4, f, g, fun d P => ?_⟩
      rw [zs_47_127]
      simp (disch := omega) only [↓zs_47_128, ↓zs_47_129, ↓zs_47_132, ↓zs_47_133, ↓zs_47_136, ↓zs_47_137, ↓zs_47_138, ↓zs_47_141, ↓zs_47_142, ↓zs_47_143, ↓zs_47_144, ↓zs_47_145, ↓zs_47_148, ↓zs_47_149, ↓zs_47_150, ↓zs_47_153, ↓zs_47_154, ↓zs_47_155, ↓zs_47_156, ↓zs_47_159, ↓zs_47_162, zx_pu_s, zx_pu_n, zx_rv_s, zx_rv_n, true_and, and_true, true_or, or_true, zb_0, zb_1, zq_lcl, zq_lcg, zq_lce, eq_self, ite_true, ite_false, zn_10, zn_40, zn_040, zn_340, nI_add, zin_nI, nI_clamp, nI_ltI, nI_eq, pk_mul, nI_1, Nat.lt_irrefl]
    | succ mm ih =>
      intro i I4 hi f g
      have hlt : i < 4 := by omega
      have a1 : I4 (U + 8) i = I (U + 8) i := (f _ _ (by omega)).trans ((f5 _ _ (by omega)).trans (fU _ _ (by omega) (by omega)))
      have a2 : ∀ x, zx_u I4 (S + 8) i x (U + 9) i = I (U + 9) i := fun x => (zu_n (by omega)).trans ((f _ _ (by omega)).trans ((f5 _ _ (by omega)).trans (fU _ _ (by omega) (by omega))))
      obtain ⟨I6, f6, g6, h6⟩ := ih (i + 1) (zx_u (zx_u I4 (S + 8) i (I (U + 8) i)) (S + 9) i (I (U + 9) i)) (by omega) (fun a j h => by rw [zu_n (by omega), zu_n (by omega)]; exact f a j h) (fun j hj => by
        by_cases q : j = i
        · subst q
          exact ⟨by rw [zu_n (by omega), zu_s], zu_s _ _ _ _⟩
        · rw [zu_n (by omega), zu_n (by omega), zu_n (by omega), zu_n (by omega)]
          exact g j (by omega))
      refine ⟨I6, f6, g6, fun d P => ?_⟩
      rw [← h6 d P, zs_47_127]
      simp (disch := omega) only [↓zs_47_128, ↓zs_47_129, ↓zs_47_132, ↓zs_47_133, ↓zs_47_136, ↓zs_47_137, ↓zs_47_138, ↓zs_47_141, ↓zs_47_142, ↓zs_47_143, ↓zs_47_144, ↓zs_47_145, ↓zs_47_148, ↓zs_47_149, ↓zs_47_150, ↓zs_47_153, ↓zs_47_154, ↓zs_47_155, ↓zs_47_156, ↓zs_47_159, ↓zs_47_162, zx_pu_s, zx_pu_n, zx_rv_s, zx_rv_n, true_and, and_true, true_or, or_true, zb_0, zb_1, zq_lcl, zq_lcg, zq_lce, eq_self, ite_true, ite_false, zn_10, zn_40, zn_040, zn_340, nI_add, zin_nI, nI_clamp, nI_ltI, nI_eq, pk_mul, nI_1, Nat.lt_irrefl, hlt, s0, u0, s8, s9, u8, u9, sq8, sq9, uq8, uq9, w8, w9, a1, a2]
  obtain ⟨I6, f6, g6, h6⟩ := lb 4 0 I5 rfl (fun _ _ _ => rfl) (fun j hj => absurd hj (Nat.not_lt_zero j))
  have k6 : ∀ a j, ¬ (S + 5 ≤ a ∧ a ≤ S + 9) → I6 a j = I3 a j := fun a j h => by rw [f6 a j (by omega), f5 a j (by omega)]
  have v5 : I U 11 = B 5 := r7.1
  refine ⟨I6, J3, fun a j h => ?_, fun a j h => ?_, ?_, fun d P => ?_⟩
  · rw [k6 a j (by omega), i3o a (by omega), f1 a j (by omega)]
  · rw [hJ3, zu_n (by omega), zu_n (by omega)]
  · refine ⟨?_, ?_, ?_, ?_, ?_, fun k hk => ?_, ⟨?_, fun i hi => ?_⟩, fun i hi => ?_, ?_, fun k hk => ?_⟩
    · rw [k6 _ _ (by omega), hI3, zu_n (by omega), zu_n (by omega), zu_n (by omega), zu_n (by omega), zu_n (by omega), zu_s]
    · rw [k6 _ _ (by omega), hI3, zu_n (by omega), zu_n (by omega), zu_n (by omega), zu_n (by omega), zu_s]
    · rw [k6 _ _ (by omega), hI3, zu_n (by omega), zu_n (by omega), zu_n (by omega), zu_s]
    · rw [k6 _ _ (by omega), hI3, zu_n (by omega), zu_n (by omega), zu_s]
    · rw [k6 _ _ (by omega), hI3, zu_n (by omega), zu_s]
    · have c1 : J3 S 12 = J U 12 := by rw [hJ3, zu_n (by omega), zu_s]
      have c2 : J3 S 13 = J U 13 := by rw [hJ3, zu_s]
      rw [c1, c2]; exact r6 k hk
    · rw [k6 _ _ (by omega), hI3, zu_s]
    · rw [(g6 i (by omega)).1, (g6 i (by omega)).2]; exact r7.2 i hi
    · obtain ⟨b1, b2, b3⟩ := g5 i (by omega)
      rw [f6 _ _ (by omega), f6 _ _ (by omega), f6 _ _ (by omega), b1, b2, b3]; exact r8 i hi
    · rw [k6 _ _ (by omega), i3o _ (by omega)]; exact g1
    · rw [k6 _ _ (by omega), i3o _ (by omega), g2 k hk]; exact r10 k hk
  · have q1 : ∀ j, I1 U j = I U j := fun j => f1 U j (by omega)
    have o1 : ∀ j x, zx_u I1 S j x U = I1 U := fun j x => zu_o (by omega)
    have hUS : U ≠ S := fun e => hn e.symm
    have p1 : ∀ j, j = 12 ∨ j = 13 → J U j = J U j := fun _ _ => rfl
    have jj : ∀ x, zx_u J S 12 x U = J U := fun x => zu_o hUS
    rw [← h6 (d + 1) P, ← h5 (d + 1) P, ze_47, hI3, hJ3]
    simp (disch := omega) only [↓zs_47_0, ↓zs_47_1, ↓zs_47_4, ↓zs_47_5, ↓zs_47_8, ↓zs_47_11, ↓zs_47_12, ↓zs_47_13, ↓zs_47_16, ↓zs_47_19, ↓zs_47_20, ↓zs_47_21, ↓zs_47_24, ↓zs_47_27, ↓zs_47_28, ↓zs_47_29, ↓zs_47_32, ↓zs_47_35, ↓zs_47_36, ↓zs_47_37, ↓zs_47_40, zx_pu_s, zx_pu_n, zx_rv_s, zx_rv_n, true_and, and_true, true_or, or_true, zb_0, zb_1, zq_lcl, zq_lcg, zq_lce, eq_self, ite_true, ite_false, s0, u0, sq0, uq0, w0, s1, u1, hl, zu_o hUS, q1, r1, r2, r3, r4]
    simp (disch := omega) only [↓zs_47_43, ↓zs_47_44, ↓zs_47_45, ↓zs_47_48, ↓zs_47_51, ↓zs_47_52, ↓zs_47_53, ↓zs_47_56, ↓zs_47_59, ↓zs_47_60, ↓zs_47_61, ↓zs_47_64, ↓zs_47_67, ↓zs_47_68, ↓zs_47_69, ↓zs_47_72, ↓zs_47_75, ↓zs_47_76, zx_pu_s, zx_pu_n, zx_rv_s, zx_rv_n, true_and, and_true, true_or, or_true, zb_0, zb_1, zq_lcl, zq_lcg, zq_lce, eq_self, ite_true, ite_false, s0, u0, w0, zu_o hUS, q1, r5, v5]
end SB
