/-! a text begins -/
def zf_f0 (j : Nat) : Int32 := if (109 ≤ j ∧ j < 117) ∨ (125 ≤ j ∧ j < 133) then -1 else nI 0
theorem zf_f0_0 {j : Nat} (h : ¬ ((109 ≤ j ∧ j < 117) ∨ (125 ≤ j ∧ j < 133))) : zf_f0 j = nI 0 := if_neg h
section E8
variable {Lh n : Nat} {b : Nat → Nat} {I : zx_MI} {J : zx_MJ}
theorem sp_clear (I : zx_MI) : ∃ I2, (∀ a j, a ≠ 142 → I2 a j = I a j) ∧ (∀ j, j < 1286 → I2 142 j = zf_f0 j) ∧ ∀ d P, zx_rn d 152 [.ref 142] (zx_LL Lh) I J P = P none (zx_LL Lh) I2 J := by
  have l2 : ∀ mm k I1, k + mm = 8 → (∀ a j, a ≠ 142 → I1 a j = I a j) → (∀ j, j < 1286 → I1 142 j = if (109 ≤ j ∧ j < 109 + k) ∨ (125 ≤ j ∧ j < 125 + k) then -1 else nI 0) → ∃ I2, (∀ a j, a ≠ 142 → I2 a j = I a j) ∧ (∀ j, j < 1286 → I2 142 j = zf_f0 j) ∧ ∀ d P, zx_wp d 152 21 [.ref 142, .int (nI k)] [] (zx_LL Lh) I1 J P = P none (zx_LL Lh) I2 J := by
    intro mm
    induction mm with
    | zero =>
      intro k I1 hk f g
      obtain rfl : k = 8 := by omega
      refine ⟨I1, f, fun j hj => g j hj, fun d P => ?_⟩
      rw [zs_152_21]
      simp (disch := omega) only [↓zs_152_22, ↓zs_152_24, ↓zs_152_27, ↓zs_152_28, ↓zs_152_30, ↓zs_152_31, ↓zs_152_32, ↓zs_152_33, ↓zs_152_34, ↓zs_152_35, ↓zs_152_37, ↓zs_152_38, ↓zs_152_39, ↓zs_152_40, ↓zs_152_41, ↓zs_152_44, ↓zs_152_47, zx_pu_s, zx_pu_n, zx_rv_s, zx_rv_n, true_and, and_true, true_or, or_true, zb_0, zb_1, zq_lcl, zq_lcg, zq_lce, eq_self, ite_true, ite_false, zk_138, zw_138, zk_139, zw_139, zk_140, zw_140, zk_141, zw_141, zk_142, zw_142, zk_143, zw_143, zk_144, zw_144, zk_145, zw_145, zk_146, zw_146, zk_147, zw_147, zk_148, zw_148, zk_149, zw_149, zk_150, zw_150, zk_151, zw_151, zk_152, zw_152, zq_138_1, zq_138_2, zq_138_3, zq_138_4, zq_138_16, zq_138_19, zq_138_20, zq_138_24, zq_138_25, zq_138_26, zq_138_27, zq_138_31, zq_138_32, zq_138_33, zn_10, zn_40, zn_040, zn_340, nI_add, zin_nI, nI_clamp, nI_ltI, nI_eq, pk_mul, nI_1, Nat.lt_irrefl]
    | succ mm ih =>
      intro k I1 hk f g
      have hlt : k < 8 := by omega
      obtain ⟨I2, f2, g2, h2⟩ := ih (k + 1) (zx_u (zx_u I1 142 (109 + k) (-1)) 142 (125 + k) (-1)) (by omega) (fun a j h => by rw [zu_n (by omega), zu_n (by omega)]; exact f a j h) (fun j hj => by
        by_cases q1 : j = 125 + k
        · rw [q1, zu_s, if_pos (by omega)]
        · by_cases q2 : j = 109 + k
          · rw [q2, zu_n (by omega), zu_s, if_pos (by omega)]
          · rw [zu_n (by omega), zu_n (by omega), g j hj]
            by_cases q3 : (109 ≤ j ∧ j < 109 + k) ∨ (125 ≤ j ∧ j < 125 + k)
            · rw [if_pos q3, if_pos (by omega)]
            · rw [if_neg q3, if_neg (by omega)])
      refine ⟨I2, f2, g2, fun d P => ?_⟩
      rw [← h2 d P, zs_152_21]
      simp (disch := omega) only [↓zs_152_22, ↓zs_152_24, ↓zs_152_27, ↓zs_152_28, ↓zs_152_30, ↓zs_152_31, ↓zs_152_32, ↓zs_152_33, ↓zs_152_34, ↓zs_152_35, ↓zs_152_37, ↓zs_152_38, ↓zs_152_39, ↓zs_152_40, ↓zs_152_41, ↓zs_152_44, ↓zs_152_47, zx_pu_s, zx_pu_n, zx_rv_s, zx_rv_n, true_and, and_true, true_or, or_true, zb_0, zb_1, zq_lcl, zq_lcg, zq_lce, eq_self, ite_true, ite_false, zk_138, zw_138, zk_139, zw_139, zk_140, zw_140, zk_141, zw_141, zk_142, zw_142, zk_143, zw_143, zk_144, zw_144, zk_145, zw_145, zk_146, zw_146, zk_147, zw_147, zk_148, zw_148, zk_149, zw_149, zk_150, zw_150, zk_151, zw_151, zk_152, zw_152, zq_138_1, zq_138_2, zq_138_3, zq_138_4, zq_138_16, zq_138_19, zq_138_20, zq_138_24, zq_138_25, zq_138_26, zq_138_27, zq_138_31, zq_138_32, zq_138_33, zn_10, zn_40, zn_040, zn_340, nI_add, zin_nI, nI_clamp, nI_ltI, nI_eq, pk_mul, nI_1, Nat.lt_irrefl, hlt]
  have l1 : ∀ mm k I1, k + mm = 1286 → (∀ a j, a ≠ 142 → I1 a j = I a j) → (∀ j, j < k → I1 142 j = nI 0) → ∃ I2, (∀ a j, a ≠ 142 → I2 a j = I a j) ∧ (∀ j, j < 1286 → I2 142 j = zf_f0 j) ∧ ∀ d P, zx_wp d 152 2 [.ref 142, .int (nI k)] [] (zx_LL Lh) I1 J P = P none (zx_LL Lh) I2 J := by
    intro mm
    induction mm with
    | zero =>
      intro k I1 hk f g
      obtain rfl : k = 1286 := by omega
      obtain ⟨I2, f2, g2, h2⟩ := l2 8 0 I1 rfl f (fun j hj => by rw [if_neg (by omega)]; exact g j hj)
      refine ⟨I2, f2, g2, fun d P => ?_⟩
      rw [← h2 d P, zs_152_2]
      simp (disch := omega) only [↓zs_152_3, ↓zs_152_6, ↓zs_152_9, ↓zs_152_10, ↓zs_152_11, ↓zs_152_12, ↓zs_152_13, ↓zs_152_16, ↓zs_152_19, ↓zs_152_20, zx_pu_s, zx_pu_n, zx_rv_s, zx_rv_n, true_and, and_true, true_or, or_true, zb_0, zb_1, zq_lcl, zq_lcg, zq_lce, eq_self, ite_true, ite_false, zk_138, zw_138, zk_139, zw_139, zk_140, zw_140, zk_141, zw_141, zk_142, zw_142, zk_143, zw_143, zk_144, zw_144, zk_145, zw_145, zk_146, zw_146, zk_147, zw_147, zk_148, zw_148, zk_149, zw_149, zk_150, zw_150, zk_151, zw_151, zk_152, zw_152, zq_138_1, zq_138_2, zq_138_3, zq_138_4, zq_138_16, zq_138_19, zq_138_20, zq_138_24, zq_138_25, zq_138_26, zq_138_27, zq_138_31, zq_138_32, zq_138_33, zn_10, zn_40, zn_040, zn_340, nI_add, zin_nI, nI_clamp, nI_ltI, nI_eq, pk_mul, nI_1, Nat.lt_irrefl]
    | succ mm ih =>
      intro k I1 hk f g
      have hlt : k < 1286 := by omega
      obtain ⟨I2, f2, g2, h2⟩ := ih (k + 1) (zx_u I1 142 k (nI 0)) (by omega) (fun a j h => by rw [zu_n (by omega)]; exact f a j h) (fun j hj => by
        by_cases q1 : j = k
        · rw [q1, zu_s]
        · rw [zu_n (by omega)]; exact g j (by omega))
      refine ⟨I2, f2, g2, fun d P => ?_⟩
      rw [← h2 d P, zs_152_2]
      simp (disch := omega) only [↓zs_152_3, ↓zs_152_6, ↓zs_152_9, ↓zs_152_10, ↓zs_152_11, ↓zs_152_12, ↓zs_152_13, ↓zs_152_16, zx_pu_s, zx_pu_n, zx_rv_s, zx_rv_n, true_and, and_true, true_or, or_true, zb_0, zb_1, zq_lcl, zq_lcg, zq_lce, eq_self, ite_true, ite_false, zk_138, zw_138, zk_139, zw_139, zk_140, zw_140, zk_141, zw_141, zk_142, zw_142, zk_143, zw_143, zk_144, zw_144, zk_145, zw_145, zk_146, zw_146, zk_147, zw_147, zk_148, zw_148, zk_149, zw_149, zk_150, zw_150, zk_151, zw_151, zk_152, zw_152, zq_138_1, zq_138_2, zq_138_3, zq_138_4, zq_138_16, zq_138_19, zq_138_20, zq_138_24, zq_138_25, zq_138_26, zq_138_27, zq_138_31, zq_138_32, zq_138_33, zn_10, zn_40, zn_040, zn_340, nI_add, zin_nI, nI_clamp, nI_ltI, nI_eq, pk_mul, nI_1, Nat.lt_irrefl, hlt]
  obtain ⟨I2, f2, g2, h2⟩ := l1 1286 0 I rfl (fun _ _ _ => rfl) (fun j hj => absurd hj (Nat.not_lt_zero j))
  refine ⟨I2, f2, g2, fun d P => ?_⟩
  rw [← h2 d P, ze_152]
  simp (disch := omega) only [↓zs_152_0, ↓zs_152_1, zx_pu_s, zx_pu_n, zx_rv_s, zx_rv_n, true_and, and_true, true_or, or_true, zb_0, zb_1, zq_lcl, zq_lcg, zq_lce, eq_self, ite_true, ite_false]
theorem sc_sqClear : ∃ I2 J2, (∀ a j, ¬ ((a = 88 ∧ 6 ≤ j ∧ j ≤ 11) ∨ (a = 89 ∧ j = 3)) → I2 a j = I a j) ∧ (∀ a j, a ≠ 88 → J2 a j = J a j) ∧ (∀ j, 6 ≤ j → j ≤ 11 → I2 88 j = nI 0) ∧ I2 89 3 = nI 0 ∧ J2 88 12 = lN 0 ∧ J2 88 13 = lN 0 ∧ ∀ d P, zx_rn (d + 1) 46 [.ref 88] (zx_LL Lh) I J P = P none (zx_LL Lh) I2 J2 := by
  have h9 : ∀ d I P, zx_rn d 9 [.ref 89] (zx_LL Lh) I J P = P none (zx_LL Lh) (zx_u I 89 3 (nI 0)) J := fun d I P => by
    rw [ze_9]
    simp (disch := omega) only [↓zs_9_0, ↓zs_9_1, ↓zs_9_2, ↓zs_9_5, zx_pu_s, zx_pu_n, zx_rv_s, zx_rv_n, true_and, and_true, true_or, or_true, zb_0, zb_1, zq_lcl, zq_lcg, zq_lce, eq_self, ite_true, ite_false, zk_83, zw_83, zk_84, zw_84, zq_83_0, zq_83_1, zq_83_2, zq_83_3, zq_84_0, zk_86, zw_86, zk_87, zw_87, zk_88, zw_88, zk_89, zw_89, zk_90, zw_90, zk_91, zw_91, zk_92, zw_92, zk_93, zw_93, zk_94, zw_94, zk_95, zw_95, zk_96, zw_96, zk_97, zw_97, zk_98, zw_98, zk_99, zw_99, zk_100, zw_100, zk_101, zw_101, zq_86_0, zq_88_0, zq_88_1, zq_88_2, zq_88_3, zq_88_4, zq_88_5, zq_89_0, zq_89_1, zq_89_2, zq_98_0, zq_98_1, zq_98_2]
  have ex : ∃ I2 J2, I2 = zx_u (zx_u (zx_u (zx_u (zx_u (zx_u (zx_u I 89 3 (nI 0)) 88 6 (nI 0)) 88 7 (nI 0)) 88 8 (nI 0)) 88 9 (nI 0)) 88 10 (nI 0)) 88 11 (nI 0) ∧ J2 = zx_u (zx_u J 88 12 (lN 0)) 88 13 (lN 0) ∧ ∀ d P, zx_rn (d + 1) 46 [.ref 88] (zx_LL Lh) I J P = P none (zx_LL Lh) I2 J2 := by
    refine ⟨_, _, rfl, rfl, fun d P => ?_⟩
    rw [ze_46]
    simp (disch := omega) only [↓zs_46_0, ↓zs_46_1, ↓zs_46_4, ↓zs_46_7, ↓zs_46_8, ↓zs_46_9, ↓zs_46_12, ↓zs_46_13, ↓zs_46_14, ↓zs_46_17, ↓zs_46_18, ↓zs_46_19, ↓zs_46_22, ↓zs_46_23, ↓zs_46_24, ↓zs_46_27, ↓zs_46_28, ↓zs_46_29, ↓zs_46_32, ↓zs_46_33, ↓zs_46_34, ↓zs_46_37, ↓zs_46_38, ↓zs_46_39, ↓zs_46_42, ↓zs_46_43, ↓zs_46_44, ↓zs_46_47, zx_pu_s, zx_pu_n, zx_rv_s, zx_rv_n, true_and, and_true, true_or, or_true, zb_0, zb_1, zq_lcl, zq_lcg, zq_lce, eq_self, ite_true, ite_false, zk_83, zw_83, zk_84, zw_84, zq_83_0, zq_83_1, zq_83_2, zq_83_3, zq_84_0, zk_86, zw_86, zk_87, zw_87, zk_88, zw_88, zk_89, zw_89, zk_90, zw_90, zk_91, zw_91, zk_92, zw_92, zk_93, zw_93, zk_94, zw_94, zk_95, zw_95, zk_96, zw_96, zk_97, zw_97, zk_98, zw_98, zk_99, zw_99, zk_100, zw_100, zk_101, zw_101, zq_86_0, zq_88_0, zq_88_1, zq_88_2, zq_88_3, zq_88_4, zq_88_5, zq_89_0, zq_89_1, zq_89_2, zq_98_0, zq_98_1, zq_98_2, h9]
  obtain ⟨I2, J2, e1, e2, h⟩ := ex
  refine ⟨I2, J2, fun a j w => ?_, fun a j w => ?_, fun j h1 h2 => ?_, ?_, ?_, ?_, h⟩
  · rw [e1, zu_n (by omega), zu_n (by omega), zu_n (by omega), zu_n (by omega), zu_n (by omega), zu_n (by omega), zu_n (by omega)]
  · rw [e2, zu_n (fun e => w e.1), zu_n (fun e => w e.1)]
  · rw [e1]
    unfold zx_u
    by_cases c1 : j = 11
    · rw [if_pos ⟨rfl, c1⟩]
    · rw [if_neg (by omega)]
      by_cases c2 : j = 10
      · rw [if_pos ⟨rfl, c2⟩]
      · rw [if_neg (by omega)]
        by_cases c3 : j = 9
        · rw [if_pos ⟨rfl, c3⟩]
        · rw [if_neg (by omega)]
          by_cases c4 : j = 8
          · rw [if_pos ⟨rfl, c4⟩]
          · rw [if_neg (by omega)]
            by_cases c5 : j = 7
            · rw [if_pos ⟨rfl, c5⟩]
            · rw [if_neg (by omega), if_pos ⟨rfl, by omega⟩]
  · rw [e1, zu_n (by omega), zu_n (by omega), zu_n (by omega), zu_n (by omega), zu_n (by omega), zu_n (by omega), zu_s]
  · rw [e2, zu_n (by omega), zu_s]
  · rw [e2, zu_s]
theorem sc_stClear : ∃ I2, (∀ a j, ¬ ((a = 98 ∧ j = 3) ∨ (99 ≤ a ∧ a ≤ 101)) → I2 a j = I a j) ∧ I2 98 3 = nI 0 ∧ (∀ s, s < 8 → I2 99 s = -1 ∧ I2 100 s = nI 0 ∧ I2 101 s = -1) ∧ ∀ d P, zx_rn d 68 [.ref 98] (zx_LL Lh) I J P = P none (zx_LL Lh) I2 J := by
  have l : ∀ mm k I1, k + mm = 8 → (∀ a j, ¬ ((a = 98 ∧ j = 3) ∨ (99 ≤ a ∧ a ≤ 101)) → I1 a j = I a j) → I1 98 3 = nI 0 → (∀ s, s < k → I1 99 s = -1 ∧ I1 100 s = nI 0 ∧ I1 101 s = -1) → ∃ I2, (∀ a j, ¬ ((a = 98 ∧ j = 3) ∨ (99 ≤ a ∧ a ≤ 101)) → I2 a j = I a j) ∧ I2 98 3 = nI 0 ∧ (∀ s, s < 8 → I2 99 s = -1 ∧ I2 100 s = nI 0 ∧ I2 101 s = -1) ∧ ∀ d P, zx_wp d 68 7 [.ref 98, .int (nI k)] [] (zx_LL Lh) I1 J P = P none (zx_LL Lh) I2 J := by
    intro mm
    induction mm with
    | zero =>
      intro k I1 hk f e g
      obtain rfl : k = 8 := by omega
      refine ⟨I1, f, e, g, fun d P => ?_⟩
      rw [zs_68_7]
      simp (disch := omega) only [↓zs_68_8, ↓zs_68_10, ↓zs_68_13, ↓zs_68_14, ↓zs_68_17, ↓zs_68_18, ↓zs_68_19, ↓zs_68_20, ↓zs_68_21, ↓zs_68_24, ↓zs_68_25, ↓zs_68_26, ↓zs_68_27, ↓zs_68_28, ↓zs_68_31, ↓zs_68_32, ↓zs_68_33, ↓zs_68_34, ↓zs_68_37, ↓zs_68_40, zx_pu_s, zx_pu_n, zx_rv_s, zx_rv_n, true_and, and_true, true_or, or_true, zb_0, zb_1, zq_lcl, zq_lcg, zq_lce, eq_self, ite_true, ite_false, zk_98, zw_98, zk_99, zw_99, zk_100, zw_100, zk_101, zw_101, zq_98_0, zq_98_1, zq_98_2, zn_10, zn_40, zn_040, zn_340, nI_add, zin_nI, nI_clamp, nI_ltI, nI_eq, pk_mul, nI_1, Nat.lt_irrefl]
    | succ mm ih =>
      intro k I1 hk f e g
      have hlt : k < 8 := by omega
      obtain ⟨I2, f2, e2, g2, h2⟩ := ih (k + 1) (zx_u (zx_u (zx_u I1 99 k (-1)) 100 k (nI 0)) 101 k (-1)) (by omega) (fun a j h => by rw [zu_n (by omega), zu_n (by omega), zu_n (by omega)]; exact f a j h) (by rw [zu_n (by omega), zu_n (by omega), zu_n (by omega)]; exact e) (fun s hs => by
        by_cases q1 : s = k
        · rw [q1]; exact ⟨by rw [zu_n (by omega), zu_n (by omega), zu_s], by rw [zu_n (by omega), zu_s], zu_s _ _ _ _⟩
        · rw [zu_n (by omega), zu_n (by omega), zu_n (by omega), zu_n (by omega), zu_n (by omega), zu_n (by omega), zu_n (by omega), zu_n (by omega), zu_n (by omega)]; exact g s (by omega))
      refine ⟨I2, f2, e2, g2, fun d P => ?_⟩
      rw [← h2 d P, zs_68_7]
      simp (disch := omega) only [↓zs_68_8, ↓zs_68_10, ↓zs_68_13, ↓zs_68_14, ↓zs_68_17, ↓zs_68_18, ↓zs_68_19, ↓zs_68_20, ↓zs_68_21, ↓zs_68_24, ↓zs_68_25, ↓zs_68_26, ↓zs_68_27, ↓zs_68_28, ↓zs_68_31, ↓zs_68_32, ↓zs_68_33, ↓zs_68_34, ↓zs_68_37, ↓zs_68_40, zx_pu_s, zx_pu_n, zx_rv_s, zx_rv_n, true_and, and_true, true_or, or_true, zb_0, zb_1, zq_lcl, zq_lcg, zq_lce, eq_self, ite_true, ite_false, zk_98, zw_98, zk_99, zw_99, zk_100, zw_100, zk_101, zw_101, zq_98_0, zq_98_1, zq_98_2, zn_10, zn_40, zn_040, zn_340, nI_add, zin_nI, nI_clamp, nI_ltI, nI_eq, pk_mul, nI_1, Nat.lt_irrefl, hlt]
  obtain ⟨I2, f2, e2, g2, h2⟩ := l 8 0 (zx_u I 98 3 (nI 0)) rfl (fun a j h => zu_n (by omega)) (zu_s _ _ _ _) (fun s hs => absurd hs (Nat.not_lt_zero s))
  refine ⟨I2, f2, e2, g2, fun d P => ?_⟩
  rw [← h2 d P, ze_68]
  simp (disch := omega) only [↓zs_68_0, ↓zs_68_1, ↓zs_68_2, ↓zs_68_5, ↓zs_68_6, zx_pu_s, zx_pu_n, zx_rv_s, zx_rv_n, true_and, and_true, true_or, or_true, zb_0, zb_1, zq_lcl, zq_lcg, zq_lce, eq_self, ite_true, ite_false, zk_98, zw_98, zk_99, zw_99, zk_100, zw_100, zk_101, zw_101, zq_98_0, zq_98_1, zq_98_2]
theorem sc_begin76 (si : zx_SI I) (hn : n ≤ 900) (hb : ∀ i, i < n → b i < 256 ∧ I 85 i = (nI (b i)).toInt8.toInt32) : ∃ I2, (∀ a j, ¬ (a = 84 ∧ 1 ≤ j ∧ j ≤ 7) → I2 a j = I a j) ∧ I2 84 6 = nI 0 ∧ I2 84 7 = -1 ∧ zPt I2 b n (zf_nx b n 0) ∧ ∀ d P, 6 ≤ d → zx_rn d 76 [.ref 84, .int (nI n)] (zx_LL Lh) I J P = P none (zx_LL Lh) I2 J := by
  have e900 : Int32.ofNat 900 = nI 900 := rfl
  obtain ⟨I1, hI1⟩ : ∃ I1, I1 = zx_u (zx_u (zx_u (zx_u I 84 1 (nI n)) 84 2 (nI 0)) 84 6 (nI 0)) 84 7 (-1) := ⟨_, rfl⟩
  have f1 : ∀ a j, ¬ (a = 84 ∧ (j = 1 ∨ j = 2 ∨ j = 6 ∨ j = 7)) → I1 a j = I a j := fun a j w => by rw [hI1, zu_n (by omega), zu_n (by omega), zu_n (by omega), zu_n (by omega)]
  have z1 : zTx I1 b n := ⟨hn, by rw [hI1, zu_n (by omega), zu_n (by omega), zu_n (by omega), zu_s], fun i hi => ⟨(hb i hi).1, by rw [f1 85 i (by omega)]; exact (hb i hi).2⟩⟩
  have si1 : zx_SI I1 := fun a j ha => (f1 a j (by omega)).trans (si a j ha)
  obtain ⟨I2, f2, g2, h2⟩ := sc_advance (Lh := Lh) (J := J) (e := 0) z1 si1 (by omega) (by rw [hI1, zu_n (by omega), zu_n (by omega), zu_s])
  refine ⟨I2, fun a j w => by rw [f2 a j (by omega), f1 a j (by omega)], ?_, ?_, ⟨zTx_f z1 (fun j => f2 85 j (by omega)) (f2 84 1 (by omega)), fun a j ha => (f2 a j (by omega)).trans (si1 a j ha), g2, (zl_tk2_nx b (Nat.zero_le n)).1⟩, fun d P hd => ?_⟩
  · rw [f2 84 6 (by omega), hI1, zu_n (by omega), zu_s]
  · rw [f2 84 7 (by omega), hI1, zu_s]
  · obtain ⟨e, rfl⟩ : ∃ e, d = e + 6 := ⟨d - 6, by omega⟩
    have h2' := fun P => h2 (e + 0) P
    rw [ze_76]
    rw [hI1] at h2
    by_cases c : n < 900
    · simp (disch := omega) only [↓zs_76_0, ↓zs_76_1, ↓zs_76_2, ↓zs_76_3, ↓zs_76_6, ↓zs_76_7, ↓zs_76_10, ↓zs_76_11, ↓zs_76_14, ↓zs_76_15, ↓zs_76_18, ↓zs_76_19, ↓zs_76_22, ↓zs_76_23, ↓zs_76_24, ↓zs_76_27, ↓zs_76_28, ↓zs_76_29, ↓zs_76_32, ↓zs_76_33, ↓zs_76_34, ↓zs_76_37, ↓zs_76_38, ↓zs_76_41, zx_pu_s, zx_pu_n, zx_rv_s, zx_rv_n, true_and, and_true, true_or, or_true, zb_0, zb_1, zq_lcl, zq_lcg, zq_lce, eq_self, ite_true, ite_false, zk_85, zw_85, zk_84, zw_84, zq_84_0, e900, nI_ltI, c, zn_40, h2]
    · have hn9 : n = 900 := by omega
      subst hn9
      simp (disch := omega) only [↓zs_76_0, ↓zs_76_1, ↓zs_76_2, ↓zs_76_3, ↓zs_76_6, ↓zs_76_7, ↓zs_76_10, ↓zs_76_11, ↓zs_76_14, ↓zs_76_15, ↓zs_76_18, ↓zs_76_19, ↓zs_76_22, ↓zs_76_23, ↓zs_76_24, ↓zs_76_27, ↓zs_76_28, ↓zs_76_29, ↓zs_76_32, ↓zs_76_33, ↓zs_76_34, ↓zs_76_37, ↓zs_76_38, ↓zs_76_41, zx_pu_s, zx_pu_n, zx_rv_s, zx_rv_n, true_and, and_true, true_or, or_true, zb_0, zb_1, zq_lcl, zq_lcg, zq_lce, eq_self, ite_true, ite_false, zk_85, zw_85, zk_84, zw_84, zq_84_0, e900, nI_ltI, Nat.lt_irrefl, zn_40, h2]
/-- the row of an empty text -/
theorem zPf_f0 {F : Nat → Int32} (h : ∀ j, j < 1286 → F j = zf_f0 j) : zPf F ∧ zw F = 0 ∧ zh F = 0 ∧ zn F = 0 ∧ zl F = 0 ∧ zo F = 0 ∧ zk F = 0 ∧ zf_G F = F := by
  have z : ∀ j, j < 1286 → ¬ ((109 ≤ j ∧ j < 117) ∨ (125 ≤ j ∧ j < 133)) → F j = nI 0 := fun j h1 h2 => (h j h1).trans (zf_f0_0 h2)
  have zn0 : ∀ j, j < 1286 → ¬ ((109 ≤ j ∧ j < 117) ∨ (125 ≤ j ∧ j < 133)) → zf_nat (F j) = 0 := fun j h1 h2 => by rw [z j h1 h2, zf_nat, nI_clamp (by omega)]
  have m : ∀ j, (109 ≤ j ∧ j < 117) ∨ (125 ≤ j ∧ j < 133) → F j = -1 := fun j h1 => (h j (by omega)).trans (if_pos h1)
  have e1 : zw F = 0 := zn0 1 (by omega) (by omega)
  have e2 : zh F = 0 := zn0 2 (by omega) (by omega)
  have e3 : zn F = 0 := zn0 3 (by omega) (by omega)
  have e4 : zl F = 0 := zn0 4 (by omega) (by omega)
  have e5 : zo F = 0 := zn0 5 (by omega) (by omega)
  have e6 : zk F = 0 := zn0 385 (by omega) (by omega)
  have e7 : zt F = 0 := zn0 133 (by omega) (by omega)
  refine ⟨⟨⟨⟨?_, fun s hs => ⟨.inl (m _ (by omega)), .inl (m _ (by omega)), ⟨0, by omega, z _ (by omega) (by omega)⟩, fun _ => m _ (by omega)⟩⟩, fun k hk => .inl (z _ (by omega) (by omega)), fun k s hk hs hne => absurd (z _ (by omega) (by omega)) hne, ⟨?_, ?_, fun i hi => ?_⟩, ⟨?_, ?_, fun i hi => ?_⟩, ⟨?_, ?_, fun k hk => ?_, .inl ⟨e6, z 6 (by omega) (by omega)⟩⟩, ?_, ?_⟩, fun s h1 h2 => m _ (by omega), fun i hi => ?_⟩, e1, e2, e3, e4, e5, e6, ?_⟩
  · rw [e1, e2, e3]; exact ⟨z 1 (by omega) (by omega), z 2 (by omega) (by omega), z 3 (by omega) (by omega), by omega, by omega, by omega⟩
  · rw [e5]; exact z 5 (by omega) (by omega)
  · rw [e5]; omega
  · rw [e5] at hi; omega
  · rw [e4]; exact z 4 (by omega) (by omega)
  · rw [e4]; omega
  · rw [e4] at hi; omega
  · rw [e6]; exact z 385 (by omega) (by omega)
  · rw [e6]; omega
  · rw [e6] at hk; omega
  · rw [e7]; exact z 133 (by omega) (by omega)
  · rw [e7]; omega
  · rw [e4] at hi; omega
  · show zf_lets F (zl F) 0 F = F
    rw [e4]; rfl
end E8
