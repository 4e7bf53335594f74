/-! seen: no STATUE turned at all -/
section B0
variable {Lh m : Nat} {I1 : zx_MI} {J : zx_MJ} {B : Nat → Int32}
theorem sc_begun0 {k : Nat} (v : zV B m) (hm : m + 70 < 2 ^ 30) (sq : zR_sq I1 J 1 B) (rel : zR_st I1 11 B) (hk : k ≤ 60) : ∃ I2, zFc 66 I1 I2 ∧ zR_st I2 66 (zf_ni B k) ∧ ∀ d P, zx_rn (d + 6) 42 [.ref 65, .ref 1, .ref 11, .int (-1), .int (nI k)] (zx_LL Lh) I1 J P = P (some (.int (nI 1))) (zx_LL Lh) I2 J := by
  obtain ⟨I2, f2, f2', r2, hb⟩ := sc_become (Lh := Lh) (I := I1) (J := J) zx_st66 zx_st11 (by decide)
  have sq2 : zR_sq I2 J 1 B := zFc_sq zx_st66 f2 sq
  have loop : ∀ mm i I4 v6, i + mm = k → zFc 66 I2 I4 → zR_st I4 66 (zf_ni B i) → ∃ I3, zFc 66 I2 I3 ∧ zR_st I3 66 (zf_ni B k) ∧ ∀ d P, zx_wp (d + 6) 42 66 [.ref 65, .ref 1, .ref 11, .int (-1), .int (nI k), .int (nI i), v6] [] (zx_LL Lh) I4 J P = P (some (.int (nI 1))) (zx_LL Lh) I3 J := by
    intro mm
    induction mm with
    | zero =>
      intro i I4 v6 hi f r
      obtain rfl : i = k := by omega
      refine ⟨I4, f, r, fun d P => ?_⟩
      rw [zs_42_66]
      simp (disch := omega) only [↓zs_42_68, ↓zs_42_70, ↓zs_42_73, ↓zs_42_74, ↓zs_42_75, ↓zs_42_78, ↓zs_42_81, ↓zs_42_82, ↓zs_42_85, ↓zs_42_88, ↓zs_42_89, zx_pu_s, zx_pu_n, zx_rv_s, zx_rv_n, true_and, and_true, true_or, or_true, zb_0, zb_1, zq_lcl, zq_lcg, zq_lce, eq_self, ite_true, ite_false, zk_65, zw_65, zk_66, zw_66, zq_65_0, zq_66_0, zq_66_1, zq_66_2, nI_ltI, Nat.lt_irrefl]
    | succ mm ih =>
      intro i I4 v6 hi f r
      have hlt : i < k := by omega
      obtain ⟨I5, f5, r5, h5⟩ := sc_nightN (Lh := Lh) (n := i) zx_st66 v (by omega) sq2 f r
      obtain ⟨I6, f6, r6, h6⟩ := ih (i + 1) I5 v6 (by omega) f5 r5
      refine ⟨I6, f6, r6, fun d P => ?_⟩
      rw [← h6 d P, zs_42_66]
      simp (disch := omega) only [↓zs_42_68, ↓zs_42_70, ↓zs_42_73, ↓zs_42_74, ↓zs_42_75, ↓zs_42_78, ↓zs_42_81, ↓zs_42_82, ↓zs_42_85, ↓zs_42_88, ↓zs_42_89, zx_pu_s, zx_pu_n, zx_rv_s, zx_rv_n, true_and, and_true, true_or, or_true, zb_0, zb_1, zq_lcl, zq_lcg, zq_lce, eq_self, ite_true, ite_false, zk_65, zw_65, zk_66, zw_66, zq_65_0, zq_66_0, zq_66_1, zq_66_2, nI_ltI, nI_add, hlt, h5]
  obtain ⟨I3, f3, r3, h3⟩ := loop k 0 I2 zx_u0 (by omega) (zFc_r _ _) (r2 B rel)
  refine ⟨I3, zFc_t f2 f3, r3, fun d P => ?_⟩
  rw [← h3 d P, ze_42]
  simp (disch := omega) only [↓zs_42_0, ↓zs_42_1, ↓zs_42_4, ↓zs_42_5, ↓zs_42_8, ↓zs_42_9, ↓zs_42_10, ↓zs_42_13, ↓zs_42_14, ↓zs_42_16, ↓zs_42_17, ↓zs_42_19, ↓zs_42_20, ↓zs_42_22, ↓zs_42_23, ↓zs_42_25, ↓zs_42_26, ↓zs_42_27, ↓zs_42_29, ↓zs_42_31, ↓zs_42_34, ↓zs_42_37, ↓zs_42_38, ↓zs_42_41, ↓zs_42_43, ↓zs_42_44, ↓zs_42_46, ↓zs_42_49, ↓zs_42_50, ↓zs_42_51, ↓zs_42_52, ↓zs_42_55, ↓zs_42_58, ↓zs_42_60, ↓zs_42_62, ↓zs_42_63, ↓zs_42_64, zx_pu_s, zx_pu_n, zx_rv_s, zx_rv_n, true_and, and_true, true_or, or_true, zb_0, zb_1, zq_lcl, zq_lcg, zq_lce, eq_self, ite_true, ite_false, zk_11, zw_11, zq_11_0, zq_11_1, zq_11_2, zk_65, zw_65, zk_66, zw_66, zq_65_0, zq_66_0, zq_66_1, zq_66_2, hb]
end B0
section F0
variable {Lh : Nat} {I : zx_MI} {J : zx_MJ}
/-- what the class keeps of the finds: the first one's writer and reader, and whether all have them -/
def zK (I : zx_MI) (c : Nat) (x y : Int32) (b4 b5 : Bool) : Prop := I 65 1 = nI c ∧ (c ≠ 0 → I 65 2 = x ∧ I 65 3 = y ∧ I 65 4 = zB b4 ∧ I 65 5 = zB b5)
theorem sc_foundK {c : Nat} {n x y x0 y0 : Int32} {b4 b5 : Bool} (hc : c < 2 ^ 30) (h : zK I c x0 y0 b4 b5) (hn : (n = -1 ∧ x = -1 ∧ y = -1) ∨ ∃ i, i < 80 ∧ n = nI i ∧ x = nI (i / 10) ∧ y = nI (i % 10)) : ∃ I2, (∀ a j, ¬ (a = 65 ∧ 1 ≤ j ∧ j ≤ 5) → I2 a j = I a j) ∧ zK I2 (c + 1) (if c = 0 then x else x0) (if c = 0 then y else y0) (if c = 0 then true else b4 && decide (x = x0)) (if c = 0 then true else b5 && decide (y = y0)) ∧ ∀ d P, zx_rn d 44 [.ref 65, .int n] (zx_LL Lh) I J P = P none (zx_LL Lh) I2 J := by
  obtain ⟨I2, f2, g1, g2, g3, g4, g5, h2⟩ := sc_foundT (Lh := Lh) (J := J) (n := n) (x := x) (y := y) (b4 := b4) (b5 := b5) hc h.1 (fun e => (h.2 e).2.2.1) (fun e => (h.2 e).2.2.2)
  refine ⟨I2, f2, ⟨g1, fun _ => ?_⟩, fun d P => ?_⟩
  · by_cases q : c = 0
    · rw [if_pos q] at g2 g3 g4 g5
      rw [if_pos q, if_pos q, if_pos q, if_pos q]
      exact ⟨g2, g3, g4, g5⟩
    · rw [if_neg q] at g2 g3 g4 g5
      rw [if_neg q, if_neg q, if_neg q, if_neg q]
      obtain ⟨e2, e3, -, -⟩ := h.2 q
      rw [e2] at g2 g4
      rw [e3] at g3 g5
      exact ⟨g2, g3, g4, g5⟩
  · rw [← h2 d P, ze_44]
    rcases hn with ⟨rfl, rfl, rfl⟩ | ⟨i, hi, rfl, rfl, rfl⟩
    · simp (disch := omega) only [↓zs_44_0, ↓zs_44_1, ↓zs_44_2, ↓zs_44_5, ↓zs_44_6, ↓zs_44_9, ↓zs_44_10, ↓zs_44_12, ↓zs_44_13, ↓zs_44_14, ↓zs_44_15, ↓zs_44_16, ↓zs_44_19, ↓zs_44_20, ↓zs_44_23, ↓zs_44_24, ↓zs_44_26, ↓zs_44_27, zx_pu_s, zx_pu_n, zx_rv_s, zx_rv_n, true_and, and_true, true_or, or_true, zb_0, zb_1, zq_lcl, zq_lcg, zq_lce, eq_self, ite_true, ite_false]
    · have m1 : (nI i = -1) = False := zq_m1 (by omega)
      simp (disch := omega) only [↓zs_44_0, ↓zs_44_1, ↓zs_44_2, ↓zs_44_5, ↓zs_44_6, ↓zs_44_9, ↓zs_44_10, ↓zs_44_12, ↓zs_44_13, ↓zs_44_14, ↓zs_44_15, ↓zs_44_16, ↓zs_44_19, ↓zs_44_20, ↓zs_44_23, ↓zs_44_24, ↓zs_44_26, ↓zs_44_27, zx_pu_s, zx_pu_n, zx_rv_s, zx_rv_n, true_and, and_true, true_or, or_true, zb_0, zb_1, zq_lcl, zq_lcg, zq_lce, eq_self, ite_true, ite_false, m1, zq_10, not_false_eq_true, pk_div, pk_mul, zn_rem, zq_rem]
end F0
