/-! the searches: what was found -/
section FD
variable {Lh m : Nat} {I : zx_MI} {J : zx_MJ}
/-- what the search keeps behind one find more -/
theorem sc_foundT {c : Nat} {n x y : Int32} {b4 b5 : Bool} (hc : c < 2 ^ 30) (h1 : I 65 1 = nI c) (h4 : c ≠ 0 → I 65 4 = zB b4) (h5 : c ≠ 0 → I 65 5 = zB b5) : ∃ I2, (∀ a j, ¬ (a = 65 ∧ 1 ≤ j ∧ j ≤ 5) → I2 a j = I a j) ∧ I2 65 1 = nI (c + 1) ∧ I2 65 2 = (if c = 0 then x else I 65 2) ∧ I2 65 3 = (if c = 0 then y else I 65 3) ∧ I2 65 4 = zB (if c = 0 then true else b4 && decide (x = I 65 2)) ∧ I2 65 5 = zB (if c = 0 then true else b5 && decide (y = I 65 3)) ∧ ∀ d P, zx_wp d 44 28 [.ref 65, .int n, .int x, .int y] [] (zx_LL Lh) I J P = P none (zx_LL Lh) I2 J := by
  by_cases c0 : c = 0
  · subst c0
    have k10 : (nI 1 = nI 0) = False := eq_false (by decide)
    have e1 : ∀ (a b e f g h : Int32), zx_u (zx_u (zx_u (zx_u (zx_u (zx_u I 65 2 a) 65 3 b) 65 4 e) 65 5 f) 65 4 g) 65 5 h 65 1 = nI 0 := fun a b e f g h => by
      rw [zu_n (by omega), zu_n (by omega), zu_n (by omega), zu_n (by omega), zu_n (by omega), zu_n (by omega)]; exact h1
    have a4 : zx_u (zx_u (zx_u (zx_u I 65 2 x) 65 3 y) 65 4 (nI 1)) 65 5 (nI 1) 65 4 = nI 1 := by rw [zu_n (by omega), zu_s]
    have a2 : zx_u (zx_u (zx_u (zx_u I 65 2 x) 65 3 y) 65 4 (nI 1)) 65 5 (nI 1) 65 2 = x := by rw [zu_n (by omega), zu_n (by omega), zu_n (by omega), zu_s]
    have a5 : ∀ g, zx_u (zx_u (zx_u (zx_u (zx_u I 65 2 x) 65 3 y) 65 4 (nI 1)) 65 5 (nI 1)) 65 4 g 65 5 = nI 1 := fun g => by rw [zu_n (by omega), zu_s]
    have a3 : ∀ g, zx_u (zx_u (zx_u (zx_u (zx_u I 65 2 x) 65 3 y) 65 4 (nI 1)) 65 5 (nI 1)) 65 4 g 65 3 = y := fun g => by rw [zu_n (by omega), zu_n (by omega), zu_n (by omega), zu_s]
    refine ⟨zx_u (zx_u (zx_u (zx_u (zx_u (zx_u (zx_u I 65 2 x) 65 3 y) 65 4 (nI 1)) 65 5 (nI 1)) 65 4 (nI 1)) 65 5 (nI 1)) 65 1 (nI (0 + 1)), fun a j q => ?_, zu_s _ _ _ _, ?_, ?_, ?_, ?_, fun d P => ?_⟩
    · rw [zu_n (by omega), zu_n (by omega), zu_n (by omega), zu_n (by omega), zu_n (by omega), zu_n (by omega), zu_n (by omega)]
    · rw [zu_n (by omega), zu_n (by omega), zu_n (by omega), zu_n (by omega), zu_n (by omega), zu_n (by omega), zu_s, if_pos rfl]
    · rw [zu_n (by omega), zu_n (by omega), zu_n (by omega), zu_n (by omega), zu_n (by omega), zu_s, if_pos rfl]
    · rw [zu_n (by omega), zu_n (by omega), zu_s, if_pos rfl]; rfl
    · rw [zu_n (by omega), zu_s, if_pos rfl]; rfl
    · simp (disch := omega) only [↓zs_44_28, ↓zs_44_29, ↓zs_44_32, ↓zs_44_35, ↓zs_44_36, ↓zs_44_37, ↓zs_44_40, ↓zs_44_41, ↓zs_44_42, ↓zs_44_45, ↓zs_44_46, ↓zs_44_47, ↓zs_44_50, ↓zs_44_51, ↓zs_44_52, zx_pu_s, zx_pu_n, zx_rv_s, zx_rv_n, true_and, and_true, true_or, or_true, zb_0, zb_1, zq_lcl, zq_lcg, zq_lce, eq_self, ite_true, ite_false, zk_65, zw_65, zq_65_0, h1]
      simp (disch := omega) only [↓zs_44_55, ↓zs_44_56, ↓zs_44_57, ↓zs_44_60, ↓zs_44_63, ↓zs_44_64, ↓zs_44_65, ↓zs_44_68, ↓zs_44_71, ↓zs_44_72, ↓zs_44_75, ↓zs_44_76, ↓zs_44_79, ↓zs_44_80, ↓zs_44_81, ↓zs_44_84, ↓zs_44_87, ↓zs_44_88, ↓zs_44_89, ↓zs_44_92, ↓zs_44_95, ↓zs_44_96, ↓zs_44_99, ↓zs_44_100, ↓zs_44_103, ↓zs_44_104, ↓zs_44_105, ↓zs_44_108, ↓zs_44_109, ↓zs_44_110, ↓zs_44_113, zx_pu_s, zx_pu_n, zx_rv_s, zx_rv_n, true_and, and_true, true_or, or_true, zb_0, zb_1, zq_lcl, zq_lcg, zq_lce, eq_self, ite_true, ite_false, zk_65, zw_65, zq_65_0, a4, a2, a5, a3, k10, e1, nI_add]
  · have h4 := h4 c0
    have h5 := h5 c0
    have c0' : (nI c = nI 0) = False := zq_ne c0 (by omega) (by omega)
    have k10 : (nI 1 = nI 0) = False := eq_false (by decide)
    have e1 : ∀ (g h : Int32), zx_u (zx_u I 65 4 g) 65 5 h 65 1 = nI c := fun g h => by
      rw [zu_n (by omega), zu_n (by omega)]; exact h1
    have a5 : ∀ g, zx_u I 65 4 g 65 5 = zB b5 := fun g => by rw [zu_n (by omega)]; exact h5
    have a3 : ∀ g, zx_u I 65 4 g 65 3 = I 65 3 := fun g => zu_n (by omega)
    refine ⟨zx_u (zx_u (zx_u I 65 4 (zB (b4 && decide (x = I 65 2)))) 65 5 (zB (b5 && decide (y = I 65 3)))) 65 1 (nI (c + 1)), fun a j q => ?_, zu_s _ _ _ _, ?_, ?_, ?_, ?_, fun d P => ?_⟩
    · rw [zu_n (by omega), zu_n (by omega), zu_n (by omega)]
    · rw [zu_n (by omega), zu_n (by omega), zu_n (by omega), if_neg c0]
    · rw [zu_n (by omega), zu_n (by omega), zu_n (by omega), if_neg c0]
    · rw [zu_n (by omega), zu_n (by omega), zu_s, if_neg c0]
    · rw [zu_n (by omega), zu_s, if_neg c0]
    · have o0 : zB false = nI 0 := rfl
      have o1 : zB true = nI 1 := rfl
      have second : ∀ g, zx_wp d 44 79 [.ref 65, .int n, .int x, .int y] [] (zx_LL Lh) (zx_u I 65 4 g) J P = P none (zx_LL Lh) (zx_u (zx_u (zx_u I 65 4 g) 65 5 (zB (b5 && decide (y = I 65 3)))) 65 1 (nI (c + 1))) J := fun g => by
        cases b5 with
        | false =>
          rw [Bool.false_and, o0]
          rw [o0] at a5
          simp (disch := omega) only [↓zs_44_79, ↓zs_44_80, ↓zs_44_81, ↓zs_44_84, ↓zs_44_87, ↓zs_44_88, ↓zs_44_89, ↓zs_44_92, ↓zs_44_95, ↓zs_44_96, ↓zs_44_99, ↓zs_44_100, ↓zs_44_103, ↓zs_44_104, ↓zs_44_105, ↓zs_44_108, ↓zs_44_109, ↓zs_44_110, ↓zs_44_113, zx_pu_s, zx_pu_n, zx_rv_s, zx_rv_n, true_and, and_true, true_or, or_true, zb_0, zb_1, zq_lcl, zq_lcg, zq_lce, eq_self, ite_true, ite_false, zk_65, zw_65, zq_65_0, a5, e1, nI_add]
        | true =>
          rw [Bool.true_and]
          rw [o1] at a5
          by_cases q : y = I 65 3
          · have q' : (y = I 65 3) = True := eq_true q
            rw [decide_eq_true q, o1]
            simp (disch := omega) only [↓zs_44_79, ↓zs_44_80, ↓zs_44_81, ↓zs_44_84, ↓zs_44_87, ↓zs_44_88, ↓zs_44_89, ↓zs_44_92, ↓zs_44_95, ↓zs_44_96, ↓zs_44_99, ↓zs_44_100, ↓zs_44_103, ↓zs_44_104, ↓zs_44_105, ↓zs_44_108, ↓zs_44_109, ↓zs_44_110, ↓zs_44_113, zx_pu_s, zx_pu_n, zx_rv_s, zx_rv_n, true_and, and_true, true_or, or_true, zb_0, zb_1, zq_lcl, zq_lcg, zq_lce, eq_self, ite_true, ite_false, zk_65, zw_65, zq_65_0, a5, a3, k10, q', e1, nI_add]
          · have q' : (y = I 65 3) = False := eq_false q
            rw [decide_eq_false q, o0]
            simp (disch := omega) only [↓zs_44_79, ↓zs_44_80, ↓zs_44_81, ↓zs_44_84, ↓zs_44_87, ↓zs_44_88, ↓zs_44_89, ↓zs_44_92, ↓zs_44_95, ↓zs_44_96, ↓zs_44_99, ↓zs_44_100, ↓zs_44_103, ↓zs_44_104, ↓zs_44_105, ↓zs_44_108, ↓zs_44_109, ↓zs_44_110, ↓zs_44_113, zx_pu_s, zx_pu_n, zx_rv_s, zx_rv_n, true_and, and_true, true_or, or_true, zb_0, zb_1, zq_lcl, zq_lcg, zq_lce, eq_self, ite_true, ite_false, zk_65, zw_65, zq_65_0, a5, a3, k10, q', e1, nI_add]
      rw [← second]
      cases b4 with
      | false =>
        rw [Bool.false_and, o0]
        rw [o0] at h4
        simp (disch := omega) only [↓zs_44_28, ↓zs_44_29, ↓zs_44_32, ↓zs_44_35, ↓zs_44_36, ↓zs_44_37, ↓zs_44_40, ↓zs_44_41, ↓zs_44_42, ↓zs_44_45, ↓zs_44_46, ↓zs_44_47, ↓zs_44_50, ↓zs_44_51, ↓zs_44_52, ↓zs_44_55, ↓zs_44_56, ↓zs_44_57, ↓zs_44_60, ↓zs_44_63, ↓zs_44_64, ↓zs_44_65, ↓zs_44_68, ↓zs_44_71, ↓zs_44_72, ↓zs_44_75, ↓zs_44_76, zx_pu_s, zx_pu_n, zx_rv_s, zx_rv_n, true_and, and_true, true_or, or_true, zb_0, zb_1, zq_lcl, zq_lcg, zq_lce, eq_self, ite_true, ite_false, zk_65, zw_65, zq_65_0, h1, c0', h4]
      | true =>
        rw [Bool.true_and]
        rw [o1] at h4
        by_cases q : x = I 65 2
        · have q' : (x = I 65 2) = True := eq_true q
          rw [decide_eq_true q, o1]
          simp (disch := omega) only [↓zs_44_28, ↓zs_44_29, ↓zs_44_32, ↓zs_44_35, ↓zs_44_36, ↓zs_44_37, ↓zs_44_40, ↓zs_44_41, ↓zs_44_42, ↓zs_44_45, ↓zs_44_46, ↓zs_44_47, ↓zs_44_50, ↓zs_44_51, ↓zs_44_52, ↓zs_44_55, ↓zs_44_56, ↓zs_44_57, ↓zs_44_60, ↓zs_44_63, ↓zs_44_64, ↓zs_44_65, ↓zs_44_68, ↓zs_44_71, ↓zs_44_72, ↓zs_44_75, ↓zs_44_76, zx_pu_s, zx_pu_n, zx_rv_s, zx_rv_n, true_and, and_true, true_or, or_true, zb_0, zb_1, zq_lcl, zq_lcg, zq_lce, eq_self, ite_true, ite_false, zk_65, zw_65, zq_65_0, h1, c0', h4, k10, q']
        · have q' : (x = I 65 2) = False := eq_false q
          rw [decide_eq_false q, o0]
          simp (disch := omega) only [↓zs_44_28, ↓zs_44_29, ↓zs_44_32, ↓zs_44_35, ↓zs_44_36, ↓zs_44_37, ↓zs_44_40, ↓zs_44_41, ↓zs_44_42, ↓zs_44_45, ↓zs_44_46, ↓zs_44_47, ↓zs_44_50, ↓zs_44_51, ↓zs_44_52, ↓zs_44_55, ↓zs_44_56, ↓zs_44_57, ↓zs_44_60, ↓zs_44_63, ↓zs_44_64, ↓zs_44_65, ↓zs_44_68, ↓zs_44_71, ↓zs_44_72, ↓zs_44_75, ↓zs_44_76, zx_pu_s, zx_pu_n, zx_rv_s, zx_rv_n, true_and, and_true, true_or, or_true, zb_0, zb_1, zq_lcl, zq_lcg, zq_lce, eq_self, ite_true, ite_false, zk_65, zw_65, zq_65_0, h1, c0', h4, k10, q']
end FD
