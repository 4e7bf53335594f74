/-! seen: a tray that can't be what is seen -/
section WT
variable {d Lh m : Nat} {I : zx_MI} {J : zx_MJ} {P : Option Value → zx_Lay → zx_MI → zx_MJ → Prop}
def zf_rg (T : Nat → Int64) : Nat → Nat → Bool
  | 0, _ => true
  | mm + 1, i => (!decide (T i < -1) && !decide (lN 7 < T i)) && zf_rg T mm (i + 1)
def zf_wt (T : Nat → Int64) (n N : Nat) (y : Int32) : Int32 := if n = N then (if zf_rg T n 0 = true then (if zf_bt 0 60 y.toInt = true then nI 0 else -3) else -3) else -4
theorem sc_wrong {t n N : Nat} {y : Int32} (ht : t < 4) (hn : n ≤ 40) (hN : N ≤ 8) (e1 : I (102 + 2 * t) 1 = nI 1) (e3 : I (102 + 2 * t) 3 = nI n) (e8 : I 1 8 = nI N) : ∀ d P, zx_rn (d + 1) 140 [.ref 0, .ref (102 + 2 * t), .int y] (zx_LL Lh) I J P = P (some (.int (zf_wt (J (103 + 2 * t)) n N y))) (zx_LL Lh) I J := by
  obtain ⟨k1, k2, k3, k4, k5, k6⟩ := zTr_k Lh ht
  have l5 : (102 + 2 * t < 5000) = True := eq_true (by omega)
  have c10 : (nI 1 = nI 0) = False := eq_false (by decide)
  have yl := zq_lt0 y
  have yg := zq_gt y (n := 60) (by omega)
  have fin : ∀ d P, zx_wp (d + 1) 140 70 [.ref 0, .ref (102 + 2 * t), .int y, .int (nI n)] [] (zx_LL Lh) I J P = P (some (.int (if zf_bt 0 60 y.toInt = true then nI 0 else -3))) (zx_LL Lh) I J := by
    intro d P
    cases c : zf_bt 0 60 y.toInt with
    | true =>
      rw [if_pos rfl]
      obtain ⟨h1, h2⟩ := zf_btP.mp c
      have q1 : ¬ y.toInt < 0 := by omega
      have q2 : ¬ ((60 : Nat) : Int) < y.toInt := by omega
      simp (disch := omega) only [↓zs_140_70, ↓zs_140_71, ↓zs_140_74, ↓zs_140_75, ↓zs_140_77, ↓zs_140_80, ↓zs_140_82, ↓zs_140_85, ↓zs_140_86, zx_pu_s, zx_pu_n, zx_rv_s, zx_rv_n, true_and, and_true, true_or, or_true, zb_0, zb_1, zq_lcl, zq_lcg, zq_lce, eq_self, ite_true, ite_false, yl, yg, q1, q2]
    | false =>
      rw [if_neg (by decide)]
      rcases zf_bt_no c with q | ⟨q1, q2⟩
      · simp (disch := omega) only [↓zs_140_70, ↓zs_140_71, ↓zs_140_74, ↓zs_140_75, ↓zs_140_77, ↓zs_140_80, ↓zs_140_82, ↓zs_140_85, ↓zs_140_86, zx_pu_s, zx_pu_n, zx_rv_s, zx_rv_n, true_and, and_true, true_or, or_true, zb_0, zb_1, zq_lcl, zq_lcg, zq_lce, eq_self, ite_true, ite_false, yl, q]
      · have q3 : ((60 : Nat) : Int) < y.toInt := q2
        simp (disch := omega) only [↓zs_140_70, ↓zs_140_71, ↓zs_140_74, ↓zs_140_75, ↓zs_140_77, ↓zs_140_80, ↓zs_140_82, ↓zs_140_85, ↓zs_140_86, zx_pu_s, zx_pu_n, zx_rv_s, zx_rv_n, true_and, and_true, true_or, or_true, zb_0, zb_1, zq_lcl, zq_lcg, zq_lce, eq_self, ite_true, ite_false, yl, yg, q1, q3]
  have loop : ∀ mm i, i + mm = n → ∀ d P, zx_wp (d + 1) 140 29 [.ref 0, .ref (102 + 2 * t), .int y, .int (nI i)] [] (zx_LL Lh) I J P = P (some (.int (if zf_rg (J (103 + 2 * t)) mm i = true then (if zf_bt 0 60 y.toInt = true then nI 0 else -3) else -3))) (zx_LL Lh) I J := by
    intro mm
    induction mm with
    | zero =>
      intro i hi d P
      obtain rfl : i = n := by omega
      rw [show zf_rg (J (103 + 2 * t)) 0 i = true from rfl, if_pos rfl, ← fin d P, zs_140_29]
      simp (disch := omega) only [↓zs_140_30, ↓zs_140_31, ↓zs_140_34, ↓zs_140_37, ↓zs_140_38, ↓zs_140_39, ↓zs_140_42, ↓zs_140_45, ↓zs_140_46, ↓zs_140_49, ↓zs_140_50, ↓zs_140_51, ↓zs_140_54, ↓zs_140_57, ↓zs_140_58, ↓zs_140_61, ↓zs_140_63, ↓zs_140_64, ↓zs_140_67, zx_pu_s, zx_pu_n, zx_rv_s, zx_rv_n, true_and, and_true, true_or, or_true, zb_0, zb_1, zq_lcl, zq_lcg, zq_lce, eq_self, ite_true, ite_false, nI_ltI, Nat.lt_irrefl, k1, e3]
    | succ mm ih =>
      intro i hi d P
      have hlt : i < n := by omega
      have hget := fun d P => sc_get (d := d) (Lh := Lh) (I := I) (J := J) (P := P) (i := i) ht hn hlt e3
      have i9 := ih (i + 1) (by omega) d P
      rw [zf_rg]
      by_cases c1 : J (103 + 2 * t) i < -1
      · have c1' : (J (103 + 2 * t) i < -1) = True := eq_true c1
        rw [decide_eq_true c1, Bool.not_true, Bool.false_and, Bool.false_and, if_neg (by decide), zs_140_29]
        simp (disch := omega) only [↓zs_140_30, ↓zs_140_31, ↓zs_140_34, ↓zs_140_37, ↓zs_140_38, ↓zs_140_39, ↓zs_140_42, ↓zs_140_45, ↓zs_140_46, ↓zs_140_49, ↓zs_140_50, ↓zs_140_51, ↓zs_140_54, ↓zs_140_57, ↓zs_140_58, ↓zs_140_61, ↓zs_140_63, ↓zs_140_64, ↓zs_140_67, zx_pu_s, zx_pu_n, zx_rv_s, zx_rv_n, true_and, and_true, true_or, or_true, zb_0, zb_1, zq_lcl, zq_lcg, zq_lce, eq_self, ite_true, ite_false, nI_ltI, hlt, k1, e3, hget, c1']
      · have c1' : (J (103 + 2 * t) i < -1) = False := eq_false c1
        rw [decide_eq_false c1, Bool.not_false, Bool.true_and]
        by_cases c2 : lN 7 < J (103 + 2 * t) i
        · have c2' : (lN 7 < J (103 + 2 * t) i) = True := eq_true c2
          rw [decide_eq_true c2, Bool.not_true, Bool.false_and, if_neg (by decide), zs_140_29]
          simp (disch := omega) only [↓zs_140_30, ↓zs_140_31, ↓zs_140_34, ↓zs_140_37, ↓zs_140_38, ↓zs_140_39, ↓zs_140_42, ↓zs_140_45, ↓zs_140_46, ↓zs_140_49, ↓zs_140_50, ↓zs_140_51, ↓zs_140_54, ↓zs_140_57, ↓zs_140_58, ↓zs_140_61, ↓zs_140_63, ↓zs_140_64, ↓zs_140_67, zx_pu_s, zx_pu_n, zx_rv_s, zx_rv_n, true_and, and_true, true_or, or_true, zb_0, zb_1, zq_lcl, zq_lcg, zq_lce, eq_self, ite_true, ite_false, nI_ltI, hlt, k1, e3, hget, c1', c2']
        · have c2' : (lN 7 < J (103 + 2 * t) i) = False := eq_false c2
          rw [decide_eq_false c2, Bool.not_false, Bool.true_and, ← i9, zs_140_29]
          simp (disch := omega) only [↓zs_140_30, ↓zs_140_31, ↓zs_140_34, ↓zs_140_37, ↓zs_140_38, ↓zs_140_39, ↓zs_140_42, ↓zs_140_45, ↓zs_140_46, ↓zs_140_49, ↓zs_140_50, ↓zs_140_51, ↓zs_140_54, ↓zs_140_57, ↓zs_140_58, ↓zs_140_61, ↓zs_140_63, ↓zs_140_64, ↓zs_140_67, zx_pu_s, zx_pu_n, zx_rv_s, zx_rv_n, true_and, and_true, true_or, or_true, zb_0, zb_1, zq_lcl, zq_lcg, zq_lce, eq_self, ite_true, ite_false, nI_ltI, nI_add, hlt, k1, e3, hget, c1', c2']
  intro d P
  unfold zf_wt
  rw [ze_140]
  by_cases c : n = N
  · subst c
    rw [if_pos rfl]
    simp (disch := omega) only [↓zs_140_0, ↓zs_140_1, ↓zs_140_4, ↓zs_140_7, ↓zs_140_9, ↓zs_140_10, ↓zs_140_11, ↓zs_140_14, ↓zs_140_15, ↓zs_140_18, ↓zs_140_21, ↓zs_140_24, ↓zs_140_26, ↓zs_140_27, ↓zs_140_28, zx_pu_s, zx_pu_n, zx_rv_s, zx_rv_n, true_and, and_true, true_or, or_true, zb_0, zb_1, zq_lcl, zq_lcg, zq_lce, eq_self, ite_true, ite_false, zk_0, zw_0, zk_1, zw_1, zq_0_0, zq_0_1, zq_0_2, zq_0_3, zq_0_4, zq_0_5, zq_0_6, zq_0_7, zq_0_8, zq_0_9, zq_0_10, zq_0_11, zq_1_0, zq_1_1, zq_1_2, zq_1_3, zq_1_4, zq_1_5, k1, e1, c10, e3, e8]
    exact loop n 0 (by omega) d P
  · have c' : (nI n = nI N) = False := zq_ne c (by omega) (by omega)
    rw [if_neg c]
    simp (disch := omega) only [↓zs_140_0, ↓zs_140_1, ↓zs_140_4, ↓zs_140_7, ↓zs_140_9, ↓zs_140_10, ↓zs_140_11, ↓zs_140_14, ↓zs_140_15, ↓zs_140_18, ↓zs_140_21, ↓zs_140_24, ↓zs_140_26, ↓zs_140_27, ↓zs_140_28, zx_pu_s, zx_pu_n, zx_rv_s, zx_rv_n, true_and, and_true, true_or, or_true, zb_0, zb_1, zq_lcl, zq_lcg, zq_lce, eq_self, ite_true, ite_false, zk_0, zw_0, zk_1, zw_1, zq_0_0, zq_0_1, zq_0_2, zq_0_3, zq_0_4, zq_0_5, zq_0_6, zq_0_7, zq_0_8, zq_0_9, zq_0_10, zq_0_11, zq_1_0, zq_1_1, zq_1_2, zq_1_3, zq_1_4, zq_1_5, k1, e1, c10, e3, e8, c']
end WT
