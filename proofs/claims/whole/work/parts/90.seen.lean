/-! seen: what the class asks of a tray -/
section SE
variable {d Lh m : Nat} {I : zx_MI} {J : zx_MJ} {P : Option Value → zx_Lay → zx_MI → zx_MJ → Prop}
/-- the numbers 8 and on are not looked at; −1 stands for all -/
def zf_ft (T : Nat → Int64) (D : Nat → Int32) : Nat → Nat → Bool
  | 0, _ => true
  | mm + 1, s => (decide (T s = -1) || decide (T s = (D s).toInt64)) && zf_ft T D mm (s + 1)
theorem sc_fits {t n : Nat} (ht : t < 4) (hn : n ≤ 8) (e3 : I (102 + 2 * t) 3 = nI n) : ∀ d P, zx_rn (d + 1) 43 [.ref 65, .ref (102 + 2 * t)] (zx_LL Lh) I J P = P (some (.int (zB (zf_ft (J (103 + 2 * t)) (I 68) n 0)))) (zx_LL Lh) I J := by
  obtain ⟨k1, k2, k3, k4, k5, k6⟩ := zTr_k Lh ht
  have l5 : (102 + 2 * t < 5000) = True := eq_true (by omega)
  have loop : ∀ mm s, s + mm = n → ∀ d P, zx_wp (d + 1) 43 2 [.ref 65, .ref (102 + 2 * t), .int (nI s)] [] (zx_LL Lh) I J P = P (some (.int (zB (zf_ft (J (103 + 2 * t)) (I 68) mm s)))) (zx_LL Lh) I J := by
    intro mm
    induction mm with
    | zero =>
      intro s hs d P
      obtain rfl : s = n := by omega
      rw [zs_43_2]
      simp (disch := omega) only [↓zs_43_0, ↓zs_43_1, ↓zs_43_3, ↓zs_43_4, ↓zs_43_7, ↓zs_43_10, ↓zs_43_11, ↓zs_43_13, ↓zs_43_16, ↓zs_43_17, ↓zs_43_18, ↓zs_43_21, ↓zs_43_24, ↓zs_43_25, ↓zs_43_28, ↓zs_43_29, ↓zs_43_30, ↓zs_43_33, ↓zs_43_34, ↓zs_43_37, ↓zs_43_40, ↓zs_43_41, ↓zs_43_42, ↓zs_43_43, ↓zs_43_44, ↓zs_43_47, ↓zs_43_48, ↓zs_43_49, ↓zs_43_52, ↓zs_43_55, ↓zs_43_56, zx_pu_s, zx_pu_n, zx_rv_s, zx_rv_n, true_and, and_true, true_or, or_true, zb_0, zb_1, zq_lcl, zq_lcg, zq_lce, eq_self, ite_true, ite_false, zk_65, zw_65, zk_66, zw_66, zk_67, zw_67, zk_68, zw_68, zq_65_0, zq_66_0, zq_66_1, zq_66_2, nI_ltI, Nat.lt_irrefl, k1, e3]
      rfl
    | succ mm ih =>
      intro s hs d P
      have hlt : s < n := by omega
      have h8 : s < 8 := by omega
      have hget := fun d P => sc_get (d := d) (Lh := Lh) (I := I) (J := J) (P := P) (i := s) ht (by omega) hlt e3
      have i9 := ih (s + 1) (by omega) d P
      rw [zf_ft]
      by_cases c1 : J (103 + 2 * t) s = -1
      · have c1' : (J (103 + 2 * t) s = -1) = True := eq_true c1
        rw [decide_eq_true c1, Bool.true_or, Bool.true_and, ← i9, zs_43_2]
        simp (disch := omega) only [↓zs_43_0, ↓zs_43_1, ↓zs_43_3, ↓zs_43_4, ↓zs_43_7, ↓zs_43_10, ↓zs_43_11, ↓zs_43_13, ↓zs_43_16, ↓zs_43_17, ↓zs_43_18, ↓zs_43_21, ↓zs_43_24, ↓zs_43_25, ↓zs_43_28, ↓zs_43_29, ↓zs_43_30, ↓zs_43_33, ↓zs_43_34, ↓zs_43_37, ↓zs_43_40, ↓zs_43_41, ↓zs_43_42, ↓zs_43_43, ↓zs_43_44, ↓zs_43_47, ↓zs_43_48, ↓zs_43_49, ↓zs_43_52, ↓zs_43_55, ↓zs_43_56, zx_pu_s, zx_pu_n, zx_rv_s, zx_rv_n, true_and, and_true, true_or, or_true, zb_0, zb_1, zq_lcl, zq_lcg, zq_lce, eq_self, ite_true, ite_false, zk_65, zw_65, zk_66, zw_66, zk_67, zw_67, zk_68, zw_68, zq_65_0, zq_66_0, zq_66_1, zq_66_2, zin_nI, nI_clamp, nI_ltI, nI_add, k1, e3, hlt, h8, hget, c1']
      · have c1' : (J (103 + 2 * t) s = -1) = False := eq_false c1
        rw [decide_eq_false c1, Bool.false_or]
        by_cases c2 : J (103 + 2 * t) s = (I 68 s).toInt64
        · have c2' : (J (103 + 2 * t) s = (I 68 s).toInt64) = True := eq_true c2
          rw [decide_eq_true c2, Bool.true_and, ← i9, zs_43_2]
          simp (disch := omega) only [↓zs_43_0, ↓zs_43_1, ↓zs_43_3, ↓zs_43_4, ↓zs_43_7, ↓zs_43_10, ↓zs_43_11, ↓zs_43_13, ↓zs_43_16, ↓zs_43_17, ↓zs_43_18, ↓zs_43_21, ↓zs_43_24, ↓zs_43_25, ↓zs_43_28, ↓zs_43_29, ↓zs_43_30, ↓zs_43_33, ↓zs_43_34, ↓zs_43_37, ↓zs_43_40, ↓zs_43_41, ↓zs_43_42, ↓zs_43_43, ↓zs_43_44, ↓zs_43_47, ↓zs_43_48, ↓zs_43_49, ↓zs_43_52, ↓zs_43_55, ↓zs_43_56, zx_pu_s, zx_pu_n, zx_rv_s, zx_rv_n, true_and, and_true, true_or, or_true, zb_0, zb_1, zq_lcl, zq_lcg, zq_lce, eq_self, ite_true, ite_false, zk_65, zw_65, zk_66, zw_66, zk_67, zw_67, zk_68, zw_68, zq_65_0, zq_66_0, zq_66_1, zq_66_2, zin_nI, nI_clamp, nI_ltI, nI_add, k1, e3, hlt, h8, hget, c1', c2']
        · have c2' : (J (103 + 2 * t) s = (I 68 s).toInt64) = False := eq_false c2
          rw [decide_eq_false c2, Bool.false_and, zs_43_2]
          simp (disch := omega) only [↓zs_43_0, ↓zs_43_1, ↓zs_43_3, ↓zs_43_4, ↓zs_43_7, ↓zs_43_10, ↓zs_43_11, ↓zs_43_13, ↓zs_43_16, ↓zs_43_17, ↓zs_43_18, ↓zs_43_21, ↓zs_43_24, ↓zs_43_25, ↓zs_43_28, ↓zs_43_29, ↓zs_43_30, ↓zs_43_33, ↓zs_43_34, ↓zs_43_37, ↓zs_43_40, ↓zs_43_41, ↓zs_43_42, ↓zs_43_43, ↓zs_43_44, ↓zs_43_47, ↓zs_43_48, ↓zs_43_49, ↓zs_43_52, ↓zs_43_55, ↓zs_43_56, zx_pu_s, zx_pu_n, zx_rv_s, zx_rv_n, true_and, and_true, true_or, or_true, zb_0, zb_1, zq_lcl, zq_lcg, zq_lce, eq_self, ite_true, ite_false, zk_65, zw_65, zk_66, zw_66, zk_67, zw_67, zk_68, zw_68, zq_65_0, zq_66_0, zq_66_1, zq_66_2, zin_nI, nI_clamp, nI_ltI, nI_add, k1, e3, hlt, h8, hget, c1', c2']
          rfl
  intro d P
  rw [ze_43]
  simp (disch := omega) only [↓zs_43_0, ↓zs_43_1, zx_pu_s, zx_pu_n, zx_rv_s, zx_rv_n, true_and, and_true, true_or, or_true, zb_0, zb_1, zq_lcl, zq_lcg, zq_lce, eq_self, ite_true, ite_false]
  exact loop n 0 (by omega) d P
end SE
