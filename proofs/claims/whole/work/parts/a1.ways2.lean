/-! ways, the class's sets -/
theorem zx_st71 : zx_st 71 := show 71 ∈ zx_stl by decide
/-- what the walks know of the square -/
def zW (J : zx_MJ) (w h : Nat) : Prop := J 70 7 = zf_allb w h ∧ J 70 6 = zf_lastb w h ∧ J 70 5 = zf_firstb w h
theorem zW_f {J J2 : zx_MJ} {w h : Nat} (z : zW J w h) (e : ∀ j, J2 70 j = J 70 j) : zW J2 w h := by
  unfold zW
  rw [e, e, e]
  exact z
section WC
variable {d Lh m w h N : Nat} {I : zx_MI} {J : zx_MJ} {P : Option Value → zx_Lay → zx_MI → zx_MJ → Prop}
theorem sc_spread {b : Int64} (z : zW J w h) (hw : I 1 6 = nI w) (w0 : 0 < w) (w8 : w ≤ 8) (h8 : h ≤ 8) (hb : zf_sub w h b) : zx_rn d 93 [.ref 70, .ref 1, .long b] (zx_LL Lh) I J P = P (some (.long (zf_bes w h b))) (zx_LL Lh) I J := by
  obtain ⟨z7, z6, z5⟩ := z
  rw [← zf_spr_eq w0 w8 h8 hb, ze_93]
  simp (disch := omega) only [↓zs_93_0, ↓zs_93_1, ↓zs_93_2, ↓zs_93_5, ↓zs_93_8, ↓zs_93_9, ↓zs_93_10, ↓zs_93_11, ↓zs_93_12, ↓zs_93_13, ↓zs_93_14, ↓zs_93_17, ↓zs_93_20, ↓zs_93_21, ↓zs_93_22, ↓zs_93_23, ↓zs_93_24, ↓zs_93_25, ↓zs_93_27, ↓zs_93_28, ↓zs_93_31, ↓zs_93_32, ↓zs_93_34, ↓zs_93_35, ↓zs_93_36, ↓zs_93_37, ↓zs_93_40, ↓zs_93_41, ↓zs_93_42, ↓zs_93_43, ↓zs_93_44, ↓zs_93_47, ↓zs_93_48, ↓zs_93_49, ↓zs_93_50, zx_pu_s, zx_pu_n, zx_rv_s, zx_rv_n, true_and, and_true, true_or, or_true, zb_0, zb_1, zq_lcl, zq_lcg, zq_lce, eq_self, ite_true, ite_false, zk_1, zw_1, zq_1_0, zq_1_1, zq_1_2, zq_1_3, zq_1_4, zq_1_5, zk_70, zw_70, zq_70_0, zq_70_1, zq_70_2, zq_70_3, zq_70_4, z7, z6, z5, hw]
  rfl
theorem sc_measure (hw : I 1 6 = nI w) (hh : I 1 7 = nI h) (w0 : 0 < w) (w8 : w ≤ 8) (h8 : h ≤ 8) : ∃ J2, (∀ a j, ¬ (a = 70 ∧ 5 ≤ j ∧ j ≤ 7) → J2 a j = J a j) ∧ zW J2 w h ∧ ∀ d P, zx_rn (d + 1) 92 [.ref 70, .ref 1] (zx_LL Lh) I J P = P none (zx_LL Lh) I J2 := by
  have hwh : w * h ≤ 64 := Nat.mul_le_mul w8 h8
  have wm : nI w - nI 1 = nI (w - 1) := pk_sub (by omega)
  have grow : ∀ (q : Nat → Bool) (k : Nat) (b : Int64), k < 64 → (∀ j, j < 64 → zf_bit b j = (decide (j < k) && q j)) → ∀ j, j < 64 → zf_bit (if q k = true then b ||| zf_one k else b) j = (decide (j < k + 1) && q j) := by
    intro q k b hk hb j hj
    by_cases e : j = k
    · subst e
      rw [decide_eq_true (by omega), Bool.true_and]
      cases c : q j with
      | false => rw [if_neg (by decide), hb j hj, decide_eq_false (by omega), Bool.false_and]
      | true => rw [if_pos rfl, zt_or, zt_one hj hj, decide_eq_true rfl, Bool.or_true]
    · rw [show decide (j < k + 1) = decide (j < k) from decide_eq_decide.mpr (by omega), ← hb j hj]
      split
      · rw [zt_or, zt_one (by omega) hj, decide_eq_false e, Bool.or_false]
      · rfl
  have loop : ∀ mm k J1 v3, k + mm = w * h → (∀ a j, ¬ (a = 70 ∧ 5 ≤ j ∧ j ≤ 7) → J1 a j = J a j) → (∀ j, j < 64 → zf_bit (J1 70 7) j = (decide (j < k) && true)) → (∀ j, j < 64 → zf_bit (J1 70 6) j = (decide (j < k) && decide (j % w + 1 = w))) → (∀ j, j < 64 → zf_bit (J1 70 5) j = (decide (j < k) && decide (j % w = 0))) → ∃ J2, (∀ a j, ¬ (a = 70 ∧ 5 ≤ j ∧ j ≤ 7) → J2 a j = J a j) ∧ zW J2 w h ∧ ∀ d P, zx_wp (d + 1) 92 17 [.ref 70, .ref 1, .int (nI k), v3, zx_u0] [] (zx_LL Lh) I J1 P = P none (zx_LL Lh) I J2 := by
    intro mm
    induction mm with
    | zero =>
      intro k J1 v3 hk fr b7 b6 b5
      obtain rfl : k = w * h := by omega
      have hst := fun d P => sc_hasStone (d := d) (Lh := Lh) (I := I) (J := J1) (P := P) zx_sq1 (nI (w * h)) hw hh hwh
      rw [zf_in_nI (by omega), decide_eq_false (Nat.lt_irrefl _)] at hst
      refine ⟨J1, fr, ⟨zt_ext (fun j hj => ?_), zt_ext (fun j hj => ?_), zt_ext (fun j hj => ?_)⟩, fun d P => ?_⟩
      · rw [b7 j hj, zf_allb, zt_mk hj, Bool.and_true]
      · rw [b6 j hj, zf_lastb, zt_mk hj]
      · rw [b5 j hj, zf_firstb, zt_mk hj]
      · rw [zs_92_17]
        rcases Nat.lt_or_ge (w * h) 64 with q | q
        · simp (disch := omega) only [↓zs_92_18, ↓zs_92_20, ↓zs_92_23, ↓zs_92_24, ↓zs_92_25, ↓zs_92_28, ↓zs_92_31, ↓zs_92_32, ↓zs_92_33, ↓zs_92_34, ↓zs_92_35, ↓zs_92_36, ↓zs_92_37, ↓zs_92_40, ↓zs_92_41, ↓zs_92_42, ↓zs_92_45, ↓zs_92_46, ↓zs_92_47, ↓zs_92_50, ↓zs_92_53, ↓zs_92_54, ↓zs_92_55, ↓zs_92_58, ↓zs_92_59, ↓zs_92_60, ↓zs_92_63, ↓zs_92_64, ↓zs_92_65, ↓zs_92_68, ↓zs_92_69, ↓zs_92_72, ↓zs_92_73, ↓zs_92_74, ↓zs_92_77, ↓zs_92_78, ↓zs_92_79, ↓zs_92_82, ↓zs_92_83, ↓zs_92_84, ↓zs_92_87, ↓zs_92_90, ↓zs_92_93, zx_pu_s, zx_pu_n, zx_rv_s, zx_rv_n, true_and, and_true, true_or, or_true, zb_0, zb_1, zq_lcl, zq_lcg, zq_lce, eq_self, ite_true, ite_false, zk_1, zw_1, zq_1_0, zq_1_1, zq_1_2, zq_1_3, zq_1_4, zq_1_5, nI_ltI, q, hst, zB_0, reduceCtorEq]
        · have q2 : ¬ w * h < 64 := by omega
          simp (disch := omega) only [↓zs_92_18, ↓zs_92_20, ↓zs_92_23, ↓zs_92_24, ↓zs_92_25, ↓zs_92_28, ↓zs_92_31, ↓zs_92_32, ↓zs_92_33, ↓zs_92_34, ↓zs_92_35, ↓zs_92_36, ↓zs_92_37, ↓zs_92_40, ↓zs_92_41, ↓zs_92_42, ↓zs_92_45, ↓zs_92_46, ↓zs_92_47, ↓zs_92_50, ↓zs_92_53, ↓zs_92_54, ↓zs_92_55, ↓zs_92_58, ↓zs_92_59, ↓zs_92_60, ↓zs_92_63, ↓zs_92_64, ↓zs_92_65, ↓zs_92_68, ↓zs_92_69, ↓zs_92_72, ↓zs_92_73, ↓zs_92_74, ↓zs_92_77, ↓zs_92_78, ↓zs_92_79, ↓zs_92_82, ↓zs_92_83, ↓zs_92_84, ↓zs_92_87, ↓zs_92_90, ↓zs_92_93, zx_pu_s, zx_pu_n, zx_rv_s, zx_rv_n, true_and, and_true, true_or, or_true, zb_0, zb_1, zq_lcl, zq_lcg, zq_lce, eq_self, ite_true, ite_false, nI_ltI, q2]
    | succ mm ih =>
      intro k J1 v3 hk fr b7 b6 b5
      have hlt : k < w * h := by omega
      have k64 : k < 64 := by omega
      have hst := fun d J P => sc_hasStone (d := d) (Lh := Lh) (I := I) (J := J) (P := P) zx_sq1 (nI k) hw hh hwh
      rw [zf_in_nI (by omega), decide_eq_true hlt] at hst
      have hcol := fun d J P => sc_columnOf (d := d) (Lh := Lh) (I := I) (J := J) (P := P) zx_sq1 hw w0 w8 (p := k) (by omega)
      have hmod := Nat.mod_lt k w0
      have a7 := grow (fun _ => true) k (J1 70 7) k64 b7
      have a6 := grow (fun j => decide (j % w + 1 = w)) k (J1 70 6) k64 b6
      have a5 := grow (fun j => decide (j % w = 0)) k (J1 70 5) k64 b5
      rw [if_pos rfl] at a7
      -- the three cells written
      have e5 : ∀ x, zx_u J1 70 7 x 70 5 = J1 70 5 := fun x => zu_n (by omega)
      have e6 : ∀ x, zx_u J1 70 7 x 70 6 = J1 70 6 := fun x => zu_n (by omega)
      have e65 : ∀ x y, zx_u (zx_u J1 70 7 x) 70 5 y 70 6 = J1 70 6 := fun x y => by rw [zu_n (by omega), zu_n (by omega)]
      by_cases c5 : k % w = 0
      · rw [decide_eq_true c5, if_pos rfl] at a5
        by_cases c6 : k % w + 1 = w
        · rw [decide_eq_true c6, if_pos rfl] at a6
          have c6' : k % w = w - 1 := by omega
          have c6'' : (nI (k % w) = nI (w - 1)) = True := eq_true (congrArg nI c6')
          have c5'' : (nI (k % w) = nI 0) = True := eq_true (congrArg nI c5)
          obtain ⟨J2, f2, z2, h2⟩ := ih (k + 1) (zx_u (zx_u (zx_u J1 70 7 (J1 70 7 ||| zf_one k)) 70 5 (J1 70 5 ||| zf_one k)) 70 6 (J1 70 6 ||| zf_one k)) (.long (zf_one k)) (by omega) (fun a j n => by rw [zu_n (by omega), zu_n (by omega), zu_n (by omega)]; exact fr a j n) (fun j hj => by rw [zu_n (by omega), zu_n (by omega), zu_s]; exact a7 j hj) (fun j hj => by rw [zu_s]; exact a6 j hj) (fun j hj => by rw [zu_n (by omega), zu_s]; exact a5 j hj)
          refine ⟨J2, f2, z2, fun d P => ?_⟩
          rw [← h2 d P, zs_92_17]
          simp (disch := omega) only [↓zs_92_18, ↓zs_92_20, ↓zs_92_23, ↓zs_92_24, ↓zs_92_25, ↓zs_92_28, ↓zs_92_31, ↓zs_92_32, ↓zs_92_33, ↓zs_92_34, ↓zs_92_35, ↓zs_92_36, ↓zs_92_37, ↓zs_92_40, ↓zs_92_41, ↓zs_92_42, ↓zs_92_45, ↓zs_92_46, ↓zs_92_47, zx_pu_s, zx_pu_n, zx_rv_s, zx_rv_n, true_and, and_true, true_or, or_true, zb_0, zb_1, zq_lcl, zq_lcg, zq_lce, eq_self, ite_true, ite_false, zk_1, zw_1, zq_1_0, zq_1_1, zq_1_2, zq_1_3, zq_1_4, zq_1_5, zk_70, zw_70, zq_70_0, zq_70_1, zq_70_2, zq_70_3, zq_70_4, nI_ltI, k64, hst, zB_0, reduceCtorEq]
          simp (disch := omega) only [↓zs_92_35, ↓zs_92_36, ↓zs_92_37, ↓zs_92_40, ↓zs_92_41, ↓zs_92_42, ↓zs_92_45, ↓zs_92_46, ↓zs_92_47, ↓zs_92_50, ↓zs_92_53, ↓zs_92_54, ↓zs_92_55, ↓zs_92_58, ↓zs_92_59, ↓zs_92_60, ↓zs_92_63, ↓zs_92_64, ↓zs_92_65, ↓zs_92_68, ↓zs_92_69, ↓zs_92_72, ↓zs_92_73, ↓zs_92_74, ↓zs_92_77, ↓zs_92_78, ↓zs_92_79, ↓zs_92_82, ↓zs_92_83, ↓zs_92_84, ↓zs_92_87, ↓zs_92_90, ↓zs_92_93, zx_pu_s, zx_pu_n, zx_rv_s, zx_rv_n, true_and, and_true, true_or, or_true, zb_0, zb_1, zq_lcl, zq_lcg, zq_lce, eq_self, ite_true, ite_false, zk_1, zw_1, zq_1_0, zq_1_1, zq_1_2, zq_1_3, zq_1_4, zq_1_5, zk_70, zw_70, zq_70_0, zq_70_1, zq_70_2, zq_70_3, zq_70_4, hcol, c5'', hw, wm, c6'', e5, e65, nI_add]
          rfl
        · rw [decide_eq_false c6, if_neg (by decide)] at a6
          have c6'' : (nI (k % w) = nI (w - 1)) = False := zq_ne (by omega) (by omega) (by omega)
          have c5'' : (nI (k % w) = nI 0) = True := eq_true (congrArg nI c5)
          obtain ⟨J2, f2, z2, h2⟩ := ih (k + 1) (zx_u (zx_u J1 70 7 (J1 70 7 ||| zf_one k)) 70 5 (J1 70 5 ||| zf_one k)) (.long (zf_one k)) (by omega) (fun a j n => by rw [zu_n (by omega), zu_n (by omega)]; exact fr a j n) (fun j hj => by rw [zu_n (by omega), zu_s]; exact a7 j hj) (fun j hj => by rw [zu_n (by omega), zu_n (by omega)]; exact a6 j hj) (fun j hj => by rw [zu_s]; exact a5 j hj)
          refine ⟨J2, f2, z2, fun d P => ?_⟩
          rw [← h2 d P, zs_92_17]
          simp (disch := omega) only [↓zs_92_18, ↓zs_92_20, ↓zs_92_23, ↓zs_92_24, ↓zs_92_25, ↓zs_92_28, ↓zs_92_31, ↓zs_92_32, ↓zs_92_33, ↓zs_92_34, ↓zs_92_35, ↓zs_92_36, ↓zs_92_37, ↓zs_92_40, ↓zs_92_41, ↓zs_92_42, ↓zs_92_45, ↓zs_92_46, ↓zs_92_47, zx_pu_s, zx_pu_n, zx_rv_s, zx_rv_n, true_and, and_true, true_or, or_true, zb_0, zb_1, zq_lcl, zq_lcg, zq_lce, eq_self, ite_true, ite_false, zk_1, zw_1, zq_1_0, zq_1_1, zq_1_2, zq_1_3, zq_1_4, zq_1_5, zk_70, zw_70, zq_70_0, zq_70_1, zq_70_2, zq_70_3, zq_70_4, nI_ltI, k64, hst, zB_0, reduceCtorEq]
          simp (disch := omega) only [↓zs_92_35, ↓zs_92_36, ↓zs_92_37, ↓zs_92_40, ↓zs_92_41, ↓zs_92_42, ↓zs_92_45, ↓zs_92_46, ↓zs_92_47, ↓zs_92_50, ↓zs_92_53, ↓zs_92_54, ↓zs_92_55, ↓zs_92_58, ↓zs_92_59, ↓zs_92_60, ↓zs_92_63, ↓zs_92_64, ↓zs_92_65, ↓zs_92_68, ↓zs_92_69, ↓zs_92_72, ↓zs_92_73, ↓zs_92_74, ↓zs_92_77, ↓zs_92_78, ↓zs_92_79, ↓zs_92_82, ↓zs_92_83, ↓zs_92_84, ↓zs_92_87, ↓zs_92_90, ↓zs_92_93, zx_pu_s, zx_pu_n, zx_rv_s, zx_rv_n, true_and, and_true, true_or, or_true, zb_0, zb_1, zq_lcl, zq_lcg, zq_lce, eq_self, ite_true, ite_false, zk_1, zw_1, zq_1_0, zq_1_1, zq_1_2, zq_1_3, zq_1_4, zq_1_5, zk_70, zw_70, zq_70_0, zq_70_1, zq_70_2, zq_70_3, zq_70_4, hcol, c5'', hw, wm, c6'', e5, nI_add]
          rfl
      · rw [decide_eq_false c5, if_neg (by decide)] at a5
        have c5'' : (nI (k % w) = nI 0) = False := zq_ne c5 (by omega) (by omega)
        by_cases c6 : k % w + 1 = w
        · rw [decide_eq_true c6, if_pos rfl] at a6
          have c6' : k % w = w - 1 := by omega
          have c6'' : (nI (k % w) = nI (w - 1)) = True := eq_true (congrArg nI c6')
          obtain ⟨J2, f2, z2, h2⟩ := ih (k + 1) (zx_u (zx_u J1 70 7 (J1 70 7 ||| zf_one k)) 70 6 (J1 70 6 ||| zf_one k)) (.long (zf_one k)) (by omega) (fun a j n => by rw [zu_n (by omega), zu_n (by omega)]; exact fr a j n) (fun j hj => by rw [zu_n (by omega), zu_s]; exact a7 j hj) (fun j hj => by rw [zu_s]; exact a6 j hj) (fun j hj => by rw [zu_n (by omega), zu_n (by omega)]; exact a5 j hj)
          refine ⟨J2, f2, z2, fun d P => ?_⟩
          rw [← h2 d P, zs_92_17]
          simp (disch := omega) only [↓zs_92_18, ↓zs_92_20, ↓zs_92_23, ↓zs_92_24, ↓zs_92_25, ↓zs_92_28, ↓zs_92_31, ↓zs_92_32, ↓zs_92_33, ↓zs_92_34, ↓zs_92_35, ↓zs_92_36, ↓zs_92_37, ↓zs_92_40, ↓zs_92_41, ↓zs_92_42, ↓zs_92_45, ↓zs_92_46, ↓zs_92_47, zx_pu_s, zx_pu_n, zx_rv_s, zx_rv_n, true_and, and_true, true_or, or_true, zb_0, zb_1, zq_lcl, zq_lcg, zq_lce, eq_self, ite_true, ite_false, zk_1, zw_1, zq_1_0, zq_1_1, zq_1_2, zq_1_3, zq_1_4, zq_1_5, zk_70, zw_70, zq_70_0, zq_70_1, zq_70_2, zq_70_3, zq_70_4, nI_ltI, k64, hst, zB_0, reduceCtorEq]
          simp (disch := omega) only [↓zs_92_35, ↓zs_92_36, ↓zs_92_37, ↓zs_92_40, ↓zs_92_41, ↓zs_92_42, ↓zs_92_45, ↓zs_92_46, ↓zs_92_47, ↓zs_92_50, ↓zs_92_53, ↓zs_92_54, ↓zs_92_55, ↓zs_92_58, ↓zs_92_59, ↓zs_92_60, ↓zs_92_63, ↓zs_92_64, ↓zs_92_65, ↓zs_92_68, ↓zs_92_69, ↓zs_92_72, ↓zs_92_73, ↓zs_92_74, ↓zs_92_77, ↓zs_92_78, ↓zs_92_79, ↓zs_92_82, ↓zs_92_83, ↓zs_92_84, ↓zs_92_87, ↓zs_92_90, ↓zs_92_93, zx_pu_s, zx_pu_n, zx_rv_s, zx_rv_n, true_and, and_true, true_or, or_true, zb_0, zb_1, zq_lcl, zq_lcg, zq_lce, eq_self, ite_true, ite_false, zk_1, zw_1, zq_1_0, zq_1_1, zq_1_2, zq_1_3, zq_1_4, zq_1_5, zk_70, zw_70, zq_70_0, zq_70_1, zq_70_2, zq_70_3, zq_70_4, hcol, c5'', hw, wm, c6'', e6, nI_add]
          rfl
        · rw [decide_eq_false c6, if_neg (by decide)] at a6
          have c6'' : (nI (k % w) = nI (w - 1)) = False := zq_ne (by omega) (by omega) (by omega)
          obtain ⟨J2, f2, z2, h2⟩ := ih (k + 1) (zx_u J1 70 7 (J1 70 7 ||| zf_one k)) (.long (zf_one k)) (by omega) (fun a j n => by rw [zu_n (by omega)]; exact fr a j n) (fun j hj => by rw [zu_s]; exact a7 j hj) (fun j hj => by rw [zu_n (by omega)]; exact a6 j hj) (fun j hj => by rw [zu_n (by omega)]; exact a5 j hj)
          refine ⟨J2, f2, z2, fun d P => ?_⟩
          rw [← h2 d P, zs_92_17]
          simp (disch := omega) only [↓zs_92_18, ↓zs_92_20, ↓zs_92_23, ↓zs_92_24, ↓zs_92_25, ↓zs_92_28, ↓zs_92_31, ↓zs_92_32, ↓zs_92_33, ↓zs_92_34, ↓zs_92_35, ↓zs_92_36, ↓zs_92_37, ↓zs_92_40, ↓zs_92_41, ↓zs_92_42, ↓zs_92_45, ↓zs_92_46, ↓zs_92_47, zx_pu_s, zx_pu_n, zx_rv_s, zx_rv_n, true_and, and_true, true_or, or_true, zb_0, zb_1, zq_lcl, zq_lcg, zq_lce, eq_self, ite_true, ite_false, zk_1, zw_1, zq_1_0, zq_1_1, zq_1_2, zq_1_3, zq_1_4, zq_1_5, zk_70, zw_70, zq_70_0, zq_70_1, zq_70_2, zq_70_3, zq_70_4, nI_ltI, k64, hst, zB_0, reduceCtorEq]
          simp (disch := omega) only [↓zs_92_35, ↓zs_92_36, ↓zs_92_37, ↓zs_92_40, ↓zs_92_41, ↓zs_92_42, ↓zs_92_45, ↓zs_92_46, ↓zs_92_47, ↓zs_92_50, ↓zs_92_53, ↓zs_92_54, ↓zs_92_55, ↓zs_92_58, ↓zs_92_59, ↓zs_92_60, ↓zs_92_63, ↓zs_92_64, ↓zs_92_65, ↓zs_92_68, ↓zs_92_69, ↓zs_92_72, ↓zs_92_73, ↓zs_92_74, ↓zs_92_77, ↓zs_92_78, ↓zs_92_79, ↓zs_92_82, ↓zs_92_83, ↓zs_92_84, ↓zs_92_87, ↓zs_92_90, ↓zs_92_93, zx_pu_s, zx_pu_n, zx_rv_s, zx_rv_n, true_and, and_true, true_or, or_true, zb_0, zb_1, zq_lcl, zq_lcg, zq_lce, eq_self, ite_true, ite_false, zk_1, zw_1, zq_1_0, zq_1_1, zq_1_2, zq_1_3, zq_1_4, zq_1_5, zk_70, zw_70, zq_70_0, zq_70_1, zq_70_2, zq_70_3, zq_70_4, hcol, c5'', hw, wm, c6'', nI_add]
          rfl
  obtain ⟨J2, f2, z2, h2⟩ := loop (w * h) 0 (zx_u (zx_u (zx_u J 70 5 (lN 0)) 70 6 (lN 0)) 70 7 (lN 0)) zx_u0 (by omega) (fun a j n => by rw [zu_n (by omega), zu_n (by omega), zu_n (by omega)]) (fun j _ => by rw [zu_s, zt_0, decide_eq_false (by omega), Bool.false_and]) (fun j _ => by rw [zu_n (by omega), zu_s, zt_0, decide_eq_false (by omega), Bool.false_and]) (fun j _ => by rw [zu_n (by omega), zu_n (by omega), zu_s, zt_0, decide_eq_false (by omega), Bool.false_and])
  refine ⟨J2, f2, z2, fun d P => ?_⟩
  rw [← h2 d P, ze_92]
  simp (disch := omega) only [↓zs_92_0, ↓zs_92_1, ↓zs_92_2, ↓zs_92_5, ↓zs_92_6, ↓zs_92_7, ↓zs_92_10, ↓zs_92_11, ↓zs_92_12, ↓zs_92_15, ↓zs_92_16, zx_pu_s, zx_pu_n, zx_rv_s, zx_rv_n, true_and, and_true, true_or, or_true, zb_0, zb_1, zq_lcl, zq_lcg, zq_lce, eq_self, ite_true, ite_false, zk_70, zw_70, zq_70_0, zq_70_1, zq_70_2, zq_70_3, zq_70_4]
end WC
