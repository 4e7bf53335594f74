/-! judge -/
theorem zn_fe (v : Nat) (J : Prop) : (if v = 0 then J else J) = J := by split <;> rfl
section JU
variable {Lh m : Nat} {I : zx_MI} {J : zx_MJ}
theorem zf_tells_eq {T T2 : Nat → Int64} : ∀ (mm i : Nat) (B : Nat → Int32) (c : Nat), (∀ j, i ≤ j → j < i + mm → T j = T2 j) → zf_tells T mm i B c = zf_tells T2 mm i B c := by
  intro mm
  induction mm with
  | zero => intro i B c _; rfl
  | succ mm ih =>
    intro i B c h
    unfold zf_tells
    rw [h i (by omega) (by omega), ih (i + 1) _ _ (fun j h1 h2 => h j (by omega) (by omega))]
theorem q_judge (v : zInv I J m) (hm : m < 2 ^ 29) (x y : Int32) : zQ Lh 116 227 [.int x, .int y] I J := by
  have hT := v.2.2.2.2.2.2.1
  obtain ⟨n1, n2⟩ := sp_noTray (Lh := Lh) (I := zx_u I 138 0 (nI 0)) (J := J) (x := x)
  have hby := fun d L I J P => sp_bt (d := d) (L := L) (I := I) (J := J) (P := P) y (a := 0) (b := 3) (by omega) (by omega)
  have yl := zq_lt0 y
  have yg := zq_gt y (n := 3) (by omega)
  have c2 : ((-2 : Int32) = nI 0) = False := eq_false (by decide)
  have c6 : ((-6 : Int32) = nI 0) = False := eq_false (by decide)
  cases c : zf_in x.toInt 4 with
  | false =>
    have h1 := fun d P => sc_trayNo (d := d) (Lh := Lh) (I := I) (J := J) (P := P) c
    have h2 := n1 c
    refine ⟨.int (-2), I, J, zx_u I 138 0 (nI 0), J, fun d P => ?_, fun d P => ?_, zScr_s (zFs_0 _ _)⟩
    · rw [ze_116]
      simp (disch := omega) only [↓zs_116_0, ↓zs_116_1, ↓zs_116_2, ↓zs_116_5, ↓zs_116_5N, ↓zs_116_6, ↓zs_116_6N, ↓zs_116_7, ↓zs_116_7N, ↓zs_116_10, ↓zs_116_11, ↓zs_116_14, ↓zs_116_15, ↓zs_116_16, ↓zs_116_19, ↓zs_116_21, ↓zs_116_22, ↓zs_116_22N, ↓zs_116_23, ↓zs_116_26, ↓zs_116_29, ↓zs_116_31, ↓zs_116_32, ↓zs_116_33, ↓zs_116_36, ↓zs_116_37, ↓zs_116_40, zx_pu_s, zx_pu_n, zx_rv_s, zx_rv_n, true_and, and_true, true_or, or_true, zb_0, zb_1, zq_lcl, zq_lcg, zq_lce, eq_self, ite_true, ite_false, zk_0, zw_0, zq_0_0, zq_0_1, zq_0_2, zq_0_3, zq_0_4, zq_0_5, zq_0_6, zq_0_7, zq_0_8, zq_0_9, zq_0_10, zq_0_11, h1]
    · rw [ze_227]
      cases cy : zf_bt 0 3 y.toInt <;> rw [cy] at hby <;> simp (disch := omega) only [↓zs_227_0, ↓zs_227_1, ↓zs_227_2, ↓zs_227_5, ↓zs_227_6, ↓zs_227_7, ↓zs_227_8, ↓zs_227_11, ↓zs_227_14, ↓zs_227_17, ↓zs_227_19, ↓zs_227_20, ↓zs_227_21, ↓zs_227_22, ↓zs_227_25, ↓zs_227_26, ↓zs_227_27, ↓zs_227_30, ↓zs_227_31, ↓zs_227_32, ↓zs_227_33, ↓zs_227_36, ↓zs_227_37, ↓zs_227_38, ↓zs_227_41, zx_pu_s, zx_pu_n, zx_rv_s, zx_rv_n, true_and, and_true, true_or, or_true, zb_0, zb_1, zq_lcl, zq_lcg, zq_lce, eq_self, ite_true, ite_false, zk_138, zw_138, zk_139, zw_139, zk_140, zw_140, zk_141, zw_141, zk_142, zw_142, zk_143, zw_143, zk_144, zw_144, zk_145, zw_145, zk_146, zw_146, zk_147, zw_147, zk_148, zw_148, zk_149, zw_149, zk_150, zw_150, zk_151, zw_151, zk_152, zw_152, zq_138_1, zq_138_2, zq_138_3, zq_138_4, zq_138_16, zq_138_19, zq_138_20, zq_138_24, zq_138_25, zq_138_26, zq_138_27, zq_138_31, zq_138_32, zq_138_33, hby, zB_0, reduceCtorEq, h2, c2]
  | true =>
    have ex := zq_toI (x := x) rfl c (by omega)
    have ht : x.toInt.toNat < 4 := by have := zf_inP.mp c; omega
    generalize x.toInt.toNat = t at ex ht
    subst ex
    obtain ⟨n3, n4⟩ := n2 t ht rfl
    obtain ⟨k1, k2, k3, k4, k5, k6⟩ := zTr_k Lh ht
    have h1 := fun d P => sc_trayAt (d := d) (Lh := Lh) (I := I) (J := J) (P := P) ht
    have l5 : (102 + 2 * t < 5000) = True := eq_true (by omega)
    have u150 : zx_u I 138 0 (nI 0) 150 = I 150 := zu_o (by decide)
    have u151 : zx_u I 138 0 (nI 0) 151 = I 151 := zu_o (by decide)
    cases cy : zf_bt 0 3 y.toInt with
    | false =>
      rw [cy] at hby
      refine ⟨.int (-2), I, J, zx_u I 138 0 (nI 0), J, fun d P => ?_, fun d P => ?_, zScr_s (zFs_0 _ _)⟩
      · rw [ze_116]
        rcases zf_bt_no cy with q | ⟨q1, q2⟩
        · simp (disch := omega) only [↓zs_116_0, ↓zs_116_1, ↓zs_116_2, ↓zs_116_5, ↓zs_116_5N, ↓zs_116_6, ↓zs_116_6N, ↓zs_116_7, ↓zs_116_7N, ↓zs_116_10, ↓zs_116_11, ↓zs_116_14, ↓zs_116_15, ↓zs_116_16, ↓zs_116_19, ↓zs_116_21, ↓zs_116_22, ↓zs_116_22N, ↓zs_116_23, ↓zs_116_26, ↓zs_116_29, ↓zs_116_31, ↓zs_116_32, ↓zs_116_33, ↓zs_116_36, ↓zs_116_37, ↓zs_116_40, zx_pu_s, zx_pu_n, zx_rv_s, zx_rv_n, true_and, and_true, true_or, or_true, zb_0, zb_1, zq_lcl, zq_lcg, zq_lce, eq_self, ite_true, ite_false, zk_0, zw_0, zq_0_0, zq_0_1, zq_0_2, zq_0_3, zq_0_4, zq_0_5, zq_0_6, zq_0_7, zq_0_8, zq_0_9, zq_0_10, zq_0_11, h1, l5, yl, q]
        · have q3 : ((3 : Nat) : Int) < y.toInt := q2
          simp (disch := omega) only [↓zs_116_0, ↓zs_116_1, ↓zs_116_2, ↓zs_116_5, ↓zs_116_5N, ↓zs_116_6, ↓zs_116_6N, ↓zs_116_7, ↓zs_116_7N, ↓zs_116_10, ↓zs_116_11, ↓zs_116_14, ↓zs_116_15, ↓zs_116_16, ↓zs_116_19, ↓zs_116_21, ↓zs_116_22, ↓zs_116_22N, ↓zs_116_23, ↓zs_116_26, ↓zs_116_29, ↓zs_116_31, ↓zs_116_32, ↓zs_116_33, ↓zs_116_36, ↓zs_116_37, ↓zs_116_40, zx_pu_s, zx_pu_n, zx_rv_s, zx_rv_n, true_and, and_true, true_or, or_true, zb_0, zb_1, zq_lcl, zq_lcg, zq_lce, eq_self, ite_true, ite_false, zk_0, zw_0, zq_0_0, zq_0_1, zq_0_2, zq_0_3, zq_0_4, zq_0_5, zq_0_6, zq_0_7, zq_0_8, zq_0_9, zq_0_10, zq_0_11, h1, l5, yl, q1, yg, q3]
      · rw [ze_227]
        simp (disch := omega) only [↓zs_227_0, ↓zs_227_1, ↓zs_227_2, ↓zs_227_5, ↓zs_227_6, ↓zs_227_7, ↓zs_227_8, ↓zs_227_11, ↓zs_227_14, ↓zs_227_17, ↓zs_227_19, ↓zs_227_20, ↓zs_227_21, ↓zs_227_22, ↓zs_227_25, ↓zs_227_26, ↓zs_227_27, ↓zs_227_30, ↓zs_227_31, ↓zs_227_32, ↓zs_227_33, ↓zs_227_36, ↓zs_227_37, ↓zs_227_38, ↓zs_227_41, zx_pu_s, zx_pu_n, zx_rv_s, zx_rv_n, true_and, and_true, true_or, or_true, zb_0, zb_1, zq_lcl, zq_lcg, zq_lce, eq_self, ite_true, ite_false, zk_138, zw_138, zk_139, zw_139, zk_140, zw_140, zk_141, zw_141, zk_142, zw_142, zk_143, zw_143, zk_144, zw_144, zk_145, zw_145, zk_146, zw_146, zk_147, zw_147, zk_148, zw_148, zk_149, zw_149, zk_150, zw_150, zk_151, zw_151, zk_152, zw_152, zq_138_1, zq_138_2, zq_138_3, zq_138_4, zq_138_16, zq_138_19, zq_138_20, zq_138_24, zq_138_25, zq_138_26, zq_138_27, zq_138_31, zq_138_32, zq_138_33, hby, zB_0, reduceCtorEq]
    | true =>
      rw [cy] at hby
      obtain ⟨z, -, hz, rfl⟩ := zf_bt_nI cy (by omega)
      have a1 : ¬ 3 < z := by omega
      rcases hT t ht with ⟨e1, e2⟩ | ⟨s, n, hs, hn, e1, e2, e3, e4, e5, e6⟩
      · have h2 := n3 (by rw [u150]; exact e1)
        refine ⟨.int (-6), I, J, zx_u I 138 0 (nI 0), J, fun d P => ?_, fun d P => ?_, zScr_s (zFs_0 _ _)⟩
        · rw [ze_116]
          simp (disch := omega) only [↓zs_116_0, ↓zs_116_1, ↓zs_116_2, ↓zs_116_5, ↓zs_116_5N, ↓zs_116_6, ↓zs_116_6N, ↓zs_116_7, ↓zs_116_7N, ↓zs_116_10, ↓zs_116_11, ↓zs_116_14, ↓zs_116_15, ↓zs_116_16, ↓zs_116_19, ↓zs_116_21, ↓zs_116_22, ↓zs_116_22N, ↓zs_116_23, ↓zs_116_26, ↓zs_116_29, ↓zs_116_31, ↓zs_116_32, ↓zs_116_33, ↓zs_116_36, ↓zs_116_37, ↓zs_116_40, zx_pu_s, zx_pu_n, zx_rv_s, zx_rv_n, true_and, and_true, true_or, or_true, zb_0, zb_1, zq_lcl, zq_lcg, zq_lce, eq_self, ite_true, ite_false, zk_0, zw_0, zq_0_0, zq_0_1, zq_0_2, zq_0_3, zq_0_4, zq_0_5, zq_0_6, zq_0_7, zq_0_8, zq_0_9, zq_0_10, zq_0_11, nI_ltI, zn_lt0, h1, l5, k1, a1, e2]
        · rw [ze_227]
          simp (disch := omega) only [↓zs_227_0, ↓zs_227_1, ↓zs_227_2, ↓zs_227_5, ↓zs_227_6, ↓zs_227_7, ↓zs_227_8, ↓zs_227_11, ↓zs_227_14, ↓zs_227_17, ↓zs_227_19, ↓zs_227_20, ↓zs_227_21, ↓zs_227_22, ↓zs_227_25, ↓zs_227_26, ↓zs_227_27, ↓zs_227_30, ↓zs_227_31, ↓zs_227_32, ↓zs_227_33, ↓zs_227_36, ↓zs_227_37, ↓zs_227_38, ↓zs_227_41, zx_pu_s, zx_pu_n, zx_rv_s, zx_rv_n, true_and, and_true, true_or, or_true, zb_0, zb_1, zq_lcl, zq_lcg, zq_lce, eq_self, ite_true, ite_false, zk_138, zw_138, zk_139, zw_139, zk_140, zw_140, zk_141, zw_141, zk_142, zw_142, zk_143, zw_143, zk_144, zw_144, zk_145, zw_145, zk_146, zw_146, zk_147, zw_147, zk_148, zw_148, zk_149, zw_149, zk_150, zw_150, zk_151, zw_151, zk_152, zw_152, zq_138_1, zq_138_2, zq_138_3, zq_138_4, zq_138_16, zq_138_19, zq_138_20, zq_138_24, zq_138_25, zq_138_26, zq_138_27, zq_138_31, zq_138_32, zq_138_33, hby, zB_0, reduceCtorEq, h2, c6]
      · have c1 : (nI 1 = nI 0) = False := eq_false (by decide)
        -- the class
        obtain ⟨I1, f1, f1', r1, hb⟩ := sc_become (Lh := Lh) (I := I) (J := J) zx_st19 zx_st11 (by decide)
        have e3' : I (102 + 2 * t) 1 = nI 1 := e3
        have e5' : I1 (102 + 2 * t) 3 = nI n := (f1 _ _ (by omega)).trans e5
        have sq1 : zR_sq I1 J 1 (I 139) := zFc_sq zx_st19 f1 v.2.2.1
        obtain ⟨I3, f3, r3, h3⟩ := sc_judgeL (Lh := Lh) (I := I) (J := J) (z := z) ht hn e5' (by omega) sq1 v.2.1 n 0 (I 139) 0 I1 (by omega) (zFc_r _ _) (r1 _ v.2.2.2.1) v.2.1 (zSm_r _)
        obtain ⟨vR, sR, -, kR, wR, -⟩ := zf_tells_V (T := J (103 + 2 * t)) n 0 (I 139) 0 m v.2.1 (by omega)
        have f13 : zFc 19 I I3 := zFc_t f1 f3
        have sq3 : zR_sq I3 J 1 (zf_tells (J (103 + 2 * t)) n 0 (I 139) 0).2.1 := zSm_sq sR v.2.1.2.2.2.2.1.2.1 v.2.1.2.2.2.1.2.1 (zFc_sq zx_st19 f13 v.2.2.1)
        have eA : I3 139 = I 139 := zFc_m zx_st19 f13 (by decide)
        -- the model
        obtain ⟨I5, f5, g5, h5⟩ := sp_keeps (Lh := Lh) (I := zx_u I3 138 0 (nI 0)) (J := J)
        have v139 : (zx_u I3 138 0 (nI 0)) 139 = I 139 := by rw [zu_139, eA]
        have w150 : (zx_u I3 138 0 (nI 0)) 150 = I 150 := by rw [zu_o (by decide)]; exact zFc_m zx_st19 f13 (by decide)
        have w151 : I5 151 = I 151 := by rw [f5 151 (by decide), zu_o (by decide)]; exact zFc_m zx_st19 f13 (by decide)
        obtain ⟨I6, f6, r6, g61, g62, h6⟩ := sp_tells (Lh := Lh) (I := I5) (J := J) (T := J (103 + 2 * t)) ht hn (by rw [w151]; exact e2) (fun i hi => (e6 i hi).symm) (by rw [f5 139 (by decide)]; exact v139) v.2.1 (by omega)
        have hno := ((sp_noTray (Lh := Lh) (x := nI t) (I := zx_u I3 138 0 (nI 0)) (J := J)).2 t ht rfl).2 s hs (by rw [w150]; exact e1)
        have hun := fun d P => sc_under (d := d) (Lh := Lh) (J := J) (P := P) zx_sq1 zx_st19 (zFc_si zx_st19 f13 v.1) (sq3.1.trans vR.1.1.1) (sq3.2.1.trans vR.1.1.2.1) (sq3.2.2.1.trans vR.1.1.2.2.1) sq3.2.2.2.2.2.1 vR.2.1 r3 vR.1
        have si6 : zx_SI I6 := fun a j ha => by
          rw [f6 a j (by omega), f5 a (by omega), zu_n (by omega)]
          exact zFc_si zx_st19 f13 v.1 a j ha
        generalize zf_tells (J (103 + 2 * t)) n 0 (I 139) 0 = R at *
        obtain ⟨I7, f7, h7⟩ := sp_under (Lh := Lh) (J := J) si6 (by rw [r6]; exact vR.1)
        rw [r6] at h7
        have e7 : I7 139 = R.2.1 := by rw [zFs_139 f7, r6]
        have e144 : ∀ j, j < 25 → I7 144 j = I 139 (109 + j) := fun j hj => by
          rw [f7 144 j (by omega), f6 144 j (by omega), g5 j hj, v139]
        have eback : zf_back (I7 139) (I7 144) = I 139 := zf_back_eq (by rw [e7]; exact sR) e144
        have hag := fun d P => sp_isAgain (Lh := Lh) (I := I7) (J := J) (d := d) (P := P)
        rw [eback] at hag
        have u21 : zx_ur I7 139 (I 139) 138 21 = nI R.2.2.2 := by rw [zr_o (by decide), f7 138 21 (by decide)]; exact g61
        have u22 : zx_ur I7 139 (I 139) 138 22 = nI R.2.2.1 := by rw [zr_o (by decide), f7 138 22 (by decide)]; exact g62
        have hscr : zScr I J (zx_ur I7 139 (I 139)) J := zScr_i (fun a j q => by
          unfold zSc at q
          by_cases h : a = 139
          · subst h; rw [zr_s]
          · rw [zr_o h, f7 a j (by omega), f6 a j (by omega), f5 a (by omega), zu_n (by omega), f13 a j (by omega)])
        have hbits := fun d L I J P (b : Int64) => sp_bits (d := d) (L := L) (I := I) (J := J) (P := P) (b := b)
        refine ⟨.int (if z = 0 then (if R.2.2.2 = 0 then -1 else nI R.1) else if z = 1 then nI R.2.2.2 else if z = 2 then nI R.2.2.1 else nI (zf_cnt (zf_bit (zf_under R.2.1 (zw R.2.1) (zh R.2.1) (zn R.2.1))) 64 0)), I3, J, _, J, fun d P => ?_, fun d P => ?_, hscr⟩
        · rw [ze_116]
          simp (disch := omega) only [↓zs_116_0, ↓zs_116_1, ↓zs_116_2, ↓zs_116_5, ↓zs_116_5N, ↓zs_116_6, ↓zs_116_6N, ↓zs_116_7, ↓zs_116_7N, ↓zs_116_10, ↓zs_116_11, ↓zs_116_14, ↓zs_116_15, ↓zs_116_16, ↓zs_116_19, ↓zs_116_21, ↓zs_116_22, ↓zs_116_22N, ↓zs_116_23, ↓zs_116_26, ↓zs_116_29, ↓zs_116_31, ↓zs_116_32, ↓zs_116_33, ↓zs_116_36, ↓zs_116_37, ↓zs_116_40, ↓zs_116_43, ↓zs_116_44, ↓zs_116_46, ↓zs_116_47, ↓zs_116_49, ↓zs_116_50, zx_pu_s, zx_pu_n, zx_rv_s, zx_rv_n, true_and, and_true, true_or, or_true, zb_0, zb_1, zq_lcl, zq_lcg, zq_lce, eq_self, ite_true, ite_false, zk_0, zw_0, zk_1, zw_1, zq_0_0, zq_0_1, zq_0_2, zq_0_3, zq_0_4, zq_0_5, zq_0_6, zq_0_7, zq_0_8, zq_0_9, zq_0_10, zq_0_11, zq_1_0, zq_1_1, zq_1_2, zq_1_3, zq_1_4, zq_1_5, zk_11, zw_11, zq_11_0, zq_11_1, zq_11_2, zk_19, zw_19, zq_19_0, zq_19_1, zq_19_2, nI_ltI, zn_lt0, h1, l5, k1, a1, e3, c1, hb]
          rw [h3]
          rcases (show z = 0 ∨ z = 1 ∨ z = 2 ∨ z = 3 by omega) with q | q | q | q <;> subst q
          · rw [if_pos rfl]
            by_cases w0 : R.2.2.2 = 0
            · rw [if_pos w0]
              simp (disch := omega) only [↓zs_116_116, ↓zs_116_117, ↓zs_116_144, ↓zs_116_146, ↓zs_116_149, ↓zs_116_150, ↓zs_116_153, ↓zs_116_155, ↓zs_116_156, ↓zs_116_158, ↓zs_116_159, ↓zs_116_161, ↓zs_116_162, ↓zs_116_163, ↓zs_116_166, ↓zs_116_167, ↓zs_116_170, ↓zs_116_173, ↓zs_116_176, zx_pu_s, zx_pu_n, zx_rv_s, zx_rv_n, true_and, and_true, true_or, or_true, zb_0, zb_1, zq_lcl, zq_lcg, zq_lce, eq_self, ite_true, ite_false, zk_0, zw_0, zk_1, zw_1, zq_0_0, zq_0_1, zq_0_2, zq_0_3, zq_0_4, zq_0_5, zq_0_6, zq_0_7, zq_0_8, zq_0_9, zq_0_10, zq_0_11, zq_1_0, zq_1_1, zq_1_2, zq_1_3, zq_1_4, zq_1_5, zk_19, zw_19, zq_19_0, zq_19_1, zq_19_2, zn_10, zn_40, zn_040, zn_340, nI_add, zin_nI, nI_clamp, nI_ltI, nI_eq, pk_mul, nI_1, Nat.lt_irrefl, zi_c, zi_n, zq_ne, w0]
            · rw [if_neg w0]
              have w0' : (nI R.2.2.2 = nI 0) = False := zq_ne w0 (by omega) (by omega)
              simp (disch := omega) only [↓zs_116_116, ↓zs_116_117, ↓zs_116_144, ↓zs_116_146, ↓zs_116_149, ↓zs_116_150, ↓zs_116_153, ↓zs_116_155, ↓zs_116_156, ↓zs_116_158, ↓zs_116_159, ↓zs_116_161, ↓zs_116_162, ↓zs_116_163, ↓zs_116_166, ↓zs_116_167, ↓zs_116_170, ↓zs_116_173, ↓zs_116_176, zx_pu_s, zx_pu_n, zx_rv_s, zx_rv_n, true_and, and_true, true_or, or_true, zb_0, zb_1, zq_lcl, zq_lcg, zq_lce, eq_self, ite_true, ite_false, zk_0, zw_0, zk_1, zw_1, zq_0_0, zq_0_1, zq_0_2, zq_0_3, zq_0_4, zq_0_5, zq_0_6, zq_0_7, zq_0_8, zq_0_9, zq_0_10, zq_0_11, zq_1_0, zq_1_1, zq_1_2, zq_1_3, zq_1_4, zq_1_5, zk_19, zw_19, zq_19_0, zq_19_1, zq_19_2, zn_10, zn_40, zn_040, zn_340, nI_add, zin_nI, nI_clamp, nI_ltI, nI_eq, pk_mul, nI_1, Nat.lt_irrefl, zi_c, zi_n, zq_ne, w0']
          · simp (disch := omega) only [↓zs_116_116, ↓zs_116_117, ↓zs_116_144, ↓zs_116_146, ↓zs_116_149, ↓zs_116_150, ↓zs_116_153, ↓zs_116_155, ↓zs_116_156, ↓zs_116_158, ↓zs_116_159, ↓zs_116_161, ↓zs_116_162, ↓zs_116_163, ↓zs_116_166, ↓zs_116_167, ↓zs_116_170, ↓zs_116_173, ↓zs_116_176, zx_pu_s, zx_pu_n, zx_rv_s, zx_rv_n, true_and, and_true, true_or, or_true, zb_0, zb_1, zq_lcl, zq_lcg, zq_lce, eq_self, ite_true, ite_false, zk_0, zw_0, zk_1, zw_1, zq_0_0, zq_0_1, zq_0_2, zq_0_3, zq_0_4, zq_0_5, zq_0_6, zq_0_7, zq_0_8, zq_0_9, zq_0_10, zq_0_11, zq_1_0, zq_1_1, zq_1_2, zq_1_3, zq_1_4, zq_1_5, zk_19, zw_19, zq_19_0, zq_19_1, zq_19_2, zn_10, zi_c, zi_n, zq_ne]
          · simp (disch := omega) only [↓zs_116_116, ↓zs_116_117, ↓zs_116_144, ↓zs_116_146, ↓zs_116_149, ↓zs_116_150, ↓zs_116_153, ↓zs_116_155, ↓zs_116_156, ↓zs_116_158, ↓zs_116_159, ↓zs_116_161, ↓zs_116_162, ↓zs_116_163, ↓zs_116_166, ↓zs_116_167, ↓zs_116_170, ↓zs_116_173, ↓zs_116_176, zx_pu_s, zx_pu_n, zx_rv_s, zx_rv_n, true_and, and_true, true_or, or_true, zb_0, zb_1, zq_lcl, zq_lcg, zq_lce, eq_self, ite_true, ite_false, zk_0, zw_0, zk_1, zw_1, zq_0_0, zq_0_1, zq_0_2, zq_0_3, zq_0_4, zq_0_5, zq_0_6, zq_0_7, zq_0_8, zq_0_9, zq_0_10, zq_0_11, zq_1_0, zq_1_1, zq_1_2, zq_1_3, zq_1_4, zq_1_5, zk_19, zw_19, zq_19_0, zq_19_1, zq_19_2, zn_10, zi_c, zi_n, zq_ne]
            rfl
          · simp (disch := omega) only [↓zs_116_116, ↓zs_116_117, ↓zs_116_144, ↓zs_116_146, ↓zs_116_149, ↓zs_116_150, ↓zs_116_153, ↓zs_116_155, ↓zs_116_156, ↓zs_116_158, ↓zs_116_159, ↓zs_116_161, ↓zs_116_162, ↓zs_116_163, ↓zs_116_166, ↓zs_116_167, ↓zs_116_170, ↓zs_116_173, ↓zs_116_176, zx_pu_s, zx_pu_n, zx_rv_s, zx_rv_n, true_and, and_true, true_or, or_true, zb_0, zb_1, zq_lcl, zq_lcg, zq_lce, eq_self, ite_true, ite_false, zk_0, zw_0, zk_1, zw_1, zq_0_0, zq_0_1, zq_0_2, zq_0_3, zq_0_4, zq_0_5, zq_0_6, zq_0_7, zq_0_8, zq_0_9, zq_0_10, zq_0_11, zq_1_0, zq_1_1, zq_1_2, zq_1_3, zq_1_4, zq_1_5, zk_19, zw_19, zq_19_0, zq_19_1, zq_19_2, zn_10, zi_c, zi_n, zq_ne, hun, zl_bitCount]
            rfl
        · rw [ze_227]
          simp (disch := omega) only [↓zs_227_0, ↓zs_227_1, ↓zs_227_2, ↓zs_227_5, ↓zs_227_6, ↓zs_227_7, ↓zs_227_8, ↓zs_227_11, ↓zs_227_14, ↓zs_227_17, ↓zs_227_19, ↓zs_227_20, ↓zs_227_21, ↓zs_227_22, ↓zs_227_25, ↓zs_227_26, ↓zs_227_27, ↓zs_227_30, ↓zs_227_31, ↓zs_227_32, ↓zs_227_33, ↓zs_227_36, ↓zs_227_37, ↓zs_227_38, ↓zs_227_41, zx_pu_s, zx_pu_n, zx_rv_s, zx_rv_n, true_and, and_true, true_or, or_true, zb_0, zb_1, zq_lcl, zq_lcg, zq_lce, eq_self, ite_true, ite_false, zk_138, zw_138, zk_139, zw_139, zk_140, zw_140, zk_141, zw_141, zk_142, zw_142, zk_143, zw_143, zk_144, zw_144, zk_145, zw_145, zk_146, zw_146, zk_147, zw_147, zk_148, zw_148, zk_149, zw_149, zk_150, zw_150, zk_151, zw_151, zk_152, zw_152, zq_138_1, zq_138_2, zq_138_3, zq_138_4, zq_138_16, zq_138_19, zq_138_20, zq_138_24, zq_138_25, zq_138_26, zq_138_27, zq_138_31, zq_138_32, zq_138_33, hby, zB_0, reduceCtorEq, hno, h5]
          simp (disch := omega) only [↓zs_227_32, ↓zs_227_33, ↓zs_227_36, ↓zs_227_37, ↓zs_227_38, ↓zs_227_41, ↓zs_227_43, ↓zs_227_44, ↓zs_227_47, ↓zs_227_50, ↓zs_227_52, ↓zs_227_53, zx_pu_s, zx_pu_n, zx_rv_s, zx_rv_n, true_and, and_true, true_or, or_true, zb_0, zb_1, zq_lcl, zq_lcg, zq_lce, eq_self, ite_true, ite_false, zk_138, zw_138, zk_139, zw_139, zk_140, zw_140, zk_141, zw_141, zk_142, zw_142, zk_143, zw_143, zk_144, zw_144, zk_145, zw_145, zk_146, zw_146, zk_147, zw_147, zk_148, zw_148, zk_149, zw_149, zk_150, zw_150, zk_151, zw_151, zk_152, zw_152, zq_138_1, zq_138_2, zq_138_3, zq_138_4, zq_138_16, zq_138_19, zq_138_20, zq_138_24, zq_138_25, zq_138_26, zq_138_27, zq_138_31, zq_138_32, zq_138_33, h6, h7, hbits, hag]
          rcases (show z = 0 ∨ z = 1 ∨ z = 2 ∨ z = 3 by omega) with q | q | q | q <;> subst q
          · rw [if_pos rfl]
            by_cases w0 : R.2.2.2 = 0
            · rw [if_pos w0]
              simp (disch := omega) only [↓zs_227_56, ↓zs_227_57, ↓zs_227_60, ↓zs_227_61, ↓zs_227_64, ↓zs_227_67, ↓zs_227_68, ↓zs_227_71, ↓zs_227_73, ↓zs_227_76, ↓zs_227_77, ↓zs_227_78, ↓zs_227_81, ↓zs_227_82, ↓zs_227_85, ↓zs_227_88, ↓zs_227_89, ↓zs_227_90, ↓zs_227_93, ↓zs_227_94, ↓zs_227_97, ↓zs_227_100, ↓zs_227_102, zx_pu_s, zx_pu_n, zx_rv_s, zx_rv_n, true_and, and_true, true_or, or_true, zb_0, zb_1, zq_lcl, zq_lcg, zq_lce, eq_self, ite_true, ite_false, zk_138, zw_138, zk_139, zw_139, zk_140, zw_140, zk_141, zw_141, zk_142, zw_142, zk_143, zw_143, zk_144, zw_144, zk_145, zw_145, zk_146, zw_146, zk_147, zw_147, zk_148, zw_148, zk_149, zw_149, zk_150, zw_150, zk_151, zw_151, zk_152, zw_152, zq_138_1, zq_138_2, zq_138_3, zq_138_4, zq_138_16, zq_138_19, zq_138_20, zq_138_24, zq_138_25, zq_138_26, zq_138_27, zq_138_31, zq_138_32, zq_138_33, zn_10, zn_40, zn_040, zn_340, nI_add, zin_nI, nI_clamp, nI_ltI, nI_eq, pk_mul, nI_1, Nat.lt_irrefl, u21, w0]
            · rw [if_neg w0]
              have w0' : (nI R.2.2.2 = nI 0) = False := zq_ne w0 (by omega) (by omega)
              simp (disch := omega) only [↓zs_227_56, ↓zs_227_57, ↓zs_227_60, ↓zs_227_61, ↓zs_227_64, ↓zs_227_67, ↓zs_227_68, ↓zs_227_71, ↓zs_227_73, ↓zs_227_76, ↓zs_227_77, ↓zs_227_78, ↓zs_227_81, ↓zs_227_82, ↓zs_227_85, ↓zs_227_88, ↓zs_227_89, ↓zs_227_90, ↓zs_227_93, ↓zs_227_94, ↓zs_227_97, ↓zs_227_100, ↓zs_227_102, zx_pu_s, zx_pu_n, zx_rv_s, zx_rv_n, true_and, and_true, true_or, or_true, zb_0, zb_1, zq_lcl, zq_lcg, zq_lce, eq_self, ite_true, ite_false, zk_138, zw_138, zk_139, zw_139, zk_140, zw_140, zk_141, zw_141, zk_142, zw_142, zk_143, zw_143, zk_144, zw_144, zk_145, zw_145, zk_146, zw_146, zk_147, zw_147, zk_148, zw_148, zk_149, zw_149, zk_150, zw_150, zk_151, zw_151, zk_152, zw_152, zq_138_1, zq_138_2, zq_138_3, zq_138_4, zq_138_16, zq_138_19, zq_138_20, zq_138_24, zq_138_25, zq_138_26, zq_138_27, zq_138_31, zq_138_32, zq_138_33, zn_10, zn_40, zn_040, zn_340, nI_add, zin_nI, nI_clamp, nI_ltI, nI_eq, pk_mul, nI_1, Nat.lt_irrefl, u21, w0']
          · simp (disch := omega) only [↓zs_227_56, ↓zs_227_57, ↓zs_227_60, ↓zs_227_61, ↓zs_227_64, ↓zs_227_67, ↓zs_227_68, ↓zs_227_71, ↓zs_227_73, ↓zs_227_76, ↓zs_227_77, ↓zs_227_78, ↓zs_227_81, ↓zs_227_82, ↓zs_227_85, ↓zs_227_88, ↓zs_227_89, ↓zs_227_90, ↓zs_227_93, ↓zs_227_94, ↓zs_227_97, ↓zs_227_100, ↓zs_227_102, zx_pu_s, zx_pu_n, zx_rv_s, zx_rv_n, true_and, and_true, true_or, or_true, zb_0, zb_1, zq_lcl, zq_lcg, zq_lce, eq_self, ite_true, ite_false, zk_138, zw_138, zk_139, zw_139, zk_140, zw_140, zk_141, zw_141, zk_142, zw_142, zk_143, zw_143, zk_144, zw_144, zk_145, zw_145, zk_146, zw_146, zk_147, zw_147, zk_148, zw_148, zk_149, zw_149, zk_150, zw_150, zk_151, zw_151, zk_152, zw_152, zq_138_1, zq_138_2, zq_138_3, zq_138_4, zq_138_16, zq_138_19, zq_138_20, zq_138_24, zq_138_25, zq_138_26, zq_138_27, zq_138_31, zq_138_32, zq_138_33, zq_ne, u21]
            rfl
          · simp (disch := omega) only [↓zs_227_56, ↓zs_227_57, ↓zs_227_60, ↓zs_227_61, ↓zs_227_64, ↓zs_227_67, ↓zs_227_68, ↓zs_227_71, ↓zs_227_73, ↓zs_227_76, ↓zs_227_77, ↓zs_227_78, ↓zs_227_81, ↓zs_227_82, ↓zs_227_85, ↓zs_227_88, ↓zs_227_89, ↓zs_227_90, ↓zs_227_93, ↓zs_227_94, ↓zs_227_97, ↓zs_227_100, ↓zs_227_102, zx_pu_s, zx_pu_n, zx_rv_s, zx_rv_n, true_and, and_true, true_or, or_true, zb_0, zb_1, zq_lcl, zq_lcg, zq_lce, eq_self, ite_true, ite_false, zk_138, zw_138, zk_139, zw_139, zk_140, zw_140, zk_141, zw_141, zk_142, zw_142, zk_143, zw_143, zk_144, zw_144, zk_145, zw_145, zk_146, zw_146, zk_147, zw_147, zk_148, zw_148, zk_149, zw_149, zk_150, zw_150, zk_151, zw_151, zk_152, zw_152, zq_138_1, zq_138_2, zq_138_3, zq_138_4, zq_138_16, zq_138_19, zq_138_20, zq_138_24, zq_138_25, zq_138_26, zq_138_27, zq_138_31, zq_138_32, zq_138_33, zq_ne, u22]
            rfl
          · simp (disch := omega) only [↓zs_227_56, ↓zs_227_57, ↓zs_227_60, ↓zs_227_61, ↓zs_227_64, ↓zs_227_67, ↓zs_227_68, ↓zs_227_71, ↓zs_227_73, ↓zs_227_76, ↓zs_227_77, ↓zs_227_78, ↓zs_227_81, ↓zs_227_82, ↓zs_227_85, ↓zs_227_88, ↓zs_227_89, ↓zs_227_90, ↓zs_227_93, ↓zs_227_94, ↓zs_227_97, ↓zs_227_100, ↓zs_227_102, zx_pu_s, zx_pu_n, zx_rv_s, zx_rv_n, true_and, and_true, true_or, or_true, zb_0, zb_1, zq_lcl, zq_lcg, zq_lce, eq_self, ite_true, ite_false, zk_138, zw_138, zk_139, zw_139, zk_140, zw_140, zk_141, zw_141, zk_142, zw_142, zk_143, zw_143, zk_144, zw_144, zk_145, zw_145, zk_146, zw_146, zk_147, zw_147, zk_148, zw_148, zk_149, zw_149, zk_150, zw_150, zk_151, zw_151, zk_152, zw_152, zq_138_1, zq_138_2, zq_138_3, zq_138_4, zq_138_16, zq_138_19, zq_138_20, zq_138_24, zq_138_25, zq_138_26, zq_138_27, zq_138_31, zq_138_32, zq_138_33, zq_ne]
            rfl
end JU
