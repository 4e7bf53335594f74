/-! images -/
theorem zIm_k (Lh : Nat) {i : Nat} (h : i < 2) : (zx_LL Lh).2.1 80 i = some (110 + 14 * i) ∧ (zx_LL Lh).2.1 81 i = some (120 + 14 * i) ∧ zx_sq (110 + 14 * i) ∧ zx_st (120 + 14 * i) := by
  rcases (show i = 0 ∨ i = 1 by omega) with q | q <;> subst q
  · exact ⟨rfl, rfl, show 110 ∈ zx_sql by decide, show 120 ∈ zx_stl by decide⟩
  · exact ⟨rfl, rfl, show 124 ∈ zx_sql by decide, show 134 ∈ zx_stl by decide⟩
theorem zn_1016 : (10 ≤ 16) = True := eq_true (by decide)
theorem zn_1640 : (16 < 40) = True := eq_true (by decide)
theorem zn_21 : ((2 : Nat) = 1) = False := eq_false (by decide)
theorem zq_bst1 : zx_bst 2 (nI 1) = nI 1 := by decide
section IM
variable {Lh m : Nat} {I : zx_MI} {J : zx_MJ}
theorem sc_isImage {d i : Nat} {P : Option Value → zx_Lay → zx_MI → zx_MJ → Prop} (h : i < 2) : zx_rn d 148 [.ref 0, .int (nI i)] (zx_LL Lh) I J P = P (some (.int (nI 1))) (zx_LL Lh) I J := by
  obtain ⟨k1, k2, k3, k4⟩ := zIm_k Lh h
  have l1 : (110 + 14 * i < 5000) = True := eq_true (by omega)
  have l2 : (120 + 14 * i < 5000) = True := eq_true (by omega)
  rw [ze_148]
  simp (disch := omega) only [↓zs_148_0, ↓zs_148_1, ↓zs_148_4, ↓zs_148_5, ↓zs_148_6, ↓zs_148_9, ↓zs_148_10, ↓zs_148_13, ↓zs_148_14, ↓zs_148_15, ↓zs_148_15N, ↓zs_148_18, ↓zs_148_19, ↓zs_148_22, ↓zs_148_23, ↓zs_148_24, ↓zs_148_24N, ↓zs_148_27, ↓zs_148_28, ↓zs_148_31, ↓zs_148_32, zx_pu_s, zx_pu_n, zx_rv_s, zx_rv_n, true_and, and_true, true_or, or_true, zb_0, zb_1, zq_lcl, zq_lcg, zq_lce, eq_self, ite_true, ite_false, zk_0, zw_0, zq_0_0, zq_0_1, zq_0_2, zq_0_3, zq_0_4, zq_0_5, zq_0_6, zq_0_7, zq_0_8, zq_0_9, zq_0_10, zq_0_11, zk_80, zw_80, zk_81, zw_81, zq_80_0, zq_80_1, zq_81_0, zq_81_1, zn_10, zn_40, zn_040, zn_340, nI_add, zin_nI, nI_clamp, nI_ltI, nI_eq, pk_mul, nI_1, Nat.lt_irrefl, zn_lt0, h, zn_1016, zn_1640, zn_1017, zn_1740, k1, k2, l1, l2]
theorem sc_noImage {d : Nat} {x : Int32} {P : Option Value → zx_Lay → zx_MI → zx_MJ → Prop} (h : zf_in x.toInt 2 = false) : zx_rn d 148 [.ref 0, .int x] (zx_LL Lh) I J P = P (some (.int (nI 0))) (zx_LL Lh) I J := by
  have xl := zq_lt0 x
  have xn := zq_ltn x (n := 2) (by omega)
  rw [ze_148]
  by_cases c : x.toInt < 0
  · simp (disch := omega) only [↓zs_148_0, ↓zs_148_1, ↓zs_148_4, ↓zs_148_5, ↓zs_148_6, ↓zs_148_9, ↓zs_148_10, ↓zs_148_13, ↓zs_148_14, ↓zs_148_15, ↓zs_148_15N, ↓zs_148_18, ↓zs_148_19, ↓zs_148_22, ↓zs_148_23, ↓zs_148_24, ↓zs_148_24N, ↓zs_148_27, ↓zs_148_28, ↓zs_148_31, ↓zs_148_32, zx_pu_s, zx_pu_n, zx_rv_s, zx_rv_n, true_and, and_true, true_or, or_true, zb_0, zb_1, zq_lcl, zq_lcg, zq_lce, eq_self, ite_true, ite_false, xl, c]
  · have c2 : ¬ x.toInt < ((2 : Nat) : Int) := by
      rw [zf_in, Bool.and_eq_false_iff, decide_eq_false_iff_not, decide_eq_false_iff_not] at h
      omega
    simp (disch := omega) only [↓zs_148_0, ↓zs_148_1, ↓zs_148_4, ↓zs_148_5, ↓zs_148_6, ↓zs_148_9, ↓zs_148_10, ↓zs_148_13, ↓zs_148_14, ↓zs_148_15, ↓zs_148_15N, ↓zs_148_18, ↓zs_148_19, ↓zs_148_22, ↓zs_148_23, ↓zs_148_24, ↓zs_148_24N, ↓zs_148_27, ↓zs_148_28, ↓zs_148_31, ↓zs_148_32, zx_pu_s, zx_pu_n, zx_rv_s, zx_rv_n, true_and, and_true, true_or, or_true, zb_0, zb_1, zq_lcl, zq_lcg, zq_lce, eq_self, ite_true, ite_false, xl, c, xn, c2]
theorem sp_bt1 (x : Int32) : ∀ d L I J P, zx_rn d 150 [.long x.toInt64, .long (lN 0), .long (lN 1)] L I J P = P (some (.int (zB (zf_in x.toInt 2)))) L I J := by
  intro d L I J P
  have e : zf_bt 0 1 x.toInt = zf_in x.toInt 2 := by
    rw [zf_bt, zf_in]
    congr 1
    exact decide_eq_decide.mpr (by omega)
  rw [sp_bt x (by omega) (by omega), e]
/-- the row with its first part kept as image i -/
def zf_shot (A : Nat → Int32) (i n : Nat) : Nat → Int32 := fun j => if 1286 * (i + 1) ≤ j ∧ j < 1286 * (i + 1) + n then A (j - 1286 * (i + 1)) else A j
def zf_load (A : Nat → Int32) (i n : Nat) : Nat → Int32 := fun j => if j < n then A (1286 * (i + 1) + j) else A j
theorem d_image (v : zInv I J m) (x : Int32) : zD Lh 146 267 [.int x] I J m := by
  have hb := sp_bt1 x
  cases c : zf_in x.toInt 2 with
  | false =>
    rw [c] at hb
    have h1 := fun d P => sc_noImage (d := d) (Lh := Lh) (I := I) (J := J) (P := P) c
    refine zQ_D (m := m) ⟨.int (-2), I, J, zx_u I 138 0 (nI 0), J, fun d P => ?_, fun d P => ?_, zScr_s (zFs_0 _ _)⟩ v (Nat.le_refl m)
    · rw [ze_146]
      simp (disch := omega) only [↓zs_146_0, ↓zs_146_1, ↓zs_146_2, ↓zs_146_5, ↓zs_146_8, ↓zs_146_10, ↓zs_146_11, ↓zs_146_12, ↓zs_146_15, ↓zs_146_16, ↓zs_146_17, ↓zs_146_18, ↓zs_146_21, ↓zs_146_24, ↓zs_146_25, ↓zs_146_28, ↓zs_146_29, ↓zs_146_30, ↓zs_146_31, ↓zs_146_34, ↓zs_146_37, ↓zs_146_38, ↓zs_146_41, ↓zs_146_42, ↓zs_146_43, ↓zs_146_44, ↓zs_146_45, zx_pu_s, zx_pu_n, zx_rv_s, zx_rv_n, true_and, and_true, true_or, or_true, zb_0, zb_1, zq_lcl, zq_lcg, zq_lce, eq_self, ite_true, ite_false, zk_0, zw_0, zq_0_0, zq_0_1, zq_0_2, zq_0_3, zq_0_4, zq_0_5, zq_0_6, zq_0_7, zq_0_8, zq_0_9, zq_0_10, zq_0_11, h1]
    · rw [ze_267]
      simp (disch := omega) only [↓zs_267_0, ↓zs_267_1, ↓zs_267_2, ↓zs_267_5, ↓zs_267_6, ↓zs_267_7, ↓zs_267_8, ↓zs_267_9, ↓zs_267_12, ↓zs_267_15, ↓zs_267_17, ↓zs_267_18, ↓zs_267_19, zx_pu_s, zx_pu_n, zx_rv_s, zx_rv_n, true_and, and_true, true_or, or_true, zb_0, zb_1, zq_lcl, zq_lcg, zq_lce, eq_self, ite_true, ite_false, zk_138, zw_138, zk_139, zw_139, zk_140, zw_140, zk_141, zw_141, zk_142, zw_142, zk_143, zw_143, zk_144, zw_144, zk_145, zw_145, zk_146, zw_146, zk_147, zw_147, zk_148, zw_148, zk_149, zw_149, zk_150, zw_150, zk_151, zw_151, zk_152, zw_152, zq_138_1, zq_138_2, zq_138_3, zq_138_4, zq_138_16, zq_138_19, zq_138_20, zq_138_24, zq_138_25, zq_138_26, zq_138_27, zq_138_31, zq_138_32, zq_138_33, hb, zB_0]
  | true =>
    rw [c] at hb
    have ex1 := zq_toI (x := x) rfl c (by omega)
    have hi : x.toInt.toNat < 2 := by have := zf_inP.mp c; omega
    generalize x.toInt.toNat = i at ex1 hi
    subst ex1
    obtain ⟨k1, k2, k3, k4⟩ := zIm_k Lh hi
    have h1 := fun d I J P => sc_isImage (d := d) (Lh := Lh) (I := I) (J := J) (P := P) hi
    have c1 : (nI 1 = nI 0) = False := eq_false (by decide)
    obtain ⟨I1, J1, f1, j1, r1, hq⟩ := sc_sqBecome (Lh := Lh) k3 zx_sq1 (by omega) v.2.1 v.2.2.1
    have r11 : zR_st I1 11 (I 139) := zR_st_f v.2.2.2.1 (fun a j h1 h2 => f1 a j (by omega))
    obtain ⟨I2, -, f2, r2, hst⟩ := sc_become (Lh := Lh) (I := I1) (J := J1) k4 zx_st11 (by omega)
    have r2' := r2 _ r11
    obtain ⟨I3, hI3⟩ : ∃ I3, I3 = zx_u I2 82 i (nI 1) := ⟨_, rfl⟩
    obtain ⟨sk0, -⟩ := zS_k (Lh := Lh) k3
    obtain ⟨tk0, -⟩ := zT_k (Lh := Lh) k4
    have row3 : ∀ a, ¬ (110 + 14 * i ≤ a ∧ a ≤ 123 + 14 * i) → a ≠ 82 → I3 a = I a := by
      intro a h1 h2
      rw [hI3, zu_o h2, f2 a (by omega) (by omega) (by omega) (by omega)]
      exact funext fun j => f1 a j (by omega)
    have e139 : I3 139 = I 139 := row3 139 (by omega) (by omega)
    -- the model
    have lm : ∀ mm n, n + mm = 1286 → ∀ d P, zx_wp d 267 20 [.ref 138, .int (nI i), .int (nI n)] [] (zx_LL Lh) (zx_ur (zx_u I3 138 0 (nI 0)) 139 (zf_shot (I 139) i n)) J1 P = P (some (.int (nI 0))) (zx_LL Lh) (zx_u (zx_ur (zx_u I3 138 0 (nI 0)) 139 (zf_shot (I 139) i 1286)) 140 i (nI 1)) J1 := by
      intro mm
      induction mm with
      | zero =>
        intro n hn d P
        obtain rfl : n = 1286 := by omega
        rw [zs_267_20]
        simp (disch := omega) only [↓zs_267_21, ↓zs_267_24, ↓zs_267_27, ↓zs_267_28, ↓zs_267_31, ↓zs_267_34, ↓zs_267_35, ↓zs_267_36, ↓zs_267_37, ↓zs_267_38, ↓zs_267_39, ↓zs_267_40, ↓zs_267_41, ↓zs_267_44, ↓zs_267_45, ↓zs_267_46, ↓zs_267_47, ↓zs_267_50, ↓zs_267_53, ↓zs_267_54, ↓zs_267_57, ↓zs_267_58, ↓zs_267_59, ↓zs_267_60, ↓zs_267_61, zx_pu_s, zx_pu_n, zx_rv_s, zx_rv_n, true_and, and_true, true_or, or_true, zb_0, zb_1, zq_lcl, zq_lcg, zq_lce, eq_self, ite_true, ite_false, zk_138, zw_138, zk_139, zw_139, zk_140, zw_140, zk_141, zw_141, zk_142, zw_142, zk_143, zw_143, zk_144, zw_144, zk_145, zw_145, zk_146, zw_146, zk_147, zw_147, zk_148, zw_148, zk_149, zw_149, zk_150, zw_150, zk_151, zw_151, zk_152, zw_152, zq_138_1, zq_138_2, zq_138_3, zq_138_4, zq_138_16, zq_138_19, zq_138_20, zq_138_24, zq_138_25, zq_138_26, zq_138_27, zq_138_31, zq_138_32, zq_138_33, zn_10, zn_40, zn_040, zn_340, nI_add, zin_nI, nI_clamp, nI_ltI, nI_eq, pk_mul, nI_1, Nat.lt_irrefl, hi, zq_bst1]
      | succ mm ih =>
        intro n hn d P
        have hlt : n < 1286 := by omega
        have hp : 1286 * (i + 1) + n < 3858 := by omega
        have r0 : zf_shot (I 139) i n n = I 139 n := by unfold zf_shot; rw [if_neg (by omega)]
        have es : zu1 (zf_shot (I 139) i n) (1286 * (i + 1) + n) (I 139 n) = zf_shot (I 139) i (n + 1) := by
          funext j
          unfold zf_shot
          by_cases q : j = 1286 * (i + 1) + n
          · rw [q, zu1_s, if_pos (by omega), Nat.add_sub_cancel_left]
          · rw [zu1_n q]
            by_cases c9 : 1286 * (i + 1) ≤ j ∧ j < 1286 * (i + 1) + n
            · rw [if_pos c9, if_pos (show 1286 * (i + 1) ≤ j ∧ j < 1286 * (i + 1) + (n + 1) by omega)]
            · rw [if_neg c9, if_neg (show ¬ (1286 * (i + 1) ≤ j ∧ j < 1286 * (i + 1) + (n + 1)) by omega)]
        rw [← ih (n + 1) (by omega) d P, zs_267_20]
        simp (disch := omega) only [↓zs_267_21, ↓zs_267_24, ↓zs_267_27, ↓zs_267_28, ↓zs_267_31, ↓zs_267_34, ↓zs_267_35, ↓zs_267_36, ↓zs_267_37, ↓zs_267_38, ↓zs_267_39, ↓zs_267_40, ↓zs_267_41, ↓zs_267_44, ↓zs_267_45, ↓zs_267_46, ↓zs_267_47, ↓zs_267_50, zx_pu_s, zx_pu_n, zx_rv_s, zx_rv_n, true_and, and_true, true_or, or_true, zb_0, zb_1, zq_lcl, zq_lcg, zq_lce, eq_self, ite_true, ite_false, zk_138, zw_138, zk_139, zw_139, zk_140, zw_140, zk_141, zw_141, zk_142, zw_142, zk_143, zw_143, zk_144, zw_144, zk_145, zw_145, zk_146, zw_146, zk_147, zw_147, zk_148, zw_148, zk_149, zw_149, zk_150, zw_150, zk_151, zw_151, zk_152, zw_152, zq_138_1, zq_138_2, zq_138_3, zq_138_4, zq_138_16, zq_138_19, zq_138_20, zq_138_24, zq_138_25, zq_138_26, zq_138_27, zq_138_31, zq_138_32, zq_138_33, zn_10, zn_40, zn_040, zn_340, nI_add, zin_nI, nI_clamp, nI_ltI, nI_eq, pk_mul, nI_1, Nat.lt_irrefl, hlt, zr_s, r0, zu_ur, es]
    have e0 : zx_ur (zx_u I3 138 0 (nI 0)) 139 (zf_shot (I 139) i 0) = zx_u I3 138 0 (nI 0) := by
      have : zf_shot (I 139) i 0 = zx_u I3 138 0 (nI 0) 139 := by
        rw [zu_139, e139]
        exact funext fun j => if_neg (by omega)
      rw [this, zr_id]
    have l0 := lm 1286 0 rfl
    rw [e0] at l0
    have exA : zEx (I 139) (zf_shot (I 139) i 1286) := fun j h1 h2 => if_neg (by omega)
    have exI : zEx (I 139) (zf_img (zf_shot (I 139) i 1286) i) := by
      intro j h1 h2
      unfold zf_img zf_shot
      rw [if_pos (by omega), Nat.add_sub_cancel_left]
    have row : ∀ a, ¬ (110 + 14 * i ≤ a ∧ a ≤ 123 + 14 * i) → a ≠ 82 → a ≠ 138 → a ≠ 139 → a ≠ 140 → zx_u (zx_ur (zx_u I3 138 0 (nI 0)) 139 (zf_shot (I 139) i 1286)) 140 i (nI 1) a = I a := by
      intro a h1 h2 h3 h4 h5
      rw [zu_o h5, zr_o h4, zu_o h3, row3 a h1 h2]
    have rowc : ∀ a, a < 138 → zx_u (zx_ur (zx_u I3 138 0 (nI 0)) 139 (zf_shot (I 139) i 1286)) 140 i (nI 1) a = I3 a := by
      intro a h1
      rw [zu_o (by omega), zr_o (by omega), zu_o (by omega)]
    have r139 : zx_u (zx_ur (zx_u I3 138 0 (nI 0)) 139 (zf_shot (I 139) i 1286)) 140 i (nI 1) 139 = zf_shot (I 139) i 1286 := by rw [zu_o (by decide), zr_s]
    have r138 : ∀ j, j ≠ 0 → zx_u (zx_ur (zx_u I3 138 0 (nI 0)) 139 (zf_shot (I 139) i 1286)) 140 i (nI 1) 138 j = I 138 j := by
      intro j hj
      rw [zu_o (by decide), zr_o (by decide), zu_n (by omega), row3 138 (by omega) (by omega)]
    refine ⟨.int (nI 0), I3, J1, zx_u (zx_ur (zx_u I3 138 0 (nI 0)) 139 (zf_shot (I 139) i 1286)) 140 i (nI 1), J1, fun d P => ?_, fun d P => ?_, ?_⟩
    · rw [ze_146, hI3]
      simp (disch := omega) only [↓zs_146_0, ↓zs_146_1, ↓zs_146_2, ↓zs_146_5, ↓zs_146_8, ↓zs_146_10, ↓zs_146_11, ↓zs_146_12, ↓zs_146_15, ↓zs_146_16, ↓zs_146_17, ↓zs_146_18, ↓zs_146_21, ↓zs_146_24, ↓zs_146_25, ↓zs_146_28, ↓zs_146_29, ↓zs_146_30, ↓zs_146_31, ↓zs_146_34, ↓zs_146_37, ↓zs_146_38, ↓zs_146_41, ↓zs_146_42, ↓zs_146_43, ↓zs_146_44, ↓zs_146_45, zx_pu_s, zx_pu_n, zx_rv_s, zx_rv_n, true_and, and_true, true_or, or_true, zb_0, zb_1, zq_lcl, zq_lcg, zq_lce, eq_self, ite_true, ite_false, zk_0, zw_0, zk_1, zw_1, zq_0_0, zq_0_1, zq_0_2, zq_0_3, zq_0_4, zq_0_5, zq_0_6, zq_0_7, zq_0_8, zq_0_9, zq_0_10, zq_0_11, zq_1_0, zq_1_1, zq_1_2, zq_1_3, zq_1_4, zq_1_5, zk_11, zw_11, zq_11_0, zq_11_1, zq_11_2, zk_80, zw_80, zk_81, zw_81, zk_82, zw_82, zq_80_0, zq_80_1, zq_81_0, zq_81_1, zn_10, zn_40, zn_040, zn_340, nI_add, zin_nI, nI_clamp, nI_ltI, nI_eq, pk_mul, nI_1, Nat.lt_irrefl, h1, c1, zn_1016, zn_1640, zn_1017, zn_1740, k1, k2, sk0, tk0, hq, hst, hi, zq_bst1]
    · rw [← l0 (d + 30) P, ze_267]
      simp (disch := omega) only [↓zs_267_0, ↓zs_267_1, ↓zs_267_2, ↓zs_267_5, ↓zs_267_6, ↓zs_267_7, ↓zs_267_8, ↓zs_267_9, ↓zs_267_12, ↓zs_267_15, ↓zs_267_17, ↓zs_267_18, ↓zs_267_19, zx_pu_s, zx_pu_n, zx_rv_s, zx_rv_n, true_and, and_true, true_or, or_true, zb_0, zb_1, zq_lcl, zq_lcg, zq_lce, eq_self, ite_true, ite_false, zk_138, zw_138, zk_139, zw_139, zk_140, zw_140, zk_141, zw_141, zk_142, zw_142, zk_143, zw_143, zk_144, zw_144, zk_145, zw_145, zk_146, zw_146, zk_147, zw_147, zk_148, zw_148, zk_149, zw_149, zk_150, zw_150, zk_151, zw_151, zk_152, zw_152, zq_138_1, zq_138_2, zq_138_3, zq_138_4, zq_138_16, zq_138_19, zq_138_20, zq_138_24, zq_138_25, zq_138_26, zq_138_27, zq_138_31, zq_138_32, zq_138_33, hb, zB_0, reduceCtorEq]
    · obtain ⟨v1, v2, v3, v4, v5, v6, v7, v8, v9, v10⟩ := v
      refine ⟨?_, ?_, ?_, ?_, ?_, ?_, ?_, ?_, ?_, ?_⟩
      · intro a j ha; rw [row a (by omega) (by omega) (by omega) (by omega) (by omega)]; exact v1 a j ha
      · rw [r139]; exact zEx_V exA v2
      · rw [r139]
        exact zEx_sq exA v2 (zR_sq_f v3 (fun a j h1 h2 h3 h4 => by rw [row a (by omega) (by omega) (by omega) (by omega) (by omega)]) (fun j => j1 1 j (by omega)))
      · rw [r139]
        exact zEx_st exA (zR_st_f v4 (fun a j h1 h2 => by rw [row a (by omega) (by omega) (by omega) (by omega) (by omega)]))
      · obtain ⟨e, D, he, hD, p1, p2, p3, p4⟩ := v5
        refine ⟨e, D, he, hD, by rw [row 23 (by omega) (by omega) (by omega) (by omega) (by omega)]; exact p1, by rw [row 23 (by omega) (by omega) (by omega) (by omega) (by omega)]; exact p2, ?_, fun i2 hi2 => ?_⟩
        · rw [r139]; unfold zf_shot; rw [if_neg (by omega)]; exact p3
        · rw [r139]
          have hmi : (e + i2) % 10 < 10 := Nat.mod_lt _ (by omega)
          have exi : zEx (zf_was (I 139) i2) (zf_was (zf_shot (I 139) i 1286) i2) := by
            intro j h1 h2
            unfold zf_was zf_shot
            by_cases q : 109 ≤ j ∧ j < 134
            · rw [if_pos q, if_pos q, if_neg (by omega)]
            · rw [if_neg q, if_neg q, if_neg (by omega)]
          obtain ⟨q1, q2⟩ := p4 i2 hi2
          exact ⟨zEx_st exi (zR_st_f q1 (fun a j h1 h2 => by rw [row a (by omega) (by omega) (by omega) (by omega) (by omega)])), zEx_V exi q2⟩
      · intro i2 hi2
        rw [r139, rowc 82 (by omega)]
        by_cases q : i2 = i
        · subst q
          refine ⟨true, by rw [hI3, zu_s]; rfl, by rw [zu_s]; rfl, fun _ => ⟨?_, ?_, zEx_V exI v2⟩⟩
          · refine zEx_sq exI v2 (zR_sq_f r1 (fun a j h1 h2 h3 h4 => ?_) (fun _ => rfl))
            rw [rowc a (by omega), hI3, zu_o (by omega), f2 a (by omega) (by omega) (by omega) (by omega)]
          · refine zEx_st exI (zR_st_f r2' (fun a j h1 h2 => ?_))
            rw [rowc a (by omega), hI3, zu_o (by omega)]
        · obtain ⟨b, b1, b2, b3⟩ := v6 i2 hi2
          have b82 : I3 82 i2 = I 82 i2 := by
            rw [hI3, zu_n (by omega), f2 82 (by omega) (by omega) (by omega) (by omega), f1 82 i2 (by omega)]
          have b140 : zx_u (zx_ur (zx_u I3 138 0 (nI 0)) 139 (zf_shot (I 139) i 1286)) 140 i (nI 1) 140 i2 = I 140 i2 := by
            rw [zu_n (by omega), zr_o (by decide), zu_o (by decide), row3 140 (by omega) (by omega)]
          have ei : zf_img (zf_shot (I 139) i 1286) i2 = fun j => zf_shot (I 139) i 1286 (1286 * (i2 + 1) + j) := rfl
          have exj : zEx (zf_img (I 139) i2) (zf_img (zf_shot (I 139) i 1286) i2) := by
            intro j h1 h2
            unfold zf_img zf_shot
            rw [if_neg (by omega)]
          rw [b82, b140]
          refine ⟨b, b1, b2, fun hb => ?_⟩
          obtain ⟨c1, c2, c3⟩ := b3 hb
          exact ⟨zEx_sq exj c3 (zR_sq_f c1 (fun a j h1 h2 h3 h4 => by rw [row a (by omega) (by omega) (by omega) (by omega) (by omega)]) (fun j => j1 _ j (by omega))), zEx_st exj (zR_st_f c2 (fun a j h1 h2 => by rw [row a (by omega) (by omega) (by omega) (by omega) (by omega)])), zEx_V exj c3⟩
      · intro t ht
        rw [row 150 (by omega) (by omega) (by omega) (by omega) (by omega), row 151 (by omega) (by omega) (by omega) (by omega) (by omega), row (102 + 2 * t) (by omega) (by omega) (by omega) (by omega) (by omega)]
        rcases v7 t ht with q | ⟨s2, nn2, q1, q2, q3, q4, q5, q6, q7, q8⟩
        · exact .inl q
        · refine .inr ⟨s2, nn2, q1, q2, q3, q4, q5, q6, q7, fun i2 hi2 => ?_⟩
          rw [j1 _ _ (by omega), j1 _ _ (by omega)]
          exact q8 i2 hi2
      · obtain ⟨p, q1, q2, q3, q4⟩ := v8
        refine ⟨p, q1, by rw [row 0 (by omega) (by omega) (by omega) (by omega) (by omega)]; exact q2, by rw [r138 5 (by omega)]; exact q3, fun i hi => ?_⟩
        rw [row 141 (by omega) (by omega) (by omega) (by omega) (by omega), row 85 (by omega) (by omega) (by omega) (by omega) (by omega)]
        exact q4 i hi
      · rw [row 0 (by omega) (by omega) (by omega) (by omega) (by omega), r138 13 (by omega)]; exact v9
      · rw [row 0 (by omega) (by omega) (by omega) (by omega) (by omega), r138 14 (by omega)]; exact v10
end IM
