/-! nights, undo -/
def zf_sum (B : Nat → Int32) : Nat → Nat → Nat → Nat
  | 0, _, a => a
  | mm + 1, n, a => zf_sum B mm (n + 1) (a + zf_cnt (zf_turned (zf_ni B n)).testBit 64 0)
theorem zf_bt_no1 {a b : Nat} {v : Int} (h : zf_bt a b v = false) : v < a ∨ (¬ v < a ∧ (b : Int) < v) := by
  by_cases c : v < a
  · exact .inl c
  · refine .inr ⟨c, ?_⟩
    rw [zf_bt, Bool.and_eq_false_iff, decide_eq_false_iff_not, decide_eq_false_iff_not] at h
    omega
def zf_unK (A : Nat → Int32) (E n : Nat) : Nat → Int32 := fun j => if 109 ≤ j ∧ j < 109 + n then A (135 + 25 * E + (j - 109)) else if j = 134 then nI E else A j
theorem zf_unK_134 (A : Nat → Int32) (E n : Nat) (h : n ≤ 25) : zf_unK A E n 134 = nI E := by
  unfold zf_unK
  rw [if_neg (by omega), if_pos rfl]
section NU
variable {Lh m : Nat} {I : zx_MI} {J : zx_MJ}
theorem zl_bcT {B : Nat → Int32} {d : Nat} {L : zx_Lay} {P : Option Value → zx_Lay → zx_MI → zx_MJ → Prop} (N8 : zn B ≤ 8) : zx_rn d 274 [.int (nI (zf_turned B))] L I J P = P (some (.int (nI (zf_cnt (zf_turned B).testBit 64 0)))) L I J := by
  have tl : zf_turned B < 256 := zf_bs_lt (n := 8) _ (by omega) (by decide)
  have e64 : zf_cnt (zf_turned B).testBit 64 0 = zf_cnt (zf_turned B).testBit 8 0 := by
    rw [show 64 = 8 + 56 from rfl, zf_cnt_add, zf_cnt_0 _ 56 _ (fun j h1 h2 => Nat.testBit_lt_two_pow (Nat.lt_of_lt_of_le tl (Nat.pow_le_pow_right (n := 2) (by decide) (show 8 ≤ j by omega))))]
    rfl
  rw [zl_bitCountI tl, e64]
theorem d_nights (v : zInv I J m) (hm : m < 2 ^ 29) (x : Int32) : zD Lh 110 216 [.int x] I J (m + 99) := by
  obtain ⟨⟨hw, hh, hN⟩, gr, g, ex, ok, N8, wh⟩ := zInv_k v
  obtain ⟨e, D, he, hD, p1, p2, p3, p4⟩ := v.2.2.2.2.1
  have hbt := fun d L I J P => sp_bt (d := d) (L := L) (I := I) (J := J) (P := P) x (a := 1) (b := 99) (by omega) (by omega)
  cases c : zf_bt 1 99 x.toInt with
  | false =>
    rw [c] at hbt
    have xl := zq_ltn x (n := 1) (by omega)
    have xg := zq_gt x (n := 99) (by omega)
    refine zQ_D (m := m) ⟨.int (-3), I, J, zx_u I 138 0 (nI 0), J, fun d P => ?_, fun d P => ?_, zScr_s (zFs_0 _ _)⟩ v (by omega)
    · rw [ze_110]
      rcases zf_bt_no1 c with q | ⟨q1, q2⟩
      · simp (disch := omega) only [↓zs_110_0, ↓zs_110_1, ↓zs_110_2, ↓zs_110_5, ↓zs_110_6, ↓zs_110_8, ↓zs_110_11, ↓zs_110_13, ↓zs_110_14, ↓zs_110_15, ↓zs_110_18, ↓zs_110_19, ↓zs_110_22, ↓zs_110_25, ↓zs_110_26, ↓zs_110_27, ↓zs_110_28, zx_pu_s, zx_pu_n, zx_rv_s, zx_rv_n, true_and, and_true, true_or, or_true, zb_0, zb_1, zq_lcl, zq_lcg, zq_lce, eq_self, ite_true, ite_false, xl, q]
      · simp (disch := omega) only [↓zs_110_0, ↓zs_110_1, ↓zs_110_2, ↓zs_110_5, ↓zs_110_6, ↓zs_110_8, ↓zs_110_11, ↓zs_110_13, ↓zs_110_14, ↓zs_110_15, ↓zs_110_18, ↓zs_110_19, ↓zs_110_22, ↓zs_110_25, ↓zs_110_26, ↓zs_110_27, ↓zs_110_28, zx_pu_s, zx_pu_n, zx_rv_s, zx_rv_n, true_and, and_true, true_or, or_true, zb_0, zb_1, zq_lcl, zq_lcg, zq_lce, eq_self, ite_true, ite_false, xl, xg, q1, q2]
    · rw [ze_216]
      simp (disch := omega) only [↓zs_216_0, ↓zs_216_1, ↓zs_216_2, ↓zs_216_5, ↓zs_216_6, ↓zs_216_7, ↓zs_216_8, ↓zs_216_11, ↓zs_216_14, ↓zs_216_17, ↓zs_216_19, ↓zs_216_20, ↓zs_216_21, ↓zs_216_24, ↓zs_216_25, ↓zs_216_26, ↓zs_216_27, zx_pu_s, zx_pu_n, zx_rv_s, zx_rv_n, true_and, and_true, true_or, or_true, zb_0, zb_1, zq_lcl, zq_lcg, zq_lce, eq_self, ite_true, ite_false, zk_138, zw_138, zk_139, zw_139, zk_140, zw_140, zk_141, zw_141, zk_142, zw_142, zk_143, zw_143, zk_144, zw_144, zk_145, zw_145, zk_146, zw_146, zk_147, zw_147, zk_148, zw_148, zk_149, zw_149, zk_150, zw_150, zk_151, zw_151, zk_152, zw_152, zq_138_1, zq_138_2, zq_138_3, zq_138_4, zq_138_16, zq_138_19, zq_138_20, zq_138_24, zq_138_25, zq_138_26, zq_138_27, zq_138_31, zq_138_32, zq_138_33, hbt, zB_0]
  | true =>
    rw [c] at hbt
    obtain ⟨k, hk1, hk, rfl⟩ := zf_bt_nI c (by omega)
    have a1 : ¬ k < 1 := by omega
    have a2 : ¬ 99 < k := by omega
    obtain ⟨Ik, k1, k2, k3, k4, hkp⟩ := sc_keep (Lh := Lh) (I := I) (J := J) zx_st11 (by decide) he hD p1 p2
    have hm9 : (e + D) % 10 < 10 := Nat.mod_lt _ (by omega)
    have r11 : zR_st Ik 11 (I 139) := zR_st_f v.2.2.2.1 (fun a j h1 h2 => k1 a j (by omega))
    have sqk : zR_sq Ik J 1 (I 139) := zR_sq_f v.2.2.1 (fun a j h1 h2 h3 h4 => k1 a j (by omega)) (fun _ => rfl)
    have lc : ∀ mm n a I2, n + mm = k → zFc 11 Ik I2 → zR_st I2 11 (zf_ni (I 139) n) → ∃ I3, zFc 11 Ik I3 ∧ zR_st I3 11 (zf_ni (I 139) k) ∧ ∀ d P, zx_wp (d + 30) 110 29 [.ref 0, .int (nI k), .int (nI a), .int (nI n)] [] (zx_LL Lh) I2 J P = P (some (.int (nI (zf_sum (I 139) mm n a)))) (zx_LL Lh) I3 J := by
      intro mm
      induction mm with
      | zero =>
        intro n a I2 hn f r
        obtain rfl : n = k := by omega
        refine ⟨I2, f, r, fun d P => ?_⟩
        rw [zs_110_29]
        simp (disch := omega) only [↓zs_110_0, ↓zs_110_1, ↓zs_110_2, ↓zs_110_5, ↓zs_110_6, ↓zs_110_8, ↓zs_110_11, ↓zs_110_13, ↓zs_110_14, ↓zs_110_15, ↓zs_110_18, ↓zs_110_19, ↓zs_110_22, ↓zs_110_25, ↓zs_110_26, ↓zs_110_27, ↓zs_110_28, ↓zs_110_30, ↓zs_110_31, ↓zs_110_34, ↓zs_110_35, ↓zs_110_36, ↓zs_110_39, ↓zs_110_40, ↓zs_110_43, ↓zs_110_46, ↓zs_110_49, ↓zs_110_50, ↓zs_110_51, ↓zs_110_54, ↓zs_110_57, ↓zs_110_58, zx_pu_s, zx_pu_n, zx_rv_s, zx_rv_n, true_and, and_true, true_or, or_true, zb_0, zb_1, zq_lcl, zq_lcg, zq_lce, eq_self, ite_true, ite_false, zk_0, zw_0, zk_1, zw_1, zq_0_0, zq_0_1, zq_0_2, zq_0_3, zq_0_4, zq_0_5, zq_0_6, zq_0_7, zq_0_8, zq_0_9, zq_0_10, zq_0_11, zq_1_0, zq_1_1, zq_1_2, zq_1_3, zq_1_4, zq_1_5, zn_10, zn_40, zn_040, zn_340, nI_add, zin_nI, nI_clamp, nI_ltI, nI_eq, pk_mul, nI_1, Nat.lt_irrefl]
        rfl
      | succ mm ih =>
        intro n a I2 hn f r
        have hlt : n < k := by omega
        obtain ⟨I3, f3, r3, h3⟩ := sc_nightN (Lh := Lh) (n := n) zx_st11 v.2.1 (by omega) sqk f r
        obtain ⟨I4, f4, r4, h4⟩ := ih (n + 1) (a + zf_cnt (zf_turned (zf_ni (I 139) n)).testBit 64 0) I3 (by omega) f3 r3
        have N8n : zn (zf_ni (I 139) n) ≤ 8 := by
          obtain ⟨v1, -⟩ := zf_ni_V v.2.1 n (by omega)
          exact v1.1.1.2.2.2.2.2
        have hbc := fun d P => zl_bcT (I := I3) (J := J) (d := d) (L := zx_LL Lh) (P := P) N8n
        refine ⟨I4, f4, r4, fun d P => ?_⟩
        rw [zf_sum, ← h4 d P, zs_110_29]
        simp (disch := omega) only [↓zs_110_0, ↓zs_110_1, ↓zs_110_2, ↓zs_110_5, ↓zs_110_6, ↓zs_110_8, ↓zs_110_11, ↓zs_110_13, ↓zs_110_14, ↓zs_110_15, ↓zs_110_18, ↓zs_110_19, ↓zs_110_22, ↓zs_110_25, ↓zs_110_26, ↓zs_110_27, ↓zs_110_28, ↓zs_110_30, ↓zs_110_31, ↓zs_110_34, ↓zs_110_35, ↓zs_110_36, ↓zs_110_39, ↓zs_110_40, ↓zs_110_43, ↓zs_110_46, ↓zs_110_49, ↓zs_110_50, ↓zs_110_51, ↓zs_110_54, ↓zs_110_57, ↓zs_110_58, zx_pu_s, zx_pu_n, zx_rv_s, zx_rv_n, true_and, and_true, true_or, or_true, zb_0, zb_1, zq_lcl, zq_lcg, zq_lce, eq_self, ite_true, ite_false, zk_0, zw_0, zk_1, zw_1, zq_0_0, zq_0_1, zq_0_2, zq_0_3, zq_0_4, zq_0_5, zq_0_6, zq_0_7, zq_0_8, zq_0_9, zq_0_10, zq_0_11, zq_1_0, zq_1_1, zq_1_2, zq_1_3, zq_1_4, zq_1_5, zk_11, zw_11, zq_11_0, zq_11_1, zq_11_2, zn_10, zn_40, zn_040, zn_340, nI_add, zin_nI, nI_clamp, nI_ltI, nI_eq, pk_mul, nI_1, Nat.lt_irrefl, hlt, h3, hbc]
    obtain ⟨Ic, fc, rc, hc⟩ := lc k 0 0 Ik (by omega) (zFc_r _ _) r11
    have eA : Ic 139 = I 139 := by
      funext j
      rw [fc 139 j (by omega), k1 139 j (by omega)]
    have ko : zKo I Ic (zf_ni (I 139) k) e D := by
      refine ⟨fun a j n => ?_, ?_, ?_, ?_, rc⟩
      · unfold zSc at n
        rw [fc a j (by omega), k1 a j (by omega)]
      · rw [fc 23 1 (by omega)]; exact k3
      · rw [fc 23 2 (by omega)]; exact k4
      · exact zR_st_f (k2 _ v.2.2.2.1) (fun a j h1 h2 => fc a j (by omega))
    -- the model
    obtain ⟨I1, f1, g1, h1⟩ := sp_keeps (Lh := Lh) (I := zx_u Ic 138 0 (nI 0)) (J := J)
    have e1 : I1 139 = I 139 := by rw [f1 139 (by decide), zu_139, eA]
    have lm : ∀ mm n a I2, n + mm = k → zFm I1 I2 → I2 139 = zf_ni (I 139) n → ∃ I3, zFm I1 I3 ∧ I3 139 = zf_ni (I 139) k ∧ ∀ d P, zx_wp (d + 30) 216 28 [.ref 138, .int (nI k), .int (nI a), .int (nI n)] [] (zx_LL Lh) I2 J P = zx_wp (d + 30) 216 46 [.ref 138, .int (nI k), .int (nI (zf_sum (I 139) mm n a)), .int (nI k)] [] (zx_LL Lh) I3 J P := by
      intro mm
      induction mm with
      | zero =>
        intro n a I2 hn f r
        obtain rfl : n = k := by omega
        refine ⟨I2, f, r, fun d P => ?_⟩
        rw [zs_216_28, zf_sum]
        simp (disch := omega) only [↓zs_216_29, ↓zs_216_30, ↓zs_216_33, ↓zs_216_34, ↓zs_216_35, ↓zs_216_38, ↓zs_216_39, ↓zs_216_40, ↓zs_216_43, zx_pu_s, zx_pu_n, zx_rv_s, zx_rv_n, true_and, and_true, true_or, or_true, zb_0, zb_1, zq_lcl, zq_lcg, zq_lce, eq_self, ite_true, ite_false, zk_138, zw_138, zk_139, zw_139, zk_140, zw_140, zk_141, zw_141, zk_142, zw_142, zk_143, zw_143, zk_144, zw_144, zk_145, zw_145, zk_146, zw_146, zk_147, zw_147, zk_148, zw_148, zk_149, zw_149, zk_150, zw_150, zk_151, zw_151, zk_152, zw_152, zq_138_1, zq_138_2, zq_138_3, zq_138_4, zq_138_16, zq_138_19, zq_138_20, zq_138_24, zq_138_25, zq_138_26, zq_138_27, zq_138_31, zq_138_32, zq_138_33, zn_10, zn_40, zn_040, zn_340, nI_add, zin_nI, nI_clamp, nI_ltI, nI_eq, pk_mul, nI_1, Nat.lt_irrefl]
      | succ mm ih =>
        intro n a I2 hn f r
        have hlt : n < k := by omega
        obtain ⟨I3, f3, r3, -, -, h3⟩ := sp_nightN (Lh := Lh) (J := J) (n := n) v.2.1 (by omega) f r
        obtain ⟨I4, f4, r4, h4⟩ := ih (n + 1) (a + zf_cnt (zf_turned (zf_ni (I 139) n)).testBit 64 0) I3 (by omega) f3 r3
        refine ⟨I4, f4, r4, fun d P => ?_⟩
        rw [zf_sum, ← h4 d P, zs_216_28]
        simp (disch := omega) only [↓zs_216_29, ↓zs_216_30, ↓zs_216_33, ↓zs_216_34, ↓zs_216_35, ↓zs_216_38, ↓zs_216_39, ↓zs_216_40, ↓zs_216_43, zx_pu_s, zx_pu_n, zx_rv_s, zx_rv_n, true_and, and_true, true_or, or_true, zb_0, zb_1, zq_lcl, zq_lcg, zq_lce, eq_self, ite_true, ite_false, zk_138, zw_138, zk_139, zw_139, zk_140, zw_140, zk_141, zw_141, zk_142, zw_142, zk_143, zw_143, zk_144, zw_144, zk_145, zw_145, zk_146, zw_146, zk_147, zw_147, zk_148, zw_148, zk_149, zw_149, zk_150, zw_150, zk_151, zw_151, zk_152, zw_152, zq_138_1, zq_138_2, zq_138_3, zq_138_4, zq_138_16, zq_138_19, zq_138_20, zq_138_24, zq_138_25, zq_138_26, zq_138_27, zq_138_31, zq_138_32, zq_138_33, zn_10, zn_40, zn_040, zn_340, nI_add, zin_nI, nI_clamp, nI_ltI, nI_eq, pk_mul, nI_1, Nat.lt_irrefl, hlt, h3]
    obtain ⟨I3, f3, r3, h3⟩ := lm k 0 0 I1 (by omega) (zFm_r I1) e1
    obtain ⟨vk, sk⟩ := zf_ni_V v.2.1 k (by omega)
    have e144 : I3 144 = I1 144 := zFm_row f3 (by decide) (by decide) (by decide)
    have hnote := fun d P => sp_notes (Lh := Lh) (I := I3) (J := J) (D := D) hD (by rw [r3, sk 134 (by omega)]; exact p3) (d := d) (P := P)
    have o : zMo Ic (zx_ur I3 139 (zf_note (I3 139) (I3 144) D)) (zf_ni (I 139) k) (I 139) D := by
      refine ⟨fun a j q => ?_, I1 144, fun j hj => ?_, by rw [zr_s, r3, e144]⟩
      · unfold zSc at q
        rw [zr_o (fun e => q (.inl e)), f3 a j (by omega), f1 a (by omega), zu_n (by omega)]
      · rw [g1 j hj, zu_139, eA]
    have fin := zKM v (m2 := m + 99) (by omega) sk (zV_mono vk (by omega)) he hD p1 p2 p3 p4 ko o
    refine ⟨.int (nI (zf_sum (I 139) k 0 0)), Ic, J, _, J, fun d P => ?_, fun d P => ?_, fin⟩
    · rw [ze_110]
      simp (disch := omega) only [↓zs_110_0, ↓zs_110_1, ↓zs_110_2, ↓zs_110_5, ↓zs_110_6, ↓zs_110_8, ↓zs_110_11, ↓zs_110_13, ↓zs_110_14, ↓zs_110_15, ↓zs_110_18, ↓zs_110_19, ↓zs_110_22, ↓zs_110_25, ↓zs_110_26, ↓zs_110_27, ↓zs_110_28, zx_pu_s, zx_pu_n, zx_rv_s, zx_rv_n, true_and, and_true, true_or, or_true, zb_0, zb_1, zq_lcl, zq_lcg, zq_lce, eq_self, ite_true, ite_false, zk_0, zw_0, zk_1, zw_1, zq_0_0, zq_0_1, zq_0_2, zq_0_3, zq_0_4, zq_0_5, zq_0_6, zq_0_7, zq_0_8, zq_0_9, zq_0_10, zq_0_11, zq_1_0, zq_1_1, zq_1_2, zq_1_3, zq_1_4, zq_1_5, zk_11, zw_11, zq_11_0, zq_11_1, zq_11_2, zk_23, zw_23, zq_23_0, zn_10, zn_40, zn_040, zn_340, nI_add, zin_nI, nI_clamp, nI_ltI, nI_eq, pk_mul, nI_1, Nat.lt_irrefl, a1, a2, hkp]
      exact hc d P
    · rw [ze_216]
      simp (disch := omega) only [↓zs_216_0, ↓zs_216_1, ↓zs_216_2, ↓zs_216_5, ↓zs_216_6, ↓zs_216_7, ↓zs_216_8, ↓zs_216_11, ↓zs_216_14, ↓zs_216_17, ↓zs_216_19, ↓zs_216_20, ↓zs_216_21, ↓zs_216_24, ↓zs_216_25, ↓zs_216_26, ↓zs_216_27, zx_pu_s, zx_pu_n, zx_rv_s, zx_rv_n, true_and, and_true, true_or, or_true, zb_0, zb_1, zq_lcl, zq_lcg, zq_lce, eq_self, ite_true, ite_false, zk_138, zw_138, zk_139, zw_139, zk_140, zw_140, zk_141, zw_141, zk_142, zw_142, zk_143, zw_143, zk_144, zw_144, zk_145, zw_145, zk_146, zw_146, zk_147, zw_147, zk_148, zw_148, zk_149, zw_149, zk_150, zw_150, zk_151, zw_151, zk_152, zw_152, zq_138_1, zq_138_2, zq_138_3, zq_138_4, zq_138_16, zq_138_19, zq_138_20, zq_138_24, zq_138_25, zq_138_26, zq_138_27, zq_138_31, zq_138_32, zq_138_33, hbt, zB_0, reduceCtorEq, h1]
      rw [h3]
      simp (disch := omega) only [↓zs_216_46, ↓zs_216_47, ↓zs_216_50, ↓zs_216_51, zx_pu_s, zx_pu_n, zx_rv_s, zx_rv_n, true_and, and_true, true_or, or_true, zb_0, zb_1, zq_lcl, zq_lcg, zq_lce, eq_self, ite_true, ite_false, zk_138, zw_138, zk_139, zw_139, zk_140, zw_140, zk_141, zw_141, zk_142, zw_142, zk_143, zw_143, zk_144, zw_144, zk_145, zw_145, zk_146, zw_146, zk_147, zw_147, zk_148, zw_148, zk_149, zw_149, zk_150, zw_150, zk_151, zw_151, zk_152, zw_152, zq_138_1, zq_138_2, zq_138_3, zq_138_4, zq_138_16, zq_138_19, zq_138_20, zq_138_24, zq_138_25, zq_138_26, zq_138_27, zq_138_31, zq_138_32, zq_138_33, hnote]
/-- the row when all behind call D is undone -/
def zf_undo (A : Nat → Int32) (D : Nat) : Nat → Int32 := fun j => if 109 ≤ j ∧ j < 134 then A (135 + 25 * D + (j - 109)) else if j = 134 then nI D else A j
theorem d_undo (v : zInv I J m) (x : Int32) : zD Lh 115 224 [.int x] I J m := by
  obtain ⟨e, D, he, hD, p1, p2, p3, p4⟩ := v.2.2.2.2.1
  have hbt := fun d L I J P => sp_bt (d := d) (L := L) (I := I) (J := J) (P := P) x (a := 1) (b := 10) (by omega) (by omega)
  have xl := zq_ltn x (n := 1) (by omega)
  have xg := zq_gt x (n := D) (by omega)
  cases c : zf_bt 1 D x.toInt with
  | false =>
    refine zQ_D (m := m) ⟨.int (-3), I, J, zx_u I 138 0 (nI 0), J, fun d P => ?_, fun d P => ?_, zScr_s (zFs_0 _ _)⟩ v (Nat.le_refl m)
    · rw [ze_115]
      rcases zf_bt_no1 c with q | ⟨q1, q2⟩
      · simp (disch := omega) only [↓zs_115_0, ↓zs_115_1, ↓zs_115_2, ↓zs_115_5, ↓zs_115_6, ↓zs_115_7, ↓zs_115_10, ↓zs_115_13, ↓zs_115_16, ↓zs_115_18, ↓zs_115_19, ↓zs_115_20, ↓zs_115_23, ↓zs_115_24, ↓zs_115_25, ↓zs_115_28, ↓zs_115_31, ↓zs_115_32, ↓zs_115_35, ↓zs_115_38, zx_pu_s, zx_pu_n, zx_rv_s, zx_rv_n, true_and, and_true, true_or, or_true, zb_0, zb_1, zq_lcl, zq_lcg, zq_lce, eq_self, ite_true, ite_false, zk_0, zw_0, zk_1, zw_1, zq_0_0, zq_0_1, zq_0_2, zq_0_3, zq_0_4, zq_0_5, zq_0_6, zq_0_7, zq_0_8, zq_0_9, zq_0_10, zq_0_11, zq_1_0, zq_1_1, zq_1_2, zq_1_3, zq_1_4, zq_1_5, zk_23, zw_23, zq_23_0, p2, xl, q]
      · simp (disch := omega) only [↓zs_115_0, ↓zs_115_1, ↓zs_115_2, ↓zs_115_5, ↓zs_115_6, ↓zs_115_7, ↓zs_115_10, ↓zs_115_13, ↓zs_115_16, ↓zs_115_18, ↓zs_115_19, ↓zs_115_20, ↓zs_115_23, ↓zs_115_24, ↓zs_115_25, ↓zs_115_28, ↓zs_115_31, ↓zs_115_32, ↓zs_115_35, ↓zs_115_38, zx_pu_s, zx_pu_n, zx_rv_s, zx_rv_n, true_and, and_true, true_or, or_true, zb_0, zb_1, zq_lcl, zq_lcg, zq_lce, eq_self, ite_true, ite_false, zk_0, zw_0, zk_1, zw_1, zq_0_0, zq_0_1, zq_0_2, zq_0_3, zq_0_4, zq_0_5, zq_0_6, zq_0_7, zq_0_8, zq_0_9, zq_0_10, zq_0_11, zq_1_0, zq_1_1, zq_1_2, zq_1_3, zq_1_4, zq_1_5, zk_23, zw_23, zq_23_0, p2, xl, xg, q1, q2]
    · rw [ze_224]
      rcases zf_bt_no1 c with q | ⟨q1, q2⟩
      · have c2 : zf_bt 1 10 x.toInt = false := by
          rw [zf_bt, decide_eq_false (by omega)]; rfl
        simp (disch := omega) only [↓zs_224_0, ↓zs_224_1, ↓zs_224_2, ↓zs_224_5, ↓zs_224_6, ↓zs_224_7, ↓zs_224_8, ↓zs_224_11, ↓zs_224_14, ↓zs_224_17, ↓zs_224_18, ↓zs_224_19, ↓zs_224_22, ↓zs_224_25, ↓zs_224_26, ↓zs_224_29, ↓zs_224_31, ↓zs_224_32, ↓zs_224_33, ↓zs_224_36, ↓zs_224_39, ↓zs_224_40, ↓zs_224_41, ↓zs_224_42, ↓zs_224_43, ↓zs_224_44, ↓zs_224_45, zx_pu_s, zx_pu_n, zx_rv_s, zx_rv_n, true_and, and_true, true_or, or_true, zb_0, zb_1, zq_lcl, zq_lcg, zq_lce, eq_self, ite_true, ite_false, zk_138, zw_138, zk_139, zw_139, zk_140, zw_140, zk_141, zw_141, zk_142, zw_142, zk_143, zw_143, zk_144, zw_144, zk_145, zw_145, zk_146, zw_146, zk_147, zw_147, zk_148, zw_148, zk_149, zw_149, zk_150, zw_150, zk_151, zw_151, zk_152, zw_152, zq_138_1, zq_138_2, zq_138_3, zq_138_4, zq_138_16, zq_138_19, zq_138_20, zq_138_24, zq_138_25, zq_138_26, zq_138_27, zq_138_31, zq_138_32, zq_138_33, hbt, c2, zB_0]
      · cases c2 : zf_bt 1 10 x.toInt <;> simp (disch := omega) only [↓zs_224_0, ↓zs_224_1, ↓zs_224_2, ↓zs_224_5, ↓zs_224_6, ↓zs_224_7, ↓zs_224_8, ↓zs_224_11, ↓zs_224_14, ↓zs_224_17, ↓zs_224_18, ↓zs_224_19, ↓zs_224_22, ↓zs_224_25, ↓zs_224_26, ↓zs_224_29, ↓zs_224_31, ↓zs_224_32, ↓zs_224_33, ↓zs_224_36, ↓zs_224_39, ↓zs_224_40, ↓zs_224_41, ↓zs_224_42, ↓zs_224_43, ↓zs_224_44, ↓zs_224_45, zx_pu_s, zx_pu_n, zx_rv_s, zx_rv_n, true_and, and_true, true_or, or_true, zb_0, zb_1, zq_lcl, zq_lcg, zq_lce, eq_self, ite_true, ite_false, zk_138, zw_138, zk_139, zw_139, zk_140, zw_140, zk_141, zw_141, zk_142, zw_142, zk_143, zw_143, zk_144, zw_144, zk_145, zw_145, zk_146, zw_146, zk_147, zw_147, zk_148, zw_148, zk_149, zw_149, zk_150, zw_150, zk_151, zw_151, zk_152, zw_152, zq_138_1, zq_138_2, zq_138_3, zq_138_4, zq_138_16, zq_138_19, zq_138_20, zq_138_24, zq_138_25, zq_138_26, zq_138_27, zq_138_31, zq_138_32, zq_138_33, zin_nI, nI_clamp, hbt, c2, zB_0, reduceCtorEq, zu_139, p3, xg, q2]
  | true =>
    obtain ⟨k, hk1, hk, rfl⟩ := zf_bt_nI c (by omega)
    have a1 : ¬ k < 1 := by omega
    have a2 : ¬ D < k := by omega
    have hE : D - k < D := by omega
    have c2 : zf_bt 1 10 (nI k).toInt = true := by
      rw [zf_bt, nI_toInt (by omega), decide_eq_true (by omega), decide_eq_true (by omega)]; rfl
    rw [c2] at hbt
    obtain ⟨E, hEd⟩ : ∃ E, E = D - k := ⟨_, rfl⟩
    have eE : nI D - nI k = nI E := by rw [pk_sub (by omega), hEd]
    rw [← hEd] at hE
    have hm9 : (e + E) % 10 < 10 := Nat.mod_lt _ (by omega)
    have hT := zx_stP hm9
    have hat := zq_24 Lh hm9
    obtain ⟨k0, -, -, -⟩ := zT_k (Lh := Lh) hT
    obtain ⟨I1, f1, f1', r1, hb⟩ := sc_become (Lh := Lh) (I := zx_u I 23 2 (nI E)) (J := J) zx_st11 hT (by omega)
    have c5 : (25 + 4 * ((e + E) % 10) < 5000) = True := eq_true (by omega)
    have e10 : Int32.ofNat 10 = nI 10 := rfl
    have u1 : ∀ y, zx_u I 23 2 y 23 1 = nI e := fun y => (zu_n (by decide)).trans p1
    have u2 : ∀ y, zx_u I 23 2 y 23 2 = y := fun y => zu_s _ _ _ _
    have i2 : I1 23 2 = nI E := by rw [f1' 23 (by decide) (by decide) (by decide) (by decide)]; exact zu_s _ _ _ _
    have i1 : I1 23 1 = nI e := by rw [f1' 23 (by decide) (by decide) (by decide) (by decide)]; exact u1 _
    have bring : ∀ d P, zx_rn (d + 1) 27 [.ref 23, .int (nI k), .ref 11] (zx_LL Lh) I J P = P none (zx_LL Lh) I1 J := by
      intro d P
      rw [ze_27]
      simp (disch := omega) only [↓zs_27_0, ↓zs_27_1, ↓zs_27_2, ↓zs_27_5, ↓zs_27_6, ↓zs_27_7, ↓zs_27_10, ↓zs_27_13, ↓zs_27_14, ↓zs_27_15, ↓zs_27_16, ↓zs_27_19, ↓zs_27_20, ↓zs_27_21, zx_pu_s, zx_pu_n, zx_rv_s, zx_rv_n, true_and, and_true, true_or, or_true, zb_0, zb_1, zq_lcl, zq_lcg, zq_lce, eq_self, ite_true, ite_false, zk_23, zw_23, zk_24, zw_24, zq_23_0, zq_24_0, zq_24_1, zq_24_2, zq_24_3, zq_24_4, zq_24_5, zq_24_6, zq_24_7, zq_24_8, zq_24_9, zn_10, zn_40, zn_040, zn_340, nI_add, zin_nI, nI_clamp, nI_ltI, nI_eq, pk_mul, nI_1, Nat.lt_irrefl, p2, a1, a2, eE]
      simp (disch := omega) only [↓zs_27_24, ↓zs_27_25, ↓zs_27_28, ↓zs_27_29, ↓zs_27_32, ↓zs_27_33, ↓zs_27_35, ↓zs_27_36, ↓zs_27_37, ↓zs_27_38, ↓zs_27_41, ↓zs_27_42, ↓zs_27_43, ↓zs_27_46, ↓zs_27_47, ↓zs_27_50, ↓zs_27_51, ↓zs_27_54, ↓zs_27_55, ↓zs_27_56, ↓zs_27_56N, ↓zs_27_59, ↓zs_27_60, ↓zs_27_61, ↓zs_27_64, ↓zs_27_65, ↓zs_27_66, ↓zs_27_69, zx_pu_s, zx_pu_n, zx_rv_s, zx_rv_n, true_and, and_true, true_or, or_true, zb_0, zb_1, zq_lcl, zq_lcg, zq_lce, eq_self, ite_true, ite_false, zk_23, zw_23, zk_24, zw_24, zq_23_0, zq_24_0, zq_24_1, zq_24_2, zq_24_3, zq_24_4, zq_24_5, zq_24_6, zq_24_7, zq_24_8, zq_24_9, zk_11, zw_11, zq_11_0, zq_11_1, zq_11_2, zn_10, zn_40, zn_040, zn_340, nI_add, zin_nI, nI_clamp, nI_ltI, nI_eq, pk_mul, nI_1, Nat.lt_irrefl, u1, u2, zq_10, not_false_eq_true, pk_div, zq_rem, zn_lt0, hm9, e10, zn_1017, zn_1740, hat, c5, k0, hb]
    have eA : I1 139 = I 139 := by rw [f1' 139 (by decide) (by decide) (by decide) (by decide), zu_o (by decide)]
    -- the model
    have hd : I 139 134 = nI D := p3
    have e134 : zu1 (I 139) 134 (nI E) 134 = nI E := zu1_s _ _ _
    have lm : ∀ mm n, n + mm = 25 → ∀ d P, zx_wp d 224 46 [.ref 138, .int (nI k), .int (nI n)] [] (zx_LL Lh) (zx_ur (zx_u I1 138 0 (nI 0)) 139 (zf_unK (I 139) E n)) J P = P (some (.int (nI E))) (zx_LL Lh) (zx_ur (zx_u I1 138 0 (nI 0)) 139 (zf_undo (I 139) E)) J := by
      intro mm
      induction mm with
      | zero =>
        intro n hn d P
        obtain rfl : n = 25 := by omega
        have r1 : zf_unK (I 139) E 25 134 = nI E := zf_unK_134 _ _ _ (by omega)
        rw [zs_224_46]
        simp (disch := omega) only [↓zs_224_47, ↓zs_224_49, ↓zs_224_52, ↓zs_224_53, ↓zs_224_56, ↓zs_224_58, ↓zs_224_59, ↓zs_224_60, ↓zs_224_61, ↓zs_224_64, ↓zs_224_67, ↓zs_224_69, ↓zs_224_70, ↓zs_224_73, ↓zs_224_76, ↓zs_224_77, ↓zs_224_78, ↓zs_224_79, ↓zs_224_80, ↓zs_224_81, ↓zs_224_82, ↓zs_224_83, ↓zs_224_86, ↓zs_224_89, ↓zs_224_90, ↓zs_224_93, ↓zs_224_96, ↓zs_224_97, zx_pu_s, zx_pu_n, zx_rv_s, zx_rv_n, true_and, and_true, true_or, or_true, zb_0, zb_1, zq_lcl, zq_lcg, zq_lce, eq_self, ite_true, ite_false, zk_138, zw_138, zk_139, zw_139, zk_140, zw_140, zk_141, zw_141, zk_142, zw_142, zk_143, zw_143, zk_144, zw_144, zk_145, zw_145, zk_146, zw_146, zk_147, zw_147, zk_148, zw_148, zk_149, zw_149, zk_150, zw_150, zk_151, zw_151, zk_152, zw_152, zq_138_1, zq_138_2, zq_138_3, zq_138_4, zq_138_16, zq_138_19, zq_138_20, zq_138_24, zq_138_25, zq_138_26, zq_138_27, zq_138_31, zq_138_32, zq_138_33, zn_10, zn_40, zn_040, zn_340, nI_add, zin_nI, nI_clamp, nI_ltI, nI_eq, pk_mul, nI_1, Nat.lt_irrefl, zr_s, r1]
        rfl
      | succ mm ih =>
        intro n hn d P
        have hlt : n < 25 := by omega
        have r1 : zf_unK (I 139) E n 134 = nI E := zf_unK_134 _ _ _ (by omega)
        have r2 : zf_unK (I 139) E n (135 + 25 * E + n) = I 139 (135 + 25 * E + n) := by
          unfold zf_unK
          rw [if_neg (by omega), if_neg (by omega)]
        have exx : zu1 (zf_unK (I 139) E n) (109 + n) (I 139 (135 + 25 * E + n)) = zf_unK (I 139) E (n + 1) := by
          funext j
          unfold zf_unK
          by_cases q : j = 109 + n
          · rw [q, zu1_s, if_pos (by omega), Nat.add_sub_cancel_left]
          · rw [zu1_n q]
            by_cases c9 : 109 ≤ j ∧ j < 109 + n
            · rw [if_pos c9, if_pos (show 109 ≤ j ∧ j < 109 + (n + 1) by omega)]
            · rw [if_neg c9, if_neg (show ¬ (109 ≤ j ∧ j < 109 + (n + 1)) by omega)]
        rw [← ih (n + 1) (by omega) d P, zs_224_46]
        simp (disch := omega) only [↓zs_224_47, ↓zs_224_49, ↓zs_224_52, ↓zs_224_53, ↓zs_224_56, ↓zs_224_58, ↓zs_224_59, ↓zs_224_60, ↓zs_224_61, ↓zs_224_64, ↓zs_224_67, ↓zs_224_69, ↓zs_224_70, ↓zs_224_73, ↓zs_224_76, ↓zs_224_77, ↓zs_224_78, ↓zs_224_79, ↓zs_224_80, ↓zs_224_81, ↓zs_224_82, ↓zs_224_83, ↓zs_224_86, zx_pu_s, zx_pu_n, zx_rv_s, zx_rv_n, true_and, and_true, true_or, or_true, zb_0, zb_1, zq_lcl, zq_lcg, zq_lce, eq_self, ite_true, ite_false, zk_138, zw_138, zk_139, zw_139, zk_140, zw_140, zk_141, zw_141, zk_142, zw_142, zk_143, zw_143, zk_144, zw_144, zk_145, zw_145, zk_146, zw_146, zk_147, zw_147, zk_148, zw_148, zk_149, zw_149, zk_150, zw_150, zk_151, zw_151, zk_152, zw_152, zq_138_1, zq_138_2, zq_138_3, zq_138_4, zq_138_16, zq_138_19, zq_138_20, zq_138_24, zq_138_25, zq_138_26, zq_138_27, zq_138_31, zq_138_32, zq_138_33, zn_10, zn_40, zn_040, zn_340, nI_add, zin_nI, nI_clamp, nI_ltI, nI_eq, pk_mul, nI_1, Nat.lt_irrefl, hlt, zr_s, r1, r2, zu_ur, exx]
    have e0 : zx_u (zx_u I1 138 0 (nI 0)) 139 134 (nI E) = zx_ur (zx_u I1 138 0 (nI 0)) 139 (zf_unK (I 139) E 0) := by
      rw [zu_r]
      congr 1
      funext j
      unfold zu1 zf_unK
      rw [if_neg (show ¬ (109 ≤ j ∧ j < 109 + 0) by omega), zu_139, eA]
    have l0 := lm 25 0 rfl
    rw [← e0] at l0
    obtain ⟨r9, vE⟩ := p4 E hE
    have rT : zR_st (zx_u I 23 2 (nI E)) (25 + 4 * ((e + E) % 10)) (zf_was (I 139) E) := zR_st_f r9 (fun a j h1 h2 => zu_n (by omega))
    have rel : zR_st I1 11 (zf_was (I 139) E) := r1 _ rT
    have exE : zEx (zf_was (I 139) E) (zf_undo (I 139) E) := by
      intro j h1 h2
      unfold zf_was zf_undo
      by_cases q : 109 ≤ j ∧ j < 134
      · rw [if_pos q, if_pos q]
      · rw [if_neg q, if_neg q, if_neg (by omega)]
    have sm : zSm (I 139) (zf_was (I 139) E) := fun j h => if_neg h
    have row : ∀ a, ¬ (11 ≤ a ∧ a ≤ 14) → a ≠ 23 → a ≠ 138 → a ≠ 139 → zx_ur (zx_u I1 138 0 (nI 0)) 139 (zf_undo (I 139) E) a = I a := by
      intro a h1 h2 h3 h4
      rw [zr_o h4, zu_o h3, f1' a (by omega) (by omega) (by omega) (by omega), zu_o h2]
    have r138 : ∀ j, j ≠ 0 → zx_ur (zx_u I1 138 0 (nI 0)) 139 (zf_undo (I 139) E) 138 j = I 138 j := by
      intro j hj
      rw [zr_o (by decide), zu_n (by omega), f1' 138 (by decide) (by decide) (by decide) (by decide), zu_o (by decide)]
    have e139 : zx_ur (zx_u I1 138 0 (nI 0)) 139 (zf_undo (I 139) E) 139 = zf_undo (I 139) E := zr_s _ _ _
    have fin : zInv (zx_ur (zx_u I1 138 0 (nI 0)) 139 (zf_undo (I 139) E)) J m := by
      obtain ⟨v1, v2, v3, v4, v5, v6, v7, v8, v9, v10⟩ := v
      refine ⟨?_, ?_, ?_, ?_, ?_, ?_, ?_, ?_, ?_, ?_⟩
      · intro a j ha; rw [row a (by omega) (by omega) (by omega) (by omega)]; exact v1 a j ha
      · rw [e139]; exact zEx_V exE vE
      · rw [e139]
        exact zEx_sq exE vE (zR_sq_f (zSm_sq sm v2.2.2.2.2.1.2.1 v2.2.2.2.1.2.1 v3) (fun a j h1 h2 h3 h4 => by rw [row a (by omega) (by omega) (by omega) (by omega)]) (fun _ => rfl))
      · rw [e139]
        exact zEx_st exE (zR_st_f rel (fun a j h1 h2 => by rw [zr_o (by omega), zu_o (by omega)]))
      · refine ⟨e, E, he, by omega, ?_, ?_, ?_, fun i hi => ?_⟩
        · rw [zr_o (by decide), zu_o (by decide)]; exact i1
        · rw [zr_o (by decide), zu_o (by decide)]; exact i2
        · rw [e139]; unfold zf_undo; rw [if_neg (by omega), if_pos rfl]
        · rw [e139]
          have hmi : (e + i) % 10 < 10 := Nat.mod_lt _ (by omega)
          have exi : zEx (zf_was (I 139) i) (zf_was (zf_undo (I 139) E) i) := by
            intro j h1 h2
            unfold zf_was zf_undo
            by_cases q : 109 ≤ j ∧ j < 134
            · rw [if_pos q, if_pos q, if_neg (by omega), if_neg (by omega)]
            · rw [if_neg q, if_neg q, if_neg q, if_neg (by omega)]
          obtain ⟨q1, q2⟩ := p4 i (by omega)
          exact ⟨zEx_st exi (zR_st_f q1 (fun a j h1 h2 => by rw [row a (by omega) (by omega) (by omega) (by omega)])), zEx_V exi q2⟩
      · intro i hi
        obtain ⟨b, b1, b2, b3⟩ := v6 i hi
        have ei : zf_img (zf_undo (I 139) E) i = zf_img (I 139) i := by
          funext j
          unfold zf_img zf_undo
          rw [if_neg (by omega), if_neg (by omega)]
        rw [e139, ei, row 82 (by omega) (by omega) (by omega) (by omega), row 140 (by omega) (by omega) (by omega) (by omega)]
        refine ⟨b, b1, b2, fun hb => ?_⟩
        obtain ⟨c1, c2, c3⟩ := b3 hb
        exact ⟨zR_sq_f c1 (fun a j h1 h2 h3 h4 => by rw [row a (by omega) (by omega) (by omega) (by omega)]) (fun _ => rfl), zR_st_f c2 (fun a j h1 h2 => by rw [row a (by omega) (by omega) (by omega) (by omega)]), c3⟩
      · intro t ht
        rw [row 150 (by omega) (by omega) (by omega) (by omega), row 151 (by omega) (by omega) (by omega) (by omega), row (102 + 2 * t) (by omega) (by omega) (by omega) (by omega)]
        exact v7 t ht
      · obtain ⟨p, q1, q2, q3, q4⟩ := v8
        refine ⟨p, q1, by rw [row 0 (by omega) (by omega) (by omega) (by omega)]; exact q2, by rw [r138 5 (by omega)]; exact q3, fun i hi => ?_⟩
        rw [row 141 (by omega) (by omega) (by omega) (by omega), row 85 (by omega) (by omega) (by omega) (by omega)]
        exact q4 i hi
      · rw [row 0 (by omega) (by omega) (by omega) (by omega), r138 13 (by omega)]; exact v9
      · rw [row 0 (by omega) (by omega) (by omega) (by omega), r138 14 (by omega)]; exact v10
    refine ⟨.int (nI E), I1, J, _, J, fun d P => ?_, fun d P => ?_, fin⟩
    · rw [ze_115]
      simp (disch := omega) only [↓zs_115_0, ↓zs_115_1, ↓zs_115_2, ↓zs_115_5, ↓zs_115_6, ↓zs_115_7, ↓zs_115_10, ↓zs_115_13, ↓zs_115_16, ↓zs_115_18, ↓zs_115_19, ↓zs_115_20, ↓zs_115_23, ↓zs_115_24, ↓zs_115_25, ↓zs_115_28, ↓zs_115_31, ↓zs_115_32, ↓zs_115_35, ↓zs_115_38, zx_pu_s, zx_pu_n, zx_rv_s, zx_rv_n, true_and, and_true, true_or, or_true, zb_0, zb_1, zq_lcl, zq_lcg, zq_lce, eq_self, ite_true, ite_false, zk_0, zw_0, zk_1, zw_1, zq_0_0, zq_0_1, zq_0_2, zq_0_3, zq_0_4, zq_0_5, zq_0_6, zq_0_7, zq_0_8, zq_0_9, zq_0_10, zq_0_11, zq_1_0, zq_1_1, zq_1_2, zq_1_3, zq_1_4, zq_1_5, zk_11, zw_11, zq_11_0, zq_11_1, zq_11_2, zk_23, zw_23, zq_23_0, zn_10, zn_40, zn_040, zn_340, nI_add, zin_nI, nI_clamp, nI_ltI, nI_eq, pk_mul, nI_1, Nat.lt_irrefl, p2, a1, a2, bring, i2]
    · have dA : zx_u I1 138 0 (nI 0) 139 134 = nI D := by rw [zu_139, eA]; exact p3
      have l1 := l0 (d + 30) P
      rw [← l1, ze_224]
      simp (disch := omega) only [↓zs_224_0, ↓zs_224_1, ↓zs_224_2, ↓zs_224_5, ↓zs_224_6, ↓zs_224_7, ↓zs_224_8, ↓zs_224_11, ↓zs_224_14, ↓zs_224_17, ↓zs_224_18, ↓zs_224_19, ↓zs_224_22, ↓zs_224_25, ↓zs_224_26, ↓zs_224_29, ↓zs_224_31, ↓zs_224_32, ↓zs_224_33, ↓zs_224_36, ↓zs_224_39, ↓zs_224_40, ↓zs_224_41, ↓zs_224_42, ↓zs_224_43, ↓zs_224_44, ↓zs_224_45, zx_pu_s, zx_pu_n, zx_rv_s, zx_rv_n, true_and, and_true, true_or, or_true, zb_0, zb_1, zq_lcl, zq_lcg, zq_lce, eq_self, ite_true, ite_false, zk_138, zw_138, zk_139, zw_139, zk_140, zw_140, zk_141, zw_141, zk_142, zw_142, zk_143, zw_143, zk_144, zw_144, zk_145, zw_145, zk_146, zw_146, zk_147, zw_147, zk_148, zw_148, zk_149, zw_149, zk_150, zw_150, zk_151, zw_151, zk_152, zw_152, zq_138_1, zq_138_2, zq_138_3, zq_138_4, zq_138_16, zq_138_19, zq_138_20, zq_138_24, zq_138_25, zq_138_26, zq_138_27, zq_138_31, zq_138_32, zq_138_33, zn_10, zn_40, zn_040, zn_340, nI_add, zin_nI, nI_clamp, nI_ltI, nI_eq, pk_mul, nI_1, Nat.lt_irrefl, hbt, zB_0, reduceCtorEq, dA, a2, eE]
end NU
