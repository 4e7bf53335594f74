/-! peace, down, up -/
theorem zBf : zB false = nI 0 := rfl
theorem zBt : zB true = nI 1 := rfl
theorem zf_orL_eq (f g : Nat → Int64) (m s : Nat) (b : Int64) (h : ∀ j, s ≤ j → j < s + m → f j = g j) : zf_orL f m s b = zf_orL g m s b := by
  induction m generalizing s b with
  | zero => rfl
  | succ m ih => rw [zf_orL, zf_orL, h s (by omega) (by omega), ih _ _ (fun j h1 h2 => h j (by omega) (by omega))]
theorem zf_on_ex {B B2 : Nat → Int32} (h : zEx B B2) (x : Int32) : ∀ m s, s + m ≤ 8 → zf_on B2 x m s = zf_on B x m s := by
  intro m
  induction m with
  | zero => intro s _; rfl
  | succ m ih => intro s hs; rw [zf_on, zf_on, h (109 + s) (by omega) (by omega), ih (s + 1) (by omega)]
theorem zf_under_ex {B B2 : Nat → Int32} {w h N : Nat} (x : zEx B B2) (ok : zM_ok B w h N) : zf_under B2 w h N = zf_under B w h N := by
  have N8 : N ≤ 8 := ok.1.2.2.2.2.2
  have wh : w * h ≤ 64 := Nat.mul_le_mul ok.1.2.2.2.1 ok.1.2.2.2.2.1
  have lk : ∀ s, s < 8 → zf_look B2 w h N s = zf_look B w h N s := by
    intro s hs
    have ht : ∀ k, k < w * h → zf_taken B2 N k = zf_taken B N k := by
      intro k hk
      unfold zf_taken
      rw [x (45 + k) (by omega) (by omega), zf_on_ex x _ _ _ (by omega)]
    have hf : zf_hasFoe B2 s = zf_hasFoe B s := by
      have := zf_opt_lt (ok.2 s hs).2.1 (by omega) (by omega)
      unfold zf_hasFoe
      rw [x (109 + s) (by omega) (by omega), x (125 + s) (by omega) (by omega), x (109 + (B (125 + s)).toNatClampNeg) (by omega) (by omega)]
    unfold zf_look
    rw [zf_lookT_eq ht]
    unfold zf_lookT
    rw [hf, x (109 + s) (by omega) (by omega), x (117 + s) (by omega) (by omega)]
  unfold zf_under
  exact zf_orL_eq _ _ _ _ _ (fun j _ hj => congrArg Prod.fst (lk j (by omega)))
section PD
variable {Lh m : Nat} {I : zx_MI} {J : zx_MJ}
theorem sc_why1n {T : Nat} {x : Int32} {B : Nat → Int32} (hN : I 1 8 = nI (zn B)) (N8 : zn B ≤ 8) (h : zf_in x.toInt (zn B) = false) : ∀ d P, zx_rn (d + 1) 4 [.ref 1, .ref T, .int x] (zx_LL Lh) I J P = P (some (.int (nI 1))) (zx_LL Lh) I J := by
  intro d P
  have h1 := fun P => sc_hasStatue (d := d) (Lh := Lh) (J := J) (P := P) zx_sq1 x hN N8
  rw [ze_4]
  simp (disch := omega) only [↓zs_4_0, ↓zs_4_1, ↓zs_4_2, ↓zs_4_5, ↓zs_4_8, ↓zs_4_9, ↓zs_4_10, ↓zs_4_11, ↓zs_4_12, ↓zs_4_15, ↓zs_4_18, ↓zs_4_19, ↓zs_4_22, ↓zs_4_23, zx_pu_s, zx_pu_n, zx_rv_s, zx_rv_n, true_and, and_true, true_or, or_true, zb_0, zb_1, zq_lcl, zq_lcg, zq_lce, eq_self, ite_true, ite_false, zk_1, zw_1, zq_1_0, zq_1_1, zq_1_2, zq_1_3, zq_1_4, zq_1_5, h1, h, zB_0]
theorem sc_whyUn {T : Nat} {x y : Int32} {B : Nat → Int32} (hN : I 1 8 = nI (zn B)) (N8 : zn B ≤ 8) (hw : I 1 6 = nI (zw B)) (hh : I 1 7 = nI (zh B)) (wh : zw B * zh B ≤ 64) (h : (zf_in x.toInt (zn B) && zf_in y.toInt (zw B * zh B)) = false) : ∀ d P, zx_rn (d + 2) 5 [.ref 1, .ref T, .int x, .int y] (zx_LL Lh) I J P = P (some (.int (nI 1))) (zx_LL Lh) I J := by
  intro d P
  have h1 := fun d P => sc_hasStatue (d := d) (Lh := Lh) (J := J) (P := P) zx_sq1 x hN N8
  have h2 := fun d P => sc_hasStone (d := d) (Lh := Lh) (J := J) (P := P) zx_sq1 y hw hh wh
  rw [ze_5]
  cases c1 : zf_in x.toInt (zn B) with
  | false => simp (disch := omega) only [↓zs_5_0, ↓zs_5_1, ↓zs_5_2, ↓zs_5_5, ↓zs_5_8, ↓zs_5_9, ↓zs_5_10, ↓zs_5_13, ↓zs_5_16, ↓zs_5_17, ↓zs_5_18, ↓zs_5_19, ↓zs_5_20, ↓zs_5_23, ↓zs_5_26, ↓zs_5_27, ↓zs_5_28, ↓zs_5_29, ↓zs_5_30, ↓zs_5_31, ↓zs_5_34, ↓zs_5_37, ↓zs_5_38, ↓zs_5_41, ↓zs_5_42, zx_pu_s, zx_pu_n, zx_rv_s, zx_rv_n, true_and, and_true, true_or, or_true, zb_0, zb_1, zq_lcl, zq_lcg, zq_lce, eq_self, ite_true, ite_false, zk_1, zw_1, zq_1_0, zq_1_1, zq_1_2, zq_1_3, zq_1_4, zq_1_5, h1, c1, zB_0]
  | true =>
    cases c2 : zf_in y.toInt (zw B * zh B) with
    | false => simp (disch := omega) only [↓zs_5_0, ↓zs_5_1, ↓zs_5_2, ↓zs_5_5, ↓zs_5_8, ↓zs_5_9, ↓zs_5_10, ↓zs_5_13, ↓zs_5_16, ↓zs_5_17, ↓zs_5_18, ↓zs_5_19, ↓zs_5_20, ↓zs_5_23, ↓zs_5_26, ↓zs_5_27, ↓zs_5_28, ↓zs_5_29, ↓zs_5_30, ↓zs_5_31, ↓zs_5_34, ↓zs_5_37, ↓zs_5_38, ↓zs_5_41, ↓zs_5_42, zx_pu_s, zx_pu_n, zx_rv_s, zx_rv_n, true_and, and_true, true_or, or_true, zb_0, zb_1, zq_lcl, zq_lcg, zq_lce, eq_self, ite_true, ite_false, zk_1, zw_1, zq_1_0, zq_1_1, zq_1_2, zq_1_3, zq_1_4, zq_1_5, h1, h2, c1, c2, zB_0, reduceCtorEq]
    | true => rw [c1, c2] at h; exact Bool.noConfusion h
theorem d_peace (v : zInv I J m) (hm : m < 2 ^ 29) (x : Int32) : zD Lh 112 221 [.int x] I J (m + 1) := by
  obtain ⟨⟨hw, hh, hN⟩, gr, g, ex, ok, N8, wh⟩ := zInv_k v
  obtain ⟨e, D, he, hD, p1, p2, p3, p4⟩ := v.2.2.2.2.1
  have hNu : zx_u I 138 0 (nI 0) 139 3 = nI (zn (I 139)) := by rw [zu_139]; exact ok.1.2.2.1
  have hx := fun d P => sp_isStatue (d := d) (Lh := Lh) (J := J) (P := P) x.toInt64 hNu N8
  rw [Int32.toInt_toInt64] at hx
  cases c : zf_in x.toInt (zn (I 139)) with
  | false =>
    refine zQ_D (m := m) ⟨.int (-10 - nI 1), I, J, zx_u I 138 0 (nI 0), J, fun d P => ?_, fun d P => ?_, zScr_s (zFs_0 _ _)⟩ v (by omega)
    · have h1 := sc_why1n (Lh := Lh) (J := J) (T := 11) hN N8 c
      have c0 : (nI 1 = nI 0) = False := eq_false (by decide)
      rw [ze_112]
      simp (disch := omega) only [↓zs_112_0, ↓zs_112_1, ↓zs_112_4, ↓zs_112_5, ↓zs_112_8, ↓zs_112_9, ↓zs_112_12, ↓zs_112_13, ↓zs_112_14, ↓zs_112_17, ↓zs_112_19, ↓zs_112_20, ↓zs_112_21, ↓zs_112_22, ↓zs_112_23, ↓zs_112_26, ↓zs_112_29, ↓zs_112_30, ↓zs_112_31, ↓zs_112_32, ↓zs_112_33, ↓zs_112_36, ↓zs_112_37, ↓zs_112_40, ↓zs_112_43, ↓zs_112_44, ↓zs_112_47, ↓zs_112_50, ↓zs_112_51, ↓zs_112_52, ↓zs_112_53, ↓zs_112_54, zx_pu_s, zx_pu_n, zx_rv_s, zx_rv_n, true_and, and_true, true_or, or_true, zb_0, zb_1, zq_lcl, zq_lcg, zq_lce, eq_self, ite_true, ite_false, zk_0, zw_0, zk_1, zw_1, zq_0_0, zq_0_1, zq_0_2, zq_0_3, zq_0_4, zq_0_5, zq_0_6, zq_0_7, zq_0_8, zq_0_9, zq_0_10, zq_0_11, zq_1_0, zq_1_1, zq_1_2, zq_1_3, zq_1_4, zq_1_5, zk_11, zw_11, zq_11_0, zq_11_1, zq_11_2, h1, c0]
    · rw [ze_221]
      have hb := fun x y z => sp_didBad (Lh := Lh) (I := zx_u I 138 0 (nI 0)) (J := J) (x := x) (y := y) (z := z)
      simp (disch := omega) only [↓zs_221_0, ↓zs_221_1, ↓zs_221_2, ↓zs_221_5, ↓zs_221_6, ↓zs_221_7, ↓zs_221_8, ↓zs_221_9, ↓zs_221_10, ↓zs_221_13, ↓zs_221_15, ↓zs_221_16, ↓zs_221_17, ↓zs_221_19, ↓zs_221_22, zx_pu_s, zx_pu_n, zx_rv_s, zx_rv_n, true_and, and_true, true_or, or_true, zb_0, zb_1, zq_lcl, zq_lcg, zq_lce, eq_self, ite_true, ite_false, zk_138, zw_138, zk_139, zw_139, zk_140, zw_140, zk_141, zw_141, zk_142, zw_142, zk_143, zw_143, zk_144, zw_144, zk_145, zw_145, zk_146, zw_146, zk_147, zw_147, zk_148, zw_148, zk_149, zw_149, zk_150, zw_150, zk_151, zw_151, zk_152, zw_152, zq_138_1, zq_138_2, zq_138_3, zq_138_4, zq_138_16, zq_138_19, zq_138_20, zq_138_24, zq_138_25, zq_138_26, zq_138_27, zq_138_31, zq_138_32, zq_138_33, hx, c, zBf, hb]
  | true =>
    have ex1 := zq_toI (x := x) rfl c (by omega)
    have ha : x.toInt.toNat < zn (I 139) := by have := zf_inP.mp c; omega
    rw [c] at hx
    generalize x.toInt.toNat = a at ex1 ha
    subst ex1
    have hL := fun d P => sc_why1 (d := d) (Lh := Lh) (P := P) (s := a) zx_st11 v.2.1 v.2.2.1 v.2.2.2.1 (by omega)
    have en : zf_whyN (I 139) (100 + a) = zf_w1 (I 139) a := by
      unfold zf_whyN
      rw [if_neg (by omega), if_neg (by omega), if_pos (by omega), show 100 + a - 100 = a by omega]
    have le := zf_w1_le (I 139) a
    by_cases h0 : zf_w1 (I 139) a = 0
    · have edo : zf_doN (I 139) (100 + a) = zu1 (I 139) (125 + a) (-1) := by
        unfold zf_doN
        rw [if_neg (by omega), if_pos (by omega), show 100 + a - 100 = a by omega]
      obtain ⟨Ik, k1, k2, k3⟩ := sc_keepSet (Lh := Lh) (c := 14) (f := a) (x := -1) v he hD p1 p2 (.inr rfl) (by omega) rfl
      rw [if_pos rfl] at k3
      have eA : (zx_u (zx_u Ik 14 a (-1)) 138 0 (nI 0)) 139 = I 139 := by
        rw [zu_139, zu_o (by decide)]
        funext j
        have := k3.1 139 j (by
          have : (e + D) % 10 < 10 := Nat.mod_lt _ (by omega)
          unfold zSc; omega)
        rw [zu_o (by decide)] at this
        exact this
      obtain ⟨I2, o2, h2⟩ := sp_did (Lh := Lh) (J := J) (n := 100 + a) (s := a) (r := 125) eA v.2.1 hm (by omega) (by omega) (.inr rfl) hD p3 (by rw [en]; exact h0)
      rw [edo] at o2
      have hV := zf_do_V v.2.1 (u := lN (100 + a)) (by omega) (by rw [zf_why_n (by omega), en]; exact h0)
      rw [(zf_do_n (B := I 139) (n := 100 + a) (by omega)).1, edo] at hV
      have o3 : zMo (zx_u Ik 14 a (-1)) I2 (zu1 (I 139) (125 + a) (-1)) (I 139) D := by
        refine ⟨fun a2 j q => ?_, o2.2⟩
        rw [o2.1 a2 j q, zu_n (fun z => q (.inr (by unfold zSc; omega)))]
      have f14 : I 14 a = I 139 (125 + a) := (v.2.2.2.1.2 a (by omega)).2.2
      have hx3 := fun d P => sp_isStatue (d := d) (Lh := Lh) (I := zx_u (zx_u Ik 14 a (-1)) 138 0 (nI 0)) (J := J) (P := P) (nI a).toInt64 (by rw [eA]; exact ok.1.2.2.1) N8
      rw [Int32.toInt_toInt64, zf_in_nI (by omega), decide_eq_true ha] at hx3
      refine ⟨.int (I 139 (125 + a)), zx_u Ik 14 a (-1), J, I2, J, fun d P => ?_, fun d P => ?_, zKM v (by omega) hV.2 hV.1 he hD p1 p2 p3 p4 k3 o3⟩
      · rw [ze_112]
        simp (disch := omega) only [↓zs_112_0, ↓zs_112_1, ↓zs_112_4, ↓zs_112_5, ↓zs_112_8, ↓zs_112_9, ↓zs_112_12, ↓zs_112_13, ↓zs_112_14, ↓zs_112_17, ↓zs_112_19, ↓zs_112_20, ↓zs_112_21, ↓zs_112_22, ↓zs_112_23, ↓zs_112_26, ↓zs_112_29, ↓zs_112_30, ↓zs_112_31, ↓zs_112_32, ↓zs_112_33, ↓zs_112_36, ↓zs_112_37, ↓zs_112_40, ↓zs_112_43, ↓zs_112_44, ↓zs_112_47, ↓zs_112_50, ↓zs_112_51, ↓zs_112_52, ↓zs_112_53, ↓zs_112_54, zx_pu_s, zx_pu_n, zx_rv_s, zx_rv_n, true_and, and_true, true_or, or_true, zb_0, zb_1, zq_lcl, zq_lcg, zq_lce, eq_self, ite_true, ite_false, zk_0, zw_0, zk_1, zw_1, zq_0_0, zq_0_1, zq_0_2, zq_0_3, zq_0_4, zq_0_5, zq_0_6, zq_0_7, zq_0_8, zq_0_9, zq_0_10, zq_0_11, zq_1_0, zq_1_1, zq_1_2, zq_1_3, zq_1_4, zq_1_5, zk_11, zw_11, zk_12, zw_12, zk_13, zw_13, zk_14, zw_14, zq_11_0, zq_11_1, zq_11_2, zk_23, zw_23, zk_24, zw_24, zq_23_0, zq_24_0, zq_24_1, zq_24_2, zq_24_3, zq_24_4, zq_24_5, zq_24_6, zq_24_7, zq_24_8, zq_24_9, zin_nI, nI_clamp, hL, h0, f14, k1]
      · rw [ze_221]
        simp (disch := omega) only [↓zs_221_0, ↓zs_221_1, ↓zs_221_2, ↓zs_221_5, ↓zs_221_6, ↓zs_221_7, ↓zs_221_8, ↓zs_221_9, ↓zs_221_10, ↓zs_221_13, ↓zs_221_15, ↓zs_221_16, ↓zs_221_17, ↓zs_221_19, ↓zs_221_22, zx_pu_s, zx_pu_n, zx_rv_s, zx_rv_n, true_and, and_true, true_or, or_true, zb_0, zb_1, zq_lcl, zq_lcg, zq_lce, eq_self, ite_true, ite_false, zk_138, zw_138, zk_139, zw_139, zk_140, zw_140, zk_141, zw_141, zk_142, zw_142, zk_143, zw_143, zk_144, zw_144, zk_145, zw_145, zk_146, zw_146, zk_147, zw_147, zk_148, zw_148, zk_149, zw_149, zk_150, zw_150, zk_151, zw_151, zk_152, zw_152, zq_138_1, zq_138_2, zq_138_3, zq_138_4, zq_138_16, zq_138_19, zq_138_20, zq_138_24, zq_138_25, zq_138_26, zq_138_27, zq_138_31, zq_138_32, zq_138_33, hx3, zBt, nI_add, h2]
    · have h0' : (nI (zf_w1 (I 139) a) = nI 0) = False := zq_ne h0 (by omega) (by omega)
      have hd := sp_didNot (Lh := Lh) (J := J) (n := 100 + a) (s := a) (r := 125) (zu_139 I 0 (nI 0)) v.2.1 (by omega) (by rw [en]; exact h0) (by rw [en]; exact le)
      rw [en] at hd
      refine zQ_D (m := m) ⟨.int (-10 - nI (zf_w1 (I 139) a)), I, J, zx_u I 138 0 (nI 0), J, fun d P => ?_, fun d P => ?_, zScr_s (zFs_0 _ _)⟩ v (by omega)
      · rw [ze_112]
        simp (disch := omega) only [↓zs_112_0, ↓zs_112_1, ↓zs_112_4, ↓zs_112_5, ↓zs_112_8, ↓zs_112_9, ↓zs_112_12, ↓zs_112_13, ↓zs_112_14, ↓zs_112_17, ↓zs_112_19, ↓zs_112_20, ↓zs_112_21, ↓zs_112_22, ↓zs_112_23, ↓zs_112_26, ↓zs_112_29, ↓zs_112_30, ↓zs_112_31, ↓zs_112_32, ↓zs_112_33, ↓zs_112_36, ↓zs_112_37, ↓zs_112_40, ↓zs_112_43, ↓zs_112_44, ↓zs_112_47, ↓zs_112_50, ↓zs_112_51, ↓zs_112_52, ↓zs_112_53, ↓zs_112_54, zx_pu_s, zx_pu_n, zx_rv_s, zx_rv_n, true_and, and_true, true_or, or_true, zb_0, zb_1, zq_lcl, zq_lcg, zq_lce, eq_self, ite_true, ite_false, zk_0, zw_0, zk_1, zw_1, zq_0_0, zq_0_1, zq_0_2, zq_0_3, zq_0_4, zq_0_5, zq_0_6, zq_0_7, zq_0_8, zq_0_9, zq_0_10, zq_0_11, zq_1_0, zq_1_1, zq_1_2, zq_1_3, zq_1_4, zq_1_5, zk_11, zw_11, zk_12, zw_12, zk_13, zw_13, zk_14, zw_14, zq_11_0, zq_11_1, zq_11_2, hL, h0']
      · rw [ze_221]
        simp (disch := omega) only [↓zs_221_0, ↓zs_221_1, ↓zs_221_2, ↓zs_221_5, ↓zs_221_6, ↓zs_221_7, ↓zs_221_8, ↓zs_221_9, ↓zs_221_10, ↓zs_221_13, ↓zs_221_15, ↓zs_221_16, ↓zs_221_17, ↓zs_221_19, ↓zs_221_22, zx_pu_s, zx_pu_n, zx_rv_s, zx_rv_n, true_and, and_true, true_or, or_true, zb_0, zb_1, zq_lcl, zq_lcg, zq_lce, eq_self, ite_true, ite_false, zk_138, zw_138, zk_139, zw_139, zk_140, zw_140, zk_141, zw_141, zk_142, zw_142, zk_143, zw_143, zk_144, zw_144, zk_145, zw_145, zk_146, zw_146, zk_147, zw_147, zk_148, zw_148, zk_149, zw_149, zk_150, zw_150, zk_151, zw_151, zk_152, zw_152, zq_138_1, zq_138_2, zq_138_3, zq_138_4, zq_138_16, zq_138_19, zq_138_20, zq_138_24, zq_138_25, zq_138_26, zq_138_27, zq_138_31, zq_138_32, zq_138_33, hx, zBt, nI_add, hd]
theorem d_down (v : zInv I J m) (hm : m < 2 ^ 29) (x : Int32) : zD Lh 113 222 [.int x] I J (m + 1) := by
  obtain ⟨⟨hw, hh, hN⟩, gr, g, ex, ok, N8, wh⟩ := zInv_k v
  obtain ⟨e, D, he, hD, p1, p2, p3, p4⟩ := v.2.2.2.2.1
  have hNu : zx_u I 138 0 (nI 0) 139 3 = nI (zn (I 139)) := by rw [zu_139]; exact ok.1.2.2.1
  have hx := fun d P => sp_isStatue (d := d) (Lh := Lh) (J := J) (P := P) x.toInt64 hNu N8
  rw [Int32.toInt_toInt64] at hx
  cases c : zf_in x.toInt (zn (I 139)) with
  | false =>
    refine zQ_D (m := m) ⟨.int (-10 - nI 1), I, J, zx_u I 138 0 (nI 0), J, fun d P => ?_, fun d P => ?_, zScr_s (zFs_0 _ _)⟩ v (by omega)
    · have h1 := sc_why1n (Lh := Lh) (J := J) (T := 11) hN N8 c
      have c0 : (nI 1 = nI 0) = False := eq_false (by decide)
      rw [ze_113]
      simp (disch := omega) only [↓zs_113_0, ↓zs_113_1, ↓zs_113_4, ↓zs_113_5, ↓zs_113_8, ↓zs_113_9, ↓zs_113_12, ↓zs_113_13, ↓zs_113_14, ↓zs_113_17, ↓zs_113_19, ↓zs_113_20, ↓zs_113_21, ↓zs_113_22, ↓zs_113_23, ↓zs_113_26, ↓zs_113_29, ↓zs_113_30, ↓zs_113_31, ↓zs_113_32, ↓zs_113_33, ↓zs_113_36, ↓zs_113_37, ↓zs_113_40, ↓zs_113_43, ↓zs_113_44, ↓zs_113_47, ↓zs_113_50, ↓zs_113_51, ↓zs_113_52, ↓zs_113_53, ↓zs_113_54, zx_pu_s, zx_pu_n, zx_rv_s, zx_rv_n, true_and, and_true, true_or, or_true, zb_0, zb_1, zq_lcl, zq_lcg, zq_lce, eq_self, ite_true, ite_false, zk_0, zw_0, zk_1, zw_1, zq_0_0, zq_0_1, zq_0_2, zq_0_3, zq_0_4, zq_0_5, zq_0_6, zq_0_7, zq_0_8, zq_0_9, zq_0_10, zq_0_11, zq_1_0, zq_1_1, zq_1_2, zq_1_3, zq_1_4, zq_1_5, zk_11, zw_11, zq_11_0, zq_11_1, zq_11_2, h1, c0]
    · rw [ze_222]
      have hb := fun x y z => sp_didBad (Lh := Lh) (I := zx_u I 138 0 (nI 0)) (J := J) (x := x) (y := y) (z := z)
      simp (disch := omega) only [↓zs_222_0, ↓zs_222_1, ↓zs_222_2, ↓zs_222_5, ↓zs_222_6, ↓zs_222_7, ↓zs_222_8, ↓zs_222_9, ↓zs_222_10, ↓zs_222_13, ↓zs_222_16, ↓zs_222_17, ↓zs_222_18, ↓zs_222_20, ↓zs_222_23, zx_pu_s, zx_pu_n, zx_rv_s, zx_rv_n, true_and, and_true, true_or, or_true, zb_0, zb_1, zq_lcl, zq_lcg, zq_lce, eq_self, ite_true, ite_false, zk_138, zw_138, zk_139, zw_139, zk_140, zw_140, zk_141, zw_141, zk_142, zw_142, zk_143, zw_143, zk_144, zw_144, zk_145, zw_145, zk_146, zw_146, zk_147, zw_147, zk_148, zw_148, zk_149, zw_149, zk_150, zw_150, zk_151, zw_151, zk_152, zw_152, zq_138_1, zq_138_2, zq_138_3, zq_138_4, zq_138_16, zq_138_19, zq_138_20, zq_138_24, zq_138_25, zq_138_26, zq_138_27, zq_138_31, zq_138_32, zq_138_33, hx, c, zBf, hb]
  | true =>
    have ex1 := zq_toI (x := x) rfl c (by omega)
    have ha : x.toInt.toNat < zn (I 139) := by have := zf_inP.mp c; omega
    rw [c] at hx
    generalize x.toInt.toNat = a at ex1 ha
    subst ex1
    have hL := fun d P => sc_why1 (d := d) (Lh := Lh) (P := P) (s := a) zx_st11 v.2.1 v.2.2.1 v.2.2.2.1 (by omega)
    have en : zf_whyN (I 139) (200 + a) = zf_w1 (I 139) a := by
      unfold zf_whyN
      rw [if_neg (by omega), if_neg (by omega), if_neg (by omega), if_neg (by omega), if_pos (by omega), show 200 + a - 200 = a by omega]
    have le := zf_w1_le (I 139) a
    by_cases h0 : zf_w1 (I 139) a = 0
    · have edo : zf_doN (I 139) (200 + a) = zu1 (I 139) (109 + a) (-1) := by
        unfold zf_doN
        rw [if_neg (by omega), if_neg (by omega), if_pos (by omega), show 200 + a - 200 = a by omega]
      obtain ⟨Ik, k1, k2, k3⟩ := sc_keepSet (Lh := Lh) (c := 12) (f := a) (x := -1) v he hD p1 p2 (.inl rfl) (by omega) rfl
      rw [if_neg (show ¬ (12 = 14) by decide)] at k3
      have eA : (zx_u (zx_u Ik 12 a (-1)) 138 0 (nI 0)) 139 = I 139 := by
        rw [zu_139, zu_o (by decide)]
        funext j
        have := k3.1 139 j (by
          have : (e + D) % 10 < 10 := Nat.mod_lt _ (by omega)
          unfold zSc; omega)
        rw [zu_o (by decide)] at this
        exact this
      obtain ⟨I2, o2, h2⟩ := sp_did (Lh := Lh) (J := J) (n := 200 + a) (s := a) (r := 109) eA v.2.1 hm (by omega) (by omega) (.inl rfl) hD p3 (by rw [en]; exact h0)
      rw [edo] at o2
      have hV := zf_do_V v.2.1 (u := lN (200 + a)) (by omega) (by rw [zf_why_n (by omega), en]; exact h0)
      rw [(zf_do_n (B := I 139) (n := 200 + a) (by omega)).1, edo] at hV
      have o3 : zMo (zx_u Ik 12 a (-1)) I2 (zu1 (I 139) (109 + a) (-1)) (I 139) D := by
        refine ⟨fun a2 j q => ?_, o2.2⟩
        rw [o2.1 a2 j q, zu_n (fun z => q (.inr (by unfold zSc; omega)))]
      have f14 : I 12 a = I 139 (109 + a) := (v.2.2.2.1.2 a (by omega)).1
      have hx3 := fun d P => sp_isStatue (d := d) (Lh := Lh) (I := zx_u (zx_u Ik 12 a (-1)) 138 0 (nI 0)) (J := J) (P := P) (nI a).toInt64 (by rw [eA]; exact ok.1.2.2.1) N8
      rw [Int32.toInt_toInt64, zf_in_nI (by omega), decide_eq_true ha] at hx3
      refine ⟨.int (I 139 (109 + a)), zx_u Ik 12 a (-1), J, I2, J, fun d P => ?_, fun d P => ?_, zKM v (by omega) hV.2 hV.1 he hD p1 p2 p3 p4 k3 o3⟩
      · rw [ze_113]
        simp (disch := omega) only [↓zs_113_0, ↓zs_113_1, ↓zs_113_4, ↓zs_113_5, ↓zs_113_8, ↓zs_113_9, ↓zs_113_12, ↓zs_113_13, ↓zs_113_14, ↓zs_113_17, ↓zs_113_19, ↓zs_113_20, ↓zs_113_21, ↓zs_113_22, ↓zs_113_23, ↓zs_113_26, ↓zs_113_29, ↓zs_113_30, ↓zs_113_31, ↓zs_113_32, ↓zs_113_33, ↓zs_113_36, ↓zs_113_37, ↓zs_113_40, ↓zs_113_43, ↓zs_113_44, ↓zs_113_47, ↓zs_113_50, ↓zs_113_51, ↓zs_113_52, ↓zs_113_53, ↓zs_113_54, zx_pu_s, zx_pu_n, zx_rv_s, zx_rv_n, true_and, and_true, true_or, or_true, zb_0, zb_1, zq_lcl, zq_lcg, zq_lce, eq_self, ite_true, ite_false, zk_0, zw_0, zk_1, zw_1, zq_0_0, zq_0_1, zq_0_2, zq_0_3, zq_0_4, zq_0_5, zq_0_6, zq_0_7, zq_0_8, zq_0_9, zq_0_10, zq_0_11, zq_1_0, zq_1_1, zq_1_2, zq_1_3, zq_1_4, zq_1_5, zk_11, zw_11, zk_12, zw_12, zk_13, zw_13, zk_14, zw_14, zq_11_0, zq_11_1, zq_11_2, zk_23, zw_23, zk_24, zw_24, zq_23_0, zq_24_0, zq_24_1, zq_24_2, zq_24_3, zq_24_4, zq_24_5, zq_24_6, zq_24_7, zq_24_8, zq_24_9, zin_nI, nI_clamp, hL, h0, f14, k1]
      · rw [ze_222]
        simp (disch := omega) only [↓zs_222_0, ↓zs_222_1, ↓zs_222_2, ↓zs_222_5, ↓zs_222_6, ↓zs_222_7, ↓zs_222_8, ↓zs_222_9, ↓zs_222_10, ↓zs_222_13, ↓zs_222_16, ↓zs_222_17, ↓zs_222_18, ↓zs_222_20, ↓zs_222_23, zx_pu_s, zx_pu_n, zx_rv_s, zx_rv_n, true_and, and_true, true_or, or_true, zb_0, zb_1, zq_lcl, zq_lcg, zq_lce, eq_self, ite_true, ite_false, zk_138, zw_138, zk_139, zw_139, zk_140, zw_140, zk_141, zw_141, zk_142, zw_142, zk_143, zw_143, zk_144, zw_144, zk_145, zw_145, zk_146, zw_146, zk_147, zw_147, zk_148, zw_148, zk_149, zw_149, zk_150, zw_150, zk_151, zw_151, zk_152, zw_152, zq_138_1, zq_138_2, zq_138_3, zq_138_4, zq_138_16, zq_138_19, zq_138_20, zq_138_24, zq_138_25, zq_138_26, zq_138_27, zq_138_31, zq_138_32, zq_138_33, hx3, zBt, nI_add, h2]
    · have h0' : (nI (zf_w1 (I 139) a) = nI 0) = False := zq_ne h0 (by omega) (by omega)
      have hd := sp_didNot (Lh := Lh) (J := J) (n := 200 + a) (s := a) (r := 109) (zu_139 I 0 (nI 0)) v.2.1 (by omega) (by rw [en]; exact h0) (by rw [en]; exact le)
      rw [en] at hd
      refine zQ_D (m := m) ⟨.int (-10 - nI (zf_w1 (I 139) a)), I, J, zx_u I 138 0 (nI 0), J, fun d P => ?_, fun d P => ?_, zScr_s (zFs_0 _ _)⟩ v (by omega)
      · rw [ze_113]
        simp (disch := omega) only [↓zs_113_0, ↓zs_113_1, ↓zs_113_4, ↓zs_113_5, ↓zs_113_8, ↓zs_113_9, ↓zs_113_12, ↓zs_113_13, ↓zs_113_14, ↓zs_113_17, ↓zs_113_19, ↓zs_113_20, ↓zs_113_21, ↓zs_113_22, ↓zs_113_23, ↓zs_113_26, ↓zs_113_29, ↓zs_113_30, ↓zs_113_31, ↓zs_113_32, ↓zs_113_33, ↓zs_113_36, ↓zs_113_37, ↓zs_113_40, ↓zs_113_43, ↓zs_113_44, ↓zs_113_47, ↓zs_113_50, ↓zs_113_51, ↓zs_113_52, ↓zs_113_53, ↓zs_113_54, zx_pu_s, zx_pu_n, zx_rv_s, zx_rv_n, true_and, and_true, true_or, or_true, zb_0, zb_1, zq_lcl, zq_lcg, zq_lce, eq_self, ite_true, ite_false, zk_0, zw_0, zk_1, zw_1, zq_0_0, zq_0_1, zq_0_2, zq_0_3, zq_0_4, zq_0_5, zq_0_6, zq_0_7, zq_0_8, zq_0_9, zq_0_10, zq_0_11, zq_1_0, zq_1_1, zq_1_2, zq_1_3, zq_1_4, zq_1_5, zk_11, zw_11, zk_12, zw_12, zk_13, zw_13, zk_14, zw_14, zq_11_0, zq_11_1, zq_11_2, hL, h0']
      · rw [ze_222]
        simp (disch := omega) only [↓zs_222_0, ↓zs_222_1, ↓zs_222_2, ↓zs_222_5, ↓zs_222_6, ↓zs_222_7, ↓zs_222_8, ↓zs_222_9, ↓zs_222_10, ↓zs_222_13, ↓zs_222_16, ↓zs_222_17, ↓zs_222_18, ↓zs_222_20, ↓zs_222_23, zx_pu_s, zx_pu_n, zx_rv_s, zx_rv_n, true_and, and_true, true_or, or_true, zb_0, zb_1, zq_lcl, zq_lcg, zq_lce, eq_self, ite_true, ite_false, zk_138, zw_138, zk_139, zw_139, zk_140, zw_140, zk_141, zw_141, zk_142, zw_142, zk_143, zw_143, zk_144, zw_144, zk_145, zw_145, zk_146, zw_146, zk_147, zw_147, zk_148, zw_148, zk_149, zw_149, zk_150, zw_150, zk_151, zw_151, zk_152, zw_152, zq_138_1, zq_138_2, zq_138_3, zq_138_4, zq_138_16, zq_138_19, zq_138_20, zq_138_24, zq_138_25, zq_138_26, zq_138_27, zq_138_31, zq_138_32, zq_138_33, hx, zBt, nI_add, hd]
theorem d_up (v : zInv I J m) (hm : m < 2 ^ 29) (x y : Int32) : zD Lh 114 223 [.int x, .int y] I J (m + 1) := by
  obtain ⟨⟨hw, hh, hN⟩, gr, g, ex, ok, N8, wh⟩ := zInv_k v
  obtain ⟨e, D, he, hD, p1, p2, p3, p4⟩ := v.2.2.2.2.1
  have ok2 : zM_ok (zx_u I 138 0 (nI 0) 139) (zw (I 139)) (zh (I 139)) (zn (I 139)) := by rw [zu_139]; exact ok
  have hx := fun d P => sp_isStatue (d := d) (Lh := Lh) (J := J) (P := P) x.toInt64 ok2.1.2.2.1 N8
  have hy := fun d P => sp_isStone (d := d) (Lh := Lh) (J := J) (P := P) y.toInt64 ok2.1.1 ok2.1.2.1 (by omega)
  rw [Int32.toInt_toInt64] at hx hy
  cases c : (zf_in x.toInt (zn (I 139)) && zf_in y.toInt (zw (I 139) * zh (I 139))) with
  | false =>
    refine zQ_D (m := m) ⟨.int (-10 - nI 1), I, J, zx_u I 138 0 (nI 0), J, fun d P => ?_, fun d P => ?_, zScr_s (zFs_0 _ _)⟩ v (by omega)
    · have h1 := sc_whyUn (Lh := Lh) (J := J) (T := 11) hN N8 hw hh wh c
      have c0 : (nI 1 = nI 0) = False := eq_false (by decide)
      rw [ze_114]
      simp (disch := omega) only [↓zs_114_0, ↓zs_114_1, ↓zs_114_4, ↓zs_114_5, ↓zs_114_8, ↓zs_114_9, ↓zs_114_10, ↓zs_114_13, ↓zs_114_14, ↓zs_114_15, ↓zs_114_18, ↓zs_114_20, ↓zs_114_21, ↓zs_114_22, ↓zs_114_23, ↓zs_114_24, ↓zs_114_27, ↓zs_114_28, ↓zs_114_31, ↓zs_114_34, ↓zs_114_35, ↓zs_114_38, ↓zs_114_41, ↓zs_114_42, ↓zs_114_43, ↓zs_114_44, ↓zs_114_45, ↓zs_114_48, ↓zs_114_49, ↓zs_114_52, ↓zs_114_55, ↓zs_114_58, zx_pu_s, zx_pu_n, zx_rv_s, zx_rv_n, true_and, and_true, true_or, or_true, zb_0, zb_1, zq_lcl, zq_lcg, zq_lce, eq_self, ite_true, ite_false, zk_0, zw_0, zk_1, zw_1, zq_0_0, zq_0_1, zq_0_2, zq_0_3, zq_0_4, zq_0_5, zq_0_6, zq_0_7, zq_0_8, zq_0_9, zq_0_10, zq_0_11, zq_1_0, zq_1_1, zq_1_2, zq_1_3, zq_1_4, zq_1_5, zk_11, zw_11, zq_11_0, zq_11_1, zq_11_2, h1, c0]
    · rw [ze_223]
      have hb := fun x y z => sp_didBad (Lh := Lh) (I := zx_u I 138 0 (nI 0)) (J := J) (x := x) (y := y) (z := z)
      have c9 : ((-10 - nI 1 : Int32) < -1) = True := eq_true (by decide)
      cases c1 : zf_in x.toInt (zn (I 139)) with
      | false => simp (disch := omega) only [↓zs_223_0, ↓zs_223_1, ↓zs_223_2, ↓zs_223_5, ↓zs_223_6, ↓zs_223_7, ↓zs_223_8, ↓zs_223_9, ↓zs_223_10, ↓zs_223_13, ↓zs_223_16, ↓zs_223_17, ↓zs_223_18, ↓zs_223_19, ↓zs_223_22, ↓zs_223_25, ↓zs_223_26, ↓zs_223_29, ↓zs_223_30, ↓zs_223_33, ↓zs_223_35, ↓zs_223_36, ↓zs_223_37, ↓zs_223_38, ↓zs_223_39, ↓zs_223_40, ↓zs_223_42, ↓zs_223_45, ↓zs_223_46, ↓zs_223_47, ↓zs_223_48, ↓zs_223_51, ↓zs_223_52, ↓zs_223_55, ↓zs_223_56, ↓zs_223_59, ↓zs_223_62, zx_pu_s, zx_pu_n, zx_rv_s, zx_rv_n, true_and, and_true, true_or, or_true, zb_0, zb_1, zq_lcl, zq_lcg, zq_lce, eq_self, ite_true, ite_false, zk_138, zw_138, zk_139, zw_139, zk_140, zw_140, zk_141, zw_141, zk_142, zw_142, zk_143, zw_143, zk_144, zw_144, zk_145, zw_145, zk_146, zw_146, zk_147, zw_147, zk_148, zw_148, zk_149, zw_149, zk_150, zw_150, zk_151, zw_151, zk_152, zw_152, zq_138_1, zq_138_2, zq_138_3, zq_138_4, zq_138_16, zq_138_19, zq_138_20, zq_138_24, zq_138_25, zq_138_26, zq_138_27, zq_138_31, zq_138_32, zq_138_33, hx, c1, zB_0, hb, c9]
      | true =>
        rw [c1, Bool.true_and] at c
        simp (disch := omega) only [↓zs_223_0, ↓zs_223_1, ↓zs_223_2, ↓zs_223_5, ↓zs_223_6, ↓zs_223_7, ↓zs_223_8, ↓zs_223_9, ↓zs_223_10, ↓zs_223_13, ↓zs_223_16, ↓zs_223_17, ↓zs_223_18, ↓zs_223_19, ↓zs_223_22, ↓zs_223_25, ↓zs_223_26, ↓zs_223_29, ↓zs_223_30, ↓zs_223_33, ↓zs_223_35, ↓zs_223_36, ↓zs_223_37, ↓zs_223_38, ↓zs_223_39, ↓zs_223_40, ↓zs_223_42, ↓zs_223_45, ↓zs_223_46, ↓zs_223_47, ↓zs_223_48, ↓zs_223_51, ↓zs_223_52, ↓zs_223_55, ↓zs_223_56, ↓zs_223_59, ↓zs_223_62, zx_pu_s, zx_pu_n, zx_rv_s, zx_rv_n, true_and, and_true, true_or, or_true, zb_0, zb_1, zq_lcl, zq_lcg, zq_lce, eq_self, ite_true, ite_false, zk_138, zw_138, zk_139, zw_139, zk_140, zw_140, zk_141, zw_141, zk_142, zw_142, zk_143, zw_143, zk_144, zw_144, zk_145, zw_145, zk_146, zw_146, zk_147, zw_147, zk_148, zw_148, zk_149, zw_149, zk_150, zw_150, zk_151, zw_151, zk_152, zw_152, zq_138_1, zq_138_2, zq_138_3, zq_138_4, zq_138_16, zq_138_19, zq_138_20, zq_138_24, zq_138_25, zq_138_26, zq_138_27, zq_138_31, zq_138_32, zq_138_33, hx, hy, c1, c, zB_0, reduceCtorEq, hb, c9]
  | true =>
    rw [Bool.and_eq_true] at c
    obtain ⟨c1, c2⟩ := c
    have ex1 := zq_toI (x := x) rfl c1 (by omega)
    have ey1 := zq_toI (x := y) rfl c2 (by omega)
    have ha : x.toInt.toNat < zn (I 139) := by have := zf_inP.mp c1; omega
    have hb : y.toInt.toNat < zw (I 139) * zh (I 139) := by have := zf_inP.mp c2; omega
    rw [c1] at hx
    rw [c2] at hy
    generalize x.toInt.toNat = a at ex1 ha
    generalize y.toInt.toNat = b at ey1 hb
    subst ex1 ey1
    have hL := fun d P => sc_whyU (d := d) (Lh := Lh) (P := P) (s := a) (k := b) zx_st11 v.2.1 v.2.2.1 v.2.2.2.1 (by omega) (by omega)
    have en : zf_whyN (I 139) (1000 + 100 * a + b) = zf_wU (I 139) a b := by
      unfold zf_whyN
      rw [if_neg (by omega), if_neg (by omega), if_neg (by omega), if_neg (by omega), if_neg (by omega), if_neg (by omega), if_pos (by omega), show (1000 + 100 * a + b - 1000) / 100 = a by omega, show (1000 + 100 * a + b - 1000) % 100 = b by omega]
    have le := zf_wU_le (I 139) a b
    by_cases h0 : zf_wU (I 139) a b = 0
    · have edo : zf_doN (I 139) (1000 + 100 * a + b) = zu1 (I 139) (109 + a) (nI b) := by
        unfold zf_doN
        rw [if_neg (by omega), if_neg (by omega), if_neg (by omega), show (1000 + 100 * a + b - 1000) / 100 = a by omega, show (1000 + 100 * a + b - 1000) % 100 = b by omega]
      obtain ⟨Ik, k1, k2, k3⟩ := sc_keepSet (Lh := Lh) (c := 12) (f := a) (x := nI b) v he hD p1 p2 (.inl rfl) (by omega) rfl
      rw [if_neg (show ¬ (12 = 14) by decide)] at k3
      have eA : (zx_u (zx_u Ik 12 a (nI b)) 138 0 (nI 0)) 139 = I 139 := by
        rw [zu_139, zu_o (by decide)]
        funext j
        have := k3.1 139 j (by
          have : (e + D) % 10 < 10 := Nat.mod_lt _ (by omega)
          unfold zSc; omega)
        rw [zu_o (by decide)] at this
        exact this
      obtain ⟨I2, o2, h2⟩ := sp_did (Lh := Lh) (J := J) (n := 1000 + 100 * a + b) (s := a) (r := 109) eA v.2.1 hm (by omega) (by omega) (.inl rfl) hD p3 (by rw [en]; exact h0)
      rw [edo] at o2
      have hV := zf_do_V v.2.1 (u := lN (1000 + 100 * a + b)) (by omega) (by rw [zf_why_n (by omega), en]; exact h0)
      rw [(zf_do_n (B := I 139) (n := 1000 + 100 * a + b) (by omega)).1, edo] at hV
      have o3 : zMo (zx_u Ik 12 a (nI b)) I2 (zu1 (I 139) (109 + a) (nI b)) (I 139) D := by
        refine ⟨fun a2 j q => ?_, o2.2⟩
        rw [o2.1 a2 j q, zu_n (fun z => q (.inr (by unfold zSc; omega)))]
      have hx3 := fun d P => sp_isStatue (d := d) (Lh := Lh) (I := zx_u (zx_u Ik 12 a (nI b)) 138 0 (nI 0)) (J := J) (P := P) (nI a).toInt64 (by rw [eA]; exact ok.1.2.2.1) N8
      have hy3 := fun d P => sp_isStone (d := d) (Lh := Lh) (I := zx_u (zx_u Ik 12 a (nI b)) 138 0 (nI 0)) (J := J) (P := P) (nI b).toInt64 (by rw [eA]; exact ok.1.1) (by rw [eA]; exact ok.1.2.1) (by omega)
      rw [Int32.toInt_toInt64, zf_in_nI (by omega), decide_eq_true ha] at hx3
      rw [Int32.toInt_toInt64, zf_in_nI (by omega), decide_eq_true hb] at hy3
      -- how many are under a look then
      have sB := hV.2
      have vB := hV.1
      obtain ⟨b1, b2, b3, -⟩ := zSm_k sB
      have okB : zM_ok (zu1 (I 139) (109 + a) (nI b)) (zw (I 139)) (zh (I 139)) (zn (I 139)) := by
        have := vB.1
        rw [b1, b2, b3] at this
        exact this
      have sqc : zR_sq (zx_u Ik 12 a (nI b)) J 1 (I 139) := zR_sq_f v.2.2.1 (fun c j h1 h2 h3 h4 => by
        rw [zu_o (by omega), k2 c (by omega)]) (fun _ => rfl)
      have sic : zx_SI (zx_u Ik 12 a (nI b)) := fun c j hc => by
        have := k3.1 c j (by
          have : (e + D) % 10 < 10 := Nat.mod_lt _ (by omega)
          unfold zSc; omega)
        rw [this]
        exact v.1 c j hc
      have hun := fun d P => sc_under (d := d) (Lh := Lh) (J := J) (P := P) zx_sq1 zx_st11 sic (sqc.1.trans ok.1.1) (sqc.2.1.trans ok.1.2.1) (sqc.2.2.1.trans ok.1.2.2.1) (zR_ground_s sB gr) vB.2.1 k3.2.2.2.2 okB
      have exn := zf_note_ex (zu1 (I 139) (109 + a) (nI b)) (fun j => I 139 (109 + j)) hD
      obtain ⟨W, w1, w2⟩ := o3.2
      have exW := zf_note_ex (zu1 (I 139) (109 + a) (nI b)) W hD
      have vI2 : zV (I2 139) (m + 1) := by rw [w2]; exact zEx_V exW vB
      have si2 : zx_SI I2 := fun c j hc => by rw [o3.1 c j (by unfold zSc; omega)]; exact sic c j hc
      obtain ⟨x1, x2, x3, -⟩ := zEx_k exW
      have ok3 : zM_ok (I2 139) (zw (I 139)) (zh (I 139)) (zn (I 139)) := by
        have := vI2.1
        rw [w2, x1, x2, x3, b1, b2, b3] at this
        rw [w2]; exact this
      obtain ⟨I3, f3, h3⟩ := sp_under (Lh := Lh) (J := J) si2 ok3
      have eu : zf_under (I2 139) (zw (I 139)) (zh (I 139)) (zn (I 139)) = zf_under (zu1 (I 139) (109 + a) (nI b)) (zw (I 139)) (zh (I 139)) (zn (I 139)) := by
        rw [w2]
        exact zf_under_ex exW okB
      rw [eu] at h3
      have hI3 := zInv_scr (zScr_s f3) (zKM v (by omega) hV.2 hV.1 he hD p1 p2 p3 p4 k3 o3)
      have f12 : (I 139 (109 + a) < -1) = False := by
        rcases (ok.2 a (by omega)).1 with q | ⟨k, hk, q⟩
        · rw [q]; exact eq_false (by decide)
        · rw [q]; exact zq_m1lt (by omega)
      refine ⟨.int (nI (zf_cnt (zf_bit (zf_under (zu1 (I 139) (109 + a) (nI b)) (zw (I 139)) (zh (I 139)) (zn (I 139)))) 64 0)), zx_u Ik 12 a (nI b), J, I3, J, fun d P => ?_, fun d P => ?_, hI3⟩
      · rw [ze_114]
        simp (disch := omega) only [↓zs_114_0, ↓zs_114_1, ↓zs_114_4, ↓zs_114_5, ↓zs_114_8, ↓zs_114_9, ↓zs_114_10, ↓zs_114_13, ↓zs_114_14, ↓zs_114_15, ↓zs_114_18, ↓zs_114_20, ↓zs_114_21, ↓zs_114_22, ↓zs_114_23, ↓zs_114_24, ↓zs_114_27, ↓zs_114_28, ↓zs_114_31, ↓zs_114_34, ↓zs_114_35, ↓zs_114_38, ↓zs_114_41, ↓zs_114_42, ↓zs_114_43, ↓zs_114_44, ↓zs_114_45, ↓zs_114_48, ↓zs_114_49, ↓zs_114_52, ↓zs_114_55, ↓zs_114_58, zx_pu_s, zx_pu_n, zx_rv_s, zx_rv_n, true_and, and_true, true_or, or_true, zb_0, zb_1, zq_lcl, zq_lcg, zq_lce, eq_self, ite_true, ite_false, zk_0, zw_0, zk_1, zw_1, zq_0_0, zq_0_1, zq_0_2, zq_0_3, zq_0_4, zq_0_5, zq_0_6, zq_0_7, zq_0_8, zq_0_9, zq_0_10, zq_0_11, zq_1_0, zq_1_1, zq_1_2, zq_1_3, zq_1_4, zq_1_5, zk_11, zw_11, zk_12, zw_12, zk_13, zw_13, zk_14, zw_14, zq_11_0, zq_11_1, zq_11_2, zk_23, zw_23, zk_24, zw_24, zq_23_0, zq_24_0, zq_24_1, zq_24_2, zq_24_3, zq_24_4, zq_24_5, zq_24_6, zq_24_7, zq_24_8, zq_24_9, zin_nI, nI_clamp, hL, h0, k1, hun, zl_bitCount]
      · rw [ze_223]
        simp (disch := omega) only [↓zs_223_0, ↓zs_223_1, ↓zs_223_2, ↓zs_223_5, ↓zs_223_6, ↓zs_223_7, ↓zs_223_8, ↓zs_223_9, ↓zs_223_10, ↓zs_223_13, ↓zs_223_16, ↓zs_223_17, ↓zs_223_18, ↓zs_223_19, ↓zs_223_22, ↓zs_223_25, ↓zs_223_26, ↓zs_223_29, ↓zs_223_30, ↓zs_223_33, ↓zs_223_35, ↓zs_223_36, ↓zs_223_37, ↓zs_223_38, ↓zs_223_39, ↓zs_223_40, ↓zs_223_42, ↓zs_223_45, ↓zs_223_46, ↓zs_223_47, ↓zs_223_48, ↓zs_223_51, ↓zs_223_52, ↓zs_223_55, ↓zs_223_56, ↓zs_223_59, ↓zs_223_62, zx_pu_s, zx_pu_n, zx_rv_s, zx_rv_n, true_and, and_true, true_or, or_true, zb_0, zb_1, zq_lcl, zq_lcg, zq_lce, eq_self, ite_true, ite_false, zk_138, zw_138, zk_139, zw_139, zk_140, zw_140, zk_141, zw_141, zk_142, zw_142, zk_143, zw_143, zk_144, zw_144, zk_145, zw_145, zk_146, zw_146, zk_147, zw_147, zk_148, zw_148, zk_149, zw_149, zk_150, zw_150, zk_151, zw_151, zk_152, zw_152, zq_138_1, zq_138_2, zq_138_3, zq_138_4, zq_138_16, zq_138_19, zq_138_20, zq_138_24, zq_138_25, zq_138_26, zq_138_27, zq_138_31, zq_138_32, zq_138_33, hx3, hy3, zB_0, reduceCtorEq, pk_mul, nI_add, h2, f12, h3, sp_bits]
    · have h0' : (nI (zf_wU (I 139) a b) = nI 0) = False := zq_ne h0 (by omega) (by omega)
      have hd := sp_didNot (Lh := Lh) (J := J) (n := 1000 + 100 * a + b) (s := a) (r := 109) (zu_139 I 0 (nI 0)) v.2.1 (by omega) (by rw [en]; exact h0) (by rw [en]; exact le)
      rw [en] at hd
      have c9 : ((-10 - nI (zf_wU (I 139) a b) : Int32) < -1) = True := by
        rcases (show zf_wU (I 139) a b = 0 ∨ zf_wU (I 139) a b = 1 ∨ zf_wU (I 139) a b = 2 ∨ zf_wU (I 139) a b = 3 by omega) with q | q | q | q <;> rw [q] <;> exact eq_true (by decide)
      refine zQ_D (m := m) ⟨.int (-10 - nI (zf_wU (I 139) a b)), I, J, zx_u I 138 0 (nI 0), J, fun d P => ?_, fun d P => ?_, zScr_s (zFs_0 _ _)⟩ v (by omega)
      · rw [ze_114]
        simp (disch := omega) only [↓zs_114_0, ↓zs_114_1, ↓zs_114_4, ↓zs_114_5, ↓zs_114_8, ↓zs_114_9, ↓zs_114_10, ↓zs_114_13, ↓zs_114_14, ↓zs_114_15, ↓zs_114_18, ↓zs_114_20, ↓zs_114_21, ↓zs_114_22, ↓zs_114_23, ↓zs_114_24, ↓zs_114_27, ↓zs_114_28, ↓zs_114_31, ↓zs_114_34, ↓zs_114_35, ↓zs_114_38, ↓zs_114_41, ↓zs_114_42, ↓zs_114_43, ↓zs_114_44, ↓zs_114_45, ↓zs_114_48, ↓zs_114_49, ↓zs_114_52, ↓zs_114_55, ↓zs_114_58, zx_pu_s, zx_pu_n, zx_rv_s, zx_rv_n, true_and, and_true, true_or, or_true, zb_0, zb_1, zq_lcl, zq_lcg, zq_lce, eq_self, ite_true, ite_false, zk_0, zw_0, zk_1, zw_1, zq_0_0, zq_0_1, zq_0_2, zq_0_3, zq_0_4, zq_0_5, zq_0_6, zq_0_7, zq_0_8, zq_0_9, zq_0_10, zq_0_11, zq_1_0, zq_1_1, zq_1_2, zq_1_3, zq_1_4, zq_1_5, zk_11, zw_11, zk_12, zw_12, zk_13, zw_13, zk_14, zw_14, zq_11_0, zq_11_1, zq_11_2, hL, h0']
      · rw [ze_223]
        simp (disch := omega) only [↓zs_223_0, ↓zs_223_1, ↓zs_223_2, ↓zs_223_5, ↓zs_223_6, ↓zs_223_7, ↓zs_223_8, ↓zs_223_9, ↓zs_223_10, ↓zs_223_13, ↓zs_223_16, ↓zs_223_17, ↓zs_223_18, ↓zs_223_19, ↓zs_223_22, ↓zs_223_25, ↓zs_223_26, ↓zs_223_29, ↓zs_223_30, ↓zs_223_33, ↓zs_223_35, ↓zs_223_36, ↓zs_223_37, ↓zs_223_38, ↓zs_223_39, ↓zs_223_40, ↓zs_223_42, ↓zs_223_45, ↓zs_223_46, ↓zs_223_47, ↓zs_223_48, ↓zs_223_51, ↓zs_223_52, ↓zs_223_55, ↓zs_223_56, ↓zs_223_59, ↓zs_223_62, zx_pu_s, zx_pu_n, zx_rv_s, zx_rv_n, true_and, and_true, true_or, or_true, zb_0, zb_1, zq_lcl, zq_lcg, zq_lce, eq_self, ite_true, ite_false, zk_138, zw_138, zk_139, zw_139, zk_140, zw_140, zk_141, zw_141, zk_142, zw_142, zk_143, zw_143, zk_144, zw_144, zk_145, zw_145, zk_146, zw_146, zk_147, zw_147, zk_148, zw_148, zk_149, zw_149, zk_150, zw_150, zk_151, zw_151, zk_152, zw_152, zq_138_1, zq_138_2, zq_138_3, zq_138_4, zq_138_16, zq_138_19, zq_138_20, zq_138_24, zq_138_25, zq_138_26, zq_138_27, zq_138_31, zq_138_32, zq_138_33, hx, hy, zB_0, reduceCtorEq, pk_mul, nI_add, hd, c9]
end PD
