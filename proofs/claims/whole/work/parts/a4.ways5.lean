/-! way, reach: the calls -/
section QW
variable {Lh m : Nat} {I : zx_MI} {J : zx_MJ}
theorem zScr_w {I I2 : zx_MI} {J J2 : zx_MJ} (f : zFc 71 I I2) (fJ : ∀ a j, ¬ ((a = 70 ∧ 5 ≤ j ∧ j ≤ 7) ∨ a = 75) → J2 a j = J a j) : zScr I J I2 J2 := ⟨fun a j n => f a j (by unfold zSc at n; omega), fun a j n => fJ a j (by omega)⟩
theorem zScr_k {I I2 : zx_MI} {J J2 : zx_MJ} (f : zFk I I2) (e : I2 139 = I 139) (fJ : ∀ a, a ≠ 146 → J2 a = J a) : zScr I J I2 J2 := ⟨fun a j n => by
  by_cases q : a = 139
  · subst q; rw [e]
  · exact f a j (by unfold zSc at n; omega), fun a j n => congrFun (fJ a (by omega)) j⟩
/-- the class's look ahead -/
theorem sc_lookAhead (v : zInv I J m) (hm : m < 2 ^ 29) (w0 : 0 < zw (I 139)) : ∃ I2 J2, zScr I J I2 J2 ∧ zLc I2 J2 (I 139) ∧ ∀ d P, zx_rn (d + 8) 91 [.ref 70, .ref 1, .ref 11] (zx_LL Lh) I J P = P none (zx_LL Lh) I2 J2 := by
  obtain ⟨⟨hw, hh, hN⟩, gr, g, ex, ok, N8, wh⟩ := zInv_k v
  obtain ⟨I2, J2, f2, fJ2, z2, g2, h2⟩ := sc_foresee (Lh := Lh) v hm w0
  exact ⟨I2, J2, zScr_w f2 fJ2, ⟨z2, (f2 1 6 (by decide)).trans hw, g2⟩, h2⟩
/-- the model's look ahead -/
theorem sp_lookAhead {n : Nat} (v : zInv I J m) (hm : m < 2 ^ 29) (hn : n ≤ 40) : ∃ I2 J2, zScr I J I2 J2 ∧ zLm I2 J2 (I 139) n ∧ ∀ d P, zx_rn (d + 9) 241 [.ref 138, .int (nI n)] (zx_LL Lh) (zx_u I 138 0 (nI 0)) J P = P none (zx_LL Lh) I2 J2 := by
  have si : zx_SI (zx_u I 138 0 (nI 0)) := zx_SI_u v.1 (by decide)
  obtain ⟨I2, J2, f2, e2, fJ2, g2, h2⟩ := sp_laysOpen (Lh := Lh) (I := zx_u I 138 0 (nI 0)) (J := J) (B := I 139) (n := n) si v.2.1 (by omega) (by rw [zu_139]) hn
  have f2' : zFk I I2 := zFk_t (fun a j w => zu_n (by omega)) f2
  exact ⟨I2, J2, zScr_k f2' e2 fJ2, ⟨zFk_si f2' v.1, e2, g2⟩, h2⟩
/-- both ends, where they are STONES: as numbers -/
theorem zq_in2 {x : Int32} {n : Nat} (c : zf_in x.toInt n = true) (hn : n ≤ 64) : ∃ q, q < n ∧ q < 64 ∧ x = nI q := by
  have e := zq_toI (x := x) rfl c (by omega)
  have hq : x.toInt.toNat < n := by have := zf_inP.mp c; omega
  exact ⟨_, hq, by omega, e⟩
def zf_way (x y : Int32) (B : Nat → Int32) : Int32 := if (zf_in x.toInt (zw B * zh B) && zf_in y.toInt (zw B * zh B)) = true then (if (zf_taken B (zn B) x.toInt.toNat || zf_taken B (zn B) y.toInt.toNat) = true then -5 else zf_fewest B x.toInt.toNat y.toInt.toNat) else -2
theorem c_way (hm : m < 2 ^ 29) (x y : Int32) : zCq Lh 127 [.int x, .int y] (fun B => .int (zf_way x y B)) m := by
  intro I J v
  obtain ⟨⟨hw, hh, hN⟩, gr, g, ex, ok, N8, wh⟩ := zInv_k v
  have h1 := fun d P => sc_hasStone (d := d) (Lh := Lh) (I := I) (J := J) (P := P) zx_sq1 x hw hh wh
  have h2 := fun d P => sc_hasStone (d := d) (Lh := Lh) (I := I) (J := J) (P := P) zx_sq1 y hw hh wh
  unfold zf_way
  dsimp only
  cases c1 : zf_in x.toInt (zw (I 139) * zh (I 139)) with
  | false =>
    rw [c1] at h1
    refine ⟨I, J, zScr_r _ _, fun d P => ?_⟩
    rw [ze_127]
    simp (disch := omega) only [↓zs_127_0, ↓zs_127_1, ↓zs_127_4, ↓zs_127_5, ↓zs_127_8, ↓zs_127_11, ↓zs_127_12, ↓zs_127_15, ↓zs_127_16, ↓zs_127_19, ↓zs_127_22, ↓zs_127_24, zx_pu_s, zx_pu_n, zx_rv_s, zx_rv_n, true_and, and_true, true_or, or_true, zb_0, zb_1, zq_lcl, zq_lcg, zq_lce, eq_self, ite_true, ite_false, zk_0, zw_0, zk_1, zw_1, zq_0_0, zq_0_1, zq_0_2, zq_0_3, zq_0_4, zq_0_5, zq_0_6, zq_0_7, zq_0_8, zq_0_9, zq_0_10, zq_0_11, zq_1_0, zq_1_1, zq_1_2, zq_1_3, zq_1_4, zq_1_5, h1, zB_0, reduceCtorEq, Bool.false_and, if_false]
  | true =>
    rw [c1] at h1
    cases c2 : zf_in y.toInt (zw (I 139) * zh (I 139)) with
    | false =>
      rw [c2] at h2
      refine ⟨I, J, zScr_r _ _, fun d P => ?_⟩
      rw [ze_127]
      simp (disch := omega) only [↓zs_127_0, ↓zs_127_1, ↓zs_127_4, ↓zs_127_5, ↓zs_127_8, ↓zs_127_11, ↓zs_127_12, ↓zs_127_15, ↓zs_127_16, ↓zs_127_19, ↓zs_127_22, ↓zs_127_24, zx_pu_s, zx_pu_n, zx_rv_s, zx_rv_n, true_and, and_true, true_or, or_true, zb_0, zb_1, zq_lcl, zq_lcg, zq_lce, eq_self, ite_true, ite_false, zk_0, zw_0, zk_1, zw_1, zq_0_0, zq_0_1, zq_0_2, zq_0_3, zq_0_4, zq_0_5, zq_0_6, zq_0_7, zq_0_8, zq_0_9, zq_0_10, zq_0_11, zq_1_0, zq_1_1, zq_1_2, zq_1_3, zq_1_4, zq_1_5, h1, h2, zB_0, reduceCtorEq, Bool.and_false, if_false]
    | true =>
      rw [c2] at h2
      obtain ⟨q, hq, q64, rfl⟩ := zq_in2 c1 wh
      obtain ⟨t, ht, t64, rfl⟩ := zq_in2 c2 wh
      rw [nI_toInt (by omega), nI_toInt (by omega), Int.toNat_natCast, Int.toNat_natCast]
      have w0 : 0 < zw (I 139) := Nat.pos_of_ne_zero (fun e => by rw [e, Nat.zero_mul] at hq; omega)
      have k1 := fun d P => sc_isTaken (d := d) (Lh := Lh) (I := I) (J := J) (P := P) zx_sq1 zx_st11 gr g v.2.2.2.1 ok q64
      have k2 := fun d P => sc_isTaken (d := d) (Lh := Lh) (I := I) (J := J) (P := P) zx_sq1 zx_st11 gr g v.2.2.2.1 ok t64
      rw [Bool.true_and, if_pos rfl]
      cases c3 : zf_taken (I 139) (zn (I 139)) q with
      | true =>
        rw [c3] at k1
        refine ⟨I, J, zScr_r _ _, fun d P => ?_⟩
        rw [ze_127]
        simp (disch := omega) only [↓zs_127_0, ↓zs_127_1, ↓zs_127_4, ↓zs_127_5, ↓zs_127_8, ↓zs_127_11, ↓zs_127_12, ↓zs_127_15, ↓zs_127_16, ↓zs_127_19, ↓zs_127_22, ↓zs_127_24, zx_pu_s, zx_pu_n, zx_rv_s, zx_rv_n, true_and, and_true, true_or, or_true, zb_0, zb_1, zq_lcl, zq_lcg, zq_lce, eq_self, ite_true, ite_false, zk_0, zw_0, zk_1, zw_1, zq_0_0, zq_0_1, zq_0_2, zq_0_3, zq_0_4, zq_0_5, zq_0_6, zq_0_7, zq_0_8, zq_0_9, zq_0_10, zq_0_11, zq_1_0, zq_1_1, zq_1_2, zq_1_3, zq_1_4, zq_1_5, zk_11, zw_11, zq_11_0, zq_11_1, zq_11_2, h1, h2, k1, zB_0, reduceCtorEq, Bool.true_or, if_true]
        simp (disch := omega) only [↓zs_127_25, ↓zs_127_26, ↓zs_127_29, ↓zs_127_30, ↓zs_127_33, ↓zs_127_34, ↓zs_127_37, ↓zs_127_40, ↓zs_127_41, ↓zs_127_44, ↓zs_127_45, ↓zs_127_48, ↓zs_127_49, ↓zs_127_52, ↓zs_127_55, ↓zs_127_57, zx_pu_s, zx_pu_n, zx_rv_s, zx_rv_n, true_and, and_true, true_or, or_true, zb_0, zb_1, zq_lcl, zq_lcg, zq_lce, eq_self, ite_true, ite_false, zk_0, zw_0, zk_1, zw_1, zq_0_0, zq_0_1, zq_0_2, zq_0_3, zq_0_4, zq_0_5, zq_0_6, zq_0_7, zq_0_8, zq_0_9, zq_0_10, zq_0_11, zq_1_0, zq_1_1, zq_1_2, zq_1_3, zq_1_4, zq_1_5, zk_11, zw_11, zq_11_0, zq_11_1, zq_11_2, h1, h2, k1, zB_0, reduceCtorEq, Bool.true_or, if_true]
      | false =>
        rw [c3] at k1
        cases c4 : zf_taken (I 139) (zn (I 139)) t with
        | true =>
          rw [c4] at k2
          refine ⟨I, J, zScr_r _ _, fun d P => ?_⟩
          rw [ze_127]
          simp (disch := omega) only [↓zs_127_0, ↓zs_127_1, ↓zs_127_4, ↓zs_127_5, ↓zs_127_8, ↓zs_127_11, ↓zs_127_12, ↓zs_127_15, ↓zs_127_16, ↓zs_127_19, ↓zs_127_22, ↓zs_127_24, zx_pu_s, zx_pu_n, zx_rv_s, zx_rv_n, true_and, and_true, true_or, or_true, zb_0, zb_1, zq_lcl, zq_lcg, zq_lce, eq_self, ite_true, ite_false, zk_0, zw_0, zk_1, zw_1, zq_0_0, zq_0_1, zq_0_2, zq_0_3, zq_0_4, zq_0_5, zq_0_6, zq_0_7, zq_0_8, zq_0_9, zq_0_10, zq_0_11, zq_1_0, zq_1_1, zq_1_2, zq_1_3, zq_1_4, zq_1_5, zk_11, zw_11, zq_11_0, zq_11_1, zq_11_2, h1, h2, k1, k2, zB_0, reduceCtorEq, Bool.or_true, if_true]
          simp (disch := omega) only [↓zs_127_25, ↓zs_127_26, ↓zs_127_29, ↓zs_127_30, ↓zs_127_33, ↓zs_127_34, ↓zs_127_37, ↓zs_127_40, ↓zs_127_41, ↓zs_127_44, ↓zs_127_45, ↓zs_127_48, ↓zs_127_49, ↓zs_127_52, ↓zs_127_55, ↓zs_127_57, zx_pu_s, zx_pu_n, zx_rv_s, zx_rv_n, true_and, and_true, true_or, or_true, zb_0, zb_1, zq_lcl, zq_lcg, zq_lce, eq_self, ite_true, ite_false, zk_0, zw_0, zk_1, zw_1, zq_0_0, zq_0_1, zq_0_2, zq_0_3, zq_0_4, zq_0_5, zq_0_6, zq_0_7, zq_0_8, zq_0_9, zq_0_10, zq_0_11, zq_1_0, zq_1_1, zq_1_2, zq_1_3, zq_1_4, zq_1_5, zk_11, zw_11, zq_11_0, zq_11_1, zq_11_2, h1, h2, k1, k2, zB_0, reduceCtorEq, Bool.or_true, if_true]
        | false =>
          rw [c4] at k2
          obtain ⟨I2, J2, s2, z2, h3⟩ := sc_lookAhead (Lh := Lh) v hm w0
          have h4 := sc_fewest (Lh := Lh) (t := t) z2 v.2.1 hq t64
          refine ⟨I2, J2, s2, fun d P => ?_⟩
          rw [ze_127]
          simp (disch := omega) only [↓zs_127_0, ↓zs_127_1, ↓zs_127_4, ↓zs_127_5, ↓zs_127_8, ↓zs_127_11, ↓zs_127_12, ↓zs_127_15, ↓zs_127_16, ↓zs_127_19, ↓zs_127_22, ↓zs_127_24, zx_pu_s, zx_pu_n, zx_rv_s, zx_rv_n, true_and, and_true, true_or, or_true, zb_0, zb_1, zq_lcl, zq_lcg, zq_lce, eq_self, ite_true, ite_false, zk_0, zw_0, zk_1, zw_1, zq_0_0, zq_0_1, zq_0_2, zq_0_3, zq_0_4, zq_0_5, zq_0_6, zq_0_7, zq_0_8, zq_0_9, zq_0_10, zq_0_11, zq_1_0, zq_1_1, zq_1_2, zq_1_3, zq_1_4, zq_1_5, zk_11, zw_11, zq_11_0, zq_11_1, zq_11_2, h1, h2, k1, k2, zB_0, reduceCtorEq]
          simp (disch := omega) only [↓zs_127_25, ↓zs_127_26, ↓zs_127_29, ↓zs_127_30, ↓zs_127_33, ↓zs_127_34, ↓zs_127_37, ↓zs_127_40, ↓zs_127_41, ↓zs_127_44, ↓zs_127_45, ↓zs_127_48, ↓zs_127_49, ↓zs_127_52, ↓zs_127_55, ↓zs_127_57, zx_pu_s, zx_pu_n, zx_rv_s, zx_rv_n, true_and, and_true, true_or, or_true, zb_0, zb_1, zq_lcl, zq_lcg, zq_lce, eq_self, ite_true, ite_false, zk_0, zw_0, zk_1, zw_1, zq_0_0, zq_0_1, zq_0_2, zq_0_3, zq_0_4, zq_0_5, zq_0_6, zq_0_7, zq_0_8, zq_0_9, zq_0_10, zq_0_11, zq_1_0, zq_1_1, zq_1_2, zq_1_3, zq_1_4, zq_1_5, zk_11, zw_11, zq_11_0, zq_11_1, zq_11_2, h1, h2, k1, k2, zB_0, reduceCtorEq]
          simp (disch := omega) only [↓zs_127_58, ↓zs_127_59, ↓zs_127_62, ↓zs_127_63, ↓zs_127_66, ↓zs_127_67, ↓zs_127_70, zx_pu_s, zx_pu_n, zx_rv_s, zx_rv_n, true_and, and_true, true_or, or_true, zb_0, zb_1, zq_lcl, zq_lcg, zq_lce, eq_self, ite_true, ite_false, zk_0, zw_0, zk_1, zw_1, zq_0_0, zq_0_1, zq_0_2, zq_0_3, zq_0_4, zq_0_5, zq_0_6, zq_0_7, zq_0_8, zq_0_9, zq_0_10, zq_0_11, zq_1_0, zq_1_1, zq_1_2, zq_1_3, zq_1_4, zq_1_5, zk_11, zw_11, zq_11_0, zq_11_1, zq_11_2, zk_70, zw_70, zq_70_0, zq_70_1, zq_70_2, zq_70_3, zq_70_4, h3]
          rw [Bool.or_false, if_neg (show ¬ false = true by decide)]
          simp (disch := omega) only [↓zs_127_73, ↓zs_127_74, ↓zs_127_77, ↓zs_127_78, ↓zs_127_81, ↓zs_127_82, ↓zs_127_83, ↓zs_127_86, zx_pu_s, zx_pu_n, zx_rv_s, zx_rv_n, true_and, and_true, true_or, or_true, zb_0, zb_1, zq_lcl, zq_lcg, zq_lce, eq_self, ite_true, ite_false, zk_0, zw_0, zk_1, zw_1, zq_0_0, zq_0_1, zq_0_2, zq_0_3, zq_0_4, zq_0_5, zq_0_6, zq_0_7, zq_0_8, zq_0_9, zq_0_10, zq_0_11, zq_1_0, zq_1_1, zq_1_2, zq_1_3, zq_1_4, zq_1_5, zk_11, zw_11, zq_11_0, zq_11_1, zq_11_2, zk_70, zw_70, zq_70_0, zq_70_1, zq_70_2, zq_70_3, zq_70_4, h4]
theorem sp_taken2 {B : Nat → Int32} {I : zx_MI} {k : Nat} (eB : I 139 = B) (v : zV B m) (hk : k < 64) : ∀ d P, zx_rn (d + 1) 187 [.ref 138, .int (nI k)] (zx_LL Lh) I J P = P (some (.int (zB (zf_taken B (zn B) k)))) (zx_LL Lh) I J := fun d P => by
  have q := sp_isTaken (d := d) (Lh := Lh) (I := I) (J := J) (P := P) (k := k) (N := zn B) (by omega) v.1.1.2.2.2.2.2 (by rw [eB]; exact v.1.1.2.2.1)
  rw [eB] at q
  exact q
theorem m_way (hm : m < 2 ^ 29) (x y : Int32) : zMq Lh 245 [.int x, .int y] (fun B => .int (zf_way x y B)) m := by
  intro I J v
  obtain ⟨⟨hw, hh, hN⟩, gr, g, ex, ok, N8, wh⟩ := zInv_k v
  have ok2 : zM_ok (zx_u I 138 0 (nI 0) 139) (zw (I 139)) (zh (I 139)) (zn (I 139)) := by rw [zu_139]; exact ok
  have h1 := fun d P => sp_isStone (d := d) (Lh := Lh) (J := J) (P := P) x.toInt64 ok2.1.1 ok2.1.2.1 (by omega)
  have h2 := fun d P => sp_isStone (d := d) (Lh := Lh) (J := J) (P := P) y.toInt64 ok2.1.1 ok2.1.2.1 (by omega)
  rw [Int32.toInt_toInt64] at h1 h2
  have n2 : ((-2 : Int32) = nI 0) = False := eq_false (by decide)
  have n5 : ((-5 : Int32) = nI 0) = False := eq_false (by decide)
  unfold zf_way
  dsimp only
  cases c1 : zf_in x.toInt (zw (I 139) * zh (I 139)) with
  | false =>
    rw [c1] at h1
    refine ⟨zx_u I 138 0 (nI 0), J, zScr_s (zFs_0 _ _), fun d P => ?_⟩
    have h3 : ∀ d P, zx_rn (d + 10) 243 [.ref 138, .int x, .int y] (zx_LL Lh) (zx_u I 138 0 (nI 0)) J P = P (some (.int (-2))) (zx_LL Lh) (zx_u I 138 0 (nI 0)) J := fun d P => by
      rw [ze_243]
      simp (disch := omega) only [↓zs_243_0, ↓zs_243_1, ↓zs_243_2, ↓zs_243_3, ↓zs_243_6, ↓zs_243_9, ↓zs_243_10, ↓zs_243_11, ↓zs_243_12, ↓zs_243_15, ↓zs_243_18, ↓zs_243_20, ↓zs_243_21, ↓zs_243_22, ↓zs_243_23, ↓zs_243_26, ↓zs_243_29, ↓zs_243_30, ↓zs_243_31, ↓zs_243_34, ↓zs_243_37, ↓zs_243_39, ↓zs_243_42, ↓zs_243_43, zx_pu_s, zx_pu_n, zx_rv_s, zx_rv_n, true_and, and_true, true_or, or_true, zb_0, zb_1, zq_lcl, zq_lcg, zq_lce, eq_self, ite_true, ite_false, zk_138, zw_138, zk_139, zw_139, zk_140, zw_140, zk_141, zw_141, zk_142, zw_142, zk_143, zw_143, zk_144, zw_144, zk_145, zw_145, zk_146, zw_146, zk_147, zw_147, zk_148, zw_148, zk_149, zw_149, zk_150, zw_150, zk_151, zw_151, zk_152, zw_152, zq_138_1, zq_138_2, zq_138_3, zq_138_4, zq_138_16, zq_138_19, zq_138_20, zq_138_24, zq_138_25, zq_138_26, zq_138_27, zq_138_31, zq_138_32, zq_138_33, h1, zB_0, reduceCtorEq]
    rw [ze_245]
    simp (disch := omega) only [↓zs_245_0, ↓zs_245_1, ↓zs_245_2, ↓zs_245_5, ↓zs_245_6, ↓zs_245_7, ↓zs_245_8, ↓zs_245_11, ↓zs_245_12, ↓zs_245_13, ↓zs_245_16, ↓zs_245_17, ↓zs_245_20, ↓zs_245_21, ↓zs_245_22, ↓zs_245_23, ↓zs_245_26, zx_pu_s, zx_pu_n, zx_rv_s, zx_rv_n, true_and, and_true, true_or, or_true, zb_0, zb_1, zq_lcl, zq_lcg, zq_lce, eq_self, ite_true, ite_false, zk_138, zw_138, zk_139, zw_139, zk_140, zw_140, zk_141, zw_141, zk_142, zw_142, zk_143, zw_143, zk_144, zw_144, zk_145, zw_145, zk_146, zw_146, zk_147, zw_147, zk_148, zw_148, zk_149, zw_149, zk_150, zw_150, zk_151, zw_151, zk_152, zw_152, zq_138_1, zq_138_2, zq_138_3, zq_138_4, zq_138_16, zq_138_19, zq_138_20, zq_138_24, zq_138_25, zq_138_26, zq_138_27, zq_138_31, zq_138_32, zq_138_33, h3, n2, reduceCtorEq, Bool.false_and, if_false]
  | true =>
    rw [c1] at h1
    cases c2 : zf_in y.toInt (zw (I 139) * zh (I 139)) with
    | false =>
      rw [c2] at h2
      refine ⟨zx_u I 138 0 (nI 0), J, zScr_s (zFs_0 _ _), fun d P => ?_⟩
      have h3 : ∀ d P, zx_rn (d + 10) 243 [.ref 138, .int x, .int y] (zx_LL Lh) (zx_u I 138 0 (nI 0)) J P = P (some (.int (-2))) (zx_LL Lh) (zx_u I 138 0 (nI 0)) J := fun d P => by
        rw [ze_243]
        simp (disch := omega) only [↓zs_243_0, ↓zs_243_1, ↓zs_243_2, ↓zs_243_3, ↓zs_243_6, ↓zs_243_9, ↓zs_243_10, ↓zs_243_11, ↓zs_243_12, ↓zs_243_15, ↓zs_243_18, ↓zs_243_20, ↓zs_243_21, ↓zs_243_22, ↓zs_243_23, ↓zs_243_26, ↓zs_243_29, ↓zs_243_30, ↓zs_243_31, ↓zs_243_34, ↓zs_243_37, ↓zs_243_39, ↓zs_243_42, ↓zs_243_43, zx_pu_s, zx_pu_n, zx_rv_s, zx_rv_n, true_and, and_true, true_or, or_true, zb_0, zb_1, zq_lcl, zq_lcg, zq_lce, eq_self, ite_true, ite_false, zk_138, zw_138, zk_139, zw_139, zk_140, zw_140, zk_141, zw_141, zk_142, zw_142, zk_143, zw_143, zk_144, zw_144, zk_145, zw_145, zk_146, zw_146, zk_147, zw_147, zk_148, zw_148, zk_149, zw_149, zk_150, zw_150, zk_151, zw_151, zk_152, zw_152, zq_138_1, zq_138_2, zq_138_3, zq_138_4, zq_138_16, zq_138_19, zq_138_20, zq_138_24, zq_138_25, zq_138_26, zq_138_27, zq_138_31, zq_138_32, zq_138_33, h1, h2, zB_0, reduceCtorEq]
      rw [ze_245]
      simp (disch := omega) only [↓zs_245_0, ↓zs_245_1, ↓zs_245_2, ↓zs_245_5, ↓zs_245_6, ↓zs_245_7, ↓zs_245_8, ↓zs_245_11, ↓zs_245_12, ↓zs_245_13, ↓zs_245_16, ↓zs_245_17, ↓zs_245_20, ↓zs_245_21, ↓zs_245_22, ↓zs_245_23, ↓zs_245_26, zx_pu_s, zx_pu_n, zx_rv_s, zx_rv_n, true_and, and_true, true_or, or_true, zb_0, zb_1, zq_lcl, zq_lcg, zq_lce, eq_self, ite_true, ite_false, zk_138, zw_138, zk_139, zw_139, zk_140, zw_140, zk_141, zw_141, zk_142, zw_142, zk_143, zw_143, zk_144, zw_144, zk_145, zw_145, zk_146, zw_146, zk_147, zw_147, zk_148, zw_148, zk_149, zw_149, zk_150, zw_150, zk_151, zw_151, zk_152, zw_152, zq_138_1, zq_138_2, zq_138_3, zq_138_4, zq_138_16, zq_138_19, zq_138_20, zq_138_24, zq_138_25, zq_138_26, zq_138_27, zq_138_31, zq_138_32, zq_138_33, h3, n2, reduceCtorEq, Bool.and_false, if_false]
    | true =>
      rw [c2] at h2
      obtain ⟨q, hq, q64, rfl⟩ := zq_in2 c1 wh
      obtain ⟨t, ht, t64, rfl⟩ := zq_in2 c2 wh
      rw [nI_toInt (by omega), nI_toInt (by omega), Int.toNat_natCast, Int.toNat_natCast]
      have k1 := sp_taken2 (Lh := Lh) (J := J) (zu_139 I 0 (nI 0)) v.2.1 q64
      have k2 := sp_taken2 (Lh := Lh) (J := J) (zu_139 I 0 (nI 0)) v.2.1 t64
      rw [Bool.true_and, if_pos rfl]
      cases c3 : zf_taken (I 139) (zn (I 139)) q with
      | true =>
        rw [c3] at k1
        refine ⟨zx_u I 138 0 (nI 0), J, zScr_s (zFs_0 _ _), fun d P => ?_⟩
        have h3 : ∀ d P, zx_rn (d + 10) 243 [.ref 138, .int (nI q), .int (nI t)] (zx_LL Lh) (zx_u I 138 0 (nI 0)) J P = P (some (.int (-5))) (zx_LL Lh) (zx_u I 138 0 (nI 0)) J := fun d P => by
          rw [ze_243]
          simp (disch := omega) only [↓zs_243_0, ↓zs_243_1, ↓zs_243_2, ↓zs_243_3, ↓zs_243_6, ↓zs_243_9, ↓zs_243_10, ↓zs_243_11, ↓zs_243_12, ↓zs_243_15, ↓zs_243_18, ↓zs_243_20, zx_pu_s, zx_pu_n, zx_rv_s, zx_rv_n, true_and, and_true, true_or, or_true, zb_0, zb_1, zq_lcl, zq_lcg, zq_lce, eq_self, ite_true, ite_false, zk_138, zw_138, zk_139, zw_139, zk_140, zw_140, zk_141, zw_141, zk_142, zw_142, zk_143, zw_143, zk_144, zw_144, zk_145, zw_145, zk_146, zw_146, zk_147, zw_147, zk_148, zw_148, zk_149, zw_149, zk_150, zw_150, zk_151, zw_151, zk_152, zw_152, zq_138_1, zq_138_2, zq_138_3, zq_138_4, zq_138_16, zq_138_19, zq_138_20, zq_138_24, zq_138_25, zq_138_26, zq_138_27, zq_138_31, zq_138_32, zq_138_33, h1, h2, k1, zB_0, reduceCtorEq]
          simp (disch := omega) only [↓zs_243_21, ↓zs_243_22, ↓zs_243_23, ↓zs_243_26, ↓zs_243_29, ↓zs_243_30, ↓zs_243_31, ↓zs_243_34, ↓zs_243_37, ↓zs_243_39, ↓zs_243_42, ↓zs_243_43, zx_pu_s, zx_pu_n, zx_rv_s, zx_rv_n, true_and, and_true, true_or, or_true, zb_0, zb_1, zq_lcl, zq_lcg, zq_lce, eq_self, ite_true, ite_false, zk_138, zw_138, zk_139, zw_139, zk_140, zw_140, zk_141, zw_141, zk_142, zw_142, zk_143, zw_143, zk_144, zw_144, zk_145, zw_145, zk_146, zw_146, zk_147, zw_147, zk_148, zw_148, zk_149, zw_149, zk_150, zw_150, zk_151, zw_151, zk_152, zw_152, zq_138_1, zq_138_2, zq_138_3, zq_138_4, zq_138_16, zq_138_19, zq_138_20, zq_138_24, zq_138_25, zq_138_26, zq_138_27, zq_138_31, zq_138_32, zq_138_33, h1, h2, k1, zB_0, reduceCtorEq]
        rw [ze_245]
        simp (disch := omega) only [↓zs_245_0, ↓zs_245_1, ↓zs_245_2, ↓zs_245_5, ↓zs_245_6, ↓zs_245_7, ↓zs_245_8, ↓zs_245_11, ↓zs_245_12, ↓zs_245_13, ↓zs_245_16, ↓zs_245_17, ↓zs_245_20, ↓zs_245_21, ↓zs_245_22, ↓zs_245_23, ↓zs_245_26, zx_pu_s, zx_pu_n, zx_rv_s, zx_rv_n, true_and, and_true, true_or, or_true, zb_0, zb_1, zq_lcl, zq_lcg, zq_lce, eq_self, ite_true, ite_false, zk_138, zw_138, zk_139, zw_139, zk_140, zw_140, zk_141, zw_141, zk_142, zw_142, zk_143, zw_143, zk_144, zw_144, zk_145, zw_145, zk_146, zw_146, zk_147, zw_147, zk_148, zw_148, zk_149, zw_149, zk_150, zw_150, zk_151, zw_151, zk_152, zw_152, zq_138_1, zq_138_2, zq_138_3, zq_138_4, zq_138_16, zq_138_19, zq_138_20, zq_138_24, zq_138_25, zq_138_26, zq_138_27, zq_138_31, zq_138_32, zq_138_33, h3, n5, reduceCtorEq, Bool.true_or, if_true]
      | false =>
        rw [c3] at k1
        cases c4 : zf_taken (I 139) (zn (I 139)) t with
        | true =>
          rw [c4] at k2
          refine ⟨zx_u I 138 0 (nI 0), J, zScr_s (zFs_0 _ _), fun d P => ?_⟩
          have h3 : ∀ d P, zx_rn (d + 10) 243 [.ref 138, .int (nI q), .int (nI t)] (zx_LL Lh) (zx_u I 138 0 (nI 0)) J P = P (some (.int (-5))) (zx_LL Lh) (zx_u I 138 0 (nI 0)) J := fun d P => by
            rw [ze_243]
            simp (disch := omega) only [↓zs_243_0, ↓zs_243_1, ↓zs_243_2, ↓zs_243_3, ↓zs_243_6, ↓zs_243_9, ↓zs_243_10, ↓zs_243_11, ↓zs_243_12, ↓zs_243_15, ↓zs_243_18, ↓zs_243_20, zx_pu_s, zx_pu_n, zx_rv_s, zx_rv_n, true_and, and_true, true_or, or_true, zb_0, zb_1, zq_lcl, zq_lcg, zq_lce, eq_self, ite_true, ite_false, zk_138, zw_138, zk_139, zw_139, zk_140, zw_140, zk_141, zw_141, zk_142, zw_142, zk_143, zw_143, zk_144, zw_144, zk_145, zw_145, zk_146, zw_146, zk_147, zw_147, zk_148, zw_148, zk_149, zw_149, zk_150, zw_150, zk_151, zw_151, zk_152, zw_152, zq_138_1, zq_138_2, zq_138_3, zq_138_4, zq_138_16, zq_138_19, zq_138_20, zq_138_24, zq_138_25, zq_138_26, zq_138_27, zq_138_31, zq_138_32, zq_138_33, h1, h2, k1, k2, zB_0, reduceCtorEq]
            simp (disch := omega) only [↓zs_243_21, ↓zs_243_22, ↓zs_243_23, ↓zs_243_26, ↓zs_243_29, ↓zs_243_30, ↓zs_243_31, ↓zs_243_34, ↓zs_243_37, ↓zs_243_39, ↓zs_243_42, ↓zs_243_43, zx_pu_s, zx_pu_n, zx_rv_s, zx_rv_n, true_and, and_true, true_or, or_true, zb_0, zb_1, zq_lcl, zq_lcg, zq_lce, eq_self, ite_true, ite_false, zk_138, zw_138, zk_139, zw_139, zk_140, zw_140, zk_141, zw_141, zk_142, zw_142, zk_143, zw_143, zk_144, zw_144, zk_145, zw_145, zk_146, zw_146, zk_147, zw_147, zk_148, zw_148, zk_149, zw_149, zk_150, zw_150, zk_151, zw_151, zk_152, zw_152, zq_138_1, zq_138_2, zq_138_3, zq_138_4, zq_138_16, zq_138_19, zq_138_20, zq_138_24, zq_138_25, zq_138_26, zq_138_27, zq_138_31, zq_138_32, zq_138_33, h1, h2, k1, k2, zB_0, reduceCtorEq]
          rw [ze_245]
          simp (disch := omega) only [↓zs_245_0, ↓zs_245_1, ↓zs_245_2, ↓zs_245_5, ↓zs_245_6, ↓zs_245_7, ↓zs_245_8, ↓zs_245_11, ↓zs_245_12, ↓zs_245_13, ↓zs_245_16, ↓zs_245_17, ↓zs_245_20, ↓zs_245_21, ↓zs_245_22, ↓zs_245_23, ↓zs_245_26, zx_pu_s, zx_pu_n, zx_rv_s, zx_rv_n, true_and, and_true, true_or, or_true, zb_0, zb_1, zq_lcl, zq_lcg, zq_lce, eq_self, ite_true, ite_false, zk_138, zw_138, zk_139, zw_139, zk_140, zw_140, zk_141, zw_141, zk_142, zw_142, zk_143, zw_143, zk_144, zw_144, zk_145, zw_145, zk_146, zw_146, zk_147, zw_147, zk_148, zw_148, zk_149, zw_149, zk_150, zw_150, zk_151, zw_151, zk_152, zw_152, zq_138_1, zq_138_2, zq_138_3, zq_138_4, zq_138_16, zq_138_19, zq_138_20, zq_138_24, zq_138_25, zq_138_26, zq_138_27, zq_138_31, zq_138_32, zq_138_33, h3, n5, reduceCtorEq, Bool.or_true, if_true]
        | false =>
          rw [c4] at k2
          have h3 : ∀ d P, zx_rn (d + 10) 243 [.ref 138, .int (nI q), .int (nI t)] (zx_LL Lh) (zx_u I 138 0 (nI 0)) J P = P (some (.int (nI 0))) (zx_LL Lh) (zx_u I 138 0 (nI 0)) J := fun d P => by
            rw [ze_243]
            simp (disch := omega) only [↓zs_243_0, ↓zs_243_1, ↓zs_243_2, ↓zs_243_3, ↓zs_243_6, ↓zs_243_9, ↓zs_243_10, ↓zs_243_11, ↓zs_243_12, ↓zs_243_15, ↓zs_243_18, ↓zs_243_20, zx_pu_s, zx_pu_n, zx_rv_s, zx_rv_n, true_and, and_true, true_or, or_true, zb_0, zb_1, zq_lcl, zq_lcg, zq_lce, eq_self, ite_true, ite_false, zk_138, zw_138, zk_139, zw_139, zk_140, zw_140, zk_141, zw_141, zk_142, zw_142, zk_143, zw_143, zk_144, zw_144, zk_145, zw_145, zk_146, zw_146, zk_147, zw_147, zk_148, zw_148, zk_149, zw_149, zk_150, zw_150, zk_151, zw_151, zk_152, zw_152, zq_138_1, zq_138_2, zq_138_3, zq_138_4, zq_138_16, zq_138_19, zq_138_20, zq_138_24, zq_138_25, zq_138_26, zq_138_27, zq_138_31, zq_138_32, zq_138_33, h1, h2, k1, k2, zB_0, reduceCtorEq]
            simp (disch := omega) only [↓zs_243_21, ↓zs_243_22, ↓zs_243_23, ↓zs_243_26, ↓zs_243_29, ↓zs_243_30, ↓zs_243_31, ↓zs_243_34, ↓zs_243_37, ↓zs_243_39, ↓zs_243_42, ↓zs_243_43, zx_pu_s, zx_pu_n, zx_rv_s, zx_rv_n, true_and, and_true, true_or, or_true, zb_0, zb_1, zq_lcl, zq_lcg, zq_lce, eq_self, ite_true, ite_false, zk_138, zw_138, zk_139, zw_139, zk_140, zw_140, zk_141, zw_141, zk_142, zw_142, zk_143, zw_143, zk_144, zw_144, zk_145, zw_145, zk_146, zw_146, zk_147, zw_147, zk_148, zw_148, zk_149, zw_149, zk_150, zw_150, zk_151, zw_151, zk_152, zw_152, zq_138_1, zq_138_2, zq_138_3, zq_138_4, zq_138_16, zq_138_19, zq_138_20, zq_138_24, zq_138_25, zq_138_26, zq_138_27, zq_138_31, zq_138_32, zq_138_33, h1, h2, k1, k2, zB_0, reduceCtorEq]
          obtain ⟨I2, J2, s2, z2, h4⟩ := sp_lookAhead (Lh := Lh) (n := 40) v hm (by omega)
          have h5 := sp_wayL (Lh := Lh) (t := t) z2 v.2.1 hq t64
          have h6 : ∀ d P, zx_rn (d + 10) 244 [.ref 138, .int (nI q), .int (nI t)] (zx_LL Lh) (zx_u I 138 0 (nI 0)) J P = P (some (.int (zf_fewest (I 139) q t))) (zx_LL Lh) I2 J2 := fun d P => by
            rw [← h5 (d + 4) P, ze_244]
            simp (disch := omega) only [↓zs_244_0, ↓zs_244_1, ↓zs_244_3, ↓zs_244_6, ↓zs_244_7, ↓zs_244_8, ↓zs_244_9, ↓zs_244_10, ↓zs_244_11, zx_pu_s, zx_pu_n, zx_rv_s, zx_rv_n, true_and, and_true, true_or, or_true, zb_0, zb_1, zq_lcl, zq_lcg, zq_lce, eq_self, ite_true, ite_false, zk_138, zw_138, zk_139, zw_139, zk_140, zw_140, zk_141, zw_141, zk_142, zw_142, zk_143, zw_143, zk_144, zw_144, zk_145, zw_145, zk_146, zw_146, zk_147, zw_147, zk_148, zw_148, zk_149, zw_149, zk_150, zw_150, zk_151, zw_151, zk_152, zw_152, zq_138_1, zq_138_2, zq_138_3, zq_138_4, zq_138_16, zq_138_19, zq_138_20, zq_138_24, zq_138_25, zq_138_26, zq_138_27, zq_138_31, zq_138_32, zq_138_33, h4]
            rfl
          refine ⟨I2, J2, s2, fun d P => ?_⟩
          rw [ze_245, Bool.or_false, if_neg (show ¬ false = true by decide)]
          simp (disch := omega) only [↓zs_245_0, ↓zs_245_1, ↓zs_245_2, ↓zs_245_5, ↓zs_245_6, ↓zs_245_7, ↓zs_245_8, ↓zs_245_11, ↓zs_245_12, ↓zs_245_13, ↓zs_245_16, ↓zs_245_17, ↓zs_245_20, ↓zs_245_21, ↓zs_245_22, ↓zs_245_23, ↓zs_245_26, zx_pu_s, zx_pu_n, zx_rv_s, zx_rv_n, true_and, and_true, true_or, or_true, zb_0, zb_1, zq_lcl, zq_lcg, zq_lce, eq_self, ite_true, ite_false, zk_138, zw_138, zk_139, zw_139, zk_140, zw_140, zk_141, zw_141, zk_142, zw_142, zk_143, zw_143, zk_144, zw_144, zk_145, zw_145, zk_146, zw_146, zk_147, zw_147, zk_148, zw_148, zk_149, zw_149, zk_150, zw_150, zk_151, zw_151, zk_152, zw_152, zq_138_1, zq_138_2, zq_138_3, zq_138_4, zq_138_16, zq_138_19, zq_138_20, zq_138_24, zq_138_25, zq_138_26, zq_138_27, zq_138_31, zq_138_32, zq_138_33, h3, h6]
theorem q_way (v : zInv I J m) (hm : m < 2 ^ 29) (x y : Int32) : zQ Lh 127 245 [.int x, .int y] I J := zQ_mk (c_way hm x y) (m_way hm x y) v
def zf_reach (x y : Int32) (B : Nat → Int32) : Int64 := if zf_in x.toInt (zw B * zh B) = true then (if zf_bt 0 40 y.toInt = true then (if zf_taken B (zn B) x.toInt.toNat = true then -5 else zf_go B x.toInt.toNat y.toInt.toNat) else -3) else -2
theorem c_reach (hm : m < 2 ^ 29) (x y : Int32) : zCq Lh 128 [.int x, .int y] (fun B => .long (zf_reach x y B)) m := by
  intro I J v
  obtain ⟨⟨hw, hh, hN⟩, gr, g, ex, ok, N8, wh⟩ := zInv_k v
  have h1 := fun d P => sc_hasStone (d := d) (Lh := Lh) (I := I) (J := J) (P := P) zx_sq1 x hw hh wh
  have yl := zq_lt0 y
  have yg := zq_gt y (n := 40) (by omega)
  unfold zf_reach
  dsimp only
  cases c1 : zf_in x.toInt (zw (I 139) * zh (I 139)) with
  | false =>
    rw [c1] at h1
    refine ⟨I, J, zScr_r _ _, fun d P => ?_⟩
    rw [ze_128]
    simp (disch := omega) only [↓zs_128_0, ↓zs_128_1, ↓zs_128_4, ↓zs_128_5, ↓zs_128_8, ↓zs_128_11, ↓zs_128_14, ↓zs_128_15, ↓zs_128_16, ↓zs_128_19, ↓zs_128_20, ↓zs_128_22, zx_pu_s, zx_pu_n, zx_rv_s, zx_rv_n, true_and, and_true, true_or, or_true, zb_0, zb_1, zq_lcl, zq_lcg, zq_lce, eq_self, ite_true, ite_false, zk_0, zw_0, zk_1, zw_1, zq_0_0, zq_0_1, zq_0_2, zq_0_3, zq_0_4, zq_0_5, zq_0_6, zq_0_7, zq_0_8, zq_0_9, zq_0_10, zq_0_11, zq_1_0, zq_1_1, zq_1_2, zq_1_3, zq_1_4, zq_1_5, h1, zB_0, reduceCtorEq, if_false]
  | true =>
    rw [c1] at h1
    obtain ⟨q, hq, q64, rfl⟩ := zq_in2 c1 wh
    rw [if_pos rfl, nI_toInt (show q < 2 ^ 31 by omega), Int.toNat_natCast]
    cases cy : zf_bt 0 40 y.toInt with
    | false =>
      refine ⟨I, J, zScr_r _ _, fun d P => ?_⟩
      rw [ze_128, if_neg (by decide)]
      rcases zf_bt_no cy with q | ⟨q1, q2⟩
      · simp (disch := omega) only [↓zs_128_0, ↓zs_128_1, ↓zs_128_4, ↓zs_128_5, ↓zs_128_8, ↓zs_128_11, ↓zs_128_14, ↓zs_128_15, ↓zs_128_16, ↓zs_128_19, ↓zs_128_20, ↓zs_128_22, ↓zs_128_25, ↓zs_128_28, zx_pu_s, zx_pu_n, zx_rv_s, zx_rv_n, true_and, and_true, true_or, or_true, zb_0, zb_1, zq_lcl, zq_lcg, zq_lce, eq_self, ite_true, ite_false, zk_0, zw_0, zk_1, zw_1, zq_0_0, zq_0_1, zq_0_2, zq_0_3, zq_0_4, zq_0_5, zq_0_6, zq_0_7, zq_0_8, zq_0_9, zq_0_10, zq_0_11, zq_1_0, zq_1_1, zq_1_2, zq_1_3, zq_1_4, zq_1_5, h1, zB_0, reduceCtorEq, yl, q]
      · have q3 : ((40 : Nat) : Int) < y.toInt := q2
        simp (disch := omega) only [↓zs_128_0, ↓zs_128_1, ↓zs_128_4, ↓zs_128_5, ↓zs_128_8, ↓zs_128_11, ↓zs_128_14, ↓zs_128_15, ↓zs_128_16, ↓zs_128_19, ↓zs_128_20, ↓zs_128_22, ↓zs_128_25, ↓zs_128_28, zx_pu_s, zx_pu_n, zx_rv_s, zx_rv_n, true_and, and_true, true_or, or_true, zb_0, zb_1, zq_lcl, zq_lcg, zq_lce, eq_self, ite_true, ite_false, zk_0, zw_0, zk_1, zw_1, zq_0_0, zq_0_1, zq_0_2, zq_0_3, zq_0_4, zq_0_5, zq_0_6, zq_0_7, zq_0_8, zq_0_9, zq_0_10, zq_0_11, zq_1_0, zq_1_1, zq_1_2, zq_1_3, zq_1_4, zq_1_5, h1, zB_0, reduceCtorEq, yl, q1, yg, q3]
    | true =>
      obtain ⟨n, -, hn, rfl⟩ := zf_bt_nI cy (by omega)
      have a1 : ¬ 40 < n := by omega
      have w0 : 0 < zw (I 139) := Nat.pos_of_ne_zero (fun e => by rw [e, Nat.zero_mul] at hq; omega)
      have k1 := fun d P => sc_isTaken (d := d) (Lh := Lh) (I := I) (J := J) (P := P) zx_sq1 zx_st11 gr g v.2.2.2.1 ok q64
      rw [if_pos rfl, nI_toInt (show n < 2 ^ 31 by omega), Int.toNat_natCast]
      cases c3 : zf_taken (I 139) (zn (I 139)) q with
      | true =>
        rw [c3] at k1
        refine ⟨I, J, zScr_r _ _, fun d P => ?_⟩
        rw [ze_128]
        simp (disch := omega) only [↓zs_128_0, ↓zs_128_1, ↓zs_128_4, ↓zs_128_5, ↓zs_128_8, ↓zs_128_11, ↓zs_128_14, ↓zs_128_15, ↓zs_128_16, ↓zs_128_19, ↓zs_128_20, ↓zs_128_22, ↓zs_128_25, ↓zs_128_28, ↓zs_128_29, ↓zs_128_30, ↓zs_128_33, ↓zs_128_34, ↓zs_128_37, ↓zs_128_38, ↓zs_128_41, ↓zs_128_44, ↓zs_128_47, zx_pu_s, zx_pu_n, zx_rv_s, zx_rv_n, true_and, and_true, true_or, or_true, zb_0, zb_1, zq_lcl, zq_lcg, zq_lce, eq_self, ite_true, ite_false, zk_0, zw_0, zk_1, zw_1, zq_0_0, zq_0_1, zq_0_2, zq_0_3, zq_0_4, zq_0_5, zq_0_6, zq_0_7, zq_0_8, zq_0_9, zq_0_10, zq_0_11, zq_1_0, zq_1_1, zq_1_2, zq_1_3, zq_1_4, zq_1_5, zk_11, zw_11, zq_11_0, zq_11_1, zq_11_2, nI_ltI, zn_lt0, a1, h1, k1, zB_0, reduceCtorEq, if_true]
      | false =>
        rw [c3] at k1
        obtain ⟨I2, J2, s2, z2, h3⟩ := sc_lookAhead (Lh := Lh) v hm w0
        have h4 := sc_reached (Lh := Lh) z2 v.2.1 hq hn
        refine ⟨I2, J2, s2, fun d P => ?_⟩
        rw [ze_128]
        simp (disch := omega) only [↓zs_128_0, ↓zs_128_1, ↓zs_128_4, ↓zs_128_5, ↓zs_128_8, ↓zs_128_11, ↓zs_128_14, ↓zs_128_15, ↓zs_128_16, ↓zs_128_19, ↓zs_128_20, ↓zs_128_22, ↓zs_128_25, ↓zs_128_28, ↓zs_128_29, ↓zs_128_30, ↓zs_128_33, ↓zs_128_34, ↓zs_128_37, ↓zs_128_38, ↓zs_128_41, ↓zs_128_44, ↓zs_128_47, ↓zs_128_48, ↓zs_128_49, ↓zs_128_52, ↓zs_128_53, ↓zs_128_56, ↓zs_128_57, ↓zs_128_60, ↓zs_128_63, ↓zs_128_64, ↓zs_128_67, ↓zs_128_68, ↓zs_128_71, ↓zs_128_72, ↓zs_128_73, ↓zs_128_76, zx_pu_s, zx_pu_n, zx_rv_s, zx_rv_n, true_and, and_true, true_or, or_true, zb_0, zb_1, zq_lcl, zq_lcg, zq_lce, eq_self, ite_true, ite_false, zk_0, zw_0, zk_1, zw_1, zq_0_0, zq_0_1, zq_0_2, zq_0_3, zq_0_4, zq_0_5, zq_0_6, zq_0_7, zq_0_8, zq_0_9, zq_0_10, zq_0_11, zq_1_0, zq_1_1, zq_1_2, zq_1_3, zq_1_4, zq_1_5, zk_11, zw_11, zq_11_0, zq_11_1, zq_11_2, zk_70, zw_70, zq_70_0, zq_70_1, zq_70_2, zq_70_3, zq_70_4, nI_ltI, zn_lt0, a1, h1, k1, zB_0, h3, h4, reduceCtorEq, if_false]
theorem m_reach (hm : m < 2 ^ 29) (x y : Int32) : zMq Lh 246 [.int x, .int y] (fun B => .long (zf_reach x y B)) m := by
  intro I J v
  obtain ⟨⟨hw, hh, hN⟩, gr, g, ex, ok, N8, wh⟩ := zInv_k v
  have ok2 : zM_ok (zx_u I 138 0 (nI 0) 139) (zw (I 139)) (zh (I 139)) (zn (I 139)) := by rw [zu_139]; exact ok
  have h1 := fun d P => sp_isStone (d := d) (Lh := Lh) (J := J) (P := P) x.toInt64 ok2.1.1 ok2.1.2.1 (by omega)
  rw [Int32.toInt_toInt64] at h1
  have hby := fun d L I J P => sp_bt (d := d) (L := L) (I := I) (J := J) (P := P) y (a := 0) (b := 40) (by omega) (by omega)
  unfold zf_reach
  dsimp only
  cases c1 : zf_in x.toInt (zw (I 139) * zh (I 139)) with
  | false =>
    rw [c1] at h1
    refine ⟨zx_u I 138 0 (nI 0), J, zScr_s (zFs_0 _ _), fun d P => ?_⟩
    rw [ze_246]
    simp (disch := omega) only [↓zs_246_0, ↓zs_246_1, ↓zs_246_2, ↓zs_246_5, ↓zs_246_6, ↓zs_246_7, ↓zs_246_8, ↓zs_246_11, ↓zs_246_14, ↓zs_246_17, ↓zs_246_18, ↓zs_246_19, ↓zs_246_20, ↓zs_246_21, ↓zs_246_24, ↓zs_246_27, ↓zs_246_30, ↓zs_246_33, zx_pu_s, zx_pu_n, zx_rv_s, zx_rv_n, true_and, and_true, true_or, or_true, zb_0, zb_1, zq_lcl, zq_lcg, zq_lce, eq_self, ite_true, ite_false, zk_138, zw_138, zk_139, zw_139, zk_140, zw_140, zk_141, zw_141, zk_142, zw_142, zk_143, zw_143, zk_144, zw_144, zk_145, zw_145, zk_146, zw_146, zk_147, zw_147, zk_148, zw_148, zk_149, zw_149, zk_150, zw_150, zk_151, zw_151, zk_152, zw_152, zq_138_1, zq_138_2, zq_138_3, zq_138_4, zq_138_16, zq_138_19, zq_138_20, zq_138_24, zq_138_25, zq_138_26, zq_138_27, zq_138_31, zq_138_32, zq_138_33, h1, zB_0, reduceCtorEq, if_false]
  | true =>
    rw [c1] at h1
    obtain ⟨q, hq, q64, rfl⟩ := zq_in2 c1 wh
    rw [if_pos rfl, nI_toInt (show q < 2 ^ 31 by omega), Int.toNat_natCast]
    cases cy : zf_bt 0 40 y.toInt with
    | false =>
      rw [cy] at hby
      refine ⟨zx_u I 138 0 (nI 0), J, zScr_s (zFs_0 _ _), fun d P => ?_⟩
      rw [ze_246, if_neg (by decide)]
      simp (disch := omega) only [↓zs_246_0, ↓zs_246_1, ↓zs_246_2, ↓zs_246_5, ↓zs_246_6, ↓zs_246_7, ↓zs_246_8, ↓zs_246_11, ↓zs_246_14, ↓zs_246_17, ↓zs_246_18, ↓zs_246_19, ↓zs_246_20, ↓zs_246_21, ↓zs_246_24, ↓zs_246_27, ↓zs_246_30, ↓zs_246_33, zx_pu_s, zx_pu_n, zx_rv_s, zx_rv_n, true_and, and_true, true_or, or_true, zb_0, zb_1, zq_lcl, zq_lcg, zq_lce, eq_self, ite_true, ite_false, zk_138, zw_138, zk_139, zw_139, zk_140, zw_140, zk_141, zw_141, zk_142, zw_142, zk_143, zw_143, zk_144, zw_144, zk_145, zw_145, zk_146, zw_146, zk_147, zw_147, zk_148, zw_148, zk_149, zw_149, zk_150, zw_150, zk_151, zw_151, zk_152, zw_152, zq_138_1, zq_138_2, zq_138_3, zq_138_4, zq_138_16, zq_138_19, zq_138_20, zq_138_24, zq_138_25, zq_138_26, zq_138_27, zq_138_31, zq_138_32, zq_138_33, h1, hby, zB_0, reduceCtorEq]
    | true =>
      rw [cy] at hby
      obtain ⟨n, -, hn, rfl⟩ := zf_bt_nI cy (by omega)
      have k1 := sp_taken2 (Lh := Lh) (J := J) (zu_139 I 0 (nI 0)) v.2.1 q64
      rw [if_pos rfl, nI_toInt (show n < 2 ^ 31 by omega), Int.toNat_natCast]
      cases c3 : zf_taken (I 139) (zn (I 139)) q with
      | true =>
        rw [c3] at k1
        refine ⟨zx_u I 138 0 (nI 0), J, zScr_s (zFs_0 _ _), fun d P => ?_⟩
        rw [ze_246]
        simp (disch := omega) only [↓zs_246_0, ↓zs_246_1, ↓zs_246_2, ↓zs_246_5, ↓zs_246_6, ↓zs_246_7, ↓zs_246_8, ↓zs_246_11, ↓zs_246_14, ↓zs_246_17, ↓zs_246_18, ↓zs_246_19, ↓zs_246_20, ↓zs_246_21, ↓zs_246_24, ↓zs_246_27, ↓zs_246_30, ↓zs_246_33, ↓zs_246_34, ↓zs_246_35, ↓zs_246_36, ↓zs_246_39, ↓zs_246_42, ↓zs_246_45, zx_pu_s, zx_pu_n, zx_rv_s, zx_rv_n, true_and, and_true, true_or, or_true, zb_0, zb_1, zq_lcl, zq_lcg, zq_lce, eq_self, ite_true, ite_false, zk_138, zw_138, zk_139, zw_139, zk_140, zw_140, zk_141, zw_141, zk_142, zw_142, zk_143, zw_143, zk_144, zw_144, zk_145, zw_145, zk_146, zw_146, zk_147, zw_147, zk_148, zw_148, zk_149, zw_149, zk_150, zw_150, zk_151, zw_151, zk_152, zw_152, zq_138_1, zq_138_2, zq_138_3, zq_138_4, zq_138_16, zq_138_19, zq_138_20, zq_138_24, zq_138_25, zq_138_26, zq_138_27, zq_138_31, zq_138_32, zq_138_33, h1, hby, k1, zB_0, reduceCtorEq, if_true]
      | false =>
        rw [c3] at k1
        obtain ⟨I2, J2, s2, z2, h4⟩ := sp_lookAhead (Lh := Lh) (n := n) v hm hn
        have h5 := sp_reachL (Lh := Lh) z2 v.2.1 hq hn
        refine ⟨I2, J2, s2, fun d P => ?_⟩
        rw [if_neg (by decide), ← h5 (d + 24) P, ze_246]
        simp (disch := omega) only [↓zs_246_0, ↓zs_246_1, ↓zs_246_2, ↓zs_246_5, ↓zs_246_6, ↓zs_246_7, ↓zs_246_8, ↓zs_246_11, ↓zs_246_14, ↓zs_246_17, ↓zs_246_18, ↓zs_246_19, ↓zs_246_20, ↓zs_246_21, ↓zs_246_24, ↓zs_246_27, ↓zs_246_30, ↓zs_246_33, ↓zs_246_34, ↓zs_246_35, ↓zs_246_36, ↓zs_246_39, ↓zs_246_42, ↓zs_246_45, ↓zs_246_46, ↓zs_246_47, ↓zs_246_48, ↓zs_246_51, ↓zs_246_52, ↓zs_246_53, ↓zs_246_54, ↓zs_246_55, ↓zs_246_56, zx_pu_s, zx_pu_n, zx_rv_s, zx_rv_n, true_and, and_true, true_or, or_true, zb_0, zb_1, zq_lcl, zq_lcg, zq_lce, eq_self, ite_true, ite_false, zk_138, zw_138, zk_139, zw_139, zk_140, zw_140, zk_141, zw_141, zk_142, zw_142, zk_143, zw_143, zk_144, zw_144, zk_145, zw_145, zk_146, zw_146, zk_147, zw_147, zk_148, zw_148, zk_149, zw_149, zk_150, zw_150, zk_151, zw_151, zk_152, zw_152, zq_138_1, zq_138_2, zq_138_3, zq_138_4, zq_138_16, zq_138_19, zq_138_20, zq_138_24, zq_138_25, zq_138_26, zq_138_27, zq_138_31, zq_138_32, zq_138_33, h1, hby, k1, zB_0, reduceCtorEq, h4]
        rfl
theorem q_reach (v : zInv I J m) (hm : m < 2 ^ 29) (x y : Int32) : zQ Lh 128 246 [.int x, .int y] I J := zQ_mk (c_reach hm x y) (m_reach hm x y) v
end QW
