/-! perform -/
theorem zx_st15 : zx_st 15 := by unfold zx_st; decide
section PF
variable {Lh m : Nat} {I : zx_MI} {J : zx_MJ}
theorem sc_performL {t n : Nat} {I1 : zx_MI} (ht : t < 4) (hn : n ≤ 40) (e2 : I1 (102 + 2 * t) 3 = nI n) (hm : m + 40 < 2 ^ 30) (sq : zR_sq I1 J 1 (I 139)) (v0 : zV (I 139) m) : ∀ mm i B c I2, i + mm = n → zFc 11 I1 I2 → zR_st I2 11 B → zV B (m + i) → zSm (I 139) B → ∃ I3, zFc 11 I1 I3 ∧ zR_st I3 11 (zf_tells (J (103 + 2 * t)) mm i B c).2.1 ∧ ((zf_tells (J (103 + 2 * t)) mm i B c).1 = i → I3 = I2) ∧ ∀ d P, ∃ v4, zx_wp (d + 30) 117 39 [.ref 0, .int (nI t), .ref (102 + 2 * t), .int (nI i), .int (nI i)] [] (zx_LL Lh) I2 J P = zx_wp (d + 30) 117 95 [.ref 0, .int (nI t), .ref (102 + 2 * t), .int (nI (zf_tells (J (103 + 2 * t)) mm i B c).1), v4] [] (zx_LL Lh) I3 J P := by
  obtain ⟨k1, k2, k3, k4, k5, k6⟩ := zTr_k Lh ht
  have l5 : (102 + 2 * t < 5000) = True := eq_true (by omega)
  intro mm
  induction mm with
  | zero =>
    intro i B c I2 hi f r v s
    obtain rfl : i = n := by omega
    have e3 : I2 (102 + 2 * t) 3 = nI i := (f _ _ (by omega)).trans e2
    refine ⟨I2, f, r, fun _ => rfl, fun d P => ⟨.int (nI i), ?_⟩⟩
    rw [zs_117_39]
    simp (disch := omega) only [↓zs_117_41, ↓zs_117_41N, ↓zs_117_42, ↓zs_117_45, ↓zs_117_48, ↓zs_117_49, ↓zs_117_52, ↓zs_117_53, ↓zs_117_56, ↓zs_117_56N, ↓zs_117_57, ↓zs_117_59, ↓zs_117_62, ↓zs_117_65, ↓zs_117_68, ↓zs_117_69, ↓zs_117_72, ↓zs_117_73, ↓zs_117_76, ↓zs_117_76N, ↓zs_117_77, ↓zs_117_79, ↓zs_117_82, ↓zs_117_85, ↓zs_117_86, ↓zs_117_89, ↓zs_117_92, zx_pu_s, zx_pu_n, zx_rv_s, zx_rv_n, true_and, and_true, true_or, or_true, zb_0, zb_1, zq_lcl, zq_lcg, zq_lce, eq_self, ite_true, ite_false, zk_0, zw_0, zk_1, zw_1, zq_0_0, zq_0_1, zq_0_2, zq_0_3, zq_0_4, zq_0_5, zq_0_6, zq_0_7, zq_0_8, zq_0_9, zq_0_10, zq_0_11, zq_1_0, zq_1_1, zq_1_2, zq_1_3, zq_1_4, zq_1_5, zn_10, zn_40, zn_040, zn_340, nI_add, zin_nI, nI_clamp, nI_ltI, nI_eq, pk_mul, nI_1, Nat.lt_irrefl, l5, k1, e3]
    rfl
  | succ mm ih =>
    intro i B c I2 hi f r v s
    have hlt : i < n := by omega
    have e3 : I2 (102 + 2 * t) 3 = nI n := (f _ _ (by omega)).trans e2
    have hget := fun d P => sc_get (d := d) (Lh := Lh) (I := I2) (J := J) (P := P) ht hn hlt e3
    have sq2 : zR_sq I2 J 1 B := zSm_sq s v0.2.2.2.2.1.2.1 v0.2.2.2.1.2.1 (zFc_sq zx_st11 f sq)
    have hw := fun d P => sc_whyNot (d := d) (Lh := Lh) (P := P) (J (103 + 2 * t) i) zx_st11 v sq2 r
    unfold zf_tells
    by_cases h0 : zf_why B (J (103 + 2 * t) i) = 0
    · rw [if_pos h0]
      obtain ⟨v1, s1⟩ := zf_do_V v (u := J (103 + 2 * t) i) (by omega) h0
      obtain ⟨I3, f3, r3, h3⟩ := sc_doDeed (Lh := Lh) (J (103 + 2 * t) i) zx_st11 v (by omega) sq2 r h0
      obtain ⟨-, -, t1, -⟩ := zf_tells_V (T := J (103 + 2 * t)) mm (i + 1) (zf_do B (J (103 + 2 * t) i)) (c + zf_doC B (J (103 + 2 * t) i)) _ v1 (by omega)
      obtain ⟨I4, f4, r4, -, h4⟩ := ih (i + 1) _ (c + zf_doC B (J (103 + 2 * t) i)) I3 (by omega) (zFc_t f f3) r3 v1 (zSm_t s s1)
      refine ⟨I4, f4, r4, fun w => absurd w (by omega), fun d P => ?_⟩
      obtain ⟨v4, h5⟩ := h4 d P
      refine ⟨v4, ?_⟩
      rw [← h5, zs_117_39]
      simp (disch := omega) only [↓zs_117_41, ↓zs_117_41N, ↓zs_117_42, ↓zs_117_45, ↓zs_117_48, ↓zs_117_49, ↓zs_117_52, ↓zs_117_53, ↓zs_117_56, ↓zs_117_56N, ↓zs_117_57, ↓zs_117_59, ↓zs_117_62, ↓zs_117_65, ↓zs_117_68, ↓zs_117_69, ↓zs_117_72, ↓zs_117_73, ↓zs_117_76, ↓zs_117_76N, ↓zs_117_77, ↓zs_117_79, ↓zs_117_82, ↓zs_117_85, ↓zs_117_86, ↓zs_117_89, ↓zs_117_92, zx_pu_s, zx_pu_n, zx_rv_s, zx_rv_n, true_and, and_true, true_or, or_true, zb_0, zb_1, zq_lcl, zq_lcg, zq_lce, eq_self, ite_true, ite_false, zk_0, zw_0, zk_1, zw_1, zq_0_0, zq_0_1, zq_0_2, zq_0_3, zq_0_4, zq_0_5, zq_0_6, zq_0_7, zq_0_8, zq_0_9, zq_0_10, zq_0_11, zq_1_0, zq_1_1, zq_1_2, zq_1_3, zq_1_4, zq_1_5, zk_11, zw_11, zq_11_0, zq_11_1, zq_11_2, zn_10, zn_40, zn_040, zn_340, nI_add, zin_nI, nI_clamp, nI_ltI, nI_eq, pk_mul, nI_1, Nat.lt_irrefl, l5, k1, e3, hlt, hget, hw, h0, h3]
    · rw [if_neg h0]
      have h0' : (nI (zf_why B (J (103 + 2 * t) i)) = nI 0) = False := zq_ne h0 (by have := zf_why_le B (J (103 + 2 * t) i); omega) (by omega)
      refine ⟨I2, f, r, fun _ => rfl, fun d P => ⟨.int (nI i), ?_⟩⟩
      rw [zs_117_39]
      simp (disch := omega) only [↓zs_117_41, ↓zs_117_41N, ↓zs_117_42, ↓zs_117_45, ↓zs_117_48, ↓zs_117_49, ↓zs_117_52, ↓zs_117_53, ↓zs_117_56, ↓zs_117_56N, ↓zs_117_57, ↓zs_117_59, ↓zs_117_62, ↓zs_117_65, ↓zs_117_68, ↓zs_117_69, ↓zs_117_72, ↓zs_117_73, ↓zs_117_76, ↓zs_117_76N, ↓zs_117_77, ↓zs_117_79, ↓zs_117_82, ↓zs_117_85, ↓zs_117_86, ↓zs_117_89, ↓zs_117_92, zx_pu_s, zx_pu_n, zx_rv_s, zx_rv_n, true_and, and_true, true_or, or_true, zb_0, zb_1, zq_lcl, zq_lcg, zq_lce, eq_self, ite_true, ite_false, zk_0, zw_0, zk_1, zw_1, zq_0_0, zq_0_1, zq_0_2, zq_0_3, zq_0_4, zq_0_5, zq_0_6, zq_0_7, zq_0_8, zq_0_9, zq_0_10, zq_0_11, zq_1_0, zq_1_1, zq_1_2, zq_1_3, zq_1_4, zq_1_5, zk_11, zw_11, zq_11_0, zq_11_1, zq_11_2, zn_10, zn_40, zn_040, zn_340, nI_add, zin_nI, nI_clamp, nI_ltI, nI_eq, pk_mul, nI_1, Nat.lt_irrefl, l5, k1, e3, hlt, hget, hw, h0']
theorem d_perform (v : zInv I J m) (hm : m < 2 ^ 29) (x : Int32) : zD Lh 117 228 [.int x] I J (m + 40) := by
  have hT := v.2.2.2.2.2.2.1
  obtain ⟨e, D, he, hD, p1, p2, p3, p4⟩ := v.2.2.2.2.1
  have hm9 : (e + D) % 10 < 10 := Nat.mod_lt _ (by omega)
  obtain ⟨n1, n2⟩ := sp_noTray (Lh := Lh) (I := zx_u I 138 0 (nI 0)) (J := J) (x := x)
  have c2 : ((-2 : Int32) = nI 0) = False := eq_false (by decide)
  have c6 : ((-6 : Int32) = nI 0) = False := eq_false (by decide)
  cases c : zf_in x.toInt 4 with
  | false =>
    have h1 := fun d P => sc_trayNo (d := d) (Lh := Lh) (I := I) (J := J) (P := P) c
    have h2 := n1 c
    refine zQ_D (m := m) ⟨.int (-2), I, J, zx_u I 138 0 (nI 0), J, fun d P => ?_, fun d P => ?_, zScr_s (zFs_0 _ _)⟩ v (by omega)
    · rw [ze_117]
      simp (disch := omega) only [↓zs_117_0, ↓zs_117_1, ↓zs_117_2, ↓zs_117_5, ↓zs_117_5N, ↓zs_117_6, ↓zs_117_6N, ↓zs_117_7, ↓zs_117_7N, ↓zs_117_10, ↓zs_117_12, ↓zs_117_13, ↓zs_117_13N, ↓zs_117_14, ↓zs_117_17, ↓zs_117_20, ↓zs_117_22, ↓zs_117_23, ↓zs_117_24, ↓zs_117_27, ↓zs_117_28, ↓zs_117_31, zx_pu_s, zx_pu_n, zx_rv_s, zx_rv_n, true_and, and_true, true_or, or_true, zb_0, zb_1, zq_lcl, zq_lcg, zq_lce, eq_self, ite_true, ite_false, zk_0, zw_0, zq_0_0, zq_0_1, zq_0_2, zq_0_3, zq_0_4, zq_0_5, zq_0_6, zq_0_7, zq_0_8, zq_0_9, zq_0_10, zq_0_11, h1]
    · rw [ze_228]
      simp (disch := omega) only [↓zs_228_0, ↓zs_228_1, ↓zs_228_2, ↓zs_228_5, ↓zs_228_6, ↓zs_228_7, ↓zs_228_10, ↓zs_228_11, ↓zs_228_12, ↓zs_228_15, ↓zs_228_16, zx_pu_s, zx_pu_n, zx_rv_s, zx_rv_n, true_and, and_true, true_or, or_true, zb_0, zb_1, zq_lcl, zq_lcg, zq_lce, eq_self, ite_true, ite_false, zk_138, zw_138, zk_139, zw_139, zk_140, zw_140, zk_141, zw_141, zk_142, zw_142, zk_143, zw_143, zk_144, zw_144, zk_145, zw_145, zk_146, zw_146, zk_147, zw_147, zk_148, zw_148, zk_149, zw_149, zk_150, zw_150, zk_151, zw_151, zk_152, zw_152, zq_138_1, zq_138_2, zq_138_3, zq_138_4, zq_138_16, zq_138_19, zq_138_20, zq_138_24, zq_138_25, zq_138_26, zq_138_27, zq_138_31, zq_138_32, zq_138_33, h2, c2]
  | true =>
    have ex := zq_toI (x := x) rfl c (by omega)
    have ht : x.toInt.toNat < 4 := by have := zf_inP.mp c; omega
    generalize x.toInt.toNat = t at ex ht
    subst ex
    obtain ⟨n3, n4⟩ := n2 t ht rfl
    obtain ⟨k1, k2, k3, k4, k5, k6⟩ := zTr_k Lh ht
    have h1 := fun d P => sc_trayAt (d := d) (Lh := Lh) (I := I) (J := J) (P := P) ht
    have l5 : (102 + 2 * t < 5000) = True := eq_true (by omega)
    have u150 : zx_u I 138 0 (nI 0) 150 = I 150 := zu_o (by decide)
    rcases hT t ht with ⟨e1, e2⟩ | ⟨s, n, hs, hn, e1, e2, e3, e4, e5, e6⟩
    · have h2 := n3 (by rw [u150]; exact e1)
      refine zQ_D (m := m) ⟨.int (-6), I, J, zx_u I 138 0 (nI 0), J, fun d P => ?_, fun d P => ?_, zScr_s (zFs_0 _ _)⟩ v (by omega)
      · rw [ze_117]
        simp (disch := omega) only [↓zs_117_0, ↓zs_117_1, ↓zs_117_2, ↓zs_117_5, ↓zs_117_5N, ↓zs_117_6, ↓zs_117_6N, ↓zs_117_7, ↓zs_117_7N, ↓zs_117_10, ↓zs_117_12, ↓zs_117_13, ↓zs_117_13N, ↓zs_117_14, ↓zs_117_17, ↓zs_117_20, ↓zs_117_22, ↓zs_117_23, ↓zs_117_24, ↓zs_117_27, ↓zs_117_28, ↓zs_117_31, zx_pu_s, zx_pu_n, zx_rv_s, zx_rv_n, true_and, and_true, true_or, or_true, zb_0, zb_1, zq_lcl, zq_lcg, zq_lce, eq_self, ite_true, ite_false, zk_0, zw_0, zq_0_0, zq_0_1, zq_0_2, zq_0_3, zq_0_4, zq_0_5, zq_0_6, zq_0_7, zq_0_8, zq_0_9, zq_0_10, zq_0_11, nI_ltI, zn_lt0, h1, l5, k1, e2]
      · rw [ze_228]
        simp (disch := omega) only [↓zs_228_0, ↓zs_228_1, ↓zs_228_2, ↓zs_228_5, ↓zs_228_6, ↓zs_228_7, ↓zs_228_10, ↓zs_228_11, ↓zs_228_12, ↓zs_228_15, ↓zs_228_16, zx_pu_s, zx_pu_n, zx_rv_s, zx_rv_n, true_and, and_true, true_or, or_true, zb_0, zb_1, zq_lcl, zq_lcg, zq_lce, eq_self, ite_true, ite_false, zk_138, zw_138, zk_139, zw_139, zk_140, zw_140, zk_141, zw_141, zk_142, zw_142, zk_143, zw_143, zk_144, zw_144, zk_145, zw_145, zk_146, zw_146, zk_147, zw_147, zk_148, zw_148, zk_149, zw_149, zk_150, zw_150, zk_151, zw_151, zk_152, zw_152, zq_138_1, zq_138_2, zq_138_3, zq_138_4, zq_138_16, zq_138_19, zq_138_20, zq_138_24, zq_138_25, zq_138_26, zq_138_27, zq_138_31, zq_138_32, zq_138_33, h2, c6]
    · have c1 : (nI 1 = nI 0) = False := eq_false (by decide)
      -- the class
      obtain ⟨I1, f1, f1', r1, hb⟩ := sc_become (Lh := Lh) (I := I) (J := J) zx_st15 zx_st11 (by decide)
      have e5' : I1 (102 + 2 * t) 3 = nI n := (f1 _ _ (by omega)).trans e5
      have sq1 : zR_sq I1 J 1 (I 139) := zFc_sq zx_st15 f1 v.2.2.1
      have rb : zR_st I1 15 (I 139) := r1 _ v.2.2.2.1
      have rn : zR_st I1 11 (I 139) := zFc_st zx_st15 zx_st11 (by decide) f1 v.2.2.2.1
      obtain ⟨I3, f3, r3, z3, h3⟩ := sc_performL (Lh := Lh) (I := I) (J := J) ht hn e5' (by omega) sq1 v.2.1 n 0 (I 139) 0 I1 (by omega) (zFc_r _ _) rn v.2.1 (zSm_r _)
      obtain ⟨vR, sR, -, kR, wR, zR⟩ := zf_tells_V (T := J (103 + 2 * t)) n 0 (I 139) 0 m v.2.1 (by omega)
      have rb3 : zR_st I3 15 (I 139) := zFc_st zx_st11 zx_st15 (by decide) f3 rb
      have p13 : I3 23 1 = nI e := (f3 23 1 (by decide)).trans ((f1 23 1 (by decide)).trans p1)
      have p23 : I3 23 2 = nI D := (f3 23 2 (by decide)).trans ((f1 23 2 (by decide)).trans p2)
      obtain ⟨Ik, kf, kr, kg1, kg2, hk⟩ := sc_keep (Lh := Lh) (I := I3) (J := J) zx_st15 (by decide) he hD p13 p23
      -- both ways to end for the class: C is what it leaves
      obtain ⟨C, hC⟩ : ∃ C, C = if (zf_tells (J (103 + 2 * t)) n 0 (I 139) 0).1 = 0 then I3 else Ik := ⟨_, rfl⟩
      have eC : ∀ a, a ≠ 23 → ¬ (25 ≤ a ∧ a ≤ 64) → C a = I3 a := by
        intro a h1 h2
        rw [hC]
        split
        · rfl
        · funext j; exact kf a j (by omega)
      have eA : C 139 = I 139 := by
        rw [eC 139 (by decide) (by decide), zFc_m zx_st11 f3 (by decide), zFc_m zx_st15 f1 (by decide)]
      -- the model
      obtain ⟨I5, f5, g5, h5⟩ := sp_keeps (Lh := Lh) (I := zx_u C 138 0 (nI 0)) (J := J)
      have v139 : (zx_u C 138 0 (nI 0)) 139 = I 139 := by rw [zu_139, eA]
      have w150 : (zx_u C 138 0 (nI 0)) 150 = I 150 := by rw [zu_o (by decide), eC 150 (by decide) (by decide), zFc_m zx_st11 f3 (by decide), zFc_m zx_st15 f1 (by decide)]
      have w151 : I5 151 = I 151 := by rw [f5 151 (by decide), zu_o (by decide), eC 151 (by decide) (by decide), zFc_m zx_st11 f3 (by decide), zFc_m zx_st15 f1 (by decide)]
      obtain ⟨I6, f6, r6, g61, g62, h6⟩ := sp_tells (Lh := Lh) (I := I5) (J := J) (T := J (103 + 2 * t)) ht hn (by rw [w151]; exact e2) (fun i hi => (e6 i hi).symm) (by rw [f5 139 (by decide)]; exact v139) v.2.1 (by omega)
      have hno := ((sp_noTray (Lh := Lh) (x := nI t) (I := zx_u C 138 0 (nI 0)) (J := J)).2 t ht rfl).2 s hs (by rw [w150]; exact e1)
      generalize zf_tells (J (103 + 2 * t)) n 0 (I 139) 0 = R at *
      have e144 : I6 144 = I5 144 := funext fun j => f6 144 j (by omega)
      by_cases q : R.1 = 0
      · rw [if_pos q] at hC
        have eR : R.2.1 = I 139 := zR q
        have z1 : I3 = I1 := z3 q
        have hscr : zScr I J I6 J := zScr_i (fun a j h => by
          by_cases w : a = 139
          · subst w; rw [r6, eR]
          · unfold zSc at h
            rw [f6 a j (by omega), f5 a (by omega), zu_n (by omega), hC, z1, f1 a j (by omega)])
        subst hC
        refine zQ_D (m := m) ⟨.int (nI 0), C, J, I6, J, fun d P => ?_, fun d P => ?_, hscr⟩ v (by omega)
        · obtain ⟨v4, h4⟩ := h3 d P
          rw [ze_117]
          simp (disch := omega) only [↓zs_117_0, ↓zs_117_1, ↓zs_117_2, ↓zs_117_5, ↓zs_117_5N, ↓zs_117_6, ↓zs_117_6N, ↓zs_117_7, ↓zs_117_7N, ↓zs_117_10, ↓zs_117_12, ↓zs_117_13, ↓zs_117_13N, ↓zs_117_14, ↓zs_117_17, ↓zs_117_20, ↓zs_117_22, ↓zs_117_23, ↓zs_117_24, ↓zs_117_27, ↓zs_117_28, ↓zs_117_31, ↓zs_117_34, ↓zs_117_35, ↓zs_117_36, ↓zs_117_37, zx_pu_s, zx_pu_n, zx_rv_s, zx_rv_n, true_and, and_true, true_or, or_true, zb_0, zb_1, zq_lcl, zq_lcg, zq_lce, eq_self, ite_true, ite_false, zk_0, zw_0, zk_1, zw_1, zq_0_0, zq_0_1, zq_0_2, zq_0_3, zq_0_4, zq_0_5, zq_0_6, zq_0_7, zq_0_8, zq_0_9, zq_0_10, zq_0_11, zq_1_0, zq_1_1, zq_1_2, zq_1_3, zq_1_4, zq_1_5, zk_11, zw_11, zq_11_0, zq_11_1, zq_11_2, zk_15, zw_15, zq_15_0, zq_15_1, zq_15_2, nI_ltI, zn_lt0, h1, l5, k1, e3, c1, hb]
          rw [h4, q]
          simp (disch := omega) only [↓zs_117_95, ↓zs_117_96, ↓zs_117_99, ↓zs_117_100, ↓zs_117_103, ↓zs_117_104, ↓zs_117_107, ↓zs_117_110, ↓zs_117_111, zx_pu_s, zx_pu_n, zx_rv_s, zx_rv_n, true_and, and_true, true_or, or_true, zb_0, zb_1, zq_lcl, zq_lcg, zq_lce, eq_self, ite_true, ite_false, zk_0, zw_0, zk_1, zw_1, zq_0_0, zq_0_1, zq_0_2, zq_0_3, zq_0_4, zq_0_5, zq_0_6, zq_0_7, zq_0_8, zq_0_9, zq_0_10, zq_0_11, zq_1_0, zq_1_1, zq_1_2, zq_1_3, zq_1_4, zq_1_5, nI_ltI, Nat.lt_irrefl]
        · rw [ze_228]
          simp (disch := omega) only [↓zs_228_0, ↓zs_228_1, ↓zs_228_2, ↓zs_228_5, ↓zs_228_6, ↓zs_228_7, ↓zs_228_10, ↓zs_228_11, ↓zs_228_12, ↓zs_228_15, ↓zs_228_16, ↓zs_228_17, ↓zs_228_18, ↓zs_228_21, ↓zs_228_22, ↓zs_228_23, ↓zs_228_26, ↓zs_228_27, ↓zs_228_28, ↓zs_228_31, ↓zs_228_32, ↓zs_228_35, ↓zs_228_36, zx_pu_s, zx_pu_n, zx_rv_s, zx_rv_n, true_and, and_true, true_or, or_true, zb_0, zb_1, zq_lcl, zq_lcg, zq_lce, eq_self, ite_true, ite_false, zk_138, zw_138, zk_139, zw_139, zk_140, zw_140, zk_141, zw_141, zk_142, zw_142, zk_143, zw_143, zk_144, zw_144, zk_145, zw_145, zk_146, zw_146, zk_147, zw_147, zk_148, zw_148, zk_149, zw_149, zk_150, zw_150, zk_151, zw_151, zk_152, zw_152, zq_138_1, zq_138_2, zq_138_3, zq_138_4, zq_138_16, zq_138_19, zq_138_20, zq_138_24, zq_138_25, zq_138_26, zq_138_27, zq_138_31, zq_138_32, zq_138_33, hno, h5, h6, q, nI_ltI, Nat.lt_irrefl]
      · rw [if_neg q] at hC
        have hlt : 0 < R.1 := by omega
        have ko : zKo I Ik R.2.1 e D := by
          refine ⟨fun a j h => ?_, kg1, kg2, kr _ rb3, zR_st_f r3 (fun a j h1 h2 => kf a j (by omega))⟩
          unfold zSc at h
          rw [kf a j (by omega), f3 a j (by omega), f1 a j (by omega)]
        have hnote := fun d P => sp_notes (Lh := Lh) (I := I6) (J := J) (D := D) hD (by rw [r6, sR 134 (by omega)]; exact p3) (d := d) (P := P)
        have o : zMo C (zx_ur I6 139 (zf_note (I6 139) (I6 144) D)) R.2.1 (I 139) D := by
          refine ⟨fun a j w => ?_, I5 144, fun j hj => ?_, by rw [zr_s, r6, e144]⟩
          · unfold zSc at w
            rw [zr_o (fun x => w (.inl x)), f6 a j (by omega), f5 a (by omega), zu_n (by omega)]
          · rw [g5 j hj, v139]
        subst hC
        have fin := zKM v (m2 := m + 40) (by omega) sR (zV_mono vR (by omega)) he hD p1 p2 p3 p4 ko o
        refine ⟨.int (nI R.1), C, J, _, J, fun d P => ?_, fun d P => ?_, fin⟩
        · obtain ⟨v4, h4⟩ := h3 d P
          rw [ze_117]
          simp (disch := omega) only [↓zs_117_0, ↓zs_117_1, ↓zs_117_2, ↓zs_117_5, ↓zs_117_5N, ↓zs_117_6, ↓zs_117_6N, ↓zs_117_7, ↓zs_117_7N, ↓zs_117_10, ↓zs_117_12, ↓zs_117_13, ↓zs_117_13N, ↓zs_117_14, ↓zs_117_17, ↓zs_117_20, ↓zs_117_22, ↓zs_117_23, ↓zs_117_24, ↓zs_117_27, ↓zs_117_28, ↓zs_117_31, ↓zs_117_34, ↓zs_117_35, ↓zs_117_36, ↓zs_117_37, zx_pu_s, zx_pu_n, zx_rv_s, zx_rv_n, true_and, and_true, true_or, or_true, zb_0, zb_1, zq_lcl, zq_lcg, zq_lce, eq_self, ite_true, ite_false, zk_0, zw_0, zk_1, zw_1, zq_0_0, zq_0_1, zq_0_2, zq_0_3, zq_0_4, zq_0_5, zq_0_6, zq_0_7, zq_0_8, zq_0_9, zq_0_10, zq_0_11, zq_1_0, zq_1_1, zq_1_2, zq_1_3, zq_1_4, zq_1_5, zk_11, zw_11, zq_11_0, zq_11_1, zq_11_2, zk_15, zw_15, zq_15_0, zq_15_1, zq_15_2, nI_ltI, zn_lt0, h1, l5, k1, e3, c1, hb]
          rw [h4]
          simp (disch := omega) only [↓zs_117_95, ↓zs_117_96, ↓zs_117_99, ↓zs_117_100, ↓zs_117_103, ↓zs_117_104, ↓zs_117_107, ↓zs_117_110, ↓zs_117_111, zx_pu_s, zx_pu_n, zx_rv_s, zx_rv_n, true_and, and_true, true_or, or_true, zb_0, zb_1, zq_lcl, zq_lcg, zq_lce, eq_self, ite_true, ite_false, zk_0, zw_0, zk_1, zw_1, zq_0_0, zq_0_1, zq_0_2, zq_0_3, zq_0_4, zq_0_5, zq_0_6, zq_0_7, zq_0_8, zq_0_9, zq_0_10, zq_0_11, zq_1_0, zq_1_1, zq_1_2, zq_1_3, zq_1_4, zq_1_5, zk_15, zw_15, zq_15_0, zq_15_1, zq_15_2, zk_23, zw_23, zq_23_0, nI_ltI, hlt, hk]
        · rw [ze_228]
          simp (disch := omega) only [↓zs_228_0, ↓zs_228_1, ↓zs_228_2, ↓zs_228_5, ↓zs_228_6, ↓zs_228_7, ↓zs_228_10, ↓zs_228_11, ↓zs_228_12, ↓zs_228_15, ↓zs_228_16, ↓zs_228_17, ↓zs_228_18, ↓zs_228_21, ↓zs_228_22, ↓zs_228_23, ↓zs_228_26, ↓zs_228_27, ↓zs_228_28, ↓zs_228_31, ↓zs_228_32, ↓zs_228_35, ↓zs_228_36, zx_pu_s, zx_pu_n, zx_rv_s, zx_rv_n, true_and, and_true, true_or, or_true, zb_0, zb_1, zq_lcl, zq_lcg, zq_lce, eq_self, ite_true, ite_false, zk_138, zw_138, zk_139, zw_139, zk_140, zw_140, zk_141, zw_141, zk_142, zw_142, zk_143, zw_143, zk_144, zw_144, zk_145, zw_145, zk_146, zw_146, zk_147, zw_147, zk_148, zw_148, zk_149, zw_149, zk_150, zw_150, zk_151, zw_151, zk_152, zw_152, zq_138_1, zq_138_2, zq_138_3, zq_138_4, zq_138_16, zq_138_19, zq_138_20, zq_138_24, zq_138_25, zq_138_26, zq_138_27, zq_138_31, zq_138_32, zq_138_33, hno, h5, h6, nI_ltI, hlt, hnote]
end PF
