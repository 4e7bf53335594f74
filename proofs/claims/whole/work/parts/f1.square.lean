/-! square
-/
section F1
variable {Lh m : Nat} {I : zx_MI} {J : zx_MJ}
theorem zx_same {I1 I2 : zx_MI} {J1 J2 : zx_MJ} {L : zx_Lay} {r1 r2 : Option Value} (h : ∀ P : Option Value → zx_Lay → zx_MI → zx_MJ → Prop, P r1 L I1 J1 = P r2 L I2 J2) : r1 = r2 ∧ I1 = I2 ∧ J1 = J2 := by
  have := h (fun r _ I J => r1 = r ∧ I1 = I ∧ J1 = J)
  exact this.mp ⟨rfl, rfl, rfl⟩
theorem sc_end102N {n f s : Nat} (hf : 1 ≤ f) (h5 : f < 5) (fl : zFl9 I f s) : ∃ I2, (∀ a j, ¬ (a = 0 ∧ (j = 13 ∨ j = 14)) → I2 a j = I a j) ∧ I2 0 13 = nI f ∧ I2 0 14 = nI s ∧ ∀ d P, zx_wp (d + 1) 102 29 [.ref 0, .int (nI n)] [.int (nI f), .ref 0] (zx_LL Lh) I J P = P (some (.int (-30 - nI f))) (zx_LL Lh) I2 J := by
  have cf : (nI f = nI 0) = False := zq_ne (by omega) (by omega) (by omega)
  have e7 : ∀ y, zx_u I 0 13 y 84 7 = nI s := fun y => (zu_n (by omega)).trans fl.2
  have e14 : ∀ y w, zx_u (zx_u I 0 13 y) 0 14 w 0 13 = y := fun y w => by rw [zu_n (by omega), zu_s]
  refine ⟨zx_u (zx_u I 0 13 (nI f)) 0 14 (nI s), fun a j w => by rw [zu_n (by omega), zu_n (by omega)], e14 _ _, zu_s _ _ _ _, fun d P => ?_⟩
  simp (disch := omega) only [↓zs_102_29, ↓zs_102_32, ↓zs_102_33, ↓zs_102_34, ↓zs_102_37, zx_pu_s, zx_pu_n, zx_rv_s, zx_rv_n, true_and, and_true, true_or, or_true, zb_0, zb_1, zq_lcl, zq_lcg, zq_lce, eq_self, ite_true, ite_false, zk_0, zw_0, zq_0_0, zq_0_1, zq_0_2, zq_0_3, zq_0_4, zq_0_5, zq_0_6, zq_0_7, zq_0_8, zq_0_9, zq_0_10, zq_0_11, zk_83, zw_83, zq_83_0, zq_83_1, zq_83_2, zq_83_3, zk_88, zw_88, zq_88_0, zq_88_1, zq_88_2, zq_88_3, zq_88_4, zq_88_5]
  rw [ze_29]
  simp (disch := omega) only [↓zs_29_0, ↓zs_29_1, ↓zs_29_4, ↓zs_29_7, ↓zs_102_40, ↓zs_102_43, ↓zs_102_44, ↓zs_102_47, ↓zs_102_50, ↓zs_102_52, ↓zs_102_53, ↓zs_102_56, ↓zs_102_57, zx_pu_s, zx_pu_n, zx_rv_s, zx_rv_n, true_and, and_true, true_or, or_true, zb_0, zb_1, zq_lcl, zq_lcg, zq_lce, eq_self, ite_true, ite_false, zk_0, zw_0, zq_0_0, zq_0_1, zq_0_2, zq_0_3, zq_0_4, zq_0_5, zq_0_6, zq_0_7, zq_0_8, zq_0_9, zq_0_10, zq_0_11, zk_83, zw_83, zq_83_0, zq_83_1, zq_83_2, zq_83_3, zk_88, zw_88, zq_88_0, zq_88_1, zq_88_2, zq_88_3, zq_88_4, zq_88_5, zk_84, zw_84, zq_84_0, e7, e14, cf]
theorem sc_end102Y {n : Nat} {b : Nat → Nat} {T : zTk} {F : Nat → Int32} (hc : zPc I J b n T F) (pf : zPf F) (x : Int32) : ∃ I2 J2, (∀ a j, ¬ ((1 ≤ a ∧ a ≤ 14) ∨ (a = 23 ∧ j = 2) ∨ (a = 0 ∧ (j = 13 ∨ j = 14))) → I2 a j = I a j) ∧ (∀ a j, a ≠ 1 → J2 a j = J a j) ∧ zR_sq I2 J2 1 F ∧ zR_st I2 11 (zf_G F) ∧ I2 0 13 = nI 0 ∧ I2 0 14 = -1 ∧ I2 23 2 = nI 0 ∧ ∀ d P, zx_wp (d + 2) 102 29 [.ref 0, .int x] [.int (nI 0), .ref 0] (zx_LL Lh) I J P = P (some (.int (F 0))) (zx_LL Lh) I2 J2 := by
  obtain ⟨hpt, h6, h7, sq, st⟩ := hc
  obtain ⟨I1, hI1⟩ : ∃ I1, I1 = zx_u (zx_u I 0 13 (nI 0)) 0 14 (-1) := ⟨_, rfl⟩
  have f1 : ∀ a j, ¬ (a = 0 ∧ (j = 13 ∨ j = 14)) → I1 a j = I a j := fun a j w => by rw [hI1, zu_n (by omega), zu_n (by omega)]
  have e7 : ∀ y, zx_u I 0 13 y 84 7 = -1 := fun y => (zu_n (by omega)).trans h7
  have e14 : ∀ w, zx_u (zx_u I 0 13 (nI 0)) 0 14 w 0 13 = nI 0 := fun w => by rw [zu_n (by omega), zu_s]
  have sq1 : zR_sq I1 J 88 F := zR_sq_f sq (fun a j h1 h2 h3 h4 => f1 a j (by omega)) (fun _ => rfl)
  obtain ⟨I2, J2, f2, j2, r2, hq⟩ := sc_sqBecome (Lh := Lh) zx_sq1 zx_sq88 (by omega) pf.1 sq1
  have st2 : zR_st I2 98 (zf_G F) := zR_st_f st (fun a j h1 h2 => (f2 a j (by omega)).trans (f1 a j (by omega)))
  obtain ⟨I3, -, f3, r3, hst⟩ := sc_become (Lh := Lh) (I := I2) (J := J2) zx_st11 zx_st98 (by omega)
  have st3 := r3 _ st2
  obtain ⟨I4, hI4⟩ : ∃ I4, I4 = zx_u I3 23 2 (nI 0) := ⟨_, rfl⟩
  have hfor : ∀ d P, zx_rn d 25 [.ref 23] (zx_LL Lh) I3 J2 P = P none (zx_LL Lh) I4 J2 := by
    intro d P
    rw [ze_25, hI4]
    simp (disch := omega) only [↓zs_25_0, ↓zs_25_1, ↓zs_25_2, ↓zs_25_5, zx_pu_s, zx_pu_n, zx_rv_s, zx_rv_n, true_and, and_true, true_or, or_true, zb_0, zb_1, zq_lcl, zq_lcg, zq_lce, eq_self, ite_true, ite_false, zk_23, zw_23, zq_23_0]
  have row3 : ∀ a, a ≠ 11 → a ≠ 12 → a ≠ 13 → a ≠ 14 → I3 a = I2 a := fun a h1 h2 h3 h4 => f3 a h1 h2 h3 h4
  have sq4 : zR_sq I4 J2 1 F := zR_sq_f r2 (fun a j h1 h2 h3 h4 => by rw [hI4, zu_n (by omega), row3 a (by omega) (by omega) (by omega) (by omega)]) (fun _ => rfl)
  have k0 : I4 1 9 = F 0 := sq4.2.2.2.1
  refine ⟨I4, J2, fun a j w => ?_, j2, sq4, zR_st_f st3 (fun a j h1 h2 => by rw [hI4, zu_n (by omega)]), ?_, ?_, by rw [hI4, zu_s], fun d P => ?_⟩
  · rw [hI4, zu_n (by omega), row3 a (by omega) (by omega) (by omega) (by omega), f2 a j (by omega), f1 a j (by omega)]
  · rw [hI4, zu_n (by omega), row3 0 (by omega) (by omega) (by omega) (by omega), f2 0 13 (by omega), hI1, zu_n (by omega), zu_s]
  · rw [hI4, zu_n (by omega), row3 0 (by omega) (by omega) (by omega) (by omega), f2 0 14 (by omega), hI1, zu_s]
  · have hq' := fun P => hq d P
    have hst' := fun P => hst (d + 1) P
    rw [hI1] at hq'
    simp (disch := omega) only [↓zs_102_29, ↓zs_102_32, ↓zs_102_33, ↓zs_102_34, ↓zs_102_37, zx_pu_s, zx_pu_n, zx_rv_s, zx_rv_n, true_and, and_true, true_or, or_true, zb_0, zb_1, zq_lcl, zq_lcg, zq_lce, eq_self, ite_true, ite_false, zk_0, zw_0, zq_0_0, zq_0_1, zq_0_2, zq_0_3, zq_0_4, zq_0_5, zq_0_6, zq_0_7, zq_0_8, zq_0_9, zq_0_10, zq_0_11, zk_83, zw_83, zq_83_0, zq_83_1, zq_83_2, zq_83_3, zk_88, zw_88, zq_88_0, zq_88_1, zq_88_2, zq_88_3, zq_88_4, zq_88_5]
    rw [ze_29]
    simp (disch := omega) only [↓zs_29_0, ↓zs_29_1, ↓zs_29_4, ↓zs_29_7, ↓zs_102_40, ↓zs_102_43, ↓zs_102_44, ↓zs_102_47, ↓zs_102_50, ↓zs_102_52, ↓zs_102_53, ↓zs_102_56, ↓zs_102_57, zx_pu_s, zx_pu_n, zx_rv_s, zx_rv_n, true_and, and_true, true_or, or_true, zb_0, zb_1, zq_lcl, zq_lcg, zq_lce, eq_self, ite_true, ite_false, zk_0, zw_0, zq_0_0, zq_0_1, zq_0_2, zq_0_3, zq_0_4, zq_0_5, zq_0_6, zq_0_7, zq_0_8, zq_0_9, zq_0_10, zq_0_11, zk_83, zw_83, zq_83_0, zq_83_1, zq_83_2, zq_83_3, zk_88, zw_88, zq_88_0, zq_88_1, zq_88_2, zq_88_3, zq_88_4, zq_88_5, zk_84, zw_84, zq_84_0, e7, e14]
    simp (disch := omega) only [↓zs_102_58, ↓zs_102_59, ↓zs_102_62, ↓zs_102_63, ↓zs_102_66, ↓zs_102_69, ↓zs_102_72, ↓zs_102_73, ↓zs_102_76, ↓zs_102_77, ↓zs_102_80, ↓zs_102_83, ↓zs_102_86, ↓zs_102_87, ↓zs_102_90, ↓zs_102_93, ↓zs_102_94, ↓zs_102_97, ↓zs_102_100, zx_pu_s, zx_pu_n, zx_rv_s, zx_rv_n, true_and, and_true, true_or, or_true, zb_0, zb_1, zq_lcl, zq_lcg, zq_lce, eq_self, ite_true, ite_false, zk_0, zw_0, zk_1, zw_1, zq_0_0, zq_0_1, zq_0_2, zq_0_3, zq_0_4, zq_0_5, zq_0_6, zq_0_7, zq_0_8, zq_0_9, zq_0_10, zq_0_11, zq_1_0, zq_1_1, zq_1_2, zq_1_3, zq_1_4, zq_1_5, zk_11, zw_11, zq_11_0, zq_11_1, zq_11_2, zk_23, zw_23, zq_23_0, zk_83, zw_83, zq_83_0, zq_83_1, zq_83_2, zq_83_3, zk_88, zw_88, zq_88_0, zq_88_1, zq_88_2, zq_88_3, zq_88_4, zq_88_5, zk_98, zw_98, zq_98_0, zq_98_1, zq_98_2, hq', hst', hfor, k0]
theorem d_square (v : zInv I J m) (x : Int32) : zD2 Lh 102 181 [.int x] I J m := by
  obtain ⟨p, hp, p1, p2, p3⟩ := v.2.2.2.2.2.2.2.1
  have hbt := fun d L I J P => sp_bt (d := d) (L := L) (I := I) (J := J) (P := P) x (a := 0) (b := p) (by omega) (by omega)
  have pl : (nI p).toInt64 = lN p := nI_l (by omega)
  cases c : zf_bt 0 p x.toInt with
  | false =>
    rw [c] at hbt
    have e2 : zx_u I 138 0 (nI 0) 138 5 = nI p := (zu_n (by omega)).trans p2
    refine ⟨.int (-3), I, J, zx_u I 138 0 (nI 0), J, fun d P => ?_, fun d P => ?_, zInv_scr (zScr_s (zFs_0 _ _)) v⟩
    · have xl := zq_lt0 x
      have xg := zq_gt x (n := p) (by omega)
      rw [ze_102]
      by_cases q : x.toInt < 0
      · simp (disch := omega) only [↓zs_102_0, ↓zs_102_1, ↓zs_102_4, ↓zs_102_5, ↓zs_102_6, ↓zs_102_9, ↓zs_102_12, ↓zs_102_14, ↓zs_102_15, zx_pu_s, zx_pu_n, zx_rv_s, zx_rv_n, true_and, and_true, true_or, or_true, zb_0, zb_1, zq_lcl, zq_lcg, zq_lce, eq_self, ite_true, ite_false, zk_0, zw_0, zq_0_0, zq_0_1, zq_0_2, zq_0_3, zq_0_4, zq_0_5, zq_0_6, zq_0_7, zq_0_8, zq_0_9, zq_0_10, zq_0_11, xl, q]
      · have q2 : (p : Int) < x.toInt := by
          apply Decidable.byContradiction
          intro h
          have := zf_btP.mpr (show ((0 : Nat) : Int) ≤ x.toInt ∧ x.toInt ≤ (p : Int) from ⟨by omega, by omega⟩)
          rw [c] at this
          exact Bool.noConfusion this
        simp (disch := omega) only [↓zs_102_0, ↓zs_102_1, ↓zs_102_4, ↓zs_102_5, ↓zs_102_6, ↓zs_102_9, ↓zs_102_12, ↓zs_102_14, ↓zs_102_15, zx_pu_s, zx_pu_n, zx_rv_s, zx_rv_n, true_and, and_true, true_or, or_true, zb_0, zb_1, zq_lcl, zq_lcg, zq_lce, eq_self, ite_true, ite_false, zk_0, zw_0, zq_0_0, zq_0_1, zq_0_2, zq_0_3, zq_0_4, zq_0_5, zq_0_6, zq_0_7, zq_0_8, zq_0_9, zq_0_10, zq_0_11, xl, q, p1, xg, q2]
    · rw [ze_181]
      simp (disch := omega) only [↓zs_181_0, ↓zs_181_1, ↓zs_181_2, ↓zs_181_5, ↓zs_181_6, ↓zs_181_7, ↓zs_181_8, ↓zs_181_9, ↓zs_181_12, ↓zs_181_13, ↓zs_181_16, ↓zs_181_19, ↓zs_181_21, zx_pu_s, zx_pu_n, zx_rv_s, zx_rv_n, true_and, and_true, true_or, or_true, zb_0, zb_1, zq_lcl, zq_lcg, zq_lce, eq_self, ite_true, ite_false, zk_138, zw_138, zk_139, zw_139, zk_140, zw_140, zk_141, zw_141, zk_142, zw_142, zk_143, zw_143, zk_144, zw_144, zk_145, zw_145, zk_146, zw_146, zk_147, zw_147, zk_148, zw_148, zk_149, zw_149, zk_150, zw_150, zk_151, zw_151, zk_152, zw_152, zq_138_1, zq_138_2, zq_138_3, zq_138_4, zq_138_16, zq_138_19, zq_138_20, zq_138_24, zq_138_25, zq_138_26, zq_138_27, zq_138_31, zq_138_32, zq_138_33, e2, pl, hbt, zB_0]
  | true =>
    obtain ⟨q1, q2⟩ := zf_btP.mp c
    have ex := zq_toI (x := x) rfl (zf_inP.mpr (show (0 : Int) ≤ x.toInt ∧ x.toInt < ((p + 1 : Nat) : Int) from ⟨by omega, by omega⟩)) (by omega)
    have hn : x.toInt.toNat ≤ p := by omega
    generalize x.toInt.toNat = n at ex hn
    subst ex
    clear c q1 q2 hbt
    obtain ⟨b, hb⟩ : ∃ b : Nat → Nat, b = fun i => zf_nat (I 141 i) := ⟨_, rfl⟩
    have hbm : ∀ i, i < n → b i < 256 ∧ I 141 i = nI (b i) := fun i hi => by
      obtain ⟨y, y1, y2, -⟩ := p3 i (by omega)
      have : b i = y := by rw [hb]; show zf_nat (I 141 i) = y; rw [y2, zf_nat, nI_clamp (by omega)]
      rw [this]; exact ⟨y1, y2⟩
    have hbc : ∀ i, i < n → b i < 256 ∧ I 85 i = (nI (b i)).toInt8.toInt32 := fun i hi => by
      obtain ⟨y, y1, y2, y3⟩ := p3 i (by omega)
      have : b i = y := by rw [hb]; show zf_nat (I 141 i) = y; rw [y2, zf_nat, nI_clamp (by omega)]
      rw [this]; exact ⟨y1, y3⟩
    have n900 : n ≤ 900 := by omega
    obtain ⟨I1, J1, f1, j1, t13, hpc, hC⟩ := sc_start (Lh := Lh) (I := I) (J := J) v.1 hn hp p1 hbc
    have model : ∀ I3 J3, (∀ a j, ¬ ((83 ≤ a ∧ a ≤ 101 ∧ a ≠ 85) ∨ (a = 0 ∧ 12 ≤ j ∧ j ≤ 14) ∨ (1 ≤ a ∧ a ≤ 14) ∨ a = 23) → I3 a j = I a j) → ∃ Im, (∀ a j, ¬ (a = 142 ∨ (a = 138 ∧ (j = 0 ∨ (5 ≤ j ∧ j ≤ 11)))) → Im a j = I3 a j) ∧ Im 138 5 = nI 0 ∧ zMd Im b n (zf_nx b n 0) ∧ (∀ j, j < 1286 → Im 142 j = zf_f0 j) ∧ ∀ d P, 6 ≤ d → zx_rn d 181 [.ref 138, .int (nI n)] (zx_LL Lh) I3 J3 P = zx_wp d 181 53 [.ref 138, .int (nI n), zx_u0] [] (zx_LL Lh) Im J3 P := fun I3 J3 h3 => sp_start (Lh := Lh) (I := I3) (J := J3) (fun a j ha => (h3 a j (by omega)).trans (v.1 a j ha)) hn hp ((h3 138 5 (by omega)).trans p2) (fun i hi => ⟨(hbm i hi).1, (h3 141 i (by omega)).trans (hbm i hi).2⟩)
    obtain ⟨Ia, fa, -, mda, ra, -⟩ := model I J (fun _ _ _ => rfl)
    have hT := fun Im Jm (z : zMd Im b n (zf_nx b n 0)) (r : ∀ j, j < 1286 → Im 142 j = zf_f0 j) => zTextL (Lh := Lh) (b := b) (n := n) (Jm := Jm) (n + 1) (zf_nx b n 0) (Im 142) I1 J1 Im 0 (by omega) (Nat.zero_le _) (hpc _ r) ⟨z, rfl⟩ (zPf_f0 r).1
    rcases hT Ia J mda ra with ⟨f, s, I2, J2, -, b1, b2, fc, fj, fl, hc, -⟩ | ⟨T2, F2, I2, J2, -, fc, fj, pc, pf, hc, -⟩
    · -- a fault
      obtain ⟨I3, f3, e14, e15, h3⟩ := sc_end102N (Lh := Lh) (J := J2) (n := n) b1 b2 fl
      have fr3 : ∀ a j, ¬ ((83 ≤ a ∧ a ≤ 101 ∧ a ≠ 85) ∨ (a = 0 ∧ 12 ≤ j ∧ j ≤ 14)) → I3 a j = I a j := fun a j w => by rw [f3 a j (by omega), fc a j (by omega), f1 a j (by omega)]
      obtain ⟨Im, fm, em5, mdm, rm, hM⟩ := model I3 J2 (fun a j w => fr3 a j (by omega))
      rcases hT Im J2 mdm rm with ⟨f', s', I2', J2', Im2, b1', b2', -, -, fl', hc', gm, bd, hM2⟩ | ⟨T2', F2', I2', J2', Im2, -, -, pc', -, hc', -⟩
      case inr =>
        exfalso
        obtain ⟨e, -, -⟩ := zx_same (fun P => (hc 72 P (nI n) zx_u0 (Nat.le_refl _)).symm.trans (hc' 72 P (nI n) zx_u0 (Nat.le_refl _)))
        have e2 : nI f = nI 0 := by injection e with e; injection e
        exact of_eq_false (zq_ne (a := f) (b := 0) (by omega) (by omega) (by omega)) e2
      obtain ⟨e, eI, -⟩ := zx_same (fun P => (hc 72 P (nI n) zx_u0 (Nat.le_refl _)).symm.trans (hc' 72 P (nI n) zx_u0 (Nat.le_refl _)))
      have e2 : nI f = nI f' := by injection e with e; injection e
      have ef : f = f' := (nI_eq (by omega) (by omega)).mp e2
      subst ef
      have es : nI s = nI s' := by rw [← fl.2, eI]; exact fl'.2
      have g15 : Im2 0 12 = nI 0 ∧ Im2 0 13 = nI f ∧ Im2 0 14 = nI s := by
        refine ⟨?_, ?_, ?_⟩
        · rw [gm 0 12 (by omega), fm 0 12 (by omega), f3 0 12 (by omega), fc 0 12 (by omega)]; exact t13
        · rw [gm 0 13 (by omega), fm 0 13 (by omega)]; exact e14
        · rw [gm 0 14 (by omega), fm 0 14 (by omega)]; exact e15
      refine ⟨.int (-30 - nI f), I3, J2, zx_u (zx_u Im2 138 13 (nI f)) 138 14 (nI s'), J2, fun d P => ?_, fun d P => ?_, zInv_rd v (fun a j w => ?_) (fun a j h => (fj a j h).trans (j1 a j h)) ⟨0, by omega, ?_, ?_, fun i hi => absurd hi (Nat.not_lt_zero i)⟩ ?_ ?_⟩
      · rw [hC (d + 199) P (by omega), hc (d + 199) _ (nI n) zx_u0 (by omega)]
        exact h3 (d + 199) P
      · rw [hM (d + 200) P (by omega), hM2 (d + 200) P (nI n) zx_u0 (by omega)]
        exact sp_endN bd (d + 200) P (nI n) zx_u0
      · unfold zSc at w
        rw [zu_n (by omega), zu_n (by omega), gm a j (by omega), fm a j (by omega)]; exact fr3 a j (by omega)
      · rw [zu_n (by omega), zu_n (by omega)]; exact g15.1
      · rw [zu_n (by omega), zu_n (by omega), gm 138 5 (by omega)]; exact em5
      · rw [zu_n (by omega), zu_n (by omega), zu_n (by omega), zu_s]; exact g15.2.1
      · rw [zu_n (by omega), zu_n (by omega), zu_s, ← es]; exact g15.2.2
    · -- a square
      obtain ⟨I3, J3, f3, j3, -, -, -, -, -, h3⟩ := sc_end102Y (Lh := Lh) pc pf (nI n)
      have fr3 : ∀ a j, ¬ ((83 ≤ a ∧ a ≤ 101 ∧ a ≠ 85) ∨ (a = 0 ∧ 12 ≤ j ∧ j ≤ 14) ∨ (1 ≤ a ∧ a ≤ 14) ∨ (a = 23 ∧ j = 2)) → I3 a j = I a j := fun a j w => by rw [f3 a j (by omega), fc a j (by omega), f1 a j (by omega)]
      obtain ⟨Im, fm, em5, mdm, rm, hM⟩ := model I3 J3 (fun a j w => fr3 a j (by omega))
      rcases hT Im J3 mdm rm with ⟨f', s', I2', J2', Im2, b1', b2', -, -, fl', hc', -⟩ | ⟨T2', F2', I2', J2', Im2, -, -, pc', pf', hc', gm, pm, hM2⟩
      case inl =>
        exfalso
        obtain ⟨e, -, -⟩ := zx_same (fun P => (hc 72 P (nI n) zx_u0 (Nat.le_refl _)).symm.trans (hc' 72 P (nI n) zx_u0 (Nat.le_refl _)))
        have e2 : nI 0 = nI f' := by injection e with e; injection e
        exact of_eq_false (zq_ne (a := f') (b := 0) (by omega) (by omega) (by omega)) e2.symm
      obtain ⟨-, eI, eJ⟩ := zx_same (fun P => (hc 72 P (nI n) zx_u0 (Nat.le_refl _)).symm.trans (hc' 72 P (nI n) zx_u0 (Nat.le_refl _)))
      subst eI
      subst eJ
      obtain ⟨I3', J3', f3', j3', sq3, st3, e14, e15, e23, h3'⟩ := sc_end102Y (Lh := Lh) pc' pf' (nI n)
      obtain ⟨eR, eI, eJ⟩ := zx_same (fun P => (h3 0 P).symm.trans (h3' 0 P))
      subst eI
      subst eJ
      have eF : F2 0 = F2' 0 := by injection eR with e; injection e
      obtain ⟨md2, hF⟩ := pm
      obtain ⟨I4, f4, e139, k13, k14, h4⟩ := sp_endY (Lh := Lh) (I := Im2) (J := J3) (by rw [hF]; exact pf'.1) md2.2.2.2.2
      rw [hF] at e139
      have eA : Im2 139 = I 139 := funext fun j => by rw [gm 139 j (by omega), fm 139 j (by omega), fr3 139 j (by omega)]
      rw [eA] at e139
      have ex : zEx F2' (zf_cp (I 139) F2' 1286) := fun j h1 h2 => if_pos h1
      have vB := zEx_V ex pf'.1
      have fr4 : ∀ a j, ¬ ((83 ≤ a ∧ a ≤ 101 ∧ a ≠ 85) ∨ (a = 0 ∧ 12 ≤ j ∧ j ≤ 14) ∨ (1 ≤ a ∧ a ≤ 14) ∨ (a = 23 ∧ j = 2) ∨ a = 138 ∨ a = 139 ∨ a = 142) → I4 a j = I a j := fun a j w => by rw [f4 a j (by omega), gm a j (by omega), fm a j (by omega), fr3 a j (by omega)]
      have fr43 : ∀ a j, a < 138 → I4 a j = I3 a j := fun a j w => by rw [f4 a j (by omega), gm a j (by omega), fm a j (by omega)]
      have F134 : F2' 134 = nI 0 := by
        rw [← hF, gm 142 134 (by omega), rm 134 (by omega)]
        exact zf_f0_0 (by omega)
      obtain ⟨v1, v2, v3, v4, v5, v6, v7, v8, v9, v10⟩ := v
      have sm : zSm F2' (zf_G F2') := fun j h => zf_G_o pf'.1 j (by omega)
      refine ⟨.int (F2' 0), I3, J3, I4, J3, fun d P => ?_, fun d P => ?_, ?_, ?_, ?_, ?_, ?_, ?_, ?_, ?_, ?_, ?_⟩
      · rw [hC (d + 199) P (by omega), hc (d + 199) _ (nI n) zx_u0 (by omega), ← eF]
        exact h3 (d + 198) P
      · rw [hM (d + 200) P (by omega), hM2 (d + 200) P (nI n) zx_u0 (by omega), ← hF]
        exact h4 (d + 199) P (nI n) zx_u0
      · intro a j ha; rw [fr4 a j (by omega)]; exact v1 a j ha
      · rw [e139]; exact zV_mono (zV_G vB) (Nat.zero_le m)
      · rw [e139]
        have s1 : zR_sq I4 J3 1 F2' := zR_sq_f sq3 (fun a j h1 h2 h3 h4 => fr43 a j (by omega)) (fun _ => rfl)
        have s2 := zSm_sq sm pf'.1.2.2.2.2.1.2.1 pf'.1.2.2.2.1.2.1 s1
        exact zEx_sq (zEx_G pf'.1 ex) (zV_G pf'.1) s2
      · rw [e139]
        have s1 : zR_st I4 11 (zf_G F2') := zR_st_f st3 (fun a j h1 h2 => fr43 a j (by omega))
        exact zEx_st (zEx_G pf'.1 ex) s1
      · obtain ⟨e, D, he, hD, g1, g2, g3, g4⟩ := v5
        refine ⟨e, 0, he, by omega, by rw [fr4 23 1 (by omega)]; exact g1, by rw [fr43 23 2 (by omega)]; exact e23, ?_, fun i hi => absurd hi (Nat.not_lt_zero i)⟩
        rw [e139, zf_G_o vB 134 (by omega)]
        show zf_cp (I 139) F2' 1286 134 = _
        unfold zf_cp
        rw [if_pos (by omega)]; exact F134
      · intro i hi
        obtain ⟨y, y1, y2, y3⟩ := v6 i hi
        refine ⟨y, by rw [fr4 82 i (by omega)]; exact y1, by rw [fr4 140 i (by omega)]; exact y2, fun hb => ?_⟩
        obtain ⟨c1, c2, c3⟩ := y3 hb
        have eim : zf_img (I4 139) i = zf_img (I 139) i := by
          funext j
          unfold zf_img
          rw [e139, zf_G_o vB _ (by omega)]
          unfold zf_cp
          rw [if_neg (by omega)]
        rw [eim]
        exact ⟨zR_sq_f c1 (fun a j h1 h2 h3 h4 => by rw [fr4 a j (by omega)]) (fun j => by rw [j3 _ j (by omega), fj _ j (by omega), j1 _ j (by omega)]), zR_st_f c2 (fun a j h1 h2 => by rw [fr4 a j (by omega)]), c3⟩
      · intro t ht
        have r150 : I4 150 = I 150 := funext fun j => fr4 150 j (by omega)
        have r151 : I4 151 = I 151 := funext fun j => fr4 151 j (by omega)
        have r102 : I4 (102 + 2 * t) = I (102 + 2 * t) := funext fun j => fr4 _ j (by omega)
        have jr : ∀ a j, a ≠ 1 → a ≠ 88 → J3 a j = J a j := fun a j h1 h2 => by rw [j3 a j h1, fj a j h2, j1 a j h2]
        rw [r150, r151, r102]
        rcases v7 t ht with q | ⟨s2, nn2, q1, q2, q3, q4, q5, q6, q7, q8⟩
        · exact .inl q
        · refine .inr ⟨s2, nn2, q1, q2, q3, q4, q5, q6, q7, fun i2 hi2 => ?_⟩
          rw [jr _ _ (by omega) (by omega), jr _ _ (by omega) (by omega)]
          exact q8 i2 hi2
      · refine ⟨0, by omega, ?_, ?_, fun i hi => absurd hi (Nat.not_lt_zero i)⟩
        · rw [fr43 0 12 (by omega), f3 0 12 (by omega), fc 0 12 (by omega)]; exact t13
        · rw [f4 138 5 (by omega), gm 138 5 (by omega)]; exact em5
      · rw [fr43 0 13 (by omega), e14, k13]
      · rw [fr43 0 14 (by omega), e15, k14]
end F1
