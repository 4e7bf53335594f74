/-! seen, writer: the calls -/
theorem zf_wt_0 {T : Nat → Int64} {n N : Nat} {y : Int32} (h : zf_wt T n N y = nI 0) : n = N ∧ ∃ k, k ≤ 60 ∧ y = nI k := by
  unfold zf_wt at h
  by_cases c : n = N
  · rw [if_pos c] at h
    refine ⟨c, ?_⟩
    cases c2 : zf_rg T n 0 with
    | false => rw [c2, if_neg (by decide)] at h; exact absurd h (by decide)
    | true =>
      rw [c2, if_pos rfl] at h
      cases c3 : zf_bt 0 60 y.toInt with
      | false => rw [c3, if_neg (by decide)] at h; exact absurd h (by decide)
      | true =>
        obtain ⟨k, -, hk, e⟩ := zf_bt_nI c3 (by omega)
        exact ⟨k, hk, e⟩
  · rw [if_neg c] at h; exact absurd h (by decide)
section SW
variable {Lh m : Nat} {I : zx_MI} {J : zx_MJ}
/-- what both calls share where a tray can be looked at -/
theorem sp_seenM {t n s k : Nat} (v : zInv I J m) (hm : m < 2 ^ 29) (ht : t < 4) (hk : k ≤ 60) (hs : s < 4) (hn : n = zn (I 139)) (e1 : I 150 t = nI s) (e2 : I 151 t = nI n) (e6 : ∀ i, i < n → J (103 + 2 * t) i = J 152 (40 * t + i)) (hz : zf_wt (J (103 + 2 * t)) n (zn (I 139)) (nI k) = nI 0) : ∃ I3 I4, zFg I I3 ∧ zK I3 (zf_sn (I 139) (J (103 + 2 * t)) k).1 (zf_sn (I 139) (J (103 + 2 * t)) k).2.1 (zf_sn (I 139) (J (103 + 2 * t)) k).2.2.1 (zf_sn (I 139) (J (103 + 2 * t)) k).2.2.2.1 (zf_sn (I 139) (J (103 + 2 * t)) k).2.2.2.2 ∧ (∀ d P, zx_rn (d + 8) 41 [.ref 65, .ref 1, .ref 11, .ref (102 + 2 * t), .int (nI k)] (zx_LL Lh) I J P = P none (zx_LL Lh) I3 J) ∧ zScr I J I4 J ∧ zKn I4 (zf_sn (I 139) (J (103 + 2 * t)) k) ∧ ∀ d P, zx_rn (d + 21) 259 [.ref 138, .int (nI t), .int (nI k)] (zx_LL Lh) (zx_u I3 138 0 (nI 0)) J P = P (some (.int (nI 0))) (zx_LL Lh) I4 J := by
  obtain ⟨⟨hw, hh, hN⟩, gr, g, ex, ok, N8, wh⟩ := zInv_k v
  have hTT := v.2.2.2.2.2.2.1 t ht
  have e5 : I (102 + 2 * t) 3 = nI (zn (I 139)) := by
    rcases hTT with ⟨q1, -⟩ | ⟨s2, n2, hs2, hn2, q1, q2, q3, q4, q5, q6⟩
    · rw [e1] at q1
      exact absurd q1 (of_eq_false (zq_m1 (by omega)))
    · rw [e2] at q2
      rw [q5, ← q2, hn]
  obtain ⟨I3, f3, K3, h3⟩ := sc_seenA (Lh := Lh) (t := t) (k := k) v hm ht hk e5
  have eB : I3 139 = I 139 := funext fun j => f3 139 j (by omega)
  have uB : zx_u I3 138 0 (nI 0) 139 = I 139 := by rw [zu_139, eB]
  have u150 : zx_u I3 138 0 (nI 0) 150 t = nI s := by rw [zu_n (by omega), f3 150 t (by omega)]; exact e1
  have u151 : zx_u I3 138 0 (nI 0) 151 t = nI n := by rw [zu_n (by omega), f3 151 t (by omega)]; exact e2
  have hT : ∀ i, i < zn (I 139) → J 152 (40 * t + i) = J (103 + 2 * t) i := fun i hi => (e6 i (by omega)).symm
  have hR := sp_laysR (Lh := Lh) (I := zx_u I3 138 0 (nI 0)) (J := J) (t := t) (n := n) (N := zn (I 139)) (s := s) (y := nI k) (T := J (103 + 2 * t)) ht (by omega) (by rw [uB]; exact v.2.1.1.1.2.2.1) N8 hs u150 u151 (fun i hi => (e6 i hi).symm)
  obtain ⟨I4, f4, e4, K4, h4⟩ := sp_lays (Lh := Lh) (I := zx_u I3 138 0 (nI 0)) (J := J) (t := t) (k := k) (T := J (103 + 2 * t)) (v4 := nI (zn (I 139))) v.2.1 hm ht hk uB hT
  refine ⟨I3, I4, f3, K3, h3, zScr_i (fun a j w => ?_), K4, fun d P => ?_⟩
  · by_cases q : a = 139
    · subst q; rw [e4]
    · unfold zSc at w
      rw [f4 a j (by omega), zu_n (by omega), f3 a j (by omega)]
  · rw [hR, if_pos hz, h4]
theorem q_seen (v : zInv I J m) (hm : m < 2 ^ 29) (x y : Int32) : zQ Lh 138 260 [.int x, .int y] I J := by
  obtain ⟨⟨hw, hh, hN⟩, gr, g, ex, ok, N8, wh⟩ := zInv_k v
  have hT := v.2.2.2.2.2.2.1
  obtain ⟨n1, n2⟩ := sp_noTray (Lh := Lh) (I := zx_u I 138 0 (nI 0)) (J := J) (x := x)
  have c2 : ((-2 : Int32) = nI 0) = False := eq_false (by decide)
  have c6 : ((-6 : Int32) = nI 0) = False := eq_false (by decide)
  cases c : zf_in x.toInt 4 with
  | false =>
    have h1 := fun d P => sc_trayNo (d := d) (Lh := Lh) (I := I) (J := J) (P := P) c
    have h2 := n1 c
    have h9 : ∀ d P, zx_rn (d + 21) 259 [.ref 138, .int x, .int y] (zx_LL Lh) (zx_u I 138 0 (nI 0)) J P = P (some (.int (-2))) (zx_LL Lh) (zx_u I 138 0 (nI 0)) J := fun d P => by
      rw [ze_259]
      simp (disch := omega) only [↓zs_259_0, ↓zs_259_1, ↓zs_259_2, ↓zs_259_5, ↓zs_259_6, ↓zs_259_7, ↓zs_259_10, ↓zs_259_11, zx_pu_s, zx_pu_n, zx_rv_s, zx_rv_n, true_and, and_true, true_or, or_true, zb_0, zb_1, zq_lcl, zq_lcg, zq_lce, eq_self, ite_true, ite_false, zk_138, zw_138, zk_139, zw_139, zk_140, zw_140, zk_141, zw_141, zk_142, zw_142, zk_143, zw_143, zk_144, zw_144, zk_145, zw_145, zk_146, zw_146, zk_147, zw_147, zk_148, zw_148, zk_149, zw_149, zk_150, zw_150, zk_151, zw_151, zk_152, zw_152, zq_138_1, zq_138_2, zq_138_3, zq_138_4, zq_138_16, zq_138_19, zq_138_20, zq_138_24, zq_138_25, zq_138_26, zq_138_27, zq_138_31, zq_138_32, zq_138_33, h2, c2]
    refine ⟨.int (-2), I, J, zx_u I 138 0 (nI 0), J, fun d P => ?_, fun d P => ?_, zScr_s (zFs_0 _ _)⟩
    · rw [ze_138]
      simp (disch := omega) only [↓zs_138_0, ↓zs_138_1, ↓zs_138_2, ↓zs_138_5, ↓zs_138_5N, ↓zs_138_6, ↓zs_138_6N, ↓zs_138_7, ↓zs_138_7N, ↓zs_138_10, ↓zs_138_12, zx_pu_s, zx_pu_n, zx_rv_s, zx_rv_n, true_and, and_true, true_or, or_true, zb_0, zb_1, zq_lcl, zq_lcg, zq_lce, eq_self, ite_true, ite_false, zk_0, zw_0, zq_0_0, zq_0_1, zq_0_2, zq_0_3, zq_0_4, zq_0_5, zq_0_6, zq_0_7, zq_0_8, zq_0_9, zq_0_10, zq_0_11, h1]
    · rw [ze_260]
      simp (disch := omega) only [↓zs_260_0, ↓zs_260_1, ↓zs_260_2, ↓zs_260_5, ↓zs_260_6, ↓zs_260_7, ↓zs_260_8, ↓zs_260_11, ↓zs_260_12, ↓zs_260_13, ↓zs_260_16, ↓zs_260_17, ↓zs_260_20, ↓zs_260_21, ↓zs_260_24, zx_pu_s, zx_pu_n, zx_rv_s, zx_rv_n, true_and, and_true, true_or, or_true, zb_0, zb_1, zq_lcl, zq_lcg, zq_lce, eq_self, ite_true, ite_false, zk_138, zw_138, zk_139, zw_139, zk_140, zw_140, zk_141, zw_141, zk_142, zw_142, zk_143, zw_143, zk_144, zw_144, zk_145, zw_145, zk_146, zw_146, zk_147, zw_147, zk_148, zw_148, zk_149, zw_149, zk_150, zw_150, zk_151, zw_151, zk_152, zw_152, zq_138_1, zq_138_2, zq_138_3, zq_138_4, zq_138_16, zq_138_19, zq_138_20, zq_138_24, zq_138_25, zq_138_26, zq_138_27, zq_138_31, zq_138_32, zq_138_33, h9, c2]
  | true =>
    have ex := zq_toI (x := x) rfl c (by omega)
    have ht : x.toInt.toNat < 4 := by have := zf_inP.mp c; omega
    generalize x.toInt.toNat = t at ex ht
    subst ex
    obtain ⟨n3, n4⟩ := n2 t ht rfl
    obtain ⟨k1, k2, k3, k4, k5, k6⟩ := zTr_k Lh ht
    have h1 := fun d P => sc_trayAt (d := d) (Lh := Lh) (I := I) (J := J) (P := P) ht
    have l5 : (102 + 2 * t < 5000) = True := eq_true (by omega)
    have u150 : zx_u I 138 0 (nI 0) 150 = I 150 := zu_o (by decide)
    have u151 : zx_u I 138 0 (nI 0) 151 = I 151 := zu_o (by decide)
    rcases hT t ht with ⟨e1, e2⟩ | ⟨s, n, hs, hn, e1, e2, e3, e4, e5, e6⟩
    · have h2 := n3 (by rw [u150]; exact e1)
      have h9 : ∀ d P, zx_rn (d + 21) 259 [.ref 138, .int (nI t), .int y] (zx_LL Lh) (zx_u I 138 0 (nI 0)) J P = P (some (.int (-6))) (zx_LL Lh) (zx_u I 138 0 (nI 0)) J := fun d P => by
        rw [ze_259]
        simp (disch := omega) only [↓zs_259_0, ↓zs_259_1, ↓zs_259_2, ↓zs_259_5, ↓zs_259_6, ↓zs_259_7, ↓zs_259_10, ↓zs_259_11, zx_pu_s, zx_pu_n, zx_rv_s, zx_rv_n, true_and, and_true, true_or, or_true, zb_0, zb_1, zq_lcl, zq_lcg, zq_lce, eq_self, ite_true, ite_false, zk_138, zw_138, zk_139, zw_139, zk_140, zw_140, zk_141, zw_141, zk_142, zw_142, zk_143, zw_143, zk_144, zw_144, zk_145, zw_145, zk_146, zw_146, zk_147, zw_147, zk_148, zw_148, zk_149, zw_149, zk_150, zw_150, zk_151, zw_151, zk_152, zw_152, zq_138_1, zq_138_2, zq_138_3, zq_138_4, zq_138_16, zq_138_19, zq_138_20, zq_138_24, zq_138_25, zq_138_26, zq_138_27, zq_138_31, zq_138_32, zq_138_33, h2, c6]
      have h8 : ∀ d P, zx_rn (d + 1) 140 [.ref 0, .ref (102 + 2 * t), .int y] (zx_LL Lh) I J P = P (some (.int (-6))) (zx_LL Lh) I J := fun d P => by
        rw [ze_140]
        simp (disch := omega) only [↓zs_140_0, ↓zs_140_1, ↓zs_140_4, ↓zs_140_7, ↓zs_140_9, ↓zs_140_10, ↓zs_140_11, zx_pu_s, zx_pu_n, zx_rv_s, zx_rv_n, true_and, and_true, true_or, or_true, zb_0, zb_1, zq_lcl, zq_lcg, zq_lce, eq_self, ite_true, ite_false, zk_0, zw_0, zq_0_0, zq_0_1, zq_0_2, zq_0_3, zq_0_4, zq_0_5, zq_0_6, zq_0_7, zq_0_8, zq_0_9, zq_0_10, zq_0_11, k1, e2]
      refine ⟨.int (-6), I, J, zx_u I 138 0 (nI 0), J, fun d P => ?_, fun d P => ?_, zScr_s (zFs_0 _ _)⟩
      · rw [ze_138]
        simp (disch := omega) only [↓zs_138_0, ↓zs_138_1, ↓zs_138_2, ↓zs_138_5, ↓zs_138_5N, ↓zs_138_6, ↓zs_138_6N, ↓zs_138_7, ↓zs_138_7N, ↓zs_138_10, ↓zs_138_12, ↓zs_138_13, ↓zs_138_14, ↓zs_138_14N, ↓zs_138_15, ↓zs_138_16, ↓zs_138_19, ↓zs_138_21, ↓zs_138_23, ↓zs_138_26, ↓zs_138_28, ↓zs_138_29, ↓zs_138_30, ↓zs_138_33, ↓zs_138_34, ↓zs_138_37, ↓zs_138_38, ↓zs_138_41, ↓zs_138_41N, ↓zs_138_42, ↓zs_138_43, ↓zs_138_46, ↓zs_138_47, ↓zs_138_50, ↓zs_138_53, zx_pu_s, zx_pu_n, zx_rv_s, zx_rv_n, true_and, and_true, true_or, or_true, zb_0, zb_1, zq_lcl, zq_lcg, zq_lce, eq_self, ite_true, ite_false, zk_0, zw_0, zq_0_0, zq_0_1, zq_0_2, zq_0_3, zq_0_4, zq_0_5, zq_0_6, zq_0_7, zq_0_8, zq_0_9, zq_0_10, zq_0_11, h1, l5, h8, c6]
      · rw [ze_260]
        simp (disch := omega) only [↓zs_260_0, ↓zs_260_1, ↓zs_260_2, ↓zs_260_5, ↓zs_260_6, ↓zs_260_7, ↓zs_260_8, ↓zs_260_11, ↓zs_260_12, ↓zs_260_13, ↓zs_260_16, ↓zs_260_17, ↓zs_260_20, ↓zs_260_21, ↓zs_260_24, zx_pu_s, zx_pu_n, zx_rv_s, zx_rv_n, true_and, and_true, true_or, or_true, zb_0, zb_1, zq_lcl, zq_lcg, zq_lce, eq_self, ite_true, ite_false, zk_138, zw_138, zk_139, zw_139, zk_140, zw_140, zk_141, zw_141, zk_142, zw_142, zk_143, zw_143, zk_144, zw_144, zk_145, zw_145, zk_146, zw_146, zk_147, zw_147, zk_148, zw_148, zk_149, zw_149, zk_150, zw_150, zk_151, zw_151, zk_152, zw_152, zq_138_1, zq_138_2, zq_138_3, zq_138_4, zq_138_16, zq_138_19, zq_138_20, zq_138_24, zq_138_25, zq_138_26, zq_138_27, zq_138_31, zq_138_32, zq_138_33, h9, c6]
    · have h8 := sc_wrong (Lh := Lh) (I := I) (J := J) (t := t) (n := n) (N := zn (I 139)) (y := y) ht hn N8 e3 e5 hN
      by_cases hz : zf_wt (J (103 + 2 * t)) n (zn (I 139)) y = nI 0
      · obtain ⟨en, k, hk, rfl⟩ := zf_wt_0 hz
        obtain ⟨I3, I4, f3, K3, h3, s4, K4, h4⟩ := sp_seenM (Lh := Lh) v hm ht hk hs en e1 e2 e6 hz
        rw [hz] at h8
        generalize zf_sn (I 139) (J (103 + 2 * t)) k = K at *
        refine ⟨.int (nI K.1), I3, J, I4, J, fun d P => ?_, fun d P => ?_, s4⟩
        · have r1 := K3.1
          rw [ze_138]
          simp (disch := omega) only [↓zs_138_0, ↓zs_138_1, ↓zs_138_2, ↓zs_138_5, ↓zs_138_5N, ↓zs_138_6, ↓zs_138_6N, ↓zs_138_7, ↓zs_138_7N, ↓zs_138_10, ↓zs_138_12, ↓zs_138_13, ↓zs_138_14, ↓zs_138_14N, ↓zs_138_15, ↓zs_138_16, ↓zs_138_19, ↓zs_138_21, ↓zs_138_23, ↓zs_138_26, ↓zs_138_28, ↓zs_138_29, ↓zs_138_30, ↓zs_138_33, ↓zs_138_34, ↓zs_138_37, ↓zs_138_38, ↓zs_138_41, ↓zs_138_41N, ↓zs_138_42, ↓zs_138_43, ↓zs_138_46, ↓zs_138_47, ↓zs_138_50, ↓zs_138_53, zx_pu_s, zx_pu_n, zx_rv_s, zx_rv_n, true_and, and_true, true_or, or_true, zb_0, zb_1, zq_lcl, zq_lcg, zq_lce, eq_self, ite_true, ite_false, zk_0, zw_0, zk_1, zw_1, zq_0_0, zq_0_1, zq_0_2, zq_0_3, zq_0_4, zq_0_5, zq_0_6, zq_0_7, zq_0_8, zq_0_9, zq_0_10, zq_0_11, zq_1_0, zq_1_1, zq_1_2, zq_1_3, zq_1_4, zq_1_5, zk_11, zw_11, zq_11_0, zq_11_1, zq_11_2, zk_65, zw_65, zq_65_0, h1, l5, h8, h3, r1]
        · have r1 := K4.1
          rw [ze_260]
          simp (disch := omega) only [↓zs_260_0, ↓zs_260_1, ↓zs_260_2, ↓zs_260_5, ↓zs_260_6, ↓zs_260_7, ↓zs_260_8, ↓zs_260_11, ↓zs_260_12, ↓zs_260_13, ↓zs_260_16, ↓zs_260_17, ↓zs_260_20, ↓zs_260_21, ↓zs_260_24, zx_pu_s, zx_pu_n, zx_rv_s, zx_rv_n, true_and, and_true, true_or, or_true, zb_0, zb_1, zq_lcl, zq_lcg, zq_lce, eq_self, ite_true, ite_false, zk_138, zw_138, zk_139, zw_139, zk_140, zw_140, zk_141, zw_141, zk_142, zw_142, zk_143, zw_143, zk_144, zw_144, zk_145, zw_145, zk_146, zw_146, zk_147, zw_147, zk_148, zw_148, zk_149, zw_149, zk_150, zw_150, zk_151, zw_151, zk_152, zw_152, zq_138_1, zq_138_2, zq_138_3, zq_138_4, zq_138_16, zq_138_19, zq_138_20, zq_138_24, zq_138_25, zq_138_26, zq_138_27, zq_138_31, zq_138_32, zq_138_33, h4, r1]
      · have hR := sp_laysR (Lh := Lh) (I := zx_u I 138 0 (nI 0)) (J := J) (t := t) (n := n) (N := zn (I 139)) (s := s) (y := y) (T := J (103 + 2 * t)) ht hn (by rw [zu_139]; exact v.2.1.1.1.2.2.1) N8 hs (by rw [u150]; exact e1) (by rw [u151]; exact e2) (fun i hi => (e6 i hi).symm)
        have hz' : (zf_wt (J (103 + 2 * t)) n (zn (I 139)) y = nI 0) = False := eq_false hz
        simp only [if_neg hz] at hR
        refine ⟨.int (zf_wt (J (103 + 2 * t)) n (zn (I 139)) y), I, J, zx_u I 138 0 (nI 0), J, fun d P => ?_, fun d P => ?_, zScr_s (zFs_0 _ _)⟩
        · rw [ze_138]
          simp (disch := omega) only [↓zs_138_0, ↓zs_138_1, ↓zs_138_2, ↓zs_138_5, ↓zs_138_5N, ↓zs_138_6, ↓zs_138_6N, ↓zs_138_7, ↓zs_138_7N, ↓zs_138_10, ↓zs_138_12, ↓zs_138_13, ↓zs_138_14, ↓zs_138_14N, ↓zs_138_15, ↓zs_138_16, ↓zs_138_19, ↓zs_138_21, ↓zs_138_23, ↓zs_138_26, ↓zs_138_28, ↓zs_138_29, ↓zs_138_30, ↓zs_138_33, ↓zs_138_34, ↓zs_138_37, ↓zs_138_38, ↓zs_138_41, ↓zs_138_41N, ↓zs_138_42, ↓zs_138_43, ↓zs_138_46, ↓zs_138_47, ↓zs_138_50, ↓zs_138_53, zx_pu_s, zx_pu_n, zx_rv_s, zx_rv_n, true_and, and_true, true_or, or_true, zb_0, zb_1, zq_lcl, zq_lcg, zq_lce, eq_self, ite_true, ite_false, zk_0, zw_0, zq_0_0, zq_0_1, zq_0_2, zq_0_3, zq_0_4, zq_0_5, zq_0_6, zq_0_7, zq_0_8, zq_0_9, zq_0_10, zq_0_11, h1, l5, h8, hz']
        · rw [ze_260]
          simp (disch := omega) only [↓zs_260_0, ↓zs_260_1, ↓zs_260_2, ↓zs_260_5, ↓zs_260_6, ↓zs_260_7, ↓zs_260_8, ↓zs_260_11, ↓zs_260_12, ↓zs_260_13, ↓zs_260_16, ↓zs_260_17, ↓zs_260_20, ↓zs_260_21, ↓zs_260_24, zx_pu_s, zx_pu_n, zx_rv_s, zx_rv_n, true_and, and_true, true_or, or_true, zb_0, zb_1, zq_lcl, zq_lcg, zq_lce, eq_self, ite_true, ite_false, zk_138, zw_138, zk_139, zw_139, zk_140, zw_140, zk_141, zw_141, zk_142, zw_142, zk_143, zw_143, zk_144, zw_144, zk_145, zw_145, zk_146, zw_146, zk_147, zw_147, zk_148, zw_148, zk_149, zw_149, zk_150, zw_150, zk_151, zw_151, zk_152, zw_152, zq_138_1, zq_138_2, zq_138_3, zq_138_4, zq_138_16, zq_138_19, zq_138_20, zq_138_24, zq_138_25, zq_138_26, zq_138_27, zq_138_31, zq_138_32, zq_138_33, hR, hz']
theorem q_writer (v : zInv I J m) (hm : m < 2 ^ 29) (x y w : Int32) : zQ Lh 139 261 [.int x, .int y, .int w] I J := by
  obtain ⟨⟨hw, hh, hN⟩, gr, g, ex, ok, N8, wh⟩ := zInv_k v
  have hT := v.2.2.2.2.2.2.1
  obtain ⟨n1, n2⟩ := sp_noTray (Lh := Lh) (I := zx_u I 138 0 (nI 0)) (J := J) (x := x)
  have hbw := fun d L I J P => sp_bt (d := d) (L := L) (I := I) (J := J) (P := P) w (a := 0) (b := 1) (by omega) (by omega)
  have wl := zq_lt0 w
  have wg := zq_gt w (n := 1) (by omega)
  have c2 : ((-2 : Int32) = nI 0) = False := eq_false (by decide)
  have c6 : ((-6 : Int32) = nI 0) = False := eq_false (by decide)
  cases c : zf_in x.toInt 4 with
  | false =>
    have h1 := fun d P => sc_trayNo (d := d) (Lh := Lh) (I := I) (J := J) (P := P) c
    have h2 := n1 c
    have h9 : ∀ d P, zx_rn (d + 21) 259 [.ref 138, .int x, .int y] (zx_LL Lh) (zx_u I 138 0 (nI 0)) J P = P (some (.int (-2))) (zx_LL Lh) (zx_u I 138 0 (nI 0)) J := fun d P => by
      rw [ze_259]
      simp (disch := omega) only [↓zs_259_0, ↓zs_259_1, ↓zs_259_2, ↓zs_259_5, ↓zs_259_6, ↓zs_259_7, ↓zs_259_10, ↓zs_259_11, zx_pu_s, zx_pu_n, zx_rv_s, zx_rv_n, true_and, and_true, true_or, or_true, zb_0, zb_1, zq_lcl, zq_lcg, zq_lce, eq_self, ite_true, ite_false, zk_138, zw_138, zk_139, zw_139, zk_140, zw_140, zk_141, zw_141, zk_142, zw_142, zk_143, zw_143, zk_144, zw_144, zk_145, zw_145, zk_146, zw_146, zk_147, zw_147, zk_148, zw_148, zk_149, zw_149, zk_150, zw_150, zk_151, zw_151, zk_152, zw_152, zq_138_1, zq_138_2, zq_138_3, zq_138_4, zq_138_16, zq_138_19, zq_138_20, zq_138_24, zq_138_25, zq_138_26, zq_138_27, zq_138_31, zq_138_32, zq_138_33, h2, c2]
    refine ⟨.int (-2), I, J, zx_u I 138 0 (nI 0), J, fun d P => ?_, fun d P => ?_, zScr_s (zFs_0 _ _)⟩
    · rw [ze_139]
      simp (disch := omega) only [↓zs_139_0, ↓zs_139_1, ↓zs_139_2, ↓zs_139_5, ↓zs_139_5N, ↓zs_139_7, ↓zs_139_7N, ↓zs_139_9, ↓zs_139_9N, ↓zs_139_12, ↓zs_139_13, ↓zs_139_16, ↓zs_139_17, ↓zs_139_18, ↓zs_139_21, ↓zs_139_23, zx_pu_s, zx_pu_n, zx_rv_s, zx_rv_n, true_and, and_true, true_or, or_true, zb_0, zb_1, zq_lcl, zq_lcg, zq_lce, eq_self, ite_true, ite_false, zk_0, zw_0, zq_0_0, zq_0_1, zq_0_2, zq_0_3, zq_0_4, zq_0_5, zq_0_6, zq_0_7, zq_0_8, zq_0_9, zq_0_10, zq_0_11, h1]
    · rw [ze_261]
      cases cy : zf_bt 0 1 w.toInt <;> rw [cy] at hbw <;> simp (disch := omega) only [↓zs_261_0, ↓zs_261_1, ↓zs_261_2, ↓zs_261_5, ↓zs_261_6, ↓zs_261_7, ↓zs_261_8, ↓zs_261_9, ↓zs_261_12, ↓zs_261_15, ↓zs_261_17, ↓zs_261_18, ↓zs_261_19, ↓zs_261_20, ↓zs_261_21, ↓zs_261_24, ↓zs_261_26, ↓zs_261_28, ↓zs_261_31, ↓zs_261_33, zx_pu_s, zx_pu_n, zx_rv_s, zx_rv_n, true_and, and_true, true_or, or_true, zb_0, zb_1, zq_lcl, zq_lcg, zq_lce, eq_self, ite_true, ite_false, zk_138, zw_138, zk_139, zw_139, zk_140, zw_140, zk_141, zw_141, zk_142, zw_142, zk_143, zw_143, zk_144, zw_144, zk_145, zw_145, zk_146, zw_146, zk_147, zw_147, zk_148, zw_148, zk_149, zw_149, zk_150, zw_150, zk_151, zw_151, zk_152, zw_152, zq_138_1, zq_138_2, zq_138_3, zq_138_4, zq_138_16, zq_138_19, zq_138_20, zq_138_24, zq_138_25, zq_138_26, zq_138_27, zq_138_31, zq_138_32, zq_138_33, hbw, zB_0, reduceCtorEq, h9, c2]
  | true =>
    have ex := zq_toI (x := x) rfl c (by omega)
    have ht : x.toInt.toNat < 4 := by have := zf_inP.mp c; omega
    generalize x.toInt.toNat = t at ex ht
    subst ex
    obtain ⟨n3, n4⟩ := n2 t ht rfl
    obtain ⟨k1, k2, k3, k4, k5, k6⟩ := zTr_k Lh ht
    have h1 := fun d P => sc_trayAt (d := d) (Lh := Lh) (I := I) (J := J) (P := P) ht
    have l5 : (102 + 2 * t < 5000) = True := eq_true (by omega)
    have u150 : zx_u I 138 0 (nI 0) 150 = I 150 := zu_o (by decide)
    have u151 : zx_u I 138 0 (nI 0) 151 = I 151 := zu_o (by decide)
    cases cy : zf_bt 0 1 w.toInt with
    | false =>
      rw [cy] at hbw
      refine ⟨.int (-2), I, J, zx_u I 138 0 (nI 0), J, fun d P => ?_, fun d P => ?_, zScr_s (zFs_0 _ _)⟩
      · rw [ze_139]
        rcases zf_bt_no cy with q | ⟨q1, q2⟩
        · simp (disch := omega) only [↓zs_139_0, ↓zs_139_1, ↓zs_139_2, ↓zs_139_5, ↓zs_139_5N, ↓zs_139_7, ↓zs_139_7N, ↓zs_139_9, ↓zs_139_9N, ↓zs_139_12, ↓zs_139_13, ↓zs_139_16, ↓zs_139_17, ↓zs_139_18, ↓zs_139_21, ↓zs_139_23, zx_pu_s, zx_pu_n, zx_rv_s, zx_rv_n, true_and, and_true, true_or, or_true, zb_0, zb_1, zq_lcl, zq_lcg, zq_lce, eq_self, ite_true, ite_false, zk_0, zw_0, zq_0_0, zq_0_1, zq_0_2, zq_0_3, zq_0_4, zq_0_5, zq_0_6, zq_0_7, zq_0_8, zq_0_9, zq_0_10, zq_0_11, h1, l5, wl, q]
        · have q3 : ((1 : Nat) : Int) < w.toInt := q2
          simp (disch := omega) only [↓zs_139_0, ↓zs_139_1, ↓zs_139_2, ↓zs_139_5, ↓zs_139_5N, ↓zs_139_7, ↓zs_139_7N, ↓zs_139_9, ↓zs_139_9N, ↓zs_139_12, ↓zs_139_13, ↓zs_139_16, ↓zs_139_17, ↓zs_139_18, ↓zs_139_21, ↓zs_139_23, zx_pu_s, zx_pu_n, zx_rv_s, zx_rv_n, true_and, and_true, true_or, or_true, zb_0, zb_1, zq_lcl, zq_lcg, zq_lce, eq_self, ite_true, ite_false, zk_0, zw_0, zq_0_0, zq_0_1, zq_0_2, zq_0_3, zq_0_4, zq_0_5, zq_0_6, zq_0_7, zq_0_8, zq_0_9, zq_0_10, zq_0_11, h1, l5, wl, q1, wg, q3]
      · rw [ze_261]
        simp (disch := omega) only [↓zs_261_0, ↓zs_261_1, ↓zs_261_2, ↓zs_261_5, ↓zs_261_6, ↓zs_261_7, ↓zs_261_8, ↓zs_261_9, ↓zs_261_12, ↓zs_261_15, ↓zs_261_17, ↓zs_261_18, ↓zs_261_19, ↓zs_261_20, ↓zs_261_21, ↓zs_261_24, ↓zs_261_26, ↓zs_261_28, ↓zs_261_31, ↓zs_261_33, zx_pu_s, zx_pu_n, zx_rv_s, zx_rv_n, true_and, and_true, true_or, or_true, zb_0, zb_1, zq_lcl, zq_lcg, zq_lce, eq_self, ite_true, ite_false, zk_138, zw_138, zk_139, zw_139, zk_140, zw_140, zk_141, zw_141, zk_142, zw_142, zk_143, zw_143, zk_144, zw_144, zk_145, zw_145, zk_146, zw_146, zk_147, zw_147, zk_148, zw_148, zk_149, zw_149, zk_150, zw_150, zk_151, zw_151, zk_152, zw_152, zq_138_1, zq_138_2, zq_138_3, zq_138_4, zq_138_16, zq_138_19, zq_138_20, zq_138_24, zq_138_25, zq_138_26, zq_138_27, zq_138_31, zq_138_32, zq_138_33, hbw, zB_0, reduceCtorEq]
    | true =>
      rw [cy] at hbw
      obtain ⟨z, -, hz1, rfl⟩ := zf_bt_nI cy (by omega)
      have a1 : ¬ 1 < z := by omega
      rcases hT t ht with ⟨e1, e2⟩ | ⟨s, n, hs, hn, e1, e2, e3, e4, e5, e6⟩
      · have h2 := n3 (by rw [u150]; exact e1)
        have h9 : ∀ d P, zx_rn (d + 21) 259 [.ref 138, .int (nI t), .int y] (zx_LL Lh) (zx_u I 138 0 (nI 0)) J P = P (some (.int (-6))) (zx_LL Lh) (zx_u I 138 0 (nI 0)) J := fun d P => by
          rw [ze_259]
          simp (disch := omega) only [↓zs_259_0, ↓zs_259_1, ↓zs_259_2, ↓zs_259_5, ↓zs_259_6, ↓zs_259_7, ↓zs_259_10, ↓zs_259_11, zx_pu_s, zx_pu_n, zx_rv_s, zx_rv_n, true_and, and_true, true_or, or_true, zb_0, zb_1, zq_lcl, zq_lcg, zq_lce, eq_self, ite_true, ite_false, zk_138, zw_138, zk_139, zw_139, zk_140, zw_140, zk_141, zw_141, zk_142, zw_142, zk_143, zw_143, zk_144, zw_144, zk_145, zw_145, zk_146, zw_146, zk_147, zw_147, zk_148, zw_148, zk_149, zw_149, zk_150, zw_150, zk_151, zw_151, zk_152, zw_152, zq_138_1, zq_138_2, zq_138_3, zq_138_4, zq_138_16, zq_138_19, zq_138_20, zq_138_24, zq_138_25, zq_138_26, zq_138_27, zq_138_31, zq_138_32, zq_138_33, h2, c6]
        have h8 : ∀ d P, zx_rn (d + 1) 140 [.ref 0, .ref (102 + 2 * t), .int y] (zx_LL Lh) I J P = P (some (.int (-6))) (zx_LL Lh) I J := fun d P => by
          rw [ze_140]
          simp (disch := omega) only [↓zs_140_0, ↓zs_140_1, ↓zs_140_4, ↓zs_140_7, ↓zs_140_9, ↓zs_140_10, ↓zs_140_11, zx_pu_s, zx_pu_n, zx_rv_s, zx_rv_n, true_and, and_true, true_or, or_true, zb_0, zb_1, zq_lcl, zq_lcg, zq_lce, eq_self, ite_true, ite_false, zk_0, zw_0, zq_0_0, zq_0_1, zq_0_2, zq_0_3, zq_0_4, zq_0_5, zq_0_6, zq_0_7, zq_0_8, zq_0_9, zq_0_10, zq_0_11, k1, e2]
        refine ⟨.int (-6), I, J, zx_u I 138 0 (nI 0), J, fun d P => ?_, fun d P => ?_, zScr_s (zFs_0 _ _)⟩
        · rw [ze_139]
          simp (disch := omega) only [↓zs_139_0, ↓zs_139_1, ↓zs_139_2, ↓zs_139_5, ↓zs_139_5N, ↓zs_139_7, ↓zs_139_7N, ↓zs_139_9, ↓zs_139_9N, ↓zs_139_12, ↓zs_139_13, ↓zs_139_16, ↓zs_139_17, ↓zs_139_18, ↓zs_139_21, ↓zs_139_23, ↓zs_139_24, ↓zs_139_25, ↓zs_139_25N, ↓zs_139_27, ↓zs_139_28, ↓zs_139_31, ↓zs_139_33, ↓zs_139_35, ↓zs_139_38, ↓zs_139_40, zx_pu_s, zx_pu_n, zx_rv_s, zx_rv_n, true_and, and_true, true_or, or_true, zb_0, zb_1, zq_lcl, zq_lcg, zq_lce, eq_self, ite_true, ite_false, zk_0, zw_0, zq_0_0, zq_0_1, zq_0_2, zq_0_3, zq_0_4, zq_0_5, zq_0_6, zq_0_7, zq_0_8, zq_0_9, zq_0_10, zq_0_11, nI_ltI, zn_lt0, h1, l5, a1, h8, c6]
        · rw [ze_261]
          simp (disch := omega) only [↓zs_261_0, ↓zs_261_1, ↓zs_261_2, ↓zs_261_5, ↓zs_261_6, ↓zs_261_7, ↓zs_261_8, ↓zs_261_9, ↓zs_261_12, ↓zs_261_15, ↓zs_261_17, ↓zs_261_18, ↓zs_261_19, ↓zs_261_20, ↓zs_261_21, ↓zs_261_24, ↓zs_261_26, ↓zs_261_28, ↓zs_261_31, ↓zs_261_33, zx_pu_s, zx_pu_n, zx_rv_s, zx_rv_n, true_and, and_true, true_or, or_true, zb_0, zb_1, zq_lcl, zq_lcg, zq_lce, eq_self, ite_true, ite_false, zk_138, zw_138, zk_139, zw_139, zk_140, zw_140, zk_141, zw_141, zk_142, zw_142, zk_143, zw_143, zk_144, zw_144, zk_145, zw_145, zk_146, zw_146, zk_147, zw_147, zk_148, zw_148, zk_149, zw_149, zk_150, zw_150, zk_151, zw_151, zk_152, zw_152, zq_138_1, zq_138_2, zq_138_3, zq_138_4, zq_138_16, zq_138_19, zq_138_20, zq_138_24, zq_138_25, zq_138_26, zq_138_27, zq_138_31, zq_138_32, zq_138_33, hbw, zB_0, reduceCtorEq, h9, c6]
      · have h8 := sc_wrong (Lh := Lh) (I := I) (J := J) (t := t) (n := n) (N := zn (I 139)) (y := y) ht hn N8 e3 e5 hN
        by_cases hz : zf_wt (J (103 + 2 * t)) n (zn (I 139)) y = nI 0
        · obtain ⟨en, k, hk, rfl⟩ := zf_wt_0 hz
          obtain ⟨I3, I4, f3, K3, h3, s4, K4, h4⟩ := sp_seenM (Lh := Lh) v hm ht hk hs en e1 e2 e6 hz
          rw [hz] at h8
          have le : (zf_sn (I 139) (J (103 + 2 * t)) k).1 ≤ 81 := by
            have := zf_sk_le (g := zf_sg (I 139) (J (103 + 2 * t)) k) 80 0 (zf_s0 (I 139) (J (103 + 2 * t)) k)
            have e0 : (zf_s0 (I 139) (J (103 + 2 * t)) k).1 ≤ 1 := by
              unfold zf_s0
              split
              · exact Nat.le_refl _
              · exact Nat.zero_le _
            unfold zf_sn
            omega
          generalize zf_sn (I 139) (J (103 + 2 * t)) k = K at *
          obtain ⟨r1, r2⟩ := K3
          obtain ⟨u1, u2⟩ := K4
          have hc : ∀ d P, zx_rn (d + 30) 139 [.ref 0, .int (nI t), .int (nI k), .int (nI z)] (zx_LL Lh) I J P = zx_wp (d + 30) 139 59 [.ref 0, .int (nI t), .int (nI k), .int (nI z), .ref (102 + 2 * t), .int (nI 0)] [] (zx_LL Lh) I3 J P := fun d P => by
            rw [ze_139]
            simp (disch := omega) only [↓zs_139_0, ↓zs_139_1, ↓zs_139_2, ↓zs_139_5, ↓zs_139_5N, ↓zs_139_7, ↓zs_139_7N, ↓zs_139_9, ↓zs_139_9N, ↓zs_139_12, ↓zs_139_13, ↓zs_139_16, ↓zs_139_17, ↓zs_139_18, ↓zs_139_21, ↓zs_139_23, ↓zs_139_24, ↓zs_139_25, ↓zs_139_25N, ↓zs_139_27, ↓zs_139_28, ↓zs_139_31, ↓zs_139_33, ↓zs_139_35, ↓zs_139_38, ↓zs_139_40, ↓zs_139_41, ↓zs_139_42, ↓zs_139_45, ↓zs_139_46, ↓zs_139_49, ↓zs_139_50, ↓zs_139_53, ↓zs_139_53N, ↓zs_139_55, ↓zs_139_56, zx_pu_s, zx_pu_n, zx_rv_s, zx_rv_n, true_and, and_true, true_or, or_true, zb_0, zb_1, zq_lcl, zq_lcg, zq_lce, eq_self, ite_true, ite_false, zk_0, zw_0, zk_1, zw_1, zq_0_0, zq_0_1, zq_0_2, zq_0_3, zq_0_4, zq_0_5, zq_0_6, zq_0_7, zq_0_8, zq_0_9, zq_0_10, zq_0_11, zq_1_0, zq_1_1, zq_1_2, zq_1_3, zq_1_4, zq_1_5, zk_11, zw_11, zq_11_0, zq_11_1, zq_11_2, zk_65, zw_65, zq_65_0, nI_ltI, zn_lt0, h1, l5, a1, h8, h3]
          have hmm : ∀ d P, zx_rn (d + 30) 261 [.ref 138, .int (nI t), .int (nI k), .int (nI z)] (zx_LL Lh) I3 J P = zx_wp (d + 30) 261 34 [.ref 138, .int (nI t), .int (nI k), .int (nI z), .int (nI 0)] [] (zx_LL Lh) I4 J P := fun d P => by
            rw [ze_261]
            simp (disch := omega) only [↓zs_261_0, ↓zs_261_1, ↓zs_261_2, ↓zs_261_5, ↓zs_261_6, ↓zs_261_7, ↓zs_261_8, ↓zs_261_9, ↓zs_261_12, ↓zs_261_15, ↓zs_261_17, ↓zs_261_18, ↓zs_261_19, ↓zs_261_20, ↓zs_261_21, ↓zs_261_24, ↓zs_261_26, ↓zs_261_28, ↓zs_261_31, ↓zs_261_33, zx_pu_s, zx_pu_n, zx_rv_s, zx_rv_n, true_and, and_true, true_or, or_true, zb_0, zb_1, zq_lcl, zq_lcg, zq_lce, eq_self, ite_true, ite_false, zk_138, zw_138, zk_139, zw_139, zk_140, zw_140, zk_141, zw_141, zk_142, zw_142, zk_143, zw_143, zk_144, zw_144, zk_145, zw_145, zk_146, zw_146, zk_147, zw_147, zk_148, zw_148, zk_149, zw_149, zk_150, zw_150, zk_151, zw_151, zk_152, zw_152, zq_138_1, zq_138_2, zq_138_3, zq_138_4, zq_138_16, zq_138_19, zq_138_20, zq_138_24, zq_138_25, zq_138_26, zq_138_27, zq_138_31, zq_138_32, zq_138_33, hbw, zB_0, reduceCtorEq, h4]
          have z10 : (nI 1 = nI 0) = False := eq_false (by decide)
          by_cases c0 : K.1 = 0
          · rw [c0] at r1 u1
            refine ⟨.int (-9), I3, J, I4, J, fun d P => ?_, fun d P => ?_, s4⟩
            · rw [hc]
              simp (disch := omega) only [↓zs_139_59, ↓zs_139_60, ↓zs_139_63, ↓zs_139_66, ↓zs_139_69, ↓zs_139_71, ↓zs_139_72, ↓zs_139_73, ↓zs_139_76, ↓zs_139_77, ↓zs_139_80, ↓zs_139_83, ↓zs_139_86, ↓zs_139_87, ↓zs_139_90, ↓zs_139_93, ↓zs_139_96, ↓zs_139_98, ↓zs_139_99, ↓zs_139_100, ↓zs_139_103, ↓zs_139_106, ↓zs_139_109, ↓zs_139_110, ↓zs_139_113, ↓zs_139_116, ↓zs_139_119, ↓zs_139_121, zx_pu_s, zx_pu_n, zx_rv_s, zx_rv_n, true_and, and_true, true_or, or_true, zb_0, zb_1, zq_lcl, zq_lcg, zq_lce, eq_self, ite_true, ite_false, zk_0, zw_0, zq_0_0, zq_0_1, zq_0_2, zq_0_3, zq_0_4, zq_0_5, zq_0_6, zq_0_7, zq_0_8, zq_0_9, zq_0_10, zq_0_11, zk_65, zw_65, zq_65_0, r1]
            · rw [hmm]
              simp (disch := omega) only [↓zs_261_34, ↓zs_261_35, ↓zs_261_38, ↓zs_261_41, ↓zs_261_43, ↓zs_261_46, ↓zs_261_47, ↓zs_261_50, ↓zs_261_51, ↓zs_261_54, ↓zs_261_57, ↓zs_261_58, ↓zs_261_61, zx_pu_s, zx_pu_n, zx_rv_s, zx_rv_n, true_and, and_true, true_or, or_true, zb_0, zb_1, zq_lcl, zq_lcg, zq_lce, eq_self, ite_true, ite_false, zk_138, zw_138, zk_139, zw_139, zk_140, zw_140, zk_141, zw_141, zk_142, zw_142, zk_143, zw_143, zk_144, zw_144, zk_145, zw_145, zk_146, zw_146, zk_147, zw_147, zk_148, zw_148, zk_149, zw_149, zk_150, zw_150, zk_151, zw_151, zk_152, zw_152, zq_138_1, zq_138_2, zq_138_3, zq_138_4, zq_138_16, zq_138_19, zq_138_20, zq_138_24, zq_138_25, zq_138_26, zq_138_27, zq_138_31, zq_138_32, zq_138_33, u1]
          · have c0' : (nI K.1 = nI 0) = False := zq_ne c0 (by omega) (by omega)
            obtain ⟨r2, r3, r4, r5⟩ := r2 c0
            obtain ⟨u2, u3⟩ := u2 c0
            refine ⟨.int (if z = 0 then (if K.2.2.2.1 = true then K.2.1 else -9) else (if K.2.2.2.2 = true then K.2.2.1 else -9)), I3, J, I4, J, fun d P => ?_, fun d P => ?_, s4⟩
            · rw [hc]
              rcases (show z = 0 ∨ z = 1 by omega) with q | q <;> subst q
              · rw [if_pos rfl]
                cases q4 : K.2.2.2.1 <;> rw [q4] at r4 <;> simp (disch := omega) only [↓zs_139_59, ↓zs_139_60, ↓zs_139_63, ↓zs_139_66, ↓zs_139_69, ↓zs_139_71, ↓zs_139_72, ↓zs_139_73, ↓zs_139_76, ↓zs_139_77, ↓zs_139_80, ↓zs_139_83, ↓zs_139_86, ↓zs_139_87, ↓zs_139_90, ↓zs_139_93, ↓zs_139_96, ↓zs_139_98, ↓zs_139_99, ↓zs_139_100, ↓zs_139_103, ↓zs_139_106, ↓zs_139_109, ↓zs_139_110, ↓zs_139_113, ↓zs_139_116, ↓zs_139_119, ↓zs_139_121, zx_pu_s, zx_pu_n, zx_rv_s, zx_rv_n, true_and, and_true, true_or, or_true, zb_0, zb_1, zq_lcl, zq_lcg, zq_lce, eq_self, ite_true, ite_false, zk_0, zw_0, zq_0_0, zq_0_1, zq_0_2, zq_0_3, zq_0_4, zq_0_5, zq_0_6, zq_0_7, zq_0_8, zq_0_9, zq_0_10, zq_0_11, zk_65, zw_65, zq_65_0, r1, c0', r2, r4, zB_0, reduceCtorEq]
              · rw [if_neg (by decide)]
                cases q4 : K.2.2.2.2 <;> rw [q4] at r5 <;> simp (disch := omega) only [↓zs_139_59, ↓zs_139_60, ↓zs_139_63, ↓zs_139_66, ↓zs_139_69, ↓zs_139_71, ↓zs_139_72, ↓zs_139_73, ↓zs_139_76, ↓zs_139_77, ↓zs_139_80, ↓zs_139_83, ↓zs_139_86, ↓zs_139_87, ↓zs_139_90, ↓zs_139_93, ↓zs_139_96, ↓zs_139_98, ↓zs_139_99, ↓zs_139_100, ↓zs_139_103, ↓zs_139_106, ↓zs_139_109, ↓zs_139_110, ↓zs_139_113, ↓zs_139_116, ↓zs_139_119, ↓zs_139_121, zx_pu_s, zx_pu_n, zx_rv_s, zx_rv_n, true_and, and_true, true_or, or_true, zb_0, zb_1, zq_lcl, zq_lcg, zq_lce, eq_self, ite_true, ite_false, zk_0, zw_0, zq_0_0, zq_0_1, zq_0_2, zq_0_3, zq_0_4, zq_0_5, zq_0_6, zq_0_7, zq_0_8, zq_0_9, zq_0_10, zq_0_11, zk_65, zw_65, zq_65_0, r1, c0', r3, r5, zB_0, reduceCtorEq, z10]
            · rw [hmm]
              rcases (show z = 0 ∨ z = 1 by omega) with q | q <;> subst q
              · rw [if_pos rfl]
                simp (disch := omega) only [↓zs_261_34, ↓zs_261_35, ↓zs_261_38, ↓zs_261_41, ↓zs_261_43, ↓zs_261_46, ↓zs_261_47, ↓zs_261_50, ↓zs_261_51, ↓zs_261_54, ↓zs_261_57, ↓zs_261_58, ↓zs_261_61, zx_pu_s, zx_pu_n, zx_rv_s, zx_rv_n, true_and, and_true, true_or, or_true, zb_0, zb_1, zq_lcl, zq_lcg, zq_lce, eq_self, ite_true, ite_false, zk_138, zw_138, zk_139, zw_139, zk_140, zw_140, zk_141, zw_141, zk_142, zw_142, zk_143, zw_143, zk_144, zw_144, zk_145, zw_145, zk_146, zw_146, zk_147, zw_147, zk_148, zw_148, zk_149, zw_149, zk_150, zw_150, zk_151, zw_151, zk_152, zw_152, zq_138_1, zq_138_2, zq_138_3, zq_138_4, zq_138_16, zq_138_19, zq_138_20, zq_138_24, zq_138_25, zq_138_26, zq_138_27, zq_138_31, zq_138_32, zq_138_33, u1, c0', u2]
              · rw [if_neg (by decide)]
                simp (disch := omega) only [↓zs_261_34, ↓zs_261_35, ↓zs_261_38, ↓zs_261_41, ↓zs_261_43, ↓zs_261_46, ↓zs_261_47, ↓zs_261_50, ↓zs_261_51, ↓zs_261_54, ↓zs_261_57, ↓zs_261_58, ↓zs_261_61, zx_pu_s, zx_pu_n, zx_rv_s, zx_rv_n, true_and, and_true, true_or, or_true, zb_0, zb_1, zq_lcl, zq_lcg, zq_lce, eq_self, ite_true, ite_false, zk_138, zw_138, zk_139, zw_139, zk_140, zw_140, zk_141, zw_141, zk_142, zw_142, zk_143, zw_143, zk_144, zw_144, zk_145, zw_145, zk_146, zw_146, zk_147, zw_147, zk_148, zw_148, zk_149, zw_149, zk_150, zw_150, zk_151, zw_151, zk_152, zw_152, zq_138_1, zq_138_2, zq_138_3, zq_138_4, zq_138_16, zq_138_19, zq_138_20, zq_138_24, zq_138_25, zq_138_26, zq_138_27, zq_138_31, zq_138_32, zq_138_33, u1, c0', u3, z10]
        · have hR := sp_laysR (Lh := Lh) (I := zx_u I 138 0 (nI 0)) (J := J) (t := t) (n := n) (N := zn (I 139)) (s := s) (y := y) (T := J (103 + 2 * t)) ht hn (by rw [zu_139]; exact v.2.1.1.1.2.2.1) N8 hs (by rw [u150]; exact e1) (by rw [u151]; exact e2) (fun i hi => (e6 i hi).symm)
          have hz' : (zf_wt (J (103 + 2 * t)) n (zn (I 139)) y = nI 0) = False := eq_false hz
          simp only [if_neg hz] at hR
          refine ⟨.int (zf_wt (J (103 + 2 * t)) n (zn (I 139)) y), I, J, zx_u I 138 0 (nI 0), J, fun d P => ?_, fun d P => ?_, zScr_s (zFs_0 _ _)⟩
          · rw [ze_139]
            simp (disch := omega) only [↓zs_139_0, ↓zs_139_1, ↓zs_139_2, ↓zs_139_5, ↓zs_139_5N, ↓zs_139_7, ↓zs_139_7N, ↓zs_139_9, ↓zs_139_9N, ↓zs_139_12, ↓zs_139_13, ↓zs_139_16, ↓zs_139_17, ↓zs_139_18, ↓zs_139_21, ↓zs_139_23, ↓zs_139_24, ↓zs_139_25, ↓zs_139_25N, ↓zs_139_27, ↓zs_139_28, ↓zs_139_31, ↓zs_139_33, ↓zs_139_35, ↓zs_139_38, ↓zs_139_40, zx_pu_s, zx_pu_n, zx_rv_s, zx_rv_n, true_and, and_true, true_or, or_true, zb_0, zb_1, zq_lcl, zq_lcg, zq_lce, eq_self, ite_true, ite_false, zk_0, zw_0, zq_0_0, zq_0_1, zq_0_2, zq_0_3, zq_0_4, zq_0_5, zq_0_6, zq_0_7, zq_0_8, zq_0_9, zq_0_10, zq_0_11, nI_ltI, zn_lt0, h1, l5, a1, h8, hz']
          · rw [ze_261]
            simp (disch := omega) only [↓zs_261_0, ↓zs_261_1, ↓zs_261_2, ↓zs_261_5, ↓zs_261_6, ↓zs_261_7, ↓zs_261_8, ↓zs_261_9, ↓zs_261_12, ↓zs_261_15, ↓zs_261_17, ↓zs_261_18, ↓zs_261_19, ↓zs_261_20, ↓zs_261_21, ↓zs_261_24, ↓zs_261_26, ↓zs_261_28, ↓zs_261_31, ↓zs_261_33, zx_pu_s, zx_pu_n, zx_rv_s, zx_rv_n, true_and, and_true, true_or, or_true, zb_0, zb_1, zq_lcl, zq_lcg, zq_lce, eq_self, ite_true, ite_false, zk_138, zw_138, zk_139, zw_139, zk_140, zw_140, zk_141, zw_141, zk_142, zw_142, zk_143, zw_143, zk_144, zw_144, zk_145, zw_145, zk_146, zw_146, zk_147, zw_147, zk_148, zw_148, zk_149, zw_149, zk_150, zw_150, zk_151, zw_151, zk_152, zw_152, zq_138_1, zq_138_2, zq_138_3, zq_138_4, zq_138_16, zq_138_19, zq_138_20, zq_138_24, zq_138_25, zq_138_26, zq_138_27, zq_138_31, zq_138_32, zq_138_33, hbw, zB_0, reduceCtorEq, hR, hz']
end SW
