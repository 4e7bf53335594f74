/-! frees: one STATUE turned to another, some nights on -/
def zf_fr (B : Nat → Int32) (s t : Nat) : Bool := decide (zf_wL B s t = 0) && !decide (B (125 + s) = nI t)
def zf_fo (B : Nat → Int32) (s t : Nat) : Nat → Int32 := zu1 B (125 + s) (nI t)
theorem zf_fo_V {B : Nat → Int32} {s t m : Nat} (v : zV B m) (hm : m < 2 ^ 30) (h : zf_wL B s t = 0) : zV (zf_fo B s t) (m + 1) ∧ zSm B (zf_fo B s t) := by
  have N8 : zn B ≤ 8 := v.1.1.2.2.2.2.2
  have hst : s < zn B ∧ t < zn B := by
    unfold zf_wL at h
    by_cases c : s < zn B ∧ t < zn B ∧ s ≠ t
    · exact ⟨c.1, c.2.1⟩
    · rw [if_neg c] at h; omega
  have en : zf_whyN B (10 * s + t) = zf_wL B s t := by
    unfold zf_whyN
    rw [if_pos (by omega), show (10 * s + t) / 10 = s by omega, show (10 * s + t) % 10 = t by omega]
  have edo : zf_doN B (10 * s + t) = zu1 B (125 + s) (nI t) := by
    unfold zf_doN
    rw [if_pos (by omega), show (10 * s + t) / 10 = s by omega, show (10 * s + t) % 10 = t by omega]
  have hV := zf_do_V v (u := lN (10 * s + t)) hm (by rw [zf_why_n (by omega), en]; exact h)
  rw [(zf_do_n (B := B) (n := 10 * s + t) (by omega)).1, edo] at hV
  exact hV
theorem zx_st66 : zx_st 66 := show 66 ∈ zx_stl by decide
section FR
variable {Lh m : Nat} {I1 : zx_MI} {J : zx_MJ} {B : Nat → Int32}
theorem sc_begun {n k : Nat} (v : zV B m) (hm : m + 70 < 2 ^ 30) (sq : zR_sq I1 J 1 B) (rel : zR_st I1 11 B) (hn : n < 80) (hk : k ≤ 60) : ∃ I2, zFc 66 I1 I2 ∧ (zf_fr B (n / 10) (n % 10) = true → zR_st I2 66 (zf_ni (zf_fo B (n / 10) (n % 10)) k)) ∧ ∀ d P, zx_rn (d + 6) 42 [.ref 65, .ref 1, .ref 11, .int (nI n), .int (nI k)] (zx_LL Lh) I1 J P = P (some (.int (zB (zf_fr B (n / 10) (n % 10))))) (zx_LL Lh) I2 J := by
  have hs8 : n / 10 < 8 := by omega
  have ht10 : n % 10 < 10 := by omega
  have m1 : (nI n = -1) = False := zq_m1 (by omega)
  obtain ⟨I2, f2, f2', r2, hb⟩ := sc_become (Lh := Lh) (I := I1) (J := J) zx_st66 zx_st11 (by decide)
  have sq2 : zR_sq I2 J 1 B := zFc_sq zx_st66 f2 sq
  have rel2 : zR_st I2 11 B := zFc_st zx_st66 zx_st11 (by decide) f2 rel
  have hL := fun d P => sc_whyL (d := d) (Lh := Lh) (I := I2) (J := J) (P := P) (a := n / 10) (b := n % 10) zx_st11 v sq2 rel2 (by omega) (by omega)
  have e14 : I2 14 (n / 10) = B (125 + n / 10) := (rel2.2 _ hs8).2.2
  have r66 : zR_st I2 66 B := r2 B rel
  by_cases c1 : zf_wL B (n / 10) (n % 10) = 0
  · obtain ⟨v1, s1⟩ := zf_fo_V v (by omega) c1
    rw [c1] at hL
    by_cases c2 : B (125 + n / 10) = nI (n % 10)
    · have cf : zf_fr B (n / 10) (n % 10) = false := by unfold zf_fr; rw [decide_eq_true c2, Bool.not_true, Bool.and_false]
      rw [c2] at e14
      rw [cf]
      refine ⟨I2, f2, fun e => Bool.noConfusion e, fun d P => ?_⟩
      rw [ze_42]
      simp (disch := omega) only [↓zs_42_0, ↓zs_42_1, ↓zs_42_4, ↓zs_42_5, ↓zs_42_8, ↓zs_42_9, ↓zs_42_10, ↓zs_42_13, ↓zs_42_14, ↓zs_42_16, ↓zs_42_17, ↓zs_42_19, ↓zs_42_20, ↓zs_42_22, ↓zs_42_23, ↓zs_42_25, ↓zs_42_26, ↓zs_42_27, ↓zs_42_29, ↓zs_42_31, ↓zs_42_34, ↓zs_42_37, ↓zs_42_38, ↓zs_42_41, ↓zs_42_43, ↓zs_42_44, ↓zs_42_46, ↓zs_42_49, ↓zs_42_50, ↓zs_42_51, ↓zs_42_52, ↓zs_42_55, ↓zs_42_58, ↓zs_42_60, ↓zs_42_62, zx_pu_s, zx_pu_n, zx_rv_s, zx_rv_n, true_and, and_true, true_or, or_true, zb_0, zb_1, zq_lcl, zq_lcg, zq_lce, eq_self, ite_true, ite_false, zk_1, zw_1, zq_1_0, zq_1_1, zq_1_2, zq_1_3, zq_1_4, zq_1_5, zk_11, zw_11, zk_12, zw_12, zk_13, zw_13, zk_14, zw_14, zq_11_0, zq_11_1, zq_11_2, zk_65, zw_65, zk_66, zw_66, zk_67, zw_67, zk_68, zw_68, zk_69, zw_69, zq_65_0, zq_66_0, zq_66_1, zq_66_2, zin_nI, nI_clamp, hb, m1, zq_10, not_false_eq_true, pk_div, pk_mul, zn_rem, zq_rem, hL, e14]
      rfl
    · have c2' : (B (125 + n / 10) = nI (n % 10)) = False := eq_false c2
      have cf : zf_fr B (n / 10) (n % 10) = true := by unfold zf_fr; rw [decide_eq_true c1, decide_eq_false c2]; rfl
      rw [cf]
      have fo : zFc 66 I1 (zx_u I2 69 (n / 10) (nI (n % 10))) := zFc_t f2 (fun a j q => zu_n (by omega))
      have sq3 : zR_sq (zx_u I2 69 (n / 10) (nI (n % 10))) J 1 (zf_fo B (n / 10) (n % 10)) := zSm_sq s1 v.2.2.2.2.1.2.1 v.2.2.2.1.2.1 (zFc_sq zx_st66 fo sq)
      have rel3 : zR_st (zx_u I2 69 (n / 10) (nI (n % 10))) 66 (zf_fo B (n / 10) (n % 10)) := zR_u_foe r66 hs8
      have loop : ∀ mm i I4 v6, i + mm = k → zFc 66 (zx_u I2 69 (n / 10) (nI (n % 10))) I4 → zR_st I4 66 (zf_ni (zf_fo B (n / 10) (n % 10)) i) → ∃ I3, zFc 66 (zx_u I2 69 (n / 10) (nI (n % 10))) I3 ∧ zR_st I3 66 (zf_ni (zf_fo B (n / 10) (n % 10)) k) ∧ ∀ d P, zx_wp (d + 6) 42 66 [.ref 65, .ref 1, .ref 11, .int (nI n), .int (nI k), .int (nI i), v6] [] (zx_LL Lh) I4 J P = P (some (.int (nI 1))) (zx_LL Lh) I3 J := by
        intro mm
        induction mm with
        | zero =>
          intro i I4 v6 hi f r
          obtain rfl : i = k := by omega
          refine ⟨I4, f, r, fun d P => ?_⟩
          rw [zs_42_66]
          simp (disch := omega) only [↓zs_42_68, ↓zs_42_70, ↓zs_42_73, ↓zs_42_74, ↓zs_42_75, ↓zs_42_78, ↓zs_42_81, ↓zs_42_82, ↓zs_42_85, ↓zs_42_88, ↓zs_42_89, zx_pu_s, zx_pu_n, zx_rv_s, zx_rv_n, true_and, and_true, true_or, or_true, zb_0, zb_1, zq_lcl, zq_lcg, zq_lce, eq_self, ite_true, ite_false, zk_65, zw_65, zk_66, zw_66, zq_65_0, zq_66_0, zq_66_1, zq_66_2, nI_ltI, Nat.lt_irrefl]
        | succ mm ih =>
          intro i I4 v6 hi f r
          have hlt : i < k := by omega
          obtain ⟨I5, f5, r5, h5⟩ := sc_nightN (Lh := Lh) (n := i) zx_st66 v1 (by omega) sq3 f r
          obtain ⟨I6, f6, r6, h6⟩ := ih (i + 1) I5 v6 (by omega) f5 r5
          refine ⟨I6, f6, r6, fun d P => ?_⟩
          rw [← h6 d P, zs_42_66]
          simp (disch := omega) only [↓zs_42_68, ↓zs_42_70, ↓zs_42_73, ↓zs_42_74, ↓zs_42_75, ↓zs_42_78, ↓zs_42_81, ↓zs_42_82, ↓zs_42_85, ↓zs_42_88, ↓zs_42_89, zx_pu_s, zx_pu_n, zx_rv_s, zx_rv_n, true_and, and_true, true_or, or_true, zb_0, zb_1, zq_lcl, zq_lcg, zq_lce, eq_self, ite_true, ite_false, zk_65, zw_65, zk_66, zw_66, zq_65_0, zq_66_0, zq_66_1, zq_66_2, nI_ltI, nI_add, hlt, h5]
      obtain ⟨I3, f3, r3, h3⟩ := loop k 0 (zx_u I2 69 (n / 10) (nI (n % 10))) (.int (nI (n % 10))) (by omega) (zFc_r _ _) rel3
      refine ⟨I3, zFc_t fo f3, fun _ => r3, fun d P => ?_⟩
      have o1 : zB true = nI 1 := rfl
      rw [o1, ← h3 d P, ze_42]
      simp (disch := omega) only [↓zs_42_0, ↓zs_42_1, ↓zs_42_4, ↓zs_42_5, ↓zs_42_8, ↓zs_42_9, ↓zs_42_10, ↓zs_42_13, ↓zs_42_14, ↓zs_42_16, ↓zs_42_17, ↓zs_42_19, ↓zs_42_20, ↓zs_42_22, ↓zs_42_23, ↓zs_42_25, ↓zs_42_26, ↓zs_42_27, ↓zs_42_29, ↓zs_42_31, ↓zs_42_34, ↓zs_42_37, ↓zs_42_38, ↓zs_42_41, ↓zs_42_43, ↓zs_42_44, ↓zs_42_46, ↓zs_42_49, ↓zs_42_50, ↓zs_42_51, ↓zs_42_52, ↓zs_42_55, ↓zs_42_58, ↓zs_42_60, ↓zs_42_62, ↓zs_42_63, ↓zs_42_64, zx_pu_s, zx_pu_n, zx_rv_s, zx_rv_n, true_and, and_true, true_or, or_true, zb_0, zb_1, zq_lcl, zq_lcg, zq_lce, eq_self, ite_true, ite_false, zk_1, zw_1, zq_1_0, zq_1_1, zq_1_2, zq_1_3, zq_1_4, zq_1_5, zk_11, zw_11, zk_12, zw_12, zk_13, zw_13, zk_14, zw_14, zq_11_0, zq_11_1, zq_11_2, zk_65, zw_65, zk_66, zw_66, zk_67, zw_67, zk_68, zw_68, zk_69, zw_69, zq_65_0, zq_66_0, zq_66_1, zq_66_2, zin_nI, nI_clamp, hb, m1, zq_10, not_false_eq_true, pk_div, pk_mul, zn_rem, zq_rem, hL, e14, c2']
  · have cf : zf_fr B (n / 10) (n % 10) = false := by unfold zf_fr; rw [decide_eq_false c1, Bool.false_and]
    have c1' : (nI (zf_wL B (n / 10) (n % 10)) = nI 0) = False := zq_ne c1 (by have := zf_wL_le B (n / 10) (n % 10); omega) (by omega)
    rw [cf]
    refine ⟨I2, f2, fun e => Bool.noConfusion e, fun d P => ?_⟩
    rw [ze_42]
    simp (disch := omega) only [↓zs_42_0, ↓zs_42_1, ↓zs_42_4, ↓zs_42_5, ↓zs_42_8, ↓zs_42_9, ↓zs_42_10, ↓zs_42_13, ↓zs_42_14, ↓zs_42_16, ↓zs_42_17, ↓zs_42_19, ↓zs_42_20, ↓zs_42_22, ↓zs_42_23, ↓zs_42_25, ↓zs_42_26, ↓zs_42_27, ↓zs_42_29, ↓zs_42_31, ↓zs_42_34, ↓zs_42_37, ↓zs_42_38, ↓zs_42_41, ↓zs_42_43, ↓zs_42_44, ↓zs_42_46, ↓zs_42_49, ↓zs_42_50, ↓zs_42_51, ↓zs_42_52, ↓zs_42_55, ↓zs_42_58, ↓zs_42_60, ↓zs_42_62, zx_pu_s, zx_pu_n, zx_rv_s, zx_rv_n, true_and, and_true, true_or, or_true, zb_0, zb_1, zq_lcl, zq_lcg, zq_lce, eq_self, ite_true, ite_false, zk_1, zw_1, zq_1_0, zq_1_1, zq_1_2, zq_1_3, zq_1_4, zq_1_5, zk_11, zw_11, zk_12, zw_12, zk_13, zw_13, zk_14, zw_14, zq_11_0, zq_11_1, zq_11_2, zk_65, zw_65, zk_66, zw_66, zk_67, zw_67, zk_68, zw_68, zk_69, zw_69, zq_65_0, zq_66_0, zq_66_1, zq_66_2, zin_nI, nI_clamp, hb, m1, zq_10, not_false_eq_true, pk_div, pk_mul, zn_rem, zq_rem, hL, c1']
    rfl
theorem sp_canTurn {I : zx_MI} {d s t : Nat} {P : Option Value → zx_Lay → zx_MI → zx_MJ → Prop} (hB : I 139 = B) (hs : s < zn B) (ht : t < zn B) (N8 : zn B ≤ 8) : zx_rn (d + 1) 256 [.ref 138, .int (nI s), .int (nI t)] (zx_LL Lh) I J P = P (some (.int (zB (zf_fr B s t)))) (zx_LL Lh) I J := by
  have h1 : ∀ s, s < 8 → ∀ d P, zx_rn d 186 [.ref 138, .int (nI s)] (zx_LL Lh) I J P = P (some (.int (zB (zf_stds (I 139) s)))) (zx_LL Lh) I J := fun s hs d P => sp_stands s hs
  rw [hB] at h1
  have ha := h1 s (by omega)
  have hb := h1 t (by omega)
  have e125 : I 139 (125 + s) = B (125 + s) := by rw [hB]
  rw [ze_256]
  unfold zf_fr zf_wL
  by_cases c : s = t
  · have c' : (nI s = nI t) = True := eq_true (congrArg nI c)
    rw [if_neg (fun e => e.2.2 c), decide_eq_false (by decide), Bool.false_and]
    simp (disch := omega) only [↓zs_256_0, ↓zs_256_1, ↓zs_256_2, ↓zs_256_5, ↓zs_256_6, ↓zs_256_7, ↓zs_256_10, ↓zs_256_13, ↓zs_256_14, ↓zs_256_15, ↓zs_256_18, ↓zs_256_21, ↓zs_256_22, ↓zs_256_25, ↓zs_256_27, ↓zs_256_28, ↓zs_256_29, ↓zs_256_30, ↓zs_256_31, ↓zs_256_34, ↓zs_256_35, ↓zs_256_38, ↓zs_256_39, zx_pu_s, zx_pu_n, zx_rv_s, zx_rv_n, true_and, and_true, true_or, or_true, zb_0, zb_1, zq_lcl, zq_lcg, zq_lce, eq_self, ite_true, ite_false, zk_138, zw_138, zk_139, zw_139, zk_140, zw_140, zk_141, zw_141, zk_142, zw_142, zk_143, zw_143, zk_144, zw_144, zk_145, zw_145, zk_146, zw_146, zk_147, zw_147, zk_148, zw_148, zk_149, zw_149, zk_150, zw_150, zk_151, zw_151, zk_152, zw_152, zq_138_1, zq_138_2, zq_138_3, zq_138_4, zq_138_16, zq_138_19, zq_138_20, zq_138_24, zq_138_25, zq_138_26, zq_138_27, zq_138_31, zq_138_32, zq_138_33, c']
    rfl
  · have c' : (nI s = nI t) = False := zq_ne c (by omega) (by omega)
    rw [if_pos ⟨hs, ht, c⟩]
    cases q1 : zf_stds B s <;> rw [q1] at ha
    · rw [if_neg (fun e => Bool.noConfusion e.1), decide_eq_false (by decide), Bool.false_and]
      simp (disch := omega) only [↓zs_256_0, ↓zs_256_1, ↓zs_256_2, ↓zs_256_5, ↓zs_256_6, ↓zs_256_7, ↓zs_256_10, ↓zs_256_13, ↓zs_256_14, ↓zs_256_15, ↓zs_256_18, ↓zs_256_21, ↓zs_256_22, ↓zs_256_25, ↓zs_256_27, ↓zs_256_28, ↓zs_256_29, ↓zs_256_30, ↓zs_256_31, ↓zs_256_34, ↓zs_256_35, ↓zs_256_38, ↓zs_256_39, zx_pu_s, zx_pu_n, zx_rv_s, zx_rv_n, true_and, and_true, true_or, or_true, zb_0, zb_1, zq_lcl, zq_lcg, zq_lce, eq_self, ite_true, ite_false, zk_138, zw_138, zk_139, zw_139, zk_140, zw_140, zk_141, zw_141, zk_142, zw_142, zk_143, zw_143, zk_144, zw_144, zk_145, zw_145, zk_146, zw_146, zk_147, zw_147, zk_148, zw_148, zk_149, zw_149, zk_150, zw_150, zk_151, zw_151, zk_152, zw_152, zq_138_1, zq_138_2, zq_138_3, zq_138_4, zq_138_16, zq_138_19, zq_138_20, zq_138_24, zq_138_25, zq_138_26, zq_138_27, zq_138_31, zq_138_32, zq_138_33, c', ha, zB_0, reduceCtorEq]
      rfl
    · cases q2 : zf_stds B t <;> rw [q2] at hb
      · rw [if_neg (by decide), decide_eq_false (by decide), Bool.false_and]
        simp (disch := omega) only [↓zs_256_0, ↓zs_256_1, ↓zs_256_2, ↓zs_256_5, ↓zs_256_6, ↓zs_256_7, ↓zs_256_10, ↓zs_256_13, ↓zs_256_14, ↓zs_256_15, ↓zs_256_18, ↓zs_256_21, ↓zs_256_22, ↓zs_256_25, ↓zs_256_27, ↓zs_256_28, ↓zs_256_29, ↓zs_256_30, ↓zs_256_31, ↓zs_256_34, ↓zs_256_35, ↓zs_256_38, ↓zs_256_39, zx_pu_s, zx_pu_n, zx_rv_s, zx_rv_n, true_and, and_true, true_or, or_true, zb_0, zb_1, zq_lcl, zq_lcg, zq_lce, eq_self, ite_true, ite_false, zk_138, zw_138, zk_139, zw_139, zk_140, zw_140, zk_141, zw_141, zk_142, zw_142, zk_143, zw_143, zk_144, zw_144, zk_145, zw_145, zk_146, zw_146, zk_147, zw_147, zk_148, zw_148, zk_149, zw_149, zk_150, zw_150, zk_151, zw_151, zk_152, zw_152, zq_138_1, zq_138_2, zq_138_3, zq_138_4, zq_138_16, zq_138_19, zq_138_20, zq_138_24, zq_138_25, zq_138_26, zq_138_27, zq_138_31, zq_138_32, zq_138_33, c', ha, hb, zB_0, reduceCtorEq]
        rfl
      · rw [if_pos (by decide), decide_eq_true rfl, Bool.true_and]
        by_cases c3 : B (125 + s) = nI t
        · rw [decide_eq_true c3]
          rw [c3] at e125
          simp (disch := omega) only [↓zs_256_0, ↓zs_256_1, ↓zs_256_2, ↓zs_256_5, ↓zs_256_6, ↓zs_256_7, ↓zs_256_10, ↓zs_256_13, ↓zs_256_14, ↓zs_256_15, ↓zs_256_18, ↓zs_256_21, ↓zs_256_22, ↓zs_256_25, ↓zs_256_27, ↓zs_256_28, ↓zs_256_29, ↓zs_256_30, ↓zs_256_31, ↓zs_256_34, ↓zs_256_35, ↓zs_256_38, ↓zs_256_39, zx_pu_s, zx_pu_n, zx_rv_s, zx_rv_n, true_and, and_true, true_or, or_true, zb_0, zb_1, zq_lcl, zq_lcg, zq_lce, eq_self, ite_true, ite_false, zk_138, zw_138, zk_139, zw_139, zk_140, zw_140, zk_141, zw_141, zk_142, zw_142, zk_143, zw_143, zk_144, zw_144, zk_145, zw_145, zk_146, zw_146, zk_147, zw_147, zk_148, zw_148, zk_149, zw_149, zk_150, zw_150, zk_151, zw_151, zk_152, zw_152, zq_138_1, zq_138_2, zq_138_3, zq_138_4, zq_138_16, zq_138_19, zq_138_20, zq_138_24, zq_138_25, zq_138_26, zq_138_27, zq_138_31, zq_138_32, zq_138_33, zin_nI, nI_clamp, nI_add, c', ha, hb, zB_0, reduceCtorEq, e125]
          rfl
        · have c3' : (B (125 + s) = nI t) = False := eq_false c3
          rw [decide_eq_false c3]
          simp (disch := omega) only [↓zs_256_0, ↓zs_256_1, ↓zs_256_2, ↓zs_256_5, ↓zs_256_6, ↓zs_256_7, ↓zs_256_10, ↓zs_256_13, ↓zs_256_14, ↓zs_256_15, ↓zs_256_18, ↓zs_256_21, ↓zs_256_22, ↓zs_256_25, ↓zs_256_27, ↓zs_256_28, ↓zs_256_29, ↓zs_256_30, ↓zs_256_31, ↓zs_256_34, ↓zs_256_35, ↓zs_256_38, ↓zs_256_39, zx_pu_s, zx_pu_n, zx_rv_s, zx_rv_n, true_and, and_true, true_or, or_true, zb_0, zb_1, zq_lcl, zq_lcg, zq_lce, eq_self, ite_true, ite_false, zk_138, zw_138, zk_139, zw_139, zk_140, zw_140, zk_141, zw_141, zk_142, zw_142, zk_143, zw_143, zk_144, zw_144, zk_145, zw_145, zk_146, zw_146, zk_147, zw_147, zk_148, zw_148, zk_149, zw_149, zk_150, zw_150, zk_151, zw_151, zk_152, zw_152, zq_138_1, zq_138_2, zq_138_3, zq_138_4, zq_138_16, zq_138_19, zq_138_20, zq_138_24, zq_138_25, zq_138_26, zq_138_27, zq_138_31, zq_138_32, zq_138_33, zin_nI, nI_clamp, nI_add, c', ha, hb, zB_0, reduceCtorEq, e125, c3']
          rfl
end FR
