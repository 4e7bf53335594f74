/-! judge, perform: the DEEDS of a tray -/
def zf_tells (T : Nat → Int64) : Nat → Nat → (Nat → Int32) → Nat → Nat × (Nat → Int32) × Nat × Nat
  | 0, i, B, c => (i, B, c, 0)
  | mm + 1, i, B, c => if zf_why B (T i) = 0 then zf_tells T mm (i + 1) (zf_do B (T i)) (c + zf_doC B (T i)) else (i, B, c, zf_why B (T i))
theorem zf_whyN_le (B : Nat → Int32) (n : Nat) : zf_whyN B n ≤ 3 := by
  unfold zf_whyN
  have h1 := zf_wL_le B
  have h2 := zf_w1_le B
  have h3 := zf_wU_le B
  split
  · exact h1 _ _
  split
  · omega
  split
  · exact h2 _
  split
  · omega
  split
  · exact h2 _
  split
  · omega
  split
  · exact h3 _ _
  · omega
theorem zf_why_le (B : Nat → Int32) (u : Int64) : zf_why B u ≤ 3 := by
  unfold zf_why
  split
  · omega
  split
  · omega
  split
  · exact zf_whyN_le _ _
  · omega
theorem zf_tells_V {T : Nat → Int64} : ∀ (mm i : Nat) (B : Nat → Int32) (c m : Nat), zV B m → m + mm < 2 ^ 30 → zV (zf_tells T mm i B c).2.1 (m + mm) ∧ zSm B (zf_tells T mm i B c).2.1 ∧ i ≤ (zf_tells T mm i B c).1 ∧ (zf_tells T mm i B c).1 ≤ i + mm ∧ (zf_tells T mm i B c).2.2.2 ≤ 3 ∧ ((zf_tells T mm i B c).1 = i → (zf_tells T mm i B c).2.1 = B) := by
  intro mm
  induction mm with
  | zero =>
    intro i B c m v h
    exact ⟨v, zSm_r B, Nat.le_refl _, Nat.le_refl _, by show 0 ≤ 3; omega, fun _ => rfl⟩
  | succ mm ih =>
    intro i B c m v h
    unfold zf_tells
    by_cases h0 : zf_why B (T i) = 0
    · rw [if_pos h0]
      obtain ⟨v1, s1⟩ := zf_do_V v (u := T i) (by omega) h0
      obtain ⟨a1, a2, a3, a4, a5, a6⟩ := ih (i + 1) (zf_do B (T i)) (c + zf_doC B (T i)) (m + 1) v1 (by omega)
      refine ⟨by rw [show m + (mm + 1) = m + 1 + mm by omega]; exact a1, zSm_t s1 a2, by omega, by omega, a5, fun e => ?_⟩
      omega
    · rw [if_neg h0]
      exact ⟨zV_mono v (by omega), zSm_r B, Nat.le_refl _, by show i ≤ _; omega, zf_why_le _ _, fun _ => rfl⟩
def zFt (I I2 : zx_MI) : Prop := ∀ a j, ¬ (a = 143 ∨ a = 139 ∨ (a = 138 ∧ j ≠ 5 ∧ j ≠ 13 ∧ j ≠ 14)) → I2 a j = I a j
theorem zFm_ft {I I2 : zx_MI} (h : zFm I I2) : zFt I I2 := fun a j n => h a j (fun e => n (by omega))
theorem zFt_t {I I2 I3 : zx_MI} (h : zFt I I2) (k : zFt I2 I3) : zFt I I3 := fun a j n => (k a j n).trans (h a j n)
theorem zFt_u {I : zx_MI} {j : Nat} {x : Int32} (h : j ≠ 5 ∧ j ≠ 13 ∧ j ≠ 14) : zFt I (zx_u I 138 j x) := fun a i n => zu_n (by omega)
section TL
variable {Lh m : Nat} {I : zx_MI} {J : zx_MJ}
theorem sp_tells {t n : Nat} {T : Nat → Int64} {B : Nat → Int32} (ht : t < 4) (hn : n ≤ 40) (e2 : I 151 t = nI n) (hT : ∀ i, i < n → J 152 (40 * t + i) = T i) (hB : I 139 = B) (v : zV B m) (hm : m + 40 < 2 ^ 30) : ∃ I2, zFt I I2 ∧ I2 139 = (zf_tells T n 0 B 0).2.1 ∧ I2 138 21 = nI (zf_tells T n 0 B 0).2.2.2 ∧ I2 138 22 = nI (zf_tells T n 0 B 0).2.2.1 ∧ ∀ d P, zx_rn (d + 12) 225 [.ref 138, .int (nI t)] (zx_LL Lh) I J P = P (some (.int (nI (zf_tells T n 0 B 0).1))) (zx_LL Lh) I2 J := by
  have loop : ∀ mm i B c I2, i + mm = n → zFt I I2 → I2 139 = B → zV B (m + i) → I2 138 21 = nI 0 → I2 138 22 = nI c → ∃ I3, zFt I I3 ∧ I3 139 = (zf_tells T mm i B c).2.1 ∧ I3 138 21 = nI (zf_tells T mm i B c).2.2.2 ∧ I3 138 22 = nI (zf_tells T mm i B c).2.2.1 ∧ ∀ d P, zx_wp (d + 12) 225 12 [.ref 138, .int (nI t), .int (nI i)] [] (zx_LL Lh) I2 J P = P (some (.int (nI (zf_tells T mm i B c).1))) (zx_LL Lh) I3 J := by
    intro mm
    induction mm with
    | zero =>
      intro i B c I2 hi f eB v g1 g2
      obtain rfl : i = n := by omega
      have e151 : I2 151 t = nI i := (f 151 t (by omega)).trans e2
      refine ⟨I2, f, eB, g1, g2, fun d P => ?_⟩
      rw [zs_225_12]
      simp (disch := omega) only [↓zs_225_0, ↓zs_225_1, ↓zs_225_2, ↓zs_225_5, ↓zs_225_6, ↓zs_225_7, ↓zs_225_10, ↓zs_225_11, ↓zs_225_13, ↓zs_225_14, ↓zs_225_17, ↓zs_225_18, ↓zs_225_19, ↓zs_225_22, ↓zs_225_23, ↓zs_225_24, ↓zs_225_25, ↓zs_225_28, ↓zs_225_30, ↓zs_225_31, ↓zs_225_32, ↓zs_225_33, ↓zs_225_34, ↓zs_225_35, ↓zs_225_38, ↓zs_225_41, ↓zs_225_42, ↓zs_225_45, ↓zs_225_48, ↓zs_225_49, ↓zs_225_50, ↓zs_225_51, ↓zs_225_52, ↓zs_225_55, ↓zs_225_56, ↓zs_225_57, ↓zs_225_60, ↓zs_225_62, ↓zs_225_63, ↓zs_225_64, ↓zs_225_65, ↓zs_225_66, ↓zs_225_67, ↓zs_225_68, ↓zs_225_71, ↓zs_225_72, ↓zs_225_75, ↓zs_225_78, ↓zs_225_81, ↓zs_225_82, ↓zs_225_85, ↓zs_225_86, ↓zs_225_87, zx_pu_s, zx_pu_n, zx_rv_s, zx_rv_n, true_and, and_true, true_or, or_true, zb_0, zb_1, zq_lcl, zq_lcg, zq_lce, eq_self, ite_true, ite_false, zk_138, zw_138, zk_139, zw_139, zk_140, zw_140, zk_141, zw_141, zk_142, zw_142, zk_143, zw_143, zk_144, zw_144, zk_145, zw_145, zk_146, zw_146, zk_147, zw_147, zk_148, zw_148, zk_149, zw_149, zk_150, zw_150, zk_151, zw_151, zk_152, zw_152, zq_138_1, zq_138_2, zq_138_3, zq_138_4, zq_138_16, zq_138_19, zq_138_20, zq_138_24, zq_138_25, zq_138_26, zq_138_27, zq_138_31, zq_138_32, zq_138_33, zn_10, zn_40, zn_040, zn_340, nI_add, zin_nI, nI_clamp, nI_ltI, nI_eq, pk_mul, nI_1, Nat.lt_irrefl, e151]
      rfl
    | succ mm ih =>
      intro i B c I2 hi f eB v g1 g2
      have hlt : i < n := by omega
      have hp : 40 * t + i < 160 := by omega
      have e151 : I2 151 t = nI n := (f 151 t (by omega)).trans e2
      have eT := hT i hlt
      have hw := fun d P => sp_whyNot (d := d) (Lh := Lh) (I := I2) (J := J) (P := P) (T i) (m := m + i) (by rw [eB]; exact v)
      rw [eB] at hw
      unfold zf_tells
      by_cases h0 : zf_why B (T i) = 0
      · rw [if_pos h0]
        have vU : zV (zx_u I2 138 21 (nI 0) 139) (m + i) := by rw [zu_139, eB]; exact v
        obtain ⟨I3, f3, r3, h3⟩ := sp_does (Lh := Lh) (I := zx_u I2 138 21 (nI 0)) (J := J) (T i) vU (by omega) (by rw [zu_139, eB]; exact h0)
        rw [zu_139, eB] at r3 h3
        have x22 : zx_u I2 138 21 (nI 0) 138 22 = nI c := (zu_n (by decide)).trans g2
        have y21 : I3 138 21 = nI 0 := (f3 138 21 (by decide)).trans (zu_s _ _ _ _)
        obtain ⟨v1, s1⟩ := zf_do_V v (u := T i) (by omega) h0
        obtain ⟨I4, f4, r4, g41, g42, h4⟩ := ih (i + 1) (zf_do B (T i)) (c + zf_doC B (T i)) (zx_u I3 138 22 (nI (c + zf_doC B (T i)))) (by omega) (zFt_t (zFt_t (zFt_t f (zFt_u (by decide))) (zFm_ft f3)) (zFt_u (by decide))) (by rw [zu_139]; exact r3) v1 ((zu_n (by decide)).trans y21) (zu_s _ _ _ _)
        refine ⟨I4, f4, r4, g41, g42, fun d P => ?_⟩
        have x21 : zx_u I2 138 21 (nI 0) 138 21 = nI 0 := zu_s _ _ _ _
        rw [← h4 d P, zs_225_12]
        simp (disch := omega) only [↓zs_225_0, ↓zs_225_1, ↓zs_225_2, ↓zs_225_5, ↓zs_225_6, ↓zs_225_7, ↓zs_225_10, ↓zs_225_11, ↓zs_225_13, ↓zs_225_14, ↓zs_225_17, ↓zs_225_18, ↓zs_225_19, ↓zs_225_22, ↓zs_225_23, ↓zs_225_24, ↓zs_225_25, ↓zs_225_28, ↓zs_225_30, ↓zs_225_31, ↓zs_225_32, ↓zs_225_33, ↓zs_225_34, ↓zs_225_35, ↓zs_225_38, ↓zs_225_41, ↓zs_225_42, ↓zs_225_45, ↓zs_225_48, ↓zs_225_49, ↓zs_225_50, ↓zs_225_51, ↓zs_225_52, ↓zs_225_55, ↓zs_225_56, ↓zs_225_57, ↓zs_225_60, ↓zs_225_62, ↓zs_225_63, ↓zs_225_64, ↓zs_225_65, ↓zs_225_66, ↓zs_225_67, ↓zs_225_68, ↓zs_225_71, ↓zs_225_72, ↓zs_225_75, ↓zs_225_78, ↓zs_225_81, ↓zs_225_82, ↓zs_225_85, ↓zs_225_86, ↓zs_225_87, zx_pu_s, zx_pu_n, zx_rv_s, zx_rv_n, true_and, and_true, true_or, or_true, zb_0, zb_1, zq_lcl, zq_lcg, zq_lce, eq_self, ite_true, ite_false, zk_138, zw_138, zk_139, zw_139, zk_140, zw_140, zk_141, zw_141, zk_142, zw_142, zk_143, zw_143, zk_144, zw_144, zk_145, zw_145, zk_146, zw_146, zk_147, zw_147, zk_148, zw_148, zk_149, zw_149, zk_150, zw_150, zk_151, zw_151, zk_152, zw_152, zq_138_1, zq_138_2, zq_138_3, zq_138_4, zq_138_16, zq_138_19, zq_138_20, zq_138_24, zq_138_25, zq_138_26, zq_138_27, zq_138_31, zq_138_32, zq_138_33, zn_10, zn_40, zn_040, zn_340, nI_add, zin_nI, nI_clamp, nI_ltI, nI_eq, pk_mul, nI_1, Nat.lt_irrefl, pk_mul, e151, hlt, eT, hw, h0, x21, x22, h3]
      · rw [if_neg h0]
        have h0' : (nI (zf_why B (T i)) = nI 0) = False := zq_ne h0 (by have := zf_why_le B (T i); omega) (by omega)
        refine ⟨zx_u I2 138 21 (nI (zf_why B (T i))), zFt_t f (zFt_u (by decide)), by rw [zu_139]; exact eB, zu_s _ _ _ _, (zu_n (by decide)).trans g2, fun d P => ?_⟩
        have x21 : zx_u I2 138 21 (nI (zf_why B (T i))) 138 21 = nI (zf_why B (T i)) := zu_s _ _ _ _
        rw [zs_225_12]
        simp (disch := omega) only [↓zs_225_0, ↓zs_225_1, ↓zs_225_2, ↓zs_225_5, ↓zs_225_6, ↓zs_225_7, ↓zs_225_10, ↓zs_225_11, ↓zs_225_13, ↓zs_225_14, ↓zs_225_17, ↓zs_225_18, ↓zs_225_19, ↓zs_225_22, ↓zs_225_23, ↓zs_225_24, ↓zs_225_25, ↓zs_225_28, ↓zs_225_30, ↓zs_225_31, ↓zs_225_32, ↓zs_225_33, ↓zs_225_34, ↓zs_225_35, ↓zs_225_38, ↓zs_225_41, ↓zs_225_42, ↓zs_225_45, ↓zs_225_48, ↓zs_225_49, ↓zs_225_50, ↓zs_225_51, ↓zs_225_52, ↓zs_225_55, ↓zs_225_56, ↓zs_225_57, ↓zs_225_60, ↓zs_225_62, ↓zs_225_63, ↓zs_225_64, ↓zs_225_65, ↓zs_225_66, ↓zs_225_67, ↓zs_225_68, ↓zs_225_71, ↓zs_225_72, ↓zs_225_75, ↓zs_225_78, ↓zs_225_81, ↓zs_225_82, ↓zs_225_85, ↓zs_225_86, ↓zs_225_87, zx_pu_s, zx_pu_n, zx_rv_s, zx_rv_n, true_and, and_true, true_or, or_true, zb_0, zb_1, zq_lcl, zq_lcg, zq_lce, eq_self, ite_true, ite_false, zk_138, zw_138, zk_139, zw_139, zk_140, zw_140, zk_141, zw_141, zk_142, zw_142, zk_143, zw_143, zk_144, zw_144, zk_145, zw_145, zk_146, zw_146, zk_147, zw_147, zk_148, zw_148, zk_149, zw_149, zk_150, zw_150, zk_151, zw_151, zk_152, zw_152, zq_138_1, zq_138_2, zq_138_3, zq_138_4, zq_138_16, zq_138_19, zq_138_20, zq_138_24, zq_138_25, zq_138_26, zq_138_27, zq_138_31, zq_138_32, zq_138_33, zn_10, zn_40, zn_040, zn_340, nI_add, zin_nI, nI_clamp, nI_ltI, nI_eq, pk_mul, nI_1, Nat.lt_irrefl, pk_mul, e151, hlt, eT, hw, x21, h0']
  obtain ⟨I3, f3, r3, g1, g2, h3⟩ := loop n 0 B 0 (zx_u (zx_u I 138 21 (nI 0)) 138 22 (nI 0)) (by omega) (zFt_t (zFt_u (by decide)) (zFt_u (by decide))) (by rw [zu_139, zu_139]; exact hB) v ((zu_n (by decide)).trans (zu_s _ _ _ _)) (zu_s _ _ _ _)
  refine ⟨I3, f3, r3, g1, g2, fun d P => ?_⟩
  rw [← h3 d P, ze_225]
  simp (disch := omega) only [↓zs_225_0, ↓zs_225_1, ↓zs_225_2, ↓zs_225_5, ↓zs_225_6, ↓zs_225_7, ↓zs_225_10, ↓zs_225_11, zx_pu_s, zx_pu_n, zx_rv_s, zx_rv_n, true_and, and_true, true_or, or_true, zb_0, zb_1, zq_lcl, zq_lcg, zq_lce, eq_self, ite_true, ite_false, zk_138, zw_138, zk_139, zw_139, zk_140, zw_140, zk_141, zw_141, zk_142, zw_142, zk_143, zw_143, zk_144, zw_144, zk_145, zw_145, zk_146, zw_146, zk_147, zw_147, zk_148, zw_148, zk_149, zw_149, zk_150, zw_150, zk_151, zw_151, zk_152, zw_152, zq_138_1, zq_138_2, zq_138_3, zq_138_4, zq_138_16, zq_138_19, zq_138_20, zq_138_24, zq_138_25, zq_138_26, zq_138_27, zq_138_31, zq_138_32, zq_138_33]
theorem sc_judgeL {t n z : Nat} {I1 : zx_MI} (ht : t < 4) (hn : n ≤ 40) (e2 : I1 (102 + 2 * t) 3 = nI n) (hm : m + 40 < 2 ^ 30) (sq : zR_sq I1 J 1 (I 139)) (v0 : zV (I 139) m) : ∀ mm i B c I2, i + mm = n → zFc 19 I1 I2 → zR_st I2 19 B → zV B (m + i) → zSm (I 139) B → ∃ I3, zFc 19 I1 I3 ∧ zR_st I3 19 (zf_tells (J (103 + 2 * t)) mm i B c).2.1 ∧ ∀ d P, zx_wp (d + 30) 116 52 [.ref 0, .int (nI t), .int (nI z), .ref (102 + 2 * t), .int (nI 0), .int (nI c), .int (nI i)] [] (zx_LL Lh) I2 J P = zx_wp (d + 30) 116 116 [.ref 0, .int (nI t), .int (nI z), .ref (102 + 2 * t), .int (nI (zf_tells (J (103 + 2 * t)) mm i B c).2.2.2), .int (nI (zf_tells (J (103 + 2 * t)) mm i B c).2.2.1), .int (nI (zf_tells (J (103 + 2 * t)) mm i B c).1)] [] (zx_LL Lh) I3 J P := by
  obtain ⟨k1, k2, k3, k4, k5, k6⟩ := zTr_k Lh ht
  have l5 : (102 + 2 * t < 5000) = True := eq_true (by omega)
  intro mm
  induction mm with
  | zero =>
    intro i B c I2 hi f r v s
    obtain rfl : i = n := by omega
    have e3 : I2 (102 + 2 * t) 3 = nI i := (f _ _ (by omega)).trans e2
    refine ⟨I2, f, r, fun d P => ?_⟩
    rw [zs_116_52]
    simp (disch := omega) only [↓zs_116_54, ↓zs_116_54N, ↓zs_116_55, ↓zs_116_58, ↓zs_116_61, ↓zs_116_62, ↓zs_116_65, ↓zs_116_66, ↓zs_116_69, ↓zs_116_69N, ↓zs_116_70, ↓zs_116_72, ↓zs_116_75, ↓zs_116_78, ↓zs_116_80, ↓zs_116_82, ↓zs_116_85, ↓zs_116_88, ↓zs_116_90, ↓zs_116_91, ↓zs_116_94, ↓zs_116_95, ↓zs_116_98, ↓zs_116_98N, ↓zs_116_99, ↓zs_116_101, ↓zs_116_104, ↓zs_116_107, ↓zs_116_108, ↓zs_116_110, ↓zs_116_113, zx_pu_s, zx_pu_n, zx_rv_s, zx_rv_n, true_and, and_true, true_or, or_true, zb_0, zb_1, zq_lcl, zq_lcg, zq_lce, eq_self, ite_true, ite_false, zk_0, zw_0, zk_1, zw_1, zq_0_0, zq_0_1, zq_0_2, zq_0_3, zq_0_4, zq_0_5, zq_0_6, zq_0_7, zq_0_8, zq_0_9, zq_0_10, zq_0_11, zq_1_0, zq_1_1, zq_1_2, zq_1_3, zq_1_4, zq_1_5, zn_10, zn_40, zn_040, zn_340, nI_add, zin_nI, nI_clamp, nI_ltI, nI_eq, pk_mul, nI_1, Nat.lt_irrefl, l5, k1, e3]
    rfl
  | succ mm ih =>
    intro i B c I2 hi f r v s
    have hlt : i < n := by omega
    have e3 : I2 (102 + 2 * t) 3 = nI n := (f _ _ (by omega)).trans e2
    have hget := fun d P => sc_get (d := d) (Lh := Lh) (I := I2) (J := J) (P := P) ht hn hlt e3
    have sq2 : zR_sq I2 J 1 B := zSm_sq s v0.2.2.2.2.1.2.1 v0.2.2.2.1.2.1 (zFc_sq zx_st19 f sq)
    have hw := fun d P => sc_whyNot (d := d) (Lh := Lh) (P := P) (J (103 + 2 * t) i) zx_st19 v sq2 r
    unfold zf_tells
    by_cases h0 : zf_why B (J (103 + 2 * t) i) = 0
    · rw [if_pos h0]
      obtain ⟨v1, s1⟩ := zf_do_V v (u := J (103 + 2 * t) i) (by omega) h0
      obtain ⟨I3, f3, r3, h3⟩ := sc_doDeed (Lh := Lh) (J (103 + 2 * t) i) zx_st19 v (by omega) sq2 r h0
      obtain ⟨I4, f4, r4, h4⟩ := ih (i + 1) _ (c + zf_doC B (J (103 + 2 * t) i)) I3 (by omega) (zFc_t f f3) r3 v1 (zSm_t s s1)
      refine ⟨I4, f4, r4, fun d P => ?_⟩
      rw [← h4 d P, zs_116_52]
      simp (disch := omega) only [↓zs_116_54, ↓zs_116_54N, ↓zs_116_55, ↓zs_116_58, ↓zs_116_61, ↓zs_116_62, ↓zs_116_65, ↓zs_116_66, ↓zs_116_69, ↓zs_116_69N, ↓zs_116_70, ↓zs_116_72, ↓zs_116_75, ↓zs_116_78, ↓zs_116_80, ↓zs_116_82, ↓zs_116_85, ↓zs_116_88, ↓zs_116_90, ↓zs_116_91, ↓zs_116_94, ↓zs_116_95, ↓zs_116_98, ↓zs_116_98N, ↓zs_116_99, ↓zs_116_101, ↓zs_116_104, ↓zs_116_107, ↓zs_116_108, ↓zs_116_110, ↓zs_116_113, zx_pu_s, zx_pu_n, zx_rv_s, zx_rv_n, true_and, and_true, true_or, or_true, zb_0, zb_1, zq_lcl, zq_lcg, zq_lce, eq_self, ite_true, ite_false, zk_0, zw_0, zk_1, zw_1, zq_0_0, zq_0_1, zq_0_2, zq_0_3, zq_0_4, zq_0_5, zq_0_6, zq_0_7, zq_0_8, zq_0_9, zq_0_10, zq_0_11, zq_1_0, zq_1_1, zq_1_2, zq_1_3, zq_1_4, zq_1_5, zk_19, zw_19, zq_19_0, zq_19_1, zq_19_2, zn_10, zn_40, zn_040, zn_340, nI_add, zin_nI, nI_clamp, nI_ltI, nI_eq, pk_mul, nI_1, Nat.lt_irrefl, l5, k1, e3, hlt, hget, hw, h0, h3]
    · rw [if_neg h0]
      have h0' : (nI (zf_why B (J (103 + 2 * t) i)) = nI 0) = False := zq_ne h0 (by have := zf_why_le B (J (103 + 2 * t) i); omega) (by omega)
      refine ⟨I2, f, r, fun d P => ?_⟩
      rw [zs_116_52]
      simp (disch := omega) only [↓zs_116_54, ↓zs_116_54N, ↓zs_116_55, ↓zs_116_58, ↓zs_116_61, ↓zs_116_62, ↓zs_116_65, ↓zs_116_66, ↓zs_116_69, ↓zs_116_69N, ↓zs_116_70, ↓zs_116_72, ↓zs_116_75, ↓zs_116_78, ↓zs_116_80, ↓zs_116_82, ↓zs_116_85, ↓zs_116_88, ↓zs_116_90, ↓zs_116_91, ↓zs_116_94, ↓zs_116_95, ↓zs_116_98, ↓zs_116_98N, ↓zs_116_99, ↓zs_116_101, ↓zs_116_104, ↓zs_116_107, ↓zs_116_108, ↓zs_116_110, ↓zs_116_113, zx_pu_s, zx_pu_n, zx_rv_s, zx_rv_n, true_and, and_true, true_or, or_true, zb_0, zb_1, zq_lcl, zq_lcg, zq_lce, eq_self, ite_true, ite_false, zk_0, zw_0, zk_1, zw_1, zq_0_0, zq_0_1, zq_0_2, zq_0_3, zq_0_4, zq_0_5, zq_0_6, zq_0_7, zq_0_8, zq_0_9, zq_0_10, zq_0_11, zq_1_0, zq_1_1, zq_1_2, zq_1_3, zq_1_4, zq_1_5, zk_19, zw_19, zq_19_0, zq_19_1, zq_19_2, zn_10, zn_40, zn_040, zn_340, nI_add, zin_nI, nI_clamp, nI_ltI, nI_eq, pk_mul, nI_1, Nat.lt_irrefl, l5, k1, e3, hlt, hget, hw, h0']
end TL
