/-! step: the model's, the call -/
section SQ
variable {Lh m : Nat}
theorem sp_behind {I : zx_MI} {J : zx_MJ} {B : Nat → Int32} {q t n k : Nat} (z : zLm I J B 40) (v : zV B m) (hq : q < zw B * zh B) (ht : t < zw B * zh B) (hn : n ≤ 40) (hk : k ≤ n) (hg : zf_bit (zf_go B q n) t = true) : ∃ J2, (∀ a, a ≠ 147 → J2 a = J a) ∧ ∀ d P, zx_wp (d + 6) 249 68 [.ref 138, .int (nI q), .int (nI t), .int (nI k), .int (nI n), zx_u0, zx_u0, zx_u0, zx_u0] [] (zx_LL Lh) I J P = P (some (.int (nI (zf_atw B q t n k)))) (zx_LL Lh) I J2 := by
  have w0 : 0 < zw B := Nat.pos_of_ne_zero (fun e => by rw [e, Nat.zero_mul] at hq; omega)
  have h64 : zw B * zh B ≤ 64 := Nat.mul_le_mul v.1.1.2.2.2.1 v.1.1.2.2.2.2.1
  have t64 : t < 64 := by omega
  have lm1 : (nI 0 < (-1 : Int32)) = False := eq_false (by decide)
  have back : ∀ mm (J1 : zx_MJ), mm ≤ n → (∀ a, a ≠ 147 → J1 a = J a) → (∀ i, mm ≤ i → i ≤ n → J1 147 i = zf_H B t n (n - i)) → ∃ J2 x, (∀ a, a ≠ 147 → J2 a = J a) ∧ (∀ i, 1 ≤ i → i ≤ n → J2 147 i = zf_H B t n (n - i)) ∧ ∀ d P, zx_wp (d + 6) 249 84 [.ref 138, .int (nI q), .int (nI t), .int (nI k), .int (nI n), .int (zf_iv mm), zx_u0, zx_u0, zx_u0] [] (zx_LL Lh) I J1 P = zx_wp (d + 6) 249 123 [.ref 138, .int (nI q), .int (nI t), .int (nI k), .int (nI n), .int x, zx_u0, zx_u0, zx_u0] [] (zx_LL Lh) I J2 P := by
    intro mm
    induction mm with
    | zero =>
      intro J1 _ f g
      refine ⟨J1, -1, f, fun i h1 hi => g i (by omega) hi, fun d P => ?_⟩
      rw [show zf_iv 0 = -1 from rfl, zs_249_84]
      simp (disch := omega) only [↓zs_249_86, ↓zs_249_89, ↓zs_249_90, ↓zs_249_93, ↓zs_249_95, ↓zs_249_96, ↓zs_249_97, ↓zs_249_100, ↓zs_249_102, ↓zs_249_103, ↓zs_249_104, ↓zs_249_105, ↓zs_249_106, ↓zs_249_109, ↓zs_249_111, ↓zs_249_112, ↓zs_249_113, ↓zs_249_116, ↓zs_249_117, ↓zs_249_120, zx_pu_s, zx_pu_n, zx_rv_s, zx_rv_n, true_and, and_true, true_or, or_true, zb_0, zb_1, zq_lcl, zq_lcg, zq_lce, eq_self, ite_true, ite_false, lm1]
    | succ mm ih =>
      intro J1 hm f g
      have iv : zf_iv (mm + 1) = nI mm := rfl
      by_cases m0 : mm = 0
      · subst m0
        refine ⟨J1, nI 0, f, fun i h1 hi => g i (by omega) hi, fun d P => ?_⟩
        rw [iv, zs_249_84]
        simp (disch := omega) only [↓zs_249_86, ↓zs_249_89, ↓zs_249_90, ↓zs_249_93, ↓zs_249_95, ↓zs_249_96, ↓zs_249_97, ↓zs_249_100, ↓zs_249_102, ↓zs_249_103, ↓zs_249_104, ↓zs_249_105, ↓zs_249_106, ↓zs_249_109, ↓zs_249_111, ↓zs_249_112, ↓zs_249_113, ↓zs_249_116, ↓zs_249_117, ↓zs_249_120, zx_pu_s, zx_pu_n, zx_rv_s, zx_rv_n, true_and, and_true, true_or, or_true, zb_0, zb_1, zq_lcl, zq_lcg, zq_lce, eq_self, ite_true, ite_false, nI_ltI, Nat.lt_irrefl]
      · have mp : 0 < mm := by omega
        have z1 : zLm I J1 B 40 := zLm_f z (f 146 (by decide))
        have eo := z1.2.2 mm (by omega)
        have eh := g (mm + 1) (by omega) (by omega)
        have eH : zf_bes (zw B) (zh B) (zf_H B t n (n - (mm + 1)) &&& zf_opn B mm) = zf_H B t n (n - mm) := by
          rw [show n - mm = (n - (mm + 1)) + 1 by omega]
          show _ = zf_bes (zw B) (zh B) (zf_H B t n (n - (mm + 1)) &&& zf_opn B (n - 1 - (n - (mm + 1))))
          rw [show n - 1 - (n - (mm + 1)) = mm by omega]
        have hsp := fun d P => sp_besidesL (d := d) (Lh := Lh) (P := P) z1 v w0 (zf_sub_and (b := zf_opn B mm) (zf_H_sub (n := n) ht h64 (n - (mm + 1))))
        rw [eH] at hsp
        obtain ⟨J2, x, f2, g2, h2⟩ := ih (zx_u J1 147 mm (zf_H B t n (n - mm))) (by omega) (fun a ha => (zu_o ha).trans (f a ha)) (fun i h1 h2 => by
          by_cases e : i = mm
          · subst e; exact zu_s _ _ _ _
          · rw [zu_n (by omega)]; exact g i (by omega) h2)
        refine ⟨J2, x, f2, g2, fun d P => ?_⟩
        rw [← h2 d P, iv, zs_249_84]
        simp (disch := omega) only [↓zs_249_86, ↓zs_249_89, ↓zs_249_90, ↓zs_249_93, ↓zs_249_95, ↓zs_249_96, ↓zs_249_97, ↓zs_249_100, ↓zs_249_102, ↓zs_249_103, ↓zs_249_104, ↓zs_249_105, ↓zs_249_106, ↓zs_249_109, ↓zs_249_111, ↓zs_249_112, ↓zs_249_113, ↓zs_249_116, ↓zs_249_117, ↓zs_249_120, zx_pu_s, zx_pu_n, zx_rv_s, zx_rv_n, true_and, and_true, true_or, or_true, zb_0, zb_1, zq_lcl, zq_lcg, zq_lce, eq_self, ite_true, ite_false, zk_138, zw_138, zk_139, zw_139, zk_140, zw_140, zk_141, zw_141, zk_142, zw_142, zk_143, zw_143, zk_144, zw_144, zk_145, zw_145, zk_146, zw_146, zk_147, zw_147, zk_148, zw_148, zk_149, zw_149, zk_150, zw_150, zk_151, zw_151, zk_152, zw_152, zq_138_1, zq_138_2, zq_138_3, zq_138_4, zq_138_16, zq_138_19, zq_138_20, zq_138_24, zq_138_25, zq_138_26, zq_138_27, zq_138_31, zq_138_32, zq_138_33, nI_ltI, mp, nI_add, zin_nI, nI_clamp, eo, eh, hsp, zf_iv_p]
  have seek : ∀ (J1 : zx_MJ) (b : Int64), b ≠ lN 0 → ∀ x6 mm h0, h0 + mm = zf_low b → ∀ d P, zx_wp (d + 6) 249 166 [.ref 138, .int (nI q), .int (nI t), .int (nI k), .int (nI n), .int (nI h0), .int x6, .long b, zx_u0] [] (zx_LL Lh) I J1 P = zx_wp (d + 6) 249 182 [.ref 138, .int (nI q), .int (nI t), .int (nI k), .int (nI n), .int (nI (zf_low b)), .int x6, .long b, zx_u0] [] (zx_LL Lh) I J1 P := by
    intro J1 b hb x6 mm
    obtain ⟨l1, l2, -⟩ := zt_low hb
    induction mm with
    | zero =>
      intro h0 hh d P
      obtain rfl : h0 = zf_low b := by omega
      rw [zs_249_166]
      simp (disch := omega) only [↓zs_249_168, ↓zs_249_170, ↓zs_249_173, ↓zs_249_176, ↓zs_249_179, zx_pu_s, zx_pu_n, zx_rv_s, zx_rv_n, true_and, and_true, true_or, or_true, zb_0, zb_1, zq_lcl, zq_lcg, zq_lce, eq_self, ite_true, ite_false, sp_isIn, l2, zB_0, reduceCtorEq]
    | succ mm ih =>
      intro h0 hh d P
      have c : zf_bit b h0 = false := zt_low_lt (by omega) (by omega)
      rw [← ih (h0 + 1) (by omega) d P, zs_249_166]
      simp (disch := omega) only [↓zs_249_168, ↓zs_249_170, ↓zs_249_173, ↓zs_249_176, ↓zs_249_179, zx_pu_s, zx_pu_n, zx_rv_s, zx_rv_n, true_and, and_true, true_or, or_true, zb_0, zb_1, zq_lcl, zq_lcg, zq_lce, eq_self, ite_true, ite_false, sp_isIn, c, zB_0, reduceCtorEq, nI_add]
  have fwd : ∀ mm i (J1 : zx_MJ) v7, i + mm = k → (∀ a, a ≠ 147 → J1 a = J a) → (∀ i, 1 ≤ i → i ≤ n → J1 147 i = zf_H B t n (n - i)) → ∀ d P, zx_wp (d + 6) 249 129 [.ref 138, .int (nI q), .int (nI t), .int (nI k), .int (nI n), .int (nI (zf_atw B q t n i)), .int (nI i), v7, zx_u0] [] (zx_LL Lh) I J1 P = P (some (.int (nI (zf_atw B q t n k)))) (zx_LL Lh) I J1 := by
    intro mm
    induction mm with
    | zero =>
      intro i J1 v7 hi f g d P
      obtain rfl : i = k := by omega
      rw [zs_249_129]
      simp (disch := omega) only [↓zs_249_131, ↓zs_249_132, ↓zs_249_135, ↓zs_249_136, ↓zs_249_137, ↓zs_249_139, ↓zs_249_140, ↓zs_249_143, ↓zs_249_144, ↓zs_249_147, ↓zs_249_149, ↓zs_249_150, ↓zs_249_151, ↓zs_249_152, ↓zs_249_155, ↓zs_249_157, ↓zs_249_158, ↓zs_249_159, ↓zs_249_160, ↓zs_249_161, ↓zs_249_163, ↓zs_249_164, ↓zs_249_188, ↓zs_249_190, zx_pu_s, zx_pu_n, zx_rv_s, zx_rv_n, true_and, and_true, true_or, or_true, zb_0, zb_1, zq_lcl, zq_lcg, zq_lce, eq_self, ite_true, ite_false, nI_ltI, Nat.lt_irrefl]
    | succ mm ih =>
      intro i J1 v7 hi f g d P
      have c1 : i < k := by omega
      obtain ⟨a1, a2, a3⟩ := zf_atw_ok hq ht h64 hg i (by omega)
      have hne := a3 (by omega)
      have z1 : zLm I J1 B 40 := zLm_f z (f 146 (by decide))
      have eo := z1.2.2 i (by omega)
      have eh := g (i + 1) (by omega) (by omega)
      have hsp : ∀ d P, zx_rn (d + 5) 242 [.ref 138, .long (lN 1 <<< ((nI (zf_atw B q t n i)).toInt64 &&& 63))] (zx_LL Lh) I J1 P = P (some (.long (zf_bes (zw B) (zh B) (zf_one (zf_atw B q t n i))))) (zx_LL Lh) I J1 := fun d P => sp_besidesL (d := d) (Lh := Lh) (P := P) z1 v w0 (zf_one_sub a1 (by omega))
      have ec : zf_bes (zw B) (zh B) (zf_one (zf_atw B q t n i)) &&& zf_opn B i &&& zf_H B t n (n - (i + 1)) = zf_ch2 B t n (zf_atw B q t n i) i := rfl
      have ea : zf_low (zf_ch2 B t n (zf_atw B q t n i) i) = zf_atw B q t n (i + 1) := rfl
      rw [← ih (i + 1) J1 (.long (zf_ch2 B t n (zf_atw B q t n i) i)) (by omega) f g d P, zs_249_129]
      simp (disch := omega) only [↓zs_249_131, ↓zs_249_132, ↓zs_249_135, ↓zs_249_136, ↓zs_249_137, ↓zs_249_139, ↓zs_249_140, ↓zs_249_143, ↓zs_249_144, ↓zs_249_147, ↓zs_249_149, ↓zs_249_150, ↓zs_249_151, ↓zs_249_152, ↓zs_249_155, ↓zs_249_157, ↓zs_249_158, ↓zs_249_159, ↓zs_249_160, ↓zs_249_161, ↓zs_249_163, ↓zs_249_164, zx_pu_s, zx_pu_n, zx_rv_s, zx_rv_n, true_and, and_true, true_or, or_true, zb_0, zb_1, zq_lcl, zq_lcg, zq_lce, eq_self, ite_true, ite_false, zk_138, zw_138, zk_139, zw_139, zk_140, zw_140, zk_141, zw_141, zk_142, zw_142, zk_143, zw_143, zk_144, zw_144, zk_145, zw_145, zk_146, zw_146, zk_147, zw_147, zk_148, zw_148, zk_149, zw_149, zk_150, zw_150, zk_151, zw_151, zk_152, zw_152, zq_138_1, zq_138_2, zq_138_3, zq_138_4, zq_138_16, zq_138_19, zq_138_20, zq_138_24, zq_138_25, zq_138_26, zq_138_27, zq_138_31, zq_138_32, zq_138_33, nI_ltI, nI_add, zin_nI, nI_clamp, c1, hsp, eo, eh, ec]
      rw [seek J1 _ hne (nI i) (zf_low (zf_ch2 B t n (zf_atw B q t n i) i)) 0 (by omega), ea]
      simp (disch := omega) only [↓zs_249_182, ↓zs_249_185, zx_pu_s, zx_pu_n, zx_rv_s, zx_rv_n, true_and, and_true, true_or, or_true, zb_0, zb_1, zq_lcl, zq_lcg, zq_lce, eq_self, ite_true, ite_false, nI_add]
  obtain ⟨J2, x, f2, g2, h2⟩ := back n (zx_u J 147 n (zf_one t)) (Nat.le_refl _) (fun a ha => zu_o ha) (fun i h1 h2 => by
    obtain rfl : i = n := by omega
    rw [zu_s, Nat.sub_self]; rfl)
  refine ⟨J2, f2, fun d P => ?_⟩
  have h3 := fwd k 0 J2 zx_u0 (by omega) f2 g2 d P
  rw [← h3]
  simp (disch := omega) only [↓zs_249_68, ↓zs_249_69, ↓zs_249_72, ↓zs_249_74, ↓zs_249_75, ↓zs_249_76, ↓zs_249_77, ↓zs_249_78, ↓zs_249_80, ↓zs_249_81, ↓zs_249_82, zx_pu_s, zx_pu_n, zx_rv_s, zx_rv_n, true_and, and_true, true_or, or_true, zb_0, zb_1, zq_lcl, zq_lcg, zq_lce, eq_self, ite_true, ite_false, zk_138, zw_138, zk_139, zw_139, zk_140, zw_140, zk_141, zw_141, zk_142, zw_142, zk_143, zw_143, zk_144, zw_144, zk_145, zw_145, zk_146, zw_146, zk_147, zw_147, zk_148, zw_148, zk_149, zw_149, zk_150, zw_150, zk_151, zw_151, zk_152, zw_152, zq_138_1, zq_138_2, zq_138_3, zq_138_4, zq_138_16, zq_138_19, zq_138_20, zq_138_24, zq_138_25, zq_138_26, zq_138_27, zq_138_31, zq_138_32, zq_138_33, zin_nI, nI_clamp, zf_iv_s]
  refine Eq.trans (h2 d P) ?_
  simp (disch := omega) only [↓zs_249_123, ↓zs_249_124, ↓zs_249_126, ↓zs_249_127, zx_pu_s, zx_pu_n, zx_rv_s, zx_rv_n, true_and, and_true, true_or, or_true, zb_0, zb_1, zq_lcl, zq_lcg, zq_lce, eq_self, ite_true, ite_false]
  rfl
theorem zf_first_c (p : Nat → Bool) : ∀ m n, zf_first p m n = -1 ∨ ∃ i, n ≤ i ∧ i < n + m ∧ p i = true ∧ zf_first p m n = nI i := by
  intro m
  induction m with
  | zero => intro n; exact .inl rfl
  | succ m ih =>
    intro n
    rw [zf_first]
    by_cases c : p n = true
    · rw [if_pos c]; exact .inr ⟨n, by omega, by omega, c, rfl⟩
    · rw [if_neg c]
      rcases ih (n + 1) with e | ⟨i, h1, h2, h3, h4⟩
      · exact .inl e
      · exact .inr ⟨i, by omega, by omega, h3, h4⟩
theorem q_step {I : zx_MI} {J : zx_MJ} (v : zInv I J m) (hm : m < 2 ^ 29) (x y z : Int32) : zQ Lh 130 249 [.int x, .int y, .int z] I J := by
  obtain ⟨⟨hw, hh, hN⟩, gr, g, ex, ok, N8, wh⟩ := zInv_k v
  have h1 := fun d P => sc_hasStone (d := d) (Lh := Lh) (I := I) (J := J) (P := P) zx_sq1 x hw hh wh
  have h2 := fun d P => sc_hasStone (d := d) (Lh := Lh) (I := I) (J := J) (P := P) zx_sq1 y hw hh wh
  have ok2 : zM_ok (zx_u I 138 0 (nI 0) 139) (zw (I 139)) (zh (I 139)) (zn (I 139)) := by rw [zu_139]; exact ok
  have p1 := fun d P => sp_isStone (d := d) (Lh := Lh) (J := J) (P := P) x.toInt64 ok2.1.1 ok2.1.2.1 (by omega)
  have p2 := fun d P => sp_isStone (d := d) (Lh := Lh) (J := J) (P := P) y.toInt64 ok2.1.1 ok2.1.2.1 (by omega)
  rw [Int32.toInt_toInt64] at p1 p2
  have zl := zq_lt0 z
  have no : ∀ u : Int32, (∀ d P, zx_rn (d + 30) 130 [.ref 0, .int x, .int y, .int z] (zx_LL Lh) I J P = P (some (.int u)) (zx_LL Lh) I J) → (∀ d P, zx_rn (d + 30) 249 [.ref 138, .int x, .int y, .int z] (zx_LL Lh) I J P = P (some (.int u)) (zx_LL Lh) (zx_u I 138 0 (nI 0)) J) → zQ Lh 130 249 [.int x, .int y, .int z] I J := fun u a b => ⟨.int u, I, J, zx_u I 138 0 (nI 0), J, a, b, zScr_s (zFs_0 _ _)⟩
  cases c1 : zf_in x.toInt (zw (I 139) * zh (I 139)) with
  | false =>
    rw [c1] at h1 p1
    refine no (-2) (fun d P => ?_) (fun d P => ?_)
    · rw [ze_130]
      simp (disch := omega) only [↓zs_130_0, ↓zs_130_1, ↓zs_130_4, ↓zs_130_5, ↓zs_130_8, ↓zs_130_11, ↓zs_130_12, ↓zs_130_15, ↓zs_130_16, ↓zs_130_19, ↓zs_130_22, ↓zs_130_24, zx_pu_s, zx_pu_n, zx_rv_s, zx_rv_n, true_and, and_true, true_or, or_true, zb_0, zb_1, zq_lcl, zq_lcg, zq_lce, eq_self, ite_true, ite_false, zk_0, zw_0, zk_1, zw_1, zq_0_0, zq_0_1, zq_0_2, zq_0_3, zq_0_4, zq_0_5, zq_0_6, zq_0_7, zq_0_8, zq_0_9, zq_0_10, zq_0_11, zq_1_0, zq_1_1, zq_1_2, zq_1_3, zq_1_4, zq_1_5, h1, zB_0, reduceCtorEq]
    · rw [ze_249]
      simp (disch := omega) only [↓zs_249_0, ↓zs_249_1, ↓zs_249_2, ↓zs_249_5, ↓zs_249_6, ↓zs_249_7, ↓zs_249_8, ↓zs_249_11, ↓zs_249_14, ↓zs_249_15, ↓zs_249_16, ↓zs_249_17, ↓zs_249_20, ↓zs_249_23, ↓zs_249_25, zx_pu_s, zx_pu_n, zx_rv_s, zx_rv_n, true_and, and_true, true_or, or_true, zb_0, zb_1, zq_lcl, zq_lcg, zq_lce, eq_self, ite_true, ite_false, zk_138, zw_138, zk_139, zw_139, zk_140, zw_140, zk_141, zw_141, zk_142, zw_142, zk_143, zw_143, zk_144, zw_144, zk_145, zw_145, zk_146, zw_146, zk_147, zw_147, zk_148, zw_148, zk_149, zw_149, zk_150, zw_150, zk_151, zw_151, zk_152, zw_152, zq_138_1, zq_138_2, zq_138_3, zq_138_4, zq_138_16, zq_138_19, zq_138_20, zq_138_24, zq_138_25, zq_138_26, zq_138_27, zq_138_31, zq_138_32, zq_138_33, p1, zB_0, reduceCtorEq]
  | true =>
    rw [c1] at h1 p1
    cases c2 : zf_in y.toInt (zw (I 139) * zh (I 139)) with
    | false =>
      rw [c2] at h2 p2
      refine no (-2) (fun d P => ?_) (fun d P => ?_)
      · rw [ze_130]
        simp (disch := omega) only [↓zs_130_0, ↓zs_130_1, ↓zs_130_4, ↓zs_130_5, ↓zs_130_8, ↓zs_130_11, ↓zs_130_12, ↓zs_130_15, ↓zs_130_16, ↓zs_130_19, ↓zs_130_22, ↓zs_130_24, zx_pu_s, zx_pu_n, zx_rv_s, zx_rv_n, true_and, and_true, true_or, or_true, zb_0, zb_1, zq_lcl, zq_lcg, zq_lce, eq_self, ite_true, ite_false, zk_0, zw_0, zk_1, zw_1, zq_0_0, zq_0_1, zq_0_2, zq_0_3, zq_0_4, zq_0_5, zq_0_6, zq_0_7, zq_0_8, zq_0_9, zq_0_10, zq_0_11, zq_1_0, zq_1_1, zq_1_2, zq_1_3, zq_1_4, zq_1_5, h1, h2, zB_0, reduceCtorEq]
      · rw [ze_249]
        simp (disch := omega) only [↓zs_249_0, ↓zs_249_1, ↓zs_249_2, ↓zs_249_5, ↓zs_249_6, ↓zs_249_7, ↓zs_249_8, ↓zs_249_11, ↓zs_249_14, ↓zs_249_15, ↓zs_249_16, ↓zs_249_17, ↓zs_249_20, ↓zs_249_23, ↓zs_249_25, zx_pu_s, zx_pu_n, zx_rv_s, zx_rv_n, true_and, and_true, true_or, or_true, zb_0, zb_1, zq_lcl, zq_lcg, zq_lce, eq_self, ite_true, ite_false, zk_138, zw_138, zk_139, zw_139, zk_140, zw_140, zk_141, zw_141, zk_142, zw_142, zk_143, zw_143, zk_144, zw_144, zk_145, zw_145, zk_146, zw_146, zk_147, zw_147, zk_148, zw_148, zk_149, zw_149, zk_150, zw_150, zk_151, zw_151, zk_152, zw_152, zq_138_1, zq_138_2, zq_138_3, zq_138_4, zq_138_16, zq_138_19, zq_138_20, zq_138_24, zq_138_25, zq_138_26, zq_138_27, zq_138_31, zq_138_32, zq_138_33, p1, p2, zB_0, reduceCtorEq]
    | true =>
      rw [c2] at h2 p2
      obtain ⟨q, hq, q64, rfl⟩ := zq_in2 c1 wh
      obtain ⟨t, ht, t64, rfl⟩ := zq_in2 c2 wh
      have w0 : 0 < zw (I 139) := Nat.pos_of_ne_zero (fun e => by rw [e, Nat.zero_mul] at hq; omega)
      by_cases cz : z.toInt < 0
      · refine no (-3) (fun d P => ?_) (fun d P => ?_)
        · rw [ze_130]
          simp (disch := omega) only [↓zs_130_0, ↓zs_130_1, ↓zs_130_4, ↓zs_130_5, ↓zs_130_8, ↓zs_130_11, ↓zs_130_12, ↓zs_130_15, ↓zs_130_16, ↓zs_130_19, ↓zs_130_22, ↓zs_130_24, ↓zs_130_25, ↓zs_130_26, ↓zs_130_29, ↓zs_130_31, zx_pu_s, zx_pu_n, zx_rv_s, zx_rv_n, true_and, and_true, true_or, or_true, zb_0, zb_1, zq_lcl, zq_lcg, zq_lce, eq_self, ite_true, ite_false, zk_0, zw_0, zk_1, zw_1, zq_0_0, zq_0_1, zq_0_2, zq_0_3, zq_0_4, zq_0_5, zq_0_6, zq_0_7, zq_0_8, zq_0_9, zq_0_10, zq_0_11, zq_1_0, zq_1_1, zq_1_2, zq_1_3, zq_1_4, zq_1_5, h1, h2, zB_0, reduceCtorEq, zl, cz]
        · rw [ze_249]
          simp (disch := omega) only [↓zs_249_0, ↓zs_249_1, ↓zs_249_2, ↓zs_249_5, ↓zs_249_6, ↓zs_249_7, ↓zs_249_8, ↓zs_249_11, ↓zs_249_14, ↓zs_249_15, ↓zs_249_16, ↓zs_249_17, ↓zs_249_20, ↓zs_249_23, ↓zs_249_25, ↓zs_249_26, ↓zs_249_27, ↓zs_249_30, ↓zs_249_32, zx_pu_s, zx_pu_n, zx_rv_s, zx_rv_n, true_and, and_true, true_or, or_true, zb_0, zb_1, zq_lcl, zq_lcg, zq_lce, eq_self, ite_true, ite_false, zk_138, zw_138, zk_139, zw_139, zk_140, zw_140, zk_141, zw_141, zk_142, zw_142, zk_143, zw_143, zk_144, zw_144, zk_145, zw_145, zk_146, zw_146, zk_147, zw_147, zk_148, zw_148, zk_149, zw_149, zk_150, zw_150, zk_151, zw_151, zk_152, zw_152, zq_138_1, zq_138_2, zq_138_3, zq_138_4, zq_138_16, zq_138_19, zq_138_20, zq_138_24, zq_138_25, zq_138_26, zq_138_27, zq_138_31, zq_138_32, zq_138_33, p1, p2, zB_0, reduceCtorEq, zl, cz]
      · have hc : ∀ d P, zx_rn (d + 30) 130 [.ref 0, .int (nI q), .int (nI t), .int z] (zx_LL Lh) I J P = zx_wp (d + 30) 130 32 [.ref 0, .int (nI q), .int (nI t), .int z, zx_u0] [] (zx_LL Lh) I J P := fun d P => by
          rw [ze_130]
          simp (disch := omega) only [↓zs_130_0, ↓zs_130_1, ↓zs_130_4, ↓zs_130_5, ↓zs_130_8, ↓zs_130_11, ↓zs_130_12, ↓zs_130_15, ↓zs_130_16, ↓zs_130_19, ↓zs_130_22, ↓zs_130_24, ↓zs_130_25, ↓zs_130_26, ↓zs_130_29, ↓zs_130_31, zx_pu_s, zx_pu_n, zx_rv_s, zx_rv_n, true_and, and_true, true_or, or_true, zb_0, zb_1, zq_lcl, zq_lcg, zq_lce, eq_self, ite_true, ite_false, zk_0, zw_0, zk_1, zw_1, zq_0_0, zq_0_1, zq_0_2, zq_0_3, zq_0_4, zq_0_5, zq_0_6, zq_0_7, zq_0_8, zq_0_9, zq_0_10, zq_0_11, zq_1_0, zq_1_1, zq_1_2, zq_1_3, zq_1_4, zq_1_5, h1, h2, zB_0, reduceCtorEq, zl, cz]
        have k1 := fun d P => sc_isTaken (d := d) (Lh := Lh) (I := I) (J := J) (P := P) zx_sq1 zx_st11 gr g v.2.2.2.1 ok q64
        have k2 := fun d P => sc_isTaken (d := d) (Lh := Lh) (I := I) (J := J) (P := P) zx_sq1 zx_st11 gr g v.2.2.2.1 ok t64
        have mgo : ∀ (I9 : zx_MI) (J9 : zx_MJ), I9 139 = I 139 → ∀ d P, zx_rn (d + 30) 249 [.ref 138, .int (nI q), .int (nI t), .int z] (zx_LL Lh) I9 J9 P = zx_wp (d + 30) 249 33 [.ref 138, .int (nI q), .int (nI t), .int z, zx_u0, zx_u0, zx_u0, zx_u0, zx_u0] [] (zx_LL Lh) (zx_u I9 138 0 (nI 0)) J9 P := fun I9 J9 e9 d P => by
          have ok3 : zM_ok (zx_u I9 138 0 (nI 0) 139) (zw (I 139)) (zh (I 139)) (zn (I 139)) := by rw [zu_139, e9]; exact ok
          have p1' := fun d P => sp_isStone (d := d) (Lh := Lh) (J := J9) (P := P) (nI q).toInt64 ok3.1.1 ok3.1.2.1 (by omega)
          have p2' := fun d P => sp_isStone (d := d) (Lh := Lh) (J := J9) (P := P) (nI t).toInt64 ok3.1.1 ok3.1.2.1 (by omega)
          rw [Int32.toInt_toInt64, c1] at p1'
          rw [Int32.toInt_toInt64, c2] at p2'
          rw [ze_249]
          simp (disch := omega) only [↓zs_249_0, ↓zs_249_1, ↓zs_249_2, ↓zs_249_5, ↓zs_249_6, ↓zs_249_7, ↓zs_249_8, ↓zs_249_11, ↓zs_249_14, ↓zs_249_15, ↓zs_249_16, ↓zs_249_17, ↓zs_249_20, ↓zs_249_23, ↓zs_249_25, ↓zs_249_26, ↓zs_249_27, ↓zs_249_30, ↓zs_249_32, zx_pu_s, zx_pu_n, zx_rv_s, zx_rv_n, true_and, and_true, true_or, or_true, zb_0, zb_1, zq_lcl, zq_lcg, zq_lce, eq_self, ite_true, ite_false, zk_138, zw_138, zk_139, zw_139, zk_140, zw_140, zk_141, zw_141, zk_142, zw_142, zk_143, zw_143, zk_144, zw_144, zk_145, zw_145, zk_146, zw_146, zk_147, zw_147, zk_148, zw_148, zk_149, zw_149, zk_150, zw_150, zk_151, zw_151, zk_152, zw_152, zq_138_1, zq_138_2, zq_138_3, zq_138_4, zq_138_16, zq_138_19, zq_138_20, zq_138_24, zq_138_25, zq_138_26, zq_138_27, zq_138_31, zq_138_32, zq_138_33, p1', p2', zB_0, reduceCtorEq, zl, cz]
        have m1 := sp_taken2 (Lh := Lh) (J := J) (zu_139 I 0 (nI 0)) v.2.1 q64
        have m2 := sp_taken2 (Lh := Lh) (J := J) (zu_139 I 0 (nI 0)) v.2.1 t64
        cases c3 : zf_taken (I 139) (zn (I 139)) q with
        | true =>
          rw [c3] at k1 m1
          refine no (-5) (fun d P => ?_) (fun d P => ?_)
          · rw [hc]
            simp (disch := omega) only [↓zs_130_32, ↓zs_130_33, ↓zs_130_36, ↓zs_130_37, ↓zs_130_40, ↓zs_130_41, ↓zs_130_44, ↓zs_130_47, ↓zs_130_48, ↓zs_130_51, ↓zs_130_52, ↓zs_130_55, ↓zs_130_56, ↓zs_130_59, ↓zs_130_62, ↓zs_130_64, zx_pu_s, zx_pu_n, zx_rv_s, zx_rv_n, true_and, and_true, true_or, or_true, zb_0, zb_1, zq_lcl, zq_lcg, zq_lce, eq_self, ite_true, ite_false, zk_0, zw_0, zk_1, zw_1, zq_0_0, zq_0_1, zq_0_2, zq_0_3, zq_0_4, zq_0_5, zq_0_6, zq_0_7, zq_0_8, zq_0_9, zq_0_10, zq_0_11, zq_1_0, zq_1_1, zq_1_2, zq_1_3, zq_1_4, zq_1_5, zk_11, zw_11, zq_11_0, zq_11_1, zq_11_2, k1, zB_0, reduceCtorEq]
          · rw [mgo I J rfl]
            simp (disch := omega) only [↓zs_249_33, ↓zs_249_34, ↓zs_249_35, ↓zs_249_38, ↓zs_249_41, ↓zs_249_42, ↓zs_249_43, ↓zs_249_46, ↓zs_249_49, ↓zs_249_51, zx_pu_s, zx_pu_n, zx_rv_s, zx_rv_n, true_and, and_true, true_or, or_true, zb_0, zb_1, zq_lcl, zq_lcg, zq_lce, eq_self, ite_true, ite_false, zk_138, zw_138, zk_139, zw_139, zk_140, zw_140, zk_141, zw_141, zk_142, zw_142, zk_143, zw_143, zk_144, zw_144, zk_145, zw_145, zk_146, zw_146, zk_147, zw_147, zk_148, zw_148, zk_149, zw_149, zk_150, zw_150, zk_151, zw_151, zk_152, zw_152, zq_138_1, zq_138_2, zq_138_3, zq_138_4, zq_138_16, zq_138_19, zq_138_20, zq_138_24, zq_138_25, zq_138_26, zq_138_27, zq_138_31, zq_138_32, zq_138_33, m1, zB_0, reduceCtorEq]
        | false =>
          rw [c3] at k1 m1
          cases c4 : zf_taken (I 139) (zn (I 139)) t with
          | true =>
            rw [c4] at k2 m2
            refine no (-5) (fun d P => ?_) (fun d P => ?_)
            · rw [hc]
              simp (disch := omega) only [↓zs_130_32, ↓zs_130_33, ↓zs_130_36, ↓zs_130_37, ↓zs_130_40, ↓zs_130_41, ↓zs_130_44, ↓zs_130_47, ↓zs_130_48, ↓zs_130_51, ↓zs_130_52, ↓zs_130_55, ↓zs_130_56, ↓zs_130_59, ↓zs_130_62, ↓zs_130_64, zx_pu_s, zx_pu_n, zx_rv_s, zx_rv_n, true_and, and_true, true_or, or_true, zb_0, zb_1, zq_lcl, zq_lcg, zq_lce, eq_self, ite_true, ite_false, zk_0, zw_0, zk_1, zw_1, zq_0_0, zq_0_1, zq_0_2, zq_0_3, zq_0_4, zq_0_5, zq_0_6, zq_0_7, zq_0_8, zq_0_9, zq_0_10, zq_0_11, zq_1_0, zq_1_1, zq_1_2, zq_1_3, zq_1_4, zq_1_5, zk_11, zw_11, zq_11_0, zq_11_1, zq_11_2, k1, k2, zB_0, reduceCtorEq]
            · rw [mgo I J rfl]
              simp (disch := omega) only [↓zs_249_33, ↓zs_249_34, ↓zs_249_35, ↓zs_249_38, ↓zs_249_41, ↓zs_249_42, ↓zs_249_43, ↓zs_249_46, ↓zs_249_49, ↓zs_249_51, zx_pu_s, zx_pu_n, zx_rv_s, zx_rv_n, true_and, and_true, true_or, or_true, zb_0, zb_1, zq_lcl, zq_lcg, zq_lce, eq_self, ite_true, ite_false, zk_138, zw_138, zk_139, zw_139, zk_140, zw_140, zk_141, zw_141, zk_142, zw_142, zk_143, zw_143, zk_144, zw_144, zk_145, zw_145, zk_146, zw_146, zk_147, zw_147, zk_148, zw_148, zk_149, zw_149, zk_150, zw_150, zk_151, zw_151, zk_152, zw_152, zq_138_1, zq_138_2, zq_138_3, zq_138_4, zq_138_16, zq_138_19, zq_138_20, zq_138_24, zq_138_25, zq_138_26, zq_138_27, zq_138_31, zq_138_32, zq_138_33, m1, m2, zB_0, reduceCtorEq]
          | false =>
            rw [c4] at k2 m2
            obtain ⟨I2, J2, s2, z2, h3⟩ := sc_lookAhead (Lh := Lh) v hm w0
            have h4 := sc_fewest (Lh := Lh) (t := t) z2 v.2.1 hq t64
            -- the model from a state of the class's end
            have model : ∀ (J3 : zx_MJ), zScr I J I2 J3 → ∃ I4 J4, zScr I2 J3 I4 J4 ∧ zLm I4 J4 (I 139) 40 ∧ ∀ d P, zx_rn (d + 30) 249 [.ref 138, .int (nI q), .int (nI t), .int z] (zx_LL Lh) I2 J3 P = zx_wp (d + 30) 249 60 [.ref 138, .int (nI q), .int (nI t), .int z, .int (zf_fewest (I 139) q t), zx_u0, zx_u0, zx_u0, zx_u0] [] (zx_LL Lh) I4 J4 P := by
              intro J3 s3
              have v3 : zInv I2 J3 m := zInv_scr s3 v
              have e3 : I2 139 = I 139 := zScr_139 s3
              obtain ⟨I4, J4, s4, z4, h5⟩ := sp_lookAhead (Lh := Lh) (n := 40) v3 hm (by omega)
              rw [e3] at z4
              have h6 := sp_wayL (Lh := Lh) (t := t) z4 v.2.1 hq t64
              have h7 : ∀ d P, zx_rn (d + 10) 244 [.ref 138, .int (nI q), .int (nI t)] (zx_LL Lh) (zx_u I2 138 0 (nI 0)) J3 P = P (some (.int (zf_fewest (I 139) q t))) (zx_LL Lh) I4 J4 := fun d P => by
                rw [← h6 (d + 4) P, ze_244]
                simp (disch := omega) only [↓zs_244_0, ↓zs_244_1, ↓zs_244_3, ↓zs_244_6, ↓zs_244_7, ↓zs_244_8, ↓zs_244_9, ↓zs_244_10, ↓zs_244_11, zx_pu_s, zx_pu_n, zx_rv_s, zx_rv_n, true_and, and_true, true_or, or_true, zb_0, zb_1, zq_lcl, zq_lcg, zq_lce, eq_self, ite_true, ite_false, zk_138, zw_138, zk_139, zw_139, zk_140, zw_140, zk_141, zw_141, zk_142, zw_142, zk_143, zw_143, zk_144, zw_144, zk_145, zw_145, zk_146, zw_146, zk_147, zw_147, zk_148, zw_148, zk_149, zw_149, zk_150, zw_150, zk_151, zw_151, zk_152, zw_152, zq_138_1, zq_138_2, zq_138_3, zq_138_4, zq_138_16, zq_138_19, zq_138_20, zq_138_24, zq_138_25, zq_138_26, zq_138_27, zq_138_31, zq_138_32, zq_138_33, h5]
                rfl
              have m1' := sp_taken2 (Lh := Lh) (J := J3) (B := I 139) (I := zx_u I2 138 0 (nI 0)) (by rw [zu_139, e3]) v.2.1 q64
              have m2' := sp_taken2 (Lh := Lh) (J := J3) (B := I 139) (I := zx_u I2 138 0 (nI 0)) (by rw [zu_139, e3]) v.2.1 t64
              rw [c3] at m1'
              rw [c4] at m2'
              refine ⟨I4, J4, s4, z4, fun d P => ?_⟩
              rw [mgo I2 J3 e3]
              simp (disch := omega) only [↓zs_249_33, ↓zs_249_34, ↓zs_249_35, ↓zs_249_38, ↓zs_249_41, ↓zs_249_42, ↓zs_249_43, ↓zs_249_46, ↓zs_249_49, ↓zs_249_51, ↓zs_249_52, ↓zs_249_53, ↓zs_249_54, ↓zs_249_55, ↓zs_249_58, zx_pu_s, zx_pu_n, zx_rv_s, zx_rv_n, true_and, and_true, true_or, or_true, zb_0, zb_1, zq_lcl, zq_lcg, zq_lce, eq_self, ite_true, ite_false, zk_138, zw_138, zk_139, zw_139, zk_140, zw_140, zk_141, zw_141, zk_142, zw_142, zk_143, zw_143, zk_144, zw_144, zk_145, zw_145, zk_146, zw_146, zk_147, zw_147, zk_148, zw_148, zk_149, zw_149, zk_150, zw_150, zk_151, zw_151, zk_152, zw_152, zq_138_1, zq_138_2, zq_138_3, zq_138_4, zq_138_16, zq_138_19, zq_138_20, zq_138_24, zq_138_25, zq_138_26, zq_138_27, zq_138_31, zq_138_32, zq_138_33, m1', m2', zB_0, reduceCtorEq, h7]
            have hc2 : ∀ d P, zx_rn (d + 30) 130 [.ref 0, .int (nI q), .int (nI t), .int z] (zx_LL Lh) I J P = zx_wp (d + 30) 130 95 [.ref 0, .int (nI q), .int (nI t), .int z, .int (zf_fewest (I 139) q t)] [] (zx_LL Lh) I2 J2 P := fun d P => by
              rw [hc]
              simp (disch := omega) only [↓zs_130_32, ↓zs_130_33, ↓zs_130_36, ↓zs_130_37, ↓zs_130_40, ↓zs_130_41, ↓zs_130_44, ↓zs_130_47, ↓zs_130_48, ↓zs_130_51, ↓zs_130_52, ↓zs_130_55, ↓zs_130_56, ↓zs_130_59, ↓zs_130_62, ↓zs_130_64, zx_pu_s, zx_pu_n, zx_rv_s, zx_rv_n, true_and, and_true, true_or, or_true, zb_0, zb_1, zq_lcl, zq_lcg, zq_lce, eq_self, ite_true, ite_false, zk_0, zw_0, zk_1, zw_1, zq_0_0, zq_0_1, zq_0_2, zq_0_3, zq_0_4, zq_0_5, zq_0_6, zq_0_7, zq_0_8, zq_0_9, zq_0_10, zq_0_11, zq_1_0, zq_1_1, zq_1_2, zq_1_3, zq_1_4, zq_1_5, zk_11, zw_11, zq_11_0, zq_11_1, zq_11_2, k1, k2, zB_0, reduceCtorEq]
              simp (disch := omega) only [↓zs_130_65, ↓zs_130_66, ↓zs_130_69, ↓zs_130_70, ↓zs_130_73, ↓zs_130_74, ↓zs_130_77, ↓zs_130_80, ↓zs_130_81, ↓zs_130_84, ↓zs_130_85, ↓zs_130_88, ↓zs_130_89, ↓zs_130_90, ↓zs_130_93, zx_pu_s, zx_pu_n, zx_rv_s, zx_rv_n, true_and, and_true, true_or, or_true, zb_0, zb_1, zq_lcl, zq_lcg, zq_lce, eq_self, ite_true, ite_false, zk_0, zw_0, zk_1, zw_1, zq_0_0, zq_0_1, zq_0_2, zq_0_3, zq_0_4, zq_0_5, zq_0_6, zq_0_7, zq_0_8, zq_0_9, zq_0_10, zq_0_11, zq_1_0, zq_1_1, zq_1_2, zq_1_3, zq_1_4, zq_1_5, zk_11, zw_11, zq_11_0, zq_11_1, zq_11_2, zk_70, zw_70, zq_70_0, zq_70_1, zq_70_2, zq_70_3, zq_70_4, h3, h4]
            have hfc : zf_fewest (I 139) q t = -1 ∨ ∃ i, i ≤ 40 ∧ zf_bit (zf_go (I 139) q i) t = true ∧ zf_fewest (I 139) q t = nI i := by
              rcases zf_first_c (fun n => zf_bit (zf_go (I 139) q n) t) 41 0 with e | ⟨i, -, e1, e2, e3⟩
              · exact .inl e
              · exact .inr ⟨i, by omega, e2, e3⟩
            generalize zf_fewest (I 139) q t = F at *
            rcases hfc with rfl | ⟨n, hn, hg, rfl⟩
            · obtain ⟨I4, J4, s4, z4, hmod⟩ := model J2 s2
              have zgt : ((-1 : Int32) < z) = True := eq_true (by
                rw [Int32.lt_iff_toInt_lt, show (-1 : Int32).toInt = -1 by decide]
                omega)
              refine ⟨.int (-1), I2, J2, I4, J4, fun d P => ?_, fun d P => ?_, zScr_t s2 s4⟩
              · rw [hc2]
                simp (disch := omega) only [↓zs_130_95, ↓zs_130_97, ↓zs_130_98, ↓zs_130_101, ↓zs_130_102, ↓zs_130_104, ↓zs_130_107, ↓zs_130_108, ↓zs_130_111, ↓zs_130_112, ↓zs_130_115, ↓zs_130_116, ↓zs_130_119, ↓zs_130_120, ↓zs_130_121, ↓zs_130_123, ↓zs_130_124, ↓zs_130_127, zx_pu_s, zx_pu_n, zx_rv_s, zx_rv_n, true_and, and_true, true_or, or_true, zb_0, zb_1, zq_lcl, zq_lcg, zq_lce, eq_self, ite_true, ite_false]
              · rw [hmod]
                simp (disch := omega) only [↓zs_249_60, ↓zs_249_61, ↓zs_249_63, ↓zs_249_66, ↓zs_249_67, zx_pu_s, zx_pu_n, zx_rv_s, zx_rv_n, true_and, and_true, true_or, or_true, zb_0, zb_1, zq_lcl, zq_lcg, zq_lce, eq_self, ite_true, ite_false, zgt]
            · have m1 : (nI n = -1) = False := zq_m1 (by omega)
              have zgn := zq_gt z (n := n) (by omega)
              by_cases ck : (n : Int) < z.toInt
              · obtain ⟨I4, J4, s4, z4, hmod⟩ := model J2 s2
                refine ⟨.int (-1), I2, J2, I4, J4, fun d P => ?_, fun d P => ?_, zScr_t s2 s4⟩
                · rw [hc2]
                  simp (disch := omega) only [↓zs_130_95, ↓zs_130_97, ↓zs_130_98, ↓zs_130_101, ↓zs_130_102, ↓zs_130_104, ↓zs_130_107, ↓zs_130_108, ↓zs_130_111, ↓zs_130_112, ↓zs_130_115, ↓zs_130_116, ↓zs_130_119, ↓zs_130_120, ↓zs_130_121, ↓zs_130_123, ↓zs_130_124, ↓zs_130_127, zx_pu_s, zx_pu_n, zx_rv_s, zx_rv_n, true_and, and_true, true_or, or_true, zb_0, zb_1, zq_lcl, zq_lcg, zq_lce, eq_self, ite_true, ite_false, m1, zgn, ck]
                · rw [hmod]
                  simp (disch := omega) only [↓zs_249_60, ↓zs_249_61, ↓zs_249_63, ↓zs_249_66, ↓zs_249_67, zx_pu_s, zx_pu_n, zx_rv_s, zx_rv_n, true_and, and_true, true_or, or_true, zb_0, zb_1, zq_lcl, zq_lcg, zq_lce, eq_self, ite_true, ite_false, zgn, ck]
              · obtain ⟨k, hk, rfl⟩ : ∃ k, k ≤ n ∧ z = nI k := ⟨z.toInt.toNat, by omega, Int32.toInt_inj.mp (by rw [nI_toInt (by omega)]; omega)⟩
                have cn : ¬ n < k := by omega
                obtain ⟨J3, f3, h8⟩ := sc_behind (Lh := Lh) (t := t) (k := k) z2 v.2.1 hq ht hn hk hg
                have s3 : zScr I J I2 J3 := zScr_t s2 (zScr_J (fun a w => f3 a (by omega)))
                obtain ⟨I4, J4, s4, z4, hmod⟩ := model J3 s3
                obtain ⟨J5, f5, h9⟩ := sp_behind (Lh := Lh) (t := t) (k := k) z4 v.2.1 hq ht hn hk hg
                refine ⟨.int (nI (zf_atw (I 139) q t n k)), I2, J3, I4, J5, fun d P => ?_, fun d P => ?_, zScr_t s3 (zScr_t s4 (zScr_J (fun a w => f5 a (by omega))))⟩
                · rw [hc2]
                  simp (disch := omega) only [↓zs_130_95, ↓zs_130_97, ↓zs_130_98, ↓zs_130_101, ↓zs_130_102, ↓zs_130_104, ↓zs_130_107, ↓zs_130_108, ↓zs_130_111, ↓zs_130_112, ↓zs_130_115, ↓zs_130_116, ↓zs_130_119, ↓zs_130_120, ↓zs_130_121, ↓zs_130_123, ↓zs_130_124, ↓zs_130_127, zx_pu_s, zx_pu_n, zx_rv_s, zx_rv_n, true_and, and_true, true_or, or_true, zb_0, zb_1, zq_lcl, zq_lcg, zq_lce, eq_self, ite_true, ite_false, zk_0, zw_0, zk_1, zw_1, zq_0_0, zq_0_1, zq_0_2, zq_0_3, zq_0_4, zq_0_5, zq_0_6, zq_0_7, zq_0_8, zq_0_9, zq_0_10, zq_0_11, zq_1_0, zq_1_1, zq_1_2, zq_1_3, zq_1_4, zq_1_5, zk_70, zw_70, zq_70_0, zq_70_1, zq_70_2, zq_70_3, zq_70_4, m1, nI_ltI, cn, h8]
                · rw [hmod, ← h9 (d + 24) P]
                  simp (disch := omega) only [↓zs_249_60, ↓zs_249_61, ↓zs_249_63, ↓zs_249_66, ↓zs_249_67, zx_pu_s, zx_pu_n, zx_rv_s, zx_rv_n, true_and, and_true, true_or, or_true, zb_0, zb_1, zq_lcl, zq_lcg, zq_lce, eq_self, ite_true, ite_false, nI_ltI, cn]
end SQ
