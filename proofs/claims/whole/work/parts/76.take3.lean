/-! the smallest set, the model -/
theorem zB_and1 (b : Bool) : zB b &&& nI 1 = zB b := by cases b <;> decide
theorem zB_and0 (b : Bool) : zB b &&& nI 0 = zB false := by cases b <;> decide
theorem zq_lon {a : Nat} (h : a < 2 ^ 31) : (nI a).toInt64 = lN a := nI_l h
theorem zf_pop64 {a : Nat} (h : a < 256) : zf_cnt a.testBit 64 0 = zf_pop a := by
  unfold zf_pop
  rw [show 64 = 8 + 56 from rfl, zf_cnt_add, zf_cnt_0 _ 56 _ (fun j h1 h2 => Nat.testBit_lt_two_pow (Nat.lt_of_lt_of_le h (Nat.pow_le_pow_right (n := 2) (by decide) (show 8 ≤ j by omega))))]
  rfl
section TM
variable {Lh m : Nat} {I : zx_MI} {J : zx_MJ}
theorem sp_setOk {k a z N : Nat} {x3 : Int32} {B : Nat → Int32} (ha : a < 256) (hB : I 139 = B) (h3 : B 3 = nI N) (hN : N ≤ 8) : ∀ mm s b, s + mm = N → ∀ d P, zx_wp (d + 8) 252 51 [.ref 138, .int (nI k), .int (nI z), .int x3, .int (nI a), .int (zB b), .int (nI s)] [] (zx_LL Lh) I J P = zx_wp (d + 8) 252 112 [.ref 138, .int (nI k), .int (nI z), .int x3, .int (nI a), .int (zB (b && zf_vd k a B mm s)), .int (nI N)] [] (zx_LL Lh) I J P := by
  have hbit := zf_bit_n (a := a) (by omega)
  have e3 : I 139 3 = nI N := by rw [hB]; exact h3
  have la := zq_lon (a := a) (by omega)
  intro mm
  induction mm with
  | zero =>
    intro s b hs d P
    obtain rfl : s = N := by omega
    rw [zf_vd, Bool.and_true, zs_252_51]
    simp (disch := omega) only [↓zs_252_53, ↓zs_252_54, ↓zs_252_57, ↓zs_252_58, ↓zs_252_59, ↓zs_252_62, ↓zs_252_64, ↓zs_252_66, ↓zs_252_67, ↓zs_252_69, ↓zs_252_72, ↓zs_252_75, ↓zs_252_76, ↓zs_252_78, ↓zs_252_81, ↓zs_252_84, ↓zs_252_85, ↓zs_252_88, ↓zs_252_90, ↓zs_252_92, ↓zs_252_93, ↓zs_252_94, ↓zs_252_95, ↓zs_252_98, ↓zs_252_99, ↓zs_252_102, ↓zs_252_103, ↓zs_252_104, ↓zs_252_106, ↓zs_252_109, zx_pu_s, zx_pu_n, zx_rv_s, zx_rv_n, true_and, and_true, true_or, or_true, zb_0, zb_1, zq_lcl, zq_lcg, zq_lce, eq_self, ite_true, ite_false, zk_138, zw_138, zk_139, zw_139, zk_140, zw_140, zk_141, zw_141, zk_142, zw_142, zk_143, zw_143, zk_144, zw_144, zk_145, zw_145, zk_146, zw_146, zk_147, zw_147, zk_148, zw_148, zk_149, zw_149, zk_150, zw_150, zk_151, zw_151, zk_152, zw_152, zq_138_1, zq_138_2, zq_138_3, zq_138_4, zq_138_16, zq_138_19, zq_138_20, zq_138_24, zq_138_25, zq_138_26, zq_138_27, zq_138_31, zq_138_32, zq_138_33, zin_nI, nI_clamp, nI_ltI, Nat.lt_irrefl, e3]
  | succ mm ih =>
    intro s b hs d P
    have hlt : s < N := by omega
    have h8 : s < 8 := by omega
    have hin := fun d P => sp_isIn (d := d) (L := zx_LL Lh) (I := I) (J := J) (P := P) (b := lN a) (k := s) (by omega)
    rw [hbit] at hin
    have hst : ∀ d P, zx_rn d 186 [.ref 138, .int (nI s)] (zx_LL Lh) I J P = P (some (.int (zB (zf_stds (I 139) s)))) (zx_LL Lh) I J := fun d P => sp_stands s h8
    rw [hB] at hst
    have e109 : I 139 (109 + s) = B (109 + s) := by rw [hB]
    have ih' := fun b => ih (s + 1) b (by omega) d P
    unfold zf_vd
    cases c : a.testBit s with
    | false =>
      rw [c] at hin
      rw [Bool.not_false, Bool.true_or, Bool.true_and, ← ih' b, zs_252_51]
      simp (disch := omega) only [↓zs_252_53, ↓zs_252_54, ↓zs_252_57, ↓zs_252_58, ↓zs_252_59, ↓zs_252_62, ↓zs_252_64, ↓zs_252_66, ↓zs_252_67, ↓zs_252_69, ↓zs_252_72, ↓zs_252_75, ↓zs_252_76, ↓zs_252_78, ↓zs_252_81, ↓zs_252_84, ↓zs_252_85, ↓zs_252_88, ↓zs_252_90, ↓zs_252_92, ↓zs_252_93, ↓zs_252_94, ↓zs_252_95, ↓zs_252_98, ↓zs_252_99, ↓zs_252_102, ↓zs_252_103, ↓zs_252_104, ↓zs_252_106, ↓zs_252_109, zx_pu_s, zx_pu_n, zx_rv_s, zx_rv_n, true_and, and_true, true_or, or_true, zb_0, zb_1, zq_lcl, zq_lcg, zq_lce, eq_self, ite_true, ite_false, zk_138, zw_138, zk_139, zw_139, zk_140, zw_140, zk_141, zw_141, zk_142, zw_142, zk_143, zw_143, zk_144, zw_144, zk_145, zw_145, zk_146, zw_146, zk_147, zw_147, zk_148, zw_148, zk_149, zw_149, zk_150, zw_150, zk_151, zw_151, zk_152, zw_152, zq_138_1, zq_138_2, zq_138_3, zq_138_4, zq_138_16, zq_138_19, zq_138_20, zq_138_24, zq_138_25, zq_138_26, zq_138_27, zq_138_31, zq_138_32, zq_138_33, zin_nI, nI_clamp, nI_ltI, nI_add, hlt, e3, la, hin, zB_0, reduceCtorEq, zB_and1]
    | true =>
      rw [c] at hin
      rw [Bool.not_true, Bool.false_or]
      cases c1 : zf_stds B s with
      | false =>
        rw [c1] at hst
        rw [Bool.false_and, Bool.false_and, Bool.and_false]
        have i0 := ih' false
        rw [Bool.false_and] at i0
        rw [← i0, zs_252_51]
        simp (disch := omega) only [↓zs_252_53, ↓zs_252_54, ↓zs_252_57, ↓zs_252_58, ↓zs_252_59, ↓zs_252_62, ↓zs_252_64, ↓zs_252_66, ↓zs_252_67, ↓zs_252_69, ↓zs_252_72, ↓zs_252_75, ↓zs_252_76, ↓zs_252_78, ↓zs_252_81, ↓zs_252_84, ↓zs_252_85, ↓zs_252_88, ↓zs_252_90, ↓zs_252_92, ↓zs_252_93, ↓zs_252_94, ↓zs_252_95, ↓zs_252_98, ↓zs_252_99, ↓zs_252_102, ↓zs_252_103, ↓zs_252_104, ↓zs_252_106, ↓zs_252_109, zx_pu_s, zx_pu_n, zx_rv_s, zx_rv_n, true_and, and_true, true_or, or_true, zb_0, zb_1, zq_lcl, zq_lcg, zq_lce, eq_self, ite_true, ite_false, zk_138, zw_138, zk_139, zw_139, zk_140, zw_140, zk_141, zw_141, zk_142, zw_142, zk_143, zw_143, zk_144, zw_144, zk_145, zw_145, zk_146, zw_146, zk_147, zw_147, zk_148, zw_148, zk_149, zw_149, zk_150, zw_150, zk_151, zw_151, zk_152, zw_152, zq_138_1, zq_138_2, zq_138_3, zq_138_4, zq_138_16, zq_138_19, zq_138_20, zq_138_24, zq_138_25, zq_138_26, zq_138_27, zq_138_31, zq_138_32, zq_138_33, zin_nI, nI_clamp, nI_ltI, nI_add, hlt, e3, la, hin, hst, zB_0, reduceCtorEq, zB_and0]
      | true =>
        rw [c1] at hst
        rw [Bool.true_and]
        by_cases c2 : B (109 + s) = nI k
        · rw [decide_eq_true c2, Bool.not_true, Bool.false_and, Bool.and_false]
          rw [c2] at e109
          have i0 := ih' false
          rw [Bool.false_and] at i0
          rw [← i0, zs_252_51]
          simp (disch := omega) only [↓zs_252_53, ↓zs_252_54, ↓zs_252_57, ↓zs_252_58, ↓zs_252_59, ↓zs_252_62, ↓zs_252_64, ↓zs_252_66, ↓zs_252_67, ↓zs_252_69, ↓zs_252_72, ↓zs_252_75, ↓zs_252_76, ↓zs_252_78, ↓zs_252_81, ↓zs_252_84, ↓zs_252_85, ↓zs_252_88, ↓zs_252_90, ↓zs_252_92, ↓zs_252_93, ↓zs_252_94, ↓zs_252_95, ↓zs_252_98, ↓zs_252_99, ↓zs_252_102, ↓zs_252_103, ↓zs_252_104, ↓zs_252_106, ↓zs_252_109, zx_pu_s, zx_pu_n, zx_rv_s, zx_rv_n, true_and, and_true, true_or, or_true, zb_0, zb_1, zq_lcl, zq_lcg, zq_lce, eq_self, ite_true, ite_false, zk_138, zw_138, zk_139, zw_139, zk_140, zw_140, zk_141, zw_141, zk_142, zw_142, zk_143, zw_143, zk_144, zw_144, zk_145, zw_145, zk_146, zw_146, zk_147, zw_147, zk_148, zw_148, zk_149, zw_149, zk_150, zw_150, zk_151, zw_151, zk_152, zw_152, zq_138_1, zq_138_2, zq_138_3, zq_138_4, zq_138_16, zq_138_19, zq_138_20, zq_138_24, zq_138_25, zq_138_26, zq_138_27, zq_138_31, zq_138_32, zq_138_33, zin_nI, nI_clamp, nI_ltI, nI_add, hlt, e3, la, hin, hst, zB_0, reduceCtorEq, e109, zB_and0]
        · rw [decide_eq_false c2, Bool.not_false, Bool.true_and]
          have c2' : (B (109 + s) = nI k) = False := eq_false c2
          rw [← ih' b, zs_252_51]
          simp (disch := omega) only [↓zs_252_53, ↓zs_252_54, ↓zs_252_57, ↓zs_252_58, ↓zs_252_59, ↓zs_252_62, ↓zs_252_64, ↓zs_252_66, ↓zs_252_67, ↓zs_252_69, ↓zs_252_72, ↓zs_252_75, ↓zs_252_76, ↓zs_252_78, ↓zs_252_81, ↓zs_252_84, ↓zs_252_85, ↓zs_252_88, ↓zs_252_90, ↓zs_252_92, ↓zs_252_93, ↓zs_252_94, ↓zs_252_95, ↓zs_252_98, ↓zs_252_99, ↓zs_252_102, ↓zs_252_103, ↓zs_252_104, ↓zs_252_106, ↓zs_252_109, zx_pu_s, zx_pu_n, zx_rv_s, zx_rv_n, true_and, and_true, true_or, or_true, zb_0, zb_1, zq_lcl, zq_lcg, zq_lce, eq_self, ite_true, ite_false, zk_138, zw_138, zk_139, zw_139, zk_140, zw_140, zk_141, zw_141, zk_142, zw_142, zk_143, zw_143, zk_144, zw_144, zk_145, zw_145, zk_146, zw_146, zk_147, zw_147, zk_148, zw_148, zk_149, zw_149, zk_150, zw_150, zk_151, zw_151, zk_152, zw_152, zq_138_1, zq_138_2, zq_138_3, zq_138_4, zq_138_16, zq_138_19, zq_138_20, zq_138_24, zq_138_25, zq_138_26, zq_138_27, zq_138_31, zq_138_32, zq_138_33, zin_nI, nI_clamp, nI_ltI, nI_add, hlt, e3, la, hin, hst, zB_0, reduceCtorEq, e109, c2', zB_and1]
theorem sp_setRm {k a z N r : Nat} {x3 x5 : Int32} (ha : a < 256) (hN : N ≤ 8) (hr : (r = 109 ∧ z = 1) ∨ (r = 125 ∧ z = 0)) : ∀ mm s B I2, s + mm = N → zFm I I2 → I2 139 = B → B 3 = nI N → ∃ I3, zFm I I3 ∧ I3 139 = zf_rm r a mm s B ∧ ∀ d P, zx_wp (d + 8) 252 123 [.ref 138, .int (nI k), .int (nI z), .int x3, .int (nI a), .int x5, .int (nI s)] [] (zx_LL Lh) I2 J P = zx_wp (d + 8) 252 171 [.ref 138, .int (nI k), .int (nI z), .int x3, .int (nI a), .int x5, .int (nI N)] [] (zx_LL Lh) I3 J P := by
  have hbit := zf_bit_n (a := a) (by omega)
  have la := zq_lon (a := a) (by omega)
  intro mm
  induction mm with
  | zero =>
    intro s B I2 hs f hB h3
    have e3 : I2 139 3 = nI N := by rw [hB]; exact h3
    obtain rfl : s = N := by omega
    refine ⟨I2, f, hB, fun d P => ?_⟩
    rw [zs_252_123]
    simp (disch := omega) only [↓zs_252_125, ↓zs_252_126, ↓zs_252_129, ↓zs_252_130, ↓zs_252_131, ↓zs_252_134, ↓zs_252_136, ↓zs_252_137, ↓zs_252_139, ↓zs_252_142, ↓zs_252_145, ↓zs_252_146, ↓zs_252_149, ↓zs_252_150, ↓zs_252_153, ↓zs_252_155, ↓zs_252_158, ↓zs_252_160, ↓zs_252_162, ↓zs_252_163, ↓zs_252_164, ↓zs_252_165, ↓zs_252_168, zx_pu_s, zx_pu_n, zx_rv_s, zx_rv_n, true_and, and_true, true_or, or_true, zb_0, zb_1, zq_lcl, zq_lcg, zq_lce, eq_self, ite_true, ite_false, zk_138, zw_138, zk_139, zw_139, zk_140, zw_140, zk_141, zw_141, zk_142, zw_142, zk_143, zw_143, zk_144, zw_144, zk_145, zw_145, zk_146, zw_146, zk_147, zw_147, zk_148, zw_148, zk_149, zw_149, zk_150, zw_150, zk_151, zw_151, zk_152, zw_152, zq_138_1, zq_138_2, zq_138_3, zq_138_4, zq_138_16, zq_138_19, zq_138_20, zq_138_24, zq_138_25, zq_138_26, zq_138_27, zq_138_31, zq_138_32, zq_138_33, zin_nI, nI_clamp, nI_ltI, Nat.lt_irrefl, e3]
  | succ mm ih =>
    intro s B I2 hs f hB h3
    have e3 : I2 139 3 = nI N := by rw [hB]; exact h3
    have hlt : s < N := by omega
    have hin := fun d P => sp_isIn (d := d) (L := zx_LL Lh) (I := I2) (J := J) (P := P) (b := lN a) (k := s) (by omega)
    rw [hbit] at hin
    unfold zf_rm
    cases c : a.testBit s with
    | false =>
      rw [c] at hin
      rw [if_neg (by decide)]
      obtain ⟨I3, f3, r3, h4⟩ := ih (s + 1) B I2 (by omega) f hB h3
      refine ⟨I3, f3, r3, fun d P => ?_⟩
      rw [← h4 d P, zs_252_123]
      simp (disch := omega) only [↓zs_252_125, ↓zs_252_126, ↓zs_252_129, ↓zs_252_130, ↓zs_252_131, ↓zs_252_134, ↓zs_252_136, ↓zs_252_137, ↓zs_252_139, ↓zs_252_142, ↓zs_252_145, ↓zs_252_146, ↓zs_252_149, ↓zs_252_150, ↓zs_252_153, ↓zs_252_155, ↓zs_252_158, ↓zs_252_160, ↓zs_252_162, ↓zs_252_163, ↓zs_252_164, ↓zs_252_165, ↓zs_252_168, zx_pu_s, zx_pu_n, zx_rv_s, zx_rv_n, true_and, and_true, true_or, or_true, zb_0, zb_1, zq_lcl, zq_lcg, zq_lce, eq_self, ite_true, ite_false, zk_138, zw_138, zk_139, zw_139, zk_140, zw_140, zk_141, zw_141, zk_142, zw_142, zk_143, zw_143, zk_144, zw_144, zk_145, zw_145, zk_146, zw_146, zk_147, zw_147, zk_148, zw_148, zk_149, zw_149, zk_150, zw_150, zk_151, zw_151, zk_152, zw_152, zq_138_1, zq_138_2, zq_138_3, zq_138_4, zq_138_16, zq_138_19, zq_138_20, zq_138_24, zq_138_25, zq_138_26, zq_138_27, zq_138_31, zq_138_32, zq_138_33, zin_nI, nI_clamp, nI_ltI, nI_add, hlt, e3, la, hin, zB_0, reduceCtorEq]
    | true =>
      rw [c] at hin
      rw [if_pos rfl]
      obtain ⟨I3, f3, r3, h4⟩ := ih (s + 1) (zu1 B (r + s) (-1)) (zx_u I2 139 (r + s) (-1)) (by omega) (zFm_t f (fun a j n => zu_n (by omega))) (by rw [zu_r, zr_s, hB]) (by rw [zu1_n (by omega)]; exact h3)
      refine ⟨I3, f3, r3, fun d P => ?_⟩
      rw [← h4 d P, zs_252_123]
      rcases hr with ⟨q1, q2⟩ | ⟨q1, q2⟩ <;> subst q1 q2
      · have n1 : (nI 1 = nI 0) = False := eq_false (by decide)
        simp (disch := omega) only [↓zs_252_125, ↓zs_252_126, ↓zs_252_129, ↓zs_252_130, ↓zs_252_131, ↓zs_252_134, ↓zs_252_136, ↓zs_252_137, ↓zs_252_139, ↓zs_252_142, ↓zs_252_145, ↓zs_252_146, ↓zs_252_149, ↓zs_252_150, ↓zs_252_153, ↓zs_252_155, ↓zs_252_158, ↓zs_252_160, ↓zs_252_162, ↓zs_252_163, ↓zs_252_164, ↓zs_252_165, ↓zs_252_168, zx_pu_s, zx_pu_n, zx_rv_s, zx_rv_n, true_and, and_true, true_or, or_true, zb_0, zb_1, zq_lcl, zq_lcg, zq_lce, eq_self, ite_true, ite_false, zk_138, zw_138, zk_139, zw_139, zk_140, zw_140, zk_141, zw_141, zk_142, zw_142, zk_143, zw_143, zk_144, zw_144, zk_145, zw_145, zk_146, zw_146, zk_147, zw_147, zk_148, zw_148, zk_149, zw_149, zk_150, zw_150, zk_151, zw_151, zk_152, zw_152, zq_138_1, zq_138_2, zq_138_3, zq_138_4, zq_138_16, zq_138_19, zq_138_20, zq_138_24, zq_138_25, zq_138_26, zq_138_27, zq_138_31, zq_138_32, zq_138_33, zin_nI, nI_clamp, nI_ltI, nI_add, hlt, e3, la, hin, zB_0, reduceCtorEq, n1]
      · simp (disch := omega) only [↓zs_252_125, ↓zs_252_126, ↓zs_252_129, ↓zs_252_130, ↓zs_252_131, ↓zs_252_134, ↓zs_252_136, ↓zs_252_137, ↓zs_252_139, ↓zs_252_142, ↓zs_252_145, ↓zs_252_146, ↓zs_252_149, ↓zs_252_150, ↓zs_252_153, ↓zs_252_155, ↓zs_252_158, ↓zs_252_160, ↓zs_252_162, ↓zs_252_163, ↓zs_252_164, ↓zs_252_165, ↓zs_252_168, zx_pu_s, zx_pu_n, zx_rv_s, zx_rv_n, true_and, and_true, true_or, or_true, zb_0, zb_1, zq_lcl, zq_lcg, zq_lce, eq_self, ite_true, ite_false, zk_138, zw_138, zk_139, zw_139, zk_140, zw_140, zk_141, zw_141, zk_142, zw_142, zk_143, zw_143, zk_144, zw_144, zk_145, zw_145, zk_146, zw_146, zk_147, zw_147, zk_148, zw_148, zk_149, zw_149, zk_150, zw_150, zk_151, zw_151, zk_152, zw_152, zq_138_1, zq_138_2, zq_138_3, zq_138_4, zq_138_16, zq_138_19, zq_138_20, zq_138_24, zq_138_25, zq_138_26, zq_138_27, zq_138_31, zq_138_32, zq_138_33, zin_nI, nI_clamp, nI_ltI, nI_add, hlt, e3, la, hin, zB_0, reduceCtorEq]
end TM
