/-! month -/
def zf_lc (r : Int32) : Int32 := nI 1103515245 * r + nI 12345
def zf_hi (r : Int32) : Nat := r.toUInt32.toNat / 65536
theorem zf_hi_lt (r : Int32) : zf_hi r < 65536 := by
  have := r.toUInt32.toNat_lt
  unfold zf_hi
  omega
theorem zf_lc_eq (r : Int32) : nI 1103515245 * r + nI 12345 = zf_lc r := rfl
theorem zf_hi_eq (x : Int32) : (x.toUInt32 >>> ((nI 16).toUInt32 &&& Int32.toUInt32 31)).toInt32 = nI (zf_hi x) := by
  have e : (nI 16).toUInt32 &&& Int32.toUInt32 31 = 16 := by decide
  have e2 : (x.toUInt32 >>> 16).toNat = zf_hi x := by
    rw [UInt32.toNat_shiftRight, show (16 : UInt32).toNat % 32 = 16 from rfl, Nat.shiftRight_eq_div_pow]
    rfl
  rw [e, ← e2]
  apply Int32.toBitVec_inj.mp
  apply BitVec.eq_of_toNat_eq
  show (x.toUInt32 >>> 16).toNat = (BitVec.ofNat 32 (x.toUInt32 >>> 16).toNat).toNat
  rw [BitVec.toNat_ofNat, Nat.mod_eq_of_lt (x.toUInt32 >>> 16).toNat_lt]
theorem zq_irem (a w : Nat) (ha : a < 2 ^ 31) (h0 : 0 < w) (hw : w < 2 ^ 31) : nI a - nI a / nI w * nI w = nI (a % w) := by
  rw [pk_div ha h0 hw, pk_mul, zq_rem]
theorem zq_n0 {N : Nat} (h0 : 0 < N) (hN : N < 2 ^ 31) : (nI N = 0) = False := zq_ne (b := 0) (by omega) hN (by decide)
/-- the DEED that a turn of the draw gives, and what is drawn from behind it -/
def zf_dd (N : Nat) (r : Int32) : Int32 × Int32 :=
  if zf_hi (zf_lc r) % 4 < 2 then (-1, zf_lc r)
  else if zf_hi (zf_lc r) % 4 = 3 then (nI (100 + zf_hi (zf_lc (zf_lc r)) % N), zf_lc (zf_lc r))
  else (nI (10 * (zf_hi (zf_lc (zf_lc r)) % N) + zf_hi (zf_lc (zf_lc (zf_lc r))) % N), zf_lc (zf_lc (zf_lc r)))
section MO
variable {Lh m : Nat} {I : zx_MI} {J : zx_MJ}
theorem sc_next {d : Nat} {L : zx_Lay} {P : Option Value → zx_Lay → zx_MI → zx_MJ → Prop} (r : Int32) : zx_rn d 119 [.int r] L I J P = P (some (.int (zf_lc r))) L I J := by
  rw [ze_119]
  simp only [↓zs_119_0, ↓zs_119_2, ↓zs_119_3, ↓zs_119_4, ↓zs_119_7, ↓zs_119_8, zx_pu_s, zx_pu_n, zx_rv_s, zx_rv_n, true_and, and_true, true_or, or_true, zb_0, zb_1, zq_lcl, zq_lcg, zq_lce, eq_self, ite_true, ite_false, zf_lc_eq]
theorem sp_draw {N : Nat} {r : Int32} (h0 : 0 < N) (hN : N < 2 ^ 31) (hr : I 138 23 = r) : ∀ d P, zx_rn d 229 [.ref 138, .int (nI N)] (zx_LL Lh) I J P = P (some (.int (nI (zf_hi (zf_lc r) % N)))) (zx_LL Lh) (zx_u I 138 23 (zf_lc r)) J := by
  intro d P
  have hl := zf_hi_lt (zf_lc r)
  have u := zu_s I 138 23 (zf_lc r)
  rw [ze_229]
  simp (disch := omega) only [↓zs_229_0, ↓zs_229_1, ↓zs_229_4, ↓zs_229_5, ↓zs_229_8, ↓zs_229_9, ↓zs_229_12, ↓zs_229_13, ↓zs_229_16, ↓zs_229_17, ↓zs_229_20, ↓zs_229_22, ↓zs_229_23, ↓zs_229_24, ↓zs_229_25, zx_pu_s, zx_pu_n, zx_rv_s, zx_rv_n, true_and, and_true, true_or, or_true, zb_0, zb_1, zq_lcl, zq_lcg, zq_lce, eq_self, ite_true, ite_false, zk_138, zw_138, zk_139, zw_139, zk_140, zw_140, zk_141, zw_141, zk_142, zw_142, zk_143, zw_143, zk_144, zw_144, zk_145, zw_145, zk_146, zw_146, zk_147, zw_147, zk_148, zw_148, zk_149, zw_149, zk_150, zw_150, zk_151, zw_151, zk_152, zw_152, zq_138_1, zq_138_2, zq_138_3, zq_138_4, zq_138_16, zq_138_19, zq_138_20, zq_138_24, zq_138_25, zq_138_26, zq_138_27, zq_138_31, zq_138_32, zq_138_33, hr, zf_lc_eq, u, zf_hi_eq, zq_n0 h0 hN, not_false_eq_true, zq_irem]
theorem sp_drawn {N : Nat} {r : Int32} (h0 : 0 < N) (hN : N ≤ 8) (h3 : I 139 3 = nI N) (hr : I 138 23 = r) : ∀ d P, zx_rn (d + 1) 230 [.ref 138] (zx_LL Lh) I J P = P (some (.int (zf_dd N r).1)) (zx_LL Lh) (zx_u I 138 23 (zf_dd N r).2) J := by
  intro d P
  have d1 := sp_draw (Lh := Lh) (I := I) (J := J) (N := 4) (by decide) (by decide) hr
  have d2 := sp_draw (Lh := Lh) (I := zx_u I 138 23 (zf_lc r)) (J := J) (N := N) h0 (by omega) (zu_s _ _ _ _)
  have d3 := sp_draw (Lh := Lh) (I := zx_u I 138 23 (zf_lc (zf_lc r))) (J := J) (N := N) h0 (by omega) (zu_s _ _ _ _)
  have e3 : ∀ y, zx_u I 138 23 y 139 3 = nI N := fun y => (zu_n (by decide)).trans h3
  rw [zu_u] at d2 d3
  unfold zf_dd
  have hq : zf_hi (zf_lc r) % 4 < 4 := Nat.mod_lt _ (by decide)
  generalize zf_hi (zf_lc r) % 4 = q at *
  rw [ze_230]
  by_cases c1 : q < 2
  · rw [if_pos c1]
    simp (disch := omega) only [↓zs_230_0, ↓zs_230_1, ↓zs_230_2, ↓zs_230_5, ↓zs_230_6, ↓zs_230_7, ↓zs_230_8, ↓zs_230_11, ↓zs_230_12, ↓zs_230_13, ↓zs_230_14, ↓zs_230_15, ↓zs_230_18, ↓zs_230_19, ↓zs_230_20, ↓zs_230_23, ↓zs_230_24, ↓zs_230_25, ↓zs_230_26, ↓zs_230_29, ↓zs_230_31, ↓zs_230_32, ↓zs_230_33, ↓zs_230_36, ↓zs_230_38, ↓zs_230_39, ↓zs_230_40, ↓zs_230_41, ↓zs_230_42, ↓zs_230_45, ↓zs_230_46, ↓zs_230_47, ↓zs_230_50, ↓zs_230_51, zx_pu_s, zx_pu_n, zx_rv_s, zx_rv_n, true_and, and_true, true_or, or_true, zb_0, zb_1, zq_lcl, zq_lcg, zq_lce, eq_self, ite_true, ite_false, zk_138, zw_138, zk_139, zw_139, zk_140, zw_140, zk_141, zw_141, zk_142, zw_142, zk_143, zw_143, zk_144, zw_144, zk_145, zw_145, zk_146, zw_146, zk_147, zw_147, zk_148, zw_148, zk_149, zw_149, zk_150, zw_150, zk_151, zw_151, zk_152, zw_152, zq_138_1, zq_138_2, zq_138_3, zq_138_4, zq_138_16, zq_138_19, zq_138_20, zq_138_24, zq_138_25, zq_138_26, zq_138_27, zq_138_31, zq_138_32, zq_138_33, nI_ltI, d1, c1]
  · rw [if_neg c1]
    by_cases c2 : q = 3
    · rw [if_pos c2]
      subst c2
      simp (disch := omega) only [↓zs_230_0, ↓zs_230_1, ↓zs_230_2, ↓zs_230_5, ↓zs_230_6, ↓zs_230_7, ↓zs_230_8, ↓zs_230_11, ↓zs_230_12, ↓zs_230_13, ↓zs_230_14, ↓zs_230_15, ↓zs_230_18, ↓zs_230_19, ↓zs_230_20, ↓zs_230_23, ↓zs_230_24, ↓zs_230_25, ↓zs_230_26, ↓zs_230_29, ↓zs_230_31, ↓zs_230_32, ↓zs_230_33, ↓zs_230_36, ↓zs_230_38, ↓zs_230_39, ↓zs_230_40, ↓zs_230_41, ↓zs_230_42, ↓zs_230_45, ↓zs_230_46, ↓zs_230_47, ↓zs_230_50, ↓zs_230_51, zx_pu_s, zx_pu_n, zx_rv_s, zx_rv_n, true_and, and_true, true_or, or_true, zb_0, zb_1, zq_lcl, zq_lcg, zq_lce, eq_self, ite_true, ite_false, zk_138, zw_138, zk_139, zw_139, zk_140, zw_140, zk_141, zw_141, zk_142, zw_142, zk_143, zw_143, zk_144, zw_144, zk_145, zw_145, zk_146, zw_146, zk_147, zw_147, zk_148, zw_148, zk_149, zw_149, zk_150, zw_150, zk_151, zw_151, zk_152, zw_152, zq_138_1, zq_138_2, zq_138_3, zq_138_4, zq_138_16, zq_138_19, zq_138_20, zq_138_24, zq_138_25, zq_138_26, zq_138_27, zq_138_31, zq_138_32, zq_138_33, zin_nI, nI_clamp, nI_ltI, nI_add, d1, e3, d2, c1]
    · rw [if_neg c2]
      have c3 : (nI q = nI 3) = False := zq_ne c2 (by omega) (by omega)
      simp (disch := omega) only [↓zs_230_0, ↓zs_230_1, ↓zs_230_2, ↓zs_230_5, ↓zs_230_6, ↓zs_230_7, ↓zs_230_8, ↓zs_230_11, ↓zs_230_12, ↓zs_230_13, ↓zs_230_14, ↓zs_230_15, ↓zs_230_18, ↓zs_230_19, ↓zs_230_20, ↓zs_230_23, ↓zs_230_24, ↓zs_230_25, ↓zs_230_26, ↓zs_230_29, ↓zs_230_31, ↓zs_230_32, ↓zs_230_33, ↓zs_230_36, ↓zs_230_38, ↓zs_230_39, ↓zs_230_40, ↓zs_230_41, ↓zs_230_42, ↓zs_230_45, ↓zs_230_46, ↓zs_230_47, ↓zs_230_50, ↓zs_230_51, zx_pu_s, zx_pu_n, zx_rv_s, zx_rv_n, true_and, and_true, true_or, or_true, zb_0, zb_1, zq_lcl, zq_lcg, zq_lce, eq_self, ite_true, ite_false, zk_138, zw_138, zk_139, zw_139, zk_140, zw_140, zk_141, zw_141, zk_142, zw_142, zk_143, zw_143, zk_144, zw_144, zk_145, zw_145, zk_146, zw_146, zk_147, zw_147, zk_148, zw_148, zk_149, zw_149, zk_150, zw_150, zk_151, zw_151, zk_152, zw_152, zq_138_1, zq_138_2, zq_138_3, zq_138_4, zq_138_16, zq_138_19, zq_138_20, zq_138_24, zq_138_25, zq_138_26, zq_138_27, zq_138_31, zq_138_32, zq_138_33, zin_nI, nI_clamp, nI_ltI, nI_add, pk_mul, d1, e3, d2, d3, c1, c3]
theorem sc_dd {N : Nat} {r : Int32} (h0 : 0 < N) (hN : N ≤ 8) {a b c4 c6 : Int32} {v7 v8 v9 v10 : Value} : ∀ d P, ∃ w7 w9 w10, zx_wp (d + 1) 118 56 [.ref 0, .int a, .int b, .int (nI N), .int c4, .int r, .int c6, v7, v8, v9, v10] [] (zx_LL Lh) I J P = zx_wp (d + 1) 118 151 [.ref 0, .int a, .int b, .int (nI N), .int c4, .int (zf_dd N r).2, .int c6, w7, .long (zf_dd N r).1.toInt64, w9, w10] [] (zx_LL Lh) I J P := by
  intro d P
  have l1 := zf_hi_lt (zf_lc r)
  have l2 := zf_hi_lt (zf_lc (zf_lc r))
  have l3 := zf_hi_lt (zf_lc (zf_lc (zf_lc r)))
  have n4 : (nI 4 = 0) = False := zq_n0 (by decide) (by decide)
  have nN : (nI N = 0) = False := zq_n0 h0 (by omega)
  have hn := fun r P => sc_next (d := d) (L := zx_LL Lh) (I := I) (J := J) (P := P) r
  unfold zf_dd
  by_cases c1 : zf_hi (zf_lc r) % 4 < 2
  · have n2 : (nI (zf_hi (zf_lc r) % 4) = nI 2) = False := zq_ne (by omega) (by omega) (by omega)
    have n3 : (nI (zf_hi (zf_lc r) % 4) = nI 3) = False := zq_ne (by omega) (by omega) (by omega)
    have em : (-1 : Int32).toInt64 = -1 := by decide
    rw [if_pos c1]
    refine ⟨.int (nI (zf_hi (zf_lc r) % 4)), zx_u0, v10, ?_⟩
    simp (disch := omega) only [↓zs_118_56, ↓zs_118_58, ↓zs_118_61, ↓zs_118_63, ↓zs_118_65, ↓zs_118_67, ↓zs_118_68, ↓zs_118_69, ↓zs_118_70, ↓zs_118_72, ↓zs_118_75, ↓zs_118_77, ↓zs_118_79, ↓zs_118_80, ↓zs_118_83, ↓zs_118_85, ↓zs_118_88, ↓zs_118_90, ↓zs_118_92, ↓zs_118_94, ↓zs_118_95, ↓zs_118_96, ↓zs_118_97, ↓zs_118_99, ↓zs_118_101, ↓zs_118_104, ↓zs_118_106, ↓zs_118_108, ↓zs_118_110, ↓zs_118_111, ↓zs_118_113, ↓zs_118_115, ↓zs_118_116, ↓zs_118_117, ↓zs_118_118, ↓zs_118_119, ↓zs_118_120, ↓zs_118_122, ↓zs_118_125, ↓zs_118_127, ↓zs_118_128, ↓zs_118_131, ↓zs_118_133, ↓zs_118_136, ↓zs_118_138, ↓zs_118_140, ↓zs_118_142, ↓zs_118_144, ↓zs_118_145, ↓zs_118_146, ↓zs_118_147, ↓zs_118_148, ↓zs_118_149, zx_pu_s, zx_pu_n, zx_rv_s, zx_rv_n, true_and, and_true, true_or, or_true, zb_0, zb_1, zq_lcl, zq_lcg, zq_lce, eq_self, ite_true, ite_false, zk_0, zw_0, zk_1, zw_1, zq_0_0, zq_0_1, zq_0_2, zq_0_3, zq_0_4, zq_0_5, zq_0_6, zq_0_7, zq_0_8, zq_0_9, zq_0_10, zq_0_11, zq_1_0, zq_1_1, zq_1_2, zq_1_3, zq_1_4, zq_1_5, hn, zf_hi_eq, n4, not_false_eq_true, zq_irem, n2, n3, em]
  · rw [if_neg c1]
    by_cases c2 : zf_hi (zf_lc r) % 4 = 3
    · rw [if_pos c2]
      have n2 : (nI 3 = nI 2) = False := zq_ne (by omega) (by omega) (by omega)
      refine ⟨.int (nI 3), zx_u0, v10, ?_⟩
      simp (disch := omega) only [↓zs_118_56, ↓zs_118_58, ↓zs_118_61, ↓zs_118_63, ↓zs_118_65, ↓zs_118_67, ↓zs_118_68, ↓zs_118_69, ↓zs_118_70, ↓zs_118_72, ↓zs_118_75, ↓zs_118_77, ↓zs_118_79, ↓zs_118_80, ↓zs_118_83, ↓zs_118_85, ↓zs_118_88, ↓zs_118_90, ↓zs_118_92, ↓zs_118_94, ↓zs_118_95, ↓zs_118_96, ↓zs_118_97, ↓zs_118_99, ↓zs_118_101, ↓zs_118_104, ↓zs_118_106, ↓zs_118_108, ↓zs_118_110, ↓zs_118_111, ↓zs_118_113, ↓zs_118_115, ↓zs_118_116, ↓zs_118_117, ↓zs_118_118, ↓zs_118_119, ↓zs_118_120, ↓zs_118_122, ↓zs_118_125, ↓zs_118_127, ↓zs_118_128, ↓zs_118_131, ↓zs_118_133, ↓zs_118_136, ↓zs_118_138, ↓zs_118_140, ↓zs_118_142, ↓zs_118_144, ↓zs_118_145, ↓zs_118_146, ↓zs_118_147, ↓zs_118_148, ↓zs_118_149, zx_pu_s, zx_pu_n, zx_rv_s, zx_rv_n, true_and, and_true, true_or, or_true, zb_0, zb_1, zq_lcl, zq_lcg, zq_lce, eq_self, ite_true, ite_false, zk_0, zw_0, zk_1, zw_1, zq_0_0, zq_0_1, zq_0_2, zq_0_3, zq_0_4, zq_0_5, zq_0_6, zq_0_7, zq_0_8, zq_0_9, zq_0_10, zq_0_11, zq_1_0, zq_1_1, zq_1_2, zq_1_3, zq_1_4, zq_1_5, hn, zf_hi_eq, n4, nN, not_false_eq_true, zq_irem, c2, n2, nI_add]
    · rw [if_neg c2]
      have c3 : zf_hi (zf_lc r) % 4 = 2 := by omega
      refine ⟨.int (nI 2), zx_u0, .int (nI (zf_hi (zf_lc (zf_lc r)) % N)), ?_⟩
      simp (disch := omega) only [↓zs_118_56, ↓zs_118_58, ↓zs_118_61, ↓zs_118_63, ↓zs_118_65, ↓zs_118_67, ↓zs_118_68, ↓zs_118_69, ↓zs_118_70, ↓zs_118_72, ↓zs_118_75, ↓zs_118_77, ↓zs_118_79, ↓zs_118_80, ↓zs_118_83, ↓zs_118_85, ↓zs_118_88, ↓zs_118_90, ↓zs_118_92, ↓zs_118_94, ↓zs_118_95, ↓zs_118_96, ↓zs_118_97, ↓zs_118_99, ↓zs_118_101, ↓zs_118_104, ↓zs_118_106, ↓zs_118_108, ↓zs_118_110, ↓zs_118_111, ↓zs_118_113, ↓zs_118_115, ↓zs_118_116, ↓zs_118_117, ↓zs_118_118, ↓zs_118_119, ↓zs_118_120, ↓zs_118_122, ↓zs_118_125, ↓zs_118_127, ↓zs_118_128, ↓zs_118_131, ↓zs_118_133, ↓zs_118_136, ↓zs_118_138, ↓zs_118_140, ↓zs_118_142, ↓zs_118_144, ↓zs_118_145, ↓zs_118_146, ↓zs_118_147, ↓zs_118_148, ↓zs_118_149, zx_pu_s, zx_pu_n, zx_rv_s, zx_rv_n, true_and, and_true, true_or, or_true, zb_0, zb_1, zq_lcl, zq_lcg, zq_lce, eq_self, ite_true, ite_false, zk_0, zw_0, zk_1, zw_1, zq_0_0, zq_0_1, zq_0_2, zq_0_3, zq_0_4, zq_0_5, zq_0_6, zq_0_7, zq_0_8, zq_0_9, zq_0_10, zq_0_11, zq_1_0, zq_1_1, zq_1_2, zq_1_3, zq_1_4, zq_1_5, hn, zf_hi_eq, n4, nN, not_false_eq_true, zq_irem, c3, nI_add, pk_mul]
end MO
