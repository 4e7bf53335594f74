/-! the class's look -/
theorem zt_andone {t : Int64} {k : Nat} (hk : k < 64) : (t &&& zf_one k = lN 0) = (zf_bit t k = false) := by
  apply propext
  rw [zt_eq0]
  constructor
  · intro h
    have := h k hk
    rw [zt_and, zt_one hk hk, decide_eq_true rfl, Bool.and_true] at this
    exact this
  · intro h j hj
    rw [zt_and, zt_one hk hj]
    by_cases e : j = k
    · rw [e, h, Bool.false_and]
    · rw [decide_eq_false e, Bool.and_false]
theorem zq_and7 {a : Nat} (h : a < 8) : nI a &&& nI 7 = nI a := by
  have q : ∀ a : Fin 8, nI a.1 &&& nI 7 = nI a.1 := by decide +kernel
  exact q ⟨a, h⟩
theorem zx_SI_x {I : zx_MI} {dr : Nat} (si : zx_SI I) (h : dr < 8) : (I 5001 dr).toInt = zf_dx dr := by
  have q : ∀ d : Fin 8, (zx_alX.getD d.1 0).toInt = zf_dx d.1 := by decide +kernel
  rw [si _ _ (by omega)]
  exact q ⟨dr, h⟩
theorem zx_SI_y {I : zx_MI} {dr : Nat} (si : zx_SI I) (h : dr < 8) : (I 5002 dr).toInt = zf_dy dr := by
  have q : ∀ d : Fin 8, (zx_alY.getD d.1 0).toInt = zf_dy d.1 := by decide +kernel
  rw [si _ _ (by omega)]
  exact q ⟨dr, h⟩
theorem zq_addI {x y : Int32} {a b : Int} (hx : x.toInt = a) (hy : y.toInt = b) (h1 : -2147483648 ≤ a + b) (h2 : a + b < 2147483648) : (x + y).toInt = a + b := by
  rw [Int32.toInt_add, hx, hy]
  exact Int.bmod_eq_of_le (by omega) (by omega)
theorem zn_lt0 (n : Nat) : (n < 0) = False := eq_false (Nat.not_lt_zero n)
section CL
variable {d Lh w h N : Nat} {I : zx_MI} {J : zx_MJ} {P : Option Value → zx_Lay → zx_MI → zx_MJ → Prop}
theorem sc_look_loop {S T s dr : Nat} {t : Int64} {dX dY : Int32} (hS : zx_sq S) (hd : dr < 8) (hw : I S 6 = nI w) (hh : I S 7 = nI h) (w8 : w ≤ 8) (h8 : h ≤ 8) (eX : dX.toInt = zf_dx dr) (eY : dY.toInt = zf_dy dr) : ∀ (f i : Nat) (x y : Int) (xI yI : Int32) (b : Int64) (v12 v13 : Value), i + f = 8 → xI.toInt = x → yI.toInt = y → zx_wp d 63 86 [.ref S, .ref T, .int (nI s), .long t, zx_u0, .int dX, .int dY, .int xI, .int yI, .long b, zx_u0, .int (nI i), v12, v13] [] (zx_LL Lh) I J P = P (some (.long (zf_walk w h (zf_dx dr) (zf_dy dr) (zf_bit t) f x y b).1)) (zx_LL Lh) I J := by
  have kS := (zS_k (Lh := Lh) hS).1
  have hwh : w * h ≤ 64 := Nat.mul_le_mul w8 h8
  have ew := fun z : Int32 => zq_ltn z (n := w) (by omega)
  have eh := fun z : Int32 => zq_ltn z (n := h) (by omega)
  obtain ⟨g1, g2, g3, g4⟩ := zf_dxy1 hd
  intro f
  induction f with
  | zero =>
    intro i x y xI yI b v12 v13 hi e1 e2
    have h9 : ¬ i < 8 := by omega
    rw [zs_63_86]
    simp (disch := omega) only [↓zs_63_0, ↓zs_63_1, ↓zs_63_4, ↓zs_63_5, ↓zs_63_7, ↓zs_63_10, ↓zs_63_11, ↓zs_63_12, ↓zs_63_15, ↓zs_63_18, ↓zs_63_19, ↓zs_63_20, ↓zs_63_23, ↓zs_63_24, ↓zs_63_27, ↓zs_63_28, ↓zs_63_29, ↓zs_63_31, ↓zs_63_32, ↓zs_63_33, ↓zs_63_35, ↓zs_63_38, ↓zs_63_39, ↓zs_63_42, ↓zs_63_43, ↓zs_63_44, ↓zs_63_46, ↓zs_63_47, ↓zs_63_48, ↓zs_63_50, ↓zs_63_51, ↓zs_63_52, ↓zs_63_55, ↓zs_63_56, ↓zs_63_57, ↓zs_63_60, ↓zs_63_62, ↓zs_63_63, ↓zs_63_65, ↓zs_63_66, ↓zs_63_67, ↓zs_63_70, ↓zs_63_71, ↓zs_63_72, ↓zs_63_75, ↓zs_63_77, ↓zs_63_78, ↓zs_63_80, ↓zs_63_81, ↓zs_63_83, ↓zs_63_84, ↓zs_63_88, ↓zs_63_90, ↓zs_63_93, ↓zs_63_95, ↓zs_63_98, ↓zs_63_100, ↓zs_63_101, ↓zs_63_104, ↓zs_63_107, ↓zs_63_109, ↓zs_63_112, ↓zs_63_114, ↓zs_63_115, ↓zs_63_118, ↓zs_63_121, ↓zs_63_122, ↓zs_63_123, ↓zs_63_126, ↓zs_63_128, ↓zs_63_129, ↓zs_63_131, ↓zs_63_132, ↓zs_63_133, ↓zs_63_135, ↓zs_63_136, ↓zs_63_138, ↓zs_63_139, ↓zs_63_140, ↓zs_63_141, ↓zs_63_144, ↓zs_63_146, ↓zs_63_147, ↓zs_63_149, ↓zs_63_151, ↓zs_63_152, ↓zs_63_154, ↓zs_63_156, ↓zs_63_158, ↓zs_63_159, ↓zs_63_161, ↓zs_63_163, ↓zs_63_165, ↓zs_63_166, ↓zs_63_168, ↓zs_63_171, ↓zs_63_174, ↓zs_63_176, zx_pu_s, zx_pu_n, zx_rv_s, zx_rv_n, true_and, and_true, true_or, or_true, zb_0, zb_1, zq_lcl, zq_lcg, zq_lce, eq_self, ite_true, ite_false, zn_10, zn_40, zn_040, zn_340, nI_add, zin_nI, nI_clamp, nI_ltI, nI_eq, pk_mul, nI_l, h9]
    rfl
  | succ f ih =>
    intro i x y xI yI b v12 v13 hi e1 e2
    have h9 : i < 8 := by omega
    cases e : zf_at w h x y with
    | none =>
      have hn := zf_at_none e
      rw [zf_walk_n e, zs_63_86]
      by_cases c1 : x < 0
      · simp (disch := omega) only [↓zs_63_0, ↓zs_63_1, ↓zs_63_4, ↓zs_63_5, ↓zs_63_7, ↓zs_63_10, ↓zs_63_11, ↓zs_63_12, ↓zs_63_15, ↓zs_63_18, ↓zs_63_19, ↓zs_63_20, ↓zs_63_23, ↓zs_63_24, ↓zs_63_27, ↓zs_63_28, ↓zs_63_29, ↓zs_63_31, ↓zs_63_32, ↓zs_63_33, ↓zs_63_35, ↓zs_63_38, ↓zs_63_39, ↓zs_63_42, ↓zs_63_43, ↓zs_63_44, ↓zs_63_46, ↓zs_63_47, ↓zs_63_48, ↓zs_63_50, ↓zs_63_51, ↓zs_63_52, ↓zs_63_55, ↓zs_63_56, ↓zs_63_57, ↓zs_63_60, ↓zs_63_62, ↓zs_63_63, ↓zs_63_65, ↓zs_63_66, ↓zs_63_67, ↓zs_63_70, ↓zs_63_71, ↓zs_63_72, ↓zs_63_75, ↓zs_63_77, ↓zs_63_78, ↓zs_63_80, ↓zs_63_81, ↓zs_63_83, ↓zs_63_84, ↓zs_63_88, ↓zs_63_90, ↓zs_63_93, ↓zs_63_95, ↓zs_63_98, ↓zs_63_100, ↓zs_63_101, ↓zs_63_104, ↓zs_63_107, ↓zs_63_109, ↓zs_63_112, ↓zs_63_114, ↓zs_63_115, ↓zs_63_118, ↓zs_63_121, ↓zs_63_122, ↓zs_63_123, ↓zs_63_126, ↓zs_63_128, ↓zs_63_129, ↓zs_63_131, ↓zs_63_132, ↓zs_63_133, ↓zs_63_135, ↓zs_63_136, ↓zs_63_138, ↓zs_63_139, ↓zs_63_140, ↓zs_63_141, ↓zs_63_144, ↓zs_63_146, ↓zs_63_147, ↓zs_63_149, ↓zs_63_151, ↓zs_63_152, ↓zs_63_154, ↓zs_63_156, ↓zs_63_158, ↓zs_63_159, ↓zs_63_161, ↓zs_63_163, ↓zs_63_165, ↓zs_63_166, ↓zs_63_168, ↓zs_63_171, ↓zs_63_174, ↓zs_63_176, zx_pu_s, zx_pu_n, zx_rv_s, zx_rv_n, true_and, and_true, true_or, or_true, zb_0, zb_1, zq_lcl, zq_lcg, zq_lce, eq_self, ite_true, ite_false, nI_ltI, h9, zq_lt0, e1, c1]
      · by_cases c2 : x < w
        · by_cases c3 : y < 0
          · simp (disch := omega) only [↓zs_63_0, ↓zs_63_1, ↓zs_63_4, ↓zs_63_5, ↓zs_63_7, ↓zs_63_10, ↓zs_63_11, ↓zs_63_12, ↓zs_63_15, ↓zs_63_18, ↓zs_63_19, ↓zs_63_20, ↓zs_63_23, ↓zs_63_24, ↓zs_63_27, ↓zs_63_28, ↓zs_63_29, ↓zs_63_31, ↓zs_63_32, ↓zs_63_33, ↓zs_63_35, ↓zs_63_38, ↓zs_63_39, ↓zs_63_42, ↓zs_63_43, ↓zs_63_44, ↓zs_63_46, ↓zs_63_47, ↓zs_63_48, ↓zs_63_50, ↓zs_63_51, ↓zs_63_52, ↓zs_63_55, ↓zs_63_56, ↓zs_63_57, ↓zs_63_60, ↓zs_63_62, ↓zs_63_63, ↓zs_63_65, ↓zs_63_66, ↓zs_63_67, ↓zs_63_70, ↓zs_63_71, ↓zs_63_72, ↓zs_63_75, ↓zs_63_77, ↓zs_63_78, ↓zs_63_80, ↓zs_63_81, ↓zs_63_83, ↓zs_63_84, ↓zs_63_88, ↓zs_63_90, ↓zs_63_93, ↓zs_63_95, ↓zs_63_98, ↓zs_63_100, ↓zs_63_101, ↓zs_63_104, ↓zs_63_107, ↓zs_63_109, ↓zs_63_112, ↓zs_63_114, ↓zs_63_115, ↓zs_63_118, ↓zs_63_121, ↓zs_63_122, ↓zs_63_123, ↓zs_63_126, ↓zs_63_128, ↓zs_63_129, ↓zs_63_131, ↓zs_63_132, ↓zs_63_133, ↓zs_63_135, ↓zs_63_136, ↓zs_63_138, ↓zs_63_139, ↓zs_63_140, ↓zs_63_141, ↓zs_63_144, ↓zs_63_146, ↓zs_63_147, ↓zs_63_149, ↓zs_63_151, ↓zs_63_152, ↓zs_63_154, ↓zs_63_156, ↓zs_63_158, ↓zs_63_159, ↓zs_63_161, ↓zs_63_163, ↓zs_63_165, ↓zs_63_166, ↓zs_63_168, ↓zs_63_171, ↓zs_63_174, ↓zs_63_176, zx_pu_s, zx_pu_n, zx_rv_s, zx_rv_n, true_and, and_true, true_or, or_true, zb_0, zb_1, zq_lcl, zq_lcg, zq_lce, eq_self, ite_true, ite_false, nI_ltI, h9, zq_lt0, ew, e1, e2, c1, c2, c3, kS, hw]
          · have c4 : ¬ y < h := by omega
            simp (disch := omega) only [↓zs_63_0, ↓zs_63_1, ↓zs_63_4, ↓zs_63_5, ↓zs_63_7, ↓zs_63_10, ↓zs_63_11, ↓zs_63_12, ↓zs_63_15, ↓zs_63_18, ↓zs_63_19, ↓zs_63_20, ↓zs_63_23, ↓zs_63_24, ↓zs_63_27, ↓zs_63_28, ↓zs_63_29, ↓zs_63_31, ↓zs_63_32, ↓zs_63_33, ↓zs_63_35, ↓zs_63_38, ↓zs_63_39, ↓zs_63_42, ↓zs_63_43, ↓zs_63_44, ↓zs_63_46, ↓zs_63_47, ↓zs_63_48, ↓zs_63_50, ↓zs_63_51, ↓zs_63_52, ↓zs_63_55, ↓zs_63_56, ↓zs_63_57, ↓zs_63_60, ↓zs_63_62, ↓zs_63_63, ↓zs_63_65, ↓zs_63_66, ↓zs_63_67, ↓zs_63_70, ↓zs_63_71, ↓zs_63_72, ↓zs_63_75, ↓zs_63_77, ↓zs_63_78, ↓zs_63_80, ↓zs_63_81, ↓zs_63_83, ↓zs_63_84, ↓zs_63_88, ↓zs_63_90, ↓zs_63_93, ↓zs_63_95, ↓zs_63_98, ↓zs_63_100, ↓zs_63_101, ↓zs_63_104, ↓zs_63_107, ↓zs_63_109, ↓zs_63_112, ↓zs_63_114, ↓zs_63_115, ↓zs_63_118, ↓zs_63_121, ↓zs_63_122, ↓zs_63_123, ↓zs_63_126, ↓zs_63_128, ↓zs_63_129, ↓zs_63_131, ↓zs_63_132, ↓zs_63_133, ↓zs_63_135, ↓zs_63_136, ↓zs_63_138, ↓zs_63_139, ↓zs_63_140, ↓zs_63_141, ↓zs_63_144, ↓zs_63_146, ↓zs_63_147, ↓zs_63_149, ↓zs_63_151, ↓zs_63_152, ↓zs_63_154, ↓zs_63_156, ↓zs_63_158, ↓zs_63_159, ↓zs_63_161, ↓zs_63_163, ↓zs_63_165, ↓zs_63_166, ↓zs_63_168, ↓zs_63_171, ↓zs_63_174, ↓zs_63_176, zx_pu_s, zx_pu_n, zx_rv_s, zx_rv_n, true_and, and_true, true_or, or_true, zb_0, zb_1, zq_lcl, zq_lcg, zq_lce, eq_self, ite_true, ite_false, nI_ltI, h9, zq_lt0, ew, eh, e1, e2, c1, c2, c3, c4, kS, hw, hh]
        · simp (disch := omega) only [↓zs_63_0, ↓zs_63_1, ↓zs_63_4, ↓zs_63_5, ↓zs_63_7, ↓zs_63_10, ↓zs_63_11, ↓zs_63_12, ↓zs_63_15, ↓zs_63_18, ↓zs_63_19, ↓zs_63_20, ↓zs_63_23, ↓zs_63_24, ↓zs_63_27, ↓zs_63_28, ↓zs_63_29, ↓zs_63_31, ↓zs_63_32, ↓zs_63_33, ↓zs_63_35, ↓zs_63_38, ↓zs_63_39, ↓zs_63_42, ↓zs_63_43, ↓zs_63_44, ↓zs_63_46, ↓zs_63_47, ↓zs_63_48, ↓zs_63_50, ↓zs_63_51, ↓zs_63_52, ↓zs_63_55, ↓zs_63_56, ↓zs_63_57, ↓zs_63_60, ↓zs_63_62, ↓zs_63_63, ↓zs_63_65, ↓zs_63_66, ↓zs_63_67, ↓zs_63_70, ↓zs_63_71, ↓zs_63_72, ↓zs_63_75, ↓zs_63_77, ↓zs_63_78, ↓zs_63_80, ↓zs_63_81, ↓zs_63_83, ↓zs_63_84, ↓zs_63_88, ↓zs_63_90, ↓zs_63_93, ↓zs_63_95, ↓zs_63_98, ↓zs_63_100, ↓zs_63_101, ↓zs_63_104, ↓zs_63_107, ↓zs_63_109, ↓zs_63_112, ↓zs_63_114, ↓zs_63_115, ↓zs_63_118, ↓zs_63_121, ↓zs_63_122, ↓zs_63_123, ↓zs_63_126, ↓zs_63_128, ↓zs_63_129, ↓zs_63_131, ↓zs_63_132, ↓zs_63_133, ↓zs_63_135, ↓zs_63_136, ↓zs_63_138, ↓zs_63_139, ↓zs_63_140, ↓zs_63_141, ↓zs_63_144, ↓zs_63_146, ↓zs_63_147, ↓zs_63_149, ↓zs_63_151, ↓zs_63_152, ↓zs_63_154, ↓zs_63_156, ↓zs_63_158, ↓zs_63_159, ↓zs_63_161, ↓zs_63_163, ↓zs_63_165, ↓zs_63_166, ↓zs_63_168, ↓zs_63_171, ↓zs_63_174, ↓zs_63_176, zx_pu_s, zx_pu_n, zx_rv_s, zx_rv_n, true_and, and_true, true_or, or_true, zb_0, zb_1, zq_lcl, zq_lcg, zq_lce, eq_self, ite_true, ite_false, nI_ltI, h9, zq_lt0, ew, e1, e2, c1, c2, kS, hw]
    | some k =>
      obtain ⟨a1, a2, a3, a4, ek, ex, ey, hk⟩ := zf_at_some e
      obtain rfl : xI = nI x.toNat := Int32.toInt_inj.mp (by rw [e1, nI_toInt (by omega)]; omega)
      obtain rfl : yI = nI y.toNat := Int32.toInt_inj.mp (by rw [e2, nI_toInt (by omega)]; omega)
      have b1 : x.toNat < w := by omega
      have b2 : y.toNat < h := by omega
      have n1 : (nI x.toNat + dX).toInt = x + zf_dx dr := zq_addI e1 eX (by omega) (by omega)
      have n2 : (nI y.toNat + dY).toInt = y + zf_dy dr := zq_addI e2 eY (by omega) (by omega)
      have eo : lN 1 <<< ((nI k).toInt64 &&& 63) = zf_one k := rfl
      rw [zs_63_86]
      cases t1 : zf_bit t k with
      | true =>
        rw [zf_walk_t e t1]
        simp (disch := omega) only [↓zs_63_0, ↓zs_63_1, ↓zs_63_4, ↓zs_63_5, ↓zs_63_7, ↓zs_63_10, ↓zs_63_11, ↓zs_63_12, ↓zs_63_15, ↓zs_63_18, ↓zs_63_19, ↓zs_63_20, ↓zs_63_23, ↓zs_63_24, ↓zs_63_27, ↓zs_63_28, ↓zs_63_29, ↓zs_63_31, ↓zs_63_32, ↓zs_63_33, ↓zs_63_35, ↓zs_63_38, ↓zs_63_39, ↓zs_63_42, ↓zs_63_43, ↓zs_63_44, ↓zs_63_46, ↓zs_63_47, ↓zs_63_48, ↓zs_63_50, ↓zs_63_51, ↓zs_63_52, ↓zs_63_55, ↓zs_63_56, ↓zs_63_57, ↓zs_63_60, ↓zs_63_62, ↓zs_63_63, ↓zs_63_65, ↓zs_63_66, ↓zs_63_67, ↓zs_63_70, ↓zs_63_71, ↓zs_63_72, ↓zs_63_75, ↓zs_63_77, ↓zs_63_78, ↓zs_63_80, ↓zs_63_81, ↓zs_63_83, ↓zs_63_84, ↓zs_63_88, ↓zs_63_90, ↓zs_63_93, ↓zs_63_95, ↓zs_63_98, ↓zs_63_100, ↓zs_63_101, ↓zs_63_104, ↓zs_63_107, ↓zs_63_109, ↓zs_63_112, ↓zs_63_114, ↓zs_63_115, ↓zs_63_118, ↓zs_63_121, ↓zs_63_122, ↓zs_63_123, ↓zs_63_126, ↓zs_63_128, ↓zs_63_129, ↓zs_63_131, ↓zs_63_132, ↓zs_63_133, ↓zs_63_135, ↓zs_63_136, ↓zs_63_138, ↓zs_63_139, ↓zs_63_140, ↓zs_63_141, ↓zs_63_144, ↓zs_63_146, ↓zs_63_147, ↓zs_63_149, ↓zs_63_151, ↓zs_63_152, ↓zs_63_154, ↓zs_63_156, ↓zs_63_158, ↓zs_63_159, ↓zs_63_161, ↓zs_63_163, ↓zs_63_165, ↓zs_63_166, ↓zs_63_168, ↓zs_63_171, ↓zs_63_174, ↓zs_63_176, zx_pu_s, zx_pu_n, zx_rv_s, zx_rv_n, true_and, and_true, true_or, or_true, zb_0, zb_1, zq_lcl, zq_lcg, zq_lce, eq_self, ite_true, ite_false, nI_ltI, pk_mul, nI_add, h9, zn_lt0, b1, b2, kS, hw, hh, ← ek, eo, zt_andone, t1, reduceCtorEq]
      | false =>
        rw [zf_walk_f e t1]
        simp (disch := omega) only [↓zs_63_0, ↓zs_63_1, ↓zs_63_4, ↓zs_63_5, ↓zs_63_7, ↓zs_63_10, ↓zs_63_11, ↓zs_63_12, ↓zs_63_15, ↓zs_63_18, ↓zs_63_19, ↓zs_63_20, ↓zs_63_23, ↓zs_63_24, ↓zs_63_27, ↓zs_63_28, ↓zs_63_29, ↓zs_63_31, ↓zs_63_32, ↓zs_63_33, ↓zs_63_35, ↓zs_63_38, ↓zs_63_39, ↓zs_63_42, ↓zs_63_43, ↓zs_63_44, ↓zs_63_46, ↓zs_63_47, ↓zs_63_48, ↓zs_63_50, ↓zs_63_51, ↓zs_63_52, ↓zs_63_55, ↓zs_63_56, ↓zs_63_57, ↓zs_63_60, ↓zs_63_62, ↓zs_63_63, ↓zs_63_65, ↓zs_63_66, ↓zs_63_67, ↓zs_63_70, ↓zs_63_71, ↓zs_63_72, ↓zs_63_75, ↓zs_63_77, ↓zs_63_78, ↓zs_63_80, ↓zs_63_81, ↓zs_63_83, ↓zs_63_84, ↓zs_63_88, ↓zs_63_90, ↓zs_63_93, ↓zs_63_95, ↓zs_63_98, ↓zs_63_100, ↓zs_63_101, ↓zs_63_104, ↓zs_63_107, ↓zs_63_109, ↓zs_63_112, ↓zs_63_114, ↓zs_63_115, ↓zs_63_118, ↓zs_63_121, ↓zs_63_122, ↓zs_63_123, ↓zs_63_126, ↓zs_63_128, ↓zs_63_129, ↓zs_63_131, ↓zs_63_132, ↓zs_63_133, ↓zs_63_135, ↓zs_63_136, ↓zs_63_138, ↓zs_63_139, ↓zs_63_140, ↓zs_63_141, ↓zs_63_144, ↓zs_63_146, ↓zs_63_147, ↓zs_63_149, ↓zs_63_151, ↓zs_63_152, ↓zs_63_154, ↓zs_63_156, ↓zs_63_158, ↓zs_63_159, ↓zs_63_161, ↓zs_63_163, ↓zs_63_165, ↓zs_63_166, ↓zs_63_168, ↓zs_63_171, ↓zs_63_174, ↓zs_63_176, zx_pu_s, zx_pu_n, zx_rv_s, zx_rv_n, true_and, and_true, true_or, or_true, zb_0, zb_1, zq_lcl, zq_lcg, zq_lce, eq_self, ite_true, ite_false, nI_ltI, pk_mul, nI_add, h9, zn_lt0, b1, b2, kS, hw, hh, ← ek, eo, zt_andone, t1, nI_1]
        exact ih (i + 1) _ _ _ _ _ _ _ (by omega) n1 n2
theorem sc_lookT {S T s : Nat} {B : Nat → Int32} (t : Int64) (hS : zx_sq S) (hT : zx_st T) (si : zx_SI I) (hs : s < 8) (hw : I S 6 = nI w) (hh : I S 7 = nI h) (rel : zR_st I T B) (ok : zM_ok B w h N) : zx_rn (d + 2) 63 [.ref S, .ref T, .int (nI s), .long t] (zx_LL Lh) I J P = P (some (.long (zf_lookT B w h (zf_bit t) s).1)) (zx_LL Lh) I J := by
  obtain ⟨k0, k1, k2, k3⟩ := zT_k (Lh := Lh) hT
  obtain ⟨q0, q1, q2⟩ := zT_q (Lh := Lh) hT
  have kS := (zS_k (Lh := Lh) hS).1
  have hs' : ¬ s < 0 := by omega
  have hates := fun P => sc_hatesB (d := d) (Lh := Lh) (J := J) (P := P) hT hs rel ok
  rw [ze_63]
  unfold zf_lookT
  by_cases hf : zf_hasFoe B s = true
  · obtain ⟨f, p, q, hf8, hp, hq, i1, i2, i3⟩ := zM_hasFoe ok hs hf
    obtain ⟨dr, hd, i4⟩ := (ok.2 s hs).2.2.1
    have w8 : w ≤ 8 := ok.1.2.2.2.1
    have h8 : h ≤ 8 := ok.1.2.2.2.2.1
    have hwh : w * h ≤ 64 := Nat.mul_le_mul w8 h8
    have w0 : 0 < w := Nat.pos_of_ne_zero (fun e => by rw [e, Nat.zero_mul] at hp; omega)
    have j2 : I (T + 1) s = nI p := (rel.2 s hs).1.trans i2
    have j4 : I (T + 2) s = nI dr := (rel.2 s hs).2.1.trans i4
    have c1 := fun d P => sc_columnOf (d := d) (Lh := Lh) (J := J) (P := P) (p := p) hS hw w0 w8 (by omega)
    have c3 := fun d P => sc_rowOf (d := d) (Lh := Lh) (J := J) (P := P) (p := p) hS hw w0 w8 (by omega)
    have x1 := zx_SI_x si hd
    have y1 := zx_SI_y si hd
    have m1 := Nat.mod_lt p w0
    have m2 := Nat.div_lt_of_lt_mul hp
    obtain ⟨g1, g2, g3, g4⟩ := zf_dxy1 hd
    have z1 := Int.natCast_nonneg (p % w)
    have z2 := Int.natCast_nonneg (p / w)
    have n1 : (nI (p % w) + I 5001 dr).toInt = ((p % w : Nat) : Int) + zf_dx dr := zq_addI (nI_toInt (by omega)) x1 (by omega) (by omega)
    have n2 : (nI (p / w) + I 5002 dr).toInt = ((p / w : Nat) : Int) + zf_dy dr := zq_addI (nI_toInt (by omega)) y1 (by omega) (by omega)
    simp (disch := omega) only [↓zs_63_0, ↓zs_63_1, ↓zs_63_4, ↓zs_63_5, ↓zs_63_7, ↓zs_63_10, ↓zs_63_11, ↓zs_63_12, ↓zs_63_15, ↓zs_63_18, ↓zs_63_19, ↓zs_63_20, ↓zs_63_23, ↓zs_63_24, ↓zs_63_27, ↓zs_63_28, ↓zs_63_29, ↓zs_63_31, ↓zs_63_32, ↓zs_63_33, ↓zs_63_35, ↓zs_63_38, ↓zs_63_39, ↓zs_63_42, ↓zs_63_43, ↓zs_63_44, ↓zs_63_46, ↓zs_63_47, ↓zs_63_48, zx_pu_s, zx_pu_n, zx_rv_s, zx_rv_n, true_and, and_true, true_or, or_true, zb_0, zb_1, zq_lcl, zq_lcg, zq_lce, eq_self, ite_true, ite_false, zin_nI, nI_clamp, nI_ltI, zn_lt0, hs, hates, zB_0, hf, reduceCtorEq, k0, k2, q1, zk_5001, zk_5002, j4, zq_and7]
    simp (disch := omega) only [↓zs_63_50, ↓zs_63_51, ↓zs_63_52, ↓zs_63_55, ↓zs_63_56, ↓zs_63_57, ↓zs_63_60, ↓zs_63_62, ↓zs_63_63, ↓zs_63_65, ↓zs_63_66, ↓zs_63_67, ↓zs_63_70, ↓zs_63_71, ↓zs_63_72, ↓zs_63_75, ↓zs_63_77, ↓zs_63_78, ↓zs_63_80, ↓zs_63_81, ↓zs_63_83, ↓zs_63_84, zx_pu_s, zx_pu_n, zx_rv_s, zx_rv_n, true_and, and_true, true_or, or_true, zb_0, zb_1, zq_lcl, zq_lcg, zq_lce, eq_self, ite_true, ite_false, zin_nI, nI_clamp, k0, k1, q0, kS, j2, c1, c3]
    rw [sc_look_loop hS hd hw hh w8 h8 x1 y1 8 0 _ _ _ _ _ _ _ rfl n1 n2, i2, i4, zf_nat, zf_nat, nI_clamp (by omega), nI_clamp (by omega)]
  · rw [Bool.not_eq_true] at hf
    simp (disch := omega) only [↓zs_63_0, ↓zs_63_1, ↓zs_63_4, ↓zs_63_5, ↓zs_63_7, ↓zs_63_10, ↓zs_63_11, ↓zs_63_12, ↓zs_63_15, ↓zs_63_18, ↓zs_63_19, ↓zs_63_20, ↓zs_63_23, ↓zs_63_24, ↓zs_63_27, ↓zs_63_28, ↓zs_63_29, ↓zs_63_31, ↓zs_63_32, ↓zs_63_33, ↓zs_63_35, ↓zs_63_38, ↓zs_63_39, ↓zs_63_42, ↓zs_63_43, ↓zs_63_44, ↓zs_63_46, ↓zs_63_47, ↓zs_63_48, zx_pu_s, zx_pu_n, zx_rv_s, zx_rv_n, true_and, and_true, true_or, or_true, zb_0, zb_1, zq_lcl, zq_lcg, zq_lce, eq_self, ite_true, ite_false, nI_ltI, zn_lt0, hs, hates, zB_0, hf, reduceCtorEq, k0]
theorem zf_lookT_eq {B : Nat → Int32} {tk tk2 : Nat → Bool} (hk : ∀ k, k < w * h → tk k = tk2 k) (s : Nat) : zf_lookT B w h tk s = zf_lookT B w h tk2 s := by
  have hw : ∀ (f : Nat) (dx dy x y : Int) (b : Int64), zf_walk w h dx dy tk f x y b = zf_walk w h dx dy tk2 f x y b := by
    intro f
    induction f with
    | zero => intro dx dy x y b; rfl
    | succ f ih =>
      intro dx dy x y b
      cases e : zf_at w h x y with
      | none => rw [zf_walk_n e, zf_walk_n e]
      | some k =>
        have hk2 := hk k (zf_at_some e).2.2.2.2.2.2.2
        cases t : tk k with
        | true => rw [zf_walk_t e t, zf_walk_t e (hk2 ▸ t)]
        | false => rw [zf_walk_f e t, zf_walk_f e (hk2 ▸ t), ih]
  unfold zf_lookT
  rw [hw]
end CL
