/-! the STONE beyond a STONE -/
def zf_dx (dr : Nat) : Int := ([0, 1, 1, 1, 0, -1, -1, -1] : List Int).getD dr 0
def zf_dy (dr : Nat) : Int := ([-1, -1, 0, 1, 1, 1, 0, -1] : List Int).getD dr 0
def zf_oI : Option Nat → Int32
  | none => -1
  | some k => nI k
/-- the STONE next to k in DIRECTION dr, if the square has it -/
def zf_bey (w h k dr : Nat) : Option Nat :=
  if (zf_in (((k % w : Nat) : Int) + zf_dx dr) w && zf_in (((k / w : Nat) : Int) + zf_dy dr) h) = true then some (w * (((k / w : Nat) : Int) + zf_dy dr).toNat + (((k % w : Nat) : Int) + zf_dx dr).toNat) else none
theorem zq_dx {a dr : Nat} (ha : a < 8) (hd : dr < 8) : (nI a + zf_ch 3 dr - nI 49).toInt = (a : Int) + zf_dx dr := by
  have h : ∀ a : Fin 8, ∀ b : Fin 8, (nI a.1 + zf_ch 3 b.1 - nI 49).toInt = (a.1 : Int) + zf_dx b.1 := by decide +kernel
  exact h ⟨a, ha⟩ ⟨dr, hd⟩
theorem zq_dy {a dr : Nat} (ha : a < 8) (hd : dr < 8) : (nI a + zf_ch 4 dr - nI 49).toInt = (a : Int) + zf_dy dr := by
  have h : ∀ a : Fin 8, ∀ b : Fin 8, (nI a.1 + zf_ch 4 b.1 - nI 49).toInt = (a.1 : Int) + zf_dy b.1 := by decide +kernel
  exact h ⟨a, ha⟩ ⟨dr, hd⟩
theorem zq_toI {x : Int32} {v : Int} {n : Nat} (h : x.toInt = v) (hv : zf_in v n = true) (hn : n < 2 ^ 31) : x = nI v.toNat := by
  obtain ⟨h1, h2⟩ := zf_inP.mp hv
  apply Int32.toInt_inj.mp
  rw [nI_toInt (by omega), h]; omega
section BY
variable {d Lh w h N : Nat} {I : zx_MI} {J : zx_MJ} {P : Option Value → zx_Lay → zx_MI → zx_MJ → Prop}
theorem sp_beyond {k dr : Nat} (si : zx_SI I) (hw : I 139 1 = nI w) (hh : I 139 2 = nI h) (w0 : 0 < w) (w8 : w ≤ 8) (h8 : h ≤ 8) (hk : k < w * h) (hd : dr < 8) : zx_rn (d + 4) 192 [.ref 138, .int (nI k), .int (nI dr)] (zx_LL Lh) I J P = P (some (.int (zf_oI (zf_bey w h k dr)))) (zx_LL Lh) I J := by
  have l3 : zf_len 3 = 8 := by decide +kernel
  have l4 : zf_len 4 = 8 := by decide +kernel
  have c3 : ∀ P, zx_rn (d + 3) 278 [.ref 5013, .int (nI dr)] (zx_LL Lh) I J P = P (some (.int (zf_ch 3 dr))) (zx_LL Lh) I J := fun P => zl_charAt (i := 3) si (by omega) (by omega)
  have c4 : ∀ P, zx_rn (d + 3) 278 [.ref 5014, .int (nI dr)] (zx_LL Lh) I J P = P (some (.int (zf_ch 4 dr))) (zx_LL Lh) I J := fun P => zl_charAt (i := 4) si (by omega) (by omega)
  have k3 : (zx_LL Lh).1 5013 = (56, 0) := zk_txt (i := 3) (by omega)
  have k4 : (zx_LL Lh).1 5014 = (56, 0) := zk_txt (i := 4) (by omega)
  have hwh : w * h ≤ 64 := Nat.mul_le_mul w8 h8
  have w00 : (nI w = 0) = False := eq_false (nI_ne0 w0 (by omega))
  have hx : k % w < 8 := Nat.lt_of_lt_of_le (Nat.mod_lt _ w0) w8
  have hy : k / w < 8 := Nat.lt_of_lt_of_le (Nat.div_lt_of_lt_mul hk) h8
  have ex := zq_dx hx hd
  have ey := zq_dy hy hd
  rw [ze_192]
  unfold zf_bey
  simp (disch := omega) only [↓zs_192_0, ↓zs_192_1, ↓zs_192_2, ↓zs_192_5, ↓zs_192_6, ↓zs_192_7, ↓zs_192_8, ↓zs_192_10, ↓zs_192_11, ↓zs_192_14, ↓zs_192_15, ↓zs_192_17, ↓zs_192_18, ↓zs_192_19, ↓zs_192_20, ↓zs_192_21, ↓zs_192_24, ↓zs_192_25, ↓zs_192_26, ↓zs_192_27, ↓zs_192_29, ↓zs_192_30, ↓zs_192_33, ↓zs_192_34, ↓zs_192_36, ↓zs_192_37, zx_pu_s, zx_pu_n, zx_rv_s, zx_rv_n, true_and, and_true, true_or, or_true, zb_0, zb_1, zq_lcl, zq_lcg, zq_lce, eq_self, ite_true, ite_false, zk_138, zw_138, zk_139, zw_139, zk_140, zw_140, zk_141, zw_141, zk_142, zw_142, zk_143, zw_143, zk_144, zw_144, zk_145, zw_145, zk_146, zw_146, zk_147, zw_147, zk_148, zw_148, zk_149, zw_149, zk_150, zw_150, zk_151, zw_151, zk_152, zw_152, zq_138_1, zq_138_2, zq_138_3, zq_138_4, zq_138_16, zq_138_19, zq_138_20, zq_138_24, zq_138_25, zq_138_26, zq_138_27, zq_138_31, zq_138_32, zq_138_33, zn_10, zn_40, zn_040, zn_340, nI_add, zin_nI, nI_clamp, nI_ltI, nI_eq, pk_mul, nI_l, hw, w00, not_false_eq_true, pk_div, zq_rem, k3, k4, c3, c4]
  generalize nI (k % w) + zf_ch 3 dr - nI 49 = x at *
  generalize nI (k / w) + zf_ch 4 dr - nI 49 = y at *
  simp (disch := omega) only [↓zs_192_39, ↓zs_192_40, ↓zs_192_41, ↓zs_192_42, ↓zs_192_43, ↓zs_192_46, ↓zs_192_47, ↓zs_192_48, ↓zs_192_49, ↓zs_192_50, ↓zs_192_51, ↓zs_192_54, ↓zs_192_57, ↓zs_192_59, ↓zs_192_60, ↓zs_192_61, ↓zs_192_62, ↓zs_192_65, ↓zs_192_66, ↓zs_192_67, ↓zs_192_68, ↓zs_192_69, ↓zs_192_70, ↓zs_192_73, ↓zs_192_76, ↓zs_192_77, ↓zs_192_80, ↓zs_192_81, ↓zs_192_82, ↓zs_192_84, ↓zs_192_85, ↓zs_192_86, ↓zs_192_87, ↓zs_192_90, ↓zs_192_91, zx_pu_s, zx_pu_n, zx_rv_s, zx_rv_n, true_and, and_true, true_or, or_true, zb_0, zb_1, zq_lcl, zq_lcg, zq_lce, eq_self, ite_true, ite_false, zk_138, zw_138, zk_139, zw_139, zk_140, zw_140, zk_141, zw_141, zk_142, zw_142, zk_143, zw_143, zk_144, zw_144, zk_145, zw_145, zk_146, zw_146, zk_147, zw_147, zk_148, zw_148, zk_149, zw_149, zk_150, zw_150, zk_151, zw_151, zk_152, zw_152, zq_138_1, zq_138_2, zq_138_3, zq_138_4, zq_138_16, zq_138_19, zq_138_20, zq_138_24, zq_138_25, zq_138_26, zq_138_27, zq_138_31, zq_138_32, zq_138_33, zn_10, zn_40, zn_040, zn_340, nI_add, zin_nI, nI_clamp, nI_ltI, nI_eq, pk_mul, nI_l, hw, hh, sp_in, Int32.toInt_toInt64, ex, ey, zB_0, zB_or]
  by_cases h1 : zf_in (((k % w : Nat) : Int) + zf_dx dr) w = true
  · by_cases h2 : zf_in (((k / w : Nat) : Int) + zf_dy dr) h = true
    · rw [zq_toI ex h1 (by omega), zq_toI ey h2 (by omega)]
      simp only [h1, h2, zn_10, zn_40, zn_040, zn_340, nI_add, zin_nI, nI_clamp, nI_ltI, nI_eq, pk_mul, nI_l, Bool.and_true, reduceCtorEq, if_true, if_false, zf_oI]
    · rw [Bool.not_eq_true] at h2
      simp only [h1, h2, Bool.and_false, reduceCtorEq, if_true, if_false, zf_oI]
  · rw [Bool.not_eq_true] at h1
    simp only [h1, Bool.false_and, reduceCtorEq, if_true, if_false, zf_oI]
end BY
