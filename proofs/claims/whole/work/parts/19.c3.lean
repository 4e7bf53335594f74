/-! how far a STATUE looks away -/
/-- how many turns clockwise from b to a -/
def zf_cw (a b : Nat) : Nat := (a + 8 - b) % 8
/-- the fewest turns from b to a -/
def zf_by (a b : Nat) : Nat := if 4 < zf_cw a b then 8 - zf_cw a b else zf_cw a b
def zf_off (B : Nat → Int32) (w s : Nat) : Int32 := if zf_to B w s = -1 then nI 0 else nI (zf_by (zf_nat (zf_to B w s)) (zf_nat (B (117 + s))))
theorem zq_cw {a b : Nat} (ha : a < 8) (hb : b < 8) : nI a - nI b + nI 8 = nI (a + 8 - b) := by
  have h : ∀ a : Fin 8, ∀ b : Fin 8, nI a.1 - nI b.1 + nI 8 = nI (a.1 + 8 - b.1) := by decide +kernel
  exact h ⟨a, ha⟩ ⟨b, hb⟩
theorem zq_cw7 {a b : Nat} (ha : a < 8) (hb : b < 8) : (nI a - nI b) &&& nI 7 = nI (zf_cw a b) := by
  have h : ∀ a : Fin 8, ∀ b : Fin 8, (nI a.1 - nI b.1) &&& nI 7 = nI (zf_cw a.1 b.1) := by decide +kernel
  exact h ⟨a, ha⟩ ⟨b, hb⟩
theorem zf_cw8 (a b : Nat) : zf_cw a b < 8 := Nat.mod_lt _ (by omega)
theorem zq_8 : (nI 8 = 0) = False := eq_false (by decide +kernel)
section C3
variable {d Lh w h N : Nat} {I : zx_MI} {J : zx_MJ} {P : Option Value → zx_Lay → zx_MI → zx_MJ → Prop}
theorem sp_offOf {s : Nat} (hs : s < 8) (ok : zM_ok (I 139) w h N) : zx_rn (d + 3) 191 [.ref 138, .int (nI s)] (zx_LL Lh) I J P = P (some (.int (zf_off (I 139) w s))) (zx_LL Lh) I J := by
  rw [ze_191]
  have hh := fun P => sp_towardsOf (d := d) (Lh := Lh) (I := I) (J := J) (P := P) hs ok
  unfold zf_off
  rcases zf_to8 (I 139) w s with e | ⟨a, ha, e⟩
  · rw [if_pos e]
    simp (disch := omega) only [↓zs_191_0, ↓zs_191_1, ↓zs_191_2, ↓zs_191_5, ↓zs_191_6, ↓zs_191_7, ↓zs_191_8, ↓zs_191_11, ↓zs_191_12, ↓zs_191_13, ↓zs_191_14, ↓zs_191_15, ↓zs_191_18, ↓zs_191_20, ↓zs_191_21, ↓zs_191_22, ↓zs_191_23, ↓zs_191_24, ↓zs_191_26, ↓zs_191_27, ↓zs_191_29, ↓zs_191_30, ↓zs_191_31, ↓zs_191_32, ↓zs_191_33, ↓zs_191_36, ↓zs_191_38, ↓zs_191_39, ↓zs_191_40, ↓zs_191_43, ↓zs_191_44, zx_pu_s, zx_pu_n, zx_rv_s, zx_rv_n, true_and, and_true, true_or, or_true, zb_0, zb_1, zq_lcl, zq_lcg, zq_lce, eq_self, ite_true, ite_false, zk_138, zw_138, zk_139, zw_139, zk_140, zw_140, zk_141, zw_141, zk_142, zw_142, zk_143, zw_143, zk_144, zw_144, zk_145, zw_145, zk_146, zw_146, zk_147, zw_147, zk_148, zw_148, zk_149, zw_149, zk_150, zw_150, zk_151, zw_151, zk_152, zw_152, zq_138_1, zq_138_2, zq_138_3, zq_138_4, zq_138_16, zq_138_19, zq_138_20, zq_138_24, zq_138_25, zq_138_26, zq_138_27, zq_138_31, zq_138_32, zq_138_33, zn_10, zn_40, zn_040, zn_340, nI_add, zin_nI, nI_clamp, nI_ltI, nI_eq, pk_mul, nI_l, hh, e]
  · obtain ⟨b, hb, eb⟩ := (ok.2 s hs).2.2.1
    have hc := zf_cw8 a b
    rw [if_neg (by rw [e, zq_m1 (by omega)]; exact fun x => x)]
    simp (disch := omega) only [↓zs_191_0, ↓zs_191_1, ↓zs_191_2, ↓zs_191_5, ↓zs_191_6, ↓zs_191_7, ↓zs_191_8, ↓zs_191_11, ↓zs_191_12, ↓zs_191_13, ↓zs_191_14, ↓zs_191_15, ↓zs_191_18, ↓zs_191_20, ↓zs_191_21, ↓zs_191_22, ↓zs_191_23, ↓zs_191_24, ↓zs_191_26, ↓zs_191_27, ↓zs_191_29, ↓zs_191_30, ↓zs_191_31, ↓zs_191_32, ↓zs_191_33, ↓zs_191_36, ↓zs_191_38, ↓zs_191_39, ↓zs_191_40, ↓zs_191_43, ↓zs_191_44, zx_pu_s, zx_pu_n, zx_rv_s, zx_rv_n, true_and, and_true, true_or, or_true, zb_0, zb_1, zq_lcl, zq_lcg, zq_lce, eq_self, ite_true, ite_false, zk_138, zw_138, zk_139, zw_139, zk_140, zw_140, zk_141, zw_141, zk_142, zw_142, zk_143, zw_143, zk_144, zw_144, zk_145, zw_145, zk_146, zw_146, zk_147, zw_147, zk_148, zw_148, zk_149, zw_149, zk_150, zw_150, zk_151, zw_151, zk_152, zw_152, zq_138_1, zq_138_2, zq_138_3, zq_138_4, zq_138_16, zq_138_19, zq_138_20, zq_138_24, zq_138_25, zq_138_26, zq_138_27, zq_138_31, zq_138_32, zq_138_33, zn_10, zn_40, zn_040, zn_340, nI_add, zin_nI, nI_clamp, nI_ltI, nI_eq, pk_mul, nI_l, hh, e, eb, zq_m1, zq_cw ha hb, zq_8, not_false_eq_true, pk_div, zq_rem]
    rw [show (a + 8 - b) % 8 = zf_cw a b from rfl]
    simp (disch := omega) only [zn_10, zn_40, zn_040, zn_340, nI_add, zin_nI, nI_clamp, nI_ltI, nI_eq, pk_mul, nI_l, zf_nat, zf_by, pk_sub]
    split <;> rfl
theorem sc_offOf {S T s : Nat} {B : Nat → Int32} (hS : zx_sq S) (hT : zx_st T) (hs : s < 8) (hw : I S 6 = nI w) (rel : zR_st I T B) (ok : zM_ok B w h N) : zx_rn (d + 3) 62 [.ref S, .ref T, .int (nI s)] (zx_LL Lh) I J P = P (some (.int (zf_off B w s))) (zx_LL Lh) I J := by
  obtain ⟨k0, k1, k2, k3⟩ := zT_k (Lh := Lh) hT
  obtain ⟨q0, q1, q2⟩ := zT_q (Lh := Lh) hT
  rw [ze_62]
  have hh := fun P => sc_towardsFoe (d := d) (Lh := Lh) (J := J) (P := P) hS hT hs hw rel ok
  have hs' : ¬ s < 0 := by omega
  have kS := (zS_k (Lh := Lh) hS).1
  unfold zf_off
  rcases zf_to8 B w s with e | ⟨a, ha, e⟩
  · rw [if_pos e]
    simp (disch := omega) only [↓zs_62_0, ↓zs_62_1, ↓zs_62_2, ↓zs_62_3, ↓zs_62_6, ↓zs_62_7, ↓zs_62_8, ↓zs_62_9, ↓zs_62_12, ↓zs_62_13, ↓zs_62_16, ↓zs_62_17, ↓zs_62_19, ↓zs_62_22, ↓zs_62_23, ↓zs_62_24, ↓zs_62_25, ↓zs_62_26, ↓zs_62_29, ↓zs_62_30, ↓zs_62_31, ↓zs_62_32, ↓zs_62_34, ↓zs_62_35, ↓zs_62_37, ↓zs_62_39, ↓zs_62_41, ↓zs_62_43, ↓zs_62_44, ↓zs_62_47, zx_pu_s, zx_pu_n, zx_rv_s, zx_rv_n, true_and, and_true, true_or, or_true, zb_0, zb_1, zq_lcl, zq_lcg, zq_lce, eq_self, ite_true, ite_false, zn_10, zn_40, zn_040, zn_340, nI_add, zin_nI, nI_clamp, nI_ltI, nI_eq, pk_mul, nI_l, hh, e, kS]
  · obtain ⟨b, hb, eb⟩ := (ok.2 s hs).2.2.1
    have eb2 : I (T + 2) s = nI b := (rel.2 s hs).2.1.trans eb
    have hc := zf_cw8 a b
    rw [if_neg (by rw [e, zq_m1 (by omega)]; exact fun x => x)]
    simp (disch := omega) only [↓zs_62_0, ↓zs_62_1, ↓zs_62_2, ↓zs_62_3, ↓zs_62_6, ↓zs_62_7, ↓zs_62_8, ↓zs_62_9, ↓zs_62_12, ↓zs_62_13, ↓zs_62_16, ↓zs_62_17, ↓zs_62_19, ↓zs_62_22, ↓zs_62_23, ↓zs_62_24, ↓zs_62_25, ↓zs_62_26, ↓zs_62_29, ↓zs_62_30, ↓zs_62_31, ↓zs_62_32, ↓zs_62_34, ↓zs_62_35, ↓zs_62_37, ↓zs_62_39, ↓zs_62_41, ↓zs_62_43, ↓zs_62_44, ↓zs_62_47, zx_pu_s, zx_pu_n, zx_rv_s, zx_rv_n, true_and, and_true, true_or, or_true, zb_0, zb_1, zq_lcl, zq_lcg, zq_lce, eq_self, ite_true, ite_false, zn_10, zn_40, zn_040, zn_340, nI_add, zin_nI, nI_clamp, nI_ltI, nI_eq, pk_mul, nI_l, hh, e, eb, eb2, kS, k0, k2, q1, hs, hs', zq_m1, zq_cw7 ha hb, pk_sub]
    rw [zf_nat, zf_nat, nI_clamp (by omega), nI_clamp (by omega)]
    unfold zf_by
    by_cases h4 : 4 < zf_cw a b
    · rw [if_pos h4, if_pos (by omega)]
    · rw [if_neg h4, if_neg (by omega)]
end C3
