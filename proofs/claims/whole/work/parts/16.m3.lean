/-! the STATUES as they stand: numbers that a square may hold -/
/-- a cell holds none, or a number below n -/
def zf_opt (x : Int32) (n : Nat) : Prop := x = -1 ∨ ∃ k, k < n ∧ x = nI k
/-- the model's square w by h with N STATUES: all that the STANDING needs -/
def zM_ok (B : Nat → Int32) (w h N : Nat) : Prop :=
  (B 1 = nI w ∧ B 2 = nI h ∧ B 3 = nI N ∧ w ≤ 8 ∧ h ≤ 8 ∧ N ≤ 8) ∧
  ∀ s, s < 8 → zf_opt (B (109 + s)) (w * h) ∧ zf_opt (B (125 + s)) 8 ∧ (∃ k, k < 8 ∧ B (117 + s) = nI k) ∧ (N ≤ s → B (109 + s) = -1)
/-- the DIRECTION that a way dx, dy lies in -/
def zf_tow (dx dy : Int32) : Int32 :=
  if nI 2 * zf_far dy < zf_far dx then (if nI 0 < dx then nI 2 else nI 6)
  else if nI 2 * zf_far dx < zf_far dy then (if nI 0 < dy then nI 4 else nI 0)
  else if nI 0 < dx then (if nI 0 < dy then nI 3 else nI 1) else (if nI 0 < dy then nI 5 else nI 7)
/-- the same from a STONE to a STONE -/
def zf_from (w p q : Nat) : Int32 := zf_tow (nI (q % w) - nI (p % w)) (nI (q / w) - nI (p / w))
def zf_nat (x : Int32) : Nat := x.toNatClampNeg
/-- the DIRECTION in which a STATUE's FOE is -/
def zf_to (B : Nat → Int32) (w s : Nat) : Int32 :=
  if zf_hasFoe B s = true then zf_from w (zf_nat (B (109 + s))) (zf_nat (B (109 + zf_nat (B (125 + s))))) else -1
theorem zf_towP (Q : Int32 → Prop) (dx dy : Int32) : (if nI 2 * zf_far dy < zf_far dx then (if nI 0 < dx then Q (nI 2) else Q (nI 6))
  else if nI 2 * zf_far dx < zf_far dy then (if nI 0 < dy then Q (nI 4) else Q (nI 0))
  else if nI 0 < dx then (if nI 0 < dy then Q (nI 3) else Q (nI 1)) else (if nI 0 < dy then Q (nI 5) else Q (nI 7))) = Q (zf_tow dx dy) := by
  unfold zf_tow
  repeat' split
  all_goals rfl
theorem zf_tow8 (dx dy : Int32) : ∃ k, k < 8 ∧ zf_tow dx dy = nI k := by
  unfold zf_tow
  repeat' split
  · exact ⟨2, by omega, rfl⟩
  · exact ⟨6, by omega, rfl⟩
  · exact ⟨4, by omega, rfl⟩
  · exact ⟨0, by omega, rfl⟩
  · exact ⟨3, by omega, rfl⟩
  · exact ⟨1, by omega, rfl⟩
  · exact ⟨5, by omega, rfl⟩
  · exact ⟨7, by omega, rfl⟩
theorem zf_to8 (B : Nat → Int32) (w s : Nat) : zf_opt (zf_to B w s) 8 := by
  unfold zf_to
  split
  · exact .inr (zf_tow8 _ _)
  · exact .inl rfl
theorem zq_rem (a w : Nat) : nI a - nI (a / w * w) = nI (a % w) := by
  rw [pk_sub (Nat.div_mul_le_self a w)]
  congr 1
  have := Nat.div_add_mod' a w
  omega
section M3
variable {d Lh w h N : Nat} {I : zx_MI} {J : zx_MJ} {P : Option Value → zx_Lay → zx_MI → zx_MJ → Prop}
theorem zM_foe {B : Nat → Int32} {s : Nat} (ok : zM_ok B w h N) (hs : s < 8) : B (125 + s) = -1 ∨ ∃ f, f < 8 ∧ B (125 + s) = nI f := (ok.2 s hs).2.1
theorem zM_hasFoe {B : Nat → Int32} {s : Nat} (ok : zM_ok B w h N) (hs : s < 8) (hf : zf_hasFoe B s = true) : ∃ f p q, f < 8 ∧ p < w * h ∧ q < w * h ∧ B (125 + s) = nI f ∧ B (109 + s) = nI p ∧ B (109 + f) = nI q := by
  unfold zf_hasFoe at hf
  rw [Bool.and_eq_true, Bool.and_eq_true, Bool.not_eq_true', Bool.not_eq_true', Bool.not_eq_true', decide_eq_false_iff_not, decide_eq_false_iff_not, decide_eq_false_iff_not] at hf
  obtain ⟨⟨h1, h2⟩, h3⟩ := hf
  obtain ⟨a, b, c⟩ := ok.2 s hs
  rcases b with b | ⟨f, hf8, b⟩
  · exact absurd b h2
  rcases a with a | ⟨p, hp, a⟩
  · exact absurd a h1
  rw [b, nI_clamp (by omega)] at h3
  rcases (ok.2 f hf8).1 with e | ⟨q, hq, e⟩
  · exact absurd e h3
  exact ⟨f, p, q, hf8, hp, hq, b, a, e⟩
theorem sp_towardsOf {s : Nat} (hs : s < 8) (ok : zM_ok (I 139) w h N) : zx_rn (d + 2) 190 [.ref 138, .int (nI s)] (zx_LL Lh) I J P = P (some (.int (zf_to (I 139) w s))) (zx_LL Lh) I J := by
  rw [ze_190]
  have hh := fun P => sp_hasFoe (d := d) (Lh := Lh) (I := I) (J := J) (P := P) hs (zM_foe ok hs)
  unfold zf_to
  by_cases hf : zf_hasFoe (I 139) s = true
  · obtain ⟨f, p, q, hf8, hp, hq, e1, e2, e3⟩ := zM_hasFoe ok hs hf
    have hw : I 139 1 = nI w := ok.1.1
    have w8 : w ≤ 8 := ok.1.2.2.2.1
    have h8 : h ≤ 8 := ok.1.2.2.2.2.1
    have hwh : w * h ≤ 64 := Nat.mul_le_mul w8 h8
    have w0 : 0 < w := Nat.pos_of_ne_zero (fun e => by rw [e, Nat.zero_mul] at hp; omega)
    have w00 : ¬ nI w = 0 := nI_ne0 w0 (by omega)
    simp (disch := omega) only [↓zs_190_0, ↓zs_190_1, ↓zs_190_2, ↓zs_190_5, ↓zs_190_8, ↓zs_190_9, ↓zs_190_10, ↓zs_190_11, ↓zs_190_14, ↓zs_190_16, ↓zs_190_17, ↓zs_190_20, ↓zs_190_22, ↓zs_190_23, ↓zs_190_24, ↓zs_190_25, ↓zs_190_26, ↓zs_190_27, ↓zs_190_28, ↓zs_190_29, ↓zs_190_30, ↓zs_190_33, ↓zs_190_34, ↓zs_190_35, ↓zs_190_36, ↓zs_190_37, ↓zs_190_40, ↓zs_190_42, ↓zs_190_43, ↓zs_190_44, ↓zs_190_45, ↓zs_190_46, ↓zs_190_49, ↓zs_190_50, ↓zs_190_51, ↓zs_190_52, ↓zs_190_53, zx_pu_s, zx_pu_n, zx_rv_s, zx_rv_n, true_and, and_true, true_or, or_true, zb_0, zb_1, zq_lcl, zq_lcg, zq_lce, eq_self, ite_true, ite_false, zk_138, zw_138, zk_139, zw_139, zk_140, zw_140, zk_141, zw_141, zk_142, zw_142, zk_143, zw_143, zk_144, zw_144, zk_145, zw_145, zk_146, zw_146, zk_147, zw_147, zk_148, zw_148, zk_149, zw_149, zk_150, zw_150, zk_151, zw_151, zk_152, zw_152, zq_138_1, zq_138_2, zq_138_3, zq_138_4, zq_138_16, zq_138_19, zq_138_20, zq_138_24, zq_138_25, zq_138_26, zq_138_27, zq_138_31, zq_138_32, zq_138_33, zn_10, zn_40, zn_040, zn_340, nI_add, zin_nI, nI_clamp, nI_ltI, nI_eq, pk_mul, nI_l, hh, zB_0, hf, reduceCtorEq, e1, e2, e3, hw, w00, not_false_eq_true, pk_div, zq_rem, sp_far]
    simp (disch := omega) only [↓zs_190_54, ↓zs_190_55, ↓zs_190_56, ↓zs_190_59, ↓zs_190_60, ↓zs_190_61, ↓zs_190_62, ↓zs_190_63, ↓zs_190_66, ↓zs_190_68, ↓zs_190_69, ↓zs_190_70, ↓zs_190_71, ↓zs_190_72, ↓zs_190_75, ↓zs_190_76, ↓zs_190_77, ↓zs_190_78, ↓zs_190_79, ↓zs_190_81, ↓zs_190_82, ↓zs_190_85, ↓zs_190_86, ↓zs_190_88, ↓zs_190_91, ↓zs_190_92, ↓zs_190_95, ↓zs_190_96, ↓zs_190_99, ↓zs_190_100, ↓zs_190_103, ↓zs_190_105, ↓zs_190_106, ↓zs_190_108, ↓zs_190_111, ↓zs_190_112, ↓zs_190_113, ↓zs_190_116, ↓zs_190_117, ↓zs_190_120, ↓zs_190_122, ↓zs_190_125, ↓zs_190_126, ↓zs_190_129, ↓zs_190_130, ↓zs_190_131, ↓zs_190_132, ↓zs_190_135, ↓zs_190_137, ↓zs_190_140, ↓zs_190_141, ↓zs_190_144, ↓zs_190_145, ↓zs_190_146, ↓zs_190_148, ↓zs_190_151, ↓zs_190_152, ↓zs_190_155, ↓zs_190_157, zx_pu_s, zx_pu_n, zx_rv_s, zx_rv_n, true_and, and_true, true_or, or_true, zb_0, zb_1, zq_lcl, zq_lcg, zq_lce, eq_self, ite_true, ite_false, zk_138, zw_138, zk_139, zw_139, zk_140, zw_140, zk_141, zw_141, zk_142, zw_142, zk_143, zw_143, zk_144, zw_144, zk_145, zw_145, zk_146, zw_146, zk_147, zw_147, zk_148, zw_148, zk_149, zw_149, zk_150, zw_150, zk_151, zw_151, zk_152, zw_152, zq_138_1, zq_138_2, zq_138_3, zq_138_4, zq_138_16, zq_138_19, zq_138_20, zq_138_24, zq_138_25, zq_138_26, zq_138_27, zq_138_31, zq_138_32, zq_138_33, zn_10, zn_40, zn_040, zn_340, nI_add, zin_nI, nI_clamp, nI_ltI, nI_eq, pk_mul, nI_l, hh, zB_0, hf, reduceCtorEq, e1, e2, e3, hw, w00, not_false_eq_true, pk_div, zq_rem, sp_far]
    rw [zf_nat, zf_nat, zf_nat, nI_clamp (by omega), nI_clamp (by omega), e3, nI_clamp (by omega)]
    exact zf_towP (fun x => P (some (.int x)) (zx_LL Lh) I J) _ _
  · rw [Bool.not_eq_true] at hf
    simp (disch := omega) only [↓zs_190_0, ↓zs_190_1, ↓zs_190_2, ↓zs_190_5, ↓zs_190_8, ↓zs_190_9, ↓zs_190_10, ↓zs_190_11, ↓zs_190_14, ↓zs_190_16, ↓zs_190_17, ↓zs_190_20, ↓zs_190_22, ↓zs_190_23, ↓zs_190_24, ↓zs_190_25, ↓zs_190_26, ↓zs_190_27, ↓zs_190_28, ↓zs_190_29, ↓zs_190_30, ↓zs_190_33, ↓zs_190_34, ↓zs_190_35, ↓zs_190_36, ↓zs_190_37, ↓zs_190_40, ↓zs_190_42, ↓zs_190_43, ↓zs_190_44, ↓zs_190_45, ↓zs_190_46, ↓zs_190_49, ↓zs_190_50, ↓zs_190_51, ↓zs_190_52, ↓zs_190_53, ↓zs_190_54, ↓zs_190_55, ↓zs_190_56, ↓zs_190_59, ↓zs_190_60, ↓zs_190_61, ↓zs_190_62, ↓zs_190_63, ↓zs_190_66, ↓zs_190_68, ↓zs_190_69, ↓zs_190_70, ↓zs_190_71, ↓zs_190_72, ↓zs_190_75, ↓zs_190_76, ↓zs_190_77, ↓zs_190_78, ↓zs_190_79, ↓zs_190_81, ↓zs_190_82, ↓zs_190_85, ↓zs_190_86, ↓zs_190_88, ↓zs_190_91, ↓zs_190_92, ↓zs_190_95, ↓zs_190_96, ↓zs_190_99, ↓zs_190_100, ↓zs_190_103, ↓zs_190_105, ↓zs_190_106, ↓zs_190_108, ↓zs_190_111, ↓zs_190_112, ↓zs_190_113, ↓zs_190_116, ↓zs_190_117, ↓zs_190_120, ↓zs_190_122, ↓zs_190_125, ↓zs_190_126, ↓zs_190_129, ↓zs_190_130, ↓zs_190_131, ↓zs_190_132, ↓zs_190_135, ↓zs_190_137, ↓zs_190_140, ↓zs_190_141, ↓zs_190_144, ↓zs_190_145, ↓zs_190_146, ↓zs_190_148, ↓zs_190_151, ↓zs_190_152, ↓zs_190_155, ↓zs_190_157, zx_pu_s, zx_pu_n, zx_rv_s, zx_rv_n, true_and, and_true, true_or, or_true, zb_0, zb_1, zq_lcl, zq_lcg, zq_lce, eq_self, ite_true, ite_false, zk_138, zw_138, zk_139, zw_139, zk_140, zw_140, zk_141, zw_141, zk_142, zw_142, zk_143, zw_143, zk_144, zw_144, zk_145, zw_145, zk_146, zw_146, zk_147, zw_147, zk_148, zw_148, zk_149, zw_149, zk_150, zw_150, zk_151, zw_151, zk_152, zw_152, zq_138_1, zq_138_2, zq_138_3, zq_138_4, zq_138_16, zq_138_19, zq_138_20, zq_138_24, zq_138_25, zq_138_26, zq_138_27, zq_138_31, zq_138_32, zq_138_33, zn_10, zn_40, zn_040, zn_340, nI_add, zin_nI, nI_clamp, nI_ltI, nI_eq, pk_mul, nI_l, hh, zB_0, hf, reduceCtorEq]
end M3
