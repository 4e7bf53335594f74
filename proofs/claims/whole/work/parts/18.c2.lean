/-! the class's STANDING against the model's row -/
/-- the STAND in cell T is that of the row B -/
def zR_st (I : zx_MI) (T : Nat) (B : Nat → Int32) : Prop :=
  I T 3 = B 133 ∧ ∀ s, s < 8 → I (T + 1) s = B (109 + s) ∧ I (T + 2) s = B (117 + s) ∧ I (T + 3) s = B (125 + s)
theorem zq_abs (x : Int32) : (if 0 ≤ x then x else 0 - x) = zf_far x := by
  unfold zf_far
  rw [nI_0]
  by_cases hx : 0 ≤ x
  · rw [if_pos hx, if_neg (Int32.not_lt.mpr hx)]
  · rw [if_neg hx, if_pos (Int32.not_le.mp hx), Int32.zero_sub]
section C2
variable {d Lh w h N : Nat} {I : zx_MI} {J : zx_MJ} {P : Option Value → zx_Lay → zx_MI → zx_MJ → Prop}
theorem sc_hatesB {T s : Nat} {B : Nat → Int32} (hT : zx_st T) (hs : s < 8) (rel : zR_st I T B) (ok : zM_ok B w h N) : zx_rn (d + 1) 71 [.ref T, .int (nI s)] (zx_LL Lh) I J P = P (some (.int (zB (zf_hasFoe B s)))) (zx_LL Lh) I J := by
  obtain ⟨e1, e2, e3⟩ := rel.2 s hs
  have hf : zf_opt (I (T + 3) s) 8 := by rw [e3]; exact (ok.2 s hs).2.1
  rw [sc_hates hT hs hf]
  have e : (!decide (I (T + 1) s = -1) && zf_st (I (T + 1)) (I (T + 3) s)) = zf_hasFoe B s := by
    unfold zf_st zf_hasFoe
    rcases (ok.2 s hs).2.1 with b | ⟨f, hf8, b⟩
    · simp only [e1, e3, b, decide_true, Bool.not_true, Bool.false_and, Bool.and_false]
    · have e4 := (rel.2 f hf8).1
      simp (disch := omega) only [e1, e3, b, nI_clamp, e4, Bool.and_assoc]
  rw [e]
theorem sc_towardsFoe {S T s : Nat} {B : Nat → Int32} (hS : zx_sq S) (hT : zx_st T) (hs : s < 8) (hw : I S 6 = nI w) (rel : zR_st I T B) (ok : zM_ok B w h N) : zx_rn (d + 2) 61 [.ref S, .ref T, .int (nI s)] (zx_LL Lh) I J P = P (some (.int (zf_to B w s))) (zx_LL Lh) I J := by
  obtain ⟨k0, k1, k2, k3⟩ := zT_k (Lh := Lh) hT
  obtain ⟨q0, q1, q2⟩ := zT_q (Lh := Lh) hT
  have kS := (zS_k (Lh := Lh) hS).1
  rw [ze_61]
  have hh := fun P => sc_hatesB (d := d) (Lh := Lh) (J := J) (P := P) hT hs rel ok
  have hs' : ¬ s < 0 := by omega
  unfold zf_to
  by_cases hf : zf_hasFoe B s = true
  · obtain ⟨f, p, q, hf8, hp, hq, e1, e2, e3⟩ := zM_hasFoe ok hs hf
    have w8 : w ≤ 8 := ok.1.2.2.2.1
    have h8 : h ≤ 8 := ok.1.2.2.2.2.1
    have hwh : w * h ≤ 64 := Nat.mul_le_mul w8 h8
    have w0 : 0 < w := Nat.pos_of_ne_zero (fun e => by rw [e, Nat.zero_mul] at hp; omega)
    have f0 : ¬ f < 0 := by omega
    have i1 : I (T + 3) s = nI f := (rel.2 s hs).2.2.trans e1
    have i2 : I (T + 1) s = nI p := (rel.2 s hs).1.trans e2
    have i3 : I (T + 1) f = nI q := (rel.2 f hf8).1.trans e3
    have c1 := fun d P => sc_columnOf (d := d) (Lh := Lh) (J := J) (P := P) (p := p) hS hw w0 w8 (by omega)
    have c2 := fun d P => sc_columnOf (d := d) (Lh := Lh) (J := J) (P := P) (p := q) hS hw w0 w8 (by omega)
    have c3 := fun d P => sc_rowOf (d := d) (Lh := Lh) (J := J) (P := P) (p := p) hS hw w0 w8 (by omega)
    have c4 := fun d P => sc_rowOf (d := d) (Lh := Lh) (J := J) (P := P) (p := q) hS hw w0 w8 (by omega)
    simp (disch := omega) only [↓zs_61_0, ↓zs_61_1, ↓zs_61_4, ↓zs_61_5, ↓zs_61_7, ↓zs_61_10, ↓zs_61_11, ↓zs_61_12, ↓zs_61_15, ↓zs_61_18, ↓zs_61_19, ↓zs_61_20, ↓zs_61_21, ↓zs_61_24, ↓zs_61_25, ↓zs_61_26, ↓zs_61_27, ↓zs_61_28, ↓zs_61_31, ↓zs_61_32, ↓zs_61_34, ↓zs_61_37, ↓zs_61_38, zx_pu_s, zx_pu_n, zx_rv_s, zx_rv_n, true_and, and_true, true_or, or_true, zb_0, zb_1, zq_lcl, zq_lcg, zq_lce, eq_self, ite_true, ite_false, zn_10, zn_40, zn_040, zn_340, nI_add, zin_nI, nI_clamp, nI_ltI, nI_eq, pk_mul, nI_l, hh, zB_0, hf, reduceCtorEq, k0, k1, k2, k3, kS, q0, q1, q2, i1, i2, i3, hs, hs', hf8, f0]
    simp (disch := omega) only [↓zs_61_39, ↓zs_61_40, ↓zs_61_41, ↓zs_61_44, ↓zs_61_45, ↓zs_61_46, ↓zs_61_49, ↓zs_61_50, ↓zs_61_51, ↓zs_61_54, ↓zs_61_55, ↓zs_61_56, ↓zs_61_59, ↓zs_61_60, ↓zs_61_62, ↓zs_61_63, ↓zs_61_64, ↓zs_61_67, ↓zs_61_68, ↓zs_61_69, ↓zs_61_72, ↓zs_61_73, ↓zs_61_74, ↓zs_61_77, ↓zs_61_78, ↓zs_61_79, ↓zs_61_82, ↓zs_61_83, zx_pu_s, zx_pu_n, zx_rv_s, zx_rv_n, true_and, and_true, true_or, or_true, zb_0, zb_1, zq_lcl, zq_lcg, zq_lce, eq_self, ite_true, ite_false, zn_10, zn_40, zn_040, zn_340, nI_add, zin_nI, nI_clamp, nI_ltI, nI_eq, pk_mul, nI_l, reduceCtorEq, k0, k1, k2, k3, kS, q0, q1, q2, i1, i2, i3, c1, c2, c3, c4]
    simp (disch := omega) only [↓zs_61_85, ↓zs_61_87, ↓zs_61_90, ↓zs_61_92, ↓zs_61_94, ↓zs_61_97, ↓zs_61_99, ↓zs_61_101, ↓zs_61_102, ↓zs_61_104, ↓zs_61_105, ↓zs_61_108, ↓zs_61_110, ↓zs_61_113, ↓zs_61_114, ↓zs_61_117, ↓zs_61_119, ↓zs_61_120, ↓zs_61_122, ↓zs_61_123, ↓zs_61_125, ↓zs_61_126, ↓zs_61_129, ↓zs_61_131, ↓zs_61_134, ↓zs_61_135, ↓zs_61_138, ↓zs_61_139, ↓zs_61_140, ↓zs_61_142, ↓zs_61_145, ↓zs_61_147, ↓zs_61_150, ↓zs_61_151, ↓zs_61_154, ↓zs_61_155, ↓zs_61_156, ↓zs_61_158, ↓zs_61_161, ↓zs_61_162, ↓zs_61_165, ↓zs_61_167, zx_pu_s, zx_pu_n, zx_rv_s, zx_rv_n, true_and, and_true, true_or, or_true, zb_0, zb_1, zq_lcl, zq_lcg, zq_lce, eq_self, ite_true, ite_false, zn_10, zn_40, zn_040, zn_340, nI_add, zin_nI, nI_clamp, nI_ltI, nI_eq, pk_mul, nI_l, zq_abs]
    rw [zf_nat, zf_nat, zf_nat, e2, e1, nI_clamp (by omega), nI_clamp (by omega), e3, nI_clamp (by omega)]
    exact zf_towP (fun x => P (some (.int x)) (zx_LL Lh) I J) _ _
  · rw [Bool.not_eq_true] at hf
    simp (disch := omega) only [↓zs_61_0, ↓zs_61_1, ↓zs_61_4, ↓zs_61_5, ↓zs_61_7, ↓zs_61_10, ↓zs_61_11, ↓zs_61_12, ↓zs_61_15, ↓zs_61_18, ↓zs_61_19, ↓zs_61_20, ↓zs_61_21, ↓zs_61_24, ↓zs_61_25, ↓zs_61_26, ↓zs_61_27, ↓zs_61_28, ↓zs_61_31, ↓zs_61_32, ↓zs_61_34, ↓zs_61_37, ↓zs_61_38, ↓zs_61_39, ↓zs_61_40, ↓zs_61_41, ↓zs_61_44, ↓zs_61_45, ↓zs_61_46, ↓zs_61_49, ↓zs_61_50, ↓zs_61_51, ↓zs_61_54, ↓zs_61_55, ↓zs_61_56, ↓zs_61_59, ↓zs_61_60, ↓zs_61_62, ↓zs_61_63, ↓zs_61_64, ↓zs_61_67, ↓zs_61_68, ↓zs_61_69, ↓zs_61_72, ↓zs_61_73, ↓zs_61_74, ↓zs_61_77, ↓zs_61_78, ↓zs_61_79, ↓zs_61_82, ↓zs_61_83, ↓zs_61_85, ↓zs_61_87, ↓zs_61_90, ↓zs_61_92, ↓zs_61_94, ↓zs_61_97, ↓zs_61_99, ↓zs_61_101, ↓zs_61_102, ↓zs_61_104, ↓zs_61_105, ↓zs_61_108, ↓zs_61_110, ↓zs_61_113, ↓zs_61_114, ↓zs_61_117, ↓zs_61_119, ↓zs_61_120, ↓zs_61_122, ↓zs_61_123, ↓zs_61_125, ↓zs_61_126, ↓zs_61_129, ↓zs_61_131, ↓zs_61_134, ↓zs_61_135, ↓zs_61_138, ↓zs_61_139, ↓zs_61_140, ↓zs_61_142, ↓zs_61_145, ↓zs_61_147, ↓zs_61_150, ↓zs_61_151, ↓zs_61_154, ↓zs_61_155, ↓zs_61_156, ↓zs_61_158, ↓zs_61_161, ↓zs_61_162, ↓zs_61_165, ↓zs_61_167, zx_pu_s, zx_pu_n, zx_rv_s, zx_rv_n, true_and, and_true, true_or, or_true, zb_0, zb_1, zq_lcl, zq_lcg, zq_lce, eq_self, ite_true, ite_false, zn_10, zn_40, zn_040, zn_340, nI_add, zin_nI, nI_clamp, nI_ltI, nI_eq, pk_mul, nI_l, hh, zB_0, hf, reduceCtorEq, hs, hs', k0]
end C2
