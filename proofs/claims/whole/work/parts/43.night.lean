/-! a NIGHT: the model's -/
theorem zu_ur (I : zx_MI) (a i : Nat) (R : Nat → Int32) (v : Int32) : zx_u (zx_ur I a R) a i v = zx_ur I a (zu1 R i v) := by rw [zu_r, zr_s, zr_r]
def zf_snow (B : Nat → Int32) : Bool := zf_any (zf_snowP B (zt B)) (zo B) 0
/-- a STATUE would turn if no snow lay -/
def zf_turns (B : Nat → Int32) (s : Nat) : Bool := !decide (zf_off B (zw B) s = nI 0) && !zf_rests B s
theorem zf_off_le {B : Nat → Int32} {w h N s : Nat} (ok : zM_ok B w h N) (hs : s < 8) : ∃ j, j ≤ 4 ∧ zf_off B w s = nI j ∧ (0 < j → zf_hasFoe B s = true) := by
  unfold zf_off
  by_cases hf : zf_hasFoe B s = true
  · by_cases e : zf_to B w s = -1
    · exact ⟨0, by omega, if_pos e, fun _ => hf⟩
    · refine ⟨_, ?_, if_neg e, fun _ => hf⟩
      unfold zf_by
      have := zf_cw8 (zf_nat (zf_to B w s)) (zf_nat (B (117 + s)))
      split <;> omega
  · refine ⟨0, by omega, if_pos ?_, fun h => absurd h (by omega)⟩
    unfold zf_to
    exact if_neg hf
section TU
variable {Lh : Nat} {I : zx_MI} {J : zx_MJ}
theorem sp_turns {s mm : Nat} (v : zV (I 139) mm) (hm : mm < 2 ^ 30) (hs : s < 8) : ∃ I2, zF1 I I2 ∧ ∀ d P, zx_rn (d + 6) 202 [.ref 138, .int (nI s)] (zx_LL Lh) I J P = P (some (.int (zB (!zf_snow (I 139) && zf_turns (I 139) s)))) (zx_LL Lh) I2 J := by
  have hsn := fun d P => sp_isSnow (d := d) (Lh := Lh) (J := J) (P := P) v.2.2.2.1 v.2.2.2.2.2.2.1 (by have := v.2.2.2.2.2.2.2; omega)
  have hof := fun d P => sp_offOf (d := d) (Lh := Lh) (J := J) (P := P) hs v.1
  obtain ⟨j, j4, ej, jf⟩ := zf_off_le v.1 hs
  unfold zf_turns
  cases c : zf_snow (I 139) with
  | true =>
    refine ⟨I, fun _ _ => rfl, fun d P => ?_⟩
    unfold zf_snow at c
    rw [ze_202]
    simp (disch := omega) only [↓zs_202_0, ↓zs_202_1, ↓zs_202_4, ↓zs_202_7, ↓zs_202_8, ↓zs_202_9, ↓zs_202_12, ↓zs_202_15, ↓zs_202_16, ↓zs_202_17, ↓zs_202_20, ↓zs_202_23, ↓zs_202_24, ↓zs_202_27, ↓zs_202_28, zx_pu_s, zx_pu_n, zx_rv_s, zx_rv_n, true_and, and_true, true_or, or_true, zb_0, zb_1, zq_lcl, zq_lcg, zq_lce, eq_self, ite_true, ite_false, zk_138, zw_138, zk_139, zw_139, zk_140, zw_140, zk_141, zw_141, zk_142, zw_142, zk_143, zw_143, zk_144, zw_144, zk_145, zw_145, zk_146, zw_146, zk_147, zw_147, zk_148, zw_148, zk_149, zw_149, zk_150, zw_150, zk_151, zw_151, zk_152, zw_152, zq_138_1, zq_138_2, zq_138_3, zq_138_4, zq_138_16, zq_138_19, zq_138_20, zq_138_24, zq_138_25, zq_138_26, zq_138_27, zq_138_31, zq_138_32, zq_138_33, zn_10, zn_40, zn_040, zn_340, nI_add, zin_nI, nI_clamp, nI_ltI, nI_eq, pk_mul, nI_l, hsn, c, zB_0, reduceCtorEq]
    rfl
  | false =>
    unfold zf_snow at c
    by_cases h0 : j = 0
    · refine ⟨I, fun _ _ => rfl, fun d P => ?_⟩
      subst h0
      rw [ze_202]
      simp (disch := omega) only [↓zs_202_0, ↓zs_202_1, ↓zs_202_4, ↓zs_202_7, ↓zs_202_8, ↓zs_202_9, ↓zs_202_12, ↓zs_202_15, ↓zs_202_16, ↓zs_202_17, ↓zs_202_20, ↓zs_202_23, ↓zs_202_24, ↓zs_202_27, ↓zs_202_28, zx_pu_s, zx_pu_n, zx_rv_s, zx_rv_n, true_and, and_true, true_or, or_true, zb_0, zb_1, zq_lcl, zq_lcg, zq_lce, eq_self, ite_true, ite_false, zk_138, zw_138, zk_139, zw_139, zk_140, zw_140, zk_141, zw_141, zk_142, zw_142, zk_143, zw_143, zk_144, zw_144, zk_145, zw_145, zk_146, zw_146, zk_147, zw_147, zk_148, zw_148, zk_149, zw_149, zk_150, zw_150, zk_151, zw_151, zk_152, zw_152, zq_138_1, zq_138_2, zq_138_3, zq_138_4, zq_138_16, zq_138_19, zq_138_20, zq_138_24, zq_138_25, zq_138_26, zq_138_27, zq_138_31, zq_138_32, zq_138_33, zn_10, zn_40, zn_040, zn_340, nI_add, zin_nI, nI_clamp, nI_ltI, nI_eq, pk_mul, nI_l, hsn, c, zB_0, reduceCtorEq, hof, ej, Nat.lt_irrefl, decide_true, Bool.not_true, Bool.false_and, Bool.and_false]
      rfl
    · have hj : 0 < j := by omega
      obtain ⟨I2, f2, h2⟩ := sp_rests (Lh := Lh) (J := J) v hm hs (jf hj)
      refine ⟨I2, f2, fun d P => ?_⟩
      rw [ze_202]
      have e0 : (nI j = nI 0) = False := eq_false (fun e => h0 ((nI_eq (by omega) (by omega)).mp e))
      cases c2 : zf_rests (I 139) s <;> simp (disch := omega) only [↓zs_202_0, ↓zs_202_1, ↓zs_202_4, ↓zs_202_7, ↓zs_202_8, ↓zs_202_9, ↓zs_202_12, ↓zs_202_15, ↓zs_202_16, ↓zs_202_17, ↓zs_202_20, ↓zs_202_23, ↓zs_202_24, ↓zs_202_27, ↓zs_202_28, zx_pu_s, zx_pu_n, zx_rv_s, zx_rv_n, true_and, and_true, true_or, or_true, zb_0, zb_1, zq_lcl, zq_lcg, zq_lce, eq_self, ite_true, ite_false, zk_138, zw_138, zk_139, zw_139, zk_140, zw_140, zk_141, zw_141, zk_142, zw_142, zk_143, zw_143, zk_144, zw_144, zk_145, zw_145, zk_146, zw_146, zk_147, zw_147, zk_148, zw_148, zk_149, zw_149, zk_150, zw_150, zk_151, zw_151, zk_152, zw_152, zq_138_1, zq_138_2, zq_138_3, zq_138_4, zq_138_16, zq_138_19, zq_138_20, zq_138_24, zq_138_25, zq_138_26, zq_138_27, zq_138_31, zq_138_32, zq_138_33, nI_ltI, hsn, c, zB_0, reduceCtorEq, hof, ej, hj, h2, c2, e0, decide_false, Bool.not_false, Bool.not_true, Bool.and_false, Bool.and_true] <;> rfl
/-- the letters of a row's NIGHT take effect -/
def zf_lets (B : Nat → Int32) : Nat → Nat → (Nat → Int32) → (Nat → Int32)
  | 0, _, R => R
  | m + 1, k, R => zf_lets B m (k + 1) (if B (7 + 3 * k) = B 133 then zu1 R (125 + zf_nat (B (7 + 3 * k + 1))) (B (7 + 3 * k + 2)) else R)
theorem sp_letters {B : Nat → Int32} (hl : zM_let B) : ∀ {d : Nat} {P : Option Value → zx_Lay → zx_MI → zx_MJ → Prop}, zx_rn d 203 [.ref 138] (zx_LL Lh) (zx_ur I 139 B) J P = P (some (.int (nI (zf_cnt (fun k => decide (B (7 + 3 * k) = B 133)) (zl B) 0)))) (zx_LL Lh) (zx_ur I 139 (zf_lets B (zl B) 0 B)) J := by
  intro d P
  obtain ⟨l1, l2, l3⟩ := hl
  generalize zl B = K at *
  have loop : ∀ m k c R, k + m = K → (∀ j, ¬ (125 ≤ j ∧ j < 133) → R j = B j) → zx_wp d 203 4 [.ref 138, .int (nI c), .int (nI k)] [] (zx_LL Lh) (zx_ur I 139 R) J P = P (some (.int (nI (c + zf_cnt (fun k => decide (B (7 + 3 * k) = B 133)) m k)))) (zx_LL Lh) (zx_ur I 139 (zf_lets B m k R)) J := by
    intro m
    induction m with
    | zero =>
      intro k c R hk hR
      rw [zs_203_4]
      have h4 : R 4 = nI K := (hR 4 (by omega)).trans l1
      have hlt : ¬ k < K := by omega
      simp (disch := omega) only [↓zs_203_0, ↓zs_203_1, ↓zs_203_2, ↓zs_203_3, ↓zs_203_5, ↓zs_203_6, ↓zs_203_9, ↓zs_203_10, ↓zs_203_11, ↓zs_203_14, ↓zs_203_15, ↓zs_203_18, ↓zs_203_20, ↓zs_203_21, ↓zs_203_22, ↓zs_203_23, ↓zs_203_24, ↓zs_203_25, ↓zs_203_26, ↓zs_203_29, ↓zs_203_32, ↓zs_203_33, ↓zs_203_36, ↓zs_203_39, ↓zs_203_40, ↓zs_203_43, ↓zs_203_45, ↓zs_203_46, ↓zs_203_49, ↓zs_203_51, ↓zs_203_52, ↓zs_203_53, ↓zs_203_54, ↓zs_203_55, ↓zs_203_56, ↓zs_203_57, ↓zs_203_58, ↓zs_203_59, ↓zs_203_60, ↓zs_203_63, ↓zs_203_65, ↓zs_203_66, ↓zs_203_67, ↓zs_203_68, ↓zs_203_69, ↓zs_203_70, ↓zs_203_71, ↓zs_203_72, ↓zs_203_73, ↓zs_203_76, ↓zs_203_79, ↓zs_203_82, ↓zs_203_83, zx_pu_s, zx_pu_n, zx_rv_s, zx_rv_n, true_and, and_true, true_or, or_true, zb_0, zb_1, zq_lcl, zq_lcg, zq_lce, eq_self, ite_true, ite_false, zk_138, zw_138, zk_139, zw_139, zk_140, zw_140, zk_141, zw_141, zk_142, zw_142, zk_143, zw_143, zk_144, zw_144, zk_145, zw_145, zk_146, zw_146, zk_147, zw_147, zk_148, zw_148, zk_149, zw_149, zk_150, zw_150, zk_151, zw_151, zk_152, zw_152, zq_138_1, zq_138_2, zq_138_3, zq_138_4, zq_138_16, zq_138_19, zq_138_20, zq_138_24, zq_138_25, zq_138_26, zq_138_27, zq_138_31, zq_138_32, zq_138_33, zn_10, zn_40, zn_040, zn_340, nI_add, zin_nI, nI_clamp, nI_ltI, nI_eq, pk_mul, nI_l, zr_s, h4, hlt]
      rfl
    | succ m ih =>
      intro k c R hk hR
      have h4 : R 4 = nI K := (hR 4 (by omega)).trans l1
      have hlt : k < K := by omega
      obtain ⟨-, ⟨f, hf, ef⟩, -⟩ := l3 k hlt
      have r1 := hR (7 + 3 * k) (by omega)
      have r2 := hR 133 (by omega)
      have r3 := hR (7 + 3 * k + 1) (by omega)
      have r4 := hR (7 + 3 * k + 2) (by omega)
      rw [zs_203_4, zf_lets, zf_cnt]
      by_cases q : B (7 + 3 * k) = B 133
      · rw [if_pos q, if_pos (decide_eq_true q), ef, zf_nat, nI_clamp (by omega), ← Nat.add_assoc, ← ih (k + 1) (c + 1) _ (by omega) (fun j n => (zu1_n (by omega)).trans (hR j n))]
        simp (disch := omega) only [↓zs_203_0, ↓zs_203_1, ↓zs_203_2, ↓zs_203_3, ↓zs_203_5, ↓zs_203_6, ↓zs_203_9, ↓zs_203_10, ↓zs_203_11, ↓zs_203_14, ↓zs_203_15, ↓zs_203_18, ↓zs_203_20, ↓zs_203_21, ↓zs_203_22, ↓zs_203_23, ↓zs_203_24, ↓zs_203_25, ↓zs_203_26, ↓zs_203_29, ↓zs_203_32, ↓zs_203_33, ↓zs_203_36, ↓zs_203_39, ↓zs_203_40, ↓zs_203_43, ↓zs_203_45, ↓zs_203_46, ↓zs_203_49, ↓zs_203_51, ↓zs_203_52, ↓zs_203_53, ↓zs_203_54, ↓zs_203_55, ↓zs_203_56, ↓zs_203_57, ↓zs_203_58, ↓zs_203_59, ↓zs_203_60, ↓zs_203_63, ↓zs_203_65, ↓zs_203_66, ↓zs_203_67, ↓zs_203_68, ↓zs_203_69, ↓zs_203_70, ↓zs_203_71, ↓zs_203_72, ↓zs_203_73, ↓zs_203_76, ↓zs_203_79, ↓zs_203_82, ↓zs_203_83, zx_pu_s, zx_pu_n, zx_rv_s, zx_rv_n, true_and, and_true, true_or, or_true, zb_0, zb_1, zq_lcl, zq_lcg, zq_lce, eq_self, ite_true, ite_false, zk_138, zw_138, zk_139, zw_139, zk_140, zw_140, zk_141, zw_141, zk_142, zw_142, zk_143, zw_143, zk_144, zw_144, zk_145, zw_145, zk_146, zw_146, zk_147, zw_147, zk_148, zw_148, zk_149, zw_149, zk_150, zw_150, zk_151, zw_151, zk_152, zw_152, zq_138_1, zq_138_2, zq_138_3, zq_138_4, zq_138_16, zq_138_19, zq_138_20, zq_138_24, zq_138_25, zq_138_26, zq_138_27, zq_138_31, zq_138_32, zq_138_33, zn_10, zn_40, zn_040, zn_340, nI_add, zin_nI, nI_clamp, nI_ltI, nI_eq, pk_mul, nI_l, zr_s, h4, hlt, r1, r2, q, r3, ef, r4, nI_1, zu_ur]
      · rw [if_neg q, if_neg (by rw [decide_eq_false q]; decide), Nat.zero_add, ← ih (k + 1) c R (by omega) hR]
        simp (disch := omega) only [↓zs_203_0, ↓zs_203_1, ↓zs_203_2, ↓zs_203_3, ↓zs_203_5, ↓zs_203_6, ↓zs_203_9, ↓zs_203_10, ↓zs_203_11, ↓zs_203_14, ↓zs_203_15, ↓zs_203_18, ↓zs_203_20, ↓zs_203_21, ↓zs_203_22, ↓zs_203_23, ↓zs_203_24, ↓zs_203_25, ↓zs_203_26, ↓zs_203_29, ↓zs_203_32, ↓zs_203_33, ↓zs_203_36, ↓zs_203_39, ↓zs_203_40, ↓zs_203_43, ↓zs_203_45, ↓zs_203_46, ↓zs_203_49, ↓zs_203_51, ↓zs_203_52, ↓zs_203_53, ↓zs_203_54, ↓zs_203_55, ↓zs_203_56, ↓zs_203_57, ↓zs_203_58, ↓zs_203_59, ↓zs_203_60, ↓zs_203_63, ↓zs_203_65, ↓zs_203_66, ↓zs_203_67, ↓zs_203_68, ↓zs_203_69, ↓zs_203_70, ↓zs_203_71, ↓zs_203_72, ↓zs_203_73, ↓zs_203_76, ↓zs_203_79, ↓zs_203_82, ↓zs_203_83, zx_pu_s, zx_pu_n, zx_rv_s, zx_rv_n, true_and, and_true, true_or, or_true, zb_0, zb_1, zq_lcl, zq_lcg, zq_lce, eq_self, ite_true, ite_false, zk_138, zw_138, zk_139, zw_139, zk_140, zw_140, zk_141, zw_141, zk_142, zw_142, zk_143, zw_143, zk_144, zw_144, zk_145, zw_145, zk_146, zw_146, zk_147, zw_147, zk_148, zw_148, zk_149, zw_149, zk_150, zw_150, zk_151, zw_151, zk_152, zw_152, zq_138_1, zq_138_2, zq_138_3, zq_138_4, zq_138_16, zq_138_19, zq_138_20, zq_138_24, zq_138_25, zq_138_26, zq_138_27, zq_138_31, zq_138_32, zq_138_33, zn_10, zn_40, zn_040, zn_340, nI_add, zin_nI, nI_clamp, nI_ltI, nI_eq, pk_mul, nI_l, zr_s, h4, hlt, r1, r2, q, nI_1]
  rw [ze_203]
  simp only [↓zs_203_0, ↓zs_203_1, ↓zs_203_2, ↓zs_203_3, ↓zs_203_5, ↓zs_203_6, ↓zs_203_9, ↓zs_203_10, ↓zs_203_11, ↓zs_203_14, ↓zs_203_15, ↓zs_203_18, ↓zs_203_20, ↓zs_203_21, ↓zs_203_22, ↓zs_203_23, ↓zs_203_24, ↓zs_203_25, ↓zs_203_26, ↓zs_203_29, ↓zs_203_32, ↓zs_203_33, ↓zs_203_36, ↓zs_203_39, ↓zs_203_40, ↓zs_203_43, ↓zs_203_45, ↓zs_203_46, ↓zs_203_49, ↓zs_203_51, ↓zs_203_52, ↓zs_203_53, ↓zs_203_54, ↓zs_203_55, ↓zs_203_56, ↓zs_203_57, ↓zs_203_58, ↓zs_203_59, ↓zs_203_60, ↓zs_203_63, ↓zs_203_65, ↓zs_203_66, ↓zs_203_67, ↓zs_203_68, ↓zs_203_69, ↓zs_203_70, ↓zs_203_71, ↓zs_203_72, ↓zs_203_73, ↓zs_203_76, ↓zs_203_79, ↓zs_203_82, ↓zs_203_83, zx_pu_s, zx_pu_n, zx_rv_s, zx_rv_n, true_and, and_true, true_or, or_true, zb_0, zb_1, zq_lcl, zq_lcg, zq_lce, eq_self, ite_true, ite_false]
  rw [loop K 0 0 B (by omega) (fun _ _ => rfl), Nat.zero_add]
end TU
/-- the STATUES that turn in this NIGHT -/
def zf_turned (B : Nat → Int32) : Nat := zf_bs (fun s => !zf_snow B && zf_turns B s) (zn B) 0 0
/-- where a STATUE that turns looks then -/
def zf_newdir (B : Nat → Int32) (s : Nat) : Nat := (zf_nat (B (117 + s)) + (if zf_cw (zf_nat (zf_to B (zw B) s)) (zf_nat (B (117 + s))) ≤ 4 then 1 else 7)) % 8
/-- the row when the first n of the STATUES t have turned -/
def zf_trow (B : Nat → Int32) (t n : Nat) : Nat → Int32 := fun j => if 117 ≤ j ∧ j < 117 + n ∧ t.testBit (j - 117) = true then nI (zf_newdir B (j - 117)) else B j
def zf_next (B : Nat → Int32) : Nat → Int32 := zu1 (zf_trow B (zf_turned B) (zn B)) 133 (nI (zt B + 1))
def zf_night (B : Nat → Int32) : Nat → Int32 := zf_lets (zf_next B) (zl B) 0 (zf_next B)
def zf_came (B : Nat → Int32) : Nat := zf_cnt (fun k => decide (zf_next B (7 + 3 * k) = zf_next B 133)) (zl B) 0
theorem zf_trow_0 (B : Nat → Int32) (t : Nat) : zf_trow B t 0 = B := by
  funext j
  exact if_neg (fun e => by omega)
theorem zf_trow_s {B : Nat → Int32} {t n : Nat} : zf_trow B t (n + 1) = if t.testBit n = true then zu1 (zf_trow B t n) (117 + n) (nI (zf_newdir B n)) else zf_trow B t n := by
  funext j
  by_cases c : t.testBit n = true
  · rw [if_pos c]
    by_cases e : j = 117 + n
    · subst e
      rw [zu1_s]
      unfold zf_trow
      rw [Nat.add_sub_cancel_left, if_pos ⟨by omega, by omega, c⟩]
    · rw [zu1_n e]
      unfold zf_trow
      by_cases h : 117 ≤ j ∧ j < 117 + n ∧ t.testBit (j - 117) = true
      · rw [if_pos h, if_pos ⟨h.1, by omega, h.2.2⟩]
      · rw [if_neg h, if_neg (fun q => h ⟨q.1, by omega, q.2.2⟩)]
  · rw [if_neg c]
    unfold zf_trow
    by_cases h : 117 ≤ j ∧ j < 117 + n ∧ t.testBit (j - 117) = true
    · rw [if_pos h, if_pos ⟨h.1, by omega, h.2.2⟩]
    · rw [if_neg h, if_neg (fun q => by
        by_cases e : j = 117 + n
        · subst e
          rw [Nat.add_sub_cancel_left] at q
          exact c q.2.2
        · exact h ⟨q.1, by omega, q.2.2⟩)]
theorem zf_trow_o {B : Nat → Int32} {t n : Nat} (hn : n ≤ 8) (j : Nat) (h : ¬ (117 ≤ j ∧ j < 125)) : zf_trow B t n j = B j := if_neg (fun e => h ⟨e.1, by omega⟩)
theorem zf_trow_l {B : Nat → Int32} {t n : Nat} (s : Nat) (h : n ≤ s) : zf_trow B t n (117 + s) = B (117 + s) := if_neg (fun e => by omega)
theorem zf_opt_lt {x : Int32} {n : Nat} (h : zf_opt x n) (hn : 0 < n) (hn2 : n < 2 ^ 31) : x.toNatClampNeg < n := by
  rcases h with e | ⟨k, hk, e⟩
  · rw [e, show (-1 : Int32).toNatClampNeg = 0 by decide +kernel]; exact hn
  · rw [e, nI_clamp (by omega)]; exact hk
/-- rows alike but for DIRECTIONS of others -/
def zDl (B R : Nat → Int32) (s : Nat) : Prop := ∀ j, (j = 117 + s ∨ ¬ (117 ≤ j ∧ j < 125)) → R j = B j
theorem zf_hasFoe_eq {B R : Nat → Int32} {s q : Nat} (h : zDl B R q) (hs : s < 8) (ho : zf_opt (B (125 + s)) 8) : zf_hasFoe R s = zf_hasFoe B s := by
  have := zf_opt_lt ho (by omega) (by omega)
  unfold zf_hasFoe
  rw [h (109 + s) (by omega), h (125 + s) (by omega), h (109 + (B (125 + s)).toNatClampNeg) (by omega)]
theorem zf_to_eq {B R : Nat → Int32} {s q w : Nat} (h : zDl B R q) (hs : s < 8) (ho : zf_opt (B (125 + s)) 8) : zf_to R w s = zf_to B w s := by
  have := zf_opt_lt ho (by omega) (by omega)
  unfold zf_to
  rw [zf_hasFoe_eq h hs ho, h (109 + s) (by omega), h (125 + s) (by omega), h (109 + zf_nat (B (125 + s))) (by unfold zf_nat; omega)]
theorem zf_off_eq {B R : Nat → Int32} {s w : Nat} (h : zDl B R s) (hs : s < 8) (ho : zf_opt (B (125 + s)) 8) : zf_off R w s = zf_off B w s := by
  unfold zf_off
  rw [zf_to_eq h hs ho, h (117 + s) (by omega)]
theorem zf_foeP_eq {B R : Nat → Int32} {s m : Nat} (h : zDl B R s) (hm : m ≤ 8) (x : Int32) : zf_cnt (zf_foeP R x) m 0 = zf_cnt (zf_foeP B x) m 0 := by
  apply zf_cnt_eq
  intro j _ hj
  unfold zf_foeP
  rw [h (109 + j) (by omega), h (125 + j) (by omega)]
theorem zDl_k {B R : Nat → Int32} {s : Nat} (hs : s < 8) (h : zDl B R s) : zw R = zw B ∧ zh R = zh B ∧ zn R = zn B ∧ zl R = zl B ∧ zo R = zo B ∧ zk R = zk B ∧ zt R = zt B := by
  unfold zw zh zn zl zo zk zt
  rw [h 1 (by omega), h 2 (by omega), h 3 (by omega), h 4 (by omega), h 5 (by omega), h 385 (by omega), h 133 (by omega)]
  exact ⟨rfl, rfl, rfl, rfl, rfl, rfl, rfl⟩
theorem zf_rests_eq {B R : Nat → Int32} {s : Nat} (h : zDl B R s) (hs : s < 8) (ho : zf_opt (B (125 + s)) 8) (hn : zn B ≤ 8) : zf_rests R s = zf_rests B s := by
  obtain ⟨e1, e2, e3, e4, e5, e6, e7⟩ := zDl_k hs h
  have ec : (fun k => R (386 + k)) = fun k => B (386 + k) := by
    funext k
    exact h _ (by omega)
  have ew : zf_word R s = zf_word B s := by
    funext i
    unfold zf_word
    rw [e7, e1, e3, h (117 + s) (by omega), zf_off_eq h hs ho, h (109 + s) (by omega), zf_foeP_eq h hn]
  unfold zf_rests
  rw [ec, ew, e6]
theorem zf_turns_eq {B R : Nat → Int32} {s : Nat} (h : zDl B R s) (hs : s < 8) (ho : zf_opt (B (125 + s)) 8) (hn : zn B ≤ 8) : zf_turns R s = zf_turns B s := by
  unfold zf_turns
  rw [zf_rests_eq h hs ho hn, (zDl_k hs h).1, zf_off_eq h hs ho]
theorem zf_trow_dl {B : Nat → Int32} {t n s : Nat} (hn : n ≤ s) (hs : s < 8) : zDl B (zf_trow B t n) s := by
  intro j h
  rcases h with h | h
  · rw [h]; exact zf_trow_l s hn
  · exact zf_trow_o (by omega) j h
theorem zf_trow_ok {B : Nat → Int32} {w h N t n : Nat} (ok : zM_ok B w h N) (hn : n ≤ 8) : zM_ok (zf_trow B t n) w h N := by
  unfold zM_ok
  rw [zf_trow_o hn 1 (by omega), zf_trow_o hn 2 (by omega), zf_trow_o hn 3 (by omega)]
  refine ⟨ok.1, fun s hs => ?_⟩
  rw [zf_trow_o hn (109 + s) (by omega), zf_trow_o hn (125 + s) (by omega)]
  obtain ⟨o1, o2, o3, o4⟩ := ok.2 s hs
  refine ⟨o1, o2, ?_, o4⟩
  unfold zf_trow
  split
  · exact ⟨_, Nat.mod_lt _ (by omega), rfl⟩
  · exact o3
/-- letters are no places -/
theorem zf_lets_o {B : Nat → Int32} (hl : zM_let B) : ∀ m k R, k + m ≤ zl B → ∀ j, ¬ (125 ≤ j ∧ j < 133) → zf_lets B m k R j = R j := by
  intro m
  induction m with
  | zero => intro k R hk j hj; rfl
  | succ m ih =>
    intro k R hk j hj
    obtain ⟨-, ⟨f, hf, ef⟩, -⟩ := hl.2.2 k (by omega)
    rw [zf_lets, ih (k + 1) _ (by omega) j hj]
    split
    · rw [ef, zf_nat, nI_clamp (by omega), zu1_n (by omega)]
    · rfl
theorem zf_lets_f {B : Nat → Int32} (hl : zM_let B) : ∀ m k R, k + m ≤ zl B → (∀ s, s < 8 → zf_opt (R (125 + s)) 8) → ∀ s, s < 8 → zf_opt (zf_lets B m k R (125 + s)) 8 := by
  intro m
  induction m with
  | zero => intro k R hk h; exact h
  | succ m ih =>
    intro k R hk h
    obtain ⟨-, ⟨f, hf, ef⟩, e2⟩ := hl.2.2 k (by omega)
    rw [zf_lets]
    apply ih (k + 1) _ (by omega)
    intro s hs
    split
    · rw [ef, zf_nat, nI_clamp (by omega)]
      by_cases q : s = f
      · rw [q, zu1_s]; exact e2
      · rw [zu1_n (by omega)]; exact h s hs
    · exact h s hs
theorem zf_next_sm {B : Nat → Int32} (hn : zn B ≤ 8) : zSm B (zf_next B) := by
  intro j h
  unfold zf_next
  rw [zu1_n (by omega), zf_trow_o hn j (by omega)]
theorem zf_night_sm {B : Nat → Int32} {m : Nat} (v : zV B m) : zSm B (zf_night B) := by
  have hn : zn B ≤ 8 := v.1.1.2.2.2.2.2
  have h1 := zf_next_sm hn
  have hl := zSm_let h1 v.2.2.2.2.1
  intro j h
  unfold zf_night
  rw [← (zSm_k h1).2.2.2.1, zf_lets_o hl _ _ _ (by omega) j (by omega)]
  exact h1 j h
theorem zf_night_V {B : Nat → Int32} {m : Nat} (v : zV B m) (hm : m < 2 ^ 30) : zV (zf_night B) (m + 1) := by
  have hn : zn B ≤ 8 := v.1.1.2.2.2.2.2
  have h1 := zf_next_sm hn
  have hl := zSm_let h1 v.2.2.2.2.1
  have ek := (zSm_k h1).2.2.2.1
  have ht := v.2.2.2.2.2.2.2
  have eo : ∀ j, ¬ (125 ≤ j ∧ j < 133) → zf_night B j = zf_next B j := by
    intro j hj
    unfold zf_night
    rw [← ek]
    exact zf_lets_o hl _ _ _ (by omega) j hj
  have e133 : zf_night B 133 = nI (zt B + 1) := (eo 133 (by omega)).trans (zu1_s _ _ _)
  have okt := zf_trow_ok (t := zf_turned B) (n := zn B) v.1 hn
  have hz : zt (zf_night B) = zt B + 1 := by
    unfold zt
    rw [e133]
    have ht2 : zf_nat (B 133) ≤ m := ht
    exact nI_clamp (by omega)
  refine zV_of v (zf_night_sm v) (fun s hs => ?_) (fun k s hk hs => ?_) ?_ ?_
  · obtain ⟨o1, o2, o3, o4⟩ := okt.2 s hs
    have e1 : zf_night B (109 + s) = zf_trow B (zf_turned B) (zn B) (109 + s) := (eo _ (by omega)).trans (zu1_n (by omega))
    have e2 : zf_night B (117 + s) = zf_trow B (zf_turned B) (zn B) (117 + s) := (eo _ (by omega)).trans (zu1_n (by omega))
    rw [e1, e2]
    refine ⟨o1, ?_, o3, o4⟩
    unfold zf_night
    rw [← ek]
    refine zf_lets_f hl _ _ _ (by omega) (fun s hs => ?_) s hs
    unfold zf_next
    rw [zu1_n (by omega)]
    exact (okt.2 s hs).2.1
  · have e1 : zf_night B (109 + s) = B (109 + s) := (eo _ (by omega)).trans ((zu1_n (by omega)).trans (zf_trow_o hn _ (by omega)))
    have e2 : zf_night B (45 + k) = B (45 + k) := (eo _ (by omega)).trans ((zu1_n (by omega)).trans (zf_trow_o hn _ (by omega)))
    rw [e1, e2]
    exact fun hne => (v.2.2.1 k s hk hs hne).2
  · rw [hz]; exact e133
  · omega
section NI
variable {Lh : Nat} {I : zx_MI} {J : zx_MJ}
/-- what the model's night leaves behind -/
theorem sp_night {mm : Nat} (v : zV (I 139) mm) (hm : mm < 2 ^ 30) : ∃ I2, zFm I I2 ∧ I2 139 = zf_night (I 139) ∧ I2 138 17 = nI (zf_turned (I 139)) ∧ I2 138 18 = nI (zf_came (I 139)) ∧ ∀ d P, zx_rn (d + 7) 204 [.ref 138] (zx_LL Lh) I J P = P (some (.int (nI (zf_cnt (zf_turned (I 139)).testBit 64 0)))) (zx_LL Lh) I2 J := by
  obtain ⟨B, hB⟩ : ∃ B, B = I 139 := ⟨_, rfl⟩
  rw [← hB] at v ⊢
  have N8 : zn B ≤ 8 := v.1.1.2.2.2.2.2
  have hN : B 3 = nI (zn B) := v.1.1.2.2.1
  have loop1 : ∀ m s b I1, zFs I I1 → I1 138 17 = nI b → s + m = zn B → ∃ I2, zFs I I2 ∧ I2 138 17 = nI (zf_bs (fun s => !zf_snow B && zf_turns B s) m s b) ∧ ∀ d P, zx_wp (d + 7) 204 7 [.ref 138, .int (nI s), zx_u0] [] (zx_LL Lh) I1 J P = zx_wp (d + 7) 204 47 [.ref 138, .int (nI (zn B)), zx_u0] [] (zx_LL Lh) I2 J P := by
    intro m
    induction m with
    | zero =>
      intro s b I1 f e17 hs
      have e := zFs_row f (a := 139) (by decide) (by decide)
      refine ⟨I1, f, e17, fun d P => ?_⟩
      rw [zs_204_7]
      obtain rfl : s = zn B := by omega
      simp (disch := omega) only [↓zs_204_8, ↓zs_204_9, ↓zs_204_12, ↓zs_204_13, ↓zs_204_14, zx_pu_s, zx_pu_n, zx_rv_s, zx_rv_n, true_and, and_true, true_or, or_true, zb_0, zb_1, zq_lcl, zq_lcg, zq_lce, eq_self, ite_true, ite_false, zk_138, zw_138, zk_139, zw_139, zk_140, zw_140, zk_141, zw_141, zk_142, zw_142, zk_143, zw_143, zk_144, zw_144, zk_145, zw_145, zk_146, zw_146, zk_147, zw_147, zk_148, zw_148, zk_149, zw_149, zk_150, zw_150, zk_151, zw_151, zk_152, zw_152, zq_138_1, zq_138_2, zq_138_3, zq_138_4, zq_138_16, zq_138_19, zq_138_20, zq_138_24, zq_138_25, zq_138_26, zq_138_27, zq_138_31, zq_138_32, zq_138_33, zn_10, zn_40, zn_040, zn_340, nI_add, zin_nI, nI_clamp, nI_ltI, nI_eq, pk_mul, nI_l, e, ← hB, hN, Nat.lt_irrefl]
    | succ m ih =>
      intro s b I1 f e17 hs
      have e := zFs_row f (a := 139) (by decide) (by decide)
      have hv1 : zV (I1 139) mm := by rw [e, ← hB]; exact v
      obtain ⟨I2, f2, h2⟩ := sp_turns (Lh := Lh) (J := J) (s := s) hv1 hm (by omega)
      rw [e, ← hB] at h2
      have e2 : I2 139 = B := by rw [f2 139 (by decide), e, hB]
      obtain ⟨I3, f3, g3, h3⟩ := ih (s + 1) (if (!zf_snow B && zf_turns B s) = true then b ||| 2 ^ s else b) (zx_u I2 138 17 (nI (if (!zf_snow B && zf_turns B s) = true then b ||| 2 ^ s else b))) (zFs_t f (zFs_t (zF1_s f2) (zFs_u _ _ _ (by omega)))) (zu_s _ _ _ _) (by omega)
      refine ⟨I3, f3, g3, fun d P => ?_⟩
      rw [← h3 d P, zs_204_7]
      have hlt : s < zn B := by omega
      cases c : (!zf_snow B && zf_turns B s) <;> simp (disch := omega) only [↓zs_204_8, ↓zs_204_9, ↓zs_204_12, ↓zs_204_13, ↓zs_204_14, ↓zs_204_17, ↓zs_204_18, ↓zs_204_19, ↓zs_204_22, ↓zs_204_23, ↓zs_204_24, ↓zs_204_27, ↓zs_204_30, ↓zs_204_31, ↓zs_204_32, ↓zs_204_33, ↓zs_204_36, ↓zs_204_37, ↓zs_204_38, ↓zs_204_41, ↓zs_204_44, zx_pu_s, zx_pu_n, zx_rv_s, zx_rv_n, true_and, and_true, true_or, or_true, zb_0, zb_1, zq_lcl, zq_lcg, zq_lce, eq_self, ite_true, ite_false, zk_138, zw_138, zk_139, zw_139, zk_140, zw_140, zk_141, zw_141, zk_142, zw_142, zk_143, zw_143, zk_144, zw_144, zk_145, zw_145, zk_146, zw_146, zk_147, zw_147, zk_148, zw_148, zk_149, zw_149, zk_150, zw_150, zk_151, zw_151, zk_152, zw_152, zq_138_1, zq_138_2, zq_138_3, zq_138_4, zq_138_16, zq_138_19, zq_138_20, zq_138_24, zq_138_25, zq_138_26, zq_138_27, zq_138_31, zq_138_32, zq_138_33, zn_10, zn_40, zn_040, zn_340, nI_add, zin_nI, nI_clamp, nI_ltI, nI_eq, pk_mul, nI_l, e, ← hB, hN, hlt, h2, c, zB_0, reduceCtorEq, nI_1, zq_shl1, zq_orI, Nat.or_zero, if_true, if_false, e17]
  have loop2 : ∀ m s I1 v2, s + m = zn B → (∃ I0, zFs I I0 ∧ I0 138 17 = nI (zf_turned B) ∧ I1 = zx_ur I0 139 (zf_trow B (zf_turned B) s)) → ∃ I2, (∃ I0, zFs I I0 ∧ I0 138 17 = nI (zf_turned B) ∧ I2 = zx_ur I0 139 (zf_trow B (zf_turned B) (zn B))) ∧ ∃ v2', ∀ d P, zx_wp (d + 7) 204 49 [.ref 138, .int (nI s), v2] [] (zx_LL Lh) I1 J P = zx_wp (d + 7) 204 135 [.ref 138, .int (nI (zn B)), v2'] [] (zx_LL Lh) I2 J P := by
    intro m
    induction m with
    | zero =>
      intro s I1 v2 hs h1
      obtain rfl : s = zn B := by omega
      refine ⟨I1, h1, v2, fun d P => ?_⟩
      obtain ⟨I0, f, g, rfl⟩ := h1
      have h3 : zf_trow B (zf_turned B) (zn B) 3 = nI (zn B) := by rw [zf_trow_o N8 3 (by omega)]; exact hN
      rw [zs_204_49]
      simp (disch := omega) only [↓zs_204_50, ↓zs_204_51, ↓zs_204_54, ↓zs_204_55, ↓zs_204_56, zx_pu_s, zx_pu_n, zx_rv_s, zx_rv_n, true_and, and_true, true_or, or_true, zb_0, zb_1, zq_lcl, zq_lcg, zq_lce, eq_self, ite_true, ite_false, zk_138, zw_138, zk_139, zw_139, zk_140, zw_140, zk_141, zw_141, zk_142, zw_142, zk_143, zw_143, zk_144, zw_144, zk_145, zw_145, zk_146, zw_146, zk_147, zw_147, zk_148, zw_148, zk_149, zw_149, zk_150, zw_150, zk_151, zw_151, zk_152, zw_152, zq_138_1, zq_138_2, zq_138_3, zq_138_4, zq_138_16, zq_138_19, zq_138_20, zq_138_24, zq_138_25, zq_138_26, zq_138_27, zq_138_31, zq_138_32, zq_138_33, zn_10, zn_40, zn_040, zn_340, nI_add, zin_nI, nI_clamp, nI_ltI, nI_eq, pk_mul, nI_l, zr_s, h3, Nat.lt_irrefl]
    | succ m ih =>
      intro s I1 v2 hs h1
      obtain ⟨I0, f, g, rfl⟩ := h1
      have hlt : s < zn B := by omega
      have s8 : s ≤ 8 := by omega
      have h3 : zf_trow B (zf_turned B) s 3 = nI (zn B) := by rw [zf_trow_o s8 3 (by omega)]; exact hN
      have e17 : zx_ur I0 139 (zf_trow B (zf_turned B) s) 138 17 = nI (zf_turned B) := by rw [zr_o (by decide)]; exact g
      have tl : zf_turned B < 2 ^ 8 := zf_bs_lt _ (by omega) (by decide)
      have hb2 : zf_bit (lN (zf_turned B)) s = (zf_turned B).testBit s := zt_nat (by omega)
      cases c : (zf_turned B).testBit s with
      | false =>
        obtain ⟨I2, q, v2', h2⟩ := ih (s + 1) (zx_ur I0 139 (zf_trow B (zf_turned B) s)) v2 (by omega) ⟨I0, f, g, by rw [zf_trow_s, c, if_neg (by decide)]⟩
        refine ⟨I2, q, v2', fun d P => ?_⟩
        rw [← h2 d P, zs_204_49]
        simp (disch := omega) only [↓zs_204_50, ↓zs_204_51, ↓zs_204_54, ↓zs_204_55, ↓zs_204_56, ↓zs_204_59, ↓zs_204_60, ↓zs_204_63, ↓zs_204_64, ↓zs_204_65, ↓zs_204_68, ↓zs_204_71, ↓zs_204_74, ↓zs_204_75, ↓zs_204_76, ↓zs_204_79, ↓zs_204_80, ↓zs_204_83, ↓zs_204_85, ↓zs_204_86, ↓zs_204_87, ↓zs_204_88, ↓zs_204_89, ↓zs_204_91, ↓zs_204_92, ↓zs_204_94, ↓zs_204_95, ↓zs_204_96, ↓zs_204_97, ↓zs_204_100, ↓zs_204_102, ↓zs_204_103, ↓zs_204_104, ↓zs_204_105, ↓zs_204_108, ↓zs_204_110, ↓zs_204_111, ↓zs_204_112, ↓zs_204_113, ↓zs_204_114, ↓zs_204_115, ↓zs_204_118, ↓zs_204_119, ↓zs_204_122, ↓zs_204_124, ↓zs_204_125, ↓zs_204_127, ↓zs_204_128, ↓zs_204_129, ↓zs_204_132, zx_pu_s, zx_pu_n, zx_rv_s, zx_rv_n, true_and, and_true, true_or, or_true, zb_0, zb_1, zq_lcl, zq_lcg, zq_lce, eq_self, ite_true, ite_false, zk_138, zw_138, zk_139, zw_139, zk_140, zw_140, zk_141, zw_141, zk_142, zw_142, zk_143, zw_143, zk_144, zw_144, zk_145, zw_145, zk_146, zw_146, zk_147, zw_147, zk_148, zw_148, zk_149, zw_149, zk_150, zw_150, zk_151, zw_151, zk_152, zw_152, zq_138_1, zq_138_2, zq_138_3, zq_138_4, zq_138_16, zq_138_19, zq_138_20, zq_138_24, zq_138_25, zq_138_26, zq_138_27, zq_138_31, zq_138_32, zq_138_33, zn_10, zn_40, zn_040, zn_340, nI_add, zin_nI, nI_clamp, nI_ltI, nI_eq, pk_mul, nI_l, zr_s, h3, hlt, e17, sp_isIn, hb2, c, zB_0, reduceCtorEq, nI_1]
      | true =>
        have ok1 : zM_ok (zx_ur I0 139 (zf_trow B (zf_turned B) s) 139) (zw B) (zh B) (zn B) := by rw [zr_s]; exact zf_trow_ok v.1 s8
        have hto := fun d P => sp_towardsOf (d := d) (Lh := Lh) (J := J) (P := P) (s := s) (by omega) ok1
        rw [zr_s, zf_to_eq (zf_trow_dl (Nat.le_refl s) (by omega)) (by omega) (v.1.2 s (by omega)).2.1] at hto
        obtain ⟨b, hb, eb⟩ := (v.1.2 s (by omega)).2.2.1
        have eb2 : zf_trow B (zf_turned B) s (117 + s) = nI b := by rw [zf_trow_l s (Nat.le_refl s)]; exact eb
        have hne : zf_to B (zw B) s ≠ -1 := by
          intro e
          have := zf_bs_bit (fun s => !zf_snow B && zf_turns B s) s (zn B) 0 0
          have q : (zf_turned B).testBit s = ((0 : Nat).testBit s || (decide (0 ≤ s) && decide (s < 0 + zn B) && (!zf_snow B && zf_turns B s))) := this
          rw [c, Nat.zero_testBit, Bool.false_or, eq_comm, Bool.and_eq_true, Bool.and_eq_true] at q
          have q2 := q.2
          unfold zf_turns zf_off at q2
          rw [if_pos e, decide_eq_true rfl] at q2
          exact absurd q2 (by simp)
        obtain ⟨a, ha, ea⟩ : ∃ a, a < 8 ∧ zf_to B (zw B) s = nI a := by
          rcases zf_to8 B (zw B) s with e | ⟨a, ha, e⟩
          · exact absurd e hne
          · exact ⟨a, ha, e⟩
        have hc := zf_cw8 a b
        have end_ : zf_newdir B s = (b + if zf_cw a b ≤ 4 then 1 else 7) % 8 := by
          unfold zf_newdir
          rw [ea, eb, zf_nat, zf_nat, nI_clamp (by omega), nI_clamp (by omega)]
        obtain ⟨I2, q, v2', h2⟩ := ih (s + 1) (zx_ur I0 139 (zu1 (zf_trow B (zf_turned B) s) (117 + s) (nI (zf_newdir B s)))) (.int (nI (zf_cw a b))) (by omega) ⟨I0, f, g, by rw [zf_trow_s, c, if_pos rfl]⟩
        refine ⟨I2, q, v2', fun d P => ?_⟩
        rw [← h2 d P, zs_204_49, end_]
        have e8 : (a + 8 - b) % 8 = zf_cw a b := rfl
        by_cases c4 : 4 < zf_cw a b
        · have c5 : ¬ zf_cw a b ≤ 4 := by omega
          simp (disch := omega) only [↓zs_204_50, ↓zs_204_51, ↓zs_204_54, ↓zs_204_55, ↓zs_204_56, ↓zs_204_59, ↓zs_204_60, ↓zs_204_63, ↓zs_204_64, ↓zs_204_65, ↓zs_204_68, ↓zs_204_71, ↓zs_204_74, ↓zs_204_75, ↓zs_204_76, ↓zs_204_79, ↓zs_204_80, ↓zs_204_83, ↓zs_204_85, ↓zs_204_86, ↓zs_204_87, ↓zs_204_88, ↓zs_204_89, ↓zs_204_91, ↓zs_204_92, ↓zs_204_94, ↓zs_204_95, zx_pu_s, zx_pu_n, zx_rv_s, zx_rv_n, true_and, and_true, true_or, or_true, zb_0, zb_1, zq_lcl, zq_lcg, zq_lce, eq_self, ite_true, ite_false, zk_138, zw_138, zk_139, zw_139, zk_140, zw_140, zk_141, zw_141, zk_142, zw_142, zk_143, zw_143, zk_144, zw_144, zk_145, zw_145, zk_146, zw_146, zk_147, zw_147, zk_148, zw_148, zk_149, zw_149, zk_150, zw_150, zk_151, zw_151, zk_152, zw_152, zq_138_1, zq_138_2, zq_138_3, zq_138_4, zq_138_16, zq_138_19, zq_138_20, zq_138_24, zq_138_25, zq_138_26, zq_138_27, zq_138_31, zq_138_32, zq_138_33, zn_10, zn_40, zn_040, zn_340, nI_add, zin_nI, nI_clamp, nI_ltI, nI_eq, pk_mul, nI_l, zr_s, h3, hlt, e17, sp_isIn, hb2, c, zB_0, reduceCtorEq, nI_1, hto, ea, eb2, zq_cw ha hb, zq_8, not_false_eq_true, pk_div, zq_rem, e8]
          simp (disch := omega) only [↓zs_204_96, ↓zs_204_97, ↓zs_204_100, ↓zs_204_102, ↓zs_204_103, ↓zs_204_104, ↓zs_204_105, ↓zs_204_108, ↓zs_204_110, ↓zs_204_111, ↓zs_204_112, ↓zs_204_113, ↓zs_204_114, ↓zs_204_115, ↓zs_204_118, ↓zs_204_119, ↓zs_204_122, ↓zs_204_124, ↓zs_204_125, ↓zs_204_127, ↓zs_204_128, ↓zs_204_129, ↓zs_204_132, zx_pu_s, zx_pu_n, zx_rv_s, zx_rv_n, true_and, and_true, true_or, or_true, zb_0, zb_1, zq_lcl, zq_lcg, zq_lce, eq_self, ite_true, ite_false, zk_138, zw_138, zk_139, zw_139, zk_140, zw_140, zk_141, zw_141, zk_142, zw_142, zk_143, zw_143, zk_144, zw_144, zk_145, zw_145, zk_146, zw_146, zk_147, zw_147, zk_148, zw_148, zk_149, zw_149, zk_150, zw_150, zk_151, zw_151, zk_152, zw_152, zq_138_1, zq_138_2, zq_138_3, zq_138_4, zq_138_16, zq_138_19, zq_138_20, zq_138_24, zq_138_25, zq_138_26, zq_138_27, zq_138_31, zq_138_32, zq_138_33, zn_10, zn_40, zn_040, zn_340, nI_add, zin_nI, nI_clamp, nI_ltI, nI_eq, pk_mul, nI_l, zr_s, eb2, c4, c5, zq_8, not_false_eq_true, pk_div, zq_rem, zu_ur, nI_1, if_true, if_false]
        · have c5 : zf_cw a b ≤ 4 := by omega
          simp (disch := omega) only [↓zs_204_50, ↓zs_204_51, ↓zs_204_54, ↓zs_204_55, ↓zs_204_56, ↓zs_204_59, ↓zs_204_60, ↓zs_204_63, ↓zs_204_64, ↓zs_204_65, ↓zs_204_68, ↓zs_204_71, ↓zs_204_74, ↓zs_204_75, ↓zs_204_76, ↓zs_204_79, ↓zs_204_80, ↓zs_204_83, ↓zs_204_85, ↓zs_204_86, ↓zs_204_87, ↓zs_204_88, ↓zs_204_89, ↓zs_204_91, ↓zs_204_92, ↓zs_204_94, ↓zs_204_95, zx_pu_s, zx_pu_n, zx_rv_s, zx_rv_n, true_and, and_true, true_or, or_true, zb_0, zb_1, zq_lcl, zq_lcg, zq_lce, eq_self, ite_true, ite_false, zk_138, zw_138, zk_139, zw_139, zk_140, zw_140, zk_141, zw_141, zk_142, zw_142, zk_143, zw_143, zk_144, zw_144, zk_145, zw_145, zk_146, zw_146, zk_147, zw_147, zk_148, zw_148, zk_149, zw_149, zk_150, zw_150, zk_151, zw_151, zk_152, zw_152, zq_138_1, zq_138_2, zq_138_3, zq_138_4, zq_138_16, zq_138_19, zq_138_20, zq_138_24, zq_138_25, zq_138_26, zq_138_27, zq_138_31, zq_138_32, zq_138_33, zn_10, zn_40, zn_040, zn_340, nI_add, zin_nI, nI_clamp, nI_ltI, nI_eq, pk_mul, nI_l, zr_s, h3, hlt, e17, sp_isIn, hb2, c, zB_0, reduceCtorEq, nI_1, hto, ea, eb2, zq_cw ha hb, zq_8, not_false_eq_true, pk_div, zq_rem, e8]
          simp (disch := omega) only [↓zs_204_96, ↓zs_204_97, ↓zs_204_100, ↓zs_204_102, ↓zs_204_103, ↓zs_204_104, ↓zs_204_105, ↓zs_204_108, ↓zs_204_110, ↓zs_204_111, ↓zs_204_112, ↓zs_204_113, ↓zs_204_114, ↓zs_204_115, ↓zs_204_118, ↓zs_204_119, ↓zs_204_122, ↓zs_204_124, ↓zs_204_125, ↓zs_204_127, ↓zs_204_128, ↓zs_204_129, ↓zs_204_132, zx_pu_s, zx_pu_n, zx_rv_s, zx_rv_n, true_and, and_true, true_or, or_true, zb_0, zb_1, zq_lcl, zq_lcg, zq_lce, eq_self, ite_true, ite_false, zk_138, zw_138, zk_139, zw_139, zk_140, zw_140, zk_141, zw_141, zk_142, zw_142, zk_143, zw_143, zk_144, zw_144, zk_145, zw_145, zk_146, zw_146, zk_147, zw_147, zk_148, zw_148, zk_149, zw_149, zk_150, zw_150, zk_151, zw_151, zk_152, zw_152, zq_138_1, zq_138_2, zq_138_3, zq_138_4, zq_138_16, zq_138_19, zq_138_20, zq_138_24, zq_138_25, zq_138_26, zq_138_27, zq_138_31, zq_138_32, zq_138_33, zn_10, zn_40, zn_040, zn_340, nI_add, zin_nI, nI_clamp, nI_ltI, nI_eq, pk_mul, nI_l, zr_s, eb2, c4, c5, zq_8, not_false_eq_true, pk_div, zq_rem, zu_ur, nI_1, if_true, if_false]
  obtain ⟨I1, f1, g1, h1⟩ := loop1 (zn B) 0 0 (zx_u I 138 17 (nI 0)) (zFs_u _ _ _ (by omega)) (zu_s _ _ _ _) (by omega)
  obtain ⟨I2, ⟨I0, f0, g0, rfl⟩, v2', h2⟩ := loop2 (zn B) 0 I1 zx_u0 (by omega) ⟨I1, f1, g1, by
    rw [zf_trow_0]
    have e := zFs_row f1 (a := 139) (by decide) (by decide)
    have := zr_id I1 139
    rw [e, ← hB] at this
    exact this.symm⟩
  have h1s := zf_next_sm N8
  have hl := zSm_let h1s v.2.2.2.2.1
  have ek := (zSm_k h1s).2.2.2.1
  have hlet := fun d P => sp_letters (Lh := Lh) (I := I0) (J := J) (B := zf_next B) hl (d := d) (P := P)
  rw [ek] at hlet
  have e133 : zf_trow B (zf_turned B) (zn B) 133 = nI (zt B) := by rw [zf_trow_o N8 133 (by omega)]; exact v.2.2.2.2.2.2.1
  have g17 : ∀ x, zx_u (zx_ur I0 139 (zf_night B)) 138 18 x 138 17 = nI (zf_turned B) := fun x => by rw [zu_n (by decide), zr_o (by decide)]; exact g0
  have tl : zf_turned B < 2 ^ 8 := zf_bs_lt _ (by omega) (by decide)
  have hcnt : zf_cnt (zf_bit (lN (zf_turned B))) 64 0 = zf_cnt (zf_turned B).testBit 64 0 := zf_cnt_eq _ _ _ _ (fun j _ h => zt_nat (by omega))
  refine ⟨zx_u (zx_ur I0 139 (zf_night B)) 138 18 (nI (zf_came B)), ?_, ?_, g17 _, zu_s _ _ _ _, fun d P => ?_⟩
  · intro a j n
    rw [zu_n (fun e => n (by omega)), zr_o (fun e => n (.inl e))]
    exact f0 a j (fun e => n (.inr e))
  · rw [zu_o (by decide), zr_s]
  · rw [ze_204]
    have en : zf_lets (zf_next B) (zl B) 0 (zf_next B) = zf_night B := rfl
    have ec : zf_cnt (fun k => decide (zf_next B (7 + 3 * k) = zf_next B 133)) (zl B) 0 = zf_came B := rfl
    have ex : zu1 (zf_trow B (zf_turned B) (zn B)) 133 (nI (zt B + 1)) = zf_next B := rfl
    simp (disch := omega) only [↓zs_204_0, ↓zs_204_1, ↓zs_204_2, ↓zs_204_5, ↓zs_204_6, zx_pu_s, zx_pu_n, zx_rv_s, zx_rv_n, true_and, and_true, true_or, or_true, zb_0, zb_1, zq_lcl, zq_lcg, zq_lce, eq_self, ite_true, ite_false, zk_138, zw_138, zk_139, zw_139, zk_140, zw_140, zk_141, zw_141, zk_142, zw_142, zk_143, zw_143, zk_144, zw_144, zk_145, zw_145, zk_146, zw_146, zk_147, zw_147, zk_148, zw_148, zk_149, zw_149, zk_150, zw_150, zk_151, zw_151, zk_152, zw_152, zq_138_1, zq_138_2, zq_138_3, zq_138_4, zq_138_16, zq_138_19, zq_138_20, zq_138_24, zq_138_25, zq_138_26, zq_138_27, zq_138_31, zq_138_32, zq_138_33]
    rw [h1]
    simp only [↓zs_204_47, ↓zs_204_48, zx_pu_s, zx_pu_n, zx_rv_s, zx_rv_n, true_and, and_true, true_or, or_true, zb_0, zb_1, zq_lcl, zq_lcg, zq_lce, eq_self, ite_true, ite_false]
    rw [h2]
    simp (disch := omega) only [↓zs_204_135, ↓zs_204_136, ↓zs_204_139, ↓zs_204_142, ↓zs_204_143, ↓zs_204_144, ↓zs_204_145, ↓zs_204_146, ↓zs_204_147, ↓zs_204_148, ↓zs_204_149, ↓zs_204_152, ↓zs_204_155, ↓zs_204_156, ↓zs_204_159, ↓zs_204_160, ↓zs_204_163, zx_pu_s, zx_pu_n, zx_rv_s, zx_rv_n, true_and, and_true, true_or, or_true, zb_0, zb_1, zq_lcl, zq_lcg, zq_lce, eq_self, ite_true, ite_false, zk_138, zw_138, zk_139, zw_139, zk_140, zw_140, zk_141, zw_141, zk_142, zw_142, zk_143, zw_143, zk_144, zw_144, zk_145, zw_145, zk_146, zw_146, zk_147, zw_147, zk_148, zw_148, zk_149, zw_149, zk_150, zw_150, zk_151, zw_151, zk_152, zw_152, zq_138_1, zq_138_2, zq_138_3, zq_138_4, zq_138_16, zq_138_19, zq_138_20, zq_138_24, zq_138_25, zq_138_26, zq_138_27, zq_138_31, zq_138_32, zq_138_33, zn_10, zn_40, zn_040, zn_340, nI_add, zin_nI, nI_clamp, nI_ltI, nI_eq, pk_mul, nI_l, zr_s, e133, zu_ur, nI_1, ex, hlet, en, ec, g17, sp_bits, hcnt]
end NI
