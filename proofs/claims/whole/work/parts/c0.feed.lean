/-! feed -/
def zf_yt (x : Int32) (s : Nat) : Nat := x.toBitVec.toNat / 2 ^ s % 2 ^ 8
theorem zf_yt_lt (x : Int32) (s : Nat) : zf_yt x s < 256 := Nat.mod_lt _ (by decide)
theorem zf_yt_m (x : Int32) {s : Nat} (hs : s < 25) : (x >>> (nI s &&& 31)) &&& nI 255 = nI (zf_yt x s) := by
  have e : (((nI s &&& 31 : Int32).toBitVec).smod 32).toNat = s := by
    have h : ∀ s : Fin 25, (((nI s.1 &&& 31 : Int32).toBitVec).smod 32).toNat = s.1 := by decide +kernel
    exact h ⟨s, hs⟩
  rw [pk_and _ 8 (by decide)]
  congr 1
  unfold zf_yt
  apply Nat.eq_of_testBit_eq
  intro j
  rw [Nat.testBit_mod_two_pow, Nat.testBit_mod_two_pow, Nat.testBit_div_two_pow, BitVec.testBit_toNat, BitVec.testBit_toNat, Int32.toBitVec_shiftRight, BitVec.sshiftRight_eq', e, BitVec.getLsbD_sshiftRight]
  by_cases c : j < 8
  · rw [decide_eq_true c, Bool.true_and, Bool.true_and, decide_eq_false (by omega), Bool.not_false, Bool.true_and, if_pos (by omega), Nat.add_comm]
  · rw [decide_eq_false c, Bool.false_and, Bool.false_and]
theorem zf_yt_c (x : Int32) {s : Nat} (hs : s < 25) : (x.toUInt32 >>> ((nI s).toUInt32 &&& Int32.toUInt32 31)).toInt32.toInt8.toInt32.toInt8.toInt32 = (nI (zf_yt x s)).toInt8.toInt32 := by
  have e : (((nI s).toUInt32 &&& Int32.toUInt32 31).toBitVec % 32).toNat = s := by
    have h : ∀ s : Fin 25, (((nI s.1).toUInt32 &&& Int32.toUInt32 31).toBitVec % 32).toNat = s.1 := by decide +kernel
    exact h ⟨s, hs⟩
  rw [Int8.toInt8_toInt32]
  congr 1
  apply Int8.toBitVec_inj.mp
  apply BitVec.eq_of_getLsbD_eq
  intro j hj
  rw [Int32.toBitVec_toInt8, Int32.toBitVec_toInt8, BitVec.getLsbD_signExtend, BitVec.getLsbD_signExtend, if_pos (by omega), if_pos (by omega)]
  congr 1
  show (x.toUInt32 >>> ((nI s).toUInt32 &&& Int32.toUInt32 31)).toBitVec.getLsbD j = (BitVec.ofNat 32 (zf_yt x s)).getLsbD j
  rw [UInt32.toBitVec_shiftRight, BitVec.ushiftRight_eq', e, BitVec.getLsbD_ushiftRight, BitVec.getLsbD_ofNat, decide_eq_true (by omega), Bool.true_and]
  unfold zf_yt
  rw [Nat.testBit_mod_two_pow, decide_eq_true (by omega), Bool.true_and, Nat.testBit_div_two_pow, BitVec.testBit_toNat, Nat.add_comm]
  rfl
def zf_fa (a b c e f : Int32) (i : Nat) : Int32 := if i < 4 then a else if i < 8 then b else if i < 12 then c else if i < 16 then e else f
/-- byte i of those that one call brings -/
def zf_fb (a b c e f : Int32) (i : Nat) : Nat := zf_yt (zf_fa a b c e f i) (24 - 8 * (i % 4))
theorem zInv_tp {I I2 : zx_MI} {J : zx_MJ} {m : Nat} (v : zInv I J m) (hI : ∀ a j, ¬ (zSc a j ∨ a = 85 ∨ a = 141 ∨ (a = 0 ∧ j = 12) ∨ (a = 138 ∧ j = 5)) → I2 a j = I a j) (ht : zI_tape I2) : zInv I2 J m := by
  have row : ∀ a, ((1 ≤ a ∧ a ≤ 3) ∨ (6 ≤ a ∧ a ≤ 14) ∨ (23 ≤ a ∧ a ≤ 64) ∨ (79 ≤ a ∧ a ≤ 84) ∨ (86 ≤ a ∧ a ≤ 137) ∨ a = 139 ∨ a = 140 ∨ a = 142 ∨ 150 ≤ a) → I2 a = I a := fun a ha => funext fun j => hI a j (by unfold zSc; omega)
  obtain ⟨v1, v2, v3, v4, v5, v6, v7, v8, v9, v10⟩ := v
  have e139 := row 139 (by omega)
  refine ⟨?_, ?_, ?_, ?_, ?_, ?_, ?_, ht, ?_, ?_⟩
  · intro a j ha; rw [row a (by omega)]; exact v1 a j ha
  · rw [e139]; exact v2
  · rw [e139]; exact zR_sq_f v3 (fun a j h1 h2 h3 h4 => by rw [row a (by omega)]) (fun j => rfl)
  · rw [e139]; exact zR_st_f v4 (fun a j h1 h2 => by rw [row a (by omega)])
  · obtain ⟨e, D, he, hD, h1, h2, h3, h4⟩ := v5
    refine ⟨e, D, he, hD, by rw [row 23 (by omega)]; exact h1, by rw [row 23 (by omega)]; exact h2, by rw [e139]; exact h3, fun i hi => ?_⟩
    rw [e139]
    have hm : (e + i) % 10 < 10 := Nat.mod_lt _ (by omega)
    exact ⟨zR_st_f (h4 i hi).1 (fun a j h1 h2 => by rw [row a (by omega)]), (h4 i hi).2⟩
  · intro i hi
    obtain ⟨b, b1, b2, b3⟩ := v6 i hi
    refine ⟨b, by rw [row 82 (by omega)]; exact b1, by rw [row 140 (by omega)]; exact b2, fun hb => ?_⟩
    obtain ⟨c1, c2, c3⟩ := b3 hb
    rw [e139]
    exact ⟨zR_sq_f c1 (fun a j h1 h2 h3 h4 => by rw [row a (by omega)]) (fun j => rfl), zR_st_f c2 (fun a j h1 h2 => by rw [row a (by omega)]), c3⟩
  · intro t ht
    rw [row 150 (by omega), row 151 (by omega), row (102 + 2 * t) (by omega)]
    exact v7 t ht
  · rw [hI 0 13 (by unfold zSc; omega), hI 138 13 (by unfold zSc; omega)]; exact v9
  · rw [hI 0 14 (by unfold zSc; omega), hI 138 14 (by unfold zSc; omega)]; exact v10
section FE
variable {Lh m : Nat} {I : zx_MI} {J : zx_MJ}
theorem sc_tapeInt {p : Nat} (x : Int32) (hp : p + 4 ≤ 900) (e : I 0 12 = nI p) : ∃ I2, (∀ a j, ¬ ((a = 0 ∧ j = 12) ∨ (a = 85 ∧ p ≤ j ∧ j < p + 4)) → I2 a j = I a j) ∧ I2 0 12 = nI (p + 4) ∧ (∀ j, j < 4 → I2 85 (p + j) = (nI (zf_yt x (24 - 8 * j))).toInt8.toInt32) ∧ ∀ d P, zx_rn d 101 [.ref 0, .int x] (zx_LL Lh) I J P = P none (zx_LL Lh) I2 J := by
  have e900 : Int32.ofNat 900 = nI 900 := rfl
  have k1 : ((1 : Nat) = 1 ∨ (1 : Nat) = 2) = True := eq_true (.inl rfl)
  have b1 : ∀ y : Int32, zx_bst 1 y = y.toInt8.toInt32 := fun y => rfl
  have m8 : ((-8 : Int32) < nI 0) = True := eq_true (by decide)
  have step : ∀ q s (I1 : zx_MI), q < 900 → s < 25 → I1 0 12 = nI q → ∀ d P, zx_wp d 101 14 [.ref 0, .int x, .ref 85, .int (nI s)] [] (zx_LL Lh) I1 J P = zx_wp d 101 14 [.ref 0, .int x, .ref 85, .int (nI s + -8)] [] (zx_LL Lh) (zx_u (zx_u I1 85 q (nI (zf_yt x s)).toInt8.toInt32) 0 12 (nI (q + 1))) J P := by
    intro q s I1 hq hs e1 d P
    have by1 := zf_yt_c x hs
    have e2 : ∀ y, zx_u I1 85 q y 0 12 = nI q := fun y => (zu_n (by omega)).trans e1
    rw [zs_101_14]
    simp (disch := omega) only [↓zs_101_15, ↓zs_101_18, ↓zs_101_19, ↓zs_101_22, ↓zs_101_25, ↓zs_101_26, ↓zs_101_29, ↓zs_101_30, ↓zs_101_31, ↓zs_101_34, ↓zs_101_35, ↓zs_101_36, ↓zs_101_39, ↓zs_101_40, ↓zs_101_41, ↓zs_101_42, ↓zs_101_43, ↓zs_101_44, ↓zs_101_45, ↓zs_101_46, ↓zs_101_49, ↓zs_101_50, ↓zs_101_51, ↓zs_101_54, ↓zs_101_57, ↓zs_101_60, zx_pu_s, zx_pu_n, zx_rv_s, zx_rv_n, true_and, and_true, true_or, or_true, zb_0, zb_1, zq_lcl, zq_lcg, zq_lce, eq_self, ite_true, ite_false, zk_0, zw_0, zq_0_0, zq_0_1, zq_0_2, zq_0_3, zq_0_4, zq_0_5, zq_0_6, zq_0_7, zq_0_8, zq_0_9, zq_0_10, zq_0_11, zk_85, zw_85, nI_ltI, zn_lt0, e900, e1, hq, k1, zin_nI, nI_clamp, b1, by1, e2, nI_add, zn_1940, Nat.reduceLT]
  refine ⟨(zx_u (zx_u (zx_u (zx_u (zx_u (zx_u (zx_u (zx_u I 85 p ((nI (zf_yt x 24)).toInt8.toInt32)) 0 12 (nI (p + 1))) 85 (p + 1) ((nI (zf_yt x 16)).toInt8.toInt32)) 0 12 (nI ((p + 1) + 1))) 85 (p + 2) ((nI (zf_yt x 8)).toInt8.toInt32)) 0 12 (nI ((p + 2) + 1))) 85 (p + 3) ((nI (zf_yt x 0)).toInt8.toInt32)) 0 12 (nI ((p + 3) + 1))), ?_, ?_, ?_, fun d P => ?_⟩
  case refine_4 =>
    rw [ze_101]
    simp (disch := omega) only [↓zs_101_0, ↓zs_101_1, ↓zs_101_4, ↓zs_101_7, ↓zs_101_10, ↓zs_101_11, ↓zs_101_13, zx_pu_s, zx_pu_n, zx_rv_s, zx_rv_n, true_and, and_true, true_or, or_true, zb_0, zb_1, zq_lcl, zq_lcg, zq_lce, eq_self, ite_true, ite_false, zk_0, zw_0, zq_0_0, zq_0_1, zq_0_2, zq_0_3, zq_0_4, zq_0_5, zq_0_6, zq_0_7, zq_0_8, zq_0_9, zq_0_10, zq_0_11, zk_83, zw_83, zk_84, zw_84, zk_85, zw_85, zq_83_0, zq_83_1, zq_83_2, zq_83_3, zq_84_0]
    rw [step p 24 I (by omega) (by omega) e, show nI 24 + -8 = nI 16 by decide, step (p + 1) 16 _ (by omega) (by omega) (zu_s _ _ _ _), show nI 16 + -8 = nI 8 by decide, step (p + 2) 8 _ (by omega) (by omega) (zu_s _ _ _ _), show nI 8 + -8 = nI 0 by decide, step (p + 3) 0 _ (by omega) (by omega) (zu_s _ _ _ _), show nI 0 + -8 = (-8 : Int32) by decide, zs_101_14]
    simp (disch := omega) only [↓zs_101_15, ↓zs_101_18, ↓zs_101_19, ↓zs_101_22, ↓zs_101_25, ↓zs_101_26, ↓zs_101_29, ↓zs_101_30, ↓zs_101_31, ↓zs_101_34, ↓zs_101_35, ↓zs_101_36, ↓zs_101_39, ↓zs_101_40, ↓zs_101_41, ↓zs_101_42, ↓zs_101_43, ↓zs_101_44, ↓zs_101_45, ↓zs_101_46, ↓zs_101_49, ↓zs_101_50, ↓zs_101_51, ↓zs_101_54, ↓zs_101_57, ↓zs_101_60, zx_pu_s, zx_pu_n, zx_rv_s, zx_rv_n, true_and, and_true, true_or, or_true, zb_0, zb_1, zq_lcl, zq_lcg, zq_lce, eq_self, ite_true, ite_false, m8]
  · intro a j h
    rw [zu_n (by omega), zu_n (by omega), zu_n (by omega), zu_n (by omega), zu_n (by omega), zu_n (by omega), zu_n (by omega), zu_n (by omega)]
  · exact zu_s _ _ _ _
  · intro j hj
    rcases (show j = 0 ∨ j = 1 ∨ j = 2 ∨ j = 3 by omega) with q | q | q | q <;> subst q
    · rw [zu_n (by omega), zu_n (by omega), zu_n (by omega), zu_n (by omega), zu_n (by omega), zu_n (by omega), zu_n (by omega), Nat.add_zero, zu_s]
    · rw [zu_n (by omega), zu_n (by omega), zu_n (by omega), zu_n (by omega), zu_n (by omega), zu_s]
    · rw [zu_n (by omega), zu_n (by omega), zu_n (by omega), zu_s]
    · rw [zu_n (by omega), zu_s]
theorem sp_feedL {p : Nat} {a b c e f : Int32} (hp : p + 20 ≤ 900) : ∀ mm k (I1 : zx_MI) v7, k + mm = 20 → (∀ a j, ¬ ((a = 138 ∧ (j = 5 ∨ j = 0)) ∨ (a = 141 ∧ p ≤ j ∧ j < p + 20)) → I1 a j = I a j) → I1 138 5 = nI (p + k) → (∀ j, j < k → I1 141 (p + j) = nI (zf_fb a b c e f j)) → ∃ I2, (∀ a j, ¬ ((a = 138 ∧ (j = 5 ∨ j = 0)) ∨ (a = 141 ∧ p ≤ j ∧ j < p + 20)) → I2 a j = I a j) ∧ I2 138 5 = nI (p + 20) ∧ (∀ j, j < 20 → I2 141 (p + j) = nI (zf_fb a b c e f j)) ∧ ∀ d P, zx_wp d 153 24 [.ref 138, .int a, .int b, .int c, .int e, .int f, .int (nI k), v7] [] (zx_LL Lh) I1 J P = P (some (.int (nI (p + 20)))) (zx_LL Lh) I2 J := by
  intro mm
  induction mm with
  | zero =>
    intro k I1 v7 hk fr g h
    obtain rfl : k = 20 := by omega
    refine ⟨I1, fr, g, h, fun d P => ?_⟩
    rw [zs_153_24]
    simp (disch := omega) only [↓zs_153_26, ↓zs_153_28, ↓zs_153_31, ↓zs_153_33, ↓zs_153_34, ↓zs_153_37, ↓zs_153_38, ↓zs_153_41, ↓zs_153_43, ↓zs_153_45, ↓zs_153_48, ↓zs_153_49, ↓zs_153_52, ↓zs_153_54, ↓zs_153_56, ↓zs_153_59, ↓zs_153_60, ↓zs_153_63, ↓zs_153_65, ↓zs_153_67, ↓zs_153_70, ↓zs_153_72, ↓zs_153_75, ↓zs_153_77, ↓zs_153_79, ↓zs_153_80, ↓zs_153_83, ↓zs_153_84, ↓zs_153_87, ↓zs_153_89, ↓zs_153_91, ↓zs_153_93, ↓zs_153_95, ↓zs_153_96, ↓zs_153_97, ↓zs_153_98, ↓zs_153_99, ↓zs_153_100, ↓zs_153_103, ↓zs_153_104, ↓zs_153_105, ↓zs_153_106, ↓zs_153_107, ↓zs_153_110, ↓zs_153_111, ↓zs_153_112, ↓zs_153_115, ↓zs_153_118, ↓zs_153_121, ↓zs_153_122, ↓zs_153_125, zx_pu_s, zx_pu_n, zx_rv_s, zx_rv_n, true_and, and_true, true_or, or_true, zb_0, zb_1, zq_lcl, zq_lcg, zq_lce, eq_self, ite_true, ite_false, zk_138, zw_138, zk_139, zw_139, zk_140, zw_140, zk_141, zw_141, zk_142, zw_142, zk_143, zw_143, zk_144, zw_144, zk_145, zw_145, zk_146, zw_146, zk_147, zw_147, zk_148, zw_148, zk_149, zw_149, zk_150, zw_150, zk_151, zw_151, zk_152, zw_152, zq_138_1, zq_138_2, zq_138_3, zq_138_4, zq_138_16, zq_138_19, zq_138_20, zq_138_24, zq_138_25, zq_138_26, zq_138_27, zq_138_31, zq_138_32, zq_138_33, nI_ltI, Nat.lt_irrefl, g]
  | succ mm ih =>
    intro k I1 v7 hk fr g h
    have hlt : k < 20 := by omega
    have c40 : (nI 4 = 0) = False := eq_false (by decide)
    have em : k - k / 4 * 4 = k % 4 := by omega
    have hb := zf_yt_m (zf_fa a b c e f k) (s := 24 - 8 * (k % 4)) (by omega)
    have pick : ∀ d P, zx_wp d 153 31 [.ref 138, .int a, .int b, .int c, .int e, .int f, .int (nI k), v7] [] (zx_LL Lh) I1 J P = zx_wp d 153 79 [.ref 138, .int a, .int b, .int c, .int e, .int f, .int (nI k), .int (zf_fa a b c e f k)] [] (zx_LL Lh) I1 J P := by
      intro d P
      unfold zf_fa
      by_cases c1 : k < 4
      · rw [if_pos c1]
        simp (disch := omega) only [↓zs_153_31, ↓zs_153_33, ↓zs_153_34, ↓zs_153_37, ↓zs_153_38, ↓zs_153_41, ↓zs_153_43, ↓zs_153_45, ↓zs_153_48, ↓zs_153_49, ↓zs_153_52, ↓zs_153_54, ↓zs_153_56, ↓zs_153_59, ↓zs_153_60, ↓zs_153_63, ↓zs_153_65, ↓zs_153_67, ↓zs_153_70, ↓zs_153_72, ↓zs_153_75, ↓zs_153_77, zx_pu_s, zx_pu_n, zx_rv_s, zx_rv_n, true_and, and_true, true_or, or_true, zb_0, zb_1, zq_lcl, zq_lcg, zq_lce, eq_self, ite_true, ite_false, nI_ltI, c1]
      · rw [if_neg c1]
        by_cases c2 : k < 8
        · rw [if_pos c2]
          simp (disch := omega) only [↓zs_153_31, ↓zs_153_33, ↓zs_153_34, ↓zs_153_37, ↓zs_153_38, ↓zs_153_41, ↓zs_153_43, ↓zs_153_45, ↓zs_153_48, ↓zs_153_49, ↓zs_153_52, ↓zs_153_54, ↓zs_153_56, ↓zs_153_59, ↓zs_153_60, ↓zs_153_63, ↓zs_153_65, ↓zs_153_67, ↓zs_153_70, ↓zs_153_72, ↓zs_153_75, ↓zs_153_77, zx_pu_s, zx_pu_n, zx_rv_s, zx_rv_n, true_and, and_true, true_or, or_true, zb_0, zb_1, zq_lcl, zq_lcg, zq_lce, eq_self, ite_true, ite_false, nI_ltI, c1, c2]
        · rw [if_neg c2]
          by_cases c3 : k < 12
          · rw [if_pos c3]
            simp (disch := omega) only [↓zs_153_31, ↓zs_153_33, ↓zs_153_34, ↓zs_153_37, ↓zs_153_38, ↓zs_153_41, ↓zs_153_43, ↓zs_153_45, ↓zs_153_48, ↓zs_153_49, ↓zs_153_52, ↓zs_153_54, ↓zs_153_56, ↓zs_153_59, ↓zs_153_60, ↓zs_153_63, ↓zs_153_65, ↓zs_153_67, ↓zs_153_70, ↓zs_153_72, ↓zs_153_75, ↓zs_153_77, zx_pu_s, zx_pu_n, zx_rv_s, zx_rv_n, true_and, and_true, true_or, or_true, zb_0, zb_1, zq_lcl, zq_lcg, zq_lce, eq_self, ite_true, ite_false, nI_ltI, c1, c2, c3]
          · rw [if_neg c3]
            by_cases c4 : k < 16
            · rw [if_pos c4]
              simp (disch := omega) only [↓zs_153_31, ↓zs_153_33, ↓zs_153_34, ↓zs_153_37, ↓zs_153_38, ↓zs_153_41, ↓zs_153_43, ↓zs_153_45, ↓zs_153_48, ↓zs_153_49, ↓zs_153_52, ↓zs_153_54, ↓zs_153_56, ↓zs_153_59, ↓zs_153_60, ↓zs_153_63, ↓zs_153_65, ↓zs_153_67, ↓zs_153_70, ↓zs_153_72, ↓zs_153_75, ↓zs_153_77, zx_pu_s, zx_pu_n, zx_rv_s, zx_rv_n, true_and, and_true, true_or, or_true, zb_0, zb_1, zq_lcl, zq_lcg, zq_lce, eq_self, ite_true, ite_false, nI_ltI, c1, c2, c3, c4]
            · rw [if_neg c4]
              simp (disch := omega) only [↓zs_153_31, ↓zs_153_33, ↓zs_153_34, ↓zs_153_37, ↓zs_153_38, ↓zs_153_41, ↓zs_153_43, ↓zs_153_45, ↓zs_153_48, ↓zs_153_49, ↓zs_153_52, ↓zs_153_54, ↓zs_153_56, ↓zs_153_59, ↓zs_153_60, ↓zs_153_63, ↓zs_153_65, ↓zs_153_67, ↓zs_153_70, ↓zs_153_72, ↓zs_153_75, ↓zs_153_77, zx_pu_s, zx_pu_n, zx_rv_s, zx_rv_n, true_and, and_true, true_or, or_true, zb_0, zb_1, zq_lcl, zq_lcg, zq_lce, eq_self, ite_true, ite_false, nI_ltI, c1, c2, c3, c4]
    have e2 : ∀ y, zx_u I1 141 (p + k) y 138 5 = nI (p + k) := fun y => (zu_n (by omega)).trans g
    obtain ⟨I2, f2, g2, h2, hh⟩ := ih (k + 1) (zx_u (zx_u I1 141 (p + k) (nI (zf_fb a b c e f k))) 138 5 (nI (p + k + 1))) (.int (zf_fa a b c e f k)) (by omega) (fun a j n => by rw [zu_n (by omega), zu_n (by omega)]; exact fr a j n) (zu_s _ _ _ _) (fun j hj => by
      rw [zu_n (by omega)]
      by_cases q : j = k
      · subst q; exact zu_s _ _ _ _
      · rw [zu_n (by omega)]; exact h j (by omega))
    refine ⟨I2, f2, g2, h2, fun d P => ?_⟩
    have eb : nI (zf_yt (zf_fa a b c e f k) (24 - 8 * (k % 4))) = nI (zf_fb a b c e f k) := rfl
    rw [← hh d P, zs_153_24]
    simp (disch := omega) only [↓zs_153_26, ↓zs_153_28, zx_pu_s, zx_pu_n, zx_rv_s, zx_rv_n, true_and, and_true, true_or, or_true, zb_0, zb_1, zq_lcl, zq_lcg, zq_lce, eq_self, ite_true, ite_false, nI_ltI, hlt]
    rw [pick]
    simp (disch := omega) only [↓zs_153_79, ↓zs_153_80, ↓zs_153_83, ↓zs_153_84, ↓zs_153_87, ↓zs_153_89, ↓zs_153_91, ↓zs_153_93, ↓zs_153_95, ↓zs_153_96, ↓zs_153_97, ↓zs_153_98, ↓zs_153_99, ↓zs_153_100, ↓zs_153_103, ↓zs_153_104, ↓zs_153_105, ↓zs_153_106, ↓zs_153_107, ↓zs_153_110, ↓zs_153_111, ↓zs_153_112, ↓zs_153_115, ↓zs_153_118, ↓zs_153_121, ↓zs_153_122, ↓zs_153_125, zx_pu_s, zx_pu_n, zx_rv_s, zx_rv_n, true_and, and_true, true_or, or_true, zb_0, zb_1, zq_lcl, zq_lcg, zq_lce, eq_self, ite_true, ite_false, zk_138, zw_138, zk_139, zw_139, zk_140, zw_140, zk_141, zw_141, zk_142, zw_142, zk_143, zw_143, zk_144, zw_144, zk_145, zw_145, zk_146, zw_146, zk_147, zw_147, zk_148, zw_148, zk_149, zw_149, zk_150, zw_150, zk_151, zw_151, zk_152, zw_152, zq_138_1, zq_138_2, zq_138_3, zq_138_4, zq_138_16, zq_138_19, zq_138_20, zq_138_24, zq_138_25, zq_138_26, zq_138_27, zq_138_31, zq_138_32, zq_138_33, g, c40, not_false_eq_true, pk_div, zq_rem, em, pk_mul, pk_sub, hb, eb, zin_nI, nI_clamp, e2, nI_add]
theorem d_feed (v : zInv I J m) (a b c e f : Int32) : zD Lh 100 153 [.int a, .int b, .int c, .int e, .int f] I J m := by
  obtain ⟨p, hp, p1, p2, p3⟩ := v.2.2.2.2.2.2.2.1
  have e900 : Int32.ofNat 900 = nI 900 := rfl
  by_cases c9 : 900 < p + 20
  · refine ⟨.int (-5), I, J, zx_u I 138 0 (nI 0), J, fun d P => ?_, fun d P => ?_, zInv_scr (zScr_s (zFs_0 _ _)) v⟩
    · rw [ze_100]
      simp (disch := omega) only [↓zs_100_0, ↓zs_100_1, ↓zs_100_4, ↓zs_100_7, ↓zs_100_8, ↓zs_100_11, ↓zs_100_13, ↓zs_100_14, ↓zs_100_17, ↓zs_100_20, ↓zs_100_22, zx_pu_s, zx_pu_n, zx_rv_s, zx_rv_n, true_and, and_true, true_or, or_true, zb_0, zb_1, zq_lcl, zq_lcg, zq_lce, eq_self, ite_true, ite_false, zk_0, zw_0, zq_0_0, zq_0_1, zq_0_2, zq_0_3, zq_0_4, zq_0_5, zq_0_6, zq_0_7, zq_0_8, zq_0_9, zq_0_10, zq_0_11, zk_85, zw_85, p1, e900, nI_ltI, zn_lt0, nI_add, c9, zn_1940, Nat.reduceLT]
    · have e2 : zx_u I 138 0 (nI 0) 138 5 = nI p := (zu_n (by omega)).trans p2
      rw [ze_153]
      simp (disch := omega) only [↓zs_153_0, ↓zs_153_1, ↓zs_153_2, ↓zs_153_5, ↓zs_153_6, ↓zs_153_9, ↓zs_153_11, ↓zs_153_12, ↓zs_153_15, ↓zs_153_18, ↓zs_153_20, ↓zs_153_21, ↓zs_153_22, zx_pu_s, zx_pu_n, zx_rv_s, zx_rv_n, true_and, and_true, true_or, or_true, zb_0, zb_1, zq_lcl, zq_lcg, zq_lce, eq_self, ite_true, ite_false, zk_138, zw_138, zk_139, zw_139, zk_140, zw_140, zk_141, zw_141, zk_142, zw_142, zk_143, zw_143, zk_144, zw_144, zk_145, zw_145, zk_146, zw_146, zk_147, zw_147, zk_148, zw_148, zk_149, zw_149, zk_150, zw_150, zk_151, zw_151, zk_152, zw_152, zq_138_1, zq_138_2, zq_138_3, zq_138_4, zq_138_16, zq_138_19, zq_138_20, zq_138_24, zq_138_25, zq_138_26, zq_138_27, zq_138_31, zq_138_32, zq_138_33, e2, nI_ltI, nI_add, c9]
  · obtain ⟨I1, f1, g1, h1, t1⟩ := sc_tapeInt (Lh := Lh) (I := I) (J := J) (p := p) a (by omega) p1
    obtain ⟨I2, f2, g2, h2, t2⟩ := sc_tapeInt (Lh := Lh) (I := I1) (J := J) (p := p + 4) b (by omega) g1
    obtain ⟨I3, f3, g3, h3, t3⟩ := sc_tapeInt (Lh := Lh) (I := I2) (J := J) (p := p + 4 + 4) c (by omega) g2
    obtain ⟨I4, f4, g4, h4, t4⟩ := sc_tapeInt (Lh := Lh) (I := I3) (J := J) (p := p + 4 + 4 + 4) e (by omega) g3
    obtain ⟨I5, f5, g5, h5, t5⟩ := sc_tapeInt (Lh := Lh) (I := I4) (J := J) (p := p + 4 + 4 + 4 + 4) f (by omega) g4
    have fr : ∀ a j, ¬ ((a = 0 ∧ j = 12) ∨ (a = 85 ∧ p ≤ j ∧ j < p + 20)) → I5 a j = I a j := fun a j n => by
      rw [f5 a j (by omega), f4 a j (by omega), f3 a j (by omega), f2 a j (by omega), f1 a j (by omega)]
    have g5' : I5 0 12 = nI (p + 20) := g5
    obtain ⟨I6, f6, g6, h6, t6⟩ := sp_feedL (Lh := Lh) (I := I5) (J := J) (p := p) (a := a) (b := b) (c := c) (e := e) (f := f) (by omega) 20 0 (zx_u I5 138 0 (nI 0)) zx_u0 (by omega) (fun a j n => zu_n (by omega)) ((zu_n (by omega)).trans ((fr 138 5 (by omega)).trans p2)) (fun j hj => absurd hj (Nat.not_lt_zero j))
    have cl : ∀ j, j < 20 → I5 85 (p + j) = (nI (zf_fb a b c e f j)).toInt8.toInt32 := by
      intro j hj
      unfold zf_fb zf_fa
      by_cases c1 : j < 4
      · rw [if_pos c1, f5 85 (p + j) (by omega), f4 85 (p + j) (by omega), f3 85 (p + j) (by omega), f2 85 (p + j) (by omega), h1 j c1, show j % 4 = j by omega]
      · by_cases c2 : j < 8
        · rw [if_neg c1, if_pos c2, f5 85 (p + j) (by omega), f4 85 (p + j) (by omega), f3 85 (p + j) (by omega), show p + j = p + 4 + (j - 4) by omega, h2 (j - 4) (by omega), show j % 4 = j - 4 by omega]
        · by_cases c3 : j < 12
          · rw [if_neg c1, if_neg c2, if_pos c3, f5 85 (p + j) (by omega), f4 85 (p + j) (by omega), show p + j = p + 4 + 4 + (j - 8) by omega, h3 (j - 8) (by omega), show j % 4 = j - 8 by omega]
          · by_cases c4 : j < 16
            · rw [if_neg c1, if_neg c2, if_neg c3, if_pos c4, f5 85 (p + j) (by omega), show p + j = p + 4 + 4 + 4 + (j - 12) by omega, h4 (j - 12) (by omega), show j % 4 = j - 12 by omega]
            · rw [if_neg c1, if_neg c2, if_neg c3, if_neg c4, show p + j = p + 4 + 4 + 4 + 4 + (j - 16) by omega, h5 (j - 16) (by omega), show j % 4 = j - 16 by omega]
    refine ⟨.int (nI (p + 20)), I5, J, I6, J, fun d P => ?_, fun d P => ?_, zInv_tp v (fun a j n => ?_) ⟨p + 20, by omega, ?_, g6, fun i hi => ?_⟩⟩
    · rw [ze_100]
      simp (disch := omega) only [↓zs_100_0, ↓zs_100_1, ↓zs_100_4, ↓zs_100_7, ↓zs_100_8, ↓zs_100_11, ↓zs_100_13, ↓zs_100_14, ↓zs_100_17, ↓zs_100_20, ↓zs_100_22, zx_pu_s, zx_pu_n, zx_rv_s, zx_rv_n, true_and, and_true, true_or, or_true, zb_0, zb_1, zq_lcl, zq_lcg, zq_lce, eq_self, ite_true, ite_false, zk_0, zw_0, zq_0_0, zq_0_1, zq_0_2, zq_0_3, zq_0_4, zq_0_5, zq_0_6, zq_0_7, zq_0_8, zq_0_9, zq_0_10, zq_0_11, zk_85, zw_85, p1, e900, nI_ltI, zn_lt0, nI_add, c9, zn_1940, Nat.reduceLT]
      simp (disch := omega) only [↓zs_100_23, ↓zs_100_24, ↓zs_100_25, ↓zs_100_28, ↓zs_100_29, ↓zs_100_30, ↓zs_100_33, ↓zs_100_34, ↓zs_100_35, ↓zs_100_38, ↓zs_100_39, ↓zs_100_41, ↓zs_100_44, ↓zs_100_45, ↓zs_100_47, ↓zs_100_50, ↓zs_100_51, ↓zs_100_54, zx_pu_s, zx_pu_n, zx_rv_s, zx_rv_n, true_and, and_true, true_or, or_true, zb_0, zb_1, zq_lcl, zq_lcg, zq_lce, eq_self, ite_true, ite_false, zk_0, zw_0, zq_0_0, zq_0_1, zq_0_2, zq_0_3, zq_0_4, zq_0_5, zq_0_6, zq_0_7, zq_0_8, zq_0_9, zq_0_10, zq_0_11, t1, t2, t3, t4, t5, g5']
    · have e2 : zx_u I5 138 0 (nI 0) 138 5 = nI p := (zu_n (by omega)).trans ((fr 138 5 (by omega)).trans p2)
      rw [← t6 (d + 30) P, ze_153]
      simp (disch := omega) only [↓zs_153_0, ↓zs_153_1, ↓zs_153_2, ↓zs_153_5, ↓zs_153_6, ↓zs_153_9, ↓zs_153_11, ↓zs_153_12, ↓zs_153_15, ↓zs_153_18, ↓zs_153_20, ↓zs_153_21, ↓zs_153_22, zx_pu_s, zx_pu_n, zx_rv_s, zx_rv_n, true_and, and_true, true_or, or_true, zb_0, zb_1, zq_lcl, zq_lcg, zq_lce, eq_self, ite_true, ite_false, zk_138, zw_138, zk_139, zw_139, zk_140, zw_140, zk_141, zw_141, zk_142, zw_142, zk_143, zw_143, zk_144, zw_144, zk_145, zw_145, zk_146, zw_146, zk_147, zw_147, zk_148, zw_148, zk_149, zw_149, zk_150, zw_150, zk_151, zw_151, zk_152, zw_152, zq_138_1, zq_138_2, zq_138_3, zq_138_4, zq_138_16, zq_138_19, zq_138_20, zq_138_24, zq_138_25, zq_138_26, zq_138_27, zq_138_31, zq_138_32, zq_138_33, e2, nI_ltI, nI_add, c9]
    · unfold zSc at n
      rw [f6 a j (by omega), fr a j (by omega)]
    · rw [f6 0 12 (by omega), g5']
    · by_cases q : i < p
      · obtain ⟨b0, hb0, e1, e2⟩ := p3 i q
        exact ⟨b0, hb0, by rw [f6 141 i (by omega), fr 141 i (by omega)]; exact e1, by rw [f6 85 i (by omega), fr 85 i (by omega)]; exact e2⟩
      · refine ⟨zf_fb a b c e f (i - p), zf_yt_lt _ _, ?_, ?_⟩
        · have := h6 (i - p) (by omega)
          rw [show p + (i - p) = i by omega] at this
          exact this
        · have := cl (i - p) (by omega)
          rw [show p + (i - p) = i by omega] at this
          rw [f6 85 i (by omega)]
          exact this
end FE
