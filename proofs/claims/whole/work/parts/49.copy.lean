/-! standing as before: copies -/
def zf_back (R A : Nat → Int32) : Nat → Int32 := fun j => if 109 ≤ j ∧ j < 134 then A (j - 109) else R j
theorem zf_back_eq {B R A : Nat → Int32} (h : zSm B R) (hA : ∀ j, j < 25 → A j = B (109 + j)) : zf_back R A = B := by
  funext j
  unfold zf_back
  by_cases c : 109 ≤ j ∧ j < 134
  · rw [if_pos c, hA (j - 109) (by omega), show 109 + (j - 109) = j by omega]
  · rw [if_neg c]; exact h j c
section CP
variable {Lh : Nat} {I : zx_MI} {J : zx_MJ}
/-- places t .. of row b over those of row a (sized) -/
theorem sp_keepsAhead : ∃ I2, (∀ a, a ≠ 145 → I2 a = I a) ∧ (∀ j, j < 25 → I2 145 j = I 139 (109 + j)) ∧ ∀ d P, zx_rn d 213 [.ref 138] (zx_LL Lh) I J P = P none (zx_LL Lh) I2 J := by
  have loop : ∀ m k I1, k + m = 25 → (∀ a, a ≠ 145 → I1 a = I a) → (∀ j, j < k → I1 145 j = I 139 (109 + j)) → ∃ I2, (∀ a, a ≠ 145 → I2 a = I a) ∧ (∀ j, j < 25 → I2 145 j = I 139 (109 + j)) ∧ ∀ d P, zx_wp d 213 2 [.ref 138, .int (nI k)] [] (zx_LL Lh) I1 J P = P none (zx_LL Lh) I2 J := by
    intro m
    induction m with
    | zero =>
      intro k I1 hk f g
      refine ⟨I1, f, fun j hj => g j (by omega), fun d P => ?_⟩
      have hlt : ¬ k < 25 := by omega
      rw [zs_213_2]
      simp (disch := omega) only [↓zs_213_0, ↓zs_213_1, ↓zs_213_3, ↓zs_213_5, ↓zs_213_8, ↓zs_213_9, ↓zs_213_12, ↓zs_213_13, ↓zs_213_14, ↓zs_213_17, ↓zs_213_19, ↓zs_213_20, ↓zs_213_21, ↓zs_213_22, ↓zs_213_23, ↓zs_213_26, ↓zs_213_29, zx_pu_s, zx_pu_n, zx_rv_s, zx_rv_n, true_and, and_true, true_or, or_true, zb_0, zb_1, zq_lcl, zq_lcg, zq_lce, eq_self, ite_true, ite_false, zk_138, zw_138, zk_139, zw_139, zk_140, zw_140, zk_141, zw_141, zk_142, zw_142, zk_143, zw_143, zk_144, zw_144, zk_145, zw_145, zk_146, zw_146, zk_147, zw_147, zk_148, zw_148, zk_149, zw_149, zk_150, zw_150, zk_151, zw_151, zk_152, zw_152, zq_138_1, zq_138_2, zq_138_3, zq_138_4, zq_138_16, zq_138_19, zq_138_20, zq_138_24, zq_138_25, zq_138_26, zq_138_27, zq_138_31, zq_138_32, zq_138_33, zn_10, zn_40, zn_040, zn_340, nI_add, zin_nI, nI_clamp, nI_ltI, nI_eq, pk_mul, nI_1, Nat.lt_irrefl, hlt]
    | succ m ih =>
      intro k I1 hk f g
      have hlt : k < 25 := by omega
      have e := f 139 (by decide)
      obtain ⟨I2, f2, g2, h2⟩ := ih (k + 1) (zx_u I1 145 k (I 139 (109 + k))) (by omega) (fun a ha => (zu_o ha).trans (f a ha)) (by
        intro j hj
        by_cases q : j = k
        · rw [q, zu_s]
        · rw [zu_n (by omega)]; exact g j (by omega))
      refine ⟨I2, f2, g2, fun d P => ?_⟩
      rw [← h2 d P, zs_213_2]
      simp (disch := omega) only [↓zs_213_0, ↓zs_213_1, ↓zs_213_3, ↓zs_213_5, ↓zs_213_8, ↓zs_213_9, ↓zs_213_12, ↓zs_213_13, ↓zs_213_14, ↓zs_213_17, ↓zs_213_19, ↓zs_213_20, ↓zs_213_21, ↓zs_213_22, ↓zs_213_23, ↓zs_213_26, ↓zs_213_29, zx_pu_s, zx_pu_n, zx_rv_s, zx_rv_n, true_and, and_true, true_or, or_true, zb_0, zb_1, zq_lcl, zq_lcg, zq_lce, eq_self, ite_true, ite_false, zk_138, zw_138, zk_139, zw_139, zk_140, zw_140, zk_141, zw_141, zk_142, zw_142, zk_143, zw_143, zk_144, zw_144, zk_145, zw_145, zk_146, zw_146, zk_147, zw_147, zk_148, zw_148, zk_149, zw_149, zk_150, zw_150, zk_151, zw_151, zk_152, zw_152, zq_138_1, zq_138_2, zq_138_3, zq_138_4, zq_138_16, zq_138_19, zq_138_20, zq_138_24, zq_138_25, zq_138_26, zq_138_27, zq_138_31, zq_138_32, zq_138_33, zn_10, zn_40, zn_040, zn_340, nI_add, zin_nI, nI_clamp, nI_ltI, nI_eq, pk_mul, nI_1, Nat.lt_irrefl, hlt, e]
  obtain ⟨I2, f2, g2, h2⟩ := loop 25 0 I rfl (fun _ _ => rfl) (fun j hj => absurd hj (Nat.not_lt_zero j))
  refine ⟨I2, f2, g2, fun d P => ?_⟩
  rw [← h2 d P, ze_213]
  simp only [↓zs_213_0, ↓zs_213_1, zx_pu_s, zx_pu_n, zx_rv_s, zx_rv_n, true_and, and_true, true_or, or_true, zb_0, zb_1, zq_lcl, zq_lcg, zq_lce, eq_self, ite_true, ite_false]
theorem sp_keeps : ∃ I2, (∀ a, a ≠ 144 → I2 a = I a) ∧ (∀ j, j < 25 → I2 144 j = I 139 (109 + j)) ∧ ∀ d P, zx_rn d 211 [.ref 138] (zx_LL Lh) I J P = P none (zx_LL Lh) I2 J := by
  have loop : ∀ m k I1, k + m = 25 → (∀ a, a ≠ 144 → I1 a = I a) → (∀ j, j < k → I1 144 j = I 139 (109 + j)) → ∃ I2, (∀ a, a ≠ 144 → I2 a = I a) ∧ (∀ j, j < 25 → I2 144 j = I 139 (109 + j)) ∧ ∀ d P, zx_wp d 211 2 [.ref 138, .int (nI k)] [] (zx_LL Lh) I1 J P = P none (zx_LL Lh) I2 J := by
    intro m
    induction m with
    | zero =>
      intro k I1 hk f g
      refine ⟨I1, f, fun j hj => g j (by omega), fun d P => ?_⟩
      have hlt : ¬ k < 25 := by omega
      rw [zs_211_2]
      simp (disch := omega) only [↓zs_211_0, ↓zs_211_1, ↓zs_211_3, ↓zs_211_5, ↓zs_211_8, ↓zs_211_9, ↓zs_211_12, ↓zs_211_13, ↓zs_211_14, ↓zs_211_17, ↓zs_211_19, ↓zs_211_20, ↓zs_211_21, ↓zs_211_22, ↓zs_211_23, ↓zs_211_26, ↓zs_211_29, zx_pu_s, zx_pu_n, zx_rv_s, zx_rv_n, true_and, and_true, true_or, or_true, zb_0, zb_1, zq_lcl, zq_lcg, zq_lce, eq_self, ite_true, ite_false, zk_138, zw_138, zk_139, zw_139, zk_140, zw_140, zk_141, zw_141, zk_142, zw_142, zk_143, zw_143, zk_144, zw_144, zk_145, zw_145, zk_146, zw_146, zk_147, zw_147, zk_148, zw_148, zk_149, zw_149, zk_150, zw_150, zk_151, zw_151, zk_152, zw_152, zq_138_1, zq_138_2, zq_138_3, zq_138_4, zq_138_16, zq_138_19, zq_138_20, zq_138_24, zq_138_25, zq_138_26, zq_138_27, zq_138_31, zq_138_32, zq_138_33, zn_10, zn_40, zn_040, zn_340, nI_add, zin_nI, nI_clamp, nI_ltI, nI_eq, pk_mul, nI_1, Nat.lt_irrefl, hlt]
    | succ m ih =>
      intro k I1 hk f g
      have hlt : k < 25 := by omega
      have e := f 139 (by decide)
      obtain ⟨I2, f2, g2, h2⟩ := ih (k + 1) (zx_u I1 144 k (I 139 (109 + k))) (by omega) (fun a ha => (zu_o ha).trans (f a ha)) (by
        intro j hj
        by_cases q : j = k
        · rw [q, zu_s]
        · rw [zu_n (by omega)]; exact g j (by omega))
      refine ⟨I2, f2, g2, fun d P => ?_⟩
      rw [← h2 d P, zs_211_2]
      simp (disch := omega) only [↓zs_211_0, ↓zs_211_1, ↓zs_211_3, ↓zs_211_5, ↓zs_211_8, ↓zs_211_9, ↓zs_211_12, ↓zs_211_13, ↓zs_211_14, ↓zs_211_17, ↓zs_211_19, ↓zs_211_20, ↓zs_211_21, ↓zs_211_22, ↓zs_211_23, ↓zs_211_26, ↓zs_211_29, zx_pu_s, zx_pu_n, zx_rv_s, zx_rv_n, true_and, and_true, true_or, or_true, zb_0, zb_1, zq_lcl, zq_lcg, zq_lce, eq_self, ite_true, ite_false, zk_138, zw_138, zk_139, zw_139, zk_140, zw_140, zk_141, zw_141, zk_142, zw_142, zk_143, zw_143, zk_144, zw_144, zk_145, zw_145, zk_146, zw_146, zk_147, zw_147, zk_148, zw_148, zk_149, zw_149, zk_150, zw_150, zk_151, zw_151, zk_152, zw_152, zq_138_1, zq_138_2, zq_138_3, zq_138_4, zq_138_16, zq_138_19, zq_138_20, zq_138_24, zq_138_25, zq_138_26, zq_138_27, zq_138_31, zq_138_32, zq_138_33, zn_10, zn_40, zn_040, zn_340, nI_add, zin_nI, nI_clamp, nI_ltI, nI_eq, pk_mul, nI_1, Nat.lt_irrefl, hlt, e]
  obtain ⟨I2, f2, g2, h2⟩ := loop 25 0 I rfl (fun _ _ => rfl) (fun j hj => absurd hj (Nat.not_lt_zero j))
  refine ⟨I2, f2, g2, fun d P => ?_⟩
  rw [← h2 d P, ze_211]
  simp only [↓zs_211_0, ↓zs_211_1, zx_pu_s, zx_pu_n, zx_rv_s, zx_rv_n, true_and, and_true, true_or, or_true, zb_0, zb_1, zq_lcl, zq_lcg, zq_lce, eq_self, ite_true, ite_false]
theorem zf_back_step (R A : Nat → Int32) (k : Nat) (hk : k < 25) : zu1 (fun j => if 109 ≤ j ∧ j < 109 + k then A (j - 109) else R j) (109 + k) (A k) = fun j => if 109 ≤ j ∧ j < 109 + (k + 1) then A (j - 109) else R j := by
  funext j
  by_cases q : j = 109 + k
  · rw [q, zu1_s, if_pos (by omega), Nat.add_sub_cancel_left]
  · rw [zu1_n q]
    by_cases c : 109 ≤ j ∧ j < 109 + k
    · rw [if_pos c, if_pos (by omega)]
    · rw [if_neg c, if_neg (by omega)]
theorem sp_isAhead : ∀ {d : Nat} {P : Option Value → zx_Lay → zx_MI → zx_MJ → Prop}, zx_rn d 214 [.ref 138] (zx_LL Lh) I J P = P none (zx_LL Lh) (zx_ur I 139 (zf_back (I 139) (I 145))) J := by
  intro d P
  have loop : ∀ m k, k + m = 25 → zx_wp d 214 2 [.ref 138, .int (nI k)] [] (zx_LL Lh) (zx_ur I 139 (fun j => if 109 ≤ j ∧ j < 109 + k then I 145 (j - 109) else I 139 j)) J P = P none (zx_LL Lh) (zx_ur I 139 (zf_back (I 139) (I 145))) J := by
    intro m
    induction m with
    | zero =>
      intro k hk
      obtain rfl : k = 25 := by omega
      rw [zs_214_2]
      simp (disch := omega) only [↓zs_214_0, ↓zs_214_1, ↓zs_214_3, ↓zs_214_5, ↓zs_214_8, ↓zs_214_9, ↓zs_214_12, ↓zs_214_14, ↓zs_214_15, ↓zs_214_16, ↓zs_214_17, ↓zs_214_20, ↓zs_214_21, ↓zs_214_22, ↓zs_214_23, ↓zs_214_26, ↓zs_214_29, zx_pu_s, zx_pu_n, zx_rv_s, zx_rv_n, true_and, and_true, true_or, or_true, zb_0, zb_1, zq_lcl, zq_lcg, zq_lce, eq_self, ite_true, ite_false, zk_138, zw_138, zk_139, zw_139, zk_140, zw_140, zk_141, zw_141, zk_142, zw_142, zk_143, zw_143, zk_144, zw_144, zk_145, zw_145, zk_146, zw_146, zk_147, zw_147, zk_148, zw_148, zk_149, zw_149, zk_150, zw_150, zk_151, zw_151, zk_152, zw_152, zq_138_1, zq_138_2, zq_138_3, zq_138_4, zq_138_16, zq_138_19, zq_138_20, zq_138_24, zq_138_25, zq_138_26, zq_138_27, zq_138_31, zq_138_32, zq_138_33, zn_10, zn_40, zn_040, zn_340, nI_add, zin_nI, nI_clamp, nI_ltI, nI_eq, pk_mul, nI_1, Nat.lt_irrefl]
      rfl
    | succ m ih =>
      intro k hk
      have hlt : k < 25 := by omega
      have e : ∀ R, zx_ur I 139 R 145 = I 145 := fun R => zr_o (by decide)
      rw [← ih (k + 1) (by omega), zs_214_2]
      simp (disch := omega) only [↓zs_214_0, ↓zs_214_1, ↓zs_214_3, ↓zs_214_5, ↓zs_214_8, ↓zs_214_9, ↓zs_214_12, ↓zs_214_14, ↓zs_214_15, ↓zs_214_16, ↓zs_214_17, ↓zs_214_20, ↓zs_214_21, ↓zs_214_22, ↓zs_214_23, ↓zs_214_26, ↓zs_214_29, zx_pu_s, zx_pu_n, zx_rv_s, zx_rv_n, true_and, and_true, true_or, or_true, zb_0, zb_1, zq_lcl, zq_lcg, zq_lce, eq_self, ite_true, ite_false, zk_138, zw_138, zk_139, zw_139, zk_140, zw_140, zk_141, zw_141, zk_142, zw_142, zk_143, zw_143, zk_144, zw_144, zk_145, zw_145, zk_146, zw_146, zk_147, zw_147, zk_148, zw_148, zk_149, zw_149, zk_150, zw_150, zk_151, zw_151, zk_152, zw_152, zq_138_1, zq_138_2, zq_138_3, zq_138_4, zq_138_16, zq_138_19, zq_138_20, zq_138_24, zq_138_25, zq_138_26, zq_138_27, zq_138_31, zq_138_32, zq_138_33, zn_10, zn_40, zn_040, zn_340, nI_add, zin_nI, nI_clamp, nI_ltI, nI_eq, pk_mul, nI_1, Nat.lt_irrefl, hlt, e, zu_ur, zf_back_step]
  rw [← loop 25 0 rfl, ze_214]
  simp only [↓zs_214_0, ↓zs_214_1, zx_pu_s, zx_pu_n, zx_rv_s, zx_rv_n, true_and, and_true, true_or, or_true, zb_0, zb_1, zq_lcl, zq_lcg, zq_lce, eq_self, ite_true, ite_false]
  have e0 : zx_ur I 139 (fun j => if 109 ≤ j ∧ j < 109 + 0 then I 145 (j - 109) else I 139 j) = I := by
    have : (fun j => if 109 ≤ j ∧ j < 109 + 0 then I 145 (j - 109) else I 139 j) = I 139 := funext fun j => if_neg (by omega)
    rw [this, zr_id]
  rw [e0]
theorem sp_isAgain : ∀ {d : Nat} {P : Option Value → zx_Lay → zx_MI → zx_MJ → Prop}, zx_rn d 212 [.ref 138] (zx_LL Lh) I J P = P none (zx_LL Lh) (zx_ur I 139 (zf_back (I 139) (I 144))) J := by
  intro d P
  have loop : ∀ m k, k + m = 25 → zx_wp d 212 2 [.ref 138, .int (nI k)] [] (zx_LL Lh) (zx_ur I 139 (fun j => if 109 ≤ j ∧ j < 109 + k then I 144 (j - 109) else I 139 j)) J P = P none (zx_LL Lh) (zx_ur I 139 (zf_back (I 139) (I 144))) J := by
    intro m
    induction m with
    | zero =>
      intro k hk
      obtain rfl : k = 25 := by omega
      rw [zs_212_2]
      simp (disch := omega) only [↓zs_212_0, ↓zs_212_1, ↓zs_212_3, ↓zs_212_5, ↓zs_212_8, ↓zs_212_9, ↓zs_212_12, ↓zs_212_14, ↓zs_212_15, ↓zs_212_16, ↓zs_212_17, ↓zs_212_20, ↓zs_212_21, ↓zs_212_22, ↓zs_212_23, ↓zs_212_26, ↓zs_212_29, zx_pu_s, zx_pu_n, zx_rv_s, zx_rv_n, true_and, and_true, true_or, or_true, zb_0, zb_1, zq_lcl, zq_lcg, zq_lce, eq_self, ite_true, ite_false, zk_138, zw_138, zk_139, zw_139, zk_140, zw_140, zk_141, zw_141, zk_142, zw_142, zk_143, zw_143, zk_144, zw_144, zk_145, zw_145, zk_146, zw_146, zk_147, zw_147, zk_148, zw_148, zk_149, zw_149, zk_150, zw_150, zk_151, zw_151, zk_152, zw_152, zq_138_1, zq_138_2, zq_138_3, zq_138_4, zq_138_16, zq_138_19, zq_138_20, zq_138_24, zq_138_25, zq_138_26, zq_138_27, zq_138_31, zq_138_32, zq_138_33, zn_10, zn_40, zn_040, zn_340, nI_add, zin_nI, nI_clamp, nI_ltI, nI_eq, pk_mul, nI_1, Nat.lt_irrefl]
      rfl
    | succ m ih =>
      intro k hk
      have hlt : k < 25 := by omega
      have e : ∀ R, zx_ur I 139 R 144 = I 144 := fun R => zr_o (by decide)
      rw [← ih (k + 1) (by omega), zs_212_2]
      simp (disch := omega) only [↓zs_212_0, ↓zs_212_1, ↓zs_212_3, ↓zs_212_5, ↓zs_212_8, ↓zs_212_9, ↓zs_212_12, ↓zs_212_14, ↓zs_212_15, ↓zs_212_16, ↓zs_212_17, ↓zs_212_20, ↓zs_212_21, ↓zs_212_22, ↓zs_212_23, ↓zs_212_26, ↓zs_212_29, zx_pu_s, zx_pu_n, zx_rv_s, zx_rv_n, true_and, and_true, true_or, or_true, zb_0, zb_1, zq_lcl, zq_lcg, zq_lce, eq_self, ite_true, ite_false, zk_138, zw_138, zk_139, zw_139, zk_140, zw_140, zk_141, zw_141, zk_142, zw_142, zk_143, zw_143, zk_144, zw_144, zk_145, zw_145, zk_146, zw_146, zk_147, zw_147, zk_148, zw_148, zk_149, zw_149, zk_150, zw_150, zk_151, zw_151, zk_152, zw_152, zq_138_1, zq_138_2, zq_138_3, zq_138_4, zq_138_16, zq_138_19, zq_138_20, zq_138_24, zq_138_25, zq_138_26, zq_138_27, zq_138_31, zq_138_32, zq_138_33, zn_10, zn_40, zn_040, zn_340, nI_add, zin_nI, nI_clamp, nI_ltI, nI_eq, pk_mul, nI_1, Nat.lt_irrefl, hlt, e, zu_ur, zf_back_step]
  rw [← loop 25 0 rfl, ze_212]
  simp only [↓zs_212_0, ↓zs_212_1, zx_pu_s, zx_pu_n, zx_rv_s, zx_rv_n, true_and, and_true, true_or, or_true, zb_0, zb_1, zq_lcl, zq_lcg, zq_lce, eq_self, ite_true, ite_false]
  have e0 : zx_ur I 139 (fun j => if 109 ≤ j ∧ j < 109 + 0 then I 144 (j - 109) else I 139 j) = I := by
    have : (fun j => if 109 ≤ j ∧ j < 109 + 0 then I 144 (j - 109) else I 139 j) = I 139 := funext fun j => if_neg (by omega)
    rw [this, zr_id]
  rw [e0]
theorem sc_become {T U : Nat} (hT : zx_st T) (hU : zx_st U) (hn : T ≠ U) : ∃ I2, zFc T I I2 ∧ (∀ a, a ≠ T → a ≠ T + 1 → a ≠ T + 2 → a ≠ T + 3 → I2 a = I a) ∧ (∀ B, zR_st I U B → zR_st I2 T B) ∧ ∀ d P, zx_rn d 69 [.ref T, .ref U] (zx_LL Lh) I J P = P none (zx_LL Lh) I2 J := by
  obtain ⟨k0, k1, k2, k3⟩ := zT_k (Lh := Lh) hT
  obtain ⟨q0, q1, q2⟩ := zT_q (Lh := Lh) hT
  obtain ⟨k0', k1', k2', k3'⟩ := zT_k (Lh := Lh) hU
  obtain ⟨q0', q1', q2'⟩ := zT_q (Lh := Lh) hU
  have hr := zT_r hT
  have hr' := zT_r hU
  have hd := zT_n hT hU hn
  have w0 : zx_wr (zx_LL Lh) T = True := eq_true (zx_wrp (by omega))
  have w1 : zx_wr (zx_LL Lh) (T + 1) = True := eq_true (zx_wrp (by omega))
  have w2 : zx_wr (zx_LL Lh) (T + 2) = True := eq_true (zx_wrp (by omega))
  have w3 : zx_wr (zx_LL Lh) (T + 3) = True := eq_true (zx_wrp (by omega))
  have loop : ∀ m k I1, k + m = 8 → (∀ a j, ¬ ((a = T ∧ j = 3) ∨ ((a = T + 1 ∨ a = T + 2 ∨ a = T + 3) ∧ j < 8)) → I1 a j = I a j) → I1 T 3 = I U 3 → (∀ j, j < k → I1 (T + 1) j = I (U + 1) j ∧ I1 (T + 2) j = I (U + 2) j ∧ I1 (T + 3) j = I (U + 3) j) → ∃ I2, (∀ a j, ¬ ((a = T ∧ j = 3) ∨ ((a = T + 1 ∨ a = T + 2 ∨ a = T + 3) ∧ j < 8)) → I2 a j = I a j) ∧ I2 T 3 = I U 3 ∧ (∀ j, j < 8 → I2 (T + 1) j = I (U + 1) j ∧ I2 (T + 2) j = I (U + 2) j ∧ I2 (T + 3) j = I (U + 3) j) ∧ ∀ d P, zx_wp d 69 10 [.ref T, .ref U, .int (nI k)] [] (zx_LL Lh) I1 J P = P none (zx_LL Lh) I2 J := by
    intro m
    induction m with
    | zero =>
      intro k I1 hk f g3 g
      refine ⟨I1, f, g3, fun j hj => g j (by omega), fun d P => ?_⟩
      have hlt : ¬ k < 8 := by omega
      rw [zs_69_10]
      simp (disch := omega) only [↓zs_69_0, ↓zs_69_1, ↓zs_69_2, ↓zs_69_5, ↓zs_69_8, ↓zs_69_9, ↓zs_69_11, ↓zs_69_13, ↓zs_69_16, ↓zs_69_17, ↓zs_69_20, ↓zs_69_21, ↓zs_69_22, ↓zs_69_25, ↓zs_69_26, ↓zs_69_27, ↓zs_69_28, ↓zs_69_29, ↓zs_69_32, ↓zs_69_33, ↓zs_69_34, ↓zs_69_37, ↓zs_69_38, ↓zs_69_39, ↓zs_69_40, ↓zs_69_41, ↓zs_69_44, ↓zs_69_45, ↓zs_69_46, ↓zs_69_49, ↓zs_69_50, ↓zs_69_51, ↓zs_69_52, ↓zs_69_55, ↓zs_69_58, zx_pu_s, zx_pu_n, zx_rv_s, zx_rv_n, true_and, and_true, true_or, or_true, zb_0, zb_1, zq_lcl, zq_lcg, zq_lce, eq_self, ite_true, ite_false, zn_10, zn_40, zn_040, zn_340, nI_add, zin_nI, nI_clamp, nI_ltI, nI_eq, pk_mul, nI_1, Nat.lt_irrefl, hlt]
    | succ m ih =>
      intro k I1 hk f g3 g
      have hlt : k < 8 := by omega
      have e1 : I1 (U + 1) k = I (U + 1) k := f _ _ (by omega)
      have e2 : ∀ x, zx_u I1 (T + 1) k x (U + 2) k = I (U + 2) k := fun x => (zu_n (by omega)).trans (f _ _ (by omega))
      have e3 : ∀ x y, zx_u (zx_u I1 (T + 1) k x) (T + 2) k y (U + 3) k = I (U + 3) k := fun x y => (zu_n (by omega)).trans ((zu_n (by omega)).trans (f _ _ (by omega)))
      obtain ⟨I2, f2, g32, g2, h2⟩ := ih (k + 1) (zx_u (zx_u (zx_u I1 (T + 1) k (I (U + 1) k)) (T + 2) k (I (U + 2) k)) (T + 3) k (I (U + 3) k)) (by omega) (by
        intro a j h
        rw [zu_n (by omega), zu_n (by omega), zu_n (by omega)]
        exact f a j h) (by rw [zu_n (by omega), zu_n (by omega), zu_n (by omega)]; exact g3) (by
        intro j hj
        by_cases q : j = k
        · subst q
          refine ⟨?_, ?_, zu_s _ _ _ _⟩
          · rw [zu_n (by omega), zu_n (by omega), zu_s]
          · rw [zu_n (by omega), zu_s]
        · rw [zu_n (by omega), zu_n (by omega), zu_n (by omega), zu_n (by omega), zu_n (by omega), zu_n (by omega), zu_n (by omega), zu_n (by omega), zu_n (by omega)]
          exact g j (by omega))
      refine ⟨I2, f2, g32, g2, fun d P => ?_⟩
      rw [← h2 d P, zs_69_10]
      simp (disch := omega) only [↓zs_69_0, ↓zs_69_1, ↓zs_69_2, ↓zs_69_5, ↓zs_69_8, ↓zs_69_9, ↓zs_69_11, ↓zs_69_13, ↓zs_69_16, ↓zs_69_17, ↓zs_69_20, ↓zs_69_21, ↓zs_69_22, ↓zs_69_25, ↓zs_69_26, ↓zs_69_27, ↓zs_69_28, ↓zs_69_29, ↓zs_69_32, ↓zs_69_33, ↓zs_69_34, ↓zs_69_37, ↓zs_69_38, ↓zs_69_39, ↓zs_69_40, ↓zs_69_41, ↓zs_69_44, ↓zs_69_45, ↓zs_69_46, ↓zs_69_49, ↓zs_69_50, ↓zs_69_51, ↓zs_69_52, ↓zs_69_55, ↓zs_69_58, zx_pu_s, zx_pu_n, zx_rv_s, zx_rv_n, true_and, and_true, true_or, or_true, zb_0, zb_1, zq_lcl, zq_lcg, zq_lce, eq_self, ite_true, ite_false, zn_10, zn_40, zn_040, zn_340, nI_add, zin_nI, nI_clamp, nI_ltI, nI_eq, pk_mul, nI_1, Nat.lt_irrefl, hlt, k0, k1, k2, k3, q0, q1, q2, k0', k1', k2', k3', q0', q1', q2', w1, w2, w3, e1, e2, e3]
  obtain ⟨I2, f2, g32, g2, h2⟩ := loop 8 0 (zx_u I T 3 (I U 3)) rfl (fun a j h => zu_n (by omega)) (zu_s _ _ _ _) (fun j hj => absurd hj (Nat.not_lt_zero j))
  refine ⟨I2, fun a j h => f2 a j (by omega), fun a h0 h1 h2 h3 => funext fun j => f2 a j (by omega), fun B r => ⟨g32.trans r.1, fun s hs => ?_⟩, fun d P => ?_⟩
  · obtain ⟨a1, a2, a3⟩ := g2 s hs
    rw [a1, a2, a3]
    exact r.2 s hs
  · rw [← h2 d P, ze_69]
    simp only [↓zs_69_0, ↓zs_69_1, ↓zs_69_2, ↓zs_69_5, ↓zs_69_8, ↓zs_69_9, zx_pu_s, zx_pu_n, zx_rv_s, zx_rv_n, true_and, and_true, true_or, or_true, zb_0, zb_1, zq_lcl, zq_lcg, zq_lce, eq_self, ite_true, ite_false, k0, k0', w0]
end CP
/-! NIGHTS one behind the other -/
def zf_ni (B : Nat → Int32) : Nat → (Nat → Int32)
  | 0 => B
  | n + 1 => zf_night (zf_ni B n)
theorem zf_ni_V {B : Nat → Int32} {m : Nat} (v : zV B m) : ∀ n, m + n < 2 ^ 30 → zV (zf_ni B n) (m + n) ∧ zSm B (zf_ni B n) := by
  intro n
  induction n with
  | zero => intro _; exact ⟨v, zSm_r B⟩
  | succ n ih =>
    intro h
    obtain ⟨v1, s1⟩ := ih (by omega)
    exact ⟨zf_night_V v1 (show m + n < 2 ^ 30 by omega), zSm_t s1 (zf_night_sm v1)⟩
section NN
variable {Lh m n : Nat} {I I1 : zx_MI} {J : zx_MJ} {B : Nat → Int32}
theorem sp_nightN (v : zV B m) (hm : m + n < 2 ^ 30) (f : zFm I I1) (e : I1 139 = zf_ni B n) : ∃ I2, zFm I I2 ∧ I2 139 = zf_ni B (n + 1) ∧ I2 138 17 = nI (zf_turned (zf_ni B n)) ∧ I2 138 18 = nI (zf_came (zf_ni B n)) ∧ ∀ d P, zx_rn (d + 7) 204 [.ref 138] (zx_LL Lh) I1 J P = P (some (.int (nI (zf_cnt (zf_turned (zf_ni B n)).testBit 64 0)))) (zx_LL Lh) I2 J := by
  obtain ⟨v1, s1⟩ := zf_ni_V v n hm
  obtain ⟨I2, f2, g1, g2, g3, h2⟩ := sp_night (Lh := Lh) (I := I1) (J := J) (mm := m + n) (by rw [e]; exact v1) hm
  rw [e] at g1 g2 g3 h2
  exact ⟨I2, zFm_t f f2, g1, g2, g3, h2⟩
theorem sc_nightN {T : Nat} (hT : zx_st T) (v : zV B m) (hm : m + n < 2 ^ 30) (sq : zR_sq I J 1 B) (f : zFc T I I1) (rel : zR_st I1 T (zf_ni B n)) : ∃ I2, zFc T I I2 ∧ zR_st I2 T (zf_ni B (n + 1)) ∧ ∀ d P, zx_rn (d + 4) 0 [.ref 1, .ref T] (zx_LL Lh) I1 J P = P (some (.int (nI (zf_turned (zf_ni B n))))) (zx_LL Lh) I2 J := by
  obtain ⟨v1, s1⟩ := zf_ni_V v n hm
  obtain ⟨I2, f2, r2, h2⟩ := sc_passNight (Lh := Lh) hT v1 hm (zSm_sq s1 v.2.2.2.2.1.2.1 v.2.2.2.1.2.1 (zFc_sq hT f sq)) rel
  exact ⟨I2, zFc_t f f2, r2, h2⟩
theorem sc_writtenFor {d : Nat} {P : Option Value → zx_Lay → zx_MI → zx_MJ → Prop} (x : Int32) (hl : zM_let B) (sq : zR_sq I J 1 B) : zx_rn d 55 [.ref 1, .int x] (zx_LL Lh) I J P = P (some (.int (zB (zf_any (fun k => decide (B (7 + 3 * k) = x)) (zl B) 0)))) (zx_LL Lh) I J := by
  obtain ⟨l1, l2, l3⟩ := hl
  obtain ⟨-, -, -, -, r5, -, -, r8, -, -⟩ := sq
  have e10 : I 1 10 = nI (zl B) := r5.trans l1
  generalize zl B = K at *
  have loop : ∀ m k, k + m = K → zx_wp d 55 2 [.ref 1, .int x, .int (nI k)] [] (zx_LL Lh) I J P = P (some (.int (zB (zf_any (fun k => decide (B (7 + 3 * k) = x)) m k)))) (zx_LL Lh) I J := by
    intro m
    induction m with
    | zero =>
      intro k hk
      have hlt : ¬ k < K := by omega
      rw [zs_55_2]
      simp (disch := omega) only [↓zs_55_0, ↓zs_55_1, ↓zs_55_3, ↓zs_55_4, ↓zs_55_7, ↓zs_55_10, ↓zs_55_11, ↓zs_55_13, ↓zs_55_16, ↓zs_55_17, ↓zs_55_20, ↓zs_55_21, ↓zs_55_22, ↓zs_55_23, ↓zs_55_26, ↓zs_55_27, ↓zs_55_28, ↓zs_55_31, ↓zs_55_34, ↓zs_55_35, zx_pu_s, zx_pu_n, zx_rv_s, zx_rv_n, true_and, and_true, true_or, or_true, zb_0, zb_1, zq_lcl, zq_lcg, zq_lce, eq_self, ite_true, ite_false, zk_0, zw_0, zk_1, zw_1, zk_2, zw_2, zk_3, zw_3, zk_4, zw_4, zk_5, zw_5, zk_6, zw_6, zk_7, zw_7, zk_8, zw_8, zk_9, zw_9, zk_10, zw_10, zq_0_0, zq_0_1, zq_0_2, zq_0_3, zq_0_4, zq_0_5, zq_0_6, zq_0_7, zq_0_8, zq_0_9, zq_0_10, zq_0_11, zq_1_0, zq_1_1, zq_1_2, zq_1_3, zq_1_4, zq_1_5, zq_2_0, zq_2_1, zq_2_2, zn_10, zn_40, zn_040, zn_340, nI_add, zin_nI, nI_clamp, nI_ltI, nI_eq, pk_mul, nI_1, Nat.lt_irrefl, hlt, e10]
      rfl
    | succ m ih =>
      intro k hk
      have hlt : k < K := by omega
      have h10 : k < 10 := by omega
      have e6 := (r8 k hlt).1
      rw [zs_55_2, zf_any]
      by_cases c : B (7 + 3 * k) = x
      · simp (disch := omega) only [↓zs_55_0, ↓zs_55_1, ↓zs_55_3, ↓zs_55_4, ↓zs_55_7, ↓zs_55_10, ↓zs_55_11, ↓zs_55_13, ↓zs_55_16, ↓zs_55_17, ↓zs_55_20, ↓zs_55_21, ↓zs_55_22, ↓zs_55_23, ↓zs_55_26, ↓zs_55_27, ↓zs_55_28, ↓zs_55_31, ↓zs_55_34, ↓zs_55_35, zx_pu_s, zx_pu_n, zx_rv_s, zx_rv_n, true_and, and_true, true_or, or_true, zb_0, zb_1, zq_lcl, zq_lcg, zq_lce, eq_self, ite_true, ite_false, zk_0, zw_0, zk_1, zw_1, zk_2, zw_2, zk_3, zw_3, zk_4, zw_4, zk_5, zw_5, zk_6, zw_6, zk_7, zw_7, zk_8, zw_8, zk_9, zw_9, zk_10, zw_10, zq_0_0, zq_0_1, zq_0_2, zq_0_3, zq_0_4, zq_0_5, zq_0_6, zq_0_7, zq_0_8, zq_0_9, zq_0_10, zq_0_11, zq_1_0, zq_1_1, zq_1_2, zq_1_3, zq_1_4, zq_1_5, zq_2_0, zq_2_1, zq_2_2, zn_10, zn_40, zn_040, zn_340, nI_add, zin_nI, nI_clamp, nI_ltI, nI_eq, pk_mul, nI_1, Nat.lt_irrefl, hlt, h10, e10, e6, c, decide_true, Bool.true_or]
        rfl
      · simp (disch := omega) only [↓zs_55_0, ↓zs_55_1, ↓zs_55_3, ↓zs_55_4, ↓zs_55_7, ↓zs_55_10, ↓zs_55_11, ↓zs_55_13, ↓zs_55_16, ↓zs_55_17, ↓zs_55_20, ↓zs_55_21, ↓zs_55_22, ↓zs_55_23, ↓zs_55_26, ↓zs_55_27, ↓zs_55_28, ↓zs_55_31, ↓zs_55_34, ↓zs_55_35, zx_pu_s, zx_pu_n, zx_rv_s, zx_rv_n, true_and, and_true, true_or, or_true, zb_0, zb_1, zq_lcl, zq_lcg, zq_lce, eq_self, ite_true, ite_false, zk_0, zw_0, zk_1, zw_1, zk_2, zw_2, zk_3, zw_3, zk_4, zw_4, zk_5, zw_5, zk_6, zw_6, zk_7, zw_7, zk_8, zw_8, zk_9, zw_9, zk_10, zw_10, zq_0_0, zq_0_1, zq_0_2, zq_0_3, zq_0_4, zq_0_5, zq_0_6, zq_0_7, zq_0_8, zq_0_9, zq_0_10, zq_0_11, zq_1_0, zq_1_1, zq_1_2, zq_1_3, zq_1_4, zq_1_5, zq_2_0, zq_2_1, zq_2_2, zn_10, zn_40, zn_040, zn_340, nI_add, zin_nI, nI_clamp, nI_ltI, nI_eq, pk_mul, nI_1, Nat.lt_irrefl, hlt, h10, e10, e6, c, decide_false, Bool.false_or]
        exact ih (k + 1) (by omega)
  rw [ze_55]
  simp only [↓zs_55_0, ↓zs_55_1, zx_pu_s, zx_pu_n, zx_rv_s, zx_rv_n, true_and, and_true, true_or, or_true, zb_0, zb_1, zq_lcl, zq_lcg, zq_lce, eq_self, ite_true, ite_false]
  exact loop K 0 (by omega)
theorem zf_cnt_any (p : Nat → Bool) (m k : Nat) : (0 < zf_cnt p m k) = (zf_any p m k = true) := by
  induction m generalizing k with
  | zero => exact propext ⟨fun h => absurd h (Nat.lt_irrefl 0), fun h => Bool.noConfusion h⟩
  | succ m ih =>
    rw [zf_cnt, zf_any]
    cases c : p k with
    | true =>
      rw [if_pos rfl, Bool.true_or]
      exact propext ⟨fun _ => rfl, fun _ => by omega⟩
    | false =>
      rw [if_neg (by decide), Bool.false_or, Nat.zero_add]
      exact ih (k + 1)
theorem zf_cnt_b0 {t : Nat} (h : t < 2 ^ 64) : (0 < zf_cnt t.testBit 64 0) = (t ≠ 0) := by
  rw [zf_cnt_any]
  have any_ex : ∀ (p : Nat → Bool) (m k : Nat), zf_any p m k = true ↔ ∃ j, k ≤ j ∧ j < k + m ∧ p j = true := by
    intro p m
    induction m with
    | zero => intro k; exact ⟨fun h => Bool.noConfusion h, fun ⟨j, h1, h2, _⟩ => by omega⟩
    | succ m ih =>
      intro k
      rw [zf_any, Bool.or_eq_true, ih]
      constructor
      · rintro (h | ⟨j, h1, h2, h3⟩)
        · exact ⟨k, by omega, by omega, h⟩
        · exact ⟨j, by omega, by omega, h3⟩
      · rintro ⟨j, h1, h2, h3⟩
        by_cases e : j = k
        · exact .inl (e ▸ h3)
        · exact .inr ⟨j, by omega, by omega, h3⟩
  apply propext
  rw [any_ex]
  constructor
  · rintro ⟨j, -, -, h3⟩ e
    rw [e, Nat.zero_testBit] at h3
    exact Bool.noConfusion h3
  · intro hn
    obtain ⟨j, hj⟩ := Nat.exists_testBit_of_ne_zero hn
    refine ⟨j, by omega, ?_, hj⟩
    rcases Nat.lt_or_ge j 64 with q | q
    · omega
    · rw [Nat.testBit_lt_two_pow (Nat.lt_of_lt_of_le h (Nat.pow_le_pow_right (by decide) q))] at hj
      exact Bool.noConfusion hj
end NN
