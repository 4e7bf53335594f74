/-! seen, the model's look at one letter -/
def zFk (I I2 : zx_MI) : Prop := ∀ a j, ¬ (a = 139 ∨ a = 143 ∨ a = 145 ∨ (a = 138 ∧ (j = 0 ∨ j = 15 ∨ j = 17 ∨ j = 18 ∨ (28 ≤ j ∧ j ≤ 30)))) → I2 a j = I a j
theorem zFk_r (I : zx_MI) : zFk I I := fun _ _ _ => rfl
theorem zFk_t {I I2 I3 : zx_MI} (h : zFk I I2) (k : zFk I2 I3) : zFk I I3 := fun a j n => (k a j n).trans (h a j n)
theorem zFm_k {I I2 : zx_MI} (h : zFm I I2) : zFk I I2 := fun a j n => h a j (by omega)
theorem zFk_si {I I2 : zx_MI} (h : zFk I I2) (si : zx_SI I) : zx_SI I2 := fun a j ha => (h a j (by omega)).trans (si a j ha)
theorem zKm_f {I I2 : zx_MI} {c : Nat} {x y : Int32} {b4 b5 : Bool} (h : zKm I c x y b4 b5) (e : ∀ j, 28 ≤ j → j ≤ 30 → I2 138 j = I 138 j) : zKm I2 c x y b4 b5 := by
  unfold zKm
  rw [e 28 (by omega) (by omega), e 29 (by omega) (by omega), e 30 (by omega) (by omega)]
  exact h
abbrev zKn (I : zx_MI) (K : Nat × Int32 × Int32 × Bool × Bool) : Prop := zKm I K.1 K.2.1 K.2.2.1 K.2.2.2.1 K.2.2.2.2
section FT
variable {Lh m : Nat} {I : zx_MI} {J : zx_MJ} {B : Nat → Int32}
theorem sp_fitsN {t k : Nat} {x3 : Int32} {v5 v6 : Value} {I0 : zx_MI} {R : Nat → Int32} (v : zV R m) (hm : m + 70 < 2 ^ 30) (hk : k ≤ 60) : ∀ mm i I2, i + mm = k → zFm I0 I2 → I2 139 = zf_ni R i → ∃ I3, zFm I0 I3 ∧ I3 139 = zf_ni R k ∧ ∀ d P, zx_wp (d + 20) 258 28 [.ref 138, .int (nI t), .int (nI k), .int x3, .int (nI i), v5, v6] [] (zx_LL Lh) I2 J P = zx_wp (d + 20) 258 45 [.ref 138, .int (nI t), .int (nI k), .int x3, .int (nI k), v5, v6] [] (zx_LL Lh) I3 J P := by
  intro mm
  induction mm with
  | zero =>
    intro i I2 hi f e
    obtain rfl : i = k := by omega
    refine ⟨I2, f, e, fun d P => ?_⟩
    rw [zs_258_28]
    simp (disch := omega) only [↓zs_258_30, ↓zs_258_31, ↓zs_258_34, ↓zs_258_35, ↓zs_258_38, ↓zs_258_39, ↓zs_258_42, zx_pu_s, zx_pu_n, zx_rv_s, zx_rv_n, true_and, and_true, true_or, or_true, zb_0, zb_1, zq_lcl, zq_lcg, zq_lce, eq_self, ite_true, ite_false, nI_ltI, Nat.lt_irrefl]
  | succ mm ih =>
    intro i I2 hi f e
    have hlt : i < k := by omega
    obtain ⟨I3, f3, r3, -, -, h3⟩ := sp_nightN (Lh := Lh) (J := J) (n := i) v (by omega) f e
    obtain ⟨I4, f4, r4, h4⟩ := ih (i + 1) I3 (by omega) f3 r3
    refine ⟨I4, f4, r4, fun d P => ?_⟩
    rw [← h4 d P, zs_258_28]
    simp (disch := omega) only [↓zs_258_30, ↓zs_258_31, ↓zs_258_34, ↓zs_258_35, ↓zs_258_38, ↓zs_258_39, ↓zs_258_42, zx_pu_s, zx_pu_n, zx_rv_s, zx_rv_n, true_and, and_true, true_or, or_true, zb_0, zb_1, zq_lcl, zq_lcg, zq_lce, eq_self, ite_true, ite_false, zk_138, zw_138, zk_139, zw_139, zk_140, zw_140, zk_141, zw_141, zk_142, zw_142, zk_143, zw_143, zk_144, zw_144, zk_145, zw_145, zk_146, zw_146, zk_147, zw_147, zk_148, zw_148, zk_149, zw_149, zk_150, zw_150, zk_151, zw_151, zk_152, zw_152, zq_138_1, zq_138_2, zq_138_3, zq_138_4, zq_138_16, zq_138_19, zq_138_20, zq_138_24, zq_138_25, zq_138_26, zq_138_27, zq_138_31, zq_138_32, zq_138_33, nI_ltI, nI_add, hlt, h3]
theorem sp_fitsL {t k N : Nat} {x3 : Int32} {v6 : Value} {T : Nat → Int64} (ht : t < 4) (hN : N ≤ 8) (e3 : I 139 3 = nI N) (hT : ∀ i, i < N → J 152 (40 * t + i) = T i) : ∀ mm s b, s + mm = N → ∀ d P, zx_wp d 258 51 [.ref 138, .int (nI t), .int (nI k), .int x3, .int (zB b), .int (nI s), v6] [] (zx_LL Lh) I J P = zx_wp d 258 124 [.ref 138, .int (nI t), .int (nI k), .int x3, .int (zB (b && zf_ft T (fun i => I 139 (117 + i)) mm s)), .int (nI N), v6] [] (zx_LL Lh) I J P := by
  have a0 : ∀ b, zB b &&& nI 0 = zB false := by intro b; cases b <;> decide
  have a1 : ∀ b, zB b &&& nI 1 = zB b := by intro b; cases b <;> decide
  intro mm
  induction mm with
  | zero =>
    intro s b hs d P
    obtain rfl : s = N := by omega
    rw [show zf_ft T (fun i => I 139 (117 + i)) 0 s = true from rfl, Bool.and_true, zs_258_51]
    simp (disch := omega) only [↓zs_258_53, ↓zs_258_54, ↓zs_258_57, ↓zs_258_58, ↓zs_258_59, ↓zs_258_62, ↓zs_258_64, ↓zs_258_65, ↓zs_258_68, ↓zs_258_70, ↓zs_258_71, ↓zs_258_72, ↓zs_258_74, ↓zs_258_75, ↓zs_258_76, ↓zs_258_79, ↓zs_258_80, ↓zs_258_83, ↓zs_258_84, ↓zs_258_87, ↓zs_258_89, ↓zs_258_90, ↓zs_258_91, ↓zs_258_93, ↓zs_258_94, ↓zs_258_95, ↓zs_258_96, ↓zs_258_99, ↓zs_258_101, ↓zs_258_103, ↓zs_258_104, ↓zs_258_105, ↓zs_258_106, ↓zs_258_107, ↓zs_258_110, ↓zs_258_111, ↓zs_258_114, ↓zs_258_115, ↓zs_258_116, ↓zs_258_118, ↓zs_258_121, zx_pu_s, zx_pu_n, zx_rv_s, zx_rv_n, true_and, and_true, true_or, or_true, zb_0, zb_1, zq_lcl, zq_lcg, zq_lce, eq_self, ite_true, ite_false, zk_138, zw_138, zk_139, zw_139, zk_140, zw_140, zk_141, zw_141, zk_142, zw_142, zk_143, zw_143, zk_144, zw_144, zk_145, zw_145, zk_146, zw_146, zk_147, zw_147, zk_148, zw_148, zk_149, zw_149, zk_150, zw_150, zk_151, zw_151, zk_152, zw_152, zq_138_1, zq_138_2, zq_138_3, zq_138_4, zq_138_16, zq_138_19, zq_138_20, zq_138_24, zq_138_25, zq_138_26, zq_138_27, zq_138_31, zq_138_32, zq_138_33, zin_nI, nI_clamp, nI_ltI, Nat.lt_irrefl, e3]
  | succ mm ih =>
    intro s b hs d P
    have hlt : s < N := by omega
    have i9 := fun b => ih (s + 1) b (by omega) d P
    have eT := hT s hlt
    rw [zf_ft]
    by_cases c1 : T s = -1
    · have c1' : (T s = -1) = True := eq_true c1
      rw [decide_eq_true c1, Bool.true_or, Bool.true_and, ← i9, zs_258_51]
      simp (disch := omega) only [↓zs_258_53, ↓zs_258_54, ↓zs_258_57, ↓zs_258_58, ↓zs_258_59, ↓zs_258_62, ↓zs_258_64, ↓zs_258_65, ↓zs_258_68, ↓zs_258_70, ↓zs_258_71, ↓zs_258_72, ↓zs_258_74, ↓zs_258_75, ↓zs_258_76, ↓zs_258_79, ↓zs_258_80, ↓zs_258_83, ↓zs_258_84, ↓zs_258_87, ↓zs_258_89, ↓zs_258_90, ↓zs_258_91, ↓zs_258_93, ↓zs_258_94, ↓zs_258_95, ↓zs_258_96, ↓zs_258_99, ↓zs_258_101, ↓zs_258_103, ↓zs_258_104, ↓zs_258_105, ↓zs_258_106, ↓zs_258_107, ↓zs_258_110, ↓zs_258_111, ↓zs_258_114, ↓zs_258_115, ↓zs_258_116, ↓zs_258_118, ↓zs_258_121, zx_pu_s, zx_pu_n, zx_rv_s, zx_rv_n, true_and, and_true, true_or, or_true, zb_0, zb_1, zq_lcl, zq_lcg, zq_lce, eq_self, ite_true, ite_false, zk_138, zw_138, zk_139, zw_139, zk_140, zw_140, zk_141, zw_141, zk_142, zw_142, zk_143, zw_143, zk_144, zw_144, zk_145, zw_145, zk_146, zw_146, zk_147, zw_147, zk_148, zw_148, zk_149, zw_149, zk_150, zw_150, zk_151, zw_151, zk_152, zw_152, zq_138_1, zq_138_2, zq_138_3, zq_138_4, zq_138_16, zq_138_19, zq_138_20, zq_138_24, zq_138_25, zq_138_26, zq_138_27, zq_138_31, zq_138_32, zq_138_33, zin_nI, nI_clamp, nI_ltI, nI_add, pk_mul, hlt, e3, eT, c1', a1]
    · have c1' : (T s = -1) = False := eq_false c1
      rw [decide_eq_false c1, Bool.false_or]
      by_cases c2 : T s = (I 139 (117 + s)).toInt64
      · have c2' : (T s = (I 139 (117 + s)).toInt64) = True := eq_true c2
        rw [decide_eq_true c2, Bool.true_and, ← i9, zs_258_51]
        simp (disch := omega) only [↓zs_258_53, ↓zs_258_54, ↓zs_258_57, ↓zs_258_58, ↓zs_258_59, ↓zs_258_62, ↓zs_258_64, ↓zs_258_65, ↓zs_258_68, ↓zs_258_70, ↓zs_258_71, ↓zs_258_72, ↓zs_258_74, ↓zs_258_75, ↓zs_258_76, ↓zs_258_79, ↓zs_258_80, ↓zs_258_83, ↓zs_258_84, ↓zs_258_87, ↓zs_258_89, ↓zs_258_90, ↓zs_258_91, ↓zs_258_93, ↓zs_258_94, ↓zs_258_95, ↓zs_258_96, ↓zs_258_99, ↓zs_258_101, ↓zs_258_103, ↓zs_258_104, ↓zs_258_105, ↓zs_258_106, ↓zs_258_107, ↓zs_258_110, ↓zs_258_111, ↓zs_258_114, ↓zs_258_115, ↓zs_258_116, ↓zs_258_118, ↓zs_258_121, zx_pu_s, zx_pu_n, zx_rv_s, zx_rv_n, true_and, and_true, true_or, or_true, zb_0, zb_1, zq_lcl, zq_lcg, zq_lce, eq_self, ite_true, ite_false, zk_138, zw_138, zk_139, zw_139, zk_140, zw_140, zk_141, zw_141, zk_142, zw_142, zk_143, zw_143, zk_144, zw_144, zk_145, zw_145, zk_146, zw_146, zk_147, zw_147, zk_148, zw_148, zk_149, zw_149, zk_150, zw_150, zk_151, zw_151, zk_152, zw_152, zq_138_1, zq_138_2, zq_138_3, zq_138_4, zq_138_16, zq_138_19, zq_138_20, zq_138_24, zq_138_25, zq_138_26, zq_138_27, zq_138_31, zq_138_32, zq_138_33, zin_nI, nI_clamp, nI_ltI, nI_add, pk_mul, hlt, e3, eT, c1', c2', a1]
      · have c2' : (T s = (I 139 (117 + s)).toInt64) = False := eq_false c2
        rw [decide_eq_false c2, Bool.false_and, Bool.and_false, ← Bool.false_and (zf_ft T (fun i => I 139 (117 + i)) mm (s + 1)), ← i9, zs_258_51]
        simp (disch := omega) only [↓zs_258_53, ↓zs_258_54, ↓zs_258_57, ↓zs_258_58, ↓zs_258_59, ↓zs_258_62, ↓zs_258_64, ↓zs_258_65, ↓zs_258_68, ↓zs_258_70, ↓zs_258_71, ↓zs_258_72, ↓zs_258_74, ↓zs_258_75, ↓zs_258_76, ↓zs_258_79, ↓zs_258_80, ↓zs_258_83, ↓zs_258_84, ↓zs_258_87, ↓zs_258_89, ↓zs_258_90, ↓zs_258_91, ↓zs_258_93, ↓zs_258_94, ↓zs_258_95, ↓zs_258_96, ↓zs_258_99, ↓zs_258_101, ↓zs_258_103, ↓zs_258_104, ↓zs_258_105, ↓zs_258_106, ↓zs_258_107, ↓zs_258_110, ↓zs_258_111, ↓zs_258_114, ↓zs_258_115, ↓zs_258_116, ↓zs_258_118, ↓zs_258_121, zx_pu_s, zx_pu_n, zx_rv_s, zx_rv_n, true_and, and_true, true_or, or_true, zb_0, zb_1, zq_lcl, zq_lcg, zq_lce, eq_self, ite_true, ite_false, zk_138, zw_138, zk_139, zw_139, zk_140, zw_140, zk_141, zw_141, zk_142, zw_142, zk_143, zw_143, zk_144, zw_144, zk_145, zw_145, zk_146, zw_146, zk_147, zw_147, zk_148, zw_148, zk_149, zw_149, zk_150, zw_150, zk_151, zw_151, zk_152, zw_152, zq_138_1, zq_138_2, zq_138_3, zq_138_4, zq_138_16, zq_138_19, zq_138_20, zq_138_24, zq_138_25, zq_138_26, zq_138_27, zq_138_31, zq_138_32, zq_138_33, zin_nI, nI_clamp, nI_ltI, nI_add, pk_mul, hlt, e3, eT, c1', c2', a0]
/-- one letter's look: found or not -/
theorem sp_fits {t k : Nat} {x3 x y : Int32} {T : Nat → Int64} {R : Nat → Int32} {K : Nat × Int32 × Int32 × Bool × Bool} (v : zV R m) (hm : m + 70 < 2 ^ 30) (ht : t < 4) (hk : k ≤ 60) (eB : I 139 = B) (sR : zSm B R) (hT : ∀ i, i < zn B → J 152 (40 * t + i) = T i) (hK : zKn I K) (hc : K.1 < 2 ^ 30) (hl : (x3 = -1 ∧ R = B ∧ x = -1 ∧ y = -1) ∨ ∃ n, n < 80 ∧ x3 = nI n ∧ R = zf_fo B (n / 10) (n % 10) ∧ x = nI (n / 10) ∧ y = nI (n % 10)) : ∃ I2, zFk I I2 ∧ I2 139 = B ∧ zKn I2 (if zf_ft T (fun i => zf_ni R k (117 + i)) (zn B) 0 = true then zf_kp K x y else K) ∧ ∀ d P, zx_rn (d + 20) 258 [.ref 138, .int (nI t), .int (nI k), .int x3] (zx_LL Lh) I J P = P none (zx_LL Lh) I2 J := by
  obtain ⟨q1, q2, q3, q4, q5, q6⟩ := zSm_k sR
  have N8 : zn B ≤ 8 := by rw [← q3]; exact v.1.1.2.2.2.2.2
  obtain ⟨I1, f1, g1, h1⟩ := sp_keepsAhead (Lh := Lh) (I := I) (J := J)
  rw [eB] at g1
  have e1 : I1 139 = B := (f1 139 (by decide)).trans eB
  obtain ⟨okn, -, en, sn⟩ := zf_ni_ok v k (by omega)
  have sT := zSm_t sR sn
  -- the row set, and the nights gone by
  have start : ∃ I2, zFm I1 I2 ∧ I2 139 = zf_ni R 0 ∧ ∀ d P, zx_rn (d + 20) 258 [.ref 138, .int (nI t), .int (nI k), .int x3] (zx_LL Lh) I J P = zx_wp (d + 20) 258 28 [.ref 138, .int (nI t), .int (nI k), .int x3, .int (nI 0), zx_u0, zx_u0] [] (zx_LL Lh) I2 J P := by
    rcases hl with ⟨rfl, rfl, -, -⟩ | ⟨n, hn, rfl, rfl, -, -⟩
    · refine ⟨I1, zFm_r _, e1, fun d P => ?_⟩
      rw [ze_258]
      simp (disch := omega) only [↓zs_258_0, ↓zs_258_1, ↓zs_258_4, ↓zs_258_5, ↓zs_258_6, ↓zs_258_9, ↓zs_258_10, ↓zs_258_13, ↓zs_258_15, ↓zs_258_16, ↓zs_258_18, ↓zs_258_19, ↓zs_258_20, ↓zs_258_21, ↓zs_258_23, ↓zs_258_24, ↓zs_258_25, ↓zs_258_26, zx_pu_s, zx_pu_n, zx_rv_s, zx_rv_n, true_and, and_true, true_or, or_true, zb_0, zb_1, zq_lcl, zq_lcg, zq_lce, eq_self, ite_true, ite_false, zk_138, zw_138, zk_139, zw_139, zk_140, zw_140, zk_141, zw_141, zk_142, zw_142, zk_143, zw_143, zk_144, zw_144, zk_145, zw_145, zk_146, zw_146, zk_147, zw_147, zk_148, zw_148, zk_149, zw_149, zk_150, zw_150, zk_151, zw_151, zk_152, zw_152, zq_138_1, zq_138_2, zq_138_3, zq_138_4, zq_138_16, zq_138_19, zq_138_20, zq_138_24, zq_138_25, zq_138_26, zq_138_27, zq_138_31, zq_138_32, zq_138_33, h1]
    · have m1 : (nI n = -1) = False := zq_m1 (by omega)
      refine ⟨zx_u I1 139 (125 + n / 10) (nI (n % 10)), fun a j w => zu_n (by omega), ?_, fun d P => ?_⟩
      · rw [zu_r, zr_s, e1]; rfl
      · rw [ze_258]
        simp (disch := omega) only [↓zs_258_0, ↓zs_258_1, ↓zs_258_4, ↓zs_258_5, ↓zs_258_6, ↓zs_258_9, ↓zs_258_10, ↓zs_258_13, ↓zs_258_15, ↓zs_258_16, ↓zs_258_18, ↓zs_258_19, ↓zs_258_20, ↓zs_258_21, ↓zs_258_23, ↓zs_258_24, ↓zs_258_25, ↓zs_258_26, zx_pu_s, zx_pu_n, zx_rv_s, zx_rv_n, true_and, and_true, true_or, or_true, zb_0, zb_1, zq_lcl, zq_lcg, zq_lce, eq_self, ite_true, ite_false, zk_138, zw_138, zk_139, zw_139, zk_140, zw_140, zk_141, zw_141, zk_142, zw_142, zk_143, zw_143, zk_144, zw_144, zk_145, zw_145, zk_146, zw_146, zk_147, zw_147, zk_148, zw_148, zk_149, zw_149, zk_150, zw_150, zk_151, zw_151, zk_152, zw_152, zq_138_1, zq_138_2, zq_138_3, zq_138_4, zq_138_16, zq_138_19, zq_138_20, zq_138_24, zq_138_25, zq_138_26, zq_138_27, zq_138_31, zq_138_32, zq_138_33, h1, m1, zq_10, not_false_eq_true, pk_div, pk_mul, zn_rem, zq_rem, nI_add, zin_nI, nI_clamp]
  obtain ⟨I2, f2, e2, h2⟩ := start
  obtain ⟨I3, f3, e3, h3⟩ := sp_fitsN (Lh := Lh) (J := J) (t := t) (k := k) (x3 := x3) (v5 := zx_u0) (v6 := zx_u0) (I0 := I1) v (by omega) hk k 0 I2 (by omega) f2 e2
  have e33 : I3 139 3 = nI (zn B) := by rw [e3, sn 3 (by omega), v.1.1.2.2.1, q3]
  have h4 := sp_fitsL (Lh := Lh) (I := I3) (J := J) (t := t) (k := k) (x3 := x3) (v6 := zx_u0) ht N8 e33 hT (zn B) 0 true (by omega)
  rw [e3, Bool.true_and] at h4
  have eback : zf_back (I3 139) (I3 145) = B := zf_back_eq (by rw [e3]; exact sT) (fun j hj => by rw [zFm_row f3 (by decide) (by decide) (by decide)]; exact g1 j hj)
  have hah := fun d P => sp_isAhead (Lh := Lh) (I := I3) (J := J) (d := d) (P := P)
  rw [eback] at hah
  have fk : zFk I (zx_ur I3 139 B) := fun a j w => by
    rw [zr_o (by omega), f3 a j (by omega), f1 a (by omega)]
  have hK3 : zKm (zx_ur I3 139 B) K.1 K.2.1 K.2.2.1 K.2.2.2.1 K.2.2.2.2 := zKm_f hK (fun j h1 h2 => by rw [zr_o (by decide), f3 138 j (by omega), f1 138 (by decide)])
  cases c : zf_ft T (fun i => zf_ni R k (117 + i)) (zn B) 0 with
  | false =>
    rw [c] at h4
    refine ⟨zx_ur I3 139 B, fk, zr_s _ _ _, ?_, fun d P => ?_⟩
    · rw [if_neg (by decide)]; exact hK3
    · rw [h2, h3]
      simp (disch := omega) only [↓zs_258_45, ↓zs_258_46, ↓zs_258_48, ↓zs_258_49, zx_pu_s, zx_pu_n, zx_rv_s, zx_rv_n, true_and, and_true, true_or, or_true, zb_0, zb_1, zq_lcl, zq_lcg, zq_lce, eq_self, ite_true, ite_false, zk_138, zw_138, zk_139, zw_139, zk_140, zw_140, zk_141, zw_141, zk_142, zw_142, zk_143, zw_143, zk_144, zw_144, zk_145, zw_145, zk_146, zw_146, zk_147, zw_147, zk_148, zw_148, zk_149, zw_149, zk_150, zw_150, zk_151, zw_151, zk_152, zw_152, zq_138_1, zq_138_2, zq_138_3, zq_138_4, zq_138_16, zq_138_19, zq_138_20, zq_138_24, zq_138_25, zq_138_26, zq_138_27, zq_138_31, zq_138_32, zq_138_33]
      rw [show nI 1 = zB true from rfl, h4]
      simp (disch := omega) only [↓zs_258_124, ↓zs_258_125, ↓zs_258_128, ↓zs_258_130, ↓zs_258_133, zx_pu_s, zx_pu_n, zx_rv_s, zx_rv_n, true_and, and_true, true_or, or_true, zb_0, zb_1, zq_lcl, zq_lcg, zq_lce, eq_self, ite_true, ite_false, zk_138, zw_138, zk_139, zw_139, zk_140, zw_140, zk_141, zw_141, zk_142, zw_142, zk_143, zw_143, zk_144, zw_144, zk_145, zw_145, zk_146, zw_146, zk_147, zw_147, zk_148, zw_148, zk_149, zw_149, zk_150, zw_150, zk_151, zw_151, zk_152, zw_152, zq_138_1, zq_138_2, zq_138_3, zq_138_4, zq_138_16, zq_138_19, zq_138_20, zq_138_24, zq_138_25, zq_138_26, zq_138_27, zq_138_31, zq_138_32, zq_138_33, hah, zB_0, reduceCtorEq]
  | true =>
    rw [c] at h4
    have hx : ¬ x = -9 ∧ ¬ y = -9 := by
      rcases hl with ⟨-, -, rfl, rfl⟩ | ⟨n, hn, -, -, rfl, rfl⟩
      · decide
      · have k9 : ∀ i : Nat, i < 80 → ¬ nI i = -9 := fun i hi e => by
          have := nI_toInt (n := i) (by omega)
          rw [e, show (-9 : Int32).toInt = -9 by decide] at this
          omega
        exact ⟨k9 _ (by omega), k9 _ (by omega)⟩
    obtain ⟨I5, f5, K5, h5⟩ := sp_foundT (Lh := Lh) (I := zx_ur I3 139 B) (J := J) (q := nI t) (k := nI k) (n := x3) (v4 := zB true) (x := x) (y := y) hc hK3 hx.1 hx.2
    refine ⟨I5, zFk_t fk (fun a j w => f5 a j (by omega)), ?_, ?_, fun d P => ?_⟩
    · rw [funext (fun j => f5 139 j (by omega)), zr_s]
    · rw [if_pos rfl]; exact K5
    · rw [h2, h3]
      simp (disch := omega) only [↓zs_258_45, ↓zs_258_46, ↓zs_258_48, ↓zs_258_49, zx_pu_s, zx_pu_n, zx_rv_s, zx_rv_n, true_and, and_true, true_or, or_true, zb_0, zb_1, zq_lcl, zq_lcg, zq_lce, eq_self, ite_true, ite_false, zk_138, zw_138, zk_139, zw_139, zk_140, zw_140, zk_141, zw_141, zk_142, zw_142, zk_143, zw_143, zk_144, zw_144, zk_145, zw_145, zk_146, zw_146, zk_147, zw_147, zk_148, zw_148, zk_149, zw_149, zk_150, zw_150, zk_151, zw_151, zk_152, zw_152, zq_138_1, zq_138_2, zq_138_3, zq_138_4, zq_138_16, zq_138_19, zq_138_20, zq_138_24, zq_138_25, zq_138_26, zq_138_27, zq_138_31, zq_138_32, zq_138_33]
      rw [show nI 1 = zB true from rfl, h4]
      have fin := h5 (d + 20) P
      rcases hl with ⟨rfl, -, rfl, rfl⟩ | ⟨n, hn, rfl, -, rfl, rfl⟩
      · rw [← fin]
        simp (disch := omega) only [↓zs_258_124, ↓zs_258_125, ↓zs_258_128, ↓zs_258_130, ↓zs_258_133, ↓zs_258_134, ↓zs_258_135, ↓zs_258_136, ↓zs_258_139, ↓zs_258_140, ↓zs_258_143, ↓zs_258_144, ↓zs_258_146, ↓zs_258_147, ↓zs_258_149, ↓zs_258_150, ↓zs_258_151, ↓zs_258_154, ↓zs_258_155, ↓zs_258_158, ↓zs_258_159, ↓zs_258_161, ↓zs_258_162, zx_pu_s, zx_pu_n, zx_rv_s, zx_rv_n, true_and, and_true, true_or, or_true, zb_0, zb_1, zq_lcl, zq_lcg, zq_lce, eq_self, ite_true, ite_false, zk_138, zw_138, zk_139, zw_139, zk_140, zw_140, zk_141, zw_141, zk_142, zw_142, zk_143, zw_143, zk_144, zw_144, zk_145, zw_145, zk_146, zw_146, zk_147, zw_147, zk_148, zw_148, zk_149, zw_149, zk_150, zw_150, zk_151, zw_151, zk_152, zw_152, zq_138_1, zq_138_2, zq_138_3, zq_138_4, zq_138_16, zq_138_19, zq_138_20, zq_138_24, zq_138_25, zq_138_26, zq_138_27, zq_138_31, zq_138_32, zq_138_33, hah, zB_0, reduceCtorEq]
      · have m1 : (nI n = -1) = False := zq_m1 (by omega)
        rw [← fin]
        simp (disch := omega) only [↓zs_258_124, ↓zs_258_125, ↓zs_258_128, ↓zs_258_130, ↓zs_258_133, ↓zs_258_134, ↓zs_258_135, ↓zs_258_136, ↓zs_258_139, ↓zs_258_140, ↓zs_258_143, ↓zs_258_144, ↓zs_258_146, ↓zs_258_147, ↓zs_258_149, ↓zs_258_150, ↓zs_258_151, ↓zs_258_154, ↓zs_258_155, ↓zs_258_158, ↓zs_258_159, ↓zs_258_161, ↓zs_258_162, zx_pu_s, zx_pu_n, zx_rv_s, zx_rv_n, true_and, and_true, true_or, or_true, zb_0, zb_1, zq_lcl, zq_lcg, zq_lce, eq_self, ite_true, ite_false, zk_138, zw_138, zk_139, zw_139, zk_140, zw_140, zk_141, zw_141, zk_142, zw_142, zk_143, zw_143, zk_144, zw_144, zk_145, zw_145, zk_146, zw_146, zk_147, zw_147, zk_148, zw_148, zk_149, zw_149, zk_150, zw_150, zk_151, zw_151, zk_152, zw_152, zq_138_1, zq_138_2, zq_138_3, zq_138_4, zq_138_16, zq_138_19, zq_138_20, zq_138_24, zq_138_25, zq_138_26, zq_138_27, zq_138_31, zq_138_32, zq_138_33, hah, zB_0, reduceCtorEq, m1, zq_10, not_false_eq_true, pk_div, pk_mul, zn_rem, zq_rem]
end FT
