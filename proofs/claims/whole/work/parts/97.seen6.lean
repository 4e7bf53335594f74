/-! seen, the model's search -/
theorem zf_sk_t {g : Nat → Bool} : ∀ x y n K, zf_sk g (x + y) n K = zf_sk g y (n + x) (zf_sk g x n K) := by
  intro x
  induction x with
  | zero => intro y n K; rw [Nat.zero_add]; rfl
  | succ x ih =>
    intro y n K
    rw [show x + 1 + y = (x + y) + 1 by omega, zf_sk, zf_sk, ih, show n + 1 + x = n + (x + 1) by omega]
theorem zf_sk_0 {g : Nat → Bool} : ∀ mm n K, (∀ i, n ≤ i → i < n + mm → g i = false) → zf_sk g mm n K = K := by
  intro mm
  induction mm with
  | zero => intro n K _; rfl
  | succ mm ih =>
    intro n K h
    rw [zf_sk, h n (by omega) (by omega), if_neg (by decide)]
    exact ih (n + 1) K (fun i h1 h2 => h i (by omega) (by omega))
theorem zf_sk_le {g : Nat → Bool} : ∀ mm n K, (zf_sk g mm n K).1 ≤ K.1 + mm := by
  intro mm
  induction mm with
  | zero => intro n K; exact Nat.le_refl _
  | succ mm ih =>
    intro n K
    rw [zf_sk]
    have := ih (n + 1) (if g n = true then zf_kp K (nI (n / 10)) (nI (n % 10)) else K)
    split at this
    · have e : (zf_kp K (nI (n / 10)) (nI (n % 10))).1 = K.1 + 1 := rfl
      rw [if_pos (by assumption)]
      omega
    · rw [if_neg (by assumption)]
      omega
theorem zf_sg_no {B : Nat → Int32} {T : Nat → Int64} {k n : Nat} (h : zn B ≤ n / 10 ∨ zn B ≤ n % 10) : zf_sg B T k n = false := by
  have e : zf_wL B (n / 10) (n % 10) = 1 := by
    unfold zf_wL
    rw [if_neg (by omega)]
  unfold zf_sg zf_fr
  rw [e, decide_eq_false (by decide), Bool.false_and, Bool.false_and]
theorem zf_sk_10 {B : Nat → Int32} {T : Nat → Int64} {k s : Nat} {K : Nat × Int32 × Int32 × Bool × Bool} (hN : zn B ≤ 8) : zf_sk (zf_sg B T k) 10 (10 * s) K = zf_sk (zf_sg B T k) (zn B) (10 * s) K := by
  have key : zf_sk (zf_sg B T k) (zn B + (10 - zn B)) (10 * s) K = zf_sk (zf_sg B T k) (zn B) (10 * s) K := by
    rw [zf_sk_t, zf_sk_0 _ _ _ (fun i h1 h2 => zf_sg_no (.inr (by omega)))]
  rw [show zn B + (10 - zn B) = 10 by omega] at key
  exact key
theorem zf_sk_80 {B : Nat → Int32} {T : Nat → Int64} {k : Nat} {K : Nat × Int32 × Int32 × Bool × Bool} (hN : zn B ≤ 8) : zf_sk (zf_sg B T k) 80 0 K = zf_sk (zf_sg B T k) (10 * zn B) 0 K := by
  have key : zf_sk (zf_sg B T k) (10 * zn B + (80 - 10 * zn B)) 0 K = zf_sk (zf_sg B T k) (10 * zn B) 0 K := by
    rw [zf_sk_t, zf_sk_0 _ _ _ (fun i h1 h2 => zf_sg_no (.inl (by omega)))]
  rw [show 10 * zn B + (80 - 10 * zn B) = 80 by omega] at key
  exact key
section LF
variable {Lh m : Nat} {I : zx_MI} {J : zx_MJ} {B : Nat → Int32}
theorem sp_laysB {t k a : Nat} {T : Nat → Int64} (v : zV B m) (hm : m < 2 ^ 29) (ht : t < 4) (hk : k ≤ 60) (ha : a < zn B) (hT : ∀ i, i < zn B → J 152 (40 * t + i) = T i) : ∀ mm b K I2, b + mm = zn B → K.1 + mm ≤ 1000 → zFk I I2 → I2 139 = B → zKn I2 K → ∃ I3, zFk I I3 ∧ I3 139 = B ∧ zKn I3 (zf_sk (zf_sg B T k) mm (10 * a + b) K) ∧ ∀ d P, zx_wp (d + 21) 259 121 [.ref 138, .int (nI t), .int (nI k), .int (nI 0), .int (nI a), .int (nI b)] [] (zx_LL Lh) I2 J P = zx_wp (d + 21) 259 163 [.ref 138, .int (nI t), .int (nI k), .int (nI 0), .int (nI a), .int (nI (zn B))] [] (zx_LL Lh) I3 J P := by
  have N8 : zn B ≤ 8 := v.1.1.2.2.2.2.2
  intro mm
  induction mm with
  | zero =>
    intro b K I2 hb hc fr eB hK
    have e3 : I2 139 3 = nI (zn B) := by rw [eB]; exact v.1.1.2.2.1
    obtain rfl : b = zn B := by omega
    refine ⟨I2, fr, eB, hK, fun d P => ?_⟩
    rw [zs_259_121]
    simp (disch := omega) only [↓zs_259_123, ↓zs_259_124, ↓zs_259_127, ↓zs_259_128, ↓zs_259_129, ↓zs_259_132, ↓zs_259_133, ↓zs_259_135, ↓zs_259_137, ↓zs_259_140, ↓zs_259_143, ↓zs_259_144, ↓zs_259_145, ↓zs_259_146, ↓zs_259_148, ↓zs_259_150, ↓zs_259_151, ↓zs_259_153, ↓zs_259_154, ↓zs_259_157, ↓zs_259_160, zx_pu_s, zx_pu_n, zx_rv_s, zx_rv_n, true_and, and_true, true_or, or_true, zb_0, zb_1, zq_lcl, zq_lcg, zq_lce, eq_self, ite_true, ite_false, zk_138, zw_138, zk_139, zw_139, zk_140, zw_140, zk_141, zw_141, zk_142, zw_142, zk_143, zw_143, zk_144, zw_144, zk_145, zw_145, zk_146, zw_146, zk_147, zw_147, zk_148, zw_148, zk_149, zw_149, zk_150, zw_150, zk_151, zw_151, zk_152, zw_152, zq_138_1, zq_138_2, zq_138_3, zq_138_4, zq_138_16, zq_138_19, zq_138_20, zq_138_24, zq_138_25, zq_138_26, zq_138_27, zq_138_31, zq_138_32, zq_138_33, zin_nI, nI_clamp, nI_ltI, Nat.lt_irrefl, e3]
  | succ mm ih =>
    intro b K I2 hb hc fr eB hK
    have e3 : I2 139 3 = nI (zn B) := by rw [eB]; exact v.1.1.2.2.1
    have hlt : b < zn B := by omega
    have hcan := fun d P => sp_canTurn (Lh := Lh) (J := J) (d := d) (P := P) eB ha hlt N8
    have d10 : (10 * a + b) / 10 = a := by omega
    have m10 : (10 * a + b) % 10 = b := by omega
    rw [zf_sk, d10, m10, show 10 * a + b + 1 = 10 * a + (b + 1) by omega]
    cases c1 : zf_fr B a b with
    | false =>
      have cg : zf_sg B T k (10 * a + b) = false := by unfold zf_sg; rw [d10, m10, c1, Bool.false_and]
      rw [c1] at hcan
      rw [cg, if_neg (by decide)]
      obtain ⟨I3, f3, e9, k9, h9⟩ := ih (b + 1) K I2 (by omega) (by omega) fr eB hK
      refine ⟨I3, f3, e9, k9, fun d P => ?_⟩
      rw [← h9, zs_259_121]
      simp (disch := omega) only [↓zs_259_123, ↓zs_259_124, ↓zs_259_127, ↓zs_259_128, ↓zs_259_129, ↓zs_259_132, ↓zs_259_133, ↓zs_259_135, ↓zs_259_137, ↓zs_259_140, ↓zs_259_143, ↓zs_259_144, ↓zs_259_145, ↓zs_259_146, ↓zs_259_148, ↓zs_259_150, ↓zs_259_151, ↓zs_259_153, ↓zs_259_154, ↓zs_259_157, ↓zs_259_160, zx_pu_s, zx_pu_n, zx_rv_s, zx_rv_n, true_and, and_true, true_or, or_true, zb_0, zb_1, zq_lcl, zq_lcg, zq_lce, eq_self, ite_true, ite_false, zk_138, zw_138, zk_139, zw_139, zk_140, zw_140, zk_141, zw_141, zk_142, zw_142, zk_143, zw_143, zk_144, zw_144, zk_145, zw_145, zk_146, zw_146, zk_147, zw_147, zk_148, zw_148, zk_149, zw_149, zk_150, zw_150, zk_151, zw_151, zk_152, zw_152, zq_138_1, zq_138_2, zq_138_3, zq_138_4, zq_138_16, zq_138_19, zq_138_20, zq_138_24, zq_138_25, zq_138_26, zq_138_27, zq_138_31, zq_138_32, zq_138_33, zin_nI, nI_clamp, nI_ltI, nI_add, hlt, e3, hcan, zB_0, reduceCtorEq]
    | true =>
      rw [c1] at hcan
      have w0 : zf_wL B a b = 0 := by
        unfold zf_fr at c1
        rw [Bool.and_eq_true, decide_eq_true_iff] at c1
        exact c1.1
      obtain ⟨v1, s1⟩ := zf_fo_V v (by omega) w0
      have cg : zf_sg B T k (10 * a + b) = zf_ft T (fun i => zf_ni (zf_fo B a b) k (117 + i)) (zn B) 0 := by unfold zf_sg; rw [d10, m10, c1, Bool.true_and]
      obtain ⟨I4, f4, e4, k4, h4⟩ := sp_fits (Lh := Lh) (I := I2) (J := J) (t := t) (k := k) (x3 := nI (10 * a + b)) (x := nI a) (y := nI b) (T := T) (R := zf_fo B a b) (K := K) v1 (by omega) ht hk eB s1 hT hK (by omega) (.inr ⟨10 * a + b, by omega, rfl, by rw [d10, m10], by rw [d10], by rw [m10]⟩)
      rw [← cg] at k4
      obtain ⟨I3, f3, e9, k9, h9⟩ := ih (b + 1) (if zf_sg B T k (10 * a + b) = true then zf_kp K (nI a) (nI b) else K) I4 (by omega) (by
        split
        · have e : (zf_kp K (nI a) (nI b)).1 = K.1 + 1 := rfl
          omega
        · omega) (zFk_t fr f4) e4 k4
      refine ⟨I3, f3, e9, k9, fun d P => ?_⟩
      rw [← h9, zs_259_121]
      simp (disch := omega) only [↓zs_259_123, ↓zs_259_124, ↓zs_259_127, ↓zs_259_128, ↓zs_259_129, ↓zs_259_132, ↓zs_259_133, ↓zs_259_135, ↓zs_259_137, ↓zs_259_140, ↓zs_259_143, ↓zs_259_144, ↓zs_259_145, ↓zs_259_146, ↓zs_259_148, ↓zs_259_150, ↓zs_259_151, ↓zs_259_153, ↓zs_259_154, ↓zs_259_157, ↓zs_259_160, zx_pu_s, zx_pu_n, zx_rv_s, zx_rv_n, true_and, and_true, true_or, or_true, zb_0, zb_1, zq_lcl, zq_lcg, zq_lce, eq_self, ite_true, ite_false, zk_138, zw_138, zk_139, zw_139, zk_140, zw_140, zk_141, zw_141, zk_142, zw_142, zk_143, zw_143, zk_144, zw_144, zk_145, zw_145, zk_146, zw_146, zk_147, zw_147, zk_148, zw_148, zk_149, zw_149, zk_150, zw_150, zk_151, zw_151, zk_152, zw_152, zq_138_1, zq_138_2, zq_138_3, zq_138_4, zq_138_16, zq_138_19, zq_138_20, zq_138_24, zq_138_25, zq_138_26, zq_138_27, zq_138_31, zq_138_32, zq_138_33, zin_nI, nI_clamp, nI_ltI, nI_add, pk_mul, hlt, e3, hcan, zB_0, reduceCtorEq, h4]
theorem sp_laysA {t k : Nat} {T : Nat → Int64} (v : zV B m) (hm : m < 2 ^ 29) (ht : t < 4) (hk : k ≤ 60) (hT : ∀ i, i < zn B → J 152 (40 * t + i) = T i) : ∀ mm a K I2, a + mm = zn B → K.1 ≤ 10 * a + 1 → zFk I I2 → I2 139 = B → zKn I2 K → ∃ I3, zFk I I3 ∧ I3 139 = B ∧ zKn I3 (zf_sk (zf_sg B T k) (10 * mm) (10 * a) K) ∧ ∀ d P v5, zx_wp (d + 21) 259 107 [.ref 138, .int (nI t), .int (nI k), .int (nI 0), .int (nI a), v5] [] (zx_LL Lh) I2 J P = P (some (.int (nI 0))) (zx_LL Lh) I3 J := by
  have N8 : zn B ≤ 8 := v.1.1.2.2.2.2.2
  intro mm
  induction mm with
  | zero =>
    intro a K I2 ha hc fr eB hK
    have e3 : I2 139 3 = nI (zn B) := by rw [eB]; exact v.1.1.2.2.1
    obtain rfl : a = zn B := by omega
    refine ⟨I2, fr, eB, hK, fun d P v5 => ?_⟩
    rw [zs_259_107]
    simp (disch := omega) only [↓zs_259_109, ↓zs_259_110, ↓zs_259_113, ↓zs_259_114, ↓zs_259_115, ↓zs_259_118, ↓zs_259_119, ↓zs_259_169, ↓zs_259_170, zx_pu_s, zx_pu_n, zx_rv_s, zx_rv_n, true_and, and_true, true_or, or_true, zb_0, zb_1, zq_lcl, zq_lcg, zq_lce, eq_self, ite_true, ite_false, zk_138, zw_138, zk_139, zw_139, zk_140, zw_140, zk_141, zw_141, zk_142, zw_142, zk_143, zw_143, zk_144, zw_144, zk_145, zw_145, zk_146, zw_146, zk_147, zw_147, zk_148, zw_148, zk_149, zw_149, zk_150, zw_150, zk_151, zw_151, zk_152, zw_152, zq_138_1, zq_138_2, zq_138_3, zq_138_4, zq_138_16, zq_138_19, zq_138_20, zq_138_24, zq_138_25, zq_138_26, zq_138_27, zq_138_31, zq_138_32, zq_138_33, zin_nI, nI_clamp, nI_ltI, Nat.lt_irrefl, e3]
  | succ mm ih =>
    intro a K I2 ha hc fr eB hK
    have e3 : I2 139 3 = nI (zn B) := by rw [eB]; exact v.1.1.2.2.1
    have hlt : a < zn B := by omega
    obtain ⟨I3, f3, e9, k9, h9⟩ := sp_laysB (Lh := Lh) (I := I) (J := J) (t := t) (k := k) (a := a) (T := T) v hm ht hk hlt hT (zn B) 0 K I2 (by omega) (by omega) fr eB hK
    rw [Nat.add_zero] at k9
    have le := zf_sk_le (g := zf_sg B T k) (zn B) (10 * a) K
    rw [show 10 * (mm + 1) = 10 + 10 * mm by omega, zf_sk_t, zf_sk_10 N8, show 10 * a + 10 = 10 * (a + 1) by omega]
    obtain ⟨I4, f4, e4, k4, h4⟩ := ih (a + 1) (zf_sk (zf_sg B T k) (zn B) (10 * a) K) I3 (by omega) (by omega) f3 e9 k9
    refine ⟨I4, f4, e4, k4, fun d P v5 => ?_⟩
    rw [← h4 d P (.int (nI (zn B))), zs_259_107]
    simp (disch := omega) only [↓zs_259_109, ↓zs_259_110, ↓zs_259_113, ↓zs_259_114, ↓zs_259_115, ↓zs_259_118, ↓zs_259_119, zx_pu_s, zx_pu_n, zx_rv_s, zx_rv_n, true_and, and_true, true_or, or_true, zb_0, zb_1, zq_lcl, zq_lcg, zq_lce, eq_self, ite_true, ite_false, zk_138, zw_138, zk_139, zw_139, zk_140, zw_140, zk_141, zw_141, zk_142, zw_142, zk_143, zw_143, zk_144, zw_144, zk_145, zw_145, zk_146, zw_146, zk_147, zw_147, zk_148, zw_148, zk_149, zw_149, zk_150, zw_150, zk_151, zw_151, zk_152, zw_152, zq_138_1, zq_138_2, zq_138_3, zq_138_4, zq_138_16, zq_138_19, zq_138_20, zq_138_24, zq_138_25, zq_138_26, zq_138_27, zq_138_31, zq_138_32, zq_138_33, zin_nI, nI_clamp, nI_ltI, hlt, e3]
    rw [h9]
    simp (disch := omega) only [↓zs_259_163, ↓zs_259_166, zx_pu_s, zx_pu_n, zx_rv_s, zx_rv_n, true_and, and_true, true_or, or_true, zb_0, zb_1, zq_lcl, zq_lcg, zq_lce, eq_self, ite_true, ite_false, zk_138, zw_138, zk_139, zw_139, zk_140, zw_140, zk_141, zw_141, zk_142, zw_142, zk_143, zw_143, zk_144, zw_144, zk_145, zw_145, zk_146, zw_146, zk_147, zw_147, zk_148, zw_148, zk_149, zw_149, zk_150, zw_150, zk_151, zw_151, zk_152, zw_152, zq_138_1, zq_138_2, zq_138_3, zq_138_4, zq_138_16, zq_138_19, zq_138_20, zq_138_24, zq_138_25, zq_138_26, zq_138_27, zq_138_31, zq_138_32, zq_138_33, nI_add]
/-- what the model refuses -/
theorem sp_laysR {t n N s : Nat} {y : Int32} {T : Nat → Int64} (ht : t < 4) (hn : n ≤ 40) (hN : I 139 3 = nI N) (N8 : N ≤ 8) (hs : s < 4) (e0 : I 150 t = nI s) (e1 : I 151 t = nI n) (hT : ∀ i, i < n → J 152 (40 * t + i) = T i) : ∀ d P, zx_rn (d + 21) 259 [.ref 138, .int (nI t), .int y] (zx_LL Lh) I J P = if zf_wt T n N y = nI 0 then zx_wp (d + 21) 259 92 [.ref 138, .int (nI t), .int y, .int (nI 0), .int (nI N), zx_u0] [] (zx_LL Lh) I J P else P (some (.int (zf_wt T n N y))) (zx_LL Lh) I J := by
  have n3 : ¬ (-3 : Int32) = nI 0 := by decide
  have n4 : ¬ (-4 : Int32) = nI 0 := by decide
  have hno := fun d P => (((sp_noTray (Lh := Lh) (I := I) (J := J) (x := nI t)).2 t ht rfl).2 s hs e0 d P)
  have hby := fun d L I J P => sp_bt (d := d) (L := L) (I := I) (J := J) (P := P) y (a := 0) (b := 60) (by omega) (by omega)
  intro d P
  unfold zf_wt
  by_cases c : n = N
  · subst c
    rw [if_pos rfl]
    have loop : ∀ mm i, i + mm = n → zx_wp (d + 21) 259 33 [.ref 138, .int (nI t), .int y, .int (nI 0), .int (nI i), zx_u0] [] (zx_LL Lh) I J P = if zf_rg T mm i = true then zx_wp (d + 21) 259 77 [.ref 138, .int (nI t), .int y, .int (nI 0), .int (nI n), zx_u0] [] (zx_LL Lh) I J P else P (some (.int (-3))) (zx_LL Lh) I J := by
      intro mm
      induction mm with
      | zero =>
        intro i hi
        obtain rfl : i = n := by omega
        rw [show zf_rg T 0 i = true from rfl, if_pos rfl, zs_259_33]
        simp (disch := omega) only [↓zs_259_35, ↓zs_259_36, ↓zs_259_39, ↓zs_259_40, ↓zs_259_41, ↓zs_259_44, ↓zs_259_45, ↓zs_259_48, ↓zs_259_50, ↓zs_259_51, ↓zs_259_52, ↓zs_259_54, ↓zs_259_55, ↓zs_259_56, ↓zs_259_59, ↓zs_259_62, ↓zs_259_65, ↓zs_259_68, ↓zs_259_70, ↓zs_259_71, ↓zs_259_74, zx_pu_s, zx_pu_n, zx_rv_s, zx_rv_n, true_and, and_true, true_or, or_true, zb_0, zb_1, zq_lcl, zq_lcg, zq_lce, eq_self, ite_true, ite_false, zk_138, zw_138, zk_139, zw_139, zk_140, zw_140, zk_141, zw_141, zk_142, zw_142, zk_143, zw_143, zk_144, zw_144, zk_145, zw_145, zk_146, zw_146, zk_147, zw_147, zk_148, zw_148, zk_149, zw_149, zk_150, zw_150, zk_151, zw_151, zk_152, zw_152, zq_138_1, zq_138_2, zq_138_3, zq_138_4, zq_138_16, zq_138_19, zq_138_20, zq_138_24, zq_138_25, zq_138_26, zq_138_27, zq_138_31, zq_138_32, zq_138_33, zin_nI, nI_clamp, nI_ltI, Nat.lt_irrefl, hN]
      | succ mm ih =>
        intro i hi
        have hlt : i < n := by omega
        have eT := hT i hlt
        rw [zf_rg]
        cases c1 : (!decide (T i < -1) && !decide (lN 7 < T i)) with
        | false =>
          rw [Bool.false_and, if_neg (by decide), zs_259_33]
          simp (disch := omega) only [↓zs_259_35, ↓zs_259_36, ↓zs_259_39, ↓zs_259_40, ↓zs_259_41, ↓zs_259_44, ↓zs_259_45, ↓zs_259_48, ↓zs_259_50, ↓zs_259_51, ↓zs_259_52, ↓zs_259_54, ↓zs_259_55, ↓zs_259_56, ↓zs_259_59, ↓zs_259_62, ↓zs_259_65, ↓zs_259_68, ↓zs_259_70, ↓zs_259_71, ↓zs_259_74, zx_pu_s, zx_pu_n, zx_rv_s, zx_rv_n, true_and, and_true, true_or, or_true, zb_0, zb_1, zq_lcl, zq_lcg, zq_lce, eq_self, ite_true, ite_false, zk_138, zw_138, zk_139, zw_139, zk_140, zw_140, zk_141, zw_141, zk_142, zw_142, zk_143, zw_143, zk_144, zw_144, zk_145, zw_145, zk_146, zw_146, zk_147, zw_147, zk_148, zw_148, zk_149, zw_149, zk_150, zw_150, zk_151, zw_151, zk_152, zw_152, zq_138_1, zq_138_2, zq_138_3, zq_138_4, zq_138_16, zq_138_19, zq_138_20, zq_138_24, zq_138_25, zq_138_26, zq_138_27, zq_138_31, zq_138_32, zq_138_33, zin_nI, nI_clamp, nI_ltI, nI_add, pk_mul, hlt, hN, eT, sp_within, c1, zB_0, reduceCtorEq]
        | true =>
          rw [Bool.true_and, ← ih (i + 1) (by omega), zs_259_33]
          simp (disch := omega) only [↓zs_259_35, ↓zs_259_36, ↓zs_259_39, ↓zs_259_40, ↓zs_259_41, ↓zs_259_44, ↓zs_259_45, ↓zs_259_48, ↓zs_259_50, ↓zs_259_51, ↓zs_259_52, ↓zs_259_54, ↓zs_259_55, ↓zs_259_56, ↓zs_259_59, ↓zs_259_62, ↓zs_259_65, ↓zs_259_68, ↓zs_259_70, ↓zs_259_71, ↓zs_259_74, zx_pu_s, zx_pu_n, zx_rv_s, zx_rv_n, true_and, and_true, true_or, or_true, zb_0, zb_1, zq_lcl, zq_lcg, zq_lce, eq_self, ite_true, ite_false, zk_138, zw_138, zk_139, zw_139, zk_140, zw_140, zk_141, zw_141, zk_142, zw_142, zk_143, zw_143, zk_144, zw_144, zk_145, zw_145, zk_146, zw_146, zk_147, zw_147, zk_148, zw_148, zk_149, zw_149, zk_150, zw_150, zk_151, zw_151, zk_152, zw_152, zq_138_1, zq_138_2, zq_138_3, zq_138_4, zq_138_16, zq_138_19, zq_138_20, zq_138_24, zq_138_25, zq_138_26, zq_138_27, zq_138_31, zq_138_32, zq_138_33, zin_nI, nI_clamp, nI_ltI, nI_add, pk_mul, hlt, hN, eT, sp_within, c1, zB_0, reduceCtorEq]
    have l0 := loop n 0 (by omega)
    rw [ze_259]
    simp (disch := omega) only [↓zs_259_0, ↓zs_259_1, ↓zs_259_2, ↓zs_259_5, ↓zs_259_6, ↓zs_259_7, ↓zs_259_10, ↓zs_259_11, ↓zs_259_12, ↓zs_259_13, ↓zs_259_16, ↓zs_259_17, ↓zs_259_18, ↓zs_259_19, ↓zs_259_22, ↓zs_259_23, ↓zs_259_24, ↓zs_259_27, ↓zs_259_29, ↓zs_259_30, ↓zs_259_31, zx_pu_s, zx_pu_n, zx_rv_s, zx_rv_n, true_and, and_true, true_or, or_true, zb_0, zb_1, zq_lcl, zq_lcg, zq_lce, eq_self, ite_true, ite_false, zk_138, zw_138, zk_139, zw_139, zk_140, zw_140, zk_141, zw_141, zk_142, zw_142, zk_143, zw_143, zk_144, zw_144, zk_145, zw_145, zk_146, zw_146, zk_147, zw_147, zk_148, zw_148, zk_149, zw_149, zk_150, zw_150, zk_151, zw_151, zk_152, zw_152, zq_138_1, zq_138_2, zq_138_3, zq_138_4, zq_138_16, zq_138_19, zq_138_20, zq_138_24, zq_138_25, zq_138_26, zq_138_27, zq_138_31, zq_138_32, zq_138_33, hno, zin_nI, nI_clamp, e1, hN]
    rw [l0]
    cases c2 : zf_rg T n 0 with
    | false => simp only [reduceCtorEq, if_false, n3]
    | true =>
      rw [if_pos rfl, if_pos rfl]
      cases c3 : zf_bt 0 60 y.toInt with
      | false =>
        rw [c3] at hby
        simp only [reduceCtorEq, if_false, n3]
        simp (disch := omega) only [↓zs_259_77, ↓zs_259_78, ↓zs_259_79, ↓zs_259_80, ↓zs_259_83, ↓zs_259_86, ↓zs_259_89, ↓zs_259_91, zx_pu_s, zx_pu_n, zx_rv_s, zx_rv_n, true_and, and_true, true_or, or_true, zb_0, zb_1, zq_lcl, zq_lcg, zq_lce, eq_self, ite_true, ite_false, zk_138, zw_138, zk_139, zw_139, zk_140, zw_140, zk_141, zw_141, zk_142, zw_142, zk_143, zw_143, zk_144, zw_144, zk_145, zw_145, zk_146, zw_146, zk_147, zw_147, zk_148, zw_148, zk_149, zw_149, zk_150, zw_150, zk_151, zw_151, zk_152, zw_152, zq_138_1, zq_138_2, zq_138_3, zq_138_4, zq_138_16, zq_138_19, zq_138_20, zq_138_24, zq_138_25, zq_138_26, zq_138_27, zq_138_31, zq_138_32, zq_138_33, hby, zB_0, reduceCtorEq]
      | true =>
        rw [c3] at hby
        simp only [if_true]
        simp (disch := omega) only [↓zs_259_77, ↓zs_259_78, ↓zs_259_79, ↓zs_259_80, ↓zs_259_83, ↓zs_259_86, ↓zs_259_89, ↓zs_259_91, zx_pu_s, zx_pu_n, zx_rv_s, zx_rv_n, true_and, and_true, true_or, or_true, zb_0, zb_1, zq_lcl, zq_lcg, zq_lce, eq_self, ite_true, ite_false, zk_138, zw_138, zk_139, zw_139, zk_140, zw_140, zk_141, zw_141, zk_142, zw_142, zk_143, zw_143, zk_144, zw_144, zk_145, zw_145, zk_146, zw_146, zk_147, zw_147, zk_148, zw_148, zk_149, zw_149, zk_150, zw_150, zk_151, zw_151, zk_152, zw_152, zq_138_1, zq_138_2, zq_138_3, zq_138_4, zq_138_16, zq_138_19, zq_138_20, zq_138_24, zq_138_25, zq_138_26, zq_138_27, zq_138_31, zq_138_32, zq_138_33, hby, zB_0, reduceCtorEq]
  · have c' : (nI n = nI N) = False := zq_ne c (by omega) (by omega)
    rw [if_neg c, if_neg n4, ze_259]
    simp (disch := omega) only [↓zs_259_0, ↓zs_259_1, ↓zs_259_2, ↓zs_259_5, ↓zs_259_6, ↓zs_259_7, ↓zs_259_10, ↓zs_259_11, ↓zs_259_12, ↓zs_259_13, ↓zs_259_16, ↓zs_259_17, ↓zs_259_18, ↓zs_259_19, ↓zs_259_22, ↓zs_259_23, ↓zs_259_24, ↓zs_259_27, ↓zs_259_29, ↓zs_259_30, ↓zs_259_31, zx_pu_s, zx_pu_n, zx_rv_s, zx_rv_n, true_and, and_true, true_or, or_true, zb_0, zb_1, zq_lcl, zq_lcg, zq_lce, eq_self, ite_true, ite_false, zk_138, zw_138, zk_139, zw_139, zk_140, zw_140, zk_141, zw_141, zk_142, zw_142, zk_143, zw_143, zk_144, zw_144, zk_145, zw_145, zk_146, zw_146, zk_147, zw_147, zk_148, zw_148, zk_149, zw_149, zk_150, zw_150, zk_151, zw_151, zk_152, zw_152, zq_138_1, zq_138_2, zq_138_3, zq_138_4, zq_138_16, zq_138_19, zq_138_20, zq_138_24, zq_138_25, zq_138_26, zq_138_27, zq_138_31, zq_138_32, zq_138_33, hno, zin_nI, nI_clamp, e1, hN, c']
/-- all that the model finds -/
theorem sp_lays {t k : Nat} {T : Nat → Int64} {v4 : Int32} (v : zV B m) (hm : m < 2 ^ 29) (ht : t < 4) (hk : k ≤ 60) (eB : I 139 = B) (hT : ∀ i, i < zn B → J 152 (40 * t + i) = T i) : ∃ I3, zFk I I3 ∧ I3 139 = B ∧ zKn I3 (zf_sn B T k) ∧ ∀ d P, zx_wp (d + 21) 259 92 [.ref 138, .int (nI t), .int (nI k), .int (nI 0), .int v4, zx_u0] [] (zx_LL Lh) I J P = P (some (.int (nI 0))) (zx_LL Lh) I3 J := by
  have N8 : zn B ≤ 8 := v.1.1.2.2.2.2.2
  have k0 : zKn (zx_u I 138 28 (nI 0)) (0, 0, 0, true, true) := ⟨zu_s _ _ _ _, fun h => absurd rfl h⟩
  have f0 : zFk I (zx_u I 138 28 (nI 0)) := fun a j w => zu_n (by omega)
  obtain ⟨I4, f4, e4, k4, h4⟩ := sp_fits (Lh := Lh) (I := zx_u I 138 28 (nI 0)) (J := J) (t := t) (k := k) (x3 := -1) (x := -1) (y := -1) (T := T) (R := B) (K := (0, 0, 0, true, true)) v (by omega) ht hk (by rw [zu_139]; exact eB) (zSm_r B) hT k0 (by decide) (.inl ⟨rfl, rfl, rfl, rfl⟩)
  have k4' : zKn I4 (zf_s0 B T k) := k4
  have le : (zf_s0 B T k).1 ≤ 1 := by
    unfold zf_s0
    split
    · exact Nat.le_refl _
    · exact Nat.zero_le _
  obtain ⟨I3, f3, e3, k3, h3⟩ := sp_laysA (Lh := Lh) (I := I) (J := J) (t := t) (k := k) (T := T) v hm ht hk hT (zn B) 0 (zf_s0 B T k) I4 (by omega) (by omega) (zFk_t f0 f4) e4 k4'
  rw [Nat.mul_zero, ← zf_sk_80 N8] at k3
  refine ⟨I3, f3, e3, k3, fun d P => ?_⟩
  rw [← h3 d P zx_u0]
  simp (disch := omega) only [↓zs_259_92, ↓zs_259_93, ↓zs_259_94, ↓zs_259_97, ↓zs_259_98, ↓zs_259_99, ↓zs_259_100, ↓zs_259_101, ↓zs_259_104, ↓zs_259_105, zx_pu_s, zx_pu_n, zx_rv_s, zx_rv_n, true_and, and_true, true_or, or_true, zb_0, zb_1, zq_lcl, zq_lcg, zq_lce, eq_self, ite_true, ite_false, zk_138, zw_138, zk_139, zw_139, zk_140, zw_140, zk_141, zw_141, zk_142, zw_142, zk_143, zw_143, zk_144, zw_144, zk_145, zw_145, zk_146, zw_146, zk_147, zw_147, zk_148, zw_148, zk_149, zw_149, zk_150, zw_150, zk_151, zw_151, zk_152, zw_152, zq_138_1, zq_138_2, zq_138_3, zq_138_4, zq_138_16, zq_138_19, zq_138_20, zq_138_24, zq_138_25, zq_138_26, zq_138_27, zq_138_31, zq_138_32, zq_138_33, h4]
end LF
