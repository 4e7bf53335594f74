/-! frees, the call -/
theorem zf_fd_t {g : Nat → Bool} : ∀ x y n c f, zf_fd g (x + y) n c f = zf_fd g y (n + x) (zf_fd g x n c f).1 (zf_fd g x n c f).2 := by
  intro x
  induction x with
  | zero => intro y n c f; rw [Nat.zero_add]; rfl
  | succ x ih =>
    intro y n c f
    rw [show x + 1 + y = (x + y) + 1 by omega, zf_fd, zf_fd]
    split
    · rw [ih, show n + 1 + x = n + (x + 1) by omega]
    · rw [ih, show n + 1 + x = n + (x + 1) by omega]
theorem zf_fd_0 {g : Nat → Bool} : ∀ mm n c f, (∀ i, n ≤ i → i < n + mm → g i = false) → zf_fd g mm n c f = (c, f) := by
  intro mm
  induction mm with
  | zero => intro n c f _; rfl
  | succ mm ih =>
    intro n c f h
    rw [zf_fd, h n (by omega) (by omega), if_neg (by decide)]
    exact ih (n + 1) c f (fun i h1 h2 => h i (by omega) (by omega))
theorem zf_fd_le {g : Nat → Bool} : ∀ mm n c f, (zf_fd g mm n c f).1 ≤ c + mm := by
  intro mm
  induction mm with
  | zero => intro n c f; exact Nat.le_refl _
  | succ mm ih =>
    intro n c f
    rw [zf_fd]
    split
    · have := ih (n + 1) (c + 1) (if c = 0 then n else f); omega
    · have := ih (n + 1) c f; omega
theorem zf_fg_no {B : Nat → Int32} {q k n : Nat} (h : zn B ≤ n / 10 ∨ zn B ≤ n % 10) : zf_fg B q k n = false := by
  have e : zf_wL B (n / 10) (n % 10) = 1 := by
    unfold zf_wL
    rw [if_neg (by omega)]
  unfold zf_fg zf_fr
  rw [e, decide_eq_false (by decide), Bool.false_and, Bool.false_and]
theorem zf_fd_10 {B : Nat → Int32} {q k s c f : Nat} (hN : zn B ≤ 8) : zf_fd (zf_fg B q k) 10 (10 * s) c f = zf_fd (zf_fg B q k) (zn B) (10 * s) c f := by
  have key : zf_fd (zf_fg B q k) (zn B + (10 - zn B)) (10 * s) c f = zf_fd (zf_fg B q k) (zn B) (10 * s) c f := by
    rw [zf_fd_t, zf_fd_0 _ _ _ _ (fun i h1 h2 => zf_fg_no (.inr (by omega)))]
  rw [show zn B + (10 - zn B) = 10 by omega] at key
  exact key
theorem zf_fd_80 {B : Nat → Int32} {q k : Nat} (hN : zn B ≤ 8) : zf_fd (zf_fg B q k) 80 0 0 0 = zf_fd (zf_fg B q k) (10 * zn B) 0 0 0 := by
  have key : zf_fd (zf_fg B q k) (10 * zn B + (80 - 10 * zn B)) 0 0 0 = zf_fd (zf_fg B q k) (10 * zn B) 0 0 0 := by
    rw [zf_fd_t, zf_fd_0 _ _ _ _ (fun i h1 h2 => zf_fg_no (.inl (by omega)))]
  rw [show 10 * zn B + (80 - 10 * zn B) = 80 by omega] at key
  exact key
section FA
variable {Lh m : Nat} {I : zx_MI} {J : zx_MJ} {B : Nat → Int32}
theorem sp_freesS {q k z : Nat} {I1 : zx_MI} (si : zx_SI I1) (v : zV B m) (hm : m < 2 ^ 29) (hq : q < 64) (hk : k ≤ 60) (g1 : ∀ j, j < 25 → I1 145 j = B (109 + j)) : ∀ mm s c f I2, s + mm = zn B → c ≤ 10 * s → zFm I1 I2 → I2 139 = B → ∃ I3, zFm I1 I3 ∧ I3 139 = B ∧ ∀ d P v7 v8, zx_wp (d + 30) 257 55 [.ref 138, .int (nI q), .int (nI k), .int (nI z), .int (nI c), .int (zf_fo5 c f), .int (nI s), v7, v8] [] (zx_LL Lh) I2 J P = (if z = 0 then P (some (.int (nI (zf_fd (zf_fg B q k) (10 * mm) (10 * s) c f).1))) (zx_LL Lh) I3 J else P (some (.int (zf_fo5 (zf_fd (zf_fg B q k) (10 * mm) (10 * s) c f).1 (zf_fd (zf_fg B q k) (10 * mm) (10 * s) c f).2))) (zx_LL Lh) I3 J) ∨ 2 ≤ z := by
  have N8 : zn B ≤ 8 := v.1.1.2.2.2.2.2
  intro mm
  induction mm with
  | zero =>
    intro s c f I2 hs hc fr eB
    have e3 : I2 139 3 = nI (zn B) := by rw [eB]; exact v.1.1.2.2.1
    refine ⟨I2, fr, eB, fun d P v7 v8 => ?_⟩
    rcases (show z = 0 ∨ z = 1 ∨ 2 ≤ z by omega) with e | e | e
    · left
      subst e
      rw [if_pos rfl, zs_257_55, show s = zn B by omega]
      simp (disch := omega) only [↓zs_257_57, ↓zs_257_58, ↓zs_257_61, ↓zs_257_62, ↓zs_257_63, ↓zs_257_66, ↓zs_257_67, ↓zs_257_180, ↓zs_257_181, ↓zs_257_184, ↓zs_257_186, ↓zs_257_189, ↓zs_257_191, zx_pu_s, zx_pu_n, zx_rv_s, zx_rv_n, true_and, and_true, true_or, or_true, zb_0, zb_1, zq_lcl, zq_lcg, zq_lce, eq_self, ite_true, ite_false, zk_138, zw_138, zk_139, zw_139, zk_140, zw_140, zk_141, zw_141, zk_142, zw_142, zk_143, zw_143, zk_144, zw_144, zk_145, zw_145, zk_146, zw_146, zk_147, zw_147, zk_148, zw_148, zk_149, zw_149, zk_150, zw_150, zk_151, zw_151, zk_152, zw_152, zq_138_1, zq_138_2, zq_138_3, zq_138_4, zq_138_16, zq_138_19, zq_138_20, zq_138_24, zq_138_25, zq_138_26, zq_138_27, zq_138_31, zq_138_32, zq_138_33, zin_nI, nI_clamp, nI_ltI, Nat.lt_irrefl, e3]
      rfl
    · left
      subst e
      have n1 : (nI 1 = nI 0) = False := eq_false (by decide)
      rw [if_neg (by decide), zs_257_55, show s = zn B by omega]
      simp (disch := omega) only [↓zs_257_57, ↓zs_257_58, ↓zs_257_61, ↓zs_257_62, ↓zs_257_63, ↓zs_257_66, ↓zs_257_67, ↓zs_257_180, ↓zs_257_181, ↓zs_257_184, ↓zs_257_186, ↓zs_257_189, ↓zs_257_191, zx_pu_s, zx_pu_n, zx_rv_s, zx_rv_n, true_and, and_true, true_or, or_true, zb_0, zb_1, zq_lcl, zq_lcg, zq_lce, eq_self, ite_true, ite_false, zk_138, zw_138, zk_139, zw_139, zk_140, zw_140, zk_141, zw_141, zk_142, zw_142, zk_143, zw_143, zk_144, zw_144, zk_145, zw_145, zk_146, zw_146, zk_147, zw_147, zk_148, zw_148, zk_149, zw_149, zk_150, zw_150, zk_151, zw_151, zk_152, zw_152, zq_138_1, zq_138_2, zq_138_3, zq_138_4, zq_138_16, zq_138_19, zq_138_20, zq_138_24, zq_138_25, zq_138_26, zq_138_27, zq_138_31, zq_138_32, zq_138_33, zin_nI, nI_clamp, nI_ltI, Nat.lt_irrefl, e3, n1]
      rfl
    · exact .inr e
  | succ mm ih =>
    intro s c f I2 hs hc fr eB
    have e3 : I2 139 3 = nI (zn B) := by rw [eB]; exact v.1.1.2.2.1
    have hlt : s < zn B := by omega
    obtain ⟨I3, f3, e9, h9⟩ := sp_freesT (Lh := Lh) (J := J) (q := q) (z := z) (s := s) si v hm hq hk hlt g1 (zn B) 0 c f I2 (by omega) (by omega) fr eB
    rw [Nat.add_zero] at h9
    have le := zf_fd_le (g := zf_fg B q k) (zn B) (10 * s) c f
    have e10 : zf_fd (zf_fg B q k) (10 * (mm + 1)) (10 * s) c f = zf_fd (zf_fg B q k) (10 * mm) (10 * (s + 1)) (zf_fd (zf_fg B q k) (zn B) (10 * s) c f).1 (zf_fd (zf_fg B q k) (zn B) (10 * s) c f).2 := by
      rw [show 10 * (mm + 1) = 10 + 10 * mm by omega, zf_fd_t, zf_fd_10 N8, show 10 * s + 10 = 10 * (s + 1) by omega]
    rw [e10]
    generalize zf_fd (zf_fg B q k) (zn B) (10 * s) c f = R at *
    obtain ⟨I4, f4, e4, h4⟩ := ih (s + 1) R.1 R.2 I3 (by omega) (by omega) f3 e9
    refine ⟨I4, f4, e4, fun d P v7 v8 => ?_⟩
    obtain ⟨w8, h10⟩ := h9 d P v8
    rcases h4 d P (.int (nI (zn B))) w8 with h5 | h5
    · left
      rw [← h5, zs_257_55]
      simp (disch := omega) only [↓zs_257_57, ↓zs_257_58, ↓zs_257_61, ↓zs_257_62, ↓zs_257_63, ↓zs_257_66, ↓zs_257_67, zx_pu_s, zx_pu_n, zx_rv_s, zx_rv_n, true_and, and_true, true_or, or_true, zb_0, zb_1, zq_lcl, zq_lcg, zq_lce, eq_self, ite_true, ite_false, zk_138, zw_138, zk_139, zw_139, zk_140, zw_140, zk_141, zw_141, zk_142, zw_142, zk_143, zw_143, zk_144, zw_144, zk_145, zw_145, zk_146, zw_146, zk_147, zw_147, zk_148, zw_148, zk_149, zw_149, zk_150, zw_150, zk_151, zw_151, zk_152, zw_152, zq_138_1, zq_138_2, zq_138_3, zq_138_4, zq_138_16, zq_138_19, zq_138_20, zq_138_24, zq_138_25, zq_138_26, zq_138_27, zq_138_31, zq_138_32, zq_138_33, zin_nI, nI_clamp, nI_ltI, hlt, e3]
      rw [h10]
      simp (disch := omega) only [↓zs_257_174, ↓zs_257_177, zx_pu_s, zx_pu_n, zx_rv_s, zx_rv_n, true_and, and_true, true_or, or_true, zb_0, zb_1, zq_lcl, zq_lcg, zq_lce, eq_self, ite_true, ite_false, zk_138, zw_138, zk_139, zw_139, zk_140, zw_140, zk_141, zw_141, zk_142, zw_142, zk_143, zw_143, zk_144, zw_144, zk_145, zw_145, zk_146, zw_146, zk_147, zw_147, zk_148, zw_148, zk_149, zw_149, zk_150, zw_150, zk_151, zw_151, zk_152, zw_152, zq_138_1, zq_138_2, zq_138_3, zq_138_4, zq_138_16, zq_138_19, zq_138_20, zq_138_24, zq_138_25, zq_138_26, zq_138_27, zq_138_31, zq_138_32, zq_138_33, nI_add]
    · exact .inr h5
theorem q_frees (v : zInv I J m) (hm : m < 2 ^ 29) (x y w : Int32) : zQ Lh 137 257 [.int x, .int y, .int w] I J := by
  obtain ⟨⟨hw, hh, hN⟩, gr, g, ex, ok, N8, wh⟩ := zInv_k v
  have h1 := fun d P => sc_hasStone (d := d) (Lh := Lh) (I := I) (J := J) (P := P) zx_sq1 x hw hh wh
  have ok2 : zM_ok (zx_u I 138 0 (nI 0) 139) (zw (I 139)) (zh (I 139)) (zn (I 139)) := by rw [zu_139]; exact ok
  have h2 := fun d P => sp_isStone (d := d) (Lh := Lh) (J := J) (P := P) x.toInt64 ok2.1.1 ok2.1.2.1 (by omega)
  rw [Int32.toInt_toInt64] at h2
  have hbw := fun d L I J P => sp_bt (d := d) (L := L) (I := I) (J := J) (P := P) w (a := 0) (b := 1) (by omega) (by omega)
  have hby := fun d L I J P => sp_bt (d := d) (L := L) (I := I) (J := J) (P := P) y (a := 0) (b := 60) (by omega) (by omega)
  have wl := zq_lt0 w
  have wg := zq_gt w (n := 1) (by omega)
  have yl := zq_lt0 y
  have yg := zq_gt y (n := 60) (by omega)
  cases c : zf_in x.toInt (zw (I 139) * zh (I 139)) with
  | false =>
    refine ⟨.int (-2), I, J, zx_u I 138 0 (nI 0), J, fun d P => ?_, fun d P => ?_, zScr_s (zFs_0 _ _)⟩
    · rw [ze_137]
      simp (disch := omega) only [↓zs_137_0, ↓zs_137_1, ↓zs_137_4, ↓zs_137_5, ↓zs_137_8, ↓zs_137_11, ↓zs_137_12, ↓zs_137_15, ↓zs_137_16, ↓zs_137_17, ↓zs_137_20, ↓zs_137_22, ↓zs_137_23, ↓zs_137_24, ↓zs_137_27, ↓zs_137_28, ↓zs_137_30, ↓zs_137_33, ↓zs_137_35, ↓zs_137_36, ↓zs_137_37, ↓zs_137_40, ↓zs_137_41, ↓zs_137_44, ↓zs_137_45, ↓zs_137_48, ↓zs_137_49, ↓zs_137_50, ↓zs_137_53, ↓zs_137_54, ↓zs_137_57, ↓zs_137_58, ↓zs_137_61, ↓zs_137_64, ↓zs_137_65, ↓zs_137_66, ↓zs_137_69, ↓zs_137_72, ↓zs_137_75, ↓zs_137_76, ↓zs_137_79, ↓zs_137_81, ↓zs_137_82, ↓zs_137_85, ↓zs_137_88, ↓zs_137_89, ↓zs_137_90, ↓zs_137_93, ↓zs_137_96, ↓zs_137_97, zx_pu_s, zx_pu_n, zx_rv_s, zx_rv_n, true_and, and_true, true_or, or_true, zb_0, zb_1, zq_lcl, zq_lcg, zq_lce, eq_self, ite_true, ite_false, zk_0, zw_0, zk_1, zw_1, zq_0_0, zq_0_1, zq_0_2, zq_0_3, zq_0_4, zq_0_5, zq_0_6, zq_0_7, zq_0_8, zq_0_9, zq_0_10, zq_0_11, zq_1_0, zq_1_1, zq_1_2, zq_1_3, zq_1_4, zq_1_5, h1, c, zB_0, reduceCtorEq]
    · rw [ze_257]
      simp (disch := omega) only [↓zs_257_0, ↓zs_257_1, ↓zs_257_2, ↓zs_257_5, ↓zs_257_6, ↓zs_257_7, ↓zs_257_8, ↓zs_257_11, ↓zs_257_14, ↓zs_257_15, ↓zs_257_16, ↓zs_257_17, ↓zs_257_18, ↓zs_257_21, ↓zs_257_24, ↓zs_257_26, ↓zs_257_27, ↓zs_257_28, ↓zs_257_29, ↓zs_257_30, ↓zs_257_33, ↓zs_257_36, ↓zs_257_39, ↓zs_257_41, ↓zs_257_42, ↓zs_257_43, ↓zs_257_45, ↓zs_257_46, ↓zs_257_48, ↓zs_257_49, ↓zs_257_52, ↓zs_257_53, zx_pu_s, zx_pu_n, zx_rv_s, zx_rv_n, true_and, and_true, true_or, or_true, zb_0, zb_1, zq_lcl, zq_lcg, zq_lce, eq_self, ite_true, ite_false, zk_138, zw_138, zk_139, zw_139, zk_140, zw_140, zk_141, zw_141, zk_142, zw_142, zk_143, zw_143, zk_144, zw_144, zk_145, zw_145, zk_146, zw_146, zk_147, zw_147, zk_148, zw_148, zk_149, zw_149, zk_150, zw_150, zk_151, zw_151, zk_152, zw_152, zq_138_1, zq_138_2, zq_138_3, zq_138_4, zq_138_16, zq_138_19, zq_138_20, zq_138_24, zq_138_25, zq_138_26, zq_138_27, zq_138_31, zq_138_32, zq_138_33, h2, c, zB_0, reduceCtorEq]
  | true =>
    rw [c] at h1 h2
    cases cw : zf_bt 0 1 w.toInt with
    | false =>
      rw [cw] at hbw
      refine ⟨.int (-2), I, J, zx_u I 138 0 (nI 0), J, fun d P => ?_, fun d P => ?_, zScr_s (zFs_0 _ _)⟩
      · rw [ze_137]
        rcases zf_bt_no cw with q | ⟨q1, q2⟩
        · simp (disch := omega) only [↓zs_137_0, ↓zs_137_1, ↓zs_137_4, ↓zs_137_5, ↓zs_137_8, ↓zs_137_11, ↓zs_137_12, ↓zs_137_15, ↓zs_137_16, ↓zs_137_17, ↓zs_137_20, ↓zs_137_22, ↓zs_137_23, ↓zs_137_24, ↓zs_137_27, ↓zs_137_28, ↓zs_137_30, ↓zs_137_33, ↓zs_137_35, ↓zs_137_36, ↓zs_137_37, ↓zs_137_40, ↓zs_137_41, ↓zs_137_44, ↓zs_137_45, ↓zs_137_48, ↓zs_137_49, ↓zs_137_50, ↓zs_137_53, ↓zs_137_54, ↓zs_137_57, ↓zs_137_58, ↓zs_137_61, ↓zs_137_64, ↓zs_137_65, ↓zs_137_66, ↓zs_137_69, ↓zs_137_72, ↓zs_137_75, ↓zs_137_76, ↓zs_137_79, ↓zs_137_81, ↓zs_137_82, ↓zs_137_85, ↓zs_137_88, ↓zs_137_89, ↓zs_137_90, ↓zs_137_93, ↓zs_137_96, ↓zs_137_97, zx_pu_s, zx_pu_n, zx_rv_s, zx_rv_n, true_and, and_true, true_or, or_true, zb_0, zb_1, zq_lcl, zq_lcg, zq_lce, eq_self, ite_true, ite_false, zk_0, zw_0, zk_1, zw_1, zq_0_0, zq_0_1, zq_0_2, zq_0_3, zq_0_4, zq_0_5, zq_0_6, zq_0_7, zq_0_8, zq_0_9, zq_0_10, zq_0_11, zq_1_0, zq_1_1, zq_1_2, zq_1_3, zq_1_4, zq_1_5, h1, zB_0, reduceCtorEq, wl, q]
        · have q3 : ((1 : Nat) : Int) < w.toInt := q2
          simp (disch := omega) only [↓zs_137_0, ↓zs_137_1, ↓zs_137_4, ↓zs_137_5, ↓zs_137_8, ↓zs_137_11, ↓zs_137_12, ↓zs_137_15, ↓zs_137_16, ↓zs_137_17, ↓zs_137_20, ↓zs_137_22, ↓zs_137_23, ↓zs_137_24, ↓zs_137_27, ↓zs_137_28, ↓zs_137_30, ↓zs_137_33, ↓zs_137_35, ↓zs_137_36, ↓zs_137_37, ↓zs_137_40, ↓zs_137_41, ↓zs_137_44, ↓zs_137_45, ↓zs_137_48, ↓zs_137_49, ↓zs_137_50, ↓zs_137_53, ↓zs_137_54, ↓zs_137_57, ↓zs_137_58, ↓zs_137_61, ↓zs_137_64, ↓zs_137_65, ↓zs_137_66, ↓zs_137_69, ↓zs_137_72, ↓zs_137_75, ↓zs_137_76, ↓zs_137_79, ↓zs_137_81, ↓zs_137_82, ↓zs_137_85, ↓zs_137_88, ↓zs_137_89, ↓zs_137_90, ↓zs_137_93, ↓zs_137_96, ↓zs_137_97, zx_pu_s, zx_pu_n, zx_rv_s, zx_rv_n, true_and, and_true, true_or, or_true, zb_0, zb_1, zq_lcl, zq_lcg, zq_lce, eq_self, ite_true, ite_false, zk_0, zw_0, zk_1, zw_1, zq_0_0, zq_0_1, zq_0_2, zq_0_3, zq_0_4, zq_0_5, zq_0_6, zq_0_7, zq_0_8, zq_0_9, zq_0_10, zq_0_11, zq_1_0, zq_1_1, zq_1_2, zq_1_3, zq_1_4, zq_1_5, h1, zB_0, reduceCtorEq, wl, q1, wg, q3]
      · rw [ze_257]
        simp (disch := omega) only [↓zs_257_0, ↓zs_257_1, ↓zs_257_2, ↓zs_257_5, ↓zs_257_6, ↓zs_257_7, ↓zs_257_8, ↓zs_257_11, ↓zs_257_14, ↓zs_257_15, ↓zs_257_16, ↓zs_257_17, ↓zs_257_18, ↓zs_257_21, ↓zs_257_24, ↓zs_257_26, ↓zs_257_27, ↓zs_257_28, ↓zs_257_29, ↓zs_257_30, ↓zs_257_33, ↓zs_257_36, ↓zs_257_39, ↓zs_257_41, ↓zs_257_42, ↓zs_257_43, ↓zs_257_45, ↓zs_257_46, ↓zs_257_48, ↓zs_257_49, ↓zs_257_52, ↓zs_257_53, zx_pu_s, zx_pu_n, zx_rv_s, zx_rv_n, true_and, and_true, true_or, or_true, zb_0, zb_1, zq_lcl, zq_lcg, zq_lce, eq_self, ite_true, ite_false, zk_138, zw_138, zk_139, zw_139, zk_140, zw_140, zk_141, zw_141, zk_142, zw_142, zk_143, zw_143, zk_144, zw_144, zk_145, zw_145, zk_146, zw_146, zk_147, zw_147, zk_148, zw_148, zk_149, zw_149, zk_150, zw_150, zk_151, zw_151, zk_152, zw_152, zq_138_1, zq_138_2, zq_138_3, zq_138_4, zq_138_16, zq_138_19, zq_138_20, zq_138_24, zq_138_25, zq_138_26, zq_138_27, zq_138_31, zq_138_32, zq_138_33, h2, hbw, zB_0, reduceCtorEq]
    | true =>
      rw [cw] at hbw
      obtain ⟨z, -, hz, rfl⟩ := zf_bt_nI cw (by omega)
      have a1 : ¬ 1 < z := by omega
      cases cy : zf_bt 0 60 y.toInt with
      | false =>
        rw [cy] at hby
        refine ⟨.int (-3), I, J, zx_u I 138 0 (nI 0), J, fun d P => ?_, fun d P => ?_, zScr_s (zFs_0 _ _)⟩
        · rw [ze_137]
          rcases zf_bt_no cy with q | ⟨q1, q2⟩
          · simp (disch := omega) only [↓zs_137_0, ↓zs_137_1, ↓zs_137_4, ↓zs_137_5, ↓zs_137_8, ↓zs_137_11, ↓zs_137_12, ↓zs_137_15, ↓zs_137_16, ↓zs_137_17, ↓zs_137_20, ↓zs_137_22, ↓zs_137_23, ↓zs_137_24, ↓zs_137_27, ↓zs_137_28, ↓zs_137_30, ↓zs_137_33, ↓zs_137_35, ↓zs_137_36, ↓zs_137_37, ↓zs_137_40, ↓zs_137_41, ↓zs_137_44, ↓zs_137_45, ↓zs_137_48, ↓zs_137_49, ↓zs_137_50, ↓zs_137_53, ↓zs_137_54, ↓zs_137_57, ↓zs_137_58, ↓zs_137_61, ↓zs_137_64, ↓zs_137_65, ↓zs_137_66, ↓zs_137_69, ↓zs_137_72, ↓zs_137_75, ↓zs_137_76, ↓zs_137_79, ↓zs_137_81, ↓zs_137_82, ↓zs_137_85, ↓zs_137_88, ↓zs_137_89, ↓zs_137_90, ↓zs_137_93, ↓zs_137_96, ↓zs_137_97, zx_pu_s, zx_pu_n, zx_rv_s, zx_rv_n, true_and, and_true, true_or, or_true, zb_0, zb_1, zq_lcl, zq_lcg, zq_lce, eq_self, ite_true, ite_false, zk_0, zw_0, zk_1, zw_1, zq_0_0, zq_0_1, zq_0_2, zq_0_3, zq_0_4, zq_0_5, zq_0_6, zq_0_7, zq_0_8, zq_0_9, zq_0_10, zq_0_11, zq_1_0, zq_1_1, zq_1_2, zq_1_3, zq_1_4, zq_1_5, nI_ltI, zn_lt0, h1, zB_0, reduceCtorEq, a1, yl, q]
          · have q3 : ((60 : Nat) : Int) < y.toInt := q2
            simp (disch := omega) only [↓zs_137_0, ↓zs_137_1, ↓zs_137_4, ↓zs_137_5, ↓zs_137_8, ↓zs_137_11, ↓zs_137_12, ↓zs_137_15, ↓zs_137_16, ↓zs_137_17, ↓zs_137_20, ↓zs_137_22, ↓zs_137_23, ↓zs_137_24, ↓zs_137_27, ↓zs_137_28, ↓zs_137_30, ↓zs_137_33, ↓zs_137_35, ↓zs_137_36, ↓zs_137_37, ↓zs_137_40, ↓zs_137_41, ↓zs_137_44, ↓zs_137_45, ↓zs_137_48, ↓zs_137_49, ↓zs_137_50, ↓zs_137_53, ↓zs_137_54, ↓zs_137_57, ↓zs_137_58, ↓zs_137_61, ↓zs_137_64, ↓zs_137_65, ↓zs_137_66, ↓zs_137_69, ↓zs_137_72, ↓zs_137_75, ↓zs_137_76, ↓zs_137_79, ↓zs_137_81, ↓zs_137_82, ↓zs_137_85, ↓zs_137_88, ↓zs_137_89, ↓zs_137_90, ↓zs_137_93, ↓zs_137_96, ↓zs_137_97, zx_pu_s, zx_pu_n, zx_rv_s, zx_rv_n, true_and, and_true, true_or, or_true, zb_0, zb_1, zq_lcl, zq_lcg, zq_lce, eq_self, ite_true, ite_false, zk_0, zw_0, zk_1, zw_1, zq_0_0, zq_0_1, zq_0_2, zq_0_3, zq_0_4, zq_0_5, zq_0_6, zq_0_7, zq_0_8, zq_0_9, zq_0_10, zq_0_11, zq_1_0, zq_1_1, zq_1_2, zq_1_3, zq_1_4, zq_1_5, nI_ltI, zn_lt0, h1, zB_0, reduceCtorEq, a1, yl, q1, yg, q3]
        · rw [ze_257]
          simp (disch := omega) only [↓zs_257_0, ↓zs_257_1, ↓zs_257_2, ↓zs_257_5, ↓zs_257_6, ↓zs_257_7, ↓zs_257_8, ↓zs_257_11, ↓zs_257_14, ↓zs_257_15, ↓zs_257_16, ↓zs_257_17, ↓zs_257_18, ↓zs_257_21, ↓zs_257_24, ↓zs_257_26, ↓zs_257_27, ↓zs_257_28, ↓zs_257_29, ↓zs_257_30, ↓zs_257_33, ↓zs_257_36, ↓zs_257_39, ↓zs_257_41, ↓zs_257_42, ↓zs_257_43, ↓zs_257_45, ↓zs_257_46, ↓zs_257_48, ↓zs_257_49, ↓zs_257_52, ↓zs_257_53, zx_pu_s, zx_pu_n, zx_rv_s, zx_rv_n, true_and, and_true, true_or, or_true, zb_0, zb_1, zq_lcl, zq_lcg, zq_lce, eq_self, ite_true, ite_false, zk_138, zw_138, zk_139, zw_139, zk_140, zw_140, zk_141, zw_141, zk_142, zw_142, zk_143, zw_143, zk_144, zw_144, zk_145, zw_145, zk_146, zw_146, zk_147, zw_147, zk_148, zw_148, zk_149, zw_149, zk_150, zw_150, zk_151, zw_151, zk_152, zw_152, zq_138_1, zq_138_2, zq_138_3, zq_138_4, zq_138_16, zq_138_19, zq_138_20, zq_138_24, zq_138_25, zq_138_26, zq_138_27, zq_138_31, zq_138_32, zq_138_33, h2, hbw, hby, zB_0, reduceCtorEq]
      | true =>
        rw [cy] at hby
        obtain ⟨k, -, hk, rfl⟩ := zf_bt_nI cy (by omega)
        have a2 : ¬ 60 < k := by omega
        have e := zq_toI (x := x) rfl c (by omega)
        have hq : x.toInt.toNat < 64 := by have := zf_inP.mp c; omega
        generalize x.toInt.toNat = q at e hq
        subst e
        obtain ⟨I2, f2, k1, k2, h3⟩ := sc_freesL (Lh := Lh) (q := q) (k := k) v hm hq hk 80 0 0 0 (zx_u I 65 1 (nI 0)) (by omega) (by omega) (fun a j n => zu_n (by omega)) (zu_s _ _ _ _) (fun h => absurd rfl h)
        have h40 : ∀ d P, zx_rn (d + 8) 40 [.ref 65, .ref 1, .ref 11, .int (nI q), .int (nI k)] (zx_LL Lh) I J P = P none (zx_LL Lh) I2 J := fun d P => by
          rw [← h3 d P, ze_40]
          simp (disch := omega) only [↓zs_40_0, ↓zs_40_1, ↓zs_40_2, ↓zs_40_5, ↓zs_40_6, zx_pu_s, zx_pu_n, zx_rv_s, zx_rv_n, true_and, and_true, true_or, or_true, zb_0, zb_1, zq_lcl, zq_lcg, zq_lce, eq_self, ite_true, ite_false, zk_65, zw_65, zq_65_0]
        rw [zf_fd_80 N8] at k1 k2
        have le := zf_fd_le (g := zf_fg (I 139) q k) (10 * zn (I 139)) 0 0 0
        have e2 : I2 139 = I 139 := funext fun j => f2 139 j (by omega)
        have si2 : zx_SI I2 := fun a j ha => (f2 a j (by omega)).trans (v.1 a j ha)
        obtain ⟨I3, f3, f3', g3, h5⟩ := sp_begin (Lh := Lh) (I := I2) (J := J) (I 139) e2
        have si3 : zx_SI I3 := fun a j ha => (congrFun (f3 a (by omega) (by omega)) j).trans (si2 a j ha)
        obtain ⟨I4, f4, e4, h6⟩ := sp_freesS (Lh := Lh) (J := J) (q := q) (k := k) (z := z) si3 v.2.1 hm hq hk g3 (zn (I 139)) 0 0 0 I3 (by omega) (by omega) (zFm_r _) ((f3 139 (by decide) (by decide)).trans e2)
        have okc : zM_ok (zx_u I2 138 0 (nI 0) 139) (zw (I 139)) (zh (I 139)) (zn (I 139)) := by rw [zu_139, e2]; exact ok
        have h7 := fun d P => sp_isStone (d := d) (Lh := Lh) (I := zx_u I2 138 0 (nI 0)) (J := J) (P := P) (nI q).toInt64 okc.1.1 okc.1.2.1 (by omega)
        rw [Int32.toInt_toInt64, c] at h7
        have hscr : zScr I J I4 J := zScr_i (fun a j n => by
          by_cases w : a = 139
          · subst w; rw [e4]
          · unfold zSc at n
            rw [f4 a j (by omega)]
            by_cases w8 : a = 138
            · subst w8; rw [f3' j (by omega), f2 138 j (by omega)]
            · rw [f3 a w8 (by omega), f2 a j (by omega)])
        rw [Nat.mul_zero] at h6
        generalize zf_fd (zf_fg (I 139) q k) (10 * zn (I 139)) 0 0 0 = R at *
        refine ⟨.int (if z = 0 then nI R.1 else zf_fo5 R.1 R.2), I2, J, I4, J, fun d P => ?_, fun d P => ?_, hscr⟩
        · rw [ze_137]
          rcases (show z = 0 ∨ z = 1 by omega) with e | e <;> subst e
          · rw [if_pos rfl]
            simp (disch := omega) only [↓zs_137_0, ↓zs_137_1, ↓zs_137_4, ↓zs_137_5, ↓zs_137_8, ↓zs_137_11, ↓zs_137_12, ↓zs_137_15, ↓zs_137_16, ↓zs_137_17, ↓zs_137_20, ↓zs_137_22, ↓zs_137_23, ↓zs_137_24, ↓zs_137_27, ↓zs_137_28, ↓zs_137_30, ↓zs_137_33, ↓zs_137_35, ↓zs_137_36, ↓zs_137_37, ↓zs_137_40, ↓zs_137_41, ↓zs_137_44, ↓zs_137_45, ↓zs_137_48, ↓zs_137_49, ↓zs_137_50, ↓zs_137_53, ↓zs_137_54, ↓zs_137_57, ↓zs_137_58, ↓zs_137_61, ↓zs_137_64, ↓zs_137_65, ↓zs_137_66, ↓zs_137_69, ↓zs_137_72, ↓zs_137_75, ↓zs_137_76, ↓zs_137_79, ↓zs_137_81, ↓zs_137_82, ↓zs_137_85, ↓zs_137_88, ↓zs_137_89, ↓zs_137_90, ↓zs_137_93, ↓zs_137_96, ↓zs_137_97, zx_pu_s, zx_pu_n, zx_rv_s, zx_rv_n, true_and, and_true, true_or, or_true, zb_0, zb_1, zq_lcl, zq_lcg, zq_lce, eq_self, ite_true, ite_false, zk_0, zw_0, zk_1, zw_1, zq_0_0, zq_0_1, zq_0_2, zq_0_3, zq_0_4, zq_0_5, zq_0_6, zq_0_7, zq_0_8, zq_0_9, zq_0_10, zq_0_11, zq_1_0, zq_1_1, zq_1_2, zq_1_3, zq_1_4, zq_1_5, zk_11, zw_11, zq_11_0, zq_11_1, zq_11_2, zk_65, zw_65, zq_65_0, nI_ltI, zn_lt0, h1, zB_0, reduceCtorEq, a1, a2, h40, k1]
          · rw [if_neg (by decide)]
            have n1 : (nI 1 = nI 0) = False := eq_false (by decide)
            unfold zf_fo5
            by_cases c0 : R.1 = 0
            · rw [if_pos c0]
              rw [c0] at k1
              simp (disch := omega) only [↓zs_137_0, ↓zs_137_1, ↓zs_137_4, ↓zs_137_5, ↓zs_137_8, ↓zs_137_11, ↓zs_137_12, ↓zs_137_15, ↓zs_137_16, ↓zs_137_17, ↓zs_137_20, ↓zs_137_22, ↓zs_137_23, ↓zs_137_24, ↓zs_137_27, ↓zs_137_28, ↓zs_137_30, ↓zs_137_33, ↓zs_137_35, ↓zs_137_36, ↓zs_137_37, ↓zs_137_40, ↓zs_137_41, ↓zs_137_44, ↓zs_137_45, ↓zs_137_48, ↓zs_137_49, ↓zs_137_50, ↓zs_137_53, ↓zs_137_54, ↓zs_137_57, ↓zs_137_58, ↓zs_137_61, ↓zs_137_64, ↓zs_137_65, ↓zs_137_66, ↓zs_137_69, ↓zs_137_72, ↓zs_137_75, ↓zs_137_76, ↓zs_137_79, ↓zs_137_81, ↓zs_137_82, ↓zs_137_85, ↓zs_137_88, ↓zs_137_89, ↓zs_137_90, ↓zs_137_93, ↓zs_137_96, ↓zs_137_97, zx_pu_s, zx_pu_n, zx_rv_s, zx_rv_n, true_and, and_true, true_or, or_true, zb_0, zb_1, zq_lcl, zq_lcg, zq_lce, eq_self, ite_true, ite_false, zk_0, zw_0, zk_1, zw_1, zq_0_0, zq_0_1, zq_0_2, zq_0_3, zq_0_4, zq_0_5, zq_0_6, zq_0_7, zq_0_8, zq_0_9, zq_0_10, zq_0_11, zq_1_0, zq_1_1, zq_1_2, zq_1_3, zq_1_4, zq_1_5, zk_11, zw_11, zq_11_0, zq_11_1, zq_11_2, zk_65, zw_65, zq_65_0, nI_ltI, zn_lt0, h1, zB_0, reduceCtorEq, a1, a2, h40, k1, n1]
            · obtain ⟨k3, k4⟩ := k2 c0
              have c0' : (nI R.1 = nI 0) = False := zq_ne c0 (by omega) (by omega)
              rw [if_neg c0]
              simp (disch := omega) only [↓zs_137_0, ↓zs_137_1, ↓zs_137_4, ↓zs_137_5, ↓zs_137_8, ↓zs_137_11, ↓zs_137_12, ↓zs_137_15, ↓zs_137_16, ↓zs_137_17, ↓zs_137_20, ↓zs_137_22, ↓zs_137_23, ↓zs_137_24, ↓zs_137_27, ↓zs_137_28, ↓zs_137_30, ↓zs_137_33, ↓zs_137_35, ↓zs_137_36, ↓zs_137_37, ↓zs_137_40, ↓zs_137_41, ↓zs_137_44, ↓zs_137_45, ↓zs_137_48, ↓zs_137_49, ↓zs_137_50, ↓zs_137_53, ↓zs_137_54, ↓zs_137_57, ↓zs_137_58, ↓zs_137_61, ↓zs_137_64, ↓zs_137_65, ↓zs_137_66, ↓zs_137_69, ↓zs_137_72, ↓zs_137_75, ↓zs_137_76, ↓zs_137_79, ↓zs_137_81, ↓zs_137_82, ↓zs_137_85, ↓zs_137_88, ↓zs_137_89, ↓zs_137_90, ↓zs_137_93, ↓zs_137_96, ↓zs_137_97, zx_pu_s, zx_pu_n, zx_rv_s, zx_rv_n, true_and, and_true, true_or, or_true, zb_0, zb_1, zq_lcl, zq_lcg, zq_lce, eq_self, ite_true, ite_false, zk_0, zw_0, zk_1, zw_1, zq_0_0, zq_0_1, zq_0_2, zq_0_3, zq_0_4, zq_0_5, zq_0_6, zq_0_7, zq_0_8, zq_0_9, zq_0_10, zq_0_11, zq_1_0, zq_1_1, zq_1_2, zq_1_3, zq_1_4, zq_1_5, zk_11, zw_11, zq_11_0, zq_11_1, zq_11_2, zk_65, zw_65, zq_65_0, nI_ltI, zn_lt0, h1, zB_0, reduceCtorEq, a1, a2, h40, k1, n1, c0', k3, k4, pk_mul, nI_add]
              rw [show 10 * (R.2 / 10) + R.2 % 10 = R.2 by omega]
        · rw [ze_257]
          simp (disch := omega) only [↓zs_257_0, ↓zs_257_1, ↓zs_257_2, ↓zs_257_5, ↓zs_257_6, ↓zs_257_7, ↓zs_257_8, ↓zs_257_11, ↓zs_257_14, ↓zs_257_15, ↓zs_257_16, ↓zs_257_17, ↓zs_257_18, ↓zs_257_21, ↓zs_257_24, ↓zs_257_26, ↓zs_257_27, ↓zs_257_28, ↓zs_257_29, ↓zs_257_30, ↓zs_257_33, ↓zs_257_36, ↓zs_257_39, ↓zs_257_41, ↓zs_257_42, ↓zs_257_43, ↓zs_257_45, ↓zs_257_46, ↓zs_257_48, ↓zs_257_49, ↓zs_257_52, ↓zs_257_53, zx_pu_s, zx_pu_n, zx_rv_s, zx_rv_n, true_and, and_true, true_or, or_true, zb_0, zb_1, zq_lcl, zq_lcg, zq_lce, eq_self, ite_true, ite_false, zk_138, zw_138, zk_139, zw_139, zk_140, zw_140, zk_141, zw_141, zk_142, zw_142, zk_143, zw_143, zk_144, zw_144, zk_145, zw_145, zk_146, zw_146, zk_147, zw_147, zk_148, zw_148, zk_149, zw_149, zk_150, zw_150, zk_151, zw_151, zk_152, zw_152, zq_138_1, zq_138_2, zq_138_3, zq_138_4, zq_138_16, zq_138_19, zq_138_20, zq_138_24, zq_138_25, zq_138_26, zq_138_27, zq_138_31, zq_138_32, zq_138_33, h7, hbw, hby, zB_0, reduceCtorEq, h5]
          rcases h6 d P zx_u0 zx_u0 with h8 | h8
          · refine Eq.trans h8 ?_
            split <;> rfl
          · omega
end FA
