/-! still, turners, later -/
theorem zf_bt_no {b : Nat} {v : Int} (h : zf_bt 0 b v = false) : v < 0 ∨ (¬ v < 0 ∧ (b : Int) < v) := by
  by_cases c : v < 0
  · exact .inl c
  · refine .inr ⟨c, ?_⟩
    rw [zf_bt, Bool.and_eq_false_iff, decide_eq_false_iff_not, decide_eq_false_iff_not] at h
    omega
def zf_act (B : Nat → Int32) (n : Nat) : Bool := !decide (zf_turned (zf_ni B n) = 0) || zf_any (fun k => decide (B (7 + 3 * k) = zf_ni B (n + 1) 133)) (zl B) 0
def zf_stl (B : Nat → Int32) : Nat → Nat → Nat → Nat
  | 0, _, l => l
  | mm + 1, n, l => zf_stl B mm (n + 1) (if zf_act B n = true then n + 1 else l)
def zf_still (B : Nat → Int32) : Int32 := if 200 < zf_stl B 201 0 0 then -1 else nI (zf_stl B 201 0 0)
theorem zf_stl_le (B : Nat → Int32) (mm n l : Nat) (h : n + mm ≤ 201) (hl : l ≤ 201) : zf_stl B mm n l ≤ 201 := by
  induction mm generalizing n l with
  | zero => exact hl
  | succ mm ih =>
    rw [zf_stl]
    apply ih _ _ (by omega)
    split <;> omega
def zf_ti (B : Nat → Int32) : Nat → Nat → Nat → Nat
  | 0, _, a => a
  | mm + 1, n, a => zf_ti B mm (n + 1) (a ||| zf_turned (zf_ni B n))
def zf_turners (x : Int32) (B : Nat → Int32) : Int32 := if zf_bt 0 60 x.toInt = true then nI (zf_ti B x.toInt.toNat 0 0) else -3
def zf_later (x y z : Int32) (B : Nat → Int32) : Int32 := if (zf_in x.toInt (zn B) && zf_bt 0 200 y.toInt && zf_bt 0 2 z.toInt) = true then (if z = nI 0 then zf_ni B y.toInt.toNat (117 + x.toInt.toNat) else if z = nI 1 then zf_ni B y.toInt.toNat (125 + x.toInt.toNat) else zf_end (zf_ni B y.toInt.toNat) (zn B) (zf_look (zf_ni B y.toInt.toNat) (zw B) (zh B) (zn B) x.toInt.toNat).2) else -8
section SL
variable {Lh m : Nat}
theorem zf_came_any {B : Nat → Int32} (v : zV B m) (n : Nat) (h : m + n < 2 ^ 30) : (0 < zf_came (zf_ni B n)) = (zf_any (fun k => decide (B (7 + 3 * k) = zf_ni B (n + 1) 133)) (zl B) 0 = true) := by
  obtain ⟨v1, s1⟩ := zf_ni_V v n h
  have N8 : zn (zf_ni B n) ≤ 8 := v1.1.1.2.2.2.2.2
  have s2 := zf_next_sm N8
  have hl := zSm_let s2 v1.2.2.2.2.1
  have e4 := (zSm_k s1).2.2.2.1
  have e133 : zf_ni B (n + 1) 133 = zf_next (zf_ni B n) 133 := by
    show zf_night (zf_ni B n) 133 = _
    unfold zf_night
    rw [← (zSm_k s2).2.2.2.1]
    exact zf_lets_o hl _ _ _ (by omega) 133 (by omega)
  unfold zf_came
  rw [zf_cnt_any, e4, e133]
  have hl10 : zl B ≤ 10 := v.2.2.2.2.1.2.1
  rw [zf_any_eq _ (fun k => decide (B (7 + 3 * k) = zf_next (zf_ni B n) 133)) _ _ (fun j _ hj => by rw [s2 (7 + 3 * j) (by omega), s1 (7 + 3 * j) (by omega)])]
theorem c_still (hm : m < 2 ^ 29) : zCq Lh 120 [] (fun B => .int (zf_still B)) m := by
  intro I J v
  obtain ⟨⟨hw, hh, hN⟩, gr, g, ex, ok, N8, wh⟩ := zInv_k v
  unfold zf_still
  dsimp only
  obtain ⟨I1, f1, -, r1, hb⟩ := sc_become (Lh := Lh) (I := I) (J := J) zx_st19 zx_st11 (by decide)
  have loop : ∀ mm n l I2 v3, n + mm = 201 → l ≤ 201 → zFc 19 I I2 → zR_st I2 19 (zf_ni (I 139) n) → ∃ I3, zFc 19 I I3 ∧ ∀ d P, zx_wp (d + 30) 120 15 [.ref 0, .int (nI l), .int (nI n), v3] [] (zx_LL Lh) I2 J P = P (some (.int (if 200 < zf_stl (I 139) mm n l then -1 else nI (zf_stl (I 139) mm n l)))) (zx_LL Lh) I3 J := by
    intro mm
    induction mm with
    | zero =>
      intro n l I2 v3 hn hl f r
      have hlt : 200 < n := by omega
      refine ⟨I2, f, fun d P => ?_⟩
      rw [zs_120_15, zf_stl]
      by_cases c : 200 < l
      · simp (disch := omega) only [↓zs_120_0, ↓zs_120_1, ↓zs_120_4, ↓zs_120_5, ↓zs_120_8, ↓zs_120_11, ↓zs_120_12, ↓zs_120_13, ↓zs_120_14, ↓zs_120_16, ↓zs_120_19, ↓zs_120_22, ↓zs_120_23, ↓zs_120_26, ↓zs_120_27, ↓zs_120_30, ↓zs_120_33, ↓zs_120_34, ↓zs_120_35, ↓zs_120_38, ↓zs_120_39, ↓zs_120_42, ↓zs_120_43, ↓zs_120_46, ↓zs_120_49, ↓zs_120_52, ↓zs_120_55, ↓zs_120_56, ↓zs_120_57, ↓zs_120_58, ↓zs_120_59, ↓zs_120_62, ↓zs_120_65, ↓zs_120_66, ↓zs_120_69, ↓zs_120_72, ↓zs_120_73, ↓zs_120_76, ↓zs_120_77, zx_pu_s, zx_pu_n, zx_rv_s, zx_rv_n, true_and, and_true, true_or, or_true, zb_0, zb_1, zq_lcl, zq_lcg, zq_lce, eq_self, ite_true, ite_false, zk_0, zw_0, zk_1, zw_1, zq_0_0, zq_0_1, zq_0_2, zq_0_3, zq_0_4, zq_0_5, zq_0_6, zq_0_7, zq_0_8, zq_0_9, zq_0_10, zq_0_11, zq_1_0, zq_1_1, zq_1_2, zq_1_3, zq_1_4, zq_1_5, zk_19, zw_19, zq_19_0, zq_19_1, zq_19_2, zn_10, zn_40, zn_040, zn_340, nI_add, zin_nI, nI_clamp, nI_ltI, nI_eq, pk_mul, nI_1, Nat.lt_irrefl, hlt, c]
      · simp (disch := omega) only [↓zs_120_0, ↓zs_120_1, ↓zs_120_4, ↓zs_120_5, ↓zs_120_8, ↓zs_120_11, ↓zs_120_12, ↓zs_120_13, ↓zs_120_14, ↓zs_120_16, ↓zs_120_19, ↓zs_120_22, ↓zs_120_23, ↓zs_120_26, ↓zs_120_27, ↓zs_120_30, ↓zs_120_33, ↓zs_120_34, ↓zs_120_35, ↓zs_120_38, ↓zs_120_39, ↓zs_120_42, ↓zs_120_43, ↓zs_120_46, ↓zs_120_49, ↓zs_120_52, ↓zs_120_55, ↓zs_120_56, ↓zs_120_57, ↓zs_120_58, ↓zs_120_59, ↓zs_120_62, ↓zs_120_65, ↓zs_120_66, ↓zs_120_69, ↓zs_120_72, ↓zs_120_73, ↓zs_120_76, ↓zs_120_77, zx_pu_s, zx_pu_n, zx_rv_s, zx_rv_n, true_and, and_true, true_or, or_true, zb_0, zb_1, zq_lcl, zq_lcg, zq_lce, eq_self, ite_true, ite_false, zk_0, zw_0, zk_1, zw_1, zq_0_0, zq_0_1, zq_0_2, zq_0_3, zq_0_4, zq_0_5, zq_0_6, zq_0_7, zq_0_8, zq_0_9, zq_0_10, zq_0_11, zq_1_0, zq_1_1, zq_1_2, zq_1_3, zq_1_4, zq_1_5, zk_19, zw_19, zq_19_0, zq_19_1, zq_19_2, zn_10, zn_40, zn_040, zn_340, nI_add, zin_nI, nI_clamp, nI_ltI, nI_eq, pk_mul, nI_1, Nat.lt_irrefl, hlt, c]
    | succ mm ih =>
      intro n l I2 v3 hn hl f r
      have hlt : ¬ 200 < n := by omega
      obtain ⟨I3, f3, r3, h3⟩ := sc_nightN (Lh := Lh) (n := n) zx_st19 v.2.1 (by omega) v.2.2.1 f r
      have hwf := fun d P => sc_writtenFor (d := d) (Lh := Lh) (J := J) (P := P) (zf_ni (I 139) (n + 1) 133) v.2.1.2.2.2.2.1 (zFc_sq zx_st19 f3 v.2.2.1)
      have e193 : I3 19 3 = zf_ni (I 139) (n + 1) 133 := r3.1
      have tl : zf_turned (zf_ni (I 139) n) < 2 ^ 8 := by
        obtain ⟨v1, -⟩ := zf_ni_V v.2.1 n (by omega)
        have : zn (zf_ni (I 139) n) ≤ 8 := v1.1.1.2.2.2.2.2
        exact zf_bs_lt _ (by omega) (by decide)
      obtain ⟨I4, f4, h4⟩ := ih (n + 1) (if zf_act (I 139) n = true then n + 1 else l) I3 (.int (nI (zf_turned (zf_ni (I 139) n)))) (by omega) (by split <;> omega) f3 r3
      refine ⟨I4, f4, fun d P => ?_⟩
      rw [zf_stl, ← h4 d P, zs_120_15]
      unfold zf_act
      by_cases q : zf_turned (zf_ni (I 139) n) = 0
      · cases q2 : zf_any (fun k => decide (I 139 (7 + 3 * k) = zf_ni (I 139) (n + 1) 133)) (zl (I 139)) 0 <;> simp (disch := omega) only [↓zs_120_0, ↓zs_120_1, ↓zs_120_4, ↓zs_120_5, ↓zs_120_8, ↓zs_120_11, ↓zs_120_12, ↓zs_120_13, ↓zs_120_14, ↓zs_120_16, ↓zs_120_19, ↓zs_120_22, ↓zs_120_23, ↓zs_120_26, ↓zs_120_27, ↓zs_120_30, ↓zs_120_33, ↓zs_120_34, ↓zs_120_35, ↓zs_120_38, ↓zs_120_39, ↓zs_120_42, ↓zs_120_43, ↓zs_120_46, ↓zs_120_49, ↓zs_120_52, ↓zs_120_55, ↓zs_120_56, ↓zs_120_57, ↓zs_120_58, ↓zs_120_59, ↓zs_120_62, ↓zs_120_65, ↓zs_120_66, ↓zs_120_69, ↓zs_120_72, ↓zs_120_73, ↓zs_120_76, ↓zs_120_77, zx_pu_s, zx_pu_n, zx_rv_s, zx_rv_n, true_and, and_true, true_or, or_true, zb_0, zb_1, zq_lcl, zq_lcg, zq_lce, eq_self, ite_true, ite_false, zk_0, zw_0, zk_1, zw_1, zq_0_0, zq_0_1, zq_0_2, zq_0_3, zq_0_4, zq_0_5, zq_0_6, zq_0_7, zq_0_8, zq_0_9, zq_0_10, zq_0_11, zq_1_0, zq_1_1, zq_1_2, zq_1_3, zq_1_4, zq_1_5, zk_19, zw_19, zq_19_0, zq_19_1, zq_19_2, zn_10, zn_40, zn_040, zn_340, nI_add, zin_nI, nI_clamp, nI_ltI, nI_eq, pk_mul, nI_1, Nat.lt_irrefl, hlt, h3, q, e193, hwf, q2, zB_0, reduceCtorEq, decide_true, Bool.not_true, Bool.or_self, Bool.false_or]
      · simp (disch := omega) only [↓zs_120_0, ↓zs_120_1, ↓zs_120_4, ↓zs_120_5, ↓zs_120_8, ↓zs_120_11, ↓zs_120_12, ↓zs_120_13, ↓zs_120_14, ↓zs_120_16, ↓zs_120_19, ↓zs_120_22, ↓zs_120_23, ↓zs_120_26, ↓zs_120_27, ↓zs_120_30, ↓zs_120_33, ↓zs_120_34, ↓zs_120_35, ↓zs_120_38, ↓zs_120_39, ↓zs_120_42, ↓zs_120_43, ↓zs_120_46, ↓zs_120_49, ↓zs_120_52, ↓zs_120_55, ↓zs_120_56, ↓zs_120_57, ↓zs_120_58, ↓zs_120_59, ↓zs_120_62, ↓zs_120_65, ↓zs_120_66, ↓zs_120_69, ↓zs_120_72, ↓zs_120_73, ↓zs_120_76, ↓zs_120_77, zx_pu_s, zx_pu_n, zx_rv_s, zx_rv_n, true_and, and_true, true_or, or_true, zb_0, zb_1, zq_lcl, zq_lcg, zq_lce, eq_self, ite_true, ite_false, zk_0, zw_0, zk_1, zw_1, zq_0_0, zq_0_1, zq_0_2, zq_0_3, zq_0_4, zq_0_5, zq_0_6, zq_0_7, zq_0_8, zq_0_9, zq_0_10, zq_0_11, zq_1_0, zq_1_1, zq_1_2, zq_1_3, zq_1_4, zq_1_5, zk_19, zw_19, zq_19_0, zq_19_1, zq_19_2, zn_10, zn_40, zn_040, zn_340, nI_add, zin_nI, nI_clamp, nI_ltI, nI_eq, pk_mul, nI_1, Nat.lt_irrefl, hlt, h3, q, decide_false, Bool.not_false, Bool.true_or]
  obtain ⟨I3, f3, h3⟩ := loop 201 0 0 I1 zx_u0 rfl (by omega) f1 (r1 _ v.2.2.2.1)
  refine ⟨I3, J, zScr_c f3 (by omega), fun d P => ?_⟩
  rw [ze_120]
  simp (disch := omega) only [↓zs_120_0, ↓zs_120_1, ↓zs_120_4, ↓zs_120_5, ↓zs_120_8, ↓zs_120_11, ↓zs_120_12, ↓zs_120_13, ↓zs_120_14, zx_pu_s, zx_pu_n, zx_rv_s, zx_rv_n, true_and, and_true, true_or, or_true, zb_0, zb_1, zq_lcl, zq_lcg, zq_lce, eq_self, ite_true, ite_false, zk_0, zw_0, zk_1, zw_1, zq_0_0, zq_0_1, zq_0_2, zq_0_3, zq_0_4, zq_0_5, zq_0_6, zq_0_7, zq_0_8, zq_0_9, zq_0_10, zq_0_11, zq_1_0, zq_1_1, zq_1_2, zq_1_3, zq_1_4, zq_1_5, zk_11, zw_11, zq_11_0, zq_11_1, zq_11_2, zk_19, zw_19, zq_19_0, zq_19_1, zq_19_2, hb]
  exact h3 d P
theorem m_still (hm : m < 2 ^ 29) : zMq Lh 232 [] (fun B => .int (zf_still B)) m := by
  intro I J v
  unfold zf_still
  dsimp only
  obtain ⟨I1, f1, f1', g1, hb⟩ := sp_begin (Lh := Lh) (J := J) (I 139) rfl
  have loop : ∀ mm n l I2 v3, n + mm = 201 → l ≤ 201 → zFm I1 I2 → I2 139 = zf_ni (I 139) n → ∃ I3 v3' n', zFm I1 I3 ∧ I3 139 = zf_ni (I 139) 201 ∧ ∀ d P, zx_wp (d + 30) 232 13 [.ref 138, .int (nI l), .int (nI n), v3] [] (zx_LL Lh) I2 J P = zx_wp (d + 30) 232 46 [.ref 138, .int (nI (zf_stl (I 139) mm n l)), .int (nI n'), v3'] [] (zx_LL Lh) I3 J P := by
    intro mm
    induction mm with
    | zero =>
      intro n l I2 v3 hn hl f r
      have hlt : 200 < n := by omega
      obtain rfl : n = 201 := by omega
      refine ⟨I2, v3, 201, f, r, fun d P => ?_⟩
      rw [zs_232_13, zf_stl]
      simp (disch := omega) only [↓zs_232_14, ↓zs_232_17, ↓zs_232_20, ↓zs_232_21, ↓zs_232_24, ↓zs_232_25, ↓zs_232_26, ↓zs_232_29, ↓zs_232_30, ↓zs_232_33, ↓zs_232_36, ↓zs_232_37, ↓zs_232_38, ↓zs_232_39, ↓zs_232_40, ↓zs_232_43, zx_pu_s, zx_pu_n, zx_rv_s, zx_rv_n, true_and, and_true, true_or, or_true, zb_0, zb_1, zq_lcl, zq_lcg, zq_lce, eq_self, ite_true, ite_false, zk_138, zw_138, zk_139, zw_139, zk_140, zw_140, zk_141, zw_141, zk_142, zw_142, zk_143, zw_143, zk_144, zw_144, zk_145, zw_145, zk_146, zw_146, zk_147, zw_147, zk_148, zw_148, zk_149, zw_149, zk_150, zw_150, zk_151, zw_151, zk_152, zw_152, zq_138_1, zq_138_2, zq_138_3, zq_138_4, zq_138_16, zq_138_19, zq_138_20, zq_138_24, zq_138_25, zq_138_26, zq_138_27, zq_138_31, zq_138_32, zq_138_33, zn_10, zn_40, zn_040, zn_340, nI_add, zin_nI, nI_clamp, nI_ltI, nI_eq, pk_mul, nI_1, Nat.lt_irrefl, hlt]
    | succ mm ih =>
      intro n l I2 v3 hn hl f r
      have hlt : ¬ 200 < n := by omega
      obtain ⟨I3, f3, r3, -, e18, h3⟩ := sp_nightN (Lh := Lh) (J := J) (n := n) v.2.1 (by omega) f r
      have tl : zf_turned (zf_ni (I 139) n) < 2 ^ 8 := by
        obtain ⟨v1, -⟩ := zf_ni_V v.2.1 n (by omega)
        have : zn (zf_ni (I 139) n) ≤ 8 := v1.1.1.2.2.2.2.2
        exact zf_bs_lt _ (by omega) (by decide)
      have ec := zf_came_any v.2.1 n (by omega)
      have et := zf_cnt_b0 (t := zf_turned (zf_ni (I 139) n)) (by omega)
      have hc1 : zf_cnt (zf_turned (zf_ni (I 139) n)).testBit 64 0 ≤ 64 := zf_cnt_le _ _ _
      have hc2 : zf_came (zf_ni (I 139) n) ≤ 64 := by
        have h1 := zf_cnt_le (fun k => decide (zf_next (zf_ni (I 139) n) (7 + 3 * k) = zf_next (zf_ni (I 139) n) 133)) (zl (zf_ni (I 139) n)) 0
        obtain ⟨v1, -⟩ := zf_ni_V v.2.1 n (by omega)
        have h2 := v1.2.2.2.2.1.2.1
        unfold zf_came
        omega
      obtain ⟨I4, v3', n', f4, r4, h4⟩ := ih (n + 1) (if zf_act (I 139) n = true then n + 1 else l) I3 (.int (nI (zf_cnt (zf_turned (zf_ni (I 139) n)).testBit 64 0))) (by omega) (by split <;> omega) f3 r3
      refine ⟨I4, v3', n', f4, r4, fun d P => ?_⟩
      rw [zf_stl, ← h4 d P, zs_232_13]
      unfold zf_act
      by_cases q : zf_turned (zf_ni (I 139) n) = 0
      · have q1 : ¬ 0 < zf_cnt (zf_turned (zf_ni (I 139) n)).testBit 64 0 := by rw [et]; exact fun h => h q
        have q0 := decide_eq_true q
        cases q2 : zf_any (fun k => decide (I 139 (7 + 3 * k) = zf_ni (I 139) (n + 1) 133)) (zl (I 139)) 0 with
        | false =>
          rw [q2] at ec
          have q3 : ¬ 0 < zf_came (zf_ni (I 139) n) := by rw [ec]; decide
          simp (disch := omega) only [↓zs_232_14, ↓zs_232_17, ↓zs_232_20, ↓zs_232_21, ↓zs_232_24, ↓zs_232_25, ↓zs_232_26, ↓zs_232_29, ↓zs_232_30, ↓zs_232_33, ↓zs_232_36, ↓zs_232_37, ↓zs_232_38, ↓zs_232_39, ↓zs_232_40, ↓zs_232_43, zx_pu_s, zx_pu_n, zx_rv_s, zx_rv_n, true_and, and_true, true_or, or_true, zb_0, zb_1, zq_lcl, zq_lcg, zq_lce, eq_self, ite_true, ite_false, zk_138, zw_138, zk_139, zw_139, zk_140, zw_140, zk_141, zw_141, zk_142, zw_142, zk_143, zw_143, zk_144, zw_144, zk_145, zw_145, zk_146, zw_146, zk_147, zw_147, zk_148, zw_148, zk_149, zw_149, zk_150, zw_150, zk_151, zw_151, zk_152, zw_152, zq_138_1, zq_138_2, zq_138_3, zq_138_4, zq_138_16, zq_138_19, zq_138_20, zq_138_24, zq_138_25, zq_138_26, zq_138_27, zq_138_31, zq_138_32, zq_138_33, zn_10, zn_40, zn_040, zn_340, nI_add, zin_nI, nI_clamp, nI_ltI, nI_eq, pk_mul, nI_1, Nat.lt_irrefl, hlt, h3, q0, q1, q3, e18, reduceCtorEq, Bool.not_true, Bool.or_self]
        | true =>
          rw [q2] at ec
          have q3 : 0 < zf_came (zf_ni (I 139) n) := by rw [ec]
          simp (disch := omega) only [↓zs_232_14, ↓zs_232_17, ↓zs_232_20, ↓zs_232_21, ↓zs_232_24, ↓zs_232_25, ↓zs_232_26, ↓zs_232_29, ↓zs_232_30, ↓zs_232_33, ↓zs_232_36, ↓zs_232_37, ↓zs_232_38, ↓zs_232_39, ↓zs_232_40, ↓zs_232_43, zx_pu_s, zx_pu_n, zx_rv_s, zx_rv_n, true_and, and_true, true_or, or_true, zb_0, zb_1, zq_lcl, zq_lcg, zq_lce, eq_self, ite_true, ite_false, zk_138, zw_138, zk_139, zw_139, zk_140, zw_140, zk_141, zw_141, zk_142, zw_142, zk_143, zw_143, zk_144, zw_144, zk_145, zw_145, zk_146, zw_146, zk_147, zw_147, zk_148, zw_148, zk_149, zw_149, zk_150, zw_150, zk_151, zw_151, zk_152, zw_152, zq_138_1, zq_138_2, zq_138_3, zq_138_4, zq_138_16, zq_138_19, zq_138_20, zq_138_24, zq_138_25, zq_138_26, zq_138_27, zq_138_31, zq_138_32, zq_138_33, zn_10, zn_40, zn_040, zn_340, nI_add, zin_nI, nI_clamp, nI_ltI, nI_eq, pk_mul, nI_1, Nat.lt_irrefl, hlt, h3, q0, q1, q3, e18, reduceCtorEq, Bool.not_true, Bool.false_or]
      · have q1 : 0 < zf_cnt (zf_turned (zf_ni (I 139) n)).testBit 64 0 := by rw [et]; exact q
        simp (disch := omega) only [↓zs_232_14, ↓zs_232_17, ↓zs_232_20, ↓zs_232_21, ↓zs_232_24, ↓zs_232_25, ↓zs_232_26, ↓zs_232_29, ↓zs_232_30, ↓zs_232_33, ↓zs_232_36, ↓zs_232_37, ↓zs_232_38, ↓zs_232_39, ↓zs_232_40, ↓zs_232_43, zx_pu_s, zx_pu_n, zx_rv_s, zx_rv_n, true_and, and_true, true_or, or_true, zb_0, zb_1, zq_lcl, zq_lcg, zq_lce, eq_self, ite_true, ite_false, zk_138, zw_138, zk_139, zw_139, zk_140, zw_140, zk_141, zw_141, zk_142, zw_142, zk_143, zw_143, zk_144, zw_144, zk_145, zw_145, zk_146, zw_146, zk_147, zw_147, zk_148, zw_148, zk_149, zw_149, zk_150, zw_150, zk_151, zw_151, zk_152, zw_152, zq_138_1, zq_138_2, zq_138_3, zq_138_4, zq_138_16, zq_138_19, zq_138_20, zq_138_24, zq_138_25, zq_138_26, zq_138_27, zq_138_31, zq_138_32, zq_138_33, zn_10, zn_40, zn_040, zn_340, nI_add, zin_nI, nI_clamp, nI_ltI, nI_eq, pk_mul, nI_1, Nat.lt_irrefl, hlt, h3, q, q1, decide_false, Bool.not_false, Bool.true_or]
  obtain ⟨I3, v3', n', f3, r3, h3⟩ := loop 201 0 0 I1 zx_u0 rfl (by omega) (zFm_r I1) (f1 139 (by decide) (by decide))
  have s3 : zSm (I 139) (I3 139) := by rw [r3]; exact (zf_ni_ok v.2.1 201 (by omega)).2.2.2
  obtain ⟨he, hscr⟩ := sp_end (Lh := Lh) (J := J) rfl f1 f1' g1 f3 s3
  refine ⟨_, J, hscr, fun d P => ?_⟩
  have hle := zf_stl_le (I 139) 201 0 0 (by omega) (by omega)
  rw [ze_232]
  simp (disch := omega) only [↓zs_232_0, ↓zs_232_1, ↓zs_232_2, ↓zs_232_5, ↓zs_232_6, ↓zs_232_9, ↓zs_232_10, ↓zs_232_11, ↓zs_232_12, zx_pu_s, zx_pu_n, zx_rv_s, zx_rv_n, true_and, and_true, true_or, or_true, zb_0, zb_1, zq_lcl, zq_lcg, zq_lce, eq_self, ite_true, ite_false, zk_138, zw_138, zk_139, zw_139, zk_140, zw_140, zk_141, zw_141, zk_142, zw_142, zk_143, zw_143, zk_144, zw_144, zk_145, zw_145, zk_146, zw_146, zk_147, zw_147, zk_148, zw_148, zk_149, zw_149, zk_150, zw_150, zk_151, zw_151, zk_152, zw_152, zq_138_1, zq_138_2, zq_138_3, zq_138_4, zq_138_16, zq_138_19, zq_138_20, zq_138_24, zq_138_25, zq_138_26, zq_138_27, zq_138_31, zq_138_32, zq_138_33, hb]
  rw [h3]
  by_cases c : 200 < zf_stl (I 139) 201 0 0
  · simp (disch := omega) only [↓zs_232_46, ↓zs_232_47, ↓zs_232_50, ↓zs_232_51, ↓zs_232_54, ↓zs_232_57, ↓zs_232_58, ↓zs_232_61, ↓zs_232_62, zx_pu_s, zx_pu_n, zx_rv_s, zx_rv_n, true_and, and_true, true_or, or_true, zb_0, zb_1, zq_lcl, zq_lcg, zq_lce, eq_self, ite_true, ite_false, zk_138, zw_138, zk_139, zw_139, zk_140, zw_140, zk_141, zw_141, zk_142, zw_142, zk_143, zw_143, zk_144, zw_144, zk_145, zw_145, zk_146, zw_146, zk_147, zw_147, zk_148, zw_148, zk_149, zw_149, zk_150, zw_150, zk_151, zw_151, zk_152, zw_152, zq_138_1, zq_138_2, zq_138_3, zq_138_4, zq_138_16, zq_138_19, zq_138_20, zq_138_24, zq_138_25, zq_138_26, zq_138_27, zq_138_31, zq_138_32, zq_138_33, zn_10, zn_40, zn_040, zn_340, nI_add, zin_nI, nI_clamp, nI_ltI, nI_eq, pk_mul, nI_1, Nat.lt_irrefl, he, c]
  · simp (disch := omega) only [↓zs_232_46, ↓zs_232_47, ↓zs_232_50, ↓zs_232_51, ↓zs_232_54, ↓zs_232_57, ↓zs_232_58, ↓zs_232_61, ↓zs_232_62, zx_pu_s, zx_pu_n, zx_rv_s, zx_rv_n, true_and, and_true, true_or, or_true, zb_0, zb_1, zq_lcl, zq_lcg, zq_lce, eq_self, ite_true, ite_false, zk_138, zw_138, zk_139, zw_139, zk_140, zw_140, zk_141, zw_141, zk_142, zw_142, zk_143, zw_143, zk_144, zw_144, zk_145, zw_145, zk_146, zw_146, zk_147, zw_147, zk_148, zw_148, zk_149, zw_149, zk_150, zw_150, zk_151, zw_151, zk_152, zw_152, zq_138_1, zq_138_2, zq_138_3, zq_138_4, zq_138_16, zq_138_19, zq_138_20, zq_138_24, zq_138_25, zq_138_26, zq_138_27, zq_138_31, zq_138_32, zq_138_33, zn_10, zn_40, zn_040, zn_340, nI_add, zin_nI, nI_clamp, nI_ltI, nI_eq, pk_mul, nI_1, Nat.lt_irrefl, he, c]
theorem c_turners (hm : m < 2 ^ 29) (x : Int32) : zCq Lh 141 [.int x] (fun B => .int (zf_turners x B)) m := by
  intro I J v
  obtain ⟨⟨hw, hh, hN⟩, gr, g, ex, ok, N8, wh⟩ := zInv_k v
  have xl := zq_lt0 x
  have xg := zq_gt x (n := 60) (by omega)
  unfold zf_turners
  dsimp only
  by_cases c : zf_bt 0 60 x.toInt = true
  · obtain ⟨k, -, hk, rfl⟩ := zf_bt_nI c (by omega)
    rw [if_pos c, nI_toInt (by omega), Int.toNat_natCast]
    obtain ⟨I1, f1, -, r1, hb⟩ := sc_become (Lh := Lh) (I := I) (J := J) zx_st19 zx_st11 (by decide)
    have loop : ∀ mm n a I2, n + mm = k → zFc 19 I I2 → zR_st I2 19 (zf_ni (I 139) n) → ∃ I3, zFc 19 I I3 ∧ ∀ d P, zx_wp (d + 30) 141 28 [.ref 0, .int (nI k), .int (nI a), .int (nI n)] [] (zx_LL Lh) I2 J P = P (some (.int (nI (zf_ti (I 139) mm n a)))) (zx_LL Lh) I3 J := by
      intro mm
      induction mm with
      | zero =>
        intro n a I2 hn f r
        have hlt : ¬ n < k := by omega
        refine ⟨I2, f, fun d P => ?_⟩
        rw [zs_141_28]
        simp (disch := omega) only [↓zs_141_0, ↓zs_141_1, ↓zs_141_4, ↓zs_141_5, ↓zs_141_7, ↓zs_141_10, ↓zs_141_12, ↓zs_141_13, ↓zs_141_14, ↓zs_141_17, ↓zs_141_18, ↓zs_141_21, ↓zs_141_24, ↓zs_141_25, ↓zs_141_26, ↓zs_141_27, ↓zs_141_29, ↓zs_141_30, ↓zs_141_33, ↓zs_141_34, ↓zs_141_35, ↓zs_141_38, ↓zs_141_39, ↓zs_141_42, ↓zs_141_45, ↓zs_141_46, ↓zs_141_47, ↓zs_141_50, ↓zs_141_53, ↓zs_141_54, zx_pu_s, zx_pu_n, zx_rv_s, zx_rv_n, true_and, and_true, true_or, or_true, zb_0, zb_1, zq_lcl, zq_lcg, zq_lce, eq_self, ite_true, ite_false, zk_0, zw_0, zk_1, zw_1, zq_0_0, zq_0_1, zq_0_2, zq_0_3, zq_0_4, zq_0_5, zq_0_6, zq_0_7, zq_0_8, zq_0_9, zq_0_10, zq_0_11, zq_1_0, zq_1_1, zq_1_2, zq_1_3, zq_1_4, zq_1_5, zk_19, zw_19, zq_19_0, zq_19_1, zq_19_2, zn_10, zn_40, zn_040, zn_340, nI_add, zin_nI, nI_clamp, nI_ltI, nI_eq, pk_mul, nI_1, Nat.lt_irrefl, hlt]
        rfl
      | succ mm ih =>
        intro n a I2 hn f r
        have hlt : n < k := by omega
        obtain ⟨I3, f3, r3, h3⟩ := sc_nightN (Lh := Lh) (n := n) zx_st19 v.2.1 (by omega) v.2.2.1 f r
        obtain ⟨I4, f4, h4⟩ := ih (n + 1) (a ||| zf_turned (zf_ni (I 139) n)) I3 (by omega) f3 r3
        refine ⟨I4, f4, fun d P => ?_⟩
        rw [zf_ti, ← h4 d P, zs_141_28]
        simp (disch := omega) only [↓zs_141_0, ↓zs_141_1, ↓zs_141_4, ↓zs_141_5, ↓zs_141_7, ↓zs_141_10, ↓zs_141_12, ↓zs_141_13, ↓zs_141_14, ↓zs_141_17, ↓zs_141_18, ↓zs_141_21, ↓zs_141_24, ↓zs_141_25, ↓zs_141_26, ↓zs_141_27, ↓zs_141_29, ↓zs_141_30, ↓zs_141_33, ↓zs_141_34, ↓zs_141_35, ↓zs_141_38, ↓zs_141_39, ↓zs_141_42, ↓zs_141_45, ↓zs_141_46, ↓zs_141_47, ↓zs_141_50, ↓zs_141_53, ↓zs_141_54, zx_pu_s, zx_pu_n, zx_rv_s, zx_rv_n, true_and, and_true, true_or, or_true, zb_0, zb_1, zq_lcl, zq_lcg, zq_lce, eq_self, ite_true, ite_false, zk_0, zw_0, zk_1, zw_1, zq_0_0, zq_0_1, zq_0_2, zq_0_3, zq_0_4, zq_0_5, zq_0_6, zq_0_7, zq_0_8, zq_0_9, zq_0_10, zq_0_11, zq_1_0, zq_1_1, zq_1_2, zq_1_3, zq_1_4, zq_1_5, zk_19, zw_19, zq_19_0, zq_19_1, zq_19_2, zn_10, zn_40, zn_040, zn_340, nI_add, zin_nI, nI_clamp, nI_ltI, nI_eq, pk_mul, nI_1, Nat.lt_irrefl, hlt, h3, zq_orI]
    obtain ⟨I3, f3, h3⟩ := loop k 0 0 I1 (by omega) f1 (r1 _ v.2.2.2.1)
    refine ⟨I3, J, zScr_c f3 (by omega), fun d P => ?_⟩
    have q1 : ¬ 60 < k := by omega
    rw [ze_141]
    simp (disch := omega) only [↓zs_141_0, ↓zs_141_1, ↓zs_141_4, ↓zs_141_5, ↓zs_141_7, ↓zs_141_10, ↓zs_141_12, ↓zs_141_13, ↓zs_141_14, ↓zs_141_17, ↓zs_141_18, ↓zs_141_21, ↓zs_141_24, ↓zs_141_25, ↓zs_141_26, ↓zs_141_27, zx_pu_s, zx_pu_n, zx_rv_s, zx_rv_n, true_and, and_true, true_or, or_true, zb_0, zb_1, zq_lcl, zq_lcg, zq_lce, eq_self, ite_true, ite_false, zk_0, zw_0, zk_1, zw_1, zq_0_0, zq_0_1, zq_0_2, zq_0_3, zq_0_4, zq_0_5, zq_0_6, zq_0_7, zq_0_8, zq_0_9, zq_0_10, zq_0_11, zq_1_0, zq_1_1, zq_1_2, zq_1_3, zq_1_4, zq_1_5, zk_11, zw_11, zq_11_0, zq_11_1, zq_11_2, zk_19, zw_19, zq_19_0, zq_19_1, zq_19_2, zn_10, zn_40, zn_040, zn_340, nI_add, zin_nI, nI_clamp, nI_ltI, nI_eq, pk_mul, nI_1, Nat.lt_irrefl, zn_lt0, q1, hb]
    exact h3 d P
  · rw [if_neg c]
    rw [Bool.not_eq_true] at c
    refine ⟨I, J, zScr_r I J, fun d P => ?_⟩
    rw [ze_141]
    rcases zf_bt_no c with q | ⟨q1, q2⟩
    · simp (disch := omega) only [↓zs_141_0, ↓zs_141_1, ↓zs_141_4, ↓zs_141_5, ↓zs_141_7, ↓zs_141_10, ↓zs_141_12, ↓zs_141_13, ↓zs_141_14, ↓zs_141_17, ↓zs_141_18, ↓zs_141_21, ↓zs_141_24, ↓zs_141_25, ↓zs_141_26, ↓zs_141_27, zx_pu_s, zx_pu_n, zx_rv_s, zx_rv_n, true_and, and_true, true_or, or_true, zb_0, zb_1, zq_lcl, zq_lcg, zq_lce, eq_self, ite_true, ite_false, xl, q]
    · have q3 : ((60 : Nat) : Int) < x.toInt := q2
      simp (disch := omega) only [↓zs_141_0, ↓zs_141_1, ↓zs_141_4, ↓zs_141_5, ↓zs_141_7, ↓zs_141_10, ↓zs_141_12, ↓zs_141_13, ↓zs_141_14, ↓zs_141_17, ↓zs_141_18, ↓zs_141_21, ↓zs_141_24, ↓zs_141_25, ↓zs_141_26, ↓zs_141_27, zx_pu_s, zx_pu_n, zx_rv_s, zx_rv_n, true_and, and_true, true_or, or_true, zb_0, zb_1, zq_lcl, zq_lcg, zq_lce, eq_self, ite_true, ite_false, xl, xg, q1, q3]
theorem m_turners (hm : m < 2 ^ 29) (x : Int32) : zMq Lh 262 [.int x] (fun B => .int (zf_turners x B)) m := by
  intro I J v
  have hbt := fun d L I J P => sp_bt (d := d) (L := L) (I := I) (J := J) (P := P) x (a := 0) (b := 60) (by omega) (by omega)
  unfold zf_turners
  dsimp only
  by_cases c : zf_bt 0 60 x.toInt = true
  · rw [if_pos c]
    rw [c] at hbt
    obtain ⟨k, -, hk, rfl⟩ := zf_bt_nI c (by omega)
    rw [nI_toInt (by omega), Int.toNat_natCast]
    obtain ⟨I1, f1, f1', g1, hb⟩ := sp_begin (Lh := Lh) (J := J) (I 139) rfl
    have loop : ∀ mm n a I2, n + mm = k → zFm I1 I2 → I2 139 = zf_ni (I 139) n → ∃ I3, zFm I1 I3 ∧ I3 139 = zf_ni (I 139) k ∧ ∀ d P, zx_wp (d + 30) 262 28 [.ref 138, .int (nI k), .int (nI a), .int (nI n)] [] (zx_LL Lh) I2 J P = zx_wp (d + 30) 262 51 [.ref 138, .int (nI k), .int (nI (zf_ti (I 139) mm n a)), .int (nI k)] [] (zx_LL Lh) I3 J P := by
      intro mm
      induction mm with
      | zero =>
        intro n a I2 hn f r
        obtain rfl : n = k := by omega
        refine ⟨I2, f, r, fun d P => ?_⟩
        rw [zs_262_28, zf_ti]
        simp (disch := omega) only [↓zs_262_29, ↓zs_262_30, ↓zs_262_33, ↓zs_262_34, ↓zs_262_37, ↓zs_262_38, ↓zs_262_39, ↓zs_262_40, ↓zs_262_43, ↓zs_262_44, ↓zs_262_45, ↓zs_262_48, zx_pu_s, zx_pu_n, zx_rv_s, zx_rv_n, true_and, and_true, true_or, or_true, zb_0, zb_1, zq_lcl, zq_lcg, zq_lce, eq_self, ite_true, ite_false, zk_138, zw_138, zk_139, zw_139, zk_140, zw_140, zk_141, zw_141, zk_142, zw_142, zk_143, zw_143, zk_144, zw_144, zk_145, zw_145, zk_146, zw_146, zk_147, zw_147, zk_148, zw_148, zk_149, zw_149, zk_150, zw_150, zk_151, zw_151, zk_152, zw_152, zq_138_1, zq_138_2, zq_138_3, zq_138_4, zq_138_16, zq_138_19, zq_138_20, zq_138_24, zq_138_25, zq_138_26, zq_138_27, zq_138_31, zq_138_32, zq_138_33, zn_10, zn_40, zn_040, zn_340, nI_add, zin_nI, nI_clamp, nI_ltI, nI_eq, pk_mul, nI_1, Nat.lt_irrefl]
      | succ mm ih =>
        intro n a I2 hn f r
        have hlt : n < k := by omega
        obtain ⟨I3, f3, r3, e17, -, h3⟩ := sp_nightN (Lh := Lh) (J := J) (n := n) v.2.1 (by omega) f r
        obtain ⟨I4, f4, r4, h4⟩ := ih (n + 1) (a ||| zf_turned (zf_ni (I 139) n)) I3 (by omega) f3 r3
        refine ⟨I4, f4, r4, fun d P => ?_⟩
        rw [zf_ti, ← h4 d P, zs_262_28]
        simp (disch := omega) only [↓zs_262_29, ↓zs_262_30, ↓zs_262_33, ↓zs_262_34, ↓zs_262_37, ↓zs_262_38, ↓zs_262_39, ↓zs_262_40, ↓zs_262_43, ↓zs_262_44, ↓zs_262_45, ↓zs_262_48, zx_pu_s, zx_pu_n, zx_rv_s, zx_rv_n, true_and, and_true, true_or, or_true, zb_0, zb_1, zq_lcl, zq_lcg, zq_lce, eq_self, ite_true, ite_false, zk_138, zw_138, zk_139, zw_139, zk_140, zw_140, zk_141, zw_141, zk_142, zw_142, zk_143, zw_143, zk_144, zw_144, zk_145, zw_145, zk_146, zw_146, zk_147, zw_147, zk_148, zw_148, zk_149, zw_149, zk_150, zw_150, zk_151, zw_151, zk_152, zw_152, zq_138_1, zq_138_2, zq_138_3, zq_138_4, zq_138_16, zq_138_19, zq_138_20, zq_138_24, zq_138_25, zq_138_26, zq_138_27, zq_138_31, zq_138_32, zq_138_33, zn_10, zn_40, zn_040, zn_340, nI_add, zin_nI, nI_clamp, nI_ltI, nI_eq, pk_mul, nI_1, Nat.lt_irrefl, hlt, h3, e17, zq_orI]
    obtain ⟨I3, f3, r3, h3⟩ := loop k 0 0 I1 (by omega) (zFm_r I1) (f1 139 (by decide) (by decide))
    have s3 : zSm (I 139) (I3 139) := by rw [r3]; exact (zf_ni_ok v.2.1 k (by omega)).2.2.2
    obtain ⟨he, hscr⟩ := sp_end (Lh := Lh) (J := J) rfl f1 f1' g1 f3 s3
    refine ⟨_, J, hscr, fun d P => ?_⟩
    rw [ze_262]
    simp (disch := omega) only [↓zs_262_0, ↓zs_262_1, ↓zs_262_2, ↓zs_262_5, ↓zs_262_6, ↓zs_262_7, ↓zs_262_8, ↓zs_262_11, ↓zs_262_14, ↓zs_262_17, ↓zs_262_19, ↓zs_262_20, ↓zs_262_21, ↓zs_262_24, ↓zs_262_25, ↓zs_262_26, ↓zs_262_27, zx_pu_s, zx_pu_n, zx_rv_s, zx_rv_n, true_and, and_true, true_or, or_true, zb_0, zb_1, zq_lcl, zq_lcg, zq_lce, eq_self, ite_true, ite_false, zk_138, zw_138, zk_139, zw_139, zk_140, zw_140, zk_141, zw_141, zk_142, zw_142, zk_143, zw_143, zk_144, zw_144, zk_145, zw_145, zk_146, zw_146, zk_147, zw_147, zk_148, zw_148, zk_149, zw_149, zk_150, zw_150, zk_151, zw_151, zk_152, zw_152, zq_138_1, zq_138_2, zq_138_3, zq_138_4, zq_138_16, zq_138_19, zq_138_20, zq_138_24, zq_138_25, zq_138_26, zq_138_27, zq_138_31, zq_138_32, zq_138_33, hbt, zB_0, reduceCtorEq, hb]
    rw [h3]
    simp (disch := omega) only [↓zs_262_51, ↓zs_262_52, ↓zs_262_55, ↓zs_262_56, zx_pu_s, zx_pu_n, zx_rv_s, zx_rv_n, true_and, and_true, true_or, or_true, zb_0, zb_1, zq_lcl, zq_lcg, zq_lce, eq_self, ite_true, ite_false, zk_138, zw_138, zk_139, zw_139, zk_140, zw_140, zk_141, zw_141, zk_142, zw_142, zk_143, zw_143, zk_144, zw_144, zk_145, zw_145, zk_146, zw_146, zk_147, zw_147, zk_148, zw_148, zk_149, zw_149, zk_150, zw_150, zk_151, zw_151, zk_152, zw_152, zq_138_1, zq_138_2, zq_138_3, zq_138_4, zq_138_16, zq_138_19, zq_138_20, zq_138_24, zq_138_25, zq_138_26, zq_138_27, zq_138_31, zq_138_32, zq_138_33, zn_10, zn_40, zn_040, zn_340, nI_add, zin_nI, nI_clamp, nI_ltI, nI_eq, pk_mul, nI_1, Nat.lt_irrefl, he]
  · rw [if_neg c]
    rw [Bool.not_eq_true] at c
    rw [c] at hbt
    refine ⟨zx_u I 138 0 (nI 0), J, zScr_s (zFs_0 _ _), fun d P => ?_⟩
    rw [ze_262]
    simp (disch := omega) only [↓zs_262_0, ↓zs_262_1, ↓zs_262_2, ↓zs_262_5, ↓zs_262_6, ↓zs_262_7, ↓zs_262_8, ↓zs_262_11, ↓zs_262_14, ↓zs_262_17, ↓zs_262_19, ↓zs_262_20, ↓zs_262_21, ↓zs_262_24, ↓zs_262_25, ↓zs_262_26, ↓zs_262_27, zx_pu_s, zx_pu_n, zx_rv_s, zx_rv_n, true_and, and_true, true_or, or_true, zb_0, zb_1, zq_lcl, zq_lcg, zq_lce, eq_self, ite_true, ite_false, zk_138, zw_138, zk_139, zw_139, zk_140, zw_140, zk_141, zw_141, zk_142, zw_142, zk_143, zw_143, zk_144, zw_144, zk_145, zw_145, zk_146, zw_146, zk_147, zw_147, zk_148, zw_148, zk_149, zw_149, zk_150, zw_150, zk_151, zw_151, zk_152, zw_152, zq_138_1, zq_138_2, zq_138_3, zq_138_4, zq_138_16, zq_138_19, zq_138_20, zq_138_24, zq_138_25, zq_138_26, zq_138_27, zq_138_31, zq_138_32, zq_138_33, hbt, zB_0, reduceCtorEq]
theorem q_still {I : zx_MI} {J : zx_MJ} (v : zInv I J m) (hm : m < 2 ^ 29) : zQ Lh 120 232 [] I J := zQ_mk (c_still hm) (m_still hm) v
theorem q_turners {I : zx_MI} {J : zx_MJ} (v : zInv I J m) (hm : m < 2 ^ 29) (x : Int32) : zQ Lh 141 262 [.int x] I J := zQ_mk (c_turners hm x) (m_turners hm x) v
end SL
