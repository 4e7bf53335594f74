/-! facing, freeIn: the first NIGHT in which it is so -/
theorem zx_st19 : zx_st 19 := show 19 ∈ zx_stl by decide
section FI
variable {Lh m : Nat}
theorem zf_ni_ok {B : Nat → Int32} (v : zV B m) (n : Nat) (h : m + n < 2 ^ 30) : zM_ok (zf_ni B n) (zw B) (zh B) (zn B) ∧ zM_ground (zf_ni B n) ∧ zM_excl (zf_ni B n) ∧ zSm B (zf_ni B n) := by
  obtain ⟨v1, s1⟩ := zf_ni_V v n h
  obtain ⟨e1, e2, e3, -⟩ := zSm_k s1
  have := v1.1
  rw [e1, e2, e3] at this
  exact ⟨this, v1.2.1, v1.2.2.1, s1⟩
theorem zR_ground_s {J : zx_MJ} {S : Nat} {B B2 : Nat → Int32} (h : zSm B B2) (r : zR_ground J S B) : zR_ground J S B2 := by
  intro k hk
  rw [h (45 + k) (by omega)]
  exact r k hk
/-- OFF is 0 in n NIGHTS -/
def zf_facP (B : Nat → Int32) (s n : Nat) : Bool := decide (zf_off (zf_ni B n) (zw B) s = nI 0)
def zf_facing (x : Int32) (B : Nat → Int32) : Int32 := if zf_in x.toInt (zn B) = true then zf_first (zf_facP B x.toInt.toNat) 201 0 else -2
theorem c_facing (hm : m < 2 ^ 29) (x : Int32) : zCq Lh 122 [.int x] (fun B => .int (zf_facing x B)) m := by
  intro I J v
  obtain ⟨⟨hw, hh, hN⟩, gr, g, ex, ok, N8, wh⟩ := zInv_k v
  have h1 := fun d P => sc_hasStatue (d := d) (Lh := Lh) (I := I) (J := J) (P := P) zx_sq1 x hN N8
  unfold zf_facing
  dsimp only
  by_cases c : zf_in x.toInt (zn (I 139)) = true
  · have e := zq_toI (x := x) rfl c (by omega)
    have hs : x.toInt.toNat < 8 := by have := zf_inP.mp c; omega
    rw [if_pos c]
    generalize x.toInt.toNat = s at e hs
    subst e
    obtain ⟨I1, f1, -, r1, hb⟩ := sc_become (Lh := Lh) (I := I) (J := J) zx_st19 zx_st11 (by decide)
    have loop : ∀ mm n I2, n + mm = 201 → zFc 19 I I2 → zR_st I2 19 (zf_ni (I 139) n) → ∃ I3, zFc 19 I I3 ∧ ∀ d P, zx_wp (d + 30) 122 27 [.ref 0, .int (nI s), .int (nI n)] [] (zx_LL Lh) I2 J P = P (some (.int (zf_first (zf_facP (I 139) s) mm n))) (zx_LL Lh) I3 J := by
      intro mm
      induction mm with
      | zero =>
        intro n I2 hn f r
        have hlt : 200 < n := by omega
        refine ⟨I2, f, fun d P => ?_⟩
        rw [zs_122_27]
        simp (disch := omega) only [↓zs_122_0, ↓zs_122_1, ↓zs_122_4, ↓zs_122_5, ↓zs_122_8, ↓zs_122_11, ↓zs_122_13, ↓zs_122_14, ↓zs_122_15, ↓zs_122_18, ↓zs_122_19, ↓zs_122_22, ↓zs_122_25, ↓zs_122_26, ↓zs_122_28, ↓zs_122_31, ↓zs_122_34, ↓zs_122_35, ↓zs_122_38, ↓zs_122_39, ↓zs_122_42, ↓zs_122_43, ↓zs_122_46, ↓zs_122_49, ↓zs_122_50, ↓zs_122_51, ↓zs_122_52, ↓zs_122_55, ↓zs_122_56, ↓zs_122_59, ↓zs_122_62, ↓zs_122_63, ↓zs_122_66, ↓zs_122_69, ↓zs_122_70, zx_pu_s, zx_pu_n, zx_rv_s, zx_rv_n, true_and, and_true, true_or, or_true, zb_0, zb_1, zq_lcl, zq_lcg, zq_lce, eq_self, ite_true, ite_false, zk_0, zw_0, zk_1, zw_1, zq_0_0, zq_0_1, zq_0_2, zq_0_3, zq_0_4, zq_0_5, zq_0_6, zq_0_7, zq_0_8, zq_0_9, zq_0_10, zq_0_11, zq_1_0, zq_1_1, zq_1_2, zq_1_3, zq_1_4, zq_1_5, zk_19, zw_19, zq_19_0, zq_19_1, zq_19_2, zn_10, zn_40, zn_040, zn_340, nI_add, zin_nI, nI_clamp, nI_ltI, nI_eq, pk_mul, nI_1, Nat.lt_irrefl, hlt]
        rfl
      | succ mm ih =>
        intro n I2 hn f r
        have hlt : ¬ 200 < n := by omega
        obtain ⟨okn, -, -, -⟩ := zf_ni_ok v.2.1 n (by omega)
        have hof := fun d P => sc_offOf (d := d) (Lh := Lh) (J := J) (P := P) zx_sq1 zx_st19 hs ((f 1 6 (by omega)).trans hw) r okn
        rw [zf_first]
        cases q : zf_facP (I 139) s n with
        | true =>
          have q2 := of_decide_eq_true q
          refine ⟨I2, f, fun d P => ?_⟩
          rw [zs_122_27, if_pos rfl]
          simp (disch := omega) only [↓zs_122_0, ↓zs_122_1, ↓zs_122_4, ↓zs_122_5, ↓zs_122_8, ↓zs_122_11, ↓zs_122_13, ↓zs_122_14, ↓zs_122_15, ↓zs_122_18, ↓zs_122_19, ↓zs_122_22, ↓zs_122_25, ↓zs_122_26, ↓zs_122_28, ↓zs_122_31, ↓zs_122_34, ↓zs_122_35, ↓zs_122_38, ↓zs_122_39, ↓zs_122_42, ↓zs_122_43, ↓zs_122_46, ↓zs_122_49, ↓zs_122_50, ↓zs_122_51, ↓zs_122_52, ↓zs_122_55, ↓zs_122_56, ↓zs_122_59, ↓zs_122_62, ↓zs_122_63, ↓zs_122_66, ↓zs_122_69, ↓zs_122_70, zx_pu_s, zx_pu_n, zx_rv_s, zx_rv_n, true_and, and_true, true_or, or_true, zb_0, zb_1, zq_lcl, zq_lcg, zq_lce, eq_self, ite_true, ite_false, zk_0, zw_0, zk_1, zw_1, zq_0_0, zq_0_1, zq_0_2, zq_0_3, zq_0_4, zq_0_5, zq_0_6, zq_0_7, zq_0_8, zq_0_9, zq_0_10, zq_0_11, zq_1_0, zq_1_1, zq_1_2, zq_1_3, zq_1_4, zq_1_5, zk_19, zw_19, zq_19_0, zq_19_1, zq_19_2, zn_10, zn_40, zn_040, zn_340, nI_add, zin_nI, nI_clamp, nI_ltI, nI_eq, pk_mul, nI_1, Nat.lt_irrefl, hlt, hof, q2]
        | false =>
          have q2 := of_decide_eq_false q
          obtain ⟨I3, f3, r3, h3⟩ := sc_nightN (Lh := Lh) (n := n) zx_st19 v.2.1 (by omega) v.2.2.1 f r
          obtain ⟨I4, f4, h4⟩ := ih (n + 1) I3 (by omega) f3 r3
          refine ⟨I4, f4, fun d P => ?_⟩
          rw [if_neg (by decide), ← h4 d P, zs_122_27]
          simp (disch := omega) only [↓zs_122_0, ↓zs_122_1, ↓zs_122_4, ↓zs_122_5, ↓zs_122_8, ↓zs_122_11, ↓zs_122_13, ↓zs_122_14, ↓zs_122_15, ↓zs_122_18, ↓zs_122_19, ↓zs_122_22, ↓zs_122_25, ↓zs_122_26, ↓zs_122_28, ↓zs_122_31, ↓zs_122_34, ↓zs_122_35, ↓zs_122_38, ↓zs_122_39, ↓zs_122_42, ↓zs_122_43, ↓zs_122_46, ↓zs_122_49, ↓zs_122_50, ↓zs_122_51, ↓zs_122_52, ↓zs_122_55, ↓zs_122_56, ↓zs_122_59, ↓zs_122_62, ↓zs_122_63, ↓zs_122_66, ↓zs_122_69, ↓zs_122_70, zx_pu_s, zx_pu_n, zx_rv_s, zx_rv_n, true_and, and_true, true_or, or_true, zb_0, zb_1, zq_lcl, zq_lcg, zq_lce, eq_self, ite_true, ite_false, zk_0, zw_0, zk_1, zw_1, zq_0_0, zq_0_1, zq_0_2, zq_0_3, zq_0_4, zq_0_5, zq_0_6, zq_0_7, zq_0_8, zq_0_9, zq_0_10, zq_0_11, zq_1_0, zq_1_1, zq_1_2, zq_1_3, zq_1_4, zq_1_5, zk_19, zw_19, zq_19_0, zq_19_1, zq_19_2, zn_10, zn_40, zn_040, zn_340, nI_add, zin_nI, nI_clamp, nI_ltI, nI_eq, pk_mul, nI_1, Nat.lt_irrefl, hlt, hof, q2, h3]
    obtain ⟨I3, f3, h3⟩ := loop 201 0 I1 rfl f1 (r1 _ v.2.2.2.1)
    refine ⟨I3, J, zScr_c f3 (by omega), fun d P => ?_⟩
    rw [ze_122]
    simp (disch := omega) only [↓zs_122_0, ↓zs_122_1, ↓zs_122_4, ↓zs_122_5, ↓zs_122_8, ↓zs_122_11, ↓zs_122_13, ↓zs_122_14, ↓zs_122_15, ↓zs_122_18, ↓zs_122_19, ↓zs_122_22, ↓zs_122_25, ↓zs_122_26, zx_pu_s, zx_pu_n, zx_rv_s, zx_rv_n, true_and, and_true, true_or, or_true, zb_0, zb_1, zq_lcl, zq_lcg, zq_lce, eq_self, ite_true, ite_false, zk_0, zw_0, zk_1, zw_1, zq_0_0, zq_0_1, zq_0_2, zq_0_3, zq_0_4, zq_0_5, zq_0_6, zq_0_7, zq_0_8, zq_0_9, zq_0_10, zq_0_11, zq_1_0, zq_1_1, zq_1_2, zq_1_3, zq_1_4, zq_1_5, zk_11, zw_11, zq_11_0, zq_11_1, zq_11_2, zk_19, zw_19, zq_19_0, zq_19_1, zq_19_2, h1, c, zB_0, reduceCtorEq, hb]
    exact h3 d P
  · rw [if_neg c]
    rw [Bool.not_eq_true] at c
    refine ⟨I, J, zScr_r I J, fun d P => ?_⟩
    rw [ze_122]
    simp (disch := omega) only [↓zs_122_0, ↓zs_122_1, ↓zs_122_4, ↓zs_122_5, ↓zs_122_8, ↓zs_122_11, ↓zs_122_13, ↓zs_122_14, ↓zs_122_15, ↓zs_122_18, ↓zs_122_19, ↓zs_122_22, ↓zs_122_25, ↓zs_122_26, zx_pu_s, zx_pu_n, zx_rv_s, zx_rv_n, true_and, and_true, true_or, or_true, zb_0, zb_1, zq_lcl, zq_lcg, zq_lce, eq_self, ite_true, ite_false, zk_0, zw_0, zk_1, zw_1, zq_0_0, zq_0_1, zq_0_2, zq_0_3, zq_0_4, zq_0_5, zq_0_6, zq_0_7, zq_0_8, zq_0_9, zq_0_10, zq_0_11, zq_1_0, zq_1_1, zq_1_2, zq_1_3, zq_1_4, zq_1_5, h1, c, zB_0, reduceCtorEq]
theorem m_facing (hm : m < 2 ^ 29) (x : Int32) : zMq Lh 234 [.int x] (fun B => .int (zf_facing x B)) m := by
  intro I J v
  obtain ⟨⟨hw, hh, hN⟩, gr, g, ex, ok, N8, wh⟩ := zInv_k v
  have ok2 : zM_ok (zx_u I 138 0 (nI 0) 139) (zw (I 139)) (zh (I 139)) (zn (I 139)) := by rw [zu_139]; exact ok
  have h2 := fun d P => sp_isStatue (d := d) (Lh := Lh) (J := J) (P := P) x.toInt64 ok2.1.2.2.1 N8
  rw [Int32.toInt_toInt64] at h2
  unfold zf_facing
  dsimp only
  by_cases c : zf_in x.toInt (zn (I 139)) = true
  · have e := zq_toI (x := x) rfl c (by omega)
    have hs : x.toInt.toNat < 8 := by have := zf_inP.mp c; omega
    rw [if_pos c]
    generalize x.toInt.toNat = s at e hs
    subst e
    obtain ⟨I1, f1, f1', g1, hb⟩ := sp_begin (Lh := Lh) (J := J) (I 139) rfl
    have loop : ∀ mm n I2, n + mm = 201 → zFm I1 I2 → I2 139 = zf_ni (I 139) n → ∃ I3 n', zFm I1 I3 ∧ zSm (I 139) (I3 139) ∧ ∀ d P, zx_wp (d + 30) 234 25 [.ref 138, .int (nI s), .int (-1), .int (nI n)] [] (zx_LL Lh) I2 J P = zx_wp (d + 30) 234 58 [.ref 138, .int (nI s), .int (zf_first (zf_facP (I 139) s) mm n), .int (nI n')] [] (zx_LL Lh) I3 J P := by
      intro mm
      induction mm with
      | zero =>
        intro n I2 hn f r
        have hlt : 200 < n := by omega
        refine ⟨I2, n, f, by rw [r]; exact (zf_ni_ok v.2.1 n (by omega)).2.2.2, fun d P => ?_⟩
        rw [zs_234_25]
        simp (disch := omega) only [↓zs_234_26, ↓zs_234_29, ↓zs_234_32, ↓zs_234_33, ↓zs_234_34, ↓zs_234_37, ↓zs_234_38, ↓zs_234_39, ↓zs_234_42, ↓zs_234_45, ↓zs_234_46, ↓zs_234_47, ↓zs_234_48, ↓zs_234_51, ↓zs_234_52, ↓zs_234_55, zx_pu_s, zx_pu_n, zx_rv_s, zx_rv_n, true_and, and_true, true_or, or_true, zb_0, zb_1, zq_lcl, zq_lcg, zq_lce, eq_self, ite_true, ite_false, zk_138, zw_138, zk_139, zw_139, zk_140, zw_140, zk_141, zw_141, zk_142, zw_142, zk_143, zw_143, zk_144, zw_144, zk_145, zw_145, zk_146, zw_146, zk_147, zw_147, zk_148, zw_148, zk_149, zw_149, zk_150, zw_150, zk_151, zw_151, zk_152, zw_152, zq_138_1, zq_138_2, zq_138_3, zq_138_4, zq_138_16, zq_138_19, zq_138_20, zq_138_24, zq_138_25, zq_138_26, zq_138_27, zq_138_31, zq_138_32, zq_138_33, zn_10, zn_40, zn_040, zn_340, nI_add, zin_nI, nI_clamp, nI_ltI, nI_eq, pk_mul, nI_1, Nat.lt_irrefl, hlt]
        rfl
      | succ mm ih =>
        intro n I2 hn f r
        have hlt : ¬ 200 < n := by omega
        obtain ⟨okn, -, -, sn⟩ := zf_ni_ok v.2.1 n (by omega)
        have hof := fun d P => sp_offOf (d := d) (Lh := Lh) (I := I2) (J := J) (P := P) hs (by rw [r]; exact okn)
        rw [r] at hof
        obtain ⟨I3, f3, r3, -, -, h3⟩ := sp_nightN (Lh := Lh) (J := J) (n := n) v.2.1 (by omega) f r
        rw [zf_first]
        cases q : zf_facP (I 139) s n with
        | true =>
          have q2 := of_decide_eq_true q
          refine ⟨I3, n + 1, f3, by rw [r3]; exact (zf_ni_ok v.2.1 (n + 1) (by omega)).2.2.2, fun d P => ?_⟩
          rw [zs_234_25, if_pos rfl]
          simp (disch := omega) only [↓zs_234_26, ↓zs_234_29, ↓zs_234_32, ↓zs_234_33, ↓zs_234_34, ↓zs_234_37, ↓zs_234_38, ↓zs_234_39, ↓zs_234_42, ↓zs_234_45, ↓zs_234_46, ↓zs_234_47, ↓zs_234_48, ↓zs_234_51, ↓zs_234_52, ↓zs_234_55, zx_pu_s, zx_pu_n, zx_rv_s, zx_rv_n, true_and, and_true, true_or, or_true, zb_0, zb_1, zq_lcl, zq_lcg, zq_lce, eq_self, ite_true, ite_false, zk_138, zw_138, zk_139, zw_139, zk_140, zw_140, zk_141, zw_141, zk_142, zw_142, zk_143, zw_143, zk_144, zw_144, zk_145, zw_145, zk_146, zw_146, zk_147, zw_147, zk_148, zw_148, zk_149, zw_149, zk_150, zw_150, zk_151, zw_151, zk_152, zw_152, zq_138_1, zq_138_2, zq_138_3, zq_138_4, zq_138_16, zq_138_19, zq_138_20, zq_138_24, zq_138_25, zq_138_26, zq_138_27, zq_138_31, zq_138_32, zq_138_33, zn_10, zn_40, zn_040, zn_340, nI_add, zin_nI, nI_clamp, nI_ltI, nI_eq, pk_mul, nI_1, Nat.lt_irrefl, hlt, hof, q2, h3]
          rw [zs_234_25]
          by_cases h9 : 200 < n + 1
          · simp (disch := omega) only [↓zs_234_26, ↓zs_234_29, ↓zs_234_32, ↓zs_234_33, ↓zs_234_34, ↓zs_234_37, ↓zs_234_38, ↓zs_234_39, ↓zs_234_42, ↓zs_234_45, ↓zs_234_46, ↓zs_234_47, ↓zs_234_48, ↓zs_234_51, ↓zs_234_52, ↓zs_234_55, zx_pu_s, zx_pu_n, zx_rv_s, zx_rv_n, true_and, and_true, true_or, or_true, zb_0, zb_1, zq_lcl, zq_lcg, zq_lce, eq_self, ite_true, ite_false, zk_138, zw_138, zk_139, zw_139, zk_140, zw_140, zk_141, zw_141, zk_142, zw_142, zk_143, zw_143, zk_144, zw_144, zk_145, zw_145, zk_146, zw_146, zk_147, zw_147, zk_148, zw_148, zk_149, zw_149, zk_150, zw_150, zk_151, zw_151, zk_152, zw_152, zq_138_1, zq_138_2, zq_138_3, zq_138_4, zq_138_16, zq_138_19, zq_138_20, zq_138_24, zq_138_25, zq_138_26, zq_138_27, zq_138_31, zq_138_32, zq_138_33, zn_10, zn_40, zn_040, zn_340, nI_add, zin_nI, nI_clamp, nI_ltI, nI_eq, pk_mul, nI_1, Nat.lt_irrefl, h9]
          · simp (disch := omega) only [↓zs_234_26, ↓zs_234_29, ↓zs_234_32, ↓zs_234_33, ↓zs_234_34, ↓zs_234_37, ↓zs_234_38, ↓zs_234_39, ↓zs_234_42, ↓zs_234_45, ↓zs_234_46, ↓zs_234_47, ↓zs_234_48, ↓zs_234_51, ↓zs_234_52, ↓zs_234_55, zx_pu_s, zx_pu_n, zx_rv_s, zx_rv_n, true_and, and_true, true_or, or_true, zb_0, zb_1, zq_lcl, zq_lcg, zq_lce, eq_self, ite_true, ite_false, zk_138, zw_138, zk_139, zw_139, zk_140, zw_140, zk_141, zw_141, zk_142, zw_142, zk_143, zw_143, zk_144, zw_144, zk_145, zw_145, zk_146, zw_146, zk_147, zw_147, zk_148, zw_148, zk_149, zw_149, zk_150, zw_150, zk_151, zw_151, zk_152, zw_152, zq_138_1, zq_138_2, zq_138_3, zq_138_4, zq_138_16, zq_138_19, zq_138_20, zq_138_24, zq_138_25, zq_138_26, zq_138_27, zq_138_31, zq_138_32, zq_138_33, zn_10, zn_40, zn_040, zn_340, nI_add, zin_nI, nI_clamp, nI_ltI, nI_eq, pk_mul, nI_1, Nat.lt_irrefl, h9, zq_m1]
        | false =>
          have q2 := of_decide_eq_false q
          obtain ⟨I4, n', f4, s4, h4⟩ := ih (n + 1) I3 (by omega) f3 r3
          refine ⟨I4, n', f4, s4, fun d P => ?_⟩
          rw [if_neg (by decide), ← h4 d P, zs_234_25]
          simp (disch := omega) only [↓zs_234_26, ↓zs_234_29, ↓zs_234_32, ↓zs_234_33, ↓zs_234_34, ↓zs_234_37, ↓zs_234_38, ↓zs_234_39, ↓zs_234_42, ↓zs_234_45, ↓zs_234_46, ↓zs_234_47, ↓zs_234_48, ↓zs_234_51, ↓zs_234_52, ↓zs_234_55, zx_pu_s, zx_pu_n, zx_rv_s, zx_rv_n, true_and, and_true, true_or, or_true, zb_0, zb_1, zq_lcl, zq_lcg, zq_lce, eq_self, ite_true, ite_false, zk_138, zw_138, zk_139, zw_139, zk_140, zw_140, zk_141, zw_141, zk_142, zw_142, zk_143, zw_143, zk_144, zw_144, zk_145, zw_145, zk_146, zw_146, zk_147, zw_147, zk_148, zw_148, zk_149, zw_149, zk_150, zw_150, zk_151, zw_151, zk_152, zw_152, zq_138_1, zq_138_2, zq_138_3, zq_138_4, zq_138_16, zq_138_19, zq_138_20, zq_138_24, zq_138_25, zq_138_26, zq_138_27, zq_138_31, zq_138_32, zq_138_33, zn_10, zn_40, zn_040, zn_340, nI_add, zin_nI, nI_clamp, nI_ltI, nI_eq, pk_mul, nI_1, Nat.lt_irrefl, hlt, hof, q2, h3]
    obtain ⟨I3, n', f3, s3, h3⟩ := loop 201 0 I1 rfl (zFm_r I1) (f1 139 (by decide) (by decide))
    obtain ⟨he, hscr⟩ := sp_end (Lh := Lh) (J := J) rfl f1 f1' g1 f3 s3
    refine ⟨_, J, hscr, fun d P => ?_⟩
    rw [ze_234]
    simp (disch := omega) only [↓zs_234_0, ↓zs_234_1, ↓zs_234_2, ↓zs_234_5, ↓zs_234_6, ↓zs_234_7, ↓zs_234_8, ↓zs_234_11, ↓zs_234_14, ↓zs_234_16, ↓zs_234_17, ↓zs_234_18, ↓zs_234_21, ↓zs_234_22, ↓zs_234_23, ↓zs_234_24, zx_pu_s, zx_pu_n, zx_rv_s, zx_rv_n, true_and, and_true, true_or, or_true, zb_0, zb_1, zq_lcl, zq_lcg, zq_lce, eq_self, ite_true, ite_false, zk_138, zw_138, zk_139, zw_139, zk_140, zw_140, zk_141, zw_141, zk_142, zw_142, zk_143, zw_143, zk_144, zw_144, zk_145, zw_145, zk_146, zw_146, zk_147, zw_147, zk_148, zw_148, zk_149, zw_149, zk_150, zw_150, zk_151, zw_151, zk_152, zw_152, zq_138_1, zq_138_2, zq_138_3, zq_138_4, zq_138_16, zq_138_19, zq_138_20, zq_138_24, zq_138_25, zq_138_26, zq_138_27, zq_138_31, zq_138_32, zq_138_33, h2, c, zB_0, reduceCtorEq, hb]
    rw [h3]
    simp (disch := omega) only [↓zs_234_58, ↓zs_234_59, ↓zs_234_62, ↓zs_234_63, zx_pu_s, zx_pu_n, zx_rv_s, zx_rv_n, true_and, and_true, true_or, or_true, zb_0, zb_1, zq_lcl, zq_lcg, zq_lce, eq_self, ite_true, ite_false, zk_138, zw_138, zk_139, zw_139, zk_140, zw_140, zk_141, zw_141, zk_142, zw_142, zk_143, zw_143, zk_144, zw_144, zk_145, zw_145, zk_146, zw_146, zk_147, zw_147, zk_148, zw_148, zk_149, zw_149, zk_150, zw_150, zk_151, zw_151, zk_152, zw_152, zq_138_1, zq_138_2, zq_138_3, zq_138_4, zq_138_16, zq_138_19, zq_138_20, zq_138_24, zq_138_25, zq_138_26, zq_138_27, zq_138_31, zq_138_32, zq_138_33, he]
  · rw [if_neg c]
    rw [Bool.not_eq_true] at c
    refine ⟨zx_u I 138 0 (nI 0), J, zScr_s (zFs_0 _ _), fun d P => ?_⟩
    rw [ze_234]
    simp (disch := omega) only [↓zs_234_0, ↓zs_234_1, ↓zs_234_2, ↓zs_234_5, ↓zs_234_6, ↓zs_234_7, ↓zs_234_8, ↓zs_234_11, ↓zs_234_14, ↓zs_234_16, ↓zs_234_17, ↓zs_234_18, ↓zs_234_21, ↓zs_234_22, ↓zs_234_23, ↓zs_234_24, zx_pu_s, zx_pu_n, zx_rv_s, zx_rv_n, true_and, and_true, true_or, or_true, zb_0, zb_1, zq_lcl, zq_lcg, zq_lce, eq_self, ite_true, ite_false, zk_138, zw_138, zk_139, zw_139, zk_140, zw_140, zk_141, zw_141, zk_142, zw_142, zk_143, zw_143, zk_144, zw_144, zk_145, zw_145, zk_146, zw_146, zk_147, zw_147, zk_148, zw_148, zk_149, zw_149, zk_150, zw_150, zk_151, zw_151, zk_152, zw_152, zq_138_1, zq_138_2, zq_138_3, zq_138_4, zq_138_16, zq_138_19, zq_138_20, zq_138_24, zq_138_25, zq_138_26, zq_138_27, zq_138_31, zq_138_32, zq_138_33, h2, c, zB_0, reduceCtorEq]
/-- a STONE is FREE in n NIGHTS -/
def zf_freeP (B : Nat → Int32) (k n : Nat) : Bool := decide (zf_wat (zf_ni B n) (zw B) (zh B) (zn B) k = 0)
def zf_freeIn (x : Int32) (B : Nat → Int32) : Int32 := if zf_in x.toInt (zw B * zh B) = true then zf_first (zf_freeP B x.toInt.toNat) 201 0 else -2
theorem c_freeIn (hm : m < 2 ^ 29) (x : Int32) : zCq Lh 131 [.int x] (fun B => .int (zf_freeIn x B)) m := by
  intro I J v
  obtain ⟨⟨hw, hh, hN⟩, gr, g, ex, ok, N8, wh⟩ := zInv_k v
  have h1 := fun d P => sc_hasStone (d := d) (Lh := Lh) (I := I) (J := J) (P := P) zx_sq1 x hw hh wh
  unfold zf_freeIn
  dsimp only
  by_cases c : zf_in x.toInt (zw (I 139) * zh (I 139)) = true
  · have e := zq_toI (x := x) rfl c (by omega)
    have hs : x.toInt.toNat < 64 := by have := zf_inP.mp c; omega
    rw [if_pos c]
    generalize x.toInt.toNat = s at e hs
    subst e
    obtain ⟨I1, f1, -, r1, hb⟩ := sc_become (Lh := Lh) (I := I) (J := J) zx_st19 zx_st11 (by decide)
    have loop : ∀ mm n I2, n + mm = 201 → zFc 19 I I2 → zR_st I2 19 (zf_ni (I 139) n) → ∃ I3, zFc 19 I I3 ∧ ∀ d P, zx_wp (d + 30) 131 27 [.ref 0, .int (nI s), .int (nI n)] [] (zx_LL Lh) I2 J P = P (some (.int (zf_first (zf_freeP (I 139) s) mm n))) (zx_LL Lh) I3 J := by
      intro mm
      induction mm with
      | zero =>
        intro n I2 hn f r
        have hlt : 200 < n := by omega
        refine ⟨I2, f, fun d P => ?_⟩
        rw [zs_131_27]
        simp (disch := omega) only [↓zs_131_0, ↓zs_131_1, ↓zs_131_4, ↓zs_131_5, ↓zs_131_8, ↓zs_131_11, ↓zs_131_13, ↓zs_131_14, ↓zs_131_15, ↓zs_131_18, ↓zs_131_19, ↓zs_131_22, ↓zs_131_25, ↓zs_131_26, ↓zs_131_28, ↓zs_131_31, ↓zs_131_34, ↓zs_131_35, ↓zs_131_38, ↓zs_131_39, ↓zs_131_42, ↓zs_131_43, ↓zs_131_46, ↓zs_131_49, ↓zs_131_50, ↓zs_131_51, ↓zs_131_52, ↓zs_131_55, ↓zs_131_56, ↓zs_131_59, ↓zs_131_62, ↓zs_131_63, ↓zs_131_66, ↓zs_131_69, ↓zs_131_70, zx_pu_s, zx_pu_n, zx_rv_s, zx_rv_n, true_and, and_true, true_or, or_true, zb_0, zb_1, zq_lcl, zq_lcg, zq_lce, eq_self, ite_true, ite_false, zk_0, zw_0, zk_1, zw_1, zq_0_0, zq_0_1, zq_0_2, zq_0_3, zq_0_4, zq_0_5, zq_0_6, zq_0_7, zq_0_8, zq_0_9, zq_0_10, zq_0_11, zq_1_0, zq_1_1, zq_1_2, zq_1_3, zq_1_4, zq_1_5, zk_19, zw_19, zq_19_0, zq_19_1, zq_19_2, zn_10, zn_40, zn_040, zn_340, nI_add, zin_nI, nI_clamp, nI_ltI, nI_eq, pk_mul, nI_1, Nat.lt_irrefl, hlt]
        rfl
      | succ mm ih =>
        intro n I2 hn f r
        have hlt : ¬ 200 < n := by omega
        obtain ⟨okn, gn, -, sn⟩ := zf_ni_ok v.2.1 n (by omega)
        have hof := fun d P => sc_watch (d := d) (Lh := Lh) (J := J) (P := P) zx_sq1 zx_st19 (zFc_si zx_st19 f v.1) ((f 1 6 (by omega)).trans hw) ((f 1 7 (by omega)).trans hh) ((f 1 8 (by omega)).trans hN) (zR_ground_s sn gr) gn r okn hs
        have hl : zf_wat (zf_ni (I 139) n) (zw (I 139)) (zh (I 139)) (zn (I 139)) s < 2 ^ 8 := zf_bs_lt _ (by omega) (by decide)
        rw [zf_first]
        cases q : zf_freeP (I 139) s n with
        | true =>
          have q2 := of_decide_eq_true q
          refine ⟨I2, f, fun d P => ?_⟩
          rw [zs_131_27, if_pos rfl]
          simp (disch := omega) only [↓zs_131_0, ↓zs_131_1, ↓zs_131_4, ↓zs_131_5, ↓zs_131_8, ↓zs_131_11, ↓zs_131_13, ↓zs_131_14, ↓zs_131_15, ↓zs_131_18, ↓zs_131_19, ↓zs_131_22, ↓zs_131_25, ↓zs_131_26, ↓zs_131_28, ↓zs_131_31, ↓zs_131_34, ↓zs_131_35, ↓zs_131_38, ↓zs_131_39, ↓zs_131_42, ↓zs_131_43, ↓zs_131_46, ↓zs_131_49, ↓zs_131_50, ↓zs_131_51, ↓zs_131_52, ↓zs_131_55, ↓zs_131_56, ↓zs_131_59, ↓zs_131_62, ↓zs_131_63, ↓zs_131_66, ↓zs_131_69, ↓zs_131_70, zx_pu_s, zx_pu_n, zx_rv_s, zx_rv_n, true_and, and_true, true_or, or_true, zb_0, zb_1, zq_lcl, zq_lcg, zq_lce, eq_self, ite_true, ite_false, zk_0, zw_0, zk_1, zw_1, zq_0_0, zq_0_1, zq_0_2, zq_0_3, zq_0_4, zq_0_5, zq_0_6, zq_0_7, zq_0_8, zq_0_9, zq_0_10, zq_0_11, zq_1_0, zq_1_1, zq_1_2, zq_1_3, zq_1_4, zq_1_5, zk_19, zw_19, zq_19_0, zq_19_1, zq_19_2, zn_10, zn_40, zn_040, zn_340, nI_add, zin_nI, nI_clamp, nI_ltI, nI_eq, pk_mul, nI_1, Nat.lt_irrefl, hlt, hof, q2]
        | false =>
          have q2 := of_decide_eq_false q
          obtain ⟨I3, f3, r3, h3⟩ := sc_nightN (Lh := Lh) (n := n) zx_st19 v.2.1 (by omega) v.2.2.1 f r
          obtain ⟨I4, f4, h4⟩ := ih (n + 1) I3 (by omega) f3 r3
          refine ⟨I4, f4, fun d P => ?_⟩
          rw [if_neg (by decide), ← h4 d P, zs_131_27]
          simp (disch := omega) only [↓zs_131_0, ↓zs_131_1, ↓zs_131_4, ↓zs_131_5, ↓zs_131_8, ↓zs_131_11, ↓zs_131_13, ↓zs_131_14, ↓zs_131_15, ↓zs_131_18, ↓zs_131_19, ↓zs_131_22, ↓zs_131_25, ↓zs_131_26, ↓zs_131_28, ↓zs_131_31, ↓zs_131_34, ↓zs_131_35, ↓zs_131_38, ↓zs_131_39, ↓zs_131_42, ↓zs_131_43, ↓zs_131_46, ↓zs_131_49, ↓zs_131_50, ↓zs_131_51, ↓zs_131_52, ↓zs_131_55, ↓zs_131_56, ↓zs_131_59, ↓zs_131_62, ↓zs_131_63, ↓zs_131_66, ↓zs_131_69, ↓zs_131_70, zx_pu_s, zx_pu_n, zx_rv_s, zx_rv_n, true_and, and_true, true_or, or_true, zb_0, zb_1, zq_lcl, zq_lcg, zq_lce, eq_self, ite_true, ite_false, zk_0, zw_0, zk_1, zw_1, zq_0_0, zq_0_1, zq_0_2, zq_0_3, zq_0_4, zq_0_5, zq_0_6, zq_0_7, zq_0_8, zq_0_9, zq_0_10, zq_0_11, zq_1_0, zq_1_1, zq_1_2, zq_1_3, zq_1_4, zq_1_5, zk_19, zw_19, zq_19_0, zq_19_1, zq_19_2, zn_10, zn_40, zn_040, zn_340, nI_add, zin_nI, nI_clamp, nI_ltI, nI_eq, pk_mul, nI_1, Nat.lt_irrefl, hlt, hof, q2, h3]
    obtain ⟨I3, f3, h3⟩ := loop 201 0 I1 rfl f1 (r1 _ v.2.2.2.1)
    refine ⟨I3, J, zScr_c f3 (by omega), fun d P => ?_⟩
    rw [ze_131]
    simp (disch := omega) only [↓zs_131_0, ↓zs_131_1, ↓zs_131_4, ↓zs_131_5, ↓zs_131_8, ↓zs_131_11, ↓zs_131_13, ↓zs_131_14, ↓zs_131_15, ↓zs_131_18, ↓zs_131_19, ↓zs_131_22, ↓zs_131_25, ↓zs_131_26, zx_pu_s, zx_pu_n, zx_rv_s, zx_rv_n, true_and, and_true, true_or, or_true, zb_0, zb_1, zq_lcl, zq_lcg, zq_lce, eq_self, ite_true, ite_false, zk_0, zw_0, zk_1, zw_1, zq_0_0, zq_0_1, zq_0_2, zq_0_3, zq_0_4, zq_0_5, zq_0_6, zq_0_7, zq_0_8, zq_0_9, zq_0_10, zq_0_11, zq_1_0, zq_1_1, zq_1_2, zq_1_3, zq_1_4, zq_1_5, zk_11, zw_11, zq_11_0, zq_11_1, zq_11_2, zk_19, zw_19, zq_19_0, zq_19_1, zq_19_2, h1, c, zB_0, reduceCtorEq, hb]
    exact h3 d P
  · rw [if_neg c]
    rw [Bool.not_eq_true] at c
    refine ⟨I, J, zScr_r I J, fun d P => ?_⟩
    rw [ze_131]
    simp (disch := omega) only [↓zs_131_0, ↓zs_131_1, ↓zs_131_4, ↓zs_131_5, ↓zs_131_8, ↓zs_131_11, ↓zs_131_13, ↓zs_131_14, ↓zs_131_15, ↓zs_131_18, ↓zs_131_19, ↓zs_131_22, ↓zs_131_25, ↓zs_131_26, zx_pu_s, zx_pu_n, zx_rv_s, zx_rv_n, true_and, and_true, true_or, or_true, zb_0, zb_1, zq_lcl, zq_lcg, zq_lce, eq_self, ite_true, ite_false, zk_0, zw_0, zk_1, zw_1, zq_0_0, zq_0_1, zq_0_2, zq_0_3, zq_0_4, zq_0_5, zq_0_6, zq_0_7, zq_0_8, zq_0_9, zq_0_10, zq_0_11, zq_1_0, zq_1_1, zq_1_2, zq_1_3, zq_1_4, zq_1_5, h1, c, zB_0, reduceCtorEq]
theorem m_freeIn (hm : m < 2 ^ 29) (x : Int32) : zMq Lh 251 [.int x] (fun B => .int (zf_freeIn x B)) m := by
  intro I J v
  obtain ⟨⟨hw, hh, hN⟩, gr, g, ex, ok, N8, wh⟩ := zInv_k v
  have ok2 : zM_ok (zx_u I 138 0 (nI 0) 139) (zw (I 139)) (zh (I 139)) (zn (I 139)) := by rw [zu_139]; exact ok
  have h2 := fun d P => sp_isStone (d := d) (Lh := Lh) (J := J) (P := P) x.toInt64 ok2.1.1 ok2.1.2.1 (by omega)
  rw [Int32.toInt_toInt64] at h2
  unfold zf_freeIn
  dsimp only
  by_cases c : zf_in x.toInt (zw (I 139) * zh (I 139)) = true
  · have e := zq_toI (x := x) rfl c (by omega)
    have hs : x.toInt.toNat < 64 := by have := zf_inP.mp c; omega
    rw [if_pos c]
    generalize x.toInt.toNat = s at e hs
    subst e
    obtain ⟨I1, f1, f1', g1, hb⟩ := sp_begin (Lh := Lh) (J := J) (I 139) rfl
    have loop : ∀ mm n I2, n + mm = 201 → zx_SI I2 → zFm I1 I2 → I2 139 = zf_ni (I 139) n → ∃ I3 n', zFm I1 I3 ∧ zSm (I 139) (I3 139) ∧ ∀ d P, zx_wp (d + 30) 251 25 [.ref 138, .int (nI s), .int (-1), .int (nI n)] [] (zx_LL Lh) I2 J P = zx_wp (d + 30) 251 58 [.ref 138, .int (nI s), .int (zf_first (zf_freeP (I 139) s) mm n), .int (nI n')] [] (zx_LL Lh) I3 J P := by
      intro mm
      induction mm with
      | zero =>
        intro n I2 hn si f r
        have hlt : 200 < n := by omega
        refine ⟨I2, n, f, by rw [r]; exact (zf_ni_ok v.2.1 n (by omega)).2.2.2, fun d P => ?_⟩
        rw [zs_251_25]
        simp (disch := omega) only [↓zs_251_26, ↓zs_251_29, ↓zs_251_32, ↓zs_251_33, ↓zs_251_34, ↓zs_251_37, ↓zs_251_38, ↓zs_251_39, ↓zs_251_42, ↓zs_251_45, ↓zs_251_46, ↓zs_251_47, ↓zs_251_48, ↓zs_251_51, ↓zs_251_52, ↓zs_251_55, zx_pu_s, zx_pu_n, zx_rv_s, zx_rv_n, true_and, and_true, true_or, or_true, zb_0, zb_1, zq_lcl, zq_lcg, zq_lce, eq_self, ite_true, ite_false, zk_138, zw_138, zk_139, zw_139, zk_140, zw_140, zk_141, zw_141, zk_142, zw_142, zk_143, zw_143, zk_144, zw_144, zk_145, zw_145, zk_146, zw_146, zk_147, zw_147, zk_148, zw_148, zk_149, zw_149, zk_150, zw_150, zk_151, zw_151, zk_152, zw_152, zq_138_1, zq_138_2, zq_138_3, zq_138_4, zq_138_16, zq_138_19, zq_138_20, zq_138_24, zq_138_25, zq_138_26, zq_138_27, zq_138_31, zq_138_32, zq_138_33, zn_10, zn_40, zn_040, zn_340, nI_add, zin_nI, nI_clamp, nI_ltI, nI_eq, pk_mul, nI_1, Nat.lt_irrefl, hlt]
        rfl
      | succ mm ih =>
        intro n I2 hn si f r
        have hlt : ¬ 200 < n := by omega
        obtain ⟨okn, -, -, sn⟩ := zf_ni_ok v.2.1 n (by omega)
        obtain ⟨I5, f5, hof⟩ := sp_isFree (Lh := Lh) (J := J) (k := s) si (by rw [r]; exact okn) hs
        rw [r, zf_wat_0, Bool.not_not] at hof
        have r5 : I5 139 = zf_ni (I 139) n := (zFs_139 f5).trans r
        obtain ⟨I3, f3, r3, -, -, h3⟩ := sp_nightN (Lh := Lh) (J := J) (n := n) v.2.1 (by omega) (zFm_t f (zFs_m f5)) r5
        have q1 : decide (zf_wat (zf_ni (I 139) n) (zw (I 139)) (zh (I 139)) (zn (I 139)) s = 0) = zf_freeP (I 139) s n := rfl
        rw [q1] at hof
        have si3 : zx_SI I3 := by
          have si1 : zx_SI I1 := fun a j ha => by rw [f1 a (by omega) (by omega)]; exact v.1 a j ha
          exact zFm_si f3 si1
        rw [zf_first]
        cases q : zf_freeP (I 139) s n with
        | true =>
          refine ⟨I3, n + 1, f3, by rw [r3]; exact (zf_ni_ok v.2.1 (n + 1) (by omega)).2.2.2, fun d P => ?_⟩
          rw [zs_251_25, if_pos rfl]
          simp (disch := omega) only [↓zs_251_26, ↓zs_251_29, ↓zs_251_32, ↓zs_251_33, ↓zs_251_34, ↓zs_251_37, ↓zs_251_38, ↓zs_251_39, ↓zs_251_42, ↓zs_251_45, ↓zs_251_46, ↓zs_251_47, ↓zs_251_48, ↓zs_251_51, ↓zs_251_52, ↓zs_251_55, zx_pu_s, zx_pu_n, zx_rv_s, zx_rv_n, true_and, and_true, true_or, or_true, zb_0, zb_1, zq_lcl, zq_lcg, zq_lce, eq_self, ite_true, ite_false, zk_138, zw_138, zk_139, zw_139, zk_140, zw_140, zk_141, zw_141, zk_142, zw_142, zk_143, zw_143, zk_144, zw_144, zk_145, zw_145, zk_146, zw_146, zk_147, zw_147, zk_148, zw_148, zk_149, zw_149, zk_150, zw_150, zk_151, zw_151, zk_152, zw_152, zq_138_1, zq_138_2, zq_138_3, zq_138_4, zq_138_16, zq_138_19, zq_138_20, zq_138_24, zq_138_25, zq_138_26, zq_138_27, zq_138_31, zq_138_32, zq_138_33, zn_10, zn_40, zn_040, zn_340, nI_add, zin_nI, nI_clamp, nI_ltI, nI_eq, pk_mul, nI_1, Nat.lt_irrefl, hlt, hof, q, zB_0, reduceCtorEq, h3]
          rw [zs_251_25]
          by_cases h9 : 200 < n + 1
          · simp (disch := omega) only [↓zs_251_26, ↓zs_251_29, ↓zs_251_32, ↓zs_251_33, ↓zs_251_34, ↓zs_251_37, ↓zs_251_38, ↓zs_251_39, ↓zs_251_42, ↓zs_251_45, ↓zs_251_46, ↓zs_251_47, ↓zs_251_48, ↓zs_251_51, ↓zs_251_52, ↓zs_251_55, zx_pu_s, zx_pu_n, zx_rv_s, zx_rv_n, true_and, and_true, true_or, or_true, zb_0, zb_1, zq_lcl, zq_lcg, zq_lce, eq_self, ite_true, ite_false, zk_138, zw_138, zk_139, zw_139, zk_140, zw_140, zk_141, zw_141, zk_142, zw_142, zk_143, zw_143, zk_144, zw_144, zk_145, zw_145, zk_146, zw_146, zk_147, zw_147, zk_148, zw_148, zk_149, zw_149, zk_150, zw_150, zk_151, zw_151, zk_152, zw_152, zq_138_1, zq_138_2, zq_138_3, zq_138_4, zq_138_16, zq_138_19, zq_138_20, zq_138_24, zq_138_25, zq_138_26, zq_138_27, zq_138_31, zq_138_32, zq_138_33, zn_10, zn_40, zn_040, zn_340, nI_add, zin_nI, nI_clamp, nI_ltI, nI_eq, pk_mul, nI_1, Nat.lt_irrefl, h9]
          · simp (disch := omega) only [↓zs_251_26, ↓zs_251_29, ↓zs_251_32, ↓zs_251_33, ↓zs_251_34, ↓zs_251_37, ↓zs_251_38, ↓zs_251_39, ↓zs_251_42, ↓zs_251_45, ↓zs_251_46, ↓zs_251_47, ↓zs_251_48, ↓zs_251_51, ↓zs_251_52, ↓zs_251_55, zx_pu_s, zx_pu_n, zx_rv_s, zx_rv_n, true_and, and_true, true_or, or_true, zb_0, zb_1, zq_lcl, zq_lcg, zq_lce, eq_self, ite_true, ite_false, zk_138, zw_138, zk_139, zw_139, zk_140, zw_140, zk_141, zw_141, zk_142, zw_142, zk_143, zw_143, zk_144, zw_144, zk_145, zw_145, zk_146, zw_146, zk_147, zw_147, zk_148, zw_148, zk_149, zw_149, zk_150, zw_150, zk_151, zw_151, zk_152, zw_152, zq_138_1, zq_138_2, zq_138_3, zq_138_4, zq_138_16, zq_138_19, zq_138_20, zq_138_24, zq_138_25, zq_138_26, zq_138_27, zq_138_31, zq_138_32, zq_138_33, zn_10, zn_40, zn_040, zn_340, nI_add, zin_nI, nI_clamp, nI_ltI, nI_eq, pk_mul, nI_1, Nat.lt_irrefl, h9, zq_m1]
        | false =>
          obtain ⟨I4, n', f4, s4, h4⟩ := ih (n + 1) I3 (by omega) si3 f3 r3
          refine ⟨I4, n', f4, s4, fun d P => ?_⟩
          rw [if_neg (by decide), ← h4 d P, zs_251_25]
          simp (disch := omega) only [↓zs_251_26, ↓zs_251_29, ↓zs_251_32, ↓zs_251_33, ↓zs_251_34, ↓zs_251_37, ↓zs_251_38, ↓zs_251_39, ↓zs_251_42, ↓zs_251_45, ↓zs_251_46, ↓zs_251_47, ↓zs_251_48, ↓zs_251_51, ↓zs_251_52, ↓zs_251_55, zx_pu_s, zx_pu_n, zx_rv_s, zx_rv_n, true_and, and_true, true_or, or_true, zb_0, zb_1, zq_lcl, zq_lcg, zq_lce, eq_self, ite_true, ite_false, zk_138, zw_138, zk_139, zw_139, zk_140, zw_140, zk_141, zw_141, zk_142, zw_142, zk_143, zw_143, zk_144, zw_144, zk_145, zw_145, zk_146, zw_146, zk_147, zw_147, zk_148, zw_148, zk_149, zw_149, zk_150, zw_150, zk_151, zw_151, zk_152, zw_152, zq_138_1, zq_138_2, zq_138_3, zq_138_4, zq_138_16, zq_138_19, zq_138_20, zq_138_24, zq_138_25, zq_138_26, zq_138_27, zq_138_31, zq_138_32, zq_138_33, zn_10, zn_40, zn_040, zn_340, nI_add, zin_nI, nI_clamp, nI_ltI, nI_eq, pk_mul, nI_1, Nat.lt_irrefl, hlt, hof, q, zB_0, reduceCtorEq, h3]
    have si1 : zx_SI I1 := fun a j ha => by rw [f1 a (by omega) (by omega)]; exact v.1 a j ha
    obtain ⟨I3, n', f3, s3, h3⟩ := loop 201 0 I1 rfl si1 (zFm_r I1) (f1 139 (by decide) (by decide))
    obtain ⟨he, hscr⟩ := sp_end (Lh := Lh) (J := J) rfl f1 f1' g1 f3 s3
    refine ⟨_, J, hscr, fun d P => ?_⟩
    rw [ze_251]
    simp (disch := omega) only [↓zs_251_0, ↓zs_251_1, ↓zs_251_2, ↓zs_251_5, ↓zs_251_6, ↓zs_251_7, ↓zs_251_8, ↓zs_251_11, ↓zs_251_14, ↓zs_251_16, ↓zs_251_17, ↓zs_251_18, ↓zs_251_21, ↓zs_251_22, ↓zs_251_23, ↓zs_251_24, zx_pu_s, zx_pu_n, zx_rv_s, zx_rv_n, true_and, and_true, true_or, or_true, zb_0, zb_1, zq_lcl, zq_lcg, zq_lce, eq_self, ite_true, ite_false, zk_138, zw_138, zk_139, zw_139, zk_140, zw_140, zk_141, zw_141, zk_142, zw_142, zk_143, zw_143, zk_144, zw_144, zk_145, zw_145, zk_146, zw_146, zk_147, zw_147, zk_148, zw_148, zk_149, zw_149, zk_150, zw_150, zk_151, zw_151, zk_152, zw_152, zq_138_1, zq_138_2, zq_138_3, zq_138_4, zq_138_16, zq_138_19, zq_138_20, zq_138_24, zq_138_25, zq_138_26, zq_138_27, zq_138_31, zq_138_32, zq_138_33, h2, c, zB_0, reduceCtorEq, hb]
    rw [h3]
    simp (disch := omega) only [↓zs_251_58, ↓zs_251_59, ↓zs_251_62, ↓zs_251_63, zx_pu_s, zx_pu_n, zx_rv_s, zx_rv_n, true_and, and_true, true_or, or_true, zb_0, zb_1, zq_lcl, zq_lcg, zq_lce, eq_self, ite_true, ite_false, zk_138, zw_138, zk_139, zw_139, zk_140, zw_140, zk_141, zw_141, zk_142, zw_142, zk_143, zw_143, zk_144, zw_144, zk_145, zw_145, zk_146, zw_146, zk_147, zw_147, zk_148, zw_148, zk_149, zw_149, zk_150, zw_150, zk_151, zw_151, zk_152, zw_152, zq_138_1, zq_138_2, zq_138_3, zq_138_4, zq_138_16, zq_138_19, zq_138_20, zq_138_24, zq_138_25, zq_138_26, zq_138_27, zq_138_31, zq_138_32, zq_138_33, he]
  · rw [if_neg c]
    rw [Bool.not_eq_true] at c
    refine ⟨zx_u I 138 0 (nI 0), J, zScr_s (zFs_0 _ _), fun d P => ?_⟩
    rw [ze_251]
    simp (disch := omega) only [↓zs_251_0, ↓zs_251_1, ↓zs_251_2, ↓zs_251_5, ↓zs_251_6, ↓zs_251_7, ↓zs_251_8, ↓zs_251_11, ↓zs_251_14, ↓zs_251_16, ↓zs_251_17, ↓zs_251_18, ↓zs_251_21, ↓zs_251_22, ↓zs_251_23, ↓zs_251_24, zx_pu_s, zx_pu_n, zx_rv_s, zx_rv_n, true_and, and_true, true_or, or_true, zb_0, zb_1, zq_lcl, zq_lcg, zq_lce, eq_self, ite_true, ite_false, zk_138, zw_138, zk_139, zw_139, zk_140, zw_140, zk_141, zw_141, zk_142, zw_142, zk_143, zw_143, zk_144, zw_144, zk_145, zw_145, zk_146, zw_146, zk_147, zw_147, zk_148, zw_148, zk_149, zw_149, zk_150, zw_150, zk_151, zw_151, zk_152, zw_152, zq_138_1, zq_138_2, zq_138_3, zq_138_4, zq_138_16, zq_138_19, zq_138_20, zq_138_24, zq_138_25, zq_138_26, zq_138_27, zq_138_31, zq_138_32, zq_138_33, h2, c, zB_0, reduceCtorEq]
theorem q_facing {I : zx_MI} {J : zx_MJ} (v : zInv I J m) (hm : m < 2 ^ 29) (x : Int32) : zQ Lh 122 234 [.int x] I J := zQ_mk (c_facing hm x) (m_facing hm x) v
theorem q_freeIn {I : zx_MI} {J : zx_MJ} (v : zInv I J m) (hm : m < 2 ^ 29) (x : Int32) : zQ Lh 131 251 [.int x] I J := zQ_mk (c_freeIn hm x) (m_freeIn hm x) v
end FI
