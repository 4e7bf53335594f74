/-! trays -/
theorem zTr_k (Lh : Nat) {t : Nat} (h : t < 4) : (zx_LL Lh).1 (102 + 2 * t) = (49, 0) ∧ (zx_LL Lh).1 (103 + 2 * t) = (3, 40) ∧ (zx_LL Lh).2.1 (102 + 2 * t) 0 = some (103 + 2 * t) ∧ (zx_LL Lh).2.1 79 t = some (102 + 2 * t) ∧ zx_wr (zx_LL Lh) (102 + 2 * t) ∧ zx_wr (zx_LL Lh) (103 + 2 * t) := by
  refine ⟨?_, ?_, ?_, ?_, zx_wrp (by omega), zx_wrp (by omega)⟩
  all_goals (rcases (show t = 0 ∨ t = 1 ∨ t = 2 ∨ t = 3 by omega) with q | q | q | q <;> subst q <;> rfl)
def zf_cutv (s : Nat) (u : Int64) : Int64 := if s = 0 then u.toInt32.toInt8.toInt32.toInt64 else if s = 1 then u.toInt32.toInt16.toInt32.toInt64 else if s = 2 then u.toInt32.toInt64 else u
theorem zn_1019 : (10 ≤ 19) = True := eq_true (by decide)
theorem zn_1940 : (19 < 40) = True := eq_true (by decide)
theorem zInv_tr {I I2 : zx_MI} {J J2 : zx_MJ} {m : Nat} (v : zInv I J m) (hI : ∀ a j, ¬ (zSc a j ∨ (102 ≤ a ∧ a ≤ 109) ∨ a = 150 ∨ a = 151) → I2 a j = I a j) (hJ : ∀ a j, ¬ ((65 ≤ a ∧ a ≤ 78) ∨ (146 ≤ a ∧ a ≤ 149) ∨ (102 ≤ a ∧ a ≤ 109) ∨ a = 152) → J2 a j = J a j) (ht : zI_tray I2 J2) : zInv I2 J2 m := by
  have row : ∀ a, (a ≤ 3 ∨ (6 ≤ a ∧ a ≤ 14) ∨ (23 ≤ a ∧ a ≤ 64) ∨ (79 ≤ a ∧ a ≤ 101) ∨ (110 ≤ a ∧ a ≤ 137) ∨ (139 ≤ a ∧ a ≤ 142) ∨ 152 ≤ a) → I2 a = I a := fun a ha => funext fun j => hI a j (by unfold zSc; omega)
  have rowJ : ∀ a, (a ≤ 64 ∨ (79 ≤ a ∧ a ≤ 101) ∨ (110 ≤ a ∧ a ≤ 145) ∨ a = 150 ∨ a = 151) → J2 a = J a := fun a ha => funext fun j => hJ a j (by omega)
  obtain ⟨v1, v2, v3, v4, v5, v6, v7, v8, v9, v10⟩ := v
  have e139 := row 139 (by omega)
  refine ⟨?_, ?_, ?_, ?_, ?_, ?_, ht, ?_, ?_, ?_⟩
  · intro a j ha; rw [row a (by omega)]; exact v1 a j ha
  · rw [e139]; exact v2
  · rw [e139]; exact zR_sq_f v3 (fun a j h1 h2 h3 h4 => by rw [row a (by omega)]) (fun j => by rw [rowJ 1 (by omega)])
  · rw [e139]; exact zR_st_f v4 (fun a j h1 h2 => by rw [row a (by omega)])
  · obtain ⟨e, D, he, hD, h1, h2, h3, h4⟩ := v5
    refine ⟨e, D, he, hD, by rw [row 23 (by omega)]; exact h1, by rw [row 23 (by omega)]; exact h2, by rw [e139]; exact h3, fun i hi => ?_⟩
    rw [e139]
    have hm : (e + i) % 10 < 10 := Nat.mod_lt _ (by omega)
    exact ⟨zR_st_f (h4 i hi).1 (fun a j h1 h2 => by rw [row a (by omega)]), (h4 i hi).2⟩
  · intro i hi
    obtain ⟨b, b1, b2, b3⟩ := v6 i hi
    refine ⟨b, by rw [row 82 (by omega)]; exact b1, by rw [row 140 (by omega)]; exact b2, fun hb => ?_⟩
    obtain ⟨c1, c2, c3⟩ := b3 hb
    rw [e139]
    exact ⟨zR_sq_f c1 (fun a j h1 h2 h3 h4 => by rw [row a (by omega)]) (fun j => by rw [rowJ _ (by omega)]), zR_st_f c2 (fun a j h1 h2 => by rw [row a (by omega)]), c3⟩
  · obtain ⟨p, p1, p2, p3, p4⟩ := v8
    refine ⟨p, p1, by rw [row 0 (by omega)]; exact p2, by rw [hI 138 5 (by unfold zSc; omega)]; exact p3, fun i hi => ?_⟩
    rw [row 141 (by omega), row 85 (by omega)]
    exact p4 i hi
  · rw [row 0 (by omega), hI 138 13 (by unfold zSc; omega)]; exact v9
  · rw [row 0 (by omega), hI 138 14 (by unfold zSc; omega)]; exact v10
section TRY
variable {d Lh m : Nat} {I : zx_MI} {J : zx_MJ} {P : Option Value → zx_Lay → zx_MI → zx_MJ → Prop}
theorem sc_trayAt {t : Nat} (h : t < 4) : zx_rn d 142 [.ref 0, .int (nI t)] (zx_LL Lh) I J P = P (some (.ref (102 + 2 * t))) (zx_LL Lh) I J := by
  obtain ⟨k1, k2, k3, k4, k5, k6⟩ := zTr_k Lh h
  have e4 : Int32.ofNat 4 = nI 4 := rfl
  have k5' : zx_wr (zx_LL Lh) (102 + 2 * t) = True := eq_true k5
  rw [ze_142]
  simp (disch := omega) only [↓zs_142_0, ↓zs_142_1, ↓zs_142_4, ↓zs_142_5, ↓zs_142_6, ↓zs_142_9, ↓zs_142_10, ↓zs_142_13, ↓zs_142_14, ↓zs_142_17, ↓zs_142_18, ↓zs_142_19, ↓zs_142_22, ↓zs_142_23, ↓zs_142_23N, zx_pu_s, zx_pu_n, zx_rv_s, zx_rv_n, true_and, and_true, true_or, or_true, zb_0, zb_1, zq_lcl, zq_lcg, zq_lce, eq_self, ite_true, ite_false, zk_0, zw_0, zq_0_0, zq_0_1, zq_0_2, zq_0_3, zq_0_4, zq_0_5, zq_0_6, zq_0_7, zq_0_8, zq_0_9, zq_0_10, zq_0_11, zk_79, zw_79, zq_79_0, zq_79_1, zq_79_2, zq_79_3, zn_10, zn_40, zn_040, zn_340, nI_add, zin_nI, nI_clamp, nI_ltI, nI_eq, pk_mul, nI_1, Nat.lt_irrefl, zn_lt0, e4, h, zn_1019, zn_1940, k4, k5']
theorem sc_trayNo {x : Int32} (h : zf_in x.toInt 4 = false) : zx_rn d 142 [.ref 0, .int x] (zx_LL Lh) I J P = P (some .null) (zx_LL Lh) I J := by
  have xl := zq_lt0 x
  have xn := zq_ltn x (n := 4) (by omega)
  have e4 : Int32.ofNat 4 = nI 4 := rfl
  rw [ze_142]
  by_cases c : x.toInt < 0
  · simp (disch := omega) only [↓zs_142_0, ↓zs_142_1, ↓zs_142_4, ↓zs_142_5, ↓zs_142_6, ↓zs_142_9, ↓zs_142_10, ↓zs_142_13, ↓zs_142_14, ↓zs_142_17, ↓zs_142_18, ↓zs_142_19, ↓zs_142_22, ↓zs_142_23, ↓zs_142_23N, zx_pu_s, zx_pu_n, zx_rv_s, zx_rv_n, true_and, and_true, true_or, or_true, zb_0, zb_1, zq_lcl, zq_lcg, zq_lce, eq_self, ite_true, ite_false, xl, c]
  · have c2 : ¬ x.toInt < ((4 : Nat) : Int) := by
      rw [zf_in, Bool.and_eq_false_iff, decide_eq_false_iff_not, decide_eq_false_iff_not] at h
      omega
    simp (disch := omega) only [↓zs_142_0, ↓zs_142_1, ↓zs_142_4, ↓zs_142_5, ↓zs_142_6, ↓zs_142_9, ↓zs_142_10, ↓zs_142_13, ↓zs_142_14, ↓zs_142_17, ↓zs_142_18, ↓zs_142_19, ↓zs_142_22, ↓zs_142_23, ↓zs_142_23N, zx_pu_s, zx_pu_n, zx_rv_s, zx_rv_n, true_and, and_true, true_or, or_true, zb_0, zb_1, zq_lcl, zq_lcg, zq_lce, eq_self, ite_true, ite_false, zk_0, zw_0, zq_0_0, zq_0_1, zq_0_2, zq_0_3, zq_0_4, zq_0_5, zq_0_6, zq_0_7, zq_0_8, zq_0_9, zq_0_10, zq_0_11, zk_79, zw_79, zq_79_0, zq_79_1, zq_79_2, zq_79_3, zn_10, zn_40, zn_040, zn_340, nI_add, zin_nI, nI_clamp, nI_ltI, nI_eq, pk_mul, nI_1, Nat.lt_irrefl, zn_1940, xl, c, e4, xn, c2]
theorem sc_cut {t s : Nat} (h : t < 4) (hs : s < 4) (u : Int64) (e2 : I (102 + 2 * t) 2 = nI s) : zx_rn d 89 [.ref (102 + 2 * t), .long u] (zx_LL Lh) I J P = P (some (.long (zf_cutv s u))) (zx_LL Lh) I J := by
  obtain ⟨k1, k2, k3, k4, k5, k6⟩ := zTr_k Lh h
  rw [ze_89]
  unfold zf_cutv
  rcases (show s = 0 ∨ s = 1 ∨ s = 2 ∨ s = 3 by omega) with q | q | q | q <;> subst q
  · simp (disch := omega) only [↓zs_89_0, ↓zs_89_1, ↓zs_89_4, zx_pu_s, zx_pu_n, zx_rv_s, zx_rv_n, true_and, and_true, true_or, or_true, zb_0, zb_1, zq_lcl, zq_lcg, zq_lce, eq_self, ite_true, ite_false, k1, e2, zi_at, (show zi_t [((nI 0), 32), ((nI 1), 37), ((nI 2), 42)] 46 (nI 0) = 32 from by decide +kernel)]
    simp (disch := omega) only [↓zs_89_32, ↓zs_89_33, ↓zs_89_34, ↓zs_89_35, ↓zs_89_36, ↓zs_89_37, ↓zs_89_38, ↓zs_89_39, ↓zs_89_40, ↓zs_89_41, ↓zs_89_42, ↓zs_89_43, ↓zs_89_44, ↓zs_89_45, ↓zs_89_46, ↓zs_89_47, zx_pu_s, zx_pu_n, zx_rv_s, zx_rv_n, true_and, and_true, true_or, or_true, zb_0, zb_1, zq_lcl, zq_lcg, zq_lce, eq_self, ite_true, ite_false]
  · simp (disch := omega) only [↓zs_89_0, ↓zs_89_1, ↓zs_89_4, zx_pu_s, zx_pu_n, zx_rv_s, zx_rv_n, true_and, and_true, true_or, or_true, zb_0, zb_1, zq_lcl, zq_lcg, zq_lce, eq_self, ite_true, ite_false, k1, e2, zi_at, (show zi_t [((nI 0), 32), ((nI 1), 37), ((nI 2), 42)] 46 (nI 1) = 37 from by decide +kernel)]
    simp (disch := omega) only [↓zs_89_32, ↓zs_89_33, ↓zs_89_34, ↓zs_89_35, ↓zs_89_36, ↓zs_89_37, ↓zs_89_38, ↓zs_89_39, ↓zs_89_40, ↓zs_89_41, ↓zs_89_42, ↓zs_89_43, ↓zs_89_44, ↓zs_89_45, ↓zs_89_46, ↓zs_89_47, zx_pu_s, zx_pu_n, zx_rv_s, zx_rv_n, true_and, and_true, true_or, or_true, zb_0, zb_1, zq_lcl, zq_lcg, zq_lce, eq_self, ite_true, ite_false, zn_10]
  · simp (disch := omega) only [↓zs_89_0, ↓zs_89_1, ↓zs_89_4, zx_pu_s, zx_pu_n, zx_rv_s, zx_rv_n, true_and, and_true, true_or, or_true, zb_0, zb_1, zq_lcl, zq_lcg, zq_lce, eq_self, ite_true, ite_false, k1, e2, zi_at, (show zi_t [((nI 0), 32), ((nI 1), 37), ((nI 2), 42)] 46 (nI 2) = 42 from by decide +kernel)]
    simp (disch := omega) only [↓zs_89_32, ↓zs_89_33, ↓zs_89_34, ↓zs_89_35, ↓zs_89_36, ↓zs_89_37, ↓zs_89_38, ↓zs_89_39, ↓zs_89_40, ↓zs_89_41, ↓zs_89_42, ↓zs_89_43, ↓zs_89_44, ↓zs_89_45, ↓zs_89_46, ↓zs_89_47, zx_pu_s, zx_pu_n, zx_rv_s, zx_rv_n, true_and, and_true, true_or, or_true, zb_0, zb_1, zq_lcl, zq_lcg, zq_lce, eq_self, ite_true, ite_false]
    rfl
  · simp (disch := omega) only [↓zs_89_0, ↓zs_89_1, ↓zs_89_4, zx_pu_s, zx_pu_n, zx_rv_s, zx_rv_n, true_and, and_true, true_or, or_true, zb_0, zb_1, zq_lcl, zq_lcg, zq_lce, eq_self, ite_true, ite_false, k1, e2, zi_at, (show zi_t [((nI 0), 32), ((nI 1), 37), ((nI 2), 42)] 46 (nI 3) = 46 from by decide +kernel)]
    simp (disch := omega) only [↓zs_89_32, ↓zs_89_33, ↓zs_89_34, ↓zs_89_35, ↓zs_89_36, ↓zs_89_37, ↓zs_89_38, ↓zs_89_39, ↓zs_89_40, ↓zs_89_41, ↓zs_89_42, ↓zs_89_43, ↓zs_89_44, ↓zs_89_45, ↓zs_89_46, ↓zs_89_47, zx_pu_s, zx_pu_n, zx_rv_s, zx_rv_n, true_and, and_true, true_or, or_true, zb_0, zb_1, zq_lcl, zq_lcg, zq_lce, eq_self, ite_true, ite_false]
    rfl
theorem sp_cut {L : zx_Lay} {s : Nat} (hs : s < 4) (u : Int64) : zx_rn d 263 [.long u, .int (nI s)] L I J P = P (some (.long (zf_cutv s u))) L I J := by
  rw [ze_263]
  unfold zf_cutv
  rcases (show s = 0 ∨ s = 1 ∨ s = 2 ∨ s = 3 by omega) with q | q | q | q <;> subst q
  · simp (disch := omega) only [↓zs_263_0, ↓zs_263_1, ↓zs_263_4, ↓zs_263_5, ↓zs_263_6, ↓zs_263_7, ↓zs_263_8, ↓zs_263_11, ↓zs_263_12, ↓zs_263_13, ↓zs_263_16, ↓zs_263_17, ↓zs_263_18, ↓zs_263_19, ↓zs_263_20, ↓zs_263_23, ↓zs_263_24, ↓zs_263_25, ↓zs_263_28, ↓zs_263_29, ↓zs_263_30, ↓zs_263_31, ↓zs_263_34, ↓zs_263_35, zx_pu_s, zx_pu_n, zx_rv_s, zx_rv_n, true_and, and_true, true_or, or_true, zb_0, zb_1, zq_lcl, zq_lcg, zq_lce, eq_self, ite_true, ite_false]
  · simp (disch := omega) only [↓zs_263_0, ↓zs_263_1, ↓zs_263_4, ↓zs_263_5, ↓zs_263_6, ↓zs_263_7, ↓zs_263_8, ↓zs_263_11, ↓zs_263_12, ↓zs_263_13, ↓zs_263_16, ↓zs_263_17, ↓zs_263_18, ↓zs_263_19, ↓zs_263_20, ↓zs_263_23, ↓zs_263_24, ↓zs_263_25, ↓zs_263_28, ↓zs_263_29, ↓zs_263_30, ↓zs_263_31, ↓zs_263_34, ↓zs_263_35, zx_pu_s, zx_pu_n, zx_rv_s, zx_rv_n, true_and, and_true, true_or, or_true, zb_0, zb_1, zq_lcl, zq_lcg, zq_lce, eq_self, ite_true, ite_false, zq_ne, zn_10]
  · simp (disch := omega) only [↓zs_263_0, ↓zs_263_1, ↓zs_263_4, ↓zs_263_5, ↓zs_263_6, ↓zs_263_7, ↓zs_263_8, ↓zs_263_11, ↓zs_263_12, ↓zs_263_13, ↓zs_263_16, ↓zs_263_17, ↓zs_263_18, ↓zs_263_19, ↓zs_263_20, ↓zs_263_23, ↓zs_263_24, ↓zs_263_25, ↓zs_263_28, ↓zs_263_29, ↓zs_263_30, ↓zs_263_31, ↓zs_263_34, ↓zs_263_35, zx_pu_s, zx_pu_n, zx_rv_s, zx_rv_n, true_and, and_true, true_or, or_true, zb_0, zb_1, zq_lcl, zq_lcg, zq_lce, eq_self, ite_true, ite_false, zq_ne]
    rfl
  · simp (disch := omega) only [↓zs_263_0, ↓zs_263_1, ↓zs_263_4, ↓zs_263_5, ↓zs_263_6, ↓zs_263_7, ↓zs_263_8, ↓zs_263_11, ↓zs_263_12, ↓zs_263_13, ↓zs_263_16, ↓zs_263_17, ↓zs_263_18, ↓zs_263_19, ↓zs_263_20, ↓zs_263_23, ↓zs_263_24, ↓zs_263_25, ↓zs_263_28, ↓zs_263_29, ↓zs_263_30, ↓zs_263_31, ↓zs_263_34, ↓zs_263_35, zx_pu_s, zx_pu_n, zx_rv_s, zx_rv_n, true_and, and_true, true_or, or_true, zb_0, zb_1, zq_lcl, zq_lcg, zq_lce, eq_self, ite_true, ite_false, zq_ne]
    rfl
theorem sc_get {t n i : Nat} (h : t < 4) (hn : n ≤ 40) (hi : i < n) (e3 : I (102 + 2 * t) 3 = nI n) : zx_rn d 87 [.ref (102 + 2 * t), .int (nI i)] (zx_LL Lh) I J P = P (some (.long (J (103 + 2 * t) i))) (zx_LL Lh) I J := by
  obtain ⟨k1, k2, k3, k4, k5, k6⟩ := zTr_k Lh h
  have e40 : Int32.ofNat 40 = nI 40 := rfl
  have hi40 : i < 40 := by omega
  rw [ze_87]
  simp (disch := omega) only [↓zs_87_0, ↓zs_87_1, ↓zs_87_4, ↓zs_87_5, ↓zs_87_6, ↓zs_87_9, ↓zs_87_12, ↓zs_87_13, ↓zs_87_14, ↓zs_87_17, ↓zs_87_18, ↓zs_87_21, ↓zs_87_22, ↓zs_87_25, ↓zs_87_26, ↓zs_87_27, ↓zs_87_30, ↓zs_87_31, zx_pu_s, zx_pu_n, zx_rv_s, zx_rv_n, true_and, and_true, true_or, or_true, zb_0, zb_1, zq_lcl, zq_lcg, zq_lce, eq_self, ite_true, ite_false, zn_10, zn_40, zn_040, zn_340, nI_add, zin_nI, nI_clamp, nI_ltI, nI_eq, pk_mul, nI_1, Nat.lt_irrefl, zn_lt0, k1, k2, k3, e3, hi, e40, hi40]
theorem sc_put {t s n i : Nat} (h : t < 4) (hs : s < 4) (hn : n ≤ 40) (hi : i < n) (u : Int64) (e2 : I (102 + 2 * t) 2 = nI s) (e3 : I (102 + 2 * t) 3 = nI n) : zx_rn (d + 1) 88 [.ref (102 + 2 * t), .int (nI i), .long u] (zx_LL Lh) I J P = P none (zx_LL Lh) I (zx_u J (103 + 2 * t) i (zf_cutv s u)) := by
  obtain ⟨k1, k2, k3, k4, k5, k6⟩ := zTr_k Lh h
  have e40 : Int32.ofNat 40 = nI 40 := rfl
  have hi40 : i < 40 := by omega
  have k6' : zx_wr (zx_LL Lh) (103 + 2 * t) = True := eq_true k6
  have hc := fun P => sc_cut (d := d) (Lh := Lh) (J := J) (P := P) h hs u e2
  rw [ze_88]
  simp (disch := omega) only [↓zs_88_0, ↓zs_88_1, ↓zs_88_4, ↓zs_88_5, ↓zs_88_6, ↓zs_88_9, ↓zs_88_12, ↓zs_88_13, ↓zs_88_14, ↓zs_88_17, ↓zs_88_18, ↓zs_88_21, ↓zs_88_22, ↓zs_88_25, ↓zs_88_26, ↓zs_88_27, ↓zs_88_28, ↓zs_88_31, ↓zs_88_32, zx_pu_s, zx_pu_n, zx_rv_s, zx_rv_n, true_and, and_true, true_or, or_true, zb_0, zb_1, zq_lcl, zq_lcg, zq_lce, eq_self, ite_true, ite_false, zn_10, zn_40, zn_040, zn_340, nI_add, zin_nI, nI_clamp, nI_ltI, nI_eq, pk_mul, nI_1, Nat.lt_irrefl, zn_lt0, k1, k2, k3, k6', e3, hi, e40, hi40, hc]
theorem sp_noTray {x : Int32} : (zf_in x.toInt 4 = false → ∀ d P, zx_rn (d + 1) 226 [.ref 138, .int x] (zx_LL Lh) I J P = P (some (.int (-2))) (zx_LL Lh) I J) ∧ ∀ t, t < 4 → x = nI t → (I 150 t = -1 → ∀ d P, zx_rn (d + 1) 226 [.ref 138, .int x] (zx_LL Lh) I J P = P (some (.int (-6))) (zx_LL Lh) I J) ∧ ∀ s, s < 4 → I 150 t = nI s → ∀ d P, zx_rn (d + 1) 226 [.ref 138, .int x] (zx_LL Lh) I J P = P (some (.int (nI 0))) (zx_LL Lh) I J := by
  have hb := fun d L I J P => sp_bt (d := d) (L := L) (I := I) (J := J) (P := P) x (a := 0) (b := 3) (by omega) (by omega)
  have e : zf_bt 0 3 x.toInt = zf_in x.toInt 4 := by
    rw [zf_bt, zf_in]
    congr 1
    exact decide_eq_decide.mpr (by omega)
  rw [e] at hb
  refine ⟨fun h d P => ?_, fun t ht ex => ⟨fun h1 d P => ?_, fun s hs h1 d P => ?_⟩⟩
  · rw [ze_226]
    simp (disch := omega) only [↓zs_226_0, ↓zs_226_1, ↓zs_226_2, ↓zs_226_3, ↓zs_226_6, ↓zs_226_9, ↓zs_226_12, ↓zs_226_14, ↓zs_226_17, ↓zs_226_18, ↓zs_226_21, ↓zs_226_22, ↓zs_226_23, ↓zs_226_24, ↓zs_226_27, ↓zs_226_29, ↓zs_226_32, ↓zs_226_33, zx_pu_s, zx_pu_n, zx_rv_s, zx_rv_n, true_and, and_true, true_or, or_true, zb_0, zb_1, zq_lcl, zq_lcg, zq_lce, eq_self, ite_true, ite_false, zk_138, zw_138, zk_139, zw_139, zk_140, zw_140, zk_141, zw_141, zk_142, zw_142, zk_143, zw_143, zk_144, zw_144, zk_145, zw_145, zk_146, zw_146, zk_147, zw_147, zk_148, zw_148, zk_149, zw_149, zk_150, zw_150, zk_151, zw_151, zk_152, zw_152, zq_138_1, zq_138_2, zq_138_3, zq_138_4, zq_138_16, zq_138_19, zq_138_20, zq_138_24, zq_138_25, zq_138_26, zq_138_27, zq_138_31, zq_138_32, zq_138_33, hb, h, zB_0]
  · subst ex
    have c : zf_in (nI t).toInt 4 = true := by rw [zf_in_nI (by omega)]; exact decide_eq_true ht
    rw [ze_226]
    simp (disch := omega) only [↓zs_226_0, ↓zs_226_1, ↓zs_226_2, ↓zs_226_3, ↓zs_226_6, ↓zs_226_9, ↓zs_226_12, ↓zs_226_14, ↓zs_226_17, ↓zs_226_18, ↓zs_226_21, ↓zs_226_22, ↓zs_226_23, ↓zs_226_24, ↓zs_226_27, ↓zs_226_29, ↓zs_226_32, ↓zs_226_33, zx_pu_s, zx_pu_n, zx_rv_s, zx_rv_n, true_and, and_true, true_or, or_true, zb_0, zb_1, zq_lcl, zq_lcg, zq_lce, eq_self, ite_true, ite_false, zk_138, zw_138, zk_139, zw_139, zk_140, zw_140, zk_141, zw_141, zk_142, zw_142, zk_143, zw_143, zk_144, zw_144, zk_145, zw_145, zk_146, zw_146, zk_147, zw_147, zk_148, zw_148, zk_149, zw_149, zk_150, zw_150, zk_151, zw_151, zk_152, zw_152, zq_138_1, zq_138_2, zq_138_3, zq_138_4, zq_138_16, zq_138_19, zq_138_20, zq_138_24, zq_138_25, zq_138_26, zq_138_27, zq_138_31, zq_138_32, zq_138_33, zin_nI, nI_clamp, hb, c, zB_0, reduceCtorEq, h1]
  · subst ex
    have c : zf_in (nI t).toInt 4 = true := by rw [zf_in_nI (by omega)]; exact decide_eq_true ht
    rw [ze_226]
    simp (disch := omega) only [↓zs_226_0, ↓zs_226_1, ↓zs_226_2, ↓zs_226_3, ↓zs_226_6, ↓zs_226_9, ↓zs_226_12, ↓zs_226_14, ↓zs_226_17, ↓zs_226_18, ↓zs_226_21, ↓zs_226_22, ↓zs_226_23, ↓zs_226_24, ↓zs_226_27, ↓zs_226_29, ↓zs_226_32, ↓zs_226_33, zx_pu_s, zx_pu_n, zx_rv_s, zx_rv_n, true_and, and_true, true_or, or_true, zb_0, zb_1, zq_lcl, zq_lcg, zq_lce, eq_self, ite_true, ite_false, zk_138, zw_138, zk_139, zw_139, zk_140, zw_140, zk_141, zw_141, zk_142, zw_142, zk_143, zw_143, zk_144, zw_144, zk_145, zw_145, zk_146, zw_146, zk_147, zw_147, zk_148, zw_148, zk_149, zw_149, zk_150, zw_150, zk_151, zw_151, zk_152, zw_152, zq_138_1, zq_138_2, zq_138_3, zq_138_4, zq_138_16, zq_138_19, zq_138_20, zq_138_24, zq_138_25, zq_138_26, zq_138_27, zq_138_31, zq_138_32, zq_138_33, zin_nI, nI_clamp, hb, c, zB_0, reduceCtorEq, h1, zq_m1]
theorem zI_tray_s {I2 : zx_MI} {J2 : zx_MJ} (h : zScr I J I2 J2) (v : zI_tray I J) : zI_tray I2 J2 := by
  intro t ht
  have row : ∀ a, (79 ≤ a ∧ a ≤ 137) ∨ a = 150 ∨ a = 151 → I2 a = I a := fun a ha => funext fun j => h.1 a j (by unfold zSc; omega)
  have rowJ : ∀ a, (79 ≤ a ∧ a ≤ 145) ∨ a = 152 → J2 a = J a := fun a ha => funext fun j => h.2 a j (by omega)
  rw [row 150 (by omega), row 151 (by omega), row (102 + 2 * t) (by omega), rowJ (103 + 2 * t) (by omega), rowJ 152 (by omega)]
  exact v t ht
theorem d_write (v : zInv I J m) (x y : Int32) (u : Int64) : zD Lh 144 265 [.int x, .int y, .long u] I J m := by
  have hT := v.2.2.2.2.2.2.1
  have hT0 : zI_tray (zx_u I 138 0 (nI 0)) J := zI_tray_s (zScr_s (zFs_0 _ _)) hT
  obtain ⟨n1, n2⟩ := sp_noTray (Lh := Lh) (I := zx_u I 138 0 (nI 0)) (J := J) (x := x)
  cases c : zf_in x.toInt 4 with
  | false =>
    have h1 := fun d P => sc_trayNo (d := d) (Lh := Lh) (I := I) (J := J) (P := P) c
    have h2 := n1 c
    have e2 : (-2 : Int32).toInt64 = -2 := by decide
    have c2 : ((-2 : Int32) = nI 0) = False := eq_false (by decide)
    refine zQ_D (m := m) ⟨.long (-2), I, J, zx_u I 138 0 (nI 0), J, fun d P => ?_, fun d P => ?_, zScr_s (zFs_0 _ _)⟩ v (Nat.le_refl m)
    · rw [ze_144]
      simp (disch := omega) only [↓zs_144_0, ↓zs_144_1, ↓zs_144_2, ↓zs_144_5, ↓zs_144_5N, ↓zs_144_7, ↓zs_144_7N, ↓zs_144_9, ↓zs_144_9N, ↓zs_144_12, ↓zs_144_15, ↓zs_144_16, ↓zs_144_16N, ↓zs_144_18, ↓zs_144_21, ↓zs_144_24, ↓zs_144_27, ↓zs_144_28, ↓zs_144_29, ↓zs_144_32, ↓zs_144_33, ↓zs_144_33N, ↓zs_144_35, ↓zs_144_38, ↓zs_144_41, ↓zs_144_44, ↓zs_144_45, ↓zs_144_45N, ↓zs_144_47, ↓zs_144_48, ↓zs_144_49, ↓zs_144_52, ↓zs_144_52N, ↓zs_144_54, ↓zs_144_55, ↓zs_144_58, zx_pu_s, zx_pu_n, zx_rv_s, zx_rv_n, true_and, and_true, true_or, or_true, zb_0, zb_1, zq_lcl, zq_lcg, zq_lce, eq_self, ite_true, ite_false, zk_0, zw_0, zq_0_0, zq_0_1, zq_0_2, zq_0_3, zq_0_4, zq_0_5, zq_0_6, zq_0_7, zq_0_8, zq_0_9, zq_0_10, zq_0_11, h1]
    · rw [ze_265]
      simp (disch := omega) only [↓zs_265_0, ↓zs_265_1, ↓zs_265_2, ↓zs_265_5, ↓zs_265_6, ↓zs_265_7, ↓zs_265_10, ↓zs_265_12, ↓zs_265_14, ↓zs_265_17, ↓zs_265_19, ↓zs_265_20, ↓zs_265_21, ↓zs_265_22, ↓zs_265_23, ↓zs_265_24, ↓zs_265_25, ↓zs_265_28, ↓zs_265_29, ↓zs_265_30, ↓zs_265_31, ↓zs_265_32, ↓zs_265_33, ↓zs_265_36, ↓zs_265_39, ↓zs_265_42, ↓zs_265_43, ↓zs_265_44, ↓zs_265_47, ↓zs_265_49, ↓zs_265_50, ↓zs_265_51, ↓zs_265_52, ↓zs_265_53, ↓zs_265_54, ↓zs_265_55, ↓zs_265_58, ↓zs_265_59, ↓zs_265_60, ↓zs_265_63, ↓zs_265_64, ↓zs_265_65, ↓zs_265_68, ↓zs_265_70, ↓zs_265_71, ↓zs_265_72, ↓zs_265_73, ↓zs_265_74, ↓zs_265_75, zx_pu_s, zx_pu_n, zx_rv_s, zx_rv_n, true_and, and_true, true_or, or_true, zb_0, zb_1, zq_lcl, zq_lcg, zq_lce, eq_self, ite_true, ite_false, zk_138, zw_138, zk_139, zw_139, zk_140, zw_140, zk_141, zw_141, zk_142, zw_142, zk_143, zw_143, zk_144, zw_144, zk_145, zw_145, zk_146, zw_146, zk_147, zw_147, zk_148, zw_148, zk_149, zw_149, zk_150, zw_150, zk_151, zw_151, zk_152, zw_152, zq_138_1, zq_138_2, zq_138_3, zq_138_4, zq_138_16, zq_138_19, zq_138_20, zq_138_24, zq_138_25, zq_138_26, zq_138_27, zq_138_31, zq_138_32, zq_138_33, h2, c2, e2]
  | true =>
    have ex := zq_toI (x := x) rfl c (by omega)
    have ht : x.toInt.toNat < 4 := by have := zf_inP.mp c; omega
    generalize x.toInt.toNat = t at ex ht
    subst ex
    obtain ⟨n3, n4⟩ := n2 t ht rfl
    obtain ⟨k1, k2, k3, k4, k5, k6⟩ := zTr_k Lh ht
    have h1 := fun d P => sc_trayAt (d := d) (Lh := Lh) (I := I) (J := J) (P := P) ht
    have l5 : (102 + 2 * t < 5000) = True := eq_true (by omega)
    have u150 : zx_u I 138 0 (nI 0) 150 = I 150 := zu_o (by decide)
    have u151 : zx_u I 138 0 (nI 0) 151 = I 151 := zu_o (by decide)
    rcases hT t ht with ⟨e1, e2⟩ | ⟨s, n, hs, hn, e1, e2, e3, e4, e5, e6⟩
    · have h2 := n3 (by rw [u150]; exact e1)
      have c2 : ((-6 : Int32) = nI 0) = False := eq_false (by decide)
      have c3 : (-6 : Int32).toInt64 = -6 := by decide
      refine zQ_D (m := m) ⟨.long (-6), I, J, zx_u I 138 0 (nI 0), J, fun d P => ?_, fun d P => ?_, zScr_s (zFs_0 _ _)⟩ v (Nat.le_refl m)
      · rw [ze_144]
        simp (disch := omega) only [↓zs_144_0, ↓zs_144_1, ↓zs_144_2, ↓zs_144_5, ↓zs_144_5N, ↓zs_144_7, ↓zs_144_7N, ↓zs_144_9, ↓zs_144_9N, ↓zs_144_12, ↓zs_144_15, ↓zs_144_16, ↓zs_144_16N, ↓zs_144_18, ↓zs_144_21, ↓zs_144_24, ↓zs_144_27, ↓zs_144_28, ↓zs_144_29, ↓zs_144_32, ↓zs_144_33, ↓zs_144_33N, ↓zs_144_35, ↓zs_144_38, ↓zs_144_41, ↓zs_144_44, ↓zs_144_45, ↓zs_144_45N, ↓zs_144_47, ↓zs_144_48, ↓zs_144_49, ↓zs_144_52, ↓zs_144_52N, ↓zs_144_54, ↓zs_144_55, ↓zs_144_58, zx_pu_s, zx_pu_n, zx_rv_s, zx_rv_n, true_and, and_true, true_or, or_true, zb_0, zb_1, zq_lcl, zq_lcg, zq_lce, eq_self, ite_true, ite_false, zk_0, zw_0, zq_0_0, zq_0_1, zq_0_2, zq_0_3, zq_0_4, zq_0_5, zq_0_6, zq_0_7, zq_0_8, zq_0_9, zq_0_10, zq_0_11, h1, l5, k1, e2]
      · rw [ze_265]
        simp (disch := omega) only [↓zs_265_0, ↓zs_265_1, ↓zs_265_2, ↓zs_265_5, ↓zs_265_6, ↓zs_265_7, ↓zs_265_10, ↓zs_265_12, ↓zs_265_14, ↓zs_265_17, ↓zs_265_19, ↓zs_265_20, ↓zs_265_21, ↓zs_265_22, ↓zs_265_23, ↓zs_265_24, ↓zs_265_25, ↓zs_265_28, ↓zs_265_29, ↓zs_265_30, ↓zs_265_31, ↓zs_265_32, ↓zs_265_33, ↓zs_265_36, ↓zs_265_39, ↓zs_265_42, ↓zs_265_43, ↓zs_265_44, ↓zs_265_47, ↓zs_265_49, ↓zs_265_50, ↓zs_265_51, ↓zs_265_52, ↓zs_265_53, ↓zs_265_54, ↓zs_265_55, ↓zs_265_58, ↓zs_265_59, ↓zs_265_60, ↓zs_265_63, ↓zs_265_64, ↓zs_265_65, ↓zs_265_68, ↓zs_265_70, ↓zs_265_71, ↓zs_265_72, ↓zs_265_73, ↓zs_265_74, ↓zs_265_75, zx_pu_s, zx_pu_n, zx_rv_s, zx_rv_n, true_and, and_true, true_or, or_true, zb_0, zb_1, zq_lcl, zq_lcg, zq_lce, eq_self, ite_true, ite_false, zk_138, zw_138, zk_139, zw_139, zk_140, zw_140, zk_141, zw_141, zk_142, zw_142, zk_143, zw_143, zk_144, zw_144, zk_145, zw_145, zk_146, zw_146, zk_147, zw_147, zk_148, zw_148, zk_149, zw_149, zk_150, zw_150, zk_151, zw_151, zk_152, zw_152, zq_138_1, zq_138_2, zq_138_3, zq_138_4, zq_138_16, zq_138_19, zq_138_20, zq_138_24, zq_138_25, zq_138_26, zq_138_27, zq_138_31, zq_138_32, zq_138_33, h2, c2, c3]
    · have h2 := n4 s hs (by rw [u150]; exact e1)
      have c1 : (nI 1 = nI 0) = False := eq_false (by decide)
      have hy : ∀ d P, zx_rn d 150 [.long y.toInt64, .long (lN 0), .long (nI n - nI 1).toInt64] (zx_LL Lh) (zx_u I 138 0 (nI 0)) J P = P (some (.int (zB (zf_in y.toInt n)))) (zx_LL Lh) (zx_u I 138 0 (nI 0)) J := fun d P => by rw [sp_in _ _ (by omega), Int32.toInt_toInt64]
      have yl := zq_lt0 y
      have yn := zq_ltn y (n := n) (by omega)
      cases c2 : zf_in y.toInt n with
      | false =>
        refine zQ_D (m := m) ⟨.long (-7), I, J, zx_u I 138 0 (nI 0), J, fun d P => ?_, fun d P => ?_, zScr_s (zFs_0 _ _)⟩ v (Nat.le_refl m)
        · rw [ze_144]
          by_cases q : y.toInt < 0
          · simp (disch := omega) only [↓zs_144_0, ↓zs_144_1, ↓zs_144_2, ↓zs_144_5, ↓zs_144_5N, ↓zs_144_7, ↓zs_144_7N, ↓zs_144_9, ↓zs_144_9N, ↓zs_144_12, ↓zs_144_15, ↓zs_144_16, ↓zs_144_16N, ↓zs_144_18, ↓zs_144_21, ↓zs_144_24, ↓zs_144_27, ↓zs_144_28, ↓zs_144_29, ↓zs_144_32, ↓zs_144_33, ↓zs_144_33N, ↓zs_144_35, ↓zs_144_38, ↓zs_144_41, ↓zs_144_44, ↓zs_144_45, ↓zs_144_45N, ↓zs_144_47, ↓zs_144_48, ↓zs_144_49, ↓zs_144_52, ↓zs_144_52N, ↓zs_144_54, ↓zs_144_55, ↓zs_144_58, zx_pu_s, zx_pu_n, zx_rv_s, zx_rv_n, true_and, and_true, true_or, or_true, zb_0, zb_1, zq_lcl, zq_lcg, zq_lce, eq_self, ite_true, ite_false, zk_0, zw_0, zq_0_0, zq_0_1, zq_0_2, zq_0_3, zq_0_4, zq_0_5, zq_0_6, zq_0_7, zq_0_8, zq_0_9, zq_0_10, zq_0_11, h1, l5, k1, e3, c1, yl, q]
          · have q2 : ¬ y.toInt < (n : Int) := by
              rw [zf_in, Bool.and_eq_false_iff, decide_eq_false_iff_not, decide_eq_false_iff_not] at c2
              omega
            simp (disch := omega) only [↓zs_144_0, ↓zs_144_1, ↓zs_144_2, ↓zs_144_5, ↓zs_144_5N, ↓zs_144_7, ↓zs_144_7N, ↓zs_144_9, ↓zs_144_9N, ↓zs_144_12, ↓zs_144_15, ↓zs_144_16, ↓zs_144_16N, ↓zs_144_18, ↓zs_144_21, ↓zs_144_24, ↓zs_144_27, ↓zs_144_28, ↓zs_144_29, ↓zs_144_32, ↓zs_144_33, ↓zs_144_33N, ↓zs_144_35, ↓zs_144_38, ↓zs_144_41, ↓zs_144_44, ↓zs_144_45, ↓zs_144_45N, ↓zs_144_47, ↓zs_144_48, ↓zs_144_49, ↓zs_144_52, ↓zs_144_52N, ↓zs_144_54, ↓zs_144_55, ↓zs_144_58, zx_pu_s, zx_pu_n, zx_rv_s, zx_rv_n, true_and, and_true, true_or, or_true, zb_0, zb_1, zq_lcl, zq_lcg, zq_lce, eq_self, ite_true, ite_false, zk_0, zw_0, zq_0_0, zq_0_1, zq_0_2, zq_0_3, zq_0_4, zq_0_5, zq_0_6, zq_0_7, zq_0_8, zq_0_9, zq_0_10, zq_0_11, h1, l5, k1, e3, e5, c1, yl, q, yn, q2]
        · rw [ze_265]
          simp (disch := omega) only [↓zs_265_0, ↓zs_265_1, ↓zs_265_2, ↓zs_265_5, ↓zs_265_6, ↓zs_265_7, ↓zs_265_10, ↓zs_265_12, ↓zs_265_14, ↓zs_265_17, ↓zs_265_19, ↓zs_265_20, ↓zs_265_21, ↓zs_265_22, ↓zs_265_23, ↓zs_265_24, ↓zs_265_25, ↓zs_265_28, ↓zs_265_29, ↓zs_265_30, ↓zs_265_31, ↓zs_265_32, ↓zs_265_33, ↓zs_265_36, ↓zs_265_39, ↓zs_265_42, ↓zs_265_43, ↓zs_265_44, ↓zs_265_47, ↓zs_265_49, ↓zs_265_50, ↓zs_265_51, ↓zs_265_52, ↓zs_265_53, ↓zs_265_54, ↓zs_265_55, ↓zs_265_58, ↓zs_265_59, ↓zs_265_60, ↓zs_265_63, ↓zs_265_64, ↓zs_265_65, ↓zs_265_68, ↓zs_265_70, ↓zs_265_71, ↓zs_265_72, ↓zs_265_73, ↓zs_265_74, ↓zs_265_75, zx_pu_s, zx_pu_n, zx_rv_s, zx_rv_n, true_and, and_true, true_or, or_true, zb_0, zb_1, zq_lcl, zq_lcg, zq_lce, eq_self, ite_true, ite_false, zk_138, zw_138, zk_139, zw_139, zk_140, zw_140, zk_141, zw_141, zk_142, zw_142, zk_143, zw_143, zk_144, zw_144, zk_145, zw_145, zk_146, zw_146, zk_147, zw_147, zk_148, zw_148, zk_149, zw_149, zk_150, zw_150, zk_151, zw_151, zk_152, zw_152, zq_138_1, zq_138_2, zq_138_3, zq_138_4, zq_138_16, zq_138_19, zq_138_20, zq_138_24, zq_138_25, zq_138_26, zq_138_27, zq_138_31, zq_138_32, zq_138_33, zin_nI, nI_clamp, h2, u151, e2, hy, c2, zB_0]
      | true =>
        have ey := zq_toI (x := y) rfl c2 (by omega)
        have hi : y.toInt.toNat < n := by have := zf_inP.mp c2; omega
        rw [c2] at hy
        generalize y.toInt.toNat = i at ey hi
        subst ey
        have hput := fun d P => sc_put (d := d) (Lh := Lh) (J := J) (P := P) ht hs hn hi u e4 e5
        have hget := fun d P => sc_get (d := d) (Lh := Lh) (I := I) (J := zx_u J (103 + 2 * t) i (zf_cutv s u)) (P := P) ht hn hi e5
        have hcut := fun d L I J P => sp_cut (d := d) (L := L) (I := I) (J := J) (P := P) hs u
        have hp : 40 * t + i < 160 := by omega
        have c9 : (nI 0 = nI 0) = True := eq_true rfl
        refine ⟨.long (zf_cutv s u), I, zx_u J (103 + 2 * t) i (zf_cutv s u), zx_u I 138 0 (nI 0), zx_u (zx_u J (103 + 2 * t) i (zf_cutv s u)) 152 (40 * t + i) (zf_cutv s u), fun d P => ?_, fun d P => ?_, ?_⟩
        · rw [ze_144]
          simp (disch := omega) only [↓zs_144_0, ↓zs_144_1, ↓zs_144_2, ↓zs_144_5, ↓zs_144_5N, ↓zs_144_7, ↓zs_144_7N, ↓zs_144_9, ↓zs_144_9N, ↓zs_144_12, ↓zs_144_15, ↓zs_144_16, ↓zs_144_16N, ↓zs_144_18, ↓zs_144_21, ↓zs_144_24, ↓zs_144_27, ↓zs_144_28, ↓zs_144_29, ↓zs_144_32, ↓zs_144_33, ↓zs_144_33N, ↓zs_144_35, ↓zs_144_38, ↓zs_144_41, ↓zs_144_44, ↓zs_144_45, ↓zs_144_45N, ↓zs_144_47, ↓zs_144_48, ↓zs_144_49, ↓zs_144_52, ↓zs_144_52N, ↓zs_144_54, ↓zs_144_55, ↓zs_144_58, zx_pu_s, zx_pu_n, zx_rv_s, zx_rv_n, true_and, and_true, true_or, or_true, zb_0, zb_1, zq_lcl, zq_lcg, zq_lce, eq_self, ite_true, ite_false, zk_0, zw_0, zq_0_0, zq_0_1, zq_0_2, zq_0_3, zq_0_4, zq_0_5, zq_0_6, zq_0_7, zq_0_8, zq_0_9, zq_0_10, zq_0_11, nI_ltI, zn_lt0, h1, l5, k1, e3, e5, c1, hi, hput, hget, zu_s]
        · have n5 := ((sp_noTray (Lh := Lh) (x := nI t) (I := zx_u I 138 0 (nI 0)) (J := zx_u J (103 + 2 * t) i (zf_cutv s u))).2 t ht rfl).2 s hs (by rw [u150]; exact e1)
          have hy2 : ∀ d P, zx_rn d 150 [.long (nI i).toInt64, .long (lN 0), .long (nI n - nI 1).toInt64] (zx_LL Lh) (zx_u I 138 0 (nI 0)) (zx_u J (103 + 2 * t) i (zf_cutv s u)) P = P (some (.int (zB true))) (zx_LL Lh) (zx_u I 138 0 (nI 0)) (zx_u J (103 + 2 * t) i (zf_cutv s u)) := fun d P => by rw [sp_in _ _ (by omega), Int32.toInt_toInt64, c2]
          rw [ze_265]
          simp (disch := omega) only [↓zs_265_0, ↓zs_265_1, ↓zs_265_2, ↓zs_265_5, ↓zs_265_6, ↓zs_265_7, ↓zs_265_10, ↓zs_265_12, ↓zs_265_14, ↓zs_265_17, ↓zs_265_19, ↓zs_265_20, ↓zs_265_21, ↓zs_265_22, ↓zs_265_23, ↓zs_265_24, ↓zs_265_25, ↓zs_265_28, ↓zs_265_29, ↓zs_265_30, ↓zs_265_31, ↓zs_265_32, ↓zs_265_33, ↓zs_265_36, ↓zs_265_39, ↓zs_265_42, ↓zs_265_43, ↓zs_265_44, ↓zs_265_47, ↓zs_265_49, ↓zs_265_50, ↓zs_265_51, ↓zs_265_52, ↓zs_265_53, ↓zs_265_54, ↓zs_265_55, ↓zs_265_58, ↓zs_265_59, ↓zs_265_60, ↓zs_265_63, ↓zs_265_64, ↓zs_265_65, ↓zs_265_68, ↓zs_265_70, ↓zs_265_71, ↓zs_265_72, ↓zs_265_73, ↓zs_265_74, ↓zs_265_75, zx_pu_s, zx_pu_n, zx_rv_s, zx_rv_n, true_and, and_true, true_or, or_true, zb_0, zb_1, zq_lcl, zq_lcg, zq_lce, eq_self, ite_true, ite_false, zk_138, zw_138, zk_139, zw_139, zk_140, zw_140, zk_141, zw_141, zk_142, zw_142, zk_143, zw_143, zk_144, zw_144, zk_145, zw_145, zk_146, zw_146, zk_147, zw_147, zk_148, zw_148, zk_149, zw_149, zk_150, zw_150, zk_151, zw_151, zk_152, zw_152, zq_138_1, zq_138_2, zq_138_3, zq_138_4, zq_138_16, zq_138_19, zq_138_20, zq_138_24, zq_138_25, zq_138_26, zq_138_27, zq_138_31, zq_138_32, zq_138_33, zn_10, zn_40, zn_040, zn_340, nI_add, zin_nI, nI_clamp, nI_ltI, nI_eq, pk_mul, nI_1, Nat.lt_irrefl, n5, u151, u150, e1, e2, hy2, zB_0, reduceCtorEq, hcut, zu_s]
        · refine zInv_tr v (fun a j n => zu_n (fun q => n (.inl (by unfold zSc; omega)))) (fun a j n => by rw [zu_n (by omega), zu_n (by omega)]) ?_
          intro t2 ht2
          rw [u150, u151, zu_o (show 102 + 2 * t2 ≠ 138 by omega)]
          rcases hT t2 ht2 with ⟨f1, f2⟩ | ⟨s2, nn2, g1, g2, g3, g4, g5, g6, g7, g8⟩
          · exact .inl ⟨f1, f2⟩
          · refine .inr ⟨s2, nn2, g1, g2, g3, g4, g5, g6, g7, fun i2 hi2 => ?_⟩
            by_cases q : t2 = t ∧ i2 = i
            · obtain ⟨rfl, rfl⟩ := q
              rw [zu_n (by omega), zu_s, zu_s]
            · rw [zu_n (by omega), zu_n (by omega), zu_n (by omega), zu_n (by omega)]
              exact g8 i2 hi2
theorem d_numbers (v : zInv I J m) (x y z : Int32) : zD Lh 143 264 [.int x, .int y, .int z] I J m := by
  have hT := v.2.2.2.2.2.2.1
  have hbx := fun d L I J P => sp_bt (d := d) (L := L) (I := I) (J := J) (P := P) x (a := 0) (b := 3) (by omega) (by omega)
  have hby := fun d L I J P => sp_bt (d := d) (L := L) (I := I) (J := J) (P := P) y (a := 0) (b := 3) (by omega) (by omega)
  have hbz := fun d L I J P => sp_bt (d := d) (L := L) (I := I) (J := J) (P := P) z (a := 0) (b := 40) (by omega) (by omega)
  have e : zf_bt 0 3 x.toInt = zf_in x.toInt 4 := by
    rw [zf_bt, zf_in]
    congr 1
    exact decide_eq_decide.mpr (by omega)
  rw [e] at hbx
  have yl := zq_lt0 y
  have yg := zq_gt y (n := 3) (by omega)
  have zl' := zq_lt0 z
  have zg := zq_gt z (n := 40) (by omega)
  cases c : zf_in x.toInt 4 with
  | false =>
    rw [c] at hbx
    have h1 := fun d P => sc_trayNo (d := d) (Lh := Lh) (I := I) (J := J) (P := P) c
    refine zQ_D (m := m) ⟨.int (-2), I, J, zx_u I 138 0 (nI 0), J, fun d P => ?_, fun d P => ?_, zScr_s (zFs_0 _ _)⟩ v (Nat.le_refl m)
    · rw [ze_143]
      simp (disch := omega) only [↓zs_143_0, ↓zs_143_1, ↓zs_143_2, ↓zs_143_5, ↓zs_143_5N, ↓zs_143_7, ↓zs_143_7N, ↓zs_143_9, ↓zs_143_9N, ↓zs_143_12, ↓zs_143_13, ↓zs_143_16, ↓zs_143_17, ↓zs_143_18, ↓zs_143_21, ↓zs_143_23, ↓zs_143_24, ↓zs_143_25, ↓zs_143_28, ↓zs_143_29, ↓zs_143_31, ↓zs_143_34, ↓zs_143_36, ↓zs_143_37, ↓zs_143_37N, ↓zs_143_39, ↓zs_143_40, ↓zs_143_41, ↓zs_143_44, ↓zs_143_45, zx_pu_s, zx_pu_n, zx_rv_s, zx_rv_n, true_and, and_true, true_or, or_true, zb_0, zb_1, zq_lcl, zq_lcg, zq_lce, eq_self, ite_true, ite_false, zk_0, zw_0, zq_0_0, zq_0_1, zq_0_2, zq_0_3, zq_0_4, zq_0_5, zq_0_6, zq_0_7, zq_0_8, zq_0_9, zq_0_10, zq_0_11, h1]
    · rw [ze_264]
      simp (disch := omega) only [↓zs_264_0, ↓zs_264_1, ↓zs_264_2, ↓zs_264_5, ↓zs_264_6, ↓zs_264_7, ↓zs_264_8, ↓zs_264_11, ↓zs_264_14, ↓zs_264_17, ↓zs_264_18, ↓zs_264_19, ↓zs_264_20, ↓zs_264_23, ↓zs_264_26, ↓zs_264_29, ↓zs_264_31, ↓zs_264_32, ↓zs_264_33, ↓zs_264_34, ↓zs_264_35, ↓zs_264_38, ↓zs_264_41, ↓zs_264_44, ↓zs_264_46, ↓zs_264_47, ↓zs_264_48, ↓zs_264_51, ↓zs_264_52, ↓zs_264_53, ↓zs_264_54, ↓zs_264_55, ↓zs_264_58, ↓zs_264_59, ↓zs_264_60, ↓zs_264_61, ↓zs_264_62, zx_pu_s, zx_pu_n, zx_rv_s, zx_rv_n, true_and, and_true, true_or, or_true, zb_0, zb_1, zq_lcl, zq_lcg, zq_lce, eq_self, ite_true, ite_false, zk_138, zw_138, zk_139, zw_139, zk_140, zw_140, zk_141, zw_141, zk_142, zw_142, zk_143, zw_143, zk_144, zw_144, zk_145, zw_145, zk_146, zw_146, zk_147, zw_147, zk_148, zw_148, zk_149, zw_149, zk_150, zw_150, zk_151, zw_151, zk_152, zw_152, zq_138_1, zq_138_2, zq_138_3, zq_138_4, zq_138_16, zq_138_19, zq_138_20, zq_138_24, zq_138_25, zq_138_26, zq_138_27, zq_138_31, zq_138_32, zq_138_33, hbx, zB_0]
  | true =>
    rw [c] at hbx
    have ex := zq_toI (x := x) rfl c (by omega)
    have ht : x.toInt.toNat < 4 := by have := zf_inP.mp c; omega
    generalize x.toInt.toNat = t at ex ht
    subst ex
    obtain ⟨k1, k2, k3, k4, k5, k6⟩ := zTr_k Lh ht
    have h1 := fun d P => sc_trayAt (d := d) (Lh := Lh) (I := I) (J := J) (P := P) ht
    have l5 : (102 + 2 * t < 5000) = True := eq_true (by omega)
    cases cy : zf_bt 0 3 y.toInt with
    | false =>
      rw [cy] at hby
      refine zQ_D (m := m) ⟨.int (-2), I, J, zx_u I 138 0 (nI 0), J, fun d P => ?_, fun d P => ?_, zScr_s (zFs_0 _ _)⟩ v (Nat.le_refl m)
      · rw [ze_143]
        rcases zf_bt_no cy with q | ⟨q1, q2⟩
        · simp (disch := omega) only [↓zs_143_0, ↓zs_143_1, ↓zs_143_2, ↓zs_143_5, ↓zs_143_5N, ↓zs_143_7, ↓zs_143_7N, ↓zs_143_9, ↓zs_143_9N, ↓zs_143_12, ↓zs_143_13, ↓zs_143_16, ↓zs_143_17, ↓zs_143_18, ↓zs_143_21, ↓zs_143_23, ↓zs_143_24, ↓zs_143_25, ↓zs_143_28, ↓zs_143_29, ↓zs_143_31, ↓zs_143_34, ↓zs_143_36, ↓zs_143_37, ↓zs_143_37N, ↓zs_143_39, ↓zs_143_40, ↓zs_143_41, ↓zs_143_44, ↓zs_143_45, zx_pu_s, zx_pu_n, zx_rv_s, zx_rv_n, true_and, and_true, true_or, or_true, zb_0, zb_1, zq_lcl, zq_lcg, zq_lce, eq_self, ite_true, ite_false, zk_0, zw_0, zq_0_0, zq_0_1, zq_0_2, zq_0_3, zq_0_4, zq_0_5, zq_0_6, zq_0_7, zq_0_8, zq_0_9, zq_0_10, zq_0_11, h1, l5, yl, q]
        · have q3 : ((3 : Nat) : Int) < y.toInt := q2
          simp (disch := omega) only [↓zs_143_0, ↓zs_143_1, ↓zs_143_2, ↓zs_143_5, ↓zs_143_5N, ↓zs_143_7, ↓zs_143_7N, ↓zs_143_9, ↓zs_143_9N, ↓zs_143_12, ↓zs_143_13, ↓zs_143_16, ↓zs_143_17, ↓zs_143_18, ↓zs_143_21, ↓zs_143_23, ↓zs_143_24, ↓zs_143_25, ↓zs_143_28, ↓zs_143_29, ↓zs_143_31, ↓zs_143_34, ↓zs_143_36, ↓zs_143_37, ↓zs_143_37N, ↓zs_143_39, ↓zs_143_40, ↓zs_143_41, ↓zs_143_44, ↓zs_143_45, zx_pu_s, zx_pu_n, zx_rv_s, zx_rv_n, true_and, and_true, true_or, or_true, zb_0, zb_1, zq_lcl, zq_lcg, zq_lce, eq_self, ite_true, ite_false, zk_0, zw_0, zq_0_0, zq_0_1, zq_0_2, zq_0_3, zq_0_4, zq_0_5, zq_0_6, zq_0_7, zq_0_8, zq_0_9, zq_0_10, zq_0_11, h1, l5, yl, q1, yg, q3]
      · rw [ze_264]
        simp (disch := omega) only [↓zs_264_0, ↓zs_264_1, ↓zs_264_2, ↓zs_264_5, ↓zs_264_6, ↓zs_264_7, ↓zs_264_8, ↓zs_264_11, ↓zs_264_14, ↓zs_264_17, ↓zs_264_18, ↓zs_264_19, ↓zs_264_20, ↓zs_264_23, ↓zs_264_26, ↓zs_264_29, ↓zs_264_31, ↓zs_264_32, ↓zs_264_33, ↓zs_264_34, ↓zs_264_35, ↓zs_264_38, ↓zs_264_41, ↓zs_264_44, ↓zs_264_46, ↓zs_264_47, ↓zs_264_48, ↓zs_264_51, ↓zs_264_52, ↓zs_264_53, ↓zs_264_54, ↓zs_264_55, ↓zs_264_58, ↓zs_264_59, ↓zs_264_60, ↓zs_264_61, ↓zs_264_62, zx_pu_s, zx_pu_n, zx_rv_s, zx_rv_n, true_and, and_true, true_or, or_true, zb_0, zb_1, zq_lcl, zq_lcg, zq_lce, eq_self, ite_true, ite_false, zk_138, zw_138, zk_139, zw_139, zk_140, zw_140, zk_141, zw_141, zk_142, zw_142, zk_143, zw_143, zk_144, zw_144, zk_145, zw_145, zk_146, zw_146, zk_147, zw_147, zk_148, zw_148, zk_149, zw_149, zk_150, zw_150, zk_151, zw_151, zk_152, zw_152, zq_138_1, zq_138_2, zq_138_3, zq_138_4, zq_138_16, zq_138_19, zq_138_20, zq_138_24, zq_138_25, zq_138_26, zq_138_27, zq_138_31, zq_138_32, zq_138_33, hbx, hby, zB_0, reduceCtorEq]
    | true =>
      rw [cy] at hby
      obtain ⟨s, -, hs, rfl⟩ := zf_bt_nI cy (by omega)
      have a1 : ¬ 3 < s := by omega
      cases cz : zf_bt 0 40 z.toInt with
      | false =>
        rw [cz] at hbz
        refine zQ_D (m := m) ⟨.int (-3), I, J, zx_u I 138 0 (nI 0), J, fun d P => ?_, fun d P => ?_, zScr_s (zFs_0 _ _)⟩ v (Nat.le_refl m)
        · rw [ze_143]
          rcases zf_bt_no cz with q | ⟨q1, q2⟩
          · simp (disch := omega) only [↓zs_143_0, ↓zs_143_1, ↓zs_143_2, ↓zs_143_5, ↓zs_143_5N, ↓zs_143_7, ↓zs_143_7N, ↓zs_143_9, ↓zs_143_9N, ↓zs_143_12, ↓zs_143_13, ↓zs_143_16, ↓zs_143_17, ↓zs_143_18, ↓zs_143_21, ↓zs_143_23, ↓zs_143_24, ↓zs_143_25, ↓zs_143_28, ↓zs_143_29, ↓zs_143_31, ↓zs_143_34, ↓zs_143_36, ↓zs_143_37, ↓zs_143_37N, ↓zs_143_39, ↓zs_143_40, ↓zs_143_41, ↓zs_143_44, ↓zs_143_45, zx_pu_s, zx_pu_n, zx_rv_s, zx_rv_n, true_and, and_true, true_or, or_true, zb_0, zb_1, zq_lcl, zq_lcg, zq_lce, eq_self, ite_true, ite_false, zk_0, zw_0, zq_0_0, zq_0_1, zq_0_2, zq_0_3, zq_0_4, zq_0_5, zq_0_6, zq_0_7, zq_0_8, zq_0_9, zq_0_10, zq_0_11, nI_ltI, zn_lt0, h1, l5, a1, zl', q]
          · have q3 : ((40 : Nat) : Int) < z.toInt := q2
            simp (disch := omega) only [↓zs_143_0, ↓zs_143_1, ↓zs_143_2, ↓zs_143_5, ↓zs_143_5N, ↓zs_143_7, ↓zs_143_7N, ↓zs_143_9, ↓zs_143_9N, ↓zs_143_12, ↓zs_143_13, ↓zs_143_16, ↓zs_143_17, ↓zs_143_18, ↓zs_143_21, ↓zs_143_23, ↓zs_143_24, ↓zs_143_25, ↓zs_143_28, ↓zs_143_29, ↓zs_143_31, ↓zs_143_34, ↓zs_143_36, ↓zs_143_37, ↓zs_143_37N, ↓zs_143_39, ↓zs_143_40, ↓zs_143_41, ↓zs_143_44, ↓zs_143_45, zx_pu_s, zx_pu_n, zx_rv_s, zx_rv_n, true_and, and_true, true_or, or_true, zb_0, zb_1, zq_lcl, zq_lcg, zq_lce, eq_self, ite_true, ite_false, zk_0, zw_0, zq_0_0, zq_0_1, zq_0_2, zq_0_3, zq_0_4, zq_0_5, zq_0_6, zq_0_7, zq_0_8, zq_0_9, zq_0_10, zq_0_11, nI_ltI, zn_lt0, h1, l5, a1, zl', q1, zg, q3]
        · rw [ze_264]
          simp (disch := omega) only [↓zs_264_0, ↓zs_264_1, ↓zs_264_2, ↓zs_264_5, ↓zs_264_6, ↓zs_264_7, ↓zs_264_8, ↓zs_264_11, ↓zs_264_14, ↓zs_264_17, ↓zs_264_18, ↓zs_264_19, ↓zs_264_20, ↓zs_264_23, ↓zs_264_26, ↓zs_264_29, ↓zs_264_31, ↓zs_264_32, ↓zs_264_33, ↓zs_264_34, ↓zs_264_35, ↓zs_264_38, ↓zs_264_41, ↓zs_264_44, ↓zs_264_46, ↓zs_264_47, ↓zs_264_48, ↓zs_264_51, ↓zs_264_52, ↓zs_264_53, ↓zs_264_54, ↓zs_264_55, ↓zs_264_58, ↓zs_264_59, ↓zs_264_60, ↓zs_264_61, ↓zs_264_62, zx_pu_s, zx_pu_n, zx_rv_s, zx_rv_n, true_and, and_true, true_or, or_true, zb_0, zb_1, zq_lcl, zq_lcg, zq_lce, eq_self, ite_true, ite_false, zk_138, zw_138, zk_139, zw_139, zk_140, zw_140, zk_141, zw_141, zk_142, zw_142, zk_143, zw_143, zk_144, zw_144, zk_145, zw_145, zk_146, zw_146, zk_147, zw_147, zk_148, zw_148, zk_149, zw_149, zk_150, zw_150, zk_151, zw_151, zk_152, zw_152, zq_138_1, zq_138_2, zq_138_3, zq_138_4, zq_138_16, zq_138_19, zq_138_20, zq_138_24, zq_138_25, zq_138_26, zq_138_27, zq_138_31, zq_138_32, zq_138_33, hbx, hby, hbz, zB_0, reduceCtorEq]
      | true =>
        rw [cz] at hbz
        obtain ⟨n, -, hn, rfl⟩ := zf_bt_nI cz (by omega)
        have a2 : ¬ 40 < n := by omega
        have k5' : zx_wr (zx_LL Lh) (102 + 2 * t) = True := eq_true k5
        have k6' : zx_wr (zx_LL Lh) (103 + 2 * t) = True := eq_true k6
        have e40 : Int32.ofNat 40 = nI 40 := rfl
        obtain ⟨I1, hI1⟩ : ∃ I1, I1 = zx_u (zx_u (zx_u I (102 + 2 * t) 1 (nI 1)) (102 + 2 * t) 2 (nI s)) (102 + 2 * t) 3 (nI n) := ⟨_, rfl⟩
        have lc : ∀ mm i J1, i + mm = 40 → (∀ a j, ¬ (a = 103 + 2 * t ∧ j < 40) → J1 a j = J a j) → (∀ j, j < i → J1 (103 + 2 * t) j = lN 0) → ∃ J2, (∀ a j, ¬ (a = 103 + 2 * t ∧ j < 40) → J2 a j = J a j) ∧ (∀ j, j < 40 → J2 (103 + 2 * t) j = lN 0) ∧ ∀ d P, zx_wp d 86 17 [.ref (102 + 2 * t), .int (nI s), .int (nI n), .int (nI i)] [] (zx_LL Lh) I1 J1 P = P none (zx_LL Lh) I1 J2 := by
          intro mm
          induction mm with
          | zero =>
            intro i J1 hi f g
            obtain rfl : i = 40 := by omega
            refine ⟨J1, f, g, fun d P => ?_⟩
            rw [zs_86_17]
            simp (disch := omega) only [↓zs_86_0, ↓zs_86_1, ↓zs_86_2, ↓zs_86_5, ↓zs_86_6, ↓zs_86_7, ↓zs_86_10, ↓zs_86_11, ↓zs_86_12, ↓zs_86_15, ↓zs_86_16, ↓zs_86_18, ↓zs_86_19, ↓zs_86_22, ↓zs_86_23, ↓zs_86_26, ↓zs_86_27, ↓zs_86_30, ↓zs_86_31, ↓zs_86_32, ↓zs_86_33, ↓zs_86_36, ↓zs_86_39, zx_pu_s, zx_pu_n, zx_rv_s, zx_rv_n, true_and, and_true, true_or, or_true, zb_0, zb_1, zq_lcl, zq_lcg, zq_lce, eq_self, ite_true, ite_false, zn_10, zn_40, zn_040, zn_340, nI_add, zin_nI, nI_clamp, nI_ltI, nI_eq, pk_mul, nI_1, Nat.lt_irrefl, k1, k2, k3, e40]
          | succ mm ih =>
            intro i J1 hi f g
            have hlt : i < 40 := by omega
            obtain ⟨J2, f2, g2, h2⟩ := ih (i + 1) (zx_u J1 (103 + 2 * t) i (lN 0)) (by omega) (fun a j h => by rw [zu_n (by omega)]; exact f a j h) (fun j hj => by
              by_cases q : j = i
              · rw [q, zu_s]
              · rw [zu_n (by omega)]; exact g j (by omega))
            refine ⟨J2, f2, g2, fun d P => ?_⟩
            rw [← h2 d P, zs_86_17]
            simp (disch := omega) only [↓zs_86_0, ↓zs_86_1, ↓zs_86_2, ↓zs_86_5, ↓zs_86_6, ↓zs_86_7, ↓zs_86_10, ↓zs_86_11, ↓zs_86_12, ↓zs_86_15, ↓zs_86_16, ↓zs_86_18, ↓zs_86_19, ↓zs_86_22, ↓zs_86_23, ↓zs_86_26, ↓zs_86_27, ↓zs_86_30, ↓zs_86_31, ↓zs_86_32, ↓zs_86_33, ↓zs_86_36, ↓zs_86_39, zx_pu_s, zx_pu_n, zx_rv_s, zx_rv_n, true_and, and_true, true_or, or_true, zb_0, zb_1, zq_lcl, zq_lcg, zq_lce, eq_self, ite_true, ite_false, zn_10, zn_40, zn_040, zn_340, nI_add, zin_nI, nI_clamp, nI_ltI, nI_eq, pk_mul, nI_1, Nat.lt_irrefl, k1, k2, k3, k6', e40, hlt]
        obtain ⟨J1, f1, g1, hc⟩ := lc 40 0 J rfl (fun _ _ _ => rfl) (fun j hj => absurd hj (Nat.not_lt_zero j))
        have hren : ∀ d P, zx_rn d 86 [.ref (102 + 2 * t), .int (nI s), .int (nI n)] (zx_LL Lh) I J P = P none (zx_LL Lh) I1 J1 := by
          intro d P
          rw [← hc d P, ze_86, hI1]
          simp (disch := omega) only [↓zs_86_0, ↓zs_86_1, ↓zs_86_2, ↓zs_86_5, ↓zs_86_6, ↓zs_86_7, ↓zs_86_10, ↓zs_86_11, ↓zs_86_12, ↓zs_86_15, ↓zs_86_16, zx_pu_s, zx_pu_n, zx_rv_s, zx_rv_n, true_and, and_true, true_or, or_true, zb_0, zb_1, zq_lcl, zq_lcg, zq_lce, eq_self, ite_true, ite_false, k1, k5']
        obtain ⟨I2, hI2⟩ : ∃ I2, I2 = zx_u (zx_u (zx_u I1 138 0 (nI 0)) 150 t (nI s)) 151 t (nI n) := ⟨_, rfl⟩
        have lm : ∀ mm i J2, i + mm = n → (∀ a j, ¬ (a = 152 ∧ 40 * t ≤ j ∧ j < 40 * t + n) → J2 a j = J1 a j) → (∀ j, j < i → J2 152 (40 * t + j) = lN 0) → ∃ J3, (∀ a j, ¬ (a = 152 ∧ 40 * t ≤ j ∧ j < 40 * t + n) → J3 a j = J1 a j) ∧ (∀ j, j < n → J3 152 (40 * t + j) = lN 0) ∧ ∀ d P, zx_wp d 264 64 [.ref 138, .int (nI t), .int (nI s), .int (nI n), .int (nI i)] [] (zx_LL Lh) I2 J2 P = P (some (.int (nI 0))) (zx_LL Lh) I2 J3 := by
          intro mm
          induction mm with
          | zero =>
            intro i J2 hi f g
            obtain rfl : i = n := by omega
            refine ⟨J2, f, g, fun d P => ?_⟩
            rw [zs_264_64]
            simp (disch := omega) only [↓zs_264_66, ↓zs_264_67, ↓zs_264_70, ↓zs_264_71, ↓zs_264_74, ↓zs_264_76, ↓zs_264_77, ↓zs_264_78, ↓zs_264_80, ↓zs_264_81, ↓zs_264_82, ↓zs_264_83, ↓zs_264_86, ↓zs_264_89, ↓zs_264_90, zx_pu_s, zx_pu_n, zx_rv_s, zx_rv_n, true_and, and_true, true_or, or_true, zb_0, zb_1, zq_lcl, zq_lcg, zq_lce, eq_self, ite_true, ite_false, zk_138, zw_138, zk_139, zw_139, zk_140, zw_140, zk_141, zw_141, zk_142, zw_142, zk_143, zw_143, zk_144, zw_144, zk_145, zw_145, zk_146, zw_146, zk_147, zw_147, zk_148, zw_148, zk_149, zw_149, zk_150, zw_150, zk_151, zw_151, zk_152, zw_152, zq_138_1, zq_138_2, zq_138_3, zq_138_4, zq_138_16, zq_138_19, zq_138_20, zq_138_24, zq_138_25, zq_138_26, zq_138_27, zq_138_31, zq_138_32, zq_138_33, zn_10, zn_40, zn_040, zn_340, nI_add, zin_nI, nI_clamp, nI_ltI, nI_eq, pk_mul, nI_1, Nat.lt_irrefl]
          | succ mm ih =>
            intro i J2 hi f g
            have hlt : i < n := by omega
            have hp : 40 * t + i < 160 := by omega
            obtain ⟨J3, f2, g2, h2⟩ := ih (i + 1) (zx_u J2 152 (40 * t + i) (lN 0)) (by omega) (fun a j h => by rw [zu_n (by omega)]; exact f a j h) (fun j hj => by
              by_cases q : j = i
              · rw [q, zu_s]
              · rw [zu_n (by omega)]; exact g j (by omega))
            refine ⟨J3, f2, g2, fun d P => ?_⟩
            rw [← h2 d P, zs_264_64]
            simp (disch := omega) only [↓zs_264_66, ↓zs_264_67, ↓zs_264_70, ↓zs_264_71, ↓zs_264_74, ↓zs_264_76, ↓zs_264_77, ↓zs_264_78, ↓zs_264_80, ↓zs_264_81, ↓zs_264_82, ↓zs_264_83, ↓zs_264_86, ↓zs_264_89, ↓zs_264_90, zx_pu_s, zx_pu_n, zx_rv_s, zx_rv_n, true_and, and_true, true_or, or_true, zb_0, zb_1, zq_lcl, zq_lcg, zq_lce, eq_self, ite_true, ite_false, zk_138, zw_138, zk_139, zw_139, zk_140, zw_140, zk_141, zw_141, zk_142, zw_142, zk_143, zw_143, zk_144, zw_144, zk_145, zw_145, zk_146, zw_146, zk_147, zw_147, zk_148, zw_148, zk_149, zw_149, zk_150, zw_150, zk_151, zw_151, zk_152, zw_152, zq_138_1, zq_138_2, zq_138_3, zq_138_4, zq_138_16, zq_138_19, zq_138_20, zq_138_24, zq_138_25, zq_138_26, zq_138_27, zq_138_31, zq_138_32, zq_138_33, zn_10, zn_40, zn_040, zn_340, nI_add, zin_nI, nI_clamp, nI_ltI, nI_eq, pk_mul, nI_1, Nat.lt_irrefl, hlt]
        obtain ⟨J3, f3, g3, hcm⟩ := lm n 0 J1 (by omega) (fun _ _ _ => rfl) (fun j hj => absurd hj (Nat.not_lt_zero j))
        refine ⟨.int (nI 0), I1, J1, I2, J3, fun d P => ?_, fun d P => ?_, ?_⟩
        · rw [ze_143]
          simp (disch := omega) only [↓zs_143_0, ↓zs_143_1, ↓zs_143_2, ↓zs_143_5, ↓zs_143_5N, ↓zs_143_7, ↓zs_143_7N, ↓zs_143_9, ↓zs_143_9N, ↓zs_143_12, ↓zs_143_13, ↓zs_143_16, ↓zs_143_17, ↓zs_143_18, ↓zs_143_21, ↓zs_143_23, ↓zs_143_24, ↓zs_143_25, ↓zs_143_28, ↓zs_143_29, ↓zs_143_31, ↓zs_143_34, ↓zs_143_36, ↓zs_143_37, ↓zs_143_37N, ↓zs_143_39, ↓zs_143_40, ↓zs_143_41, ↓zs_143_44, ↓zs_143_45, zx_pu_s, zx_pu_n, zx_rv_s, zx_rv_n, true_and, and_true, true_or, or_true, zb_0, zb_1, zq_lcl, zq_lcg, zq_lce, eq_self, ite_true, ite_false, zk_0, zw_0, zq_0_0, zq_0_1, zq_0_2, zq_0_3, zq_0_4, zq_0_5, zq_0_6, zq_0_7, zq_0_8, zq_0_9, zq_0_10, zq_0_11, nI_ltI, zn_lt0, h1, l5, a1, a2, k1, hren]
        · rw [← hcm (d + 30) P, ze_264, hI2]
          simp (disch := omega) only [↓zs_264_0, ↓zs_264_1, ↓zs_264_2, ↓zs_264_5, ↓zs_264_6, ↓zs_264_7, ↓zs_264_8, ↓zs_264_11, ↓zs_264_14, ↓zs_264_17, ↓zs_264_18, ↓zs_264_19, ↓zs_264_20, ↓zs_264_23, ↓zs_264_26, ↓zs_264_29, ↓zs_264_31, ↓zs_264_32, ↓zs_264_33, ↓zs_264_34, ↓zs_264_35, ↓zs_264_38, ↓zs_264_41, ↓zs_264_44, ↓zs_264_46, ↓zs_264_47, ↓zs_264_48, ↓zs_264_51, ↓zs_264_52, ↓zs_264_53, ↓zs_264_54, ↓zs_264_55, ↓zs_264_58, ↓zs_264_59, ↓zs_264_60, ↓zs_264_61, ↓zs_264_62, zx_pu_s, zx_pu_n, zx_rv_s, zx_rv_n, true_and, and_true, true_or, or_true, zb_0, zb_1, zq_lcl, zq_lcg, zq_lce, eq_self, ite_true, ite_false, zk_138, zw_138, zk_139, zw_139, zk_140, zw_140, zk_141, zw_141, zk_142, zw_142, zk_143, zw_143, zk_144, zw_144, zk_145, zw_145, zk_146, zw_146, zk_147, zw_147, zk_148, zw_148, zk_149, zw_149, zk_150, zw_150, zk_151, zw_151, zk_152, zw_152, zq_138_1, zq_138_2, zq_138_3, zq_138_4, zq_138_16, zq_138_19, zq_138_20, zq_138_24, zq_138_25, zq_138_26, zq_138_27, zq_138_31, zq_138_32, zq_138_33, zn_10, zn_40, zn_040, zn_340, nI_add, zin_nI, nI_clamp, nI_ltI, nI_eq, pk_mul, nI_1, Nat.lt_irrefl, hbx, hby, hbz, zB_0, reduceCtorEq]
        · refine zInv_tr v (fun a j q => ?_) (fun a j q => ?_) ?_
          · unfold zSc at q
            rw [hI2, zu_n (by omega), zu_n (by omega), zu_n (by omega), hI1, zu_n (by omega), zu_n (by omega), zu_n (by omega)]
          · rw [f3 a j (by omega), f1 a j (by omega)]
          · intro t2 ht2
            by_cases q : t2 = t
            · subst q
              refine .inr ⟨s, n, by omega, hn, ?_, ?_, ?_, ?_, ?_, fun i hi => ?_⟩
              · rw [hI2, zu_n (by omega), zu_s]
              · rw [hI2, zu_s]
              · rw [hI2, zu_n (by omega), zu_n (by omega), zu_n (by omega), hI1, zu_n (by omega), zu_n (by omega), zu_s]
              · rw [hI2, zu_n (by omega), zu_n (by omega), zu_n (by omega), hI1, zu_n (by omega), zu_s]
              · rw [hI2, zu_n (by omega), zu_n (by omega), zu_n (by omega), hI1, zu_s]
              · rw [g3 i hi, f3 _ _ (by omega), g1 i (by omega)]
            · have b0 : I2 150 t2 = I 150 t2 := by rw [hI2, zu_n (by omega), zu_n (by omega), zu_n (by omega), hI1, zu_n (by omega), zu_n (by omega), zu_n (by omega)]
              have b1 : I2 151 t2 = I 151 t2 := by rw [hI2, zu_n (by omega), zu_n (by omega), zu_n (by omega), hI1, zu_n (by omega), zu_n (by omega), zu_n (by omega)]
              have b2 : I2 (102 + 2 * t2) = I (102 + 2 * t2) := by rw [hI2, zu_o (by omega), zu_o (by omega), zu_o (by omega), hI1, zu_o (by omega), zu_o (by omega), zu_o (by omega)]
              rw [b0, b1, b2]
              rcases hT t2 ht2 with ⟨f9, f8⟩ | ⟨s2, nn2, q1, q2, q3, q4, q5, q6, q7, q8⟩
              · exact .inl ⟨f9, f8⟩
              · refine .inr ⟨s2, nn2, q1, q2, q3, q4, q5, q6, q7, fun i hi => ?_⟩
                rw [f3 _ _ (by omega), f1 _ _ (by omega), f3 _ _ (by omega), f1 _ _ (by omega)]
                exact q8 i hi
end TRY
