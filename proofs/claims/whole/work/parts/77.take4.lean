/-! the smallest set, the model's search; takeDown -/
section TN
variable {Lh m : Nat} {I : zx_MI} {J : zx_MJ}
theorem sp_smallest {k z r : Nat} {B : Nat → Int32} (si : zx_SI I) (hB : I 139 = B) (v : zV B m) (hm : m < 2 ^ 29) (hk : k < 64) (hr : (r = 109 ∧ z = 1) ∨ (r = 125 ∧ z = 0)) : ∃ I2, zScr I J I2 J ∧ ∀ d P, zx_rn (d + 8) 252 [.ref 138, .int (nI k), .int (nI z)] (zx_LL Lh) I J P = P (some (.int (zf_oi (zf_min (zf_gd r B k) (2 ^ zn B) 0 none)))) (zx_LL Lh) I2 J := by
  have N8 : zn B ≤ 8 := v.1.1.2.2.2.2.2
  have h3B : B 3 = nI (zn B) := v.1.1.2.2.1
  have hH : 2 ^ zn B ≤ 256 := Nat.pow_le_pow_right (n := 2) (by decide) N8
  have hsh := zq_shl1 (s := zn B) (by omega)
  generalize hHe : 2 ^ zn B = H at *
  obtain ⟨I1, f1, g1, h1⟩ := sp_keepsAhead (Lh := Lh) (I := I) (J := J)
  rw [hB] at g1
  have loop : ∀ mm a b I2, a + mm = H → zFm I1 I2 → I2 139 = B → (∀ c, b = some c → c < 256) → ∃ I3, zFm I1 I3 ∧ I3 139 = B ∧ ∀ d P v5 v6, zx_wp (d + 8) 252 9 [.ref 138, .int (nI k), .int (nI z), .int (zf_oi b), .int (nI a), v5, v6] [] (zx_LL Lh) I2 J P = P (some (.int (zf_oi (zf_min (zf_gd r B k) mm a b)))) (zx_LL Lh) I3 J := by
    intro mm
    induction mm with
    | zero =>
      intro a b I2 ha f eB hb
      have e3 : I2 139 3 = nI (zn B) := by rw [eB]; exact h3B
      obtain rfl : a = H := by omega
      refine ⟨I2, f, eB, fun d P v5 v6 => ?_⟩
      rw [zs_252_9]
      simp (disch := omega) only [↓zs_252_11, ↓zs_252_12, ↓zs_252_13, ↓zs_252_16, ↓zs_252_17, ↓zs_252_18, ↓zs_252_19, ↓zs_252_22, ↓zs_252_23, ↓zs_252_24, ↓zs_252_27, ↓zs_252_29, ↓zs_252_30, ↓zs_252_33, ↓zs_252_34, ↓zs_252_35, ↓zs_252_38, ↓zs_252_41, ↓zs_252_42, ↓zs_252_45, ↓zs_252_46, ↓zs_252_48, ↓zs_252_49, ↓zs_252_192, ↓zs_252_193, zx_pu_s, zx_pu_n, zx_rv_s, zx_rv_n, true_and, and_true, true_or, or_true, zb_0, zb_1, zq_lcl, zq_lcg, zq_lce, eq_self, ite_true, ite_false, zk_138, zw_138, zk_139, zw_139, zk_140, zw_140, zk_141, zw_141, zk_142, zw_142, zk_143, zw_143, zk_144, zw_144, zk_145, zw_145, zk_146, zw_146, zk_147, zw_147, zk_148, zw_148, zk_149, zw_149, zk_150, zw_150, zk_151, zw_151, zk_152, zw_152, zq_138_1, zq_138_2, zq_138_3, zq_138_4, zq_138_16, zq_138_19, zq_138_20, zq_138_24, zq_138_25, zq_138_26, zq_138_27, zq_138_31, zq_138_32, zq_138_33, zin_nI, nI_clamp, nI_ltI, Nat.lt_irrefl, e3, hsh]
      rfl
    | succ mm ih =>
      intro a b I2 ha f eB hb
      have e3 : I2 139 3 = nI (zn B) := by rw [eB]; exact h3B
      have hlt : a < H := by omega
      have a256 : a < 256 := by omega
      have bits : ∀ a, a < 256 → ∀ d P, zx_rn (d + 1) 196 [.long (nI a).toInt64] (zx_LL Lh) I2 J P = P (some (.int (nI (zf_pop a)))) (zx_LL Lh) I2 J := fun a ha d P => by
        rw [zq_lon (by omega), sp_bits, zf_bit_n (by omega), zf_pop64 ha]
      have head : ∀ d P v5 v6, zx_wp (d + 8) 252 9 [.ref 138, .int (nI k), .int (nI z), .int (zf_oi b), .int (nI a), v5, v6] [] (zx_LL Lh) I2 J P = zx_wp (d + 8) 252 51 [.ref 138, .int (nI k), .int (nI z), .int (zf_oi b), .int (nI a), .int (zB (decide (zf_pop a < zf_pc b))), .int (nI 0)] [] (zx_LL Lh) I2 J P := by
        intro d P v5 v6
        have hp := zf_pop_le a
        cases b with
        | none =>
          have o1 : zf_oi none = -1 := rfl
          have o2 : decide (zf_pop a < zf_pc none) = true := decide_eq_true (show zf_pop a < 9 by omega)
          rw [o1, o2, zs_252_9]
          simp (disch := omega) only [↓zs_252_11, ↓zs_252_12, ↓zs_252_13, ↓zs_252_16, ↓zs_252_17, ↓zs_252_18, ↓zs_252_19, ↓zs_252_22, ↓zs_252_23, ↓zs_252_24, ↓zs_252_27, ↓zs_252_29, ↓zs_252_30, ↓zs_252_33, ↓zs_252_34, ↓zs_252_35, ↓zs_252_38, ↓zs_252_41, ↓zs_252_42, ↓zs_252_45, ↓zs_252_46, ↓zs_252_48, ↓zs_252_49, zx_pu_s, zx_pu_n, zx_rv_s, zx_rv_n, true_and, and_true, true_or, or_true, zb_0, zb_1, zq_lcl, zq_lcg, zq_lce, eq_self, ite_true, ite_false, zk_138, zw_138, zk_139, zw_139, zk_140, zw_140, zk_141, zw_141, zk_142, zw_142, zk_143, zw_143, zk_144, zw_144, zk_145, zw_145, zk_146, zw_146, zk_147, zw_147, zk_148, zw_148, zk_149, zw_149, zk_150, zw_150, zk_151, zw_151, zk_152, zw_152, zq_138_1, zq_138_2, zq_138_3, zq_138_4, zq_138_16, zq_138_19, zq_138_20, zq_138_24, zq_138_25, zq_138_26, zq_138_27, zq_138_31, zq_138_32, zq_138_33, zin_nI, nI_clamp, nI_ltI, hlt, e3, hsh]
          rfl
        | some c =>
          have hc := hb c rfl
          have hpc := zf_pop_le c
          have o1 : zf_oi (some c) = nI c := rfl
          have o2 : zf_pc (some c) = zf_pop c := rfl
          have m1 : (nI c = -1) = False := zq_m1 (by omega)
          have b1 := bits a a256
          have b2 := bits c hc
          rw [o1, o2, zs_252_9]
          by_cases c1 : zf_pop a < zf_pop c
          · rw [decide_eq_true c1]
            simp (disch := omega) only [↓zs_252_11, ↓zs_252_12, ↓zs_252_13, ↓zs_252_16, ↓zs_252_17, ↓zs_252_18, ↓zs_252_19, ↓zs_252_22, ↓zs_252_23, ↓zs_252_24, ↓zs_252_27, ↓zs_252_29, ↓zs_252_30, ↓zs_252_33, ↓zs_252_34, ↓zs_252_35, ↓zs_252_38, ↓zs_252_41, ↓zs_252_42, ↓zs_252_45, ↓zs_252_46, ↓zs_252_48, ↓zs_252_49, zx_pu_s, zx_pu_n, zx_rv_s, zx_rv_n, true_and, and_true, true_or, or_true, zb_0, zb_1, zq_lcl, zq_lcg, zq_lce, eq_self, ite_true, ite_false, zk_138, zw_138, zk_139, zw_139, zk_140, zw_140, zk_141, zw_141, zk_142, zw_142, zk_143, zw_143, zk_144, zw_144, zk_145, zw_145, zk_146, zw_146, zk_147, zw_147, zk_148, zw_148, zk_149, zw_149, zk_150, zw_150, zk_151, zw_151, zk_152, zw_152, zq_138_1, zq_138_2, zq_138_3, zq_138_4, zq_138_16, zq_138_19, zq_138_20, zq_138_24, zq_138_25, zq_138_26, zq_138_27, zq_138_31, zq_138_32, zq_138_33, zin_nI, nI_clamp, nI_ltI, hlt, e3, hsh, m1, b1, b2, c1]
            rfl
          · rw [decide_eq_false c1]
            simp (disch := omega) only [↓zs_252_11, ↓zs_252_12, ↓zs_252_13, ↓zs_252_16, ↓zs_252_17, ↓zs_252_18, ↓zs_252_19, ↓zs_252_22, ↓zs_252_23, ↓zs_252_24, ↓zs_252_27, ↓zs_252_29, ↓zs_252_30, ↓zs_252_33, ↓zs_252_34, ↓zs_252_35, ↓zs_252_38, ↓zs_252_41, ↓zs_252_42, ↓zs_252_45, ↓zs_252_46, ↓zs_252_48, ↓zs_252_49, zx_pu_s, zx_pu_n, zx_rv_s, zx_rv_n, true_and, and_true, true_or, or_true, zb_0, zb_1, zq_lcl, zq_lcg, zq_lce, eq_self, ite_true, ite_false, zk_138, zw_138, zk_139, zw_139, zk_140, zw_140, zk_141, zw_141, zk_142, zw_142, zk_143, zw_143, zk_144, zw_144, zk_145, zw_145, zk_146, zw_146, zk_147, zw_147, zk_148, zw_148, zk_149, zw_149, zk_150, zw_150, zk_151, zw_151, zk_152, zw_152, zq_138_1, zq_138_2, zq_138_3, zq_138_4, zq_138_16, zq_138_19, zq_138_20, zq_138_24, zq_138_25, zq_138_26, zq_138_27, zq_138_31, zq_138_32, zq_138_33, zin_nI, nI_clamp, nI_ltI, hlt, e3, hsh, m1, b1, b2, c1]
            rfl
      have ok2 := sp_setOk (Lh := Lh) (I := I2) (J := J) (k := k) (z := z) (x3 := zf_oi b) a256 eB h3B N8 (zn B) 0 (decide (zf_pop a < zf_pc b)) (by omega)
      unfold zf_min
      cases c : (decide (zf_pop a < zf_pc b) && zf_vd k a B (zn B) 0) with
      | false =>
        have cg : (decide (zf_pop a < zf_pc b) && zf_gd r B k a) = false := by
          unfold zf_gd
          rw [← Bool.and_assoc, c, Bool.false_and]
        rw [c] at ok2
        rw [cg, if_neg (by decide)]
        obtain ⟨I3, f3, e9, h9⟩ := ih (a + 1) b I2 (by omega) f eB hb
        refine ⟨I3, f3, e9, fun d P v5 v6 => ?_⟩
        rw [← h9 d P (.int (zB false)) (.int (nI (zn B))), head, ok2]
        simp (disch := omega) only [↓zs_252_112, ↓zs_252_114, ↓zs_252_117, ↓zs_252_120, ↓zs_252_121, ↓zs_252_186, ↓zs_252_189, zx_pu_s, zx_pu_n, zx_rv_s, zx_rv_n, true_and, and_true, true_or, or_true, zb_0, zb_1, zq_lcl, zq_lcg, zq_lce, eq_self, ite_true, ite_false, zk_138, zw_138, zk_139, zw_139, zk_140, zw_140, zk_141, zw_141, zk_142, zw_142, zk_143, zw_143, zk_144, zw_144, zk_145, zw_145, zk_146, zw_146, zk_147, zw_147, zk_148, zw_148, zk_149, zw_149, zk_150, zw_150, zk_151, zw_151, zk_152, zw_152, zq_138_1, zq_138_2, zq_138_3, zq_138_4, zq_138_16, zq_138_19, zq_138_20, zq_138_24, zq_138_25, zq_138_26, zq_138_27, zq_138_31, zq_138_32, zq_138_33, zB_0, reduceCtorEq, nI_add]
      | true =>
        have c' := c
        rw [Bool.and_eq_true] at c'
        have cg : (decide (zf_pop a < zf_pc b) && zf_gd r B k a) = decide (zf_wat (zf_rm r a (zn B) 0 B) (zw B) (zh B) (zn B) k = 0) := by
          unfold zf_gd
          rw [c'.1, c'.2, Bool.true_and, Bool.true_and]
        rw [c] at ok2
        rw [cg]
        have hr' : r = 109 ∨ r = 125 := by omega
        obtain ⟨vR, sR⟩ := zf_rm_V (r := r) (a := a) hr' (zn B) 0 B m v (by omega) (by omega) (fun i h1 h2 h3 => (zf_vd_st _ _ c'.2 i h1 h2 h3).1)
        obtain ⟨I3, f3, r3, h4⟩ := sp_setRm (Lh := Lh) (I := I2) (J := J) (k := k) (x3 := zf_oi b) (x5 := zB true) a256 N8 hr (zn B) 0 B I2 (by omega) (zFm_r _) eB h3B
        obtain ⟨e1, e2, e4, -⟩ := zSm_k sR
        have okR := vR.1
        rw [e1, e2, e4] at okR
        have si1 : zx_SI I1 := fun a j ha => by rw [f1 a (by omega)]; exact si a j ha
        obtain ⟨I4, f4, h5⟩ := sp_isFree (Lh := Lh) (J := J) (I := I3) (w := zw B) (h := zh B) (N := zn B) (zFm_si f3 (zFm_si f si1)) (by rw [r3]; exact okR) hk
        rw [r3, zf_wat_0, Bool.not_not] at h5
        have f14 : zFm I1 I4 := zFm_t (zFm_t f f3) (zFs_m f4)
        have e139 : I4 139 = zf_rm r a (zn B) 0 B := by rw [zFs_139 f4, r3]
        have eback : zf_back (I4 139) (I4 145) = B := zf_back_eq (by rw [e139]; exact sR) (fun j hj => by rw [zFm_row f14 (by decide) (by decide) (by decide)]; exact g1 j hj)
        have hah := fun d P => sp_isAhead (Lh := Lh) (I := I4) (J := J) (d := d) (P := P)
        rw [eback] at hah
        have f15 : zFm I1 (zx_ur I4 139 B) := zFm_t f14 (fun a j n => by rw [zr_o (by omega)])
        cases cw : decide (zf_wat (zf_rm r a (zn B) 0 B) (zw B) (zh B) (zn B) k = 0) with
        | false =>
          rw [cw] at h5
          rw [if_neg (by decide)]
          obtain ⟨I9, f9, e9, h9⟩ := ih (a + 1) b (zx_ur I4 139 B) (by omega) f15 (zr_s _ _ _) hb
          refine ⟨I9, f9, e9, fun d P v5 v6 => ?_⟩
          rw [← h9 d P (.int (zB true)) (.int (nI (zn B))), head, ok2]
          simp (disch := omega) only [↓zs_252_112, ↓zs_252_114, ↓zs_252_117, ↓zs_252_120, ↓zs_252_121, zx_pu_s, zx_pu_n, zx_rv_s, zx_rv_n, true_and, and_true, true_or, or_true, zb_0, zb_1, zq_lcl, zq_lcg, zq_lce, eq_self, ite_true, ite_false, zk_138, zw_138, zk_139, zw_139, zk_140, zw_140, zk_141, zw_141, zk_142, zw_142, zk_143, zw_143, zk_144, zw_144, zk_145, zw_145, zk_146, zw_146, zk_147, zw_147, zk_148, zw_148, zk_149, zw_149, zk_150, zw_150, zk_151, zw_151, zk_152, zw_152, zq_138_1, zq_138_2, zq_138_3, zq_138_4, zq_138_16, zq_138_19, zq_138_20, zq_138_24, zq_138_25, zq_138_26, zq_138_27, zq_138_31, zq_138_32, zq_138_33, zB_0, reduceCtorEq]
          rw [h4]
          simp (disch := omega) only [↓zs_252_171, ↓zs_252_172, ↓zs_252_173, ↓zs_252_176, ↓zs_252_179, ↓zs_252_181, ↓zs_252_182, ↓zs_252_183, ↓zs_252_186, ↓zs_252_189, zx_pu_s, zx_pu_n, zx_rv_s, zx_rv_n, true_and, and_true, true_or, or_true, zb_0, zb_1, zq_lcl, zq_lcg, zq_lce, eq_self, ite_true, ite_false, zk_138, zw_138, zk_139, zw_139, zk_140, zw_140, zk_141, zw_141, zk_142, zw_142, zk_143, zw_143, zk_144, zw_144, zk_145, zw_145, zk_146, zw_146, zk_147, zw_147, zk_148, zw_148, zk_149, zw_149, zk_150, zw_150, zk_151, zw_151, zk_152, zw_152, zq_138_1, zq_138_2, zq_138_3, zq_138_4, zq_138_16, zq_138_19, zq_138_20, zq_138_24, zq_138_25, zq_138_26, zq_138_27, zq_138_31, zq_138_32, zq_138_33, zB_0, reduceCtorEq, h5, hah, nI_add]
        | true =>
          rw [cw] at h5
          rw [if_pos rfl]
          obtain ⟨I9, f9, e9, h9⟩ := ih (a + 1) (some a) (zx_ur I4 139 B) (by omega) f15 (zr_s _ _ _) (fun c e => by have := Option.some.inj e; omega)
          have o1 : zf_oi (some a) = nI a := rfl
          rw [o1] at h9
          refine ⟨I9, f9, e9, fun d P v5 v6 => ?_⟩
          rw [← h9 d P (.int (zB true)) (.int (nI (zn B))), head, ok2]
          simp (disch := omega) only [↓zs_252_112, ↓zs_252_114, ↓zs_252_117, ↓zs_252_120, ↓zs_252_121, zx_pu_s, zx_pu_n, zx_rv_s, zx_rv_n, true_and, and_true, true_or, or_true, zb_0, zb_1, zq_lcl, zq_lcg, zq_lce, eq_self, ite_true, ite_false, zk_138, zw_138, zk_139, zw_139, zk_140, zw_140, zk_141, zw_141, zk_142, zw_142, zk_143, zw_143, zk_144, zw_144, zk_145, zw_145, zk_146, zw_146, zk_147, zw_147, zk_148, zw_148, zk_149, zw_149, zk_150, zw_150, zk_151, zw_151, zk_152, zw_152, zq_138_1, zq_138_2, zq_138_3, zq_138_4, zq_138_16, zq_138_19, zq_138_20, zq_138_24, zq_138_25, zq_138_26, zq_138_27, zq_138_31, zq_138_32, zq_138_33, zB_0, reduceCtorEq]
          rw [h4]
          simp (disch := omega) only [↓zs_252_171, ↓zs_252_172, ↓zs_252_173, ↓zs_252_176, ↓zs_252_179, ↓zs_252_181, ↓zs_252_182, ↓zs_252_183, ↓zs_252_186, ↓zs_252_189, zx_pu_s, zx_pu_n, zx_rv_s, zx_rv_n, true_and, and_true, true_or, or_true, zb_0, zb_1, zq_lcl, zq_lcg, zq_lce, eq_self, ite_true, ite_false, zk_138, zw_138, zk_139, zw_139, zk_140, zw_140, zk_141, zw_141, zk_142, zw_142, zk_143, zw_143, zk_144, zw_144, zk_145, zw_145, zk_146, zw_146, zk_147, zw_147, zk_148, zw_148, zk_149, zw_149, zk_150, zw_150, zk_151, zw_151, zk_152, zw_152, zq_138_1, zq_138_2, zq_138_3, zq_138_4, zq_138_16, zq_138_19, zq_138_20, zq_138_24, zq_138_25, zq_138_26, zq_138_27, zq_138_31, zq_138_32, zq_138_33, zB_0, reduceCtorEq, h5, hah, nI_add]
  obtain ⟨I3, f3, e9, h9⟩ := loop H 0 none I1 (by omega) (zFm_r _) (by rw [f1 139 (by decide)]; exact hB) (fun c e => by cases e)
  refine ⟨I3, zScr_i (fun a j n => ?_), fun d P => ?_⟩
  · by_cases w : a = 139
    · subst w; rw [e9, hB]
    · unfold zSc at n
      rw [f3 a j (by omega), f1 a (by omega)]
  · rw [ze_252]
    simp (disch := omega) only [↓zs_252_0, ↓zs_252_1, ↓zs_252_2, ↓zs_252_3, ↓zs_252_6, ↓zs_252_7, zx_pu_s, zx_pu_n, zx_rv_s, zx_rv_n, true_and, and_true, true_or, or_true, zb_0, zb_1, zq_lcl, zq_lcg, zq_lce, eq_self, ite_true, ite_false, zk_138, zw_138, zk_139, zw_139, zk_140, zw_140, zk_141, zw_141, zk_142, zw_142, zk_143, zw_143, zk_144, zw_144, zk_145, zw_145, zk_146, zw_146, zk_147, zw_147, zk_148, zw_148, zk_149, zw_149, zk_150, zw_150, zk_151, zw_151, zk_152, zw_152, zq_138_1, zq_138_2, zq_138_3, zq_138_4, zq_138_16, zq_138_19, zq_138_20, zq_138_24, zq_138_25, zq_138_26, zq_138_27, zq_138_31, zq_138_32, zq_138_33, h1]
    exact h9 d P _ _
end TN
