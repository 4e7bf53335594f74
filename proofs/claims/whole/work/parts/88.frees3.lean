/-! frees, the model's search -/
def zf_fo5 (c f : Nat) : Int32 := if c = 0 then -1 else nI f
section FM
variable {Lh m : Nat} {I : zx_MI} {J : zx_MJ} {B : Nat → Int32}
theorem sp_freesN {q k z : Nat} {x4 x5 x6 x7 : Int32} {I0 : zx_MI} {R : Nat → Int32} (v : zV R m) (hm : m + 70 < 2 ^ 30) (hk : k ≤ 60) : ∀ mm i I2, i + mm = k → zFm I0 I2 → I2 139 = zf_ni R i → ∃ I3, zFm I0 I3 ∧ I3 139 = zf_ni R k ∧ ∀ d P, zx_wp (d + 30) 257 109 [.ref 138, .int (nI q), .int (nI k), .int (nI z), .int x4, .int x5, .int x6, .int x7, .int (nI i)] [] (zx_LL Lh) I2 J P = zx_wp (d + 30) 257 126 [.ref 138, .int (nI q), .int (nI k), .int (nI z), .int x4, .int x5, .int x6, .int x7, .int (nI k)] [] (zx_LL Lh) I3 J P := by
  intro mm
  induction mm with
  | zero =>
    intro i I2 hi f e
    obtain rfl : i = k := by omega
    refine ⟨I2, f, e, fun d P => ?_⟩
    rw [zs_257_109]
    simp (disch := omega) only [↓zs_257_111, ↓zs_257_112, ↓zs_257_115, ↓zs_257_116, ↓zs_257_119, ↓zs_257_120, ↓zs_257_123, zx_pu_s, zx_pu_n, zx_rv_s, zx_rv_n, true_and, and_true, true_or, or_true, zb_0, zb_1, zq_lcl, zq_lcg, zq_lce, eq_self, ite_true, ite_false, nI_ltI, Nat.lt_irrefl]
  | succ mm ih =>
    intro i I2 hi f e
    have hlt : i < k := by omega
    obtain ⟨I3, f3, r3, -, -, h3⟩ := sp_nightN (Lh := Lh) (J := J) (n := i) v (by omega) f e
    obtain ⟨I4, f4, r4, h4⟩ := ih (i + 1) I3 (by omega) f3 r3
    refine ⟨I4, f4, r4, fun d P => ?_⟩
    rw [← h4 d P, zs_257_109]
    simp (disch := omega) only [↓zs_257_111, ↓zs_257_112, ↓zs_257_115, ↓zs_257_116, ↓zs_257_119, ↓zs_257_120, ↓zs_257_123, zx_pu_s, zx_pu_n, zx_rv_s, zx_rv_n, true_and, and_true, true_or, or_true, zb_0, zb_1, zq_lcl, zq_lcg, zq_lce, eq_self, ite_true, ite_false, zk_138, zw_138, zk_139, zw_139, zk_140, zw_140, zk_141, zw_141, zk_142, zw_142, zk_143, zw_143, zk_144, zw_144, zk_145, zw_145, zk_146, zw_146, zk_147, zw_147, zk_148, zw_148, zk_149, zw_149, zk_150, zw_150, zk_151, zw_151, zk_152, zw_152, zq_138_1, zq_138_2, zq_138_3, zq_138_4, zq_138_16, zq_138_19, zq_138_20, zq_138_24, zq_138_25, zq_138_26, zq_138_27, zq_138_31, zq_138_32, zq_138_33, nI_ltI, nI_add, hlt, h3]
theorem sp_freesT {q k z s : Nat} {I1 : zx_MI} (si : zx_SI I1) (v : zV B m) (hm : m < 2 ^ 29) (hq : q < 64) (hk : k ≤ 60) (hs : s < zn B) (g1 : ∀ j, j < 25 → I1 145 j = B (109 + j)) : ∀ mm t c f I2, t + mm = zn B → c + mm ≤ 100 → zFm I1 I2 → I2 139 = B → ∃ I3, zFm I1 I3 ∧ I3 139 = B ∧ ∀ d P v8, ∃ w8, zx_wp (d + 30) 257 69 [.ref 138, .int (nI q), .int (nI k), .int (nI z), .int (nI c), .int (zf_fo5 c f), .int (nI s), .int (nI t), v8] [] (zx_LL Lh) I2 J P = zx_wp (d + 30) 257 174 [.ref 138, .int (nI q), .int (nI k), .int (nI z), .int (nI (zf_fd (zf_fg B q k) mm (10 * s + t) c f).1), .int (zf_fo5 (zf_fd (zf_fg B q k) mm (10 * s + t) c f).1 (zf_fd (zf_fg B q k) mm (10 * s + t) c f).2), .int (nI s), .int (nI (zn B)), w8] [] (zx_LL Lh) I3 J P := by
  have N8 : zn B ≤ 8 := v.1.1.2.2.2.2.2
  intro mm
  induction mm with
  | zero =>
    intro t c f I2 ht hc fr eB
    have e3 : I2 139 3 = nI (zn B) := by rw [eB]; exact v.1.1.2.2.1
    refine ⟨I2, fr, eB, fun d P v8 => ⟨v8, ?_⟩⟩
    rw [zs_257_69, show t = zn B by omega]
    simp (disch := omega) only [↓zs_257_71, ↓zs_257_72, ↓zs_257_75, ↓zs_257_76, ↓zs_257_77, ↓zs_257_80, ↓zs_257_81, ↓zs_257_83, ↓zs_257_85, ↓zs_257_88, ↓zs_257_91, ↓zs_257_94, ↓zs_257_95, ↓zs_257_98, ↓zs_257_100, ↓zs_257_102, ↓zs_257_103, ↓zs_257_105, ↓zs_257_106, ↓zs_257_107, zx_pu_s, zx_pu_n, zx_rv_s, zx_rv_n, true_and, and_true, true_or, or_true, zb_0, zb_1, zq_lcl, zq_lcg, zq_lce, eq_self, ite_true, ite_false, zk_138, zw_138, zk_139, zw_139, zk_140, zw_140, zk_141, zw_141, zk_142, zw_142, zk_143, zw_143, zk_144, zw_144, zk_145, zw_145, zk_146, zw_146, zk_147, zw_147, zk_148, zw_148, zk_149, zw_149, zk_150, zw_150, zk_151, zw_151, zk_152, zw_152, zq_138_1, zq_138_2, zq_138_3, zq_138_4, zq_138_16, zq_138_19, zq_138_20, zq_138_24, zq_138_25, zq_138_26, zq_138_27, zq_138_31, zq_138_32, zq_138_33, zin_nI, nI_clamp, nI_ltI, Nat.lt_irrefl, e3]
    rfl
  | succ mm ih =>
    intro t c f I2 ht hc fr eB
    have e3 : I2 139 3 = nI (zn B) := by rw [eB]; exact v.1.1.2.2.1
    have hlt : t < zn B := by omega
    have hcan := fun d P => sp_canTurn (Lh := Lh) (J := J) (d := d) (P := P) eB hs hlt N8
    have d10 : (10 * s + t) / 10 = s := by omega
    have m10 : (10 * s + t) % 10 = t := by omega
    unfold zf_fd
    cases c1 : zf_fr B s t with
    | false =>
      have cg : zf_fg B q k (10 * s + t) = false := by unfold zf_fg; rw [d10, m10, c1, Bool.false_and]
      rw [c1] at hcan
      rw [cg, if_neg (by decide)]
      obtain ⟨I3, f3, e9, h9⟩ := ih (t + 1) c f I2 (by omega) (by omega) fr eB
      refine ⟨I3, f3, e9, fun d P v8 => ?_⟩
      obtain ⟨w8, h10⟩ := h9 d P v8
      refine ⟨w8, ?_⟩
      rw [show 10 * s + t + 1 = 10 * s + (t + 1) by omega, ← h10, zs_257_69]
      simp (disch := omega) only [↓zs_257_71, ↓zs_257_72, ↓zs_257_75, ↓zs_257_76, ↓zs_257_77, ↓zs_257_80, ↓zs_257_81, ↓zs_257_83, ↓zs_257_85, ↓zs_257_88, ↓zs_257_91, ↓zs_257_94, ↓zs_257_95, ↓zs_257_98, ↓zs_257_100, ↓zs_257_102, ↓zs_257_103, ↓zs_257_105, ↓zs_257_106, ↓zs_257_107, ↓zs_257_168, ↓zs_257_171, zx_pu_s, zx_pu_n, zx_rv_s, zx_rv_n, true_and, and_true, true_or, or_true, zb_0, zb_1, zq_lcl, zq_lcg, zq_lce, eq_self, ite_true, ite_false, zk_138, zw_138, zk_139, zw_139, zk_140, zw_140, zk_141, zw_141, zk_142, zw_142, zk_143, zw_143, zk_144, zw_144, zk_145, zw_145, zk_146, zw_146, zk_147, zw_147, zk_148, zw_148, zk_149, zw_149, zk_150, zw_150, zk_151, zw_151, zk_152, zw_152, zq_138_1, zq_138_2, zq_138_3, zq_138_4, zq_138_16, zq_138_19, zq_138_20, zq_138_24, zq_138_25, zq_138_26, zq_138_27, zq_138_31, zq_138_32, zq_138_33, zin_nI, nI_clamp, nI_ltI, nI_add, hlt, e3, hcan, zB_0, reduceCtorEq]
    | true =>
      rw [c1] at hcan
      have w0 : zf_wL B s t = 0 := by
        unfold zf_fr at c1
        rw [Bool.and_eq_true, decide_eq_true_iff] at c1
        exact c1.1
      obtain ⟨v1, s1⟩ := zf_fo_V v (by omega) w0
      have er : (zx_u I2 139 (125 + s) (nI t)) 139 = zf_ni (zf_fo B s t) 0 := by rw [zu_r, zr_s, eB]; rfl
      have fu : zFm I1 (zx_u I2 139 (125 + s) (nI t)) := zFm_t fr (fun a j n => zu_n (by omega))
      obtain ⟨I3, f3, r3, h3⟩ := sp_freesN (Lh := Lh) (J := J) (q := q) (z := z) (x4 := nI c) (x5 := zf_fo5 c f) (x6 := nI s) (x7 := nI t) (I0 := I1) v1 (by omega) hk k 0 (zx_u I2 139 (125 + s) (nI t)) (by omega) fu er
      obtain ⟨okn, gn, en, sn⟩ := zf_ni_ok v1 k (by omega)
      obtain ⟨e1, e2, e4, -⟩ := zSm_k s1
      rw [e1, e2, e4] at okn
      have sT := zSm_t s1 sn
      obtain ⟨I4, f4, h4⟩ := sp_isFree (Lh := Lh) (J := J) (I := I3) (zFm_si f3 si) (by rw [r3]; exact okn) hq
      rw [r3, zf_wat_0, Bool.not_not] at h4
      have f14 : zFm I1 I4 := zFm_t f3 (zFs_m f4)
      have e139 : I4 139 = zf_ni (zf_fo B s t) k := by rw [zFs_139 f4, r3]
      have eback : zf_back (I4 139) (I4 145) = B := zf_back_eq (by rw [e139]; exact sT) (fun j hj => by rw [zFm_row f14 (by decide) (by decide) (by decide)]; exact g1 j hj)
      have hah := fun d P => sp_isAhead (Lh := Lh) (I := I4) (J := J) (d := d) (P := P)
      rw [eback] at hah
      have f15 : zFm I1 (zx_ur I4 139 B) := zFm_t f14 (fun a j n => by rw [zr_o (by omega)])
      have cg : zf_fg B q k (10 * s + t) = decide (zf_wat (zf_ni (zf_fo B s t) k) (zw B) (zh B) (zn B) q = 0) := by unfold zf_fg; rw [d10, m10, c1, Bool.true_and]
      rw [cg]
      cases cw : decide (zf_wat (zf_ni (zf_fo B s t) k) (zw B) (zh B) (zn B) q = 0) with
      | false =>
        rw [cw] at h4
        rw [if_neg (by decide)]
        obtain ⟨I9, f9, e9, h9⟩ := ih (t + 1) c f (zx_ur I4 139 B) (by omega) (by omega) f15 (zr_s _ _ _)
        refine ⟨I9, f9, e9, fun d P v8 => ?_⟩
        obtain ⟨w8, h10⟩ := h9 d P (.int (zB false))
        refine ⟨w8, ?_⟩
        rw [show 10 * s + t + 1 = 10 * s + (t + 1) by omega, ← h10, zs_257_69]
        simp (disch := omega) only [↓zs_257_71, ↓zs_257_72, ↓zs_257_75, ↓zs_257_76, ↓zs_257_77, ↓zs_257_80, ↓zs_257_81, ↓zs_257_83, ↓zs_257_85, ↓zs_257_88, ↓zs_257_91, ↓zs_257_94, ↓zs_257_95, ↓zs_257_98, ↓zs_257_100, ↓zs_257_102, ↓zs_257_103, ↓zs_257_105, ↓zs_257_106, ↓zs_257_107, zx_pu_s, zx_pu_n, zx_rv_s, zx_rv_n, true_and, and_true, true_or, or_true, zb_0, zb_1, zq_lcl, zq_lcg, zq_lce, eq_self, ite_true, ite_false, zk_138, zw_138, zk_139, zw_139, zk_140, zw_140, zk_141, zw_141, zk_142, zw_142, zk_143, zw_143, zk_144, zw_144, zk_145, zw_145, zk_146, zw_146, zk_147, zw_147, zk_148, zw_148, zk_149, zw_149, zk_150, zw_150, zk_151, zw_151, zk_152, zw_152, zq_138_1, zq_138_2, zq_138_3, zq_138_4, zq_138_16, zq_138_19, zq_138_20, zq_138_24, zq_138_25, zq_138_26, zq_138_27, zq_138_31, zq_138_32, zq_138_33, zin_nI, nI_clamp, nI_ltI, nI_add, hlt, e3, hcan, zB_0, reduceCtorEq]
        rw [h3]
        simp (disch := omega) only [↓zs_257_126, ↓zs_257_127, ↓zs_257_128, ↓zs_257_131, ↓zs_257_133, ↓zs_257_134, ↓zs_257_137, ↓zs_257_139, ↓zs_257_142, ↓zs_257_145, ↓zs_257_147, ↓zs_257_150, ↓zs_257_152, ↓zs_257_154, ↓zs_257_155, ↓zs_257_157, ↓zs_257_158, ↓zs_257_161, ↓zs_257_163, ↓zs_257_165, ↓zs_257_168, ↓zs_257_171, zx_pu_s, zx_pu_n, zx_rv_s, zx_rv_n, true_and, and_true, true_or, or_true, zb_0, zb_1, zq_lcl, zq_lcg, zq_lce, eq_self, ite_true, ite_false, zk_138, zw_138, zk_139, zw_139, zk_140, zw_140, zk_141, zw_141, zk_142, zw_142, zk_143, zw_143, zk_144, zw_144, zk_145, zw_145, zk_146, zw_146, zk_147, zw_147, zk_148, zw_148, zk_149, zw_149, zk_150, zw_150, zk_151, zw_151, zk_152, zw_152, zq_138_1, zq_138_2, zq_138_3, zq_138_4, zq_138_16, zq_138_19, zq_138_20, zq_138_24, zq_138_25, zq_138_26, zq_138_27, zq_138_31, zq_138_32, zq_138_33, nI_add, h4, hah, zB_0, reduceCtorEq]
      | true =>
        rw [cw] at h4
        rw [if_pos rfl]
        obtain ⟨I9, f9, e9, h9⟩ := ih (t + 1) (c + 1) (if c = 0 then 10 * s + t else f) (zx_ur I4 139 B) (by omega) (by omega) f15 (zr_s _ _ _)
        refine ⟨I9, f9, e9, fun d P v8 => ?_⟩
        obtain ⟨w8, h10⟩ := h9 d P (.int (zB true))
        refine ⟨w8, ?_⟩
        rw [show 10 * s + t + 1 = 10 * s + (t + 1) by omega, ← h10, zs_257_69]
        simp (disch := omega) only [↓zs_257_71, ↓zs_257_72, ↓zs_257_75, ↓zs_257_76, ↓zs_257_77, ↓zs_257_80, ↓zs_257_81, ↓zs_257_83, ↓zs_257_85, ↓zs_257_88, ↓zs_257_91, ↓zs_257_94, ↓zs_257_95, ↓zs_257_98, ↓zs_257_100, ↓zs_257_102, ↓zs_257_103, ↓zs_257_105, ↓zs_257_106, ↓zs_257_107, zx_pu_s, zx_pu_n, zx_rv_s, zx_rv_n, true_and, and_true, true_or, or_true, zb_0, zb_1, zq_lcl, zq_lcg, zq_lce, eq_self, ite_true, ite_false, zk_138, zw_138, zk_139, zw_139, zk_140, zw_140, zk_141, zw_141, zk_142, zw_142, zk_143, zw_143, zk_144, zw_144, zk_145, zw_145, zk_146, zw_146, zk_147, zw_147, zk_148, zw_148, zk_149, zw_149, zk_150, zw_150, zk_151, zw_151, zk_152, zw_152, zq_138_1, zq_138_2, zq_138_3, zq_138_4, zq_138_16, zq_138_19, zq_138_20, zq_138_24, zq_138_25, zq_138_26, zq_138_27, zq_138_31, zq_138_32, zq_138_33, zin_nI, nI_clamp, nI_ltI, nI_add, hlt, e3, hcan, zB_0, reduceCtorEq]
        rw [h3]
        unfold zf_fo5
        by_cases c0 : c = 0
        · subst c0
          rw [if_pos rfl, if_neg (by omega), if_pos rfl]
          simp (disch := omega) only [↓zs_257_126, ↓zs_257_127, ↓zs_257_128, ↓zs_257_131, ↓zs_257_133, ↓zs_257_134, ↓zs_257_137, ↓zs_257_139, ↓zs_257_142, ↓zs_257_145, ↓zs_257_147, ↓zs_257_150, ↓zs_257_152, ↓zs_257_154, ↓zs_257_155, ↓zs_257_157, ↓zs_257_158, ↓zs_257_161, ↓zs_257_163, ↓zs_257_165, ↓zs_257_168, ↓zs_257_171, zx_pu_s, zx_pu_n, zx_rv_s, zx_rv_n, true_and, and_true, true_or, or_true, zb_0, zb_1, zq_lcl, zq_lcg, zq_lce, eq_self, ite_true, ite_false, zk_138, zw_138, zk_139, zw_139, zk_140, zw_140, zk_141, zw_141, zk_142, zw_142, zk_143, zw_143, zk_144, zw_144, zk_145, zw_145, zk_146, zw_146, zk_147, zw_147, zk_148, zw_148, zk_149, zw_149, zk_150, zw_150, zk_151, zw_151, zk_152, zw_152, zq_138_1, zq_138_2, zq_138_3, zq_138_4, zq_138_16, zq_138_19, zq_138_20, zq_138_24, zq_138_25, zq_138_26, zq_138_27, zq_138_31, zq_138_32, zq_138_33, nI_add, pk_mul, h4, hah, zB_0, reduceCtorEq]
        · have c0' : (nI c = nI 0) = False := zq_ne c0 (by omega) (by omega)
          rw [if_neg c0, if_neg (by omega), if_neg c0]
          simp (disch := omega) only [↓zs_257_126, ↓zs_257_127, ↓zs_257_128, ↓zs_257_131, ↓zs_257_133, ↓zs_257_134, ↓zs_257_137, ↓zs_257_139, ↓zs_257_142, ↓zs_257_145, ↓zs_257_147, ↓zs_257_150, ↓zs_257_152, ↓zs_257_154, ↓zs_257_155, ↓zs_257_157, ↓zs_257_158, ↓zs_257_161, ↓zs_257_163, ↓zs_257_165, ↓zs_257_168, ↓zs_257_171, zx_pu_s, zx_pu_n, zx_rv_s, zx_rv_n, true_and, and_true, true_or, or_true, zb_0, zb_1, zq_lcl, zq_lcg, zq_lce, eq_self, ite_true, ite_false, zk_138, zw_138, zk_139, zw_139, zk_140, zw_140, zk_141, zw_141, zk_142, zw_142, zk_143, zw_143, zk_144, zw_144, zk_145, zw_145, zk_146, zw_146, zk_147, zw_147, zk_148, zw_148, zk_149, zw_149, zk_150, zw_150, zk_151, zw_151, zk_152, zw_152, zq_138_1, zq_138_2, zq_138_3, zq_138_4, zq_138_16, zq_138_19, zq_138_20, zq_138_24, zq_138_25, zq_138_26, zq_138_27, zq_138_31, zq_138_32, zq_138_33, nI_add, pk_mul, h4, hah, zB_0, reduceCtorEq, c0']
end FM
