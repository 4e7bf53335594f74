/-! blocks, the call -/
theorem zM_ok_bk {B : Nat → Int32} {w h N p : Nat} {x : Int32} (hp : p < 64) (ok : zM_ok B w h N) : zM_ok (zu1 B (45 + p) x) w h N := by
  obtain ⟨⟨a1, a2, a3, a4⟩, b⟩ := ok
  refine ⟨⟨by rw [zu1_n (by omega)]; exact a1, by rw [zu1_n (by omega)]; exact a2, by rw [zu1_n (by omega)]; exact a3, a4⟩, fun s hs => ?_⟩
  rw [zu1_n (by omega), zu1_n (by omega), zu1_n (by omega)]
  exact b s hs
section BK
variable {Lh m : Nat} {I : zx_MI} {J : zx_MJ}
theorem sc_blockL {k W : Nat} (v : zInv I J m) (hk : k < 64) (hW : W < 256) {t : Int64} (ht : ∀ q, q < 64 → zf_bit t q = zf_ad (zf_taken (I 139) (zn (I 139))) k q) : ∀ mm s u, s + mm = zn (I 139) → ∀ d P, zx_wp (d + 30) 136 58 [.ref 0, .int (nI k), .int (nI W), .long t, zx_u0, .long u, zx_u0, .int (nI s)] [] (zx_LL Lh) I J P = P (some (.long (zf_bkC (I 139) (zw (I 139)) (zh (I 139)) (zn (I 139)) k W mm s u))) (zx_LL Lh) I J := by
  obtain ⟨⟨hw, hh, hN⟩, gr, g, ex, ok, N8, wh⟩ := zInv_k v
  intro mm
  induction mm with
  | zero =>
    intro s u hs d P
    have es : s = zn (I 139) := by omega
    rw [zs_136_58, es]
    simp (disch := omega) only [↓zs_136_0, ↓zs_136_1, ↓zs_136_4, ↓zs_136_5, ↓zs_136_8, ↓zs_136_11, ↓zs_136_14, ↓zs_136_15, ↓zs_136_16, ↓zs_136_19, ↓zs_136_20, ↓zs_136_23, ↓zs_136_24, ↓zs_136_27, ↓zs_136_28, ↓zs_136_29, ↓zs_136_32, ↓zs_136_33, ↓zs_136_34, ↓zs_136_35, ↓zs_136_38, ↓zs_136_39, ↓zs_136_42, ↓zs_136_45, ↓zs_136_46, ↓zs_136_47, ↓zs_136_48, ↓zs_136_49, ↓zs_136_50, ↓zs_136_53, ↓zs_136_55, ↓zs_136_56, ↓zs_136_60, ↓zs_136_61, ↓zs_136_64, ↓zs_136_67, ↓zs_136_70, ↓zs_136_71, ↓zs_136_73, ↓zs_136_74, ↓zs_136_75, ↓zs_136_76, ↓zs_136_79, ↓zs_136_81, ↓zs_136_82, ↓zs_136_85, ↓zs_136_86, ↓zs_136_89, ↓zs_136_91, ↓zs_136_92, ↓zs_136_95, ↓zs_136_96, ↓zs_136_98, ↓zs_136_101, ↓zs_136_104, ↓zs_136_106, zx_pu_s, zx_pu_n, zx_rv_s, zx_rv_n, true_and, and_true, true_or, or_true, zb_0, zb_1, zq_lcl, zq_lcg, zq_lce, eq_self, ite_true, ite_false, zk_0, zw_0, zk_1, zw_1, zq_0_0, zq_0_1, zq_0_2, zq_0_3, zq_0_4, zq_0_5, zq_0_6, zq_0_7, zq_0_8, zq_0_9, zq_0_10, zq_0_11, zq_1_0, zq_1_1, zq_1_2, zq_1_3, zq_1_4, zq_1_5, nI_ltI, Nat.lt_irrefl, hN]
    rfl
  | succ mm ih =>
    intro s u hs d P
    have hlt : s < zn (I 139) := by omega
    have h8 : s < 8 := by omega
    have hb := zq_ibit hW h8
    have hl := fun d P => sc_lookT (d := d) (Lh := Lh) (I := I) (J := J) (P := P) (s := s) t zx_sq1 zx_st11 v.1 h8 hw hh v.2.2.2.1 ok
    rw [zf_lookT_eq (fun q hq => ht q (by omega))] at hl
    have c10 : (nI 1 = nI 0) = False := eq_false (by decide)
    have i9 := fun u => ih (s + 1) u (by omega) d P
    rw [zf_bkC]
    cases c : W.testBit s with
    | false =>
      rw [c, if_neg (by decide)] at hb
      rw [if_neg (by decide), ← i9, zs_136_58]
      simp (disch := omega) only [↓zs_136_0, ↓zs_136_1, ↓zs_136_4, ↓zs_136_5, ↓zs_136_8, ↓zs_136_11, ↓zs_136_14, ↓zs_136_15, ↓zs_136_16, ↓zs_136_19, ↓zs_136_20, ↓zs_136_23, ↓zs_136_24, ↓zs_136_27, ↓zs_136_28, ↓zs_136_29, ↓zs_136_32, ↓zs_136_33, ↓zs_136_34, ↓zs_136_35, ↓zs_136_38, ↓zs_136_39, ↓zs_136_42, ↓zs_136_45, ↓zs_136_46, ↓zs_136_47, ↓zs_136_48, ↓zs_136_49, ↓zs_136_50, ↓zs_136_53, ↓zs_136_55, ↓zs_136_56, ↓zs_136_60, ↓zs_136_61, ↓zs_136_64, ↓zs_136_67, ↓zs_136_70, ↓zs_136_71, ↓zs_136_73, ↓zs_136_74, ↓zs_136_75, ↓zs_136_76, ↓zs_136_79, ↓zs_136_81, ↓zs_136_82, ↓zs_136_85, ↓zs_136_86, ↓zs_136_89, ↓zs_136_91, ↓zs_136_92, ↓zs_136_95, ↓zs_136_96, ↓zs_136_98, ↓zs_136_101, ↓zs_136_104, ↓zs_136_106, zx_pu_s, zx_pu_n, zx_rv_s, zx_rv_n, true_and, and_true, true_or, or_true, zb_0, zb_1, zq_lcl, zq_lcg, zq_lce, eq_self, ite_true, ite_false, zk_0, zw_0, zk_1, zw_1, zq_0_0, zq_0_1, zq_0_2, zq_0_3, zq_0_4, zq_0_5, zq_0_6, zq_0_7, zq_0_8, zq_0_9, zq_0_10, zq_0_11, zq_1_0, zq_1_1, zq_1_2, zq_1_3, zq_1_4, zq_1_5, nI_ltI, nI_add, hlt, hN, hb]
    | true =>
      rw [c, if_pos rfl] at hb
      rw [if_pos rfl, ← i9, zs_136_58]
      simp (disch := omega) only [↓zs_136_0, ↓zs_136_1, ↓zs_136_4, ↓zs_136_5, ↓zs_136_8, ↓zs_136_11, ↓zs_136_14, ↓zs_136_15, ↓zs_136_16, ↓zs_136_19, ↓zs_136_20, ↓zs_136_23, ↓zs_136_24, ↓zs_136_27, ↓zs_136_28, ↓zs_136_29, ↓zs_136_32, ↓zs_136_33, ↓zs_136_34, ↓zs_136_35, ↓zs_136_38, ↓zs_136_39, ↓zs_136_42, ↓zs_136_45, ↓zs_136_46, ↓zs_136_47, ↓zs_136_48, ↓zs_136_49, ↓zs_136_50, ↓zs_136_53, ↓zs_136_55, ↓zs_136_56, ↓zs_136_60, ↓zs_136_61, ↓zs_136_64, ↓zs_136_67, ↓zs_136_70, ↓zs_136_71, ↓zs_136_73, ↓zs_136_74, ↓zs_136_75, ↓zs_136_76, ↓zs_136_79, ↓zs_136_81, ↓zs_136_82, ↓zs_136_85, ↓zs_136_86, ↓zs_136_89, ↓zs_136_91, ↓zs_136_92, ↓zs_136_95, ↓zs_136_96, ↓zs_136_98, ↓zs_136_101, ↓zs_136_104, ↓zs_136_106, zx_pu_s, zx_pu_n, zx_rv_s, zx_rv_n, true_and, and_true, true_or, or_true, zb_0, zb_1, zq_lcl, zq_lcg, zq_lce, eq_self, ite_true, ite_false, zk_0, zw_0, zk_1, zw_1, zq_0_0, zq_0_1, zq_0_2, zq_0_3, zq_0_4, zq_0_5, zq_0_6, zq_0_7, zq_0_8, zq_0_9, zq_0_10, zq_0_11, zq_1_0, zq_1_1, zq_1_2, zq_1_3, zq_1_4, zq_1_5, zk_11, zw_11, zq_11_0, zq_11_1, zq_11_2, nI_ltI, nI_add, hlt, hN, hb, c10, hl]
theorem sp_blockL {k w h N : Nat} {B : Nat → Int32} {I1 : zx_MI} (si : zx_SI I1) (ok : zM_ok B w h N) (hk : k < 64) : ∀ mm p u I2, p + mm = w * h → zFm I1 I2 → I2 139 = B → ∃ I3, zFm I1 I3 ∧ I3 139 = B ∧ ∀ d P, zx_wp (d + 30) 255 33 [.ref 138, .int (nI k), .long u, zx_u0, .int (nI p)] [] (zx_LL Lh) I2 J P = P (some (.long (zf_bkM B w h N k mm p u))) (zx_LL Lh) I3 J := by
  have wh : w * h ≤ 64 := Nat.mul_le_mul ok.1.2.2.2.1 ok.1.2.2.2.2.1
  have N8 : N ≤ 8 := ok.1.2.2.2.2.2
  intro mm
  induction mm with
  | zero =>
    intro p u I2 hp f eB
    have e1 : I2 139 1 = nI w := by rw [eB]; exact ok.1.1
    have e2 : I2 139 2 = nI h := by rw [eB]; exact ok.1.2.1
    have hst := fun d P => sp_stones (d := d) (Lh := Lh) (J := J) (P := P) e1 e2
    refine ⟨I2, f, eB, fun d P => ?_⟩
    rw [zs_255_33, show p = w * h by omega]
    simp (disch := omega) only [↓zs_255_0, ↓zs_255_1, ↓zs_255_2, ↓zs_255_5, ↓zs_255_6, ↓zs_255_7, ↓zs_255_8, ↓zs_255_11, ↓zs_255_14, ↓zs_255_17, ↓zs_255_18, ↓zs_255_19, ↓zs_255_20, ↓zs_255_23, ↓zs_255_26, ↓zs_255_27, ↓zs_255_28, ↓zs_255_29, ↓zs_255_30, ↓zs_255_31, ↓zs_255_35, ↓zs_255_36, ↓zs_255_39, ↓zs_255_42, ↓zs_255_44, ↓zs_255_45, ↓zs_255_48, ↓zs_255_49, ↓zs_255_51, ↓zs_255_54, ↓zs_255_57, ↓zs_255_60, ↓zs_255_61, ↓zs_255_64, ↓zs_255_66, ↓zs_255_68, ↓zs_255_69, ↓zs_255_71, ↓zs_255_72, ↓zs_255_73, ↓zs_255_74, ↓zs_255_77, ↓zs_255_80, ↓zs_255_81, ↓zs_255_82, ↓zs_255_84, ↓zs_255_85, ↓zs_255_86, ↓zs_255_87, ↓zs_255_88, ↓zs_255_91, ↓zs_255_93, ↓zs_255_95, ↓zs_255_96, ↓zs_255_97, ↓zs_255_98, ↓zs_255_101, ↓zs_255_104, ↓zs_255_105, zx_pu_s, zx_pu_n, zx_rv_s, zx_rv_n, true_and, and_true, true_or, or_true, zb_0, zb_1, zq_lcl, zq_lcg, zq_lce, eq_self, ite_true, ite_false, zk_138, zw_138, zk_139, zw_139, zk_140, zw_140, zk_141, zw_141, zk_142, zw_142, zk_143, zw_143, zk_144, zw_144, zk_145, zw_145, zk_146, zw_146, zk_147, zw_147, zk_148, zw_148, zk_149, zw_149, zk_150, zw_150, zk_151, zw_151, zk_152, zw_152, zq_138_1, zq_138_2, zq_138_3, zq_138_4, zq_138_16, zq_138_19, zq_138_20, zq_138_24, zq_138_25, zq_138_26, zq_138_27, zq_138_31, zq_138_32, zq_138_33, nI_ltI, Nat.lt_irrefl, hst]
    rfl
  | succ mm ih =>
    intro p u I2 hp f eB
    have hlt : p < w * h := by omega
    have e1 : I2 139 1 = nI w := by rw [eB]; exact ok.1.1
    have e2 : I2 139 2 = nI h := by rw [eB]; exact ok.1.2.1
    have e3 : I2 139 3 = nI N := by rw [eB]; exact ok.1.2.2.1
    have hst := fun d P => sp_stones (d := d) (Lh := Lh) (J := J) (P := P) e1 e2
    have htk : ∀ d P, zx_rn (d + 1) 187 [.ref 138, .int (nI p)] (zx_LL Lh) I2 J P = P (some (.int (zB (zf_taken B N p)))) (zx_LL Lh) I2 J := fun d P => by
      rw [sp_isTaken (show p < 64 by omega) N8 e3, eB]
      rfl
    rw [zf_bkM]
    by_cases c1 : p = k
    · have cP : zf_bkP B w h N k p = false := by unfold zf_bkP; rw [decide_eq_true c1]; rfl
      have c1' : (nI p = nI k) = True := eq_true (congrArg nI c1)
      obtain ⟨I3, f3, e9, h9⟩ := ih (p + 1) u I2 (by omega) f eB
      rw [cP, if_neg (by decide)]
      refine ⟨I3, f3, e9, fun d P => ?_⟩
      rw [← h9 d P, zs_255_33]
      simp (disch := omega) only [↓zs_255_0, ↓zs_255_1, ↓zs_255_2, ↓zs_255_5, ↓zs_255_6, ↓zs_255_7, ↓zs_255_8, ↓zs_255_11, ↓zs_255_14, ↓zs_255_17, ↓zs_255_18, ↓zs_255_19, ↓zs_255_20, ↓zs_255_23, ↓zs_255_26, ↓zs_255_27, ↓zs_255_28, ↓zs_255_29, ↓zs_255_30, ↓zs_255_31, ↓zs_255_35, ↓zs_255_36, ↓zs_255_39, ↓zs_255_42, ↓zs_255_44, ↓zs_255_45, ↓zs_255_48, ↓zs_255_49, ↓zs_255_51, ↓zs_255_54, ↓zs_255_57, ↓zs_255_60, ↓zs_255_61, ↓zs_255_64, ↓zs_255_66, ↓zs_255_68, ↓zs_255_69, ↓zs_255_71, ↓zs_255_72, ↓zs_255_73, ↓zs_255_74, ↓zs_255_77, ↓zs_255_80, ↓zs_255_81, ↓zs_255_82, ↓zs_255_84, ↓zs_255_85, ↓zs_255_86, ↓zs_255_87, ↓zs_255_88, ↓zs_255_91, ↓zs_255_93, ↓zs_255_95, ↓zs_255_96, ↓zs_255_97, ↓zs_255_98, ↓zs_255_101, ↓zs_255_104, ↓zs_255_105, zx_pu_s, zx_pu_n, zx_rv_s, zx_rv_n, true_and, and_true, true_or, or_true, zb_0, zb_1, zq_lcl, zq_lcg, zq_lce, eq_self, ite_true, ite_false, zk_138, zw_138, zk_139, zw_139, zk_140, zw_140, zk_141, zw_141, zk_142, zw_142, zk_143, zw_143, zk_144, zw_144, zk_145, zw_145, zk_146, zw_146, zk_147, zw_147, zk_148, zw_148, zk_149, zw_149, zk_150, zw_150, zk_151, zw_151, zk_152, zw_152, zq_138_1, zq_138_2, zq_138_3, zq_138_4, zq_138_16, zq_138_19, zq_138_20, zq_138_24, zq_138_25, zq_138_26, zq_138_27, zq_138_31, zq_138_32, zq_138_33, nI_ltI, nI_add, hst, hlt, c1']
    · have c1' : (nI p = nI k) = False := zq_ne c1 (by omega) (by omega)
      cases ct : zf_taken B N p with
      | true =>
        rw [ct] at htk
        have cP : zf_bkP B w h N k p = false := by unfold zf_bkP; rw [ct, Bool.not_true, Bool.and_false, Bool.false_and]
        obtain ⟨I3, f3, e9, h9⟩ := ih (p + 1) u I2 (by omega) f eB
        rw [cP, if_neg (by decide)]
        refine ⟨I3, f3, e9, fun d P => ?_⟩
        rw [← h9 d P, zs_255_33]
        simp (disch := omega) only [↓zs_255_0, ↓zs_255_1, ↓zs_255_2, ↓zs_255_5, ↓zs_255_6, ↓zs_255_7, ↓zs_255_8, ↓zs_255_11, ↓zs_255_14, ↓zs_255_17, ↓zs_255_18, ↓zs_255_19, ↓zs_255_20, ↓zs_255_23, ↓zs_255_26, ↓zs_255_27, ↓zs_255_28, ↓zs_255_29, ↓zs_255_30, ↓zs_255_31, ↓zs_255_35, ↓zs_255_36, ↓zs_255_39, ↓zs_255_42, ↓zs_255_44, ↓zs_255_45, ↓zs_255_48, ↓zs_255_49, ↓zs_255_51, ↓zs_255_54, ↓zs_255_57, ↓zs_255_60, ↓zs_255_61, ↓zs_255_64, ↓zs_255_66, ↓zs_255_68, ↓zs_255_69, ↓zs_255_71, ↓zs_255_72, ↓zs_255_73, ↓zs_255_74, ↓zs_255_77, ↓zs_255_80, ↓zs_255_81, ↓zs_255_82, ↓zs_255_84, ↓zs_255_85, ↓zs_255_86, ↓zs_255_87, ↓zs_255_88, ↓zs_255_91, ↓zs_255_93, ↓zs_255_95, ↓zs_255_96, ↓zs_255_97, ↓zs_255_98, ↓zs_255_101, ↓zs_255_104, ↓zs_255_105, zx_pu_s, zx_pu_n, zx_rv_s, zx_rv_n, true_and, and_true, true_or, or_true, zb_0, zb_1, zq_lcl, zq_lcg, zq_lce, eq_self, ite_true, ite_false, zk_138, zw_138, zk_139, zw_139, zk_140, zw_140, zk_141, zw_141, zk_142, zw_142, zk_143, zw_143, zk_144, zw_144, zk_145, zw_145, zk_146, zw_146, zk_147, zw_147, zk_148, zw_148, zk_149, zw_149, zk_150, zw_150, zk_151, zw_151, zk_152, zw_152, zq_138_1, zq_138_2, zq_138_3, zq_138_4, zq_138_16, zq_138_19, zq_138_20, zq_138_24, zq_138_25, zq_138_26, zq_138_27, zq_138_31, zq_138_32, zq_138_33, nI_ltI, nI_add, hst, hlt, c1', htk, zB_0, reduceCtorEq]
      | false =>
        rw [ct] at htk
        have B0 : B (45 + p) = nI 0 := by
          unfold zf_taken at ct
          rw [Bool.or_eq_false_iff, Bool.not_eq_false', decide_eq_true_iff] at ct
          exact ct.1
        have er : (zx_u I2 139 (45 + p) (-10)) 139 = zu1 B (45 + p) (-10) := by rw [zu_r, zr_s, eB]
        have fu : zFm I1 (zx_u I2 139 (45 + p) (-10)) := zFm_t f (fun a j n => zu_n (by omega))
        obtain ⟨I4, f4, h4⟩ := sp_isFree (Lh := Lh) (J := J) (I := zx_u I2 139 (45 + p) (-10)) (zFm_si fu si) (by rw [er]; exact zM_ok_bk (by omega) ok) hk
        rw [er, zf_wat_0, Bool.not_not] at h4
        have e4 : I4 139 = zu1 B (45 + p) (-10) := by rw [zFs_139 f4, er]
        have e5 : (zx_u I4 139 (45 + p) (nI 0)) 139 = B := by
          rw [zu_r, zr_s, e4]
          funext j
          by_cases q : j = 45 + p
          · rw [q, zu1_s, B0]
          · rw [zu1_n q, zu1_n q]
        have f5 : zFm I1 (zx_u I4 139 (45 + p) (nI 0)) := zFm_t (zFm_t fu (zFs_m f4)) (fun a j n => zu_n (by omega))
        have cP : zf_bkP B w h N k p = decide (zf_wat (zu1 B (45 + p) (-10)) w h N k = 0) := by
          unfold zf_bkP
          rw [ct, decide_eq_false c1]
          rfl
        rw [cP]
        cases cw : decide (zf_wat (zu1 B (45 + p) (-10)) w h N k = 0) with
        | false =>
          rw [cw] at h4
          rw [if_neg (by decide)]
          obtain ⟨I3, f3, e9, h9⟩ := ih (p + 1) u (zx_u I4 139 (45 + p) (nI 0)) (by omega) f5 e5
          refine ⟨I3, f3, e9, fun d P => ?_⟩
          rw [← h9 d P, zs_255_33]
          simp (disch := omega) only [↓zs_255_0, ↓zs_255_1, ↓zs_255_2, ↓zs_255_5, ↓zs_255_6, ↓zs_255_7, ↓zs_255_8, ↓zs_255_11, ↓zs_255_14, ↓zs_255_17, ↓zs_255_18, ↓zs_255_19, ↓zs_255_20, ↓zs_255_23, ↓zs_255_26, ↓zs_255_27, ↓zs_255_28, ↓zs_255_29, ↓zs_255_30, ↓zs_255_31, ↓zs_255_35, ↓zs_255_36, ↓zs_255_39, ↓zs_255_42, ↓zs_255_44, ↓zs_255_45, ↓zs_255_48, ↓zs_255_49, ↓zs_255_51, ↓zs_255_54, ↓zs_255_57, ↓zs_255_60, ↓zs_255_61, ↓zs_255_64, ↓zs_255_66, ↓zs_255_68, ↓zs_255_69, ↓zs_255_71, ↓zs_255_72, ↓zs_255_73, ↓zs_255_74, ↓zs_255_77, ↓zs_255_80, ↓zs_255_81, ↓zs_255_82, ↓zs_255_84, ↓zs_255_85, ↓zs_255_86, ↓zs_255_87, ↓zs_255_88, ↓zs_255_91, ↓zs_255_93, ↓zs_255_95, ↓zs_255_96, ↓zs_255_97, ↓zs_255_98, ↓zs_255_101, ↓zs_255_104, ↓zs_255_105, zx_pu_s, zx_pu_n, zx_rv_s, zx_rv_n, true_and, and_true, true_or, or_true, zb_0, zb_1, zq_lcl, zq_lcg, zq_lce, eq_self, ite_true, ite_false, zk_138, zw_138, zk_139, zw_139, zk_140, zw_140, zk_141, zw_141, zk_142, zw_142, zk_143, zw_143, zk_144, zw_144, zk_145, zw_145, zk_146, zw_146, zk_147, zw_147, zk_148, zw_148, zk_149, zw_149, zk_150, zw_150, zk_151, zw_151, zk_152, zw_152, zq_138_1, zq_138_2, zq_138_3, zq_138_4, zq_138_16, zq_138_19, zq_138_20, zq_138_24, zq_138_25, zq_138_26, zq_138_27, zq_138_31, zq_138_32, zq_138_33, zin_nI, nI_clamp, nI_ltI, nI_add, hst, hlt, c1', htk, zB_0, reduceCtorEq, h4]
        | true =>
          rw [cw] at h4
          rw [if_pos rfl]
          obtain ⟨I3, f3, e9, h9⟩ := ih (p + 1) (u ||| zf_one p) (zx_u I4 139 (45 + p) (nI 0)) (by omega) f5 e5
          refine ⟨I3, f3, e9, fun d P => ?_⟩
          rw [← h9 d P, zs_255_33]
          simp (disch := omega) only [↓zs_255_0, ↓zs_255_1, ↓zs_255_2, ↓zs_255_5, ↓zs_255_6, ↓zs_255_7, ↓zs_255_8, ↓zs_255_11, ↓zs_255_14, ↓zs_255_17, ↓zs_255_18, ↓zs_255_19, ↓zs_255_20, ↓zs_255_23, ↓zs_255_26, ↓zs_255_27, ↓zs_255_28, ↓zs_255_29, ↓zs_255_30, ↓zs_255_31, ↓zs_255_35, ↓zs_255_36, ↓zs_255_39, ↓zs_255_42, ↓zs_255_44, ↓zs_255_45, ↓zs_255_48, ↓zs_255_49, ↓zs_255_51, ↓zs_255_54, ↓zs_255_57, ↓zs_255_60, ↓zs_255_61, ↓zs_255_64, ↓zs_255_66, ↓zs_255_68, ↓zs_255_69, ↓zs_255_71, ↓zs_255_72, ↓zs_255_73, ↓zs_255_74, ↓zs_255_77, ↓zs_255_80, ↓zs_255_81, ↓zs_255_82, ↓zs_255_84, ↓zs_255_85, ↓zs_255_86, ↓zs_255_87, ↓zs_255_88, ↓zs_255_91, ↓zs_255_93, ↓zs_255_95, ↓zs_255_96, ↓zs_255_97, ↓zs_255_98, ↓zs_255_101, ↓zs_255_104, ↓zs_255_105, zx_pu_s, zx_pu_n, zx_rv_s, zx_rv_n, true_and, and_true, true_or, or_true, zb_0, zb_1, zq_lcl, zq_lcg, zq_lce, eq_self, ite_true, ite_false, zk_138, zw_138, zk_139, zw_139, zk_140, zw_140, zk_141, zw_141, zk_142, zw_142, zk_143, zw_143, zk_144, zw_144, zk_145, zw_145, zk_146, zw_146, zk_147, zw_147, zk_148, zw_148, zk_149, zw_149, zk_150, zw_150, zk_151, zw_151, zk_152, zw_152, zq_138_1, zq_138_2, zq_138_3, zq_138_4, zq_138_16, zq_138_19, zq_138_20, zq_138_24, zq_138_25, zq_138_26, zq_138_27, zq_138_31, zq_138_32, zq_138_33, zin_nI, nI_clamp, nI_ltI, nI_add, hst, hlt, c1', htk, zB_0, reduceCtorEq, h4]
          rfl
theorem q_blocks (v : zInv I J m) (x : Int32) : zQ Lh 136 255 [.int x] I J := by
  obtain ⟨⟨hw, hh, hN⟩, gr, g, ex, ok, N8, wh⟩ := zInv_k v
  have h1 := fun d P => sc_hasStone (d := d) (Lh := Lh) (I := I) (J := J) (P := P) zx_sq1 x hw hh wh
  have ok2 : zM_ok (zx_u I 138 0 (nI 0) 139) (zw (I 139)) (zh (I 139)) (zn (I 139)) := by rw [zu_139]; exact ok
  have h2 := fun d P => sp_isStone (d := d) (Lh := Lh) (J := J) (P := P) x.toInt64 ok2.1.1 ok2.1.2.1 (by omega)
  rw [Int32.toInt_toInt64] at h2
  cases c : zf_in x.toInt (zw (I 139) * zh (I 139)) with
  | false =>
    refine ⟨.long (-2), I, J, zx_u I 138 0 (nI 0), J, fun d P => ?_, fun d P => ?_, zScr_s (zFs_0 _ _)⟩
    · rw [ze_136]
      simp (disch := omega) only [↓zs_136_0, ↓zs_136_1, ↓zs_136_4, ↓zs_136_5, ↓zs_136_8, ↓zs_136_11, ↓zs_136_14, ↓zs_136_15, ↓zs_136_16, ↓zs_136_19, ↓zs_136_20, ↓zs_136_23, ↓zs_136_24, ↓zs_136_27, ↓zs_136_28, ↓zs_136_29, ↓zs_136_32, ↓zs_136_33, ↓zs_136_34, ↓zs_136_35, ↓zs_136_38, ↓zs_136_39, ↓zs_136_42, ↓zs_136_45, ↓zs_136_46, ↓zs_136_47, ↓zs_136_48, ↓zs_136_49, ↓zs_136_50, ↓zs_136_53, ↓zs_136_55, ↓zs_136_56, zx_pu_s, zx_pu_n, zx_rv_s, zx_rv_n, true_and, and_true, true_or, or_true, zb_0, zb_1, zq_lcl, zq_lcg, zq_lce, eq_self, ite_true, ite_false, zk_0, zw_0, zk_1, zw_1, zq_0_0, zq_0_1, zq_0_2, zq_0_3, zq_0_4, zq_0_5, zq_0_6, zq_0_7, zq_0_8, zq_0_9, zq_0_10, zq_0_11, zq_1_0, zq_1_1, zq_1_2, zq_1_3, zq_1_4, zq_1_5, h1, c, zB_0, reduceCtorEq]
    · rw [ze_255]
      simp (disch := omega) only [↓zs_255_0, ↓zs_255_1, ↓zs_255_2, ↓zs_255_5, ↓zs_255_6, ↓zs_255_7, ↓zs_255_8, ↓zs_255_11, ↓zs_255_14, ↓zs_255_17, ↓zs_255_18, ↓zs_255_19, ↓zs_255_20, ↓zs_255_23, ↓zs_255_26, ↓zs_255_27, ↓zs_255_28, ↓zs_255_29, ↓zs_255_30, ↓zs_255_31, zx_pu_s, zx_pu_n, zx_rv_s, zx_rv_n, true_and, and_true, true_or, or_true, zb_0, zb_1, zq_lcl, zq_lcg, zq_lce, eq_self, ite_true, ite_false, zk_138, zw_138, zk_139, zw_139, zk_140, zw_140, zk_141, zw_141, zk_142, zw_142, zk_143, zw_143, zk_144, zw_144, zk_145, zw_145, zk_146, zw_146, zk_147, zw_147, zk_148, zw_148, zk_149, zw_149, zk_150, zw_150, zk_151, zw_151, zk_152, zw_152, zq_138_1, zq_138_2, zq_138_3, zq_138_4, zq_138_16, zq_138_19, zq_138_20, zq_138_24, zq_138_25, zq_138_26, zq_138_27, zq_138_31, zq_138_32, zq_138_33, h2, c, zB_0, reduceCtorEq]
  | true =>
    rw [c] at h1 h2
    have e := zq_toI (x := x) rfl c (by omega)
    have hk : x.toInt.toNat < 64 := by have := zf_inP.mp c; omega
    generalize x.toInt.toNat = k at e hk
    subst e
    have h3 := fun d P => sc_watch (d := d) (Lh := Lh) (P := P) zx_sq1 zx_st11 v.1 hw hh hN gr g v.2.2.2.1 ok hk
    have h5 := fun d P => sc_takenT (d := d) (Lh := Lh) (J := J) (P := P) zx_sq1 zx_st11 v.2.2.2.1 ok
    have hc : zf_wat (I 139) (zw (I 139)) (zh (I 139)) (zn (I 139)) k < 256 := zf_bs_lt (n := 8) _ (by omega) (by decide)
    obtain ⟨I2, f2, h4⟩ := sp_isFree (Lh := Lh) (J := J) (I := zx_u I 138 0 (nI 0)) (zx_SI_u v.1 (by decide)) ok2 hk
    rw [zf_wat_0, Bool.not_not, zu_139] at h4
    have e2 : I2 139 = I 139 := by rw [zFs_139 f2, zu_139]
    by_cases c0 : zf_wat (I 139) (zw (I 139)) (zh (I 139)) (zn (I 139)) k = 0
    · rw [decide_eq_true c0] at h4
      rw [c0] at h3
      refine ⟨.long (lN 0), I, J, I2, J, fun d P => ?_, fun d P => ?_, zScr_s (zFs_t (zFs_0 _ _) f2)⟩
      · rw [ze_136]
        simp (disch := omega) only [↓zs_136_0, ↓zs_136_1, ↓zs_136_4, ↓zs_136_5, ↓zs_136_8, ↓zs_136_11, ↓zs_136_14, ↓zs_136_15, ↓zs_136_16, ↓zs_136_19, ↓zs_136_20, ↓zs_136_23, ↓zs_136_24, ↓zs_136_27, ↓zs_136_28, ↓zs_136_29, ↓zs_136_32, ↓zs_136_33, ↓zs_136_34, ↓zs_136_35, ↓zs_136_38, ↓zs_136_39, ↓zs_136_42, ↓zs_136_45, ↓zs_136_46, ↓zs_136_47, ↓zs_136_48, ↓zs_136_49, ↓zs_136_50, ↓zs_136_53, ↓zs_136_55, ↓zs_136_56, zx_pu_s, zx_pu_n, zx_rv_s, zx_rv_n, true_and, and_true, true_or, or_true, zb_0, zb_1, zq_lcl, zq_lcg, zq_lce, eq_self, ite_true, ite_false, zk_0, zw_0, zk_1, zw_1, zq_0_0, zq_0_1, zq_0_2, zq_0_3, zq_0_4, zq_0_5, zq_0_6, zq_0_7, zq_0_8, zq_0_9, zq_0_10, zq_0_11, zq_1_0, zq_1_1, zq_1_2, zq_1_3, zq_1_4, zq_1_5, zk_11, zw_11, zq_11_0, zq_11_1, zq_11_2, h1, zB_0, reduceCtorEq, h3]
      · rw [ze_255]
        simp (disch := omega) only [↓zs_255_0, ↓zs_255_1, ↓zs_255_2, ↓zs_255_5, ↓zs_255_6, ↓zs_255_7, ↓zs_255_8, ↓zs_255_11, ↓zs_255_14, ↓zs_255_17, ↓zs_255_18, ↓zs_255_19, ↓zs_255_20, ↓zs_255_23, ↓zs_255_26, ↓zs_255_27, ↓zs_255_28, ↓zs_255_29, ↓zs_255_30, ↓zs_255_31, zx_pu_s, zx_pu_n, zx_rv_s, zx_rv_n, true_and, and_true, true_or, or_true, zb_0, zb_1, zq_lcl, zq_lcg, zq_lce, eq_self, ite_true, ite_false, zk_138, zw_138, zk_139, zw_139, zk_140, zw_140, zk_141, zw_141, zk_142, zw_142, zk_143, zw_143, zk_144, zw_144, zk_145, zw_145, zk_146, zw_146, zk_147, zw_147, zk_148, zw_148, zk_149, zw_149, zk_150, zw_150, zk_151, zw_151, zk_152, zw_152, zq_138_1, zq_138_2, zq_138_3, zq_138_4, zq_138_16, zq_138_19, zq_138_20, zq_138_24, zq_138_25, zq_138_26, zq_138_27, zq_138_31, zq_138_32, zq_138_33, h2, h4, zB_0, reduceCtorEq]
    · rw [decide_eq_false c0] at h4
      have eq := zf_bk_eq hk N8 wh c0
      have c0' : (nI (zf_wat (I 139) (zw (I 139)) (zh (I 139)) (zn (I 139)) k) = nI 0) = False := zq_ne c0 (by omega) (by omega)
      have loop := sc_blockL (Lh := Lh) (t := zf_orAll (I (11 + 1)) 8 0 (J 1 12 ||| J 1 13) ||| zf_one k) v hk hc (fun q hq => by
        rw [zt_or, zt_taken gr g v.2.2.2.1 ok hq, zt_one hk hq]
        rfl) (zn (I 139)) 0 (-1) (by omega)
      rw [eq] at loop
      obtain ⟨I3, f3, e3, h9⟩ := sp_blockL (Lh := Lh) (J := J) (k := k) (I1 := I2) (zFm_si (zFs_m f2) (zx_SI_u v.1 (by decide))) ok hk (zw (I 139) * zh (I 139)) 0 (lN 0) I2 (by omega) (zFm_r _) e2
      refine ⟨.long (zf_bkM (I 139) (zw (I 139)) (zh (I 139)) (zn (I 139)) k (zw (I 139) * zh (I 139)) 0 (lN 0)), I, J, I3, J, fun d P => ?_, fun d P => ?_, zScr_i (fun a j n => ?_)⟩
      · rw [ze_136]
        simp (disch := omega) only [↓zs_136_0, ↓zs_136_1, ↓zs_136_4, ↓zs_136_5, ↓zs_136_8, ↓zs_136_11, ↓zs_136_14, ↓zs_136_15, ↓zs_136_16, ↓zs_136_19, ↓zs_136_20, ↓zs_136_23, ↓zs_136_24, ↓zs_136_27, ↓zs_136_28, ↓zs_136_29, ↓zs_136_32, ↓zs_136_33, ↓zs_136_34, ↓zs_136_35, ↓zs_136_38, ↓zs_136_39, ↓zs_136_42, ↓zs_136_45, ↓zs_136_46, ↓zs_136_47, ↓zs_136_48, ↓zs_136_49, ↓zs_136_50, ↓zs_136_53, ↓zs_136_55, ↓zs_136_56, zx_pu_s, zx_pu_n, zx_rv_s, zx_rv_n, true_and, and_true, true_or, or_true, zb_0, zb_1, zq_lcl, zq_lcg, zq_lce, eq_self, ite_true, ite_false, zk_0, zw_0, zk_1, zw_1, zq_0_0, zq_0_1, zq_0_2, zq_0_3, zq_0_4, zq_0_5, zq_0_6, zq_0_7, zq_0_8, zq_0_9, zq_0_10, zq_0_11, zq_1_0, zq_1_1, zq_1_2, zq_1_3, zq_1_4, zq_1_5, zk_11, zw_11, zq_11_0, zq_11_1, zq_11_2, h1, zB_0, reduceCtorEq, h3, c0', h5]
        exact loop d P
      · rw [ze_255]
        simp (disch := omega) only [↓zs_255_0, ↓zs_255_1, ↓zs_255_2, ↓zs_255_5, ↓zs_255_6, ↓zs_255_7, ↓zs_255_8, ↓zs_255_11, ↓zs_255_14, ↓zs_255_17, ↓zs_255_18, ↓zs_255_19, ↓zs_255_20, ↓zs_255_23, ↓zs_255_26, ↓zs_255_27, ↓zs_255_28, ↓zs_255_29, ↓zs_255_30, ↓zs_255_31, zx_pu_s, zx_pu_n, zx_rv_s, zx_rv_n, true_and, and_true, true_or, or_true, zb_0, zb_1, zq_lcl, zq_lcg, zq_lce, eq_self, ite_true, ite_false, zk_138, zw_138, zk_139, zw_139, zk_140, zw_140, zk_141, zw_141, zk_142, zw_142, zk_143, zw_143, zk_144, zw_144, zk_145, zw_145, zk_146, zw_146, zk_147, zw_147, zk_148, zw_148, zk_149, zw_149, zk_150, zw_150, zk_151, zw_151, zk_152, zw_152, zq_138_1, zq_138_2, zq_138_3, zq_138_4, zq_138_16, zq_138_19, zq_138_20, zq_138_24, zq_138_25, zq_138_26, zq_138_27, zq_138_31, zq_138_32, zq_138_33, h2, h4, zB_0, reduceCtorEq]
        exact h9 d P
      · by_cases w : a = 139
        · subst w; rw [e3]
        · unfold zSc at n
          rw [f3 a j (by omega), f2 a j (by omega), zu_n (by omega)]
end BK
