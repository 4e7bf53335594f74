/-! lines: walls and fountains -/
section D9
variable {Lh n : Nat} {b : Nat → Nat} {I Im : zx_MI} {J Jm : zx_MJ} {T : zTk} {F : Nat → Int32}
theorem zPc_k {I2 : zx_MI} {T2 : zTk} (hc : zPc I J b n T F) (f : zFk1 I I2) (h6 : I2 84 6 = I 84 6) (h7 : I2 84 7 = I 84 7) (p : zPt I2 b n T2) : zPc I2 J b n T2 F := by
  obtain ⟨-, c6, c7, sq, st⟩ := hc
  exact ⟨p, h6.trans c6, h7.trans c7, zR_sq_k1 f sq, zR_st_k1 f st⟩
theorem zPm_k {I2 : zx_MI} {T2 : zTk} (hm : zPm Im b n T F) (f : zFk2 Im I2) (m : zMd I2 b n T2) : zPm I2 b n T2 F := ⟨m, by rw [← hm.2]; exact funext fun j => f 142 j (by omega)⟩
theorem zPc_adv (hc : zPc I J b n T F) : ∃ I2, zFk1 I I2 ∧ zPc I2 J b n (zf_nx b n T.2.1) F ∧ ∀ d P, 5 ≤ d → zx_rn d 78 [.ref 84] (zx_LL Lh) I J P = P none (zx_LL Lh) I2 J := by
  obtain ⟨I2, f2, p2, h2⟩ := sc_adv (Lh := Lh) (J := J) hc.1
  exact ⟨I2, zFk_adv f2, zPc_k hc (zFk_adv f2) (f2 84 6 (by omega)) (f2 84 7 (by omega)) p2, h2⟩
theorem zPm_nxt (hm : zPm Im b n T F) : ∃ I2, zFk2 Im I2 ∧ zPm I2 b n (zf_nx b n T.2.1) F ∧ ∀ d P, 5 ≤ d → zx_rn d 158 [.ref 138] (zx_LL Lh) Im Jm P = P none (zx_LL Lh) I2 Jm := by
  obtain ⟨I2, f2, p2, h2⟩ := sp_nextM (Lh := Lh) (J := Jm) hm.1
  exact ⟨I2, zFk_nxt f2, zPm_k hm (zFk_nxt f2) p2, h2⟩
theorem zf_frk {k : Nat} (k31 : k < 2 ^ 31) (v : zV F 0) (h : zf_taken F (zn F) k = false) : F (45 + k) = nI 0 ∧ ∀ s, s < 8 → ¬ F (109 + s) = nI k := by
  have N8 := v.1.1.2.2.2.2.2
  unfold zf_taken at h
  rw [zf_on_any _ _ _ _ (by omega), Bool.or_eq_false_iff, Bool.not_eq_false', decide_eq_true_iff] at h
  refine ⟨h.1, fun s hs e => ?_⟩
  by_cases c : s < zn F
  · have := (zf_any_ex (fun i => decide (F (109 + i) = nI k)) (zn F) 0).mpr ⟨s, by omega, by omega, decide_eq_true e⟩
    rw [h.2] at this
    exact Bool.noConfusion this
  · have e1 := (v.1.2 s hs).2.2.2 (by omega)
    rw [e] at e1
    exact of_eq_false (zq_m1 (a := k) (by omega)) e1
theorem zR_sq_gr {J2 : zx_MJ} {F2 : Nat → Int32} (r : zR_sq I J 88 F) (v : zV F 0) (ek : ∀ j, ¬ (45 ≤ j ∧ j < 109) → F2 j = F j) (g : zR_ground J2 88 F2) : zR_sq I J2 88 F2 := by
  have l10 := v.2.2.2.2.1.2.1
  have o4 := v.2.2.2.1.2.1
  obtain ⟨r1, r2, r3, r4, r5, r6, r7, r8, r9, r10⟩ := r
  unfold zR_sq zR_snow
  rw [show zl F2 = zl F by unfold zl; rw [ek 4 (by omega)], show zo F2 = zo F by unfold zo; rw [ek 5 (by omega)], show zk F2 = zk F by unfold zk; rw [ek 385 (by omega)]]
  rw [ek 1 (by omega), ek 2 (by omega), ek 3 (by omega), ek 0 (by omega), ek 4 (by omega), ek 5 (by omega)]
  refine ⟨r1, r2, r3, r4, r5, g, ⟨r7.1, fun i hi => ?_⟩, fun i hi => ?_, r9, fun k hk => ?_⟩
  · rw [ek (37 + 2 * i) (by omega), ek (37 + 2 * i + 1) (by omega)]; exact r7.2 i hi
  · rw [ek (7 + 3 * i) (by omega), ek (7 + 3 * i + 1) (by omega), ek (7 + 3 * i + 2) (by omega)]; exact r8 i hi
  · rw [ek (386 + k) (by omega)]; exact r10 k hk
theorem zBlock {x1 : Nat} {c : Int32} (hx : (x1 = 1 ∧ c = -10) ∨ (x1 = 0 ∧ c = -11)) (hc : zPc I J b n T F) (hm : zPm Im b n T F) (pf : zPf F) (w0 : 0 < zw F) : zLn Lh b n T I J Im Jm 36 [.ref 83, .int (nI x1)] 176 [.ref 138, .int c] 9 := by
  have v := pf.1
  obtain ⟨⟨vw, vh, vN, w8, h8, N8⟩, vs⟩ := v.1
  have wh : zw F * zh F ≤ 64 := Nat.mul_le_mul w8 h8
  have e6 : I 88 6 = nI (zw F) := hc.2.2.2.1.1.trans vw
  have ew : (nI (zw F) = nI 0) = False := zq_ne (by omega) (by omega) (by omega)
  have n1 : (nI 1 = nI 0) = False := eq_false (by decide)
  obtain ⟨I1, f1, c1, hA⟩ := zPc_adv (Lh := Lh) hc
  obtain ⟨Im1, g1, m1, hB⟩ := zPm_nxt (Lh := Lh) (Jm := Jm) hm
  have tle1 := (zl_tk2_nx b hc.1.2.2.2.1.1).2
  generalize hT1 : zf_nx b n T.2.1 = T1 at *
  have tk1 := c1.1.2.2.2
  rcases zSpot (Lh := Lh) (Jm := Jm) c1 m1 pf w0 with ⟨f, s, I2, Im2, x, b1, f2, fl, hA2, g2, bd, hB2⟩ | ⟨k, T2, I2, Im2, kw, kf, tle2, f2, s6, s7, s5, p2, hA2, g2, md2, hB2⟩
  · left
    have b11 := bd.2.2.1
    have cf : (nI f = nI 0) = False := zq_ne (by omega) (by have := bd.2.1; omega) (by omega)
    refine ⟨f, s, I2, J, Im2, b1, bd.2.1, zFk1_C (zFk1_t f1 f2), zFkJ_r J, fl, fun d P hd => ?_, zFk2_M (zFk2_t g1 g2), .inl bd, fun d P hd => ?_⟩
    · obtain ⟨e, rfl⟩ : ∃ e, d = e + 9 := ⟨d - 9, by omega⟩
      have a1 := fun P => hA (e + 8) P (by omega)
      have a2 := fun P => hA2 (e + 8) P (by omega)
      rw [ze_36]
      simp (disch := omega) only [↓zs_36_0, ↓zs_36_1, ↓zs_36_4, ↓zs_36_7, ↓zs_36_10, ↓zs_36_11, ↓zs_36_14, ↓zs_36_17, ↓zs_36_18, ↓zs_36_19, ↓zs_36_22, ↓zs_36_25, ↓zs_36_26, ↓zs_36_29, ↓zs_36_32, ↓zs_36_33, zx_pu_s, zx_pu_n, zx_rv_s, zx_rv_n, true_and, and_true, true_or, or_true, zb_0, zb_1, zq_lcl, zq_lcg, zq_lce, eq_self, ite_true, ite_false, zk_83, zw_83, zq_83_0, zq_83_1, zq_83_2, zq_83_3, zk_88, zw_88, zq_88_0, zq_88_1, zq_88_2, zq_88_3, zq_88_4, zq_88_5, zk_84, zw_84, zq_84_0, e6, ew, a1, a2]
    · obtain ⟨e, rfl⟩ : ∃ e, d = e + 9 := ⟨d - 9, by omega⟩
      have a1 := fun P => hB (e + 8) P (by omega)
      have a2 := fun P => hB2 (e + 8) P (by omega)
      rw [ze_176]
      simp (disch := omega) only [↓zs_176_0, ↓zs_176_1, ↓zs_176_4, ↓zs_176_5, ↓zs_176_8, ↓zs_176_9, ↓zs_176_10, ↓zs_176_13, ↓zs_176_16, ↓zs_176_17, ↓zs_176_20, ↓zs_176_22, ↓zs_176_23, ↓zs_176_24, ↓zs_176_25, ↓zs_176_26, zx_pu_s, zx_pu_n, zx_rv_s, zx_rv_n, true_and, and_true, true_or, or_true, zb_0, zb_1, zq_lcl, zq_lcg, zq_lce, eq_self, ite_true, ite_false, zk_138, zw_138, zk_139, zw_139, zk_140, zw_140, zk_141, zw_141, zk_142, zw_142, zk_143, zw_143, zk_144, zw_144, zk_145, zw_145, zk_146, zw_146, zk_147, zw_147, zk_148, zw_148, zk_149, zw_149, zk_150, zw_150, zk_151, zw_151, zk_152, zw_152, zq_138_1, zq_138_2, zq_138_3, zq_138_4, zq_138_16, zq_138_19, zq_138_20, zq_138_24, zq_138_25, zq_138_26, zq_138_27, zq_138_31, zq_138_32, zq_138_33, a1, a2, b11, cf]
  right
  obtain ⟨k0, kn⟩ := zf_frk (by omega) v kf
  have k64 : k < 64 := by omega
  have c2 := zPc_k c1 f2 s6 s7 p2
  have m2 := zPm_k m1 g2 md2
  have ek : ∀ j, j ≠ 45 + k → zu1 F (45 + k) c j = F j := fun j h => zu1_n h
  have kk : zu1 F (45 + k) c (45 + k) = c := zu1_s _ _ _
  have rowM : zx_u Im2 142 (45 + k) c 142 = zu1 F (45 + k) c := by rw [zu_r, zr_s, m2.2]
  generalize hF2 : zu1 F (45 + k) c = F2 at *
  have ewF : zw F2 = zw F := by unfold zw; rw [ek 1 (by omega)]
  have ehF : zh F2 = zh F := by unfold zh; rw [ek 2 (by omega)]
  have enF : zn F2 = zn F := by unfold zn; rw [ek 3 (by omega)]
  have etF : zt F2 = zt F := by unfold zt; rw [ek 133 (by omega)]
  have elF : zl F2 = zl F := by unfold zl; rw [ek 4 (by omega)]
  have v2 : zV F2 0 := by
    obtain ⟨v1, v2, v3, v4, v5, v6, v7, v8⟩ := v
    refine ⟨⟨?_, fun s hs => ?_⟩, fun j hj => ?_, fun j s hj hs hne => ?_, zV_snow (ek 5 (by omega)) (fun j h1 h2 => ek j (by omega)) v4, zV_let (ek 4 (by omega)) (fun j h1 h2 => ek j (by omega)) v5, zV_law (ek 6 (by omega)) (fun j h1 => ek j (by omega)) v6, ?_, ?_⟩
    · rw [ek 1 (by omega), ek 2 (by omega), ek 3 (by omega), ewF, ehF, enF]; exact v1.1
    · rw [ek (109 + s) (by omega), ek (125 + s) (by omega), ek (117 + s) (by omega), ewF, ehF, enF]; exact vs s hs
    · by_cases q : j = k
      · rw [q, kk]
        rcases hx with ⟨-, h⟩ | ⟨-, h⟩
        · exact .inr (.inl h)
        · exact .inr (.inr h)
      · rw [ek (45 + j) (by omega)]; exact v2 j hj
    · rw [ewF, ehF, ek (109 + s) (by omega)]
      by_cases q : j = k
      · rw [q]; exact ⟨kw, kn s hs⟩
      · rw [ek (45 + j) (by omega)] at hne; exact v3 j s hj hs hne
    · rw [etF, ek 133 (by omega)]; exact v7
    · rw [etF]; exact v8
  have G : ∀ j, j ≠ 45 + k → zf_G F2 j = zf_G F j := fun j h => zf_G_k v (fun i _ _ _ _ => ek i (by omega)) (ek 133 (by omega)) (ek j h)
  have st2 : zR_st I2 98 (zf_G F2) := by
    obtain ⟨s1, s2⟩ := c2.2.2.2.2
    refine ⟨by rw [G 133 (by omega)]; exact s1, fun s hs => ?_⟩
    rw [G (109 + s) (by omega), G (117 + s) (by omega), G (125 + s) (by omega)]; exact s2 s hs
  have pf2 : zPf F2 := by
    refine ⟨v2, fun s h1 h2 => ?_, fun i hi => ?_⟩
    · rw [ek (125 + s) (by omega)]; rw [enF] at h1; exact pf.2.1 s h1 h2
    · rw [elF] at hi
      have := v.2.2.2.2.1.2.1
      rw [ek (7 + 3 * i + 1) (by omega), enF]; exact pf.2.2 i hi
  have gr : ∀ o q : Nat, ((o = 12 ∧ q = 13 ∧ x1 = 1) ∨ (o = 13 ∧ q = 12 ∧ x1 = 0)) → zR_ground (zx_u J 88 o (J 88 o ||| zf_one k)) 88 F2 := by
    intro o q ho j hj
    obtain ⟨r1, r2⟩ := c2.2.2.2.1.2.2.2.2.2.1 j hj
    by_cases qk : j = k
    · subst qk
      rw [k0] at r1 r2
      rw [kk]
      rcases ho with ⟨rfl, rfl, h⟩ | ⟨rfl, rfl, h⟩
      · have ec : c = -10 := by rcases hx with ⟨-, e⟩ | ⟨e, -⟩; exact e; omega
        rw [zu_s, zu_n (by omega), zt_or, zt_one k64 k64, r2, ec, decide_eq_true rfl, Bool.or_true]
        exact ⟨by decide, by decide⟩
      · have ec : c = -11 := by rcases hx with ⟨e, -⟩ | ⟨-, e⟩; omega; exact e
        rw [zu_s, zu_n (by omega), zt_or, zt_one k64 k64, r1, ec, decide_eq_true rfl, Bool.or_true]
        exact ⟨by decide, by decide⟩
    · rw [ek (45 + j) (by omega), ← r1, ← r2]
      rcases ho with ⟨rfl, rfl, -⟩ | ⟨rfl, rfl, -⟩
      · rw [zu_s, zu_n (by omega), zt_or, zt_one k64 hj, decide_eq_false qk, Bool.or_false]
        exact ⟨rfl, rfl⟩
      · rw [zu_s, zu_n (by omega), zt_or, zt_one k64 hj, decide_eq_false qk, Bool.or_false]
        exact ⟨rfl, rfl⟩
  have fin : ∀ o q : Nat, ((o = 12 ∧ q = 13 ∧ x1 = 1) ∨ (o = 13 ∧ q = 12 ∧ x1 = 0)) → (∀ d P, 9 ≤ d → zx_rn d 36 [.ref 83, .int (nI x1)] (zx_LL Lh) I J P = P (some (.int (nI 1))) (zx_LL Lh) I2 (zx_u J 88 o (J 88 o ||| zf_one k))) → ∃ T2 F2 I2 J2 Im2, T.2.1 ≤ T2.1 ∧ zFkC I I2 ∧ zFkJ J J2 ∧ zPc I2 J2 b n T2 F2 ∧ zPf F2 ∧ (∀ d P, 9 ≤ d → zx_rn d 36 [.ref 83, .int (nI x1)] (zx_LL Lh) I J P = P (some (.int (nI 1))) (zx_LL Lh) I2 J2) ∧ zFkM Im Im2 ∧ zPm Im2 b n T2 F2 ∧ ∀ d P, 9 ≤ d → zx_rn d 176 [.ref 138, .int c] (zx_LL Lh) Im Jm P = P none (zx_LL Lh) Im2 Jm := by
    intro o q ho hrun
    have b11 := md2.2.2.2.2
    refine ⟨T2, F2, I2, _, zx_u Im2 142 (45 + k) c, by have := tk1.2.1; omega, zFk1_C (zFk1_t f1 f2), fun a j ha => zu_n (fun e => ha e.1), ⟨p2, c2.2.1, c2.2.2.1, zR_sq_gr c2.2.2.2.1 v (fun j h => ek j (by omega)) (gr o q ho), st2⟩, pf2, hrun, zFkM_t (zFk2_M (zFk2_t g1 g2)) zFkM_u, ⟨zMd_w md2 (fun a j w => zu_n (by omega)), rowM⟩, fun d P hd => ?_⟩
    obtain ⟨e, rfl⟩ : ∃ e, d = e + 9 := ⟨d - 9, by omega⟩
    have a1 := fun P => hB (e + 8) P (by omega)
    have a2 := fun P => hB2 (e + 8) P (by omega)
    rw [ze_176]
    simp (disch := omega) only [↓zs_176_0, ↓zs_176_1, ↓zs_176_4, ↓zs_176_5, ↓zs_176_8, ↓zs_176_9, ↓zs_176_10, ↓zs_176_13, ↓zs_176_16, ↓zs_176_17, ↓zs_176_20, ↓zs_176_22, ↓zs_176_23, ↓zs_176_24, ↓zs_176_25, ↓zs_176_26, zx_pu_s, zx_pu_n, zx_rv_s, zx_rv_n, true_and, and_true, true_or, or_true, zb_0, zb_1, zq_lcl, zq_lcg, zq_lce, eq_self, ite_true, ite_false, zk_138, zw_138, zk_139, zw_139, zk_140, zw_140, zk_141, zw_141, zk_142, zw_142, zk_143, zw_143, zk_144, zw_144, zk_145, zw_145, zk_146, zw_146, zk_147, zw_147, zk_148, zw_148, zk_149, zw_149, zk_150, zw_150, zk_151, zw_151, zk_152, zw_152, zq_138_1, zq_138_2, zq_138_3, zq_138_4, zq_138_16, zq_138_19, zq_138_20, zq_138_24, zq_138_25, zq_138_26, zq_138_27, zq_138_31, zq_138_32, zq_138_33, a1, a2, b11, nI_add, zin_nI, nI_clamp]
  rcases hx with ⟨h1, h2⟩ | ⟨h1, h2⟩
  · refine fin 12 13 (.inl ⟨rfl, rfl, h1⟩) (fun d P hd => ?_)
    obtain ⟨e, rfl⟩ : ∃ e, d = e + 9 := ⟨d - 9, by omega⟩
    have a1 := fun P => hA (e + 8) P (by omega)
    have a2 := fun P => hA2 (e + 8) P (by omega)
    rw [ze_36, h1]
    simp (disch := omega) only [↓zs_36_0, ↓zs_36_1, ↓zs_36_4, ↓zs_36_7, ↓zs_36_10, ↓zs_36_11, ↓zs_36_14, ↓zs_36_17, ↓zs_36_18, ↓zs_36_19, ↓zs_36_22, ↓zs_36_25, ↓zs_36_26, ↓zs_36_29, ↓zs_36_32, ↓zs_36_33, zx_pu_s, zx_pu_n, zx_rv_s, zx_rv_n, true_and, and_true, true_or, or_true, zb_0, zb_1, zq_lcl, zq_lcg, zq_lce, eq_self, ite_true, ite_false, zk_83, zw_83, zq_83_0, zq_83_1, zq_83_2, zq_83_3, zk_88, zw_88, zq_88_0, zq_88_1, zq_88_2, zq_88_3, zq_88_4, zq_88_5, zk_84, zw_84, zq_84_0, e6, ew, n1, a1, a2]
    simp (disch := omega) only [↓zs_36_34, ↓zs_36_35, ↓zs_36_38, ↓zs_36_39, ↓zs_36_42, ↓zs_36_43, ↓zs_36_46, ↓zs_36_47, ↓zs_36_48, ↓zs_36_51, ↓zs_36_52, ↓zs_36_53, ↓zs_36_56, ↓zs_36_59, ↓zs_36_60, ↓zs_36_63, ↓zs_36_64, ↓zs_36_67, ↓zs_36_68, ↓zs_36_69, ↓zs_36_72, ↓zs_36_73, ↓zs_36_74, ↓zs_36_77, ↓zs_36_78, zx_pu_s, zx_pu_n, zx_rv_s, zx_rv_n, true_and, and_true, true_or, or_true, zb_0, zb_1, zq_lcl, zq_lcg, zq_lce, eq_self, ite_true, ite_false, zk_83, zw_83, zq_83_0, zq_83_1, zq_83_2, zq_83_3, zk_88, zw_88, zq_88_0, zq_88_1, zq_88_2, zq_88_3, zq_88_4, zq_88_5, n1, s5]
    rfl
  · refine fin 13 12 (.inr ⟨rfl, rfl, h1⟩) (fun d P hd => ?_)
    obtain ⟨e, rfl⟩ : ∃ e, d = e + 9 := ⟨d - 9, by omega⟩
    have a1 := fun P => hA (e + 8) P (by omega)
    have a2 := fun P => hA2 (e + 8) P (by omega)
    rw [ze_36, h1]
    simp (disch := omega) only [↓zs_36_0, ↓zs_36_1, ↓zs_36_4, ↓zs_36_7, ↓zs_36_10, ↓zs_36_11, ↓zs_36_14, ↓zs_36_17, ↓zs_36_18, ↓zs_36_19, ↓zs_36_22, ↓zs_36_25, ↓zs_36_26, ↓zs_36_29, ↓zs_36_32, ↓zs_36_33, zx_pu_s, zx_pu_n, zx_rv_s, zx_rv_n, true_and, and_true, true_or, or_true, zb_0, zb_1, zq_lcl, zq_lcg, zq_lce, eq_self, ite_true, ite_false, zk_83, zw_83, zq_83_0, zq_83_1, zq_83_2, zq_83_3, zk_88, zw_88, zq_88_0, zq_88_1, zq_88_2, zq_88_3, zq_88_4, zq_88_5, zk_84, zw_84, zq_84_0, e6, ew, n1, a1, a2]
    simp (disch := omega) only [↓zs_36_34, ↓zs_36_35, ↓zs_36_38, ↓zs_36_39, ↓zs_36_42, ↓zs_36_43, ↓zs_36_46, ↓zs_36_47, ↓zs_36_48, ↓zs_36_51, ↓zs_36_52, ↓zs_36_53, ↓zs_36_56, ↓zs_36_59, ↓zs_36_60, ↓zs_36_63, ↓zs_36_64, ↓zs_36_67, ↓zs_36_68, ↓zs_36_69, ↓zs_36_72, ↓zs_36_73, ↓zs_36_74, ↓zs_36_77, ↓zs_36_78, zx_pu_s, zx_pu_n, zx_rv_s, zx_rv_n, true_and, and_true, true_or, or_true, zb_0, zb_1, zq_lcl, zq_lcg, zq_lce, eq_self, ite_true, ite_false, zk_83, zw_83, zq_83_0, zq_83_1, zq_83_2, zq_83_3, zk_88, zw_88, zq_88_0, zq_88_1, zq_88_2, zq_88_3, zq_88_4, zq_88_5, n1, s5]
    rfl
end D9
