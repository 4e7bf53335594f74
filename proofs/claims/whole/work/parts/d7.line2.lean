/-! lines: a place on both sides -/
def zf_G (F : Nat → Int32) : Nat → Int32 := zf_lets F (zl F) 0 F
/-- what a row keeps to while a text is read -/
def zPf (F : Nat → Int32) : Prop := zV F 0 ∧ (∀ s, zn F ≤ s → s < 8 → F (125 + s) = -1) ∧ ∀ i, i < zl F → ∃ f, f < zn F ∧ F (7 + 3 * i + 1) = nI f
def zPc (I : zx_MI) (J : zx_MJ) (b : Nat → Nat) (n : Nat) (T : zTk) (F : Nat → Int32) : Prop := zPt I b n T ∧ I 84 6 = nI 0 ∧ I 84 7 = -1 ∧ zR_sq I J 88 F ∧ zR_st I 98 (zf_G F)
def zPm (I : zx_MI) (b : Nat → Nat) (n : Nat) (T : zTk) (F : Nat → Int32) : Prop := zMd I b n T ∧ I 142 = F
def zFl9 (I : zx_MI) (f s : Nat) : Prop := I 84 6 = nI f ∧ I 84 7 = nI s
def zFk1 (I I2 : zx_MI) : Prop := ∀ a j, ¬ ((a = 84 ∧ 2 ≤ j) ∨ (a = 83 ∧ (j = 4 ∨ j = 5))) → I2 a j = I a j
def zFk2 (I I2 : zx_MI) : Prop := ∀ a j, ¬ (a = 138 ∧ 6 ≤ j ∧ j ≤ 12 ∧ j ≠ 8) → I2 a j = I a j
theorem zFk1_t {I I2 I3 : zx_MI} (h : zFk1 I I2) (k : zFk1 I2 I3) : zFk1 I I3 := fun a j n => (k a j n).trans (h a j n)
theorem zFk2_t {I I2 I3 : zx_MI} (h : zFk2 I I2) (k : zFk2 I2 I3) : zFk2 I I3 := fun a j n => (k a j n).trans (h a j n)
theorem zFk1_9 (I : zx_MI) (f s : Nat) : zFk1 I (zFc9 I f s) ∧ zFl9 (zFc9 I f s) f s := ⟨fun a j w => by unfold zFc9; rw [zu_n (by omega), zu_n (by omega)], by unfold zFc9; exact ⟨(zu_n (by omega)).trans (zu_s _ _ _ _), zu_s _ _ _ _⟩⟩
theorem zFk2_b (I : zx_MI) (f s : Nat) : zFk2 I (zMb I f s) := fun a j w => by unfold zMb; rw [zu_n (by omega), zu_n (by omega)]
theorem zx_sq88 : zx_sq 88 := show 88 ∈ zx_sql by decide
theorem zx_st98 : zx_st 98 := show 98 ∈ zx_stl by decide
theorem zf_G_o {F : Nat → Int32} {m : Nat} (v : zV F m) (j : Nat) (h : ¬ (125 ≤ j ∧ j < 133)) : zf_G F j = F j := zf_lets_o v.2.2.2.2.1 _ _ _ (by omega) j h
theorem zf_G_ok {F : Nat → Int32} {m : Nat} (v : zV F m) : zM_ok (zf_G F) (zw F) (zh F) (zn F) ∧ zM_ground (zf_G F) := by
  refine ⟨⟨?_, fun s hs => ?_⟩, fun k hk => ?_⟩
  · rw [zf_G_o v 1 (by omega), zf_G_o v 2 (by omega), zf_G_o v 3 (by omega)]; exact v.1.1
  · obtain ⟨o1, o2, o3, o4⟩ := v.1.2 s hs
    rw [zf_G_o v (109 + s) (by omega), zf_G_o v (117 + s) (by omega)]
    exact ⟨o1, zf_lets_f v.2.2.2.2.1 _ _ _ (by omega) (fun s hs => (v.1.2 s hs).2.1) s hs, o3, o4⟩
  · rw [zf_G_o v (45 + k) (by omega)]; exact v.2.1 k hk
theorem zf_G_taken {F : Nat → Int32} {m N k : Nat} (v : zV F m) (hN : N ≤ 8) (hk : k < 64) : zf_taken (zf_G F) N k = zf_taken F N k := by
  unfold zf_taken
  rw [zf_on_any _ _ _ _ (by omega), zf_on_any _ _ _ _ (by omega), zf_G_o v (45 + k) (by omega)]
  congr 1
  apply zf_any_eq
  intro j _ hj
  rw [zf_G_o v (109 + j) (by omega)]
section SPT
variable {Lh n : Nat} {b : Nat → Nat} {I Im : zx_MI} {J Jm : zx_MJ} {T : zTk} {F : Nat → Int32}
theorem zR_sq_k1 {I2 : zx_MI} (f : zFk1 I I2) (r : zR_sq I J 88 F) : zR_sq I2 J 88 F := zR_sq_f r (fun a j h1 h2 h3 h4 => f a j (by omega)) (fun _ => rfl)
theorem zR_st_k1 {I2 : zx_MI} {B : Nat → Int32} (f : zFk1 I I2) (r : zR_st I 98 B) : zR_st I2 98 B := zR_st_f r (fun a j h1 h2 => f a j (by omega))
theorem zSpot (hc : zPc I J b n T F) (hm : zPm Im b n T F) (pf : zPf F) (w0 : 0 < zw F) : (∃ f s I2 Im2 x, 1 ≤ f ∧ zFk1 I I2 ∧ zFl9 I2 f s ∧ (∀ d P, 8 ≤ d → zx_rn d 33 [.ref 83] (zx_LL Lh) I J P = P (some (.int (nI 0))) (zx_LL Lh) I2 J) ∧ zFk2 Im Im2 ∧ zBad Im2 f s ∧ ∀ d P, 8 ≤ d → zx_rn d 174 [.ref 138] (zx_LL Lh) Im Jm P = P (some (.int x)) (zx_LL Lh) Im2 Jm) ∨ (∃ k T2 I2 Im2, k < zw F * zh F ∧ zf_taken F (zn F) k = false ∧ T.2.1 ≤ T2.1 ∧ zFk1 I I2 ∧ I2 84 6 = I 84 6 ∧ I2 84 7 = I 84 7 ∧ I2 83 5 = nI k ∧ zPt I2 b n T2 ∧ (∀ d P, 8 ≤ d → zx_rn d 33 [.ref 83] (zx_LL Lh) I J P = P (some (.int (nI 1))) (zx_LL Lh) I2 J) ∧ zFk2 Im Im2 ∧ zMd Im2 b n T2 ∧ ∀ d P, 8 ≤ d → zx_rn d 174 [.ref 138] (zx_LL Lh) Im Jm P = P (some (.int (nI k))) (zx_LL Lh) Im2 Jm) := by
  obtain ⟨hpt, h6, h7, sq, st⟩ := hc
  obtain ⟨hmd, hF⟩ := hm
  obtain ⟨v, pf2, pf3⟩ := pf
  obtain ⟨⟨vw, vh, vN, w8, h8, N8⟩, -⟩ := v.1
  have wh : zw F * zh F ≤ 64 := Nat.mul_le_mul w8 h8
  have e6 : I 88 6 = nI (zw F) := sq.1.trans vw
  have m1 : Im 142 1 = nI (zw F) := by rw [hF]; exact vw
  have m2 : Im 142 2 = nI (zh F) := by rw [hF]; exact vh
  have q1 : ∀ x : Nat, (nI 1 = nI 0) = False := fun _ => eq_false (by decide)
  have n1 := q1 0
  by_cases hx : zf_nk T (nI 0) (nI (zw F) - nI 1) = 0
  case neg =>
    left
    have hcN := sc_numN (Lh := Lh) (J := J) hpt hx
    obtain ⟨bd, x, hmN⟩ := sp_numN (Lh := Lh) (J := Jm) hmd hx
    obtain ⟨fb1, -⟩ := zf_nk_b hx
    have f2 := zFk2_b Im (zf_nk T (nI 0) (nI (zw F) - nI 1)) T.1
    have m1' := (f2 142 1 (by omega)).trans m1
    have m2' := (f2 142 2 (by omega)).trans m2
    have hn := fun d lo hi P => sp_num1 (Lh := Lh) (J := Jm) (lo := lo) (hi := hi) bd d P
    have c : (nI (zf_nk T (nI 0) (nI (zw F) - nI 1)) = nI 0) = False := zq_ne hx (by have := bd.2.1; omega) (by omega)
    obtain ⟨z1, z2⟩ := zFk1_9 I (zf_nk T (nI 0) (nI (zw F) - nI 1)) T.1
    have e11 := bd.2.2.1
    generalize hg : zMb Im (zf_nk T (nI 0) (nI (zw F) - nI 1)) T.1 = Ib at *
    refine ⟨_, _, _, Ib, nI (zw F) * Ib 138 10 + x, fb1, z1, z2, fun d P hd => ?_, f2, bd, fun d P hd => ?_⟩
    · obtain ⟨e, rfl⟩ : ∃ e, d = e + 8 := ⟨d - 8, by omega⟩
      have h' := fun P => hcN (e + 7) P (by omega)
      rw [ze_33]
      simp (disch := omega) only [↓zs_33_0, ↓zs_33_1, ↓zs_33_2, ↓zs_33_3, ↓zs_33_6, ↓zs_33_9, ↓zs_33_10, ↓zs_33_11, ↓zs_33_14, ↓zs_33_17, ↓zs_33_18, zx_pu_s, zx_pu_n, zx_rv_s, zx_rv_n, true_and, and_true, true_or, or_true, zb_0, zb_1, zq_lcl, zq_lcg, zq_lce, eq_self, ite_true, ite_false, zk_83, zw_83, zq_83_0, zq_83_1, zq_83_2, zq_83_3, zk_88, zw_88, zq_88_0, zq_88_1, zq_88_2, zq_88_3, zq_88_4, zq_88_5, e6, h']
    · obtain ⟨e, rfl⟩ : ∃ e, d = e + 8 := ⟨d - 8, by omega⟩
      have h' := fun P => hmN (e + 7) P (by omega)
      rw [ze_174]
      simp (disch := omega) only [↓zs_174_0, ↓zs_174_1, ↓zs_174_2, ↓zs_174_3, ↓zs_174_6, ↓zs_174_7, ↓zs_174_8, ↓zs_174_9, ↓zs_174_10, ↓zs_174_13, ↓zs_174_14, ↓zs_174_15, ↓zs_174_18, ↓zs_174_19, ↓zs_174_20, ↓zs_174_21, ↓zs_174_24, ↓zs_174_25, ↓zs_174_26, ↓zs_174_27, ↓zs_174_28, ↓zs_174_29, ↓zs_174_32, ↓zs_174_94, ↓zs_174_95, ↓zs_174_98, ↓zs_174_99, ↓zs_174_100, ↓zs_174_101, ↓zs_174_102, ↓zs_174_103, ↓zs_174_106, ↓zs_174_107, ↓zs_174_108, ↓zs_174_109, ↓zs_174_110, ↓zs_174_113, ↓zs_174_114, ↓zs_174_115, ↓zs_174_116, zx_pu_s, zx_pu_n, zx_rv_s, zx_rv_n, true_and, and_true, true_or, or_true, zb_0, zb_1, zq_lcl, zq_lcg, zq_lce, eq_self, ite_true, ite_false, zk_138, zw_138, zk_139, zw_139, zk_140, zw_140, zk_141, zw_141, zk_142, zw_142, zk_143, zw_143, zk_144, zw_144, zk_145, zw_145, zk_146, zw_146, zk_147, zw_147, zk_148, zw_148, zk_149, zw_149, zk_150, zw_150, zk_151, zw_151, zk_152, zw_152, zq_138_1, zq_138_2, zq_138_3, zq_138_4, zq_138_16, zq_138_19, zq_138_20, zq_138_24, zq_138_25, zq_138_26, zq_138_27, zq_138_31, zq_138_32, zq_138_33, zin_nI, nI_clamp, m1, h', m1', m2', hn, e11, c]
  obtain ⟨k27, xl, xh⟩ := zf_nk_0 hx
  have v9 := hpt.2.2.2.1.2.2.2
  have xw : T.2.2.2 < zw F := by
    rw [pk_sub (by omega), nI_ltI (by omega) (by omega)] at xh
    omega
  obtain ⟨I2, f2, g4, p2, hcY⟩ := sc_numY (Lh := Lh) (J := J) hpt hx
  obtain ⟨Im2, fm2, md2, hmY⟩ := sp_numY (Lh := Lh) (J := Jm) hmd hx
  have fm2' : zFk2 Im Im2 := fun a j w => fm2 a j (by omega)
  have e6' : I2 88 6 = nI (zw F) := (f2 88 6 (by omega)).trans e6
  have e7' : I2 88 7 = nI (zh F) := (f2 88 7 (by omega)).trans (sq.2.1.trans vh)
  have hF2 : Im2 142 = F := by rw [← hF]; exact funext fun j => fm2 142 j (by omega)
  have m1' : Im2 142 1 = nI (zw F) := by rw [hF2]; exact vw
  have m2' : Im2 142 2 = nI (zh F) := by rw [hF2]; exact vh
  obtain ⟨tk2, tle⟩ := zl_tk2_nx b hpt.2.2.2.1.1
  generalize hT2 : zf_nx b n T.2.1 = T2 at *
  have v9' := tk2.1.2.2.2
  -- the place is kept
  have p3 : ∀ y, zPt (zx_u I2 83 5 y) b n T2 := fun y => zPt_f p2 (fun a j w => zu_n (by omega))
  have f3 : ∀ y, zFk1 I (zx_u I2 83 5 y) := fun y a j w => by rw [zu_n (by omega)]; exact f2 a j (by omega)
  have e4 : ∀ y, zx_u I2 83 5 y 84 4 = zf_tkc T2.2.2.1 := fun y => (zu_n (by omega)).trans p2.2.2.1.2.2.1
  have e5 : ∀ y, zx_u I2 83 5 y 84 5 = I2 84 5 := fun y => zu_n (by omega)
  have e8 : ∀ y, zx_u I2 83 5 y 88 7 = nI (zh F) := fun y => (zu_n (by omega)).trans e7'
  have t27 := (zf_tkc_eq ⟨_, tk2.1.2.1⟩ tk2.1.2.2.1).1.1
  dsimp only at t27
  have hi27 := fun d P => sp_is (Lh := Lh) (J := Jm) (d := d) (q := 27) (P := P) md2 (by decide)
  have e11 := md2.2.2.2.2
  -- class: up to the test; model: up to it
  have cl : ∀ e P, zx_rn (e + 8) 33 [.ref 83] (zx_LL Lh) I J P = zx_wp (e + 8) 33 45 [.ref 83, .int (nI T.2.2.2), zx_u0] [] (zx_LL Lh) (zx_u I2 83 5 (nI (zw F) * I2 84 5 + nI T.2.2.2)) J P := fun e P => by
    have h' := fun P => hcY (e + 7) P (by omega)
    rw [ze_33]
    simp (disch := omega) only [↓zs_33_0, ↓zs_33_1, ↓zs_33_2, ↓zs_33_3, ↓zs_33_6, ↓zs_33_9, ↓zs_33_10, ↓zs_33_11, ↓zs_33_14, ↓zs_33_17, ↓zs_33_18, ↓zs_33_19, ↓zs_33_20, ↓zs_33_23, zx_pu_s, zx_pu_n, zx_rv_s, zx_rv_n, true_and, and_true, true_or, or_true, zb_0, zb_1, zq_lcl, zq_lcg, zq_lce, eq_self, ite_true, ite_false, zk_83, zw_83, zq_83_0, zq_83_1, zq_83_2, zq_83_3, zk_88, zw_88, zq_88_0, zq_88_1, zq_88_2, zq_88_3, zq_88_4, zq_88_5, e6, h', n1, g4]
    simp (disch := omega) only [↓zs_33_24, ↓zs_33_25, ↓zs_33_26, ↓zs_33_29, ↓zs_33_32, ↓zs_33_33, ↓zs_33_36, ↓zs_33_39, ↓zs_33_40, ↓zs_33_41, ↓zs_33_42, zx_pu_s, zx_pu_n, zx_rv_s, zx_rv_n, true_and, and_true, true_or, or_true, zb_0, zb_1, zq_lcl, zq_lcg, zq_lce, eq_self, ite_true, ite_false, zk_83, zw_83, zq_83_0, zq_83_1, zq_83_2, zq_83_3, zk_88, zw_88, zq_88_0, zq_88_1, zq_88_2, zq_88_3, zq_88_4, zq_88_5, zk_84, zw_84, zq_84_0, e6', g4]
  have ml : ∀ e P, zx_rn (e + 8) 174 [.ref 138] (zx_LL Lh) Im Jm P = zx_wp (e + 8) 174 28 [.ref 138, .int (nI T.2.2.2), .int (nI (zw F) * Im2 138 10 + nI T.2.2.2)] [] (zx_LL Lh) Im2 Jm P := fun e P => by
    have h' := fun P => hmY (e + 7) P (by omega)
    rw [ze_174]
    simp (disch := omega) only [↓zs_174_0, ↓zs_174_1, ↓zs_174_2, ↓zs_174_3, ↓zs_174_6, ↓zs_174_7, ↓zs_174_8, ↓zs_174_9, ↓zs_174_10, ↓zs_174_13, ↓zs_174_14, ↓zs_174_15, ↓zs_174_18, ↓zs_174_19, ↓zs_174_20, ↓zs_174_21, ↓zs_174_24, ↓zs_174_25, ↓zs_174_26, ↓zs_174_27, zx_pu_s, zx_pu_n, zx_rv_s, zx_rv_n, true_and, and_true, true_or, or_true, zb_0, zb_1, zq_lcl, zq_lcg, zq_lce, eq_self, ite_true, ite_false, zk_138, zw_138, zk_139, zw_139, zk_140, zw_140, zk_141, zw_141, zk_142, zw_142, zk_143, zw_143, zk_144, zw_144, zk_145, zw_145, zk_146, zw_146, zk_147, zw_147, zk_148, zw_148, zk_149, zw_149, zk_150, zw_150, zk_151, zw_151, zk_152, zw_152, zq_138_1, zq_138_2, zq_138_3, zq_138_4, zq_138_16, zq_138_19, zq_138_20, zq_138_24, zq_138_25, zq_138_26, zq_138_27, zq_138_31, zq_138_32, zq_138_33, zin_nI, nI_clamp, m1, h', m1']
  -- what both do at the second number where the place is not refused
  have last : ∀ x k : Int32, (T2.2.2.1 = 27 → k = nI (zw F * T2.2.2.2 + T.2.2.2)) → (∀ e P, zx_rn (e + 8) 33 [.ref 83] (zx_LL Lh) I J P = zx_wp (e + 8) 33 110 [.ref 83, .int (nI T.2.2.2), .int x] [] (zx_LL Lh) (zx_u I2 83 5 k) J P) → (∀ e P, zx_rn (e + 8) 174 [.ref 138] (zx_LL Lh) Im Jm P = zx_wp (e + 8) 174 94 [.ref 138, .int (nI T.2.2.2), .int (nI (zw F) * Im2 138 10 + nI T.2.2.2)] [] (zx_LL Lh) Im2 Jm P) → (zf_nk T2 (nI 0) (nI (zh F) - nI 1) = 0 → zf_taken F (zn F) (zw F * T2.2.2.2 + T.2.2.2) = false) → (∃ f s I2 Im2 x, 1 ≤ f ∧ zFk1 I I2 ∧ zFl9 I2 f s ∧ (∀ d P, 8 ≤ d → zx_rn d 33 [.ref 83] (zx_LL Lh) I J P = P (some (.int (nI 0))) (zx_LL Lh) I2 J) ∧ zFk2 Im Im2 ∧ zBad Im2 f s ∧ ∀ d P, 8 ≤ d → zx_rn d 174 [.ref 138] (zx_LL Lh) Im Jm P = P (some (.int x)) (zx_LL Lh) Im2 Jm) ∨ (∃ k T2 I2 Im2, k < zw F * zh F ∧ zf_taken F (zn F) k = false ∧ T.2.1 ≤ T2.1 ∧ zFk1 I I2 ∧ I2 84 6 = I 84 6 ∧ I2 84 7 = I 84 7 ∧ I2 83 5 = nI k ∧ zPt I2 b n T2 ∧ (∀ d P, 8 ≤ d → zx_rn d 33 [.ref 83] (zx_LL Lh) I J P = P (some (.int (nI 1))) (zx_LL Lh) I2 J) ∧ zFk2 Im Im2 ∧ zMd Im2 b n T2 ∧ ∀ d P, 8 ≤ d → zx_rn d 174 [.ref 138] (zx_LL Lh) Im Jm P = P (some (.int (nI k))) (zx_LL Lh) Im2 Jm) := by
    intro x k hk hcl hml htk
    by_cases hy : zf_nk T2 (nI 0) (nI (zh F) - nI 1) = 0
    · right
      obtain ⟨j27, yl, yh⟩ := zf_nk_0 hy
      have h0 : 0 < zh F := Nat.pos_of_ne_zero (fun e => by
        rw [e] at yh
        have : nI 0 - nI 1 < nI T2.2.2.2 := by
          rw [show nI 0 - nI 1 = (-1 : Int32) by decide, Int32.lt_iff_toInt_lt, nI_toInt (by omega), show (-1 : Int32).toInt = -1 by decide]
          omega
        exact yh this)
      have yw : T2.2.2.2 < zh F := by
        rw [pk_sub (by omega), nI_ltI (by omega) (by omega)] at yh
        omega
      have kw : zw F * T2.2.2.2 + T.2.2.2 < zw F * zh F := by
        have : zw F * T2.2.2.2 + zw F ≤ zw F * zh F := by rw [← Nat.mul_succ]; exact Nat.mul_le_mul_left _ yw
        omega
      obtain ⟨I4, f4, g44, p4, hcY2⟩ := sc_numY (Lh := Lh) (J := J) (p3 k) hy
      obtain ⟨Im4, fm4, md4, hmY2⟩ := sp_numY (Lh := Lh) (J := Jm) md2 hy
      refine ⟨_, _, I4, Im4, kw, htk hy, ?_, zFk1_t (f3 k) (fun a j w => f4 a j (by omega)), ?_, ?_, ?_, p4, fun d P hd => ?_, zFk2_t fm2' (fun a j w => fm4 a j (by omega)), md4, fun d P hd => ?_⟩
      · have := (zl_tk2_nx b tk2.1.1).2
        have := tk2.2.1
        omega
      · rw [f4 84 6 (by omega), zu_n (by omega), f2 84 6 (by omega)]
      · rw [f4 84 7 (by omega), zu_n (by omega), f2 84 7 (by omega)]
      · rw [f4 83 5 (by omega), zu_s, hk j27]
      · obtain ⟨e, rfl⟩ : ∃ e, d = e + 8 := ⟨d - 8, by omega⟩
        have h' := fun P => hcY2 (e + 7) P (by omega)
        have e9 := e8 k
        rw [hcl]
        simp (disch := omega) only [↓zs_33_110, ↓zs_33_111, ↓zs_33_112, ↓zs_33_113, ↓zs_33_116, ↓zs_33_119, ↓zs_33_120, ↓zs_33_121, ↓zs_33_124, zx_pu_s, zx_pu_n, zx_rv_s, zx_rv_n, true_and, and_true, true_or, or_true, zb_0, zb_1, zq_lcl, zq_lcg, zq_lce, eq_self, ite_true, ite_false, zk_83, zw_83, zq_83_0, zq_83_1, zq_83_2, zq_83_3, zk_88, zw_88, zq_88_0, zq_88_1, zq_88_2, zq_88_3, zq_88_4, zq_88_5, e9, h']
      · obtain ⟨e, rfl⟩ : ∃ e, d = e + 8 := ⟨d - 8, by omega⟩
        have h' := fun P => hmY2 (e + 7) P (by omega)
        rw [hml]
        simp (disch := omega) only [↓zs_174_94, ↓zs_174_95, ↓zs_174_98, ↓zs_174_99, ↓zs_174_100, ↓zs_174_101, ↓zs_174_102, ↓zs_174_103, ↓zs_174_106, ↓zs_174_107, ↓zs_174_108, ↓zs_174_109, ↓zs_174_110, ↓zs_174_113, ↓zs_174_114, ↓zs_174_115, ↓zs_174_116, zx_pu_s, zx_pu_n, zx_rv_s, zx_rv_n, true_and, and_true, true_or, or_true, zb_0, zb_1, zq_lcl, zq_lcg, zq_lce, eq_self, ite_true, ite_false, zk_138, zw_138, zk_139, zw_139, zk_140, zw_140, zk_141, zw_141, zk_142, zw_142, zk_143, zw_143, zk_144, zw_144, zk_145, zw_145, zk_146, zw_146, zk_147, zw_147, zk_148, zw_148, zk_149, zw_149, zk_150, zw_150, zk_151, zw_151, zk_152, zw_152, zq_138_1, zq_138_2, zq_138_3, zq_138_4, zq_138_16, zq_138_19, zq_138_20, zq_138_24, zq_138_25, zq_138_26, zq_138_27, zq_138_31, zq_138_32, zq_138_33, zin_nI, nI_clamp, m1', m2', h', pk_mul, nI_add]
    · left
      have hcN := sc_numN (Lh := Lh) (J := J) (p3 k) hy
      obtain ⟨bd, y, hmN⟩ := sp_numN (Lh := Lh) (J := Jm) md2 hy
      obtain ⟨fb1, -⟩ := zf_nk_b hy
      obtain ⟨z1, z2⟩ := zFk1_9 (zx_u I2 83 5 k) (zf_nk T2 (nI 0) (nI (zh F) - nI 1)) T2.1
      refine ⟨_, _, _, _, nI (zw F) * y + nI T.2.2.2, fb1, zFk1_t (f3 k) z1, z2, fun d P hd => ?_, zFk2_t fm2' (zFk2_b _ _ _), bd, fun d P hd => ?_⟩
      · obtain ⟨e, rfl⟩ : ∃ e, d = e + 8 := ⟨d - 8, by omega⟩
        have h' := fun P => hcN (e + 7) P (by omega)
        have e9 := e8 k
        rw [hcl]
        simp (disch := omega) only [↓zs_33_110, ↓zs_33_111, ↓zs_33_112, ↓zs_33_113, ↓zs_33_116, ↓zs_33_119, ↓zs_33_120, ↓zs_33_121, ↓zs_33_124, zx_pu_s, zx_pu_n, zx_rv_s, zx_rv_n, true_and, and_true, true_or, or_true, zb_0, zb_1, zq_lcl, zq_lcg, zq_lce, eq_self, ite_true, ite_false, zk_83, zw_83, zq_83_0, zq_83_1, zq_83_2, zq_83_3, zk_88, zw_88, zq_88_0, zq_88_1, zq_88_2, zq_88_3, zq_88_4, zq_88_5, e9, h']
      · obtain ⟨e, rfl⟩ : ∃ e, d = e + 8 := ⟨d - 8, by omega⟩
        have h' := fun P => hmN (e + 7) P (by omega)
        rw [hml]
        simp (disch := omega) only [↓zs_174_94, ↓zs_174_95, ↓zs_174_98, ↓zs_174_99, ↓zs_174_100, ↓zs_174_101, ↓zs_174_102, ↓zs_174_103, ↓zs_174_106, ↓zs_174_107, ↓zs_174_108, ↓zs_174_109, ↓zs_174_110, ↓zs_174_113, ↓zs_174_114, ↓zs_174_115, ↓zs_174_116, zx_pu_s, zx_pu_n, zx_rv_s, zx_rv_n, true_and, and_true, true_or, or_true, zb_0, zb_1, zq_lcl, zq_lcg, zq_lce, eq_self, ite_true, ite_false, zk_138, zw_138, zk_139, zw_139, zk_140, zw_140, zk_141, zw_141, zk_142, zw_142, zk_143, zw_143, zk_144, zw_144, zk_145, zw_145, zk_146, zw_146, zk_147, zw_147, zk_148, zw_148, zk_149, zw_149, zk_150, zw_150, zk_151, zw_151, zk_152, zw_152, zq_138_1, zq_138_2, zq_138_3, zq_138_4, zq_138_16, zq_138_19, zq_138_20, zq_138_24, zq_138_25, zq_138_26, zq_138_27, zq_138_31, zq_138_32, zq_138_33, zin_nI, nI_clamp, m1', m2', h']
  by_cases c27 : T2.2.2.1 = 27
  · have g := eq_true (t27.mpr c27)
    rw [decide_eq_true c27] at hi27
    have e5' : I2 84 5 = nI T2.2.2.2 := p2.2.2.1.2.2.2 c27
    have e10 : Im2 138 10 = nI T2.2.2.2 := md2.2.2.1.2.2.2 c27
    have ek : nI (zw F) * I2 84 5 + nI T.2.2.2 = nI (zw F * T2.2.2.2 + T.2.2.2) := by rw [e5', pk_mul, nI_add]
    have ek2 : nI (zw F) * Im2 138 10 + nI T.2.2.2 = nI (zw F * T2.2.2.2 + T.2.2.2) := by rw [e10, pk_mul, nI_add]
    have hin := fun d L I J P => sp_in (d := d) (L := L) (I := I) (J := J) (P := P) (nI T2.2.2.2).toInt64 (zh F) (by omega)
    rw [Int32.toInt_toInt64, zf_in_nI (by omega)] at hin
    by_cases cy : T2.2.2.2 < zh F
    · rw [decide_eq_true cy] at hin
      have kw : zw F * T2.2.2.2 + T.2.2.2 < zw F * zh F := by
        have : zw F * T2.2.2.2 + zw F ≤ zw F * zh F := by rw [← Nat.mul_succ]; exact Nat.mul_le_mul_left _ cy
        omega
      have sq3 : ∀ y, zR_sq (zx_u I2 83 5 y) J 88 F := fun y => zR_sq_k1 (f3 y) sq
      have st3 : ∀ y, zR_st (zx_u I2 83 5 y) 98 (zf_G F) := fun y => zR_st_k1 (f3 y) st
      obtain ⟨gok, ggr⟩ := zf_G_ok v
      have gr3 : zR_ground J 88 (zf_G F) := fun k hk => by
        rw [zf_G_o v (45 + k) (by omega)]; exact sq.2.2.2.2.2.1 k hk
      have htk := fun y d P => sc_isTaken (d := d) (Lh := Lh) (I := zx_u I2 83 5 y) (J := J) (P := P) (k := zw F * T2.2.2.2 + T.2.2.2) zx_sq88 zx_st98 gr3 ggr (st3 y) gok (by omega)
      rw [zf_G_taken v N8 (by omega)] at htk
      have hst := fun d P => sp_statueOn (d := d) (Lh := Lh) (I := Im2) (J := Jm) (P := P) (a := 142) (n := 1286) (k := nI (zw F * T2.2.2.2 + T.2.2.2)) (N := zn F) zk_142 (by decide) (by decide) N8 (by rw [hF2]; exact vN)
      rw [hF2] at hst
      have mon : Im2 142 (45 + (zw F * T2.2.2.2 + T.2.2.2)) = F (45 + (zw F * T2.2.2.2 + T.2.2.2)) := by rw [hF2]
      have ek84 : ∀ y, zx_u I2 83 5 y 83 5 = y := fun y => zu_s _ _ _ _
      generalize hK : zw F * T2.2.2.2 + T.2.2.2 = K at *
      cases ct : zf_taken F (zn F) K with
      | true =>
        left
        rw [ct] at htk
        have hf := fun d P => sc_flt (Lh := Lh) (J := J) (d := d) (f := 3) (P := P) (p3 (nI K)).2.2.1.2.1
        have hfm := fun d P => sp_fails (Lh := Lh) (J := Jm) (d := d) (f := 3) (P := P) md2
        have e3 : zMf 3 T2.2.2.1 = 3 := if_neg (by omega)
        rw [e3] at hfm
        have bd : zBad (zMb Im2 3 T2.1) 3 T2.1 := zMb_b (by decide) (by decide)
        have fmb := zFk2_b Im2 3 T2.1
        have b1 := (fmb 142 1 (by omega)).trans m1'
        have b2 := (fmb 142 2 (by omega)).trans m2'
        have hn := fun d lo hi P => sp_num1 (Lh := Lh) (J := Jm) (lo := lo) (hi := hi) bd d P
        obtain ⟨z1, z2⟩ := zFk1_9 (zx_u I2 83 5 (nI K)) 3 T2.1
        refine ⟨3, T2.1, _, _, nI (zw F) * zMb Im2 3 T2.1 138 10 + nI T.2.2.2, by decide, zFk1_t (f3 _) z1, z2, fun d P hd => ?_, zFk2_t fm2' fmb, bd, fun d P hd => ?_⟩
        · obtain ⟨e, rfl⟩ : ∃ e, d = e + 8 := ⟨d - 8, by omega⟩
          rw [cl, ek]
          simp (disch := omega) only [↓zs_33_45, ↓zs_33_46, ↓zs_33_49, ↓zs_33_52, ↓zs_33_53, ↓zs_33_56, ↓zs_33_57, ↓zs_33_60, ↓zs_33_63, ↓zs_33_64, ↓zs_33_67, ↓zs_33_70, ↓zs_33_73, ↓zs_33_74, ↓zs_33_77, ↓zs_33_78, ↓zs_33_79, ↓zs_33_80, zx_pu_s, zx_pu_n, zx_rv_s, zx_rv_n, true_and, and_true, true_or, or_true, zb_0, zb_1, zq_lcl, zq_lcg, zq_lce, eq_self, ite_true, ite_false, zk_83, zw_83, zq_83_0, zq_83_1, zq_83_2, zq_83_3, zk_88, zw_88, zq_88_0, zq_88_1, zq_88_2, zq_88_3, zq_88_4, zq_88_5, zk_84, zw_84, zq_84_0, e4, g, e5, e5', e8, nI_ltI, cy, n1]
          simp (disch := omega) only [↓zs_33_83, ↓zs_33_84, ↓zs_33_87, ↓zs_33_88, ↓zs_33_91, ↓zs_33_92, ↓zs_33_95, ↓zs_33_98, ↓zs_33_101, ↓zs_33_102, ↓zs_33_105, ↓zs_33_106, ↓zs_33_109, zx_pu_s, zx_pu_n, zx_rv_s, zx_rv_n, true_and, and_true, true_or, or_true, zb_0, zb_1, zq_lcl, zq_lcg, zq_lce, eq_self, ite_true, ite_false, zk_83, zw_83, zq_83_0, zq_83_1, zq_83_2, zq_83_3, zk_88, zw_88, zq_88_0, zq_88_1, zq_88_2, zq_88_3, zq_88_4, zq_88_5, zk_98, zw_98, zq_98_0, zq_98_1, zq_98_2, zk_84, zw_84, zq_84_0, ek84, htk, zB_0, reduceCtorEq, hf]
        · obtain ⟨e, rfl⟩ : ∃ e, d = e + 8 := ⟨d - 8, by omega⟩
          rw [ml, ek2]
          simp (disch := omega) only [↓zs_174_28, ↓zs_174_29, ↓zs_174_32, ↓zs_174_35, ↓zs_174_36, ↓zs_174_38, ↓zs_174_41, ↓zs_174_44, ↓zs_174_45, ↓zs_174_48, ↓zs_174_49, ↓zs_174_50, ↓zs_174_51, ↓zs_174_54, ↓zs_174_55, ↓zs_174_56, ↓zs_174_57, ↓zs_174_58, ↓zs_174_59, ↓zs_174_62, zx_pu_s, zx_pu_n, zx_rv_s, zx_rv_n, true_and, and_true, true_or, or_true, zb_0, zb_1, zq_lcl, zq_lcg, zq_lce, eq_self, ite_true, ite_false, zk_138, zw_138, zk_139, zw_139, zk_140, zw_140, zk_141, zw_141, zk_142, zw_142, zk_143, zw_143, zk_144, zw_144, zk_145, zw_145, zk_146, zw_146, zk_147, zw_147, zk_148, zw_148, zk_149, zw_149, zk_150, zw_150, zk_151, zw_151, zk_152, zw_152, zq_138_1, zq_138_2, zq_138_3, zq_138_4, zq_138_16, zq_138_19, zq_138_20, zq_138_24, zq_138_25, zq_138_26, zq_138_27, zq_138_31, zq_138_32, zq_138_33, zin_nI, nI_clamp, e11, hi27, zB_0, reduceCtorEq, e10, m2', hin]
          unfold zf_taken at ct
          by_cases c0 : F (45 + K) = nI 0
          · rw [decide_eq_true c0, Bool.not_true, Bool.false_or, Bool.not_eq_true', decide_eq_false_iff_not] at ct
            have c0' := eq_true c0
            have ct' := eq_false ct
            simp (disch := omega) only [↓zs_174_65, ↓zs_174_66, ↓zs_174_69, ↓zs_174_71, ↓zs_174_72, ↓zs_174_73, ↓zs_174_74, ↓zs_174_77, ↓zs_174_78, ↓zs_174_81, ↓zs_174_82, ↓zs_174_85, ↓zs_174_86, ↓zs_174_89, ↓zs_174_90, ↓zs_174_91, zx_pu_s, zx_pu_n, zx_rv_s, zx_rv_n, true_and, and_true, true_or, or_true, zb_0, zb_1, zq_lcl, zq_lcg, zq_lce, eq_self, ite_true, ite_false, zk_138, zw_138, zk_139, zw_139, zk_140, zw_140, zk_141, zw_141, zk_142, zw_142, zk_143, zw_143, zk_144, zw_144, zk_145, zw_145, zk_146, zw_146, zk_147, zw_147, zk_148, zw_148, zk_149, zw_149, zk_150, zw_150, zk_151, zw_151, zk_152, zw_152, zq_138_1, zq_138_2, zq_138_3, zq_138_4, zq_138_16, zq_138_19, zq_138_20, zq_138_24, zq_138_25, zq_138_26, zq_138_27, zq_138_31, zq_138_32, zq_138_33, zin_nI, nI_clamp, nI_add, mon, c0', hst, ct', hfm]
            simp (disch := omega) only [↓zs_174_94, ↓zs_174_95, ↓zs_174_98, ↓zs_174_99, ↓zs_174_100, ↓zs_174_101, ↓zs_174_102, ↓zs_174_103, ↓zs_174_106, ↓zs_174_107, ↓zs_174_108, ↓zs_174_109, ↓zs_174_110, ↓zs_174_113, ↓zs_174_114, ↓zs_174_115, ↓zs_174_116, zx_pu_s, zx_pu_n, zx_rv_s, zx_rv_n, true_and, and_true, true_or, or_true, zb_0, zb_1, zq_lcl, zq_lcg, zq_lce, eq_self, ite_true, ite_false, zk_138, zw_138, zk_139, zw_139, zk_140, zw_140, zk_141, zw_141, zk_142, zw_142, zk_143, zw_143, zk_144, zw_144, zk_145, zw_145, zk_146, zw_146, zk_147, zw_147, zk_148, zw_148, zk_149, zw_149, zk_150, zw_150, zk_151, zw_151, zk_152, zw_152, zq_138_1, zq_138_2, zq_138_3, zq_138_4, zq_138_16, zq_138_19, zq_138_20, zq_138_24, zq_138_25, zq_138_26, zq_138_27, zq_138_31, zq_138_32, zq_138_33, zin_nI, nI_clamp, b1, b2, hn]
          · have c0' := eq_false c0
            simp (disch := omega) only [↓zs_174_65, ↓zs_174_66, ↓zs_174_69, ↓zs_174_71, ↓zs_174_72, ↓zs_174_73, ↓zs_174_74, ↓zs_174_77, ↓zs_174_78, ↓zs_174_81, ↓zs_174_82, ↓zs_174_85, ↓zs_174_86, ↓zs_174_89, ↓zs_174_90, ↓zs_174_91, zx_pu_s, zx_pu_n, zx_rv_s, zx_rv_n, true_and, and_true, true_or, or_true, zb_0, zb_1, zq_lcl, zq_lcg, zq_lce, eq_self, ite_true, ite_false, zk_138, zw_138, zk_139, zw_139, zk_140, zw_140, zk_141, zw_141, zk_142, zw_142, zk_143, zw_143, zk_144, zw_144, zk_145, zw_145, zk_146, zw_146, zk_147, zw_147, zk_148, zw_148, zk_149, zw_149, zk_150, zw_150, zk_151, zw_151, zk_152, zw_152, zq_138_1, zq_138_2, zq_138_3, zq_138_4, zq_138_16, zq_138_19, zq_138_20, zq_138_24, zq_138_25, zq_138_26, zq_138_27, zq_138_31, zq_138_32, zq_138_33, zin_nI, nI_clamp, nI_add, mon, c0', hfm]
            simp (disch := omega) only [↓zs_174_94, ↓zs_174_95, ↓zs_174_98, ↓zs_174_99, ↓zs_174_100, ↓zs_174_101, ↓zs_174_102, ↓zs_174_103, ↓zs_174_106, ↓zs_174_107, ↓zs_174_108, ↓zs_174_109, ↓zs_174_110, ↓zs_174_113, ↓zs_174_114, ↓zs_174_115, ↓zs_174_116, zx_pu_s, zx_pu_n, zx_rv_s, zx_rv_n, true_and, and_true, true_or, or_true, zb_0, zb_1, zq_lcl, zq_lcg, zq_lce, eq_self, ite_true, ite_false, zk_138, zw_138, zk_139, zw_139, zk_140, zw_140, zk_141, zw_141, zk_142, zw_142, zk_143, zw_143, zk_144, zw_144, zk_145, zw_145, zk_146, zw_146, zk_147, zw_147, zk_148, zw_148, zk_149, zw_149, zk_150, zw_150, zk_151, zw_151, zk_152, zw_152, zq_138_1, zq_138_2, zq_138_3, zq_138_4, zq_138_16, zq_138_19, zq_138_20, zq_138_24, zq_138_25, zq_138_26, zq_138_27, zq_138_31, zq_138_32, zq_138_33, zin_nI, nI_clamp, b1, b2, hn]
      | false =>
        rw [ct] at htk
        refine last (nI 1) (nI K) (fun _ => rfl) (fun e P => ?_) (fun e P => ?_) (fun _ => ct)
        · rw [cl, ek]
          simp (disch := omega) only [↓zs_33_45, ↓zs_33_46, ↓zs_33_49, ↓zs_33_52, ↓zs_33_53, ↓zs_33_56, ↓zs_33_57, ↓zs_33_60, ↓zs_33_63, ↓zs_33_64, ↓zs_33_67, ↓zs_33_70, ↓zs_33_73, ↓zs_33_74, ↓zs_33_77, ↓zs_33_78, ↓zs_33_79, ↓zs_33_80, zx_pu_s, zx_pu_n, zx_rv_s, zx_rv_n, true_and, and_true, true_or, or_true, zb_0, zb_1, zq_lcl, zq_lcg, zq_lce, eq_self, ite_true, ite_false, zk_83, zw_83, zq_83_0, zq_83_1, zq_83_2, zq_83_3, zk_88, zw_88, zq_88_0, zq_88_1, zq_88_2, zq_88_3, zq_88_4, zq_88_5, zk_84, zw_84, zq_84_0, e4, g, e5, e5', e8, nI_ltI, cy, n1]
          simp (disch := omega) only [↓zs_33_83, ↓zs_33_84, ↓zs_33_87, ↓zs_33_88, ↓zs_33_91, ↓zs_33_92, ↓zs_33_95, ↓zs_33_98, ↓zs_33_101, ↓zs_33_102, ↓zs_33_105, ↓zs_33_106, ↓zs_33_109, zx_pu_s, zx_pu_n, zx_rv_s, zx_rv_n, true_and, and_true, true_or, or_true, zb_0, zb_1, zq_lcl, zq_lcg, zq_lce, eq_self, ite_true, ite_false, zk_83, zw_83, zq_83_0, zq_83_1, zq_83_2, zq_83_3, zk_88, zw_88, zq_88_0, zq_88_1, zq_88_2, zq_88_3, zq_88_4, zq_88_5, zk_98, zw_98, zq_98_0, zq_98_1, zq_98_2, zk_84, zw_84, zq_84_0, ek84, htk, zB_0]
        · rw [ml, ek2]
          simp (disch := omega) only [↓zs_174_28, ↓zs_174_29, ↓zs_174_32, ↓zs_174_35, ↓zs_174_36, ↓zs_174_38, ↓zs_174_41, ↓zs_174_44, ↓zs_174_45, ↓zs_174_48, ↓zs_174_49, ↓zs_174_50, ↓zs_174_51, ↓zs_174_54, ↓zs_174_55, ↓zs_174_56, ↓zs_174_57, ↓zs_174_58, ↓zs_174_59, ↓zs_174_62, zx_pu_s, zx_pu_n, zx_rv_s, zx_rv_n, true_and, and_true, true_or, or_true, zb_0, zb_1, zq_lcl, zq_lcg, zq_lce, eq_self, ite_true, ite_false, zk_138, zw_138, zk_139, zw_139, zk_140, zw_140, zk_141, zw_141, zk_142, zw_142, zk_143, zw_143, zk_144, zw_144, zk_145, zw_145, zk_146, zw_146, zk_147, zw_147, zk_148, zw_148, zk_149, zw_149, zk_150, zw_150, zk_151, zw_151, zk_152, zw_152, zq_138_1, zq_138_2, zq_138_3, zq_138_4, zq_138_16, zq_138_19, zq_138_20, zq_138_24, zq_138_25, zq_138_26, zq_138_27, zq_138_31, zq_138_32, zq_138_33, zin_nI, nI_clamp, e11, hi27, zB_0, reduceCtorEq, e10, m2', hin]
          unfold zf_taken at ct
          rw [Bool.or_eq_false_iff, Bool.not_eq_false', Bool.not_eq_false', decide_eq_true_iff, decide_eq_true_iff] at ct
          have c0' := eq_true ct.1
          have ct' := eq_true ct.2
          simp (disch := omega) only [↓zs_174_65, ↓zs_174_66, ↓zs_174_69, ↓zs_174_71, ↓zs_174_72, ↓zs_174_73, ↓zs_174_74, ↓zs_174_77, ↓zs_174_78, ↓zs_174_81, ↓zs_174_82, ↓zs_174_85, ↓zs_174_86, ↓zs_174_89, ↓zs_174_90, ↓zs_174_91, zx_pu_s, zx_pu_n, zx_rv_s, zx_rv_n, true_and, and_true, true_or, or_true, zb_0, zb_1, zq_lcl, zq_lcg, zq_lce, eq_self, ite_true, ite_false, zk_138, zw_138, zk_139, zw_139, zk_140, zw_140, zk_141, zw_141, zk_142, zw_142, zk_143, zw_143, zk_144, zw_144, zk_145, zw_145, zk_146, zw_146, zk_147, zw_147, zk_148, zw_148, zk_149, zw_149, zk_150, zw_150, zk_151, zw_151, zk_152, zw_152, zq_138_1, zq_138_2, zq_138_3, zq_138_4, zq_138_16, zq_138_19, zq_138_20, zq_138_24, zq_138_25, zq_138_26, zq_138_27, zq_138_31, zq_138_32, zq_138_33, zin_nI, nI_clamp, nI_add, mon, c0', hst, ct']
    · rw [decide_eq_false cy] at hin
      refine last (nI 0) (nI (zw F * T2.2.2.2 + T.2.2.2)) (fun _ => rfl) (fun e P => ?_) (fun e P => ?_) (fun hy => ?_)
      · rw [cl, ek]
        simp (disch := omega) only [↓zs_33_45, ↓zs_33_46, ↓zs_33_49, ↓zs_33_52, ↓zs_33_53, ↓zs_33_56, ↓zs_33_57, ↓zs_33_60, ↓zs_33_63, ↓zs_33_64, ↓zs_33_67, ↓zs_33_70, ↓zs_33_73, ↓zs_33_74, ↓zs_33_77, ↓zs_33_78, ↓zs_33_79, ↓zs_33_80, ↓zs_33_83, ↓zs_33_84, ↓zs_33_87, ↓zs_33_88, ↓zs_33_91, ↓zs_33_92, ↓zs_33_95, ↓zs_33_98, ↓zs_33_101, ↓zs_33_102, ↓zs_33_105, ↓zs_33_106, ↓zs_33_109, zx_pu_s, zx_pu_n, zx_rv_s, zx_rv_n, true_and, and_true, true_or, or_true, zb_0, zb_1, zq_lcl, zq_lcg, zq_lce, eq_self, ite_true, ite_false, zk_83, zw_83, zq_83_0, zq_83_1, zq_83_2, zq_83_3, zk_88, zw_88, zq_88_0, zq_88_1, zq_88_2, zq_88_3, zq_88_4, zq_88_5, zk_84, zw_84, zq_84_0, e4, g, e5, e5', e8, nI_ltI, cy]
      · rw [ml]
        simp (disch := omega) only [↓zs_174_28, ↓zs_174_29, ↓zs_174_32, ↓zs_174_35, ↓zs_174_36, ↓zs_174_38, ↓zs_174_41, ↓zs_174_44, ↓zs_174_45, ↓zs_174_48, ↓zs_174_49, ↓zs_174_50, ↓zs_174_51, ↓zs_174_54, ↓zs_174_55, ↓zs_174_56, ↓zs_174_57, ↓zs_174_58, ↓zs_174_59, ↓zs_174_62, ↓zs_174_65, ↓zs_174_66, ↓zs_174_69, ↓zs_174_71, ↓zs_174_72, ↓zs_174_73, ↓zs_174_74, ↓zs_174_77, ↓zs_174_78, ↓zs_174_81, ↓zs_174_82, ↓zs_174_85, ↓zs_174_86, ↓zs_174_89, ↓zs_174_90, ↓zs_174_91, zx_pu_s, zx_pu_n, zx_rv_s, zx_rv_n, true_and, and_true, true_or, or_true, zb_0, zb_1, zq_lcl, zq_lcg, zq_lce, eq_self, ite_true, ite_false, zk_138, zw_138, zk_139, zw_139, zk_140, zw_140, zk_141, zw_141, zk_142, zw_142, zk_143, zw_143, zk_144, zw_144, zk_145, zw_145, zk_146, zw_146, zk_147, zw_147, zk_148, zw_148, zk_149, zw_149, zk_150, zw_150, zk_151, zw_151, zk_152, zw_152, zq_138_1, zq_138_2, zq_138_3, zq_138_4, zq_138_16, zq_138_19, zq_138_20, zq_138_24, zq_138_25, zq_138_26, zq_138_27, zq_138_31, zq_138_32, zq_138_33, zin_nI, nI_clamp, e11, hi27, zB_0, reduceCtorEq, e10, m2', hin]
      · obtain ⟨-, -, yh⟩ := zf_nk_0 hy
        exfalso
        apply yh
        by_cases h0 : zh F = 0
        · rw [h0, show nI 0 - nI 1 = (-1 : Int32) by decide, Int32.lt_iff_toInt_lt, nI_toInt (by omega), show (-1 : Int32).toInt = -1 by decide]
          omega
        · rw [pk_sub (by omega), nI_ltI (by omega) (by omega)]
          omega
  · have g := eq_false (fun w => c27 (t27.mp w))
    rw [decide_eq_false c27] at hi27
    refine last (nI 0) (nI (zw F) * I2 84 5 + nI T.2.2.2) (fun h => absurd h c27) (fun e P => ?_) (fun e P => ?_) (fun hy => absurd (zf_nk_0 hy).1 c27)
    · rw [cl]
      simp (disch := omega) only [↓zs_33_45, ↓zs_33_46, ↓zs_33_49, ↓zs_33_52, ↓zs_33_53, ↓zs_33_56, ↓zs_33_57, ↓zs_33_60, ↓zs_33_63, ↓zs_33_64, ↓zs_33_67, ↓zs_33_70, ↓zs_33_73, ↓zs_33_74, ↓zs_33_77, ↓zs_33_78, ↓zs_33_79, ↓zs_33_80, ↓zs_33_83, ↓zs_33_84, ↓zs_33_87, ↓zs_33_88, ↓zs_33_91, ↓zs_33_92, ↓zs_33_95, ↓zs_33_98, ↓zs_33_101, ↓zs_33_102, ↓zs_33_105, ↓zs_33_106, ↓zs_33_109, zx_pu_s, zx_pu_n, zx_rv_s, zx_rv_n, true_and, and_true, true_or, or_true, zb_0, zb_1, zq_lcl, zq_lcg, zq_lce, eq_self, ite_true, ite_false, zk_83, zw_83, zq_83_0, zq_83_1, zq_83_2, zq_83_3, zk_88, zw_88, zq_88_0, zq_88_1, zq_88_2, zq_88_3, zq_88_4, zq_88_5, zk_84, zw_84, zq_84_0, e4, g]
    · rw [ml]
      simp (disch := omega) only [↓zs_174_28, ↓zs_174_29, ↓zs_174_32, ↓zs_174_35, ↓zs_174_36, ↓zs_174_38, ↓zs_174_41, ↓zs_174_44, ↓zs_174_45, ↓zs_174_48, ↓zs_174_49, ↓zs_174_50, ↓zs_174_51, ↓zs_174_54, ↓zs_174_55, ↓zs_174_56, ↓zs_174_57, ↓zs_174_58, ↓zs_174_59, ↓zs_174_62, ↓zs_174_65, ↓zs_174_66, ↓zs_174_69, ↓zs_174_71, ↓zs_174_72, ↓zs_174_73, ↓zs_174_74, ↓zs_174_77, ↓zs_174_78, ↓zs_174_81, ↓zs_174_82, ↓zs_174_85, ↓zs_174_86, ↓zs_174_89, ↓zs_174_90, ↓zs_174_91, zx_pu_s, zx_pu_n, zx_rv_s, zx_rv_n, true_and, and_true, true_or, or_true, zb_0, zb_1, zq_lcl, zq_lcg, zq_lce, eq_self, ite_true, ite_false, zk_138, zw_138, zk_139, zw_139, zk_140, zw_140, zk_141, zw_141, zk_142, zw_142, zk_143, zw_143, zk_144, zw_144, zk_145, zw_145, zk_146, zw_146, zk_147, zw_147, zk_148, zw_148, zk_149, zw_149, zk_150, zw_150, zk_151, zw_151, zk_152, zw_152, zq_138_1, zq_138_2, zq_138_3, zq_138_4, zq_138_16, zq_138_19, zq_138_20, zq_138_24, zq_138_25, zq_138_26, zq_138_27, zq_138_31, zq_138_32, zq_138_33, e11, hi27, zB_0]
end SPT
