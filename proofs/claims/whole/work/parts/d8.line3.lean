/-! lines: what a line may change; the first kind -/
def zFkC (I I2 : zx_MI) : Prop := ∀ a j, ¬ (83 ≤ a ∧ a ≤ 101 ∧ a ≠ 85) → I2 a j = I a j
def zFkJ (J J2 : zx_MJ) : Prop := ∀ a j, a ≠ 88 → J2 a j = J a j
def zFkM (I I2 : zx_MI) : Prop := ∀ a j, ¬ ((a = 142 ∧ j ≠ 134) ∨ (a = 138 ∧ 6 ≤ j ∧ j ≤ 12 ∧ j ≠ 8)) → I2 a j = I a j
theorem zFk1_C {I I2 : zx_MI} (h : zFk1 I I2) : zFkC I I2 := fun a j w => h a j (by omega)
theorem zFk2_M {I I2 : zx_MI} (h : zFk2 I I2) : zFkM I I2 := fun a j w => h a j (by omega)
theorem zFkC_t {I I2 I3 : zx_MI} (h : zFkC I I2) (k : zFkC I2 I3) : zFkC I I3 := fun a j n => (k a j n).trans (h a j n)
theorem zFkM_t {I I2 I3 : zx_MI} (h : zFkM I I2) (k : zFkM I2 I3) : zFkM I I3 := fun a j n => (k a j n).trans (h a j n)
theorem zFkC_u {I : zx_MI} {a j : Nat} {x : Int32} (h : 83 ≤ a ∧ a ≤ 101 ∧ a ≠ 85) : zFkC I (zx_u I a j x) := fun b i w => zu_n (fun e => w (by rw [e.1]; exact h))
theorem zFkM_u {I : zx_MI} {j : Nat} {x : Int32} (h : j ≠ 134 := by omega) : zFkM I (zx_u I 142 j x) := fun b i w => zu_n (fun e => w (.inl ⟨e.1, by omega⟩))
theorem zFkJ_r (J : zx_MJ) : zFkJ J J := fun _ _ _ => rfl
theorem zFk_adv {I I2 : zx_MI} (h : ∀ a j, ¬ (a = 84 ∧ 2 ≤ j ∧ j ≤ 5) → I2 a j = I a j) : zFk1 I I2 := fun a j w => h a j (by omega)
theorem zFk_num {I I2 : zx_MI} (h : ∀ a j, ¬ ((a = 84 ∧ 2 ≤ j ∧ j ≤ 5) ∨ (a = 83 ∧ j = 4)) → I2 a j = I a j) : zFk1 I I2 := fun a j w => h a j (by omega)
theorem zFk_nxt {I I2 : zx_MI} (h : ∀ a j, ¬ (a = 138 ∧ (j = 6 ∨ j = 7 ∨ j = 9 ∨ j = 10)) → I2 a j = I a j) : zFk2 I I2 := fun a j w => h a j (by omega)
/-- a line on both sides: both go on alike, or both find the same fault; or the class finds behind the line what the model's square will find -/
def zLn (Lh : Nat) (b : Nat → Nat) (n : Nat) (T : zTk) (I : zx_MI) (J : zx_MJ) (Im : zx_MI) (Jm : zx_MJ) (kc : Nat) (ac : List Value) (km : Nat) (am : List Value) (D : Nat) : Prop :=
  (∃ f s I2 J2 Im2, 1 ≤ f ∧ f < 5 ∧ zFkC I I2 ∧ zFkJ J J2 ∧ zFl9 I2 f s ∧ (∀ d P, D ≤ d → zx_rn d kc ac (zx_LL Lh) I J P = P (some (.int (nI 0))) (zx_LL Lh) I2 J2) ∧ zFkM Im Im2 ∧ (zBad Im2 f s ∨ ∃ T2, zMd Im2 b n T2 ∧ T2.2.2.1 ≠ 40 ∧ f = zl_mp T2.2.2.1 ∧ s = T2.1) ∧ ∀ d P, D ≤ d → zx_rn d km am (zx_LL Lh) Im Jm P = P none (zx_LL Lh) Im2 Jm) ∨
  (∃ T2 F2 I2 J2 Im2, T.2.1 ≤ T2.1 ∧ zFkC I I2 ∧ zFkJ J J2 ∧ zPc I2 J2 b n T2 F2 ∧ zPf F2 ∧ (∀ d P, D ≤ d → zx_rn d kc ac (zx_LL Lh) I J P = P (some (.int (nI 1))) (zx_LL Lh) I2 J2) ∧ zFkM Im Im2 ∧ zPm Im2 b n T2 F2 ∧ ∀ d P, D ≤ d → zx_rn d km am (zx_LL Lh) Im Jm P = P none (zx_LL Lh) Im2 Jm)
/-- letters, place by place -/
theorem zf_lets_p {B B2 : Nat → Int32} (h3 : B2 133 = B 133) : ∀ m k R R2 j, (∀ i, k ≤ i → i < k + m → B2 (7 + 3 * i) = B (7 + 3 * i) ∧ B2 (7 + 3 * i + 1) = B (7 + 3 * i + 1) ∧ B2 (7 + 3 * i + 2) = B (7 + 3 * i + 2)) → R2 j = R j → zf_lets B2 m k R2 j = zf_lets B m k R j := by
  intro m
  induction m with
  | zero => intro k R R2 j _ h; exact h
  | succ m ih =>
    intro k R R2 j hl h
    obtain ⟨a1, a2, a3⟩ := hl k (by omega) (by omega)
    rw [zf_lets, zf_lets]
    refine ih (k + 1) _ _ j (fun i h1 h2 => hl i (by omega) (by omega)) ?_
    rw [a1, a2, a3, h3]
    by_cases c : B (7 + 3 * k) = B 133
    · rw [if_pos c, if_pos c]
      unfold zu1
      rw [h]
    · rw [if_neg c, if_neg c]; exact h
theorem zf_lets_n {B : Nat → Int32} {s : Nat} : ∀ m k R, (∀ i, k ≤ i → i < k + m → zf_nat (B (7 + 3 * i + 1)) ≠ s) → zf_lets B m k R (125 + s) = R (125 + s) := by
  intro m
  induction m with
  | zero => intro k R _; rfl
  | succ m ih =>
    intro k R h
    have h0 := h k (by omega) (by omega)
    rw [zf_lets, ih (k + 1) _ (fun i h1 h2 => h i (by omega) (by omega))]
    split
    · rw [zu1_n (by omega)]
    · rfl
theorem zf_lets_s {B : Nat → Int32} : ∀ m k R, zf_lets B (m + 1) k R = if B (7 + 3 * (k + m)) = B 133 then zu1 (zf_lets B m k R) (125 + zf_nat (B (7 + 3 * (k + m) + 1))) (B (7 + 3 * (k + m) + 2)) else zf_lets B m k R := by
  intro m
  induction m with
  | zero => intro k R; rfl
  | succ m ih =>
    intro k R
    rw [zf_lets, ih (k + 1), zf_lets, show k + 1 + m = k + (m + 1) by omega]
theorem zf_G_k {F F2 : Nat → Int32} {m : Nat} (v : zV F m) (h4 : ∀ j, 4 ≤ j → j < 37 → j ≠ 5 → j ≠ 6 → F2 j = F j) (h3 : F2 133 = F 133) {j : Nat} (h : F2 j = F j) : zf_G F2 j = zf_G F j := by
  have hl := v.2.2.2.2.1.2.1
  unfold zf_G
  rw [show zl F2 = zl F by unfold zl; rw [h4 4 (by omega) (by omega) (by omega) (by omega)]]
  exact zf_lets_p h3 _ _ _ _ j (fun i _ hi => ⟨h4 _ (by omega) (by omega) (by omega) (by omega), h4 _ (by omega) (by omega) (by omega) (by omega), h4 _ (by omega) (by omega) (by omega) (by omega)⟩) h
/-- parts of a row -/
theorem zV_snow {B B2 : Nat → Int32} (h5 : B2 5 = B 5) (h : ∀ j, 37 ≤ j → j < 45 → B2 j = B j) (r : zM_snow B (zo B)) : zM_snow B2 (zo B2) := by
  have e : zo B2 = zo B := by unfold zo; rw [h5]
  obtain ⟨r1, r2, r3⟩ := r
  rw [e]
  refine ⟨h5.trans r1, r2, fun i hi => ?_⟩
  rw [h (37 + 2 * i) (by omega) (by omega), h (37 + 2 * i + 1) (by omega) (by omega)]; exact r3 i hi
theorem zV_let {B B2 : Nat → Int32} (h4 : B2 4 = B 4) (h : ∀ j, 7 ≤ j → j < 37 → B2 j = B j) (r : zM_let B) : zM_let B2 := by
  have e : zl B2 = zl B := by unfold zl; rw [h4]
  obtain ⟨r1, r2, r3⟩ := r
  unfold zM_let
  rw [e]
  refine ⟨h4.trans r1, r2, fun i hi => ?_⟩
  rw [h (7 + 3 * i) (by omega) (by omega), h (7 + 3 * i + 1) (by omega) (by omega), h (7 + 3 * i + 2) (by omega) (by omega)]; exact r3 i hi
theorem zV_law {B B2 : Nat → Int32} (h6 : B2 6 = B 6) (h : ∀ j, 385 ≤ j → B2 j = B j) (r : zM_law B) : zM_law B2 := by
  have e : zk B2 = zk B := by unfold zk; rw [h 385 (by omega)]
  unfold zM_law at r ⊢
  have e2 : (fun k => B2 (386 + k)) = fun k => B (386 + k) := by
    funext k
    exact h _ (by omega)
  rw [e, h 385 (by omega), h6, e2]
  obtain ⟨r1, r2, r3, r4⟩ := r
  refine ⟨r1, r2, fun k hk => ?_, r4⟩
  rw [h (386 + k) (by omega)]; exact r3 k hk
theorem zMd_w {I I2 : zx_MI} {b : Nat → Nat} {n : Nat} {T : zTk} (z : zMd I b n T) (f : ∀ a j, a ≠ 142 → I2 a j = I a j) : zMd I2 b n T := by
  obtain ⟨z1, z2, ⟨t1, t2, t3, t4⟩, z4, z5⟩ := z
  exact ⟨zTm_f z1 (fun j => f 141 j (by omega)) (f 138 8 (by omega)), fun a j ha => (f a j (by omega)).trans (z2 a j ha), ⟨(f 138 7 (by omega)).trans t1, (f 138 6 (by omega)).trans t2, (f 138 9 (by omega)).trans t3, fun h => (f 138 10 (by omega)).trans (t4 h)⟩, z4, (f 138 11 (by omega)).trans z5⟩
section D8
variable {Lh n : Nat} {b : Nat → Nat} {I Im : zx_MI} {J Jm : zx_MJ} {T : zTk} {F : Nat → Int32}
theorem zPf_0 (pf : zPf F) : F 133 = nI 0 := by
  obtain ⟨⟨-, -, -, -, -, -, h1, h2⟩, -⟩ := pf
  rw [h1, show zt F = 0 by omega]
theorem zf_nk_lt {a c : Nat} (h : zf_nk T (nI a) (nI c) = 0) (hT : T.2.2.2 ≤ 999) (ha : a < 1000) (hc : c < 1000) : a ≤ T.2.2.2 ∧ T.2.2.2 ≤ c := by
  obtain ⟨-, h1, h2⟩ := zf_nk_0 h
  rw [nI_ltI (by omega) (by omega)] at h1 h2
  omega
theorem zStones (hc : zPc I J b n T F) (hm : zPm Im b n T F) (pf : zPf F) (w0 : zw F = 0) : zLn Lh b n T I J Im Jm 34 [.ref 83] 172 [.ref 138] 8 := by
  obtain ⟨hpt, h6, h7, sq, st⟩ := hc
  obtain ⟨hmd, hF⟩ := hm
  have pf' := pf
  obtain ⟨v, pf2, pf3⟩ := pf
  obtain ⟨⟨vw, vh, vN, w8, h8, N8⟩, vs⟩ := v.1
  have e6 : I 88 6 = nI 0 := by rw [sq.1, vw, w0]
  have q0 : ∀ x : Nat, (nI 0 < nI 0) = False := fun _ => eq_false (by decide)
  have q00 := q0 0
  have n1 : (nI 1 = nI 0) = False := eq_false (by decide)
  obtain ⟨I1, f1, p1, hA⟩ := sc_adv (Lh := Lh) (J := J) hpt
  obtain ⟨Im1, g1, m1, hB⟩ := sp_nextM (Lh := Lh) (J := Jm) hmd
  obtain ⟨tk1, tle1⟩ := zl_tk2_nx b hpt.2.2.2.1.1
  generalize hT1 : zf_nx b n T.2.1 = T1 at *
  have e11 := fun {I : zx_MI} {T : zTk} (z : zMd I b n T) => z.2.2.2.2
  by_cases hx : zf_nk T1 (nI 2) (nI 8) = 0
  case neg =>
    left
    have hcN := sc_numN (Lh := Lh) (J := J) p1 hx
    obtain ⟨bd, x, hmN⟩ := sp_numN (Lh := Lh) (J := Jm) m1 hx
    obtain ⟨fb1, fb2⟩ := zf_nk_b hx
    obtain ⟨z1, z2⟩ := zFk1_9 I1 (zf_nk T1 (nI 2) (nI 8)) T1.1
    have hn := fun lo hi d P => sp_num1 (Lh := Lh) (J := Jm) (lo := lo) (hi := hi) bd d P
    have c : (nI (zf_nk T1 (nI 2) (nI 8)) = nI 0) = False := zq_ne hx (by omega) (by omega)
    have b11 := bd.2.2.1
    have fm := zFk2_b Im1 (zf_nk T1 (nI 2) (nI 8)) T1.1
    generalize zMb Im1 (zf_nk T1 (nI 2) (nI 8)) T1.1 = Ib at *
    refine ⟨_, _, _, J, Ib, fb1, fb2, zFk1_C (zFk1_t (zFk_adv f1) z1), zFkJ_r J, z2, fun d P hd => ?_, zFk2_M (zFk2_t (zFk_nxt g1) fm), .inl bd, fun d P hd => ?_⟩
    · obtain ⟨e, rfl⟩ : ∃ e, d = e + 8 := ⟨d - 8, by omega⟩
      have a1 := fun P => hA (e + 7) P (by omega)
      have a2 := fun P => hcN (e + 7) P (by omega)
      rw [ze_34]
      simp (disch := omega) only [↓zs_34_0, ↓zs_34_1, ↓zs_34_4, ↓zs_34_7, ↓zs_34_10, ↓zs_34_11, ↓zs_34_14, ↓zs_34_17, ↓zs_34_18, ↓zs_34_19, ↓zs_34_22, ↓zs_34_25, ↓zs_34_26, ↓zs_34_27, ↓zs_34_29, ↓zs_34_32, ↓zs_34_35, ↓zs_34_36, ↓zs_34_37, ↓zs_34_38, ↓zs_34_41, ↓zs_34_42, ↓zs_34_43, ↓zs_34_44, ↓zs_34_46, ↓zs_34_49, ↓zs_34_52, ↓zs_34_53, ↓zs_34_54, ↓zs_34_55, ↓zs_34_58, ↓zs_34_59, ↓zs_34_62, ↓zs_34_63, ↓zs_34_66, ↓zs_34_67, ↓zs_34_70, ↓zs_34_73, ↓zs_34_74, zx_pu_s, zx_pu_n, zx_rv_s, zx_rv_n, true_and, and_true, true_or, or_true, zb_0, zb_1, zq_lcl, zq_lcg, zq_lce, eq_self, ite_true, ite_false, zk_83, zw_83, zq_83_0, zq_83_1, zq_83_2, zq_83_3, zk_88, zw_88, zq_88_0, zq_88_1, zq_88_2, zq_88_3, zq_88_4, zq_88_5, zk_84, zw_84, zq_84_0, e6, q00, a1, a2]
    · obtain ⟨e, rfl⟩ : ∃ e, d = e + 8 := ⟨d - 8, by omega⟩
      have a1 := fun P => hB (e + 7) P (by omega)
      have a2 := fun P => hmN (e + 7) P (by omega)
      have a3 := fun lo hi P => hn lo hi (e + 1) P
      rw [ze_172]
      simp (disch := omega) only [↓zs_172_0, ↓zs_172_1, ↓zs_172_4, ↓zs_172_5, ↓zs_172_6, ↓zs_172_8, ↓zs_172_11, ↓zs_172_12, ↓zs_172_13, ↓zs_172_14, ↓zs_172_16, ↓zs_172_19, ↓zs_172_20, ↓zs_172_21, ↓zs_172_24, ↓zs_172_27, ↓zs_172_28, ↓zs_172_29, ↓zs_172_32, ↓zs_172_33, ↓zs_172_34, ↓zs_172_35, ↓zs_172_36, ↓zs_172_39, ↓zs_172_40, ↓zs_172_41, ↓zs_172_42, zx_pu_s, zx_pu_n, zx_rv_s, zx_rv_n, true_and, and_true, true_or, or_true, zb_0, zb_1, zq_lcl, zq_lcg, zq_lce, eq_self, ite_true, ite_false, zk_138, zw_138, zk_139, zw_139, zk_140, zw_140, zk_141, zw_141, zk_142, zw_142, zk_143, zw_143, zk_144, zw_144, zk_145, zw_145, zk_146, zw_146, zk_147, zw_147, zk_148, zw_148, zk_149, zw_149, zk_150, zw_150, zk_151, zw_151, zk_152, zw_152, zq_138_1, zq_138_2, zq_138_3, zq_138_4, zq_138_16, zq_138_19, zq_138_20, zq_138_24, zq_138_25, zq_138_26, zq_138_27, zq_138_31, zq_138_32, zq_138_33, a1, a2, a3, b11, c]
  obtain ⟨x2, x8⟩ := zf_nk_lt hx tk1.1.2.2.2 (by omega) (by omega)
  obtain ⟨I2, f2, g42, p2, hA2⟩ := sc_numY (Lh := Lh) (J := J) p1 hx
  obtain ⟨Im2, fm2, md2, hB2⟩ := sp_numY (Lh := Lh) (J := Jm) m1 hx
  obtain ⟨tk2, tle2⟩ := zl_tk2_nx b tk1.1.1
  generalize hT2 : zf_nx b n T1.2.1 = T2 at *
  by_cases hy : zf_nk T2 (nI 2) (nI 8) = 0
  case neg =>
    left
    have hcN := sc_numN (Lh := Lh) (J := J) p2 hy
    obtain ⟨bd, x, hmN⟩ := sp_numN (Lh := Lh) (J := Jm) md2 hy
    obtain ⟨fb1, fb2⟩ := zf_nk_b hy
    obtain ⟨z1, z2⟩ := zFk1_9 I2 (zf_nk T2 (nI 2) (nI 8)) T2.1
    have c : (nI (zf_nk T2 (nI 2) (nI 8)) = nI 0) = False := zq_ne hy (by omega) (by omega)
    have b11 := bd.2.2.1
    have fm := zFk2_b Im2 (zf_nk T2 (nI 2) (nI 8)) T2.1
    generalize zMb Im2 (zf_nk T2 (nI 2) (nI 8)) T2.1 = Ib at *
    refine ⟨_, _, _, J, Ib, fb1, fb2, zFk1_C (zFk1_t (zFk_adv f1) (zFk1_t (zFk_num f2) z1)), zFkJ_r J, z2, fun d P hd => ?_, zFk2_M (zFk2_t (zFk_nxt g1) (zFk2_t (zFk_nxt fm2) fm)), .inl bd, fun d P hd => ?_⟩
    · obtain ⟨e, rfl⟩ : ∃ e, d = e + 8 := ⟨d - 8, by omega⟩
      have a1 := fun P => hA (e + 7) P (by omega)
      have a2 := fun P => hA2 (e + 7) P (by omega)
      have a3 := fun P => hcN (e + 7) P (by omega)
      rw [ze_34]
      simp (disch := omega) only [↓zs_34_0, ↓zs_34_1, ↓zs_34_4, ↓zs_34_7, ↓zs_34_10, ↓zs_34_11, ↓zs_34_14, ↓zs_34_17, ↓zs_34_18, ↓zs_34_19, ↓zs_34_22, ↓zs_34_25, ↓zs_34_26, ↓zs_34_27, ↓zs_34_29, zx_pu_s, zx_pu_n, zx_rv_s, zx_rv_n, true_and, and_true, true_or, or_true, zb_0, zb_1, zq_lcl, zq_lcg, zq_lce, eq_self, ite_true, ite_false, zk_83, zw_83, zq_83_0, zq_83_1, zq_83_2, zq_83_3, zk_88, zw_88, zq_88_0, zq_88_1, zq_88_2, zq_88_3, zq_88_4, zq_88_5, zk_84, zw_84, zq_84_0, e6, q00, a1, a2]
      simp (disch := omega) only [↓zs_34_32, ↓zs_34_35, ↓zs_34_36, ↓zs_34_37, ↓zs_34_38, ↓zs_34_41, ↓zs_34_42, ↓zs_34_43, ↓zs_34_44, ↓zs_34_46, ↓zs_34_49, ↓zs_34_52, ↓zs_34_53, ↓zs_34_54, ↓zs_34_55, ↓zs_34_58, ↓zs_34_59, ↓zs_34_62, ↓zs_34_63, ↓zs_34_66, ↓zs_34_67, ↓zs_34_70, ↓zs_34_73, ↓zs_34_74, zx_pu_s, zx_pu_n, zx_rv_s, zx_rv_n, true_and, and_true, true_or, or_true, zb_0, zb_1, zq_lcl, zq_lcg, zq_lce, eq_self, ite_true, ite_false, zk_83, zw_83, zq_83_0, zq_83_1, zq_83_2, zq_83_3, zk_88, zw_88, zq_88_0, zq_88_1, zq_88_2, zq_88_3, zq_88_4, zq_88_5, zk_84, zw_84, zq_84_0, n1, a3]
    · obtain ⟨e, rfl⟩ : ∃ e, d = e + 8 := ⟨d - 8, by omega⟩
      have a1 := fun P => hB (e + 7) P (by omega)
      have a2 := fun P => hB2 (e + 7) P (by omega)
      have a3 := fun P => hmN (e + 7) P (by omega)
      rw [ze_172]
      simp (disch := omega) only [↓zs_172_0, ↓zs_172_1, ↓zs_172_4, ↓zs_172_5, ↓zs_172_6, ↓zs_172_8, zx_pu_s, zx_pu_n, zx_rv_s, zx_rv_n, true_and, and_true, true_or, or_true, zb_0, zb_1, zq_lcl, zq_lcg, zq_lce, eq_self, ite_true, ite_false, zk_138, zw_138, zk_139, zw_139, zk_140, zw_140, zk_141, zw_141, zk_142, zw_142, zk_143, zw_143, zk_144, zw_144, zk_145, zw_145, zk_146, zw_146, zk_147, zw_147, zk_148, zw_148, zk_149, zw_149, zk_150, zw_150, zk_151, zw_151, zk_152, zw_152, zq_138_1, zq_138_2, zq_138_3, zq_138_4, zq_138_16, zq_138_19, zq_138_20, zq_138_24, zq_138_25, zq_138_26, zq_138_27, zq_138_31, zq_138_32, zq_138_33, a1, a2]
      simp (disch := omega) only [↓zs_172_11, ↓zs_172_12, ↓zs_172_13, ↓zs_172_14, ↓zs_172_16, ↓zs_172_19, ↓zs_172_20, ↓zs_172_21, ↓zs_172_24, ↓zs_172_27, ↓zs_172_28, ↓zs_172_29, ↓zs_172_32, ↓zs_172_33, ↓zs_172_34, ↓zs_172_35, ↓zs_172_36, ↓zs_172_39, ↓zs_172_40, ↓zs_172_41, ↓zs_172_42, zx_pu_s, zx_pu_n, zx_rv_s, zx_rv_n, true_and, and_true, true_or, or_true, zb_0, zb_1, zq_lcl, zq_lcg, zq_lce, eq_self, ite_true, ite_false, zk_138, zw_138, zk_139, zw_139, zk_140, zw_140, zk_141, zw_141, zk_142, zw_142, zk_143, zw_143, zk_144, zw_144, zk_145, zw_145, zk_146, zw_146, zk_147, zw_147, zk_148, zw_148, zk_149, zw_149, zk_150, zw_150, zk_151, zw_151, zk_152, zw_152, zq_138_1, zq_138_2, zq_138_3, zq_138_4, zq_138_16, zq_138_19, zq_138_20, zq_138_24, zq_138_25, zq_138_26, zq_138_27, zq_138_31, zq_138_32, zq_138_33, a3, b11, c]
  right
  obtain ⟨y2, y8⟩ := zf_nk_lt hy tk2.1.2.2.2 (by omega) (by omega)
  obtain ⟨I3, f3, g43, p3, hA3⟩ := sc_numY (Lh := Lh) (J := J) p2 hy
  obtain ⟨Im3, fm3, md3, hB3⟩ := sp_numY (Lh := Lh) (J := Jm) md2 hy
  obtain ⟨tk3, tle3⟩ := zl_tk2_nx b tk2.1.1
  generalize hT3 : zf_nx b n T2.2.1 = T3 at *
  generalize hX : T1.2.2.2 = X at *
  generalize hY : T2.2.2.2 = Y at *
  have fC : zFk1 I I3 := zFk1_t (zFk_adv f1) (zFk1_t (zFk_num f2) (zFk_num f3))
  have fM : zFk2 Im Im3 := zFk2_t (zFk_nxt g1) (zFk2_t (zFk_nxt fm2) (zFk_nxt fm3))
  have hF3 : Im3 142 = F := by rw [← hF]; exact funext fun j => fM 142 j (by omega)
  have ek : ∀ j, j ≠ 1 → j ≠ 2 → zu1 (zu1 F 1 (nI X)) 2 (nI Y) j = F j := fun j h1 h2 => by rw [zu1_n h2, zu1_n h1]
  have k1 : zu1 (zu1 F 1 (nI X)) 2 (nI Y) 1 = nI X := by rw [zu1_n (by omega), zu1_s]
  have k2 : zu1 (zu1 F 1 (nI X)) 2 (nI Y) 2 = nI Y := zu1_s _ _ _
  have rowM : zx_u (zx_u Im3 142 1 (nI X)) 142 2 (nI Y) 142 = zu1 (zu1 F 1 (nI X)) 2 (nI Y) := by
    funext j
    unfold zx_u zu1
    rw [hF3]
    by_cases c2 : j = 2
    · rw [if_pos ⟨rfl, c2⟩, if_pos c2]
    · rw [if_neg (fun e => c2 e.2), if_neg c2]
      by_cases c1 : j = 1
      · rw [if_pos ⟨rfl, c1⟩, if_pos c1]
      · rw [if_neg (fun e => c1 e.2), if_neg c1]
  generalize hF2 : zu1 (zu1 F 1 (nI X)) 2 (nI Y) = F2 at *
  have zl2 : zl F2 = zl F := by unfold zl; rw [ek 4 (by omega) (by omega)]
  have zo2 : zo F2 = zo F := by unfold zo; rw [ek 5 (by omega) (by omega)]
  have zn2 : zn F2 = zn F := by unfold zn; rw [ek 3 (by omega) (by omega)]
  have zk2 : zk F2 = zk F := by unfold zk; rw [ek 385 (by omega) (by omega)]
  have zw2 : zw F2 = X := by unfold zw zf_nat; rw [k1, nI_clamp (by omega)]
  have zh2 : zh F2 = Y := by unfold zh zf_nat; rw [k2, nI_clamp (by omega)]
  have w00 : zw F * zh F = 0 := by rw [w0, Nat.zero_mul]
  have v2 : zV F2 0 := by
    obtain ⟨v1, v2, v3, v4, v5, v6, v7, v8⟩ := v
    refine ⟨⟨⟨by rw [k1, zw2], by rw [k2, zh2], by rw [ek 3 (by omega) (by omega), zn2]; exact vN, by omega, by omega, by omega⟩, fun s hs => ?_⟩, fun k hk => ?_, fun k s hk hs hne => ?_, zV_snow (ek 5 (by omega) (by omega)) (fun j h1 h2 => ek j (by omega) (by omega)) v4, zV_let (ek 4 (by omega) (by omega)) (fun j h1 h2 => ek j (by omega) (by omega)) v5, zV_law (ek 6 (by omega) (by omega)) (fun j h1 => ek j (by omega) (by omega)) v6, ?_, ?_⟩
    · obtain ⟨o1, o2, o3, o4⟩ := vs s hs
      rw [ek (109 + s) (by omega) (by omega), ek (125 + s) (by omega) (by omega), ek (117 + s) (by omega) (by omega), zn2]
      refine ⟨?_, o2, o3, o4⟩
      rw [w00] at o1
      rcases o1 with o | ⟨k, hk, -⟩
      · exact .inl o
      · exact absurd hk (Nat.not_lt_zero k)
    · rw [ek (45 + k) (by omega) (by omega)]; exact v2 k hk
    · rw [ek (45 + k) (by omega) (by omega)] at hne
      have := (v3 k s hk hs hne).1
      rw [w00] at this
      exact absurd this (Nat.not_lt_zero k)
    · rw [show zt F2 = zt F by unfold zt; rw [ek 133 (by omega) (by omega)], ek 133 (by omega) (by omega)]; exact v7
    · rw [show zt F2 = zt F by unfold zt; rw [ek 133 (by omega) (by omega)]]; exact v8
  have G : ∀ j, j ≠ 1 → j ≠ 2 → zf_G F2 j = zf_G F j := fun j h1 h2 => zf_G_k v (fun i _ _ _ _ => ek i (by omega) (by omega)) (ek 133 (by omega) (by omega)) (ek j h1 h2)
  have sq3 := zR_sq_k1 fC sq
  have st3 := zR_st_k1 fC st
  have fS : ∀ a j, ¬ (a = 88 ∧ (j = 6 ∨ j = 7)) → zx_u (zx_u I3 88 6 (nI X)) 88 7 (nI Y) a j = I3 a j := fun a j w => by rw [zu_n (by omega), zu_n (by omega)]
  refine ⟨T3, F2, zx_u (zx_u I3 88 6 (nI X)) 88 7 (nI Y), J, zx_u (zx_u Im3 142 1 (nI X)) 142 2 (nI Y), ?_, zFkC_t (zFk1_C fC) (fun a j w => fS a j (by omega)), zFkJ_r J, ⟨zPt_f p3 (fun a j w => fS a j (by omega)), ?_, ?_, ?_, ?_⟩, ⟨v2, fun s h1 h2 => ?_, fun i hi => ?_⟩, fun d P hd => ?_, zFkM_t (zFk2_M fM) (zFkM_t zFkM_u zFkM_u), ⟨?_, rowM⟩, fun d P hd => ?_⟩
  · have := tk1.2.1; have := tk2.2.1; omega
  · rw [fS 84 6 (by omega), f3 84 6 (by omega), f2 84 6 (by omega), f1 84 6 (by omega)]; exact h6
  · rw [fS 84 7 (by omega), f3 84 7 (by omega), f2 84 7 (by omega), f1 84 7 (by omega)]; exact h7
  · obtain ⟨r1, r2, r3, r4, r5, r6, r7, r8, r9, r10⟩ := sq3
    unfold zR_sq zR_ground zR_snow
    rw [zl2, zo2, zk2]
    refine ⟨?_, ?_, ?_, ?_, ?_, fun k hk => ?_, ⟨?_, fun i hi => ?_⟩, fun i hi => ?_, ?_, fun k hk => ?_⟩
    · rw [zu_n (by omega), zu_s, k1]
    · rw [zu_s, k2]
    · rw [fS 88 8 (by omega), ek 3 (by omega) (by omega)]; exact r3
    · rw [fS 88 9 (by omega), ek 0 (by omega) (by omega)]; exact r4
    · rw [fS 88 10 (by omega), ek 4 (by omega) (by omega)]; exact r5
    · rw [ek (45 + k) (by omega) (by omega)]; exact r6 k hk
    · rw [fS 88 11 (by omega), ek 5 (by omega) (by omega)]; exact r7.1
    · rw [fS (88 + 8) i (by omega), fS (88 + 9) i (by omega), ek (37 + 2 * i) (by omega) (by omega), ek (37 + 2 * i + 1) (by omega) (by omega)]; exact r7.2 i hi
    · rw [fS (88 + 5) i (by omega), fS (88 + 6) i (by omega), fS (88 + 7) i (by omega), ek (7 + 3 * i) (by omega) (by omega), ek (7 + 3 * i + 1) (by omega) (by omega), ek (7 + 3 * i + 2) (by omega) (by omega)]; exact r8 i hi
    · rw [fS (88 + 1) 3 (by omega)]; exact r9
    · rw [fS (88 + 2) k (by omega), ek (386 + k) (by omega) (by omega)]; exact r10 k hk
  · refine ⟨?_, fun s hs => ?_⟩
    · rw [fS 98 3 (by omega), G 133 (by omega) (by omega)]; exact st3.1
    · rw [fS (98 + 1) s (by omega), fS (98 + 2) s (by omega), fS (98 + 3) s (by omega), G (109 + s) (by omega) (by omega), G (117 + s) (by omega) (by omega), G (125 + s) (by omega) (by omega)]; exact st3.2 s hs
  · rw [ek (125 + s) (by omega) (by omega)]; rw [zn2] at h1; exact pf2 s h1 h2
  · rw [zl2] at hi
    have := v.2.2.2.2.1.2.1
    rw [ek (7 + 3 * i + 1) (by omega) (by omega), zn2]; exact pf3 i hi
  · obtain ⟨e, rfl⟩ : ∃ e, d = e + 8 := ⟨d - 8, by omega⟩
    have a1 := fun P => hA (e + 7) P (by omega)
    have a2 := fun P => hA2 (e + 7) P (by omega)
    have a3 := fun P => hA3 (e + 7) P (by omega)
    rw [ze_34]
    simp (disch := omega) only [↓zs_34_0, ↓zs_34_1, ↓zs_34_4, ↓zs_34_7, ↓zs_34_10, ↓zs_34_11, ↓zs_34_14, ↓zs_34_17, ↓zs_34_18, ↓zs_34_19, ↓zs_34_22, ↓zs_34_25, ↓zs_34_26, ↓zs_34_27, ↓zs_34_29, zx_pu_s, zx_pu_n, zx_rv_s, zx_rv_n, true_and, and_true, true_or, or_true, zb_0, zb_1, zq_lcl, zq_lcg, zq_lce, eq_self, ite_true, ite_false, zk_83, zw_83, zq_83_0, zq_83_1, zq_83_2, zq_83_3, zk_88, zw_88, zq_88_0, zq_88_1, zq_88_2, zq_88_3, zq_88_4, zq_88_5, zk_84, zw_84, zq_84_0, e6, q00, a1, a2]
    simp (disch := omega) only [↓zs_34_32, ↓zs_34_35, ↓zs_34_36, ↓zs_34_37, ↓zs_34_38, ↓zs_34_41, ↓zs_34_42, ↓zs_34_43, ↓zs_34_44, ↓zs_34_46, zx_pu_s, zx_pu_n, zx_rv_s, zx_rv_n, true_and, and_true, true_or, or_true, zb_0, zb_1, zq_lcl, zq_lcg, zq_lce, eq_self, ite_true, ite_false, zk_83, zw_83, zq_83_0, zq_83_1, zq_83_2, zq_83_3, zk_88, zw_88, zq_88_0, zq_88_1, zq_88_2, zq_88_3, zq_88_4, zq_88_5, zk_84, zw_84, zq_84_0, n1, g42, a3]
    simp (disch := omega) only [↓zs_34_49, ↓zs_34_52, ↓zs_34_53, ↓zs_34_54, ↓zs_34_55, ↓zs_34_58, ↓zs_34_59, ↓zs_34_62, ↓zs_34_63, ↓zs_34_66, ↓zs_34_67, ↓zs_34_70, ↓zs_34_73, ↓zs_34_74, zx_pu_s, zx_pu_n, zx_rv_s, zx_rv_n, true_and, and_true, true_or, or_true, zb_0, zb_1, zq_lcl, zq_lcg, zq_lce, eq_self, ite_true, ite_false, zk_83, zw_83, zq_83_0, zq_83_1, zq_83_2, zq_83_3, zk_88, zw_88, zq_88_0, zq_88_1, zq_88_2, zq_88_3, zq_88_4, zq_88_5, zk_84, zw_84, zq_84_0, n1, g43]
    rw [show zx_u I3 88 6 (nI X) 83 4 = nI Y from (zu_n (by omega)).trans g43]
  · exact zMd_w md3 (fun a j w => by rw [zu_n (by omega), zu_n (by omega)])
  · obtain ⟨e, rfl⟩ : ∃ e, d = e + 8 := ⟨d - 8, by omega⟩
    have a1 := fun P => hB (e + 7) P (by omega)
    have a2 := fun P => hB2 (e + 7) P (by omega)
    have a3 := fun P => hB3 (e + 7) P (by omega)
    have b11 := md3.2.2.2.2
    rw [ze_172]
    simp (disch := omega) only [↓zs_172_0, ↓zs_172_1, ↓zs_172_4, ↓zs_172_5, ↓zs_172_6, ↓zs_172_8, zx_pu_s, zx_pu_n, zx_rv_s, zx_rv_n, true_and, and_true, true_or, or_true, zb_0, zb_1, zq_lcl, zq_lcg, zq_lce, eq_self, ite_true, ite_false, zk_138, zw_138, zk_139, zw_139, zk_140, zw_140, zk_141, zw_141, zk_142, zw_142, zk_143, zw_143, zk_144, zw_144, zk_145, zw_145, zk_146, zw_146, zk_147, zw_147, zk_148, zw_148, zk_149, zw_149, zk_150, zw_150, zk_151, zw_151, zk_152, zw_152, zq_138_1, zq_138_2, zq_138_3, zq_138_4, zq_138_16, zq_138_19, zq_138_20, zq_138_24, zq_138_25, zq_138_26, zq_138_27, zq_138_31, zq_138_32, zq_138_33, a1, a2]
    simp (disch := omega) only [↓zs_172_11, ↓zs_172_12, ↓zs_172_13, ↓zs_172_14, ↓zs_172_16, ↓zs_172_19, ↓zs_172_20, ↓zs_172_21, ↓zs_172_24, ↓zs_172_27, ↓zs_172_28, ↓zs_172_29, ↓zs_172_32, ↓zs_172_33, ↓zs_172_34, ↓zs_172_35, ↓zs_172_36, ↓zs_172_39, ↓zs_172_40, ↓zs_172_41, ↓zs_172_42, zx_pu_s, zx_pu_n, zx_rv_s, zx_rv_n, true_and, and_true, true_or, or_true, zb_0, zb_1, zq_lcl, zq_lcg, zq_lce, eq_self, ite_true, ite_false, zk_138, zw_138, zk_139, zw_139, zk_140, zw_140, zk_141, zw_141, zk_142, zw_142, zk_143, zw_143, zk_144, zw_144, zk_145, zw_145, zk_146, zw_146, zk_147, zw_147, zk_148, zw_148, zk_149, zw_149, zk_150, zw_150, zk_151, zw_151, zk_152, zw_152, zq_138_1, zq_138_2, zq_138_3, zq_138_4, zq_138_16, zq_138_19, zq_138_20, zq_138_24, zq_138_25, zq_138_26, zq_138_27, zq_138_31, zq_138_32, zq_138_33, a3, b11, zin_nI, nI_clamp]
end D8
