/-! what can be undone -/
/-- rows alike but for what can be undone -/
def zEx (B B2 : Nat → Int32) : Prop := ∀ j, j < 1286 → ¬ (134 ≤ j ∧ j < 385) → B2 j = B j
theorem zEx_k {B B2 : Nat → Int32} (h : zEx B B2) : zw B2 = zw B ∧ zh B2 = zh B ∧ zn B2 = zn B ∧ zl B2 = zl B ∧ zo B2 = zo B ∧ zk B2 = zk B ∧ zt B2 = zt B := by
  unfold zw zh zn zl zo zk zt
  rw [h 1 (by omega) (by omega), h 2 (by omega) (by omega), h 3 (by omega) (by omega), h 4 (by omega) (by omega), h 5 (by omega) (by omega), h 385 (by omega) (by omega), h 133 (by omega) (by omega)]
  exact ⟨rfl, rfl, rfl, rfl, rfl, rfl, rfl⟩
theorem zf_ty_eq {c c2 : Nat → Int32} : ∀ (m k : Nat) (ts : List Bool), (∀ j, k ≤ j → j < k + m → c2 j = c j) → zf_ty c2 m k ts = zf_ty c m k ts
  | 0, _, _, _ => rfl
  | m + 1, k, ts, h => by
    rw [zf_ty, zf_ty, h k (by omega) (by omega)]
    rw [zf_ty_eq m (k + 1) _ (fun j h1 h2 => h j (by omega) (by omega)), zf_ty_eq m (k + 1) _ (fun j h1 h2 => h j (by omega) (by omega)), zf_ty_eq m (k + 1) _ (fun j h1 h2 => h j (by omega) (by omega))]
theorem zEx_V {B B2 : Nat → Int32} {m : Nat} (h : zEx B B2) (v : zV B m) : zV B2 m := by
  obtain ⟨e1, e2, e3, e4, e5, e6, e7⟩ := zEx_k h
  obtain ⟨v1, v2, v3, v4, v5, v6, v7, v8⟩ := v
  unfold zV
  rw [e1, e2, e3, e5, e7]
  refine ⟨⟨?_, fun s hs => ?_⟩, fun k hk => ?_, fun k s hk hs => ?_, ?_, ?_, ?_, ?_, v8⟩
  · rw [h 1 (by omega) (by omega), h 2 (by omega) (by omega), h 3 (by omega) (by omega)]; exact v1.1
  · rw [h (109 + s) (by omega) (by omega), h (125 + s) (by omega) (by omega), h (117 + s) (by omega) (by omega)]; exact v1.2 s hs
  · rw [h (45 + k) (by omega) (by omega)]; exact v2 k hk
  · rw [h (45 + k) (by omega) (by omega), h (109 + s) (by omega) (by omega), e1, e2]; exact v3 k s hk hs
  · unfold zM_snow at v4 ⊢
    rw [h 5 (by omega) (by omega)]
    refine ⟨v4.1, v4.2.1, fun i hi => ?_⟩
    have := v4.2.1
    rw [h (37 + 2 * i) (by omega) (by omega), h (37 + 2 * i + 1) (by omega) (by omega)]; exact v4.2.2 i hi
  · unfold zM_let at v5 ⊢
    rw [e4, h 4 (by omega) (by omega)]
    refine ⟨v5.1, v5.2.1, fun i hi => ?_⟩
    have := v5.2.1
    rw [h (7 + 3 * i) (by omega) (by omega), h (7 + 3 * i + 1) (by omega) (by omega), h (7 + 3 * i + 2) (by omega) (by omega)]; exact v5.2.2 i hi
  · unfold zM_law at v6 ⊢
    obtain ⟨l1, l2, l3, l4⟩ := v6
    rw [e6, h 385 (by omega) (by omega), h 6 (by omega) (by omega), zf_ty_eq (c := fun k => B (386 + k)) (zk B) 0 [] (fun j _ hj => h (386 + j) (by omega) (by omega))]
    refine ⟨l1, l2, fun k hk => ?_, l4⟩
    rw [h (386 + k) (by omega) (by omega)]; exact l3 k hk
  · rw [h 133 (by omega) (by omega)]; exact v7
theorem zEx_st {I : zx_MI} {T : Nat} {B B2 : Nat → Int32} (h : zEx B B2) (r : zR_st I T B) : zR_st I T B2 := by
  refine ⟨by rw [h 133 (by omega) (by omega)]; exact r.1, fun s hs => ?_⟩
  rw [h (109 + s) (by omega) (by omega), h (117 + s) (by omega) (by omega), h (125 + s) (by omega) (by omega)]
  exact r.2 s hs
theorem zEx_sq {I : zx_MI} {J : zx_MJ} {S m : Nat} {B B2 : Nat → Int32} (h : zEx B B2) (v : zV B m) (r : zR_sq I J S B) : zR_sq I J S B2 := by
  obtain ⟨e1, e2, e3, e4, e5, e6, e7⟩ := zEx_k h
  obtain ⟨r1, r2, r3, r4, r5, r6, r7, r8, r9, r10⟩ := r
  have l10 : zl B ≤ 10 := v.2.2.2.2.1.2.1
  have o4 : zo B ≤ 4 := v.2.2.2.1.2.1
  have k9 : zk B ≤ 900 := v.2.2.2.2.2.1.2.1
  unfold zR_sq zR_ground zR_snow
  rw [e4, e5, e6]
  rw [h 1 (by omega) (by omega), h 2 (by omega) (by omega), h 3 (by omega) (by omega), h 0 (by omega) (by omega), h 4 (by omega) (by omega)]
  refine ⟨r1, r2, r3, r4, r5, fun k hk => ?_, ⟨?_, fun i hi => ?_⟩, fun i hi => ?_, r9, fun k hk => ?_⟩
  · rw [h (45 + k) (by omega) (by omega)]; exact r6 k hk
  · rw [h 5 (by omega) (by omega)]; exact r7.1
  · rw [h (37 + 2 * i) (by omega) (by omega), h (37 + 2 * i + 1) (by omega) (by omega)]; exact r7.2 i hi
  · rw [h (7 + 3 * i) (by omega) (by omega), h (7 + 3 * i + 1) (by omega) (by omega), h (7 + 3 * i + 2) (by omega) (by omega)]; exact r8 i hi
  · rw [h (386 + k) (by omega) (by omega)]; exact r10 k hk
/-- the row when W has been noted -/
def zf_note (A W : Nat → Int32) (D : Nat) : Nat → Int32 := fun j =>
  if D < 10 then (if 135 + 25 * D ≤ j ∧ j < 135 + 25 * D + 25 then W (j - (135 + 25 * D)) else if j = 134 then nI (D + 1) else A j)
  else (if 360 ≤ j ∧ j < 385 then W (j - 360) else if j = 134 then nI 10 else if 135 ≤ j ∧ j < 360 then A (j + 25) else A j)
theorem zf_note_ex (A W : Nat → Int32) {D : Nat} (hD : D ≤ 10) : zEx A (zf_note A W D) := by
  intro j h1 h2
  unfold zf_note
  by_cases c : D < 10
  · rw [if_pos c, if_neg (by omega), if_neg (by omega)]
  · rw [if_neg c, if_neg (by omega), if_neg (by omega), if_neg (by omega)]
section NT
variable {Lh : Nat} {I : zx_MI} {J : zx_MJ}
theorem sp_notes2 {D : Nat} {A : Nat → Int32} (hD : D < 10) (hA : A 134 = nI D) (W : Nat → Int32) (hW : I 144 = W) : ∀ d P, zx_wp d 215 60 [.ref 138, zx_u0] [] (zx_LL Lh) (zx_ur I 139 A) J P = P none (zx_LL Lh) (zx_ur I 139 (zu1 (fun j => if 135 + 25 * D ≤ j ∧ j < 135 + 25 * D + 25 then W (j - (135 + 25 * D)) else A j) 134 (nI (D + 1)))) J ∧ ∀ v1, zx_wp d 215 60 [.ref 138, .int v1] [] (zx_LL Lh) (zx_ur I 139 A) J P = P none (zx_LL Lh) (zx_ur I 139 (zu1 (fun j => if 135 + 25 * D ≤ j ∧ j < 135 + 25 * D + 25 then W (j - (135 + 25 * D)) else A j) 134 (nI (D + 1)))) J := by
  have e144 : ∀ R, zx_ur I 139 R 144 = W := fun R => (zr_o (by decide)).trans hW
  have loop : ∀ m k, k + m = 25 → ∀ d P, zx_wp d 215 62 [.ref 138, .int (nI k)] [] (zx_LL Lh) (zx_ur I 139 (fun j => if 135 + 25 * D ≤ j ∧ j < 135 + 25 * D + k then W (j - (135 + 25 * D)) else A j)) J P = P none (zx_LL Lh) (zx_ur I 139 (zu1 (fun j => if 135 + 25 * D ≤ j ∧ j < 135 + 25 * D + 25 then W (j - (135 + 25 * D)) else A j) 134 (nI (D + 1)))) J := by
    intro m
    induction m with
    | zero =>
      intro k hk d P
      obtain rfl : k = 25 := by omega
      have r134 : (if 135 + 25 * D ≤ 134 ∧ 134 < 135 + 25 * D + 25 then W (134 - (135 + 25 * D)) else A 134) = nI D := by rw [if_neg (by omega)]; exact hA
      rw [zs_215_62]
      simp (disch := omega) only [↓zs_215_63, ↓zs_215_65, ↓zs_215_68, ↓zs_215_69, ↓zs_215_72, ↓zs_215_75, ↓zs_215_77, ↓zs_215_78, ↓zs_215_81, ↓zs_215_84, ↓zs_215_85, ↓zs_215_86, ↓zs_215_87, ↓zs_215_88, ↓zs_215_89, ↓zs_215_90, ↓zs_215_93, ↓zs_215_94, ↓zs_215_95, ↓zs_215_96, ↓zs_215_99, ↓zs_215_102, ↓zs_215_103, ↓zs_215_106, ↓zs_215_109, ↓zs_215_110, ↓zs_215_111, ↓zs_215_112, ↓zs_215_113, ↓zs_215_114, zx_pu_s, zx_pu_n, zx_rv_s, zx_rv_n, true_and, and_true, true_or, or_true, zb_0, zb_1, zq_lcl, zq_lcg, zq_lce, eq_self, ite_true, ite_false, zk_138, zw_138, zk_139, zw_139, zk_140, zw_140, zk_141, zw_141, zk_142, zw_142, zk_143, zw_143, zk_144, zw_144, zk_145, zw_145, zk_146, zw_146, zk_147, zw_147, zk_148, zw_148, zk_149, zw_149, zk_150, zw_150, zk_151, zw_151, zk_152, zw_152, zq_138_1, zq_138_2, zq_138_3, zq_138_4, zq_138_16, zq_138_19, zq_138_20, zq_138_24, zq_138_25, zq_138_26, zq_138_27, zq_138_31, zq_138_32, zq_138_33, zn_10, zn_40, zn_040, zn_340, nI_add, zin_nI, nI_clamp, nI_ltI, nI_eq, pk_mul, nI_1, Nat.lt_irrefl, zr_s, r134, zu_ur]
    | succ m ih =>
      intro k hk d P
      have hlt : k < 25 := by omega
      have r134 : (if 135 + 25 * D ≤ 134 ∧ 134 < 135 + 25 * D + k then W (134 - (135 + 25 * D)) else A 134) = nI D := by rw [if_neg (by omega)]; exact hA
      have ex : zu1 (fun j => if 135 + 25 * D ≤ j ∧ j < 135 + 25 * D + k then W (j - (135 + 25 * D)) else A j) (135 + 25 * D + k) (W k) = fun j => if 135 + 25 * D ≤ j ∧ j < 135 + 25 * D + (k + 1) then W (j - (135 + 25 * D)) else A j := by
        funext j
        by_cases q : j = 135 + 25 * D + k
        · rw [q, zu1_s, if_pos (by omega), Nat.add_sub_cancel_left]
        · rw [zu1_n q]
          by_cases c : 135 + 25 * D ≤ j ∧ j < 135 + 25 * D + k
          · rw [if_pos c, if_pos (by omega)]
          · rw [if_neg c, if_neg (by omega)]
      rw [← ih (k + 1) (by omega) d P, zs_215_62]
      simp (disch := omega) only [↓zs_215_63, ↓zs_215_65, ↓zs_215_68, ↓zs_215_69, ↓zs_215_72, ↓zs_215_75, ↓zs_215_77, ↓zs_215_78, ↓zs_215_81, ↓zs_215_84, ↓zs_215_85, ↓zs_215_86, ↓zs_215_87, ↓zs_215_88, ↓zs_215_89, ↓zs_215_90, ↓zs_215_93, ↓zs_215_94, ↓zs_215_95, ↓zs_215_96, ↓zs_215_99, zx_pu_s, zx_pu_n, zx_rv_s, zx_rv_n, true_and, and_true, true_or, or_true, zb_0, zb_1, zq_lcl, zq_lcg, zq_lce, eq_self, ite_true, ite_false, zk_138, zw_138, zk_139, zw_139, zk_140, zw_140, zk_141, zw_141, zk_142, zw_142, zk_143, zw_143, zk_144, zw_144, zk_145, zw_145, zk_146, zw_146, zk_147, zw_147, zk_148, zw_148, zk_149, zw_149, zk_150, zw_150, zk_151, zw_151, zk_152, zw_152, zq_138_1, zq_138_2, zq_138_3, zq_138_4, zq_138_16, zq_138_19, zq_138_20, zq_138_24, zq_138_25, zq_138_26, zq_138_27, zq_138_31, zq_138_32, zq_138_33, zn_10, zn_40, zn_040, zn_340, nI_add, zin_nI, nI_clamp, nI_ltI, nI_eq, pk_mul, nI_1, Nat.lt_irrefl, hlt, zr_s, r134, e144, zu_ur, ex]
  have e0 : (fun j => if 135 + 25 * D ≤ j ∧ j < 135 + 25 * D + 0 then W (j - (135 + 25 * D)) else A j) = A := funext fun j => if_neg (by omega)
  have l0 := loop 25 0 rfl
  rw [e0] at l0
  intro d P
  constructor
  · simp only [↓zs_215_60, ↓zs_215_61, zx_pu_s, zx_pu_n, zx_rv_s, zx_rv_n, true_and, and_true, true_or, or_true, zb_0, zb_1, zq_lcl, zq_lcg, zq_lce, eq_self, ite_true, ite_false]
    exact l0 d P
  · intro v1
    simp only [↓zs_215_60, ↓zs_215_61, zx_pu_s, zx_pu_n, zx_rv_s, zx_rv_n, true_and, and_true, true_or, or_true, zb_0, zb_1, zq_lcl, zq_lcg, zq_lce, eq_self, ite_true, ite_false]
    exact l0 d P
theorem sp_notes {D : Nat} (hD : D ≤ 10) (hA : I 139 134 = nI D) : ∀ {d : Nat} {P : Option Value → zx_Lay → zx_MI → zx_MJ → Prop}, zx_rn d 215 [.ref 138] (zx_LL Lh) I J P = P none (zx_LL Lh) (zx_ur I 139 (zf_note (I 139) (I 144) D)) J := by
  intro d P
  by_cases c : D < 10
  · have h2 := (sp_notes2 (Lh := Lh) (J := J) c hA (I 144) rfl d P).1
    rw [zr_id] at h2
    have en : zu1 (fun j => if 135 + 25 * D ≤ j ∧ j < 135 + 25 * D + 25 then I 144 (j - (135 + 25 * D)) else I 139 j) 134 (nI (D + 1)) = zf_note (I 139) (I 144) D := by
      funext j
      unfold zf_note
      rw [if_pos c]
      by_cases q : j = 134
      · rw [q, zu1_s, if_neg (by omega), if_pos rfl]
      · rw [zu1_n q]
        by_cases q2 : 135 + 25 * D ≤ j ∧ j < 135 + 25 * D + 25
        · rw [if_pos q2, if_pos q2]
        · rw [if_neg q2, if_neg q2, if_neg q]
    rw [en] at h2
    have hne : (D = 10) = False := eq_false (by omega)
    rw [← h2, ze_215]
    simp (disch := omega) only [↓zs_215_0, ↓zs_215_1, ↓zs_215_4, ↓zs_215_7, ↓zs_215_8, ↓zs_215_10, zx_pu_s, zx_pu_n, zx_rv_s, zx_rv_n, true_and, and_true, true_or, or_true, zb_0, zb_1, zq_lcl, zq_lcg, zq_lce, eq_self, ite_true, ite_false, zk_138, zw_138, zk_139, zw_139, zk_140, zw_140, zk_141, zw_141, zk_142, zw_142, zk_143, zw_143, zk_144, zw_144, zk_145, zw_145, zk_146, zw_146, zk_147, zw_147, zk_148, zw_148, zk_149, zw_149, zk_150, zw_150, zk_151, zw_151, zk_152, zw_152, zq_138_1, zq_138_2, zq_138_3, zq_138_4, zq_138_16, zq_138_19, zq_138_20, zq_138_24, zq_138_25, zq_138_26, zq_138_27, zq_138_31, zq_138_32, zq_138_33, zn_10, zn_40, zn_040, zn_340, nI_add, zin_nI, nI_clamp, nI_ltI, nI_eq, pk_mul, nI_1, Nat.lt_irrefl, hA, hne]
  · obtain rfl : D = 10 := by omega
    have loop : ∀ m k, k + m = 225 → zx_wp d 215 15 [.ref 138, .int (nI k)] [] (zx_LL Lh) (zx_ur I 139 (fun j => if 135 ≤ j ∧ j < 135 + k then I 139 (j + 25) else I 139 j)) J P = P none (zx_LL Lh) (zx_ur I 139 (zf_note (I 139) (I 144) 10)) J := by
      intro m
      induction m with
      | zero =>
        intro k hk
        obtain rfl : k = 225 := by omega
        have r134 : (if 135 ≤ 134 ∧ 134 < 135 + 225 then I 139 (134 + 25) else I 139 134) = nI 10 := by rw [if_neg (by omega)]; exact hA
        have e9 : nI 10 - nI 1 = nI 9 := rfl
        have h2 := (sp_notes2 (Lh := Lh) (I := I) (J := J) (D := 9) (A := zu1 (fun j => if 135 ≤ j ∧ j < 135 + 225 then I 139 (j + 25) else I 139 j) 134 (nI 9)) (by omega) (zu1_s _ _ _) (I 144) rfl d P).2
        have en : zu1 (fun j => if 135 + 25 * 9 ≤ j ∧ j < 135 + 25 * 9 + 25 then I 144 (j - (135 + 25 * 9)) else zu1 (fun j => if 135 ≤ j ∧ j < 135 + 225 then I 139 (j + 25) else I 139 j) 134 (nI 9) j) 134 (nI (9 + 1)) = zf_note (I 139) (I 144) 10 := by
          funext j
          unfold zf_note
          rw [if_neg (show ¬ 10 < 10 by omega)]
          by_cases q : j = 134
          · rw [q, zu1_s, if_neg (by omega), if_pos rfl]
          · rw [zu1_n q, zu1_n q]
            by_cases q2 : 360 ≤ j ∧ j < 385
            · rw [if_pos (by omega), if_pos q2]
            · rw [if_neg (by omega), if_neg q2, if_neg q]
        rw [en] at h2
        rw [zs_215_15]
        simp (disch := omega) only [↓zs_215_16, ↓zs_215_19, ↓zs_215_22, ↓zs_215_23, ↓zs_215_26, ↓zs_215_29, ↓zs_215_30, ↓zs_215_31, ↓zs_215_32, ↓zs_215_35, ↓zs_215_38, ↓zs_215_39, ↓zs_215_40, ↓zs_215_41, ↓zs_215_42, ↓zs_215_45, ↓zs_215_48, ↓zs_215_49, ↓zs_215_52, ↓zs_215_55, ↓zs_215_56, ↓zs_215_57, ↓zs_215_58, ↓zs_215_59, zx_pu_s, zx_pu_n, zx_rv_s, zx_rv_n, true_and, and_true, true_or, or_true, zb_0, zb_1, zq_lcl, zq_lcg, zq_lce, eq_self, ite_true, ite_false, zk_138, zw_138, zk_139, zw_139, zk_140, zw_140, zk_141, zw_141, zk_142, zw_142, zk_143, zw_143, zk_144, zw_144, zk_145, zw_145, zk_146, zw_146, zk_147, zw_147, zk_148, zw_148, zk_149, zw_149, zk_150, zw_150, zk_151, zw_151, zk_152, zw_152, zq_138_1, zq_138_2, zq_138_3, zq_138_4, zq_138_16, zq_138_19, zq_138_20, zq_138_24, zq_138_25, zq_138_26, zq_138_27, zq_138_31, zq_138_32, zq_138_33, zn_10, zn_40, zn_040, zn_340, nI_add, zin_nI, nI_clamp, nI_ltI, nI_eq, pk_mul, nI_1, Nat.lt_irrefl, zr_s, r134, e9, zu_ur]
        exact h2 _
      | succ m ih =>
        intro k hk
        have hlt : k < 225 := by omega
        have r1 : (if 135 ≤ 160 + k ∧ 160 + k < 135 + k then I 139 (160 + k + 25) else I 139 (160 + k)) = I 139 (160 + k) := if_neg (by omega)
        have ex : zu1 (fun j => if 135 ≤ j ∧ j < 135 + k then I 139 (j + 25) else I 139 j) (135 + k) (I 139 (160 + k)) = fun j => if 135 ≤ j ∧ j < 135 + (k + 1) then I 139 (j + 25) else I 139 j := by
          funext j
          by_cases q : j = 135 + k
          · rw [q, zu1_s, if_pos (by omega), show 135 + k + 25 = 160 + k by omega]
          · rw [zu1_n q]
            by_cases c : 135 ≤ j ∧ j < 135 + k
            · rw [if_pos c, if_pos (by omega)]
            · rw [if_neg c, if_neg (by omega)]
        rw [← ih (k + 1) (by omega), zs_215_15]
        simp (disch := omega) only [↓zs_215_16, ↓zs_215_19, ↓zs_215_22, ↓zs_215_23, ↓zs_215_26, ↓zs_215_29, ↓zs_215_30, ↓zs_215_31, ↓zs_215_32, ↓zs_215_35, ↓zs_215_38, ↓zs_215_39, ↓zs_215_40, ↓zs_215_41, ↓zs_215_42, ↓zs_215_45, zx_pu_s, zx_pu_n, zx_rv_s, zx_rv_n, true_and, and_true, true_or, or_true, zb_0, zb_1, zq_lcl, zq_lcg, zq_lce, eq_self, ite_true, ite_false, zk_138, zw_138, zk_139, zw_139, zk_140, zw_140, zk_141, zw_141, zk_142, zw_142, zk_143, zw_143, zk_144, zw_144, zk_145, zw_145, zk_146, zw_146, zk_147, zw_147, zk_148, zw_148, zk_149, zw_149, zk_150, zw_150, zk_151, zw_151, zk_152, zw_152, zq_138_1, zq_138_2, zq_138_3, zq_138_4, zq_138_16, zq_138_19, zq_138_20, zq_138_24, zq_138_25, zq_138_26, zq_138_27, zq_138_31, zq_138_32, zq_138_33, zn_10, zn_40, zn_040, zn_340, nI_add, zin_nI, nI_clamp, nI_ltI, nI_eq, pk_mul, nI_1, Nat.lt_irrefl, hlt, zr_s, r1, zu_ur, ex]
    have e0 : zx_ur I 139 (fun j => if 135 ≤ j ∧ j < 135 + 0 then I 139 (j + 25) else I 139 j) = I := by
      have : (fun j => if 135 ≤ j ∧ j < 135 + 0 then I 139 (j + 25) else I 139 j) = I 139 := funext fun j => if_neg (by omega)
      rw [this, zr_id]
    have l0 := loop 225 0 rfl
    rw [e0] at l0
    rw [← l0, ze_215]
    simp (disch := omega) only [↓zs_215_0, ↓zs_215_1, ↓zs_215_4, ↓zs_215_7, ↓zs_215_8, ↓zs_215_10, ↓zs_215_13, ↓zs_215_14, zx_pu_s, zx_pu_n, zx_rv_s, zx_rv_n, true_and, and_true, true_or, or_true, zb_0, zb_1, zq_lcl, zq_lcg, zq_lce, eq_self, ite_true, ite_false, zk_138, zw_138, zk_139, zw_139, zk_140, zw_140, zk_141, zw_141, zk_142, zw_142, zk_143, zw_143, zk_144, zw_144, zk_145, zw_145, zk_146, zw_146, zk_147, zw_147, zk_148, zw_148, zk_149, zw_149, zk_150, zw_150, zk_151, zw_151, zk_152, zw_152, zq_138_1, zq_138_2, zq_138_3, zq_138_4, zq_138_16, zq_138_19, zq_138_20, zq_138_24, zq_138_25, zq_138_26, zq_138_27, zq_138_31, zq_138_32, zq_138_33, zn_10, zn_40, zn_040, zn_340, nI_add, zin_nI, nI_clamp, nI_ltI, nI_eq, pk_mul, nI_1, Nat.lt_irrefl, hA]
theorem zq_24 (Lh : Nat) {j : Nat} (h : j < 10) : (zx_LL Lh).2.1 24 j = some (25 + 4 * j) := by
  rcases (show j = 0 ∨ j = 1 ∨ j = 2 ∨ j = 3 ∨ j = 4 ∨ j = 5 ∨ j = 6 ∨ j = 7 ∨ j = 8 ∨ j = 9 by omega) with q | q | q | q | q | q | q | q | q | q <;> subst q <;> rfl
theorem zx_stP {j : Nat} (h : j < 10) : zx_st (25 + 4 * j) := by
  have q : ∀ j : Fin 10, 25 + 4 * j.1 ∈ zx_stl := by decide
  exact q ⟨j, h⟩
theorem zn_1017 : (10 ≤ 17) = True := eq_true (by decide)
theorem zn_1740 : (17 < 40) = True := eq_true (by decide)
theorem sc_keep {U e D : Nat} (hU : zx_st U) (hU2 : U < 23) (he : e < 10) (hD : D ≤ 10) (h1 : I 23 1 = nI e) (h2 : I 23 2 = nI D) : ∃ I2, (∀ a j, ¬ ((a = 23 ∧ (j = 1 ∨ j = 2)) ∨ (25 + 4 * ((e + D) % 10) ≤ a ∧ a ≤ 25 + 4 * ((e + D) % 10) + 3)) → I2 a j = I a j) ∧ (∀ B, zR_st I U B → zR_st I2 (25 + 4 * ((e + D) % 10)) B) ∧ I2 23 1 = nI (if D < 10 then e else (e + 1) % 10) ∧ I2 23 2 = nI (if D < 10 then D + 1 else 10) ∧ ∀ d P, zx_rn (d + 1) 26 [.ref 23, .ref U] (zx_LL Lh) I J P = P none (zx_LL Lh) I2 J := by
  have hm : (e + D) % 10 < 10 := Nat.mod_lt _ (by omega)
  have hT := zx_stP hm
  have hr := zT_r hU
  obtain ⟨k0, k1, k2, k3⟩ := zT_k (Lh := Lh) hT
  have hat := zq_24 Lh hm
  obtain ⟨I1, -, f1, r1, hb⟩ := sc_become (Lh := Lh) (I := I) (J := J) hT hU (by omega)
  have c10 : (nI 10 = 0) = False := zq_10
  have e10 : Int32.ofNat 10 = nI 10 := rfl
  have c5 : (25 + 4 * ((e + D) % 10) < 5000) = True := eq_true (by omega)
  have g1 : I1 23 1 = nI e := by rw [f1 23 (by omega) (by omega) (by omega) (by omega)]; exact h1
  have g2 : I1 23 2 = nI D := by rw [f1 23 (by omega) (by omega) (by omega) (by omega)]; exact h2
  by_cases c : D < 10
  · refine ⟨zx_u I1 23 2 (nI (D + 1)), fun a j h => ?_, fun B r => ?_, ?_, ?_, fun d P => ?_⟩
    · rw [zu_n (by omega), f1 a (by omega) (by omega) (by omega) (by omega)]
    · exact zR_st_f (r1 B r) (fun a j h1 h2 => zu_n (by omega))
    · rw [zu_n (by omega), if_pos c]; exact g1
    · rw [zu_s, if_pos c]
    · rw [ze_26]
      simp (disch := omega) only [↓zs_26_0, ↓zs_26_1, ↓zs_26_4, ↓zs_26_5, ↓zs_26_8, ↓zs_26_9, ↓zs_26_11, ↓zs_26_12, ↓zs_26_13, ↓zs_26_14, ↓zs_26_17, ↓zs_26_18, ↓zs_26_19, ↓zs_26_22, ↓zs_26_23, ↓zs_26_26, ↓zs_26_27, ↓zs_26_30, ↓zs_26_31, ↓zs_26_32, ↓zs_26_32N, ↓zs_26_35, ↓zs_26_36, ↓zs_26_39, ↓zs_26_40, ↓zs_26_41, ↓zs_26_42, zx_pu_s, zx_pu_n, zx_rv_s, zx_rv_n, true_and, and_true, true_or, or_true, zb_0, zb_1, zq_lcl, zq_lcg, zq_lce, eq_self, ite_true, ite_false, zk_23, zw_23, zk_24, zw_24, zq_23_0, zq_24_0, zq_24_1, zq_24_2, zq_24_3, zq_24_4, zq_24_5, zq_24_6, zq_24_7, zq_24_8, zq_24_9, zn_10, zn_40, zn_040, zn_340, nI_add, zin_nI, nI_clamp, nI_ltI, nI_eq, pk_mul, nI_1, Nat.lt_irrefl, h1, h2, c10, not_false_eq_true, pk_div, zq_rem, zn_lt0, hm, e10, zn_1017, zn_1740, hat, c5, k0, hb]
      simp (disch := omega) only [↓zs_26_45, ↓zs_26_46, ↓zs_26_49, ↓zs_26_51, ↓zs_26_54, ↓zs_26_55, ↓zs_26_56, ↓zs_26_59, ↓zs_26_60, ↓zs_26_61, ↓zs_26_64, ↓zs_26_67, ↓zs_26_68, ↓zs_26_69, ↓zs_26_72, ↓zs_26_73, ↓zs_26_74, ↓zs_26_76, ↓zs_26_77, ↓zs_26_80, zx_pu_s, zx_pu_n, zx_rv_s, zx_rv_n, true_and, and_true, true_or, or_true, zb_0, zb_1, zq_lcl, zq_lcg, zq_lce, eq_self, ite_true, ite_false, zk_23, zw_23, zk_24, zw_24, zq_23_0, zq_24_0, zq_24_1, zq_24_2, zq_24_3, zq_24_4, zq_24_5, zq_24_6, zq_24_7, zq_24_8, zq_24_9, zn_10, zn_40, zn_040, zn_340, nI_add, zin_nI, nI_clamp, nI_ltI, nI_eq, pk_mul, nI_1, Nat.lt_irrefl, g1, g2, c]
  · obtain rfl : D = 10 := by omega
    refine ⟨zx_u I1 23 1 (nI ((e + 1) % 10)), fun a j h => ?_, fun B r => ?_, ?_, ?_, fun d P => ?_⟩
    · rw [zu_n (by omega), f1 a (by omega) (by omega) (by omega) (by omega)]
    · exact zR_st_f (r1 B r) (fun a j h1 h2 => zu_n (by omega))
    · rw [zu_s, if_neg c]
    · rw [zu_n (by omega), if_neg c]; exact g2
    · rw [ze_26]
      simp (disch := omega) only [↓zs_26_0, ↓zs_26_1, ↓zs_26_4, ↓zs_26_5, ↓zs_26_8, ↓zs_26_9, ↓zs_26_11, ↓zs_26_12, ↓zs_26_13, ↓zs_26_14, ↓zs_26_17, ↓zs_26_18, ↓zs_26_19, ↓zs_26_22, ↓zs_26_23, ↓zs_26_26, ↓zs_26_27, ↓zs_26_30, ↓zs_26_31, ↓zs_26_32, ↓zs_26_32N, ↓zs_26_35, ↓zs_26_36, ↓zs_26_39, ↓zs_26_40, ↓zs_26_41, ↓zs_26_42, zx_pu_s, zx_pu_n, zx_rv_s, zx_rv_n, true_and, and_true, true_or, or_true, zb_0, zb_1, zq_lcl, zq_lcg, zq_lce, eq_self, ite_true, ite_false, zk_23, zw_23, zk_24, zw_24, zq_23_0, zq_24_0, zq_24_1, zq_24_2, zq_24_3, zq_24_4, zq_24_5, zq_24_6, zq_24_7, zq_24_8, zq_24_9, zn_10, zn_40, zn_040, zn_340, nI_add, zin_nI, nI_clamp, nI_ltI, nI_eq, pk_mul, nI_1, Nat.lt_irrefl, h1, h2, c10, not_false_eq_true, pk_div, zq_rem, zn_lt0, hm, e10, zn_1017, zn_1740, hat, c5, k0, hb]
      simp (disch := omega) only [↓zs_26_45, ↓zs_26_46, ↓zs_26_49, ↓zs_26_51, ↓zs_26_54, ↓zs_26_55, ↓zs_26_56, ↓zs_26_59, ↓zs_26_60, ↓zs_26_61, ↓zs_26_64, ↓zs_26_67, ↓zs_26_68, ↓zs_26_69, ↓zs_26_72, ↓zs_26_73, ↓zs_26_74, ↓zs_26_76, ↓zs_26_77, ↓zs_26_80, zx_pu_s, zx_pu_n, zx_rv_s, zx_rv_n, true_and, and_true, true_or, or_true, zb_0, zb_1, zq_lcl, zq_lcg, zq_lce, eq_self, ite_true, ite_false, zk_23, zw_23, zk_24, zw_24, zq_23_0, zq_24_0, zq_24_1, zq_24_2, zq_24_3, zq_24_4, zq_24_5, zq_24_6, zq_24_7, zq_24_8, zq_24_9, zn_10, zn_40, zn_040, zn_340, nI_add, zin_nI, nI_clamp, nI_ltI, nI_eq, pk_mul, nI_1, Nat.lt_irrefl, g1, g2, c, c10, not_false_eq_true, pk_div, zq_rem]
/-- the state goes on behind a call that can be undone -/
theorem zInv_note {m m2 e D : Nat} {B W : Nat → Int32} {I2 : zx_MI} {J2 : zx_MJ} (v : zInv I J m) (hm : m ≤ m2) (sB : zSm (I 139) B) (vB : zV B m2) (he : e < 10) (hD : D ≤ 10) (h1 : I 23 1 = nI e) (h2 : I 23 2 = nI D) (h3 : I 139 134 = nI D) (hJ : ∀ a j, ¬ ((65 ≤ a ∧ a ≤ 78) ∨ (146 ≤ a ∧ a ≤ 149)) → J2 a j = J a j)
    (hI : ∀ a j, ¬ (zSc a j ∨ (11 ≤ a ∧ a ≤ 14) ∨ (a = 23 ∧ (j = 1 ∨ j = 2)) ∨ (25 + 4 * ((e + D) % 10) ≤ a ∧ a ≤ 25 + 4 * ((e + D) % 10) + 3) ∨ a = 139) → I2 a j = I a j)
    (g1 : I2 23 1 = nI (if D < 10 then e else (e + 1) % 10)) (g2 : I2 23 2 = nI (if D < 10 then D + 1 else 10)) (r1 : zR_st I2 (25 + 4 * ((e + D) % 10)) (I 139)) (r2 : zR_st I2 11 B) (hW : ∀ j, j < 25 → W j = I 139 (109 + j)) (e139 : I2 139 = zf_note B W D)
    (h4 : ∀ i, i < D → zR_st I (25 + 4 * ((e + i) % 10)) (zf_was (I 139) i) ∧ zV (zf_was (I 139) i) m) : zInv I2 J2 m2 := by
  have exB := zf_note_ex B W hD
  have row : ∀ a, (a ≤ 3 ∨ (6 ≤ a ∧ a ≤ 10) ∨ a = 24 ∨ (79 ≤ a ∧ a ≤ 137) ∨ (140 ≤ a ∧ a ≤ 142) ∨ 150 ≤ a) → I2 a = I a := fun a ha => funext fun j => hI a j (by
    have : (e + D) % 10 < 10 := Nat.mod_lt _ (by omega)
    unfold zSc; omega)
  have rowJ : ∀ a, (a ≤ 64 ∨ (79 ≤ a ∧ a ≤ 145) ∨ 150 ≤ a) → J2 a = J a := fun a ha => funext fun j => hJ a j (by omega)
  obtain ⟨v1, v2, v3, v4, v5, v6, v7, v8, v9, v10⟩ := v
  have e138 : ∀ j, (j = 5 ∨ j = 13 ∨ j = 14) → I2 138 j = I 138 j := fun j hj => hI 138 j (by
    have : (e + D) % 10 < 10 := Nat.mod_lt _ (by omega)
    unfold zSc; omega)
  refine ⟨?_, ?_, ?_, ?_, ?_, ?_, ?_, ?_, ?_, ?_⟩
  · intro a j ha; rw [row a (by omega)]; exact v1 a j ha
  · rw [e139]; exact zEx_V exB vB
  · rw [e139]
    refine zEx_sq exB vB ?_
    exact zR_sq_f (zSm_sq sB v2.2.2.2.2.1.2.1 v2.2.2.2.1.2.1 v3) (fun a j h1 h2 h3 h4 => by rw [row a (by omega)]) (fun j => by rw [rowJ 1 (by omega)])
  · rw [e139]; exact zEx_st exB r2
  · -- what can be undone
    have new : ∀ i, (∀ j, 109 ≤ j → j < 134 → zf_was (zf_note B W D) i j = I 139 j) → zV (zf_was (zf_note B W D) i) m2 ∧ ∀ T, zR_st I2 T (I 139) → zR_st I2 T (zf_was (zf_note B W D) i) := by
      intro i hi
      have ex : zEx (I 139) (zf_was (zf_note B W D) i) := by
        intro j hj hj2
        by_cases q : 109 ≤ j ∧ j < 134
        · exact hi j q.1 q.2
        · unfold zf_was
          rw [if_neg q, exB j hj hj2]
          exact sB j q
      exact ⟨zEx_V ex (zV_mono v2 hm), fun T r => zEx_st ex r⟩
    have old : ∀ i i0, i0 < D → (∀ j, 109 ≤ j → j < 134 → zf_was (zf_note B W D) i j = zf_was (I 139) i0 j) → ((e + i0) % 10 ≠ (e + D) % 10) → zR_st I2 (25 + 4 * ((e + i0) % 10)) (zf_was (zf_note B W D) i) ∧ zV (zf_was (zf_note B W D) i) m2 := by
      intro i i0 hi0 hi hne
      have ex : zEx (zf_was (I 139) i0) (zf_was (zf_note B W D) i) := by
        intro j hj hj2
        by_cases q : 109 ≤ j ∧ j < 134
        · exact hi j q.1 q.2
        · unfold zf_was
          rw [if_neg q, if_neg q, exB j hj hj2]
          exact sB j q
      refine ⟨zEx_st ex (zR_st_f (h4 i0 hi0).1 (fun a j h1 h2 => hI a j ?_)), zEx_V ex (zV_mono (h4 i0 hi0).2 hm)⟩
      have : (e + D) % 10 < 10 := Nat.mod_lt _ (by omega)
      have : (e + i0) % 10 < 10 := Nat.mod_lt _ (by omega)
      unfold zSc
      omega
    rw [← e139] at new old
    by_cases c : D < 10
    · rw [if_pos c] at g1 g2
      refine ⟨e, D + 1, he, by omega, g1, g2, ?_, fun i hi => ?_⟩
      · rw [e139]; unfold zf_note
        rw [if_pos c, if_neg (by omega), if_pos rfl]
      · by_cases q : i = D
        · subst q
          obtain ⟨n1, n2⟩ := new i (fun j h1 h2 => by
            rw [e139]
            unfold zf_was zf_note
            rw [if_pos ⟨h1, h2⟩, if_pos c, if_pos (by omega), hW _ (by omega)]
            exact congrArg (I 139) (by omega))
          exact ⟨n2 _ r1, n1⟩
        · refine old i i (by omega) (fun j h1 h2 => ?_) (by omega)
          rw [e139]
          unfold zf_was zf_note
          rw [if_pos (show 109 ≤ j ∧ j < 134 from ⟨h1, h2⟩), if_pos (show 109 ≤ j ∧ j < 134 from ⟨h1, h2⟩), if_pos c, if_neg (by omega), if_neg (by omega)]
          exact sB _ (by omega)
    · obtain rfl : D = 10 := by omega
      rw [if_neg c] at g1 g2
      refine ⟨(e + 1) % 10, 10, Nat.mod_lt _ (by omega), by omega, g1, g2, ?_, fun i hi => ?_⟩
      · rw [e139]; unfold zf_note
        rw [if_neg c, if_neg (by omega), if_pos rfl]
      · by_cases q : i = 9
        · subst q
          obtain ⟨n1, n2⟩ := new 9 (fun j h1 h2 => by
            rw [e139]
            unfold zf_was zf_note
            rw [if_pos ⟨h1, h2⟩, if_neg c, if_pos (by omega), hW _ (by omega)]
            exact congrArg (I 139) (by omega))
          have ea : ((e + 1) % 10 + 9) % 10 = (e + 10) % 10 := by omega
          rw [ea]
          exact ⟨n2 _ r1, n1⟩
        · have ea : ((e + 1) % 10 + i) % 10 = (e + (i + 1)) % 10 := by omega
          rw [ea]
          refine old i (i + 1) (by omega) (fun j h1 h2 => ?_) (by omega)
          rw [e139]
          unfold zf_was zf_note
          rw [if_pos (show 109 ≤ j ∧ j < 134 from ⟨h1, h2⟩), if_pos (show 109 ≤ j ∧ j < 134 from ⟨h1, h2⟩), if_neg c, if_neg (by omega), if_neg (by omega), if_pos (by omega)]
          rw [show 135 + 25 * i + (j - 109) + 25 = 135 + 25 * (i + 1) + (j - 109) by omega]
          exact sB _ (by omega)
  · intro i hi
    obtain ⟨b, b1, b2, b3⟩ := v6 i hi
    have ei : zf_img (I2 139) i = zf_img (I 139) i := by
      funext j
      unfold zf_img
      rw [e139]
      have : zf_note B W D (1286 * (i + 1) + j) = B (1286 * (i + 1) + j) := by
        unfold zf_note
        by_cases c : D < 10
        · rw [if_pos c, if_neg (by omega), if_neg (by omega)]
        · rw [if_neg c, if_neg (by omega), if_neg (by omega), if_neg (by omega)]
      rw [this]
      exact sB _ (by omega)
    refine ⟨b, by rw [row 82 (by omega)]; exact b1, by rw [row 140 (by omega)]; exact b2, fun hb => ?_⟩
    obtain ⟨c1, c2, c3⟩ := b3 hb
    rw [ei]
    exact ⟨zR_sq_f c1 (fun a j h1 h2 h3 h4 => by rw [row a (by omega)]) (fun j => by rw [rowJ _ (by omega)]), zR_st_f c2 (fun a j h1 h2 => by rw [row a (by omega)]), zV_mono c3 hm⟩
  · intro t ht
    rw [row 150 (by omega), row 151 (by omega), row (102 + 2 * t) (by omega), rowJ (103 + 2 * t) (by omega), rowJ 152 (by omega)]
    exact v7 t ht
  · obtain ⟨p, p1, p2, p3, p4⟩ := v8
    refine ⟨p, p1, by rw [row 0 (by omega)]; exact p2, by rw [e138 5 (by omega)]; exact p3, fun i hi => ?_⟩
    rw [row 141 (by omega), row 85 (by omega)]
    exact p4 i hi
  · rw [row 0 (by omega), e138 13 (by omega)]; exact v9
  · rw [row 0 (by omega), e138 14 (by omega)]; exact v10
end NT
