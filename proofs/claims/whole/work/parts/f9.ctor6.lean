/-! the model is made: all cells stand -/
section CM
variable {Lh w : Nat} {I : zx_MI} {J : zx_MJ}
theorem zc_0 : ((zx_sK Lh, zx_sR, 0, 0) : zx_Lay) = zx_Lc Lh 0 0 [] := by
  refine Prod.ext ?_ (Prod.ext ?_ rfl)
  · funext a
    show zx_sK Lh a = if a < 0 then zx_tK.getD a (99, 0) else zx_sK Lh a
    rw [if_neg (Nat.not_lt_zero a)]
  · funext a j
    show zx_sR a j = if (a, j) ∈ ([] : List (Nat × Nat)) then (zx_tR.getD a []).getD j none else zx_sR a j
    rw [if_neg (List.not_mem_nil)]
def zl_m (L : List (Nat × Nat)) : List (Nat × Nat) := (138, 33) :: (138, 32) :: (138, 31) :: (138, 27) :: (138, 26) :: (138, 25) :: (138, 24) :: (138, 20) :: (138, 19) :: (138, 16) :: (138, 4) :: (138, 3) :: (138, 2) :: (138, 1) :: L
theorem zc_fin : zx_Lc Lh 153 13446 (zl_m zl_9) = zx_LL Lh := by
  have h1 : (zl_m zl_9).all (fun x => decide (x.1 < 153)) = true := by decide +kernel
  have h2 : ∀ a : Fin 153, (zx_tR.getD a.1 []).length ≤ 40 ∧ ∀ j : Fin 40, (zx_tR.getD a.1 []).getD j.1 none = none ∨ (a.1, j.1) ∈ zl_m zl_9 := by decide +kernel
  refine Prod.ext rfl (Prod.ext ?_ rfl)
  funext a j
  show (if (a, j) ∈ zl_m zl_9 then (zx_tR.getD a []).getD j none else zx_sR a j) = if a < 153 then (zx_tR.getD a []).getD j none else zx_sR a j
  by_cases q : (a, j) ∈ zl_m zl_9
  · have := of_decide_eq_true (List.all_eq_true.mp h1 (a, j) q)
    rw [if_pos q, if_pos this]
  · rw [if_neg q]
    by_cases q2 : a < 153
    · rw [if_pos q2]
      obtain ⟨g1, g2⟩ := h2 ⟨a, q2⟩
      have e : (zx_tR.getD a []).getD j none = none := by
        by_cases q3 : j < 40
        · exact (g2 ⟨j, q3⟩).resolve_right q
        · rw [List.getD_eq_getElem?_getD, List.getElem?_eq_none (Nat.le_trans g1 (by omega))]; rfl
      rw [e]
      unfold zx_sR
      rw [if_neg (by omega)]
    · rw [if_neg q2]
theorem sp_clear9 (I : zx_MI) : ∃ I2, (∀ a j, a ≠ 139 → I2 a j = I a j) ∧ (∀ j, j < 1286 → I2 139 j = zf_f0 j) ∧ ∀ d P, zx_rn d 152 [.ref 139] (zx_LL Lh) I J P = P none (zx_LL Lh) I2 J := by
  have l2 : ∀ mm k I1, k + mm = 8 → (∀ a j, a ≠ 139 → I1 a j = I a j) → (∀ j, j < 1286 → I1 139 j = if (109 ≤ j ∧ j < 109 + k) ∨ (125 ≤ j ∧ j < 125 + k) then -1 else nI 0) → ∃ I2, (∀ a j, a ≠ 139 → I2 a j = I a j) ∧ (∀ j, j < 1286 → I2 139 j = zf_f0 j) ∧ ∀ d P, zx_wp d 152 21 [.ref 139, .int (nI k)] [] (zx_LL Lh) I1 J P = P none (zx_LL Lh) I2 J := by
    intro mm
    induction mm with
    | zero =>
      intro k I1 hk f g
      obtain rfl : k = 8 := by omega
      refine ⟨I1, f, fun j hj => g j hj, fun d P => ?_⟩
      rw [zs_152_21]
      simp (disch := omega) only [↓zs_152_22, ↓zs_152_24, ↓zs_152_27, ↓zs_152_28, ↓zs_152_30, ↓zs_152_31, ↓zs_152_32, ↓zs_152_33, ↓zs_152_34, ↓zs_152_35, ↓zs_152_37, ↓zs_152_38, ↓zs_152_39, ↓zs_152_40, ↓zs_152_41, ↓zs_152_44, ↓zs_152_47, zx_pu_s, zx_pu_n, zx_rv_s, zx_rv_n, true_and, and_true, true_or, or_true, zb_0, zb_1, zq_lcl, zq_lcg, zq_lce, eq_self, ite_true, ite_false, zk_138, zw_138, zk_139, zw_139, zk_140, zw_140, zk_141, zw_141, zk_142, zw_142, zk_143, zw_143, zk_144, zw_144, zk_145, zw_145, zk_146, zw_146, zk_147, zw_147, zk_148, zw_148, zk_149, zw_149, zk_150, zw_150, zk_151, zw_151, zk_152, zw_152, zq_138_1, zq_138_2, zq_138_3, zq_138_4, zq_138_16, zq_138_19, zq_138_20, zq_138_24, zq_138_25, zq_138_26, zq_138_27, zq_138_31, zq_138_32, zq_138_33, zn_10, zn_40, zn_040, zn_340, nI_add, zin_nI, nI_clamp, nI_ltI, nI_eq, pk_mul, nI_1, Nat.lt_irrefl]
    | succ mm ih =>
      intro k I1 hk f g
      have hlt : k < 8 := by omega
      obtain ⟨I2, f2, g2, h2⟩ := ih (k + 1) (zx_u (zx_u I1 139 (109 + k) (-1)) 139 (125 + k) (-1)) (by omega) (fun a j h => by rw [zu_n (by omega), zu_n (by omega)]; exact f a j h) (fun j hj => by
        by_cases q1 : j = 125 + k
        · rw [q1, zu_s, if_pos (by omega)]
        · by_cases q2 : j = 109 + k
          · rw [q2, zu_n (by omega), zu_s, if_pos (by omega)]
          · rw [zu_n (by omega), zu_n (by omega), g j hj]
            by_cases q3 : (109 ≤ j ∧ j < 109 + k) ∨ (125 ≤ j ∧ j < 125 + k)
            · rw [if_pos q3, if_pos (by omega)]
            · rw [if_neg q3, if_neg (by omega)])
      refine ⟨I2, f2, g2, fun d P => ?_⟩
      rw [← h2 d P, zs_152_21]
      simp (disch := omega) only [↓zs_152_22, ↓zs_152_24, ↓zs_152_27, ↓zs_152_28, ↓zs_152_30, ↓zs_152_31, ↓zs_152_32, ↓zs_152_33, ↓zs_152_34, ↓zs_152_35, ↓zs_152_37, ↓zs_152_38, ↓zs_152_39, ↓zs_152_40, ↓zs_152_41, ↓zs_152_44, ↓zs_152_47, zx_pu_s, zx_pu_n, zx_rv_s, zx_rv_n, true_and, and_true, true_or, or_true, zb_0, zb_1, zq_lcl, zq_lcg, zq_lce, eq_self, ite_true, ite_false, zk_138, zw_138, zk_139, zw_139, zk_140, zw_140, zk_141, zw_141, zk_142, zw_142, zk_143, zw_143, zk_144, zw_144, zk_145, zw_145, zk_146, zw_146, zk_147, zw_147, zk_148, zw_148, zk_149, zw_149, zk_150, zw_150, zk_151, zw_151, zk_152, zw_152, zq_138_1, zq_138_2, zq_138_3, zq_138_4, zq_138_16, zq_138_19, zq_138_20, zq_138_24, zq_138_25, zq_138_26, zq_138_27, zq_138_31, zq_138_32, zq_138_33, zn_10, zn_40, zn_040, zn_340, nI_add, zin_nI, nI_clamp, nI_ltI, nI_eq, pk_mul, nI_1, Nat.lt_irrefl, hlt]
  have l1 : ∀ mm k I1, k + mm = 1286 → (∀ a j, a ≠ 139 → I1 a j = I a j) → (∀ j, j < k → I1 139 j = nI 0) → ∃ I2, (∀ a j, a ≠ 139 → I2 a j = I a j) ∧ (∀ j, j < 1286 → I2 139 j = zf_f0 j) ∧ ∀ d P, zx_wp d 152 2 [.ref 139, .int (nI k)] [] (zx_LL Lh) I1 J P = P none (zx_LL Lh) I2 J := by
    intro mm
    induction mm with
    | zero =>
      intro k I1 hk f g
      obtain rfl : k = 1286 := by omega
      obtain ⟨I2, f2, g2, h2⟩ := l2 8 0 I1 rfl f (fun j hj => by rw [if_neg (by omega)]; exact g j hj)
      refine ⟨I2, f2, g2, fun d P => ?_⟩
      rw [← h2 d P, zs_152_2]
      simp (disch := omega) only [↓zs_152_3, ↓zs_152_6, ↓zs_152_9, ↓zs_152_10, ↓zs_152_11, ↓zs_152_12, ↓zs_152_13, ↓zs_152_16, ↓zs_152_19, ↓zs_152_20, zx_pu_s, zx_pu_n, zx_rv_s, zx_rv_n, true_and, and_true, true_or, or_true, zb_0, zb_1, zq_lcl, zq_lcg, zq_lce, eq_self, ite_true, ite_false, zk_138, zw_138, zk_139, zw_139, zk_140, zw_140, zk_141, zw_141, zk_142, zw_142, zk_143, zw_143, zk_144, zw_144, zk_145, zw_145, zk_146, zw_146, zk_147, zw_147, zk_148, zw_148, zk_149, zw_149, zk_150, zw_150, zk_151, zw_151, zk_152, zw_152, zq_138_1, zq_138_2, zq_138_3, zq_138_4, zq_138_16, zq_138_19, zq_138_20, zq_138_24, zq_138_25, zq_138_26, zq_138_27, zq_138_31, zq_138_32, zq_138_33, zn_10, zn_40, zn_040, zn_340, nI_add, zin_nI, nI_clamp, nI_ltI, nI_eq, pk_mul, nI_1, Nat.lt_irrefl]
    | succ mm ih =>
      intro k I1 hk f g
      have hlt : k < 1286 := by omega
      obtain ⟨I2, f2, g2, h2⟩ := ih (k + 1) (zx_u I1 139 k (nI 0)) (by omega) (fun a j h => by rw [zu_n (by omega)]; exact f a j h) (fun j hj => by
        by_cases q1 : j = k
        · rw [q1, zu_s]
        · rw [zu_n (by omega)]; exact g j (by omega))
      refine ⟨I2, f2, g2, fun d P => ?_⟩
      rw [← h2 d P, zs_152_2]
      simp (disch := omega) only [↓zs_152_3, ↓zs_152_6, ↓zs_152_9, ↓zs_152_10, ↓zs_152_11, ↓zs_152_12, ↓zs_152_13, ↓zs_152_16, zx_pu_s, zx_pu_n, zx_rv_s, zx_rv_n, true_and, and_true, true_or, or_true, zb_0, zb_1, zq_lcl, zq_lcg, zq_lce, eq_self, ite_true, ite_false, zk_138, zw_138, zk_139, zw_139, zk_140, zw_140, zk_141, zw_141, zk_142, zw_142, zk_143, zw_143, zk_144, zw_144, zk_145, zw_145, zk_146, zw_146, zk_147, zw_147, zk_148, zw_148, zk_149, zw_149, zk_150, zw_150, zk_151, zw_151, zk_152, zw_152, zq_138_1, zq_138_2, zq_138_3, zq_138_4, zq_138_16, zq_138_19, zq_138_20, zq_138_24, zq_138_25, zq_138_26, zq_138_27, zq_138_31, zq_138_32, zq_138_33, zn_10, zn_40, zn_040, zn_340, nI_add, zin_nI, nI_clamp, nI_ltI, nI_eq, pk_mul, nI_1, Nat.lt_irrefl, hlt]
  obtain ⟨I2, f2, g2, h2⟩ := l1 1286 0 I rfl (fun _ _ _ => rfl) (fun j hj => absurd hj (Nat.not_lt_zero j))
  refine ⟨I2, f2, g2, fun d P => ?_⟩
  rw [← h2 d P, ze_152]
  simp (disch := omega) only [↓zs_152_0, ↓zs_152_1, zx_pu_s, zx_pu_n, zx_rv_s, zx_rv_n, true_and, and_true, true_or, or_true, zb_0, zb_1, zq_lcl, zq_lcg, zq_lce, eq_self, ite_true, ite_false]
theorem sp_new151 (I : zx_MI) : ∃ I2, (∀ a j, ¬ (a = 139 ∨ (a = 138 ∧ j = 14) ∨ (a = 150 ∧ j < 4)) → I2 a j = I a j) ∧ (∀ j, j < 1286 → I2 139 j = zf_f0 j) ∧ I2 138 14 = -1 ∧ (∀ t, t < 4 → I2 150 t = -1) ∧ ∀ d P, zx_rn (d + 1) 151 [.ref 138] (zx_Lc Lh 139 6071 zl_9) I J P = P none (zx_LL Lh) I2 J := by
  obtain ⟨I1, hI1⟩ : ∃ I1, I1 = zx_u (zx_u (zx_u (zx_u (zx_u I 138 14 (-1)) 150 0 (-1)) 150 1 (-1)) 150 2 (-1)) 150 3 (-1) := ⟨_, rfl⟩
  obtain ⟨I2, f2, g2, h2⟩ := sp_clear9 (Lh := Lh) (J := J) I1
  refine ⟨I2, fun a j h => ?_, g2, ?_, fun t ht => ?_, fun d P => ?_⟩
  · rw [f2 a j (by omega), hI1, zu_n (by omega), zu_n (by omega), zu_n (by omega), zu_n (by omega), zu_n (by omega)]
  · rw [f2 138 14 (by omega), hI1, zu_n (by omega), zu_n (by omega), zu_n (by omega), zu_n (by omega), zu_s]
  · rw [f2 150 t (by omega), hI1]
    rcases (show t = 0 ∨ t = 1 ∨ t = 2 ∨ t = 3 by omega) with q | q | q | q <;> subst q
    · rw [zu_n (by omega), zu_n (by omega), zu_n (by omega), zu_s]
    · rw [zu_n (by omega), zu_n (by omega), zu_s]
    · rw [zu_n (by omega), zu_s]
    · rw [zu_s]
  · have k138 : ∀ n w L, 138 < n → n ≤ 153 → (zx_Lc Lh n w L).1 138 = (52, 0) := fun n w L h1 h2 => zc_k h1 h2
    have k150 : ∀ n w L, 150 < n → n ≤ 153 → (zx_Lc Lh n w L).1 150 = (0, 4) := fun n w L h1 h2 => zc_k h1 h2
    have n1 : ∀ w L, zx_new (zx_Lc Lh 139 w L) (0, 3858) 3858 = zx_Lc Lh 140 (w + 3858) L := fun w L => zc_new (by omega) rfl
    have n2 : ∀ w L, zx_new (zx_Lc Lh 140 w L) (2, 2) 2 = zx_Lc Lh 141 (w + 2) L := fun w L => zc_new (by omega) rfl
    have n3 : ∀ w L, zx_new (zx_Lc Lh 141 w L) (0, 900) 900 = zx_Lc Lh 142 (w + 900) L := fun w L => zc_new (by omega) rfl
    have n4 : ∀ w L, zx_new (zx_Lc Lh 142 w L) (0, 1286) 1286 = zx_Lc Lh 143 (w + 1286) L := fun w L => zc_new (by omega) rfl
    have n5 : ∀ w L, zx_new (zx_Lc Lh 143 w L) (0, 900) 900 = zx_Lc Lh 144 (w + 900) L := fun w L => zc_new (by omega) rfl
    have n6 : ∀ w L, zx_new (zx_Lc Lh 144 w L) (0, 25) 25 = zx_Lc Lh 145 (w + 25) L := fun w L => zc_new (by omega) rfl
    have n7 : ∀ w L, zx_new (zx_Lc Lh 145 w L) (0, 25) 25 = zx_Lc Lh 146 (w + 25) L := fun w L => zc_new (by omega) rfl
    have n8 : ∀ w L, zx_new (zx_Lc Lh 146 w L) (3, 41) 41 = zx_Lc Lh 147 (w + 41) L := fun w L => zc_new (by omega) rfl
    have n9 : ∀ w L, zx_new (zx_Lc Lh 147 w L) (3, 42) 42 = zx_Lc Lh 148 (w + 42) L := fun w L => zc_new (by omega) rfl
    have na : ∀ w L, zx_new (zx_Lc Lh 148 w L) (3, 64) 64 = zx_Lc Lh 149 (w + 64) L := fun w L => zc_new (by omega) rfl
    have nb : ∀ w L, zx_new (zx_Lc Lh 149 w L) (3, 64) 64 = zx_Lc Lh 150 (w + 64) L := fun w L => zc_new (by omega) rfl
    have nc : ∀ w L, zx_new (zx_Lc Lh 150 w L) (0, 4) 4 = zx_Lc Lh 151 (w + 4) L := fun w L => zc_new (by omega) rfl
    have nd : ∀ w L, zx_new (zx_Lc Lh 151 w L) (0, 4) 4 = zx_Lc Lh 152 (w + 4) L := fun w L => zc_new (by omega) rfl
    have ne : ∀ w L, zx_new (zx_Lc Lh 152 w L) (3, 160) 160 = zx_Lc Lh 153 (w + 160) L := fun w L => zc_new (by omega) rfl
    have u1 : ∀ n w L, _ := fun n w L => zc_u (n := n) (w := w) (S := L) (Lh := Lh) (a := 138) (j := 1) (b := 139) (by omega) rfl
    have u2 : ∀ n w L, _ := fun n w L => zc_u (n := n) (w := w) (S := L) (Lh := Lh) (a := 138) (j := 2) (b := 140) (by omega) rfl
    have u3 : ∀ n w L, _ := fun n w L => zc_u (n := n) (w := w) (S := L) (Lh := Lh) (a := 138) (j := 3) (b := 141) (by omega) rfl
    have u4 : ∀ n w L, _ := fun n w L => zc_u (n := n) (w := w) (S := L) (Lh := Lh) (a := 138) (j := 4) (b := 142) (by omega) rfl
    have u5 : ∀ n w L, _ := fun n w L => zc_u (n := n) (w := w) (S := L) (Lh := Lh) (a := 138) (j := 16) (b := 143) (by omega) rfl
    have u6 : ∀ n w L, _ := fun n w L => zc_u (n := n) (w := w) (S := L) (Lh := Lh) (a := 138) (j := 19) (b := 144) (by omega) rfl
    have u7 : ∀ n w L, _ := fun n w L => zc_u (n := n) (w := w) (S := L) (Lh := Lh) (a := 138) (j := 20) (b := 145) (by omega) rfl
    have u8 : ∀ n w L, _ := fun n w L => zc_u (n := n) (w := w) (S := L) (Lh := Lh) (a := 138) (j := 24) (b := 146) (by omega) rfl
    have u9 : ∀ n w L, _ := fun n w L => zc_u (n := n) (w := w) (S := L) (Lh := Lh) (a := 138) (j := 25) (b := 147) (by omega) rfl
    have ua : ∀ n w L, _ := fun n w L => zc_u (n := n) (w := w) (S := L) (Lh := Lh) (a := 138) (j := 26) (b := 148) (by omega) rfl
    have ub : ∀ n w L, _ := fun n w L => zc_u (n := n) (w := w) (S := L) (Lh := Lh) (a := 138) (j := 27) (b := 149) (by omega) rfl
    have uc : ∀ n w L, _ := fun n w L => zc_u (n := n) (w := w) (S := L) (Lh := Lh) (a := 138) (j := 31) (b := 150) (by omega) rfl
    have ud : ∀ n w L, _ := fun n w L => zc_u (n := n) (w := w) (S := L) (Lh := Lh) (a := 138) (j := 32) (b := 151) (by omega) rfl
    have ue : ∀ n w L, _ := fun n w L => zc_u (n := n) (w := w) (S := L) (Lh := Lh) (a := 138) (j := 33) (b := 152) (by omega) rfl
    have c2 : (nI 2 < 0) = False := eq_false (by decide)
    have c4 : (nI 4 < 0) = False := eq_false (by decide)
    have c25 : (nI 25 < 0) = False := eq_false (by decide)
    have c41 : (nI 41 < 0) = False := eq_false (by decide)
    have c42 : (nI 42 < 0) = False := eq_false (by decide)
    have c64 : (nI 64 < 0) = False := eq_false (by decide)
    have c160 : (nI 160 < 0) = False := eq_false (by decide)
    have c900 : (nI 900 < 0) = False := eq_false (by decide)
    have c1286 : (nI 1286 < 0) = False := eq_false (by decide)
    have c3858 : (nI 3858 < 0) = False := eq_false (by decide)
    have h2' := fun P => h2 d P
    rw [ze_151]
    simp (disch := omega) only [↓zs_151_0, ↓zs_151_1, ↓zs_151_4, ↓zs_151_5, ↓zs_151_8, ↓zs_151_10, ↓zs_151_13, ↓zs_151_14, ↓zs_151_15, ↓zs_151_17, ↓zs_151_20, ↓zs_151_21, ↓zs_151_24, ↓zs_151_26, ↓zs_151_29, ↓zs_151_30, ↓zs_151_33, ↓zs_151_35, ↓zs_151_38, ↓zs_151_39, ↓zs_151_40, ↓zs_151_43, ↓zs_151_44, ↓zs_151_47, ↓zs_151_49, zx_pu_s, zx_pu_n, zx_rv_s, zx_rv_n, true_and, and_true, true_or, or_true, zb_0, zb_1, zq_lcl, zq_lcg, zq_lce, eq_self, ite_true, ite_false, zc_n, zn_ltT, zn_leT, c2, c900, c1286, c3858, not_false_eq_true, nI_clamp, n1, n2, n3, n4, n5, u1, u2, u3, u4, u5, k138, zc_w, Nat.reduceAdd]
    simp (disch := omega) only [↓zs_151_52, ↓zs_151_53, ↓zs_151_55, ↓zs_151_57, ↓zs_151_60, ↓zs_151_61, ↓zs_151_63, ↓zs_151_65, ↓zs_151_68, ↓zs_151_69, ↓zs_151_71, ↓zs_151_73, ↓zs_151_76, ↓zs_151_77, ↓zs_151_79, ↓zs_151_81, ↓zs_151_84, ↓zs_151_85, ↓zs_151_87, ↓zs_151_89, ↓zs_151_92, ↓zs_151_93, ↓zs_151_95, ↓zs_151_97, zx_pu_s, zx_pu_n, zx_rv_s, zx_rv_n, true_and, and_true, true_or, or_true, zb_0, zb_1, zq_lcl, zq_lcg, zq_lce, eq_self, ite_true, ite_false, zc_n, zn_ltT, zn_leT, c25, c41, c42, c64, not_false_eq_true, nI_clamp, n6, n7, n8, n9, na, nb, u6, u7, u8, u9, ua, ub, k138, zc_w, Nat.reduceAdd]
    simp (disch := omega) only [↓zs_151_100, ↓zs_151_101, ↓zs_151_102, ↓zs_151_104, ↓zs_151_105, ↓zs_151_106, ↓zs_151_107, ↓zs_151_108, ↓zs_151_109, ↓zs_151_110, ↓zs_151_111, ↓zs_151_112, ↓zs_151_113, ↓zs_151_114, ↓zs_151_115, ↓zs_151_116, ↓zs_151_117, ↓zs_151_118, ↓zs_151_119, ↓zs_151_120, ↓zs_151_123, ↓zs_151_124, ↓zs_151_125, ↓zs_151_127, ↓zs_151_130, ↓zs_151_131, ↓zs_151_134, ↓zs_151_136, zx_pu_s, zx_pu_n, zx_rv_s, zx_rv_n, true_and, and_true, true_or, or_true, zb_0, zb_1, zq_lcl, zq_lcg, zq_lce, eq_self, ite_true, ite_false, zn_10, zn_40, zn_040, zn_340, nI_add, zin_nI, nI_clamp, nI_ltI, nI_eq, pk_mul, nI_1, Nat.lt_irrefl, zc_n, zn_ltT, zn_leT, c4, c160, not_false_eq_true, nc, nd, ne, uc, ud, ue, k138, k150, zc_w, Nat.reduceAdd]
    have fin : ∀ M, zx_Lc Lh 153 13446 ((138, 33) :: (138, 32) :: (138, 31) :: (138, 27) :: (138, 26) :: (138, 25) :: (138, 24) :: (138, 20) :: (138, 19) :: (138, 16) :: (138, 4) :: (138, 3) :: (138, 2) :: (138, 1) :: M) = zx_Lc Lh 153 13446 (zl_m M) := fun _ => rfl
    rw [fin, zc_fin, ← hI1]
    simp (disch := omega) only [↓zs_151_139, ↓zs_151_140, ↓zs_151_143, ↓zs_151_146, zx_pu_s, zx_pu_n, zx_rv_s, zx_rv_n, true_and, and_true, true_or, or_true, zb_0, zb_1, zq_lcl, zq_lcg, zq_lce, eq_self, ite_true, ite_false, zk_138, zw_138, zk_139, zw_139, zk_140, zw_140, zk_141, zw_141, zk_142, zw_142, zk_143, zw_143, zk_144, zw_144, zk_145, zw_145, zk_146, zw_146, zk_147, zw_147, zk_148, zw_148, zk_149, zw_149, zk_150, zw_150, zk_151, zw_151, zk_152, zw_152, zq_138_1, zq_138_2, zq_138_3, zq_138_4, zq_138_16, zq_138_19, zq_138_20, zq_138_24, zq_138_25, zq_138_26, zq_138_27, zq_138_31, zq_138_32, zq_138_33, h2']
end CM
