/-! pair, calm, count -/
def zf_sees (B : Nat → Int32) (s : Nat) : Int32 := zf_end B (zn B) (zf_look B (zw B) (zh B) (zn B) s).2
theorem zf_sees_opt {B : Nat → Int32} (hn : zn B ≤ 8) (s : Nat) : zf_opt (zf_sees B s) (zn B) := by
  unfold zf_sees zf_end
  split
  · exact .inl rfl
  · rename_i k _
    rcases zf_on_opt B (nI k) (zn B) 0 with e | ⟨i, _, h2, _, e⟩
    · exact .inl e
    · exact .inr ⟨i, by omega, e⟩
def zf_pairL (B : Nat → Int32) : Nat → Nat → Int32
  | 0, _ => -1
  | mm + 1, s => if nI s < zf_sees B s ∧ zf_sees B (zf_nat (zf_sees B s)) = nI s then nI (10 * s + zf_nat (zf_sees B s)) else zf_pairL B mm (s + 1)
def zf_pair (B : Nat → Int32) : Int32 := zf_pairL B (zn B) 0
def zf_calm (B : Nat → Int32) : Int32 := nI (zf_bs (fun s => !decide (B (109 + s) = -1) && !zf_hasFoe B s) (zn B) 0 0)
theorem zq_m1lt {n : Nat} (h : n < 2 ^ 31) : (nI n < -1) = False := eq_false (by
  rw [Int32.lt_iff_toInt_lt, nI_toInt h, show (-1 : Int32).toInt = -1 by decide +kernel]
  omega)
section PC
variable {Lh m : Nat}
theorem c_pair : zCq Lh 123 [] (fun B => .int (zf_pair B)) m := by
  intro I J v
  obtain ⟨⟨hw, hh, hN⟩, gr, g, ex, ok, N8, wh⟩ := zInv_k v
  have hsee : ∀ s, s < 8 → ∀ d P, zx_rn (d + 3) 64 [.ref 1, .ref 11, .int (nI s)] (zx_LL Lh) I J P = P (some (.int (zf_sees (I 139) s))) (zx_LL Lh) I J := fun s hs d P => sc_seenBy (d := d) (Lh := Lh) (J := J) (P := P) (s := s) zx_sq1 zx_st11 v.1 hs hw hh gr g ex v.2.2.2.1 ok
  have loop : ∀ mm s v2, s + mm = zn (I 139) → ∀ d P, zx_wp (d + 30) 123 2 [.ref 0, .int (nI s), v2] [] (zx_LL Lh) I J P = P (some (.int (zf_pairL (I 139) mm s))) (zx_LL Lh) I J := by
    intro mm
    induction mm with
    | zero =>
      intro s v2 hs d P
      have hlt : ¬ s < zn (I 139) := by omega
      rw [zs_123_2]
      simp (disch := omega) only [↓zs_123_0, ↓zs_123_1, ↓zs_123_3, ↓zs_123_4, ↓zs_123_7, ↓zs_123_10, ↓zs_123_13, ↓zs_123_14, ↓zs_123_17, ↓zs_123_18, ↓zs_123_21, ↓zs_123_22, ↓zs_123_25, ↓zs_123_26, ↓zs_123_27, ↓zs_123_28, ↓zs_123_31, ↓zs_123_32, ↓zs_123_35, ↓zs_123_36, ↓zs_123_39, ↓zs_123_40, ↓zs_123_43, ↓zs_123_44, ↓zs_123_47, ↓zs_123_49, ↓zs_123_50, ↓zs_123_51, ↓zs_123_52, ↓zs_123_53, ↓zs_123_54, ↓zs_123_57, ↓zs_123_60, ↓zs_123_61, zx_pu_s, zx_pu_n, zx_rv_s, zx_rv_n, true_and, and_true, true_or, or_true, zb_0, zb_1, zq_lcl, zq_lcg, zq_lce, eq_self, ite_true, ite_false, zk_0, zw_0, zk_1, zw_1, zq_0_0, zq_0_1, zq_0_2, zq_0_3, zq_0_4, zq_0_5, zq_0_6, zq_0_7, zq_0_8, zq_0_9, zq_0_10, zq_0_11, zq_1_0, zq_1_1, zq_1_2, zq_1_3, zq_1_4, zq_1_5, zn_10, zn_40, zn_040, zn_340, nI_add, zin_nI, nI_clamp, nI_ltI, nI_eq, pk_mul, nI_1, Nat.lt_irrefl, hN, hlt]
      rfl
    | succ mm ih =>
      intro s v2 hs d P
      have hlt : s < zn (I 139) := by omega
      have h1 := hsee s (by omega)
      rw [zs_123_2, zf_pairL]
      rcases zf_sees_opt N8 s with e | ⟨b, hb, e⟩
      · rw [e, if_neg (by rw [zq_m1lt (by omega)]; exact fun x => x.1)]
        simp (disch := omega) only [↓zs_123_0, ↓zs_123_1, ↓zs_123_3, ↓zs_123_4, ↓zs_123_7, ↓zs_123_10, ↓zs_123_13, ↓zs_123_14, ↓zs_123_17, ↓zs_123_18, ↓zs_123_21, ↓zs_123_22, ↓zs_123_25, ↓zs_123_26, ↓zs_123_27, ↓zs_123_28, ↓zs_123_31, ↓zs_123_32, ↓zs_123_35, ↓zs_123_36, ↓zs_123_39, ↓zs_123_40, ↓zs_123_43, ↓zs_123_44, ↓zs_123_47, ↓zs_123_49, ↓zs_123_50, ↓zs_123_51, ↓zs_123_52, ↓zs_123_53, ↓zs_123_54, ↓zs_123_57, ↓zs_123_60, ↓zs_123_61, zx_pu_s, zx_pu_n, zx_rv_s, zx_rv_n, true_and, and_true, true_or, or_true, zb_0, zb_1, zq_lcl, zq_lcg, zq_lce, eq_self, ite_true, ite_false, zk_0, zw_0, zk_1, zw_1, zq_0_0, zq_0_1, zq_0_2, zq_0_3, zq_0_4, zq_0_5, zq_0_6, zq_0_7, zq_0_8, zq_0_9, zq_0_10, zq_0_11, zq_1_0, zq_1_1, zq_1_2, zq_1_3, zq_1_4, zq_1_5, zk_11, zw_11, zq_11_0, zq_11_1, zq_11_2, zn_10, zn_40, zn_040, zn_340, nI_add, zin_nI, nI_clamp, nI_ltI, nI_eq, pk_mul, nI_1, Nat.lt_irrefl, hN, hlt, h1, e, zq_m1lt]
        exact ih (s + 1) _ (by omega) d P
      · have h2 := hsee b (by omega)
        have eb : zf_nat (nI b) = b := nI_clamp (by omega)
        rw [e, eb]
        by_cases c1 : s < b
        · by_cases c2 : zf_sees (I 139) b = nI s
          · rw [if_pos ⟨nI_lt c1 (by omega), c2⟩]
            simp (disch := omega) only [↓zs_123_0, ↓zs_123_1, ↓zs_123_3, ↓zs_123_4, ↓zs_123_7, ↓zs_123_10, ↓zs_123_13, ↓zs_123_14, ↓zs_123_17, ↓zs_123_18, ↓zs_123_21, ↓zs_123_22, ↓zs_123_25, ↓zs_123_26, ↓zs_123_27, ↓zs_123_28, ↓zs_123_31, ↓zs_123_32, ↓zs_123_35, ↓zs_123_36, ↓zs_123_39, ↓zs_123_40, ↓zs_123_43, ↓zs_123_44, ↓zs_123_47, ↓zs_123_49, ↓zs_123_50, ↓zs_123_51, ↓zs_123_52, ↓zs_123_53, ↓zs_123_54, ↓zs_123_57, ↓zs_123_60, ↓zs_123_61, zx_pu_s, zx_pu_n, zx_rv_s, zx_rv_n, true_and, and_true, true_or, or_true, zb_0, zb_1, zq_lcl, zq_lcg, zq_lce, eq_self, ite_true, ite_false, zk_0, zw_0, zk_1, zw_1, zq_0_0, zq_0_1, zq_0_2, zq_0_3, zq_0_4, zq_0_5, zq_0_6, zq_0_7, zq_0_8, zq_0_9, zq_0_10, zq_0_11, zq_1_0, zq_1_1, zq_1_2, zq_1_3, zq_1_4, zq_1_5, zk_11, zw_11, zq_11_0, zq_11_1, zq_11_2, zn_10, zn_40, zn_040, zn_340, nI_add, zin_nI, nI_clamp, nI_ltI, nI_eq, pk_mul, nI_1, Nat.lt_irrefl, hN, hlt, h1, e, c1, h2, c2]
          · rw [if_neg (fun x => c2 x.2)]
            simp (disch := omega) only [↓zs_123_0, ↓zs_123_1, ↓zs_123_3, ↓zs_123_4, ↓zs_123_7, ↓zs_123_10, ↓zs_123_13, ↓zs_123_14, ↓zs_123_17, ↓zs_123_18, ↓zs_123_21, ↓zs_123_22, ↓zs_123_25, ↓zs_123_26, ↓zs_123_27, ↓zs_123_28, ↓zs_123_31, ↓zs_123_32, ↓zs_123_35, ↓zs_123_36, ↓zs_123_39, ↓zs_123_40, ↓zs_123_43, ↓zs_123_44, ↓zs_123_47, ↓zs_123_49, ↓zs_123_50, ↓zs_123_51, ↓zs_123_52, ↓zs_123_53, ↓zs_123_54, ↓zs_123_57, ↓zs_123_60, ↓zs_123_61, zx_pu_s, zx_pu_n, zx_rv_s, zx_rv_n, true_and, and_true, true_or, or_true, zb_0, zb_1, zq_lcl, zq_lcg, zq_lce, eq_self, ite_true, ite_false, zk_0, zw_0, zk_1, zw_1, zq_0_0, zq_0_1, zq_0_2, zq_0_3, zq_0_4, zq_0_5, zq_0_6, zq_0_7, zq_0_8, zq_0_9, zq_0_10, zq_0_11, zq_1_0, zq_1_1, zq_1_2, zq_1_3, zq_1_4, zq_1_5, zk_11, zw_11, zq_11_0, zq_11_1, zq_11_2, zn_10, zn_40, zn_040, zn_340, nI_add, zin_nI, nI_clamp, nI_ltI, nI_eq, pk_mul, nI_1, Nat.lt_irrefl, hN, hlt, h1, e, c1, h2, c2]
            exact ih (s + 1) _ (by omega) d P
        · rw [if_neg (fun x => nI_nlt (by omega) (by omega) x.1)]
          simp (disch := omega) only [↓zs_123_0, ↓zs_123_1, ↓zs_123_3, ↓zs_123_4, ↓zs_123_7, ↓zs_123_10, ↓zs_123_13, ↓zs_123_14, ↓zs_123_17, ↓zs_123_18, ↓zs_123_21, ↓zs_123_22, ↓zs_123_25, ↓zs_123_26, ↓zs_123_27, ↓zs_123_28, ↓zs_123_31, ↓zs_123_32, ↓zs_123_35, ↓zs_123_36, ↓zs_123_39, ↓zs_123_40, ↓zs_123_43, ↓zs_123_44, ↓zs_123_47, ↓zs_123_49, ↓zs_123_50, ↓zs_123_51, ↓zs_123_52, ↓zs_123_53, ↓zs_123_54, ↓zs_123_57, ↓zs_123_60, ↓zs_123_61, zx_pu_s, zx_pu_n, zx_rv_s, zx_rv_n, true_and, and_true, true_or, or_true, zb_0, zb_1, zq_lcl, zq_lcg, zq_lce, eq_self, ite_true, ite_false, zk_0, zw_0, zk_1, zw_1, zq_0_0, zq_0_1, zq_0_2, zq_0_3, zq_0_4, zq_0_5, zq_0_6, zq_0_7, zq_0_8, zq_0_9, zq_0_10, zq_0_11, zq_1_0, zq_1_1, zq_1_2, zq_1_3, zq_1_4, zq_1_5, zk_11, zw_11, zq_11_0, zq_11_1, zq_11_2, zn_10, zn_40, zn_040, zn_340, nI_add, zin_nI, nI_clamp, nI_ltI, nI_eq, pk_mul, nI_1, Nat.lt_irrefl, hN, hlt, h1, e, c1]
          exact ih (s + 1) _ (by omega) d P
  refine ⟨I, J, zScr_r I J, fun d P => ?_⟩
  rw [ze_123]
  simp only [↓zs_123_0, ↓zs_123_1, zx_pu_s, zx_pu_n, zx_rv_s, zx_rv_n, true_and, and_true, true_or, or_true, zb_0, zb_1, zq_lcl, zq_lcg, zq_lce, eq_self, ite_true, ite_false]
  exact loop _ 0 _ (by omega) d P
theorem m_pair : zMq Lh 235 [] (fun B => .int (zf_pair B)) m := by
  intro I J v
  obtain ⟨⟨hw, hh, hN⟩, gr, g, ex, ok, N8, wh⟩ := zInv_k v
  have hsee : ∀ s, s < 8 → ∀ I1, zFs I I1 → ∃ I2, zFs I I2 ∧ ∀ d P, zx_rn (d + 6) 195 [.ref 138, .int (nI s)] (zx_LL Lh) I1 J P = P (some (.int (zf_sees (I 139) s))) (zx_LL Lh) I2 J := by
    intro s hs I1 f
    obtain ⟨I2, f2, h2⟩ := sp_seesOf (Lh := Lh) (I := I1) (J := J) (s := s) (zFs_si f v.1) hs (by rw [zFs_139 f]; exact ok)
    rw [zFs_139 f] at h2
    exact ⟨I2, zFs_t f f2, h2⟩
  have loop : ∀ mm s v2 I1, s + mm = zn (I 139) → zFs I I1 → ∃ I2, zFs I I2 ∧ ∀ d P, zx_wp (d + 30) 235 7 [.ref 138, .int (nI s), v2] [] (zx_LL Lh) I1 J P = P (some (.int (zf_pairL (I 139) mm s))) (zx_LL Lh) I2 J := by
    intro mm
    induction mm with
    | zero =>
      intro s v2 I1 hs f
      have hlt : ¬ s < zn (I 139) := by omega
      have e3 : I1 139 3 = nI (zn (I 139)) := by rw [zFs_139 f]; exact ok.1.2.2.1
      refine ⟨I1, f, fun d P => ?_⟩
      rw [zs_235_7]
      simp (disch := omega) only [↓zs_235_0, ↓zs_235_1, ↓zs_235_2, ↓zs_235_5, ↓zs_235_6, ↓zs_235_8, ↓zs_235_9, ↓zs_235_12, ↓zs_235_13, ↓zs_235_14, ↓zs_235_17, ↓zs_235_18, ↓zs_235_19, ↓zs_235_22, ↓zs_235_23, ↓zs_235_24, ↓zs_235_25, ↓zs_235_28, ↓zs_235_29, ↓zs_235_30, ↓zs_235_33, ↓zs_235_34, ↓zs_235_37, ↓zs_235_39, ↓zs_235_40, ↓zs_235_41, ↓zs_235_42, ↓zs_235_43, ↓zs_235_44, ↓zs_235_47, ↓zs_235_50, ↓zs_235_51, zx_pu_s, zx_pu_n, zx_rv_s, zx_rv_n, true_and, and_true, true_or, or_true, zb_0, zb_1, zq_lcl, zq_lcg, zq_lce, eq_self, ite_true, ite_false, zk_138, zw_138, zk_139, zw_139, zk_140, zw_140, zk_141, zw_141, zk_142, zw_142, zk_143, zw_143, zk_144, zw_144, zk_145, zw_145, zk_146, zw_146, zk_147, zw_147, zk_148, zw_148, zk_149, zw_149, zk_150, zw_150, zk_151, zw_151, zk_152, zw_152, zq_138_1, zq_138_2, zq_138_3, zq_138_4, zq_138_16, zq_138_19, zq_138_20, zq_138_24, zq_138_25, zq_138_26, zq_138_27, zq_138_31, zq_138_32, zq_138_33, zn_10, zn_40, zn_040, zn_340, nI_add, zin_nI, nI_clamp, nI_ltI, nI_eq, pk_mul, nI_1, Nat.lt_irrefl, e3, hlt]
      rfl
    | succ mm ih =>
      intro s v2 I1 hs f
      have hlt : s < zn (I 139) := by omega
      have e3 : I1 139 3 = nI (zn (I 139)) := by rw [zFs_139 f]; exact ok.1.2.2.1
      obtain ⟨I2, f2, h2⟩ := hsee s (by omega) I1 f
      rw [zf_pairL]
      rcases zf_sees_opt N8 s with e | ⟨b, hb, e⟩
      · rw [e] at h2 ⊢
        rw [if_neg (by rw [zq_m1lt (by omega)]; exact fun x => x.1)]
        obtain ⟨I3, f3, h3⟩ := ih (s + 1) (.int (-1)) I2 (by omega) f2
        refine ⟨I3, f3, fun d P => ?_⟩
        rw [← h3 d P, zs_235_7]
        simp (disch := omega) only [↓zs_235_0, ↓zs_235_1, ↓zs_235_2, ↓zs_235_5, ↓zs_235_6, ↓zs_235_8, ↓zs_235_9, ↓zs_235_12, ↓zs_235_13, ↓zs_235_14, ↓zs_235_17, ↓zs_235_18, ↓zs_235_19, ↓zs_235_22, ↓zs_235_23, ↓zs_235_24, ↓zs_235_25, ↓zs_235_28, ↓zs_235_29, ↓zs_235_30, ↓zs_235_33, ↓zs_235_34, ↓zs_235_37, ↓zs_235_39, ↓zs_235_40, ↓zs_235_41, ↓zs_235_42, ↓zs_235_43, ↓zs_235_44, ↓zs_235_47, ↓zs_235_50, ↓zs_235_51, zx_pu_s, zx_pu_n, zx_rv_s, zx_rv_n, true_and, and_true, true_or, or_true, zb_0, zb_1, zq_lcl, zq_lcg, zq_lce, eq_self, ite_true, ite_false, zk_138, zw_138, zk_139, zw_139, zk_140, zw_140, zk_141, zw_141, zk_142, zw_142, zk_143, zw_143, zk_144, zw_144, zk_145, zw_145, zk_146, zw_146, zk_147, zw_147, zk_148, zw_148, zk_149, zw_149, zk_150, zw_150, zk_151, zw_151, zk_152, zw_152, zq_138_1, zq_138_2, zq_138_3, zq_138_4, zq_138_16, zq_138_19, zq_138_20, zq_138_24, zq_138_25, zq_138_26, zq_138_27, zq_138_31, zq_138_32, zq_138_33, zn_10, zn_40, zn_040, zn_340, nI_add, zin_nI, nI_clamp, nI_ltI, nI_eq, pk_mul, nI_1, Nat.lt_irrefl, e3, hlt, h2, zq_m1lt]
      · have eb : zf_nat (nI b) = b := nI_clamp (by omega)
        rw [e] at h2 ⊢
        rw [eb]
        obtain ⟨I3, f3, h3⟩ := hsee b (by omega) I2 f2
        by_cases c1 : s < b
        · by_cases c2 : zf_sees (I 139) b = nI s
          · rw [if_pos ⟨nI_lt c1 (by omega), c2⟩]
            refine ⟨I3, f3, fun d P => ?_⟩
            rw [zs_235_7]
            simp (disch := omega) only [↓zs_235_0, ↓zs_235_1, ↓zs_235_2, ↓zs_235_5, ↓zs_235_6, ↓zs_235_8, ↓zs_235_9, ↓zs_235_12, ↓zs_235_13, ↓zs_235_14, ↓zs_235_17, ↓zs_235_18, ↓zs_235_19, ↓zs_235_22, ↓zs_235_23, ↓zs_235_24, ↓zs_235_25, ↓zs_235_28, ↓zs_235_29, ↓zs_235_30, ↓zs_235_33, ↓zs_235_34, ↓zs_235_37, ↓zs_235_39, ↓zs_235_40, ↓zs_235_41, ↓zs_235_42, ↓zs_235_43, ↓zs_235_44, ↓zs_235_47, ↓zs_235_50, ↓zs_235_51, zx_pu_s, zx_pu_n, zx_rv_s, zx_rv_n, true_and, and_true, true_or, or_true, zb_0, zb_1, zq_lcl, zq_lcg, zq_lce, eq_self, ite_true, ite_false, zk_138, zw_138, zk_139, zw_139, zk_140, zw_140, zk_141, zw_141, zk_142, zw_142, zk_143, zw_143, zk_144, zw_144, zk_145, zw_145, zk_146, zw_146, zk_147, zw_147, zk_148, zw_148, zk_149, zw_149, zk_150, zw_150, zk_151, zw_151, zk_152, zw_152, zq_138_1, zq_138_2, zq_138_3, zq_138_4, zq_138_16, zq_138_19, zq_138_20, zq_138_24, zq_138_25, zq_138_26, zq_138_27, zq_138_31, zq_138_32, zq_138_33, zn_10, zn_40, zn_040, zn_340, nI_add, zin_nI, nI_clamp, nI_ltI, nI_eq, pk_mul, nI_1, Nat.lt_irrefl, e3, hlt, h2, c1, h3, c2]
          · rw [if_neg (fun x => c2 x.2)]
            obtain ⟨I4, f4, h4⟩ := ih (s + 1) (.int (nI b)) I3 (by omega) f3
            refine ⟨I4, f4, fun d P => ?_⟩
            rw [← h4 d P, zs_235_7]
            simp (disch := omega) only [↓zs_235_0, ↓zs_235_1, ↓zs_235_2, ↓zs_235_5, ↓zs_235_6, ↓zs_235_8, ↓zs_235_9, ↓zs_235_12, ↓zs_235_13, ↓zs_235_14, ↓zs_235_17, ↓zs_235_18, ↓zs_235_19, ↓zs_235_22, ↓zs_235_23, ↓zs_235_24, ↓zs_235_25, ↓zs_235_28, ↓zs_235_29, ↓zs_235_30, ↓zs_235_33, ↓zs_235_34, ↓zs_235_37, ↓zs_235_39, ↓zs_235_40, ↓zs_235_41, ↓zs_235_42, ↓zs_235_43, ↓zs_235_44, ↓zs_235_47, ↓zs_235_50, ↓zs_235_51, zx_pu_s, zx_pu_n, zx_rv_s, zx_rv_n, true_and, and_true, true_or, or_true, zb_0, zb_1, zq_lcl, zq_lcg, zq_lce, eq_self, ite_true, ite_false, zk_138, zw_138, zk_139, zw_139, zk_140, zw_140, zk_141, zw_141, zk_142, zw_142, zk_143, zw_143, zk_144, zw_144, zk_145, zw_145, zk_146, zw_146, zk_147, zw_147, zk_148, zw_148, zk_149, zw_149, zk_150, zw_150, zk_151, zw_151, zk_152, zw_152, zq_138_1, zq_138_2, zq_138_3, zq_138_4, zq_138_16, zq_138_19, zq_138_20, zq_138_24, zq_138_25, zq_138_26, zq_138_27, zq_138_31, zq_138_32, zq_138_33, zn_10, zn_40, zn_040, zn_340, nI_add, zin_nI, nI_clamp, nI_ltI, nI_eq, pk_mul, nI_1, Nat.lt_irrefl, e3, hlt, h2, c1, h3, c2]
        · rw [if_neg (fun x => nI_nlt (by omega) (by omega) x.1)]
          obtain ⟨I4, f4, h4⟩ := ih (s + 1) (.int (nI b)) I2 (by omega) f2
          refine ⟨I4, f4, fun d P => ?_⟩
          rw [← h4 d P, zs_235_7]
          simp (disch := omega) only [↓zs_235_0, ↓zs_235_1, ↓zs_235_2, ↓zs_235_5, ↓zs_235_6, ↓zs_235_8, ↓zs_235_9, ↓zs_235_12, ↓zs_235_13, ↓zs_235_14, ↓zs_235_17, ↓zs_235_18, ↓zs_235_19, ↓zs_235_22, ↓zs_235_23, ↓zs_235_24, ↓zs_235_25, ↓zs_235_28, ↓zs_235_29, ↓zs_235_30, ↓zs_235_33, ↓zs_235_34, ↓zs_235_37, ↓zs_235_39, ↓zs_235_40, ↓zs_235_41, ↓zs_235_42, ↓zs_235_43, ↓zs_235_44, ↓zs_235_47, ↓zs_235_50, ↓zs_235_51, zx_pu_s, zx_pu_n, zx_rv_s, zx_rv_n, true_and, and_true, true_or, or_true, zb_0, zb_1, zq_lcl, zq_lcg, zq_lce, eq_self, ite_true, ite_false, zk_138, zw_138, zk_139, zw_139, zk_140, zw_140, zk_141, zw_141, zk_142, zw_142, zk_143, zw_143, zk_144, zw_144, zk_145, zw_145, zk_146, zw_146, zk_147, zw_147, zk_148, zw_148, zk_149, zw_149, zk_150, zw_150, zk_151, zw_151, zk_152, zw_152, zq_138_1, zq_138_2, zq_138_3, zq_138_4, zq_138_16, zq_138_19, zq_138_20, zq_138_24, zq_138_25, zq_138_26, zq_138_27, zq_138_31, zq_138_32, zq_138_33, zn_10, zn_40, zn_040, zn_340, nI_add, zin_nI, nI_clamp, nI_ltI, nI_eq, pk_mul, nI_1, Nat.lt_irrefl, e3, hlt, h2, c1]
  obtain ⟨I2, f2, h2⟩ := loop (zn (I 139)) 0 zx_u0 (zx_u I 138 0 (nI 0)) (by omega) (zFs_0 _ _)
  refine ⟨I2, J, zScr_s f2, fun d P => ?_⟩
  rw [ze_235]
  simp only [↓zs_235_0, ↓zs_235_1, ↓zs_235_2, ↓zs_235_5, ↓zs_235_6, zx_pu_s, zx_pu_n, zx_rv_s, zx_rv_n, true_and, and_true, true_or, or_true, zb_0, zb_1, zq_lcl, zq_lcg, zq_lce, eq_self, ite_true, ite_false, zk_138, zw_138, zk_139, zw_139, zk_140, zw_140, zk_141, zw_141, zk_142, zw_142, zk_143, zw_143, zk_144, zw_144, zk_145, zw_145, zk_146, zw_146, zk_147, zw_147, zk_148, zw_148, zk_149, zw_149, zk_150, zw_150, zk_151, zw_151, zk_152, zw_152, zq_138_1, zq_138_2, zq_138_3, zq_138_4, zq_138_16, zq_138_19, zq_138_20, zq_138_24, zq_138_25, zq_138_26, zq_138_27, zq_138_31, zq_138_32, zq_138_33]
  exact h2 d P
theorem c_calm : zCq Lh 126 [] (fun B => .int (zf_calm B)) m := by
  intro I J v
  obtain ⟨⟨hw, hh, hN⟩, gr, g, ex, ok, N8, wh⟩ := zInv_k v
  have h1 : ∀ s, s < 8 → ∀ d P, zx_rn d 70 [.ref 11, .int (nI s)] (zx_LL Lh) I J P = P (some (.int (zB (!decide (I 139 (109 + s) = -1))))) (zx_LL Lh) I J := by
    intro s hs d P
    rw [sc_stands zx_st11 (.inr ⟨s, hs, rfl⟩)]
    unfold zf_st
    rw [decide_eq_false (by rw [zq_m1 (by omega)]; exact fun x => x), nI_clamp (by omega), (v.2.2.2.1.2 s hs).1]
    rfl
  have h2 : ∀ s, s < 8 → ∀ d P, zx_rn (d + 1) 71 [.ref 11, .int (nI s)] (zx_LL Lh) I J P = P (some (.int (zB (zf_hasFoe (I 139) s)))) (zx_LL Lh) I J := fun s hs d P => sc_hatesB zx_st11 hs v.2.2.2.1 ok
  have loop : ∀ mm s a, s + mm = zn (I 139) → ∀ d P, zx_wp (d + 30) 126 4 [.ref 0, .int (nI a), .int (nI s)] [] (zx_LL Lh) I J P = P (some (.int (nI (zf_bs (fun s => !decide (I 139 (109 + s) = -1) && !zf_hasFoe (I 139) s) mm s a)))) (zx_LL Lh) I J := by
    intro mm
    induction mm with
    | zero =>
      intro s a hs d P
      have hlt : ¬ s < zn (I 139) := by omega
      rw [zs_126_4]
      simp (disch := omega) only [↓zs_126_0, ↓zs_126_1, ↓zs_126_2, ↓zs_126_3, ↓zs_126_5, ↓zs_126_6, ↓zs_126_9, ↓zs_126_12, ↓zs_126_15, ↓zs_126_16, ↓zs_126_19, ↓zs_126_20, ↓zs_126_23, ↓zs_126_26, ↓zs_126_27, ↓zs_126_30, ↓zs_126_31, ↓zs_126_34, ↓zs_126_37, ↓zs_126_38, ↓zs_126_39, ↓zs_126_40, ↓zs_126_41, ↓zs_126_42, ↓zs_126_43, ↓zs_126_46, ↓zs_126_49, ↓zs_126_50, zx_pu_s, zx_pu_n, zx_rv_s, zx_rv_n, true_and, and_true, true_or, or_true, zb_0, zb_1, zq_lcl, zq_lcg, zq_lce, eq_self, ite_true, ite_false, zk_0, zw_0, zk_1, zw_1, zq_0_0, zq_0_1, zq_0_2, zq_0_3, zq_0_4, zq_0_5, zq_0_6, zq_0_7, zq_0_8, zq_0_9, zq_0_10, zq_0_11, zq_1_0, zq_1_1, zq_1_2, zq_1_3, zq_1_4, zq_1_5, zk_11, zw_11, zq_11_0, zq_11_1, zq_11_2, zn_10, zn_40, zn_040, zn_340, nI_add, zin_nI, nI_clamp, nI_ltI, nI_eq, pk_mul, nI_1, Nat.lt_irrefl, hN, hlt]
      rfl
    | succ mm ih =>
      intro s a hs d P
      have hlt : s < zn (I 139) := by omega
      rw [zs_126_4, zf_bs, ← ih (s + 1) _ (by omega) d P]
      have g1 := h1 s (by omega)
      have g2 := h2 s (by omega)
      cases c1 : decide (I 139 (109 + s) = -1) <;> cases c2 : zf_hasFoe (I 139) s <;> simp (disch := omega) only [↓zs_126_0, ↓zs_126_1, ↓zs_126_2, ↓zs_126_3, ↓zs_126_5, ↓zs_126_6, ↓zs_126_9, ↓zs_126_12, ↓zs_126_15, ↓zs_126_16, ↓zs_126_19, ↓zs_126_20, ↓zs_126_23, ↓zs_126_26, ↓zs_126_27, ↓zs_126_30, ↓zs_126_31, ↓zs_126_34, ↓zs_126_37, ↓zs_126_38, ↓zs_126_39, ↓zs_126_40, ↓zs_126_41, ↓zs_126_42, ↓zs_126_43, ↓zs_126_46, ↓zs_126_49, ↓zs_126_50, zx_pu_s, zx_pu_n, zx_rv_s, zx_rv_n, true_and, and_true, true_or, or_true, zb_0, zb_1, zq_lcl, zq_lcg, zq_lce, eq_self, ite_true, ite_false, zk_0, zw_0, zk_1, zw_1, zq_0_0, zq_0_1, zq_0_2, zq_0_3, zq_0_4, zq_0_5, zq_0_6, zq_0_7, zq_0_8, zq_0_9, zq_0_10, zq_0_11, zq_1_0, zq_1_1, zq_1_2, zq_1_3, zq_1_4, zq_1_5, zk_11, zw_11, zq_11_0, zq_11_1, zq_11_2, zn_10, zn_40, zn_040, zn_340, nI_add, zin_nI, nI_clamp, nI_ltI, nI_eq, pk_mul, nI_1, Nat.lt_irrefl, hN, hlt, g1, g2, c1, c2, zB_0, reduceCtorEq, Bool.not_true, Bool.not_false, Bool.and_true, Bool.and_false, zq_shl1, zq_orI, if_true, if_false]
  refine ⟨I, J, zScr_r I J, fun d P => ?_⟩
  rw [ze_126]
  simp only [↓zs_126_0, ↓zs_126_1, ↓zs_126_2, ↓zs_126_3, zx_pu_s, zx_pu_n, zx_rv_s, zx_rv_n, true_and, and_true, true_or, or_true, zb_0, zb_1, zq_lcl, zq_lcg, zq_lce, eq_self, ite_true, ite_false]
  exact loop _ 0 0 (by omega) d P
theorem m_calm : zMq Lh 239 [] (fun B => .int (zf_calm B)) m := by
  intro I J v
  obtain ⟨⟨hw, hh, hN⟩, gr, g, ex, ok, N8, wh⟩ := zInv_k v
  have ok2 : zM_ok (zx_u I 138 0 (nI 0) 139) (zw (I 139)) (zh (I 139)) (zn (I 139)) := by rw [zu_139]; exact ok
  have h1 : ∀ s, s < 8 → ∀ d P, zx_rn d 186 [.ref 138, .int (nI s)] (zx_LL Lh) (zx_u I 138 0 (nI 0)) J P = P (some (.int (zB (!decide (I 139 (109 + s) = -1))))) (zx_LL Lh) (zx_u I 138 0 (nI 0)) J := by
    intro s hs d P
    rw [sp_stands s hs, zu_139]
  have h2 : ∀ s, s < 8 → ∀ d P, zx_rn (d + 1) 188 [.ref 138, .int (nI s)] (zx_LL Lh) (zx_u I 138 0 (nI 0)) J P = P (some (.int (zB (zf_hasFoe (I 139) s)))) (zx_LL Lh) (zx_u I 138 0 (nI 0)) J := by
    intro s hs d P
    rw [sp_hasFoe hs (zM_foe ok2 hs), zu_139]
  have loop : ∀ mm s a, s + mm = zn (I 139) → ∀ d P, zx_wp (d + 30) 239 9 [.ref 138, .int (nI a), .int (nI s)] [] (zx_LL Lh) (zx_u I 138 0 (nI 0)) J P = P (some (.int (nI (zf_bs (fun s => !decide (I 139 (109 + s) = -1) && !zf_hasFoe (I 139) s) mm s a)))) (zx_LL Lh) (zx_u I 138 0 (nI 0)) J := by
    intro mm
    induction mm with
    | zero =>
      intro s a hs d P
      have hlt : ¬ s < zn (I 139) := by omega
      rw [zs_239_9]
      simp (disch := omega) only [↓zs_239_0, ↓zs_239_1, ↓zs_239_2, ↓zs_239_5, ↓zs_239_6, ↓zs_239_7, ↓zs_239_8, ↓zs_239_10, ↓zs_239_11, ↓zs_239_14, ↓zs_239_15, ↓zs_239_16, ↓zs_239_19, ↓zs_239_20, ↓zs_239_21, ↓zs_239_22, ↓zs_239_25, ↓zs_239_28, ↓zs_239_29, ↓zs_239_30, ↓zs_239_33, ↓zs_239_36, ↓zs_239_37, ↓zs_239_38, ↓zs_239_39, ↓zs_239_42, ↓zs_239_43, ↓zs_239_44, ↓zs_239_45, ↓zs_239_48, ↓zs_239_51, ↓zs_239_52, zx_pu_s, zx_pu_n, zx_rv_s, zx_rv_n, true_and, and_true, true_or, or_true, zb_0, zb_1, zq_lcl, zq_lcg, zq_lce, eq_self, ite_true, ite_false, zk_138, zw_138, zk_139, zw_139, zk_140, zw_140, zk_141, zw_141, zk_142, zw_142, zk_143, zw_143, zk_144, zw_144, zk_145, zw_145, zk_146, zw_146, zk_147, zw_147, zk_148, zw_148, zk_149, zw_149, zk_150, zw_150, zk_151, zw_151, zk_152, zw_152, zq_138_1, zq_138_2, zq_138_3, zq_138_4, zq_138_16, zq_138_19, zq_138_20, zq_138_24, zq_138_25, zq_138_26, zq_138_27, zq_138_31, zq_138_32, zq_138_33, zn_10, zn_40, zn_040, zn_340, nI_add, zin_nI, nI_clamp, nI_ltI, nI_eq, pk_mul, nI_1, Nat.lt_irrefl, zu_139, ok.1.2.2.1, hlt]
      rfl
    | succ mm ih =>
      intro s a hs d P
      have hlt : s < zn (I 139) := by omega
      rw [zs_239_9, zf_bs, ← ih (s + 1) _ (by omega) d P]
      have g1 := h1 s (by omega)
      have g2 := h2 s (by omega)
      cases c1 : decide (I 139 (109 + s) = -1) <;> cases c2 : zf_hasFoe (I 139) s <;> simp (disch := omega) only [↓zs_239_0, ↓zs_239_1, ↓zs_239_2, ↓zs_239_5, ↓zs_239_6, ↓zs_239_7, ↓zs_239_8, ↓zs_239_10, ↓zs_239_11, ↓zs_239_14, ↓zs_239_15, ↓zs_239_16, ↓zs_239_19, ↓zs_239_20, ↓zs_239_21, ↓zs_239_22, ↓zs_239_25, ↓zs_239_28, ↓zs_239_29, ↓zs_239_30, ↓zs_239_33, ↓zs_239_36, ↓zs_239_37, ↓zs_239_38, ↓zs_239_39, ↓zs_239_42, ↓zs_239_43, ↓zs_239_44, ↓zs_239_45, ↓zs_239_48, ↓zs_239_51, ↓zs_239_52, zx_pu_s, zx_pu_n, zx_rv_s, zx_rv_n, true_and, and_true, true_or, or_true, zb_0, zb_1, zq_lcl, zq_lcg, zq_lce, eq_self, ite_true, ite_false, zk_138, zw_138, zk_139, zw_139, zk_140, zw_140, zk_141, zw_141, zk_142, zw_142, zk_143, zw_143, zk_144, zw_144, zk_145, zw_145, zk_146, zw_146, zk_147, zw_147, zk_148, zw_148, zk_149, zw_149, zk_150, zw_150, zk_151, zw_151, zk_152, zw_152, zq_138_1, zq_138_2, zq_138_3, zq_138_4, zq_138_16, zq_138_19, zq_138_20, zq_138_24, zq_138_25, zq_138_26, zq_138_27, zq_138_31, zq_138_32, zq_138_33, zn_10, zn_40, zn_040, zn_340, nI_add, zin_nI, nI_clamp, nI_ltI, nI_eq, pk_mul, nI_1, Nat.lt_irrefl, zu_139, ok.1.2.2.1, hlt, g1, g2, c1, c2, zB_0, reduceCtorEq, Bool.not_true, Bool.not_false, Bool.and_true, Bool.and_false, zq_shl1, zq_orI, Nat.or_zero, if_true, if_false]
  refine ⟨zx_u I 138 0 (nI 0), J, zScr_s (zFs_0 _ _), fun d P => ?_⟩
  rw [ze_239]
  simp only [↓zs_239_0, ↓zs_239_1, ↓zs_239_2, ↓zs_239_5, ↓zs_239_6, ↓zs_239_7, ↓zs_239_8, zx_pu_s, zx_pu_n, zx_rv_s, zx_rv_n, true_and, and_true, true_or, or_true, zb_0, zb_1, zq_lcl, zq_lcg, zq_lce, eq_self, ite_true, ite_false, zk_138, zw_138, zk_139, zw_139, zk_140, zw_140, zk_141, zw_141, zk_142, zw_142, zk_143, zw_143, zk_144, zw_144, zk_145, zw_145, zk_146, zw_146, zk_147, zw_147, zk_148, zw_148, zk_149, zw_149, zk_150, zw_150, zk_151, zw_151, zk_152, zw_152, zq_138_1, zq_138_2, zq_138_3, zq_138_4, zq_138_16, zq_138_19, zq_138_20, zq_138_24, zq_138_25, zq_138_26, zq_138_27, zq_138_31, zq_138_32, zq_138_33]
  exact loop _ 0 0 (by omega) d P
theorem q_pair {I : zx_MI} {J : zx_MJ} (v : zInv I J m) : zQ Lh 123 235 [] I J := zQ_mk c_pair m_pair v
theorem q_calm {I : zx_MI} {J : zx_MJ} (v : zInv I J m) : zQ Lh 126 239 [] I J := zQ_mk c_calm m_calm v
end PC
