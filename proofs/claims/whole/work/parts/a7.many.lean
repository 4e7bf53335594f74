/-! ways: how many there are -/
def zf_M (B : Nat → Int32) (q : Nat) : Nat → Nat → Int64
  | 0, k => if k = q then lN 1 else lN 0
  | n + 1, k => if zf_bit (zf_opn B n) k = true then zf_sm (zf_M B q n) (zf_bes (zw B) (zh B) (zf_one k)) 64 0 else lN 0
theorem zf_one_sub {w h k : Nat} (hk : k < w * h) (k64 : k < 64) : zf_sub w h (zf_one k) := by
  intro j hj e
  rw [zt_one k64 hj, decide_eq_true_iff] at e
  omega
theorem zLc_f {I : zx_MI} {J J2 : zx_MJ} {B : Nat → Int32} (z : zLc I J B) (e : ∀ a, a ≤ 75 → J2 a = J a) : zLc I J2 B := ⟨zW_f z.1 (fun j => congrFun (e 70 (by omega)) j), z.2.1, fun i hi => by rw [e 75 (by omega)]; exact z.2.2 i hi⟩
theorem zLm_f {I : zx_MI} {J J2 : zx_MJ} {B : Nat → Int32} {n : Nat} (z : zLm I J B n) (e : J2 146 = J 146) : zLm I J2 B n := ⟨z.1, z.2.1, fun i hi => by rw [e]; exact z.2.2 i hi⟩
section HM
variable {Lh m : Nat} {I : zx_MI} {B : Nat → Int32}
theorem sc_howMany {J : zx_MJ} {q t n : Nat} (z : zLc I J B) (v : zV B m) (hq : q < zw B * zh B) (ht : t < zw B * zh B) (hn : n ≤ 20) : ∃ J2, (∀ a, a ≠ 77 → a ≠ 78 → J2 a = J a) ∧ ∀ d P, zx_rn (d + 3) 96 [.ref 70, .ref 1, .int (nI q), .int (nI t), .int (nI n)] (zx_LL Lh) I J P = P (some (.long (zf_M B q n t))) (zx_LL Lh) I J2 := by
  have w0 : 0 < zw B := Nat.pos_of_ne_zero (fun e => by rw [e, Nat.zero_mul] at hq; omega)
  have h64 : zw B * zh B ≤ 64 := Nat.mul_le_mul v.1.1.2.2.2.1 v.1.1.2.2.2.2.1
  have e40 : Int32.ofNat 40 = nI 40 := rfl
  have c64 : (nI 64 < 0) = False := eq_false (by decide)
  have c0 : (nI 0 < 0) = False := eq_false (by decide)
  have c8 : (zx_cs [] ≤ 8) = True := eq_true (by decide)
  have q64 : q < 64 := by omega
  have t64 : t < 64 := by omega
  have loop1 : ∀ mm k (J1 : zx_MJ), k + mm = 64 → (∀ a, a ≠ 77 → J1 a = J a) → (∀ i, i < k → J1 77 i = lN 0) → ∃ J2, (∀ a, a ≠ 77 → J2 a = J a) ∧ (∀ i, i < 64 → J2 77 i = lN 0) ∧ ∀ d P, zx_wp (d + 3) 96 25 [.ref 70, .ref 1, .int (nI q), .int (nI t), .int (nI n), .int (nI k), zx_u0] [] (zx_LL Lh) I J1 P = zx_wp (d + 3) 96 46 [.ref 70, .ref 1, .int (nI q), .int (nI t), .int (nI n), .int (nI 64), zx_u0] [] (zx_LL Lh) I J2 P := by
    intro mm
    induction mm with
    | zero =>
      intro k J1 hk f g
      obtain rfl : k = 64 := by omega
      refine ⟨J1, f, g, fun d P => ?_⟩
      rw [zs_96_25]
      simp (disch := omega) only [↓zs_96_27, ↓zs_96_29, ↓zs_96_32, ↓zs_96_33, ↓zs_96_36, ↓zs_96_38, ↓zs_96_39, ↓zs_96_40, ↓zs_96_43, zx_pu_s, zx_pu_n, zx_rv_s, zx_rv_n, true_and, and_true, true_or, or_true, zb_0, zb_1, zq_lcl, zq_lcg, zq_lce, eq_self, ite_true, ite_false, nI_ltI, Nat.lt_irrefl]
    | succ mm ih =>
      intro k J1 hk f g
      have hlt : k < 64 := by omega
      obtain ⟨J2, f2, g2, h2⟩ := ih (k + 1) (zx_u J1 77 k (lN 0)) (by omega) (fun a ha => (zu_o ha).trans (f a ha)) (fun i hi => by
        by_cases e : i = k
        · subst e; exact zu_s _ _ _ _
        · rw [zu_n (by omega)]; exact g i (by omega))
      refine ⟨J2, f2, g2, fun d P => ?_⟩
      rw [← h2 d P, zs_96_25]
      simp (disch := omega) only [↓zs_96_27, ↓zs_96_29, ↓zs_96_32, ↓zs_96_33, ↓zs_96_36, ↓zs_96_38, ↓zs_96_39, ↓zs_96_40, ↓zs_96_43, zx_pu_s, zx_pu_n, zx_rv_s, zx_rv_n, true_and, and_true, true_or, or_true, zb_0, zb_1, zq_lcl, zq_lcg, zq_lce, eq_self, ite_true, ite_false, zk_70, zw_70, zk_71, zw_71, zk_72, zw_72, zk_73, zw_73, zk_74, zw_74, zk_75, zw_75, zk_76, zw_76, zk_77, zw_77, zq_70_0, zq_70_1, zq_70_2, zq_70_3, zq_70_4, zq_71_0, zq_71_1, zq_71_2, nI_ltI, nI_add, hlt, zin_nI, nI_clamp]
  have inner : ∀ i, i < n → ∀ J0 : zx_MJ, (∀ a, a ≠ 77 → a ≠ 78 → J0 a = J a) → (∀ k, k < 64 → J0 77 k = zf_M B q i k) → ∀ mm k (J1 : zx_MJ), k + mm = 64 → (∀ a, a ≠ 78 → J1 a = J0 a) → (∀ j, j < k → J1 78 j = zf_M B q (i + 1) j) → ∃ J2, (∀ a, a ≠ 78 → J2 a = J0 a) ∧ (∀ j, j < 64 → J2 78 j = zf_M B q (i + 1) j) ∧ ∀ d P, zx_wp (d + 3) 96 76 [.ref 70, .ref 1, .int (nI q), .int (nI t), .int (nI n), .int (nI i), .int (nI k)] [] (zx_LL Lh) I J1 P = zx_wp (d + 3) 96 130 [.ref 70, .ref 1, .int (nI q), .int (nI t), .int (nI n), .int (nI i), .int (nI 64)] [] (zx_LL Lh) I J2 P := by
    intro i hi J0 fJ0 gJ0 mm
    induction mm with
    | zero =>
      intro k J1 hk f g
      obtain rfl : k = 64 := by omega
      refine ⟨J1, f, g, fun d P => ?_⟩
      rw [zs_96_76]
      simp (disch := omega) only [↓zs_96_78, ↓zs_96_80, ↓zs_96_83, ↓zs_96_84, ↓zs_96_87, ↓zs_96_89, ↓zs_96_90, ↓zs_96_93, ↓zs_96_95, ↓zs_96_96, ↓zs_96_98, ↓zs_96_99, ↓zs_96_100, ↓zs_96_101, ↓zs_96_102, ↓zs_96_103, ↓zs_96_106, ↓zs_96_107, ↓zs_96_108, ↓zs_96_109, ↓zs_96_110, ↓zs_96_112, ↓zs_96_113, ↓zs_96_116, ↓zs_96_119, ↓zs_96_122, ↓zs_96_123, ↓zs_96_124, ↓zs_96_127, zx_pu_s, zx_pu_n, zx_rv_s, zx_rv_n, true_and, and_true, true_or, or_true, zb_0, zb_1, zq_lcl, zq_lcg, zq_lce, eq_self, ite_true, ite_false, nI_ltI, Nat.lt_irrefl]
    | succ mm ih =>
      intro k J1 hk f g
      have hlt : k < 64 := by omega
      have z1 : zLc I J1 B := zLc_f z (fun a ha => (f a (by omega)).trans (fJ0 a (by omega) (by omega)))
      have eo := z1.2.2 i (by omega)
      have eM : ∀ b, zf_sm (J1 77) b 64 0 = zf_sm (zf_M B q i) b 64 0 := fun b => zf_sm_o 64 0 (fun j _ h2 => ⟨rfl, fun _ => by rw [f 77 (by decide)]; exact gJ0 j (by omega)⟩)
      obtain ⟨J2, f2, g2, h2⟩ := ih (k + 1) (zx_u J1 78 k (zf_M B q (i + 1) k)) (by omega) (fun a ha => (zu_o ha).trans (f a ha)) (fun j hj => by
        by_cases e : j = k
        · subst e; exact zu_s _ _ _ _
        · rw [zu_n (by omega)]; exact g j (by omega))
      refine ⟨J2, f2, g2, fun d P => ?_⟩
      have lt40 : i < 40 := by omega
      rw [← h2 d P, zs_96_76]
      cases c : zf_bit (zf_opn B i) k with
      | false =>
        have em : zf_M B q (i + 1) k = lN 0 := by rw [zf_M, c, if_neg (by decide)]
        rw [em]
        simp (disch := omega) only [↓zs_96_78, ↓zs_96_80, ↓zs_96_83, ↓zs_96_84, ↓zs_96_87, ↓zs_96_89, ↓zs_96_90, ↓zs_96_93, ↓zs_96_95, ↓zs_96_96, ↓zs_96_98, ↓zs_96_99, ↓zs_96_100, ↓zs_96_101, ↓zs_96_102, ↓zs_96_103, ↓zs_96_106, ↓zs_96_107, ↓zs_96_108, ↓zs_96_109, ↓zs_96_110, ↓zs_96_112, ↓zs_96_113, ↓zs_96_116, ↓zs_96_119, ↓zs_96_122, ↓zs_96_123, ↓zs_96_124, ↓zs_96_127, zx_pu_s, zx_pu_n, zx_rv_s, zx_rv_n, true_and, and_true, true_or, or_true, zb_0, zb_1, zq_lcl, zq_lcg, zq_lce, eq_self, ite_true, ite_false, zk_70, zw_70, zk_71, zw_71, zk_72, zw_72, zk_73, zw_73, zk_74, zw_74, zk_75, zw_75, zk_76, zw_76, zk_77, zw_77, zk_78, zw_78, zq_70_0, zq_70_1, zq_70_2, zq_70_3, zq_70_4, zq_71_0, zq_71_1, zq_71_2, nI_ltI, nI_add, hlt, zin_nI, nI_clamp, eo, zt_ushr, c, reduceCtorEq]
      | true =>
        have kwh : k < zw B * zh B := zf_opn_sub B i k hlt c
        have em : zf_M B q (i + 1) k = zf_sm (zf_M B q i) (zf_bes (zw B) (zh B) (zf_one k)) 64 0 := by rw [zf_M, c, if_pos rfl]
        have hsp : ∀ d P, zx_rn d 93 [.ref 70, .ref 1, .long (lN 1 <<< ((nI k).toInt64 &&& 63))] (zx_LL Lh) I J1 P = P (some (.long (zf_bes (zw B) (zh B) (zf_one k)))) (zx_LL Lh) I J1 := fun d P => sc_spreadL (d := d) (Lh := Lh) (P := P) z1 v w0 (zf_one_sub kwh hlt)
        have hsu := sc_sumOver (Lh := Lh) (I := I) (J := J1) (zf_bes (zw B) (zh B) (zf_one k))
        rw [em]
        simp (disch := omega) only [↓zs_96_78, ↓zs_96_80, ↓zs_96_83, ↓zs_96_84, ↓zs_96_87, ↓zs_96_89, ↓zs_96_90, ↓zs_96_93, ↓zs_96_95, ↓zs_96_96, ↓zs_96_98, ↓zs_96_99, ↓zs_96_100, ↓zs_96_101, ↓zs_96_102, ↓zs_96_103, zx_pu_s, zx_pu_n, zx_rv_s, zx_rv_n, true_and, and_true, true_or, or_true, zb_0, zb_1, zq_lcl, zq_lcg, zq_lce, eq_self, ite_true, ite_false, zk_70, zw_70, zk_71, zw_71, zk_72, zw_72, zk_73, zw_73, zk_74, zw_74, zk_75, zw_75, zk_76, zw_76, zk_77, zw_77, zk_78, zw_78, zq_70_0, zq_70_1, zq_70_2, zq_70_3, zq_70_4, zq_71_0, zq_71_1, zq_71_2, nI_ltI, hlt, zin_nI, nI_clamp, eo, zt_ushr, c, reduceCtorEq, zl_10]
        simp (disch := omega) only [↓zs_96_106, ↓zs_96_107, ↓zs_96_108, ↓zs_96_109, ↓zs_96_110, ↓zs_96_112, ↓zs_96_113, ↓zs_96_116, ↓zs_96_119, ↓zs_96_122, ↓zs_96_123, ↓zs_96_124, ↓zs_96_127, zx_pu_s, zx_pu_n, zx_rv_s, zx_rv_n, true_and, and_true, true_or, or_true, zb_0, zb_1, zq_lcl, zq_lcg, zq_lce, eq_self, ite_true, ite_false, zk_1, zw_1, zq_1_0, zq_1_1, zq_1_2, zq_1_3, zq_1_4, zq_1_5, zk_70, zw_70, zk_71, zw_71, zk_72, zw_72, zk_73, zw_73, zk_74, zw_74, zk_75, zw_75, zk_76, zw_76, zk_77, zw_77, zk_78, zw_78, zq_70_0, zq_70_1, zq_70_2, zq_70_3, zq_70_4, zq_71_0, zq_71_1, zq_71_2, nI_add, hsp, hsu, eM, zin_nI, nI_clamp]
  have outer : ∀ mm i (J1 : zx_MJ) v6, i + mm = n → (∀ a, a ≠ 77 → a ≠ 78 → J1 a = J a) → (∀ k, k < 64 → J1 77 k = zf_M B q i k) → ∃ J2, (∀ a, a ≠ 77 → a ≠ 78 → J2 a = J a) ∧ ∀ d P, zx_wp (d + 3) 96 56 [.ref 70, .ref 1, .int (nI q), .int (nI t), .int (nI n), .int (nI i), v6] [] (zx_LL Lh) I J1 P = P (some (.long (zf_M B q n t))) (zx_LL Lh) I J2 := by
    intro mm
    induction mm with
    | zero =>
      intro i J1 v6 hi f g
      obtain rfl : i = n := by omega
      refine ⟨J1, f, fun d P => ?_⟩
      have e := g t t64
      rw [zs_96_56]
      simp (disch := omega) only [↓zs_96_58, ↓zs_96_60, ↓zs_96_63, ↓zs_96_65, ↓zs_96_66, ↓zs_96_69, ↓zs_96_70, ↓zs_96_73, ↓zs_96_74, ↓zs_96_151, ↓zs_96_152, ↓zs_96_155, ↓zs_96_156, ↓zs_96_157, zx_pu_s, zx_pu_n, zx_rv_s, zx_rv_n, true_and, and_true, true_or, or_true, zb_0, zb_1, zq_lcl, zq_lcg, zq_lce, eq_self, ite_true, ite_false, zk_70, zw_70, zk_71, zw_71, zk_72, zw_72, zk_73, zw_73, zk_74, zw_74, zk_75, zw_75, zk_76, zw_76, zk_77, zw_77, zq_70_0, zq_70_1, zq_70_2, zq_70_3, zq_70_4, zq_71_0, zq_71_1, zq_71_2, nI_ltI, Nat.lt_irrefl, zin_nI, nI_clamp, e]
    | succ mm ih =>
      intro i J1 v6 hi f g
      have c1 : i < n := by omega
      have c2 : i < 40 := by omega
      obtain ⟨J2, f2, g2, h2⟩ := inner i c1 J1 f g 64 0 J1 (by omega) (fun _ _ => rfl) (fun j hj => absurd hj (Nat.not_lt_zero j))
      obtain ⟨J3, f3, h3⟩ := ih (i + 1) (zx_cpy J2 78 77 0 0 64) (.int (nI 64)) (by omega) (fun a h1 h2 => by
        funext j
        show (if a = 77 ∧ 0 ≤ j ∧ j < 0 + 64 then J2 78 (0 + (j - 0)) else J2 a j) = _
        rw [if_neg (fun e => h1 e.1), f2 a h2, f a h1 h2]) (fun k hk => by
        show (if 77 = 77 ∧ 0 ≤ k ∧ k < 0 + 64 then J2 78 (0 + (k - 0)) else J2 77 k) = _
        rw [if_pos ⟨rfl, by omega, by omega⟩, Nat.zero_add, Nat.sub_zero]
        exact g2 k hk)
      refine ⟨J3, f3, fun d P => ?_⟩
      rw [← h3 d P, zs_96_56]
      simp (disch := omega) only [↓zs_96_58, ↓zs_96_60, ↓zs_96_63, ↓zs_96_65, ↓zs_96_66, ↓zs_96_69, ↓zs_96_70, ↓zs_96_73, ↓zs_96_74, zx_pu_s, zx_pu_n, zx_rv_s, zx_rv_n, true_and, and_true, true_or, or_true, zb_0, zb_1, zq_lcl, zq_lcg, zq_lce, eq_self, ite_true, ite_false, zk_70, zw_70, zk_71, zw_71, zk_72, zw_72, zk_73, zw_73, zk_74, zw_74, zk_75, zw_75, zq_70_0, zq_70_1, zq_70_2, zq_70_3, zq_70_4, zq_71_0, zq_71_1, zq_71_2, nI_ltI, e40, c1, c2, zn_340]
      rw [h2]
      simp (disch := omega) only [↓zs_96_130, ↓zs_96_131, ↓zs_96_134, ↓zs_96_135, ↓zs_96_136, ↓zs_96_139, ↓zs_96_140, ↓zs_96_142, ↓zs_96_145, ↓zs_96_148, zx_pu_s, zx_pu_n, zx_rv_s, zx_rv_n, true_and, and_true, true_or, or_true, zb_0, zb_1, zq_lcl, zq_lcg, zq_lce, eq_self, ite_true, ite_false, zk_70, zw_70, zk_71, zw_71, zk_72, zw_72, zk_73, zw_73, zk_74, zw_74, zk_75, zw_75, zk_76, zw_76, zk_77, zw_77, zk_78, zw_78, zq_70_0, zq_70_1, zq_70_2, zq_70_3, zq_70_4, zq_71_0, zq_71_1, zq_71_2, nI_add, c64, c0, c8, not_false_eq_true, nI_clamp, Nat.zero_add, Nat.le_refl]
  obtain ⟨J1, f1, g1, h1⟩ := loop1 64 0 J (by omega) (fun _ _ => rfl) (fun i hi => absurd hi (Nat.not_lt_zero i))
  obtain ⟨J2, f2, h2⟩ := outer n 0 (zx_u J1 77 q (lN 1)) zx_u0 (by omega) (fun a a1 a2 => (zu_o a1).trans (f1 a a1)) (fun k hk => by
    show _ = if k = q then lN 1 else lN 0
    by_cases e : k = q
    · subst e; rw [if_pos rfl, zu_s]
    · rw [if_neg e, zu_n (by omega)]; exact g1 k hk)
  refine ⟨J2, f2, fun d P => ?_⟩
  rw [← h2 d P, ze_96]
  simp (disch := omega) only [↓zs_96_0, ↓zs_96_1, ↓zs_96_4, ↓zs_96_5, ↓zs_96_7, ↓zs_96_10, ↓zs_96_11, ↓zs_96_14, ↓zs_96_15, ↓zs_96_17, ↓zs_96_20, ↓zs_96_21, ↓zs_96_22, ↓zs_96_23, zx_pu_s, zx_pu_n, zx_rv_s, zx_rv_n, true_and, and_true, true_or, or_true, zb_0, zb_1, zq_lcl, zq_lcg, zq_lce, eq_self, ite_true, ite_false, nI_ltI, zn_lt0, q64, t64]
  rw [h1]
  simp (disch := omega) only [↓zs_96_46, ↓zs_96_47, ↓zs_96_50, ↓zs_96_51, ↓zs_96_52, ↓zs_96_53, ↓zs_96_54, zx_pu_s, zx_pu_n, zx_rv_s, zx_rv_n, true_and, and_true, true_or, or_true, zb_0, zb_1, zq_lcl, zq_lcg, zq_lce, eq_self, ite_true, ite_false, zk_70, zw_70, zk_71, zw_71, zk_72, zw_72, zk_73, zw_73, zk_74, zw_74, zk_75, zw_75, zk_76, zw_76, zk_77, zw_77, zq_70_0, zq_70_1, zq_70_2, zq_70_3, zq_70_4, zq_71_0, zq_71_1, zq_71_2, zin_nI, nI_clamp]
theorem sp_howMany {J : zx_MJ} {q t n : Nat} (z : zLm I J B n) (v : zV B m) (hq : q < zw B * zh B) (ht : t < zw B * zh B) (hn : n ≤ 40) : ∃ J2, (∀ a, a ≠ 148 → a ≠ 149 → J2 a = J a) ∧ ∀ d P, zx_wp (d + 6) 247 68 [.ref 138, .int (nI q), .int (nI t), .int (nI n), zx_u0, zx_u0] [] (zx_LL Lh) I J P = P (some (.long (zf_M B q n t))) (zx_LL Lh) I J2 := by
  have w0 : 0 < zw B := Nat.pos_of_ne_zero (fun e => by rw [e, Nat.zero_mul] at hq; omega)
  have w8 := v.1.1.2.2.2.1
  have h8 := v.1.1.2.2.2.2.1
  have h64 : zw B * zh B ≤ 64 := Nat.mul_le_mul w8 h8
  have hw : I 139 1 = nI (zw B) := by rw [z.2.1]; exact v.1.1.1
  have hh : I 139 2 = nI (zh B) := by rw [z.2.1]; exact v.1.1.2.1
  have hst := fun d J P => sp_stones (d := d) (Lh := Lh) (I := I) (J := J) (P := P) hw hh
  have loop1 : ∀ mm k (J1 : zx_MJ), k + mm = zw B * zh B → (∀ a, a ≠ 148 → J1 a = J a) → (∀ i, i < k → J1 148 i = zf_M B q 0 i) → ∃ J2, (∀ a, a ≠ 148 → J2 a = J a) ∧ (∀ i, i < zw B * zh B → J2 148 i = zf_M B q 0 i) ∧ ∀ d P, zx_wp (d + 6) 247 71 [.ref 138, .int (nI q), .int (nI t), .int (nI n), .int (nI k), zx_u0] [] (zx_LL Lh) I J1 P = zx_wp (d + 6) 247 104 [.ref 138, .int (nI q), .int (nI t), .int (nI n), .int (nI (zw B * zh B)), zx_u0] [] (zx_LL Lh) I J2 P := by
    intro mm
    induction mm with
    | zero =>
      intro k J1 hk f g
      obtain rfl : k = zw B * zh B := by omega
      refine ⟨J1, f, g, fun d P => ?_⟩
      rw [zs_247_71]
      simp (disch := omega) only [↓zs_247_73, ↓zs_247_74, ↓zs_247_77, ↓zs_247_80, ↓zs_247_81, ↓zs_247_84, ↓zs_247_86, ↓zs_247_88, ↓zs_247_89, ↓zs_247_92, ↓zs_247_93, ↓zs_247_96, ↓zs_247_97, ↓zs_247_98, ↓zs_247_101, zx_pu_s, zx_pu_n, zx_rv_s, zx_rv_n, true_and, and_true, true_or, or_true, zb_0, zb_1, zq_lcl, zq_lcg, zq_lce, eq_self, ite_true, ite_false, zk_138, zw_138, zk_139, zw_139, zk_140, zw_140, zk_141, zw_141, zk_142, zw_142, zk_143, zw_143, zk_144, zw_144, zk_145, zw_145, zk_146, zw_146, zk_147, zw_147, zk_148, zw_148, zk_149, zw_149, zk_150, zw_150, zk_151, zw_151, zk_152, zw_152, zq_138_1, zq_138_2, zq_138_3, zq_138_4, zq_138_16, zq_138_19, zq_138_20, zq_138_24, zq_138_25, zq_138_26, zq_138_27, zq_138_31, zq_138_32, zq_138_33, nI_ltI, Nat.lt_irrefl, hst]
    | succ mm ih =>
      intro k J1 hk f g
      have hlt : k < zw B * zh B := by omega
      obtain ⟨J2, f2, g2, h2⟩ := ih (k + 1) (zx_u J1 148 k (zf_M B q 0 k)) (by omega) (fun a ha => (zu_o ha).trans (f a ha)) (fun i hi => by
        by_cases e : i = k
        · subst e; exact zu_s _ _ _ _
        · rw [zu_n (by omega)]; exact g i (by omega))
      refine ⟨J2, f2, g2, fun d P => ?_⟩
      rw [← h2 d P, zs_247_71]
      by_cases e : k = q
      · have em : zf_M B q 0 k = lN 1 := if_pos e
        have e' : (nI k = nI q) = True := eq_true (congrArg nI e)
        rw [em]
        simp (disch := omega) only [↓zs_247_73, ↓zs_247_74, ↓zs_247_77, ↓zs_247_80, ↓zs_247_81, ↓zs_247_84, ↓zs_247_86, ↓zs_247_88, ↓zs_247_89, ↓zs_247_92, ↓zs_247_93, ↓zs_247_96, ↓zs_247_97, ↓zs_247_98, ↓zs_247_101, zx_pu_s, zx_pu_n, zx_rv_s, zx_rv_n, true_and, and_true, true_or, or_true, zb_0, zb_1, zq_lcl, zq_lcg, zq_lce, eq_self, ite_true, ite_false, zk_138, zw_138, zk_139, zw_139, zk_140, zw_140, zk_141, zw_141, zk_142, zw_142, zk_143, zw_143, zk_144, zw_144, zk_145, zw_145, zk_146, zw_146, zk_147, zw_147, zk_148, zw_148, zk_149, zw_149, zk_150, zw_150, zk_151, zw_151, zk_152, zw_152, zq_138_1, zq_138_2, zq_138_3, zq_138_4, zq_138_16, zq_138_19, zq_138_20, zq_138_24, zq_138_25, zq_138_26, zq_138_27, zq_138_31, zq_138_32, zq_138_33, nI_ltI, nI_add, hlt, hst, e', zin_nI, nI_clamp]
      · have em : zf_M B q 0 k = lN 0 := if_neg e
        have e' : (nI k = nI q) = False := zq_ne e (by omega) (by omega)
        rw [em]
        simp (disch := omega) only [↓zs_247_73, ↓zs_247_74, ↓zs_247_77, ↓zs_247_80, ↓zs_247_81, ↓zs_247_84, ↓zs_247_86, ↓zs_247_88, ↓zs_247_89, ↓zs_247_92, ↓zs_247_93, ↓zs_247_96, ↓zs_247_97, ↓zs_247_98, ↓zs_247_101, zx_pu_s, zx_pu_n, zx_rv_s, zx_rv_n, true_and, and_true, true_or, or_true, zb_0, zb_1, zq_lcl, zq_lcg, zq_lce, eq_self, ite_true, ite_false, zk_138, zw_138, zk_139, zw_139, zk_140, zw_140, zk_141, zw_141, zk_142, zw_142, zk_143, zw_143, zk_144, zw_144, zk_145, zw_145, zk_146, zw_146, zk_147, zw_147, zk_148, zw_148, zk_149, zw_149, zk_150, zw_150, zk_151, zw_151, zk_152, zw_152, zq_138_1, zq_138_2, zq_138_3, zq_138_4, zq_138_16, zq_138_19, zq_138_20, zq_138_24, zq_138_25, zq_138_26, zq_138_27, zq_138_31, zq_138_32, zq_138_33, nI_ltI, nI_add, hlt, hst, e', zin_nI, nI_clamp]
  have inner : ∀ i, i < n → ∀ J0 : zx_MJ, (∀ a, a ≠ 148 → a ≠ 149 → J0 a = J a) → (∀ k, k < zw B * zh B → J0 148 k = zf_M B q i k) → ∀ mm k (J1 : zx_MJ), k + mm = zw B * zh B → (∀ a, a ≠ 149 → J1 a = J0 a) → (∀ j, j < k → J1 149 j = zf_M B q (i + 1) j) → ∃ J2, (∀ a, a ≠ 149 → J2 a = J0 a) ∧ (∀ j, j < zw B * zh B → J2 149 j = zf_M B q (i + 1) j) ∧ ∀ d P, zx_wp (d + 6) 247 116 [.ref 138, .int (nI q), .int (nI t), .int (nI n), .int (nI i), .int (nI k)] [] (zx_LL Lh) I J1 P = zx_wp (d + 6) 247 163 [.ref 138, .int (nI q), .int (nI t), .int (nI n), .int (nI i), .int (nI (zw B * zh B))] [] (zx_LL Lh) I J2 P := by
    intro i hi J0 fJ0 gJ0 mm
    induction mm with
    | zero =>
      intro k J1 hk f g
      obtain rfl : k = zw B * zh B := by omega
      refine ⟨J1, f, g, fun d P => ?_⟩
      rw [zs_247_116]
      simp (disch := omega) only [↓zs_247_118, ↓zs_247_119, ↓zs_247_122, ↓zs_247_125, ↓zs_247_126, ↓zs_247_129, ↓zs_247_131, ↓zs_247_132, ↓zs_247_135, ↓zs_247_137, ↓zs_247_138, ↓zs_247_140, ↓zs_247_143, ↓zs_247_146, ↓zs_247_147, ↓zs_247_149, ↓zs_247_152, ↓zs_247_155, ↓zs_247_156, ↓zs_247_157, ↓zs_247_160, zx_pu_s, zx_pu_n, zx_rv_s, zx_rv_n, true_and, and_true, true_or, or_true, zb_0, zb_1, zq_lcl, zq_lcg, zq_lce, eq_self, ite_true, ite_false, zk_138, zw_138, zk_139, zw_139, zk_140, zw_140, zk_141, zw_141, zk_142, zw_142, zk_143, zw_143, zk_144, zw_144, zk_145, zw_145, zk_146, zw_146, zk_147, zw_147, zk_148, zw_148, zk_149, zw_149, zk_150, zw_150, zk_151, zw_151, zk_152, zw_152, zq_138_1, zq_138_2, zq_138_3, zq_138_4, zq_138_16, zq_138_19, zq_138_20, zq_138_24, zq_138_25, zq_138_26, zq_138_27, zq_138_31, zq_138_32, zq_138_33, nI_ltI, Nat.lt_irrefl, hst]
    | succ mm ih =>
      intro k J1 hk f g
      have hlt : k < zw B * zh B := by omega
      have z1 : zLm I J1 B n := zLm_f z ((f 146 (by decide)).trans (fJ0 146 (by decide) (by decide)))
      have eo := z1.2.2 i hi
      obtain ⟨J2, f2, g2, h2⟩ := ih (k + 1) (zx_u J1 149 k (zf_M B q (i + 1) k)) (by omega) (fun a ha => (zu_o ha).trans (f a ha)) (fun j hj => by
        by_cases e : j = k
        · subst e; exact zu_s _ _ _ _
        · rw [zu_n (by omega)]; exact g j (by omega))
      refine ⟨J2, f2, g2, fun d P => ?_⟩
      rw [← h2 d P, zs_247_116]
      cases c : zf_bit (zf_opn B i) k with
      | false =>
        have em : zf_M B q (i + 1) k = lN 0 := by rw [zf_M, c, if_neg (by decide)]
        rw [em]
        simp (disch := omega) only [↓zs_247_118, ↓zs_247_119, ↓zs_247_122, ↓zs_247_125, ↓zs_247_126, ↓zs_247_129, ↓zs_247_131, ↓zs_247_132, ↓zs_247_135, ↓zs_247_137, ↓zs_247_138, ↓zs_247_140, ↓zs_247_143, ↓zs_247_146, ↓zs_247_147, ↓zs_247_149, ↓zs_247_152, ↓zs_247_155, ↓zs_247_156, ↓zs_247_157, ↓zs_247_160, zx_pu_s, zx_pu_n, zx_rv_s, zx_rv_n, true_and, and_true, true_or, or_true, zb_0, zb_1, zq_lcl, zq_lcg, zq_lce, eq_self, ite_true, ite_false, zk_138, zw_138, zk_139, zw_139, zk_140, zw_140, zk_141, zw_141, zk_142, zw_142, zk_143, zw_143, zk_144, zw_144, zk_145, zw_145, zk_146, zw_146, zk_147, zw_147, zk_148, zw_148, zk_149, zw_149, zk_150, zw_150, zk_151, zw_151, zk_152, zw_152, zq_138_1, zq_138_2, zq_138_3, zq_138_4, zq_138_16, zq_138_19, zq_138_20, zq_138_24, zq_138_25, zq_138_26, zq_138_27, zq_138_31, zq_138_32, zq_138_33, nI_ltI, nI_add, hlt, hst, zin_nI, nI_clamp, eo, sp_isIn, c, zB_0, reduceCtorEq]
      | true =>
        have em : zf_M B q (i + 1) k = zf_cm (J1 148) (zw B) (zh B) k := by
          rw [zf_M, c, if_pos rfl, ← zf_cm_eq w0 w8 h8 hlt]
          apply zf_sm_o
          intro j _ h2
          refine ⟨rfl, fun hb => ?_⟩
          rw [f 148 (by decide), gJ0 j (zf_bes_sub j (by omega) hb)]
        have hct := sp_comesTo (Lh := Lh) (I := I) (J := J1) z.1 hw hh w0 w8 h8 hlt
        rw [em]
        simp (disch := omega) only [↓zs_247_118, ↓zs_247_119, ↓zs_247_122, ↓zs_247_125, ↓zs_247_126, ↓zs_247_129, ↓zs_247_131, ↓zs_247_132, ↓zs_247_135, ↓zs_247_137, ↓zs_247_138, ↓zs_247_140, ↓zs_247_143, ↓zs_247_146, ↓zs_247_147, ↓zs_247_149, ↓zs_247_152, ↓zs_247_155, ↓zs_247_156, ↓zs_247_157, ↓zs_247_160, zx_pu_s, zx_pu_n, zx_rv_s, zx_rv_n, true_and, and_true, true_or, or_true, zb_0, zb_1, zq_lcl, zq_lcg, zq_lce, eq_self, ite_true, ite_false, zk_138, zw_138, zk_139, zw_139, zk_140, zw_140, zk_141, zw_141, zk_142, zw_142, zk_143, zw_143, zk_144, zw_144, zk_145, zw_145, zk_146, zw_146, zk_147, zw_147, zk_148, zw_148, zk_149, zw_149, zk_150, zw_150, zk_151, zw_151, zk_152, zw_152, zq_138_1, zq_138_2, zq_138_3, zq_138_4, zq_138_16, zq_138_19, zq_138_20, zq_138_24, zq_138_25, zq_138_26, zq_138_27, zq_138_31, zq_138_32, zq_138_33, nI_ltI, nI_add, hlt, hst, zin_nI, nI_clamp, eo, sp_isIn, c, zB_0, reduceCtorEq, hct]
  have copy : ∀ i, i < n → ∀ J0 : zx_MJ, (∀ a, a ≠ 148 → a ≠ 149 → J0 a = J a) → (∀ k, k < zw B * zh B → J0 149 k = zf_M B q (i + 1) k) → ∀ mm k (J1 : zx_MJ), k + mm = zw B * zh B → (∀ a, a ≠ 148 → J1 a = J0 a) → (∀ j, j < k → J1 148 j = zf_M B q (i + 1) j) → ∃ J2, (∀ a, a ≠ 148 → J2 a = J0 a) ∧ (∀ j, j < zw B * zh B → J2 148 j = zf_M B q (i + 1) j) ∧ ∀ d P, zx_wp (d + 6) 247 166 [.ref 138, .int (nI q), .int (nI t), .int (nI n), .int (nI i), .int (nI k)] [] (zx_LL Lh) I J1 P = zx_wp (d + 6) 247 195 [.ref 138, .int (nI q), .int (nI t), .int (nI n), .int (nI i), .int (nI (zw B * zh B))] [] (zx_LL Lh) I J2 P := by
    intro i hi J0 fJ0 gJ0 mm
    induction mm with
    | zero =>
      intro k J1 hk f g
      obtain rfl : k = zw B * zh B := by omega
      refine ⟨J1, f, g, fun d P => ?_⟩
      rw [zs_247_166]
      simp (disch := omega) only [↓zs_247_168, ↓zs_247_169, ↓zs_247_172, ↓zs_247_175, ↓zs_247_176, ↓zs_247_179, ↓zs_247_181, ↓zs_247_182, ↓zs_247_185, ↓zs_247_187, ↓zs_247_188, ↓zs_247_189, ↓zs_247_192, zx_pu_s, zx_pu_n, zx_rv_s, zx_rv_n, true_and, and_true, true_or, or_true, zb_0, zb_1, zq_lcl, zq_lcg, zq_lce, eq_self, ite_true, ite_false, zk_138, zw_138, zk_139, zw_139, zk_140, zw_140, zk_141, zw_141, zk_142, zw_142, zk_143, zw_143, zk_144, zw_144, zk_145, zw_145, zk_146, zw_146, zk_147, zw_147, zk_148, zw_148, zk_149, zw_149, zk_150, zw_150, zk_151, zw_151, zk_152, zw_152, zq_138_1, zq_138_2, zq_138_3, zq_138_4, zq_138_16, zq_138_19, zq_138_20, zq_138_24, zq_138_25, zq_138_26, zq_138_27, zq_138_31, zq_138_32, zq_138_33, nI_ltI, Nat.lt_irrefl, hst]
    | succ mm ih =>
      intro k J1 hk f g
      have hlt : k < zw B * zh B := by omega
      have e9 : J1 149 k = zf_M B q (i + 1) k := by rw [f 149 (by decide)]; exact gJ0 k hlt
      obtain ⟨J2, f2, g2, h2⟩ := ih (k + 1) (zx_u J1 148 k (zf_M B q (i + 1) k)) (by omega) (fun a ha => (zu_o ha).trans (f a ha)) (fun j hj => by
        by_cases e : j = k
        · subst e; exact zu_s _ _ _ _
        · rw [zu_n (by omega)]; exact g j (by omega))
      refine ⟨J2, f2, g2, fun d P => ?_⟩
      rw [← h2 d P, zs_247_166]
      simp (disch := omega) only [↓zs_247_168, ↓zs_247_169, ↓zs_247_172, ↓zs_247_175, ↓zs_247_176, ↓zs_247_179, ↓zs_247_181, ↓zs_247_182, ↓zs_247_185, ↓zs_247_187, ↓zs_247_188, ↓zs_247_189, ↓zs_247_192, zx_pu_s, zx_pu_n, zx_rv_s, zx_rv_n, true_and, and_true, true_or, or_true, zb_0, zb_1, zq_lcl, zq_lcg, zq_lce, eq_self, ite_true, ite_false, zk_138, zw_138, zk_139, zw_139, zk_140, zw_140, zk_141, zw_141, zk_142, zw_142, zk_143, zw_143, zk_144, zw_144, zk_145, zw_145, zk_146, zw_146, zk_147, zw_147, zk_148, zw_148, zk_149, zw_149, zk_150, zw_150, zk_151, zw_151, zk_152, zw_152, zq_138_1, zq_138_2, zq_138_3, zq_138_4, zq_138_16, zq_138_19, zq_138_20, zq_138_24, zq_138_25, zq_138_26, zq_138_27, zq_138_31, zq_138_32, zq_138_33, nI_ltI, nI_add, hlt, hst, zin_nI, nI_clamp, e9]
  have outer : ∀ mm i (J1 : zx_MJ) v5, i + mm = n → (∀ a, a ≠ 148 → a ≠ 149 → J1 a = J a) → (∀ k, k < zw B * zh B → J1 148 k = zf_M B q i k) → ∃ J2, (∀ a, a ≠ 148 → a ≠ 149 → J2 a = J a) ∧ ∀ d P, zx_wp (d + 6) 247 107 [.ref 138, .int (nI q), .int (nI t), .int (nI n), .int (nI i), v5] [] (zx_LL Lh) I J1 P = P (some (.long (zf_M B q n t))) (zx_LL Lh) I J2 := by
    intro mm
    induction mm with
    | zero =>
      intro i J1 v5 hi f g
      obtain rfl : i = n := by omega
      refine ⟨J1, f, fun d P => ?_⟩
      have e := g t ht
      rw [zs_247_107]
      simp (disch := omega) only [↓zs_247_109, ↓zs_247_110, ↓zs_247_113, ↓zs_247_114, ↓zs_247_201, ↓zs_247_202, ↓zs_247_205, ↓zs_247_206, ↓zs_247_207, zx_pu_s, zx_pu_n, zx_rv_s, zx_rv_n, true_and, and_true, true_or, or_true, zb_0, zb_1, zq_lcl, zq_lcg, zq_lce, eq_self, ite_true, ite_false, zk_138, zw_138, zk_139, zw_139, zk_140, zw_140, zk_141, zw_141, zk_142, zw_142, zk_143, zw_143, zk_144, zw_144, zk_145, zw_145, zk_146, zw_146, zk_147, zw_147, zk_148, zw_148, zk_149, zw_149, zk_150, zw_150, zk_151, zw_151, zk_152, zw_152, zq_138_1, zq_138_2, zq_138_3, zq_138_4, zq_138_16, zq_138_19, zq_138_20, zq_138_24, zq_138_25, zq_138_26, zq_138_27, zq_138_31, zq_138_32, zq_138_33, nI_ltI, Nat.lt_irrefl, zin_nI, nI_clamp, e]
    | succ mm ih =>
      intro i J1 v5 hi f g
      have c1 : i < n := by omega
      obtain ⟨J2, f2, g2, h2⟩ := inner i c1 J1 f g (zw B * zh B) 0 J1 (by omega) (fun _ _ => rfl) (fun j hj => absurd hj (Nat.not_lt_zero j))
      obtain ⟨J3, f3, g3, h3⟩ := copy i c1 J2 (fun a a1 a2 => (f2 a a2).trans (f a a1 a2)) g2 (zw B * zh B) 0 J2 (by omega) (fun _ _ => rfl) (fun j hj => absurd hj (Nat.not_lt_zero j))
      obtain ⟨J4, f4, h4⟩ := ih (i + 1) J3 (.int (nI (zw B * zh B))) (by omega) (fun a a1 a2 => (f3 a a1).trans ((f2 a a2).trans (f a a1 a2))) g3
      refine ⟨J4, f4, fun d P => ?_⟩
      rw [← h4 d P, zs_247_107]
      simp (disch := omega) only [↓zs_247_109, ↓zs_247_110, ↓zs_247_113, ↓zs_247_114, zx_pu_s, zx_pu_n, zx_rv_s, zx_rv_n, true_and, and_true, true_or, or_true, zb_0, zb_1, zq_lcl, zq_lcg, zq_lce, eq_self, ite_true, ite_false, nI_ltI, c1]
      rw [h2]
      simp (disch := omega) only [↓zs_247_163, ↓zs_247_164, zx_pu_s, zx_pu_n, zx_rv_s, zx_rv_n, true_and, and_true, true_or, or_true, zb_0, zb_1, zq_lcl, zq_lcg, zq_lce, eq_self, ite_true, ite_false]
      rw [h3]
      simp (disch := omega) only [↓zs_247_195, ↓zs_247_198, zx_pu_s, zx_pu_n, zx_rv_s, zx_rv_n, true_and, and_true, true_or, or_true, zb_0, zb_1, zq_lcl, zq_lcg, zq_lce, eq_self, ite_true, ite_false, nI_add]
  obtain ⟨J1, f1, g1, h1⟩ := loop1 (zw B * zh B) 0 J (by omega) (fun _ _ => rfl) (fun i hi => absurd hi (Nat.not_lt_zero i))
  obtain ⟨J2, f2, h2⟩ := outer n 0 J1 zx_u0 (by omega) (fun a a1 a2 => f1 a a1) g1
  refine ⟨J2, f2, fun d P => ?_⟩
  rw [← h2 d P]
  simp (disch := omega) only [↓zs_247_68, ↓zs_247_69, zx_pu_s, zx_pu_n, zx_rv_s, zx_rv_n, true_and, and_true, true_or, or_true, zb_0, zb_1, zq_lcl, zq_lcg, zq_lce, eq_self, ite_true, ite_false]
  rw [h1]
  simp (disch := omega) only [↓zs_247_104, ↓zs_247_105, zx_pu_s, zx_pu_n, zx_rv_s, zx_rv_n, true_and, and_true, true_or, or_true, zb_0, zb_1, zq_lcl, zq_lcg, zq_lce, eq_self, ite_true, ite_false]
end HM
