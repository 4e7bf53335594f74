/-! step: the first of the ways -/
theorem zf_lo_lt {p : Nat → Bool} : ∀ m n j, n ≤ j → j < zf_lo p m n → j < n + m → p j = false := by
  intro m
  induction m with
  | zero => intro n j h1 _ h3; omega
  | succ m ih =>
    intro n j h1 h2 h3
    rw [zf_lo] at h2
    by_cases c : p n = true
    · rw [if_pos c] at h2; omega
    · rw [if_neg c] at h2
      by_cases e : j = n
      · subst e; exact Bool.not_eq_true _ ▸ c
      · exact ih (n + 1) j (by omega) h2 (by omega)
theorem zt_low_lt {b : Int64} {j : Nat} (h : j < zf_low b) (h64 : j < 64) : zf_bit b j = false := zf_lo_lt 64 0 j (by omega) h (by omega)
/-- j NIGHTS ahead of the end: where one may be -/
def zf_H (B : Nat → Int32) (t n : Nat) : Nat → Int64
  | 0 => zf_one t
  | j + 1 => zf_bes (zw B) (zh B) (zf_H B t n j &&& zf_opn B (n - 1 - j))
def zf_ch2 (B : Nat → Int32) (t n p i : Nat) : Int64 := zf_bes (zw B) (zh B) (zf_one p) &&& zf_opn B i &&& zf_H B t n (n - (i + 1))
def zf_atw (B : Nat → Int32) (q t n : Nat) : Nat → Nat
  | 0 => q
  | i + 1 => zf_low (zf_ch2 B t n (zf_atw B q t n i) i)
theorem zf_H_sub {B : Nat → Int32} {t n : Nat} (ht : t < zw B * zh B) (h64 : zw B * zh B ≤ 64) : ∀ j, zf_sub (zw B) (zh B) (zf_H B t n j) := by
  intro j
  cases j with
  | zero => exact zf_one_sub ht (by omega)
  | succ j => exact zf_bes_sub
theorem zf_sub_and {w h : Nat} {a b : Int64} (s : zf_sub w h a) : zf_sub w h (a &&& b) := by
  intro j hj e
  rw [zt_and, Bool.and_eq_true] at e
  exact s j hj e.1
theorem zf_go_H {B : Nat → Int32} {q t n : Nat} (ht : t < zw B * zh B) (h64 : zw B * zh B ≤ 64) (hg : zf_bit (zf_go B q n) t = true) : ∀ j, j ≤ n → ∃ x, x < 64 ∧ zf_bit (zf_go B q (n - j)) x = true ∧ zf_bit (zf_H B t n j) x = true := by
  intro j
  induction j with
  | zero =>
    intro _
    refine ⟨t, by omega, by rw [Nat.sub_zero]; exact hg, ?_⟩
    show zf_bit (zf_one t) t = true
    rw [zt_one (by omega) (by omega)]
    exact decide_eq_true rfl
  | succ j ih =>
    intro hj
    obtain ⟨x, hx, h1, h2⟩ := ih (by omega)
    rw [show n - j = (n - (j + 1)) + 1 by omega] at h1
    unfold zf_go at h1
    rw [zt_and, Bool.and_eq_true] at h1
    obtain ⟨s, hs, g1, g2⟩ := (zt_bes hx).mp h1.1
    refine ⟨s, hs, g1, ?_⟩
    show zf_bit (zf_bes (zw B) (zh B) (zf_H B t n j &&& zf_opn B (n - 1 - j))) s = true
    rw [zt_bes hs]
    refine ⟨x, hx, ?_, by rw [zf_adj_s]; exact g2⟩
    rw [zt_and, h2, show n - 1 - j = n - (j + 1) by omega, h1.2]
    rfl
theorem zf_atw_ok {B : Nat → Int32} {q t n : Nat} (hq : q < zw B * zh B) (ht : t < zw B * zh B) (h64 : zw B * zh B ≤ 64) (hg : zf_bit (zf_go B q n) t = true) : ∀ i, i ≤ n → zf_atw B q t n i < zw B * zh B ∧ zf_bit (zf_H B t n (n - i)) (zf_atw B q t n i) = true ∧ (i < n → zf_ch2 B t n (zf_atw B q t n i) i ≠ lN 0) := by
  have more : ∀ i, zf_atw B q t n i < zw B * zh B → zf_bit (zf_H B t n (n - i)) (zf_atw B q t n i) = true → i < n → zf_ch2 B t n (zf_atw B q t n i) i ≠ lN 0 := by
    intro i h1 h2 hi e
    rw [show n - i = (n - (i + 1)) + 1 by omega] at h2
    have h3 : zf_bit (zf_bes (zw B) (zh B) (zf_H B t n (n - (i + 1)) &&& zf_opn B (n - 1 - (n - (i + 1))))) (zf_atw B q t n i) = true := h2
    obtain ⟨x, hx, g1, g2⟩ := (zt_bes (by omega)).mp h3
    rw [zt_and, Bool.and_eq_true, show n - 1 - (n - (i + 1)) = i by omega] at g1
    have g3 := (zt_eq0 _).mp e x hx
    unfold zf_ch2 at g3
    rw [zt_and, zt_and, g1.1, g1.2, Bool.and_true, Bool.and_true] at g3
    have g4 : zf_bit (zf_bes (zw B) (zh B) (zf_one (zf_atw B q t n i))) x = true := by
      rw [zt_bes hx]
      refine ⟨zf_atw B q t n i, by omega, ?_, by rw [zf_adj_s]; exact g2⟩
      rw [zt_one (by omega) (by omega)]
      exact decide_eq_true rfl
    rw [g3] at g4
    exact Bool.noConfusion g4
  intro i
  induction i with
  | zero =>
    intro _
    obtain ⟨x, hx, g1, g2⟩ := zf_go_H ht h64 hg n (Nat.le_refl _)
    rw [Nat.sub_self] at g1
    have g3 : zf_bit (zf_one q) x = true := g1
    rw [zt_one (by omega) hx, decide_eq_true_iff] at g3
    subst g3
    have h2 : zf_bit (zf_H B t n (n - 0)) (zf_atw B x t n 0) = true := g2
    exact ⟨hq, h2, fun hi => more 0 hq h2 hi⟩
  | succ i ih =>
    intro hi
    obtain ⟨h1, h2, h3⟩ := ih (by omega)
    obtain ⟨g1, g2, -⟩ := zt_low (h3 (by omega))
    have e : zf_atw B q t n (i + 1) = zf_low (zf_ch2 B t n (zf_atw B q t n i) i) := rfl
    rw [← e] at g1 g2
    have g2' := g2
    unfold zf_ch2 at g2'
    rw [zt_and, zt_and, Bool.and_eq_true, Bool.and_eq_true] at g2'
    have a1 := zf_opn_sub B i _ g1 g2'.1.2
    exact ⟨a1, g2'.2, fun hi2 => more (i + 1) a1 g2'.2 hi2⟩
/-- a number below mm, told as an int that goes down to −1 -/
def zf_iv (mm : Nat) : Int32 := if mm = 0 then -1 else nI (mm - 1)
theorem zf_iv_p (mm : Nat) : nI mm + -1 = zf_iv mm := by
  unfold zf_iv
  split
  · rename_i e; subst e; decide
  · rw [show mm = (mm - 1) + 1 by omega, ← nI_add, Int32.add_assoc, show nI 1 + -1 = (0 : Int32) by decide, Int32.add_zero, Nat.add_sub_cancel]
theorem zf_iv_s (mm : Nat) : nI mm - nI 1 = zf_iv mm := by
  rw [← zf_iv_p, Int32.sub_eq_add_neg]
  rfl
section ST
variable {Lh m : Nat} {I : zx_MI} {B : Nat → Int32}
theorem sc_behind {J : zx_MJ} {q t n k : Nat} (z : zLc I J B) (v : zV B m) (hq : q < zw B * zh B) (ht : t < zw B * zh B) (hn : n ≤ 40) (hk : k ≤ n) (hg : zf_bit (zf_go B q n) t = true) : ∃ J2, (∀ a, a ≠ 76 → J2 a = J a) ∧ ∀ d P, zx_rn (d + 2) 98 [.ref 70, .ref 1, .int (nI q), .int (nI t), .int (nI n), .int (nI k)] (zx_LL Lh) I J P = P (some (.int (nI (zf_atw B q t n k)))) (zx_LL Lh) I J2 := by
  have w0 : 0 < zw B := Nat.pos_of_ne_zero (fun e => by rw [e, Nat.zero_mul] at hq; omega)
  have h64 : zw B * zh B ≤ 64 := Nat.mul_le_mul v.1.1.2.2.2.1 v.1.1.2.2.2.2.1
  have t64 : t < 64 := by omega
  have lm1 : ((-1 : Int32) < nI 0) = True := eq_true (by decide)
  have back : ∀ mm (J1 : zx_MJ), mm ≤ n → (∀ a, a ≠ 76 → J1 a = J a) → (∀ i, mm ≤ i → i ≤ n → J1 76 i = zf_H B t n (n - i)) → ∃ J2, (∀ a, a ≠ 76 → J2 a = J a) ∧ (∀ i, i ≤ n → J2 76 i = zf_H B t n (n - i)) ∧ ∀ d P, zx_wp (d + 2) 98 30 [.ref 70, .ref 1, .int (nI q), .int (nI t), .int (nI n), .int (nI k), .int (zf_iv mm), zx_u0, zx_u0, zx_u0] [] (zx_LL Lh) I J1 P = zx_wp (d + 2) 98 70 [.ref 70, .ref 1, .int (nI q), .int (nI t), .int (nI n), .int (nI k), .int (-1), zx_u0, zx_u0, zx_u0] [] (zx_LL Lh) I J2 P := by
    intro mm
    induction mm with
    | zero =>
      intro J1 _ f g
      refine ⟨J1, f, fun i hi => g i (by omega) hi, fun d P => ?_⟩
      rw [show zf_iv 0 = -1 from rfl, zs_98_30]
      simp (disch := omega) only [↓zs_98_32, ↓zs_98_35, ↓zs_98_36, ↓zs_98_39, ↓zs_98_41, ↓zs_98_42, ↓zs_98_43, ↓zs_98_44, ↓zs_98_47, ↓zs_98_49, ↓zs_98_50, ↓zs_98_51, ↓zs_98_52, ↓zs_98_53, ↓zs_98_56, ↓zs_98_58, ↓zs_98_59, ↓zs_98_60, ↓zs_98_63, ↓zs_98_64, ↓zs_98_67, zx_pu_s, zx_pu_n, zx_rv_s, zx_rv_n, true_and, and_true, true_or, or_true, zb_0, zb_1, zq_lcl, zq_lcg, zq_lce, eq_self, ite_true, ite_false, lm1]
    | succ mm ih =>
      intro J1 hm f g
      have z1 : zLc I J1 B := zLc_f z (fun a ha => f a (by omega))
      have eo := z1.2.2 mm (by omega)
      have eh := g (mm + 1) (by omega) (by omega)
      have eH : zf_bes (zw B) (zh B) (zf_H B t n (n - (mm + 1)) &&& zf_opn B mm) = zf_H B t n (n - mm) := by
        rw [show n - mm = (n - (mm + 1)) + 1 by omega]
        show _ = zf_bes (zw B) (zh B) (zf_H B t n (n - (mm + 1)) &&& zf_opn B (n - 1 - (n - (mm + 1))))
        rw [show n - 1 - (n - (mm + 1)) = mm by omega]
      have hsp := fun d P => sc_spreadL (d := d) (Lh := Lh) (P := P) z1 v w0 (zf_sub_and (b := zf_opn B mm) (zf_H_sub (n := n) ht h64 (n - (mm + 1))))
      rw [eH] at hsp
      obtain ⟨J2, f2, g2, h2⟩ := ih (zx_u J1 76 mm (zf_H B t n (n - mm))) (by omega) (fun a ha => (zu_o ha).trans (f a ha)) (fun i h1 h2 => by
        by_cases e : i = mm
        · subst e; exact zu_s _ _ _ _
        · rw [zu_n (by omega)]; exact g i (by omega) h2)
      refine ⟨J2, f2, g2, fun d P => ?_⟩
      have iv : zf_iv (mm + 1) = nI mm := rfl
      rw [← h2 d P, iv, zs_98_30]
      simp (disch := omega) only [↓zs_98_32, ↓zs_98_35, ↓zs_98_36, ↓zs_98_39, ↓zs_98_41, ↓zs_98_42, ↓zs_98_43, ↓zs_98_44, ↓zs_98_47, ↓zs_98_49, ↓zs_98_50, ↓zs_98_51, ↓zs_98_52, ↓zs_98_53, ↓zs_98_56, ↓zs_98_58, ↓zs_98_59, ↓zs_98_60, ↓zs_98_63, ↓zs_98_64, ↓zs_98_67, zx_pu_s, zx_pu_n, zx_rv_s, zx_rv_n, true_and, and_true, true_or, or_true, zb_0, zb_1, zq_lcl, zq_lcg, zq_lce, eq_self, ite_true, ite_false, zk_1, zw_1, zq_1_0, zq_1_1, zq_1_2, zq_1_3, zq_1_4, zq_1_5, zk_70, zw_70, zk_71, zw_71, zk_72, zw_72, zk_73, zw_73, zk_74, zw_74, zk_75, zw_75, zk_76, zw_76, zq_70_0, zq_70_1, zq_70_2, zq_70_3, zq_70_4, zq_71_0, zq_71_1, zq_71_2, nI_ltI, zn_lt0, nI_add, zin_nI, nI_clamp, eo, eh, hsp, zf_iv_p]
  have fwd : ∀ mm i (J1 : zx_MJ) v8, i + mm = k → (∀ a, a ≠ 76 → J1 a = J a) → (∀ i, i ≤ n → J1 76 i = zf_H B t n (n - i)) → ∀ d P, zx_wp (d + 2) 98 76 [.ref 70, .ref 1, .int (nI q), .int (nI t), .int (nI n), .int (nI k), .int (nI (zf_atw B q t n i)), .int (nI i), v8, zx_u0] [] (zx_LL Lh) I J1 P = P (some (.int (nI (zf_atw B q t n k)))) (zx_LL Lh) I J1 := by
    intro mm
    induction mm with
    | zero =>
      intro i J1 v8 hi f g d P
      obtain rfl : i = k := by omega
      rw [zs_98_76]
      simp (disch := omega) only [↓zs_98_78, ↓zs_98_80, ↓zs_98_83, ↓zs_98_85, ↓zs_98_87, ↓zs_98_141, ↓zs_98_143, zx_pu_s, zx_pu_n, zx_rv_s, zx_rv_n, true_and, and_true, true_or, or_true, zb_0, zb_1, zq_lcl, zq_lcg, zq_lce, eq_self, ite_true, ite_false, nI_ltI, Nat.lt_irrefl]
    | succ mm ih =>
      intro i J1 v8 hi f g d P
      have c1 : i < k := by omega
      have c2 : i < n := by omega
      obtain ⟨a1, a2, a3⟩ := zf_atw_ok hq ht h64 hg i (by omega)
      have hne := a3 c2
      have z1 : zLc I J1 B := zLc_f z (fun a ha => f a (by omega))
      have eo := z1.2.2 i (by omega)
      have eh := g (i + 1) (by omega)
      have hsp : ∀ d P, zx_rn d 93 [.ref 70, .ref 1, .long (lN 1 <<< ((nI (zf_atw B q t n i)).toInt64 &&& 63))] (zx_LL Lh) I J1 P = P (some (.long (zf_bes (zw B) (zh B) (zf_one (zf_atw B q t n i))))) (zx_LL Lh) I J1 := fun d P => sc_spreadL (d := d) (Lh := Lh) (P := P) z1 v w0 (zf_one_sub a1 (by omega))
      have ec : zf_bes (zw B) (zh B) (zf_one (zf_atw B q t n i)) &&& zf_opn B i &&& zf_H B t n (n - (i + 1)) = zf_ch2 B t n (zf_atw B q t n i) i := rfl
      have hz := fun d P => zl_ntz (d := d) (L := zx_LL Lh) (I := I) (J := J1) (P := P) hne
      have hne' := eq_false hne
      have ea : zf_low (zf_ch2 B t n (zf_atw B q t n i) i) = zf_atw B q t n (i + 1) := rfl
      rw [ea] at hz
      rw [← ih (i + 1) J1 (.long (zf_ch2 B t n (zf_atw B q t n i) i)) (by omega) f g d P, zs_98_76]
      simp (disch := omega) only [↓zs_98_78, ↓zs_98_80, ↓zs_98_83, ↓zs_98_85, ↓zs_98_87, ↓zs_98_90, ↓zs_98_91, ↓zs_98_92, ↓zs_98_93, ↓zs_98_95, ↓zs_98_96, ↓zs_98_99, ↓zs_98_100, ↓zs_98_103, ↓zs_98_105, ↓zs_98_106, ↓zs_98_107, ↓zs_98_108, ↓zs_98_111, ↓zs_98_113, ↓zs_98_114, ↓zs_98_115, ↓zs_98_116, zx_pu_s, zx_pu_n, zx_rv_s, zx_rv_n, true_and, and_true, true_or, or_true, zb_0, zb_1, zq_lcl, zq_lcg, zq_lce, eq_self, ite_true, ite_false, zk_1, zw_1, zq_1_0, zq_1_1, zq_1_2, zq_1_3, zq_1_4, zq_1_5, zk_70, zw_70, zk_71, zw_71, zk_72, zw_72, zk_73, zw_73, zk_74, zw_74, zk_75, zw_75, zk_76, zw_76, zq_70_0, zq_70_1, zq_70_2, zq_70_3, zq_70_4, zq_71_0, zq_71_1, zq_71_2, nI_ltI, nI_add, zin_nI, nI_clamp, c1, c2, hsp, eo, eh, ec]
      simp (disch := omega) only [↓zs_98_117, ↓zs_98_119, ↓zs_98_121, ↓zs_98_122, ↓zs_98_123, ↓zs_98_126, ↓zs_98_127, ↓zs_98_128, ↓zs_98_130, ↓zs_98_133, ↓zs_98_135, ↓zs_98_138, zx_pu_s, zx_pu_n, zx_rv_s, zx_rv_n, true_and, and_true, true_or, or_true, zb_0, zb_1, zq_lcl, zq_lcg, zq_lce, eq_self, ite_true, ite_false, nI_add, hne', hz]
  obtain ⟨J2, f2, g2, h2⟩ := back n (zx_u J 76 n (zf_one t)) (Nat.le_refl _) (fun a ha => zu_o ha) (fun i h1 h2 => by
    obtain rfl : i = n := by omega
    rw [zu_s, Nat.sub_self]; rfl)
  refine ⟨J2, f2, fun d P => ?_⟩
  have h3 := fwd k 0 J2 zx_u0 (by omega) f2 g2 d P
  have n40 : ¬ 40 < n := by omega
  rw [← h3, ze_98]
  simp (disch := omega) only [↓zs_98_0, ↓zs_98_2, ↓zs_98_5, ↓zs_98_7, ↓zs_98_9, ↓zs_98_12, ↓zs_98_13, ↓zs_98_14, ↓zs_98_15, ↓zs_98_18, ↓zs_98_20, ↓zs_98_21, ↓zs_98_22, ↓zs_98_23, ↓zs_98_24, ↓zs_98_26, ↓zs_98_27, ↓zs_98_28, zx_pu_s, zx_pu_n, zx_rv_s, zx_rv_n, true_and, and_true, true_or, or_true, zb_0, zb_1, zq_lcl, zq_lcg, zq_lce, eq_self, ite_true, ite_false, zk_70, zw_70, zk_71, zw_71, zk_72, zw_72, zk_73, zw_73, zk_74, zw_74, zk_75, zw_75, zk_76, zw_76, zq_70_0, zq_70_1, zq_70_2, zq_70_3, zq_70_4, zq_71_0, zq_71_1, zq_71_2, nI_ltI, zn_lt0, n40, zin_nI, nI_clamp, zf_iv_s]
  refine Eq.trans (h2 d P) ?_
  simp (disch := omega) only [↓zs_98_70, ↓zs_98_71, ↓zs_98_73, ↓zs_98_74, zx_pu_s, zx_pu_n, zx_rv_s, zx_rv_n, true_and, and_true, true_or, or_true, zb_0, zb_1, zq_lcl, zq_lcg, zq_lce, eq_self, ite_true, ite_false]
  rfl
end ST
