/-! the class's TOKENS -/
def zf_chn (t len : Nat) : List (Nat × Nat) → Nat → Bool
  | [], k => decide (k = len)
  | q :: r, k => decide (q.1 = k) && (List.range q.2).all (fun j => decide (zf_ch t (k + j) ≠ nI 32)) && decide (zf_ch t (k + q.2) = nI 32) && decide (k + q.2 < len) && zf_chn t len r (k + q.2 + 1)
theorem zf_chn_s {t len k : Nat} {q : Nat × Nat} {r : List (Nat × Nat)} (h : zf_chn t len (q :: r) k = true) : q.1 = k ∧ (∀ j, j < q.2 → zf_ch t (k + j) ≠ nI 32) ∧ zf_ch t (k + q.2) = nI 32 ∧ k + q.2 < len ∧ zf_chn t len r (k + q.2 + 1) = true := by
  rw [zf_chn, Bool.and_eq_true, Bool.and_eq_true, Bool.and_eq_true, Bool.and_eq_true, decide_eq_true_iff, decide_eq_true_iff, decide_eq_true_iff, List.all_eq_true] at h
  obtain ⟨⟨⟨⟨h1, h2⟩, h3⟩, h4⟩, h5⟩ := h
  exact ⟨h1, fun j hj => of_decide_eq_true (h2 j (List.mem_range.mpr hj)), h3, h4, h5⟩
/-- the letters from s + j on, mm of them, are those of a text from k + j on -/
def zf_ml (b : Nat → Nat) (s f t k : Nat) : Nat → Nat → Bool
  | 0, _ => true
  | mm + 1, j => (decide (s + j < f) && decide (zf_ch t (k + j) = nI (b (s + j)))) && zf_ml b s f t k mm (j + 1)
theorem zf_ml_t {b : Nat → Nat} {s f t k : Nat} : ∀ mm j, zf_ml b s f t k mm j = true ↔ ∀ i, j ≤ i → i < j + mm → s + i < f ∧ zf_ch t (k + i) = nI (b (s + i)) := by
  intro mm
  induction mm with
  | zero => intro j; exact ⟨fun _ i h1 h2 => by omega, fun _ => rfl⟩
  | succ mm ih =>
    intro j
    rw [zf_ml, Bool.and_eq_true, Bool.and_eq_true, decide_eq_true_iff, decide_eq_true_iff, ih]
    constructor
    · rintro ⟨h1, h2⟩ i a1 a2
      by_cases e : i = j
      · subst e; exact h1
      · exact h2 i (by omega) (by omega)
    · intro h
      exact ⟨h j (by omega) (by omega), fun i a1 a2 => h i (by omega) (by omega)⟩
theorem zf_ml_x {b : Nat → Nat} {s f t : Nat} {q : Nat × Nat} (hf : s ≤ f) : (zf_ml b s f t q.1 q.2 0 && decide (s + q.2 = f)) = decide (zf_x b s f = zf_wl t q) := by
  apply Bool.eq_iff_iff.mpr
  rw [Bool.and_eq_true, zf_ml_t, decide_eq_true_iff, decide_eq_true_iff, zf_x_eq hf]
  constructor
  · rintro ⟨h1, h2⟩
    exact ⟨h2.symm, fun j hj => (h1 j (by omega) (by omega)).2.symm⟩
  · rintro ⟨h1, h2⟩
    exact ⟨fun i _ a2 => ⟨by omega, (h2 i (by omega)).symm⟩, h1.symm⟩
/-- the class's text -/
def zTx (I : zx_MI) (b : Nat → Nat) (n : Nat) : Prop := n ≤ 900 ∧ I 84 1 = nI n ∧ ∀ i, i < n → b i < 256 ∧ I 85 i = (nI (b i)).toInt8.toInt32
theorem zTx_f {I I2 : zx_MI} {b : Nat → Nat} {n : Nat} (z : zTx I b n) (h : ∀ j, I2 85 j = I 85 j) (h1 : I2 84 1 = I 84 1) : zTx I2 b n := ⟨z.1, h1.trans z.2.1, fun i hi => ⟨(z.2.2 i hi).1, (h i).trans (z.2.2 i hi).2⟩⟩
theorem zf_c_lt {I : zx_MI} {b : Nat → Nat} {n : Nat} (z : zTx I b n) (i : Nat) : zf_c b n i < 257 := by
  unfold zf_c
  split
  · have := (z.2.2 i (by assumption)).1; omega
  · omega
theorem zf_enw_p {b : Nat → Nat} {n s : Nat} (hs : s ≤ n) : s ≤ zf_enw b n s ∧ zf_enw b n s ≤ n ∧ zf_al (zf_c b n (zf_enw b n s)) = false ∧ ∀ j, s ≤ j → j < zf_enw b n s → zf_al (zf_c b n j) = true := by
  obtain ⟨g1, g2⟩ := zf_lo_ge (p := fun i => !zf_al (zf_c b n i)) (n - s) s
  have e0 : zf_enw b n s = zf_lo (fun i => !zf_al (zf_c b n i)) (n - s) s := rfl
  rw [← e0] at g1 g2
  refine ⟨g1, by omega, ?_, fun j h1 h2 => ?_⟩
  · by_cases c : zf_enw b n s < n
    · have q := zf_lo_p (p := fun i => !zf_al (zf_c b n i)) (n - s) s (by rw [← e0]; omega)
      rw [← e0] at q
      exact Bool.not_eq_true' _ ▸ q
    · have e : zf_c b n (zf_enw b n s) = 256 := if_neg c
      rw [e]; decide
  · have q := zf_lo_lt (p := fun i => !zf_al (zf_c b n i)) (n - s) s j h1 (by rw [← e0]; exact h2) (by omega)
    exact Bool.not_eq_false' _ ▸ q
theorem zf_end2_p {b : Nat → Nat} {n s : Nat} (hs : s ≤ n) : s ≤ zf_end2 b n s ∧ zf_end2 b n s ≤ n ∧ zf_dg (zf_c b n (zf_end2 b n s)) = false ∧ ∀ j, s ≤ j → j < zf_end2 b n s → zf_dg (zf_c b n j) = true := by
  obtain ⟨g1, g2⟩ := zf_lo_ge (p := fun i => !zf_dg (zf_c b n i)) (n - s) s
  have e0 : zf_end2 b n s = zf_lo (fun i => !zf_dg (zf_c b n i)) (n - s) s := rfl
  rw [← e0] at g1 g2
  refine ⟨g1, by omega, ?_, fun j h1 h2 => ?_⟩
  · by_cases c : zf_end2 b n s < n
    · have q := zf_lo_p (p := fun i => !zf_dg (zf_c b n i)) (n - s) s (by rw [← e0]; omega)
      rw [← e0] at q
      exact Bool.not_eq_true' _ ▸ q
    · have e : zf_c b n (zf_end2 b n s) = 256 := if_neg c
      rw [e]; decide
  · have q := zf_lo_lt (p := fun i => !zf_dg (zf_c b n i)) (n - s) s j h1 (by rw [← e0]; exact h2) (by omega)
    exact Bool.not_eq_false' _ ▸ q
theorem zf_st0_p {b : Nat → Nat} {n s : Nat} (hs : s ≤ n) : s ≤ zf_st0 b n s ∧ zf_st0 b n s ≤ n ∧ zf_sp (zf_c b n (zf_st0 b n s)) = false ∧ ∀ j, s ≤ j → j < zf_st0 b n s → zf_sp (zf_c b n j) = true := by
  obtain ⟨g1, g2⟩ := zf_lo_ge (p := fun i => !zf_sp (zf_c b n i)) (n - s) s
  have e0 : zf_st0 b n s = zf_lo (fun i => !zf_sp (zf_c b n i)) (n - s) s := rfl
  rw [← e0] at g1 g2
  refine ⟨g1, by omega, ?_, fun j h1 h2 => ?_⟩
  · by_cases c : zf_st0 b n s < n
    · have q := zf_lo_p (p := fun i => !zf_sp (zf_c b n i)) (n - s) s (by rw [← e0]; omega)
      rw [← e0] at q
      exact Bool.not_eq_true' _ ▸ q
    · have e : zf_c b n (zf_st0 b n s) = 256 := if_neg c
      rw [e]; decide
  · have q := zf_lo_lt (p := fun i => !zf_sp (zf_c b n i)) (n - s) s j h1 (by rw [← e0]; exact h2) (by omega)
    exact Bool.not_eq_false' _ ▸ q
section TC
variable {Lh n : Nat} {b : Nat → Nat} {I : zx_MI} {J : zx_MJ}
theorem sc_byteAt {d i : Nat} {P : Option Value → zx_Lay → zx_MI → zx_MJ → Prop} (z : zTx I b n) (hi : i < 2 ^ 30) : zx_rn d 77 [.ref 84, .int (nI i)] (zx_LL Lh) I J P = P (some (.int (zf_cv (zf_c b n i)))) (zx_LL Lh) I J := by
  obtain ⟨z1, z2, z3⟩ := z
  have e900 : Int32.ofNat 900 = nI 900 := rfl
  have k1 : ((1 : Nat) = 1 ∨ (1 : Nat) = 2) = True := eq_true (.inl rfl)
  rw [ze_77]
  unfold zf_c
  by_cases c : i < n
  · obtain ⟨b1, b2⟩ := z3 i c
    have ev : zf_cv (b i) = (nI (b i)).toInt8.toInt32 := if_pos b1
    have c9 : i < 900 := by omega
    rw [if_pos c, ev]
    simp (disch := omega) only [↓zs_77_0, ↓zs_77_1, ↓zs_77_4, ↓zs_77_5, ↓zs_77_6, ↓zs_77_9, ↓zs_77_12, ↓zs_77_13, ↓zs_77_14, ↓zs_77_17, ↓zs_77_18, ↓zs_77_21, ↓zs_77_22, ↓zs_77_25, ↓zs_77_26, ↓zs_77_27, ↓zs_77_30, ↓zs_77_31, zx_pu_s, zx_pu_n, zx_rv_s, zx_rv_n, true_and, and_true, true_or, or_true, zb_0, zb_1, zq_lcl, zq_lcg, zq_lce, eq_self, ite_true, ite_false, zk_85, zw_85, zk_84, zw_84, zq_84_0, nI_ltI, zn_lt0, z2, c, c9, e900, k1, zin_nI, nI_clamp, b2, zn_1940, Nat.reduceLT]
  · rw [if_neg c]
    simp (disch := omega) only [↓zs_77_0, ↓zs_77_1, ↓zs_77_4, ↓zs_77_5, ↓zs_77_6, ↓zs_77_9, ↓zs_77_12, ↓zs_77_13, ↓zs_77_14, ↓zs_77_17, ↓zs_77_18, ↓zs_77_21, ↓zs_77_22, ↓zs_77_25, ↓zs_77_26, ↓zs_77_27, ↓zs_77_30, ↓zs_77_31, zx_pu_s, zx_pu_n, zx_rv_s, zx_rv_n, true_and, and_true, true_or, or_true, zb_0, zb_1, zq_lcl, zq_lcg, zq_lce, eq_self, ite_true, ite_false, zk_85, zw_85, zk_84, zw_84, zq_84_0, nI_ltI, zn_lt0, z2, c]
    rfl
/-- the class's word -/
theorem sc_word {s : Nat} (z : zTx I b n) (si : zx_SI I) (hs : s < n) (e2 : I 84 2 = nI s) (e3 : I 84 3 = nI s) : ∃ I2, (∀ a j, ¬ (a = 84 ∧ j = 2) → I2 a j = I a j) ∧ I2 84 2 = nI (zf_enw b n s) ∧ ∀ d P, zx_rn (d + 4) 81 [.ref 84] (zx_LL Lh) I J P = P (some (.int (zf_tkc (zf_wd b s (zf_enw b n s))))) (zx_LL Lh) I2 J := by
  obtain ⟨f1, f2, f3, f4⟩ := zf_enw_p (b := b) (n := n) (s := s) (by omega)
  have n9 := z.1
  have hl0 : zf_len 0 = 114 := by decide +kernel
  have k0 : (zx_LL Lh).1 5010 = (56, 0) := zk_txt (i := 0) (by omega)
  generalize hf : zf_enw b n s = f at *
  have loop : ∀ mm a i (I1 : zx_MI), a + mm = f → i + mm ≤ 900 → s ≤ a → (∀ a j, ¬ (a = 84 ∧ j = 2) → I1 a j = I a j) → I1 84 2 = nI a → ∃ I2, (∀ a j, ¬ (a = 84 ∧ j = 2) → I2 a j = I a j) ∧ I2 84 2 = nI f ∧ ∀ d P, zx_wp (d + 4) 81 2 [.ref 84, .int (nI i), zx_u0, zx_u0, zx_u0] [] (zx_LL Lh) I1 J P = zx_wp (d + 4) 81 51 [.ref 84, .int (nI (i + mm)), zx_u0, zx_u0, zx_u0] [] (zx_LL Lh) I2 J P := by
    intro mm
    induction mm with
    | zero =>
      intro a i I1 ha hi sa fr e
      obtain rfl : a = f := by omega
      refine ⟨I1, fr, e, fun d P => ?_⟩
      have z1 : zTx I1 b n := zTx_f z (fun j => fr 85 j (by omega)) (fr 84 1 (by omega))
      have hb := fun d P => sc_byteAt (d := d) (Lh := Lh) (J := J) (P := P) z1 (i := a) (by omega)
      obtain ⟨-, -, c3, -, -⟩ := zf_cv_f ⟨_, zf_c_lt z a⟩
      dsimp only at c3
      rw [zs_81_2]
      by_cases c9 : i < 900
      · rcases c3 f3 with q | ⟨q1, q2⟩
        · simp (disch := omega) only [↓zs_81_3, ↓zs_81_6, ↓zs_81_9, ↓zs_81_10, ↓zs_81_11, ↓zs_81_14, ↓zs_81_17, ↓zs_81_19, ↓zs_81_22, ↓zs_81_23, ↓zs_81_24, ↓zs_81_27, ↓zs_81_30, ↓zs_81_32, ↓zs_81_35, ↓zs_81_36, ↓zs_81_37, ↓zs_81_40, ↓zs_81_41, ↓zs_81_42, ↓zs_81_45, ↓zs_81_48, zx_pu_s, zx_pu_n, zx_rv_s, zx_rv_n, true_and, and_true, true_or, or_true, zb_0, zb_1, zq_lcl, zq_lcg, zq_lce, eq_self, ite_true, ite_false, zk_84, zw_84, zq_84_0, nI_ltI, c9, e, hb, q, Nat.add_zero]
        · simp (disch := omega) only [↓zs_81_3, ↓zs_81_6, ↓zs_81_9, ↓zs_81_10, ↓zs_81_11, ↓zs_81_14, ↓zs_81_17, ↓zs_81_19, ↓zs_81_22, ↓zs_81_23, ↓zs_81_24, ↓zs_81_27, ↓zs_81_30, ↓zs_81_32, ↓zs_81_35, ↓zs_81_36, ↓zs_81_37, ↓zs_81_40, ↓zs_81_41, ↓zs_81_42, ↓zs_81_45, ↓zs_81_48, zx_pu_s, zx_pu_n, zx_rv_s, zx_rv_n, true_and, and_true, true_or, or_true, zb_0, zb_1, zq_lcl, zq_lcg, zq_lce, eq_self, ite_true, ite_false, zk_84, zw_84, zq_84_0, nI_ltI, c9, e, hb, q1, q2, Nat.add_zero]
      · simp (disch := omega) only [↓zs_81_3, ↓zs_81_6, ↓zs_81_9, ↓zs_81_10, ↓zs_81_11, ↓zs_81_14, ↓zs_81_17, ↓zs_81_19, ↓zs_81_22, ↓zs_81_23, ↓zs_81_24, ↓zs_81_27, ↓zs_81_30, ↓zs_81_32, ↓zs_81_35, ↓zs_81_36, ↓zs_81_37, ↓zs_81_40, ↓zs_81_41, ↓zs_81_42, ↓zs_81_45, ↓zs_81_48, zx_pu_s, zx_pu_n, zx_rv_s, zx_rv_n, true_and, and_true, true_or, or_true, zb_0, zb_1, zq_lcl, zq_lcg, zq_lce, eq_self, ite_true, ite_false, nI_ltI, c9, Nat.add_zero]
    | succ mm ih =>
      intro a i I1 ha hi sa fr e
      have z1 : zTx I1 b n := zTx_f z (fun j => fr 85 j (by omega)) (fr 84 1 (by omega))
      have hb := fun d P => sc_byteAt (d := d) (Lh := Lh) (J := J) (P := P) z1 (i := a) (by omega)
      obtain ⟨-, c2, -, -, -⟩ := zf_cv_f ⟨_, zf_c_lt z a⟩
      obtain ⟨q1, q2, -⟩ := c2 (f4 a sa (by omega))
      dsimp only at q1 q2
      have c9 : i < 900 := by omega
      obtain ⟨I2, fr2, g2, h2⟩ := ih (a + 1) (i + 1) (zx_u I1 84 2 (nI (a + 1))) (by omega) (by omega) (by omega) (fun a j n => by rw [zu_n (by omega)]; exact fr a j n) (zu_s _ _ _ _)
      refine ⟨I2, fr2, g2, fun d P => ?_⟩
      rw [show i + (mm + 1) = i + 1 + mm by omega, ← h2 d P, zs_81_2]
      simp (disch := omega) only [↓zs_81_3, ↓zs_81_6, ↓zs_81_9, ↓zs_81_10, ↓zs_81_11, ↓zs_81_14, ↓zs_81_17, ↓zs_81_19, ↓zs_81_22, ↓zs_81_23, ↓zs_81_24, ↓zs_81_27, ↓zs_81_30, ↓zs_81_32, ↓zs_81_35, ↓zs_81_36, ↓zs_81_37, ↓zs_81_40, ↓zs_81_41, ↓zs_81_42, ↓zs_81_45, ↓zs_81_48, zx_pu_s, zx_pu_n, zx_rv_s, zx_rv_n, true_and, and_true, true_or, or_true, zb_0, zb_1, zq_lcl, zq_lcg, zq_lce, eq_self, ite_true, ite_false, zk_84, zw_84, zq_84_0, nI_ltI, nI_add, c9, e, hb, q1, q2]
  obtain ⟨I2, fr2, g2, h2⟩ := loop (f - s) s 0 I (by omega) (by omega) (Nat.le_refl _) (fun _ _ _ => rfl) e2
  have z2 : zTx I2 b n := zTx_f z (fun j => fr2 85 j (by omega)) (fr2 84 1 (by omega))
  have si2 : zx_SI I2 := fun a j ha => (fr2 a j (by omega)).trans (si a j ha)
  have g3 : I2 84 3 = nI s := (fr2 84 3 (by omega)).trans e3
  have hln := fun d P => zl_length (d := d) (Lh := Lh) (I := I2) (J := J) (P := P) (i := 0) si2 (by omega)
  rw [hl0] at hln
  have hch := fun j (hj : j < 114) d P => zl_charAt (d := d) (Lh := Lh) (I := I2) (J := J) (P := P) (i := 0) (j := j) si2 (by omega) (by rw [hl0]; exact hj)
  have o1 : zB true = nI 1 := rfl
  have o0 : zB false = nI 0 := rfl
  have z10 : (nI 1 = nI 0) = False := eq_false (by decide)
  -- one word of the text
  have key : ∀ w k L, k + L < 114 → w < 300 → (∀ j, j < L → zf_ch 0 (k + j) ≠ nI 32) → zf_ch 0 (k + L) = nI 32 → ∀ mm j l, j + mm = L → ∀ d P, zx_wp (d + 4) 81 65 [.ref 84, .int (nI w), .int (nI (s + j)), .int (zB l), .int (nI (k + j))] [] (zx_LL Lh) I2 J P = if (l && zf_ml b s f 0 k mm j && decide (s + L = f)) = true then P (some (.int (nI w))) (zx_LL Lh) I2 J else zx_wp (d + 4) 81 65 [.ref 84, .int (nI (w + 1)), .int (nI s), .int (nI 1), .int (nI (k + L + 1))] [] (zx_LL Lh) I2 J P := by
    intro w k L hk hw h1 h2 mm
    induction mm with
    | zero =>
      intro j l hj d P
      obtain rfl : j = L := by omega
      have hc := hch (k + j) (by omega)
      rw [h2] at hc
      have lt : k + j < 114 := by omega
      rw [show zf_ml b s f 0 k 0 j = true from rfl, Bool.and_true, zs_81_65]
      cases l with
      | false =>
        rw [Bool.false_and, if_neg (by decide), o0]
        simp (disch := omega) only [↓zs_81_67, ↓zs_81_69, ↓zs_81_72, ↓zs_81_75, ↓zs_81_77, ↓zs_81_79, ↓zs_81_82, ↓zs_81_84, ↓zs_81_87, ↓zs_81_88, ↓zs_81_91, ↓zs_81_92, ↓zs_81_93, ↓zs_81_96, ↓zs_81_99, ↓zs_81_100, ↓zs_81_101, ↓zs_81_104, ↓zs_81_106, ↓zs_81_108, ↓zs_81_111, ↓zs_81_114, ↓zs_81_115, ↓zs_81_118, ↓zs_81_119, ↓zs_81_120, ↓zs_81_123, ↓zs_81_126, ↓zs_81_127, ↓zs_81_130, ↓zs_81_131, ↓zs_81_132, ↓zs_81_135, ↓zs_81_138, ↓zs_81_139, ↓zs_81_140, ↓zs_81_143, ↓zs_81_144, ↓zs_81_147, ↓zs_81_148, ↓zs_81_149, ↓zs_81_150, ↓zs_81_153, zx_pu_s, zx_pu_n, zx_rv_s, zx_rv_n, true_and, and_true, true_or, or_true, zb_0, zb_1, zq_lcl, zq_lcg, zq_lce, eq_self, ite_true, ite_false, zk_84, zw_84, zq_84_0, nI_ltI, nI_add, lt, k0, hln, hc, g3]
      | true =>
        rw [Bool.true_and, o1]
        by_cases c : s + j = f
        · have c' : (nI (s + j) = nI f) = True := eq_true (congrArg nI c)
          rw [decide_eq_true c, if_pos rfl]
          simp (disch := omega) only [↓zs_81_67, ↓zs_81_69, ↓zs_81_72, ↓zs_81_75, ↓zs_81_77, ↓zs_81_79, ↓zs_81_82, ↓zs_81_84, ↓zs_81_87, ↓zs_81_88, ↓zs_81_91, ↓zs_81_92, ↓zs_81_93, ↓zs_81_96, ↓zs_81_99, ↓zs_81_100, ↓zs_81_101, ↓zs_81_104, ↓zs_81_106, ↓zs_81_108, ↓zs_81_111, ↓zs_81_114, ↓zs_81_115, ↓zs_81_118, ↓zs_81_119, ↓zs_81_120, ↓zs_81_123, ↓zs_81_126, ↓zs_81_127, ↓zs_81_130, ↓zs_81_131, ↓zs_81_132, ↓zs_81_135, ↓zs_81_138, ↓zs_81_139, ↓zs_81_140, ↓zs_81_143, ↓zs_81_144, ↓zs_81_147, ↓zs_81_148, ↓zs_81_149, ↓zs_81_150, ↓zs_81_153, zx_pu_s, zx_pu_n, zx_rv_s, zx_rv_n, true_and, and_true, true_or, or_true, zb_0, zb_1, zq_lcl, zq_lcg, zq_lce, eq_self, ite_true, ite_false, zk_84, zw_84, zq_84_0, nI_ltI, lt, k0, hln, hc, g2, z10, c']
        · have c' : (nI (s + j) = nI f) = False := zq_ne c (by omega) (by omega)
          rw [decide_eq_false c, if_neg (by decide)]
          simp (disch := omega) only [↓zs_81_67, ↓zs_81_69, ↓zs_81_72, ↓zs_81_75, ↓zs_81_77, ↓zs_81_79, ↓zs_81_82, ↓zs_81_84, ↓zs_81_87, ↓zs_81_88, ↓zs_81_91, ↓zs_81_92, ↓zs_81_93, ↓zs_81_96, ↓zs_81_99, ↓zs_81_100, ↓zs_81_101, ↓zs_81_104, ↓zs_81_106, ↓zs_81_108, ↓zs_81_111, ↓zs_81_114, ↓zs_81_115, ↓zs_81_118, ↓zs_81_119, ↓zs_81_120, ↓zs_81_123, ↓zs_81_126, ↓zs_81_127, ↓zs_81_130, ↓zs_81_131, ↓zs_81_132, ↓zs_81_135, ↓zs_81_138, ↓zs_81_139, ↓zs_81_140, ↓zs_81_143, ↓zs_81_144, ↓zs_81_147, ↓zs_81_148, ↓zs_81_149, ↓zs_81_150, ↓zs_81_153, zx_pu_s, zx_pu_n, zx_rv_s, zx_rv_n, true_and, and_true, true_or, or_true, zb_0, zb_1, zq_lcl, zq_lcg, zq_lce, eq_self, ite_true, ite_false, zk_84, zw_84, zq_84_0, nI_ltI, nI_add, lt, k0, hln, hc, g2, g3, z10, c']
    | succ mm ih =>
      intro j l hj d P
      have hc := hch (k + j) (by omega)
      have hne : (zf_ch 0 (k + j) = nI 32) = False := eq_false (h1 j (by omega))
      have lt : k + j < 114 := by omega
      have i9 := fun l => ih (j + 1) l (by omega) d P
      rw [zf_ml, ← Bool.and_assoc]
      cases l with
      | false =>
        rw [Bool.false_and, ← i9 false, o0, zs_81_65]
        simp (disch := omega) only [↓zs_81_67, ↓zs_81_69, ↓zs_81_72, ↓zs_81_75, ↓zs_81_77, ↓zs_81_79, ↓zs_81_82, ↓zs_81_84, ↓zs_81_87, ↓zs_81_88, ↓zs_81_91, ↓zs_81_92, ↓zs_81_93, ↓zs_81_96, ↓zs_81_99, ↓zs_81_100, ↓zs_81_101, ↓zs_81_104, ↓zs_81_106, ↓zs_81_108, ↓zs_81_111, ↓zs_81_114, ↓zs_81_115, ↓zs_81_118, ↓zs_81_119, ↓zs_81_120, ↓zs_81_123, ↓zs_81_126, ↓zs_81_127, ↓zs_81_130, ↓zs_81_131, ↓zs_81_132, ↓zs_81_135, ↓zs_81_138, ↓zs_81_139, ↓zs_81_140, ↓zs_81_143, ↓zs_81_144, ↓zs_81_147, ↓zs_81_148, ↓zs_81_149, ↓zs_81_150, ↓zs_81_153, zx_pu_s, zx_pu_n, zx_rv_s, zx_rv_n, true_and, and_true, true_or, or_true, zb_0, zb_1, zq_lcl, zq_lcg, zq_lce, eq_self, ite_true, ite_false, zk_84, zw_84, zq_84_0, nI_ltI, nI_add, lt, k0, hln, hc, hne]
        rfl
      | true =>
        rw [Bool.true_and, o1]
        by_cases c : s + j < f
        · have hb := fun d P => sc_byteAt (d := d) (Lh := Lh) (J := J) (P := P) z2 (i := s + j) (by omega)
          obtain ⟨-, c2, -, -, -⟩ := zf_cv_f ⟨_, zf_c_lt z (s + j)⟩
          obtain ⟨-, -, q3⟩ := c2 (f4 (s + j) (by omega) c)
          dsimp only at q3
          have ec : zf_c b n (s + j) = b (s + j) := if_pos (by omega)
          rw [ec] at q3
          rw [ec, q3] at hb
          rw [decide_eq_true c, Bool.true_and]
          by_cases ce : zf_ch 0 (k + j) = nI (b (s + j))
          · have ce' : (nI (b (s + j)) = zf_ch 0 (k + j)) = True := eq_true ce.symm
            rw [decide_eq_true ce, ← i9 true, o1, zs_81_65]
            simp (disch := omega) only [↓zs_81_67, ↓zs_81_69, ↓zs_81_72, ↓zs_81_75, ↓zs_81_77, ↓zs_81_79, ↓zs_81_82, ↓zs_81_84, ↓zs_81_87, ↓zs_81_88, ↓zs_81_91, ↓zs_81_92, ↓zs_81_93, ↓zs_81_96, zx_pu_s, zx_pu_n, zx_rv_s, zx_rv_n, true_and, and_true, true_or, or_true, zb_0, zb_1, zq_lcl, zq_lcg, zq_lce, eq_self, ite_true, ite_false, zk_84, zw_84, zq_84_0, nI_ltI, lt, k0, hln, hc, hne, z10, g2, c]
            simp (disch := omega) only [↓zs_81_99, ↓zs_81_100, ↓zs_81_101, ↓zs_81_104, ↓zs_81_106, ↓zs_81_108, ↓zs_81_111, ↓zs_81_114, ↓zs_81_115, ↓zs_81_118, ↓zs_81_119, ↓zs_81_120, ↓zs_81_123, ↓zs_81_126, ↓zs_81_127, ↓zs_81_130, ↓zs_81_131, ↓zs_81_132, ↓zs_81_135, ↓zs_81_138, ↓zs_81_139, ↓zs_81_140, ↓zs_81_143, ↓zs_81_144, ↓zs_81_147, ↓zs_81_148, ↓zs_81_149, ↓zs_81_150, ↓zs_81_153, zx_pu_s, zx_pu_n, zx_rv_s, zx_rv_n, true_and, and_true, true_or, or_true, zb_0, zb_1, zq_lcl, zq_lcg, zq_lce, eq_self, ite_true, ite_false, zk_84, zw_84, zq_84_0, k0, hc, hb, ce', nI_add]
            rfl
          · have ce' : (nI (b (s + j)) = zf_ch 0 (k + j)) = False := eq_false (fun e => ce e.symm)
            rw [decide_eq_false ce, ← i9 false, o0, zs_81_65]
            simp (disch := omega) only [↓zs_81_67, ↓zs_81_69, ↓zs_81_72, ↓zs_81_75, ↓zs_81_77, ↓zs_81_79, ↓zs_81_82, ↓zs_81_84, ↓zs_81_87, ↓zs_81_88, ↓zs_81_91, ↓zs_81_92, ↓zs_81_93, ↓zs_81_96, zx_pu_s, zx_pu_n, zx_rv_s, zx_rv_n, true_and, and_true, true_or, or_true, zb_0, zb_1, zq_lcl, zq_lcg, zq_lce, eq_self, ite_true, ite_false, zk_84, zw_84, zq_84_0, nI_ltI, lt, k0, hln, hc, hne, z10, g2, c]
            simp (disch := omega) only [↓zs_81_99, ↓zs_81_100, ↓zs_81_101, ↓zs_81_104, ↓zs_81_106, ↓zs_81_108, ↓zs_81_111, ↓zs_81_114, ↓zs_81_115, ↓zs_81_118, ↓zs_81_119, ↓zs_81_120, ↓zs_81_123, ↓zs_81_126, ↓zs_81_127, ↓zs_81_130, ↓zs_81_131, ↓zs_81_132, ↓zs_81_135, ↓zs_81_138, ↓zs_81_139, ↓zs_81_140, ↓zs_81_143, ↓zs_81_144, ↓zs_81_147, ↓zs_81_148, ↓zs_81_149, ↓zs_81_150, ↓zs_81_153, zx_pu_s, zx_pu_n, zx_rv_s, zx_rv_n, true_and, and_true, true_or, or_true, zb_0, zb_1, zq_lcl, zq_lcg, zq_lce, eq_self, ite_true, ite_false, zk_84, zw_84, zq_84_0, k0, hc, hb, ce', nI_add]
            rfl
        · rw [decide_eq_false c, Bool.false_and, ← i9 false, o0, zs_81_65]
          simp (disch := omega) only [↓zs_81_67, ↓zs_81_69, ↓zs_81_72, ↓zs_81_75, ↓zs_81_77, ↓zs_81_79, ↓zs_81_82, ↓zs_81_84, ↓zs_81_87, ↓zs_81_88, ↓zs_81_91, ↓zs_81_92, ↓zs_81_93, ↓zs_81_96, ↓zs_81_99, ↓zs_81_100, ↓zs_81_101, ↓zs_81_104, ↓zs_81_106, ↓zs_81_108, ↓zs_81_111, ↓zs_81_114, ↓zs_81_115, ↓zs_81_118, ↓zs_81_119, ↓zs_81_120, ↓zs_81_123, ↓zs_81_126, ↓zs_81_127, ↓zs_81_130, ↓zs_81_131, ↓zs_81_132, ↓zs_81_135, ↓zs_81_138, ↓zs_81_139, ↓zs_81_140, ↓zs_81_143, ↓zs_81_144, ↓zs_81_147, ↓zs_81_148, ↓zs_81_149, ↓zs_81_150, ↓zs_81_153, zx_pu_s, zx_pu_n, zx_rv_s, zx_rv_n, true_and, and_true, true_or, or_true, zb_0, zb_1, zq_lcl, zq_lcg, zq_lce, eq_self, ite_true, ite_false, zk_84, zw_84, zq_84_0, nI_ltI, nI_add, lt, k0, hln, hc, hne, z10, g2, c]
          rfl
  have all : ∀ (l : List (Nat × Nat)) w k, zf_chn 0 114 l k = true → w + l.length < 300 → ∀ d P, zx_wp (d + 4) 81 65 [.ref 84, .int (nI w), .int (nI s), .int (nI 1), .int (nI k)] [] (zx_LL Lh) I2 J P = P (some (.int (nI (zf_fi 0 (zf_x b s f) l w 199)))) (zx_LL Lh) I2 J := by
    intro l
    induction l with
    | nil =>
      intro w k hk hw d P
      obtain rfl : k = 114 := of_decide_eq_true hk
      rw [zs_81_65]
      simp (disch := omega) only [↓zs_81_67, ↓zs_81_69, ↓zs_81_72, ↓zs_81_156, ↓zs_81_159, zx_pu_s, zx_pu_n, zx_rv_s, zx_rv_n, true_and, and_true, true_or, or_true, zb_0, zb_1, zq_lcl, zq_lcg, zq_lce, eq_self, ite_true, ite_false, nI_ltI, Nat.lt_irrefl, k0, hln]
      rfl
    | cons q r ih =>
      intro w k hk hw d P
      obtain ⟨rfl, h1, h2, h3, h4⟩ := zf_chn_s hk
      have hw' : w + (r.length + 1) < 300 := hw
      have h5 := key w q.1 q.2 h3 (by omega) h1 h2 q.2 0 true (by omega) d P
      rw [Bool.true_and, zf_ml_x f1] at h5
      rw [show nI 1 = zB true from rfl]
      refine Eq.trans h5 ?_
      rw [zf_fi]
      by_cases c : zf_x b s f = zf_wl 0 q
      · rw [if_pos (decide_eq_true c), if_pos c]
      · rw [if_neg (by rw [decide_eq_false c]; decide), if_neg c]
        exact ih (w + 1) _ h4 (by omega) d P
  have hall := all zf_kc 200 0 (by decide +kernel) (by decide)
  refine ⟨I2, fr2, g2, fun d P => ?_⟩
  have ep : zf_tkc (zf_wd b s f) = nI (zf_fi 0 (zf_x b s f) zf_kc 200 199) := (zf_fi_perm _).symm
  rw [ep, ← hall d P, ze_81]
  simp (disch := omega) only [↓zs_81_0, ↓zs_81_1, zx_pu_s, zx_pu_n, zx_rv_s, zx_rv_n, true_and, and_true, true_or, or_true, zb_0, zb_1, zq_lcl, zq_lcg, zq_lce, eq_self, ite_true, ite_false]
  rw [h2]
  simp (disch := omega) only [↓zs_81_51, ↓zs_81_54, ↓zs_81_55, ↓zs_81_56, ↓zs_81_59, ↓zs_81_60, ↓zs_81_61, ↓zs_81_62, ↓zs_81_63, zx_pu_s, zx_pu_n, zx_rv_s, zx_rv_n, true_and, and_true, true_or, or_true, zb_0, zb_1, zq_lcl, zq_lcg, zq_lce, eq_self, ite_true, ite_false, zk_84, zw_84, zq_84_0, g3]
end TC
