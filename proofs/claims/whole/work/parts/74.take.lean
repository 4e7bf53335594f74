/-! takeDown: a set of STATUES less -/
def zf_vd (k a : Nat) (B : Nat → Int32) : Nat → Nat → Bool
  | 0, _ => true
  | mm + 1, s => (!(a.testBit s) || (zf_stds B s && !decide (B (109 + s) = nI k))) && zf_vd k a B mm (s + 1)
def zf_rm (r a : Nat) : Nat → Nat → (Nat → Int32) → (Nat → Int32)
  | 0, _, B => B
  | mm + 1, s, B => zf_rm r a mm (s + 1) (if a.testBit s = true then zu1 B (r + s) (-1) else B)
theorem zf_vd_st {k a : Nat} {B : Nat → Int32} : ∀ mm s, zf_vd k a B mm s = true → ∀ i, s ≤ i → i < s + mm → a.testBit i = true → zf_stds B i = true ∧ ¬ B (109 + i) = nI k := by
  intro mm
  induction mm with
  | zero => intro s _ i h1 h2; omega
  | succ mm ih =>
    intro s h i h1 h2 h3
    unfold zf_vd at h
    rw [Bool.and_eq_true] at h
    by_cases q : i = s
    · subst q
      have h4 := h.1
      rw [h3, Bool.not_true, Bool.false_or, Bool.and_eq_true, Bool.not_eq_true', decide_eq_false_iff_not] at h4
      exact h4
    · exact ih (s + 1) h.2 i (by omega) (by omega) h3
theorem zf_rm_V {r a : Nat} (hr : r = 109 ∨ r = 125) : ∀ mm s (B : Nat → Int32) (m : Nat), zV B m → m + mm < 2 ^ 30 → s + mm ≤ zn B → (∀ i, s ≤ i → i < s + mm → a.testBit i = true → zf_stds B i = true) → zV (zf_rm r a mm s B) (m + mm) ∧ zSm B (zf_rm r a mm s B) := by
  intro mm
  induction mm with
  | zero => intro s B m v _ _ _; exact ⟨v, zSm_r B⟩
  | succ mm ih =>
    intro s B m v hm hs hst
    have N8 : zn B ≤ 8 := v.1.1.2.2.2.2.2
    unfold zf_rm
    cases c : a.testBit s with
    | false =>
      rw [if_neg (by decide)]
      obtain ⟨v1, s1⟩ := ih (s + 1) B m v (by omega) (by omega) (fun i h1 h2 => hst i (by omega) (by omega))
      exact ⟨zV_mono v1 (by omega), s1⟩
    | true =>
      rw [if_pos rfl]
      have st := hst s (by omega) (by omega) c
      have key : zV (zu1 B (r + s) (-1)) (m + 1) ∧ zSm B (zu1 B (r + s) (-1)) := by
        have w1 : zf_w1 B s = 0 := by
          unfold zf_w1
          rw [if_pos (by omega), if_pos st]
        rcases hr with e | e <;> subst e
        · have h0 : zf_whyN B (200 + s) = 0 := by
            unfold zf_whyN
            rw [if_neg (by omega), if_neg (by omega), if_neg (by omega), if_neg (by omega), if_pos (by omega), Nat.add_sub_cancel_left]
            exact w1
          have hv := zf_do_V v (u := lN (200 + s)) (by omega) (by rw [zf_why_n (by omega)]; exact h0)
          rw [(zf_do_n (B := B) (n := 200 + s) (by omega)).1] at hv
          unfold zf_doN at hv
          rw [if_neg (by omega), if_neg (by omega), if_pos (by omega), Nat.add_sub_cancel_left] at hv
          exact hv
        · have h0 : zf_whyN B (100 + s) = 0 := by
            unfold zf_whyN
            rw [if_neg (by omega), if_neg (by omega), if_pos (by omega), Nat.add_sub_cancel_left]
            exact w1
          have hv := zf_do_V v (u := lN (100 + s)) (by omega) (by rw [zf_why_n (by omega)]; exact h0)
          rw [(zf_do_n (B := B) (n := 100 + s) (by omega)).1] at hv
          unfold zf_doN at hv
          rw [if_neg (by omega), if_pos (by omega), Nat.add_sub_cancel_left] at hv
          exact hv
      obtain ⟨v1, s1⟩ := key
      obtain ⟨-, -, e3, -⟩ := zSm_k s1
      obtain ⟨v2, s2⟩ := ih (s + 1) (zu1 B (r + s) (-1)) (m + 1) v1 (by omega) (by rw [e3]; omega) (fun i h1 h2 h3 => by
        have := hst i (by omega) (by omega) h3
        unfold zf_stds at this ⊢
        rw [zu1_n (by omega)]
        exact this)
      exact ⟨by rw [show m + (mm + 1) = m + 1 + mm by omega]; exact v2, zSm_t s1 s2⟩
theorem zq_ibit {a s : Nat} (ha : a < 256) (hs : s < 8) : (nI a >>> (nI s &&& 31)) &&& nI 1 = if a.testBit s = true then nI 1 else nI 0 := by
  have h : ∀ a : Fin 256, ∀ s : Fin 8, (nI a.1 >>> (nI s.1 &&& 31)) &&& nI 1 = if a.1.testBit s.1 = true then nI 1 else nI 0 := by decide +kernel
  exact h ⟨a, ha⟩ ⟨s, hs⟩
theorem zf_bit_n {a : Nat} (ha : a < 2 ^ 64) : zf_bit (lN a) = a.testBit := by
  funext i
  show (BitVec.ofNat 64 a).getLsbD i = a.testBit i
  rw [BitVec.getLsbD_ofNat]
  by_cases h : i < 64
  · rw [decide_eq_true h, Bool.true_and]
  · rw [decide_eq_false h, Bool.false_and, Nat.testBit_lt_two_pow (Nat.lt_of_lt_of_le ha (Nat.pow_le_pow_right (by decide) (by omega)))]
/-- with the set less, the STONE is under no LOOK -/
def zf_gd (r : Nat) (B : Nat → Int32) (k a : Nat) : Bool := zf_vd k a B (zn B) 0 && decide (zf_wat (zf_rm r a (zn B) 0 B) (zw B) (zh B) (zn B) k = 0)
section TD
variable {Lh m : Nat} {I : zx_MI} {J : zx_MJ}
theorem sc_freeL {k a : Nat} {I1 : zx_MI} {B : Nat → Int32} (hk : k < 64) (ha : a < 256) (hN : I1 1 8 = nI (zn B)) (N8 : zn B ≤ 8) : ∀ mm s Bs I2, s + mm = zn B → zFc 19 I1 I2 → zR_st I2 19 Bs → (∀ i, s ≤ i → i < 8 → Bs (109 + i) = B (109 + i)) → ∃ I3, zFc 19 I1 I3 ∧ (zf_vd k a B mm s = true → zR_st I3 19 (zf_rm 109 a mm s Bs)) ∧ ∀ d P, zx_wp (d + 4) 134 13 [.ref 0, .int (nI k), .int (nI a), .int (nI s)] [] (zx_LL Lh) I2 J P = if zf_vd k a B mm s = true then zx_wp (d + 4) 134 74 [.ref 0, .int (nI k), .int (nI a), .int (nI (zn B))] [] (zx_LL Lh) I3 J P else P (some (.int (nI 0))) (zx_LL Lh) I3 J := by
  intro mm
  induction mm with
  | zero =>
    intro s Bs I2 hs f rel hB
    have e8 : I2 1 8 = nI (zn B) := (f 1 8 (by decide)).trans hN
    have hlt : ¬ s < zn B := by omega
    have es : s = zn B := by omega
    refine ⟨I2, f, fun _ => rel, fun d P => ?_⟩
    rw [show zf_vd k a B 0 s = true from rfl, if_pos rfl, zs_134_13, es]
    simp (disch := omega) only [↓zs_134_14, ↓zs_134_15, ↓zs_134_18, ↓zs_134_21, ↓zs_134_24, ↓zs_134_25, ↓zs_134_26, ↓zs_134_27, ↓zs_134_28, ↓zs_134_29, ↓zs_134_32, ↓zs_134_33, ↓zs_134_36, ↓zs_134_37, ↓zs_134_40, ↓zs_134_43, ↓zs_134_44, ↓zs_134_47, ↓zs_134_50, ↓zs_134_51, ↓zs_134_52, ↓zs_134_53, ↓zs_134_56, ↓zs_134_57, ↓zs_134_58, ↓zs_134_59, ↓zs_134_62, ↓zs_134_65, ↓zs_134_66, ↓zs_134_67, ↓zs_134_68, ↓zs_134_71, zx_pu_s, zx_pu_n, zx_rv_s, zx_rv_n, true_and, and_true, true_or, or_true, zb_0, zb_1, zq_lcl, zq_lcg, zq_lce, eq_self, ite_true, ite_false, zk_0, zw_0, zk_1, zw_1, zq_0_0, zq_0_1, zq_0_2, zq_0_3, zq_0_4, zq_0_5, zq_0_6, zq_0_7, zq_0_8, zq_0_9, zq_0_10, zq_0_11, zq_1_0, zq_1_1, zq_1_2, zq_1_3, zq_1_4, zq_1_5, nI_ltI, Nat.lt_irrefl, e8]
  | succ mm ih =>
    intro s Bs I2 hs f rel hB
    have e8 : I2 1 8 = nI (zn B) := (f 1 8 (by decide)).trans hN
    have hlt : s < zn B := by omega
    have h8 : s < 8 := by omega
    have hbit := zq_ibit ha h8
    have c10 : (nI 1 = nI 0) = False := eq_false (by decide)
    unfold zf_vd zf_rm
    cases c : a.testBit s with
    | false =>
      rw [c, if_neg (by decide)] at hbit
      obtain ⟨I3, f3, r3, h3⟩ := ih (s + 1) Bs I2 (by omega) f rel (fun i h1 h2 => hB i (by omega) h2)
      rw [if_neg (by decide), Bool.not_false, Bool.true_or, Bool.true_and]
      refine ⟨I3, f3, r3, fun d P => ?_⟩
      rw [← h3 d P, zs_134_13]
      simp (disch := omega) only [↓zs_134_14, ↓zs_134_15, ↓zs_134_18, ↓zs_134_21, ↓zs_134_24, ↓zs_134_25, ↓zs_134_26, ↓zs_134_27, ↓zs_134_28, ↓zs_134_29, ↓zs_134_32, ↓zs_134_33, ↓zs_134_36, ↓zs_134_37, ↓zs_134_40, ↓zs_134_43, ↓zs_134_44, ↓zs_134_47, ↓zs_134_50, ↓zs_134_51, ↓zs_134_52, ↓zs_134_53, ↓zs_134_56, ↓zs_134_57, ↓zs_134_58, ↓zs_134_59, ↓zs_134_62, ↓zs_134_65, ↓zs_134_66, ↓zs_134_67, ↓zs_134_68, ↓zs_134_71, zx_pu_s, zx_pu_n, zx_rv_s, zx_rv_n, true_and, and_true, true_or, or_true, zb_0, zb_1, zq_lcl, zq_lcg, zq_lce, eq_self, ite_true, ite_false, zk_0, zw_0, zk_1, zw_1, zq_0_0, zq_0_1, zq_0_2, zq_0_3, zq_0_4, zq_0_5, zq_0_6, zq_0_7, zq_0_8, zq_0_9, zq_0_10, zq_0_11, zq_1_0, zq_1_1, zq_1_2, zq_1_3, zq_1_4, zq_1_5, zk_19, zw_19, zk_20, zw_20, zk_21, zw_21, zk_22, zw_22, zq_19_0, zq_19_1, zq_19_2, zn_10, zn_40, zn_040, zn_340, nI_add, zin_nI, nI_clamp, nI_ltI, nI_eq, pk_mul, nI_1, Nat.lt_irrefl, e8, hlt, hbit]
    | true =>
      rw [c, if_pos rfl] at hbit
      rw [if_pos rfl, Bool.not_true, Bool.false_or]
      have hst := fun d P => sc_standsB (d := d) (Lh := Lh) (J := J) (P := P) (s := s) zx_st19 rel h8
      have es : zf_stds Bs s = zf_stds B s := by unfold zf_stds; rw [hB s (by omega) h8]
      rw [es] at hst
      have e20 : I2 20 s = B (109 + s) := ((rel.2 s h8).1).trans (hB s (by omega) h8)
      cases c1 : zf_stds B s with
      | false =>
        rw [c1] at hst
        rw [Bool.false_and, Bool.false_and]
        refine ⟨I2, f, fun h => Bool.noConfusion h, fun d P => ?_⟩
        rw [if_neg (by decide), zs_134_13]
        simp (disch := omega) only [↓zs_134_14, ↓zs_134_15, ↓zs_134_18, ↓zs_134_21, ↓zs_134_24, ↓zs_134_25, ↓zs_134_26, ↓zs_134_27, ↓zs_134_28, ↓zs_134_29, ↓zs_134_32, ↓zs_134_33, ↓zs_134_36, ↓zs_134_37, ↓zs_134_40, ↓zs_134_43, ↓zs_134_44, ↓zs_134_47, ↓zs_134_50, ↓zs_134_51, ↓zs_134_52, ↓zs_134_53, ↓zs_134_56, ↓zs_134_57, ↓zs_134_58, ↓zs_134_59, ↓zs_134_62, ↓zs_134_65, ↓zs_134_66, ↓zs_134_67, ↓zs_134_68, ↓zs_134_71, zx_pu_s, zx_pu_n, zx_rv_s, zx_rv_n, true_and, and_true, true_or, or_true, zb_0, zb_1, zq_lcl, zq_lcg, zq_lce, eq_self, ite_true, ite_false, zk_0, zw_0, zk_1, zw_1, zq_0_0, zq_0_1, zq_0_2, zq_0_3, zq_0_4, zq_0_5, zq_0_6, zq_0_7, zq_0_8, zq_0_9, zq_0_10, zq_0_11, zq_1_0, zq_1_1, zq_1_2, zq_1_3, zq_1_4, zq_1_5, zk_19, zw_19, zk_20, zw_20, zk_21, zw_21, zk_22, zw_22, zq_19_0, zq_19_1, zq_19_2, zn_10, zn_40, zn_040, zn_340, nI_add, zin_nI, nI_clamp, nI_ltI, nI_eq, pk_mul, nI_1, Nat.lt_irrefl, e8, hlt, hbit, c10, hst, zB_0, reduceCtorEq]
      | true =>
        rw [c1] at hst
        rw [Bool.true_and]
        by_cases c2 : B (109 + s) = nI k
        · rw [decide_eq_true c2, Bool.not_true, Bool.false_and]
          rw [c2] at e20
          refine ⟨I2, f, fun h => Bool.noConfusion h, fun d P => ?_⟩
          rw [if_neg (by decide), zs_134_13]
          simp (disch := omega) only [↓zs_134_14, ↓zs_134_15, ↓zs_134_18, ↓zs_134_21, ↓zs_134_24, ↓zs_134_25, ↓zs_134_26, ↓zs_134_27, ↓zs_134_28, ↓zs_134_29, ↓zs_134_32, ↓zs_134_33, ↓zs_134_36, ↓zs_134_37, ↓zs_134_40, ↓zs_134_43, ↓zs_134_44, ↓zs_134_47, ↓zs_134_50, ↓zs_134_51, ↓zs_134_52, ↓zs_134_53, ↓zs_134_56, ↓zs_134_57, ↓zs_134_58, ↓zs_134_59, ↓zs_134_62, ↓zs_134_65, ↓zs_134_66, ↓zs_134_67, ↓zs_134_68, ↓zs_134_71, zx_pu_s, zx_pu_n, zx_rv_s, zx_rv_n, true_and, and_true, true_or, or_true, zb_0, zb_1, zq_lcl, zq_lcg, zq_lce, eq_self, ite_true, ite_false, zk_0, zw_0, zk_1, zw_1, zq_0_0, zq_0_1, zq_0_2, zq_0_3, zq_0_4, zq_0_5, zq_0_6, zq_0_7, zq_0_8, zq_0_9, zq_0_10, zq_0_11, zq_1_0, zq_1_1, zq_1_2, zq_1_3, zq_1_4, zq_1_5, zk_19, zw_19, zk_20, zw_20, zk_21, zw_21, zk_22, zw_22, zq_19_0, zq_19_1, zq_19_2, zn_10, zn_40, zn_040, zn_340, nI_add, zin_nI, nI_clamp, nI_ltI, nI_eq, pk_mul, nI_1, Nat.lt_irrefl, e8, hlt, hbit, c10, hst, zB_0, reduceCtorEq, e20]
        · rw [decide_eq_false c2, Bool.not_false, Bool.true_and]
          have c2' : (B (109 + s) = nI k) = False := eq_false c2
          obtain ⟨I3, f3, r3, h3⟩ := ih (s + 1) (zu1 Bs (109 + s) (-1)) (zx_u I2 20 s (-1)) (by omega) (zFc_t f (fun a j n => zu_n (by omega))) (zR_u_place rel h8) (fun i h1 h2 => by rw [zu1_n (by omega)]; exact hB i (by omega) h2)
          refine ⟨I3, f3, r3, fun d P => ?_⟩
          rw [← h3 d P, zs_134_13]
          simp (disch := omega) only [↓zs_134_14, ↓zs_134_15, ↓zs_134_18, ↓zs_134_21, ↓zs_134_24, ↓zs_134_25, ↓zs_134_26, ↓zs_134_27, ↓zs_134_28, ↓zs_134_29, ↓zs_134_32, ↓zs_134_33, ↓zs_134_36, ↓zs_134_37, ↓zs_134_40, ↓zs_134_43, ↓zs_134_44, ↓zs_134_47, ↓zs_134_50, ↓zs_134_51, ↓zs_134_52, ↓zs_134_53, ↓zs_134_56, ↓zs_134_57, ↓zs_134_58, ↓zs_134_59, ↓zs_134_62, ↓zs_134_65, ↓zs_134_66, ↓zs_134_67, ↓zs_134_68, ↓zs_134_71, zx_pu_s, zx_pu_n, zx_rv_s, zx_rv_n, true_and, and_true, true_or, or_true, zb_0, zb_1, zq_lcl, zq_lcg, zq_lce, eq_self, ite_true, ite_false, zk_0, zw_0, zk_1, zw_1, zq_0_0, zq_0_1, zq_0_2, zq_0_3, zq_0_4, zq_0_5, zq_0_6, zq_0_7, zq_0_8, zq_0_9, zq_0_10, zq_0_11, zq_1_0, zq_1_1, zq_1_2, zq_1_3, zq_1_4, zq_1_5, zk_19, zw_19, zk_20, zw_20, zk_21, zw_21, zk_22, zw_22, zq_19_0, zq_19_1, zq_19_2, zn_10, zn_40, zn_040, zn_340, nI_add, zin_nI, nI_clamp, nI_ltI, nI_eq, pk_mul, nI_1, Nat.lt_irrefl, e8, hlt, hbit, c10, hst, zB_0, reduceCtorEq, e20, c2']
theorem sc_freeIf {k a : Nat} {I1 : zx_MI} (v : zInv I J m) (hm : m < 2 ^ 29) (hk : k < 64) (ha : a < 256) (f : zFc 19 I I1) : ∃ I2, zFc 19 I I2 ∧ ∀ d P, zx_rn (d + 4) 134 [.ref 0, .int (nI k), .int (nI a)] (zx_LL Lh) I1 J P = P (some (.int (zB (zf_gd 109 (I 139) k a)))) (zx_LL Lh) I2 J := by
  obtain ⟨⟨hw, hh, hN⟩, gr, g, ex, ok, N8, wh⟩ := zInv_k v
  have rel : zR_st I1 11 (I 139) := zFc_st zx_st19 zx_st11 (by decide) f v.2.2.2.1
  obtain ⟨I2, f2, f2', r2, hb⟩ := sc_become (Lh := Lh) (I := I1) (J := J) zx_st19 zx_st11 (by decide)
  have f12 : zFc 19 I I2 := zFc_t f f2
  obtain ⟨I3, f3, r3, h3⟩ := sc_freeL (Lh := Lh) (J := J) (B := I 139) hk ha ((f12 1 8 (by decide)).trans hN) N8 (zn (I 139)) 0 (I 139) I2 (by omega) (zFc_r _ _) (r2 _ rel) (fun _ _ _ => rfl)
  have f13 : zFc 19 I I3 := zFc_t f12 f3
  refine ⟨I3, f13, fun d P => ?_⟩
  unfold zf_gd
  rw [ze_134]
  simp (disch := omega) only [↓zs_134_0, ↓zs_134_1, ↓zs_134_4, ↓zs_134_5, ↓zs_134_8, ↓zs_134_11, ↓zs_134_12, zx_pu_s, zx_pu_n, zx_rv_s, zx_rv_n, true_and, and_true, true_or, or_true, zb_0, zb_1, zq_lcl, zq_lcg, zq_lce, eq_self, ite_true, ite_false, zk_0, zw_0, zk_1, zw_1, zq_0_0, zq_0_1, zq_0_2, zq_0_3, zq_0_4, zq_0_5, zq_0_6, zq_0_7, zq_0_8, zq_0_9, zq_0_10, zq_0_11, zq_1_0, zq_1_1, zq_1_2, zq_1_3, zq_1_4, zq_1_5, zk_11, zw_11, zq_11_0, zq_11_1, zq_11_2, zk_19, zw_19, zq_19_0, zq_19_1, zq_19_2, hb]
  rw [h3]
  cases c : zf_vd k a (I 139) (zn (I 139)) 0 with
  | false => rw [if_neg (by decide), Bool.false_and]; rfl
  | true =>
    rw [if_pos rfl, Bool.true_and]
    obtain ⟨vR, sR⟩ := zf_rm_V (r := 109) (a := a) (.inl rfl) (zn (I 139)) 0 (I 139) m v.2.1 (by omega) (by omega) (fun i h1 h2 h3 => (zf_vd_st _ _ c i h1 h2 h3).1)
    obtain ⟨e1, e2, e3, -⟩ := zSm_k sR
    have okR := vR.1
    rw [e1, e2, e3] at okR
    have hwt := fun d P => sc_watch (d := d) (Lh := Lh) (P := P) (k := k) zx_sq1 zx_st19 (zFc_si zx_st19 f13 v.1) ((f13 1 6 (by decide)).trans hw) ((f13 1 7 (by decide)).trans hh) ((f13 1 8 (by decide)).trans hN) (zR_ground_s sR gr) vR.2.1 (r3 c) okR hk
    generalize hq : zf_wat (zf_rm 109 a (zn (I 139)) 0 (I 139)) (zw (I 139)) (zh (I 139)) (zn (I 139)) k = q at hwt
    have hql : q < 256 := by rw [← hq]; exact zf_bs_lt (n := 8) _ (by omega) (by decide)
    by_cases c0 : q = 0
    · subst c0
      simp (disch := omega) only [↓zs_134_74, ↓zs_134_75, ↓zs_134_78, ↓zs_134_79, ↓zs_134_82, ↓zs_134_83, ↓zs_134_86, ↓zs_134_89, ↓zs_134_90, ↓zs_134_93, ↓zs_134_94, zx_pu_s, zx_pu_n, zx_rv_s, zx_rv_n, true_and, and_true, true_or, or_true, zb_0, zb_1, zq_lcl, zq_lcg, zq_lce, eq_self, ite_true, ite_false, zk_0, zw_0, zk_1, zw_1, zq_0_0, zq_0_1, zq_0_2, zq_0_3, zq_0_4, zq_0_5, zq_0_6, zq_0_7, zq_0_8, zq_0_9, zq_0_10, zq_0_11, zq_1_0, zq_1_1, zq_1_2, zq_1_3, zq_1_4, zq_1_5, zk_19, zw_19, zq_19_0, zq_19_1, zq_19_2, hwt]
      rfl
    · have c0' : (nI q = nI 0) = False := zq_ne c0 (by omega) (by omega)
      rw [decide_eq_false c0]
      simp (disch := omega) only [↓zs_134_74, ↓zs_134_75, ↓zs_134_78, ↓zs_134_79, ↓zs_134_82, ↓zs_134_83, ↓zs_134_86, ↓zs_134_89, ↓zs_134_90, ↓zs_134_93, ↓zs_134_94, zx_pu_s, zx_pu_n, zx_rv_s, zx_rv_n, true_and, and_true, true_or, or_true, zb_0, zb_1, zq_lcl, zq_lcg, zq_lce, eq_self, ite_true, ite_false, zk_0, zw_0, zk_1, zw_1, zq_0_0, zq_0_1, zq_0_2, zq_0_3, zq_0_4, zq_0_5, zq_0_6, zq_0_7, zq_0_8, zq_0_9, zq_0_10, zq_0_11, zq_1_0, zq_1_1, zq_1_2, zq_1_3, zq_1_4, zq_1_5, zk_19, zw_19, zq_19_0, zq_19_1, zq_19_2, hwt, c0']
      rfl
end TD
