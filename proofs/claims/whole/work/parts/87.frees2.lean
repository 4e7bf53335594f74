/-! frees, the class's search -/
def zf_fg (B : Nat → Int32) (q k n : Nat) : Bool := zf_fr B (n / 10) (n % 10) && decide (zf_wat (zf_ni (zf_fo B (n / 10) (n % 10)) k) (zw B) (zh B) (zn B) q = 0)
def zf_fd (g : Nat → Bool) : Nat → Nat → Nat → Nat → Nat × Nat
  | 0, _, c, f => (c, f)
  | mm + 1, n, c, f => if g n = true then zf_fd g mm (n + 1) (c + 1) (if c = 0 then n else f) else zf_fd g mm (n + 1) c f
def zFg (I I2 : zx_MI) : Prop := ∀ a j, ¬ (a = 4 ∨ a = 5 ∨ (65 ≤ a ∧ a ≤ 69)) → I2 a j = I a j
theorem zFc_g {I I2 : zx_MI} (h : zFc 66 I I2) : zFg I I2 := fun a j n => h a j (by omega)
theorem zFg_t {I I2 I3 : zx_MI} (h : zFg I I2) (k : zFg I2 I3) : zFg I I3 := fun a j n => (k a j n).trans (h a j n)
section FS
variable {Lh m : Nat} {I : zx_MI} {J : zx_MJ}
theorem sc_foundN {n c f : Nat} (hn : n < 80) (hc : c < 2 ^ 30) (h1 : I 65 1 = nI c) (hf : c ≠ 0 → I 65 2 = nI (f / 10) ∧ I 65 3 = nI (f % 10) ∧ (∃ b, I 65 4 = zB b) ∧ ∃ b, I 65 5 = zB b) : ∃ I2, zFg I I2 ∧ (∀ a, 66 ≤ a → I2 a = I a) ∧ I2 65 1 = nI (c + 1) ∧ (I2 65 2 = nI ((if c = 0 then n else f) / 10) ∧ I2 65 3 = nI ((if c = 0 then n else f) % 10) ∧ (∃ b, I2 65 4 = zB b) ∧ ∃ b, I2 65 5 = zB b) ∧ ∀ d P, zx_rn d 44 [.ref 65, .int (nI n)] (zx_LL Lh) I J P = P none (zx_LL Lh) I2 J := by
  obtain ⟨b4, b5, h4, h5⟩ : ∃ b4 b5, (c ≠ 0 → I 65 4 = zB b4) ∧ (c ≠ 0 → I 65 5 = zB b5) := by
    by_cases q : c = 0
    · exact ⟨true, true, fun e => absurd q e, fun e => absurd q e⟩
    · obtain ⟨-, -, ⟨b4, e4⟩, b5, e5⟩ := hf q
      exact ⟨b4, b5, fun _ => e4, fun _ => e5⟩
  obtain ⟨I2, f2, g1, g2, g3, g4, g5, h2⟩ := sc_foundT (Lh := Lh) (J := J) (n := nI n) (x := nI (n / 10)) (y := nI (n % 10)) hc h1 h4 h5
  have m1 : (nI n = -1) = False := zq_m1 (by omega)
  refine ⟨I2, fun a j q => f2 a j (by omega), fun a h => funext fun j => f2 a j (by omega), g1, ⟨?_, ?_, ⟨_, g4⟩, _, g5⟩, fun d P => ?_⟩
  · rw [g2]
    by_cases q : c = 0
    · rw [if_pos q, if_pos q]
    · rw [if_neg q, if_neg q]; exact (hf q).1
  · rw [g3]
    by_cases q : c = 0
    · rw [if_pos q, if_pos q]
    · rw [if_neg q, if_neg q]; exact (hf q).2.1
  · rw [← h2 d P, ze_44]
    simp (disch := omega) only [↓zs_44_0, ↓zs_44_1, ↓zs_44_2, ↓zs_44_5, ↓zs_44_6, ↓zs_44_9, ↓zs_44_10, ↓zs_44_12, ↓zs_44_13, ↓zs_44_14, ↓zs_44_15, ↓zs_44_16, ↓zs_44_19, ↓zs_44_20, ↓zs_44_23, ↓zs_44_24, ↓zs_44_26, ↓zs_44_27, zx_pu_s, zx_pu_n, zx_rv_s, zx_rv_n, true_and, and_true, true_or, or_true, zb_0, zb_1, zq_lcl, zq_lcg, zq_lce, eq_self, ite_true, ite_false, m1, zq_10, not_false_eq_true, pk_div, pk_mul, zn_rem, zq_rem]
theorem sc_freesL {q k : Nat} (v : zInv I J m) (hm : m < 2 ^ 29) (hq : q < 64) (hk : k ≤ 60) : ∀ mm n c f I2, n + mm = 80 → c ≤ n → zFg I I2 → I2 65 1 = nI c → (c ≠ 0 → I2 65 2 = nI (f / 10) ∧ I2 65 3 = nI (f % 10) ∧ (∃ b, I2 65 4 = zB b) ∧ ∃ b, I2 65 5 = zB b) → ∃ I3, zFg I I3 ∧ I3 65 1 = nI (zf_fd (zf_fg (I 139) q k) mm n c f).1 ∧ ((zf_fd (zf_fg (I 139) q k) mm n c f).1 ≠ 0 → I3 65 2 = nI ((zf_fd (zf_fg (I 139) q k) mm n c f).2 / 10) ∧ I3 65 3 = nI ((zf_fd (zf_fg (I 139) q k) mm n c f).2 % 10)) ∧ ∀ d P, zx_wp (d + 8) 40 8 [.ref 65, .ref 1, .ref 11, .int (nI q), .int (nI k), .int (nI n)] [] (zx_LL Lh) I2 J P = P none (zx_LL Lh) I3 J := by
  obtain ⟨⟨hw, hh, hN⟩, gr, g, ex, ok, N8, wh⟩ := zInv_k v
  intro mm
  induction mm with
  | zero =>
    intro n c f I2 hn hc fr h1 hf
    obtain rfl : n = 80 := by omega
    refine ⟨I2, fr, h1, fun e => ⟨(hf e).1, (hf e).2.1⟩, fun d P => ?_⟩
    rw [zs_40_8]
    simp (disch := omega) only [↓zs_40_10, ↓zs_40_12, ↓zs_40_15, ↓zs_40_16, ↓zs_40_17, ↓zs_40_18, ↓zs_40_20, ↓zs_40_22, ↓zs_40_25, ↓zs_40_28, ↓zs_40_29, ↓zs_40_30, ↓zs_40_33, ↓zs_40_34, ↓zs_40_37, ↓zs_40_40, ↓zs_40_41, ↓zs_40_43, ↓zs_40_46, ↓zs_40_49, ↓zs_40_52, zx_pu_s, zx_pu_n, zx_rv_s, zx_rv_n, true_and, and_true, true_or, or_true, zb_0, zb_1, zq_lcl, zq_lcg, zq_lce, eq_self, ite_true, ite_false, nI_ltI, Nat.lt_irrefl]
  | succ mm ih =>
    intro n c f I2 hn hc fr h1 hf
    have hlt : n < 80 := by omega
    have sq : zR_sq I2 J 1 (I 139) := zR_sq_f v.2.2.1 (fun a j h1 h2 h3 h4 => fr a j (by omega)) (fun _ => rfl)
    have rel : zR_st I2 11 (I 139) := zR_st_f v.2.2.2.1 (fun a j h1 h2 => fr a j (by omega))
    have si : zx_SI I2 := fun a j ha => (fr a j (by omega)).trans (v.1 a j ha)
    obtain ⟨I3, f3, r3, h3⟩ := sc_begun (Lh := Lh) (J := J) (n := n) (k := k) v.2.1 (by omega) sq rel hlt hk
    have e651 : I3 65 1 = nI c := (f3 65 1 (by decide)).trans h1
    have hf3 : c ≠ 0 → I3 65 2 = nI (f / 10) ∧ I3 65 3 = nI (f % 10) ∧ (∃ b, I3 65 4 = zB b) ∧ ∃ b, I3 65 5 = zB b := fun e => by
      rw [f3 65 2 (by decide), f3 65 3 (by decide), f3 65 4 (by decide), f3 65 5 (by decide)]
      exact hf e
    unfold zf_fd
    cases c1 : zf_fr (I 139) (n / 10) (n % 10) with
    | false =>
      have cg : zf_fg (I 139) q k n = false := by unfold zf_fg; rw [c1, Bool.false_and]
      rw [c1] at h3
      rw [cg, if_neg (by decide)]
      obtain ⟨I4, f4, g1, g2, h4⟩ := ih (n + 1) c f I3 (by omega) (by omega) (zFg_t fr (zFc_g f3)) e651 hf3
      refine ⟨I4, f4, g1, g2, fun d P => ?_⟩
      rw [← h4 d P, zs_40_8]
      simp (disch := omega) only [↓zs_40_10, ↓zs_40_12, ↓zs_40_15, ↓zs_40_16, ↓zs_40_17, ↓zs_40_18, ↓zs_40_20, ↓zs_40_22, ↓zs_40_25, ↓zs_40_28, ↓zs_40_29, ↓zs_40_30, ↓zs_40_33, ↓zs_40_34, ↓zs_40_37, ↓zs_40_40, ↓zs_40_41, ↓zs_40_43, ↓zs_40_46, ↓zs_40_49, ↓zs_40_52, zx_pu_s, zx_pu_n, zx_rv_s, zx_rv_n, true_and, and_true, true_or, or_true, zb_0, zb_1, zq_lcl, zq_lcg, zq_lce, eq_self, ite_true, ite_false, zk_1, zw_1, zq_1_0, zq_1_1, zq_1_2, zq_1_3, zq_1_4, zq_1_5, zk_11, zw_11, zq_11_0, zq_11_1, zq_11_2, zk_65, zw_65, zk_66, zw_66, zq_65_0, zq_66_0, zq_66_1, zq_66_2, nI_ltI, nI_add, hlt, h3, zB_0, reduceCtorEq]
    | true =>
      rw [c1] at h3
      have w0 : zf_wL (I 139) (n / 10) (n % 10) = 0 := by
        unfold zf_fr at c1
        rw [Bool.and_eq_true, decide_eq_true_iff] at c1
        exact c1.1
      obtain ⟨v1, s1⟩ := zf_fo_V v.2.1 (by omega) w0
      obtain ⟨okn, gn, en, sn⟩ := zf_ni_ok v1 k (by omega)
      obtain ⟨e1, e2, e4, -⟩ := zSm_k s1
      rw [e1, e2, e4] at okn
      have sT := zSm_t s1 sn
      have hwt := fun d P => sc_watch (d := d) (Lh := Lh) (J := J) (P := P) (k := q) zx_sq1 zx_st66 (zFc_si zx_st66 f3 si) ((f3 1 6 (by decide)).trans ((fr 1 6 (by decide)).trans hw)) ((f3 1 7 (by decide)).trans ((fr 1 7 (by decide)).trans hh)) ((f3 1 8 (by decide)).trans ((fr 1 8 (by decide)).trans hN)) (zR_ground_s sT gr) gn (r3 c1) okn hq
      have hwl : zf_wat (zf_ni (zf_fo (I 139) (n / 10) (n % 10)) k) (zw (I 139)) (zh (I 139)) (zn (I 139)) q < 256 := zf_bs_lt (n := 8) _ (by omega) (by decide)
      have cg : zf_fg (I 139) q k n = decide (zf_wat (zf_ni (zf_fo (I 139) (n / 10) (n % 10)) k) (zw (I 139)) (zh (I 139)) (zn (I 139)) q = 0) := by unfold zf_fg; rw [c1, Bool.true_and]
      rw [cg]
      generalize zf_wat (zf_ni (zf_fo (I 139) (n / 10) (n % 10)) k) (zw (I 139)) (zh (I 139)) (zn (I 139)) q = W at *
      by_cases cw : W = 0
      · rw [decide_eq_true cw, if_pos rfl]
        rw [cw] at hwt
        obtain ⟨I5, f5, f5', g1, g2, h5⟩ := sc_foundN (Lh := Lh) (I := I3) (J := J) (n := n) (c := c) (f := f) hlt (by omega) e651 hf3
        obtain ⟨I4, f4, k1, k2, h4⟩ := ih (n + 1) (c + 1) (if c = 0 then n else f) I5 (by omega) (by omega) (zFg_t (zFg_t fr (zFc_g f3)) f5) g1 (fun _ => g2)
        refine ⟨I4, f4, k1, k2, fun d P => ?_⟩
        rw [← h4 d P, zs_40_8]
        simp (disch := omega) only [↓zs_40_10, ↓zs_40_12, ↓zs_40_15, ↓zs_40_16, ↓zs_40_17, ↓zs_40_18, ↓zs_40_20, ↓zs_40_22, ↓zs_40_25, ↓zs_40_28, ↓zs_40_29, ↓zs_40_30, ↓zs_40_33, ↓zs_40_34, ↓zs_40_37, ↓zs_40_40, ↓zs_40_41, ↓zs_40_43, ↓zs_40_46, ↓zs_40_49, ↓zs_40_52, zx_pu_s, zx_pu_n, zx_rv_s, zx_rv_n, true_and, and_true, true_or, or_true, zb_0, zb_1, zq_lcl, zq_lcg, zq_lce, eq_self, ite_true, ite_false, zk_1, zw_1, zq_1_0, zq_1_1, zq_1_2, zq_1_3, zq_1_4, zq_1_5, zk_11, zw_11, zq_11_0, zq_11_1, zq_11_2, zk_65, zw_65, zk_66, zw_66, zq_65_0, zq_66_0, zq_66_1, zq_66_2, nI_ltI, nI_add, hlt, h3, zB_0, reduceCtorEq, hwt, h5]
      · have cw' : (nI W = nI 0) = False := zq_ne cw (by omega) (by omega)
        rw [decide_eq_false cw, if_neg (by decide)]
        obtain ⟨I4, f4, k1, k2, h4⟩ := ih (n + 1) c f I3 (by omega) (by omega) (zFg_t fr (zFc_g f3)) e651 hf3
        refine ⟨I4, f4, k1, k2, fun d P => ?_⟩
        rw [← h4 d P, zs_40_8]
        simp (disch := omega) only [↓zs_40_10, ↓zs_40_12, ↓zs_40_15, ↓zs_40_16, ↓zs_40_17, ↓zs_40_18, ↓zs_40_20, ↓zs_40_22, ↓zs_40_25, ↓zs_40_28, ↓zs_40_29, ↓zs_40_30, ↓zs_40_33, ↓zs_40_34, ↓zs_40_37, ↓zs_40_40, ↓zs_40_41, ↓zs_40_43, ↓zs_40_46, ↓zs_40_49, ↓zs_40_52, zx_pu_s, zx_pu_n, zx_rv_s, zx_rv_n, true_and, and_true, true_or, or_true, zb_0, zb_1, zq_lcl, zq_lcg, zq_lce, eq_self, ite_true, ite_false, zk_1, zw_1, zq_1_0, zq_1_1, zq_1_2, zq_1_3, zq_1_4, zq_1_5, zk_11, zw_11, zq_11_0, zq_11_1, zq_11_2, zk_65, zw_65, zk_66, zw_66, zq_65_0, zq_66_0, zq_66_1, zq_66_2, nI_ltI, nI_add, hlt, h3, zB_0, reduceCtorEq, hwt, cw']
end FS
