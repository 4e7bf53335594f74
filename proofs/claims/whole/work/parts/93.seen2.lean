/-! seen, the class's search -/
def zf_kp (K : Nat × Int32 × Int32 × Bool × Bool) (x y : Int32) : Nat × Int32 × Int32 × Bool × Bool := (K.1 + 1, if K.1 = 0 then x else K.2.1, if K.1 = 0 then y else K.2.2.1, if K.1 = 0 then true else K.2.2.2.1 && decide (x = K.2.1), if K.1 = 0 then true else K.2.2.2.2 && decide (y = K.2.2.1))
def zf_sk (g : Nat → Bool) : Nat → Nat → Nat × Int32 × Int32 × Bool × Bool → Nat × Int32 × Int32 × Bool × Bool
  | 0, _, K => K
  | mm + 1, n, K => zf_sk g mm (n + 1) (if g n = true then zf_kp K (nI (n / 10)) (nI (n % 10)) else K)
def zf_sg (B : Nat → Int32) (T : Nat → Int64) (k n : Nat) : Bool := zf_fr B (n / 10) (n % 10) && zf_ft T (fun s => zf_ni (zf_fo B (n / 10) (n % 10)) k (117 + s)) (zn B) 0
theorem zf_ft_eq {T : Nat → Int64} {D E : Nat → Int32} : ∀ mm s, (∀ i, s ≤ i → i < s + mm → D i = E i) → zf_ft T D mm s = zf_ft T E mm s := by
  intro mm
  induction mm with
  | zero => intro s _; rfl
  | succ mm ih =>
    intro s h
    rw [zf_ft, zf_ft, h s (by omega) (by omega), ih (s + 1) (fun i h1 h2 => h i (by omega) (by omega))]
section SL
variable {Lh m : Nat} {I : zx_MI} {J : zx_MJ}
theorem sc_seenL {t k : Nat} (v : zInv I J m) (hm : m < 2 ^ 29) (ht : t < 4) (hk : k ≤ 60) (e5 : I (102 + 2 * t) 3 = nI (zn (I 139))) : ∀ mm n K I2, n + mm = 80 → K.1 ≤ n + 1 → zFg I I2 → zK I2 K.1 K.2.1 K.2.2.1 K.2.2.2.1 K.2.2.2.2 → ∃ I3, zFg I I3 ∧ zK I3 (zf_sk (zf_sg (I 139) (J (103 + 2 * t)) k) mm n K).1 (zf_sk (zf_sg (I 139) (J (103 + 2 * t)) k) mm n K).2.1 (zf_sk (zf_sg (I 139) (J (103 + 2 * t)) k) mm n K).2.2.1 (zf_sk (zf_sg (I 139) (J (103 + 2 * t)) k) mm n K).2.2.2.1 (zf_sk (zf_sg (I 139) (J (103 + 2 * t)) k) mm n K).2.2.2.2 ∧ ∀ d P, zx_wp (d + 8) 41 8 [.ref 65, .ref 1, .ref 11, .ref (102 + 2 * t), .int (nI k), .int (nI n)] [] (zx_LL Lh) I2 J P = P none (zx_LL Lh) I3 J := by
  obtain ⟨⟨hw, hh, hN⟩, gr, g, ex, ok, N8, wh⟩ := zInv_k v
  have l5 : (102 + 2 * t < 5000) = True := eq_true (by omega)
  intro mm
  induction mm with
  | zero =>
    intro n K I2 hn hc fr hK
    obtain rfl : n = 80 := by omega
    refine ⟨I2, fr, hK, fun d P => ?_⟩
    rw [zs_41_8]
    simp (disch := omega) only [↓zs_41_10, ↓zs_41_12, ↓zs_41_15, ↓zs_41_16, ↓zs_41_17, ↓zs_41_18, ↓zs_41_20, ↓zs_41_22, ↓zs_41_25, ↓zs_41_28, ↓zs_41_29, ↓zs_41_30, ↓zs_41_33, ↓zs_41_36, ↓zs_41_37, ↓zs_41_39, ↓zs_41_42, ↓zs_41_45, ↓zs_41_48, zx_pu_s, zx_pu_n, zx_rv_s, zx_rv_n, true_and, and_true, true_or, or_true, zb_0, zb_1, zq_lcl, zq_lcg, zq_lce, eq_self, ite_true, ite_false, nI_ltI, Nat.lt_irrefl]
  | succ mm ih =>
    intro n K I2 hn hc fr hK
    have hlt : n < 80 := by omega
    have sq : zR_sq I2 J 1 (I 139) := zR_sq_f v.2.2.1 (fun a j h1 h2 h3 h4 => fr a j (by omega)) (fun _ => rfl)
    have rel : zR_st I2 11 (I 139) := zR_st_f v.2.2.2.1 (fun a j h1 h2 => fr a j (by omega))
    obtain ⟨I3, f3, r3, h3⟩ := sc_begun (Lh := Lh) (J := J) (n := n) (k := k) v.2.1 (by omega) sq rel hlt hk
    have hK3 : zK I3 K.1 K.2.1 K.2.2.1 K.2.2.2.1 K.2.2.2.2 := by
      unfold zK
      rw [f3 65 1 (by decide), f3 65 2 (by decide), f3 65 3 (by decide), f3 65 4 (by decide), f3 65 5 (by decide)]
      exact hK
    have e53 : I3 (102 + 2 * t) 3 = nI (zn (I 139)) := (f3 _ _ (by omega)).trans ((fr _ _ (by omega)).trans e5)
    rw [zf_sk]
    cases c1 : zf_fr (I 139) (n / 10) (n % 10) with
    | false =>
      have cg : zf_sg (I 139) (J (103 + 2 * t)) k n = false := by unfold zf_sg; rw [c1, Bool.false_and]
      rw [c1] at h3
      rw [cg, if_neg (by decide)]
      obtain ⟨I4, f4, g1, h4⟩ := ih (n + 1) K I3 (by omega) (by omega) (zFg_t fr (zFc_g f3)) hK3
      refine ⟨I4, f4, g1, fun d P => ?_⟩
      rw [← h4 d P, zs_41_8]
      simp (disch := omega) only [↓zs_41_10, ↓zs_41_12, ↓zs_41_15, ↓zs_41_16, ↓zs_41_17, ↓zs_41_18, ↓zs_41_20, ↓zs_41_22, ↓zs_41_25, ↓zs_41_28, ↓zs_41_29, ↓zs_41_30, ↓zs_41_33, ↓zs_41_36, ↓zs_41_37, ↓zs_41_39, ↓zs_41_42, ↓zs_41_45, ↓zs_41_48, zx_pu_s, zx_pu_n, zx_rv_s, zx_rv_n, true_and, and_true, true_or, or_true, zb_0, zb_1, zq_lcl, zq_lcg, zq_lce, eq_self, ite_true, ite_false, zk_1, zw_1, zq_1_0, zq_1_1, zq_1_2, zq_1_3, zq_1_4, zq_1_5, zk_11, zw_11, zq_11_0, zq_11_1, zq_11_2, zk_65, zw_65, zk_66, zw_66, zq_65_0, zq_66_0, zq_66_1, zq_66_2, nI_ltI, nI_add, hlt, h3, zB_0, reduceCtorEq]
    | true =>
      rw [c1] at h3
      have r4 := r3 c1
      have hft := sc_fits (Lh := Lh) (I := I3) (J := J) (t := t) ht N8 e53
      have ee : zf_ft (J (103 + 2 * t)) (I3 68) (zn (I 139)) 0 = zf_ft (J (103 + 2 * t)) (fun s => zf_ni (zf_fo (I 139) (n / 10) (n % 10)) k (117 + s)) (zn (I 139)) 0 := zf_ft_eq _ _ (fun i h1 h2 => (r4.2 i (by omega)).2.1)
      rw [ee] at hft
      have cg : zf_sg (I 139) (J (103 + 2 * t)) k n = zf_ft (J (103 + 2 * t)) (fun s => zf_ni (zf_fo (I 139) (n / 10) (n % 10)) k (117 + s)) (zn (I 139)) 0 := by unfold zf_sg; rw [c1, Bool.true_and]
      rw [cg]
      cases cw : zf_ft (J (103 + 2 * t)) (fun s => zf_ni (zf_fo (I 139) (n / 10) (n % 10)) k (117 + s)) (zn (I 139)) 0 with
      | false =>
        rw [cw] at hft
        rw [if_neg (by decide)]
        obtain ⟨I4, f4, g1, h4⟩ := ih (n + 1) K I3 (by omega) (by omega) (zFg_t fr (zFc_g f3)) hK3
        refine ⟨I4, f4, g1, fun d P => ?_⟩
        rw [← h4 d P, zs_41_8]
        simp (disch := omega) only [↓zs_41_10, ↓zs_41_12, ↓zs_41_15, ↓zs_41_16, ↓zs_41_17, ↓zs_41_18, ↓zs_41_20, ↓zs_41_22, ↓zs_41_25, ↓zs_41_28, ↓zs_41_29, ↓zs_41_30, ↓zs_41_33, ↓zs_41_36, ↓zs_41_37, ↓zs_41_39, ↓zs_41_42, ↓zs_41_45, ↓zs_41_48, zx_pu_s, zx_pu_n, zx_rv_s, zx_rv_n, true_and, and_true, true_or, or_true, zb_0, zb_1, zq_lcl, zq_lcg, zq_lce, eq_self, ite_true, ite_false, zk_1, zw_1, zq_1_0, zq_1_1, zq_1_2, zq_1_3, zq_1_4, zq_1_5, zk_11, zw_11, zq_11_0, zq_11_1, zq_11_2, zk_65, zw_65, zk_66, zw_66, zq_65_0, zq_66_0, zq_66_1, zq_66_2, nI_ltI, nI_add, hlt, h3, zB_0, reduceCtorEq, hft]
      | true =>
        rw [cw] at hft
        rw [if_pos rfl]
        obtain ⟨I5, f5, K5, h5⟩ := sc_foundK (Lh := Lh) (J := J) (n := nI n) (x := nI (n / 10)) (y := nI (n % 10)) (by omega) hK3 (.inr ⟨n, hlt, rfl, rfl, rfl⟩)
        obtain ⟨I4, f4, g1, h4⟩ := ih (n + 1) (zf_kp K (nI (n / 10)) (nI (n % 10))) I5 (by omega) (by unfold zf_kp; dsimp only; omega) (zFg_t (zFg_t fr (zFc_g f3)) (fun a j q => f5 a j (by omega))) K5
        refine ⟨I4, f4, g1, fun d P => ?_⟩
        rw [← h4 d P, zs_41_8]
        simp (disch := omega) only [↓zs_41_10, ↓zs_41_12, ↓zs_41_15, ↓zs_41_16, ↓zs_41_17, ↓zs_41_18, ↓zs_41_20, ↓zs_41_22, ↓zs_41_25, ↓zs_41_28, ↓zs_41_29, ↓zs_41_30, ↓zs_41_33, ↓zs_41_36, ↓zs_41_37, ↓zs_41_39, ↓zs_41_42, ↓zs_41_45, ↓zs_41_48, zx_pu_s, zx_pu_n, zx_rv_s, zx_rv_n, true_and, and_true, true_or, or_true, zb_0, zb_1, zq_lcl, zq_lcg, zq_lce, eq_self, ite_true, ite_false, zk_1, zw_1, zq_1_0, zq_1_1, zq_1_2, zq_1_3, zq_1_4, zq_1_5, zk_11, zw_11, zq_11_0, zq_11_1, zq_11_2, zk_65, zw_65, zk_66, zw_66, zq_65_0, zq_66_0, zq_66_1, zq_66_2, nI_ltI, nI_add, hlt, h3, zB_0, reduceCtorEq, hft, h5]
end SL
