/-! seen, all that the class finds -/
def zf_s0 (B : Nat → Int32) (T : Nat → Int64) (k : Nat) : Nat × Int32 × Int32 × Bool × Bool := if zf_ft T (fun s => zf_ni B k (117 + s)) (zn B) 0 = true then zf_kp (0, 0, 0, true, true) (-1) (-1) else (0, 0, 0, true, true)
def zf_sn (B : Nat → Int32) (T : Nat → Int64) (k : Nat) : Nat × Int32 × Int32 × Bool × Bool := zf_sk (zf_sg B T k) 80 0 (zf_s0 B T k)
section SA
variable {Lh m : Nat} {I : zx_MI} {J : zx_MJ}
theorem sc_seenA {t k : Nat} (v : zInv I J m) (hm : m < 2 ^ 29) (ht : t < 4) (hk : k ≤ 60) (e5 : I (102 + 2 * t) 3 = nI (zn (I 139))) : ∃ I3, zFg I I3 ∧ zK I3 (zf_sn (I 139) (J (103 + 2 * t)) k).1 (zf_sn (I 139) (J (103 + 2 * t)) k).2.1 (zf_sn (I 139) (J (103 + 2 * t)) k).2.2.1 (zf_sn (I 139) (J (103 + 2 * t)) k).2.2.2.1 (zf_sn (I 139) (J (103 + 2 * t)) k).2.2.2.2 ∧ ∀ d P, zx_rn (d + 8) 41 [.ref 65, .ref 1, .ref 11, .ref (102 + 2 * t), .int (nI k)] (zx_LL Lh) I J P = P none (zx_LL Lh) I3 J := by
  obtain ⟨⟨hw, hh, hN⟩, gr, g, ex, ok, N8, wh⟩ := zInv_k v
  have l5 : (102 + 2 * t < 5000) = True := eq_true (by omega)
  have m80 : ((-1 : Int32) < nI 80) = True := eq_true (by decide)
  have m0 : (-1 : Int32) + nI 1 = nI 0 := by decide
  have c10 : (nI 1 = nI 0) = False := eq_false (by decide)
  have fr : zFg I (zx_u I 65 1 (nI 0)) := fun a j n => zu_n (by omega)
  have sq : zR_sq (zx_u I 65 1 (nI 0)) J 1 (I 139) := zR_sq_f v.2.2.1 (fun a j h1 h2 h3 h4 => fr a j (by omega)) (fun _ => rfl)
  have rel : zR_st (zx_u I 65 1 (nI 0)) 11 (I 139) := zR_st_f v.2.2.2.1 (fun a j h1 h2 => fr a j (by omega))
  obtain ⟨I2, f2, r2, h2⟩ := sc_begun0 (Lh := Lh) (J := J) (k := k) v.2.1 (by omega) sq rel hk
  have e52 : I2 (102 + 2 * t) 3 = nI (zn (I 139)) := (f2 _ _ (by omega)).trans ((fr _ _ (by omega)).trans e5)
  have hft := sc_fits (Lh := Lh) (I := I2) (J := J) (t := t) ht N8 e52
  rw [show zf_ft (J (103 + 2 * t)) (I2 68) (zn (I 139)) 0 = zf_ft (J (103 + 2 * t)) (fun s => zf_ni (I 139) k (117 + s)) (zn (I 139)) 0 from zf_ft_eq _ _ (fun i h1 h2 => (r2.2 i (by omega)).2.1)] at hft
  have e1 : I2 65 1 = nI 0 := (f2 65 1 (by decide)).trans (zu_s _ _ _ _)
  have k0 : zK I2 0 0 0 true true := ⟨e1, fun h => absurd rfl h⟩
  unfold zf_sn zf_s0
  cases c : zf_ft (J (103 + 2 * t)) (fun s => zf_ni (I 139) k (117 + s)) (zn (I 139)) 0 with
  | false =>
    rw [c] at hft
    rw [if_neg (by decide)]
    obtain ⟨I3, f3, g3, h3⟩ := sc_seenL (Lh := Lh) (t := t) v hm ht hk e5 80 0 (0, 0, 0, true, true) I2 (by omega) (by show 0 ≤ _; omega) (zFg_t fr (zFc_g f2)) k0
    refine ⟨I3, f3, g3, fun d P => ?_⟩
    rw [← h3 d P, ze_41]
    simp (disch := omega) only [↓zs_41_0, ↓zs_41_1, ↓zs_41_2, ↓zs_41_5, ↓zs_41_6, zx_pu_s, zx_pu_n, zx_rv_s, zx_rv_n, true_and, and_true, true_or, or_true, zb_0, zb_1, zq_lcl, zq_lcg, zq_lce, eq_self, ite_true, ite_false, zk_65, zw_65, zq_65_0]
    rw [zs_41_8]
    simp (disch := omega) only [↓zs_41_10, ↓zs_41_12, ↓zs_41_15, ↓zs_41_16, ↓zs_41_17, ↓zs_41_18, ↓zs_41_20, ↓zs_41_22, ↓zs_41_25, ↓zs_41_28, ↓zs_41_29, ↓zs_41_30, ↓zs_41_33, ↓zs_41_36, ↓zs_41_37, ↓zs_41_39, ↓zs_41_42, ↓zs_41_45, ↓zs_41_48, zx_pu_s, zx_pu_n, zx_rv_s, zx_rv_n, true_and, and_true, true_or, or_true, zb_0, zb_1, zq_lcl, zq_lcg, zq_lce, eq_self, ite_true, ite_false, zk_1, zw_1, zq_1_0, zq_1_1, zq_1_2, zq_1_3, zq_1_4, zq_1_5, zk_11, zw_11, zq_11_0, zq_11_1, zq_11_2, zk_65, zw_65, zk_66, zw_66, zq_65_0, zq_66_0, zq_66_1, zq_66_2, m80, h2, c10, hft, zB_0, reduceCtorEq, m0]
  | true =>
    rw [c] at hft
    rw [if_pos rfl]
    obtain ⟨I5, f5, K5, h5⟩ := sc_foundK (Lh := Lh) (J := J) (n := -1) (x := -1) (y := -1) (by decide) k0 (.inl ⟨rfl, rfl, rfl⟩)
    obtain ⟨I3, f3, g3, h3⟩ := sc_seenL (Lh := Lh) (t := t) v hm ht hk e5 80 0 (zf_kp (0, 0, 0, true, true) (-1) (-1)) I5 (by omega) (by unfold zf_kp; dsimp only; omega) (zFg_t (zFg_t fr (zFc_g f2)) (fun a j q => f5 a j (by omega))) K5
    refine ⟨I3, f3, g3, fun d P => ?_⟩
    rw [← h3 d P, ze_41]
    simp (disch := omega) only [↓zs_41_0, ↓zs_41_1, ↓zs_41_2, ↓zs_41_5, ↓zs_41_6, zx_pu_s, zx_pu_n, zx_rv_s, zx_rv_n, true_and, and_true, true_or, or_true, zb_0, zb_1, zq_lcl, zq_lcg, zq_lce, eq_self, ite_true, ite_false, zk_65, zw_65, zq_65_0]
    rw [zs_41_8]
    simp (disch := omega) only [↓zs_41_10, ↓zs_41_12, ↓zs_41_15, ↓zs_41_16, ↓zs_41_17, ↓zs_41_18, ↓zs_41_20, ↓zs_41_22, ↓zs_41_25, ↓zs_41_28, ↓zs_41_29, ↓zs_41_30, ↓zs_41_33, ↓zs_41_36, ↓zs_41_37, ↓zs_41_39, ↓zs_41_42, ↓zs_41_45, ↓zs_41_48, zx_pu_s, zx_pu_n, zx_rv_s, zx_rv_n, true_and, and_true, true_or, or_true, zb_0, zb_1, zq_lcl, zq_lcg, zq_lce, eq_self, ite_true, ite_false, zk_1, zw_1, zq_1_0, zq_1_1, zq_1_2, zq_1_3, zq_1_4, zq_1_5, zk_11, zw_11, zq_11_0, zq_11_1, zq_11_2, zk_65, zw_65, zk_66, zw_66, zq_65_0, zq_66_0, zq_66_1, zq_66_2, m80, h2, c10, hft, zB_0, reduceCtorEq, m0, h5]
end SA
