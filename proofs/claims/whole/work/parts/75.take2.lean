/-! the smallest set -/
def zf_pop (a : Nat) : Nat := zf_cnt a.testBit 8 0
def zf_pc : Option Nat → Nat
  | none => 9
  | some c => zf_pop c
def zf_oi : Option Nat → Int32
  | none => -1
  | some c => nI c
def zf_min (g : Nat → Bool) : Nat → Nat → Option Nat → Option Nat
  | 0, _, b => b
  | mm + 1, a, b => zf_min g mm (a + 1) (if (decide (zf_pop a < zf_pc b) && g a) = true then some a else b)
theorem zf_pop_le (a : Nat) : zf_pop a ≤ 8 := zf_cnt_le _ 8 0
theorem zf_min_o (g : Nat → Bool) : ∀ mm a b H, a + mm ≤ H → (∀ c, b = some c → c < H) → ∀ c, zf_min g mm a b = some c → c < H := by
  intro mm
  induction mm with
  | zero => intro a b H _ h c e; exact h c e
  | succ mm ih =>
    intro a b H ha h c e
    unfold zf_min at e
    refine ih (a + 1) _ H (by omega) (fun c2 e2 => ?_) c e
    split at e2
    · have := Option.some.inj e2; omega
    · exact h c2 e2
section TS
variable {Lh m : Nat} {I : zx_MI} {J : zx_MJ}
theorem sc_smallest {k : Nat} (v : zInv I J m) (hm : m < 2 ^ 29) (hk : k < 64) : ∃ I2, zFc 19 I I2 ∧ ∀ d P, zx_rn (d + 5) 133 [.ref 0, .int (nI k)] (zx_LL Lh) I J P = P (some (.int (zf_oi (zf_min (zf_gd 109 (I 139) k) (2 ^ zn (I 139)) 0 none)))) (zx_LL Lh) I2 J := by
  obtain ⟨⟨hw, hh, hN⟩, gr, g, ex, ok, N8, wh⟩ := zInv_k v
  have hH : 2 ^ zn (I 139) ≤ 256 := Nat.pow_le_pow_right (n := 2) (by decide) N8
  have hsh := zq_shl1 (s := zn (I 139)) (by omega)
  have hg := fun a ha I1 f => sc_freeIf (Lh := Lh) (I := I) (J := J) (k := k) (a := a) (I1 := I1) v hm hk ha f
  generalize zf_gd 109 (I 139) k = gd at *
  generalize hHe : 2 ^ zn (I 139) = H at *
  have loop : ∀ mm a b I1, a + mm = H → zFc 19 I I1 → ∃ I2, zFc 19 I I2 ∧ ∀ d P, zx_wp (d + 5) 133 8 [.ref 0, .int (nI k), .int (zf_oi b), .int (nI (zf_pc b)), .int (nI a)] [] (zx_LL Lh) I1 J P = P (some (.int (zf_oi (zf_min gd mm a b)))) (zx_LL Lh) I2 J := by
    intro mm
    induction mm with
    | zero =>
      intro a b I1 ha f
      have e8 : I1 1 8 = nI (zn (I 139)) := (f 1 8 (by decide)).trans hN
      obtain rfl : a = H := by omega
      refine ⟨I1, f, fun d P => ?_⟩
      rw [zs_133_8]
      simp (disch := omega) only [↓zs_133_0, ↓zs_133_1, ↓zs_133_2, ↓zs_133_4, ↓zs_133_5, ↓zs_133_6, ↓zs_133_10, ↓zs_133_11, ↓zs_133_12, ↓zs_133_15, ↓zs_133_18, ↓zs_133_19, ↓zs_133_22, ↓zs_133_24, ↓zs_133_27, ↓zs_133_28, ↓zs_133_31, ↓zs_133_32, ↓zs_133_33, ↓zs_133_35, ↓zs_133_38, ↓zs_133_41, ↓zs_133_43, ↓zs_133_44, ↓zs_133_46, ↓zs_133_49, ↓zs_133_50, ↓zs_133_53, ↓zs_133_56, ↓zs_133_57, zx_pu_s, zx_pu_n, zx_rv_s, zx_rv_n, true_and, and_true, true_or, or_true, zb_0, zb_1, zq_lcl, zq_lcg, zq_lce, eq_self, ite_true, ite_false, zk_0, zw_0, zk_1, zw_1, zq_0_0, zq_0_1, zq_0_2, zq_0_3, zq_0_4, zq_0_5, zq_0_6, zq_0_7, zq_0_8, zq_0_9, zq_0_10, zq_0_11, zq_1_0, zq_1_1, zq_1_2, zq_1_3, zq_1_4, zq_1_5, nI_ltI, Nat.lt_irrefl, e8, hsh]
      rfl
    | succ mm ih =>
      intro a b I1 ha f
      have e8 : I1 1 8 = nI (zn (I 139)) := (f 1 8 (by decide)).trans hN
      have hlt : a < H := by omega
      have hp := zf_pop_le a
      have hpc : zf_pc b ≤ 9 := by
        cases b with
        | none => exact Nat.le_refl 9
        | some c => have := zf_pop_le c; show zf_pop c ≤ 9; omega
      have hbc : ∀ d L I J P, zx_rn d 274 [.int (nI a)] L I J P = P (some (.int (nI (zf_pop a)))) L I J := fun d L I J P => zl_bitCountI (d := d) (L := L) (I := I) (J := J) (P := P) (by omega)
      unfold zf_min
      by_cases c1 : zf_pop a < zf_pc b
      · obtain ⟨I2, f2, h2⟩ := hg a (by omega) I1 f
        rw [decide_eq_true c1, Bool.true_and]
        cases c2 : gd a with
        | false =>
          rw [c2] at h2
          rw [if_neg (by decide)]
          obtain ⟨I3, f3, h3⟩ := ih (a + 1) b I2 (by omega) f2
          refine ⟨I3, f3, fun d P => ?_⟩
          rw [← h3 d P, zs_133_8]
          simp (disch := omega) only [↓zs_133_0, ↓zs_133_1, ↓zs_133_2, ↓zs_133_4, ↓zs_133_5, ↓zs_133_6, ↓zs_133_10, ↓zs_133_11, ↓zs_133_12, ↓zs_133_15, ↓zs_133_18, ↓zs_133_19, ↓zs_133_22, ↓zs_133_24, ↓zs_133_27, ↓zs_133_28, ↓zs_133_31, ↓zs_133_32, ↓zs_133_33, ↓zs_133_35, ↓zs_133_38, ↓zs_133_41, ↓zs_133_43, ↓zs_133_44, ↓zs_133_46, ↓zs_133_49, ↓zs_133_50, ↓zs_133_53, ↓zs_133_56, ↓zs_133_57, zx_pu_s, zx_pu_n, zx_rv_s, zx_rv_n, true_and, and_true, true_or, or_true, zb_0, zb_1, zq_lcl, zq_lcg, zq_lce, eq_self, ite_true, ite_false, zk_0, zw_0, zk_1, zw_1, zq_0_0, zq_0_1, zq_0_2, zq_0_3, zq_0_4, zq_0_5, zq_0_6, zq_0_7, zq_0_8, zq_0_9, zq_0_10, zq_0_11, zq_1_0, zq_1_1, zq_1_2, zq_1_3, zq_1_4, zq_1_5, zn_10, zn_40, zn_040, zn_340, nI_add, zin_nI, nI_clamp, nI_ltI, nI_eq, pk_mul, nI_1, Nat.lt_irrefl, hlt, e8, hsh, hbc, c1, h2, zB_0, reduceCtorEq]
        | true =>
          rw [c2] at h2
          rw [if_pos rfl]
          obtain ⟨I3, f3, h3⟩ := ih (a + 1) (some a) I2 (by omega) f2
          have o1 : zf_oi (some a) = nI a := rfl
          have o2 : zf_pc (some a) = zf_pop a := rfl
          rw [o1, o2] at h3
          refine ⟨I3, f3, fun d P => ?_⟩
          rw [← h3 d P, zs_133_8]
          simp (disch := omega) only [↓zs_133_0, ↓zs_133_1, ↓zs_133_2, ↓zs_133_4, ↓zs_133_5, ↓zs_133_6, ↓zs_133_10, ↓zs_133_11, ↓zs_133_12, ↓zs_133_15, ↓zs_133_18, ↓zs_133_19, ↓zs_133_22, ↓zs_133_24, ↓zs_133_27, ↓zs_133_28, ↓zs_133_31, ↓zs_133_32, ↓zs_133_33, ↓zs_133_35, ↓zs_133_38, ↓zs_133_41, ↓zs_133_43, ↓zs_133_44, ↓zs_133_46, ↓zs_133_49, ↓zs_133_50, ↓zs_133_53, ↓zs_133_56, ↓zs_133_57, zx_pu_s, zx_pu_n, zx_rv_s, zx_rv_n, true_and, and_true, true_or, or_true, zb_0, zb_1, zq_lcl, zq_lcg, zq_lce, eq_self, ite_true, ite_false, zk_0, zw_0, zk_1, zw_1, zq_0_0, zq_0_1, zq_0_2, zq_0_3, zq_0_4, zq_0_5, zq_0_6, zq_0_7, zq_0_8, zq_0_9, zq_0_10, zq_0_11, zq_1_0, zq_1_1, zq_1_2, zq_1_3, zq_1_4, zq_1_5, zn_10, zn_40, zn_040, zn_340, nI_add, zin_nI, nI_clamp, nI_ltI, nI_eq, pk_mul, nI_1, Nat.lt_irrefl, hlt, e8, hsh, hbc, c1, h2, zB_0, reduceCtorEq]
      · rw [decide_eq_false c1, Bool.false_and, if_neg (by decide)]
        obtain ⟨I3, f3, h3⟩ := ih (a + 1) b I1 (by omega) f
        refine ⟨I3, f3, fun d P => ?_⟩
        rw [← h3 d P, zs_133_8]
        simp (disch := omega) only [↓zs_133_0, ↓zs_133_1, ↓zs_133_2, ↓zs_133_4, ↓zs_133_5, ↓zs_133_6, ↓zs_133_10, ↓zs_133_11, ↓zs_133_12, ↓zs_133_15, ↓zs_133_18, ↓zs_133_19, ↓zs_133_22, ↓zs_133_24, ↓zs_133_27, ↓zs_133_28, ↓zs_133_31, ↓zs_133_32, ↓zs_133_33, ↓zs_133_35, ↓zs_133_38, ↓zs_133_41, ↓zs_133_43, ↓zs_133_44, ↓zs_133_46, ↓zs_133_49, ↓zs_133_50, ↓zs_133_53, ↓zs_133_56, ↓zs_133_57, zx_pu_s, zx_pu_n, zx_rv_s, zx_rv_n, true_and, and_true, true_or, or_true, zb_0, zb_1, zq_lcl, zq_lcg, zq_lce, eq_self, ite_true, ite_false, zk_0, zw_0, zk_1, zw_1, zq_0_0, zq_0_1, zq_0_2, zq_0_3, zq_0_4, zq_0_5, zq_0_6, zq_0_7, zq_0_8, zq_0_9, zq_0_10, zq_0_11, zq_1_0, zq_1_1, zq_1_2, zq_1_3, zq_1_4, zq_1_5, zn_10, zn_40, zn_040, zn_340, nI_add, zin_nI, nI_clamp, nI_ltI, nI_eq, pk_mul, nI_1, Nat.lt_irrefl, hlt, e8, hsh, hbc, c1]
  obtain ⟨I2, f2, h2⟩ := loop H 0 none I (by omega) (zFc_r _ _)
  have o1 : zf_oi none = -1 := rfl
  have o2 : zf_pc none = 9 := rfl
  rw [o1, o2] at h2
  refine ⟨I2, f2, fun d P => ?_⟩
  rw [← h2 d P, ze_133]
  simp (disch := omega) only [↓zs_133_0, ↓zs_133_1, ↓zs_133_2, ↓zs_133_4, ↓zs_133_5, ↓zs_133_6, zx_pu_s, zx_pu_n, zx_rv_s, zx_rv_n, true_and, and_true, true_or, or_true, zb_0, zb_1, zq_lcl, zq_lcg, zq_lce, eq_self, ite_true, ite_false]
end TS
