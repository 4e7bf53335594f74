/-! ways: how far one comes -/
def zf_go (B : Nat → Int32) (q : Nat) : Nat → Int64
  | 0 => zf_one q
  | n + 1 => zf_bes (zw B) (zh B) (zf_go B q n) &&& zf_opn B n
theorem zf_go_sub {B : Nat → Int32} {q : Nat} (hq : q < zw B * zh B) (h64 : zw B * zh B ≤ 64) : ∀ n, zf_sub (zw B) (zh B) (zf_go B q n) := by
  intro n
  cases n with
  | zero =>
    intro j hj e
    unfold zf_go at e
    rw [zt_one (by omega) hj, decide_eq_true_iff] at e
    omega
  | succ n =>
    intro j hj e
    unfold zf_go at e
    rw [zt_and, Bool.and_eq_true] at e
    exact zf_opn_sub B n j hj e.2
def zf_fewest (B : Nat → Int32) (q t : Nat) : Int32 := zf_first (fun n => zf_bit (zf_go B q n) t) 41 0
/-- the sides' looks ahead, and what they reckon with -/
def zLc (I : zx_MI) (J : zx_MJ) (B : Nat → Int32) : Prop := zW J (zw B) (zh B) ∧ I 1 6 = nI (zw B) ∧ ∀ i, i < 40 → J 75 i = zf_opn B i
def zLm (I : zx_MI) (J : zx_MJ) (B : Nat → Int32) (n : Nat) : Prop := zx_SI I ∧ I 139 = B ∧ ∀ i, i < n → J 146 i = zf_opn B i
section GO
variable {d Lh m : Nat} {I : zx_MI} {J : zx_MJ} {P : Option Value → zx_Lay → zx_MI → zx_MJ → Prop} {B : Nat → Int32}
theorem sc_spreadL {b : Int64} (z : zLc I J B) (v : zV B m) (w0 : 0 < zw B) (hb : zf_sub (zw B) (zh B) b) : zx_rn d 93 [.ref 70, .ref 1, .long b] (zx_LL Lh) I J P = P (some (.long (zf_bes (zw B) (zh B) b))) (zx_LL Lh) I J := sc_spread z.1 z.2.1 w0 v.1.1.2.2.2.1 v.1.1.2.2.2.2.1 hb
theorem sp_besidesL {n : Nat} {b : Int64} (z : zLm I J B n) (v : zV B m) (w0 : 0 < zw B) (hb : zf_sub (zw B) (zh B) b) : zx_rn (d + 5) 242 [.ref 138, .long b] (zx_LL Lh) I J P = P (some (.long (zf_bes (zw B) (zh B) b))) (zx_LL Lh) I J := by
  obtain ⟨z1, z2, -⟩ := z
  rw [sp_besides (w := zw B) (h := zh B) z1 (by rw [z2]; exact v.1.1.1) (by rw [z2]; exact v.1.1.2.1) w0 v.1.1.2.2.2.1 v.1.1.2.2.2.2.1, zf_beL_eq w0 v.1.1.2.2.2.1 v.1.1.2.2.2.2.1 hb]
theorem sc_fewest {q t : Nat} (z : zLc I J B) (v : zV B m) (hq : q < zw B * zh B) (ht : t < 64) : ∀ d P, zx_rn (d + 1) 95 [.ref 70, .ref 1, .int (nI q), .int (nI t)] (zx_LL Lh) I J P = P (some (.int (zf_fewest B q t))) (zx_LL Lh) I J := by
  have w0 : 0 < zw B := Nat.pos_of_ne_zero (fun e => by rw [e, Nat.zero_mul] at hq; omega)
  have h64 : zw B * zh B ≤ 64 := Nat.mul_le_mul v.1.1.2.2.2.1 v.1.1.2.2.2.2.1
  have e40 : Int32.ofNat 40 = nI 40 := rfl
  have loop : ∀ mm n, n + mm = 41 → ∀ d P, zx_wp (d + 1) 95 8 [.ref 70, .ref 1, .int (nI q), .int (nI t), .long (zf_go B q n), zx_u0, .int (nI n)] [] (zx_LL Lh) I J P = P (some (.int (zf_first (fun n => zf_bit (zf_go B q n) t) mm n))) (zx_LL Lh) I J := by
    intro mm
    induction mm with
    | zero =>
      intro n hn d P
      obtain rfl : n = 41 := by omega
      rw [zs_95_8]
      simp (disch := omega) only [↓zs_95_10, ↓zs_95_12, ↓zs_95_15, ↓zs_95_17, ↓zs_95_18, ↓zs_95_19, ↓zs_95_20, ↓zs_95_21, ↓zs_95_22, ↓zs_95_23, ↓zs_95_26, ↓zs_95_28, ↓zs_95_29, ↓zs_95_31, ↓zs_95_32, ↓zs_95_35, ↓zs_95_36, ↓zs_95_39, ↓zs_95_40, ↓zs_95_41, ↓zs_95_43, ↓zs_95_46, ↓zs_95_47, ↓zs_95_50, ↓zs_95_52, ↓zs_95_53, ↓zs_95_54, ↓zs_95_56, ↓zs_95_59, ↓zs_95_62, ↓zs_95_63, zx_pu_s, zx_pu_n, zx_rv_s, zx_rv_n, true_and, and_true, true_or, or_true, zb_0, zb_1, zq_lcl, zq_lcg, zq_lce, eq_self, ite_true, ite_false, nI_ltI]
      rfl
    | succ mm ih =>
      intro n hn d P
      have h40 : ¬ 40 < n := by omega
      rw [zf_first, zs_95_8]
      cases c : zf_bit (zf_go B q n) t with
      | true =>
        rw [if_pos rfl]
        simp (disch := omega) only [↓zs_95_10, ↓zs_95_12, ↓zs_95_15, ↓zs_95_17, ↓zs_95_18, ↓zs_95_19, ↓zs_95_20, ↓zs_95_21, ↓zs_95_22, ↓zs_95_23, ↓zs_95_26, ↓zs_95_28, ↓zs_95_29, ↓zs_95_31, ↓zs_95_32, ↓zs_95_35, ↓zs_95_36, ↓zs_95_39, ↓zs_95_40, ↓zs_95_41, ↓zs_95_43, ↓zs_95_46, ↓zs_95_47, ↓zs_95_50, ↓zs_95_52, ↓zs_95_53, ↓zs_95_54, ↓zs_95_56, ↓zs_95_59, ↓zs_95_62, ↓zs_95_63, zx_pu_s, zx_pu_n, zx_rv_s, zx_rv_n, true_and, and_true, true_or, or_true, zb_0, zb_1, zq_lcl, zq_lcg, zq_lce, eq_self, ite_true, ite_false, nI_ltI, h40, zt_ushr, c, zl_10, reduceCtorEq]
      | false =>
        rw [if_neg (by decide)]
        by_cases c2 : n < 40
        · have hsp := fun d P => sc_spreadL (d := d) (Lh := Lh) (P := P) z v w0 (zf_go_sub hq h64 n)
          have eo := z.2.2 n c2
          have eg : zf_bes (zw B) (zh B) (zf_go B q n) &&& zf_opn B n = zf_go B q (n + 1) := rfl
          rw [← ih (n + 1) (by omega) d P]
          simp (disch := omega) only [↓zs_95_10, ↓zs_95_12, ↓zs_95_15, ↓zs_95_17, ↓zs_95_18, ↓zs_95_19, ↓zs_95_20, ↓zs_95_21, ↓zs_95_22, ↓zs_95_23, ↓zs_95_26, ↓zs_95_28, zx_pu_s, zx_pu_n, zx_rv_s, zx_rv_n, true_and, and_true, true_or, or_true, zb_0, zb_1, zq_lcl, zq_lcg, zq_lce, eq_self, ite_true, ite_false, nI_ltI, h40, zt_ushr, c, zl_10, reduceCtorEq]
          simp (disch := omega) only [↓zs_95_29, ↓zs_95_31, ↓zs_95_32, ↓zs_95_35, ↓zs_95_36, ↓zs_95_39, ↓zs_95_40, ↓zs_95_41, ↓zs_95_43, ↓zs_95_46, ↓zs_95_47, ↓zs_95_50, ↓zs_95_52, ↓zs_95_53, ↓zs_95_54, ↓zs_95_56, ↓zs_95_59, ↓zs_95_62, ↓zs_95_63, zx_pu_s, zx_pu_n, zx_rv_s, zx_rv_n, true_and, and_true, true_or, or_true, zb_0, zb_1, zq_lcl, zq_lcg, zq_lce, eq_self, ite_true, ite_false, zk_1, zw_1, zq_1_0, zq_1_1, zq_1_2, zq_1_3, zq_1_4, zq_1_5, zk_70, zw_70, zk_71, zw_71, zk_72, zw_72, zk_73, zw_73, zk_74, zw_74, zk_75, zw_75, zq_70_0, zq_70_1, zq_70_2, zq_70_3, zq_70_4, zq_71_0, zq_71_1, zq_71_2, nI_ltI, nI_add, zin_nI, nI_clamp, e40, c2, hsp, eo, eg, zn_340]
        · obtain rfl : n = 40 := by omega
          obtain rfl : mm = 0 := by omega
          simp (disch := omega) only [↓zs_95_10, ↓zs_95_12, ↓zs_95_15, ↓zs_95_17, ↓zs_95_18, ↓zs_95_19, ↓zs_95_20, ↓zs_95_21, ↓zs_95_22, ↓zs_95_23, ↓zs_95_26, ↓zs_95_28, zx_pu_s, zx_pu_n, zx_rv_s, zx_rv_n, true_and, and_true, true_or, or_true, zb_0, zb_1, zq_lcl, zq_lcg, zq_lce, eq_self, ite_true, ite_false, nI_ltI, h40, zt_ushr, c, zl_10, reduceCtorEq]
          simp (disch := omega) only [↓zs_95_29, ↓zs_95_31, ↓zs_95_32, ↓zs_95_35, ↓zs_95_36, ↓zs_95_39, ↓zs_95_40, ↓zs_95_41, ↓zs_95_43, ↓zs_95_46, ↓zs_95_47, ↓zs_95_50, ↓zs_95_52, ↓zs_95_53, ↓zs_95_54, ↓zs_95_56, ↓zs_95_59, ↓zs_95_62, ↓zs_95_63, zx_pu_s, zx_pu_n, zx_rv_s, zx_rv_n, true_and, and_true, true_or, or_true, zb_0, zb_1, zq_lcl, zq_lcg, zq_lce, eq_self, ite_true, ite_false, zk_70, zw_70, zk_71, zw_71, zk_72, zw_72, zk_73, zw_73, zk_74, zw_74, zk_75, zw_75, zq_70_0, zq_70_1, zq_70_2, zq_70_3, zq_70_4, zq_71_0, zq_71_1, zq_71_2, nI_ltI, nI_add, e40, Nat.lt_irrefl, zn_340]
          rw [zs_95_8]
          simp (disch := omega) only [↓zs_95_10, ↓zs_95_12, ↓zs_95_15, ↓zs_95_17, ↓zs_95_18, ↓zs_95_19, ↓zs_95_20, ↓zs_95_21, ↓zs_95_22, ↓zs_95_23, ↓zs_95_26, ↓zs_95_28, ↓zs_95_29, ↓zs_95_31, ↓zs_95_32, ↓zs_95_35, ↓zs_95_36, ↓zs_95_39, ↓zs_95_40, ↓zs_95_41, ↓zs_95_43, ↓zs_95_46, ↓zs_95_47, ↓zs_95_50, ↓zs_95_52, ↓zs_95_53, ↓zs_95_54, ↓zs_95_56, ↓zs_95_59, ↓zs_95_62, ↓zs_95_63, zx_pu_s, zx_pu_n, zx_rv_s, zx_rv_n, true_and, and_true, true_or, or_true, zb_0, zb_1, zq_lcl, zq_lcg, zq_lce, eq_self, ite_true, ite_false, nI_ltI]
          rfl
  intro d P
  rw [ze_95]
  simp (disch := omega) only [↓zs_95_0, ↓zs_95_1, ↓zs_95_2, ↓zs_95_3, ↓zs_95_5, ↓zs_95_6, zx_pu_s, zx_pu_n, zx_rv_s, zx_rv_n, true_and, and_true, true_or, or_true, zb_0, zb_1, zq_lcl, zq_lcg, zq_lce, eq_self, ite_true, ite_false]
  exact loop 41 0 (by omega) d P
theorem sc_reached {q n : Nat} (z : zLc I J B) (v : zV B m) (hq : q < zw B * zh B) (hn : n ≤ 40) : ∀ d P, zx_rn (d + 1) 94 [.ref 70, .ref 1, .int (nI q), .int (nI n)] (zx_LL Lh) I J P = P (some (.long (zf_go B q n))) (zx_LL Lh) I J := by
  have w0 : 0 < zw B := Nat.pos_of_ne_zero (fun e => by rw [e, Nat.zero_mul] at hq; omega)
  have h64 : zw B * zh B ≤ 64 := Nat.mul_le_mul v.1.1.2.2.2.1 v.1.1.2.2.2.2.1
  have e40 : Int32.ofNat 40 = nI 40 := rfl
  have loop : ∀ mm i, i + mm = n → ∀ d P, zx_wp (d + 1) 94 8 [.ref 70, .ref 1, .int (nI q), .int (nI n), .long (zf_go B q i), zx_u0, .int (nI i)] [] (zx_LL Lh) I J P = P (some (.long (zf_go B q n))) (zx_LL Lh) I J := by
    intro mm
    induction mm with
    | zero =>
      intro i hi d P
      obtain rfl : i = n := by omega
      rw [zs_94_8]
      simp (disch := omega) only [↓zs_94_10, ↓zs_94_11, ↓zs_94_14, ↓zs_94_16, ↓zs_94_17, ↓zs_94_20, ↓zs_94_21, ↓zs_94_24, ↓zs_94_25, ↓zs_94_26, ↓zs_94_28, ↓zs_94_31, ↓zs_94_32, ↓zs_94_35, ↓zs_94_37, ↓zs_94_38, ↓zs_94_39, ↓zs_94_41, ↓zs_94_44, ↓zs_94_47, ↓zs_94_49, zx_pu_s, zx_pu_n, zx_rv_s, zx_rv_n, true_and, and_true, true_or, or_true, zb_0, zb_1, zq_lcl, zq_lcg, zq_lce, eq_self, ite_true, ite_false, nI_ltI, Nat.lt_irrefl]
    | succ mm ih =>
      intro i hi d P
      have c1 : i < n := by omega
      have c2 : i < 40 := by omega
      have hsp := fun d P => sc_spreadL (d := d) (Lh := Lh) (P := P) z v w0 (zf_go_sub hq h64 i)
      have eo := z.2.2 i c2
      have eg : zf_bes (zw B) (zh B) (zf_go B q i) &&& zf_opn B i = zf_go B q (i + 1) := rfl
      rw [← ih (i + 1) (by omega) d P, zs_94_8]
      simp (disch := omega) only [↓zs_94_10, ↓zs_94_11, ↓zs_94_14, ↓zs_94_16, ↓zs_94_17, ↓zs_94_20, ↓zs_94_21, ↓zs_94_24, ↓zs_94_25, ↓zs_94_26, ↓zs_94_28, ↓zs_94_31, ↓zs_94_32, ↓zs_94_35, ↓zs_94_37, ↓zs_94_38, ↓zs_94_39, ↓zs_94_41, ↓zs_94_44, ↓zs_94_47, ↓zs_94_49, zx_pu_s, zx_pu_n, zx_rv_s, zx_rv_n, true_and, and_true, true_or, or_true, zb_0, zb_1, zq_lcl, zq_lcg, zq_lce, eq_self, ite_true, ite_false, zk_1, zw_1, zq_1_0, zq_1_1, zq_1_2, zq_1_3, zq_1_4, zq_1_5, zk_70, zw_70, zk_71, zw_71, zk_72, zw_72, zk_73, zw_73, zk_74, zw_74, zk_75, zw_75, zq_70_0, zq_70_1, zq_70_2, zq_70_3, zq_70_4, zq_71_0, zq_71_1, zq_71_2, nI_ltI, nI_add, zin_nI, nI_clamp, e40, c1, c2, hsp, eo, eg, zn_340]
  intro d P
  rw [ze_94]
  simp (disch := omega) only [↓zs_94_0, ↓zs_94_1, ↓zs_94_2, ↓zs_94_3, ↓zs_94_5, ↓zs_94_6, zx_pu_s, zx_pu_n, zx_rv_s, zx_rv_n, true_and, and_true, true_or, or_true, zb_0, zb_1, zq_lcl, zq_lcg, zq_lce, eq_self, ite_true, ite_false]
  exact loop n 0 (by omega) d P
theorem sp_wayL {q t : Nat} (z : zLm I J B 40) (v : zV B m) (hq : q < zw B * zh B) (ht : t < 64) : ∀ d P, zx_wp (d + 6) 244 13 [.ref 138, .int (nI q), .int (nI t), .long (zf_one q), zx_u0, .int (nI 0)] [] (zx_LL Lh) I J P = P (some (.int (zf_fewest B q t))) (zx_LL Lh) I J := by
  have w0 : 0 < zw B := Nat.pos_of_ne_zero (fun e => by rw [e, Nat.zero_mul] at hq; omega)
  have h64 : zw B * zh B ≤ 64 := Nat.mul_le_mul v.1.1.2.2.2.1 v.1.1.2.2.2.2.1
  have loop : ∀ mm n, n + mm = 41 → ∀ d P, zx_wp (d + 6) 244 13 [.ref 138, .int (nI q), .int (nI t), .long (zf_go B q n), zx_u0, .int (nI n)] [] (zx_LL Lh) I J P = P (some (.int (zf_first (fun n => zf_bit (zf_go B q n) t) mm n))) (zx_LL Lh) I J := by
    intro mm
    induction mm with
    | zero =>
      intro n hn d P
      obtain rfl : n = 41 := by omega
      rw [zs_244_13]
      simp (disch := omega) only [↓zs_244_15, ↓zs_244_17, ↓zs_244_20, ↓zs_244_21, ↓zs_244_22, ↓zs_244_25, ↓zs_244_28, ↓zs_244_30, ↓zs_244_31, ↓zs_244_33, ↓zs_244_35, ↓zs_244_38, ↓zs_244_39, ↓zs_244_40, ↓zs_244_43, ↓zs_244_44, ↓zs_244_47, ↓zs_244_49, ↓zs_244_50, ↓zs_244_51, ↓zs_244_52, ↓zs_244_55, ↓zs_244_58, ↓zs_244_59, zx_pu_s, zx_pu_n, zx_rv_s, zx_rv_n, true_and, and_true, true_or, or_true, zb_0, zb_1, zq_lcl, zq_lcg, zq_lce, eq_self, ite_true, ite_false, nI_ltI]
      rfl
    | succ mm ih =>
      intro n hn d P
      have h40 : ¬ 40 < n := by omega
      rw [zf_first, zs_244_13]
      cases c : zf_bit (zf_go B q n) t with
      | true =>
        rw [if_pos rfl]
        simp (disch := omega) only [↓zs_244_15, ↓zs_244_17, ↓zs_244_20, ↓zs_244_21, ↓zs_244_22, ↓zs_244_25, ↓zs_244_28, ↓zs_244_30, ↓zs_244_31, ↓zs_244_33, ↓zs_244_35, ↓zs_244_38, ↓zs_244_39, ↓zs_244_40, ↓zs_244_43, ↓zs_244_44, ↓zs_244_47, ↓zs_244_49, ↓zs_244_50, ↓zs_244_51, ↓zs_244_52, ↓zs_244_55, ↓zs_244_58, ↓zs_244_59, zx_pu_s, zx_pu_n, zx_rv_s, zx_rv_n, true_and, and_true, true_or, or_true, zb_0, zb_1, zq_lcl, zq_lcg, zq_lce, eq_self, ite_true, ite_false, nI_ltI, h40, sp_isIn, c, zB_0, reduceCtorEq]
      | false =>
        rw [if_neg (by decide)]
        by_cases c2 : n < 40
        · have hsp := fun d P => sp_besidesL (d := d) (Lh := Lh) (P := P) z v w0 (zf_go_sub hq h64 n)
          have eo := z.2.2 n c2
          have eg : zf_bes (zw B) (zh B) (zf_go B q n) &&& zf_opn B n = zf_go B q (n + 1) := rfl
          rw [← ih (n + 1) (by omega) d P]
          simp (disch := omega) only [↓zs_244_15, ↓zs_244_17, ↓zs_244_20, ↓zs_244_21, ↓zs_244_22, ↓zs_244_25, ↓zs_244_28, ↓zs_244_30, ↓zs_244_31, ↓zs_244_33, ↓zs_244_35, ↓zs_244_38, ↓zs_244_39, ↓zs_244_40, ↓zs_244_43, ↓zs_244_44, ↓zs_244_47, ↓zs_244_49, ↓zs_244_50, ↓zs_244_51, ↓zs_244_52, ↓zs_244_55, ↓zs_244_58, ↓zs_244_59, zx_pu_s, zx_pu_n, zx_rv_s, zx_rv_n, true_and, and_true, true_or, or_true, zb_0, zb_1, zq_lcl, zq_lcg, zq_lce, eq_self, ite_true, ite_false, zk_138, zw_138, zk_139, zw_139, zk_140, zw_140, zk_141, zw_141, zk_142, zw_142, zk_143, zw_143, zk_144, zw_144, zk_145, zw_145, zk_146, zw_146, zk_147, zw_147, zk_148, zw_148, zk_149, zw_149, zk_150, zw_150, zk_151, zw_151, zk_152, zw_152, zq_138_1, zq_138_2, zq_138_3, zq_138_4, zq_138_16, zq_138_19, zq_138_20, zq_138_24, zq_138_25, zq_138_26, zq_138_27, zq_138_31, zq_138_32, zq_138_33, nI_ltI, nI_add, zin_nI, nI_clamp, h40, c2, sp_isIn, c, zB_0, reduceCtorEq, hsp, eo, eg]
        · obtain rfl : n = 40 := by omega
          obtain rfl : mm = 0 := by omega
          simp (disch := omega) only [↓zs_244_15, ↓zs_244_17, ↓zs_244_20, ↓zs_244_21, ↓zs_244_22, ↓zs_244_25, ↓zs_244_28, ↓zs_244_30, ↓zs_244_31, ↓zs_244_33, ↓zs_244_35, ↓zs_244_38, ↓zs_244_39, ↓zs_244_40, ↓zs_244_43, ↓zs_244_44, ↓zs_244_47, ↓zs_244_49, ↓zs_244_50, ↓zs_244_51, ↓zs_244_52, ↓zs_244_55, ↓zs_244_58, ↓zs_244_59, zx_pu_s, zx_pu_n, zx_rv_s, zx_rv_n, true_and, and_true, true_or, or_true, zb_0, zb_1, zq_lcl, zq_lcg, zq_lce, eq_self, ite_true, ite_false, zk_138, zw_138, zk_139, zw_139, zk_140, zw_140, zk_141, zw_141, zk_142, zw_142, zk_143, zw_143, zk_144, zw_144, zk_145, zw_145, zk_146, zw_146, zk_147, zw_147, zk_148, zw_148, zk_149, zw_149, zk_150, zw_150, zk_151, zw_151, zk_152, zw_152, zq_138_1, zq_138_2, zq_138_3, zq_138_4, zq_138_16, zq_138_19, zq_138_20, zq_138_24, zq_138_25, zq_138_26, zq_138_27, zq_138_31, zq_138_32, zq_138_33, nI_ltI, nI_add, h40, Nat.lt_irrefl, sp_isIn, c, zB_0, reduceCtorEq]
          rw [zs_244_13]
          simp (disch := omega) only [↓zs_244_15, ↓zs_244_17, ↓zs_244_20, ↓zs_244_21, ↓zs_244_22, ↓zs_244_25, ↓zs_244_28, ↓zs_244_30, ↓zs_244_31, ↓zs_244_33, ↓zs_244_35, ↓zs_244_38, ↓zs_244_39, ↓zs_244_40, ↓zs_244_43, ↓zs_244_44, ↓zs_244_47, ↓zs_244_49, ↓zs_244_50, ↓zs_244_51, ↓zs_244_52, ↓zs_244_55, ↓zs_244_58, ↓zs_244_59, zx_pu_s, zx_pu_n, zx_rv_s, zx_rv_n, true_and, and_true, true_or, or_true, zb_0, zb_1, zq_lcl, zq_lcg, zq_lce, eq_self, ite_true, ite_false, nI_ltI]
          rfl
  exact loop 41 0 (by omega)
theorem sp_reachL {q n : Nat} (z : zLm I J B n) (v : zV B m) (hq : q < zw B * zh B) (hn : n ≤ 40) : ∀ d P, zx_wp (d + 6) 246 58 [.ref 138, .int (nI q), .int (nI n), .long (zf_one q), zx_u0, .int (nI 0)] [] (zx_LL Lh) I J P = P (some (.long (zf_go B q n))) (zx_LL Lh) I J := by
  have w0 : 0 < zw B := Nat.pos_of_ne_zero (fun e => by rw [e, Nat.zero_mul] at hq; omega)
  have h64 : zw B * zh B ≤ 64 := Nat.mul_le_mul v.1.1.2.2.2.1 v.1.1.2.2.2.2.1
  have loop : ∀ mm i, i + mm = n → ∀ d P, zx_wp (d + 6) 246 58 [.ref 138, .int (nI q), .int (nI n), .long (zf_go B q i), zx_u0, .int (nI i)] [] (zx_LL Lh) I J P = P (some (.long (zf_go B q n))) (zx_LL Lh) I J := by
    intro mm
    induction mm with
    | zero =>
      intro i hi d P
      obtain rfl : i = n := by omega
      rw [zs_246_58]
      simp (disch := omega) only [↓zs_246_60, ↓zs_246_61, ↓zs_246_64, ↓zs_246_65, ↓zs_246_66, ↓zs_246_69, ↓zs_246_70, ↓zs_246_73, ↓zs_246_75, ↓zs_246_76, ↓zs_246_77, ↓zs_246_78, ↓zs_246_81, ↓zs_246_84, ↓zs_246_85, zx_pu_s, zx_pu_n, zx_rv_s, zx_rv_n, true_and, and_true, true_or, or_true, zb_0, zb_1, zq_lcl, zq_lcg, zq_lce, eq_self, ite_true, ite_false, nI_ltI, Nat.lt_irrefl]
    | succ mm ih =>
      intro i hi d P
      have c1 : i < n := by omega
      have hsp := fun d P => sp_besidesL (d := d) (Lh := Lh) (P := P) z v w0 (zf_go_sub hq h64 i)
      have eo := z.2.2 i c1
      have eg : zf_bes (zw B) (zh B) (zf_go B q i) &&& zf_opn B i = zf_go B q (i + 1) := rfl
      rw [← ih (i + 1) (by omega) d P, zs_246_58]
      simp (disch := omega) only [↓zs_246_60, ↓zs_246_61, ↓zs_246_64, ↓zs_246_65, ↓zs_246_66, ↓zs_246_69, ↓zs_246_70, ↓zs_246_73, ↓zs_246_75, ↓zs_246_76, ↓zs_246_77, ↓zs_246_78, ↓zs_246_81, ↓zs_246_84, ↓zs_246_85, zx_pu_s, zx_pu_n, zx_rv_s, zx_rv_n, true_and, and_true, true_or, or_true, zb_0, zb_1, zq_lcl, zq_lcg, zq_lce, eq_self, ite_true, ite_false, zk_138, zw_138, zk_139, zw_139, zk_140, zw_140, zk_141, zw_141, zk_142, zw_142, zk_143, zw_143, zk_144, zw_144, zk_145, zw_145, zk_146, zw_146, zk_147, zw_147, zk_148, zw_148, zk_149, zw_149, zk_150, zw_150, zk_151, zw_151, zk_152, zw_152, zq_138_1, zq_138_2, zq_138_3, zq_138_4, zq_138_16, zq_138_19, zq_138_20, zq_138_24, zq_138_25, zq_138_26, zq_138_27, zq_138_31, zq_138_32, zq_138_33, nI_ltI, nI_add, zin_nI, nI_clamp, c1, hsp, eo, eg]
  exact loop n 0 (by omega)
end GO
