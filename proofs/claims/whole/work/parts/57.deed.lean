/-! deeds: why not, what they do -/
def zf_stds (B : Nat → Int32) (s : Nat) : Bool := !decide (B (109 + s) = -1)
def zf_wL (B : Nat → Int32) (a b : Nat) : Nat := if a < zn B ∧ b < zn B ∧ a ≠ b then (if zf_stds B a = true ∧ zf_stds B b = true then 0 else 2) else 1
def zf_w1 (B : Nat → Int32) (s : Nat) : Nat := if s < zn B then (if zf_stds B s = true then 0 else 2) else 1
def zf_wU (B : Nat → Int32) (s k : Nat) : Nat := if s < zn B ∧ k < zw B * zh B then (if zf_stds B s = true then 2 else if zf_taken B (zn B) k = true then 3 else 0) else 1
def zf_whyN (B : Nat → Int32) (n : Nat) : Nat :=
  if n < 80 then zf_wL B (n / 10) (n % 10) else if n < 100 then 1 else if n < 108 then zf_w1 B (n - 100) else if n < 200 then 1 else if n < 208 then zf_w1 B (n - 200) else if n < 1000 then 1 else if n < 1800 then zf_wU B ((n - 1000) / 100) ((n - 1000) % 100) else 1
def zf_why (B : Nat → Int32) (u : Int64) : Nat := if u = -1 then 0 else if u < lN 0 then 1 else if u < lN 2000 then zf_whyN B u.toInt.toNat else 1
def zf_doN (B : Nat → Int32) (n : Nat) : Nat → Int32 :=
  if n < 80 then zu1 B (125 + n / 10) (nI (n % 10)) else if n < 200 then zu1 B (125 + (n - 100)) (-1) else if n < 1000 then zu1 B (109 + (n - 200)) (-1) else zu1 B (109 + (n - 1000) / 100) (nI ((n - 1000) % 100))
def zf_do (B : Nat → Int32) (u : Int64) : Nat → Int32 := if u = -1 then zf_night B else zf_doN B u.toInt.toNat
def zf_doC (B : Nat → Int32) (u : Int64) : Nat := if u = -1 then zf_cnt (zf_turned B).testBit 64 0 else 0
theorem zL_lt (u : Int64) {n : Nat} (h : n < 2 ^ 31) : (u < lN n) = (u.toInt < n) := by rw [Int64.lt_iff_toInt_lt, lN_toInt h]
theorem zL_ltN {a n : Nat} (ha : a < 2 ^ 31) (h : n < 2 ^ 31) : (lN a < lN n) = (a < n) := propext (lN_lt ha h)
theorem zL_m1 {n : Nat} (h : n < 2 ^ 31) : (lN n = -1) = False := eq_false (fun e => by
  have := lN_toInt h
  rw [e, show (-1 : Int64).toInt = -1 by decide +kernel] at this
  omega)
/-- the four kinds of a deed's number -/
theorem zf_kind (u : Int64) : u = -1 ∨ ((u = -1) = False ∧ (u < lN 0) = True) ∨ (∃ n, n < 2000 ∧ u = lN n) ∨ ((u = -1) = False ∧ (u < lN 0) = False ∧ (u < lN 2000) = False ∧ ∀ n, n ≤ 2000 → (u < lN n) = False) := by
  by_cases c : u = -1
  · exact .inl c
  · by_cases c2 : u < lN 0
    · exact .inr (.inl ⟨eq_false c, eq_true c2⟩)
    · by_cases c3 : u < lN 2000
      · right; right; left
        rw [zL_lt _ (by omega)] at c2 c3
        exact ⟨u.toInt.toNat, by omega, Int64.toInt_inj.mp (by rw [lN_toInt (by omega)]; omega)⟩
      · right; right; right
        refine ⟨eq_false c, eq_false c2, eq_false c3, fun n hn => eq_false ?_⟩
        rw [zL_lt _ (by omega)] at c3 ⊢
        omega
theorem zf_why_n {B : Nat → Int32} {n : Nat} (h : n < 2000) : zf_why B (lN n) = zf_whyN B n := by
  unfold zf_why
  rw [if_neg (of_eq_false (zL_m1 (by omega))), if_neg (by rw [zL_ltN (by omega) (by omega)]; omega), if_pos (by rw [zL_ltN (by omega) (by omega)]; exact h), lN_toInt (by omega), Int.toNat_natCast]
section WC
variable {d Lh m T : Nat} {I : zx_MI} {J : zx_MJ} {P : Option Value → zx_Lay → zx_MI → zx_MJ → Prop} {B : Nat → Int32}
theorem zf_in_nI {n N : Nat} (h : n < 2 ^ 31) : zf_in (nI n).toInt N = decide (n < N) := by
  rw [nI_toInt h, zf_in, decide_eq_true (show (0 : Int) ≤ (n : Int) by omega), Bool.true_and]
  exact decide_eq_decide.mpr (by omega)
theorem sc_standsB {s : Nat} (hT : zx_st T) (rel : zR_st I T B) (hs : s < 8) : zx_rn d 70 [.ref T, .int (nI s)] (zx_LL Lh) I J P = P (some (.int (zB (zf_stds B s)))) (zx_LL Lh) I J := by
  rw [sc_stands hT (.inr ⟨s, hs, rfl⟩)]
  unfold zf_st zf_stds
  rw [decide_eq_false (by rw [zq_m1 (by omega)]; exact fun x => x), nI_clamp (by omega), (rel.2 s hs).1]
  rfl
theorem sc_whyL {a b : Nat} (hT : zx_st T) (v : zV B m) (sq : zR_sq I J 1 B) (rel : zR_st I T B) (ha : a < 2 ^ 31) (hb : b < 2 ^ 31) : zx_rn (d + 1) 3 [.ref 1, .ref T, .int (nI a), .int (nI b)] (zx_LL Lh) I J P = P (some (.int (nI (zf_wL B a b)))) (zx_LL Lh) I J := by
  obtain ⟨k0, k1, k2, k3⟩ := zT_k (Lh := Lh) hT
  have hN : I 1 8 = nI (zn B) := sq.2.2.1.trans v.1.1.2.2.1
  have N8 : zn B ≤ 8 := v.1.1.2.2.2.2.2
  have h1 := fun P => sc_hasStatue (d := d) (Lh := Lh) (J := J) (P := P) zx_sq1 (nI a) hN N8
  have h2 := fun P => sc_hasStatue (d := d) (Lh := Lh) (J := J) (P := P) zx_sq1 (nI b) hN N8
  rw [zf_in_nI ha] at h1
  rw [zf_in_nI hb] at h2
  unfold zf_wL
  rw [ze_3]
  by_cases c1 : a < zn B
  · by_cases c2 : b < zn B
    · by_cases c3 : a = b
      · rw [if_neg (fun e => e.2.2 c3)]
        have e3 : (nI a = nI b) = True := eq_true (congrArg nI c3)
        simp (disch := omega) only [↓zs_3_0, ↓zs_3_1, ↓zs_3_2, ↓zs_3_5, ↓zs_3_8, ↓zs_3_9, ↓zs_3_10, ↓zs_3_13, ↓zs_3_16, ↓zs_3_17, ↓zs_3_18, ↓zs_3_21, ↓zs_3_22, ↓zs_3_23, ↓zs_3_24, ↓zs_3_25, ↓zs_3_28, ↓zs_3_31, ↓zs_3_32, ↓zs_3_33, ↓zs_3_36, ↓zs_3_39, ↓zs_3_40, ↓zs_3_43, ↓zs_3_44, zx_pu_s, zx_pu_n, zx_rv_s, zx_rv_n, true_and, and_true, true_or, or_true, zb_0, zb_1, zq_lcl, zq_lcg, zq_lce, eq_self, ite_true, ite_false, zk_1, zw_1, zq_1_0, zq_1_1, zq_1_2, zq_1_3, zq_1_4, zq_1_5, h1, h2, decide_eq_true c1, decide_eq_true c2, zB_0, reduceCtorEq, e3]
      · have e3 : (nI a = nI b) = False := zq_ne c3 ha hb
        have h3 := fun P => sc_standsB (d := d) (Lh := Lh) (J := J) (P := P) (s := a) hT rel (by omega)
        have h4 := fun P => sc_standsB (d := d) (Lh := Lh) (J := J) (P := P) (s := b) hT rel (by omega)
        rw [if_pos ⟨c1, c2, c3⟩]
        cases q1 : zf_stds B a <;> cases q2 : zf_stds B b <;> simp (disch := omega) only [↓zs_3_0, ↓zs_3_1, ↓zs_3_2, ↓zs_3_5, ↓zs_3_8, ↓zs_3_9, ↓zs_3_10, ↓zs_3_13, ↓zs_3_16, ↓zs_3_17, ↓zs_3_18, ↓zs_3_21, ↓zs_3_22, ↓zs_3_23, ↓zs_3_24, ↓zs_3_25, ↓zs_3_28, ↓zs_3_31, ↓zs_3_32, ↓zs_3_33, ↓zs_3_36, ↓zs_3_39, ↓zs_3_40, ↓zs_3_43, ↓zs_3_44, zx_pu_s, zx_pu_n, zx_rv_s, zx_rv_n, true_and, and_true, true_or, or_true, zb_0, zb_1, zq_lcl, zq_lcg, zq_lce, eq_self, ite_true, ite_false, zk_1, zw_1, zq_1_0, zq_1_1, zq_1_2, zq_1_3, zq_1_4, zq_1_5, k0, h1, h2, h3, h4, q1, q2, decide_eq_true c1, decide_eq_true c2, zB_0, reduceCtorEq, e3, and_self, and_false, false_and, if_true, if_false]
    · rw [if_neg (fun e => c2 e.2.1)]
      simp (disch := omega) only [↓zs_3_0, ↓zs_3_1, ↓zs_3_2, ↓zs_3_5, ↓zs_3_8, ↓zs_3_9, ↓zs_3_10, ↓zs_3_13, ↓zs_3_16, ↓zs_3_17, ↓zs_3_18, ↓zs_3_21, ↓zs_3_22, ↓zs_3_23, ↓zs_3_24, ↓zs_3_25, ↓zs_3_28, ↓zs_3_31, ↓zs_3_32, ↓zs_3_33, ↓zs_3_36, ↓zs_3_39, ↓zs_3_40, ↓zs_3_43, ↓zs_3_44, zx_pu_s, zx_pu_n, zx_rv_s, zx_rv_n, true_and, and_true, true_or, or_true, zb_0, zb_1, zq_lcl, zq_lcg, zq_lce, eq_self, ite_true, ite_false, zk_1, zw_1, zq_1_0, zq_1_1, zq_1_2, zq_1_3, zq_1_4, zq_1_5, h1, h2, decide_eq_true c1, decide_eq_false c2, zB_0, reduceCtorEq]
  · rw [if_neg (fun e => c1 e.1)]
    simp (disch := omega) only [↓zs_3_0, ↓zs_3_1, ↓zs_3_2, ↓zs_3_5, ↓zs_3_8, ↓zs_3_9, ↓zs_3_10, ↓zs_3_13, ↓zs_3_16, ↓zs_3_17, ↓zs_3_18, ↓zs_3_21, ↓zs_3_22, ↓zs_3_23, ↓zs_3_24, ↓zs_3_25, ↓zs_3_28, ↓zs_3_31, ↓zs_3_32, ↓zs_3_33, ↓zs_3_36, ↓zs_3_39, ↓zs_3_40, ↓zs_3_43, ↓zs_3_44, zx_pu_s, zx_pu_n, zx_rv_s, zx_rv_n, true_and, and_true, true_or, or_true, zb_0, zb_1, zq_lcl, zq_lcg, zq_lce, eq_self, ite_true, ite_false, zk_1, zw_1, zq_1_0, zq_1_1, zq_1_2, zq_1_3, zq_1_4, zq_1_5, h1, decide_eq_false c1, zB_0, reduceCtorEq]
theorem sc_why1 {s : Nat} (hT : zx_st T) (v : zV B m) (sq : zR_sq I J 1 B) (rel : zR_st I T B) (ha : s < 2 ^ 31) : zx_rn (d + 1) 4 [.ref 1, .ref T, .int (nI s)] (zx_LL Lh) I J P = P (some (.int (nI (zf_w1 B s)))) (zx_LL Lh) I J := by
  obtain ⟨k0, k1, k2, k3⟩ := zT_k (Lh := Lh) hT
  have hN : I 1 8 = nI (zn B) := sq.2.2.1.trans v.1.1.2.2.1
  have N8 : zn B ≤ 8 := v.1.1.2.2.2.2.2
  have h1 := fun P => sc_hasStatue (d := d) (Lh := Lh) (J := J) (P := P) zx_sq1 (nI s) hN N8
  rw [zf_in_nI ha] at h1
  unfold zf_w1
  rw [ze_4]
  by_cases c1 : s < zn B
  · have h3 := fun P => sc_standsB (d := d) (Lh := Lh) (J := J) (P := P) (s := s) hT rel (by omega)
    rw [if_pos c1]
    cases q1 : zf_stds B s <;> simp (disch := omega) only [↓zs_4_0, ↓zs_4_1, ↓zs_4_2, ↓zs_4_5, ↓zs_4_8, ↓zs_4_9, ↓zs_4_10, ↓zs_4_11, ↓zs_4_12, ↓zs_4_15, ↓zs_4_18, ↓zs_4_19, ↓zs_4_22, ↓zs_4_23, zx_pu_s, zx_pu_n, zx_rv_s, zx_rv_n, true_and, and_true, true_or, or_true, zb_0, zb_1, zq_lcl, zq_lcg, zq_lce, eq_self, ite_true, ite_false, zk_1, zw_1, zq_1_0, zq_1_1, zq_1_2, zq_1_3, zq_1_4, zq_1_5, k0, h1, h3, q1, decide_eq_true c1, zB_0, reduceCtorEq, if_true, if_false]
  · rw [if_neg c1]
    simp (disch := omega) only [↓zs_4_0, ↓zs_4_1, ↓zs_4_2, ↓zs_4_5, ↓zs_4_8, ↓zs_4_9, ↓zs_4_10, ↓zs_4_11, ↓zs_4_12, ↓zs_4_15, ↓zs_4_18, ↓zs_4_19, ↓zs_4_22, ↓zs_4_23, zx_pu_s, zx_pu_n, zx_rv_s, zx_rv_n, true_and, and_true, true_or, or_true, zb_0, zb_1, zq_lcl, zq_lcg, zq_lce, eq_self, ite_true, ite_false, zk_1, zw_1, zq_1_0, zq_1_1, zq_1_2, zq_1_3, zq_1_4, zq_1_5, h1, decide_eq_false c1, zB_0, reduceCtorEq]
theorem sc_whyU {s k : Nat} (hT : zx_st T) (v : zV B m) (sq : zR_sq I J 1 B) (rel : zR_st I T B) (ha : s < 2 ^ 31) (hb : k < 2 ^ 31) : zx_rn (d + 2) 5 [.ref 1, .ref T, .int (nI s), .int (nI k)] (zx_LL Lh) I J P = P (some (.int (nI (zf_wU B s k)))) (zx_LL Lh) I J := by
  obtain ⟨k0, k1, k2, k3⟩ := zT_k (Lh := Lh) hT
  have hN : I 1 8 = nI (zn B) := sq.2.2.1.trans v.1.1.2.2.1
  have hw : I 1 6 = nI (zw B) := sq.1.trans v.1.1.1
  have hh : I 1 7 = nI (zh B) := sq.2.1.trans v.1.1.2.1
  have N8 : zn B ≤ 8 := v.1.1.2.2.2.2.2
  have wh : zw B * zh B ≤ 64 := Nat.mul_le_mul v.1.1.2.2.2.1 v.1.1.2.2.2.2.1
  have h1 := fun P => sc_hasStatue (d := d + 1) (Lh := Lh) (J := J) (P := P) zx_sq1 (nI s) hN N8
  have h2 := fun P => sc_hasStone (d := d + 1) (Lh := Lh) (J := J) (P := P) zx_sq1 (nI k) hw hh wh
  rw [zf_in_nI ha] at h1
  rw [zf_in_nI hb] at h2
  unfold zf_wU
  rw [ze_5]
  by_cases c1 : s < zn B
  · by_cases c2 : k < zw B * zh B
    · have h3 := fun d P => sc_standsB (d := d) (Lh := Lh) (J := J) (P := P) (s := s) hT rel (by omega)
      have h4 := fun P => sc_isTaken (d := d) (Lh := Lh) (P := P) (k := k) zx_sq1 hT sq.2.2.2.2.2.1 v.2.1 rel v.1 (by omega)
      rw [if_pos ⟨c1, c2⟩]
      cases q1 : zf_stds B s <;> cases q2 : zf_taken B (zn B) k <;> simp (disch := omega) only [↓zs_5_0, ↓zs_5_1, ↓zs_5_2, ↓zs_5_5, ↓zs_5_8, ↓zs_5_9, ↓zs_5_10, ↓zs_5_13, ↓zs_5_16, ↓zs_5_17, ↓zs_5_18, ↓zs_5_19, ↓zs_5_20, ↓zs_5_23, ↓zs_5_26, ↓zs_5_27, ↓zs_5_28, ↓zs_5_29, ↓zs_5_30, ↓zs_5_31, ↓zs_5_34, ↓zs_5_37, ↓zs_5_38, ↓zs_5_41, ↓zs_5_42, zx_pu_s, zx_pu_n, zx_rv_s, zx_rv_n, true_and, and_true, true_or, or_true, zb_0, zb_1, zq_lcl, zq_lcg, zq_lce, eq_self, ite_true, ite_false, zk_1, zw_1, zq_1_0, zq_1_1, zq_1_2, zq_1_3, zq_1_4, zq_1_5, k0, h1, h2, h3, h4, q1, q2, decide_eq_true c1, decide_eq_true c2, zB_0, reduceCtorEq, if_true, if_false]
    · rw [if_neg (fun e => c2 e.2)]
      simp (disch := omega) only [↓zs_5_0, ↓zs_5_1, ↓zs_5_2, ↓zs_5_5, ↓zs_5_8, ↓zs_5_9, ↓zs_5_10, ↓zs_5_13, ↓zs_5_16, ↓zs_5_17, ↓zs_5_18, ↓zs_5_19, ↓zs_5_20, ↓zs_5_23, ↓zs_5_26, ↓zs_5_27, ↓zs_5_28, ↓zs_5_29, ↓zs_5_30, ↓zs_5_31, ↓zs_5_34, ↓zs_5_37, ↓zs_5_38, ↓zs_5_41, ↓zs_5_42, zx_pu_s, zx_pu_n, zx_rv_s, zx_rv_n, true_and, and_true, true_or, or_true, zb_0, zb_1, zq_lcl, zq_lcg, zq_lce, eq_self, ite_true, ite_false, zk_1, zw_1, zq_1_0, zq_1_1, zq_1_2, zq_1_3, zq_1_4, zq_1_5, h1, h2, decide_eq_true c1, decide_eq_false c2, zB_0, reduceCtorEq]
  · rw [if_neg (fun e => c1 e.1)]
    simp (disch := omega) only [↓zs_5_0, ↓zs_5_1, ↓zs_5_2, ↓zs_5_5, ↓zs_5_8, ↓zs_5_9, ↓zs_5_10, ↓zs_5_13, ↓zs_5_16, ↓zs_5_17, ↓zs_5_18, ↓zs_5_19, ↓zs_5_20, ↓zs_5_23, ↓zs_5_26, ↓zs_5_27, ↓zs_5_28, ↓zs_5_29, ↓zs_5_30, ↓zs_5_31, ↓zs_5_34, ↓zs_5_37, ↓zs_5_38, ↓zs_5_41, ↓zs_5_42, zx_pu_s, zx_pu_n, zx_rv_s, zx_rv_n, true_and, and_true, true_or, or_true, zb_0, zb_1, zq_lcl, zq_lcg, zq_lce, eq_self, ite_true, ite_false, zk_1, zw_1, zq_1_0, zq_1_1, zq_1_2, zq_1_3, zq_1_4, zq_1_5, h1, decide_eq_false c1, zB_0, reduceCtorEq]
theorem zn_rem (a w : Nat) : a - a / w * w = a % w := by
  have := Nat.div_add_mod' a w
  omega
theorem zq_100 : (nI 100 = 0) = False := eq_false (by decide)
theorem zq_10 : (nI 10 = 0) = False := eq_false (by decide)
theorem sc_whyNot (u : Int64) (hT : zx_st T) (v : zV B m) (sq : zR_sq I J 1 B) (rel : zR_st I T B) : zx_rn (d + 3) 6 [.ref 1, .ref T, .long u] (zx_LL Lh) I J P = P (some (.int (nI (zf_why B u)))) (zx_LL Lh) I J := by
  have hL := fun a b ha hb P => sc_whyL (d := d + 1) (Lh := Lh) (P := P) (a := a) (b := b) hT v sq rel ha hb
  have h1 := fun s hs P => sc_why1 (d := d + 1) (Lh := Lh) (P := P) (s := s) hT v sq rel hs
  have hU := fun s k hs hk P => sc_whyU (d := d) (Lh := Lh) (P := P) (s := s) (k := k) hT v sq rel hs hk
  rw [ze_6]
  rcases zf_kind u with rfl | ⟨c1, c2⟩ | ⟨n, hn, rfl⟩ | ⟨c1, c2, c3, c4⟩
  · unfold zf_why
    rw [if_pos rfl]
    simp only [↓zs_6_0, ↓zs_6_1, ↓zs_6_4, ↓zs_6_5, ↓zs_6_8, ↓zs_6_9, ↓zs_6_10, ↓zs_6_11, ↓zs_6_12, ↓zs_6_13, ↓zs_6_16, ↓zs_6_17, ↓zs_6_20, ↓zs_6_21, zx_pu_s, zx_pu_n, zx_rv_s, zx_rv_n, true_and, and_true, true_or, or_true, zb_0, zb_1, zq_lcl, zq_lcg, zq_lce, eq_self, ite_true, ite_false]
  · have c5 : ∀ n, n ≤ 1800 → (u < lN n) = True := fun n hn => eq_true (by
      have := of_eq_true c2
      rw [zL_lt _ (by omega)] at this ⊢
      omega)
    have e : zf_why B u = 1 := by
      unfold zf_why
      rw [if_neg (of_eq_false c1), if_pos (of_eq_true c2)]
    rw [e]
    simp (disch := omega) only [↓zs_6_0, ↓zs_6_1, ↓zs_6_4, ↓zs_6_5, ↓zs_6_8, ↓zs_6_9, ↓zs_6_10, ↓zs_6_11, ↓zs_6_12, ↓zs_6_13, ↓zs_6_16, ↓zs_6_17, ↓zs_6_20, ↓zs_6_21, ↓zs_6_24, ↓zs_6_25, ↓zs_6_26, ↓zs_6_27, ↓zs_6_28, ↓zs_6_30, ↓zs_6_31, ↓zs_6_32, ↓zs_6_33, ↓zs_6_35, ↓zs_6_36, ↓zs_6_39, ↓zs_6_40, ↓zs_6_41, ↓zs_6_44, ↓zs_6_45, ↓zs_6_48, ↓zs_6_49, ↓zs_6_52, ↓zs_6_53, ↓zs_6_56, ↓zs_6_57, ↓zs_6_58, ↓zs_6_59, ↓zs_6_60, ↓zs_6_62, ↓zs_6_63, ↓zs_6_66, ↓zs_6_67, ↓zs_6_68, ↓zs_6_71, ↓zs_6_72, ↓zs_6_75, ↓zs_6_76, ↓zs_6_79, ↓zs_6_80, ↓zs_6_83, ↓zs_6_84, ↓zs_6_85, ↓zs_6_86, ↓zs_6_87, ↓zs_6_90, ↓zs_6_91, ↓zs_6_94, ↓zs_6_95, ↓zs_6_96, ↓zs_6_99, ↓zs_6_100, ↓zs_6_103, ↓zs_6_104, ↓zs_6_107, ↓zs_6_108, ↓zs_6_111, ↓zs_6_112, ↓zs_6_113, ↓zs_6_114, ↓zs_6_115, ↓zs_6_118, ↓zs_6_119, ↓zs_6_121, ↓zs_6_122, ↓zs_6_123, ↓zs_6_124, ↓zs_6_127, ↓zs_6_128, ↓zs_6_130, ↓zs_6_131, ↓zs_6_134, ↓zs_6_135, ↓zs_6_136, zx_pu_s, zx_pu_n, zx_rv_s, zx_rv_n, true_and, and_true, true_or, or_true, zb_0, zb_1, zq_lcl, zq_lcg, zq_lce, eq_self, ite_true, ite_false, c1, c5]
  · rw [zf_why_n hn]
    unfold zf_whyN
    by_cases h80 : n < 80
    · rw [if_pos h80]
      simp (disch := omega) only [↓zs_6_0, ↓zs_6_1, ↓zs_6_4, ↓zs_6_5, ↓zs_6_8, ↓zs_6_9, ↓zs_6_10, ↓zs_6_11, ↓zs_6_12, ↓zs_6_13, ↓zs_6_16, ↓zs_6_17, ↓zs_6_20, ↓zs_6_21, ↓zs_6_24, ↓zs_6_25, ↓zs_6_26, ↓zs_6_27, ↓zs_6_28, ↓zs_6_30, ↓zs_6_31, ↓zs_6_32, ↓zs_6_33, ↓zs_6_35, ↓zs_6_36, ↓zs_6_39, ↓zs_6_40, ↓zs_6_41, ↓zs_6_44, ↓zs_6_45, ↓zs_6_48, ↓zs_6_49, ↓zs_6_52, ↓zs_6_53, ↓zs_6_56, ↓zs_6_57, ↓zs_6_58, ↓zs_6_59, ↓zs_6_60, ↓zs_6_62, ↓zs_6_63, ↓zs_6_66, ↓zs_6_67, ↓zs_6_68, ↓zs_6_71, ↓zs_6_72, ↓zs_6_75, ↓zs_6_76, ↓zs_6_79, ↓zs_6_80, ↓zs_6_83, ↓zs_6_84, ↓zs_6_85, ↓zs_6_86, ↓zs_6_87, ↓zs_6_90, ↓zs_6_91, ↓zs_6_94, ↓zs_6_95, ↓zs_6_96, ↓zs_6_99, ↓zs_6_100, ↓zs_6_103, ↓zs_6_104, ↓zs_6_107, ↓zs_6_108, ↓zs_6_111, ↓zs_6_112, ↓zs_6_113, ↓zs_6_114, ↓zs_6_115, ↓zs_6_118, ↓zs_6_119, ↓zs_6_121, ↓zs_6_122, ↓zs_6_123, ↓zs_6_124, ↓zs_6_127, ↓zs_6_128, ↓zs_6_130, ↓zs_6_131, ↓zs_6_134, ↓zs_6_135, ↓zs_6_136, zx_pu_s, zx_pu_n, zx_rv_s, zx_rv_n, true_and, and_true, true_or, or_true, zb_0, zb_1, zq_lcl, zq_lcg, zq_lce, eq_self, ite_true, ite_false, zL_m1, zL_ltN, zn_lt0, h80, lN_i, zq_10, not_false_eq_true, pk_div, pk_mul, zq_rem, hL]
    · rw [if_neg h80]
      by_cases h100 : n < 100
      · have a1 : n < 200 := by omega
        have a2 : n < 1000 := by omega
        rw [if_pos h100]
        simp (disch := omega) only [↓zs_6_0, ↓zs_6_1, ↓zs_6_4, ↓zs_6_5, ↓zs_6_8, ↓zs_6_9, ↓zs_6_10, ↓zs_6_11, ↓zs_6_12, ↓zs_6_13, ↓zs_6_16, ↓zs_6_17, ↓zs_6_20, ↓zs_6_21, ↓zs_6_24, ↓zs_6_25, ↓zs_6_26, ↓zs_6_27, ↓zs_6_28, ↓zs_6_30, ↓zs_6_31, ↓zs_6_32, ↓zs_6_33, ↓zs_6_35, ↓zs_6_36, ↓zs_6_39, ↓zs_6_40, ↓zs_6_41, ↓zs_6_44, ↓zs_6_45, ↓zs_6_48, ↓zs_6_49, ↓zs_6_52, ↓zs_6_53, ↓zs_6_56, ↓zs_6_57, ↓zs_6_58, ↓zs_6_59, ↓zs_6_60, ↓zs_6_62, ↓zs_6_63, ↓zs_6_66, ↓zs_6_67, ↓zs_6_68, ↓zs_6_71, ↓zs_6_72, ↓zs_6_75, ↓zs_6_76, ↓zs_6_79, ↓zs_6_80, ↓zs_6_83, ↓zs_6_84, ↓zs_6_85, ↓zs_6_86, ↓zs_6_87, ↓zs_6_90, ↓zs_6_91, ↓zs_6_94, ↓zs_6_95, ↓zs_6_96, ↓zs_6_99, ↓zs_6_100, ↓zs_6_103, ↓zs_6_104, ↓zs_6_107, ↓zs_6_108, ↓zs_6_111, ↓zs_6_112, ↓zs_6_113, ↓zs_6_114, ↓zs_6_115, ↓zs_6_118, ↓zs_6_119, ↓zs_6_121, ↓zs_6_122, ↓zs_6_123, ↓zs_6_124, ↓zs_6_127, ↓zs_6_128, ↓zs_6_130, ↓zs_6_131, ↓zs_6_134, ↓zs_6_135, ↓zs_6_136, zx_pu_s, zx_pu_n, zx_rv_s, zx_rv_n, true_and, and_true, true_or, or_true, zb_0, zb_1, zq_lcl, zq_lcg, zq_lce, eq_self, ite_true, ite_false, zL_m1, zL_ltN, zn_lt0, h80, h100, a1, a2]
      · rw [if_neg h100]
        by_cases h108 : n < 108
        · rw [if_pos h108]
          simp (disch := omega) only [↓zs_6_0, ↓zs_6_1, ↓zs_6_4, ↓zs_6_5, ↓zs_6_8, ↓zs_6_9, ↓zs_6_10, ↓zs_6_11, ↓zs_6_12, ↓zs_6_13, ↓zs_6_16, ↓zs_6_17, ↓zs_6_20, ↓zs_6_21, ↓zs_6_24, ↓zs_6_25, ↓zs_6_26, ↓zs_6_27, ↓zs_6_28, ↓zs_6_30, ↓zs_6_31, ↓zs_6_32, ↓zs_6_33, ↓zs_6_35, ↓zs_6_36, ↓zs_6_39, ↓zs_6_40, ↓zs_6_41, ↓zs_6_44, ↓zs_6_45, ↓zs_6_48, ↓zs_6_49, ↓zs_6_52, ↓zs_6_53, ↓zs_6_56, ↓zs_6_57, ↓zs_6_58, ↓zs_6_59, ↓zs_6_60, ↓zs_6_62, ↓zs_6_63, ↓zs_6_66, ↓zs_6_67, ↓zs_6_68, ↓zs_6_71, ↓zs_6_72, ↓zs_6_75, ↓zs_6_76, ↓zs_6_79, ↓zs_6_80, ↓zs_6_83, ↓zs_6_84, ↓zs_6_85, ↓zs_6_86, ↓zs_6_87, ↓zs_6_90, ↓zs_6_91, ↓zs_6_94, ↓zs_6_95, ↓zs_6_96, ↓zs_6_99, ↓zs_6_100, ↓zs_6_103, ↓zs_6_104, ↓zs_6_107, ↓zs_6_108, ↓zs_6_111, ↓zs_6_112, ↓zs_6_113, ↓zs_6_114, ↓zs_6_115, ↓zs_6_118, ↓zs_6_119, ↓zs_6_121, ↓zs_6_122, ↓zs_6_123, ↓zs_6_124, ↓zs_6_127, ↓zs_6_128, ↓zs_6_130, ↓zs_6_131, ↓zs_6_134, ↓zs_6_135, ↓zs_6_136, zx_pu_s, zx_pu_n, zx_rv_s, zx_rv_n, true_and, and_true, true_or, or_true, zb_0, zb_1, zq_lcl, zq_lcg, zq_lce, eq_self, ite_true, ite_false, zL_m1, zL_ltN, zn_lt0, h80, h100, h108, lN_i, pk_sub, h1]
        · rw [if_neg h108]
          by_cases h200 : n < 200
          · have a2 : n < 1000 := by omega
            rw [if_pos h200]
            simp (disch := omega) only [↓zs_6_0, ↓zs_6_1, ↓zs_6_4, ↓zs_6_5, ↓zs_6_8, ↓zs_6_9, ↓zs_6_10, ↓zs_6_11, ↓zs_6_12, ↓zs_6_13, ↓zs_6_16, ↓zs_6_17, ↓zs_6_20, ↓zs_6_21, ↓zs_6_24, ↓zs_6_25, ↓zs_6_26, ↓zs_6_27, ↓zs_6_28, ↓zs_6_30, ↓zs_6_31, ↓zs_6_32, ↓zs_6_33, ↓zs_6_35, ↓zs_6_36, ↓zs_6_39, ↓zs_6_40, ↓zs_6_41, ↓zs_6_44, ↓zs_6_45, ↓zs_6_48, ↓zs_6_49, ↓zs_6_52, ↓zs_6_53, ↓zs_6_56, ↓zs_6_57, ↓zs_6_58, ↓zs_6_59, ↓zs_6_60, ↓zs_6_62, ↓zs_6_63, ↓zs_6_66, ↓zs_6_67, ↓zs_6_68, ↓zs_6_71, ↓zs_6_72, ↓zs_6_75, ↓zs_6_76, ↓zs_6_79, ↓zs_6_80, ↓zs_6_83, ↓zs_6_84, ↓zs_6_85, ↓zs_6_86, ↓zs_6_87, ↓zs_6_90, ↓zs_6_91, ↓zs_6_94, ↓zs_6_95, ↓zs_6_96, ↓zs_6_99, ↓zs_6_100, ↓zs_6_103, ↓zs_6_104, ↓zs_6_107, ↓zs_6_108, ↓zs_6_111, ↓zs_6_112, ↓zs_6_113, ↓zs_6_114, ↓zs_6_115, ↓zs_6_118, ↓zs_6_119, ↓zs_6_121, ↓zs_6_122, ↓zs_6_123, ↓zs_6_124, ↓zs_6_127, ↓zs_6_128, ↓zs_6_130, ↓zs_6_131, ↓zs_6_134, ↓zs_6_135, ↓zs_6_136, zx_pu_s, zx_pu_n, zx_rv_s, zx_rv_n, true_and, and_true, true_or, or_true, zb_0, zb_1, zq_lcl, zq_lcg, zq_lce, eq_self, ite_true, ite_false, zL_m1, zL_ltN, zn_lt0, h80, h100, h108, h200, a2]
          · rw [if_neg h200]
            by_cases h208 : n < 208
            · rw [if_pos h208]
              simp (disch := omega) only [↓zs_6_0, ↓zs_6_1, ↓zs_6_4, ↓zs_6_5, ↓zs_6_8, ↓zs_6_9, ↓zs_6_10, ↓zs_6_11, ↓zs_6_12, ↓zs_6_13, ↓zs_6_16, ↓zs_6_17, ↓zs_6_20, ↓zs_6_21, ↓zs_6_24, ↓zs_6_25, ↓zs_6_26, ↓zs_6_27, ↓zs_6_28, ↓zs_6_30, ↓zs_6_31, ↓zs_6_32, ↓zs_6_33, ↓zs_6_35, ↓zs_6_36, ↓zs_6_39, ↓zs_6_40, ↓zs_6_41, ↓zs_6_44, ↓zs_6_45, ↓zs_6_48, ↓zs_6_49, ↓zs_6_52, ↓zs_6_53, ↓zs_6_56, ↓zs_6_57, ↓zs_6_58, ↓zs_6_59, ↓zs_6_60, ↓zs_6_62, ↓zs_6_63, ↓zs_6_66, ↓zs_6_67, ↓zs_6_68, ↓zs_6_71, ↓zs_6_72, ↓zs_6_75, ↓zs_6_76, ↓zs_6_79, ↓zs_6_80, ↓zs_6_83, ↓zs_6_84, ↓zs_6_85, ↓zs_6_86, ↓zs_6_87, ↓zs_6_90, ↓zs_6_91, ↓zs_6_94, ↓zs_6_95, ↓zs_6_96, ↓zs_6_99, ↓zs_6_100, ↓zs_6_103, ↓zs_6_104, ↓zs_6_107, ↓zs_6_108, ↓zs_6_111, ↓zs_6_112, ↓zs_6_113, ↓zs_6_114, ↓zs_6_115, ↓zs_6_118, ↓zs_6_119, ↓zs_6_121, ↓zs_6_122, ↓zs_6_123, ↓zs_6_124, ↓zs_6_127, ↓zs_6_128, ↓zs_6_130, ↓zs_6_131, ↓zs_6_134, ↓zs_6_135, ↓zs_6_136, zx_pu_s, zx_pu_n, zx_rv_s, zx_rv_n, true_and, and_true, true_or, or_true, zb_0, zb_1, zq_lcl, zq_lcg, zq_lce, eq_self, ite_true, ite_false, zL_m1, zL_ltN, zn_lt0, h80, h100, h108, h200, h208, lN_i, pk_sub, h1]
            · rw [if_neg h208]
              by_cases h1000 : n < 1000
              · rw [if_pos h1000]
                simp (disch := omega) only [↓zs_6_0, ↓zs_6_1, ↓zs_6_4, ↓zs_6_5, ↓zs_6_8, ↓zs_6_9, ↓zs_6_10, ↓zs_6_11, ↓zs_6_12, ↓zs_6_13, ↓zs_6_16, ↓zs_6_17, ↓zs_6_20, ↓zs_6_21, ↓zs_6_24, ↓zs_6_25, ↓zs_6_26, ↓zs_6_27, ↓zs_6_28, ↓zs_6_30, ↓zs_6_31, ↓zs_6_32, ↓zs_6_33, ↓zs_6_35, ↓zs_6_36, ↓zs_6_39, ↓zs_6_40, ↓zs_6_41, ↓zs_6_44, ↓zs_6_45, ↓zs_6_48, ↓zs_6_49, ↓zs_6_52, ↓zs_6_53, ↓zs_6_56, ↓zs_6_57, ↓zs_6_58, ↓zs_6_59, ↓zs_6_60, ↓zs_6_62, ↓zs_6_63, ↓zs_6_66, ↓zs_6_67, ↓zs_6_68, ↓zs_6_71, ↓zs_6_72, ↓zs_6_75, ↓zs_6_76, ↓zs_6_79, ↓zs_6_80, ↓zs_6_83, ↓zs_6_84, ↓zs_6_85, ↓zs_6_86, ↓zs_6_87, ↓zs_6_90, ↓zs_6_91, ↓zs_6_94, ↓zs_6_95, ↓zs_6_96, ↓zs_6_99, ↓zs_6_100, ↓zs_6_103, ↓zs_6_104, ↓zs_6_107, ↓zs_6_108, ↓zs_6_111, ↓zs_6_112, ↓zs_6_113, ↓zs_6_114, ↓zs_6_115, ↓zs_6_118, ↓zs_6_119, ↓zs_6_121, ↓zs_6_122, ↓zs_6_123, ↓zs_6_124, ↓zs_6_127, ↓zs_6_128, ↓zs_6_130, ↓zs_6_131, ↓zs_6_134, ↓zs_6_135, ↓zs_6_136, zx_pu_s, zx_pu_n, zx_rv_s, zx_rv_n, true_and, and_true, true_or, or_true, zb_0, zb_1, zq_lcl, zq_lcg, zq_lce, eq_self, ite_true, ite_false, zL_m1, zL_ltN, zn_lt0, h80, h100, h108, h200, h208, h1000]
              · rw [if_neg h1000]
                by_cases h1800 : n < 1800
                · rw [if_pos h1800]
                  simp (disch := omega) only [↓zs_6_0, ↓zs_6_1, ↓zs_6_4, ↓zs_6_5, ↓zs_6_8, ↓zs_6_9, ↓zs_6_10, ↓zs_6_11, ↓zs_6_12, ↓zs_6_13, ↓zs_6_16, ↓zs_6_17, ↓zs_6_20, ↓zs_6_21, ↓zs_6_24, ↓zs_6_25, ↓zs_6_26, ↓zs_6_27, ↓zs_6_28, ↓zs_6_30, ↓zs_6_31, ↓zs_6_32, ↓zs_6_33, ↓zs_6_35, ↓zs_6_36, ↓zs_6_39, ↓zs_6_40, ↓zs_6_41, ↓zs_6_44, ↓zs_6_45, ↓zs_6_48, ↓zs_6_49, ↓zs_6_52, ↓zs_6_53, ↓zs_6_56, ↓zs_6_57, ↓zs_6_58, ↓zs_6_59, ↓zs_6_60, ↓zs_6_62, ↓zs_6_63, ↓zs_6_66, ↓zs_6_67, ↓zs_6_68, ↓zs_6_71, ↓zs_6_72, ↓zs_6_75, ↓zs_6_76, ↓zs_6_79, ↓zs_6_80, ↓zs_6_83, ↓zs_6_84, ↓zs_6_85, ↓zs_6_86, ↓zs_6_87, ↓zs_6_90, ↓zs_6_91, ↓zs_6_94, ↓zs_6_95, ↓zs_6_96, ↓zs_6_99, ↓zs_6_100, ↓zs_6_103, ↓zs_6_104, ↓zs_6_107, ↓zs_6_108, ↓zs_6_111, ↓zs_6_112, ↓zs_6_113, ↓zs_6_114, ↓zs_6_115, ↓zs_6_118, ↓zs_6_119, ↓zs_6_121, ↓zs_6_122, ↓zs_6_123, ↓zs_6_124, ↓zs_6_127, ↓zs_6_128, ↓zs_6_130, ↓zs_6_131, ↓zs_6_134, ↓zs_6_135, ↓zs_6_136, zx_pu_s, zx_pu_n, zx_rv_s, zx_rv_n, true_and, and_true, true_or, or_true, zb_0, zb_1, zq_lcl, zq_lcg, zq_lce, eq_self, ite_true, ite_false, zL_m1, zL_ltN, zn_lt0, h80, h100, h108, h200, h208, h1000, h1800, lN_i, pk_sub, zq_100, not_false_eq_true, pk_div, pk_mul, zn_rem, hU]
                · rw [if_neg h1800]
                  simp (disch := omega) only [↓zs_6_0, ↓zs_6_1, ↓zs_6_4, ↓zs_6_5, ↓zs_6_8, ↓zs_6_9, ↓zs_6_10, ↓zs_6_11, ↓zs_6_12, ↓zs_6_13, ↓zs_6_16, ↓zs_6_17, ↓zs_6_20, ↓zs_6_21, ↓zs_6_24, ↓zs_6_25, ↓zs_6_26, ↓zs_6_27, ↓zs_6_28, ↓zs_6_30, ↓zs_6_31, ↓zs_6_32, ↓zs_6_33, ↓zs_6_35, ↓zs_6_36, ↓zs_6_39, ↓zs_6_40, ↓zs_6_41, ↓zs_6_44, ↓zs_6_45, ↓zs_6_48, ↓zs_6_49, ↓zs_6_52, ↓zs_6_53, ↓zs_6_56, ↓zs_6_57, ↓zs_6_58, ↓zs_6_59, ↓zs_6_60, ↓zs_6_62, ↓zs_6_63, ↓zs_6_66, ↓zs_6_67, ↓zs_6_68, ↓zs_6_71, ↓zs_6_72, ↓zs_6_75, ↓zs_6_76, ↓zs_6_79, ↓zs_6_80, ↓zs_6_83, ↓zs_6_84, ↓zs_6_85, ↓zs_6_86, ↓zs_6_87, ↓zs_6_90, ↓zs_6_91, ↓zs_6_94, ↓zs_6_95, ↓zs_6_96, ↓zs_6_99, ↓zs_6_100, ↓zs_6_103, ↓zs_6_104, ↓zs_6_107, ↓zs_6_108, ↓zs_6_111, ↓zs_6_112, ↓zs_6_113, ↓zs_6_114, ↓zs_6_115, ↓zs_6_118, ↓zs_6_119, ↓zs_6_121, ↓zs_6_122, ↓zs_6_123, ↓zs_6_124, ↓zs_6_127, ↓zs_6_128, ↓zs_6_130, ↓zs_6_131, ↓zs_6_134, ↓zs_6_135, ↓zs_6_136, zx_pu_s, zx_pu_n, zx_rv_s, zx_rv_n, true_and, and_true, true_or, or_true, zb_0, zb_1, zq_lcl, zq_lcg, zq_lce, eq_self, ite_true, ite_false, zL_m1, zL_ltN, zn_lt0, h80, h100, h108, h200, h208, h1000, h1800]
  · have e : zf_why B u = 1 := by
      unfold zf_why
      rw [if_neg (of_eq_false c1), if_neg (of_eq_false c2), if_neg (of_eq_false c3)]
    rw [e]
    simp (disch := omega) only [↓zs_6_0, ↓zs_6_1, ↓zs_6_4, ↓zs_6_5, ↓zs_6_8, ↓zs_6_9, ↓zs_6_10, ↓zs_6_11, ↓zs_6_12, ↓zs_6_13, ↓zs_6_16, ↓zs_6_17, ↓zs_6_20, ↓zs_6_21, ↓zs_6_24, ↓zs_6_25, ↓zs_6_26, ↓zs_6_27, ↓zs_6_28, ↓zs_6_30, ↓zs_6_31, ↓zs_6_32, ↓zs_6_33, ↓zs_6_35, ↓zs_6_36, ↓zs_6_39, ↓zs_6_40, ↓zs_6_41, ↓zs_6_44, ↓zs_6_45, ↓zs_6_48, ↓zs_6_49, ↓zs_6_52, ↓zs_6_53, ↓zs_6_56, ↓zs_6_57, ↓zs_6_58, ↓zs_6_59, ↓zs_6_60, ↓zs_6_62, ↓zs_6_63, ↓zs_6_66, ↓zs_6_67, ↓zs_6_68, ↓zs_6_71, ↓zs_6_72, ↓zs_6_75, ↓zs_6_76, ↓zs_6_79, ↓zs_6_80, ↓zs_6_83, ↓zs_6_84, ↓zs_6_85, ↓zs_6_86, ↓zs_6_87, ↓zs_6_90, ↓zs_6_91, ↓zs_6_94, ↓zs_6_95, ↓zs_6_96, ↓zs_6_99, ↓zs_6_100, ↓zs_6_103, ↓zs_6_104, ↓zs_6_107, ↓zs_6_108, ↓zs_6_111, ↓zs_6_112, ↓zs_6_113, ↓zs_6_114, ↓zs_6_115, ↓zs_6_118, ↓zs_6_119, ↓zs_6_121, ↓zs_6_122, ↓zs_6_123, ↓zs_6_124, ↓zs_6_127, ↓zs_6_128, ↓zs_6_130, ↓zs_6_131, ↓zs_6_134, ↓zs_6_135, ↓zs_6_136, zx_pu_s, zx_pu_n, zx_rv_s, zx_rv_n, true_and, and_true, true_or, or_true, zb_0, zb_1, zq_lcl, zq_lcg, zq_lce, eq_self, ite_true, ite_false, c1, c4]
/-- a deed that can be: its number -/
theorem zf_why_0 {u : Int64} (h : zf_why B u = 0) : u = -1 ∨ ∃ n, n < 1800 ∧ u = lN n ∧ zf_whyN B n = 0 ∧ (n < 80 ∨ (100 ≤ n ∧ n < 108) ∨ (200 ≤ n ∧ n < 208) ∨ 1000 ≤ n) := by
  rcases zf_kind u with rfl | ⟨c1, c2⟩ | ⟨n, hn, rfl⟩ | ⟨c1, c2, c3, c4⟩
  · exact .inl rfl
  · unfold zf_why at h
    rw [if_neg (of_eq_false c1), if_pos (of_eq_true c2)] at h
    omega
  · rw [zf_why_n hn] at h
    right
    have h9 := h
    unfold zf_whyN at h
    by_cases h80 : n < 80
    · exact ⟨n, by omega, rfl, h9, .inl h80⟩
    rw [if_neg h80] at h
    by_cases h100 : n < 100
    · rw [if_pos h100] at h; omega
    rw [if_neg h100] at h
    by_cases h108 : n < 108
    · exact ⟨n, by omega, rfl, h9, .inr (.inl ⟨by omega, h108⟩)⟩
    rw [if_neg h108] at h
    by_cases h200 : n < 200
    · rw [if_pos h200] at h; omega
    rw [if_neg h200] at h
    by_cases h208 : n < 208
    · exact ⟨n, by omega, rfl, h9, .inr (.inr (.inl ⟨by omega, h208⟩))⟩
    rw [if_neg h208] at h
    by_cases h1000 : n < 1000
    · rw [if_pos h1000] at h; omega
    rw [if_neg h1000] at h
    by_cases h1800 : n < 1800
    · exact ⟨n, h1800, rfl, h9, .inr (.inr (.inr (by omega)))⟩
    rw [if_neg h1800] at h; omega
  · unfold zf_why at h
    rw [if_neg (of_eq_false c1), if_neg (of_eq_false c2), if_neg (of_eq_false c3)] at h
    omega
theorem zf_do_n {n : Nat} (h : n < 2000) : zf_do B (lN n) = zf_doN B n ∧ zf_doC B (lN n) = 0 := by
  unfold zf_do zf_doC
  rw [if_neg (of_eq_false (zL_m1 (by omega))), if_neg (of_eq_false (zL_m1 (by omega))), lN_toInt (by omega), Int.toNat_natCast]
  exact ⟨rfl, rfl⟩
theorem sc_doDeed (u : Int64) (hT : zx_st T) (v : zV B m) (hm : m < 2 ^ 30) (sq : zR_sq I J 1 B) (rel : zR_st I T B) (h0 : zf_why B u = 0) : ∃ I2, zFc T I I2 ∧ zR_st I2 T (zf_do B u) ∧ ∀ d P, zx_rn (d + 5) 7 [.ref 1, .ref T, .long u] (zx_LL Lh) I J P = P (some (.int (nI (zf_doC B u)))) (zx_LL Lh) I2 J := by
  obtain ⟨k0, k1, k2, k3⟩ := zT_k (Lh := Lh) hT
  obtain ⟨q0, q1, q2⟩ := zT_q (Lh := Lh) hT
  have hr := zT_r hT
  have w1 : zx_wr (zx_LL Lh) (T + 1) = True := eq_true (zx_wrp (by omega))
  have w3 : zx_wr (zx_LL Lh) (T + 3) = True := eq_true (zx_wrp (by omega))
  have N8 : zn B ≤ 8 := v.1.1.2.2.2.2.2
  have hwy := fun d P => sc_whyNot (d := d) (Lh := Lh) (P := P) u hT v sq rel
  rw [h0] at hwy
  rcases zf_why_0 h0 with rfl | ⟨n, hn, rfl, hz, hk⟩
  · obtain ⟨I2, f2, r2, h2⟩ := sc_passNight (Lh := Lh) hT v hm sq rel
    have tl : zf_turned B < 256 := zf_bs_lt (n := 8) _ (by omega) (by decide)
    have e64 : zf_cnt (zf_turned B).testBit 64 0 = zf_cnt (zf_turned B).testBit 8 0 := by
      rw [show 64 = 8 + 56 from rfl, zf_cnt_add, zf_cnt_0 _ 56 _ (fun j h1 h2 => Nat.testBit_lt_two_pow (Nat.lt_of_lt_of_le tl (Nat.pow_le_pow_right (n := 2) (by decide) (show 8 ≤ j by omega))))]
      rfl
    have hbc := fun d L I J P => zl_bitCountI (d := d) (L := L) (I := I) (J := J) (P := P) tl
    unfold zf_do zf_doC
    rw [if_pos rfl, if_pos rfl]
    refine ⟨I2, f2, r2, fun d P => ?_⟩
    rw [ze_7, e64]
    simp only [↓zs_7_0, ↓zs_7_1, ↓zs_7_4, ↓zs_7_5, ↓zs_7_8, ↓zs_7_9, ↓zs_7_10, ↓zs_7_13, ↓zs_7_16, ↓zs_7_17, ↓zs_7_18, ↓zs_7_19, ↓zs_7_20, ↓zs_7_23, ↓zs_7_26, ↓zs_7_27, zx_pu_s, zx_pu_n, zx_rv_s, zx_rv_n, true_and, and_true, true_or, or_true, zb_0, zb_1, zq_lcl, zq_lcg, zq_lce, eq_self, ite_true, ite_false, h2, hbc]
  · obtain ⟨e1, e2⟩ := zf_do_n (B := B) (n := n) (by omega)
    rw [e1, e2]
    unfold zf_doN
    unfold zf_whyN at hz
    rcases hk with h80 | ⟨h1, h108⟩ | ⟨h1, h208⟩ | h1
    · rw [if_pos h80]
      rw [if_pos h80] at hz
      have ha : n / 10 < zn B := by
        unfold zf_wL at hz
        by_cases c : n / 10 < zn B ∧ n % 10 < zn B ∧ n / 10 ≠ n % 10
        · exact c.1
        · rw [if_neg c] at hz; omega
      have a1 : n / 10 < 8 := by omega
      refine ⟨zx_u I (T + 3) (n / 10) (nI (n % 10)), fun a j h => zu_n (by omega), zR_u_foe rel a1, fun d P => ?_⟩
      rw [ze_7]
      simp (disch := omega) only [↓zs_7_0, ↓zs_7_1, ↓zs_7_4, ↓zs_7_5, ↓zs_7_8, ↓zs_7_9, ↓zs_7_10, ↓zs_7_13, ↓zs_7_16, ↓zs_7_17, ↓zs_7_18, ↓zs_7_19, ↓zs_7_20, ↓zs_7_23, ↓zs_7_26, ↓zs_7_27, ↓zs_7_28, ↓zs_7_29, ↓zs_7_30, ↓zs_7_32, ↓zs_7_34, ↓zs_7_36, ↓zs_7_39, ↓zs_7_40, ↓zs_7_43, ↓zs_7_45, ↓zs_7_47, ↓zs_7_48, ↓zs_7_50, ↓zs_7_52, ↓zs_7_53, ↓zs_7_54, ↓zs_7_57, ↓zs_7_59, ↓zs_7_62, ↓zs_7_65, ↓zs_7_66, ↓zs_7_69, ↓zs_7_71, ↓zs_7_73, ↓zs_7_74, ↓zs_7_75, ↓zs_7_76, ↓zs_7_79, ↓zs_7_81, ↓zs_7_84, ↓zs_7_87, ↓zs_7_88, ↓zs_7_91, ↓zs_7_93, ↓zs_7_96, ↓zs_7_97, ↓zs_7_98, ↓zs_7_99, ↓zs_7_102, ↓zs_7_103, ↓zs_7_106, ↓zs_7_108, ↓zs_7_111, ↓zs_7_112, ↓zs_7_114, ↓zs_7_115, ↓zs_7_117, ↓zs_7_120, ↓zs_7_121, ↓zs_7_123, ↓zs_7_124, ↓zs_7_125, ↓zs_7_126, zx_pu_s, zx_pu_n, zx_rv_s, zx_rv_n, true_and, and_true, true_or, or_true, zb_0, zb_1, zq_lcl, zq_lcg, zq_lce, eq_self, ite_true, ite_false, zin_nI, nI_clamp, nI_ltI, zL_m1, hwy, lN_i, h80, zq_10, not_false_eq_true, pk_div, pk_mul, zq_rem, k0, k3, q2, w3]
    · have a0 : ¬ n < 80 := by omega
      have a2 : n < 200 := by omega
      rw [if_neg a0, if_pos a2]
      refine ⟨zx_u I (T + 3) (n - 100) (-1), fun a j h => zu_n (by omega), zR_u_foe rel (by omega), fun d P => ?_⟩
      rw [ze_7]
      simp (disch := omega) only [↓zs_7_0, ↓zs_7_1, ↓zs_7_4, ↓zs_7_5, ↓zs_7_8, ↓zs_7_9, ↓zs_7_10, ↓zs_7_13, ↓zs_7_16, ↓zs_7_17, ↓zs_7_18, ↓zs_7_19, ↓zs_7_20, ↓zs_7_23, ↓zs_7_26, ↓zs_7_27, ↓zs_7_28, ↓zs_7_29, ↓zs_7_30, ↓zs_7_32, ↓zs_7_34, ↓zs_7_36, ↓zs_7_39, ↓zs_7_40, ↓zs_7_43, ↓zs_7_45, ↓zs_7_47, ↓zs_7_48, ↓zs_7_50, ↓zs_7_52, ↓zs_7_53, ↓zs_7_54, ↓zs_7_57, ↓zs_7_59, ↓zs_7_62, ↓zs_7_65, ↓zs_7_66, ↓zs_7_69, ↓zs_7_71, ↓zs_7_73, ↓zs_7_74, ↓zs_7_75, ↓zs_7_76, ↓zs_7_79, ↓zs_7_81, ↓zs_7_84, ↓zs_7_87, ↓zs_7_88, ↓zs_7_91, ↓zs_7_93, ↓zs_7_96, ↓zs_7_97, ↓zs_7_98, ↓zs_7_99, ↓zs_7_102, ↓zs_7_103, ↓zs_7_106, ↓zs_7_108, ↓zs_7_111, ↓zs_7_112, ↓zs_7_114, ↓zs_7_115, ↓zs_7_117, ↓zs_7_120, ↓zs_7_121, ↓zs_7_123, ↓zs_7_124, ↓zs_7_125, ↓zs_7_126, zx_pu_s, zx_pu_n, zx_rv_s, zx_rv_n, true_and, and_true, true_or, or_true, zb_0, zb_1, zq_lcl, zq_lcg, zq_lce, eq_self, ite_true, ite_false, zin_nI, nI_clamp, nI_ltI, zL_m1, hwy, lN_i, a0, a2, pk_sub, k0, k3, q2, w3]
    · have a0 : ¬ n < 80 := by omega
      have a2 : ¬ n < 200 := by omega
      have a3 : n < 1000 := by omega
      rw [if_neg a0, if_neg a2, if_pos a3]
      refine ⟨zx_u I (T + 1) (n - 200) (-1), fun a j h => zu_n (by omega), zR_u_place rel (by omega), fun d P => ?_⟩
      rw [ze_7]
      simp (disch := omega) only [↓zs_7_0, ↓zs_7_1, ↓zs_7_4, ↓zs_7_5, ↓zs_7_8, ↓zs_7_9, ↓zs_7_10, ↓zs_7_13, ↓zs_7_16, ↓zs_7_17, ↓zs_7_18, ↓zs_7_19, ↓zs_7_20, ↓zs_7_23, ↓zs_7_26, ↓zs_7_27, ↓zs_7_28, ↓zs_7_29, ↓zs_7_30, ↓zs_7_32, ↓zs_7_34, ↓zs_7_36, ↓zs_7_39, ↓zs_7_40, ↓zs_7_43, ↓zs_7_45, ↓zs_7_47, ↓zs_7_48, ↓zs_7_50, ↓zs_7_52, ↓zs_7_53, ↓zs_7_54, ↓zs_7_57, ↓zs_7_59, ↓zs_7_62, ↓zs_7_65, ↓zs_7_66, ↓zs_7_69, ↓zs_7_71, ↓zs_7_73, ↓zs_7_74, ↓zs_7_75, ↓zs_7_76, ↓zs_7_79, ↓zs_7_81, ↓zs_7_84, ↓zs_7_87, ↓zs_7_88, ↓zs_7_91, ↓zs_7_93, ↓zs_7_96, ↓zs_7_97, ↓zs_7_98, ↓zs_7_99, ↓zs_7_102, ↓zs_7_103, ↓zs_7_106, ↓zs_7_108, ↓zs_7_111, ↓zs_7_112, ↓zs_7_114, ↓zs_7_115, ↓zs_7_117, ↓zs_7_120, ↓zs_7_121, ↓zs_7_123, ↓zs_7_124, ↓zs_7_125, ↓zs_7_126, zx_pu_s, zx_pu_n, zx_rv_s, zx_rv_n, true_and, and_true, true_or, or_true, zb_0, zb_1, zq_lcl, zq_lcg, zq_lce, eq_self, ite_true, ite_false, zin_nI, nI_clamp, nI_ltI, zL_m1, hwy, lN_i, a0, a2, a3, pk_sub, k0, k1, q0, w1]
    · have a0 : ¬ n < 80 := by omega
      have a2 : ¬ n < 200 := by omega
      have a3 : ¬ n < 1000 := by omega
      have a4 : (n - 1000) / 100 < 8 := by omega
      rw [if_neg a0, if_neg a2, if_neg a3]
      refine ⟨zx_u I (T + 1) ((n - 1000) / 100) (nI ((n - 1000) % 100)), fun a j h => zu_n (by omega), zR_u_place rel a4, fun d P => ?_⟩
      rw [ze_7]
      simp (disch := omega) only [↓zs_7_0, ↓zs_7_1, ↓zs_7_4, ↓zs_7_5, ↓zs_7_8, ↓zs_7_9, ↓zs_7_10, ↓zs_7_13, ↓zs_7_16, ↓zs_7_17, ↓zs_7_18, ↓zs_7_19, ↓zs_7_20, ↓zs_7_23, ↓zs_7_26, ↓zs_7_27, ↓zs_7_28, ↓zs_7_29, ↓zs_7_30, ↓zs_7_32, ↓zs_7_34, ↓zs_7_36, ↓zs_7_39, ↓zs_7_40, ↓zs_7_43, ↓zs_7_45, ↓zs_7_47, ↓zs_7_48, ↓zs_7_50, ↓zs_7_52, ↓zs_7_53, ↓zs_7_54, ↓zs_7_57, ↓zs_7_59, ↓zs_7_62, ↓zs_7_65, ↓zs_7_66, ↓zs_7_69, ↓zs_7_71, ↓zs_7_73, ↓zs_7_74, ↓zs_7_75, ↓zs_7_76, ↓zs_7_79, ↓zs_7_81, ↓zs_7_84, ↓zs_7_87, ↓zs_7_88, ↓zs_7_91, ↓zs_7_93, ↓zs_7_96, ↓zs_7_97, ↓zs_7_98, ↓zs_7_99, ↓zs_7_102, ↓zs_7_103, ↓zs_7_106, ↓zs_7_108, ↓zs_7_111, ↓zs_7_112, ↓zs_7_114, ↓zs_7_115, ↓zs_7_117, ↓zs_7_120, ↓zs_7_121, ↓zs_7_123, ↓zs_7_124, ↓zs_7_125, ↓zs_7_126, zx_pu_s, zx_pu_n, zx_rv_s, zx_rv_n, true_and, and_true, true_or, or_true, zb_0, zb_1, zq_lcl, zq_lcg, zq_lce, eq_self, ite_true, ite_false, zin_nI, nI_clamp, nI_ltI, zL_m1, hwy, lN_i, a0, a2, a3, pk_sub, zq_100, not_false_eq_true, pk_div, pk_mul, zn_rem, k0, k1, q0, w1]
end WC
