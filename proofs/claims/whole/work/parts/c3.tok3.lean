/-! the class goes on to the next TOKEN -/
def zTc (I : zx_MI) (T : Nat × Nat × Nat × Nat) : Prop := I 84 2 = nI T.2.1 ∧ I 84 3 = nI T.1 ∧ I 84 4 = zf_tkc T.2.2.1 ∧ (T.2.2.1 = 27 → I 84 5 = nI T.2.2.2)
theorem zf_sgn_c : ∀ c : Fin 256, (zf_any (fun j => decide (zf_ch 1 j = zf_cv c.1)) 12 0 = true → zf_tkc (zf_sgn c.1) = zf_cv c.1) ∧ (zf_any (fun j => decide (zf_ch 1 j = zf_cv c.1)) 12 0 = false → zf_tkc (zf_sgn c.1) = nI 1) ∧ zf_sgn c.1 ≠ 27 := by decide +kernel
section TA
variable {Lh n : Nat} {b : Nat → Nat} {I : zx_MI} {J : zx_MJ}
theorem sc_isSign {x : Int32} (si : zx_SI I) : ∀ d P, zx_rn (d + 4) 79 [.int x] (zx_LL Lh) I J P = P (some (.int (zB (zf_any (fun j => decide (zf_ch 1 j = x)) 12 0)))) (zx_LL Lh) I J := by
  have hl1 : zf_len 1 = 12 := by decide +kernel
  have k1 : (zx_LL Lh).1 5011 = (56, 0) := zk_txt (i := 1) (by omega)
  have hln := fun d P => zl_length (d := d) (Lh := Lh) (I := I) (J := J) (P := P) (i := 1) si (by omega)
  rw [hl1] at hln
  have hch := fun j (hj : j < 12) d P => zl_charAt (d := d) (Lh := Lh) (I := I) (J := J) (P := P) (i := 1) (j := j) si (by omega) (by rw [hl1]; exact hj)
  have loop : ∀ mm j, j + mm = 12 → ∀ d P, zx_wp (d + 4) 79 2 [.int x, .int (nI j)] [] (zx_LL Lh) I J P = P (some (.int (zB (zf_any (fun j => decide (zf_ch 1 j = x)) mm j)))) (zx_LL Lh) I J := by
    intro mm
    induction mm with
    | zero =>
      intro j hj d P
      obtain rfl : j = 12 := by omega
      rw [zs_79_2]
      simp (disch := omega) only [↓zs_79_3, ↓zs_79_5, ↓zs_79_8, ↓zs_79_11, ↓zs_79_13, ↓zs_79_14, ↓zs_79_17, ↓zs_79_18, ↓zs_79_21, ↓zs_79_22, ↓zs_79_23, ↓zs_79_26, ↓zs_79_29, ↓zs_79_30, zx_pu_s, zx_pu_n, zx_rv_s, zx_rv_n, true_and, and_true, true_or, or_true, zb_0, zb_1, zq_lcl, zq_lcg, zq_lce, eq_self, ite_true, ite_false, nI_ltI, Nat.lt_irrefl, k1, hln]
      rfl
    | succ mm ih =>
      intro j hj d P
      have lt : j < 12 := by omega
      have hc := hch j lt
      rw [zf_any, zs_79_2]
      by_cases c : zf_ch 1 j = x
      · have c' : (zf_ch 1 j = x) = True := eq_true c
        rw [decide_eq_true c, Bool.true_or]
        simp (disch := omega) only [↓zs_79_3, ↓zs_79_5, ↓zs_79_8, ↓zs_79_11, ↓zs_79_13, ↓zs_79_14, ↓zs_79_17, ↓zs_79_18, ↓zs_79_21, ↓zs_79_22, ↓zs_79_23, ↓zs_79_26, ↓zs_79_29, ↓zs_79_30, zx_pu_s, zx_pu_n, zx_rv_s, zx_rv_n, true_and, and_true, true_or, or_true, zb_0, zb_1, zq_lcl, zq_lcg, zq_lce, eq_self, ite_true, ite_false, nI_ltI, lt, k1, hln, hc, c']
        rfl
      · have c' : (zf_ch 1 j = x) = False := eq_false c
        rw [decide_eq_false c, Bool.false_or, ← ih (j + 1) (by omega) d P]
        simp (disch := omega) only [↓zs_79_3, ↓zs_79_5, ↓zs_79_8, ↓zs_79_11, ↓zs_79_13, ↓zs_79_14, ↓zs_79_17, ↓zs_79_18, ↓zs_79_21, ↓zs_79_22, ↓zs_79_23, ↓zs_79_26, ↓zs_79_29, ↓zs_79_30, zx_pu_s, zx_pu_n, zx_rv_s, zx_rv_n, true_and, and_true, true_or, or_true, zb_0, zb_1, zq_lcl, zq_lcg, zq_lce, eq_self, ite_true, ite_false, nI_ltI, nI_add, lt, k1, hln, hc, c']
  intro d P
  rw [ze_79]
  simp (disch := omega) only [↓zs_79_0, ↓zs_79_1, zx_pu_s, zx_pu_n, zx_rv_s, zx_rv_n, true_and, and_true, true_or, or_true, zb_0, zb_1, zq_lcl, zq_lcg, zq_lce, eq_self, ite_true, ite_false]
  exact loop 12 0 (by omega) d P
theorem sc_number {s : Nat} (z : zTx I b n) (hs : s < n) (e2 : I 84 2 = nI s) (e3 : I 84 3 = nI s) : ∃ I2, (∀ a j, ¬ (a = 84 ∧ (j = 2 ∨ j = 5)) → I2 a j = I a j) ∧ I2 84 2 = nI (zf_end2 b n s) ∧ I2 84 5 = nI (zf_num b s (zf_end2 b n s - s)) ∧ ∀ d P, zx_rn (d + 4) 80 [.ref 84] (zx_LL Lh) I J P = P (some (.int (zf_tkc (if 3 < zf_end2 b n s - s then 29 else 27)))) (zx_LL Lh) I2 J := by
  obtain ⟨f1, f2, f3, f4⟩ := zf_end2_p (b := b) (n := n) (s := s) (by omega)
  have n9 := z.1
  generalize hf : zf_end2 b n s = f at *
  have loop : ∀ mm i (I1 : zx_MI), s + i + mm = f → (∀ a j, ¬ (a = 84 ∧ (j = 2 ∨ j = 5)) → I1 a j = I a j) → I1 84 2 = nI (s + i) → I1 84 5 = nI (zf_num b s i) → ∃ I2, (∀ a j, ¬ (a = 84 ∧ (j = 2 ∨ j = 5)) → I2 a j = I a j) ∧ I2 84 2 = nI f ∧ I2 84 5 = nI (zf_num b s (f - s)) ∧ ∀ d P, zx_wp (d + 4) 80 7 [.ref 84, .int (nI i)] [] (zx_LL Lh) I1 J P = zx_wp (d + 4) 80 91 [.ref 84, .int (nI (i + mm))] [] (zx_LL Lh) I2 J P := by
    intro mm
    induction mm with
    | zero =>
      intro i I1 ha fr e ev
      refine ⟨I1, fr, by rw [e, show s + i = f by omega], by rw [ev, show f - s = i by omega], fun d P => ?_⟩
      have z1 : zTx I1 b n := zTx_f z (fun j => fr 85 j (by omega)) (fr 84 1 (by omega))
      have hb := fun d P => sc_byteAt (d := d) (Lh := Lh) (J := J) (P := P) z1 (i := s + i) (by omega)
      obtain ⟨-, -, -, -, c3⟩ := zf_cv_f ⟨_, zf_c_lt z (s + i)⟩
      dsimp only at c3
      rw [show s + i = f by omega] at c3 hb e
      rw [zs_80_7]
      by_cases c9 : i < 900
      · rcases c3 f3 with q | ⟨q1, q2⟩
        · simp (disch := omega) only [↓zs_80_8, ↓zs_80_11, ↓zs_80_14, ↓zs_80_15, ↓zs_80_16, ↓zs_80_19, ↓zs_80_22, ↓zs_80_24, ↓zs_80_27, ↓zs_80_28, ↓zs_80_29, ↓zs_80_32, ↓zs_80_35, ↓zs_80_37, ↓zs_80_40, ↓zs_80_41, ↓zs_80_42, ↓zs_80_43, ↓zs_80_46, ↓zs_80_48, ↓zs_80_49, ↓zs_80_52, ↓zs_80_53, ↓zs_80_54, ↓zs_80_55, ↓zs_80_58, ↓zs_80_61, ↓zs_80_62, ↓zs_80_64, ↓zs_80_65, ↓zs_80_68, ↓zs_80_69, ↓zs_80_72, ↓zs_80_75, ↓zs_80_76, ↓zs_80_77, ↓zs_80_80, ↓zs_80_81, ↓zs_80_82, ↓zs_80_85, ↓zs_80_88, zx_pu_s, zx_pu_n, zx_rv_s, zx_rv_n, true_and, and_true, true_or, or_true, zb_0, zb_1, zq_lcl, zq_lcg, zq_lce, eq_self, ite_true, ite_false, zk_84, zw_84, zq_84_0, nI_ltI, c9, e, hb, q, Nat.add_zero]
        · simp (disch := omega) only [↓zs_80_8, ↓zs_80_11, ↓zs_80_14, ↓zs_80_15, ↓zs_80_16, ↓zs_80_19, ↓zs_80_22, ↓zs_80_24, ↓zs_80_27, ↓zs_80_28, ↓zs_80_29, ↓zs_80_32, ↓zs_80_35, ↓zs_80_37, ↓zs_80_40, ↓zs_80_41, ↓zs_80_42, ↓zs_80_43, ↓zs_80_46, ↓zs_80_48, ↓zs_80_49, ↓zs_80_52, ↓zs_80_53, ↓zs_80_54, ↓zs_80_55, ↓zs_80_58, ↓zs_80_61, ↓zs_80_62, ↓zs_80_64, ↓zs_80_65, ↓zs_80_68, ↓zs_80_69, ↓zs_80_72, ↓zs_80_75, ↓zs_80_76, ↓zs_80_77, ↓zs_80_80, ↓zs_80_81, ↓zs_80_82, ↓zs_80_85, ↓zs_80_88, zx_pu_s, zx_pu_n, zx_rv_s, zx_rv_n, true_and, and_true, true_or, or_true, zb_0, zb_1, zq_lcl, zq_lcg, zq_lce, eq_self, ite_true, ite_false, zk_84, zw_84, zq_84_0, nI_ltI, c9, e, hb, q1, q2, Nat.add_zero]
      · simp (disch := omega) only [↓zs_80_8, ↓zs_80_11, ↓zs_80_14, ↓zs_80_15, ↓zs_80_16, ↓zs_80_19, ↓zs_80_22, ↓zs_80_24, ↓zs_80_27, ↓zs_80_28, ↓zs_80_29, ↓zs_80_32, ↓zs_80_35, ↓zs_80_37, ↓zs_80_40, ↓zs_80_41, ↓zs_80_42, ↓zs_80_43, ↓zs_80_46, ↓zs_80_48, ↓zs_80_49, ↓zs_80_52, ↓zs_80_53, ↓zs_80_54, ↓zs_80_55, ↓zs_80_58, ↓zs_80_61, ↓zs_80_62, ↓zs_80_64, ↓zs_80_65, ↓zs_80_68, ↓zs_80_69, ↓zs_80_72, ↓zs_80_75, ↓zs_80_76, ↓zs_80_77, ↓zs_80_80, ↓zs_80_81, ↓zs_80_82, ↓zs_80_85, ↓zs_80_88, zx_pu_s, zx_pu_n, zx_rv_s, zx_rv_n, true_and, and_true, true_or, or_true, zb_0, zb_1, zq_lcl, zq_lcg, zq_lce, eq_self, ite_true, ite_false, nI_ltI, c9, Nat.add_zero]
    | succ mm ih =>
      intro i I1 ha fr e ev
      have z1 : zTx I1 b n := zTx_f z (fun j => fr 85 j (by omega)) (fr 84 1 (by omega))
      have hb := fun d P => sc_byteAt (d := d) (Lh := Lh) (J := J) (P := P) z1 (i := s + i) (by omega)
      obtain ⟨-, -, -, c2, -⟩ := zf_cv_f ⟨_, zf_c_lt z (s + i)⟩
      have hd := f4 (s + i) (by omega) (by omega)
      obtain ⟨q1, q2, q3⟩ := c2 hd
      dsimp only at q1 q2 q3
      have ec : zf_c b n (s + i) = b (s + i) := if_pos (by omega)
      rw [ec] at hd
      have h48 : 48 ≤ b (s + i) := by
        unfold zf_dg at hd
        rw [Bool.and_eq_true, decide_eq_true_iff] at hd
        exact hd.1
      have c9 : i < 900 := by omega
      have hv := (zf_num_lt (b := b) (s := s) (f := f) (fun j j1 j2 => by
        have q := f4 j j1 j2
        have e1 : zf_c b n j = b j := if_pos (by omega)
        rw [e1, zf_dg, Bool.and_eq_true, decide_eq_true_iff, decide_eq_true_iff] at q
        exact q.2) i (by omega)).2.2.2
      obtain ⟨I2, fr2, g2, g5, h2⟩ := ih (i + 1) (zx_u (zx_u I1 84 5 (nI (zf_num b s (i + 1)))) 84 2 (nI (s + i + 1))) (by omega) (fun a j n => by rw [zu_n (by omega), zu_n (by omega)]; exact fr a j n) (zu_s _ _ _ _) (by rw [zu_n (by omega), zu_s])
      refine ⟨I2, fr2, g2, g5, fun d P => ?_⟩
      have e5 : ∀ y, zx_u I1 84 5 y 84 2 = nI (s + i) := fun y => (zu_n (by omega)).trans e
      rw [show i + (mm + 1) = i + 1 + mm by omega, ← h2 d P, zs_80_7]
      rw [q3, ec] at hb
      rw [q3, ec] at q1 q2
      by_cases c3 : i < 3
      · have en : zf_num b s (i + 1) = 10 * zf_num b s i + (b (s + i) - 48) := by rw [zf_num, if_pos c3]
        have em : 10 * zf_num b s i + b (s + i) - 48 = 10 * zf_num b s i + (b (s + i) - 48) := by omega
        have es : nI (10 * zf_num b s i + b (s + i)) - nI 48 = nI (10 * zf_num b s i + (b (s + i) - 48)) := by rw [pk_sub (by omega), em]
        rw [en]
        simp (disch := omega) only [↓zs_80_8, ↓zs_80_11, ↓zs_80_14, ↓zs_80_15, ↓zs_80_16, ↓zs_80_19, ↓zs_80_22, ↓zs_80_24, ↓zs_80_27, ↓zs_80_28, ↓zs_80_29, ↓zs_80_32, ↓zs_80_35, ↓zs_80_37, ↓zs_80_40, ↓zs_80_41, ↓zs_80_42, ↓zs_80_43, zx_pu_s, zx_pu_n, zx_rv_s, zx_rv_n, true_and, and_true, true_or, or_true, zb_0, zb_1, zq_lcl, zq_lcg, zq_lce, eq_self, ite_true, ite_false, zk_84, zw_84, zq_84_0, nI_ltI, c9, e, hb, q1, q2, c3]
        simp (disch := omega) only [↓zs_80_46, ↓zs_80_48, ↓zs_80_49, ↓zs_80_52, ↓zs_80_53, ↓zs_80_54, ↓zs_80_55, ↓zs_80_58, ↓zs_80_61, ↓zs_80_62, ↓zs_80_64, ↓zs_80_65, ↓zs_80_68, ↓zs_80_69, ↓zs_80_72, ↓zs_80_75, ↓zs_80_76, ↓zs_80_77, ↓zs_80_80, ↓zs_80_81, ↓zs_80_82, ↓zs_80_85, ↓zs_80_88, zx_pu_s, zx_pu_n, zx_rv_s, zx_rv_n, true_and, and_true, true_or, or_true, zb_0, zb_1, zq_lcl, zq_lcg, zq_lce, eq_self, ite_true, ite_false, zk_84, zw_84, zq_84_0, nI_add, pk_mul, e, ev, hb, es, e5]
      · have en : zf_num b s (i + 1) = zf_num b s i := by rw [zf_num, if_neg c3]
        rw [en]
        simp (disch := omega) only [↓zs_80_8, ↓zs_80_11, ↓zs_80_14, ↓zs_80_15, ↓zs_80_16, ↓zs_80_19, ↓zs_80_22, ↓zs_80_24, ↓zs_80_27, ↓zs_80_28, ↓zs_80_29, ↓zs_80_32, ↓zs_80_35, ↓zs_80_37, ↓zs_80_40, ↓zs_80_41, ↓zs_80_42, ↓zs_80_43, zx_pu_s, zx_pu_n, zx_rv_s, zx_rv_n, true_and, and_true, true_or, or_true, zb_0, zb_1, zq_lcl, zq_lcg, zq_lce, eq_self, ite_true, ite_false, zk_84, zw_84, zq_84_0, nI_ltI, c9, e, hb, q1, q2, c3]
        simp (disch := omega) only [↓zs_80_46, ↓zs_80_48, ↓zs_80_49, ↓zs_80_52, ↓zs_80_53, ↓zs_80_54, ↓zs_80_55, ↓zs_80_58, ↓zs_80_61, ↓zs_80_62, ↓zs_80_64, ↓zs_80_65, ↓zs_80_68, ↓zs_80_69, ↓zs_80_72, ↓zs_80_75, ↓zs_80_76, ↓zs_80_77, ↓zs_80_80, ↓zs_80_81, ↓zs_80_82, ↓zs_80_85, ↓zs_80_88, zx_pu_s, zx_pu_n, zx_rv_s, zx_rv_n, true_and, and_true, true_or, or_true, zb_0, zb_1, zq_lcl, zq_lcg, zq_lce, eq_self, ite_true, ite_false, zk_84, zw_84, zq_84_0, nI_add, ev, e5]
  obtain ⟨I2, fr2, g2, g5, h2⟩ := loop (f - s) 0 (zx_u I 84 5 (nI 0)) (by omega) (fun a j n => zu_n (by omega)) ((zu_n (by omega)).trans e2) (zu_s _ _ _ _)
  refine ⟨I2, fr2, g2, g5, fun d P => ?_⟩
  have g3 : I2 84 3 = nI s := (fr2 84 3 (by omega)).trans e3
  have es : nI f - nI s = nI (f - s) := pk_sub f1
  rw [ze_80]
  simp (disch := omega) only [↓zs_80_0, ↓zs_80_1, ↓zs_80_2, ↓zs_80_5, ↓zs_80_6, zx_pu_s, zx_pu_n, zx_rv_s, zx_rv_n, true_and, and_true, true_or, or_true, zb_0, zb_1, zq_lcl, zq_lcg, zq_lce, eq_self, ite_true, ite_false, zk_84, zw_84, zq_84_0]
  rw [h2]
  by_cases c : 3 < f - s
  · rw [if_pos c]
    simp (disch := omega) only [↓zs_80_91, ↓zs_80_92, ↓zs_80_95, ↓zs_80_96, ↓zs_80_99, ↓zs_80_100, ↓zs_80_101, ↓zs_80_104, ↓zs_80_105, ↓zs_80_108, ↓zs_80_109, zx_pu_s, zx_pu_n, zx_rv_s, zx_rv_n, true_and, and_true, true_or, or_true, zb_0, zb_1, zq_lcl, zq_lcg, zq_lce, eq_self, ite_true, ite_false, zk_84, zw_84, zq_84_0, nI_ltI, g2, g3, es, c]
    rfl
  · rw [if_neg c]
    simp (disch := omega) only [↓zs_80_91, ↓zs_80_92, ↓zs_80_95, ↓zs_80_96, ↓zs_80_99, ↓zs_80_100, ↓zs_80_101, ↓zs_80_104, ↓zs_80_105, ↓zs_80_108, ↓zs_80_109, zx_pu_s, zx_pu_n, zx_rv_s, zx_rv_n, true_and, and_true, true_or, or_true, zb_0, zb_1, zq_lcl, zq_lcg, zq_lce, eq_self, ite_true, ite_false, zk_84, zw_84, zq_84_0, nI_ltI, g2, g3, es, c]
    rfl
theorem sc_advance {e : Nat} (z : zTx I b n) (si : zx_SI I) (he : e ≤ n) (e2 : I 84 2 = nI e) : ∃ I2, (∀ a j, ¬ (a = 84 ∧ 2 ≤ j ∧ j ≤ 5) → I2 a j = I a j) ∧ zTc I2 (zf_nx b n e) ∧ ∀ d P, zx_rn (d + 5) 78 [.ref 84] (zx_LL Lh) I J P = P none (zx_LL Lh) I2 J := by
  obtain ⟨f1, f2, f3, f4⟩ := zf_st0_p (b := b) (n := n) (s := e) he
  have n9 := z.1
  unfold zf_nx
  generalize hf : zf_st0 b n e = s at *
  have loop : ∀ mm a i (I1 : zx_MI), a + mm = s → i + mm ≤ 900 → e ≤ a → (∀ a j, ¬ (a = 84 ∧ j = 2) → I1 a j = I a j) → I1 84 2 = nI a → ∃ I2, (∀ a j, ¬ (a = 84 ∧ j = 2) → I2 a j = I a j) ∧ I2 84 2 = nI s ∧ ∀ d P, zx_wp (d + 5) 78 2 [.ref 84, .int (nI i)] [] (zx_LL Lh) I1 J P = zx_wp (d + 5) 78 51 [.ref 84, .int (nI (i + mm))] [] (zx_LL Lh) I2 J P := by
    intro mm
    induction mm with
    | zero =>
      intro a i I1 ha hi sa fr e
      obtain rfl : a = s := by omega
      refine ⟨I1, fr, e, fun d P => ?_⟩
      have z1 : zTx I1 b n := zTx_f z (fun j => fr 85 j (by omega)) (fr 84 1 (by omega))
      have hb := fun d P => sc_byteAt (d := d) (Lh := Lh) (J := J) (P := P) z1 (i := a) (by omega)
      obtain ⟨⟨c1, c2⟩, -⟩ := zf_cv_f ⟨_, zf_c_lt z a⟩
      dsimp only at c1 c2
      rw [zf_sp, Bool.or_eq_false_iff, decide_eq_false_iff_not, decide_eq_false_iff_not] at f3
      have q1 : (zf_cv (zf_c b n a) = nI 32) = False := eq_false (fun w => f3.1 (c1.mp w))
      have q2 : (zf_cv (zf_c b n a) = nI 10) = False := eq_false (fun w => f3.2 (c2.mp w))
      rw [zs_78_2]
      by_cases c9 : i < 900
      · simp (disch := omega) only [↓zs_78_3, ↓zs_78_6, ↓zs_78_9, ↓zs_78_10, ↓zs_78_11, ↓zs_78_14, ↓zs_78_17, ↓zs_78_19, ↓zs_78_22, ↓zs_78_23, ↓zs_78_24, ↓zs_78_27, ↓zs_78_30, ↓zs_78_32, ↓zs_78_35, ↓zs_78_36, ↓zs_78_37, ↓zs_78_40, ↓zs_78_41, ↓zs_78_42, ↓zs_78_45, ↓zs_78_48, zx_pu_s, zx_pu_n, zx_rv_s, zx_rv_n, true_and, and_true, true_or, or_true, zb_0, zb_1, zq_lcl, zq_lcg, zq_lce, eq_self, ite_true, ite_false, zk_84, zw_84, zq_84_0, nI_ltI, c9, e, hb, q1, q2, Nat.add_zero]
      · simp (disch := omega) only [↓zs_78_3, ↓zs_78_6, ↓zs_78_9, ↓zs_78_10, ↓zs_78_11, ↓zs_78_14, ↓zs_78_17, ↓zs_78_19, ↓zs_78_22, ↓zs_78_23, ↓zs_78_24, ↓zs_78_27, ↓zs_78_30, ↓zs_78_32, ↓zs_78_35, ↓zs_78_36, ↓zs_78_37, ↓zs_78_40, ↓zs_78_41, ↓zs_78_42, ↓zs_78_45, ↓zs_78_48, zx_pu_s, zx_pu_n, zx_rv_s, zx_rv_n, true_and, and_true, true_or, or_true, zb_0, zb_1, zq_lcl, zq_lcg, zq_lce, eq_self, ite_true, ite_false, nI_ltI, c9, Nat.add_zero]
    | succ mm ih =>
      intro a i I1 ha hi sa fr e
      have z1 : zTx I1 b n := zTx_f z (fun j => fr 85 j (by omega)) (fr 84 1 (by omega))
      have hb := fun d P => sc_byteAt (d := d) (Lh := Lh) (J := J) (P := P) z1 (i := a) (by omega)
      obtain ⟨⟨c1, c2⟩, -⟩ := zf_cv_f ⟨_, zf_c_lt z a⟩
      dsimp only at c1 c2
      have hsp := f4 a sa (by omega)
      rw [zf_sp, Bool.or_eq_true, decide_eq_true_iff, decide_eq_true_iff] at hsp
      have c9 : i < 900 := by omega
      obtain ⟨I2, fr2, g2, h2⟩ := ih (a + 1) (i + 1) (zx_u I1 84 2 (nI (a + 1))) (by omega) (by omega) (by omega) (fun a j n => by rw [zu_n (by omega)]; exact fr a j n) (zu_s _ _ _ _)
      refine ⟨I2, fr2, g2, fun d P => ?_⟩
      rw [show i + (mm + 1) = i + 1 + mm by omega, ← h2 d P, zs_78_2]
      by_cases c32 : zf_c b n a = 32
      · have q1 : (zf_cv (zf_c b n a) = nI 32) = True := eq_true (c1.mpr c32)
        simp (disch := omega) only [↓zs_78_3, ↓zs_78_6, ↓zs_78_9, ↓zs_78_10, ↓zs_78_11, ↓zs_78_14, ↓zs_78_17, ↓zs_78_19, ↓zs_78_22, ↓zs_78_23, ↓zs_78_24, ↓zs_78_27, ↓zs_78_30, ↓zs_78_32, ↓zs_78_35, ↓zs_78_36, ↓zs_78_37, ↓zs_78_40, ↓zs_78_41, ↓zs_78_42, ↓zs_78_45, ↓zs_78_48, zx_pu_s, zx_pu_n, zx_rv_s, zx_rv_n, true_and, and_true, true_or, or_true, zb_0, zb_1, zq_lcl, zq_lcg, zq_lce, eq_self, ite_true, ite_false, zk_84, zw_84, zq_84_0, nI_ltI, nI_add, c9, e, hb, q1]
      · have q1 : (zf_cv (zf_c b n a) = nI 32) = False := eq_false (fun w => c32 (c1.mp w))
        have q2 : (zf_cv (zf_c b n a) = nI 10) = True := eq_true (c2.mpr (by omega))
        simp (disch := omega) only [↓zs_78_3, ↓zs_78_6, ↓zs_78_9, ↓zs_78_10, ↓zs_78_11, ↓zs_78_14, ↓zs_78_17, ↓zs_78_19, ↓zs_78_22, ↓zs_78_23, ↓zs_78_24, ↓zs_78_27, ↓zs_78_30, ↓zs_78_32, ↓zs_78_35, ↓zs_78_36, ↓zs_78_37, ↓zs_78_40, ↓zs_78_41, ↓zs_78_42, ↓zs_78_45, ↓zs_78_48, zx_pu_s, zx_pu_n, zx_rv_s, zx_rv_n, true_and, and_true, true_or, or_true, zb_0, zb_1, zq_lcl, zq_lcg, zq_lce, eq_self, ite_true, ite_false, zk_84, zw_84, zq_84_0, nI_ltI, nI_add, c9, e, hb, q1, q2]
  obtain ⟨I2, fr2, g2, h2⟩ := loop (s - e) e 0 I (by omega) (by omega) (Nat.le_refl _) (fun _ _ _ => rfl) e2
  -- the start is kept
  have z3 : zTx (zx_u I2 84 3 (nI s)) b n := zTx_f z (fun j => (zu_n (by omega)).trans (fr2 85 j (by omega))) ((zu_n (by omega)).trans (fr2 84 1 (by omega)))
  have si3 : zx_SI (zx_u I2 84 3 (nI s)) := fun a j ha => (zu_n (by omega)).trans ((fr2 a j (by omega)).trans (si a j ha))
  have g2' : zx_u I2 84 3 (nI s) 84 2 = nI s := (zu_n (by omega)).trans g2
  have gn : zx_u I2 84 3 (nI s) 84 1 = nI n := z3.2.1
  have hb := fun d P => sc_byteAt (d := d) (Lh := Lh) (J := J) (P := P) z3 (i := s) (by omega)
  have begin : ∀ d P, zx_rn (d + 5) 78 [.ref 84] (zx_LL Lh) I J P = zx_wp (d + 5) 78 68 [.ref 84, .int (zf_cv (zf_c b n s))] [] (zx_LL Lh) (zx_u I2 84 3 (nI s)) J P := fun d P => by
    rw [ze_78]
    simp (disch := omega) only [↓zs_78_0, ↓zs_78_1, zx_pu_s, zx_pu_n, zx_rv_s, zx_rv_n, true_and, and_true, true_or, or_true, zb_0, zb_1, zq_lcl, zq_lcg, zq_lce, eq_self, ite_true, ite_false]
    rw [h2]
    simp (disch := omega) only [↓zs_78_51, ↓zs_78_52, ↓zs_78_53, ↓zs_78_56, ↓zs_78_59, ↓zs_78_60, ↓zs_78_61, ↓zs_78_64, ↓zs_78_67, zx_pu_s, zx_pu_n, zx_rv_s, zx_rv_n, true_and, and_true, true_or, or_true, zb_0, zb_1, zq_lcl, zq_lcg, zq_lce, eq_self, ite_true, ite_false, zk_84, zw_84, zq_84_0, g2, g2', hb]
  unfold zf_tk1
  by_cases cn : n ≤ s
  · rw [if_pos cn]
    have cn' : ¬ s < n := by omega
    refine ⟨zx_u (zx_u I2 84 3 (nI s)) 84 4 (nI 0), fun a j w => by rw [zu_n (by omega), zu_n (by omega)]; exact fr2 a j (by omega), ⟨?_, ?_, ?_, fun w => absurd w (by show ¬ (28 : Nat) = 27; decide)⟩, fun d P => ?_⟩
    · rw [zu_n (by omega)]; exact g2'
    · rw [zu_n (by omega), zu_s]
    · rw [zu_s]; rfl
    · rw [begin]
      simp (disch := omega) only [↓zs_78_68, ↓zs_78_69, ↓zs_78_72, ↓zs_78_73, ↓zs_78_76, ↓zs_78_79, ↓zs_78_80, ↓zs_78_81, ↓zs_78_84, ↓zs_78_87, ↓zs_78_88, ↓zs_78_90, ↓zs_78_93, ↓zs_78_94, ↓zs_78_96, ↓zs_78_99, ↓zs_78_100, ↓zs_78_101, ↓zs_78_104, ↓zs_78_107, ↓zs_78_110, ↓zs_78_111, ↓zs_78_113, ↓zs_78_116, ↓zs_78_117, ↓zs_78_119, ↓zs_78_122, ↓zs_78_123, ↓zs_78_124, ↓zs_78_127, ↓zs_78_130, ↓zs_78_133, ↓zs_78_134, ↓zs_78_135, ↓zs_78_138, ↓zs_78_141, ↓zs_78_142, ↓zs_78_145, ↓zs_78_146, ↓zs_78_149, ↓zs_78_150, ↓zs_78_151, ↓zs_78_154, ↓zs_78_155, ↓zs_78_156, ↓zs_78_159, zx_pu_s, zx_pu_n, zx_rv_s, zx_rv_n, true_and, and_true, true_or, or_true, zb_0, zb_1, zq_lcl, zq_lcg, zq_lce, eq_self, ite_true, ite_false, zk_84, zw_84, zq_84_0, nI_ltI, g2', gn, cn']
  · rw [if_neg cn]
    have cn' : s < n := by omega
    have ec : zf_c b n s = b s := if_pos cn'
    have hb256 := (z.2.2 s cn').1
    obtain ⟨-, ca, ca', cd, cd'⟩ := zf_cv_f ⟨b s, by omega⟩
    dsimp only at ca ca' cd cd'
    rw [ec] at begin
    by_cases c1 : zf_al (b s) = true
    · rw [if_pos c1]
      obtain ⟨q1, q2, q3⟩ := ca c1
      obtain ⟨I4, f4, g4, h4⟩ := sc_word (Lh := Lh) (J := J) z3 si3 cn' g2' (zu_s _ _ _ _)
      have hn27 : zf_wd b s (zf_enw b n s) ≠ 27 := by
        rcases zf_fi_lt (t := 2) (x := zf_x b s (zf_enw b n s)) zf_km 0 26 with q | q
        · have q' : zf_wd b s (zf_enw b n s) < 24 := q
          omega
        · have q' : zf_wd b s (zf_enw b n s) = 26 := q
          omega
      refine ⟨zx_u I4 84 4 (zf_tkc (zf_wd b s (zf_enw b n s))), fun a j w => by rw [zu_n (by omega), f4 a j (by omega), zu_n (by omega)]; exact fr2 a j (by omega), ⟨?_, ?_, zu_s _ _ _ _, fun w => absurd w hn27⟩, fun d P => ?_⟩
      · rw [zu_n (by omega)]; exact g4
      · rw [zu_n (by omega), f4 84 3 (by omega), zu_s]
      · rw [begin]
        simp (disch := omega) only [↓zs_78_68, ↓zs_78_69, ↓zs_78_72, ↓zs_78_73, ↓zs_78_76, ↓zs_78_79, ↓zs_78_80, ↓zs_78_81, ↓zs_78_84, ↓zs_78_87, ↓zs_78_88, ↓zs_78_90, ↓zs_78_93, ↓zs_78_94, ↓zs_78_96, ↓zs_78_99, ↓zs_78_100, ↓zs_78_101, ↓zs_78_104, ↓zs_78_107, ↓zs_78_110, ↓zs_78_111, ↓zs_78_113, ↓zs_78_116, ↓zs_78_117, ↓zs_78_119, ↓zs_78_122, ↓zs_78_123, ↓zs_78_124, ↓zs_78_127, ↓zs_78_130, ↓zs_78_133, ↓zs_78_134, ↓zs_78_135, ↓zs_78_138, ↓zs_78_141, ↓zs_78_142, ↓zs_78_145, ↓zs_78_146, ↓zs_78_149, ↓zs_78_150, ↓zs_78_151, ↓zs_78_154, ↓zs_78_155, ↓zs_78_156, ↓zs_78_159, zx_pu_s, zx_pu_n, zx_rv_s, zx_rv_n, true_and, and_true, true_or, or_true, zb_0, zb_1, zq_lcl, zq_lcg, zq_lce, eq_self, ite_true, ite_false, zk_84, zw_84, zq_84_0, nI_ltI, g2', gn, cn', q1, q2, h4]
    · rw [if_neg c1]
      have n1 := ca' (Bool.not_eq_true _ ▸ c1)
      have nolet : ∀ d P, zx_wp (d + 5) 78 68 [.ref 84, .int (zf_cv (b s))] [] (zx_LL Lh) (zx_u I2 84 3 (nI s)) J P = zx_wp (d + 5) 78 110 [.ref 84, .int (zf_cv (b s))] [] (zx_LL Lh) (zx_u I2 84 3 (nI s)) J P := fun d P => by
        rcases n1 with q | ⟨q1, q2⟩
        · simp (disch := omega) only [↓zs_78_68, ↓zs_78_69, ↓zs_78_72, ↓zs_78_73, ↓zs_78_76, ↓zs_78_79, ↓zs_78_80, ↓zs_78_81, ↓zs_78_84, ↓zs_78_87, ↓zs_78_88, ↓zs_78_90, ↓zs_78_93, ↓zs_78_94, ↓zs_78_96, ↓zs_78_99, ↓zs_78_100, ↓zs_78_101, ↓zs_78_104, ↓zs_78_107, zx_pu_s, zx_pu_n, zx_rv_s, zx_rv_n, true_and, and_true, true_or, or_true, zb_0, zb_1, zq_lcl, zq_lcg, zq_lce, eq_self, ite_true, ite_false, zk_84, zw_84, zq_84_0, nI_ltI, g2', gn, cn', q]
        · simp (disch := omega) only [↓zs_78_68, ↓zs_78_69, ↓zs_78_72, ↓zs_78_73, ↓zs_78_76, ↓zs_78_79, ↓zs_78_80, ↓zs_78_81, ↓zs_78_84, ↓zs_78_87, ↓zs_78_88, ↓zs_78_90, ↓zs_78_93, ↓zs_78_94, ↓zs_78_96, ↓zs_78_99, ↓zs_78_100, ↓zs_78_101, ↓zs_78_104, ↓zs_78_107, zx_pu_s, zx_pu_n, zx_rv_s, zx_rv_n, true_and, and_true, true_or, or_true, zb_0, zb_1, zq_lcl, zq_lcg, zq_lce, eq_self, ite_true, ite_false, zk_84, zw_84, zq_84_0, nI_ltI, g2', gn, cn', q1, q2]
      by_cases c2 : zf_dg (b s) = true
      · rw [if_pos c2]
        obtain ⟨q1, q2, q3⟩ := cd c2
        obtain ⟨I4, f4, g4, g5, h4⟩ := sc_number (Lh := Lh) (J := J) z3 cn' g2' (zu_s _ _ _ _)
        refine ⟨zx_u I4 84 4 (zf_tkc (if 3 < zf_end2 b n s - s then 29 else 27)), fun a j w => by rw [zu_n (by omega), f4 a j (by omega), zu_n (by omega)]; exact fr2 a j (by omega), ⟨?_, ?_, zu_s _ _ _ _, fun _ => ?_⟩, fun d P => ?_⟩
        · rw [zu_n (by omega)]; exact g4
        · rw [zu_n (by omega), f4 84 3 (by omega), zu_s]
        · rw [zu_n (by omega)]; exact g5
        · rw [begin, nolet]
          simp (disch := omega) only [↓zs_78_110, ↓zs_78_111, ↓zs_78_113, ↓zs_78_116, ↓zs_78_117, ↓zs_78_119, ↓zs_78_122, ↓zs_78_123, ↓zs_78_124, ↓zs_78_127, ↓zs_78_130, ↓zs_78_133, ↓zs_78_134, ↓zs_78_135, ↓zs_78_138, ↓zs_78_141, ↓zs_78_142, ↓zs_78_145, ↓zs_78_146, ↓zs_78_149, ↓zs_78_150, ↓zs_78_151, ↓zs_78_154, ↓zs_78_155, ↓zs_78_156, ↓zs_78_159, zx_pu_s, zx_pu_n, zx_rv_s, zx_rv_n, true_and, and_true, true_or, or_true, zb_0, zb_1, zq_lcl, zq_lcg, zq_lce, eq_self, ite_true, ite_false, zk_84, zw_84, zq_84_0, q1, q2, h4]
      · rw [if_neg c2]
        have n2 := cd' (Bool.not_eq_true _ ▸ c2)
        have nodig : ∀ d P, zx_wp (d + 5) 78 110 [.ref 84, .int (zf_cv (b s))] [] (zx_LL Lh) (zx_u I2 84 3 (nI s)) J P = zx_wp (d + 5) 78 133 [.ref 84, .int (zf_cv (b s))] [] (zx_LL Lh) (zx_u I2 84 3 (nI s)) J P := fun d P => by
          rcases n2 with q | ⟨q1, q2⟩
          · simp (disch := omega) only [↓zs_78_110, ↓zs_78_111, ↓zs_78_113, ↓zs_78_116, ↓zs_78_117, ↓zs_78_119, ↓zs_78_122, ↓zs_78_123, ↓zs_78_124, ↓zs_78_127, ↓zs_78_130, zx_pu_s, zx_pu_n, zx_rv_s, zx_rv_n, true_and, and_true, true_or, or_true, zb_0, zb_1, zq_lcl, zq_lcg, zq_lce, eq_self, ite_true, ite_false, q]
          · simp (disch := omega) only [↓zs_78_110, ↓zs_78_111, ↓zs_78_113, ↓zs_78_116, ↓zs_78_117, ↓zs_78_119, ↓zs_78_122, ↓zs_78_123, ↓zs_78_124, ↓zs_78_127, ↓zs_78_130, zx_pu_s, zx_pu_n, zx_rv_s, zx_rv_n, true_and, and_true, true_or, or_true, zb_0, zb_1, zq_lcl, zq_lcg, zq_lce, eq_self, ite_true, ite_false, q1, q2]
        obtain ⟨s1, s2, s3⟩ := zf_sgn_c ⟨b s, hb256⟩
        dsimp only at s1 s2 s3
        have hsg := fun d P => sc_isSign (Lh := Lh) (J := J) (x := zf_cv (b s)) si3 d P
        have e4 : ∀ y, zx_u (zx_u I2 84 3 (nI s)) 84 4 y 84 2 = nI s := fun y => (zu_n (by omega)).trans g2'
        refine ⟨zx_u (zx_u (zx_u I2 84 3 (nI s)) 84 4 (zf_tkc (zf_sgn (b s)))) 84 2 (nI (s + 1)), fun a j w => by rw [zu_n (by omega), zu_n (by omega), zu_n (by omega)]; exact fr2 a j (by omega), ⟨zu_s _ _ _ _, ?_, ?_, fun w => absurd w s3⟩, fun d P => ?_⟩
        · rw [zu_n (by omega), zu_n (by omega), zu_s]
        · rw [zu_n (by omega), zu_s]
        · rw [begin, nolet, nodig]
          cases cs : zf_any (fun j => decide (zf_ch 1 j = zf_cv (b s))) 12 0 with
          | true =>
            rw [cs] at hsg
            rw [s1 cs]
            simp (disch := omega) only [↓zs_78_133, ↓zs_78_134, ↓zs_78_135, ↓zs_78_138, ↓zs_78_141, ↓zs_78_142, ↓zs_78_145, ↓zs_78_146, ↓zs_78_149, ↓zs_78_150, ↓zs_78_151, ↓zs_78_154, ↓zs_78_155, ↓zs_78_156, ↓zs_78_159, zx_pu_s, zx_pu_n, zx_rv_s, zx_rv_n, true_and, and_true, true_or, or_true, zb_0, zb_1, zq_lcl, zq_lcg, zq_lce, eq_self, ite_true, ite_false, zk_84, zw_84, zq_84_0, hsg, zB_0, reduceCtorEq, e4, nI_add]
          | false =>
            rw [cs] at hsg
            rw [s2 cs]
            simp (disch := omega) only [↓zs_78_133, ↓zs_78_134, ↓zs_78_135, ↓zs_78_138, ↓zs_78_141, ↓zs_78_142, ↓zs_78_145, ↓zs_78_146, ↓zs_78_149, ↓zs_78_150, ↓zs_78_151, ↓zs_78_154, ↓zs_78_155, ↓zs_78_156, ↓zs_78_159, zx_pu_s, zx_pu_n, zx_rv_s, zx_rv_n, true_and, and_true, true_or, or_true, zb_0, zb_1, zq_lcl, zq_lcg, zq_lce, eq_self, ite_true, ite_false, zk_84, zw_84, zq_84_0, hsg, zB_0, reduceCtorEq, e4, nI_add]
end TA
