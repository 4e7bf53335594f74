/-! a NIGHT: the class's -/
theorem zR_u_foe {I : zx_MI} {T f : Nat} {R : Nat → Int32} {v : Int32} (r : zR_st I T R) (hf : f < 8) : zR_st (zx_u I (T + 3) f v) T (zu1 R (125 + f) v) := by
  refine ⟨?_, fun s hs => ⟨?_, ?_, ?_⟩⟩
  · rw [zu_n (by omega), zu1_n (by omega)]; exact r.1
  · rw [zu_n (by omega), zu1_n (by omega)]; exact (r.2 s hs).1
  · rw [zu_n (by omega), zu1_n (by omega)]; exact (r.2 s hs).2.1
  · by_cases e : s = f
    · rw [e, zu_s, zu1_s]
    · rw [zu_n (by omega), zu1_n (by omega)]; exact (r.2 s hs).2.2
theorem zR_u_dir {I : zx_MI} {T f : Nat} {R : Nat → Int32} {v : Int32} (r : zR_st I T R) (hf : f < 8) : zR_st (zx_u I (T + 2) f v) T (zu1 R (117 + f) v) := by
  refine ⟨?_, fun s hs => ⟨?_, ?_, ?_⟩⟩
  · rw [zu_n (by omega), zu1_n (by omega)]; exact r.1
  · rw [zu_n (by omega), zu1_n (by omega)]; exact (r.2 s hs).1
  · by_cases e : s = f
    · rw [e, zu_s, zu1_s]
    · rw [zu_n (by omega), zu1_n (by omega)]; exact (r.2 s hs).2.1
  · rw [zu_n (by omega), zu1_n (by omega)]; exact (r.2 s hs).2.2
theorem zR_u_place {I : zx_MI} {T f : Nat} {R : Nat → Int32} {v : Int32} (r : zR_st I T R) (hf : f < 8) : zR_st (zx_u I (T + 1) f v) T (zu1 R (109 + f) v) := by
  refine ⟨?_, fun s hs => ⟨?_, ?_, ?_⟩⟩
  · rw [zu_n (by omega), zu1_n (by omega)]; exact r.1
  · by_cases e : s = f
    · rw [e, zu_s, zu1_s]
    · rw [zu_n (by omega), zu1_n (by omega)]; exact (r.2 s hs).1
  · rw [zu_n (by omega), zu1_n (by omega)]; exact (r.2 s hs).2.1
  · rw [zu_n (by omega), zu1_n (by omega)]; exact (r.2 s hs).2.2
theorem zR_u_night {I : zx_MI} {T : Nat} {R : Nat → Int32} {v : Int32} (r : zR_st I T R) : zR_st (zx_u I T 3 v) T (zu1 R 133 v) := by
  refine ⟨?_, fun s hs => ⟨?_, ?_, ?_⟩⟩
  · rw [zu_s, zu1_s]
  · rw [zu_n (by omega), zu1_n (by omega)]; exact (r.2 s hs).1
  · rw [zu_n (by omega), zu1_n (by omega)]; exact (r.2 s hs).2.1
  · rw [zu_n (by omega), zu1_n (by omega)]; exact (r.2 s hs).2.2
section CNI
variable {Lh T : Nat} {I : zx_MI} {J : zx_MJ} {B : Nat → Int32}
theorem sc_deliver (hT : zx_st T) (hl : zM_let B) (sq : zR_sq I J 1 B) (rel : zR_st I T B) : ∃ I2, zFc T I I2 ∧ zR_st I2 T (zf_lets B (zl B) 0 B) ∧ ∀ d P, zx_rn d 54 [.ref 1, .ref T] (zx_LL Lh) I J P = P none (zx_LL Lh) I2 J := by
  obtain ⟨k0, k1, k2, k3⟩ := zT_k (Lh := Lh) hT
  obtain ⟨q0, q1, q2⟩ := zT_q (Lh := Lh) hT
  have hr := zT_r hT
  obtain ⟨l1, l2, l3⟩ := hl
  obtain ⟨-, -, -, -, r5, -, -, r8, -, -⟩ := sq
  generalize zl B = K at *
  have wT : zx_wr (zx_LL Lh) (T + 3) = True := eq_true (zx_wrp (by omega))
  have loop : ∀ m k I1 R v3, k + m = K → (∀ j, ¬ (125 ≤ j ∧ j < 133) → R j = B j) → zFc T I I1 → zR_st I1 T R → ∃ I2, zFc T I I2 ∧ zR_st I2 T (zf_lets B m k R) ∧ ∀ d P, zx_wp d 54 2 [.ref 1, .ref T, .int (nI k), v3] [] (zx_LL Lh) I1 J P = P none (zx_LL Lh) I2 J := by
    intro m
    induction m with
    | zero =>
      intro k I1 R v3 hk hR f rl
      have e10 : I1 1 10 = nI K := by rw [f 1 10 (by omega), r5]; exact l1
      refine ⟨I1, f, rl, fun d P => ?_⟩
      rw [zs_54_2]
      have hlt : ¬ k < K := by omega
      simp (disch := omega) only [↓zs_54_0, ↓zs_54_1, ↓zs_54_3, ↓zs_54_4, ↓zs_54_7, ↓zs_54_10, ↓zs_54_11, ↓zs_54_13, ↓zs_54_16, ↓zs_54_17, ↓zs_54_20, ↓zs_54_21, ↓zs_54_22, ↓zs_54_23, ↓zs_54_24, ↓zs_54_27, ↓zs_54_28, ↓zs_54_29, ↓zs_54_30, ↓zs_54_33, ↓zs_54_36, ↓zs_54_37, ↓zs_54_40, ↓zs_54_41, ↓zs_54_43, ↓zs_54_46, ↓zs_54_47, ↓zs_54_50, ↓zs_54_51, ↓zs_54_52, ↓zs_54_55, ↓zs_54_56, ↓zs_54_57, ↓zs_54_58, ↓zs_54_61, ↓zs_54_64, zx_pu_s, zx_pu_n, zx_rv_s, zx_rv_n, true_and, and_true, true_or, or_true, zb_0, zb_1, zq_lcl, zq_lcg, zq_lce, eq_self, ite_true, ite_false, zk_0, zw_0, zk_1, zw_1, zk_2, zw_2, zk_3, zw_3, zk_4, zw_4, zk_5, zw_5, zk_6, zw_6, zk_7, zw_7, zk_8, zw_8, zk_9, zw_9, zk_10, zw_10, zq_0_0, zq_0_1, zq_0_2, zq_0_3, zq_0_4, zq_0_5, zq_0_6, zq_0_7, zq_0_8, zq_0_9, zq_0_10, zq_0_11, zq_1_0, zq_1_1, zq_1_2, zq_1_3, zq_1_4, zq_1_5, zq_2_0, zq_2_1, zq_2_2, zn_10, zn_40, zn_040, zn_340, nI_add, zin_nI, nI_clamp, nI_ltI, nI_eq, pk_mul, nI_1, Nat.lt_irrefl, e10, hlt]
    | succ m ih =>
      intro k I1 R v3 hk hR f rl
      have hlt : k < K := by omega
      have h10 : k < 10 := by omega
      have e10 : I1 1 10 = nI K := by rw [f 1 10 (by omega), r5]; exact l1
      obtain ⟨-, ⟨g, hg, eg⟩, -⟩ := l3 k hlt
      obtain ⟨s1, s2, s3⟩ := r8 k hlt
      have t1 : I1 6 k = B (7 + 3 * k) := (f 6 k (by omega)).trans s1
      have t2 : I1 7 k = nI g := (f 7 k (by omega)).trans (s2.trans eg)
      have t3 : I1 8 k = B (7 + 3 * k + 2) := (f 8 k (by omega)).trans s3
      have tn : I1 T 3 = B 133 := rl.1.trans (hR 133 (by omega))
      rw [zf_lets]
      by_cases q : B (7 + 3 * k) = B 133
      · rw [if_pos q, eg, zf_nat, nI_clamp (by omega)]
        obtain ⟨I2, f2, rl2, h2⟩ := ih (k + 1) (zx_u I1 (T + 3) g (B (7 + 3 * k + 2))) (zu1 R (125 + g) (B (7 + 3 * k + 2))) (.int (nI g)) (by omega) (fun j n => (zu1_n (by omega)).trans (hR j n)) (zFc_t f (fun a j n => zu_n (fun e => n (by omega)))) (zR_u_foe rl hg)
        refine ⟨I2, f2, rl2, fun d P => ?_⟩
        rw [← h2 d P, zs_54_2]
        simp (disch := omega) only [↓zs_54_0, ↓zs_54_1, ↓zs_54_3, ↓zs_54_4, ↓zs_54_7, ↓zs_54_10, ↓zs_54_11, ↓zs_54_13, ↓zs_54_16, ↓zs_54_17, ↓zs_54_20, ↓zs_54_21, ↓zs_54_22, ↓zs_54_23, ↓zs_54_24, ↓zs_54_27, ↓zs_54_28, ↓zs_54_29, ↓zs_54_30, ↓zs_54_33, ↓zs_54_36, ↓zs_54_37, ↓zs_54_40, ↓zs_54_41, ↓zs_54_43, ↓zs_54_46, ↓zs_54_47, ↓zs_54_50, ↓zs_54_51, ↓zs_54_52, ↓zs_54_55, ↓zs_54_56, ↓zs_54_57, ↓zs_54_58, ↓zs_54_61, ↓zs_54_64, zx_pu_s, zx_pu_n, zx_rv_s, zx_rv_n, true_and, and_true, true_or, or_true, zb_0, zb_1, zq_lcl, zq_lcg, zq_lce, eq_self, ite_true, ite_false, zk_0, zw_0, zk_1, zw_1, zk_2, zw_2, zk_3, zw_3, zk_4, zw_4, zk_5, zw_5, zk_6, zw_6, zk_7, zw_7, zk_8, zw_8, zk_9, zw_9, zk_10, zw_10, zq_0_0, zq_0_1, zq_0_2, zq_0_3, zq_0_4, zq_0_5, zq_0_6, zq_0_7, zq_0_8, zq_0_9, zq_0_10, zq_0_11, zq_1_0, zq_1_1, zq_1_2, zq_1_3, zq_1_4, zq_1_5, zq_2_0, zq_2_1, zq_2_2, zn_10, zn_40, zn_040, zn_340, nI_add, zin_nI, nI_clamp, nI_ltI, nI_eq, pk_mul, nI_1, Nat.lt_irrefl, e10, hlt, h10, t1, t2, t3, tn, q, k0, k3, q2, wT, zn_lt0, hg]
      · rw [if_neg q]
        obtain ⟨I2, f2, rl2, h2⟩ := ih (k + 1) I1 R (.int (nI g)) (by omega) hR f rl
        refine ⟨I2, f2, rl2, fun d P => ?_⟩
        rw [← h2 d P, zs_54_2]
        simp (disch := omega) only [↓zs_54_0, ↓zs_54_1, ↓zs_54_3, ↓zs_54_4, ↓zs_54_7, ↓zs_54_10, ↓zs_54_11, ↓zs_54_13, ↓zs_54_16, ↓zs_54_17, ↓zs_54_20, ↓zs_54_21, ↓zs_54_22, ↓zs_54_23, ↓zs_54_24, ↓zs_54_27, ↓zs_54_28, ↓zs_54_29, ↓zs_54_30, ↓zs_54_33, ↓zs_54_36, ↓zs_54_37, ↓zs_54_40, ↓zs_54_41, ↓zs_54_43, ↓zs_54_46, ↓zs_54_47, ↓zs_54_50, ↓zs_54_51, ↓zs_54_52, ↓zs_54_55, ↓zs_54_56, ↓zs_54_57, ↓zs_54_58, ↓zs_54_61, ↓zs_54_64, zx_pu_s, zx_pu_n, zx_rv_s, zx_rv_n, true_and, and_true, true_or, or_true, zb_0, zb_1, zq_lcl, zq_lcg, zq_lce, eq_self, ite_true, ite_false, zk_0, zw_0, zk_1, zw_1, zk_2, zw_2, zk_3, zw_3, zk_4, zw_4, zk_5, zw_5, zk_6, zw_6, zk_7, zw_7, zk_8, zw_8, zk_9, zw_9, zk_10, zw_10, zq_0_0, zq_0_1, zq_0_2, zq_0_3, zq_0_4, zq_0_5, zq_0_6, zq_0_7, zq_0_8, zq_0_9, zq_0_10, zq_0_11, zq_1_0, zq_1_1, zq_1_2, zq_1_3, zq_1_4, zq_1_5, zq_2_0, zq_2_1, zq_2_2, zn_10, zn_40, zn_040, zn_340, nI_add, zin_nI, nI_clamp, nI_ltI, nI_eq, pk_mul, nI_1, Nat.lt_irrefl, e10, hlt, h10, t1, t2, t3, tn, q, k0, k3, q2, wT, zn_lt0, hg]
  obtain ⟨I2, f2, rl2, h2⟩ := loop K 0 I B zx_u0 (by omega) (fun _ _ => rfl) (zFc_r T I) rel
  refine ⟨I2, f2, rl2, fun d P => ?_⟩
  rw [ze_54]
  simp only [↓zs_54_0, ↓zs_54_1, zx_pu_s, zx_pu_n, zx_rv_s, zx_rv_n, true_and, and_true, true_or, or_true, zb_0, zb_1, zq_lcl, zq_lcg, zq_lce, eq_self, ite_true, ite_false]
  exact h2 d P
theorem sc_inform {s j mm : Nat} (hT : zx_st T) (hs : s < 8) (v : zV B mm) (hm : mm < 2 ^ 30) (hf : zf_hasFoe B s = true) (sq : zR_sq I J 1 B) (rel : zR_st I T B) (ej : zf_off B (zw B) s = nI j) : ∃ I2, (∀ a, a ≠ 5 → I2 a = I a) ∧ (∀ i, i < 8 → I2 5 i = zf_word B s i) ∧ ∀ d P, zx_rn (d + 1) 2 [.ref 1, .ref T, .int (nI s), .int (nI j)] (zx_LL Lh) I J P = P none (zx_LL Lh) I2 J := by
  obtain ⟨k0, k1, k2, k3⟩ := zT_k (Lh := Lh) hT
  obtain ⟨q0, q1, q2⟩ := zT_q (Lh := Lh) hT
  have hr := zT_r hT
  obtain ⟨ok, -, -, -, -, -, e133, hz⟩ := v
  obtain ⟨f, p, q, hf8, hp, hq, i1, i2, i3⟩ := zM_hasFoe ok hs hf
  have w8 : zw B ≤ 8 := ok.1.2.2.2.1
  have h8 : zh B ≤ 8 := ok.1.2.2.2.2.1
  have hwh : zw B * zh B ≤ 64 := Nat.mul_le_mul w8 h8
  have w0 : 0 < zw B := Nat.pos_of_ne_zero (fun e => by rw [e, Nat.zero_mul] at hp; omega)
  have hw : I 1 6 = nI (zw B) := sq.1.trans ok.1.1
  have tn : I T 3 = nI (zt B) := rel.1.trans e133
  have td : I (T + 2) s = B (117 + s) := (rel.2 s hs).2.1
  have tp : I (T + 1) s = nI p := (rel.2 s hs).1.trans i2
  have h70 : (nI 7 = 0) = False := eq_false (by decide)
  have hs0 : (s < 0) = False := eq_false (by omega)
  have ew : zf_nat (B (109 + s)) = p := by rw [i2]; exact nI_clamp (by omega)
  obtain ⟨I1, hI1⟩ : ∃ I1, I1 = zx_u (zx_u (zx_u (zx_u (zx_u I 5 0 (nI (zt B))) 5 1 (nI (zt B % 7))) 5 2 (nI s)) 5 3 (B (117 + s))) 5 4 (nI j) := ⟨_, rfl⟩
  have g1 : ∀ a, a ≠ 5 → I1 a = I a := fun a ha => by rw [hI1, zu_o ha, zu_o ha, zu_o ha, zu_o ha, zu_o ha]
  have c1 := fun d P => sc_columnOf (d := d) (Lh := Lh) (I := I1) (J := J) (P := P) (p := p) zx_sq1 (by rw [g1 1 (by decide)]; exact hw) w0 w8 (by omega)
  obtain ⟨I2, hI2⟩ : ∃ I2, I2 = zx_u I1 5 5 (nI (p % zw B)) := ⟨_, rfl⟩
  have g2 : ∀ a, a ≠ 5 → I2 a = I a := fun a ha => by rw [hI2, zu_o ha, g1 a ha]
  have c2 := fun d P => sc_rowOf (d := d) (Lh := Lh) (I := I2) (J := J) (P := P) (p := p) zx_sq1 (by rw [g2 1 (by decide)]; exact hw) w0 w8 (by omega)
  obtain ⟨I3, hI3⟩ : ∃ I3, I3 = zx_u I2 5 6 (nI (p / zw B)) := ⟨_, rfl⟩
  have g3 : ∀ a, a ≠ 5 → I3 a = I a := fun a ha => by rw [hI3, zu_o ha, g2 a ha]
  have rel3 : zR_st I3 T B := zR_st_f rel (fun a j h1 h2 => by rw [g3 a (by omega)])
  have c3 := fun d P => sc_howManyHate (d := d) (Lh := Lh) (J := J) (P := P) (x := nI s) hT rel3 ok
  refine ⟨zx_u I3 5 7 (nI (zf_cnt (zf_foeP B (nI s)) (zn B) 0)), fun a ha => by rw [zu_o ha, g3 a ha], fun i hi => ?_, fun d P => ?_⟩
  · rcases (show i = 0 ∨ i = 1 ∨ i = 2 ∨ i = 3 ∨ i = 4 ∨ i = 5 ∨ i = 6 ∨ i = 7 by omega) with e | e | e | e | e | e | e | e <;> subst e
    · rw [zu_n (by omega), hI3, zu_n (by omega), hI2, zu_n (by omega), hI1, zu_n (by omega), zu_n (by omega), zu_n (by omega), zu_n (by omega), zu_s]; rfl
    · rw [zu_n (by omega), hI3, zu_n (by omega), hI2, zu_n (by omega), hI1, zu_n (by omega), zu_n (by omega), zu_n (by omega), zu_s]; rfl
    · rw [zu_n (by omega), hI3, zu_n (by omega), hI2, zu_n (by omega), hI1, zu_n (by omega), zu_n (by omega), zu_s]; rfl
    · rw [zu_n (by omega), hI3, zu_n (by omega), hI2, zu_n (by omega), hI1, zu_n (by omega), zu_s]; rfl
    · rw [zu_n (by omega), hI3, zu_n (by omega), hI2, zu_n (by omega), hI1, zu_s]; exact ej.symm
    · rw [zu_n (by omega), hI3, zu_n (by omega), hI2, zu_s, zf_word, ew]
    · rw [zu_n (by omega), hI3, zu_s, zf_word, ew]
    · rw [zu_s]; rfl
  · have a5 : ∀ (x y : Int32), zx_u (zx_u I 5 0 x) 5 1 y T = I T := fun x y => by rw [zu_o (by omega), zu_o (by omega)]
    have b5 : ∀ (x : Int32), zx_u I 5 0 x T = I T := fun x => by rw [zu_o (by omega)]
    have c5 : ∀ (x y z : Int32), zx_u (zx_u (zx_u I 5 0 x) 5 1 y) 5 2 z (T + 2) = I (T + 2) := fun x y z => by rw [zu_o (by omega), zu_o (by omega), zu_o (by omega)]
    have d1 : I1 (T + 1) s = nI p := by rw [g1 _ (by omega)]; exact tp
    have d2 : I2 (T + 1) s = nI p := by rw [g2 _ (by omega)]; exact tp
    rw [ze_2]
    simp (disch := omega) only [↓zs_2_0, ↓zs_2_1, ↓zs_2_4, ↓zs_2_5, ↓zs_2_7, ↓zs_2_10, ↓zs_2_11, ↓zs_2_12, ↓zs_2_15, ↓zs_2_18, ↓zs_2_20, ↓zs_2_22, ↓zs_2_23, ↓zs_2_24, ↓zs_2_27, ↓zs_2_28, ↓zs_2_30, ↓zs_2_31, ↓zs_2_32, ↓zs_2_35, ↓zs_2_37, ↓zs_2_38, ↓zs_2_39, ↓zs_2_41, ↓zs_2_42, ↓zs_2_43, ↓zs_2_44, ↓zs_2_46, ↓zs_2_47, ↓zs_2_48, ↓zs_2_51, ↓zs_2_52, ↓zs_2_53, ↓zs_2_54, ↓zs_2_56, ↓zs_2_57, ↓zs_2_58, zx_pu_s, zx_pu_n, zx_rv_s, zx_rv_n, true_and, and_true, true_or, or_true, zb_0, zb_1, zq_lcl, zq_lcg, zq_lce, eq_self, ite_true, ite_false, zk_0, zw_0, zk_1, zw_1, zk_2, zw_2, zk_3, zw_3, zk_4, zw_4, zk_5, zw_5, zq_0_0, zq_0_1, zq_0_2, zq_0_3, zq_0_4, zq_0_5, zq_0_6, zq_0_7, zq_0_8, zq_0_9, zq_0_10, zq_0_11, zq_1_0, zq_1_1, zq_1_2, zq_1_3, zq_1_4, zq_1_5, zq_2_0, zq_2_1, zq_2_2, zn_10, zn_40, zn_040, zn_340, nI_add, zin_nI, nI_clamp, nI_ltI, nI_eq, pk_mul, nI_1, Nat.lt_irrefl, hs, hs0, k0, k2, q1, tn, b5, a5, c5, td, h70, not_false_eq_true, pk_div, zq_rem, ← hI1]
    simp (disch := omega) only [↓zs_2_59, ↓zs_2_61, ↓zs_2_62, ↓zs_2_63, ↓zs_2_64, ↓zs_2_67, ↓zs_2_68, ↓zs_2_69, ↓zs_2_72, zx_pu_s, zx_pu_n, zx_rv_s, zx_rv_n, true_and, and_true, true_or, or_true, zb_0, zb_1, zq_lcl, zq_lcg, zq_lce, eq_self, ite_true, ite_false, zk_0, zw_0, zk_1, zw_1, zk_2, zw_2, zk_3, zw_3, zk_4, zw_4, zk_5, zw_5, zq_0_0, zq_0_1, zq_0_2, zq_0_3, zq_0_4, zq_0_5, zq_0_6, zq_0_7, zq_0_8, zq_0_9, zq_0_10, zq_0_11, zq_1_0, zq_1_1, zq_1_2, zq_1_3, zq_1_4, zq_1_5, zq_2_0, zq_2_1, zq_2_2, zn_10, zn_40, zn_040, zn_340, nI_add, zin_nI, nI_clamp, nI_ltI, nI_eq, pk_mul, nI_1, Nat.lt_irrefl, k0, k1, q0, d1, c1, ← hI2]
    simp (disch := omega) only [↓zs_2_73, ↓zs_2_75, ↓zs_2_77, ↓zs_2_78, ↓zs_2_79, ↓zs_2_82, ↓zs_2_83, ↓zs_2_84, ↓zs_2_87, zx_pu_s, zx_pu_n, zx_rv_s, zx_rv_n, true_and, and_true, true_or, or_true, zb_0, zb_1, zq_lcl, zq_lcg, zq_lce, eq_self, ite_true, ite_false, zk_0, zw_0, zk_1, zw_1, zk_2, zw_2, zk_3, zw_3, zk_4, zw_4, zk_5, zw_5, zq_0_0, zq_0_1, zq_0_2, zq_0_3, zq_0_4, zq_0_5, zq_0_6, zq_0_7, zq_0_8, zq_0_9, zq_0_10, zq_0_11, zq_1_0, zq_1_1, zq_1_2, zq_1_3, zq_1_4, zq_1_5, zq_2_0, zq_2_1, zq_2_2, zn_10, zn_40, zn_040, zn_340, nI_add, zin_nI, nI_clamp, nI_ltI, nI_eq, pk_mul, nI_1, Nat.lt_irrefl, k0, k1, q0, d2, c2, ← hI3]
    simp (disch := omega) only [↓zs_2_88, ↓zs_2_90, ↓zs_2_92, ↓zs_2_93, ↓zs_2_94, ↓zs_2_97, ↓zs_2_98, zx_pu_s, zx_pu_n, zx_rv_s, zx_rv_n, true_and, and_true, true_or, or_true, zb_0, zb_1, zq_lcl, zq_lcg, zq_lce, eq_self, ite_true, ite_false, zk_0, zw_0, zk_1, zw_1, zk_2, zw_2, zk_3, zw_3, zk_4, zw_4, zk_5, zw_5, zq_0_0, zq_0_1, zq_0_2, zq_0_3, zq_0_4, zq_0_5, zq_0_6, zq_0_7, zq_0_8, zq_0_9, zq_0_10, zq_0_11, zq_1_0, zq_1_1, zq_1_2, zq_1_3, zq_1_4, zq_1_5, zq_2_0, zq_2_1, zq_2_2, zn_10, zn_40, zn_040, zn_340, nI_add, zin_nI, nI_clamp, nI_ltI, nI_eq, pk_mul, nI_1, Nat.lt_irrefl, k0, c3]
/-- which way a STATUE would turn -/
def zf_turnv (B : Nat → Int32) (s : Nat) : Int32 := if zf_turns B s = true then (if zf_cw (zf_nat (zf_to B (zw B) s)) (zf_nat (B (117 + s))) ≤ 4 then nI 1 else -1) else nI 0
theorem zq_min (a : Nat) (h : a < 8) : (if nI 8 - nI a < nI a then nI 8 - nI a else nI a) = nI (if 4 < a then 8 - a else a) := by
  have q : ∀ a : Fin 8, (if nI 8 - nI a.1 < nI a.1 then nI 8 - nI a.1 else nI a.1) = nI (if 4 < a.1 then 8 - a.1 else a.1) := by decide +kernel
  exact q ⟨a, h⟩
theorem sc_turnOf {s mm : Nat} (hT : zx_st T) (hs : s < 8) (v : zV B mm) (hm : mm < 2 ^ 30) (sq : zR_sq I J 1 B) (rel : zR_st I T B) : ∃ I2, zF4 I I2 ∧ ∀ d P, zx_rn (d + 3) 1 [.ref 1, .ref T, .int (nI s)] (zx_LL Lh) I J P = P (some (.int (zf_turnv B s))) (zx_LL Lh) I2 J := by
  obtain ⟨k0, k1, k2, k3⟩ := zT_k (Lh := Lh) hT
  obtain ⟨q0, q1, q2⟩ := zT_q (Lh := Lh) hT
  have hr := zT_r hT
  have ok := v.1
  have hw : I 1 6 = nI (zw B) := sq.1.trans ok.1.1
  have hs0 : (s < 0) = False := eq_false (by omega)
  have hto := fun d P => sc_towardsFoe (d := d) (Lh := Lh) (J := J) (P := P) zx_sq1 hT hs hw rel ok
  unfold zf_turnv
  rcases zf_to8 B (zw B) s with e | ⟨a, ha, e⟩
  · have et : zf_turns B s = false := by
      unfold zf_turns zf_off
      rw [if_pos e, decide_eq_true rfl]
      rfl
    refine ⟨I, fun _ _ _ => rfl, fun d P => ?_⟩
    rw [ze_1, et]
    simp (disch := omega) only [↓zs_1_0, ↓zs_1_1, ↓zs_1_2, ↓zs_1_3, ↓zs_1_6, ↓zs_1_7, ↓zs_1_8, ↓zs_1_9, ↓zs_1_12, ↓zs_1_13, ↓zs_1_16, ↓zs_1_17, ↓zs_1_19, ↓zs_1_22, ↓zs_1_23, ↓zs_1_24, ↓zs_1_25, ↓zs_1_26, ↓zs_1_29, ↓zs_1_30, ↓zs_1_31, ↓zs_1_32, ↓zs_1_34, ↓zs_1_35, ↓zs_1_37, ↓zs_1_39, ↓zs_1_42, ↓zs_1_43, ↓zs_1_44, ↓zs_1_45, ↓zs_1_48, ↓zs_1_51, ↓zs_1_54, ↓zs_1_55, ↓zs_1_56, ↓zs_1_57, ↓zs_1_59, ↓zs_1_61, ↓zs_1_63, ↓zs_1_64, ↓zs_1_67, ↓zs_1_70, ↓zs_1_71, ↓zs_1_74, ↓zs_1_77, ↓zs_1_80, ↓zs_1_81, ↓zs_1_82, ↓zs_1_84, ↓zs_1_85, ↓zs_1_88, ↓zs_1_89, ↓zs_1_92, ↓zs_1_93, zx_pu_s, zx_pu_n, zx_rv_s, zx_rv_n, true_and, and_true, true_or, or_true, zb_0, zb_1, zq_lcl, zq_lcg, zq_lce, eq_self, ite_true, ite_false, zk_0, zw_0, zk_1, zw_1, zk_2, zw_2, zq_0_0, zq_0_1, zq_0_2, zq_0_3, zq_0_4, zq_0_5, zq_0_6, zq_0_7, zq_0_8, zq_0_9, zq_0_10, zq_0_11, zq_1_0, zq_1_1, zq_1_2, zq_1_3, zq_1_4, zq_1_5, zq_2_0, zq_2_1, zq_2_2, zn_10, zn_40, zn_040, zn_340, nI_add, zin_nI, nI_clamp, nI_ltI, nI_eq, pk_mul, nI_1, Nat.lt_irrefl, hto, e, reduceCtorEq]
  · obtain ⟨b, hb, eb⟩ := (ok.2 s hs).2.2.1
    have td : I (T + 2) s = nI b := (rel.2 s hs).2.1.trans eb
    have hc := zf_cw8 a b
    have hne : zf_to B (zw B) s ≠ -1 := by rw [e, ne_eq, zq_m1 (by omega)]; exact fun x => x
    have hf : zf_hasFoe B s = true := by
      cases c : zf_hasFoe B s with
      | true => rfl
      | false =>
        unfold zf_to at hne
        rw [if_neg (by rw [c]; decide)] at hne
        exact absurd rfl hne
    have eoff : zf_off B (zw B) s = nI (zf_by a b) := by
      unfold zf_off
      rw [if_neg hne, e, eb, zf_nat, zf_nat, nI_clamp (by omega), nI_clamp (by omega)]
    have ecw : zf_cw (zf_nat (zf_to B (zw B) s)) (zf_nat (B (117 + s))) = zf_cw a b := by rw [e, eb, zf_nat, zf_nat, nI_clamp (by omega), nI_clamp (by omega)]
    rw [ecw]
    by_cases h0 : zf_cw a b = 0
    · have et : zf_turns B s = false := by
        unfold zf_turns
        rw [eoff, show zf_by a b = 0 by unfold zf_by; rw [h0]; rfl, decide_eq_true rfl]
        rfl
      refine ⟨I, fun _ _ _ => rfl, fun d P => ?_⟩
      rw [ze_1, et]
      simp (disch := omega) only [↓zs_1_0, ↓zs_1_1, ↓zs_1_2, ↓zs_1_3, ↓zs_1_6, ↓zs_1_7, ↓zs_1_8, ↓zs_1_9, ↓zs_1_12, ↓zs_1_13, ↓zs_1_16, ↓zs_1_17, ↓zs_1_19, ↓zs_1_22, ↓zs_1_23, ↓zs_1_24, ↓zs_1_25, ↓zs_1_26, ↓zs_1_29, ↓zs_1_30, ↓zs_1_31, ↓zs_1_32, ↓zs_1_34, ↓zs_1_35, ↓zs_1_37, ↓zs_1_39, ↓zs_1_42, ↓zs_1_43, ↓zs_1_44, ↓zs_1_45, ↓zs_1_48, ↓zs_1_51, ↓zs_1_54, ↓zs_1_55, ↓zs_1_56, ↓zs_1_57, ↓zs_1_59, ↓zs_1_61, ↓zs_1_63, ↓zs_1_64, ↓zs_1_67, ↓zs_1_70, ↓zs_1_71, ↓zs_1_74, ↓zs_1_77, ↓zs_1_80, ↓zs_1_81, ↓zs_1_82, ↓zs_1_84, ↓zs_1_85, ↓zs_1_88, ↓zs_1_89, ↓zs_1_92, ↓zs_1_93, zx_pu_s, zx_pu_n, zx_rv_s, zx_rv_n, true_and, and_true, true_or, or_true, zb_0, zb_1, zq_lcl, zq_lcg, zq_lce, eq_self, ite_true, ite_false, zk_0, zw_0, zk_1, zw_1, zk_2, zw_2, zq_0_0, zq_0_1, zq_0_2, zq_0_3, zq_0_4, zq_0_5, zq_0_6, zq_0_7, zq_0_8, zq_0_9, zq_0_10, zq_0_11, zq_1_0, zq_1_1, zq_1_2, zq_1_3, zq_1_4, zq_1_5, zq_2_0, zq_2_1, zq_2_2, zn_10, zn_40, zn_040, zn_340, nI_add, zin_nI, nI_clamp, nI_ltI, nI_eq, pk_mul, nI_1, Nat.lt_irrefl, hto, e, zq_m1, hs, hs0, k0, k2, q1, td, zq_cw7 ha hb, h0, reduceCtorEq]
    · have hby : 0 < zf_by a b := by unfold zf_by; split <;> omega
      have hby4 : zf_by a b ≤ 4 := by unfold zf_by; split <;> omega
      have et : zf_turns B s = !zf_rests B s := by
        unfold zf_turns
        rw [eoff, decide_eq_false (fun x => by have := (nI_eq (by omega) (by omega)).mp x; omega)]
        rfl
      have emin : (if nI 8 - nI (zf_cw a b) < nI (zf_cw a b) then nI 8 - nI (zf_cw a b) else nI (zf_cw a b)) = nI (zf_by a b) := zq_min _ hc
      have e13 : I 2 3 = nI (zk B) := sq.2.2.2.2.2.2.2.2.1
      have h0' : (zf_cw a b = 0) = False := eq_false h0
      have hK : zk B ≤ 900 := v.2.2.2.2.2.1.2.1
      by_cases hk : 0 < zk B
      · obtain ⟨I2, g2, w2, h2⟩ := sc_inform (Lh := Lh) hT hs v hm hf sq rel eoff
        obtain ⟨I3, g3, h3⟩ := sc_holds (Lh := Lh) (I := I2) (J := J) (wd := zf_word B s) v.2.2.2.2.2.1 hk (by rw [g2 2 (by decide)]; exact e13) (fun k hk2 => by rw [g2 3 (by decide)]; exact sq.2.2.2.2.2.2.2.2.2 k hk2) w2
        have er : zf_rests B s = decide (zf_run (fun k => B (386 + k)) (zf_word B s) (zk B) 0 0 (fun _ => nI 0) = nI 1) := by
          unfold zf_rests
          rw [decide_eq_true hk, Bool.true_and]
        rw [← er] at h3
        refine ⟨I3, fun a h4 h5 => (g3 a h4).trans (g2 a h5), fun d P => ?_⟩
        rw [ze_1, et]
        simp (disch := omega) only [↓zs_1_0, ↓zs_1_1, ↓zs_1_2, ↓zs_1_3, ↓zs_1_6, ↓zs_1_7, ↓zs_1_8, ↓zs_1_9, ↓zs_1_12, ↓zs_1_13, ↓zs_1_16, ↓zs_1_17, ↓zs_1_19, ↓zs_1_22, ↓zs_1_23, ↓zs_1_24, ↓zs_1_25, ↓zs_1_26, ↓zs_1_29, ↓zs_1_30, ↓zs_1_31, ↓zs_1_32, ↓zs_1_34, ↓zs_1_35, ↓zs_1_37, ↓zs_1_39, ↓zs_1_42, ↓zs_1_43, zx_pu_s, zx_pu_n, zx_rv_s, zx_rv_n, true_and, and_true, true_or, or_true, zb_0, zb_1, zq_lcl, zq_lcg, zq_lce, eq_self, ite_true, ite_false, zk_0, zw_0, zk_1, zw_1, zk_2, zw_2, zq_0_0, zq_0_1, zq_0_2, zq_0_3, zq_0_4, zq_0_5, zq_0_6, zq_0_7, zq_0_8, zq_0_9, zq_0_10, zq_0_11, zq_1_0, zq_1_1, zq_1_2, zq_1_3, zq_1_4, zq_1_5, zq_2_0, zq_2_1, zq_2_2, zn_10, zn_40, zn_040, zn_340, nI_add, zin_nI, nI_clamp, nI_ltI, nI_eq, pk_mul, nI_1, Nat.lt_irrefl, hto, e, zq_m1, hs, hs0, k0, k2, q1, td, zq_cw7 ha hb, h0']
        cases c : zf_rests B s
        · by_cases c4 : zf_cw a b ≤ 4
          · have c5 : ¬ 4 < zf_cw a b := by omega
            simp (disch := omega) only [↓zs_1_44, ↓zs_1_45, ↓zs_1_48, ↓zs_1_51, ↓zs_1_54, ↓zs_1_55, ↓zs_1_56, ↓zs_1_57, ↓zs_1_59, ↓zs_1_61, ↓zs_1_63, ↓zs_1_64, ↓zs_1_67, ↓zs_1_70, ↓zs_1_71, ↓zs_1_74, ↓zs_1_77, ↓zs_1_80, ↓zs_1_81, ↓zs_1_82, ↓zs_1_84, ↓zs_1_85, ↓zs_1_88, ↓zs_1_89, ↓zs_1_92, ↓zs_1_93, zx_pu_s, zx_pu_n, zx_rv_s, zx_rv_n, true_and, and_true, true_or, or_true, zb_0, zb_1, zq_lcl, zq_lcg, zq_lce, eq_self, ite_true, ite_false, zk_0, zw_0, zk_1, zw_1, zk_2, zw_2, zq_0_0, zq_0_1, zq_0_2, zq_0_3, zq_0_4, zq_0_5, zq_0_6, zq_0_7, zq_0_8, zq_0_9, zq_0_10, zq_0_11, zq_1_0, zq_1_1, zq_1_2, zq_1_3, zq_1_4, zq_1_5, zq_2_0, zq_2_1, zq_2_2, zn_10, zn_40, zn_040, zn_340, nI_add, zin_nI, nI_clamp, nI_ltI, nI_eq, pk_mul, nI_1, Nat.lt_irrefl, e13, hk, emin, h2, h3, c, zB_0, reduceCtorEq, c5, c4, Bool.not_false, if_true, if_false]
          · have c5 : 4 < zf_cw a b := by omega
            simp (disch := omega) only [↓zs_1_44, ↓zs_1_45, ↓zs_1_48, ↓zs_1_51, ↓zs_1_54, ↓zs_1_55, ↓zs_1_56, ↓zs_1_57, ↓zs_1_59, ↓zs_1_61, ↓zs_1_63, ↓zs_1_64, ↓zs_1_67, ↓zs_1_70, ↓zs_1_71, ↓zs_1_74, ↓zs_1_77, ↓zs_1_80, ↓zs_1_81, ↓zs_1_82, ↓zs_1_84, ↓zs_1_85, ↓zs_1_88, ↓zs_1_89, ↓zs_1_92, ↓zs_1_93, zx_pu_s, zx_pu_n, zx_rv_s, zx_rv_n, true_and, and_true, true_or, or_true, zb_0, zb_1, zq_lcl, zq_lcg, zq_lce, eq_self, ite_true, ite_false, zk_0, zw_0, zk_1, zw_1, zk_2, zw_2, zq_0_0, zq_0_1, zq_0_2, zq_0_3, zq_0_4, zq_0_5, zq_0_6, zq_0_7, zq_0_8, zq_0_9, zq_0_10, zq_0_11, zq_1_0, zq_1_1, zq_1_2, zq_1_3, zq_1_4, zq_1_5, zq_2_0, zq_2_1, zq_2_2, zn_10, zn_40, zn_040, zn_340, nI_add, zin_nI, nI_clamp, nI_ltI, nI_eq, pk_mul, nI_1, Nat.lt_irrefl, e13, hk, emin, h2, h3, c, zB_0, reduceCtorEq, c5, c4, Bool.not_false, if_true, if_false]
        · simp (disch := omega) only [↓zs_1_44, ↓zs_1_45, ↓zs_1_48, ↓zs_1_51, ↓zs_1_54, ↓zs_1_55, ↓zs_1_56, ↓zs_1_57, ↓zs_1_59, ↓zs_1_61, ↓zs_1_63, ↓zs_1_64, ↓zs_1_67, ↓zs_1_70, ↓zs_1_71, ↓zs_1_74, ↓zs_1_77, ↓zs_1_80, ↓zs_1_81, ↓zs_1_82, ↓zs_1_84, ↓zs_1_85, ↓zs_1_88, ↓zs_1_89, ↓zs_1_92, ↓zs_1_93, zx_pu_s, zx_pu_n, zx_rv_s, zx_rv_n, true_and, and_true, true_or, or_true, zb_0, zb_1, zq_lcl, zq_lcg, zq_lce, eq_self, ite_true, ite_false, zk_0, zw_0, zk_1, zw_1, zk_2, zw_2, zq_0_0, zq_0_1, zq_0_2, zq_0_3, zq_0_4, zq_0_5, zq_0_6, zq_0_7, zq_0_8, zq_0_9, zq_0_10, zq_0_11, zq_1_0, zq_1_1, zq_1_2, zq_1_3, zq_1_4, zq_1_5, zq_2_0, zq_2_1, zq_2_2, zn_10, zn_40, zn_040, zn_340, nI_add, zin_nI, nI_clamp, nI_ltI, nI_eq, pk_mul, nI_1, Nat.lt_irrefl, e13, hk, emin, h2, h3, c, zB_0, reduceCtorEq, Bool.not_true, if_true, if_false]
      · have er : zf_rests B s = false := by
          unfold zf_rests
          rw [decide_eq_false hk, Bool.false_and]
        refine ⟨I, fun _ _ _ => rfl, fun d P => ?_⟩
        rw [ze_1, et, er]
        simp (disch := omega) only [↓zs_1_0, ↓zs_1_1, ↓zs_1_2, ↓zs_1_3, ↓zs_1_6, ↓zs_1_7, ↓zs_1_8, ↓zs_1_9, ↓zs_1_12, ↓zs_1_13, ↓zs_1_16, ↓zs_1_17, ↓zs_1_19, ↓zs_1_22, ↓zs_1_23, ↓zs_1_24, ↓zs_1_25, ↓zs_1_26, ↓zs_1_29, ↓zs_1_30, ↓zs_1_31, ↓zs_1_32, ↓zs_1_34, ↓zs_1_35, ↓zs_1_37, ↓zs_1_39, ↓zs_1_42, ↓zs_1_43, zx_pu_s, zx_pu_n, zx_rv_s, zx_rv_n, true_and, and_true, true_or, or_true, zb_0, zb_1, zq_lcl, zq_lcg, zq_lce, eq_self, ite_true, ite_false, zk_0, zw_0, zk_1, zw_1, zk_2, zw_2, zq_0_0, zq_0_1, zq_0_2, zq_0_3, zq_0_4, zq_0_5, zq_0_6, zq_0_7, zq_0_8, zq_0_9, zq_0_10, zq_0_11, zq_1_0, zq_1_1, zq_1_2, zq_1_3, zq_1_4, zq_1_5, zq_2_0, zq_2_1, zq_2_2, zn_10, zn_40, zn_040, zn_340, nI_add, zin_nI, nI_clamp, nI_ltI, nI_eq, pk_mul, nI_1, Nat.lt_irrefl, hto, e, zq_m1, hs, hs0, k0, k2, q1, td, zq_cw7 ha hb, h0']
        by_cases c4 : zf_cw a b ≤ 4
        · have c5 : ¬ 4 < zf_cw a b := by omega
          simp (disch := omega) only [↓zs_1_44, ↓zs_1_45, ↓zs_1_48, ↓zs_1_51, ↓zs_1_54, ↓zs_1_55, ↓zs_1_56, ↓zs_1_57, ↓zs_1_59, ↓zs_1_61, ↓zs_1_63, ↓zs_1_64, ↓zs_1_67, ↓zs_1_70, ↓zs_1_71, ↓zs_1_74, ↓zs_1_77, ↓zs_1_80, ↓zs_1_81, ↓zs_1_82, ↓zs_1_84, ↓zs_1_85, ↓zs_1_88, ↓zs_1_89, ↓zs_1_92, ↓zs_1_93, zx_pu_s, zx_pu_n, zx_rv_s, zx_rv_n, true_and, and_true, true_or, or_true, zb_0, zb_1, zq_lcl, zq_lcg, zq_lce, eq_self, ite_true, ite_false, zk_0, zw_0, zk_1, zw_1, zk_2, zw_2, zq_0_0, zq_0_1, zq_0_2, zq_0_3, zq_0_4, zq_0_5, zq_0_6, zq_0_7, zq_0_8, zq_0_9, zq_0_10, zq_0_11, zq_1_0, zq_1_1, zq_1_2, zq_1_3, zq_1_4, zq_1_5, zq_2_0, zq_2_1, zq_2_2, zn_10, zn_40, zn_040, zn_340, nI_add, zin_nI, nI_clamp, nI_ltI, nI_eq, pk_mul, nI_1, Nat.lt_irrefl, e13, hk, reduceCtorEq, c5, c4, Bool.not_false, if_true, if_false]
        · have c5 : 4 < zf_cw a b := by omega
          simp (disch := omega) only [↓zs_1_44, ↓zs_1_45, ↓zs_1_48, ↓zs_1_51, ↓zs_1_54, ↓zs_1_55, ↓zs_1_56, ↓zs_1_57, ↓zs_1_59, ↓zs_1_61, ↓zs_1_63, ↓zs_1_64, ↓zs_1_67, ↓zs_1_70, ↓zs_1_71, ↓zs_1_74, ↓zs_1_77, ↓zs_1_80, ↓zs_1_81, ↓zs_1_82, ↓zs_1_84, ↓zs_1_85, ↓zs_1_88, ↓zs_1_89, ↓zs_1_92, ↓zs_1_93, zx_pu_s, zx_pu_n, zx_rv_s, zx_rv_n, true_and, and_true, true_or, or_true, zb_0, zb_1, zq_lcl, zq_lcg, zq_lce, eq_self, ite_true, ite_false, zk_0, zw_0, zk_1, zw_1, zk_2, zw_2, zq_0_0, zq_0_1, zq_0_2, zq_0_3, zq_0_4, zq_0_5, zq_0_6, zq_0_7, zq_0_8, zq_0_9, zq_0_10, zq_0_11, zq_1_0, zq_1_1, zq_1_2, zq_1_3, zq_1_4, zq_1_5, zq_2_0, zq_2_1, zq_2_2, zn_10, zn_40, zn_040, zn_340, nI_add, zin_nI, nI_clamp, nI_ltI, nI_eq, pk_mul, nI_1, Nat.lt_irrefl, e13, hk, reduceCtorEq, c5, c4, Bool.not_false, if_true, if_false]
end CNI
