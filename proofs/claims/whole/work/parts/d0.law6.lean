/-! the class's law reader, whole -/
theorem zLr_f {I I2 : zx_MI} {p : List Nat} {ns os ot : Nat} {cp : Bool} {c : List Nat} (z : zLr I p ns os ot cp c) (h : ∀ a j, (a = 89 ∨ a = 90 ∨ a = 86 ∨ a = 87) → I2 a j = I a j) : zLr I2 p ns os ot cp c := by
  obtain ⟨z1, z2, z3, z4, z5, z6, z7, z8⟩ := z
  exact ⟨(h 86 1 (by omega)).trans z1, zPl_f p (fun j _ => h 87 j (by omega)) z2, (h 86 2 (by omega)).trans z3, (h 86 3 (by omega)).trans z4, (h 86 4 (by omega)).trans z5, (h 86 5 (by omega)).trans z6, (h 89 3 (by omega)).trans z7, fun i hi => (h 90 i (by omega)).trans (z8 i hi)⟩
def zl_tok (n : Nat) (T : Nat × Nat × Nat × Nat) : Prop := T.2.1 ≤ n ∧ T.2.2.1 < 52 ∧ zl_kd T.2.2.1 = true ∧ T.2.2.2 ≤ 999
theorem zl_tok_nx (b : Nat → Nat) {n e : Nat} (he : e ≤ n) : zl_tok n (zf_nx b n e) := by
  obtain ⟨-, -, h3, h4, -, -, h7⟩ := zf_nx_ok b he
  exact ⟨h3, h4, zf_nx_kd b n e, h7⟩
theorem zl_mp_b (k : Nat) : 1 ≤ zl_mp k ∧ zl_mp k < 5 := by
  unfold zl_mp
  split <;> decide
section RL
variable {Lh n : Nat} {b : Nat → Nat} {J : zx_MJ}
theorem sc_lawL : ∀ (fuel : Nat) (T : Nat × Nat × Nat × Nat) (C : zl_C) (I : zx_MI), fuel ≤ 900 → zTx I b n → zx_SI I → zTc I T → zl_tok n T → zl_iv C fuel → zLrC I C → ∃ I2, (∀ a j, ¬ (a = 89 ∨ a = 90 ∨ a = 86 ∨ a = 87 ∨ (a = 84 ∧ 2 ≤ j)) → I2 a j = I a j) ∧ ((∃ f s, zl_run b n fuel T C = .inl (f, s) ∧ 1 ≤ f ∧ f < 5 ∧ I2 84 6 = nI f ∧ I2 84 7 = nI s ∧ ∀ d P, zx_wp (d + 6) 15 34 [.ref 86, .ref 84, .ref 89, .int (nI C.1), .int (nI (900 - fuel))] [] (zx_LL Lh) I J P = P (some (.int (nI 0))) (zx_LL Lh) I2 J) ∨ (∃ c T2, zl_run b n fuel T C = .inr (c, T2) ∧ c.length ≤ 900 ∧ I2 89 3 = nI c.length ∧ (∀ i, i < c.length → I2 90 i = zf_tc (zl_g c i)) ∧ zTc I2 T2 ∧ zl_tok n T2 ∧ T2.2.2.1 = 40 ∧ I2 84 6 = I 84 6 ∧ I2 84 7 = I 84 7 ∧ ∀ d P, zx_wp (d + 6) 15 34 [.ref 86, .ref 84, .ref 89, .int (nI C.1), .int (nI (900 - fuel))] [] (zx_LL Lh) I J P = P (some (.int (nI 1))) (zx_LL Lh) I2 J)) := by
  intro fuel
  induction fuel with
  | zero =>
    intro T C I _ zt si tc tok iv z
    have hm := fun d P => sc_misplaced (Lh := Lh) (J := J) (d := d) (P := P) tok.2.1 tok.2.2.1 tc.2.2.1 tc.2.1
    obtain ⟨m1, m2⟩ := zl_mp_b T.2.2.1
    refine ⟨zFc9 I (zl_mp T.2.2.1) T.1, fun a j w => ?_, .inl ⟨_, _, rfl, m1, m2, ?_, zu_s _ _ _ _, fun d P => ?_⟩⟩
    · unfold zFc9; rw [zu_n (by omega), zu_n (by omega)]
    · unfold zFc9; rw [zu_n (by omega), zu_s]
    · rw [Nat.sub_zero, zs_15_34]
      simp (disch := omega) only [↓zs_15_36, ↓zs_15_39, ↓zs_15_119, ↓zs_15_120, ↓zs_15_123, zx_pu_s, zx_pu_n, zx_rv_s, zx_rv_n, true_and, and_true, true_or, or_true, zb_0, zb_1, zq_lcl, zq_lcg, zq_lce, eq_self, ite_true, ite_false, zk_84, zw_84, zq_84_0, zk_86, zw_86, zq_86_0, nI_ltI, Nat.lt_irrefl, hm]
  | succ fuel ih =>
    intro T C I hf zt si tc tok iv z
    obtain ⟨st, p, ns, os, ot, cp, c⟩ := C
    have hiv := iv
    obtain ⟨i1, i2, i3, i4, i5, i6, i7, i8, i9, i10, i11⟩ := iv
    dsimp only at i1 i2 i3 i4 i5 i6 i7 i8 i9 i10 i11 ⊢
    have z' : zLr I p ns os ot cp c := z
    have lt : 900 - (fuel + 1) < 900 := by omega
    have nx : 900 - (fuel + 1) + 1 = 900 - fuel := by omega
    obtain ⟨t2, t3, t4, t5⟩ := tc
    have e2 : I 84 2 = nI T.2.1 := t2
    have e3 : I 84 3 = nI T.1 := t3
    have e4 : I 84 4 = zf_tkc T.2.2.1 := t4
    -- what follows a step that goes on
    have more : ∀ (C' : zl_C) (I2 : zx_MI), zl_step T.2.2.1 T.2.2.2 (st, p, ns, os, ot, cp, c) = .inr (.inr C') → zFl I I2 → zLrC I2 C' → zl_iv C' fuel → (∀ d P, zx_wp (d + 6) 15 34 [.ref 86, .ref 84, .ref 89, .int (nI st), .int (nI (900 - (fuel + 1)))] [] (zx_LL Lh) I J P = zx_wp (d + 6) 15 102 [.ref 86, .ref 84, .ref 89, .int (nI C'.1), .int (nI (900 - (fuel + 1)))] [] (zx_LL Lh) I2 J P) → ∃ I2, (∀ a j, ¬ (a = 89 ∨ a = 90 ∨ a = 86 ∨ a = 87 ∨ (a = 84 ∧ 2 ≤ j)) → I2 a j = I a j) ∧ ((∃ f s, zl_run b n (fuel + 1) T (st, p, ns, os, ot, cp, c) = .inl (f, s) ∧ 1 ≤ f ∧ f < 5 ∧ I2 84 6 = nI f ∧ I2 84 7 = nI s ∧ ∀ d P, zx_wp (d + 6) 15 34 [.ref 86, .ref 84, .ref 89, .int (nI st), .int (nI (900 - (fuel + 1)))] [] (zx_LL Lh) I J P = P (some (.int (nI 0))) (zx_LL Lh) I2 J) ∨ (∃ c' T2, zl_run b n (fuel + 1) T (st, p, ns, os, ot, cp, c) = .inr (c', T2) ∧ c'.length ≤ 900 ∧ I2 89 3 = nI c'.length ∧ (∀ i, i < c'.length → I2 90 i = zf_tc (zl_g c' i)) ∧ zTc I2 T2 ∧ zl_tok n T2 ∧ T2.2.2.1 = 40 ∧ I2 84 6 = I 84 6 ∧ I2 84 7 = I 84 7 ∧ ∀ d P, zx_wp (d + 6) 15 34 [.ref 86, .ref 84, .ref 89, .int (nI st), .int (nI (900 - (fuel + 1)))] [] (zx_LL Lh) I J P = P (some (.int (nI 1))) (zx_LL Lh) I2 J)) := by
      intro C' I2 hs f2 zC iv' hw
      have zt2 : zTx I2 b n := zTx_f zt (fun j => f2 85 j (by omega)) (f2 84 1 (by omega))
      have si2 : zx_SI I2 := fun a j ha => (f2 a j (by omega)).trans (si a j ha)
      obtain ⟨I3, f3, tc3, h3⟩ := sc_advance (Lh := Lh) (J := J) zt2 si2 tok.1 ((f2 84 2 (by omega)).trans e2)
      have zt3 : zTx I3 b n := zTx_f zt2 (fun j => f3 85 j (by omega)) (f3 84 1 (by omega))
      have si3 : zx_SI I3 := fun a j ha => (f3 a j (by omega)).trans (si2 a j ha)
      obtain ⟨I4, f4, h4⟩ := ih (zf_nx b n T.2.1) C' I3 (by omega) zt3 si3 tc3 (zl_tok_nx b tok.1) iv' (zLr_f zC (fun a j ha => f3 a j (by omega)))
      have hrun : zl_run b n (fuel + 1) T (st, p, ns, os, ot, cp, c) = zl_run b n fuel (zf_nx b n T.2.1) C' := by
        rw [zl_run, hs]
      have m1 : (nI C'.1 = -1) = False := zq_m1 (by have := iv'.1; omega)
      have go : ∀ d P, zx_wp (d + 6) 15 34 [.ref 86, .ref 84, .ref 89, .int (nI st), .int (nI (900 - (fuel + 1)))] [] (zx_LL Lh) I J P = zx_wp (d + 6) 15 34 [.ref 86, .ref 84, .ref 89, .int (nI C'.1), .int (nI (900 - fuel))] [] (zx_LL Lh) I3 J P := fun d P => by
        rw [hw]
        simp (disch := omega) only [↓zs_15_102, ↓zs_15_103, ↓zs_15_104, ↓zs_15_107, ↓zs_15_108, ↓zs_15_109, ↓zs_15_110, ↓zs_15_113, ↓zs_15_116, zx_pu_s, zx_pu_n, zx_rv_s, zx_rv_n, true_and, and_true, true_or, or_true, zb_0, zb_1, zq_lcl, zq_lcg, zq_lce, eq_self, ite_true, ite_false, zk_84, zw_84, zq_84_0, zk_86, zw_86, zq_86_0, m1, h3, nI_add, nx]
      refine ⟨I4, fun a j w => by rw [f4 a j w, f3 a j (by omega), f2 a j (by omega)], ?_⟩
      rcases h4 with ⟨f, s, r1, r2, r3, r4, r5, r6⟩ | ⟨c', T2, r1, r2, r3, r4, r5, r6, r7, r8, r9, r10⟩
      · exact .inl ⟨f, s, hrun.trans r1, r2, r3, r4, r5, fun d P => (go d P).trans (r6 d P)⟩
      · exact .inr ⟨c', T2, hrun.trans r1, r2, r3, r4, r5, r6, r7, r8.trans ((f3 84 6 (by omega)).trans (f2 84 6 (by omega))), r9.trans ((f3 84 7 (by omega)).trans (f2 84 7 (by omega))), fun d P => (go d P).trans (r10 d P)⟩
    -- what follows a fault
    have bad : ∀ f, zl_step T.2.2.1 T.2.2.2 (st, p, ns, os, ot, cp, c) = .inl f → 1 ≤ f → f < 5 → (∀ d P, zx_wp (d + 6) 15 34 [.ref 86, .ref 84, .ref 89, .int (nI st), .int (nI (900 - (fuel + 1)))] [] (zx_LL Lh) I J P = zx_wp (d + 6) 15 102 [.ref 86, .ref 84, .ref 89, .int (-1), .int (nI (900 - (fuel + 1)))] [] (zx_LL Lh) (zFc9 I f T.1) J P) → ∃ I2, (∀ a j, ¬ (a = 89 ∨ a = 90 ∨ a = 86 ∨ a = 87 ∨ (a = 84 ∧ 2 ≤ j)) → I2 a j = I a j) ∧ ((∃ f s, zl_run b n (fuel + 1) T (st, p, ns, os, ot, cp, c) = .inl (f, s) ∧ 1 ≤ f ∧ f < 5 ∧ I2 84 6 = nI f ∧ I2 84 7 = nI s ∧ ∀ d P, zx_wp (d + 6) 15 34 [.ref 86, .ref 84, .ref 89, .int (nI st), .int (nI (900 - (fuel + 1)))] [] (zx_LL Lh) I J P = P (some (.int (nI 0))) (zx_LL Lh) I2 J) ∨ (∃ c' T2, zl_run b n (fuel + 1) T (st, p, ns, os, ot, cp, c) = .inr (c', T2) ∧ c'.length ≤ 900 ∧ I2 89 3 = nI c'.length ∧ (∀ i, i < c'.length → I2 90 i = zf_tc (zl_g c' i)) ∧ zTc I2 T2 ∧ zl_tok n T2 ∧ T2.2.2.1 = 40 ∧ I2 84 6 = I 84 6 ∧ I2 84 7 = I 84 7 ∧ ∀ d P, zx_wp (d + 6) 15 34 [.ref 86, .ref 84, .ref 89, .int (nI st), .int (nI (900 - (fuel + 1)))] [] (zx_LL Lh) I J P = P (some (.int (nI 1))) (zx_LL Lh) I2 J)) := by
      intro f hs f1 f5 hw
      refine ⟨zFc9 I f T.1, fun a j w => ?_, .inl ⟨f, T.1, by rw [zl_run, hs], f1, f5, ?_, zu_s _ _ _ _, fun d P => ?_⟩⟩
      · unfold zFc9; rw [zu_n (by omega), zu_n (by omega)]
      · unfold zFc9; rw [zu_n (by omega), zu_s]
      · rw [hw]
        simp (disch := omega) only [↓zs_15_102, ↓zs_15_103, ↓zs_15_104, ↓zs_15_107, ↓zs_15_108, ↓zs_15_109, ↓zs_15_110, ↓zs_15_113, ↓zs_15_116, zx_pu_s, zx_pu_n, zx_rv_s, zx_rv_n, true_and, and_true, true_or, or_true, zb_0, zb_1, zq_lcl, zq_lcg, zq_lce, eq_self, ite_true, ite_false]
    by_cases c2 : st < 2
    · have hs : zl_step T.2.2.1 T.2.2.2 (st, p, ns, os, ot, cp, c) = zl_opn st T.2.2.1 T.2.2.2 p ns os ot cp c := by
        unfold zl_step
        rw [if_pos c2]
      have call : ∀ d P, zx_wp (d + 6) 15 34 [.ref 86, .ref 84, .ref 89, .int (nI st), .int (nI (900 - (fuel + 1)))] [] (zx_LL Lh) I J P = zx_wp (d + 6) 15 51 [.ref 86, .ref 84, .ref 89, .int (nI st), .int (nI (900 - (fuel + 1)))] [] (zx_LL Lh) I J P := fun d P => by
        rw [zs_15_34]
        have n10 : (nI 1 = nI 0) = False := eq_false (by decide)
        rcases (show st = 0 ∨ st = 1 by omega) with e | e <;> subst e
        · simp (disch := omega) only [↓zs_15_36, ↓zs_15_39, ↓zs_15_42, ↓zs_15_43, ↓zs_15_46, ↓zs_15_47, ↓zs_15_48, zx_pu_s, zx_pu_n, zx_rv_s, zx_rv_n, true_and, and_true, true_or, or_true, zb_0, zb_1, zq_lcl, zq_lcg, zq_lce, eq_self, ite_true, ite_false, nI_ltI, lt]
        · simp (disch := omega) only [↓zs_15_36, ↓zs_15_39, ↓zs_15_42, ↓zs_15_43, ↓zs_15_46, ↓zs_15_47, ↓zs_15_48, zx_pu_s, zx_pu_n, zx_rv_s, zx_rv_n, true_and, and_true, true_or, or_true, zb_0, zb_1, zq_lcl, zq_lcg, zq_lce, eq_self, ite_true, ite_false, nI_ltI, lt, n10]
      rcases sc_operand (Lh := Lh) (J := J) (s := T.1) (v := T.2.2.2) c2 hiv z' tok.2.1 tok.2.2.1 e4 e3 (fun h => ⟨tok.2.2.2, t5 h⟩) with ⟨f, h1, h2, h3⟩ | ⟨C', I2, h1, h2, h3, h4, h5⟩
      · have f1 : 1 ≤ f := by
          unfold zl_opn at h1
          have hm := zl_mp_b T.2.2.1
          repeat' split at h1
          all_goals first | (cases h1; omega) | (cases h1)
        refine bad f (hs.trans h1) f1 h2 (fun d P => ?_)
        rw [call]
        simp (disch := omega) only [↓zs_15_51, ↓zs_15_52, ↓zs_15_53, ↓zs_15_54, ↓zs_15_55, ↓zs_15_58, ↓zs_15_59, zx_pu_s, zx_pu_n, zx_rv_s, zx_rv_n, true_and, and_true, true_or, or_true, zb_0, zb_1, zq_lcl, zq_lcg, zq_lce, eq_self, ite_true, ite_false, zk_86, zw_86, zq_86_0, h3]
      · refine more C' I2 (hs.trans h1) h2 h3 h4 (fun d P => ?_)
        rw [call]
        simp (disch := omega) only [↓zs_15_51, ↓zs_15_52, ↓zs_15_53, ↓zs_15_54, ↓zs_15_55, ↓zs_15_58, ↓zs_15_59, zx_pu_s, zx_pu_n, zx_rv_s, zx_rv_n, true_and, and_true, true_or, or_true, zb_0, zb_1, zq_lcl, zq_lcg, zq_lce, eq_self, ite_true, ite_false, zk_86, zw_86, zq_86_0, h5]
    · have hst2 : 2 ≤ st := by omega
      have n0 : (nI st = nI 0) = False := zq_ne (by omega) (by omega) (by omega)
      have n1 : (nI st = nI 1) = False := zq_ne (by omega) (by omega) (by omega)
      have call : ∀ d P, zx_wp (d + 6) 15 34 [.ref 86, .ref 84, .ref 89, .int (nI st), .int (nI (900 - (fuel + 1)))] [] (zx_LL Lh) I J P = zx_wp (d + 6) 15 62 [.ref 86, .ref 84, .ref 89, .int (nI st), .int (nI (900 - (fuel + 1)))] [] (zx_LL Lh) I J P := fun d P => by
        rw [zs_15_34]
        simp (disch := omega) only [↓zs_15_36, ↓zs_15_39, ↓zs_15_42, ↓zs_15_43, ↓zs_15_46, ↓zs_15_47, ↓zs_15_48, zx_pu_s, zx_pu_n, zx_rv_s, zx_rv_n, true_and, and_true, true_or, or_true, zb_0, zb_1, zq_lcl, zq_lcg, zq_lce, eq_self, ite_true, ite_false, nI_ltI, lt, n0, n1]
      have t40 := (zf_tkc_eq ⟨T.2.2.1, tok.2.1⟩ tok.2.2.1).1.2.2.2.2.1
      dsimp only at t40
      have cql := zl_cq_le p
      have hwh := fun d P => sc_isWhole (Lh := Lh) (J := J) (I := I) (d := d) (st := st) (P := P) i1 (by omega) z'.2.2.2.1 z'.2.2.2.2.2.1
      by_cases cd : T.2.2.1 = 40 ∧ ot = 0 ∧ zl_wh st os cp = true
      · have hs : zl_step T.2.2.1 T.2.2.2 (st, p, ns, os, ot, cp, c) = .inr (.inl (zl_rl 1 p ns c).2.2) := by
          unfold zl_step
          rw [if_neg c2, if_pos cd]
        obtain ⟨d1, d2, d3⟩ := cd
        rw [d3] at hwh
        have g := eq_true (t40.mpr d1)
        have len := zl_len p i3
        have tb6 := zl_tb_le p
        obtain ⟨I2, f2, z2, h2⟩ := sc_releaseM (Lh := Lh) (J := J) (Nat.le_refl 1) (by decide) z' i2 (by omega) (by omega) (by omega) (by omega)
        obtain ⟨-, -, -, l4, -⟩ := zl_rl_p (Nat.le_refl 1) p ns c i3 (by omega)
        have e5 : I 86 4 = nI 0 := by rw [← d2]; exact z'.2.2.2.2.1
        refine ⟨I2, fun a j w => f2 a j (by omega), .inr ⟨(zl_rl 1 p ns c).2.2, T, by rw [zl_run, hs], by omega, z2.2.2.2.2.2.2.1, z2.2.2.2.2.2.2.2, ⟨(f2 84 2 (by omega)).trans t2, (f2 84 3 (by omega)).trans t3, (f2 84 4 (by omega)).trans t4, fun h => (f2 84 5 (by omega)).trans (t5 h)⟩, tok, d1, f2 84 6 (by omega), f2 84 7 (by omega), fun d P => ?_⟩⟩
        rw [call]
        simp (disch := omega) only [↓zs_15_62, ↓zs_15_63, ↓zs_15_66, ↓zs_15_68, ↓zs_15_71, ↓zs_15_72, ↓zs_15_75, ↓zs_15_78, ↓zs_15_79, ↓zs_15_80, ↓zs_15_83, ↓zs_15_86, ↓zs_15_87, ↓zs_15_88, ↓zs_15_89, ↓zs_15_92, ↓zs_15_93, zx_pu_s, zx_pu_n, zx_rv_s, zx_rv_n, true_and, and_true, true_or, or_true, zb_0, zb_1, zq_lcl, zq_lcg, zq_lce, eq_self, ite_true, ite_false, zk_84, zw_84, zq_84_0, zk_86, zw_86, zq_86_0, e4, g, e5, hwh, zB_0, reduceCtorEq, h2]
      · have hs : zl_step T.2.2.1 T.2.2.2 (st, p, ns, os, ot, cp, c) = zl_beh st T.2.2.1 p ns os ot cp c := by
          unfold zl_step
          rw [if_neg c2, if_neg cd]
        have call2 : ∀ d P, zx_wp (d + 6) 15 34 [.ref 86, .ref 84, .ref 89, .int (nI st), .int (nI (900 - (fuel + 1)))] [] (zx_LL Lh) I J P = zx_wp (d + 6) 15 94 [.ref 86, .ref 84, .ref 89, .int (nI st), .int (nI (900 - (fuel + 1)))] [] (zx_LL Lh) I J P := fun d P => by
          rw [call]
          by_cases d1 : T.2.2.1 = 40
          · have g := eq_true (t40.mpr d1)
            by_cases d2 : ot = 0
            · have e5 : I 86 4 = nI 0 := by rw [← d2]; exact z'.2.2.2.2.1
              have d3 : zl_wh st os cp = false := by
                cases w : zl_wh st os cp with
                | false => rfl
                | true => exact absurd ⟨d1, d2, w⟩ cd
              rw [d3] at hwh
              simp (disch := omega) only [↓zs_15_62, ↓zs_15_63, ↓zs_15_66, ↓zs_15_68, ↓zs_15_71, ↓zs_15_72, ↓zs_15_75, ↓zs_15_78, ↓zs_15_79, ↓zs_15_80, ↓zs_15_83, ↓zs_15_86, ↓zs_15_87, ↓zs_15_88, ↓zs_15_89, ↓zs_15_92, ↓zs_15_93, zx_pu_s, zx_pu_n, zx_rv_s, zx_rv_n, true_and, and_true, true_or, or_true, zb_0, zb_1, zq_lcl, zq_lcg, zq_lce, eq_self, ite_true, ite_false, zk_84, zw_84, zq_84_0, zk_86, zw_86, zq_86_0, e4, g, e5, hwh, zB_0, reduceCtorEq]
            · have e5 : I 86 4 = nI ot := z'.2.2.2.2.1
              have o0 : (nI ot = nI 0) = False := zq_ne d2 (by omega) (by omega)
              simp (disch := omega) only [↓zs_15_62, ↓zs_15_63, ↓zs_15_66, ↓zs_15_68, ↓zs_15_71, ↓zs_15_72, ↓zs_15_75, ↓zs_15_78, ↓zs_15_79, ↓zs_15_80, ↓zs_15_83, ↓zs_15_86, ↓zs_15_87, ↓zs_15_88, ↓zs_15_89, ↓zs_15_92, ↓zs_15_93, zx_pu_s, zx_pu_n, zx_rv_s, zx_rv_n, true_and, and_true, true_or, or_true, zb_0, zb_1, zq_lcl, zq_lcg, zq_lce, eq_self, ite_true, ite_false, zk_84, zw_84, zq_84_0, zk_86, zw_86, zq_86_0, e4, g, e5, o0]
          · have g := eq_false (fun w => d1 (t40.mp w))
            simp (disch := omega) only [↓zs_15_62, ↓zs_15_63, ↓zs_15_66, ↓zs_15_68, ↓zs_15_71, ↓zs_15_72, ↓zs_15_75, ↓zs_15_78, ↓zs_15_79, ↓zs_15_80, ↓zs_15_83, ↓zs_15_86, ↓zs_15_87, ↓zs_15_88, ↓zs_15_89, ↓zs_15_92, ↓zs_15_93, zx_pu_s, zx_pu_n, zx_rv_s, zx_rv_n, true_and, and_true, true_or, or_true, zb_0, zb_1, zq_lcl, zq_lcg, zq_lce, eq_self, ite_true, ite_false, zk_84, zw_84, zq_84_0, zk_86, zw_86, zq_86_0, e4, g]
        rcases sc_behd (Lh := Lh) (J := J) (s := T.1) hst2 hiv z' tok.2.1 tok.2.2.1 e4 e3 with ⟨f, h1, h2, h3⟩ | ⟨C', I2, h1, h2, h3, h4, h5⟩
        · have f1 : 1 ≤ f := by
            unfold zl_beh at h1
            have hm := zl_mp_b T.2.2.1
            repeat' split at h1
            all_goals first | (cases h1; omega) | (cases h1)
          refine bad f (hs.trans h1) f1 h2 (fun d P => ?_)
          rw [call2]
          simp (disch := omega) only [↓zs_15_94, ↓zs_15_95, ↓zs_15_96, ↓zs_15_97, ↓zs_15_98, ↓zs_15_101, zx_pu_s, zx_pu_n, zx_rv_s, zx_rv_n, true_and, and_true, true_or, or_true, zb_0, zb_1, zq_lcl, zq_lcg, zq_lce, eq_self, ite_true, ite_false, zk_86, zw_86, zq_86_0, h3]
        · refine more C' I2 (hs.trans h1) h2 h3 h4 (fun d P => ?_)
          rw [call2]
          simp (disch := omega) only [↓zs_15_94, ↓zs_15_95, ↓zs_15_96, ↓zs_15_97, ↓zs_15_98, ↓zs_15_101, zx_pu_s, zx_pu_n, zx_rv_s, zx_rv_n, true_and, and_true, true_or, or_true, zb_0, zb_1, zq_lcl, zq_lcg, zq_lce, eq_self, ite_true, ite_false, zk_86, zw_86, zq_86_0, h5]
end RL
