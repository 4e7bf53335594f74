/-! the class's law reader: one step behind an atom or a truth -/
theorem zl_rl_q {b : Nat} : ∀ (p : List Nat) (ns : Nat) (c : List Nat), (zl_rl b p ns c).2.1 ≤ ns ∧ (zl_rl b p ns c).1.length ≤ p.length ∧ (zl_br p → zl_br (zl_rl b p ns c).1) := by
  intro p
  induction p with
  | nil => intro ns c; exact ⟨Nat.le_refl _, Nat.le_refl _, fun h => h⟩
  | cons k r ih =>
    intro ns c
    rw [zl_rl]
    by_cases cb : zl_bd k < b
    · rw [if_pos cb]; exact ⟨Nat.le_refl _, Nat.le_refl _, fun h => h⟩
    · rw [if_neg cb]
      obtain ⟨h1, h2, h3⟩ := ih (if k = 15 then ns - 1 else ns) (c ++ [zl_oc k])
      refine ⟨Nat.le_trans h1 ?_, Nat.le_succ_of_le h2, fun h => h3 h.2⟩
      split <;> omega
theorem zl_ks_op : ∀ k, k ∈ zl_ks → k ≠ 45 → k ≠ 47 → k ≠ 15 → 1 ≤ zl_bd k := by decide
/-- behind a join -/
theorem zl_iv_join {st0 st k i : Nat} {p : List Nat} {ns os ot : Nat} {cp cp2 : Bool} {c : List Nat} (iv : zl_iv (st0, p, ns, os, ot, cp, c) (i + 1)) (hst : st < 4) (hk : k ∈ zl_ks) (n1 : k ≠ 45) (n2 : k ≠ 47) (n3 : k ≠ 15) (h0 : st = 0 → zl_bd k ≤ 3) (h3 : st = 0 ∨ st = 3 → os = 0) : zl_iv (zl_join st k p ns os ot cp2 c) i := by
  obtain ⟨-, i2, i3, i4, i5, i6, i7, i8, i9, i10, i11⟩ := iv
  dsimp only at i2 i3 i4 i5 i6 i7 i8 i9 i10 i11
  have hb := zl_ks_op k hk n1 n2 n3
  obtain ⟨l1, l2, l3, l4, l5, l6, l7, l8⟩ := zl_rl_p hb p ns c i3 (by omega)
  obtain ⟨q1, q2, q3⟩ := zl_rl_q (b := zl_bd k) p ns c
  refine ⟨hst, fun q hq => (List.mem_cons.mp hq).elim (fun e => e ▸ hk) (fun h => i2 q (l8 q h)), ⟨.inr (.inr (.inl ⟨l5, n3⟩)), l1⟩, ?_, ?_, ?_, ?_, fun e => h0 e, ?_, h3, ⟨fun e => absurd e n2, q3 i11⟩⟩
  · show (if k = 45 ∨ k = 47 ∨ k = 15 then 1 else 0) + zl_cn (zl_rl (zl_bd k) p ns c).1 = (zl_rl (zl_bd k) p ns c).2.1
    rw [if_neg (by omega)]; omega
  · show (zl_rl (zl_bd k) p ns c).2.1 ≤ 6
    omega
  · show (if k = 45 then 1 else 0) + zl_cq 45 (zl_rl (zl_bd k) p ns c).1 = os
    rw [if_neg n1, l6]; omega
  · show (if k = 47 then 1 else 0) + zl_cq 47 (zl_rl (zl_bd k) p ns c).1 = ot
    rw [if_neg n2, l7]; omega
  · show (zl_rl (zl_bd k) p ns c).1.length + 1 + (zl_rl (zl_bd k) p ns c).2.2.length + i ≤ 900
    omega
/-- behind a close of an open bracket q -/
theorem zl_iv_close {st0 st i : Nat} {p : List Nat} {ns os ot os2 ot2 : Nat} {cp : Bool} {c : List Nat} (iv : zl_iv (st0, p, ns, os, ot, cp, c) (i + 1)) (hst : st < 4) (h0 : st ≠ 0) (h3 : st = 3 → os2 = 0) (hq : (0 < os ∧ os2 = os - 1 ∧ ot2 = ot) ∨ (os = 0 ∧ os2 = 0 ∧ 0 < ot ∧ ot2 = ot - 1)) : zl_iv (zl_close st p ns os2 ot2 cp c) i ∧ ∃ q r, (zl_rl 1 p ns c).1 = q :: r ∧ 1 ≤ (zl_rl 1 p ns c).2.1 ∧ (zl_rl 1 p ns c).2.1 ≤ 6 ∧ r.length ≤ 60 := by
  have hiv := iv
  obtain ⟨-, i2, i3, i4, i5, i6, i7, i8, i9, i10, i11⟩ := iv
  dsimp only at i2 i3 i4 i5 i6 i7 i8 i9 i10 i11
  obtain ⟨l1, l2, l3, l4, l5, l6, l7, l8⟩ := zl_rl_p (Nat.le_refl 1) p ns c i3 (by omega)
  obtain ⟨q1, q2, q3⟩ := zl_rl_q (b := 1) p ns c
  obtain ⟨q, r, er, hqr⟩ := zl_top (p := (zl_rl 1 p ns c).1) (fun k hk => i2 k (l8 k hk)) l5 (by omega)
  have br := q3 i11
  have len := zl_len p i3
  have tb := zl_tb_le p
  unfold zl_close
  rw [er] at l1 l2 l4 l6 l7 l8 q2 br ⊢
  have e2 : zl_cn (q :: r) = 1 + zl_cn r := by
    show (if q = 45 ∨ q = 47 ∨ q = 15 then 1 else 0) + zl_cn r = _
    rw [if_pos (by omega)]
  have e6 : zl_cq 45 (q :: r) = (if q = 45 then 1 else 0) + zl_cq 45 r := rfl
  have e7 : zl_cq 47 (q :: r) = (if q = 47 then 1 else 0) + zl_cq 47 r := rfl
  have e4 : (q :: r).length = r.length + 1 := rfl
  rw [e2] at l2
  rw [e6] at l6
  rw [e7] at l7
  rw [e4] at l4 q2
  have hb : (q = 45 ∧ 0 < os) ∨ (q = 47 ∧ os = 0) := by
    rcases hqr with e | e
    · rw [if_pos e] at l6; exact .inl ⟨e, by omega⟩
    · have := br.1 e
      rw [if_neg (by omega)] at l6
      exact .inr ⟨e, by omega⟩
  refine ⟨⟨hst, fun k hk => i2 k (l8 k (List.mem_cons_of_mem _ hk)), l1.2, ?_, ?_, ?_, ?_, fun e => absurd e h0, ?_, fun e => ?_, br.2⟩, q, r, rfl, by omega, by omega, by omega⟩
  · dsimp only [List.tail]; omega
  · dsimp only; omega
  · dsimp only [List.tail]
    rcases hb with ⟨e, h⟩ | ⟨e, h⟩
    · rw [if_pos e] at l6; omega
    · rw [if_neg (by omega)] at l6; omega
  · dsimp only [List.tail]
    rcases hb with ⟨e, h⟩ | ⟨e, h⟩
    · rw [if_neg (by omega)] at l7; omega
    · rw [if_pos e] at l7; omega
  · dsimp only [List.tail]; omega
  · rcases e with e | e
    · exact absurd e h0
    · exact h3 e
theorem zLr_p {I : zx_MI} {p : List Nat} {ns os ot : Nat} {cp : Bool} {c : List Nat} (z : zLr I p ns os ot cp c) (b : Bool) : zLr (zx_u I 86 5 (zB b)) p ns os ot b c := by
  obtain ⟨z1, z2, z3, z4, z5, z6, z7, z8⟩ := z
  refine ⟨?_, zPl_f p (fun j _ => ?_) z2, ?_, ?_, ?_, zu_s _ _ _ _, ?_, fun i hi => ?_⟩
  · rw [zu_n (by omega)]; exact z1
  · rw [zu_n (by omega)]
  · rw [zu_n (by omega)]; exact z3
  · rw [zu_n (by omega)]; exact z4
  · rw [zu_n (by omega)]; exact z5
  · rw [zu_n (by omega)]; exact z7
  · rw [zu_n (by omega)]; exact z8 i hi
theorem zLr_s {I : zx_MI} {p : List Nat} {ns os ot : Nat} {cp : Bool} {c : List Nat} (z : zLr I p ns os ot cp c) (o : Nat) : zLr (zx_u I 86 3 (nI o)) p ns o ot cp c := by
  obtain ⟨z1, z2, z3, z4, z5, z6, z7, z8⟩ := z
  refine ⟨?_, zPl_f p (fun j _ => ?_) z2, ?_, zu_s _ _ _ _, ?_, ?_, ?_, fun i hi => ?_⟩
  · rw [zu_n (by omega)]; exact z1
  · rw [zu_n (by omega)]
  · rw [zu_n (by omega)]; exact z3
  · rw [zu_n (by omega)]; exact z5
  · rw [zu_n (by omega)]; exact z6
  · rw [zu_n (by omega)]; exact z7
  · rw [zu_n (by omega)]; exact z8 i hi
theorem zLr_t {I : zx_MI} {p : List Nat} {ns os ot : Nat} {cp : Bool} {c : List Nat} (z : zLr I p ns os ot cp c) (o : Nat) : zLr (zx_u I 86 4 (nI o)) p ns os o cp c := by
  obtain ⟨z1, z2, z3, z4, z5, z6, z7, z8⟩ := z
  refine ⟨?_, zPl_f p (fun j _ => ?_) z2, ?_, ?_, zu_s _ _ _ _, ?_, ?_, fun i hi => ?_⟩
  · rw [zu_n (by omega)]; exact z1
  · rw [zu_n (by omega)]
  · rw [zu_n (by omega)]; exact z3
  · rw [zu_n (by omega)]; exact z4
  · rw [zu_n (by omega)]; exact z6
  · rw [zu_n (by omega)]; exact z7
  · rw [zu_n (by omega)]; exact z8 i hi
section LB
variable {Lh : Nat} {I : zx_MI} {J : zx_MJ}
theorem sc_behd {st k s i : Nat} {p : List Nat} {ns os ot : Nat} {cp : Bool} {c : List Nat} (hst : 2 ≤ st) (iv : zl_iv (st, p, ns, os, ot, cp, c) (i + 1)) (z : zLr I p ns os ot cp c) (hk : k < 52) (kd : zl_kd k = true) (e4 : I 84 4 = zf_tkc k) (e3 : I 84 3 = nI s) : (∃ f, zl_beh st k p ns os ot cp c = .inl f ∧ f < 5 ∧ ∀ d P, zx_rn (d + 3) 18 [.ref 86, .ref 84, .ref 89, .int (nI st)] (zx_LL Lh) I J P = P (some (.int (-1))) (zx_LL Lh) (zFc9 I f s) J) ∨ ∃ C I2, zl_beh st k p ns os ot cp c = .inr (.inr C) ∧ zFl I I2 ∧ zLrC I2 C ∧ zl_iv C i ∧ ∀ d P, zx_rn (d + 3) 18 [.ref 86, .ref 84, .ref 89, .int (nI st)] (zx_LL Lh) I J P = P (some (.int (nI C.1))) (zx_LL Lh) I2 J := by
  have hiv := iv
  obtain ⟨i1, i2, i3, i4, i5, i6, i7, i8, i9, i10, i11⟩ := iv
  dsimp only at i1 i2 i3 i4 i5 i6 i7 i8 i9 i10 i11
  obtain ⟨⟨-, -, -, -, -, t42, t43, t44⟩, ⟨t49, t50, t51, t46, t14, t13, t48, -⟩, -, -⟩ := zf_tkc_eq ⟨k, hk⟩ kd
  dsimp only at t42 t43 t44 t49 t50 t51 t46 t14 t13 t48
  have cql := zl_cq_le p
  have len := zl_len p i3
  have tb6 := zl_tb_le p
  have os6 : os ≤ 6 := by omega
  have ot6 : ot ≤ 6 := by omega
  obtain ⟨z1, z2, z3, z4, z5, z6, z7, z8⟩ := z
  have z : zLr I p ns os ot cp c := ⟨z1, z2, z3, z4, z5, z6, z7, z8⟩
  have jn : ∀ (I1 : zx_MI) (st1 : Nat) (cp1 : Bool), st1 < 4 → (st1 = 0 → zl_bd k ≤ 3) → (st1 = 0 ∨ st1 = 3 → os = 0) → k ∈ zl_ks → k ≠ 45 → k ≠ 47 → k ≠ 15 → zFl I I1 → zLr I1 p ns os ot cp1 c → ∃ I2, zFl I I2 ∧ zLrC I2 (zl_join st1 k p ns os ot cp1 c) ∧ zl_iv (zl_join st1 k p ns os ot cp1 c) i ∧ ∀ d P, zx_rn (d + 2) 20 [.ref 86, .ref 89, .int (zf_tkc k)] (zx_LL Lh) I1 J P = P none (zx_LL Lh) I2 J := by
    intro I1 st1 cp1 h1 h2 h3 hks n1 n2 n3 fI zI
    obtain ⟨I2, f2, y2, h⟩ := sc_join (Lh := Lh) (J := J) hks (zl_ks_op k hks n1 n2 n3) zI i2 i3 (by omega) (by omega) (by omega) (by omega)
    exact ⟨I2, zFl_t fI f2, y2, zl_iv_join hiv h1 hks n1 n2 n3 h2 h3, h⟩
  have cl : ∀ (I1 : zx_MI) (st1 os2 ot2 : Nat), st1 < 4 → st1 ≠ 0 → (st1 = 3 → os2 = 0) → ((0 < os ∧ os2 = os - 1 ∧ ot2 = ot) ∨ (os = 0 ∧ os2 = 0 ∧ 0 < ot ∧ ot2 = ot - 1)) → zFl I I1 → zLr I1 p ns os2 ot2 cp c → ∃ I2, zFl I I2 ∧ zLrC I2 (zl_close st1 p ns os2 ot2 cp c) ∧ zl_iv (zl_close st1 p ns os2 ot2 cp c) i ∧ ∀ d P, zx_rn (d + 2) 21 [.ref 86, .ref 89] (zx_LL Lh) I1 J P = P none (zx_LL Lh) I2 J := by
    intro I1 st1 os2 ot2 h1 h2 h3 hq fI zI
    obtain ⟨v2, q, r, er, g1, g2, g3⟩ := zl_iv_close hiv h1 h2 h3 hq
    obtain ⟨I2, f2, y2, h⟩ := sc_close (Lh := Lh) (J := J) zI i2 (by omega) (by omega) (by omega) (by omega) er g1 (by omega) (by omega)
    refine ⟨I2, zFl_t fI f2, ?_, v2, h⟩
    unfold zl_close zLrC
    rw [er]
    exact y2
  have hmis := fun d P => sc_misplaced (Lh := Lh) (J := J) (d := d) (P := P) hk kd e4 e3
  have hwh := fun d P => sc_isWhole (Lh := Lh) (J := J) (I := I) (d := d) (st := st) (P := P) i1 (by omega) z4 z6
  -- the first part, where nothing of it fits
  have fall : (st = 3 ∨ (st = 2 ∧ ¬ (k = 42 ∨ k = 43 ∨ k = 44) ∧ ¬ ((k = 49 ∨ k = 50 ∨ k = 51) ∧ os = 0 ∧ cp = false) ∧ ¬ (k = 46 ∧ 0 < os))) → ∀ d P, zx_rn (d + 3) 18 [.ref 86, .ref 84, .ref 89, .int (nI st)] (zx_LL Lh) I J P = zx_wp (d + 3) 18 121 [.ref 86, .ref 84, .ref 89, .int (nI st), .int (zf_tkc k)] [] (zx_LL Lh) I J P := by
    intro h d P
    rw [ze_18]
    rcases h with e | ⟨e, n1, n2, n3⟩
    · subst e
      have n32 : (nI 3 = nI 2) = False := eq_false (by decide)
      simp (disch := omega) only [↓zs_18_0, ↓zs_18_1, ↓zs_18_4, ↓zs_18_6, ↓zs_18_7, ↓zs_18_8, zx_pu_s, zx_pu_n, zx_rv_s, zx_rv_n, true_and, and_true, true_or, or_true, zb_0, zb_1, zq_lcl, zq_lcg, zq_lce, eq_self, ite_true, ite_false, zk_84, zw_84, zq_84_0, zk_86, zw_86, zq_86_0, e4, n32]
    · subst e
      have f42 := eq_false (fun w => (show k ≠ 42 by omega) (t42.mp w))
      have f43 := eq_false (fun w => (show k ≠ 43 by omega) (t43.mp w))
      have f44 := eq_false (fun w => (show k ≠ 44 by omega) (t44.mp w))
      have to39 : zx_wp (d + 3) 18 0 [.ref 86, .ref 84, .ref 89, .int (nI 2), zx_u0] [] (zx_LL Lh) I J P = zx_wp (d + 3) 18 41 [.ref 86, .ref 84, .ref 89, .int (nI 2), .int (zf_tkc k)] [] (zx_LL Lh) I J P := by
        simp (disch := omega) only [↓zs_18_0, ↓zs_18_1, ↓zs_18_4, ↓zs_18_6, ↓zs_18_7, ↓zs_18_8, ↓zs_18_11, ↓zs_18_13, ↓zs_18_15, ↓zs_18_18, ↓zs_18_20, ↓zs_18_22, ↓zs_18_25, ↓zs_18_27, ↓zs_18_29, ↓zs_18_32, ↓zs_18_33, ↓zs_18_34, ↓zs_18_36, ↓zs_18_39, ↓zs_18_40, zx_pu_s, zx_pu_n, zx_rv_s, zx_rv_n, true_and, and_true, true_or, or_true, zb_0, zb_1, zq_lcl, zq_lcg, zq_lce, eq_self, ite_true, ite_false, zk_84, zw_84, zq_84_0, zk_86, zw_86, zq_86_0, e4, f42, f43, f44]
      rw [to39]
      by_cases c9 : k = 49 ∨ k = 50 ∨ k = 51
      · have f46 := eq_false (fun w => (show k ≠ 46 by omega) (t46.mp w))
        have to57 : zx_wp (d + 3) 18 41 [.ref 86, .ref 84, .ref 89, .int (nI 2), .int (zf_tkc k)] [] (zx_LL Lh) I J P = zx_wp (d + 3) 18 62 [.ref 86, .ref 84, .ref 89, .int (nI 2), .int (zf_tkc k)] [] (zx_LL Lh) I J P := by
          rcases c9 with e | e | e
          · have g := eq_true (t49.mpr e)
            simp (disch := omega) only [↓zs_18_41, ↓zs_18_43, ↓zs_18_45, ↓zs_18_48, ↓zs_18_50, ↓zs_18_52, ↓zs_18_55, ↓zs_18_57, ↓zs_18_59, zx_pu_s, zx_pu_n, zx_rv_s, zx_rv_n, true_and, and_true, true_or, or_true, zb_0, zb_1, zq_lcl, zq_lcg, zq_lce, eq_self, ite_true, ite_false, g]
          · have g0 := eq_false (fun w => (show k ≠ 49 by omega) (t49.mp w))
            have g := eq_true (t50.mpr e)
            simp (disch := omega) only [↓zs_18_41, ↓zs_18_43, ↓zs_18_45, ↓zs_18_48, ↓zs_18_50, ↓zs_18_52, ↓zs_18_55, ↓zs_18_57, ↓zs_18_59, zx_pu_s, zx_pu_n, zx_rv_s, zx_rv_n, true_and, and_true, true_or, or_true, zb_0, zb_1, zq_lcl, zq_lcg, zq_lce, eq_self, ite_true, ite_false, g0, g]
          · have g0 := eq_false (fun w => (show k ≠ 49 by omega) (t49.mp w))
            have g1 := eq_false (fun w => (show k ≠ 50 by omega) (t50.mp w))
            have g := eq_true (t51.mpr e)
            simp (disch := omega) only [↓zs_18_41, ↓zs_18_43, ↓zs_18_45, ↓zs_18_48, ↓zs_18_50, ↓zs_18_52, ↓zs_18_55, ↓zs_18_57, ↓zs_18_59, zx_pu_s, zx_pu_n, zx_rv_s, zx_rv_n, true_and, and_true, true_or, or_true, zb_0, zb_1, zq_lcl, zq_lcg, zq_lce, eq_self, ite_true, ite_false, g0, g1, g]
        rw [to57]
        by_cases o0 : os = 0
        · have cpt : cp = true := by
            cases cp with
            | true => rfl
            | false => exact absurd ⟨c9, o0, rfl⟩ n2
          subst cpt
          rw [o0] at z4
          simp (disch := omega) only [↓zs_18_62, ↓zs_18_63, ↓zs_18_66, ↓zs_18_69, ↓zs_18_70, ↓zs_18_73, ↓zs_18_76, ↓zs_18_77, ↓zs_18_78, ↓zs_18_81, ↓zs_18_82, ↓zs_18_83, ↓zs_18_85, ↓zs_18_88, ↓zs_18_89, ↓zs_18_90, ↓zs_18_92, ↓zs_18_94, ↓zs_18_97, ↓zs_18_98, ↓zs_18_101, ↓zs_18_104, ↓zs_18_105, ↓zs_18_106, ↓zs_18_109, ↓zs_18_110, ↓zs_18_111, ↓zs_18_114, ↓zs_18_115, ↓zs_18_116, ↓zs_18_119, ↓zs_18_120, zx_pu_s, zx_pu_n, zx_rv_s, zx_rv_n, true_and, and_true, true_or, or_true, zb_0, zb_1, zq_lcl, zq_lcg, zq_lce, eq_self, ite_true, ite_false, zk_86, zw_86, zq_86_0, z4, z6, zB_0, reduceCtorEq, f46]
        · have o0' : (nI os = nI 0) = False := zq_ne o0 (by omega) (by omega)
          simp (disch := omega) only [↓zs_18_62, ↓zs_18_63, ↓zs_18_66, ↓zs_18_69, ↓zs_18_70, ↓zs_18_73, ↓zs_18_76, ↓zs_18_77, ↓zs_18_78, ↓zs_18_81, ↓zs_18_82, ↓zs_18_83, ↓zs_18_85, ↓zs_18_88, ↓zs_18_89, ↓zs_18_90, ↓zs_18_92, ↓zs_18_94, ↓zs_18_97, ↓zs_18_98, ↓zs_18_101, ↓zs_18_104, ↓zs_18_105, ↓zs_18_106, ↓zs_18_109, ↓zs_18_110, ↓zs_18_111, ↓zs_18_114, ↓zs_18_115, ↓zs_18_116, ↓zs_18_119, ↓zs_18_120, zx_pu_s, zx_pu_n, zx_rv_s, zx_rv_n, true_and, and_true, true_or, or_true, zb_0, zb_1, zq_lcl, zq_lcg, zq_lce, eq_self, ite_true, ite_false, zk_86, zw_86, zq_86_0, z4, o0', f46]
      · have g0 := eq_false (fun w => (show k ≠ 49 by omega) (t49.mp w))
        have g1 := eq_false (fun w => (show k ≠ 50 by omega) (t50.mp w))
        have g2 := eq_false (fun w => (show k ≠ 51 by omega) (t51.mp w))
        by_cases c46 : k = 46
        · have o0 : os = 0 := by omega
          have g3 := eq_true (t46.mpr c46)
          rw [o0] at z4
          simp (disch := omega) only [↓zs_18_41, ↓zs_18_43, ↓zs_18_45, ↓zs_18_48, ↓zs_18_50, ↓zs_18_52, ↓zs_18_55, ↓zs_18_57, ↓zs_18_59, ↓zs_18_62, ↓zs_18_63, ↓zs_18_66, ↓zs_18_69, ↓zs_18_70, ↓zs_18_73, ↓zs_18_76, ↓zs_18_77, ↓zs_18_78, ↓zs_18_81, ↓zs_18_82, ↓zs_18_83, ↓zs_18_85, ↓zs_18_88, ↓zs_18_89, ↓zs_18_90, ↓zs_18_92, ↓zs_18_94, ↓zs_18_97, ↓zs_18_98, ↓zs_18_101, ↓zs_18_104, ↓zs_18_105, ↓zs_18_106, ↓zs_18_109, ↓zs_18_110, ↓zs_18_111, ↓zs_18_114, ↓zs_18_115, ↓zs_18_116, ↓zs_18_119, ↓zs_18_120, zx_pu_s, zx_pu_n, zx_rv_s, zx_rv_n, true_and, and_true, true_or, or_true, zb_0, zb_1, zq_lcl, zq_lcg, zq_lce, eq_self, ite_true, ite_false, zk_86, zw_86, zq_86_0, g0, g1, g2, g3, z4, nI_ltI, Nat.lt_irrefl]
        · have g3 := eq_false (fun w => c46 (t46.mp w))
          simp (disch := omega) only [↓zs_18_41, ↓zs_18_43, ↓zs_18_45, ↓zs_18_48, ↓zs_18_50, ↓zs_18_52, ↓zs_18_55, ↓zs_18_57, ↓zs_18_59, ↓zs_18_62, ↓zs_18_63, ↓zs_18_66, ↓zs_18_69, ↓zs_18_70, ↓zs_18_73, ↓zs_18_76, ↓zs_18_77, ↓zs_18_78, ↓zs_18_81, ↓zs_18_82, ↓zs_18_83, ↓zs_18_85, ↓zs_18_88, ↓zs_18_89, ↓zs_18_90, ↓zs_18_92, ↓zs_18_94, ↓zs_18_97, ↓zs_18_98, ↓zs_18_101, ↓zs_18_104, ↓zs_18_105, ↓zs_18_106, ↓zs_18_109, ↓zs_18_110, ↓zs_18_111, ↓zs_18_114, ↓zs_18_115, ↓zs_18_116, ↓zs_18_119, ↓zs_18_120, zx_pu_s, zx_pu_n, zx_rv_s, zx_rv_n, true_and, and_true, true_or, or_true, zb_0, zb_1, zq_lcl, zq_lcg, zq_lce, eq_self, ite_true, ite_false, g0, g1, g2, g3]
  unfold zl_beh
  by_cases a1 : st = 2 ∧ (k = 42 ∨ k = 43 ∨ k = 44)
  · right
    rw [if_pos a1]
    obtain ⟨rfl, a1⟩ := a1
    obtain ⟨I2, f2, y2, v2, h2⟩ := jn I 1 cp (by decide) (fun e => absurd e (by decide)) (fun e => absurd e (by decide)) (by rcases a1 with e | e | e <;> subst e <;> decide) (by omega) (by omega) (by omega) (zFl_r I) z
    refine ⟨_, I2, rfl, f2, y2, v2, fun d P => ?_⟩
    rw [ze_18]
    rcases a1 with e | e | e
    · have g := eq_true (t42.mpr e)
      simp (disch := omega) only [↓zs_18_0, ↓zs_18_1, ↓zs_18_4, ↓zs_18_6, ↓zs_18_7, ↓zs_18_8, ↓zs_18_11, ↓zs_18_13, ↓zs_18_15, ↓zs_18_18, ↓zs_18_20, ↓zs_18_22, ↓zs_18_25, ↓zs_18_27, ↓zs_18_29, ↓zs_18_32, ↓zs_18_33, ↓zs_18_34, ↓zs_18_36, ↓zs_18_39, ↓zs_18_40, zx_pu_s, zx_pu_n, zx_rv_s, zx_rv_n, true_and, and_true, true_or, or_true, zb_0, zb_1, zq_lcl, zq_lcg, zq_lce, eq_self, ite_true, ite_false, zk_89, zw_89, zq_89_0, zq_89_1, zq_89_2, zk_84, zw_84, zq_84_0, zk_86, zw_86, zq_86_0, e4, g, h2]
      rfl
    · have g0 := eq_false (fun w => (show k ≠ 42 by omega) (t42.mp w))
      have g := eq_true (t43.mpr e)
      simp (disch := omega) only [↓zs_18_0, ↓zs_18_1, ↓zs_18_4, ↓zs_18_6, ↓zs_18_7, ↓zs_18_8, ↓zs_18_11, ↓zs_18_13, ↓zs_18_15, ↓zs_18_18, ↓zs_18_20, ↓zs_18_22, ↓zs_18_25, ↓zs_18_27, ↓zs_18_29, ↓zs_18_32, ↓zs_18_33, ↓zs_18_34, ↓zs_18_36, ↓zs_18_39, ↓zs_18_40, zx_pu_s, zx_pu_n, zx_rv_s, zx_rv_n, true_and, and_true, true_or, or_true, zb_0, zb_1, zq_lcl, zq_lcg, zq_lce, eq_self, ite_true, ite_false, zk_89, zw_89, zq_89_0, zq_89_1, zq_89_2, zk_84, zw_84, zq_84_0, zk_86, zw_86, zq_86_0, e4, g0, g, h2]
      rfl
    · have g0 := eq_false (fun w => (show k ≠ 42 by omega) (t42.mp w))
      have g1 := eq_false (fun w => (show k ≠ 43 by omega) (t43.mp w))
      have g := eq_true (t44.mpr e)
      simp (disch := omega) only [↓zs_18_0, ↓zs_18_1, ↓zs_18_4, ↓zs_18_6, ↓zs_18_7, ↓zs_18_8, ↓zs_18_11, ↓zs_18_13, ↓zs_18_15, ↓zs_18_18, ↓zs_18_20, ↓zs_18_22, ↓zs_18_25, ↓zs_18_27, ↓zs_18_29, ↓zs_18_32, ↓zs_18_33, ↓zs_18_34, ↓zs_18_36, ↓zs_18_39, ↓zs_18_40, zx_pu_s, zx_pu_n, zx_rv_s, zx_rv_n, true_and, and_true, true_or, or_true, zb_0, zb_1, zq_lcl, zq_lcg, zq_lce, eq_self, ite_true, ite_false, zk_89, zw_89, zq_89_0, zq_89_1, zq_89_2, zk_84, zw_84, zq_84_0, zk_86, zw_86, zq_86_0, e4, g0, g1, g, h2]
      rfl
  · rw [if_neg a1]
    by_cases a2 : st = 2 ∧ (k = 49 ∨ k = 50 ∨ k = 51) ∧ os = 0 ∧ cp = false
    · right
      rw [if_pos a2]
      obtain ⟨rfl, a2, rfl, rfl⟩ := a2
      obtain ⟨I2, f2, y2, v2, h2⟩ := jn (zx_u I 86 5 (zB true)) 1 true (by decide) (fun e => absurd e (by decide)) (fun e => absurd e (by decide)) (by rcases a2 with e | e | e <;> subst e <;> decide) (by omega) (by omega) (by omega) (fun a j n => zu_n (by omega)) (zLr_p z true)
      refine ⟨_, I2, rfl, f2, y2, v2, fun d P => ?_⟩
      have o1 : zB true = nI 1 := rfl
      rw [o1] at h2
      have f42 := eq_false (fun w => (show k ≠ 42 by omega) (t42.mp w))
      have f43 := eq_false (fun w => (show k ≠ 43 by omega) (t43.mp w))
      have f44 := eq_false (fun w => (show k ≠ 44 by omega) (t44.mp w))
      rw [ze_18]
      rcases a2 with e | e | e
      · have g := eq_true (t49.mpr e)
        simp (disch := omega) only [↓zs_18_0, ↓zs_18_1, ↓zs_18_4, ↓zs_18_6, ↓zs_18_7, ↓zs_18_8, ↓zs_18_11, ↓zs_18_13, ↓zs_18_15, ↓zs_18_18, ↓zs_18_20, ↓zs_18_22, ↓zs_18_25, ↓zs_18_27, ↓zs_18_29, ↓zs_18_32, ↓zs_18_33, ↓zs_18_34, ↓zs_18_36, ↓zs_18_39, ↓zs_18_40, ↓zs_18_41, ↓zs_18_43, ↓zs_18_45, ↓zs_18_48, ↓zs_18_50, ↓zs_18_52, ↓zs_18_55, ↓zs_18_57, ↓zs_18_59, zx_pu_s, zx_pu_n, zx_rv_s, zx_rv_n, true_and, and_true, true_or, or_true, zb_0, zb_1, zq_lcl, zq_lcg, zq_lce, eq_self, ite_true, ite_false, zk_84, zw_84, zq_84_0, zk_86, zw_86, zq_86_0, e4, f42, f43, f44, g]
        simp (disch := omega) only [↓zs_18_62, ↓zs_18_63, ↓zs_18_66, ↓zs_18_69, ↓zs_18_70, ↓zs_18_73, ↓zs_18_76, ↓zs_18_77, ↓zs_18_78, ↓zs_18_81, ↓zs_18_82, ↓zs_18_83, ↓zs_18_85, ↓zs_18_88, ↓zs_18_89, zx_pu_s, zx_pu_n, zx_rv_s, zx_rv_n, true_and, and_true, true_or, or_true, zb_0, zb_1, zq_lcl, zq_lcg, zq_lce, eq_self, ite_true, ite_false, zk_89, zw_89, zq_89_0, zq_89_1, zq_89_2, zk_86, zw_86, zq_86_0, z4, z6, zB_0, h2]
        rfl
      · have g0 := eq_false (fun w => (show k ≠ 49 by omega) (t49.mp w))
        have g := eq_true (t50.mpr e)
        simp (disch := omega) only [↓zs_18_0, ↓zs_18_1, ↓zs_18_4, ↓zs_18_6, ↓zs_18_7, ↓zs_18_8, ↓zs_18_11, ↓zs_18_13, ↓zs_18_15, ↓zs_18_18, ↓zs_18_20, ↓zs_18_22, ↓zs_18_25, ↓zs_18_27, ↓zs_18_29, ↓zs_18_32, ↓zs_18_33, ↓zs_18_34, ↓zs_18_36, ↓zs_18_39, ↓zs_18_40, ↓zs_18_41, ↓zs_18_43, ↓zs_18_45, ↓zs_18_48, ↓zs_18_50, ↓zs_18_52, ↓zs_18_55, ↓zs_18_57, ↓zs_18_59, zx_pu_s, zx_pu_n, zx_rv_s, zx_rv_n, true_and, and_true, true_or, or_true, zb_0, zb_1, zq_lcl, zq_lcg, zq_lce, eq_self, ite_true, ite_false, zk_84, zw_84, zq_84_0, zk_86, zw_86, zq_86_0, e4, f42, f43, f44, g0, g]
        simp (disch := omega) only [↓zs_18_62, ↓zs_18_63, ↓zs_18_66, ↓zs_18_69, ↓zs_18_70, ↓zs_18_73, ↓zs_18_76, ↓zs_18_77, ↓zs_18_78, ↓zs_18_81, ↓zs_18_82, ↓zs_18_83, ↓zs_18_85, ↓zs_18_88, ↓zs_18_89, zx_pu_s, zx_pu_n, zx_rv_s, zx_rv_n, true_and, and_true, true_or, or_true, zb_0, zb_1, zq_lcl, zq_lcg, zq_lce, eq_self, ite_true, ite_false, zk_89, zw_89, zq_89_0, zq_89_1, zq_89_2, zk_86, zw_86, zq_86_0, z4, z6, zB_0, h2]
        rfl
      · have g0 := eq_false (fun w => (show k ≠ 49 by omega) (t49.mp w))
        have g1 := eq_false (fun w => (show k ≠ 50 by omega) (t50.mp w))
        have g := eq_true (t51.mpr e)
        simp (disch := omega) only [↓zs_18_0, ↓zs_18_1, ↓zs_18_4, ↓zs_18_6, ↓zs_18_7, ↓zs_18_8, ↓zs_18_11, ↓zs_18_13, ↓zs_18_15, ↓zs_18_18, ↓zs_18_20, ↓zs_18_22, ↓zs_18_25, ↓zs_18_27, ↓zs_18_29, ↓zs_18_32, ↓zs_18_33, ↓zs_18_34, ↓zs_18_36, ↓zs_18_39, ↓zs_18_40, ↓zs_18_41, ↓zs_18_43, ↓zs_18_45, ↓zs_18_48, ↓zs_18_50, ↓zs_18_52, ↓zs_18_55, ↓zs_18_57, ↓zs_18_59, zx_pu_s, zx_pu_n, zx_rv_s, zx_rv_n, true_and, and_true, true_or, or_true, zb_0, zb_1, zq_lcl, zq_lcg, zq_lce, eq_self, ite_true, ite_false, zk_84, zw_84, zq_84_0, zk_86, zw_86, zq_86_0, e4, f42, f43, f44, g0, g1, g]
        simp (disch := omega) only [↓zs_18_62, ↓zs_18_63, ↓zs_18_66, ↓zs_18_69, ↓zs_18_70, ↓zs_18_73, ↓zs_18_76, ↓zs_18_77, ↓zs_18_78, ↓zs_18_81, ↓zs_18_82, ↓zs_18_83, ↓zs_18_85, ↓zs_18_88, ↓zs_18_89, zx_pu_s, zx_pu_n, zx_rv_s, zx_rv_n, true_and, and_true, true_or, or_true, zb_0, zb_1, zq_lcl, zq_lcg, zq_lce, eq_self, ite_true, ite_false, zk_89, zw_89, zq_89_0, zq_89_1, zq_89_2, zk_86, zw_86, zq_86_0, z4, z6, zB_0, h2]
        rfl
    · rw [if_neg a2]
      by_cases a3 : st = 2 ∧ k = 46 ∧ 0 < os
      · right
        rw [if_pos a3]
        obtain ⟨rfl, a3, a4⟩ := a3
        obtain ⟨I2, f2, y2, v2, h2⟩ := cl (zx_u I 86 3 (nI (os - 1))) 2 (os - 1) ot (by decide) (by decide) (fun e => absurd e (by decide)) (.inl ⟨a4, rfl, rfl⟩) (fun a j n => zu_n (by omega)) (zLr_s z (os - 1))
        refine ⟨_, I2, rfl, f2, y2, v2, fun d P => ?_⟩
        have f42 := eq_false (fun w => (show k ≠ 42 by omega) (t42.mp w))
        have f43 := eq_false (fun w => (show k ≠ 43 by omega) (t43.mp w))
        have f44 := eq_false (fun w => (show k ≠ 44 by omega) (t44.mp w))
        have g0 := eq_false (fun w => (show k ≠ 49 by omega) (t49.mp w))
        have g1 := eq_false (fun w => (show k ≠ 50 by omega) (t50.mp w))
        have g2 := eq_false (fun w => (show k ≠ 51 by omega) (t51.mp w))
        have g3 := eq_true (t46.mpr a3)
        have en : nI os - nI 1 = nI (os - 1) := pk_sub a4
        rw [ze_18]
        simp (disch := omega) only [↓zs_18_0, ↓zs_18_1, ↓zs_18_4, ↓zs_18_6, ↓zs_18_7, ↓zs_18_8, ↓zs_18_11, ↓zs_18_13, ↓zs_18_15, ↓zs_18_18, ↓zs_18_20, ↓zs_18_22, ↓zs_18_25, ↓zs_18_27, ↓zs_18_29, ↓zs_18_32, ↓zs_18_33, ↓zs_18_34, ↓zs_18_36, ↓zs_18_39, ↓zs_18_40, ↓zs_18_41, ↓zs_18_43, ↓zs_18_45, ↓zs_18_48, ↓zs_18_50, ↓zs_18_52, ↓zs_18_55, ↓zs_18_57, ↓zs_18_59, zx_pu_s, zx_pu_n, zx_rv_s, zx_rv_n, true_and, and_true, true_or, or_true, zb_0, zb_1, zq_lcl, zq_lcg, zq_lce, eq_self, ite_true, ite_false, zk_84, zw_84, zq_84_0, zk_86, zw_86, zq_86_0, e4, f42, f43, f44, g0, g1, g2]
        simp (disch := omega) only [↓zs_18_90, ↓zs_18_92, ↓zs_18_94, ↓zs_18_97, ↓zs_18_98, ↓zs_18_101, ↓zs_18_104, ↓zs_18_105, ↓zs_18_106, ↓zs_18_109, ↓zs_18_110, ↓zs_18_111, ↓zs_18_114, ↓zs_18_115, ↓zs_18_116, ↓zs_18_119, ↓zs_18_120, zx_pu_s, zx_pu_n, zx_rv_s, zx_rv_n, true_and, and_true, true_or, or_true, zb_0, zb_1, zq_lcl, zq_lcg, zq_lce, eq_self, ite_true, ite_false, zk_89, zw_89, zq_89_0, zq_89_1, zq_89_2, zk_86, zw_86, zq_86_0, nI_ltI, z4, g3, a4, en, h2]
        rfl
      · rw [if_neg a3]
        have hfall := fall (by
          by_cases e : st = 3
          · exact .inl e
          · have e2 : st = 2 := by omega
            exact .inr ⟨e2, fun h => a1 ⟨e2, h⟩, fun h => a2 ⟨e2, h⟩, fun h => a3 ⟨e2, h⟩⟩)
        have wos : zl_wh st os cp = true → os = 0 := by
          intro h
          by_cases e : st = 3
          · exact i10 (.inr e)
          · unfold zl_wh at h
            rw [decide_eq_false e, Bool.false_or, Bool.and_eq_true, Bool.and_eq_true, decide_eq_true_iff, decide_eq_true_iff] at h
            exact h.2.2
        by_cases a4 : zl_wh st os cp = true ∧ (k = 14 ∨ k = 13)
        · right
          rw [if_pos a4]
          obtain ⟨w, a4⟩ := a4
          obtain ⟨I2, f2, y2, v2, h2⟩ := jn (zx_u I 86 5 (zB false)) 0 false (by decide) (fun _ => by rcases a4 with e | e <;> subst e <;> decide) (fun _ => wos w) (by rcases a4 with e | e <;> subst e <;> decide) (by omega) (by omega) (by omega) (fun a j n => zu_n (by omega)) (zLr_p z false)
          refine ⟨_, I2, rfl, f2, y2, v2, fun d P => ?_⟩
          have o0 : zB false = nI 0 := rfl
          rw [o0] at h2
          rw [w] at hwh
          rw [hfall]
          rcases a4 with e | e
          · have g := eq_true (t14.mpr e)
            simp (disch := omega) only [↓zs_18_121, ↓zs_18_122, ↓zs_18_123, ↓zs_18_126, ↓zs_18_129, ↓zs_18_131, ↓zs_18_134, ↓zs_18_137, ↓zs_18_139, ↓zs_18_142, ↓zs_18_145, ↓zs_18_146, ↓zs_18_147, ↓zs_18_150, ↓zs_18_151, ↓zs_18_152, ↓zs_18_154, ↓zs_18_157, ↓zs_18_158, zx_pu_s, zx_pu_n, zx_rv_s, zx_rv_n, true_and, and_true, true_or, or_true, zb_0, zb_1, zq_lcl, zq_lcg, zq_lce, eq_self, ite_true, ite_false, zk_89, zw_89, zq_89_0, zq_89_1, zq_89_2, zk_86, zw_86, zq_86_0, hwh, zB_0, reduceCtorEq, g, h2]
            rfl
          · have g0 := eq_false (fun w => (show k ≠ 14 by omega) (t14.mp w))
            have g := eq_true (t13.mpr e)
            simp (disch := omega) only [↓zs_18_121, ↓zs_18_122, ↓zs_18_123, ↓zs_18_126, ↓zs_18_129, ↓zs_18_131, ↓zs_18_134, ↓zs_18_137, ↓zs_18_139, ↓zs_18_142, ↓zs_18_145, ↓zs_18_146, ↓zs_18_147, ↓zs_18_150, ↓zs_18_151, ↓zs_18_152, ↓zs_18_154, ↓zs_18_157, ↓zs_18_158, zx_pu_s, zx_pu_n, zx_rv_s, zx_rv_n, true_and, and_true, true_or, or_true, zb_0, zb_1, zq_lcl, zq_lcg, zq_lce, eq_self, ite_true, ite_false, zk_89, zw_89, zq_89_0, zq_89_1, zq_89_2, zk_86, zw_86, zq_86_0, hwh, zB_0, reduceCtorEq, g0, g, h2]
            rfl
        · rw [if_neg a4]
          have to149 : ∀ d P, zx_wp (d + 3) 18 121 [.ref 86, .ref 84, .ref 89, .int (nI st), .int (zf_tkc k)] [] (zx_LL Lh) I J P = zx_wp (d + 3) 18 159 [.ref 86, .ref 84, .ref 89, .int (nI st), .int (zf_tkc k)] [] (zx_LL Lh) I J P := by
            intro d P
            cases w : zl_wh st os cp with
            | false =>
              rw [w] at hwh
              simp (disch := omega) only [↓zs_18_121, ↓zs_18_122, ↓zs_18_123, ↓zs_18_126, ↓zs_18_129, ↓zs_18_131, ↓zs_18_134, ↓zs_18_137, ↓zs_18_139, ↓zs_18_142, ↓zs_18_145, ↓zs_18_146, ↓zs_18_147, ↓zs_18_150, ↓zs_18_151, ↓zs_18_152, ↓zs_18_154, ↓zs_18_157, ↓zs_18_158, zx_pu_s, zx_pu_n, zx_rv_s, zx_rv_n, true_and, and_true, true_or, or_true, zb_0, zb_1, zq_lcl, zq_lcg, zq_lce, eq_self, ite_true, ite_false, zk_86, zw_86, zq_86_0, hwh, zB_0, reduceCtorEq]
            | true =>
              rw [w] at hwh
              have n4 : ¬ (k = 14 ∨ k = 13) := fun h => a4 ⟨w, h⟩
              have g0 := eq_false (fun w => (show k ≠ 14 by omega) (t14.mp w))
              have g1 := eq_false (fun w => (show k ≠ 13 by omega) (t13.mp w))
              simp (disch := omega) only [↓zs_18_121, ↓zs_18_122, ↓zs_18_123, ↓zs_18_126, ↓zs_18_129, ↓zs_18_131, ↓zs_18_134, ↓zs_18_137, ↓zs_18_139, ↓zs_18_142, ↓zs_18_145, ↓zs_18_146, ↓zs_18_147, ↓zs_18_150, ↓zs_18_151, ↓zs_18_152, ↓zs_18_154, ↓zs_18_157, ↓zs_18_158, zx_pu_s, zx_pu_n, zx_rv_s, zx_rv_n, true_and, and_true, true_or, or_true, zb_0, zb_1, zq_lcl, zq_lcg, zq_lce, eq_self, ite_true, ite_false, zk_86, zw_86, zq_86_0, hwh, zB_0, reduceCtorEq, g0, g1]
          by_cases a5 : zl_wh st os cp = true ∧ k = 48 ∧ 0 < ot
          · right
            rw [if_pos a5]
            obtain ⟨w, a5, a6⟩ := a5
            have os0 := wos w
            obtain ⟨I2, f2, y2, v2, h2⟩ := cl (zx_u I 86 4 (nI (ot - 1))) 3 os (ot - 1) (by decide) (by decide) (fun _ => os0) (.inr ⟨os0, os0, a6, rfl⟩) (fun a j n => zu_n (by omega)) (zLr_t z (ot - 1))
            refine ⟨_, I2, rfl, f2, y2, v2, fun d P => ?_⟩
            rw [w] at hwh
            have g := eq_true (t48.mpr a5)
            have en : nI ot - nI 1 = nI (ot - 1) := pk_sub a6
            rw [hfall, to149]
            simp (disch := omega) only [↓zs_18_159, ↓zs_18_160, ↓zs_18_161, ↓zs_18_164, ↓zs_18_167, ↓zs_18_169, ↓zs_18_171, ↓zs_18_174, ↓zs_18_175, ↓zs_18_178, ↓zs_18_181, ↓zs_18_182, ↓zs_18_183, ↓zs_18_186, ↓zs_18_187, ↓zs_18_188, ↓zs_18_191, ↓zs_18_192, ↓zs_18_193, ↓zs_18_196, ↓zs_18_197, zx_pu_s, zx_pu_n, zx_rv_s, zx_rv_n, true_and, and_true, true_or, or_true, zb_0, zb_1, zq_lcl, zq_lcg, zq_lce, eq_self, ite_true, ite_false, zk_89, zw_89, zq_89_0, zq_89_1, zq_89_2, zk_86, zw_86, zq_86_0, hwh, zB_0, reduceCtorEq, g, nI_ltI, z5, a6, en, h2]
            rfl
          · left
            rw [if_neg a5]
            refine ⟨_, rfl, by unfold zl_mp; split <;> decide, fun d P => ?_⟩
            have to187 : zx_wp (d + 3) 18 159 [.ref 86, .ref 84, .ref 89, .int (nI st), .int (zf_tkc k)] [] (zx_LL Lh) I J P = zx_wp (d + 3) 18 198 [.ref 86, .ref 84, .ref 89, .int (nI st), .int (zf_tkc k)] [] (zx_LL Lh) I J P := by
              cases w : zl_wh st os cp with
              | false =>
                rw [w] at hwh
                simp (disch := omega) only [↓zs_18_159, ↓zs_18_160, ↓zs_18_161, ↓zs_18_164, ↓zs_18_167, ↓zs_18_169, ↓zs_18_171, ↓zs_18_174, ↓zs_18_175, ↓zs_18_178, ↓zs_18_181, ↓zs_18_182, ↓zs_18_183, ↓zs_18_186, ↓zs_18_187, ↓zs_18_188, ↓zs_18_191, ↓zs_18_192, ↓zs_18_193, ↓zs_18_196, ↓zs_18_197, zx_pu_s, zx_pu_n, zx_rv_s, zx_rv_n, true_and, and_true, true_or, or_true, zb_0, zb_1, zq_lcl, zq_lcg, zq_lce, eq_self, ite_true, ite_false, zk_86, zw_86, zq_86_0, hwh, zB_0, reduceCtorEq]
              | true =>
                rw [w] at hwh
                by_cases c48 : k = 48
                · have g := eq_true (t48.mpr c48)
                  have n0 : ¬ 0 < ot := fun h => a5 ⟨w, c48, h⟩
                  simp (disch := omega) only [↓zs_18_159, ↓zs_18_160, ↓zs_18_161, ↓zs_18_164, ↓zs_18_167, ↓zs_18_169, ↓zs_18_171, ↓zs_18_174, ↓zs_18_175, ↓zs_18_178, ↓zs_18_181, ↓zs_18_182, ↓zs_18_183, ↓zs_18_186, ↓zs_18_187, ↓zs_18_188, ↓zs_18_191, ↓zs_18_192, ↓zs_18_193, ↓zs_18_196, ↓zs_18_197, zx_pu_s, zx_pu_n, zx_rv_s, zx_rv_n, true_and, and_true, true_or, or_true, zb_0, zb_1, zq_lcl, zq_lcg, zq_lce, eq_self, ite_true, ite_false, zk_86, zw_86, zq_86_0, hwh, zB_0, reduceCtorEq, g, nI_ltI, z5, n0]
                · have g := eq_false (fun w => c48 (t48.mp w))
                  simp (disch := omega) only [↓zs_18_159, ↓zs_18_160, ↓zs_18_161, ↓zs_18_164, ↓zs_18_167, ↓zs_18_169, ↓zs_18_171, ↓zs_18_174, ↓zs_18_175, ↓zs_18_178, ↓zs_18_181, ↓zs_18_182, ↓zs_18_183, ↓zs_18_186, ↓zs_18_187, ↓zs_18_188, ↓zs_18_191, ↓zs_18_192, ↓zs_18_193, ↓zs_18_196, ↓zs_18_197, zx_pu_s, zx_pu_n, zx_rv_s, zx_rv_n, true_and, and_true, true_or, or_true, zb_0, zb_1, zq_lcl, zq_lcg, zq_lce, eq_self, ite_true, ite_false, zk_86, zw_86, zq_86_0, hwh, zB_0, reduceCtorEq, g]
            rw [hfall, to149, to187]
            simp (disch := omega) only [↓zs_18_198, ↓zs_18_199, ↓zs_18_202, ↓zs_18_203, ↓zs_18_204, zx_pu_s, zx_pu_n, zx_rv_s, zx_rv_n, true_and, and_true, true_or, or_true, zb_0, zb_1, zq_lcl, zq_lcg, zq_lce, eq_self, ite_true, ite_false, zk_84, zw_84, zq_84_0, zk_86, zw_86, zq_86_0, hmis]
end LB
