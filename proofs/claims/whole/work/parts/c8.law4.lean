/-! the class's law reader: one step -/
theorem zl_cq_le : ∀ p : List Nat, zl_cq 45 p + zl_cq 47 p ≤ zl_cn p := by
  intro p
  induction p with
  | nil => exact Nat.le_refl _
  | cons k r ih =>
    show ((if k = 45 then 1 else 0) + zl_cq 45 r) + ((if k = 47 then 1 else 0) + zl_cq 47 r) ≤ (if k = 45 ∨ k = 47 ∨ k = 15 then 1 else 0) + zl_cn r
    by_cases c1 : k = 45
    · rw [if_pos c1, if_neg (by omega), if_pos (.inl c1)]; omega
    · by_cases c2 : k = 47
      · rw [if_neg c1, if_pos c2, if_pos (.inr (.inl c2))]; omega
      · rw [if_neg c1, if_neg c2]; omega
/-- no open sum holds an open truth -/
def zl_br : List Nat → Prop
  | [] => True
  | k :: r => (k = 47 → zl_cq 45 r = 0) ∧ zl_br r
/-- what a state keeps to, with i steps to come -/
def zl_iv (C : zl_C) (i : Nat) : Prop := C.1 < 4 ∧ zl_vd C.2.1 ∧ zl_ch C.2.1 ∧ zl_cn C.2.1 = C.2.2.1 ∧ C.2.2.1 ≤ 6 ∧ zl_cq 45 C.2.1 = C.2.2.2.1 ∧ zl_cq 47 C.2.1 = C.2.2.2.2.1 ∧ (C.1 = 0 → zl_tb C.2.1 ≤ 3) ∧ C.2.1.length + C.2.2.2.2.2.2.length + i ≤ 900 ∧ (C.1 = 0 ∨ C.1 = 3 → C.2.2.2.1 = 0) ∧ zl_br C.2.1
def zLrC (I : zx_MI) (C : zl_C) : Prop := zLr I C.2.1 C.2.2.1 C.2.2.2.1 C.2.2.2.2.1 C.2.2.2.2.2.1 C.2.2.2.2.2.2
theorem zLr_o {I : zx_MI} {p : List Nat} {ns os ot : Nat} {cp : Bool} {c : List Nat} (z : zLr I p ns os ot cp c) (ns' os' ot' : Nat) : zLr (zx_u (zx_u (zx_u I 86 2 (nI ns')) 86 3 (nI os')) 86 4 (nI ot')) p ns' os' ot' cp c := by
  obtain ⟨z1, z2, z3, z4, z5, z6, z7, z8⟩ := z
  refine ⟨?_, zPl_f p (fun j _ => ?_) z2, ?_, ?_, zu_s _ _ _ _, ?_, ?_, fun i hi => ?_⟩
  · rw [zu_n (by omega), zu_n (by omega), zu_n (by omega)]; exact z1
  · rw [zu_n (by omega), zu_n (by omega), zu_n (by omega)]
  · rw [zu_n (by omega), zu_n (by omega), zu_s]
  · rw [zu_n (by omega), zu_s]
  · rw [zu_n (by omega), zu_n (by omega), zu_n (by omega)]; exact z6
  · rw [zu_n (by omega), zu_n (by omega), zu_n (by omega)]; exact z7
  · rw [zu_n (by omega), zu_n (by omega), zu_n (by omega)]; exact z8 i hi
section LS
variable {Lh : Nat} {I : zx_MI} {J : zx_MJ}
theorem sc_operand {st k v s i : Nat} {p : List Nat} {ns os ot : Nat} {cp : Bool} {c : List Nat} (hst : st < 2) (iv : zl_iv (st, p, ns, os, ot, cp, c) (i + 1)) (z : zLr I p ns os ot cp c) (hk : k < 52) (kd : zl_kd k = true) (e4 : I 84 4 = zf_tkc k) (e3 : I 84 3 = nI s) (hv : k = 27 → v ≤ 999 ∧ I 84 5 = nI v) : (∃ f, zl_opn st k v p ns os ot cp c = .inl f ∧ f < 5 ∧ ∀ d P, zx_rn (d + 2) 17 [.ref 86, .ref 84, .ref 89, .int (nI st)] (zx_LL Lh) I J P = P (some (.int (-1))) (zx_LL Lh) (zFc9 I f s) J) ∨ ∃ C I2, zl_opn st k v p ns os ot cp c = .inr (.inr C) ∧ zFl I I2 ∧ zLrC I2 C ∧ zl_iv C i ∧ ∀ d P, zx_rn (d + 2) 17 [.ref 86, .ref 84, .ref 89, .int (nI st)] (zx_LL Lh) I J P = P (some (.int (nI C.1))) (zx_LL Lh) I2 J := by
  obtain ⟨-, i2, i3, i4, i5, i6, i7, i8, i9, i10, i11⟩ := iv
  dsimp only at i2 i3 i4 i5 i6 i7 i8 i9 i10 i11
  obtain ⟨⟨t27, t45, t47, t15, -⟩, -, ⟨tw, tw2⟩, -⟩ := zf_tkc_eq ⟨k, hk⟩ kd
  dsimp only at t27 t45 t47 t15 tw tw2
  have hadd := fun d x P => sc_add (d := d) (Lh := Lh) (I := I) (J := J) (P := P) (l := c.length) (x := x) (by omega) z.2.2.2.2.2.2.1
  have hl : ∀ y, (c ++ [y]).length = c.length + 1 := fun y => by rw [List.length_append]; rfl
  unfold zl_opn
  by_cases c27 : k = 27
  · right
    rw [if_pos c27]
    obtain ⟨v9, e5⟩ := hv c27
    have tt := eq_true (t27.mpr c27)
    have ev : nI v = zf_tc v := by unfold zf_tc; rw [if_pos (by omega)]
    refine ⟨_, _, rfl, ?_, zLr_add z ev, ⟨show 2 < 4 by decide, i2, i3, i4, i5, i6, i7, fun (e : 2 = 0) => absurd e (by decide), by dsimp only; rw [hl]; omega, fun (e : 2 = 0 ∨ 2 = 3) => absurd e (by decide), i11⟩, fun d P => ?_⟩
    · exact fun a j n => by rw [zu_n (by omega), zu_n (by omega)]
    · rw [ze_17]
      simp (disch := omega) only [↓zs_17_0, ↓zs_17_1, ↓zs_17_4, ↓zs_17_6, ↓zs_17_8, ↓zs_17_9, ↓zs_17_12, ↓zs_17_13, ↓zs_17_14, ↓zs_17_17, ↓zs_17_20, ↓zs_17_21, zx_pu_s, zx_pu_n, zx_rv_s, zx_rv_n, true_and, and_true, true_or, or_true, zb_0, zb_1, zq_lcl, zq_lcg, zq_lce, eq_self, ite_true, ite_false, zk_89, zw_89, zq_89_0, zq_89_1, zq_89_2, zk_84, zw_84, zq_84_0, zk_86, zw_86, zq_86_0, e4, tt, e5, hadd]
  · rw [if_neg c27]
    have f27 := eq_false (fun e => c27 (t27.mp e))
    by_cases cw : 16 ≤ k ∧ k ≤ 23
    · right
      rw [if_pos cw]
      have q1 : ¬ zf_tkc k < nI 216 := fun e => by have := tw.mp e; omega
      have q2 := tw2 q1
      have ew := zl_wd_n ⟨k, by omega⟩ cw.1
      dsimp only at ew
      refine ⟨_, _, rfl, ?_, zLr_add z ew, ⟨show 2 < 4 by decide, i2, i3, i4, i5, i6, i7, fun (e : 2 = 0) => absurd e (by decide), by dsimp only; rw [hl]; omega, fun (e : 2 = 0 ∨ 2 = 3) => absurd e (by decide), i11⟩, fun d P => ?_⟩
      · exact fun a j n => by rw [zu_n (by omega), zu_n (by omega)]
      · rw [ze_17]
        simp (disch := omega) only [↓zs_17_0, ↓zs_17_1, ↓zs_17_4, ↓zs_17_6, ↓zs_17_8, ↓zs_17_9, ↓zs_17_12, ↓zs_17_13, ↓zs_17_14, ↓zs_17_17, ↓zs_17_20, ↓zs_17_21, ↓zs_17_22, ↓zs_17_24, ↓zs_17_27, ↓zs_17_30, ↓zs_17_32, ↓zs_17_35, ↓zs_17_38, ↓zs_17_39, ↓zs_17_41, ↓zs_17_42, ↓zs_17_45, ↓zs_17_46, zx_pu_s, zx_pu_n, zx_rv_s, zx_rv_n, true_and, and_true, true_or, or_true, zb_0, zb_1, zq_lcl, zq_lcg, zq_lce, eq_self, ite_true, ite_false, zk_89, zw_89, zq_89_0, zq_89_1, zq_89_2, zk_84, zw_84, zq_84_0, zk_86, zw_86, zq_86_0, e4, f27, q1, q2, hadd]
    · rw [if_neg cw]
      -- up to the test of what may open
      have toOpen : ∀ d P, zx_rn (d + 2) 17 [.ref 86, .ref 84, .ref 89, .int (nI st)] (zx_LL Lh) I J P = zx_wp (d + 2) 17 47 [.ref 86, .ref 84, .ref 89, .int (nI st), .int (zf_tkc k), zx_u0] [] (zx_LL Lh) I J P := fun d P => by
        rw [ze_17]
        by_cases q : zf_tkc k < nI 216
        · simp (disch := omega) only [↓zs_17_0, ↓zs_17_1, ↓zs_17_4, ↓zs_17_6, ↓zs_17_8, ↓zs_17_9, ↓zs_17_12, ↓zs_17_13, ↓zs_17_14, ↓zs_17_17, ↓zs_17_20, ↓zs_17_21, ↓zs_17_22, ↓zs_17_24, ↓zs_17_27, ↓zs_17_30, ↓zs_17_32, ↓zs_17_35, ↓zs_17_38, ↓zs_17_39, ↓zs_17_41, ↓zs_17_42, ↓zs_17_45, ↓zs_17_46, zx_pu_s, zx_pu_n, zx_rv_s, zx_rv_n, true_and, and_true, true_or, or_true, zb_0, zb_1, zq_lcl, zq_lcg, zq_lce, eq_self, ite_true, ite_false, zk_84, zw_84, zq_84_0, zk_86, zw_86, zq_86_0, e4, f27, q]
        · have q3 : ¬ (16 ≤ k ∧ k ≤ 23) := cw
          exact absurd (tw.mpr (by omega)) q
      have hmis := fun d P => sc_misplaced (Lh := Lh) (J := J) (d := d) (P := P) hk kd e4 e3
      by_cases co : k = 45 ∨ (st = 0 ∧ (k = 47 ∨ k = 15))
      · rw [if_pos co]
        have opens : ∀ d P, zx_wp (d + 2) 17 47 [.ref 86, .ref 84, .ref 89, .int (nI st), .int (zf_tkc k), zx_u0] [] (zx_LL Lh) I J P = zx_wp (d + 2) 17 92 [.ref 86, .ref 84, .ref 89, .int (nI st), .int (zf_tkc k), .int (nI 1)] [] (zx_LL Lh) I J P := fun d P => by
          have n1 : (nI 1 = nI 0) = False := eq_false (by decide)
          rcases co with e | ⟨e0, e | e⟩
          · have tt := eq_true (t45.mpr e)
            simp (disch := omega) only [↓zs_17_47, ↓zs_17_49, ↓zs_17_51, ↓zs_17_54, ↓zs_17_55, ↓zs_17_58, ↓zs_17_60, ↓zs_17_62, ↓zs_17_65, ↓zs_17_67, ↓zs_17_70, ↓zs_17_73, ↓zs_17_74, ↓zs_17_77, ↓zs_17_78, ↓zs_17_80, ↓zs_17_82, ↓zs_17_85, ↓zs_17_86, ↓zs_17_89, ↓zs_17_90, ↓zs_17_91, zx_pu_s, zx_pu_n, zx_rv_s, zx_rv_n, true_and, and_true, true_or, or_true, zb_0, zb_1, zq_lcl, zq_lcg, zq_lce, eq_self, ite_true, ite_false, tt, n1]
          · have f45 := eq_false (fun w => (show k ≠ 45 by omega) (t45.mp w))
            have tt := eq_true (t47.mpr e)
            rw [e0]
            simp (disch := omega) only [↓zs_17_47, ↓zs_17_49, ↓zs_17_51, ↓zs_17_54, ↓zs_17_55, ↓zs_17_58, ↓zs_17_60, ↓zs_17_62, ↓zs_17_65, ↓zs_17_67, ↓zs_17_70, ↓zs_17_73, ↓zs_17_74, ↓zs_17_77, ↓zs_17_78, ↓zs_17_80, ↓zs_17_82, ↓zs_17_85, ↓zs_17_86, ↓zs_17_89, ↓zs_17_90, ↓zs_17_91, zx_pu_s, zx_pu_n, zx_rv_s, zx_rv_n, true_and, and_true, true_or, or_true, zb_0, zb_1, zq_lcl, zq_lcg, zq_lce, eq_self, ite_true, ite_false, f45, tt, n1]
          · have f45 := eq_false (fun w => (show k ≠ 45 by omega) (t45.mp w))
            have f47 := eq_false (fun w => (show k ≠ 47 by omega) (t47.mp w))
            have tt := eq_true (t15.mpr e)
            rw [e0]
            simp (disch := omega) only [↓zs_17_47, ↓zs_17_49, ↓zs_17_51, ↓zs_17_54, ↓zs_17_55, ↓zs_17_58, ↓zs_17_60, ↓zs_17_62, ↓zs_17_65, ↓zs_17_67, ↓zs_17_70, ↓zs_17_73, ↓zs_17_74, ↓zs_17_77, ↓zs_17_78, ↓zs_17_80, ↓zs_17_82, ↓zs_17_85, ↓zs_17_86, ↓zs_17_89, ↓zs_17_90, ↓zs_17_91, zx_pu_s, zx_pu_n, zx_rv_s, zx_rv_n, true_and, and_true, true_or, or_true, zb_0, zb_1, zq_lcl, zq_lcg, zq_lce, eq_self, ite_true, ite_false, f45, f47, tt, n1]
        by_cases c6 : 6 ≤ ns
        · left
          rw [if_pos c6]
          have c6' : ¬ ns < 6 := by omega
          have hf := fun d P => sc_flt (Lh := Lh) (J := J) (d := d) (f := 4) (P := P) e3
          refine ⟨4, rfl, by decide, fun d P => ?_⟩
          rw [toOpen, opens]
          simp (disch := omega) only [↓zs_17_92, ↓zs_17_93, ↓zs_17_96, ↓zs_17_98, ↓zs_17_101, ↓zs_17_102, ↓zs_17_103, ↓zs_17_106, ↓zs_17_107, ↓zs_17_108, zx_pu_s, zx_pu_n, zx_rv_s, zx_rv_n, true_and, and_true, true_or, or_true, zb_0, zb_1, zq_lcl, zq_lcg, zq_lce, eq_self, ite_true, ite_false, zk_84, zw_84, zq_84_0, zk_86, zw_86, zq_86_0, nI_ltI, z.2.2.1, c6', hf]
        · right
          rw [if_neg c6]
          have c6' : ns < 6 := by omega
          have cql := zl_cq_le p
          have len := zl_len p i3
          have tb6 := zl_tb_le p
          have zo := zLr_o z (ns + 1) (os + if k = 45 then 1 else 0) (ot + if k = 47 then 1 else 0)
          obtain ⟨I3, f3, z3, h3⟩ := sc_shelve (Lh := Lh) (J := J) (k := k) zo (by omega)
          have hks : k ∈ zl_ks := by
            rcases co with e | ⟨-, e | e⟩ <;> subst e <;> decide
          have hch : zl_ch (k :: p) := by
            rcases co with e | ⟨e0, e | e⟩
            · exact ⟨.inl e, i3⟩
            · exact ⟨.inr (.inl e), i3⟩
            · exact ⟨.inr (.inr (.inr ⟨e, i8 e0⟩)), i3⟩
          have hcn : zl_cn (k :: p) = ns + 1 := by
            show (if k = 45 ∨ k = 47 ∨ k = 15 then 1 else 0) + zl_cn p = ns + 1
            rw [if_pos (by omega)]; omega
          have h45 : zl_cq 45 (k :: p) = os + if k = 45 then 1 else 0 := by
            show (if k = 45 then 1 else 0) + zl_cq 45 p = _
            rw [i6]; omega
          have h47 : zl_cq 47 (k :: p) = ot + if k = 47 then 1 else 0 := by
            show (if k = 47 then 1 else 0) + zl_cq 47 p = _
            rw [i7]; omega
          have htb : zl_tb (k :: p) ≤ 3 := by
            show zl_bd k ≤ 3
            rcases co with e | ⟨-, e | e⟩ <;> subst e <;> decide
          refine ⟨_, I3, rfl, zFl_t (fun a j n => by rw [zu_n (by omega), zu_n (by omega), zu_n (by omega)]) f3, z3, ⟨by dsimp only; split <;> decide, fun q hq => (List.mem_cons.mp hq).elim (fun e => e ▸ hks) (i2 q), hch, hcn, by dsimp only; omega, h45, h47, fun _ => htb, by show p.length + 1 + c.length + i ≤ 900; omega, ?_, ⟨?_, i11⟩⟩, fun d P => ?_⟩
          · intro e
            dsimp only at e ⊢
            rcases co with e0 | ⟨e0, -⟩
            · rw [if_pos e0] at e; omega
            · have := i10 (.inl e0)
              by_cases q : k = 45
              · rw [if_pos q] at e; omega
              · rw [if_neg q]; omega
          · intro e
            rcases co with e0 | ⟨e0, -⟩
            · omega
            · rw [i6]; exact i10 (.inl e0)
          have a1 : ∀ y, zx_u I 86 2 y 86 3 = nI os := fun y => (zu_n (by omega)).trans z.2.2.2.1
          have a2 : ∀ y x, zx_u (zx_u I 86 2 y) 86 3 x 86 4 = nI ot := fun y x => by rw [zu_n (by omega), zu_n (by omega)]; exact z.2.2.2.2.1
          rw [toOpen, opens]
          rcases co with e | ⟨e0, e | e⟩
          · have t1 := eq_true (t45.mpr e)
            have t2 := eq_false (fun w => (show k ≠ 47 by omega) (t47.mp w))
            have d1 : (if k = 45 then 1 else 0) = 1 := if_pos e
            have d2 : (if k = 47 then 1 else 0) = 0 := if_neg (by omega)
            rw [d1, d2] at h3
            rw [d1]
            simp (disch := omega) only [↓zs_17_92, ↓zs_17_93, ↓zs_17_96, ↓zs_17_98, ↓zs_17_101, ↓zs_17_102, ↓zs_17_103, ↓zs_17_106, ↓zs_17_107, ↓zs_17_108, ↓zs_17_109, ↓zs_17_110, ↓zs_17_111, ↓zs_17_114, ↓zs_17_115, ↓zs_17_116, ↓zs_17_119, ↓zs_17_120, ↓zs_17_121, ↓zs_17_124, ↓zs_17_126, ↓zs_17_128, ↓zs_17_131, ↓zs_17_132, ↓zs_17_135, ↓zs_17_136, zx_pu_s, zx_pu_n, zx_rv_s, zx_rv_n, true_and, and_true, true_or, or_true, zb_0, zb_1, zq_lcl, zq_lcg, zq_lce, eq_self, ite_true, ite_false, zk_84, zw_84, zq_84_0, zk_86, zw_86, zq_86_0, nI_ltI, nI_add, z.2.2.1, c6', t1, a1]
            simp (disch := omega) only [↓zs_17_137, ↓zs_17_140, ↓zs_17_141, ↓zs_17_142, ↓zs_17_145, ↓zs_17_147, ↓zs_17_149, ↓zs_17_152, ↓zs_17_153, ↓zs_17_156, ↓zs_17_157, ↓zs_17_158, ↓zs_17_161, ↓zs_17_162, ↓zs_17_164, ↓zs_17_167, ↓zs_17_169, ↓zs_17_171, ↓zs_17_174, ↓zs_17_175, ↓zs_17_178, ↓zs_17_179, zx_pu_s, zx_pu_n, zx_rv_s, zx_rv_n, true_and, and_true, true_or, or_true, zb_0, zb_1, zq_lcl, zq_lcg, zq_lce, eq_self, ite_true, ite_false, zk_84, zw_84, zq_84_0, zk_86, zw_86, zq_86_0, nI_add, t1, t2, a2, h3]
          · have t1 := eq_false (fun w => (show k ≠ 45 by omega) (t45.mp w))
            have t2 := eq_true (t47.mpr e)
            have d1 : (if k = 45 then 1 else 0) = 0 := if_neg (by omega)
            have d2 : (if k = 47 then 1 else 0) = 1 := if_pos e
            rw [d1, d2] at h3
            rw [d1]
            simp (disch := omega) only [↓zs_17_92, ↓zs_17_93, ↓zs_17_96, ↓zs_17_98, ↓zs_17_101, ↓zs_17_102, ↓zs_17_103, ↓zs_17_106, ↓zs_17_107, ↓zs_17_108, ↓zs_17_109, ↓zs_17_110, ↓zs_17_111, ↓zs_17_114, ↓zs_17_115, ↓zs_17_116, ↓zs_17_119, ↓zs_17_120, ↓zs_17_121, ↓zs_17_124, ↓zs_17_126, ↓zs_17_128, ↓zs_17_131, ↓zs_17_132, ↓zs_17_135, ↓zs_17_136, zx_pu_s, zx_pu_n, zx_rv_s, zx_rv_n, true_and, and_true, true_or, or_true, zb_0, zb_1, zq_lcl, zq_lcg, zq_lce, eq_self, ite_true, ite_false, zk_84, zw_84, zq_84_0, zk_86, zw_86, zq_86_0, nI_ltI, nI_add, z.2.2.1, c6', t1, a1]
            simp (disch := omega) only [↓zs_17_137, ↓zs_17_140, ↓zs_17_141, ↓zs_17_142, ↓zs_17_145, ↓zs_17_147, ↓zs_17_149, ↓zs_17_152, ↓zs_17_153, ↓zs_17_156, ↓zs_17_157, ↓zs_17_158, ↓zs_17_161, ↓zs_17_162, ↓zs_17_164, ↓zs_17_167, ↓zs_17_169, ↓zs_17_171, ↓zs_17_174, ↓zs_17_175, ↓zs_17_178, ↓zs_17_179, zx_pu_s, zx_pu_n, zx_rv_s, zx_rv_n, true_and, and_true, true_or, or_true, zb_0, zb_1, zq_lcl, zq_lcg, zq_lce, eq_self, ite_true, ite_false, zk_84, zw_84, zq_84_0, zk_86, zw_86, zq_86_0, nI_add, t1, t2, a2, h3]
          · have t1 := eq_false (fun w => (show k ≠ 45 by omega) (t45.mp w))
            have t2 := eq_false (fun w => (show k ≠ 47 by omega) (t47.mp w))
            have d1 : (if k = 45 then 1 else 0) = 0 := if_neg (by omega)
            have d2 : (if k = 47 then 1 else 0) = 0 := if_neg (by omega)
            rw [d1, d2] at h3
            rw [d1]
            simp (disch := omega) only [↓zs_17_92, ↓zs_17_93, ↓zs_17_96, ↓zs_17_98, ↓zs_17_101, ↓zs_17_102, ↓zs_17_103, ↓zs_17_106, ↓zs_17_107, ↓zs_17_108, ↓zs_17_109, ↓zs_17_110, ↓zs_17_111, ↓zs_17_114, ↓zs_17_115, ↓zs_17_116, ↓zs_17_119, ↓zs_17_120, ↓zs_17_121, ↓zs_17_124, ↓zs_17_126, ↓zs_17_128, ↓zs_17_131, ↓zs_17_132, ↓zs_17_135, ↓zs_17_136, zx_pu_s, zx_pu_n, zx_rv_s, zx_rv_n, true_and, and_true, true_or, or_true, zb_0, zb_1, zq_lcl, zq_lcg, zq_lce, eq_self, ite_true, ite_false, zk_84, zw_84, zq_84_0, zk_86, zw_86, zq_86_0, nI_ltI, nI_add, z.2.2.1, c6', t1, a1]
            simp (disch := omega) only [↓zs_17_137, ↓zs_17_140, ↓zs_17_141, ↓zs_17_142, ↓zs_17_145, ↓zs_17_147, ↓zs_17_149, ↓zs_17_152, ↓zs_17_153, ↓zs_17_156, ↓zs_17_157, ↓zs_17_158, ↓zs_17_161, ↓zs_17_162, ↓zs_17_164, ↓zs_17_167, ↓zs_17_169, ↓zs_17_171, ↓zs_17_174, ↓zs_17_175, ↓zs_17_178, ↓zs_17_179, zx_pu_s, zx_pu_n, zx_rv_s, zx_rv_n, true_and, and_true, true_or, or_true, zb_0, zb_1, zq_lcl, zq_lcg, zq_lce, eq_self, ite_true, ite_false, zk_84, zw_84, zq_84_0, zk_86, zw_86, zq_86_0, nI_add, t1, t2, a2, h3]
      · left
        rw [if_neg co]
        have z10 : (nI 1 = nI 0) = False := eq_false (by decide)
        have f45 := eq_false (fun w => (show k ≠ 45 by omega) (t45.mp w))
        refine ⟨_, rfl, by unfold zl_mp; split <;> decide, fun d P => ?_⟩
        rw [toOpen]
        rcases (show st = 0 ∨ st = 1 by omega) with e | e
        · have f47 := eq_false (fun w => (show k ≠ 47 by omega) (t47.mp w))
          have f15 := eq_false (fun w => (show k ≠ 15 by omega) (t15.mp w))
          subst e
          simp (disch := omega) only [↓zs_17_47, ↓zs_17_49, ↓zs_17_51, ↓zs_17_54, ↓zs_17_55, ↓zs_17_58, ↓zs_17_60, ↓zs_17_62, ↓zs_17_65, ↓zs_17_67, ↓zs_17_70, ↓zs_17_73, ↓zs_17_74, ↓zs_17_77, ↓zs_17_78, ↓zs_17_80, ↓zs_17_82, ↓zs_17_85, ↓zs_17_86, ↓zs_17_89, ↓zs_17_90, ↓zs_17_91, zx_pu_s, zx_pu_n, zx_rv_s, zx_rv_n, true_and, and_true, true_or, or_true, zb_0, zb_1, zq_lcl, zq_lcg, zq_lce, eq_self, ite_true, ite_false, zk_84, zw_84, zq_84_0, zk_86, zw_86, zq_86_0, f45, f47, f15, hmis]
        · subst e
          simp (disch := omega) only [↓zs_17_47, ↓zs_17_49, ↓zs_17_51, ↓zs_17_54, ↓zs_17_55, ↓zs_17_58, ↓zs_17_60, ↓zs_17_62, ↓zs_17_65, ↓zs_17_67, ↓zs_17_70, ↓zs_17_73, ↓zs_17_74, ↓zs_17_77, ↓zs_17_78, ↓zs_17_80, ↓zs_17_82, ↓zs_17_85, ↓zs_17_86, ↓zs_17_89, ↓zs_17_90, ↓zs_17_91, zx_pu_s, zx_pu_n, zx_rv_s, zx_rv_n, true_and, and_true, true_or, or_true, zb_0, zb_1, zq_lcl, zq_lcg, zq_lce, eq_self, ite_true, ite_false, zk_84, zw_84, zq_84_0, zk_86, zw_86, zq_86_0, f45, z10, hmis]
end LS
