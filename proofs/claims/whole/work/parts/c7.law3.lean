/-! the class's law reader: join, close, what may come -/
theorem zFl_r (I : zx_MI) : zFl I I := fun _ _ _ => rfl
section LJ
variable {Lh : Nat} {J : zx_MJ} {os ot : Nat} {cp : Bool}
theorem sc_releaseM {I : zx_MI} {least : Nat} {p : List Nat} {ns : Nat} {c : List Nat} (hl : 1 ≤ least) (hl6 : least ≤ 6) (z : zLr I p ns os ot cp c) (hv : zl_vd p) (hcn : zl_cn p ≤ ns) (hns : ns ≤ 60) (h64 : p.length ≤ 64) (h900 : p.length + c.length ≤ 900) : ∃ I2, zFl I I2 ∧ zLr I2 (zl_rl least p ns c).1 (zl_rl least p ns c).2.1 os ot cp (zl_rl least p ns c).2.2 ∧ ∀ d P, zx_rn (d + 1) 22 [.ref 86, .ref 89, .int (nI least)] (zx_LL Lh) I J P = P none (zx_LL Lh) I2 J := by
  obtain ⟨I2, f2, z2, h2⟩ := sc_release (Lh := Lh) (J := J) hl hl6 p ns c I z hv hcn hns h64 h900
  refine ⟨I2, f2, z2, fun d P => ?_⟩
  rw [← h2 d P zx_u0, ze_22]
  simp (disch := omega) only [↓zs_22_0, ↓zs_22_1, ↓zs_22_4, zx_pu_s, zx_pu_n, zx_rv_s, zx_rv_n, true_and, and_true, true_or, or_true, zb_0, zb_1, zq_lcl, zq_lcg, zq_lce, eq_self, ite_true, ite_false, zk_86, zw_86, zq_86_0, z.1]
theorem sc_shelve {I : zx_MI} {k : Nat} {p : List Nat} {ns : Nat} {c : List Nat} (z : zLr I p ns os ot cp c) (h : p.length < 64) : ∃ I2, zFl I I2 ∧ zLr I2 (k :: p) ns os ot cp c ∧ ∀ d P, zx_rn d 19 [.ref 86, .int (zf_tkc k)] (zx_LL Lh) I J P = P none (zx_LL Lh) I2 J := by
  have e64 : Int32.ofNat 64 = nI 64 := rfl
  obtain ⟨z1, z2, z3, z4, z5, z6, z7, z8⟩ := z
  have e2 : ∀ y, zx_u I 87 p.length y 86 1 = nI p.length := fun y => (zu_n (by omega)).trans z1
  refine ⟨zx_u (zx_u I 87 p.length (zf_tkc k)) 86 1 (nI (p.length + 1)), fun a j n => by rw [zu_n (by omega), zu_n (by omega)], ⟨?_, ⟨?_, zPl_f p (fun j hj => ?_) z2⟩, ?_, ?_, ?_, ?_, ?_, fun i hi => ?_⟩, fun d P => ?_⟩
  · rw [zu_s]; rfl
  · rw [zu_n (by omega), zu_s]
  · rw [zu_n (by omega), zu_n (by omega)]
  · rw [zu_n (by omega), zu_n (by omega)]; exact z3
  · rw [zu_n (by omega), zu_n (by omega)]; exact z4
  · rw [zu_n (by omega), zu_n (by omega)]; exact z5
  · rw [zu_n (by omega), zu_n (by omega)]; exact z6
  · rw [zu_n (by omega), zu_n (by omega)]; exact z7
  · rw [zu_n (by omega), zu_n (by omega)]; exact z8 i hi
  · rw [ze_19]
    simp (disch := omega) only [↓zs_19_0, ↓zs_19_1, ↓zs_19_4, ↓zs_19_7, ↓zs_19_8, ↓zs_19_11, ↓zs_19_12, ↓zs_19_15, ↓zs_19_16, ↓zs_19_19, ↓zs_19_20, ↓zs_19_23, ↓zs_19_24, ↓zs_19_27, ↓zs_19_28, ↓zs_19_29, ↓zs_19_30, ↓zs_19_31, ↓zs_19_34, ↓zs_19_35, ↓zs_19_36, ↓zs_19_39, zx_pu_s, zx_pu_n, zx_rv_s, zx_rv_n, true_and, and_true, true_or, or_true, zb_0, zb_1, zq_lcl, zq_lcg, zq_lce, eq_self, ite_true, ite_false, zk_86, zw_86, zk_87, zw_87, zq_86_0, nI_ltI, zn_lt0, z1, e64, h, zin_nI, nI_clamp, e2, nI_add, zn_040]
theorem zl_vd_rl {b : Nat} {p : List Nat} {ns : Nat} {c : List Nat} (hv : zl_vd p) (h : ∀ k, k ∈ (zl_rl b p ns c).1 → k ∈ p) : zl_vd (zl_rl b p ns c).1 := fun k hk => hv k (h k hk)
theorem sc_join {I : zx_MI} {k : Nat} {p : List Nat} {ns : Nat} {c : List Nat} (hk : k ∈ zl_ks) (hb : 1 ≤ zl_bd k) (z : zLr I p ns os ot cp c) (hv : zl_vd p) (hch : zl_ch p) (hcn : zl_cn p ≤ ns) (hns : ns ≤ 60) (h64 : p.length < 64) (h900 : p.length + c.length ≤ 900) : ∃ I2, zFl I I2 ∧ zLr I2 (k :: (zl_rl (zl_bd k) p ns c).1) (zl_rl (zl_bd k) p ns c).2.1 os ot cp (zl_rl (zl_bd k) p ns c).2.2 ∧ ∀ d P, zx_rn (d + 2) 20 [.ref 86, .ref 89, .int (zf_tkc k)] (zx_LL Lh) I J P = P none (zx_LL Lh) I2 J := by
  obtain ⟨I2, f2, z2, h2⟩ := sc_releaseM (Lh := Lh) (J := J) hb (zl_bd_le k) z hv hcn hns (by omega) h900
  obtain ⟨-, -, -, l4, -⟩ := zl_rl_p hb p ns c hch hcn
  have ll : (zl_rl (zl_bd k) p ns c).1.length ≤ p.length := by
    have : ∀ (b : Nat) (p : List Nat) (ns : Nat) (c : List Nat), (zl_rl b p ns c).1.length ≤ p.length := by
      intro b p
      induction p with
      | nil => intro ns c; exact Nat.le_refl _
      | cons k r ih =>
        intro ns c
        rw [zl_rl]
        split
        · exact Nat.le_refl _
        · exact Nat.le_succ_of_le (ih _ _)
    exact this _ _ _ _
  obtain ⟨I3, f3, z3, h3⟩ := sc_shelve (Lh := Lh) (J := J) (k := k) z2 (by omega)
  have hbd := fun d L I J P => sc_bond (d := d) (L := L) (I := I) (J := J) (P := P) hk
  refine ⟨I3, zFl_t f2 f3, z3, fun d P => ?_⟩
  rw [ze_20]
  simp (disch := omega) only [↓zs_20_0, ↓zs_20_1, ↓zs_20_2, ↓zs_20_3, ↓zs_20_6, ↓zs_20_9, ↓zs_20_10, ↓zs_20_11, ↓zs_20_14, zx_pu_s, zx_pu_n, zx_rv_s, zx_rv_n, true_and, and_true, true_or, or_true, zb_0, zb_1, zq_lcl, zq_lcg, zq_lce, eq_self, ite_true, ite_false, zk_89, zw_89, zq_89_0, zq_89_1, zq_89_2, zk_86, zw_86, zq_86_0, hbd, h2, h3]
theorem sc_close {I : zx_MI} {q : Nat} {p r : List Nat} {ns : Nat} {c : List Nat} (z : zLr I p ns os ot cp c) (hv : zl_vd p) (hcn : zl_cn p ≤ ns) (hns : ns ≤ 60) (h64 : p.length ≤ 64) (h900 : p.length + c.length ≤ 900) (er : (zl_rl 1 p ns c).1 = q :: r) (hn : 1 ≤ (zl_rl 1 p ns c).2.1) (hn2 : (zl_rl 1 p ns c).2.1 ≤ 60) (hr : r.length ≤ 64) : ∃ I2, zFl I I2 ∧ zLr I2 r ((zl_rl 1 p ns c).2.1 - 1) os ot cp (zl_rl 1 p ns c).2.2 ∧ ∀ d P, zx_rn (d + 2) 21 [.ref 86, .ref 89] (zx_LL Lh) I J P = P none (zx_LL Lh) I2 J := by
  obtain ⟨I2, f2, z2, h2⟩ := sc_releaseM (Lh := Lh) (J := J) (Nat.le_refl 1) (by decide) z hv hcn hns h64 h900
  rw [er] at z2
  obtain ⟨y1, y2, y3, y4, y5, y6, y7, y8⟩ := z2
  have y1' : I2 86 1 = nI (r.length + 1) := y1
  have em : nI (r.length + 1) - nI 1 = nI r.length := by rw [pk_sub (by omega), Nat.add_sub_cancel]
  have mx : (if nI 0 < nI r.length then nI r.length else nI 0) = nI r.length := by
    by_cases q : r.length = 0
    · rw [q]; split <;> rfl
    · rw [if_pos ((nI_ltI (by omega) (by omega)).mpr (by omega))]
  have e3 : ∀ x, zx_u I2 86 1 x 86 2 = nI (zl_rl 1 p ns c).2.1 := fun x => (zu_n (by omega)).trans y3
  have en : nI (zl_rl 1 p ns c).2.1 - nI 1 = nI ((zl_rl 1 p ns c).2.1 - 1) := pk_sub hn
  generalize (zl_rl 1 p ns c).2.1 = m at *
  refine ⟨zx_u (zx_u I2 86 1 (nI r.length)) 86 2 (nI (m - 1)), zFl_t f2 (fun a j n => by rw [zu_n (by omega), zu_n (by omega)]), ⟨?_, zPl_f r (fun j _ => ?_) y2.2, zu_s _ _ _ _, ?_, ?_, ?_, ?_, fun i hi => ?_⟩, fun d P => ?_⟩
  · rw [zu_n (by omega), zu_s]
  · rw [zu_n (by omega), zu_n (by omega)]
  · rw [zu_n (by omega), zu_n (by omega)]; exact y4
  · rw [zu_n (by omega), zu_n (by omega)]; exact y5
  · rw [zu_n (by omega), zu_n (by omega)]; exact y6
  · rw [zu_n (by omega), zu_n (by omega)]; exact y7
  · rw [zu_n (by omega), zu_n (by omega)]; exact y8 i hi
  · rw [ze_21]
    simp (disch := omega) only [↓zs_21_0, ↓zs_21_1, ↓zs_21_2, ↓zs_21_3, ↓zs_21_6, ↓zs_21_7, ↓zs_21_8, ↓zs_21_9, ↓zs_21_12, ↓zs_21_13, zx_pu_s, zx_pu_n, zx_rv_s, zx_rv_n, true_and, and_true, true_or, or_true, zb_0, zb_1, zq_lcl, zq_lcg, zq_lce, eq_self, ite_true, ite_false, zk_89, zw_89, zq_89_0, zq_89_1, zq_89_2, zk_86, zw_86, zq_86_0, h2, y1', em]
    simp (disch := omega) only [↓zs_21_14, ↓zs_21_17, ↓zs_21_20, ↓zs_21_21, ↓zs_21_22, ↓zs_21_25, ↓zs_21_26, ↓zs_21_27, ↓zs_21_30, zx_pu_s, zx_pu_n, zx_rv_s, zx_rv_n, true_and, and_true, true_or, or_true, zb_0, zb_1, zq_lcl, zq_lcg, zq_lce, eq_self, ite_true, ite_false, zk_89, zw_89, zq_89_0, zq_89_1, zq_89_2, zk_86, zw_86, zq_86_0, mx, e3, en]
theorem sc_isWhole {d st : Nat} {I : zx_MI} {P : Option Value → zx_Lay → zx_MI → zx_MJ → Prop} (hst : st < 4) (hos : os ≤ 60) (e4 : I 86 3 = nI os) (e6 : I 86 5 = zB cp) : zx_rn d 16 [.ref 86, .int (nI st)] (zx_LL Lh) I J P = P (some (.int (zB (zl_wh st os cp)))) (zx_LL Lh) I J := by
  rw [ze_16]
  unfold zl_wh
  by_cases c3 : st = 3
  · subst c3
    simp (disch := omega) only [↓zs_16_0, ↓zs_16_1, ↓zs_16_2, ↓zs_16_5, ↓zs_16_6, ↓zs_16_7, ↓zs_16_10, ↓zs_16_11, ↓zs_16_14, ↓zs_16_17, ↓zs_16_18, ↓zs_16_21, ↓zs_16_24, ↓zs_16_25, ↓zs_16_28, ↓zs_16_29, zx_pu_s, zx_pu_n, zx_rv_s, zx_rv_n, true_and, and_true, true_or, or_true, zb_0, zb_1, zq_lcl, zq_lcg, zq_lce, eq_self, ite_true, ite_false]
    rfl
  · have c3' : (nI st = nI 3) = False := zq_ne c3 (by omega) (by omega)
    rw [decide_eq_false c3, Bool.false_or]
    by_cases c2 : st = 2
    · subst c2
      rw [decide_eq_true rfl, Bool.true_and]
      cases cp with
      | false =>
        simp (disch := omega) only [↓zs_16_0, ↓zs_16_1, ↓zs_16_2, ↓zs_16_5, ↓zs_16_6, ↓zs_16_7, ↓zs_16_10, ↓zs_16_11, ↓zs_16_14, ↓zs_16_17, ↓zs_16_18, ↓zs_16_21, ↓zs_16_24, ↓zs_16_25, ↓zs_16_28, ↓zs_16_29, zx_pu_s, zx_pu_n, zx_rv_s, zx_rv_n, true_and, and_true, true_or, or_true, zb_0, zb_1, zq_lcl, zq_lcg, zq_lce, eq_self, ite_true, ite_false, zk_86, zw_86, zq_86_0, c3', e6, zB_0]
        rfl
      | true =>
        rw [Bool.true_and]
        by_cases c0 : os = 0
        · subst c0
          simp (disch := omega) only [↓zs_16_0, ↓zs_16_1, ↓zs_16_2, ↓zs_16_5, ↓zs_16_6, ↓zs_16_7, ↓zs_16_10, ↓zs_16_11, ↓zs_16_14, ↓zs_16_17, ↓zs_16_18, ↓zs_16_21, ↓zs_16_24, ↓zs_16_25, ↓zs_16_28, ↓zs_16_29, zx_pu_s, zx_pu_n, zx_rv_s, zx_rv_n, true_and, and_true, true_or, or_true, zb_0, zb_1, zq_lcl, zq_lcg, zq_lce, eq_self, ite_true, ite_false, zk_86, zw_86, zq_86_0, c3', e6, e4, zB_0, reduceCtorEq]
          rfl
        · have c0' : (nI os = nI 0) = False := zq_ne c0 (by omega) (by omega)
          rw [decide_eq_false c0]
          simp (disch := omega) only [↓zs_16_0, ↓zs_16_1, ↓zs_16_2, ↓zs_16_5, ↓zs_16_6, ↓zs_16_7, ↓zs_16_10, ↓zs_16_11, ↓zs_16_14, ↓zs_16_17, ↓zs_16_18, ↓zs_16_21, ↓zs_16_24, ↓zs_16_25, ↓zs_16_28, ↓zs_16_29, zx_pu_s, zx_pu_n, zx_rv_s, zx_rv_n, true_and, and_true, true_or, or_true, zb_0, zb_1, zq_lcl, zq_lcg, zq_lce, eq_self, ite_true, ite_false, zk_86, zw_86, zq_86_0, c3', e6, e4, zB_0, reduceCtorEq, c0']
          rfl
    · have c2' : (nI st = nI 2) = False := zq_ne c2 (by omega) (by omega)
      rw [decide_eq_false c2, Bool.false_and]
      simp (disch := omega) only [↓zs_16_0, ↓zs_16_1, ↓zs_16_2, ↓zs_16_5, ↓zs_16_6, ↓zs_16_7, ↓zs_16_10, ↓zs_16_11, ↓zs_16_14, ↓zs_16_17, ↓zs_16_18, ↓zs_16_21, ↓zs_16_24, ↓zs_16_25, ↓zs_16_28, ↓zs_16_29, zx_pu_s, zx_pu_n, zx_rv_s, zx_rv_n, true_and, and_true, true_or, or_true, zb_0, zb_1, zq_lcl, zq_lcg, zq_lce, eq_self, ite_true, ite_false, c3', c2']
      rfl
/-- a fault f at place s as the class keeps it -/
def zFc9 (I : zx_MI) (f s : Nat) : zx_MI := zx_u (zx_u I 84 6 (nI f)) 84 7 (nI s)
theorem sc_flt {d f s : Nat} {I : zx_MI} {P : Option Value → zx_Lay → zx_MI → zx_MJ → Prop} (e3 : I 84 3 = nI s) : zx_rn d 82 [.ref 84, .int (nI f)] (zx_LL Lh) I J P = P (some (.int (nI 0))) (zx_LL Lh) (zFc9 I f s) J := by
  have e : ∀ y, zx_u I 84 6 y 84 3 = nI s := fun y => (zu_n (by omega)).trans e3
  rw [ze_82]
  simp (disch := omega) only [↓zs_82_0, ↓zs_82_1, ↓zs_82_2, ↓zs_82_5, ↓zs_82_6, ↓zs_82_7, ↓zs_82_10, ↓zs_82_13, ↓zs_82_14, zx_pu_s, zx_pu_n, zx_rv_s, zx_rv_n, true_and, and_true, true_or, or_true, zb_0, zb_1, zq_lcl, zq_lcg, zq_lce, eq_self, ite_true, ite_false, zk_84, zw_84, zq_84_0, e]
  rfl
theorem sc_misplaced {d k s : Nat} {I : zx_MI} {P : Option Value → zx_Lay → zx_MI → zx_MJ → Prop} (hk : k < 52) (kd : zl_kd k = true) (e4 : I 84 4 = zf_tkc k) (e3 : I 84 3 = nI s) : zx_rn (d + 1) 83 [.ref 84] (zx_LL Lh) I J P = P (some (.int (nI 0))) (zx_LL Lh) (zFc9 I (zl_mp k) s) J := by
  have t := (zf_tkc_eq ⟨k, hk⟩ kd).2.1.2.2.2.2.2.2.2
  dsimp only at t
  have hf := fun d f P => sc_flt (Lh := Lh) (J := J) (d := d) (f := f) (P := P) e3
  rw [ze_83]
  unfold zl_mp
  by_cases c : k = 29
  · rw [if_pos c]
    have t' : (zf_tkc k = nI 1) = True := eq_true (t.mpr c)
    simp (disch := omega) only [↓zs_83_0, ↓zs_83_1, ↓zs_83_2, ↓zs_83_5, ↓zs_83_6, ↓zs_83_9, ↓zs_83_10, ↓zs_83_13, ↓zs_83_14, ↓zs_83_17, zx_pu_s, zx_pu_n, zx_rv_s, zx_rv_n, true_and, and_true, true_or, or_true, zb_0, zb_1, zq_lcl, zq_lcg, zq_lce, eq_self, ite_true, ite_false, zk_84, zw_84, zq_84_0, e4, t', hf]
  · rw [if_neg c]
    have t' : (zf_tkc k = nI 1) = False := eq_false (fun e => c (t.mp e))
    simp (disch := omega) only [↓zs_83_0, ↓zs_83_1, ↓zs_83_2, ↓zs_83_5, ↓zs_83_6, ↓zs_83_9, ↓zs_83_10, ↓zs_83_13, ↓zs_83_14, ↓zs_83_17, zx_pu_s, zx_pu_n, zx_rv_s, zx_rv_n, true_and, and_true, true_or, or_true, zb_0, zb_1, zq_lcl, zq_lcg, zq_lce, eq_self, ite_true, ite_false, zk_84, zw_84, zq_84_0, e4, t', hf]
end LJ
