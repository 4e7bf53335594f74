/-! the model's reader: small steps -/
def zl_tk2 (n : Nat) (T : Nat × Nat × Nat × Nat) : Prop := zl_tok n T ∧ T.1 ≤ T.2.1 ∧ (T.2.2.1 = 28 ↔ n ≤ T.1) ∧ (T.2.2.1 ≠ 28 → T.1 < T.2.1)
theorem zl_tk2_nx (b : Nat → Nat) {n e : Nat} (he : e ≤ n) : zl_tk2 n (zf_nx b n e) ∧ e ≤ (zf_nx b n e).1 := by
  obtain ⟨h1, h2, h3, h4, h5, h6, h7⟩ := zf_nx_ok b he
  exact ⟨⟨zl_tok_nx b he, h2, h5, h6⟩, h1⟩
/-- the model's reader stands at a TOKEN, nothing wrong -/
def zMd (I : zx_MI) (b : Nat → Nat) (n : Nat) (T : Nat × Nat × Nat × Nat) : Prop := zTm I b n ∧ zx_SI I ∧ zTt I T ∧ zl_tk2 n T ∧ I 138 11 = nI 0
/-- the law's code -/
def zMc (I : zx_MI) (c : List Nat) : Prop := I 142 385 = nI c.length ∧ ∀ i, i < c.length → I 142 (386 + i) = nI (zl_g c i)
def zBad (I : zx_MI) (f s : Nat) : Prop := 1 ≤ f ∧ f < 5 ∧ I 138 11 = nI f ∧ I 138 12 = nI s
/-- what reading a law may change -/
def zFq (I I2 : zx_MI) : Prop := ∀ a j, ¬ ((a = 142 ∧ 385 ≤ j) ∨ (a = 138 ∧ 6 ≤ j ∧ j ≤ 12 ∧ j ≠ 8)) → I2 a j = I a j
theorem zFq_r (I : zx_MI) : zFq I I := fun _ _ _ => rfl
theorem zFq_t {I I2 I3 : zx_MI} (h : zFq I I2) (k : zFq I2 I3) : zFq I I3 := fun a j n => (k a j n).trans (h a j n)
def zMf (f k : Nat) : Nat := if k = 29 then 1 else f
def zMb (I : zx_MI) (f s : Nat) : zx_MI := zx_u (zx_u I 138 11 (nI f)) 138 12 (nI s)
theorem zMb_f (I : zx_MI) (f s : Nat) : zFq I (zMb I f s) := fun a j w => by unfold zMb; rw [zu_n (by omega), zu_n (by omega)]
theorem zMb_b {I : zx_MI} {f s : Nat} (h1 : 1 ≤ f) (h2 : f < 5) : zBad (zMb I f s) f s := ⟨h1, h2, by unfold zMb; rw [zu_n (by omega), zu_s], zu_s _ _ _ _⟩
theorem zMf_b {f k : Nat} (h1 : 1 ≤ f) (h2 : f < 5) : 1 ≤ zMf f k ∧ zMf f k < 5 := by
  unfold zMf
  split <;> omega
section MP
variable {Lh n : Nat} {b : Nat → Nat} {I : zx_MI} {J : zx_MJ} {T : Nat × Nat × Nat × Nat}
theorem sp_fails {d f : Nat} {P : Option Value → zx_Lay → zx_MI → zx_MJ → Prop} (z : zMd I b n T) : zx_rn d 159 [.ref 138, .int (nI f)] (zx_LL Lh) I J P = P none (zx_LL Lh) (zMb I (zMf f T.2.2.1) T.1) J := by
  obtain ⟨z1, z2, ⟨t1, t2, t3, t4⟩, z4, z5⟩ := z
  have e : ∀ y, zx_u I 138 11 y 138 6 = nI T.1 := fun y => (zu_n (by omega)).trans t2
  have k52 := z4.1.2.1
  rw [ze_159]
  unfold zMf
  by_cases c : T.2.2.1 = 29
  · have c' : (nI T.2.2.1 = nI 29) = True := eq_true (congrArg nI c)
    rw [if_pos c]
    simp (disch := omega) only [↓zs_159_0, ↓zs_159_1, ↓zs_159_4, ↓zs_159_7, ↓zs_159_8, ↓zs_159_9, ↓zs_159_10, ↓zs_159_13, ↓zs_159_15, ↓zs_159_18, ↓zs_159_19, ↓zs_159_22, ↓zs_159_23, ↓zs_159_26, ↓zs_159_27, ↓zs_159_28, ↓zs_159_31, ↓zs_159_34, zx_pu_s, zx_pu_n, zx_rv_s, zx_rv_n, true_and, and_true, true_or, or_true, zb_0, zb_1, zq_lcl, zq_lcg, zq_lce, eq_self, ite_true, ite_false, zk_138, zw_138, zk_139, zw_139, zk_140, zw_140, zk_141, zw_141, zk_142, zw_142, zk_143, zw_143, zk_144, zw_144, zk_145, zw_145, zk_146, zw_146, zk_147, zw_147, zk_148, zw_148, zk_149, zw_149, zk_150, zw_150, zk_151, zw_151, zk_152, zw_152, zq_138_1, zq_138_2, zq_138_3, zq_138_4, zq_138_16, zq_138_19, zq_138_20, zq_138_24, zq_138_25, zq_138_26, zq_138_27, zq_138_31, zq_138_32, zq_138_33, z5, t3, c', e]
    rfl
  · have c' : (nI T.2.2.1 = nI 29) = False := zq_ne c (by omega) (by omega)
    rw [if_neg c]
    simp (disch := omega) only [↓zs_159_0, ↓zs_159_1, ↓zs_159_4, ↓zs_159_7, ↓zs_159_8, ↓zs_159_9, ↓zs_159_10, ↓zs_159_13, ↓zs_159_15, ↓zs_159_18, ↓zs_159_19, ↓zs_159_22, ↓zs_159_23, ↓zs_159_26, ↓zs_159_27, ↓zs_159_28, ↓zs_159_31, ↓zs_159_34, zx_pu_s, zx_pu_n, zx_rv_s, zx_rv_n, true_and, and_true, true_or, or_true, zb_0, zb_1, zq_lcl, zq_lcg, zq_lce, eq_self, ite_true, ite_false, zk_138, zw_138, zk_139, zw_139, zk_140, zw_140, zk_141, zw_141, zk_142, zw_142, zk_143, zw_143, zk_144, zw_144, zk_145, zw_145, zk_146, zw_146, zk_147, zw_147, zk_148, zw_148, zk_149, zw_149, zk_150, zw_150, zk_151, zw_151, zk_152, zw_152, zq_138_1, zq_138_2, zq_138_3, zq_138_4, zq_138_16, zq_138_19, zq_138_20, zq_138_24, zq_138_25, zq_138_26, zq_138_27, zq_138_31, zq_138_32, zq_138_33, z5, t3, c', e]
    rfl
theorem sp_fails1 {d f s : Nat} {x : Int32} {P : Option Value → zx_Lay → zx_MI → zx_MJ → Prop} (z : zBad I f s) : zx_rn d 159 [.ref 138, .int x] (zx_LL Lh) I J P = P none (zx_LL Lh) I J := by
  obtain ⟨z1, z2, z3, z4⟩ := z
  have c : (nI f = nI 0) = False := zq_ne (by omega) (by omega) (by omega)
  rw [ze_159]
  simp (disch := omega) only [↓zs_159_0, ↓zs_159_1, ↓zs_159_4, ↓zs_159_7, ↓zs_159_8, ↓zs_159_9, ↓zs_159_10, ↓zs_159_13, ↓zs_159_15, ↓zs_159_18, ↓zs_159_19, ↓zs_159_22, ↓zs_159_23, ↓zs_159_26, ↓zs_159_27, ↓zs_159_28, ↓zs_159_31, ↓zs_159_34, zx_pu_s, zx_pu_n, zx_rv_s, zx_rv_n, true_and, and_true, true_or, or_true, zb_0, zb_1, zq_lcl, zq_lcg, zq_lce, eq_self, ite_true, ite_false, zk_138, zw_138, zk_139, zw_139, zk_140, zw_140, zk_141, zw_141, zk_142, zw_142, zk_143, zw_143, zk_144, zw_144, zk_145, zw_145, zk_146, zw_146, zk_147, zw_147, zk_148, zw_148, zk_149, zw_149, zk_150, zw_150, zk_151, zw_151, zk_152, zw_152, zq_138_1, zq_138_2, zq_138_3, zq_138_4, zq_138_16, zq_138_19, zq_138_20, zq_138_24, zq_138_25, zq_138_26, zq_138_27, zq_138_31, zq_138_32, zq_138_33, z3, c]
theorem sp_is {d q : Nat} {P : Option Value → zx_Lay → zx_MI → zx_MJ → Prop} (z : zMd I b n T) (hq : q < 60) : zx_rn d 160 [.ref 138, .int (nI q)] (zx_LL Lh) I J P = P (some (.int (zB (decide (T.2.2.1 = q))))) (zx_LL Lh) I J := by
  obtain ⟨z1, z2, ⟨t1, t2, t3, t4⟩, z4, z5⟩ := z
  have k52 := z4.1.2.1
  rw [ze_160]
  by_cases c : T.2.2.1 = q
  · have c' : (nI T.2.2.1 = nI q) = True := eq_true (congrArg nI c)
    rw [decide_eq_true c]
    simp (disch := omega) only [↓zs_160_0, ↓zs_160_1, ↓zs_160_4, ↓zs_160_7, ↓zs_160_8, ↓zs_160_11, ↓zs_160_12, ↓zs_160_15, ↓zs_160_16, ↓zs_160_19, ↓zs_160_20, zx_pu_s, zx_pu_n, zx_rv_s, zx_rv_n, true_and, and_true, true_or, or_true, zb_0, zb_1, zq_lcl, zq_lcg, zq_lce, eq_self, ite_true, ite_false, zk_138, zw_138, zk_139, zw_139, zk_140, zw_140, zk_141, zw_141, zk_142, zw_142, zk_143, zw_143, zk_144, zw_144, zk_145, zw_145, zk_146, zw_146, zk_147, zw_147, zk_148, zw_148, zk_149, zw_149, zk_150, zw_150, zk_151, zw_151, zk_152, zw_152, zq_138_1, zq_138_2, zq_138_3, zq_138_4, zq_138_16, zq_138_19, zq_138_20, zq_138_24, zq_138_25, zq_138_26, zq_138_27, zq_138_31, zq_138_32, zq_138_33, z5, t3, c']
    rfl
  · have c' : (nI T.2.2.1 = nI q) = False := zq_ne c (by omega) (by omega)
    rw [decide_eq_false c]
    simp (disch := omega) only [↓zs_160_0, ↓zs_160_1, ↓zs_160_4, ↓zs_160_7, ↓zs_160_8, ↓zs_160_11, ↓zs_160_12, ↓zs_160_15, ↓zs_160_16, ↓zs_160_19, ↓zs_160_20, zx_pu_s, zx_pu_n, zx_rv_s, zx_rv_n, true_and, and_true, true_or, or_true, zb_0, zb_1, zq_lcl, zq_lcg, zq_lce, eq_self, ite_true, ite_false, zk_138, zw_138, zk_139, zw_139, zk_140, zw_140, zk_141, zw_141, zk_142, zw_142, zk_143, zw_143, zk_144, zw_144, zk_145, zw_145, zk_146, zw_146, zk_147, zw_147, zk_148, zw_148, zk_149, zw_149, zk_150, zw_150, zk_151, zw_151, zk_152, zw_152, zq_138_1, zq_138_2, zq_138_3, zq_138_4, zq_138_16, zq_138_19, zq_138_20, zq_138_24, zq_138_25, zq_138_26, zq_138_27, zq_138_31, zq_138_32, zq_138_33, z5, t3, c']
    rfl
theorem sp_is1 {d f s : Nat} {x : Int32} {P : Option Value → zx_Lay → zx_MI → zx_MJ → Prop} (z : zBad I f s) : zx_rn d 160 [.ref 138, .int x] (zx_LL Lh) I J P = P (some (.int (nI 0))) (zx_LL Lh) I J := by
  obtain ⟨z1, z2, z3, z4⟩ := z
  have c : (nI f = nI 0) = False := zq_ne (by omega) (by omega) (by omega)
  rw [ze_160]
  simp (disch := omega) only [↓zs_160_0, ↓zs_160_1, ↓zs_160_4, ↓zs_160_7, ↓zs_160_8, ↓zs_160_11, ↓zs_160_12, ↓zs_160_15, ↓zs_160_16, ↓zs_160_19, ↓zs_160_20, zx_pu_s, zx_pu_n, zx_rv_s, zx_rv_n, true_and, and_true, true_or, or_true, zb_0, zb_1, zq_lcl, zq_lcg, zq_lce, eq_self, ite_true, ite_false, zk_138, zw_138, zk_139, zw_139, zk_140, zw_140, zk_141, zw_141, zk_142, zw_142, zk_143, zw_143, zk_144, zw_144, zk_145, zw_145, zk_146, zw_146, zk_147, zw_147, zk_148, zw_148, zk_149, zw_149, zk_150, zw_150, zk_151, zw_151, zk_152, zw_152, zq_138_1, zq_138_2, zq_138_3, zq_138_4, zq_138_16, zq_138_19, zq_138_20, zq_138_24, zq_138_25, zq_138_26, zq_138_27, zq_138_31, zq_138_32, zq_138_33, z3, c]
/-- the model at the next TOKEN -/
theorem sp_nextM (z : zMd I b n T) : ∃ I2, (∀ a j, ¬ (a = 138 ∧ (j = 6 ∨ j = 7 ∨ j = 9 ∨ j = 10)) → I2 a j = I a j) ∧ zMd I2 b n (zf_nx b n T.2.1) ∧ ∀ d P, 5 ≤ d → zx_rn d 158 [.ref 138] (zx_LL Lh) I J P = P none (zx_LL Lh) I2 J := by
  obtain ⟨z1, z2, ⟨t1, t2, t3, t4⟩, z4, z5⟩ := z
  obtain ⟨I2, f2, g2, h2⟩ := sp_next (Lh := Lh) (J := J) z1 z2 z4.1.1 t1
  refine ⟨I2, f2, ⟨zTm_f z1 (fun j => f2 141 j (by omega)) (f2 138 8 (by omega)), fun a j ha => (f2 a j (by omega)).trans (z2 a j ha), g2, (zl_tk2_nx b z4.1.1).1, (f2 138 11 (by omega)).trans z5⟩, fun d P hd => ?_⟩
  obtain ⟨e, rfl⟩ : ∃ e, d = e + 5 := ⟨d - 5, by omega⟩
  exact h2 e P
theorem zMd_q {I2 : zx_MI} (f : ∀ a j, ¬ (a = 138 ∧ (j = 6 ∨ j = 7 ∨ j = 9 ∨ j = 10)) → I2 a j = I a j) : zFq I I2 := fun a j w => f a j (by omega)
theorem zMc_f {I2 : zx_MI} {c : List Nat} (z : zMc I c) (f : ∀ a j, ¬ (a = 138 ∧ (j = 6 ∨ j = 7 ∨ j = 9 ∨ j = 10)) → I2 a j = I a j) : zMc I2 c := ⟨(f 142 385 (by omega)).trans z.1, fun i hi => (f 142 (386 + i) (by omega)).trans (z.2 i hi)⟩
theorem sp_eatsN {d q : Nat} {P : Option Value → zx_Lay → zx_MI → zx_MJ → Prop} (z : zMd I b n T) (hq : q < 60) (h : T.2.2.1 ≠ q) : zx_rn (d + 1) 161 [.ref 138, .int (nI q)] (zx_LL Lh) I J P = P (some (.int (nI 0))) (zx_LL Lh) I J := by
  have hi := fun d P => sp_is (Lh := Lh) (J := J) (d := d) (P := P) z hq
  rw [decide_eq_false h] at hi
  rw [ze_161]
  simp (disch := omega) only [↓zs_161_0, ↓zs_161_1, ↓zs_161_2, ↓zs_161_5, ↓zs_161_8, ↓zs_161_9, ↓zs_161_10, ↓zs_161_11, ↓zs_161_14, ↓zs_161_15, zx_pu_s, zx_pu_n, zx_rv_s, zx_rv_n, true_and, and_true, true_or, or_true, zb_0, zb_1, zq_lcl, zq_lcg, zq_lce, eq_self, ite_true, ite_false, zk_138, zw_138, zk_139, zw_139, zk_140, zw_140, zk_141, zw_141, zk_142, zw_142, zk_143, zw_143, zk_144, zw_144, zk_145, zw_145, zk_146, zw_146, zk_147, zw_147, zk_148, zw_148, zk_149, zw_149, zk_150, zw_150, zk_151, zw_151, zk_152, zw_152, zq_138_1, zq_138_2, zq_138_3, zq_138_4, zq_138_16, zq_138_19, zq_138_20, zq_138_24, zq_138_25, zq_138_26, zq_138_27, zq_138_31, zq_138_32, zq_138_33, hi, zB_0]
theorem sp_eats1 {d f s : Nat} {x : Int32} {P : Option Value → zx_Lay → zx_MI → zx_MJ → Prop} (z : zBad I f s) : zx_rn (d + 1) 161 [.ref 138, .int x] (zx_LL Lh) I J P = P (some (.int (nI 0))) (zx_LL Lh) I J := by
  have hi := fun d x P => sp_is1 (Lh := Lh) (J := J) (d := d) (x := x) (P := P) z
  rw [ze_161]
  simp (disch := omega) only [↓zs_161_0, ↓zs_161_1, ↓zs_161_2, ↓zs_161_5, ↓zs_161_8, ↓zs_161_9, ↓zs_161_10, ↓zs_161_11, ↓zs_161_14, ↓zs_161_15, zx_pu_s, zx_pu_n, zx_rv_s, zx_rv_n, true_and, and_true, true_or, or_true, zb_0, zb_1, zq_lcl, zq_lcg, zq_lce, eq_self, ite_true, ite_false, zk_138, zw_138, zk_139, zw_139, zk_140, zw_140, zk_141, zw_141, zk_142, zw_142, zk_143, zw_143, zk_144, zw_144, zk_145, zw_145, zk_146, zw_146, zk_147, zw_147, zk_148, zw_148, zk_149, zw_149, zk_150, zw_150, zk_151, zw_151, zk_152, zw_152, zq_138_1, zq_138_2, zq_138_3, zq_138_4, zq_138_16, zq_138_19, zq_138_20, zq_138_24, zq_138_25, zq_138_26, zq_138_27, zq_138_31, zq_138_32, zq_138_33, hi]
theorem sp_eatsY (z : zMd I b n T) (hq : T.2.2.1 < 60) : ∃ I2, (∀ a j, ¬ (a = 138 ∧ (j = 6 ∨ j = 7 ∨ j = 9 ∨ j = 10)) → I2 a j = I a j) ∧ zMd I2 b n (zf_nx b n T.2.1) ∧ ∀ d P, 6 ≤ d → zx_rn d 161 [.ref 138, .int (nI T.2.2.1)] (zx_LL Lh) I J P = P (some (.int (nI 1))) (zx_LL Lh) I2 J := by
  obtain ⟨I2, f2, z2, h2⟩ := sp_nextM (Lh := Lh) (J := J) z
  have hi := fun d P => sp_is (Lh := Lh) (J := J) (d := d) (P := P) z hq
  rw [decide_eq_true rfl] at hi
  refine ⟨I2, f2, z2, fun d P hd => ?_⟩
  obtain ⟨e, rfl⟩ : ∃ e, d = e + 6 := ⟨d - 6, by omega⟩
  have h2' := fun P => h2 (e + 5) P (by omega)
  rw [ze_161]
  simp (disch := omega) only [↓zs_161_0, ↓zs_161_1, ↓zs_161_2, ↓zs_161_5, ↓zs_161_8, ↓zs_161_9, ↓zs_161_10, ↓zs_161_11, ↓zs_161_14, ↓zs_161_15, zx_pu_s, zx_pu_n, zx_rv_s, zx_rv_n, true_and, and_true, true_or, or_true, zb_0, zb_1, zq_lcl, zq_lcg, zq_lce, eq_self, ite_true, ite_false, zk_138, zw_138, zk_139, zw_139, zk_140, zw_140, zk_141, zw_141, zk_142, zw_142, zk_143, zw_143, zk_144, zw_144, zk_145, zw_145, zk_146, zw_146, zk_147, zw_147, zk_148, zw_148, zk_149, zw_149, zk_150, zw_150, zk_151, zw_151, zk_152, zw_152, zq_138_1, zq_138_2, zq_138_3, zq_138_4, zq_138_16, zq_138_19, zq_138_20, zq_138_24, zq_138_25, zq_138_26, zq_138_27, zq_138_31, zq_138_32, zq_138_33, hi, zB_0, reduceCtorEq, h2']
theorem sp_codes {d x : Nat} {c : List Nat} {P : Option Value → zx_Lay → zx_MI → zx_MJ → Prop} (e11 : I 138 11 = nI 0) (m : zMc I c) (hc : c.length < 900) : zx_rn d 164 [.ref 138, .int (nI x)] (zx_LL Lh) I J P = P none (zx_LL Lh) (zx_u (zx_u I 142 (386 + c.length) (nI x)) 142 385 (nI (c.length + 1))) J := by
  have e : ∀ y, zx_u I 142 (386 + c.length) y 142 385 = nI c.length := fun y => (zu_n (by omega)).trans m.1
  rw [ze_164]
  simp (disch := omega) only [↓zs_164_0, ↓zs_164_1, ↓zs_164_4, ↓zs_164_7, ↓zs_164_8, ↓zs_164_9, ↓zs_164_12, ↓zs_164_15, ↓zs_164_16, ↓zs_164_19, ↓zs_164_22, ↓zs_164_23, ↓zs_164_24, ↓zs_164_25, ↓zs_164_26, ↓zs_164_27, ↓zs_164_30, ↓zs_164_33, ↓zs_164_34, ↓zs_164_35, ↓zs_164_36, ↓zs_164_37, ↓zs_164_38, zx_pu_s, zx_pu_n, zx_rv_s, zx_rv_n, true_and, and_true, true_or, or_true, zb_0, zb_1, zq_lcl, zq_lcg, zq_lce, eq_self, ite_true, ite_false, zk_138, zw_138, zk_139, zw_139, zk_140, zw_140, zk_141, zw_141, zk_142, zw_142, zk_143, zw_143, zk_144, zw_144, zk_145, zw_145, zk_146, zw_146, zk_147, zw_147, zk_148, zw_148, zk_149, zw_149, zk_150, zw_150, zk_151, zw_151, zk_152, zw_152, zq_138_1, zq_138_2, zq_138_3, zq_138_4, zq_138_16, zq_138_19, zq_138_20, zq_138_24, zq_138_25, zq_138_26, zq_138_27, zq_138_31, zq_138_32, zq_138_33, e11, m.1, zin_nI, nI_clamp, nI_add, e]
theorem zMc_add {x : Nat} {c : List Nat} (m : zMc I c) : zMc (zx_u (zx_u I 142 (386 + c.length) (nI x)) 142 385 (nI (c.length + 1))) (c ++ [x]) := by
  refine ⟨by rw [zu_s, List.length_append]; rfl, fun i hi => ?_⟩
  rw [List.length_append] at hi
  have hi' : i < c.length + 1 := hi
  rw [zu_n (by omega), zl_g_app]
  by_cases q : i = c.length
  · subst q; rw [zu_s, if_neg (Nat.lt_irrefl _), if_pos rfl]
  · rw [zu_n (by omega), if_pos (by omega)]; exact m.2 i (by omega)
theorem zMd_c {x y : Int32} {i j : Nat} (z : zMd I b n T) : zMd (zx_u (zx_u I 142 i x) 142 j y) b n T := by
  obtain ⟨z1, z2, ⟨t1, t2, t3, t4⟩, z4, z5⟩ := z
  have e : ∀ a q, a ≠ 142 → zx_u (zx_u I 142 i x) 142 j y a q = I a q := fun a q h => by rw [zu_n (by omega), zu_n (by omega)]
  exact ⟨zTm_f z1 (fun q => e 141 q (by decide)) (e 138 8 (by decide)), fun a q ha => (e a q (by omega)).trans (z2 a q ha), ⟨(e 138 7 (by decide)).trans t1, (e 138 6 (by decide)).trans t2, (e 138 9 (by decide)).trans t3, fun h => (e 138 10 (by decide)).trans (t4 h)⟩, z4, (e 138 11 (by decide)).trans z5⟩
theorem zFq_c {x y : Int32} {i : Nat} : zFq I (zx_u (zx_u I 142 (386 + i) x) 142 385 y) := fun a j w => by rw [zu_n (by omega), zu_n (by omega)]
theorem sp_codes1 {d f s : Nat} {x : Int32} {P : Option Value → zx_Lay → zx_MI → zx_MJ → Prop} (z : zBad I f s) : zx_rn d 164 [.ref 138, .int x] (zx_LL Lh) I J P = P none (zx_LL Lh) I J := by
  obtain ⟨z1, z2, z3, z4⟩ := z
  have c : (nI f = nI 0) = False := zq_ne (by omega) (by omega) (by omega)
  rw [ze_164]
  simp (disch := omega) only [↓zs_164_0, ↓zs_164_1, ↓zs_164_4, ↓zs_164_7, ↓zs_164_8, ↓zs_164_9, ↓zs_164_12, ↓zs_164_15, ↓zs_164_16, ↓zs_164_19, ↓zs_164_22, ↓zs_164_23, ↓zs_164_24, ↓zs_164_25, ↓zs_164_26, ↓zs_164_27, ↓zs_164_30, ↓zs_164_33, ↓zs_164_34, ↓zs_164_35, ↓zs_164_36, ↓zs_164_37, ↓zs_164_38, zx_pu_s, zx_pu_n, zx_rv_s, zx_rv_n, true_and, and_true, true_or, or_true, zb_0, zb_1, zq_lcl, zq_lcg, zq_lce, eq_self, ite_true, ite_false, zk_138, zw_138, zk_139, zw_139, zk_140, zw_140, zk_141, zw_141, zk_142, zw_142, zk_143, zw_143, zk_144, zw_144, zk_145, zw_145, zk_146, zw_146, zk_147, zw_147, zk_148, zw_148, zk_149, zw_149, zk_150, zw_150, zk_151, zw_151, zk_152, zw_152, zq_138_1, zq_138_2, zq_138_3, zq_138_4, zq_138_16, zq_138_19, zq_138_20, zq_138_24, zq_138_25, zq_138_26, zq_138_27, zq_138_31, zq_138_32, zq_138_33, z3, c]
theorem sp_goes6 (z : zMd I b n T) (h : T.2.2.1 ≠ 29) : zBad (zMb I 4 T.1) 4 T.1 ∧ ∀ d P, zx_rn (d + 1) 165 [.ref 138, .int (nI 6)] (zx_LL Lh) I J P = P (some (.int (nI 0))) (zx_LL Lh) (zMb I 4 T.1) J := by
  have hf := fun d P => sp_fails (Lh := Lh) (J := J) (d := d) (f := 4) (P := P) z
  have e4 : zMf 4 T.2.2.1 = 4 := if_neg h
  rw [e4] at hf
  have hb : zBad (zMb I 4 T.1) 4 T.1 := zMb_b (by decide) (by decide)
  have e11 := hb.2.2.1
  have c : (nI 4 = nI 0) = False := eq_false (by decide)
  refine ⟨hb, fun d P => ?_⟩
  rw [ze_165]
  simp (disch := omega) only [↓zs_165_0, ↓zs_165_1, ↓zs_165_3, ↓zs_165_6, ↓zs_165_7, ↓zs_165_8, ↓zs_165_11, ↓zs_165_12, ↓zs_165_15, ↓zs_165_18, ↓zs_165_19, ↓zs_165_22, ↓zs_165_23, ↓zs_165_26, ↓zs_165_29, ↓zs_165_30, ↓zs_165_33, ↓zs_165_34, zx_pu_s, zx_pu_n, zx_rv_s, zx_rv_n, true_and, and_true, true_or, or_true, zb_0, zb_1, zq_lcl, zq_lcg, zq_lce, eq_self, ite_true, ite_false, zk_138, zw_138, zk_139, zw_139, zk_140, zw_140, zk_141, zw_141, zk_142, zw_142, zk_143, zw_143, zk_144, zw_144, zk_145, zw_145, zk_146, zw_146, zk_147, zw_147, zk_148, zw_148, zk_149, zw_149, zk_150, zw_150, zk_151, zw_151, zk_152, zw_152, zq_138_1, zq_138_2, zq_138_3, zq_138_4, zq_138_16, zq_138_19, zq_138_20, zq_138_24, zq_138_25, zq_138_26, zq_138_27, zq_138_31, zq_138_32, zq_138_33, hf, e11, c]
theorem sp_goesY {dp : Nat} (z : zMd I b n T) (h : dp < 6) : ∃ I2, (∀ a j, ¬ (a = 138 ∧ (j = 6 ∨ j = 7 ∨ j = 9 ∨ j = 10)) → I2 a j = I a j) ∧ zMd I2 b n (zf_nx b n T.2.1) ∧ ∀ d P, 6 ≤ d → zx_rn d 165 [.ref 138, .int (nI dp)] (zx_LL Lh) I J P = P (some (.int (nI 1))) (zx_LL Lh) I2 J := by
  obtain ⟨I2, f2, z2, h2⟩ := sp_nextM (Lh := Lh) (J := J) z
  have c : (nI dp = nI 6) = False := zq_ne (by omega) (by omega) (by omega)
  have e1 := z.2.2.2.2
  have e2 := z2.2.2.2.2
  refine ⟨I2, f2, z2, fun d P hd => ?_⟩
  obtain ⟨e, rfl⟩ : ∃ e, d = e + 6 := ⟨d - 6, by omega⟩
  have h2' := fun P => h2 (e + 5) P (by omega)
  rw [ze_165]
  simp (disch := omega) only [↓zs_165_0, ↓zs_165_1, ↓zs_165_3, ↓zs_165_6, ↓zs_165_7, ↓zs_165_8, ↓zs_165_11, ↓zs_165_12, ↓zs_165_15, ↓zs_165_18, ↓zs_165_19, ↓zs_165_22, ↓zs_165_23, ↓zs_165_26, ↓zs_165_29, ↓zs_165_30, ↓zs_165_33, ↓zs_165_34, zx_pu_s, zx_pu_n, zx_rv_s, zx_rv_n, true_and, and_true, true_or, or_true, zb_0, zb_1, zq_lcl, zq_lcg, zq_lce, eq_self, ite_true, ite_false, zk_138, zw_138, zk_139, zw_139, zk_140, zw_140, zk_141, zw_141, zk_142, zw_142, zk_143, zw_143, zk_144, zw_144, zk_145, zw_145, zk_146, zw_146, zk_147, zw_147, zk_148, zw_148, zk_149, zw_149, zk_150, zw_150, zk_151, zw_151, zk_152, zw_152, zq_138_1, zq_138_2, zq_138_3, zq_138_4, zq_138_16, zq_138_19, zq_138_20, zq_138_24, zq_138_25, zq_138_26, zq_138_27, zq_138_31, zq_138_32, zq_138_33, c, e1, e2, h2']
end MP
