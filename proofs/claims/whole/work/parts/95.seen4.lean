/-! seen, what the model keeps of the finds -/
section MK
variable {Lh : Nat} {I : zx_MI} {J : zx_MJ}
/-- the model's writer and reader: -9 where the finds differ -/
def zKm (I : zx_MI) (c : Nat) (x y : Int32) (b4 b5 : Bool) : Prop := I 138 28 = nI c ∧ (c ≠ 0 → I 138 29 = (if b4 = true then x else -9) ∧ I 138 30 = (if b5 = true then y else -9))
def zf_kv (c : Nat) (b : Bool) (x x0 : Int32) : Int32 := if c = 0 then x else if (b && decide (x = x0)) = true then x0 else -9
theorem sp_foundT {c : Nat} {q k n v4 x y x0 y0 : Int32} {b4 b5 : Bool} (hc : c < 2 ^ 30) (h : zKm I c x0 y0 b4 b5) (hx : ¬ x = -9) (hy : ¬ y = -9) : ∃ I2, (∀ a j, ¬ (a = 138 ∧ 28 ≤ j ∧ j ≤ 30) → I2 a j = I a j) ∧ zKm I2 (c + 1) (if c = 0 then x else x0) (if c = 0 then y else y0) (if c = 0 then true else b4 && decide (x = x0)) (if c = 0 then true else b5 && decide (y = y0)) ∧ ∀ d P, zx_wp d 258 164 [.ref 138, .int q, .int k, .int n, .int v4, .int x, .int y] [] (zx_LL Lh) I J P = P none (zx_LL Lh) I2 J := by
  obtain ⟨h1, h2⟩ := h
  by_cases c0 : c = 0
  · subst c0
    have e1 : ∀ g, zx_u I 138 29 g 138 28 = nI 0 := fun g => (zu_n (by decide)).trans h1
    have e2 : ∀ g h, zx_u (zx_u I 138 29 g) 138 30 h 138 28 = nI 0 := fun g h => by rw [zu_n (by decide), zu_n (by decide)]; exact h1
    refine ⟨zx_u (zx_u (zx_u I 138 29 x) 138 30 y) 138 28 (nI (0 + 1)), fun a j w => ?_, ⟨zu_s _ _ _ _, fun _ => ⟨?_, ?_⟩⟩, fun d P => ?_⟩
    · rw [zu_n (by omega), zu_n (by omega), zu_n (by omega)]
    · rw [zu_n (by omega), zu_n (by omega), zu_s, if_pos rfl, if_pos rfl, if_pos rfl]
    · rw [zu_n (by omega), zu_s, if_pos rfl, if_pos rfl, if_pos rfl]
    · simp (disch := omega) only [↓zs_258_164, ↓zs_258_165, ↓zs_258_166, ↓zs_258_169, ↓zs_258_172, ↓zs_258_173, ↓zs_258_176, ↓zs_258_178, ↓zs_258_181, ↓zs_258_183, ↓zs_258_186, ↓zs_258_188, ↓zs_258_191, ↓zs_258_192, ↓zs_258_193, ↓zs_258_196, ↓zs_258_199, ↓zs_258_200, ↓zs_258_203, ↓zs_258_205, ↓zs_258_208, ↓zs_258_210, ↓zs_258_213, ↓zs_258_215, ↓zs_258_218, ↓zs_258_219, ↓zs_258_220, ↓zs_258_223, ↓zs_258_224, ↓zs_258_225, ↓zs_258_228, zx_pu_s, zx_pu_n, zx_rv_s, zx_rv_n, true_and, and_true, true_or, or_true, zb_0, zb_1, zq_lcl, zq_lcg, zq_lce, eq_self, ite_true, ite_false, zk_138, zw_138, zk_139, zw_139, zk_140, zw_140, zk_141, zw_141, zk_142, zw_142, zk_143, zw_143, zk_144, zw_144, zk_145, zw_145, zk_146, zw_146, zk_147, zw_147, zk_148, zw_148, zk_149, zw_149, zk_150, zw_150, zk_151, zw_151, zk_152, zw_152, zq_138_1, zq_138_2, zq_138_3, zq_138_4, zq_138_16, zq_138_19, zq_138_20, zq_138_24, zq_138_25, zq_138_26, zq_138_27, zq_138_31, zq_138_32, zq_138_33, h1, e1, e2, nI_add]
  · obtain ⟨h29, h30⟩ := h2 c0
    have c0' : (nI c = nI 0) = False := zq_ne c0 (by omega) (by omega)
    have e1 : ∀ g, zx_u I 138 29 g 138 28 = nI c := fun g => (zu_n (by decide)).trans h1
    have e2 : ∀ g h, zx_u (zx_u I 138 29 g) 138 30 h 138 28 = nI c := fun g h => by rw [zu_n (by decide), zu_n (by decide)]; exact h1
    have e3 : ∀ g, zx_u I 138 29 g 138 30 = (if b5 = true then y0 else -9) := fun g => (zu_n (by decide)).trans h30
    have same : ∀ (b : Bool) (w w0 : Int32), ¬ w = -9 → ((if b = true then w0 else -9) = w) = ((b && decide (w = w0)) = true) := fun b w w0 hw => by
      cases b with
      | false =>
        rw [if_neg (by decide), Bool.false_and]
        exact propext ⟨fun e => absurd e.symm hw, fun e => Bool.noConfusion e⟩
      | true =>
        rw [if_pos rfl, Bool.true_and, decide_eq_true_iff]
        exact propext ⟨fun e => e.symm, fun e => e.symm⟩
    have s1 := same b4 x x0 hx
    have s2 := same b5 y y0 hy
    refine ⟨zx_u (zx_u (zx_u I 138 29 (if (b4 && decide (x = x0)) = true then x else -9)) 138 30 (if (b5 && decide (y = y0)) = true then y else -9)) 138 28 (nI (c + 1)), fun a j w => ?_, ⟨zu_s _ _ _ _, fun _ => ⟨?_, ?_⟩⟩, fun d P => ?_⟩
    · rw [zu_n (by omega), zu_n (by omega), zu_n (by omega)]
    · rw [zu_n (by omega), zu_n (by omega), zu_s, if_neg c0, if_neg c0]
      cases b4 with
      | false => rfl
      | true =>
        by_cases q : x = x0
        · rw [q]
        · rw [decide_eq_false q]; rfl
    · rw [zu_n (by omega), zu_s, if_neg c0, if_neg c0]
      cases b5 with
      | false => rfl
      | true =>
        by_cases q : y = y0
        · rw [q]
        · rw [decide_eq_false q]; rfl
    · cases q4 : (b4 && decide (x = x0)) <;> cases q5 : (b5 && decide (y = y0)) <;> rw [q4] at s1 <;> rw [q5] at s2 <;> simp (disch := omega) only [↓zs_258_164, ↓zs_258_165, ↓zs_258_166, ↓zs_258_169, ↓zs_258_172, ↓zs_258_173, ↓zs_258_176, ↓zs_258_178, ↓zs_258_181, ↓zs_258_183, ↓zs_258_186, ↓zs_258_188, ↓zs_258_191, ↓zs_258_192, ↓zs_258_193, ↓zs_258_196, ↓zs_258_199, ↓zs_258_200, ↓zs_258_203, ↓zs_258_205, ↓zs_258_208, ↓zs_258_210, ↓zs_258_213, ↓zs_258_215, ↓zs_258_218, ↓zs_258_219, ↓zs_258_220, ↓zs_258_223, ↓zs_258_224, ↓zs_258_225, ↓zs_258_228, zx_pu_s, zx_pu_n, zx_rv_s, zx_rv_n, true_and, and_true, true_or, or_true, zb_0, zb_1, zq_lcl, zq_lcg, zq_lce, eq_self, ite_true, ite_false, zk_138, zw_138, zk_139, zw_139, zk_140, zw_140, zk_141, zw_141, zk_142, zw_142, zk_143, zw_143, zk_144, zw_144, zk_145, zw_145, zk_146, zw_146, zk_147, zw_147, zk_148, zw_148, zk_149, zw_149, zk_150, zw_150, zk_151, zw_151, zk_152, zw_152, zq_138_1, zq_138_2, zq_138_3, zq_138_4, zq_138_16, zq_138_19, zq_138_20, zq_138_24, zq_138_25, zq_138_26, zq_138_27, zq_138_31, zq_138_32, zq_138_33, h1, h29, e1, e2, e3, c0', s1, s2, nI_add, if_true, if_false, reduceCtorEq]
end MK
