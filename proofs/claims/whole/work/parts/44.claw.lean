/-! the law of rest: the class's -/
/-- what lies on the pile where a truth is due -/
def zf_tyst : List Bool → (Nat → Int32) → Prop
  | [], _ => True
  | t :: r, st => (t = true → ∃ b, st r.length = zB b) ∧ zf_tyst r st
theorem zf_tyst_u {r : List Bool} {st : Nat → Int32} {i : Nat} {v : Int32} (h : r.length ≤ i) (k : zf_tyst r st) : zf_tyst r (zu1 st i v) := by
  induction r with
  | nil => trivial
  | cons t r ih =>
    have h1 : r.length + 1 ≤ i := h
    refine ⟨fun e => ?_, ih (by omega) k.2⟩
    rw [zu1_n (by omega)]
    exact k.1 e
theorem zf_op_B {i : Nat} (h : 3 ≤ i) (a b : Int32) : ∃ x, zf_op i a b = zB x := by
  unfold zf_op
  split
  · omega
  · omega
  · omega
  all_goals exact ⟨_, rfl⟩
theorem zB_not (b : Bool) : nI 1 - zB b = zB (!b) := by cases b <;> decide
theorem zf_tok_b {i : Nat} (h : i < 8) : 0 < zf_tok i ∧ zf_tok i < 215 := by
  have q : ∀ i : Fin 8, 0 < zf_tok i.1 ∧ zf_tok i.1 < 215 := by decide
  exact q ⟨i, h⟩
theorem zq_neg (n : Nat) : -(0 - nI n) = nI n := by rw [Int32.zero_sub, Int32.neg_neg]
theorem zq_negp {n : Nat} (h : n < 1000) : (nI 0 < -nI n) = False := by
  have q : ∀ n : Fin 1000, ¬ nI 0 < -nI n.1 := by decide +kernel
  exact eq_false (q ⟨n, h⟩)
/-- only the cells of the class's law are other -/
def zF4 (I I2 : zx_MI) : Prop := ∀ a, a ≠ 4 → a ≠ 5 → I2 a = I a
theorem zF4_c {T : Nat} {I I2 : zx_MI} (h : zF4 I I2) : zFc T I I2 := fun a j n => congrFun (h a (fun e => n (.inl e)) (fun e => n (.inr (.inl e)))) j
section HL
variable {Lh : Nat} {I : zx_MI} {J : zx_MJ} {B wd : Nat → Int32}
theorem sc_holds (hl : zM_law B) (hk : 0 < zk B) (r9 : I 2 3 = nI (zk B)) (r10 : ∀ k, k < zk B → I 3 k = zf_tc (zf_nat (B (386 + k)))) (hw : ∀ i, i < 8 → I 5 i = wd i) : ∃ I2, (∀ a, a ≠ 4 → I2 a = I a) ∧ ∀ d P, zx_rn (d + 1) 12 [.ref 2] (zx_LL Lh) I J P = P (some (.int (zB (decide (zf_run (fun k => B (386 + k)) wd (zk B) 0 0 (fun _ => nI 0) = nI 1))))) (zx_LL Lh) I2 J := by
  obtain ⟨l1, l2, l3, l4⟩ := hl
  generalize eK : zk B = K at *
  have e9 : Int32.ofNat 900 = nI 900 := rfl
  have e6 : Int32.ofNat 64 = nI 64 := rfl
  have loop : ∀ m k n ts st I1 v3, zf_ty (fun k => B (386 + k)) m k ts = some [true] → ts.length = n → n ≤ 60 → k + m = K → (∀ a, a ≠ 4 → I1 a = I a) → (∀ i, i < n → I1 4 i = st i) → zf_tyst ts st → ∃ I2, (∀ a, a ≠ 4 → I2 a = I a) ∧ ∀ d P, zx_wp (d + 1) 12 4 [.ref 2, .int (nI n), .int (nI k), v3] [] (zx_LL Lh) I1 J P = P (some (.int (zB (decide (zf_run (fun k => B (386 + k)) wd m k n st = nI 1))))) (zx_LL Lh) I2 J := by
    clear l4
    intro m
    induction m with
    | zero =>
      intro k n ts st I1 v3 ht hn hn6 hk f hst hty
      rw [zf_ty] at ht
      cases ht
      obtain rfl : n = 1 := hn.symm
      have e0 := hst 0 (by omega)
      refine ⟨I1, f, fun d P => ?_⟩
      rw [zs_12_4]
      have hlt : ¬ k < K := by omega
      have f2 := f 2 (by decide)
      simp (disch := omega) only [↓zs_12_0, ↓zs_12_1, ↓zs_12_2, ↓zs_12_3, ↓zs_12_5, ↓zs_12_6, ↓zs_12_9, ↓zs_12_12, ↓zs_12_13, ↓zs_12_14, ↓zs_12_17, ↓zs_12_18, ↓zs_12_21, ↓zs_12_22, ↓zs_12_23, ↓zs_12_26, ↓zs_12_27, ↓zs_12_30, ↓zs_12_31, ↓zs_12_34, ↓zs_12_35, ↓zs_12_36, ↓zs_12_37, ↓zs_12_38, ↓zs_12_39, ↓zs_12_42, ↓zs_12_43, ↓zs_12_46, ↓zs_12_47, ↓zs_12_48, ↓zs_12_51, ↓zs_12_52, ↓zs_12_53, ↓zs_12_54, ↓zs_12_57, ↓zs_12_60, ↓zs_12_61, ↓zs_12_64, ↓zs_12_67, ↓zs_12_68, ↓zs_12_71, ↓zs_12_74, ↓zs_12_75, ↓zs_12_78, ↓zs_12_79, ↓zs_12_80, ↓zs_12_83, ↓zs_12_84, ↓zs_12_87, ↓zs_12_88, ↓zs_12_89, ↓zs_12_90, ↓zs_12_93, ↓zs_12_96, ↓zs_12_97, ↓zs_12_100, ↓zs_12_103, ↓zs_12_104, ↓zs_12_105, ↓zs_12_108, ↓zs_12_109, ↓zs_12_112, ↓zs_12_113, ↓zs_12_114, ↓zs_12_115, ↓zs_12_116, ↓zs_12_117, ↓zs_12_120, ↓zs_12_121, ↓zs_12_122, ↓zs_12_123, ↓zs_12_124, ↓zs_12_125, ↓zs_12_126, ↓zs_12_129, ↓zs_12_130, ↓zs_12_131, ↓zs_12_134, ↓zs_12_137, ↓zs_12_138, ↓zs_12_141, ↓zs_12_142, ↓zs_12_143, ↓zs_12_144, ↓zs_12_145, ↓zs_12_146, ↓zs_12_149, ↓zs_12_150, ↓zs_12_151, ↓zs_12_152, ↓zs_12_153, ↓zs_12_154, ↓zs_12_157, ↓zs_12_158, ↓zs_12_159, ↓zs_12_162, ↓zs_12_163, ↓zs_12_166, ↓zs_12_169, ↓zs_12_170, ↓zs_12_171, ↓zs_12_174, ↓zs_12_175, ↓zs_12_178, ↓zs_12_179, ↓zs_12_180, ↓zs_12_181, ↓zs_12_184, ↓zs_12_185, ↓zs_12_188, ↓zs_12_189, zx_pu_s, zx_pu_n, zx_rv_s, zx_rv_n, true_and, and_true, true_or, or_true, zb_0, zb_1, zq_lcl, zq_lcg, zq_lce, eq_self, ite_true, ite_false, zk_0, zw_0, zk_1, zw_1, zk_2, zw_2, zk_3, zw_3, zk_4, zw_4, zk_5, zw_5, zk_6, zw_6, zq_0_0, zq_0_1, zq_0_2, zq_0_3, zq_0_4, zq_0_5, zq_0_6, zq_0_7, zq_0_8, zq_0_9, zq_0_10, zq_0_11, zq_1_0, zq_1_1, zq_1_2, zq_1_3, zq_1_4, zq_1_5, zq_2_0, zq_2_1, zq_2_2, zn_10, zn_40, zn_040, zn_340, nI_add, zin_nI, nI_clamp, nI_ltI, nI_eq, pk_mul, nI_l, f2, r9, hlt, e0, zf_run]
      by_cases c : st 0 = nI 1 <;> simp only [c, if_true, if_false] <;> rfl
    | succ m ih =>
      intro k n ts st I1 v3 ht hn hn6 hk f hst hty
      have hlt : k < K := by omega
      have hlt9 : k < 900 := by omega
      have hn64 : n < 64 := by omega
      obtain ⟨c1, c2⟩ := l3 k hlt
      have f2 := f 2 (by decide)
      have f3 : I1 3 k = zf_tc (zf_nat (B (386 + k))) := by rw [f 3 (by decide)]; exact r10 k hlt
      generalize eE : zf_nat (B (386 + k)) = E at *
      rw [zf_ty] at ht
      rw [zf_run]
      simp only [eE] at ht ⊢
      rcases c2 with c2 | ⟨c2, c3⟩
      · rw [if_pos (by omega)] at ht
        by_cases hl : ts.length < 60
        · rw [if_pos hl] at ht
          rw [if_pos (by omega)]
          by_cases h1 : E < 1000
          · rw [if_pos h1]
            have et : zf_tc E = nI E := if_pos h1
            obtain ⟨I2, g2, h2⟩ := ih (k + 1) (n + 1) (false :: ts) (zu1 st n (nI E)) (zx_u I1 4 n (nI E)) (.int (-(nI E))) ht (by rw [List.length_cons, hn]) (by omega) (by omega) (fun a h9 => (zu_o h9).trans (f a h9)) (by
              intro i hi
              by_cases q : i = n
              · rw [q, zu_s, zu1_s]
              · rw [zu_n (fun e9 => q e9.2), zu1_n q]; exact hst i (by omega)) ⟨fun e => Bool.noConfusion e, zf_tyst_u (by omega) hty⟩
            refine ⟨I2, g2, fun d P => ?_⟩
            rw [zs_12_4, ← h2 d P]
            simp (disch := omega) only [↓zs_12_0, ↓zs_12_1, ↓zs_12_2, ↓zs_12_3, ↓zs_12_5, ↓zs_12_6, ↓zs_12_9, ↓zs_12_12, ↓zs_12_13, ↓zs_12_14, ↓zs_12_17, ↓zs_12_18, ↓zs_12_21, ↓zs_12_22, ↓zs_12_23, ↓zs_12_26, ↓zs_12_27, ↓zs_12_30, ↓zs_12_31, ↓zs_12_34, ↓zs_12_35, ↓zs_12_36, ↓zs_12_37, ↓zs_12_38, ↓zs_12_39, ↓zs_12_42, ↓zs_12_43, ↓zs_12_46, ↓zs_12_47, ↓zs_12_48, ↓zs_12_51, ↓zs_12_52, ↓zs_12_53, ↓zs_12_54, ↓zs_12_57, ↓zs_12_60, ↓zs_12_61, ↓zs_12_64, ↓zs_12_67, ↓zs_12_68, ↓zs_12_71, ↓zs_12_74, ↓zs_12_75, ↓zs_12_78, ↓zs_12_79, ↓zs_12_80, ↓zs_12_83, ↓zs_12_84, ↓zs_12_87, ↓zs_12_88, ↓zs_12_89, ↓zs_12_90, ↓zs_12_93, ↓zs_12_96, ↓zs_12_97, ↓zs_12_100, ↓zs_12_103, ↓zs_12_104, ↓zs_12_105, ↓zs_12_108, ↓zs_12_109, ↓zs_12_112, ↓zs_12_113, ↓zs_12_114, ↓zs_12_115, ↓zs_12_116, ↓zs_12_117, ↓zs_12_120, ↓zs_12_121, ↓zs_12_122, ↓zs_12_123, ↓zs_12_124, ↓zs_12_125, ↓zs_12_126, ↓zs_12_129, ↓zs_12_130, ↓zs_12_131, ↓zs_12_134, ↓zs_12_137, ↓zs_12_138, ↓zs_12_141, ↓zs_12_142, ↓zs_12_143, ↓zs_12_144, ↓zs_12_145, ↓zs_12_146, ↓zs_12_149, ↓zs_12_150, ↓zs_12_151, ↓zs_12_152, ↓zs_12_153, ↓zs_12_154, ↓zs_12_157, ↓zs_12_158, ↓zs_12_159, ↓zs_12_162, ↓zs_12_163, ↓zs_12_166, ↓zs_12_169, ↓zs_12_170, ↓zs_12_171, ↓zs_12_174, ↓zs_12_175, ↓zs_12_178, ↓zs_12_179, ↓zs_12_180, ↓zs_12_181, ↓zs_12_184, ↓zs_12_185, ↓zs_12_188, ↓zs_12_189, zx_pu_s, zx_pu_n, zx_rv_s, zx_rv_n, true_and, and_true, true_or, or_true, zb_0, zb_1, zq_lcl, zq_lcg, zq_lce, eq_self, ite_true, ite_false, zk_0, zw_0, zk_1, zw_1, zk_2, zw_2, zk_3, zw_3, zk_4, zw_4, zk_5, zw_5, zk_6, zw_6, zq_0_0, zq_0_1, zq_0_2, zq_0_3, zq_0_4, zq_0_5, zq_0_6, zq_0_7, zq_0_8, zq_0_9, zq_0_10, zq_0_11, zq_1_0, zq_1_1, zq_1_2, zq_1_3, zq_1_4, zq_1_5, zq_2_0, zq_2_1, zq_2_2, zn_10, zn_40, zn_040, zn_340, nI_add, zin_nI, nI_clamp, nI_ltI, nI_eq, pk_mul, nI_1, Nat.lt_irrefl, e9, e6, f2, r9, f3, et, hlt, hlt9, hn64, zq_negp]
          · rw [if_neg h1]
            obtain ⟨w, rfl⟩ : ∃ w, E = 1000 + w := ⟨E - 1000, by omega⟩
            have et : -(zf_tc (1000 + w)) = nI (216 + w) := by
              unfold zf_tc
              rw [if_neg h1, if_pos (by omega), zq_neg, Nat.add_sub_cancel_left]
            rw [Nat.add_sub_cancel_left]
            have f5 : I1 5 w = wd w := by rw [f 5 (by decide)]; exact hw w (by omega)
            obtain ⟨I2, g2, h2⟩ := ih (k + 1) (n + 1) (false :: ts) (zu1 st n (wd w)) (zx_u I1 4 n (wd w)) (.int (nI (216 + w))) ht (by rw [List.length_cons, hn]) (by omega) (by omega) (fun a h9 => (zu_o h9).trans (f a h9)) (by
              intro i hi
              by_cases q : i = n
              · rw [q, zu_s, zu1_s]
              · rw [zu_n (fun e9 => q e9.2), zu1_n q]; exact hst i (by omega)) ⟨fun e => Bool.noConfusion e, zf_tyst_u (by omega) hty⟩
            refine ⟨I2, g2, fun d P => ?_⟩
            rw [zs_12_4, ← h2 d P]
            have q1 : ¬ 216 + w < 216 := by omega
            have q2 : ¬ 223 < 216 + w := by omega
            have q3 : 0 < 216 + w := by omega
            simp (disch := omega) only [↓zs_12_0, ↓zs_12_1, ↓zs_12_2, ↓zs_12_3, ↓zs_12_5, ↓zs_12_6, ↓zs_12_9, ↓zs_12_12, ↓zs_12_13, ↓zs_12_14, ↓zs_12_17, ↓zs_12_18, ↓zs_12_21, ↓zs_12_22, ↓zs_12_23, ↓zs_12_26, ↓zs_12_27, ↓zs_12_30, ↓zs_12_31, ↓zs_12_34, ↓zs_12_35, ↓zs_12_36, ↓zs_12_37, ↓zs_12_38, ↓zs_12_39, ↓zs_12_42, ↓zs_12_43, ↓zs_12_46, ↓zs_12_47, ↓zs_12_48, ↓zs_12_51, ↓zs_12_52, ↓zs_12_53, ↓zs_12_54, ↓zs_12_57, ↓zs_12_60, ↓zs_12_61, ↓zs_12_64, ↓zs_12_67, ↓zs_12_68, ↓zs_12_71, ↓zs_12_74, ↓zs_12_75, ↓zs_12_78, ↓zs_12_79, ↓zs_12_80, ↓zs_12_83, ↓zs_12_84, ↓zs_12_87, ↓zs_12_88, ↓zs_12_89, ↓zs_12_90, ↓zs_12_93, ↓zs_12_96, ↓zs_12_97, ↓zs_12_100, ↓zs_12_103, ↓zs_12_104, ↓zs_12_105, ↓zs_12_108, ↓zs_12_109, ↓zs_12_112, ↓zs_12_113, ↓zs_12_114, ↓zs_12_115, ↓zs_12_116, ↓zs_12_117, ↓zs_12_120, ↓zs_12_121, ↓zs_12_122, ↓zs_12_123, ↓zs_12_124, ↓zs_12_125, ↓zs_12_126, ↓zs_12_129, ↓zs_12_130, ↓zs_12_131, ↓zs_12_134, ↓zs_12_137, ↓zs_12_138, ↓zs_12_141, ↓zs_12_142, ↓zs_12_143, ↓zs_12_144, ↓zs_12_145, ↓zs_12_146, ↓zs_12_149, ↓zs_12_150, ↓zs_12_151, ↓zs_12_152, ↓zs_12_153, ↓zs_12_154, ↓zs_12_157, ↓zs_12_158, ↓zs_12_159, ↓zs_12_162, ↓zs_12_163, ↓zs_12_166, ↓zs_12_169, ↓zs_12_170, ↓zs_12_171, ↓zs_12_174, ↓zs_12_175, ↓zs_12_178, ↓zs_12_179, ↓zs_12_180, ↓zs_12_181, ↓zs_12_184, ↓zs_12_185, ↓zs_12_188, ↓zs_12_189, zx_pu_s, zx_pu_n, zx_rv_s, zx_rv_n, true_and, and_true, true_or, or_true, zb_0, zb_1, zq_lcl, zq_lcg, zq_lce, eq_self, ite_true, ite_false, zk_0, zw_0, zk_1, zw_1, zk_2, zw_2, zk_3, zw_3, zk_4, zw_4, zk_5, zw_5, zk_6, zw_6, zq_0_0, zq_0_1, zq_0_2, zq_0_3, zq_0_4, zq_0_5, zq_0_6, zq_0_7, zq_0_8, zq_0_9, zq_0_10, zq_0_11, zq_1_0, zq_1_1, zq_1_2, zq_1_3, zq_1_4, zq_1_5, zq_2_0, zq_2_1, zq_2_2, zn_10, zn_40, zn_040, zn_340, nI_add, zin_nI, nI_clamp, nI_ltI, nI_eq, pk_mul, nI_1, Nat.lt_irrefl, e9, e6, f2, r9, f3, et, hlt, hlt9, hn64, q1, q2, q3, pk_sub, Nat.add_sub_cancel_left, f5]
        · rw [if_neg hl] at ht; cases ht
      · rw [if_neg (by omega)] at ht
        rw [if_neg (by omega)]
        by_cases h8 : E = 3008
        · subst h8
          rw [if_pos rfl] at ht ⊢
          by_cases hh : ts.head? = some true
          case neg => rw [if_neg hh] at ht; cases ht
          rw [if_pos hh] at ht
          obtain ⟨r, rfl⟩ := zf_hd hh
          obtain rfl : n = r.length + 1 := hn.symm
          have et : -(zf_tc 3008) = nI 215 := by
            unfold zf_tc
            rw [if_neg (by omega), if_neg (by omega), if_pos rfl, zq_neg]
          have e7 := hst r.length (by omega)
          obtain ⟨I2, g2, h2⟩ := ih (k + 1) (r.length + 1) (true :: r) (zu1 st r.length (nI 1 - st r.length)) (zx_u I1 4 r.length (nI 1 - st r.length)) (.int (nI 215)) ht rfl (by omega) (by omega) (fun a h9 => (zu_o h9).trans (f a h9)) (by
            intro i hi
            by_cases q : i = r.length
            · rw [q, zu_s, zu1_s]
            · rw [zu_n (fun e9 => q e9.2), zu1_n q]; exact hst i (by omega)) ⟨fun _ => by
              obtain ⟨b, hb⟩ := hty.1 rfl
              exact ⟨!b, by rw [zu1_s, hb, zB_not]⟩, zf_tyst_u (Nat.le_refl _) hty.2⟩
          refine ⟨I2, g2, fun d P => ?_⟩
          rw [zs_12_4, Nat.add_sub_cancel, ← h2 d P]
          have q1 : ¬ r.length + 1 < 1 := by omega
          have q2 : (0 < 215) = True := eq_true (by decide)
          have q3 : (215 < 216) = True := eq_true (by decide)
          have e5 : nI (r.length + 1) - nI 1 = nI r.length := nI_pred _
          simp (disch := omega) only [↓zs_12_0, ↓zs_12_1, ↓zs_12_2, ↓zs_12_3, ↓zs_12_5, ↓zs_12_6, ↓zs_12_9, ↓zs_12_12, ↓zs_12_13, ↓zs_12_14, ↓zs_12_17, ↓zs_12_18, ↓zs_12_21, ↓zs_12_22, ↓zs_12_23, ↓zs_12_26, ↓zs_12_27, ↓zs_12_30, ↓zs_12_31, ↓zs_12_34, ↓zs_12_35, ↓zs_12_36, ↓zs_12_37, ↓zs_12_38, ↓zs_12_39, ↓zs_12_42, ↓zs_12_43, ↓zs_12_46, ↓zs_12_47, ↓zs_12_48, ↓zs_12_51, ↓zs_12_52, ↓zs_12_53, ↓zs_12_54, ↓zs_12_57, ↓zs_12_60, ↓zs_12_61, ↓zs_12_64, ↓zs_12_67, ↓zs_12_68, ↓zs_12_71, ↓zs_12_74, ↓zs_12_75, ↓zs_12_78, ↓zs_12_79, ↓zs_12_80, ↓zs_12_83, ↓zs_12_84, ↓zs_12_87, ↓zs_12_88, ↓zs_12_89, ↓zs_12_90, ↓zs_12_93, ↓zs_12_96, ↓zs_12_97, ↓zs_12_100, ↓zs_12_103, ↓zs_12_104, ↓zs_12_105, ↓zs_12_108, ↓zs_12_109, ↓zs_12_112, ↓zs_12_113, ↓zs_12_114, ↓zs_12_115, ↓zs_12_116, ↓zs_12_117, ↓zs_12_120, ↓zs_12_121, ↓zs_12_122, ↓zs_12_123, ↓zs_12_124, ↓zs_12_125, ↓zs_12_126, ↓zs_12_129, ↓zs_12_130, ↓zs_12_131, ↓zs_12_134, ↓zs_12_137, ↓zs_12_138, ↓zs_12_141, ↓zs_12_142, ↓zs_12_143, ↓zs_12_144, ↓zs_12_145, ↓zs_12_146, ↓zs_12_149, ↓zs_12_150, ↓zs_12_151, ↓zs_12_152, ↓zs_12_153, ↓zs_12_154, ↓zs_12_157, ↓zs_12_158, ↓zs_12_159, ↓zs_12_162, ↓zs_12_163, ↓zs_12_166, ↓zs_12_169, ↓zs_12_170, ↓zs_12_171, ↓zs_12_174, ↓zs_12_175, ↓zs_12_178, ↓zs_12_179, ↓zs_12_180, ↓zs_12_181, ↓zs_12_184, ↓zs_12_185, ↓zs_12_188, ↓zs_12_189, zx_pu_s, zx_pu_n, zx_rv_s, zx_rv_n, true_and, and_true, true_or, or_true, zb_0, zb_1, zq_lcl, zq_lcg, zq_lce, eq_self, ite_true, ite_false, zk_0, zw_0, zk_1, zw_1, zk_2, zw_2, zk_3, zw_3, zk_4, zw_4, zk_5, zw_5, zk_6, zw_6, zq_0_0, zq_0_1, zq_0_2, zq_0_3, zq_0_4, zq_0_5, zq_0_6, zq_0_7, zq_0_8, zq_0_9, zq_0_10, zq_0_11, zq_1_0, zq_1_1, zq_1_2, zq_1_3, zq_1_4, zq_1_5, zq_2_0, zq_2_1, zq_2_2, zn_10, zn_40, zn_040, zn_340, nI_add, zin_nI, nI_clamp, nI_ltI, nI_eq, pk_mul, nI_1, Nat.lt_irrefl, e9, e6, f2, r9, f3, et, hlt, hlt9, hn64, q1, q2, q3, e5, e7]
        · rw [if_neg h8] at ht ⊢
          by_cases hh : ts.take 2 = [decide (3006 ≤ E), decide (3006 ≤ E)]
          case neg => rw [if_neg hh] at ht; cases ht
          rw [if_pos hh] at ht
          obtain ⟨r, rfl⟩ := zf_tk2 hh
          rw [List.drop_succ_cons, List.drop_succ_cons, List.drop_zero] at ht
          obtain rfl : n = r.length + 2 := hn.symm
          obtain ⟨i, rfl⟩ : ∃ i, E = 3000 + i := ⟨E - 3000, by omega⟩
          have et : -(zf_tc (3000 + i)) = nI (zf_tok i) := by
            unfold zf_tc
            rw [if_neg (by omega), if_neg (by omega), if_neg h8, zq_neg, Nat.add_sub_cancel_left]
          have e7 := hst r.length (by omega)
          have e8 := hst (r.length + 1) (by omega)
          obtain ⟨t1, t2, t3⟩ := hty
          have hop := fun d P => sc_work (d := d) (L := zx_LL Lh) (I := I1) (J := J) (P := P) (i := i) (a := st r.length) (b := st (r.length + 1)) (by omega) (fun h6 => ⟨t2 (decide_eq_true (by omega)), t1 (decide_eq_true (by omega))⟩)
          obtain ⟨I2, g2, h2⟩ := ih (k + 1) (r.length + 1) _ (zu1 st r.length (zf_op i (st r.length) (st (r.length + 1)))) (zx_u I1 4 r.length (zf_op i (st r.length) (st (r.length + 1)))) (.int (nI (zf_tok i))) ht rfl (by omega) (by omega) (fun a h9 => (zu_o h9).trans (f a h9)) (by
            intro i hi
            by_cases q : i = r.length
            · rw [q, zu_s, zu1_s]
            · rw [zu_n (fun e9 => q e9.2), zu1_n q]; exact hst i (by omega)) ⟨fun e => by
              have := of_decide_eq_true e
              rw [zu1_s]
              exact zf_op_B (by omega) _ _, zf_tyst_u (Nat.le_refl _) t3⟩
          refine ⟨I2, g2, fun d P => ?_⟩
          rw [zs_12_4, show r.length + 2 - 1 = r.length + 1 from rfl, show r.length + 2 - 2 = r.length from rfl, Nat.add_sub_cancel_left, ← h2 d P]
          obtain ⟨p1, p2⟩ := zf_tok_b (i := i) (by omega)
          have q1 : ¬ r.length + 2 < 2 := by omega
          have q3 : zf_tok i < 216 := by omega
          have q4 : ¬ zf_tok i = 215 := by omega
          have e5 : nI (r.length + 2) + -1 = nI (r.length + 1) := zq_dec _
          have e10 : nI (r.length + 1) - nI 1 = nI r.length := nI_pred _
          simp (disch := omega) only [↓zs_12_0, ↓zs_12_1, ↓zs_12_2, ↓zs_12_3, ↓zs_12_5, ↓zs_12_6, ↓zs_12_9, ↓zs_12_12, ↓zs_12_13, ↓zs_12_14, ↓zs_12_17, ↓zs_12_18, ↓zs_12_21, ↓zs_12_22, ↓zs_12_23, ↓zs_12_26, ↓zs_12_27, ↓zs_12_30, ↓zs_12_31, ↓zs_12_34, ↓zs_12_35, ↓zs_12_36, ↓zs_12_37, ↓zs_12_38, ↓zs_12_39, ↓zs_12_42, ↓zs_12_43, ↓zs_12_46, ↓zs_12_47, ↓zs_12_48, ↓zs_12_51, ↓zs_12_52, ↓zs_12_53, ↓zs_12_54, ↓zs_12_57, ↓zs_12_60, ↓zs_12_61, ↓zs_12_64, ↓zs_12_67, ↓zs_12_68, ↓zs_12_71, ↓zs_12_74, ↓zs_12_75, ↓zs_12_78, ↓zs_12_79, ↓zs_12_80, ↓zs_12_83, ↓zs_12_84, ↓zs_12_87, ↓zs_12_88, ↓zs_12_89, ↓zs_12_90, ↓zs_12_93, ↓zs_12_96, ↓zs_12_97, ↓zs_12_100, ↓zs_12_103, ↓zs_12_104, ↓zs_12_105, ↓zs_12_108, ↓zs_12_109, ↓zs_12_112, ↓zs_12_113, ↓zs_12_114, ↓zs_12_115, ↓zs_12_116, ↓zs_12_117, ↓zs_12_120, ↓zs_12_121, ↓zs_12_122, ↓zs_12_123, ↓zs_12_124, ↓zs_12_125, ↓zs_12_126, ↓zs_12_129, ↓zs_12_130, ↓zs_12_131, ↓zs_12_134, ↓zs_12_137, ↓zs_12_138, ↓zs_12_141, ↓zs_12_142, ↓zs_12_143, ↓zs_12_144, ↓zs_12_145, ↓zs_12_146, ↓zs_12_149, ↓zs_12_150, ↓zs_12_151, ↓zs_12_152, ↓zs_12_153, ↓zs_12_154, ↓zs_12_157, ↓zs_12_158, ↓zs_12_159, ↓zs_12_162, ↓zs_12_163, ↓zs_12_166, ↓zs_12_169, ↓zs_12_170, ↓zs_12_171, ↓zs_12_174, ↓zs_12_175, ↓zs_12_178, ↓zs_12_179, ↓zs_12_180, ↓zs_12_181, ↓zs_12_184, ↓zs_12_185, ↓zs_12_188, ↓zs_12_189, zx_pu_s, zx_pu_n, zx_rv_s, zx_rv_n, true_and, and_true, true_or, or_true, zb_0, zb_1, zq_lcl, zq_lcg, zq_lce, eq_self, ite_true, ite_false, zk_0, zw_0, zk_1, zw_1, zk_2, zw_2, zk_3, zw_3, zk_4, zw_4, zk_5, zw_5, zk_6, zw_6, zq_0_0, zq_0_1, zq_0_2, zq_0_3, zq_0_4, zq_0_5, zq_0_6, zq_0_7, zq_0_8, zq_0_9, zq_0_10, zq_0_11, zq_1_0, zq_1_1, zq_1_2, zq_1_3, zq_1_4, zq_1_5, zq_2_0, zq_2_1, zq_2_2, zn_10, zn_40, zn_040, zn_340, nI_add, zin_nI, nI_clamp, nI_ltI, nI_eq, pk_mul, nI_1, Nat.lt_irrefl, e9, e6, f2, r9, f3, et, hlt, hlt9, hn64, p1, q1, q3, q4, e5, e7, e8, e10, hop]
  rcases l4 with ⟨l4, l5⟩ | ⟨l4, l5, l6⟩
  · omega
  · obtain ⟨I2, g2, h2⟩ := loop K 0 0 [] (fun _ => nI 0) I zx_u0 l6 rfl (by omega) (by omega) (fun _ _ => rfl) (fun i hi => absurd hi (Nat.not_lt_zero i)) trivial
    refine ⟨I2, g2, fun d P => ?_⟩
    rw [ze_12]
    simp (disch := omega) only [↓zs_12_0, ↓zs_12_1, ↓zs_12_2, ↓zs_12_3, zx_pu_s, zx_pu_n, zx_rv_s, zx_rv_n, true_and, and_true, true_or, or_true, zb_0, zb_1, zq_lcl, zq_lcg, zq_lce, eq_self, ite_true, ite_false]
    exact h2 d P
end HL
