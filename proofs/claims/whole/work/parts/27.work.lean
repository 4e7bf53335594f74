/-! what a law reckons: the class's signs -/
theorem zi_c (k : Int32) (t : Nat) (l : List (Int32 × Nat)) (df : Nat) (x : Int32) (F : Nat → Prop) : zx_ifs ((k, t) :: l) df x F = if x = k then F t else zx_ifs l df x F := rfl
theorem zi_n (df : Nat) (x : Int32) (F : Nat → Prop) : zx_ifs [] df x F = F df := rfl
/-- the class's number of the model's sign i -/
def zf_tok : Nat → Nat
  | 0 => 43
  | 1 => 45
  | 2 => 42
  | 3 => 61
  | 4 => 60
  | 5 => 62
  | 6 => 214
  | _ => 213
theorem zq_clamp (v : Int64) : (if (if v < lN 1000000 then v else lN 1000000) < -1000000 then -1000000 else (if v < lN 1000000 then v else lN 1000000) : Int64).toInt32 = zf_clamp v := by
  unfold zf_clamp
  have e1 : (lN 1000000).toInt = 1000000 := by decide +kernel
  have e2 : (-1000000 : Int64).toInt = -1000000 := by decide +kernel
  by_cases h : v < lN 1000000
  · have h2 : ¬ lN 1000000 < v := by rw [Int64.lt_iff_toInt_lt] at *; omega
    rw [if_pos h, if_neg h2]
  · rw [if_neg h]
    have h3 : ¬ lN 1000000 < -1000000 := by decide +kernel
    rw [if_neg h3]
    by_cases h2 : lN 1000000 < v
    · rw [if_pos h2]
    · rw [if_neg h2]
      have h4 : ¬ v < -1000000 := by rw [Int64.lt_iff_toInt_lt] at *; omega
      rw [if_neg h4]
      congr 1
      apply Int64.toInt_inj.mp
      rw [Int64.lt_iff_toInt_lt] at *; omega
section OQ
variable {d : Nat} {L : zx_Lay} {I : zx_MI} {J : zx_MJ} {P : Option Value → zx_Lay → zx_MI → zx_MJ → Prop}
theorem sc_work {i : Nat} (hi : i < 8) {a b : Int32} (hab : 6 ≤ i → (∃ x, a = zB x) ∧ ∃ y, b = zB y) : zx_rn d 13 [.int (nI (zf_tok i)), .int a, .int b] L I J P = P (some (.int (zf_op i a b))) L I J := by
  rw [ze_13]
  have hc : i = 0 ∨ i = 1 ∨ i = 2 ∨ i = 3 ∨ i = 4 ∨ i = 5 ∨ i = 6 ∨ i = 7 := by omega
  rcases hc with h | h | h | h | h | h | h | h <;> subst h
  · have f0 : (nI (zf_tok 0) = nI 42) = False := eq_false (by decide +kernel)
    have f1 : (nI (zf_tok 0) = nI 43) = True := eq_true rfl
    have f2 : (nI (zf_tok 0) = nI 60) = False := eq_false (by decide +kernel)
    have f3 : (nI (zf_tok 0) = nI 61) = False := eq_false (by decide +kernel)
    have f4 : (nI (zf_tok 0) = nI 62) = False := eq_false (by decide +kernel)
    have f5 : (nI (zf_tok 0) = nI 213) = False := eq_false (by decide +kernel)
    have f6 : (nI (zf_tok 0) = nI 214) = False := eq_false (by decide +kernel)
    simp only [↓zs_13_0, ↓zs_13_1, ↓zs_13_68, ↓zs_13_69, ↓zs_13_70, ↓zs_13_71, ↓zs_13_72, ↓zs_13_73, ↓zs_13_74, ↓zs_13_75, ↓zs_13_76, ↓zs_13_77, ↓zs_13_78, ↓zs_13_81, ↓zs_13_82, ↓zs_13_85, ↓zs_13_86, ↓zs_13_87, ↓zs_13_88, ↓zs_13_89, ↓zs_13_92, ↓zs_13_93, ↓zs_13_96, ↓zs_13_97, ↓zs_13_98, ↓zs_13_99, ↓zs_13_100, ↓zs_13_103, ↓zs_13_104, ↓zs_13_107, ↓zs_13_108, ↓zs_13_109, ↓zs_13_110, ↓zs_13_111, ↓zs_13_112, ↓zs_13_113, ↓zs_13_114, ↓zs_13_115, ↓zs_13_118, ↓zs_13_119, ↓zs_13_120, ↓zs_13_121, ↓zs_13_122, ↓zs_13_123, ↓zs_13_124, ↓zs_13_127, ↓zs_13_128, ↓zs_13_129, ↓zs_13_130, ↓zs_13_131, ↓zs_13_132, ↓zs_13_133, ↓zs_13_136, ↓zs_13_139, ↓zs_13_140, ↓zs_13_143, ↓zs_13_146, ↓zs_13_147, zx_pu_s, zx_pu_n, zx_rv_s, zx_rv_n, true_and, and_true, true_or, or_true, zb_0, zb_1, zq_lcl, zq_lcg, zq_lce, eq_self, ite_true, ite_false, zi_c, zi_n, f0, f1, f2, f3, f4, f5, f6, zf_op, zq_clamp]
  · have f0 : (nI (zf_tok 1) = nI 42) = False := eq_false (by decide +kernel)
    have f1 : (nI (zf_tok 1) = nI 43) = False := eq_false (by decide +kernel)
    have f2 : (nI (zf_tok 1) = nI 60) = False := eq_false (by decide +kernel)
    have f3 : (nI (zf_tok 1) = nI 61) = False := eq_false (by decide +kernel)
    have f4 : (nI (zf_tok 1) = nI 62) = False := eq_false (by decide +kernel)
    have f5 : (nI (zf_tok 1) = nI 213) = False := eq_false (by decide +kernel)
    have f6 : (nI (zf_tok 1) = nI 214) = False := eq_false (by decide +kernel)
    simp only [↓zs_13_0, ↓zs_13_1, ↓zs_13_68, ↓zs_13_69, ↓zs_13_70, ↓zs_13_71, ↓zs_13_72, ↓zs_13_73, ↓zs_13_74, ↓zs_13_75, ↓zs_13_76, ↓zs_13_77, ↓zs_13_78, ↓zs_13_81, ↓zs_13_82, ↓zs_13_85, ↓zs_13_86, ↓zs_13_87, ↓zs_13_88, ↓zs_13_89, ↓zs_13_92, ↓zs_13_93, ↓zs_13_96, ↓zs_13_97, ↓zs_13_98, ↓zs_13_99, ↓zs_13_100, ↓zs_13_103, ↓zs_13_104, ↓zs_13_107, ↓zs_13_108, ↓zs_13_109, ↓zs_13_110, ↓zs_13_111, ↓zs_13_112, ↓zs_13_113, ↓zs_13_114, ↓zs_13_115, ↓zs_13_118, ↓zs_13_119, ↓zs_13_120, ↓zs_13_121, ↓zs_13_122, ↓zs_13_123, ↓zs_13_124, ↓zs_13_127, ↓zs_13_128, ↓zs_13_129, ↓zs_13_130, ↓zs_13_131, ↓zs_13_132, ↓zs_13_133, ↓zs_13_136, ↓zs_13_139, ↓zs_13_140, ↓zs_13_143, ↓zs_13_146, ↓zs_13_147, zx_pu_s, zx_pu_n, zx_rv_s, zx_rv_n, true_and, and_true, true_or, or_true, zb_0, zb_1, zq_lcl, zq_lcg, zq_lce, eq_self, ite_true, ite_false, zi_c, zi_n, f0, f1, f2, f3, f4, f5, f6, zf_op, zq_clamp]
  · have f0 : (nI (zf_tok 2) = nI 42) = True := eq_true rfl
    have f1 : (nI (zf_tok 2) = nI 43) = False := eq_false (by decide +kernel)
    have f2 : (nI (zf_tok 2) = nI 60) = False := eq_false (by decide +kernel)
    have f3 : (nI (zf_tok 2) = nI 61) = False := eq_false (by decide +kernel)
    have f4 : (nI (zf_tok 2) = nI 62) = False := eq_false (by decide +kernel)
    have f5 : (nI (zf_tok 2) = nI 213) = False := eq_false (by decide +kernel)
    have f6 : (nI (zf_tok 2) = nI 214) = False := eq_false (by decide +kernel)
    simp only [↓zs_13_0, ↓zs_13_1, ↓zs_13_68, ↓zs_13_69, ↓zs_13_70, ↓zs_13_71, ↓zs_13_72, ↓zs_13_73, ↓zs_13_74, ↓zs_13_75, ↓zs_13_76, ↓zs_13_77, ↓zs_13_78, ↓zs_13_81, ↓zs_13_82, ↓zs_13_85, ↓zs_13_86, ↓zs_13_87, ↓zs_13_88, ↓zs_13_89, ↓zs_13_92, ↓zs_13_93, ↓zs_13_96, ↓zs_13_97, ↓zs_13_98, ↓zs_13_99, ↓zs_13_100, ↓zs_13_103, ↓zs_13_104, ↓zs_13_107, ↓zs_13_108, ↓zs_13_109, ↓zs_13_110, ↓zs_13_111, ↓zs_13_112, ↓zs_13_113, ↓zs_13_114, ↓zs_13_115, ↓zs_13_118, ↓zs_13_119, ↓zs_13_120, ↓zs_13_121, ↓zs_13_122, ↓zs_13_123, ↓zs_13_124, ↓zs_13_127, ↓zs_13_128, ↓zs_13_129, ↓zs_13_130, ↓zs_13_131, ↓zs_13_132, ↓zs_13_133, ↓zs_13_136, ↓zs_13_139, ↓zs_13_140, ↓zs_13_143, ↓zs_13_146, ↓zs_13_147, zx_pu_s, zx_pu_n, zx_rv_s, zx_rv_n, true_and, and_true, true_or, or_true, zb_0, zb_1, zq_lcl, zq_lcg, zq_lce, eq_self, ite_true, ite_false, zi_c, zi_n, f0, f1, f2, f3, f4, f5, f6, zf_op, zq_clamp]
  · have f0 : (nI (zf_tok 3) = nI 42) = False := eq_false (by decide +kernel)
    have f1 : (nI (zf_tok 3) = nI 43) = False := eq_false (by decide +kernel)
    have f2 : (nI (zf_tok 3) = nI 60) = False := eq_false (by decide +kernel)
    have f3 : (nI (zf_tok 3) = nI 61) = True := eq_true rfl
    have f4 : (nI (zf_tok 3) = nI 62) = False := eq_false (by decide +kernel)
    have f5 : (nI (zf_tok 3) = nI 213) = False := eq_false (by decide +kernel)
    have f6 : (nI (zf_tok 3) = nI 214) = False := eq_false (by decide +kernel)
    simp only [↓zs_13_0, ↓zs_13_1, ↓zs_13_68, ↓zs_13_69, ↓zs_13_70, ↓zs_13_71, ↓zs_13_72, ↓zs_13_73, ↓zs_13_74, ↓zs_13_75, ↓zs_13_76, ↓zs_13_77, ↓zs_13_78, ↓zs_13_81, ↓zs_13_82, ↓zs_13_85, ↓zs_13_86, ↓zs_13_87, ↓zs_13_88, ↓zs_13_89, ↓zs_13_92, ↓zs_13_93, ↓zs_13_96, ↓zs_13_97, ↓zs_13_98, ↓zs_13_99, ↓zs_13_100, ↓zs_13_103, ↓zs_13_104, ↓zs_13_107, ↓zs_13_108, ↓zs_13_109, ↓zs_13_110, ↓zs_13_111, ↓zs_13_112, ↓zs_13_113, ↓zs_13_114, ↓zs_13_115, ↓zs_13_118, ↓zs_13_119, ↓zs_13_120, ↓zs_13_121, ↓zs_13_122, ↓zs_13_123, ↓zs_13_124, ↓zs_13_127, ↓zs_13_128, ↓zs_13_129, ↓zs_13_130, ↓zs_13_131, ↓zs_13_132, ↓zs_13_133, ↓zs_13_136, ↓zs_13_139, ↓zs_13_140, ↓zs_13_143, ↓zs_13_146, ↓zs_13_147, zx_pu_s, zx_pu_n, zx_rv_s, zx_rv_n, true_and, and_true, true_or, or_true, zb_0, zb_1, zq_lcl, zq_lcg, zq_lce, eq_self, ite_true, ite_false, zi_c, zi_n, f0, f1, f2, f3, f4, f5, f6, zf_op]
    by_cases h : a = b <;> simp only [h, if_true, if_false] <;> rfl
  · have f0 : (nI (zf_tok 4) = nI 42) = False := eq_false (by decide +kernel)
    have f1 : (nI (zf_tok 4) = nI 43) = False := eq_false (by decide +kernel)
    have f2 : (nI (zf_tok 4) = nI 60) = True := eq_true rfl
    have f3 : (nI (zf_tok 4) = nI 61) = False := eq_false (by decide +kernel)
    have f4 : (nI (zf_tok 4) = nI 62) = False := eq_false (by decide +kernel)
    have f5 : (nI (zf_tok 4) = nI 213) = False := eq_false (by decide +kernel)
    have f6 : (nI (zf_tok 4) = nI 214) = False := eq_false (by decide +kernel)
    simp only [↓zs_13_0, ↓zs_13_1, ↓zs_13_68, ↓zs_13_69, ↓zs_13_70, ↓zs_13_71, ↓zs_13_72, ↓zs_13_73, ↓zs_13_74, ↓zs_13_75, ↓zs_13_76, ↓zs_13_77, ↓zs_13_78, ↓zs_13_81, ↓zs_13_82, ↓zs_13_85, ↓zs_13_86, ↓zs_13_87, ↓zs_13_88, ↓zs_13_89, ↓zs_13_92, ↓zs_13_93, ↓zs_13_96, ↓zs_13_97, ↓zs_13_98, ↓zs_13_99, ↓zs_13_100, ↓zs_13_103, ↓zs_13_104, ↓zs_13_107, ↓zs_13_108, ↓zs_13_109, ↓zs_13_110, ↓zs_13_111, ↓zs_13_112, ↓zs_13_113, ↓zs_13_114, ↓zs_13_115, ↓zs_13_118, ↓zs_13_119, ↓zs_13_120, ↓zs_13_121, ↓zs_13_122, ↓zs_13_123, ↓zs_13_124, ↓zs_13_127, ↓zs_13_128, ↓zs_13_129, ↓zs_13_130, ↓zs_13_131, ↓zs_13_132, ↓zs_13_133, ↓zs_13_136, ↓zs_13_139, ↓zs_13_140, ↓zs_13_143, ↓zs_13_146, ↓zs_13_147, zx_pu_s, zx_pu_n, zx_rv_s, zx_rv_n, true_and, and_true, true_or, or_true, zb_0, zb_1, zq_lcl, zq_lcg, zq_lce, eq_self, ite_true, ite_false, zi_c, zi_n, f0, f1, f2, f3, f4, f5, f6, zf_op]
    by_cases h : a < b <;> simp only [h, if_true, if_false] <;> rfl
  · have f0 : (nI (zf_tok 5) = nI 42) = False := eq_false (by decide +kernel)
    have f1 : (nI (zf_tok 5) = nI 43) = False := eq_false (by decide +kernel)
    have f2 : (nI (zf_tok 5) = nI 60) = False := eq_false (by decide +kernel)
    have f3 : (nI (zf_tok 5) = nI 61) = False := eq_false (by decide +kernel)
    have f4 : (nI (zf_tok 5) = nI 62) = True := eq_true rfl
    have f5 : (nI (zf_tok 5) = nI 213) = False := eq_false (by decide +kernel)
    have f6 : (nI (zf_tok 5) = nI 214) = False := eq_false (by decide +kernel)
    simp only [↓zs_13_0, ↓zs_13_1, ↓zs_13_68, ↓zs_13_69, ↓zs_13_70, ↓zs_13_71, ↓zs_13_72, ↓zs_13_73, ↓zs_13_74, ↓zs_13_75, ↓zs_13_76, ↓zs_13_77, ↓zs_13_78, ↓zs_13_81, ↓zs_13_82, ↓zs_13_85, ↓zs_13_86, ↓zs_13_87, ↓zs_13_88, ↓zs_13_89, ↓zs_13_92, ↓zs_13_93, ↓zs_13_96, ↓zs_13_97, ↓zs_13_98, ↓zs_13_99, ↓zs_13_100, ↓zs_13_103, ↓zs_13_104, ↓zs_13_107, ↓zs_13_108, ↓zs_13_109, ↓zs_13_110, ↓zs_13_111, ↓zs_13_112, ↓zs_13_113, ↓zs_13_114, ↓zs_13_115, ↓zs_13_118, ↓zs_13_119, ↓zs_13_120, ↓zs_13_121, ↓zs_13_122, ↓zs_13_123, ↓zs_13_124, ↓zs_13_127, ↓zs_13_128, ↓zs_13_129, ↓zs_13_130, ↓zs_13_131, ↓zs_13_132, ↓zs_13_133, ↓zs_13_136, ↓zs_13_139, ↓zs_13_140, ↓zs_13_143, ↓zs_13_146, ↓zs_13_147, zx_pu_s, zx_pu_n, zx_rv_s, zx_rv_n, true_and, and_true, true_or, or_true, zb_0, zb_1, zq_lcl, zq_lcg, zq_lce, eq_self, ite_true, ite_false, zi_c, zi_n, f0, f1, f2, f3, f4, f5, f6, zf_op]
    by_cases h : b < a <;> simp only [h, if_true, if_false] <;> rfl
  · have f0 : (nI (zf_tok 6) = nI 42) = False := eq_false (by decide +kernel)
    have f1 : (nI (zf_tok 6) = nI 43) = False := eq_false (by decide +kernel)
    have f2 : (nI (zf_tok 6) = nI 60) = False := eq_false (by decide +kernel)
    have f3 : (nI (zf_tok 6) = nI 61) = False := eq_false (by decide +kernel)
    have f4 : (nI (zf_tok 6) = nI 62) = False := eq_false (by decide +kernel)
    have f5 : (nI (zf_tok 6) = nI 213) = False := eq_false (by decide +kernel)
    have f6 : (nI (zf_tok 6) = nI 214) = True := eq_true rfl
    obtain ⟨⟨x, rfl⟩, y, rfl⟩ := hab (by omega)
    have e : zB x &&& zB y = zB (decide (zB x + zB y = nI 2)) := by cases x <;> cases y <;> decide +kernel
    simp only [↓zs_13_0, ↓zs_13_1, ↓zs_13_68, ↓zs_13_69, ↓zs_13_70, ↓zs_13_71, ↓zs_13_72, ↓zs_13_73, ↓zs_13_74, ↓zs_13_75, ↓zs_13_76, ↓zs_13_77, ↓zs_13_78, ↓zs_13_81, ↓zs_13_82, ↓zs_13_85, ↓zs_13_86, ↓zs_13_87, ↓zs_13_88, ↓zs_13_89, ↓zs_13_92, ↓zs_13_93, ↓zs_13_96, ↓zs_13_97, ↓zs_13_98, ↓zs_13_99, ↓zs_13_100, ↓zs_13_103, ↓zs_13_104, ↓zs_13_107, ↓zs_13_108, ↓zs_13_109, ↓zs_13_110, ↓zs_13_111, ↓zs_13_112, ↓zs_13_113, ↓zs_13_114, ↓zs_13_115, ↓zs_13_118, ↓zs_13_119, ↓zs_13_120, ↓zs_13_121, ↓zs_13_122, ↓zs_13_123, ↓zs_13_124, ↓zs_13_127, ↓zs_13_128, ↓zs_13_129, ↓zs_13_130, ↓zs_13_131, ↓zs_13_132, ↓zs_13_133, ↓zs_13_136, ↓zs_13_139, ↓zs_13_140, ↓zs_13_143, ↓zs_13_146, ↓zs_13_147, zx_pu_s, zx_pu_n, zx_rv_s, zx_rv_n, true_and, and_true, true_or, or_true, zb_0, zb_1, zq_lcl, zq_lcg, zq_lce, eq_self, ite_true, ite_false, zi_c, zi_n, f0, f1, f2, f3, f4, f5, f6, zf_op, e]
  · have f0 : (nI (zf_tok 7) = nI 42) = False := eq_false (by decide +kernel)
    have f1 : (nI (zf_tok 7) = nI 43) = False := eq_false (by decide +kernel)
    have f2 : (nI (zf_tok 7) = nI 60) = False := eq_false (by decide +kernel)
    have f3 : (nI (zf_tok 7) = nI 61) = False := eq_false (by decide +kernel)
    have f4 : (nI (zf_tok 7) = nI 62) = False := eq_false (by decide +kernel)
    have f5 : (nI (zf_tok 7) = nI 213) = True := eq_true rfl
    have f6 : (nI (zf_tok 7) = nI 214) = False := eq_false (by decide +kernel)
    obtain ⟨⟨x, rfl⟩, y, rfl⟩ := hab (by omega)
    have e : zB x ||| zB y = zB (decide (nI 0 < zB x + zB y)) := by cases x <;> cases y <;> decide +kernel
    simp only [↓zs_13_0, ↓zs_13_1, ↓zs_13_68, ↓zs_13_69, ↓zs_13_70, ↓zs_13_71, ↓zs_13_72, ↓zs_13_73, ↓zs_13_74, ↓zs_13_75, ↓zs_13_76, ↓zs_13_77, ↓zs_13_78, ↓zs_13_81, ↓zs_13_82, ↓zs_13_85, ↓zs_13_86, ↓zs_13_87, ↓zs_13_88, ↓zs_13_89, ↓zs_13_92, ↓zs_13_93, ↓zs_13_96, ↓zs_13_97, ↓zs_13_98, ↓zs_13_99, ↓zs_13_100, ↓zs_13_103, ↓zs_13_104, ↓zs_13_107, ↓zs_13_108, ↓zs_13_109, ↓zs_13_110, ↓zs_13_111, ↓zs_13_112, ↓zs_13_113, ↓zs_13_114, ↓zs_13_115, ↓zs_13_118, ↓zs_13_119, ↓zs_13_120, ↓zs_13_121, ↓zs_13_122, ↓zs_13_123, ↓zs_13_124, ↓zs_13_127, ↓zs_13_128, ↓zs_13_129, ↓zs_13_130, ↓zs_13_131, ↓zs_13_132, ↓zs_13_133, ↓zs_13_136, ↓zs_13_139, ↓zs_13_140, ↓zs_13_143, ↓zs_13_146, ↓zs_13_147, zx_pu_s, zx_pu_n, zx_rv_s, zx_rv_n, true_and, and_true, true_or, or_true, zb_0, zb_1, zq_lcl, zq_lcg, zq_lce, eq_self, ite_true, ite_false, zi_c, zi_n, f0, f1, f2, f3, f4, f5, f6, zf_op, e]
end OQ
