/-! what a law reckons: two numbers -/
/-- a number within the greatest -/
def zf_clamp (v : Int64) : Int32 := (if lN 1000000 < v then lN 1000000 else if v < -1000000 then -1000000 else v).toInt32
/-- sign i of the model's signs between two numbers -/
def zf_op (i : Nat) (a b : Int32) : Int32 :=
  match i with
  | 0 => zf_clamp (a.toInt64 + b.toInt64)
  | 1 => zf_clamp (a.toInt64 - b.toInt64)
  | 2 => zf_clamp (a.toInt64 * b.toInt64)
  | 3 => zB (decide (a = b))
  | 4 => zB (decide (a < b))
  | 5 => zB (decide (b < a))
  | 6 => zB (decide (a + b = nI 2))
  | _ => zB (decide (nI 0 < a + b))
section OP
variable {d : Nat} {L : zx_Lay} {I : zx_MI} {J : zx_MJ} {P : Option Value → zx_Lay → zx_MI → zx_MJ → Prop}
theorem sp_between {i : Nat} (hi : i < 8) (a b : Int32) : zx_rn d 197 [.int (nI (3000 + i)), .int a, .int b] L I J P = P (some (.int (zf_op i a b))) L I J := by
  rw [ze_197]
  have hc : i = 0 ∨ i = 1 ∨ i = 2 ∨ i = 3 ∨ i = 4 ∨ i = 5 ∨ i = 6 ∨ i = 7 := by omega
  rcases hc with h | h | h | h | h | h | h | h <;> subst h
  · have e1 : (nI 3002 < nI (3000 + 0)) = False := eq_false (by decide +kernel)
    have e2 : (nI (3000 + 0) = nI 3000) = True := eq_true rfl
    simp only [↓zs_197_0, ↓zs_197_1, ↓zs_197_4, ↓zs_197_7, ↓zs_197_8, ↓zs_197_11, ↓zs_197_14, ↓zs_197_15, ↓zs_197_16, ↓zs_197_17, ↓zs_197_18, ↓zs_197_19, ↓zs_197_22, ↓zs_197_23, ↓zs_197_26, ↓zs_197_29, ↓zs_197_30, ↓zs_197_31, ↓zs_197_32, ↓zs_197_33, ↓zs_197_34, ↓zs_197_37, ↓zs_197_38, ↓zs_197_39, ↓zs_197_40, ↓zs_197_41, ↓zs_197_42, zx_pu_s, zx_pu_n, zx_rv_s, zx_rv_n, true_and, and_true, true_or, or_true, zb_0, zb_1, zq_lcl, zq_lcg, zq_lce, eq_self, ite_true, ite_false, e1, e2]
    simp only [↓zs_197_43, ↓zs_197_44, ↓zs_197_47, ↓zs_197_48, ↓zs_197_51, ↓zs_197_54, ↓zs_197_57, ↓zs_197_58, ↓zs_197_61, ↓zs_197_62, ↓zs_197_65, ↓zs_197_68, ↓zs_197_71, ↓zs_197_72, ↓zs_197_73, zx_pu_s, zx_pu_n, zx_rv_s, zx_rv_n, true_and, and_true, true_or, or_true, zb_0, zb_1, zq_lcl, zq_lcg, zq_lce, eq_self, ite_true, ite_false, zf_op, zf_clamp]
    repeat' split
    all_goals rfl
  · have e1 : (nI 3002 < nI (3000 + 1)) = False := eq_false (by decide +kernel)
    have e2 : (nI (3000 + 1) = nI 3000) = False := eq_false (by decide +kernel)
    have e3 : (nI (3000 + 1) = nI 3001) = True := eq_true rfl
    simp only [↓zs_197_0, ↓zs_197_1, ↓zs_197_4, ↓zs_197_7, ↓zs_197_8, ↓zs_197_11, ↓zs_197_14, ↓zs_197_15, ↓zs_197_16, ↓zs_197_17, ↓zs_197_18, ↓zs_197_19, ↓zs_197_22, ↓zs_197_23, ↓zs_197_26, ↓zs_197_29, ↓zs_197_30, ↓zs_197_31, ↓zs_197_32, ↓zs_197_33, ↓zs_197_34, ↓zs_197_37, ↓zs_197_38, ↓zs_197_39, ↓zs_197_40, ↓zs_197_41, ↓zs_197_42, zx_pu_s, zx_pu_n, zx_rv_s, zx_rv_n, true_and, and_true, true_or, or_true, zb_0, zb_1, zq_lcl, zq_lcg, zq_lce, eq_self, ite_true, ite_false, e1, e2, e3]
    simp only [↓zs_197_43, ↓zs_197_44, ↓zs_197_47, ↓zs_197_48, ↓zs_197_51, ↓zs_197_54, ↓zs_197_57, ↓zs_197_58, ↓zs_197_61, ↓zs_197_62, ↓zs_197_65, ↓zs_197_68, ↓zs_197_71, ↓zs_197_72, ↓zs_197_73, zx_pu_s, zx_pu_n, zx_rv_s, zx_rv_n, true_and, and_true, true_or, or_true, zb_0, zb_1, zq_lcl, zq_lcg, zq_lce, eq_self, ite_true, ite_false, zf_op, zf_clamp]
    repeat' split
    all_goals rfl
  · have e1 : (nI 3002 < nI (3000 + 2)) = False := eq_false (by decide +kernel)
    have e2 : (nI (3000 + 2) = nI 3000) = False := eq_false (by decide +kernel)
    have e3 : (nI (3000 + 2) = nI 3001) = False := eq_false (by decide +kernel)
    simp only [↓zs_197_0, ↓zs_197_1, ↓zs_197_4, ↓zs_197_7, ↓zs_197_8, ↓zs_197_11, ↓zs_197_14, ↓zs_197_15, ↓zs_197_16, ↓zs_197_17, ↓zs_197_18, ↓zs_197_19, ↓zs_197_22, ↓zs_197_23, ↓zs_197_26, ↓zs_197_29, ↓zs_197_30, ↓zs_197_31, ↓zs_197_32, ↓zs_197_33, ↓zs_197_34, ↓zs_197_37, ↓zs_197_38, ↓zs_197_39, ↓zs_197_40, ↓zs_197_41, ↓zs_197_42, zx_pu_s, zx_pu_n, zx_rv_s, zx_rv_n, true_and, and_true, true_or, or_true, zb_0, zb_1, zq_lcl, zq_lcg, zq_lce, eq_self, ite_true, ite_false, e1, e2, e3]
    simp only [↓zs_197_43, ↓zs_197_44, ↓zs_197_47, ↓zs_197_48, ↓zs_197_51, ↓zs_197_54, ↓zs_197_57, ↓zs_197_58, ↓zs_197_61, ↓zs_197_62, ↓zs_197_65, ↓zs_197_68, ↓zs_197_71, ↓zs_197_72, ↓zs_197_73, zx_pu_s, zx_pu_n, zx_rv_s, zx_rv_n, true_and, and_true, true_or, or_true, zb_0, zb_1, zq_lcl, zq_lcg, zq_lce, eq_self, ite_true, ite_false, zf_op, zf_clamp]
    repeat' split
    all_goals rfl
  · have e1 : (nI 3002 < nI (3000 + 3)) = True := eq_true (by decide +kernel)
    have e2 : (nI (3000 + 3) = nI 3003) = True := eq_true rfl
    have e9 : (nI 1 = nI 0) = False := eq_false (by decide +kernel)
    simp only [↓zs_197_0, ↓zs_197_1, ↓zs_197_4, ↓zs_197_7, ↓zs_197_8, ↓zs_197_11, ↓zs_197_14, ↓zs_197_15, ↓zs_197_16, ↓zs_197_17, ↓zs_197_18, ↓zs_197_19, ↓zs_197_22, ↓zs_197_23, ↓zs_197_26, ↓zs_197_29, ↓zs_197_30, ↓zs_197_31, ↓zs_197_32, ↓zs_197_33, ↓zs_197_34, ↓zs_197_37, ↓zs_197_38, ↓zs_197_39, ↓zs_197_40, ↓zs_197_41, ↓zs_197_42, ↓zs_197_43, ↓zs_197_44, ↓zs_197_47, ↓zs_197_48, ↓zs_197_51, ↓zs_197_54, ↓zs_197_57, ↓zs_197_58, ↓zs_197_61, ↓zs_197_62, ↓zs_197_65, ↓zs_197_68, ↓zs_197_71, ↓zs_197_72, ↓zs_197_73, ↓zs_197_74, ↓zs_197_75, ↓zs_197_78, ↓zs_197_81, ↓zs_197_82, ↓zs_197_83, ↓zs_197_86, ↓zs_197_87, ↓zs_197_90, ↓zs_197_91, ↓zs_197_94, ↓zs_197_95, ↓zs_197_98, ↓zs_197_101, ↓zs_197_102, ↓zs_197_103, ↓zs_197_106, ↓zs_197_107, ↓zs_197_110, ↓zs_197_111, ↓zs_197_114, ↓zs_197_115, ↓zs_197_118, ↓zs_197_121, ↓zs_197_122, ↓zs_197_123, ↓zs_197_126, ↓zs_197_127, ↓zs_197_130, ↓zs_197_131, ↓zs_197_134, ↓zs_197_135, ↓zs_197_138, ↓zs_197_141, ↓zs_197_142, ↓zs_197_143, ↓zs_197_144, ↓zs_197_145, ↓zs_197_148, ↓zs_197_149, ↓zs_197_152, ↓zs_197_153, ↓zs_197_156, ↓zs_197_157, ↓zs_197_158, ↓zs_197_159, ↓zs_197_162, ↓zs_197_163, ↓zs_197_166, ↓zs_197_167, ↓zs_197_168, ↓zs_197_169, ↓zs_197_172, ↓zs_197_173, ↓zs_197_176, ↓zs_197_177, zx_pu_s, zx_pu_n, zx_rv_s, zx_rv_n, true_and, and_true, true_or, or_true, zb_0, zb_1, zq_lcl, zq_lcg, zq_lce, eq_self, ite_true, ite_false, e1, e2, e9, zf_op]
    by_cases h : a = b <;> simp only [h, if_true, if_false] <;> rfl
  · have e1 : (nI 3002 < nI (3000 + 4)) = True := eq_true (by decide +kernel)
    have e2 : (nI (3000 + 4) = nI 3003) = False := eq_false (by decide +kernel)
    have e3 : (nI (3000 + 4) = nI 3004) = True := eq_true rfl
    have e9 : (nI 1 = nI 0) = False := eq_false (by decide +kernel)
    simp only [↓zs_197_0, ↓zs_197_1, ↓zs_197_4, ↓zs_197_7, ↓zs_197_8, ↓zs_197_11, ↓zs_197_14, ↓zs_197_15, ↓zs_197_16, ↓zs_197_17, ↓zs_197_18, ↓zs_197_19, ↓zs_197_22, ↓zs_197_23, ↓zs_197_26, ↓zs_197_29, ↓zs_197_30, ↓zs_197_31, ↓zs_197_32, ↓zs_197_33, ↓zs_197_34, ↓zs_197_37, ↓zs_197_38, ↓zs_197_39, ↓zs_197_40, ↓zs_197_41, ↓zs_197_42, ↓zs_197_43, ↓zs_197_44, ↓zs_197_47, ↓zs_197_48, ↓zs_197_51, ↓zs_197_54, ↓zs_197_57, ↓zs_197_58, ↓zs_197_61, ↓zs_197_62, ↓zs_197_65, ↓zs_197_68, ↓zs_197_71, ↓zs_197_72, ↓zs_197_73, ↓zs_197_74, ↓zs_197_75, ↓zs_197_78, ↓zs_197_81, ↓zs_197_82, ↓zs_197_83, ↓zs_197_86, ↓zs_197_87, ↓zs_197_90, ↓zs_197_91, ↓zs_197_94, ↓zs_197_95, ↓zs_197_98, ↓zs_197_101, ↓zs_197_102, ↓zs_197_103, ↓zs_197_106, ↓zs_197_107, ↓zs_197_110, ↓zs_197_111, ↓zs_197_114, ↓zs_197_115, ↓zs_197_118, ↓zs_197_121, ↓zs_197_122, ↓zs_197_123, ↓zs_197_126, ↓zs_197_127, ↓zs_197_130, ↓zs_197_131, ↓zs_197_134, ↓zs_197_135, ↓zs_197_138, ↓zs_197_141, ↓zs_197_142, ↓zs_197_143, ↓zs_197_144, ↓zs_197_145, ↓zs_197_148, ↓zs_197_149, ↓zs_197_152, ↓zs_197_153, ↓zs_197_156, ↓zs_197_157, ↓zs_197_158, ↓zs_197_159, ↓zs_197_162, ↓zs_197_163, ↓zs_197_166, ↓zs_197_167, ↓zs_197_168, ↓zs_197_169, ↓zs_197_172, ↓zs_197_173, ↓zs_197_176, ↓zs_197_177, zx_pu_s, zx_pu_n, zx_rv_s, zx_rv_n, true_and, and_true, true_or, or_true, zb_0, zb_1, zq_lcl, zq_lcg, zq_lce, eq_self, ite_true, ite_false, e1, e2, e3, e9, zf_op]
    by_cases h : a < b <;> simp only [h, if_true, if_false] <;> rfl
  · have e1 : (nI 3002 < nI (3000 + 5)) = True := eq_true (by decide +kernel)
    have e2 : (nI (3000 + 5) = nI 3003) = False := eq_false (by decide +kernel)
    have e3 : (nI (3000 + 5) = nI 3004) = False := eq_false (by decide +kernel)
    have e4 : (nI (3000 + 5) = nI 3005) = True := eq_true rfl
    have e9 : (nI 1 = nI 0) = False := eq_false (by decide +kernel)
    simp only [↓zs_197_0, ↓zs_197_1, ↓zs_197_4, ↓zs_197_7, ↓zs_197_8, ↓zs_197_11, ↓zs_197_14, ↓zs_197_15, ↓zs_197_16, ↓zs_197_17, ↓zs_197_18, ↓zs_197_19, ↓zs_197_22, ↓zs_197_23, ↓zs_197_26, ↓zs_197_29, ↓zs_197_30, ↓zs_197_31, ↓zs_197_32, ↓zs_197_33, ↓zs_197_34, ↓zs_197_37, ↓zs_197_38, ↓zs_197_39, ↓zs_197_40, ↓zs_197_41, ↓zs_197_42, ↓zs_197_43, ↓zs_197_44, ↓zs_197_47, ↓zs_197_48, ↓zs_197_51, ↓zs_197_54, ↓zs_197_57, ↓zs_197_58, ↓zs_197_61, ↓zs_197_62, ↓zs_197_65, ↓zs_197_68, ↓zs_197_71, ↓zs_197_72, ↓zs_197_73, ↓zs_197_74, ↓zs_197_75, ↓zs_197_78, ↓zs_197_81, ↓zs_197_82, ↓zs_197_83, ↓zs_197_86, ↓zs_197_87, ↓zs_197_90, ↓zs_197_91, ↓zs_197_94, ↓zs_197_95, ↓zs_197_98, ↓zs_197_101, ↓zs_197_102, ↓zs_197_103, ↓zs_197_106, ↓zs_197_107, ↓zs_197_110, ↓zs_197_111, ↓zs_197_114, ↓zs_197_115, ↓zs_197_118, ↓zs_197_121, ↓zs_197_122, ↓zs_197_123, ↓zs_197_126, ↓zs_197_127, ↓zs_197_130, ↓zs_197_131, ↓zs_197_134, ↓zs_197_135, ↓zs_197_138, ↓zs_197_141, ↓zs_197_142, ↓zs_197_143, ↓zs_197_144, ↓zs_197_145, ↓zs_197_148, ↓zs_197_149, ↓zs_197_152, ↓zs_197_153, ↓zs_197_156, ↓zs_197_157, ↓zs_197_158, ↓zs_197_159, ↓zs_197_162, ↓zs_197_163, ↓zs_197_166, ↓zs_197_167, ↓zs_197_168, ↓zs_197_169, ↓zs_197_172, ↓zs_197_173, ↓zs_197_176, ↓zs_197_177, zx_pu_s, zx_pu_n, zx_rv_s, zx_rv_n, true_and, and_true, true_or, or_true, zb_0, zb_1, zq_lcl, zq_lcg, zq_lce, eq_self, ite_true, ite_false, e1, e2, e3, e4, e9, zf_op]
    by_cases h : b < a <;> simp only [h, if_true, if_false] <;> rfl
  · have e1 : (nI 3002 < nI (3000 + 6)) = True := eq_true (by decide +kernel)
    have e2 : (nI (3000 + 6) = nI 3003) = False := eq_false (by decide +kernel)
    have e3 : (nI (3000 + 6) = nI 3004) = False := eq_false (by decide +kernel)
    have e4 : (nI (3000 + 6) = nI 3005) = False := eq_false (by decide +kernel)
    have e5 : (nI (3000 + 6) = nI 3006) = True := eq_true rfl
    have e9 : (nI 1 = nI 0) = False := eq_false (by decide +kernel)
    simp only [↓zs_197_0, ↓zs_197_1, ↓zs_197_4, ↓zs_197_7, ↓zs_197_8, ↓zs_197_11, ↓zs_197_14, ↓zs_197_15, ↓zs_197_16, ↓zs_197_17, ↓zs_197_18, ↓zs_197_19, ↓zs_197_22, ↓zs_197_23, ↓zs_197_26, ↓zs_197_29, ↓zs_197_30, ↓zs_197_31, ↓zs_197_32, ↓zs_197_33, ↓zs_197_34, ↓zs_197_37, ↓zs_197_38, ↓zs_197_39, ↓zs_197_40, ↓zs_197_41, ↓zs_197_42, ↓zs_197_43, ↓zs_197_44, ↓zs_197_47, ↓zs_197_48, ↓zs_197_51, ↓zs_197_54, ↓zs_197_57, ↓zs_197_58, ↓zs_197_61, ↓zs_197_62, ↓zs_197_65, ↓zs_197_68, ↓zs_197_71, ↓zs_197_72, ↓zs_197_73, ↓zs_197_74, ↓zs_197_75, ↓zs_197_78, ↓zs_197_81, ↓zs_197_82, ↓zs_197_83, ↓zs_197_86, ↓zs_197_87, ↓zs_197_90, ↓zs_197_91, ↓zs_197_94, ↓zs_197_95, ↓zs_197_98, ↓zs_197_101, ↓zs_197_102, ↓zs_197_103, ↓zs_197_106, ↓zs_197_107, ↓zs_197_110, ↓zs_197_111, ↓zs_197_114, ↓zs_197_115, ↓zs_197_118, ↓zs_197_121, ↓zs_197_122, ↓zs_197_123, ↓zs_197_126, ↓zs_197_127, ↓zs_197_130, ↓zs_197_131, ↓zs_197_134, ↓zs_197_135, ↓zs_197_138, ↓zs_197_141, ↓zs_197_142, ↓zs_197_143, ↓zs_197_144, ↓zs_197_145, ↓zs_197_148, ↓zs_197_149, ↓zs_197_152, ↓zs_197_153, ↓zs_197_156, ↓zs_197_157, ↓zs_197_158, ↓zs_197_159, ↓zs_197_162, ↓zs_197_163, ↓zs_197_166, ↓zs_197_167, ↓zs_197_168, ↓zs_197_169, ↓zs_197_172, ↓zs_197_173, ↓zs_197_176, ↓zs_197_177, zx_pu_s, zx_pu_n, zx_rv_s, zx_rv_n, true_and, and_true, true_or, or_true, zb_0, zb_1, zq_lcl, zq_lcg, zq_lce, eq_self, ite_true, ite_false, e1, e2, e3, e4, e5, e9, zf_op]
    by_cases h : a + b = nI 2 <;> simp only [h, if_true, if_false] <;> rfl
  · have e1 : (nI 3002 < nI (3000 + 7)) = True := eq_true (by decide +kernel)
    have e2 : (nI (3000 + 7) = nI 3003) = False := eq_false (by decide +kernel)
    have e3 : (nI (3000 + 7) = nI 3004) = False := eq_false (by decide +kernel)
    have e4 : (nI (3000 + 7) = nI 3005) = False := eq_false (by decide +kernel)
    have e5 : (nI (3000 + 7) = nI 3006) = False := eq_false (by decide +kernel)
    have e9 : (nI 1 = nI 0) = False := eq_false (by decide +kernel)
    simp only [↓zs_197_0, ↓zs_197_1, ↓zs_197_4, ↓zs_197_7, ↓zs_197_8, ↓zs_197_11, ↓zs_197_14, ↓zs_197_15, ↓zs_197_16, ↓zs_197_17, ↓zs_197_18, ↓zs_197_19, ↓zs_197_22, ↓zs_197_23, ↓zs_197_26, ↓zs_197_29, ↓zs_197_30, ↓zs_197_31, ↓zs_197_32, ↓zs_197_33, ↓zs_197_34, ↓zs_197_37, ↓zs_197_38, ↓zs_197_39, ↓zs_197_40, ↓zs_197_41, ↓zs_197_42, ↓zs_197_43, ↓zs_197_44, ↓zs_197_47, ↓zs_197_48, ↓zs_197_51, ↓zs_197_54, ↓zs_197_57, ↓zs_197_58, ↓zs_197_61, ↓zs_197_62, ↓zs_197_65, ↓zs_197_68, ↓zs_197_71, ↓zs_197_72, ↓zs_197_73, ↓zs_197_74, ↓zs_197_75, ↓zs_197_78, ↓zs_197_81, ↓zs_197_82, ↓zs_197_83, ↓zs_197_86, ↓zs_197_87, ↓zs_197_90, ↓zs_197_91, ↓zs_197_94, ↓zs_197_95, ↓zs_197_98, ↓zs_197_101, ↓zs_197_102, ↓zs_197_103, ↓zs_197_106, ↓zs_197_107, ↓zs_197_110, ↓zs_197_111, ↓zs_197_114, ↓zs_197_115, ↓zs_197_118, ↓zs_197_121, ↓zs_197_122, ↓zs_197_123, ↓zs_197_126, ↓zs_197_127, ↓zs_197_130, ↓zs_197_131, ↓zs_197_134, ↓zs_197_135, ↓zs_197_138, ↓zs_197_141, ↓zs_197_142, ↓zs_197_143, ↓zs_197_144, ↓zs_197_145, ↓zs_197_148, ↓zs_197_149, ↓zs_197_152, ↓zs_197_153, ↓zs_197_156, ↓zs_197_157, ↓zs_197_158, ↓zs_197_159, ↓zs_197_162, ↓zs_197_163, ↓zs_197_166, ↓zs_197_167, ↓zs_197_168, ↓zs_197_169, ↓zs_197_172, ↓zs_197_173, ↓zs_197_176, ↓zs_197_177, zx_pu_s, zx_pu_n, zx_rv_s, zx_rv_n, true_and, and_true, true_or, or_true, zb_0, zb_1, zq_lcl, zq_lcg, zq_lce, eq_self, ite_true, ite_false, e1, e2, e3, e4, e5, e9, zf_op]
    by_cases h : nI 0 < a + b <;> simp only [h, if_true, if_false] <;> rfl
end OP
