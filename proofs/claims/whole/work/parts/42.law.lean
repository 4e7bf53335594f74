/-! the law of rest: the model's -/
/-- what word i says of a STATUE -/
def zf_word (B : Nat → Int32) (s i : Nat) : Int32 := match i with
  | 0 => nI (zt B)
  | 1 => nI (zt B % 7)
  | 2 => nI s
  | 3 => B (117 + s)
  | 4 => zf_off B (zw B) s
  | 5 => nI (zf_nat (B (109 + s)) % zw B)
  | 6 => nI (zf_nat (B (109 + s)) / zw B)
  | _ => nI (zf_cnt (zf_foeP B (nI s)) (zn B) 0)
/-- m signs of a code from k on, n numbers on the pile: what lies undermost at the end -/
def zf_run (cd wd : Nat → Int32) : Nat → Nat → Nat → (Nat → Int32) → Int32
  | 0, _, _, st => st 0
  | m + 1, k, n, st =>
    if zf_nat (cd k) < 3000 then zf_run cd wd m (k + 1) (n + 1) (zu1 st n (if zf_nat (cd k) < 1000 then nI (zf_nat (cd k)) else wd (zf_nat (cd k) - 1000)))
    else if zf_nat (cd k) = 3008 then zf_run cd wd m (k + 1) n (zu1 st (n - 1) (nI 1 - st (n - 1)))
    else zf_run cd wd m (k + 1) (n - 1) (zu1 st (n - 2) (zf_op (zf_nat (cd k) - 3000) (st (n - 2)) (st (n - 1))))
/-- a STATUE rests -/
def zf_rests (B : Nat → Int32) (s : Nat) : Bool := decide (0 < zk B) && decide (zf_run (fun k => B (386 + k)) (zf_word B s) (zk B) 0 0 (fun _ => nI 0) = nI 1)
theorem zu1_s (B : Nat → Int32) (i : Nat) (v : Int32) : zu1 B i v i = v := if_pos rfl
theorem zu1_n {B : Nat → Int32} {i j : Nat} {v : Int32} (h : j ≠ i) : zu1 B i v j = B j := if_neg h
/-- only the pile of the model is other -/
def zF1 (I I2 : zx_MI) : Prop := ∀ a, a ≠ 143 → I2 a = I a
theorem zF1_s {I I2 : zx_MI} (h : zF1 I I2) : zFs I I2 := fun a j n => congrFun (h a (fun e => n (.inl e))) j
theorem zq_dec (n : Nat) : nI (n + 1) + -1 = nI n := by rw [nI_succ, Int32.add_assoc, show (1 : Int32) + -1 = 0 by decide, Int32.add_zero]
section RL
variable {Lh w h N : Nat} {I : zx_MI} {J : zx_MJ}
theorem sp_wordOf {i s m : Nat} {d : Nat} {P : Option Value → zx_Lay → zx_MI → zx_MJ → Prop} (v : zV (I 139) m) (hm : m < 2 ^ 30) (hs : s < 8) (hi : i < 8) (hf : zf_hasFoe (I 139) s = true) : zx_rn (d + 4) 199 [.ref 138, .int (nI i), .int (nI s)] (zx_LL Lh) I J P = P (some (.int (zf_word (I 139) s i))) (zx_LL Lh) I J := by
  obtain ⟨ok, -, -, -, -, -, e133, hz⟩ := v
  obtain ⟨⟨hw, hh, hN, w8, h8, N8⟩, hst⟩ := ok
  obtain ⟨f, p, q, hf8, hp, hq, i1, i2, i3⟩ := zM_hasFoe ⟨⟨hw, hh, hN, w8, h8, N8⟩, hst⟩ hs hf
  have hwh : zw (I 139) * zh (I 139) ≤ 64 := Nat.mul_le_mul w8 h8
  have w0 : 0 < zw (I 139) := Nat.pos_of_ne_zero (fun e => by rw [e, Nat.zero_mul] at hp; omega)
  have w00 : (nI (zw (I 139)) = 0) = False := eq_false (nI_ne0 w0 (by omega))
  have h70 : (nI 7 = 0) = False := eq_false (by decide)
  have offe := fun P => sp_offOf (d := d) (Lh := Lh) (J := J) (P := P) hs ⟨⟨hw, hh, hN, w8, h8, N8⟩, hst⟩
  have foes := fun P => sp_foesOf (d := d + 2) (Lh := Lh) (J := J) (P := P) (x := nI s) hN N8
  have e2 : zf_nat (nI p) = p := nI_clamp (by omega)
  rw [ze_199]
  rcases (show i = 0 ∨ i = 1 ∨ i = 2 ∨ i = 3 ∨ i = 4 ∨ i = 5 ∨ i = 6 ∨ i = 7 by omega) with e | e | e | e | e | e | e | e <;> subst e
  · have e0 : (nI 0 = nI 0) = True := eq_true rfl
    simp (disch := omega) only [↓zs_199_0, ↓zs_199_1, ↓zs_199_44, ↓zs_199_45, ↓zs_199_48, ↓zs_199_51, ↓zs_199_52, ↓zs_199_53, ↓zs_199_54, ↓zs_199_57, ↓zs_199_60, ↓zs_199_61, ↓zs_199_63, ↓zs_199_64, ↓zs_199_65, ↓zs_199_66, ↓zs_199_67, ↓zs_199_68, ↓zs_199_71, ↓zs_199_73, ↓zs_199_74, ↓zs_199_75, ↓zs_199_76, ↓zs_199_77, ↓zs_199_78, ↓zs_199_79, ↓zs_199_82, ↓zs_199_83, ↓zs_199_84, ↓zs_199_87, ↓zs_199_89, ↓zs_199_90, ↓zs_199_91, ↓zs_199_92, ↓zs_199_93, ↓zs_199_96, ↓zs_199_97, ↓zs_199_98, ↓zs_199_99, ↓zs_199_100, ↓zs_199_101, ↓zs_199_104, ↓zs_199_106, ↓zs_199_107, ↓zs_199_108, ↓zs_199_109, ↓zs_199_110, ↓zs_199_113, ↓zs_199_114, ↓zs_199_115, ↓zs_199_116, ↓zs_199_117, ↓zs_199_118, ↓zs_199_119, ↓zs_199_122, zx_pu_s, zx_pu_n, zx_rv_s, zx_rv_n, true_and, and_true, true_or, or_true, zb_0, zb_1, zq_lcl, zq_lcg, zq_lce, eq_self, ite_true, ite_false, zk_138, zw_138, zk_139, zw_139, zk_140, zw_140, zk_141, zw_141, zk_142, zw_142, zk_143, zw_143, zk_144, zw_144, zk_145, zw_145, zk_146, zw_146, zk_147, zw_147, zk_148, zw_148, zk_149, zw_149, zk_150, zw_150, zk_151, zw_151, zk_152, zw_152, zq_138_1, zq_138_2, zq_138_3, zq_138_4, zq_138_16, zq_138_19, zq_138_20, zq_138_24, zq_138_25, zq_138_26, zq_138_27, zq_138_31, zq_138_32, zq_138_33, zn_10, zn_40, zn_040, zn_340, nI_add, zin_nI, nI_clamp, nI_ltI, nI_eq, pk_mul, nI_l, zi_c, zi_n, e0, e133, zf_word]
  · have e0 : (nI 1 = nI 0) = False := eq_false (by decide)
    simp (disch := omega) only [↓zs_199_0, ↓zs_199_1, ↓zs_199_44, ↓zs_199_45, ↓zs_199_48, ↓zs_199_51, ↓zs_199_52, ↓zs_199_53, ↓zs_199_54, ↓zs_199_57, ↓zs_199_60, ↓zs_199_61, ↓zs_199_63, ↓zs_199_64, ↓zs_199_65, ↓zs_199_66, ↓zs_199_67, ↓zs_199_68, ↓zs_199_71, ↓zs_199_73, ↓zs_199_74, ↓zs_199_75, ↓zs_199_76, ↓zs_199_77, ↓zs_199_78, ↓zs_199_79, ↓zs_199_82, ↓zs_199_83, ↓zs_199_84, ↓zs_199_87, ↓zs_199_89, ↓zs_199_90, ↓zs_199_91, ↓zs_199_92, ↓zs_199_93, ↓zs_199_96, ↓zs_199_97, ↓zs_199_98, ↓zs_199_99, ↓zs_199_100, ↓zs_199_101, ↓zs_199_104, ↓zs_199_106, ↓zs_199_107, ↓zs_199_108, ↓zs_199_109, ↓zs_199_110, ↓zs_199_113, ↓zs_199_114, ↓zs_199_115, ↓zs_199_116, ↓zs_199_117, ↓zs_199_118, ↓zs_199_119, ↓zs_199_122, zx_pu_s, zx_pu_n, zx_rv_s, zx_rv_n, true_and, and_true, true_or, or_true, zb_0, zb_1, zq_lcl, zq_lcg, zq_lce, eq_self, ite_true, ite_false, zk_138, zw_138, zk_139, zw_139, zk_140, zw_140, zk_141, zw_141, zk_142, zw_142, zk_143, zw_143, zk_144, zw_144, zk_145, zw_145, zk_146, zw_146, zk_147, zw_147, zk_148, zw_148, zk_149, zw_149, zk_150, zw_150, zk_151, zw_151, zk_152, zw_152, zq_138_1, zq_138_2, zq_138_3, zq_138_4, zq_138_16, zq_138_19, zq_138_20, zq_138_24, zq_138_25, zq_138_26, zq_138_27, zq_138_31, zq_138_32, zq_138_33, zin_nI, nI_clamp, zi_c, zi_n, e0, e133, zf_word, h70, not_false_eq_true, pk_div, pk_mul, zq_rem]
  · have e0 : (nI 2 = nI 0) = False := eq_false (by decide)
    have e1 : (nI 2 = nI 1) = False := eq_false (by decide)
    simp (disch := omega) only [↓zs_199_0, ↓zs_199_1, ↓zs_199_44, ↓zs_199_45, ↓zs_199_48, ↓zs_199_51, ↓zs_199_52, ↓zs_199_53, ↓zs_199_54, ↓zs_199_57, ↓zs_199_60, ↓zs_199_61, ↓zs_199_63, ↓zs_199_64, ↓zs_199_65, ↓zs_199_66, ↓zs_199_67, ↓zs_199_68, ↓zs_199_71, ↓zs_199_73, ↓zs_199_74, ↓zs_199_75, ↓zs_199_76, ↓zs_199_77, ↓zs_199_78, ↓zs_199_79, ↓zs_199_82, ↓zs_199_83, ↓zs_199_84, ↓zs_199_87, ↓zs_199_89, ↓zs_199_90, ↓zs_199_91, ↓zs_199_92, ↓zs_199_93, ↓zs_199_96, ↓zs_199_97, ↓zs_199_98, ↓zs_199_99, ↓zs_199_100, ↓zs_199_101, ↓zs_199_104, ↓zs_199_106, ↓zs_199_107, ↓zs_199_108, ↓zs_199_109, ↓zs_199_110, ↓zs_199_113, ↓zs_199_114, ↓zs_199_115, ↓zs_199_116, ↓zs_199_117, ↓zs_199_118, ↓zs_199_119, ↓zs_199_122, zx_pu_s, zx_pu_n, zx_rv_s, zx_rv_n, true_and, and_true, true_or, or_true, zb_0, zb_1, zq_lcl, zq_lcg, zq_lce, eq_self, ite_true, ite_false, zk_138, zw_138, zk_139, zw_139, zk_140, zw_140, zk_141, zw_141, zk_142, zw_142, zk_143, zw_143, zk_144, zw_144, zk_145, zw_145, zk_146, zw_146, zk_147, zw_147, zk_148, zw_148, zk_149, zw_149, zk_150, zw_150, zk_151, zw_151, zk_152, zw_152, zq_138_1, zq_138_2, zq_138_3, zq_138_4, zq_138_16, zq_138_19, zq_138_20, zq_138_24, zq_138_25, zq_138_26, zq_138_27, zq_138_31, zq_138_32, zq_138_33, zn_10, zn_40, zn_040, zn_340, nI_add, zin_nI, nI_clamp, nI_ltI, nI_eq, pk_mul, nI_l, zi_c, zi_n, e0, e1, zf_word]
  · have e0 : (nI 3 = nI 0) = False := eq_false (by decide)
    have e1 : (nI 3 = nI 1) = False := eq_false (by decide)
    have e2 : (nI 3 = nI 2) = False := eq_false (by decide)
    simp (disch := omega) only [↓zs_199_0, ↓zs_199_1, ↓zs_199_44, ↓zs_199_45, ↓zs_199_48, ↓zs_199_51, ↓zs_199_52, ↓zs_199_53, ↓zs_199_54, ↓zs_199_57, ↓zs_199_60, ↓zs_199_61, ↓zs_199_63, ↓zs_199_64, ↓zs_199_65, ↓zs_199_66, ↓zs_199_67, ↓zs_199_68, ↓zs_199_71, ↓zs_199_73, ↓zs_199_74, ↓zs_199_75, ↓zs_199_76, ↓zs_199_77, ↓zs_199_78, ↓zs_199_79, ↓zs_199_82, ↓zs_199_83, ↓zs_199_84, ↓zs_199_87, ↓zs_199_89, ↓zs_199_90, ↓zs_199_91, ↓zs_199_92, ↓zs_199_93, ↓zs_199_96, ↓zs_199_97, ↓zs_199_98, ↓zs_199_99, ↓zs_199_100, ↓zs_199_101, ↓zs_199_104, ↓zs_199_106, ↓zs_199_107, ↓zs_199_108, ↓zs_199_109, ↓zs_199_110, ↓zs_199_113, ↓zs_199_114, ↓zs_199_115, ↓zs_199_116, ↓zs_199_117, ↓zs_199_118, ↓zs_199_119, ↓zs_199_122, zx_pu_s, zx_pu_n, zx_rv_s, zx_rv_n, true_and, and_true, true_or, or_true, zb_0, zb_1, zq_lcl, zq_lcg, zq_lce, eq_self, ite_true, ite_false, zk_138, zw_138, zk_139, zw_139, zk_140, zw_140, zk_141, zw_141, zk_142, zw_142, zk_143, zw_143, zk_144, zw_144, zk_145, zw_145, zk_146, zw_146, zk_147, zw_147, zk_148, zw_148, zk_149, zw_149, zk_150, zw_150, zk_151, zw_151, zk_152, zw_152, zq_138_1, zq_138_2, zq_138_3, zq_138_4, zq_138_16, zq_138_19, zq_138_20, zq_138_24, zq_138_25, zq_138_26, zq_138_27, zq_138_31, zq_138_32, zq_138_33, zn_10, zn_40, zn_040, zn_340, nI_add, zin_nI, nI_clamp, nI_ltI, nI_eq, pk_mul, nI_l, zi_c, zi_n, e0, e1, e2, zf_word]
  · have e0 : (nI 4 = nI 0) = False := eq_false (by decide)
    have e1 : (nI 4 = nI 1) = False := eq_false (by decide)
    have e2 : (nI 4 = nI 2) = False := eq_false (by decide)
    have e3 : (nI 4 = nI 3) = False := eq_false (by decide)
    simp (disch := omega) only [↓zs_199_0, ↓zs_199_1, ↓zs_199_44, ↓zs_199_45, ↓zs_199_48, ↓zs_199_51, ↓zs_199_52, ↓zs_199_53, ↓zs_199_54, ↓zs_199_57, ↓zs_199_60, ↓zs_199_61, ↓zs_199_63, ↓zs_199_64, ↓zs_199_65, ↓zs_199_66, ↓zs_199_67, ↓zs_199_68, ↓zs_199_71, ↓zs_199_73, ↓zs_199_74, ↓zs_199_75, ↓zs_199_76, ↓zs_199_77, ↓zs_199_78, ↓zs_199_79, ↓zs_199_82, ↓zs_199_83, ↓zs_199_84, ↓zs_199_87, ↓zs_199_89, ↓zs_199_90, ↓zs_199_91, ↓zs_199_92, ↓zs_199_93, ↓zs_199_96, ↓zs_199_97, ↓zs_199_98, ↓zs_199_99, ↓zs_199_100, ↓zs_199_101, ↓zs_199_104, ↓zs_199_106, ↓zs_199_107, ↓zs_199_108, ↓zs_199_109, ↓zs_199_110, ↓zs_199_113, ↓zs_199_114, ↓zs_199_115, ↓zs_199_116, ↓zs_199_117, ↓zs_199_118, ↓zs_199_119, ↓zs_199_122, zx_pu_s, zx_pu_n, zx_rv_s, zx_rv_n, true_and, and_true, true_or, or_true, zb_0, zb_1, zq_lcl, zq_lcg, zq_lce, eq_self, ite_true, ite_false, zk_138, zw_138, zk_139, zw_139, zk_140, zw_140, zk_141, zw_141, zk_142, zw_142, zk_143, zw_143, zk_144, zw_144, zk_145, zw_145, zk_146, zw_146, zk_147, zw_147, zk_148, zw_148, zk_149, zw_149, zk_150, zw_150, zk_151, zw_151, zk_152, zw_152, zq_138_1, zq_138_2, zq_138_3, zq_138_4, zq_138_16, zq_138_19, zq_138_20, zq_138_24, zq_138_25, zq_138_26, zq_138_27, zq_138_31, zq_138_32, zq_138_33, zn_10, zn_40, zn_040, zn_340, nI_add, zin_nI, nI_clamp, nI_ltI, nI_eq, pk_mul, nI_l, zi_c, zi_n, e0, e1, e2, e3, offe, zf_word]
  · have e0 : (nI 5 = nI 0) = False := eq_false (by decide)
    have e1 : (nI 5 = nI 1) = False := eq_false (by decide)
    have e2 : (nI 5 = nI 2) = False := eq_false (by decide)
    have e3 : (nI 5 = nI 3) = False := eq_false (by decide)
    have e4 : (nI 5 = nI 4) = False := eq_false (by decide)
    have e9 : zf_nat (nI p) = p := nI_clamp (by omega)
    simp (disch := omega) only [↓zs_199_0, ↓zs_199_1, ↓zs_199_44, ↓zs_199_45, ↓zs_199_48, ↓zs_199_51, ↓zs_199_52, ↓zs_199_53, ↓zs_199_54, ↓zs_199_57, ↓zs_199_60, ↓zs_199_61, ↓zs_199_63, ↓zs_199_64, ↓zs_199_65, ↓zs_199_66, ↓zs_199_67, ↓zs_199_68, ↓zs_199_71, ↓zs_199_73, ↓zs_199_74, ↓zs_199_75, ↓zs_199_76, ↓zs_199_77, ↓zs_199_78, ↓zs_199_79, ↓zs_199_82, ↓zs_199_83, ↓zs_199_84, ↓zs_199_87, ↓zs_199_89, ↓zs_199_90, ↓zs_199_91, ↓zs_199_92, ↓zs_199_93, ↓zs_199_96, ↓zs_199_97, ↓zs_199_98, ↓zs_199_99, ↓zs_199_100, ↓zs_199_101, ↓zs_199_104, ↓zs_199_106, ↓zs_199_107, ↓zs_199_108, ↓zs_199_109, ↓zs_199_110, ↓zs_199_113, ↓zs_199_114, ↓zs_199_115, ↓zs_199_116, ↓zs_199_117, ↓zs_199_118, ↓zs_199_119, ↓zs_199_122, zx_pu_s, zx_pu_n, zx_rv_s, zx_rv_n, true_and, and_true, true_or, or_true, zb_0, zb_1, zq_lcl, zq_lcg, zq_lce, eq_self, ite_true, ite_false, zk_138, zw_138, zk_139, zw_139, zk_140, zw_140, zk_141, zw_141, zk_142, zw_142, zk_143, zw_143, zk_144, zw_144, zk_145, zw_145, zk_146, zw_146, zk_147, zw_147, zk_148, zw_148, zk_149, zw_149, zk_150, zw_150, zk_151, zw_151, zk_152, zw_152, zq_138_1, zq_138_2, zq_138_3, zq_138_4, zq_138_16, zq_138_19, zq_138_20, zq_138_24, zq_138_25, zq_138_26, zq_138_27, zq_138_31, zq_138_32, zq_138_33, zin_nI, nI_clamp, nI_add, zi_c, zi_n, e0, e1, e2, e3, e4, zf_word, i2, e9, hw, w00, not_false_eq_true, pk_div, pk_mul, zq_rem]
  · have e0 : (nI 6 = nI 0) = False := eq_false (by decide)
    have e1 : (nI 6 = nI 1) = False := eq_false (by decide)
    have e2 : (nI 6 = nI 2) = False := eq_false (by decide)
    have e3 : (nI 6 = nI 3) = False := eq_false (by decide)
    have e4 : (nI 6 = nI 4) = False := eq_false (by decide)
    have e5 : (nI 6 = nI 5) = False := eq_false (by decide)
    have e9 : zf_nat (nI p) = p := nI_clamp (by omega)
    simp (disch := omega) only [↓zs_199_0, ↓zs_199_1, ↓zs_199_44, ↓zs_199_45, ↓zs_199_48, ↓zs_199_51, ↓zs_199_52, ↓zs_199_53, ↓zs_199_54, ↓zs_199_57, ↓zs_199_60, ↓zs_199_61, ↓zs_199_63, ↓zs_199_64, ↓zs_199_65, ↓zs_199_66, ↓zs_199_67, ↓zs_199_68, ↓zs_199_71, ↓zs_199_73, ↓zs_199_74, ↓zs_199_75, ↓zs_199_76, ↓zs_199_77, ↓zs_199_78, ↓zs_199_79, ↓zs_199_82, ↓zs_199_83, ↓zs_199_84, ↓zs_199_87, ↓zs_199_89, ↓zs_199_90, ↓zs_199_91, ↓zs_199_92, ↓zs_199_93, ↓zs_199_96, ↓zs_199_97, ↓zs_199_98, ↓zs_199_99, ↓zs_199_100, ↓zs_199_101, ↓zs_199_104, ↓zs_199_106, ↓zs_199_107, ↓zs_199_108, ↓zs_199_109, ↓zs_199_110, ↓zs_199_113, ↓zs_199_114, ↓zs_199_115, ↓zs_199_116, ↓zs_199_117, ↓zs_199_118, ↓zs_199_119, ↓zs_199_122, zx_pu_s, zx_pu_n, zx_rv_s, zx_rv_n, true_and, and_true, true_or, or_true, zb_0, zb_1, zq_lcl, zq_lcg, zq_lce, eq_self, ite_true, ite_false, zk_138, zw_138, zk_139, zw_139, zk_140, zw_140, zk_141, zw_141, zk_142, zw_142, zk_143, zw_143, zk_144, zw_144, zk_145, zw_145, zk_146, zw_146, zk_147, zw_147, zk_148, zw_148, zk_149, zw_149, zk_150, zw_150, zk_151, zw_151, zk_152, zw_152, zq_138_1, zq_138_2, zq_138_3, zq_138_4, zq_138_16, zq_138_19, zq_138_20, zq_138_24, zq_138_25, zq_138_26, zq_138_27, zq_138_31, zq_138_32, zq_138_33, zin_nI, nI_clamp, nI_add, zi_c, zi_n, e0, e1, e2, e3, e4, e5, zf_word, i2, e9, hw, w00, not_false_eq_true, pk_div]
  · have e0 : (nI 7 = nI 0) = False := eq_false (by decide)
    have e1 : (nI 7 = nI 1) = False := eq_false (by decide)
    have e2 : (nI 7 = nI 2) = False := eq_false (by decide)
    have e3 : (nI 7 = nI 3) = False := eq_false (by decide)
    have e4 : (nI 7 = nI 4) = False := eq_false (by decide)
    have e5 : (nI 7 = nI 5) = False := eq_false (by decide)
    have e6 : (nI 7 = nI 6) = False := eq_false (by decide)
    simp (disch := omega) only [↓zs_199_0, ↓zs_199_1, ↓zs_199_44, ↓zs_199_45, ↓zs_199_48, ↓zs_199_51, ↓zs_199_52, ↓zs_199_53, ↓zs_199_54, ↓zs_199_57, ↓zs_199_60, ↓zs_199_61, ↓zs_199_63, ↓zs_199_64, ↓zs_199_65, ↓zs_199_66, ↓zs_199_67, ↓zs_199_68, ↓zs_199_71, ↓zs_199_73, ↓zs_199_74, ↓zs_199_75, ↓zs_199_76, ↓zs_199_77, ↓zs_199_78, ↓zs_199_79, ↓zs_199_82, ↓zs_199_83, ↓zs_199_84, ↓zs_199_87, ↓zs_199_89, ↓zs_199_90, ↓zs_199_91, ↓zs_199_92, ↓zs_199_93, ↓zs_199_96, ↓zs_199_97, ↓zs_199_98, ↓zs_199_99, ↓zs_199_100, ↓zs_199_101, ↓zs_199_104, ↓zs_199_106, ↓zs_199_107, ↓zs_199_108, ↓zs_199_109, ↓zs_199_110, ↓zs_199_113, ↓zs_199_114, ↓zs_199_115, ↓zs_199_116, ↓zs_199_117, ↓zs_199_118, ↓zs_199_119, ↓zs_199_122, zx_pu_s, zx_pu_n, zx_rv_s, zx_rv_n, true_and, and_true, true_or, or_true, zb_0, zb_1, zq_lcl, zq_lcg, zq_lce, eq_self, ite_true, ite_false, zk_138, zw_138, zk_139, zw_139, zk_140, zw_140, zk_141, zw_141, zk_142, zw_142, zk_143, zw_143, zk_144, zw_144, zk_145, zw_145, zk_146, zw_146, zk_147, zw_147, zk_148, zw_148, zk_149, zw_149, zk_150, zw_150, zk_151, zw_151, zk_152, zw_152, zq_138_1, zq_138_2, zq_138_3, zq_138_4, zq_138_16, zq_138_19, zq_138_20, zq_138_24, zq_138_25, zq_138_26, zq_138_27, zq_138_31, zq_138_32, zq_138_33, zn_10, zn_40, zn_040, zn_340, nI_add, zin_nI, nI_clamp, nI_ltI, nI_eq, pk_mul, nI_l, zi_c, zi_n, e0, e1, e2, e3, e4, e5, e6, foes, zf_word]
theorem sp_rests {s mm : Nat} (v : zV (I 139) mm) (hm : mm < 2 ^ 30) (hs : s < 8) (hf : zf_hasFoe (I 139) s = true) : ∃ I2, zF1 I I2 ∧ ∀ d P, zx_rn (d + 5) 200 [.ref 138, .int (nI s)] (zx_LL Lh) I J P = P (some (.int (zB (zf_rests (I 139) s)))) (zx_LL Lh) I2 J := by
  obtain ⟨l1, l2, l3, l4⟩ := v.2.2.2.2.2.1
  generalize eK : zk (I 139) = K at *
  have loop : ∀ m k n ts st I1 v4, zf_ty (fun k => I 139 (386 + k)) m k ts = some [true] → ts.length = n → n ≤ 60 → k + m = K → zF1 I I1 → (∀ i, i < n → I1 143 i = st i) → ∃ I2, zF1 I I2 ∧ ∀ d P, zx_wp (d + 5) 200 16 [.ref 138, .int (nI s), .int (nI n), .int (nI k), v4] [] (zx_LL Lh) I1 J P = P (some (.int (zB (decide (zf_run (fun k => I 139 (386 + k)) (zf_word (I 139) s) m k n st = nI 1))))) (zx_LL Lh) I2 J := by
    clear l4
    intro m
    induction m with
    | zero =>
      intro k n ts st I1 v4 ht hn hn6 hk f hst
      have e := f 139 (by decide)
      rw [zf_ty] at ht
      cases ht
      have hn1 : n = 1 := hn.symm
      have e0 := hst 0 (by omega)
      refine ⟨I1, f, fun d P => ?_⟩
      rw [zs_200_16]
      have hlt : ¬ k < K := by omega
      simp (disch := omega) only [↓zs_200_0, ↓zs_200_1, ↓zs_200_4, ↓zs_200_6, ↓zs_200_7, ↓zs_200_10, ↓zs_200_11, ↓zs_200_12, ↓zs_200_13, ↓zs_200_14, ↓zs_200_15, ↓zs_200_17, ↓zs_200_18, ↓zs_200_21, ↓zs_200_24, ↓zs_200_25, ↓zs_200_28, ↓zs_200_29, ↓zs_200_32, ↓zs_200_35, ↓zs_200_36, ↓zs_200_37, ↓zs_200_38, ↓zs_200_40, ↓zs_200_42, ↓zs_200_45, ↓zs_200_48, ↓zs_200_49, ↓zs_200_52, ↓zs_200_53, ↓zs_200_55, ↓zs_200_58, ↓zs_200_61, ↓zs_200_63, ↓zs_200_66, ↓zs_200_67, ↓zs_200_69, ↓zs_200_72, ↓zs_200_73, ↓zs_200_74, ↓zs_200_77, ↓zs_200_78, ↓zs_200_81, ↓zs_200_84, ↓zs_200_86, ↓zs_200_89, ↓zs_200_92, ↓zs_200_93, ↓zs_200_96, ↓zs_200_97, ↓zs_200_98, ↓zs_200_99, ↓zs_200_100, ↓zs_200_101, ↓zs_200_104, ↓zs_200_105, ↓zs_200_106, ↓zs_200_107, ↓zs_200_108, ↓zs_200_109, ↓zs_200_110, ↓zs_200_113, ↓zs_200_116, ↓zs_200_117, ↓zs_200_120, ↓zs_200_121, ↓zs_200_122, ↓zs_200_123, ↓zs_200_125, ↓zs_200_126, ↓zs_200_129, ↓zs_200_130, ↓zs_200_131, ↓zs_200_132, ↓zs_200_133, ↓zs_200_134, ↓zs_200_137, ↓zs_200_138, ↓zs_200_139, ↓zs_200_142, ↓zs_200_143, ↓zs_200_146, ↓zs_200_149, ↓zs_200_150, ↓zs_200_153, ↓zs_200_154, ↓zs_200_155, ↓zs_200_156, ↓zs_200_159, ↓zs_200_160, ↓zs_200_163, ↓zs_200_164, zx_pu_s, zx_pu_n, zx_rv_s, zx_rv_n, true_and, and_true, true_or, or_true, zb_0, zb_1, zq_lcl, zq_lcg, zq_lce, eq_self, ite_true, ite_false, zk_138, zw_138, zk_139, zw_139, zk_140, zw_140, zk_141, zw_141, zk_142, zw_142, zk_143, zw_143, zk_144, zw_144, zk_145, zw_145, zk_146, zw_146, zk_147, zw_147, zk_148, zw_148, zk_149, zw_149, zk_150, zw_150, zk_151, zw_151, zk_152, zw_152, zq_138_1, zq_138_2, zq_138_3, zq_138_4, zq_138_16, zq_138_19, zq_138_20, zq_138_24, zq_138_25, zq_138_26, zq_138_27, zq_138_31, zq_138_32, zq_138_33, zn_10, zn_40, zn_040, zn_340, nI_add, zin_nI, nI_clamp, nI_ltI, nI_eq, pk_mul, nI_l, e, l1, hlt, e0, zf_run]
      by_cases c : st 0 = nI 1 <;> simp only [c, if_true, if_false] <;> rfl
    | succ m ih =>
      intro k n ts st I1 v4 ht hn hn6 hk f hst
      have e := f 139 (by decide)
      have hlt : k < K := by omega
      obtain ⟨c1, c2⟩ := l3 k hlt
      generalize eE : zf_nat (I 139 (386 + k)) = E at *
      have hf1 : zf_hasFoe (I1 139) s = true := by rw [e]; exact hf
      have hv1 : zV (I1 139) mm := by rw [e]; exact v
      rw [zf_ty] at ht
      rw [zf_run]
      simp only [eE] at ht ⊢
      rcases c2 with c2 | ⟨c2, c3⟩
      · rw [if_pos (by omega)] at ht
        by_cases hl : ts.length < 60
        · rw [if_pos hl] at ht
          rw [if_pos (by omega)]
          by_cases h1 : E < 1000
          · rw [if_pos h1]
            obtain ⟨I2, f2, h2⟩ := ih (k + 1) (n + 1) (false :: ts) (zu1 st n (nI E)) (zx_u I1 143 n (nI E)) (.int (nI E)) ht (by rw [List.length_cons, hn]) (by omega) (by omega) (fun a h9 => (zu_o h9).trans (f a h9)) (by
              intro i hi
              by_cases q : i = n
              · rw [q, zu_s, zu1_s]
              · rw [zu_n (fun e9 => q e9.2), zu1_n q]; exact hst i (by omega))
            refine ⟨I2, f2, fun d P => ?_⟩
            rw [zs_200_16, ← h2 d P]
            have e3 : E < 3000 := by omega
            simp (disch := omega) only [↓zs_200_0, ↓zs_200_1, ↓zs_200_4, ↓zs_200_6, ↓zs_200_7, ↓zs_200_10, ↓zs_200_11, ↓zs_200_12, ↓zs_200_13, ↓zs_200_14, ↓zs_200_15, ↓zs_200_17, ↓zs_200_18, ↓zs_200_21, ↓zs_200_24, ↓zs_200_25, ↓zs_200_28, ↓zs_200_29, ↓zs_200_32, ↓zs_200_35, ↓zs_200_36, ↓zs_200_37, ↓zs_200_38, ↓zs_200_40, ↓zs_200_42, ↓zs_200_45, ↓zs_200_48, ↓zs_200_49, ↓zs_200_52, ↓zs_200_53, ↓zs_200_55, ↓zs_200_58, ↓zs_200_61, ↓zs_200_63, ↓zs_200_66, ↓zs_200_67, ↓zs_200_69, ↓zs_200_72, ↓zs_200_73, ↓zs_200_74, ↓zs_200_77, ↓zs_200_78, ↓zs_200_81, ↓zs_200_84, ↓zs_200_86, ↓zs_200_89, ↓zs_200_92, ↓zs_200_93, ↓zs_200_96, ↓zs_200_97, ↓zs_200_98, ↓zs_200_99, ↓zs_200_100, ↓zs_200_101, ↓zs_200_104, ↓zs_200_105, ↓zs_200_106, ↓zs_200_107, ↓zs_200_108, ↓zs_200_109, ↓zs_200_110, ↓zs_200_113, ↓zs_200_116, ↓zs_200_117, ↓zs_200_120, ↓zs_200_121, ↓zs_200_122, ↓zs_200_123, ↓zs_200_125, ↓zs_200_126, ↓zs_200_129, ↓zs_200_130, ↓zs_200_131, ↓zs_200_132, ↓zs_200_133, ↓zs_200_134, ↓zs_200_137, ↓zs_200_138, ↓zs_200_139, ↓zs_200_142, ↓zs_200_143, ↓zs_200_146, ↓zs_200_149, ↓zs_200_150, ↓zs_200_153, ↓zs_200_154, ↓zs_200_155, ↓zs_200_156, ↓zs_200_159, ↓zs_200_160, ↓zs_200_163, ↓zs_200_164, zx_pu_s, zx_pu_n, zx_rv_s, zx_rv_n, true_and, and_true, true_or, or_true, zb_0, zb_1, zq_lcl, zq_lcg, zq_lce, eq_self, ite_true, ite_false, zk_138, zw_138, zk_139, zw_139, zk_140, zw_140, zk_141, zw_141, zk_142, zw_142, zk_143, zw_143, zk_144, zw_144, zk_145, zw_145, zk_146, zw_146, zk_147, zw_147, zk_148, zw_148, zk_149, zw_149, zk_150, zw_150, zk_151, zw_151, zk_152, zw_152, zq_138_1, zq_138_2, zq_138_3, zq_138_4, zq_138_16, zq_138_19, zq_138_20, zq_138_24, zq_138_25, zq_138_26, zq_138_27, zq_138_31, zq_138_32, zq_138_33, zn_10, zn_40, zn_040, zn_340, nI_add, zin_nI, nI_clamp, nI_ltI, nI_eq, pk_mul, nI_l, e, l1, hlt, c1, h1, e3, nI_1]
          · rw [if_neg h1]
            have hw := fun d P => sp_wordOf (Lh := Lh) (J := J) (d := d) (P := P) (i := E - 1000) (s := s) hv1 hm hs (by omega) hf1
            rw [e] at hw
            obtain ⟨I2, f2, h2⟩ := ih (k + 1) (n + 1) (false :: ts) (zu1 st n (zf_word (I 139) s (E - 1000))) (zx_u I1 143 n (zf_word (I 139) s (E - 1000))) (.int (nI E)) ht (by rw [List.length_cons, hn]) (by omega) (by omega) (fun a h9 => (zu_o h9).trans (f a h9)) (by
              intro i hi
              by_cases q : i = n
              · rw [q, zu_s, zu1_s]
              · rw [zu_n (fun e9 => q e9.2), zu1_n q]; exact hst i (by omega))
            refine ⟨I2, f2, fun d P => ?_⟩
            rw [zs_200_16, ← h2 d P]
            have e3 : E < 3000 := by omega
            simp (disch := omega) only [↓zs_200_0, ↓zs_200_1, ↓zs_200_4, ↓zs_200_6, ↓zs_200_7, ↓zs_200_10, ↓zs_200_11, ↓zs_200_12, ↓zs_200_13, ↓zs_200_14, ↓zs_200_15, ↓zs_200_17, ↓zs_200_18, ↓zs_200_21, ↓zs_200_24, ↓zs_200_25, ↓zs_200_28, ↓zs_200_29, ↓zs_200_32, ↓zs_200_35, ↓zs_200_36, ↓zs_200_37, ↓zs_200_38, ↓zs_200_40, ↓zs_200_42, ↓zs_200_45, ↓zs_200_48, ↓zs_200_49, ↓zs_200_52, ↓zs_200_53, ↓zs_200_55, ↓zs_200_58, ↓zs_200_61, ↓zs_200_63, ↓zs_200_66, ↓zs_200_67, ↓zs_200_69, ↓zs_200_72, ↓zs_200_73, ↓zs_200_74, ↓zs_200_77, ↓zs_200_78, ↓zs_200_81, ↓zs_200_84, ↓zs_200_86, ↓zs_200_89, ↓zs_200_92, ↓zs_200_93, ↓zs_200_96, ↓zs_200_97, ↓zs_200_98, ↓zs_200_99, ↓zs_200_100, ↓zs_200_101, ↓zs_200_104, ↓zs_200_105, ↓zs_200_106, ↓zs_200_107, ↓zs_200_108, ↓zs_200_109, ↓zs_200_110, ↓zs_200_113, ↓zs_200_116, ↓zs_200_117, ↓zs_200_120, ↓zs_200_121, ↓zs_200_122, ↓zs_200_123, ↓zs_200_125, ↓zs_200_126, ↓zs_200_129, ↓zs_200_130, ↓zs_200_131, ↓zs_200_132, ↓zs_200_133, ↓zs_200_134, ↓zs_200_137, ↓zs_200_138, ↓zs_200_139, ↓zs_200_142, ↓zs_200_143, ↓zs_200_146, ↓zs_200_149, ↓zs_200_150, ↓zs_200_153, ↓zs_200_154, ↓zs_200_155, ↓zs_200_156, ↓zs_200_159, ↓zs_200_160, ↓zs_200_163, ↓zs_200_164, zx_pu_s, zx_pu_n, zx_rv_s, zx_rv_n, true_and, and_true, true_or, or_true, zb_0, zb_1, zq_lcl, zq_lcg, zq_lce, eq_self, ite_true, ite_false, zk_138, zw_138, zk_139, zw_139, zk_140, zw_140, zk_141, zw_141, zk_142, zw_142, zk_143, zw_143, zk_144, zw_144, zk_145, zw_145, zk_146, zw_146, zk_147, zw_147, zk_148, zw_148, zk_149, zw_149, zk_150, zw_150, zk_151, zw_151, zk_152, zw_152, zq_138_1, zq_138_2, zq_138_3, zq_138_4, zq_138_16, zq_138_19, zq_138_20, zq_138_24, zq_138_25, zq_138_26, zq_138_27, zq_138_31, zq_138_32, zq_138_33, zn_10, zn_40, zn_040, zn_340, nI_add, zin_nI, nI_clamp, nI_ltI, nI_eq, pk_mul, nI_l, e, l1, hlt, c1, h1, e3, nI_1, pk_sub, hw]
        · rw [if_neg hl] at ht; cases ht
      · rw [if_neg (by omega)] at ht
        rw [if_neg (by omega)]
        have e3 : ¬ E < 3000 := by omega
        by_cases h8 : E = 3008
        · subst h8
          rw [if_pos rfl] at ht ⊢
          by_cases hh : ts.head? = some true
          case neg => rw [if_neg hh] at ht; cases ht
          · rw [if_pos hh] at ht
            obtain ⟨r, rfl⟩ := zf_hd hh
            · have hn' : n = r.length + 1 := hn.symm
              subst hn'
              obtain ⟨I2, f2, h2⟩ := ih (k + 1) (r.length + 1) (true :: r) (zu1 st r.length (nI 1 - st r.length)) (zx_u I1 143 r.length (nI 1 - st r.length)) (.int (nI 3008)) ht rfl (by omega) (by omega) (fun a h9 => (zu_o h9).trans (f a h9)) (by
                intro i hi
                by_cases q : i = r.length
                · rw [q, zu_s, zu1_s]
                · rw [zu_n (fun e9 => q e9.2), zu1_n q]; exact hst i (by omega))
              refine ⟨I2, f2, fun d P => ?_⟩
              rw [zs_200_16, Nat.add_sub_cancel, ← h2 d P]
              have e5 : nI (r.length + 1) - nI 1 = nI r.length := nI_pred _
              have e6 := hst r.length (by omega)
              simp (disch := omega) only [↓zs_200_0, ↓zs_200_1, ↓zs_200_4, ↓zs_200_6, ↓zs_200_7, ↓zs_200_10, ↓zs_200_11, ↓zs_200_12, ↓zs_200_13, ↓zs_200_14, ↓zs_200_15, ↓zs_200_17, ↓zs_200_18, ↓zs_200_21, ↓zs_200_24, ↓zs_200_25, ↓zs_200_28, ↓zs_200_29, ↓zs_200_32, ↓zs_200_35, ↓zs_200_36, ↓zs_200_37, ↓zs_200_38, ↓zs_200_40, ↓zs_200_42, ↓zs_200_45, ↓zs_200_48, ↓zs_200_49, ↓zs_200_52, ↓zs_200_53, ↓zs_200_55, ↓zs_200_58, ↓zs_200_61, ↓zs_200_63, ↓zs_200_66, ↓zs_200_67, ↓zs_200_69, ↓zs_200_72, ↓zs_200_73, ↓zs_200_74, ↓zs_200_77, ↓zs_200_78, ↓zs_200_81, ↓zs_200_84, ↓zs_200_86, ↓zs_200_89, ↓zs_200_92, ↓zs_200_93, ↓zs_200_96, ↓zs_200_97, ↓zs_200_98, ↓zs_200_99, ↓zs_200_100, ↓zs_200_101, ↓zs_200_104, ↓zs_200_105, ↓zs_200_106, ↓zs_200_107, ↓zs_200_108, ↓zs_200_109, ↓zs_200_110, ↓zs_200_113, ↓zs_200_116, ↓zs_200_117, ↓zs_200_120, ↓zs_200_121, ↓zs_200_122, ↓zs_200_123, ↓zs_200_125, ↓zs_200_126, ↓zs_200_129, ↓zs_200_130, ↓zs_200_131, ↓zs_200_132, ↓zs_200_133, ↓zs_200_134, ↓zs_200_137, ↓zs_200_138, ↓zs_200_139, ↓zs_200_142, ↓zs_200_143, ↓zs_200_146, ↓zs_200_149, ↓zs_200_150, ↓zs_200_153, ↓zs_200_154, ↓zs_200_155, ↓zs_200_156, ↓zs_200_159, ↓zs_200_160, ↓zs_200_163, ↓zs_200_164, zx_pu_s, zx_pu_n, zx_rv_s, zx_rv_n, true_and, and_true, true_or, or_true, zb_0, zb_1, zq_lcl, zq_lcg, zq_lce, eq_self, ite_true, ite_false, zk_138, zw_138, zk_139, zw_139, zk_140, zw_140, zk_141, zw_141, zk_142, zw_142, zk_143, zw_143, zk_144, zw_144, zk_145, zw_145, zk_146, zw_146, zk_147, zw_147, zk_148, zw_148, zk_149, zw_149, zk_150, zw_150, zk_151, zw_151, zk_152, zw_152, zq_138_1, zq_138_2, zq_138_3, zq_138_4, zq_138_16, zq_138_19, zq_138_20, zq_138_24, zq_138_25, zq_138_26, zq_138_27, zq_138_31, zq_138_32, zq_138_33, zn_10, zn_40, zn_040, zn_340, nI_add, zin_nI, nI_clamp, nI_ltI, nI_eq, pk_mul, nI_l, e, l1, hlt, c1, e3, nI_1, e5, e6]
        · rw [if_neg h8] at ht ⊢
          by_cases hh : ts.take 2 = [decide (3006 ≤ E), decide (3006 ≤ E)]
          case neg => rw [if_neg hh] at ht; cases ht
          · rw [if_pos hh] at ht
            obtain ⟨r, rfl⟩ := zf_tk2 hh
            · · rw [List.drop_succ_cons, List.drop_succ_cons, List.drop_zero] at ht
                have hn' : n = r.length + 2 := hn.symm
                subst hn'
                obtain ⟨i, rfl⟩ : ∃ i, E = 3000 + i := ⟨E - 3000, by omega⟩
                have hop := fun d P => sp_between (d := d) (L := zx_LL Lh) (I := I1) (J := J) (P := P) (i := i) (by omega) (st r.length) (st (r.length + 1))
                obtain ⟨I2, f2, h2⟩ := ih (k + 1) (r.length + 1) _ (zu1 st r.length (zf_op i (st r.length) (st (r.length + 1)))) (zx_u I1 143 r.length (zf_op i (st r.length) (st (r.length + 1)))) (.int (nI (3000 + i))) ht rfl (by omega) (by omega) (fun a h9 => (zu_o h9).trans (f a h9)) (by
                  intro i hi
                  by_cases q : i = r.length
                  · rw [q, zu_s, zu1_s]
                  · rw [zu_n (fun e9 => q e9.2), zu1_n q]; exact hst i (by omega))
                refine ⟨I2, f2, fun d P => ?_⟩
                rw [zs_200_16, show r.length + 2 - 1 = r.length + 1 from rfl, show r.length + 2 - 2 = r.length from rfl, Nat.add_sub_cancel_left, ← h2 d P]
                have e5 : nI (r.length + 2) + -1 = nI (r.length + 1) := zq_dec _
                have e7 : nI (r.length + 1) - nI 1 = nI r.length := nI_pred _
                have e6 := hst r.length (by omega)
                have e8 := hst (r.length + 1) (by omega)
                have e9 : (3000 + i = 3008) = False := eq_false h8
                simp (disch := omega) only [↓zs_200_0, ↓zs_200_1, ↓zs_200_4, ↓zs_200_6, ↓zs_200_7, ↓zs_200_10, ↓zs_200_11, ↓zs_200_12, ↓zs_200_13, ↓zs_200_14, ↓zs_200_15, ↓zs_200_17, ↓zs_200_18, ↓zs_200_21, ↓zs_200_24, ↓zs_200_25, ↓zs_200_28, ↓zs_200_29, ↓zs_200_32, ↓zs_200_35, ↓zs_200_36, ↓zs_200_37, ↓zs_200_38, ↓zs_200_40, ↓zs_200_42, ↓zs_200_45, ↓zs_200_48, ↓zs_200_49, ↓zs_200_52, ↓zs_200_53, ↓zs_200_55, ↓zs_200_58, ↓zs_200_61, ↓zs_200_63, ↓zs_200_66, ↓zs_200_67, ↓zs_200_69, ↓zs_200_72, ↓zs_200_73, ↓zs_200_74, ↓zs_200_77, ↓zs_200_78, ↓zs_200_81, ↓zs_200_84, ↓zs_200_86, ↓zs_200_89, ↓zs_200_92, ↓zs_200_93, ↓zs_200_96, ↓zs_200_97, ↓zs_200_98, ↓zs_200_99, ↓zs_200_100, ↓zs_200_101, ↓zs_200_104, ↓zs_200_105, ↓zs_200_106, ↓zs_200_107, ↓zs_200_108, ↓zs_200_109, ↓zs_200_110, ↓zs_200_113, ↓zs_200_116, ↓zs_200_117, ↓zs_200_120, ↓zs_200_121, ↓zs_200_122, ↓zs_200_123, ↓zs_200_125, ↓zs_200_126, ↓zs_200_129, ↓zs_200_130, ↓zs_200_131, ↓zs_200_132, ↓zs_200_133, ↓zs_200_134, ↓zs_200_137, ↓zs_200_138, ↓zs_200_139, ↓zs_200_142, ↓zs_200_143, ↓zs_200_146, ↓zs_200_149, ↓zs_200_150, ↓zs_200_153, ↓zs_200_154, ↓zs_200_155, ↓zs_200_156, ↓zs_200_159, ↓zs_200_160, ↓zs_200_163, ↓zs_200_164, zx_pu_s, zx_pu_n, zx_rv_s, zx_rv_n, true_and, and_true, true_or, or_true, zb_0, zb_1, zq_lcl, zq_lcg, zq_lce, eq_self, ite_true, ite_false, zk_138, zw_138, zk_139, zw_139, zk_140, zw_140, zk_141, zw_141, zk_142, zw_142, zk_143, zw_143, zk_144, zw_144, zk_145, zw_145, zk_146, zw_146, zk_147, zw_147, zk_148, zw_148, zk_149, zw_149, zk_150, zw_150, zk_151, zw_151, zk_152, zw_152, zq_138_1, zq_138_2, zq_138_3, zq_138_4, zq_138_16, zq_138_19, zq_138_20, zq_138_24, zq_138_25, zq_138_26, zq_138_27, zq_138_31, zq_138_32, zq_138_33, zn_10, zn_40, zn_040, zn_340, nI_add, zin_nI, nI_clamp, nI_ltI, nI_eq, pk_mul, nI_l, e, l1, hlt, c1, e3, e9, nI_1, e5, e6, e7, e8, hop]
  rw [zf_rests, eK]
  rcases l4 with ⟨l4, l5⟩ | ⟨l4, l5, l6⟩
  · refine ⟨I, (fun _ _ => rfl), fun d P => ?_⟩
    rw [ze_200]
    simp (disch := omega) only [↓zs_200_0, ↓zs_200_1, ↓zs_200_4, ↓zs_200_6, ↓zs_200_7, ↓zs_200_10, ↓zs_200_11, ↓zs_200_12, ↓zs_200_13, ↓zs_200_14, ↓zs_200_15, ↓zs_200_17, ↓zs_200_18, ↓zs_200_21, ↓zs_200_24, ↓zs_200_25, ↓zs_200_28, ↓zs_200_29, ↓zs_200_32, ↓zs_200_35, ↓zs_200_36, ↓zs_200_37, ↓zs_200_38, ↓zs_200_40, ↓zs_200_42, ↓zs_200_45, ↓zs_200_48, ↓zs_200_49, ↓zs_200_52, ↓zs_200_53, ↓zs_200_55, ↓zs_200_58, ↓zs_200_61, ↓zs_200_63, ↓zs_200_66, ↓zs_200_67, ↓zs_200_69, ↓zs_200_72, ↓zs_200_73, ↓zs_200_74, ↓zs_200_77, ↓zs_200_78, ↓zs_200_81, ↓zs_200_84, ↓zs_200_86, ↓zs_200_89, ↓zs_200_92, ↓zs_200_93, ↓zs_200_96, ↓zs_200_97, ↓zs_200_98, ↓zs_200_99, ↓zs_200_100, ↓zs_200_101, ↓zs_200_104, ↓zs_200_105, ↓zs_200_106, ↓zs_200_107, ↓zs_200_108, ↓zs_200_109, ↓zs_200_110, ↓zs_200_113, ↓zs_200_116, ↓zs_200_117, ↓zs_200_120, ↓zs_200_121, ↓zs_200_122, ↓zs_200_123, ↓zs_200_125, ↓zs_200_126, ↓zs_200_129, ↓zs_200_130, ↓zs_200_131, ↓zs_200_132, ↓zs_200_133, ↓zs_200_134, ↓zs_200_137, ↓zs_200_138, ↓zs_200_139, ↓zs_200_142, ↓zs_200_143, ↓zs_200_146, ↓zs_200_149, ↓zs_200_150, ↓zs_200_153, ↓zs_200_154, ↓zs_200_155, ↓zs_200_156, ↓zs_200_159, ↓zs_200_160, ↓zs_200_163, ↓zs_200_164, zx_pu_s, zx_pu_n, zx_rv_s, zx_rv_n, true_and, and_true, true_or, or_true, zb_0, zb_1, zq_lcl, zq_lcg, zq_lce, eq_self, ite_true, ite_false, zk_138, zw_138, zk_139, zw_139, zk_140, zw_140, zk_141, zw_141, zk_142, zw_142, zk_143, zw_143, zk_144, zw_144, zk_145, zw_145, zk_146, zw_146, zk_147, zw_147, zk_148, zw_148, zk_149, zw_149, zk_150, zw_150, zk_151, zw_151, zk_152, zw_152, zq_138_1, zq_138_2, zq_138_3, zq_138_4, zq_138_16, zq_138_19, zq_138_20, zq_138_24, zq_138_25, zq_138_26, zq_138_27, zq_138_31, zq_138_32, zq_138_33, zn_10, zn_40, zn_040, zn_340, nI_add, zin_nI, nI_clamp, nI_ltI, nI_eq, pk_mul, nI_l, l5]
    rw [l4]
    rfl
  · obtain ⟨I2, f2, h2⟩ := loop K 0 0 [] (fun _ => nI 0) I zx_u0 l6 rfl (by omega) (by omega) ((fun _ _ => rfl)) (fun i hi => absurd hi (Nat.not_lt_zero i))
    refine ⟨I2, f2, fun d P => ?_⟩
    rw [ze_200]
    have e1 : (nI 1 = nI 0) = False := eq_false (by decide)
    simp (disch := omega) only [↓zs_200_0, ↓zs_200_1, ↓zs_200_4, ↓zs_200_6, ↓zs_200_7, ↓zs_200_10, ↓zs_200_11, ↓zs_200_12, ↓zs_200_13, ↓zs_200_14, ↓zs_200_15, ↓zs_200_17, ↓zs_200_18, ↓zs_200_21, ↓zs_200_24, ↓zs_200_25, ↓zs_200_28, ↓zs_200_29, ↓zs_200_32, ↓zs_200_35, ↓zs_200_36, ↓zs_200_37, ↓zs_200_38, ↓zs_200_40, ↓zs_200_42, ↓zs_200_45, ↓zs_200_48, ↓zs_200_49, ↓zs_200_52, ↓zs_200_53, ↓zs_200_55, ↓zs_200_58, ↓zs_200_61, ↓zs_200_63, ↓zs_200_66, ↓zs_200_67, ↓zs_200_69, ↓zs_200_72, ↓zs_200_73, ↓zs_200_74, ↓zs_200_77, ↓zs_200_78, ↓zs_200_81, ↓zs_200_84, ↓zs_200_86, ↓zs_200_89, ↓zs_200_92, ↓zs_200_93, ↓zs_200_96, ↓zs_200_97, ↓zs_200_98, ↓zs_200_99, ↓zs_200_100, ↓zs_200_101, ↓zs_200_104, ↓zs_200_105, ↓zs_200_106, ↓zs_200_107, ↓zs_200_108, ↓zs_200_109, ↓zs_200_110, ↓zs_200_113, ↓zs_200_116, ↓zs_200_117, ↓zs_200_120, ↓zs_200_121, ↓zs_200_122, ↓zs_200_123, ↓zs_200_125, ↓zs_200_126, ↓zs_200_129, ↓zs_200_130, ↓zs_200_131, ↓zs_200_132, ↓zs_200_133, ↓zs_200_134, ↓zs_200_137, ↓zs_200_138, ↓zs_200_139, ↓zs_200_142, ↓zs_200_143, ↓zs_200_146, ↓zs_200_149, ↓zs_200_150, ↓zs_200_153, ↓zs_200_154, ↓zs_200_155, ↓zs_200_156, ↓zs_200_159, ↓zs_200_160, ↓zs_200_163, ↓zs_200_164, zx_pu_s, zx_pu_n, zx_rv_s, zx_rv_n, true_and, and_true, true_or, or_true, zb_0, zb_1, zq_lcl, zq_lcg, zq_lce, eq_self, ite_true, ite_false, zk_138, zw_138, zk_139, zw_139, zk_140, zw_140, zk_141, zw_141, zk_142, zw_142, zk_143, zw_143, zk_144, zw_144, zk_145, zw_145, zk_146, zw_146, zk_147, zw_147, zk_148, zw_148, zk_149, zw_149, zk_150, zw_150, zk_151, zw_151, zk_152, zw_152, zq_138_1, zq_138_2, zq_138_3, zq_138_4, zq_138_16, zq_138_19, zq_138_20, zq_138_24, zq_138_25, zq_138_26, zq_138_27, zq_138_31, zq_138_32, zq_138_33, zn_10, zn_40, zn_040, zn_340, nI_add, zin_nI, nI_clamp, nI_ltI, nI_eq, pk_mul, nI_l, l5, e1]
    rw [h2 d P, decide_eq_true l4, Bool.true_and]
end RL
