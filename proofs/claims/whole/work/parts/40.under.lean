/-! all the looks -/
def zf_orL (f : Nat → Int64) : Nat → Nat → Int64 → Int64
  | 0, _, b => b
  | m + 1, s, b => zf_orL f m (s + 1) (b ||| f s)
theorem zt_orL (f : Nat → Int64) (j m s : Nat) (b : Int64) : zf_bit (zf_orL f m s b) j = (zf_bit b j || zf_any (fun i => zf_bit (f i) j) m s) := by
  induction m generalizing s b with
  | zero => rw [zf_orL, zf_any, Bool.or_false]
  | succ m ih => rw [zf_orL, ih, zf_any, zt_or, Bool.or_assoc]
/-- the STONES UNDER a LOOK -/
def zf_under (B : Nat → Int32) (w h N : Nat) : Int64 := zf_orL (fun s => (zf_look B w h N s).1) N 0 (lN 0)
/-- those of the m numbers from s on that are so, as bits, a before them -/
def zf_bs (p : Nat → Bool) : Nat → Nat → Nat → Nat
  | 0, _, a => a
  | m + 1, s, a => zf_bs p m (s + 1) (if p s = true then a ||| 2 ^ s else a)
theorem zf_bs_bit (p : Nat → Bool) (j m s a : Nat) : (zf_bs p m s a).testBit j = (a.testBit j || (decide (s ≤ j) && decide (j < s + m) && p j)) := by
  induction m generalizing s a with
  | zero =>
    rw [zf_bs]
    by_cases h : s ≤ j
    · rw [decide_eq_false (show ¬ j < s + 0 by omega), Bool.and_false, Bool.false_and, Bool.or_false]
    · rw [decide_eq_false h, Bool.false_and, Bool.false_and, Bool.or_false]
  | succ m ih =>
    rw [zf_bs, ih]
    by_cases e : j = s
    · subst e
      rw [decide_eq_false (show ¬ j + 1 ≤ j by omega), decide_eq_true (show j ≤ j by omega), decide_eq_true (show j < j + (m + 1) by omega), Bool.false_and, Bool.false_and, Bool.or_false, Bool.true_and, Bool.true_and]
      cases h : p j
      · rw [if_neg (by decide), Bool.or_false]
      · rw [if_pos rfl, Nat.testBit_or, Nat.testBit_two_pow_self]
    · have e2 : decide (s + 1 ≤ j) = decide (s ≤ j) := decide_eq_decide.mpr (by omega)
      have e3 : decide (j < s + 1 + m) = decide (j < s + (m + 1)) := decide_eq_decide.mpr (by omega)
      rw [e2, e3]
      split
      · rw [Nat.testBit_or, Nat.testBit_two_pow_of_ne (by omega), Bool.or_false]
      · rfl
theorem zf_bs_lt (p : Nat → Bool) {m s a n : Nat} (h : s + m ≤ n) (ha : a < 2 ^ n) : zf_bs p m s a < 2 ^ n := by
  induction m generalizing s a with
  | zero => exact ha
  | succ m ih =>
    rw [zf_bs]
    apply ih (by omega)
    split
    · exact Nat.or_lt_two_pow ha (Nat.pow_lt_pow_right (by decide) (by omega))
    · exact ha
theorem zf_bs_eq (p q : Nat → Bool) (m s a : Nat) (h : ∀ j, s ≤ j → j < s + m → p j = q j) : zf_bs p m s a = zf_bs q m s a := by
  induction m generalizing s a with
  | zero => rfl
  | succ m ih => rw [zf_bs, zf_bs, h s (by omega) (by omega), ih _ _ (fun j h1 h2 => h j (by omega) (by omega))]
theorem zq_orI (a b : Nat) : nI a ||| nI b = nI (a ||| b) := by
  apply Int32.toBitVec_inj.1
  show BitVec.ofNat 32 a ||| BitVec.ofNat 32 b = BitVec.ofNat 32 (a ||| b)
  apply BitVec.eq_of_getLsbD_eq
  intro i hi
  simp [hi]
theorem zq_shl1 {s : Nat} (h : s < 31) : nI 1 <<< (nI s &&& 31) = nI (2 ^ s) := by
  have q : ∀ s : Fin 31, nI 1 <<< (nI s.1 &&& 31) = nI (2 ^ s.1) := by decide +kernel
  exact q ⟨s, h⟩
/-- STATUES on whose LOOK a STONE is -/
def zf_wat (B : Nat → Int32) (w h N k : Nat) : Nat := zf_bs (fun s => zf_bit (zf_look B w h N s).1 k) N 0 0
section UN
variable {Lh w h N : Nat} {I : zx_MI} {J : zx_MJ}
theorem sp_lookF {I1 : zx_MI} {s : Nat} (si : zx_SI I) (hs : s < 8) (ok : zM_ok (I 139) w h N) (f : zFs I I1) : ∃ I2, zFs I I2 ∧ I2 138 15 = zf_end (I 139) N (zf_look (I 139) w h N s).2 ∧ ∀ d P, zx_rn (d + 5) 193 [.ref 138, .int (nI s)] (zx_LL Lh) I1 J P = P (some (.long (zf_look (I 139) w h N s).1)) (zx_LL Lh) I2 J := by
  have e := zFs_row f (a := 139) (by decide) (by decide)
  refine ⟨zx_u I1 138 15 (zf_end (I 139) N (zf_look (I 139) w h N s).2), zFs_t f (zFs_u _ _ _ (by omega)), zu_s _ _ _ _, fun d P => ?_⟩
  rw [sp_look (zFs_si f si) hs (by rw [e]; exact ok), e]
theorem sp_under (si : zx_SI I) (ok : zM_ok (I 139) w h N) : ∃ I2, zFs I I2 ∧ ∀ d P, zx_rn (d + 6) 194 [.ref 138] (zx_LL Lh) I J P = P (some (.long (zf_under (I 139) w h N))) (zx_LL Lh) I2 J := by
  have hN : I 139 3 = nI N := ok.1.2.2.1
  have N8 : N ≤ 8 := ok.1.2.2.2.2.2
  have loop : ∀ m s b I1, zFs I I1 → s + m = N → ∃ I2, zFs I I2 ∧ ∀ d P, zx_wp (d + 6) 194 4 [.ref 138, .long b, zx_u0, .int (nI s)] [] (zx_LL Lh) I1 J P = P (some (.long (zf_orL (fun s => (zf_look (I 139) w h N s).1) m s b))) (zx_LL Lh) I2 J := by
    intro m
    induction m with
    | zero =>
      intro s b I1 f hs
      have e := zFs_row f (a := 139) (by decide) (by decide)
      refine ⟨I1, f, fun d P => ?_⟩
      rw [zs_194_4]
      have h : ¬ s < N := by omega
      simp (disch := omega) only [↓zs_194_0, ↓zs_194_1, ↓zs_194_2, ↓zs_194_3, ↓zs_194_5, ↓zs_194_6, ↓zs_194_9, ↓zs_194_10, ↓zs_194_11, ↓zs_194_14, ↓zs_194_15, ↓zs_194_16, ↓zs_194_17, ↓zs_194_20, ↓zs_194_21, ↓zs_194_22, ↓zs_194_25, ↓zs_194_28, ↓zs_194_29, zx_pu_s, zx_pu_n, zx_rv_s, zx_rv_n, true_and, and_true, true_or, or_true, zb_0, zb_1, zq_lcl, zq_lcg, zq_lce, eq_self, ite_true, ite_false, zk_138, zw_138, zk_139, zw_139, zk_140, zw_140, zk_141, zw_141, zk_142, zw_142, zk_143, zw_143, zk_144, zw_144, zk_145, zw_145, zk_146, zw_146, zk_147, zw_147, zk_148, zw_148, zk_149, zw_149, zk_150, zw_150, zk_151, zw_151, zk_152, zw_152, zq_138_1, zq_138_2, zq_138_3, zq_138_4, zq_138_16, zq_138_19, zq_138_20, zq_138_24, zq_138_25, zq_138_26, zq_138_27, zq_138_31, zq_138_32, zq_138_33, zn_10, zn_40, zn_040, zn_340, nI_add, zin_nI, nI_clamp, nI_ltI, nI_eq, pk_mul, nI_l, e, hN, h]
      rfl
    | succ m ih =>
      intro s b I1 f hs
      have e := zFs_row f (a := 139) (by decide) (by decide)
      obtain ⟨I2, f2, -, h2⟩ := sp_lookF (Lh := Lh) (J := J) (s := s) si (by omega) ok f
      obtain ⟨I3, f3, h3⟩ := ih (s + 1) (b ||| (zf_look (I 139) w h N s).1) I2 f2 (by omega)
      refine ⟨I3, f3, fun d P => ?_⟩
      rw [zs_194_4]
      have hlt : s < N := by omega
      simp (disch := omega) only [↓zs_194_0, ↓zs_194_1, ↓zs_194_2, ↓zs_194_3, ↓zs_194_5, ↓zs_194_6, ↓zs_194_9, ↓zs_194_10, ↓zs_194_11, ↓zs_194_14, ↓zs_194_15, ↓zs_194_16, ↓zs_194_17, ↓zs_194_20, ↓zs_194_21, ↓zs_194_22, ↓zs_194_25, ↓zs_194_28, ↓zs_194_29, zx_pu_s, zx_pu_n, zx_rv_s, zx_rv_n, true_and, and_true, true_or, or_true, zb_0, zb_1, zq_lcl, zq_lcg, zq_lce, eq_self, ite_true, ite_false, zk_138, zw_138, zk_139, zw_139, zk_140, zw_140, zk_141, zw_141, zk_142, zw_142, zk_143, zw_143, zk_144, zw_144, zk_145, zw_145, zk_146, zw_146, zk_147, zw_147, zk_148, zw_148, zk_149, zw_149, zk_150, zw_150, zk_151, zw_151, zk_152, zw_152, zq_138_1, zq_138_2, zq_138_3, zq_138_4, zq_138_16, zq_138_19, zq_138_20, zq_138_24, zq_138_25, zq_138_26, zq_138_27, zq_138_31, zq_138_32, zq_138_33, zn_10, zn_40, zn_040, zn_340, nI_add, zin_nI, nI_clamp, nI_ltI, nI_eq, pk_mul, nI_l, e, hN, hlt, h2, nI_1]
      exact h3 d P
  obtain ⟨I2, f2, h2⟩ := loop N 0 (lN 0) I (zFs_r I) (by omega)
  refine ⟨I2, f2, fun d P => ?_⟩
  rw [ze_194]
  simp only [↓zs_194_0, ↓zs_194_1, ↓zs_194_2, ↓zs_194_3, ↓zs_194_5, ↓zs_194_6, ↓zs_194_9, ↓zs_194_10, ↓zs_194_11, ↓zs_194_14, ↓zs_194_15, ↓zs_194_16, ↓zs_194_17, ↓zs_194_20, ↓zs_194_21, ↓zs_194_22, ↓zs_194_25, ↓zs_194_28, ↓zs_194_29, zx_pu_s, zx_pu_n, zx_rv_s, zx_rv_n, true_and, and_true, true_or, or_true, zb_0, zb_1, zq_lcl, zq_lcg, zq_lce, eq_self, ite_true, ite_false]
  exact h2 d P
theorem sp_seesOf {s : Nat} (si : zx_SI I) (hs : s < 8) (ok : zM_ok (I 139) w h N) : ∃ I2, zFs I I2 ∧ ∀ d P, zx_rn (d + 6) 195 [.ref 138, .int (nI s)] (zx_LL Lh) I J P = P (some (.int (zf_end (I 139) N (zf_look (I 139) w h N s).2))) (zx_LL Lh) I2 J := by
  obtain ⟨I2, f2, e2, h2⟩ := sp_lookF (Lh := Lh) (J := J) (s := s) si hs ok (zFs_r I)
  refine ⟨I2, f2, fun d P => ?_⟩
  rw [ze_195]
  simp (disch := omega) only [↓zs_195_0, ↓zs_195_1, ↓zs_195_2, ↓zs_195_5, ↓zs_195_6, ↓zs_195_7, ↓zs_195_10, zx_pu_s, zx_pu_n, zx_rv_s, zx_rv_n, true_and, and_true, true_or, or_true, zb_0, zb_1, zq_lcl, zq_lcg, zq_lce, eq_self, ite_true, ite_false, zk_138, zw_138, zk_139, zw_139, zk_140, zw_140, zk_141, zw_141, zk_142, zw_142, zk_143, zw_143, zk_144, zw_144, zk_145, zw_145, zk_146, zw_146, zk_147, zw_147, zk_148, zw_148, zk_149, zw_149, zk_150, zw_150, zk_151, zw_151, zk_152, zw_152, zq_138_1, zq_138_2, zq_138_3, zq_138_4, zq_138_16, zq_138_19, zq_138_20, zq_138_24, zq_138_25, zq_138_26, zq_138_27, zq_138_31, zq_138_32, zq_138_33, h2, e2]
theorem zx_in0 {s : Nat} (h : s < 8) : s < 2 ^ 31 := by omega
/-- the model's watchers, as its loop goes -/
theorem sp_watch {k : Nat} (si : zx_SI I) (ok : zM_ok (I 139) w h N) (hk : k < 64) : ∃ I2, zFs I I2 ∧ ∀ d P, zx_wp (d + 6) 209 17 [.ref 138, .int (nI k), zx_u0, zx_u0] [] (zx_LL Lh) I J P = P (some (.int (nI (zf_wat (I 139) w h N k)))) (zx_LL Lh) I2 J := by
  have hN : I 139 3 = nI N := ok.1.2.2.1
  have N8 : N ≤ 8 := ok.1.2.2.2.2.2
  have loop : ∀ m s b I1, zFs I I1 → s + m = N → ∃ I2, zFs I I2 ∧ ∀ d P, zx_wp (d + 6) 209 21 [.ref 138, .int (nI k), .int (nI b), .int (nI s)] [] (zx_LL Lh) I1 J P = P (some (.int (nI (zf_bs (fun s => zf_bit (zf_look (I 139) w h N s).1 k) m s b)))) (zx_LL Lh) I2 J := by
    intro m
    induction m with
    | zero =>
      intro s b I1 f hs
      have e := zFs_row f (a := 139) (by decide) (by decide)
      refine ⟨I1, f, fun d P => ?_⟩
      rw [zs_209_21]
      have h : ¬ s < N := by omega
      simp (disch := omega) only [↓zs_209_0, ↓zs_209_1, ↓zs_209_2, ↓zs_209_5, ↓zs_209_6, ↓zs_209_7, ↓zs_209_8, ↓zs_209_11, ↓zs_209_14, ↓zs_209_16, ↓zs_209_17, ↓zs_209_18, ↓zs_209_19, ↓zs_209_20, ↓zs_209_22, ↓zs_209_23, ↓zs_209_26, ↓zs_209_27, ↓zs_209_28, ↓zs_209_31, ↓zs_209_32, ↓zs_209_33, ↓zs_209_34, ↓zs_209_37, ↓zs_209_38, ↓zs_209_41, ↓zs_209_44, ↓zs_209_45, ↓zs_209_46, ↓zs_209_47, ↓zs_209_50, ↓zs_209_51, ↓zs_209_52, ↓zs_209_53, ↓zs_209_56, ↓zs_209_59, ↓zs_209_60, zx_pu_s, zx_pu_n, zx_rv_s, zx_rv_n, true_and, and_true, true_or, or_true, zb_0, zb_1, zq_lcl, zq_lcg, zq_lce, eq_self, ite_true, ite_false, zk_138, zw_138, zk_139, zw_139, zk_140, zw_140, zk_141, zw_141, zk_142, zw_142, zk_143, zw_143, zk_144, zw_144, zk_145, zw_145, zk_146, zw_146, zk_147, zw_147, zk_148, zw_148, zk_149, zw_149, zk_150, zw_150, zk_151, zw_151, zk_152, zw_152, zq_138_1, zq_138_2, zq_138_3, zq_138_4, zq_138_16, zq_138_19, zq_138_20, zq_138_24, zq_138_25, zq_138_26, zq_138_27, zq_138_31, zq_138_32, zq_138_33, zn_10, zn_40, zn_040, zn_340, nI_add, zin_nI, nI_clamp, nI_ltI, nI_eq, pk_mul, nI_l, e, hN, h]
      rfl
    | succ m ih =>
      intro s b I1 f hs
      have e := zFs_row f (a := 139) (by decide) (by decide)
      obtain ⟨I2, f2, -, h2⟩ := sp_lookF (Lh := Lh) (J := J) (s := s) si (by omega) ok f
      obtain ⟨I3, f3, h3⟩ := ih (s + 1) (if zf_bit (zf_look (I 139) w h N s).1 k = true then b ||| 2 ^ s else b) I2 f2 (by omega)
      refine ⟨I3, f3, fun d P => ?_⟩
      rw [zf_bs, ← h3 d P, zs_209_21]
      have hlt : s < N := by omega
      cases c : zf_bit (zf_look (I 139) w h N s).1 k <;> simp (disch := omega) only [↓zs_209_0, ↓zs_209_1, ↓zs_209_2, ↓zs_209_5, ↓zs_209_6, ↓zs_209_7, ↓zs_209_8, ↓zs_209_11, ↓zs_209_14, ↓zs_209_16, ↓zs_209_17, ↓zs_209_18, ↓zs_209_19, ↓zs_209_20, ↓zs_209_22, ↓zs_209_23, ↓zs_209_26, ↓zs_209_27, ↓zs_209_28, ↓zs_209_31, ↓zs_209_32, ↓zs_209_33, ↓zs_209_34, ↓zs_209_37, ↓zs_209_38, ↓zs_209_41, ↓zs_209_44, ↓zs_209_45, ↓zs_209_46, ↓zs_209_47, ↓zs_209_50, ↓zs_209_51, ↓zs_209_52, ↓zs_209_53, ↓zs_209_56, ↓zs_209_59, ↓zs_209_60, zx_pu_s, zx_pu_n, zx_rv_s, zx_rv_n, true_and, and_true, true_or, or_true, zb_0, zb_1, zq_lcl, zq_lcg, zq_lce, eq_self, ite_true, ite_false, zk_138, zw_138, zk_139, zw_139, zk_140, zw_140, zk_141, zw_141, zk_142, zw_142, zk_143, zw_143, zk_144, zw_144, zk_145, zw_145, zk_146, zw_146, zk_147, zw_147, zk_148, zw_148, zk_149, zw_149, zk_150, zw_150, zk_151, zw_151, zk_152, zw_152, zq_138_1, zq_138_2, zq_138_3, zq_138_4, zq_138_16, zq_138_19, zq_138_20, zq_138_24, zq_138_25, zq_138_26, zq_138_27, zq_138_31, zq_138_32, zq_138_33, zn_10, zn_40, zn_040, zn_340, nI_add, zin_nI, nI_clamp, nI_ltI, nI_eq, pk_mul, nI_l, e, hN, hlt, h2, sp_isIn, c, zB_0, reduceCtorEq, nI_1, zq_shl1, zq_orI, Nat.or_zero, if_true, if_false]
  obtain ⟨I2, f2, h2⟩ := loop N 0 0 I (zFs_r I) (by omega)
  refine ⟨I2, f2, fun d P => ?_⟩
  simp only [↓zs_209_17, ↓zs_209_18, ↓zs_209_19, ↓zs_209_20, zx_pu_s, zx_pu_n, zx_rv_s, zx_rv_n, true_and, and_true, true_or, or_true, zb_0, zb_1, zq_lcl, zq_lcg, zq_lce, eq_self, ite_true, ite_false]
  exact h2 d P
end UN
section UC
variable {d Lh w h N : Nat} {I : zx_MI} {J : zx_MJ} {P : Option Value → zx_Lay → zx_MI → zx_MJ → Prop} {B : Nat → Int32} {S T : Nat}
theorem sc_takenT (hS : zx_sq S) (hT : zx_st T) (rel : zR_st I T B) (ok : zM_ok B w h N) : zx_rn d 58 [.ref S, .ref T] (zx_LL Lh) I J P = P (some (.long (zf_orAll (I (T + 1)) 8 0 (J S 12 ||| J S 13)))) (zx_LL Lh) I J := sc_takenBits hS hT (fun i hi => zM_place rel ok i hi)
theorem zf_look_T {s : Nat} (gr : zR_ground J S B) (g : zM_ground B) (rel : zR_st I T B) (ok : zM_ok B w h N) : zf_lookT B w h (zf_bit (zf_orAll (I (T + 1)) 8 0 (J S 12 ||| J S 13))) s = zf_look B w h N s := by
  have hwh : w * h ≤ 64 := Nat.mul_le_mul ok.1.2.2.2.1 ok.1.2.2.2.2.1
  exact zf_lookT_eq (fun k hk => zt_taken gr g rel ok (by omega)) s
theorem sc_lookB {s : Nat} (hS : zx_sq S) (hT : zx_st T) (si : zx_SI I) (hs : s < 8) (hw : I S 6 = nI w) (hh : I S 7 = nI h) (gr : zR_ground J S B) (g : zM_ground B) (rel : zR_st I T B) (ok : zM_ok B w h N) : zx_rn (d + 2) 63 [.ref S, .ref T, .int (nI s), .long (zf_orAll (I (T + 1)) 8 0 (J S 12 ||| J S 13))] (zx_LL Lh) I J P = P (some (.long (zf_look B w h N s).1)) (zx_LL Lh) I J := by
  rw [sc_lookT _ hS hT si hs hw hh rel ok, zf_look_T gr g rel ok]
theorem sc_under (hS : zx_sq S) (hT : zx_st T) (si : zx_SI I) (hw : I S 6 = nI w) (hh : I S 7 = nI h) (hN : I S 8 = nI N) (gr : zR_ground J S B) (g : zM_ground B) (rel : zR_st I T B) (ok : zM_ok B w h N) : zx_rn (d + 3) 65 [.ref S, .ref T] (zx_LL Lh) I J P = P (some (.long (zf_under B w h N))) (zx_LL Lh) I J := by
  have kS := (zS_k (Lh := Lh) hS).1
  have N8 : N ≤ 8 := ok.1.2.2.2.2.2
  have h1 := fun d P => sc_takenT (d := d) (Lh := Lh) (J := J) (P := P) hS hT rel ok
  have h2 := fun s hs P => sc_lookB (d := d) (Lh := Lh) (J := J) (P := P) (s := s) hS hT si hs hw hh gr g rel ok
  have loop : ∀ m s b, s + m = N → zx_wp (d + 3) 65 12 [.ref S, .ref T, .long (zf_orAll (I (T + 1)) 8 0 (J S 12 ||| J S 13)), zx_u0, .long b, zx_u0, .int (nI s)] [] (zx_LL Lh) I J P = P (some (.long (zf_orL (fun s => (zf_look B w h N s).1) m s b))) (zx_LL Lh) I J := by
    intro m
    induction m with
    | zero =>
      intro s b hs
      rw [zs_65_12]
      have h : ¬ s < N := by omega
      simp (disch := omega) only [↓zs_65_0, ↓zs_65_1, ↓zs_65_2, ↓zs_65_5, ↓zs_65_6, ↓zs_65_7, ↓zs_65_9, ↓zs_65_10, ↓zs_65_14, ↓zs_65_15, ↓zs_65_18, ↓zs_65_21, ↓zs_65_23, ↓zs_65_24, ↓zs_65_25, ↓zs_65_27, ↓zs_65_28, ↓zs_65_31, ↓zs_65_32, ↓zs_65_34, ↓zs_65_37, ↓zs_65_40, ↓zs_65_42, zx_pu_s, zx_pu_n, zx_rv_s, zx_rv_n, true_and, and_true, true_or, or_true, zb_0, zb_1, zq_lcl, zq_lcg, zq_lce, eq_self, ite_true, ite_false, zn_10, zn_40, zn_040, zn_340, nI_add, zin_nI, nI_clamp, nI_ltI, nI_eq, pk_mul, nI_l, kS, hN, h]
      rfl
    | succ m ih =>
      intro s b hs
      rw [zs_65_12]
      have hlt : s < N := by omega
      simp (disch := omega) only [↓zs_65_0, ↓zs_65_1, ↓zs_65_2, ↓zs_65_5, ↓zs_65_6, ↓zs_65_7, ↓zs_65_9, ↓zs_65_10, ↓zs_65_14, ↓zs_65_15, ↓zs_65_18, ↓zs_65_21, ↓zs_65_23, ↓zs_65_24, ↓zs_65_25, ↓zs_65_27, ↓zs_65_28, ↓zs_65_31, ↓zs_65_32, ↓zs_65_34, ↓zs_65_37, ↓zs_65_40, ↓zs_65_42, zx_pu_s, zx_pu_n, zx_rv_s, zx_rv_n, true_and, and_true, true_or, or_true, zb_0, zb_1, zq_lcl, zq_lcg, zq_lce, eq_self, ite_true, ite_false, zn_10, zn_40, zn_040, zn_340, nI_add, zin_nI, nI_clamp, nI_ltI, nI_eq, pk_mul, nI_l, kS, hN, hlt, h2, nI_1]
      exact ih (s + 1) _ (by omega)
  rw [ze_65]
  simp only [↓zs_65_0, ↓zs_65_1, ↓zs_65_2, ↓zs_65_5, ↓zs_65_6, ↓zs_65_7, ↓zs_65_9, ↓zs_65_10, ↓zs_65_14, ↓zs_65_15, ↓zs_65_18, ↓zs_65_21, ↓zs_65_23, ↓zs_65_24, ↓zs_65_25, ↓zs_65_27, ↓zs_65_28, ↓zs_65_31, ↓zs_65_32, ↓zs_65_34, ↓zs_65_37, ↓zs_65_40, ↓zs_65_42, zx_pu_s, zx_pu_n, zx_rv_s, zx_rv_n, true_and, and_true, true_or, or_true, zb_0, zb_1, zq_lcl, zq_lcg, zq_lce, eq_self, ite_true, ite_false, kS, h1]
  exact loop N 0 (lN 0) (by omega)
theorem sc_watch {k : Nat} (hS : zx_sq S) (hT : zx_st T) (si : zx_SI I) (hw : I S 6 = nI w) (hh : I S 7 = nI h) (hN : I S 8 = nI N) (gr : zR_ground J S B) (g : zM_ground B) (rel : zR_st I T B) (ok : zM_ok B w h N) (hk : k < 64) : zx_rn (d + 3) 66 [.ref S, .ref T, .int (nI k)] (zx_LL Lh) I J P = P (some (.int (nI (zf_wat B w h N k)))) (zx_LL Lh) I J := by
  have kS := (zS_k (Lh := Lh) hS).1
  have N8 : N ≤ 8 := ok.1.2.2.2.2.2
  have h1 := fun d P => sc_takenT (d := d) (Lh := Lh) (J := J) (P := P) hS hT rel ok
  have h2 := fun s hs P => sc_lookB (d := d) (Lh := Lh) (J := J) (P := P) (s := s) hS hT si hs hw hh gr g rel ok
  have loop : ∀ m s b, s + m = N → zx_wp (d + 3) 66 12 [.ref S, .ref T, .int (nI k), .long (zf_orAll (I (T + 1)) 8 0 (J S 12 ||| J S 13)), zx_u0, .int (nI b), .int (nI s)] [] (zx_LL Lh) I J P = P (some (.int (nI (zf_bs (fun s => zf_bit (zf_look B w h N s).1 k) m s b)))) (zx_LL Lh) I J := by
    intro m
    induction m with
    | zero =>
      intro s b hs
      rw [zs_66_12]
      have h : ¬ s < N := by omega
      simp (disch := omega) only [↓zs_66_0, ↓zs_66_1, ↓zs_66_2, ↓zs_66_5, ↓zs_66_6, ↓zs_66_7, ↓zs_66_9, ↓zs_66_10, ↓zs_66_14, ↓zs_66_15, ↓zs_66_18, ↓zs_66_21, ↓zs_66_22, ↓zs_66_23, ↓zs_66_25, ↓zs_66_26, ↓zs_66_29, ↓zs_66_30, ↓zs_66_31, ↓zs_66_32, ↓zs_66_33, ↓zs_66_34, ↓zs_66_35, ↓zs_66_38, ↓zs_66_40, ↓zs_66_41, ↓zs_66_43, ↓zs_66_44, ↓zs_66_45, ↓zs_66_47, ↓zs_66_50, ↓zs_66_53, ↓zs_66_55, zx_pu_s, zx_pu_n, zx_rv_s, zx_rv_n, true_and, and_true, true_or, or_true, zb_0, zb_1, zq_lcl, zq_lcg, zq_lce, eq_self, ite_true, ite_false, zn_10, zn_40, zn_040, zn_340, nI_add, zin_nI, nI_clamp, nI_ltI, nI_eq, pk_mul, nI_l, kS, hN, h]
      rfl
    | succ m ih =>
      intro s b hs
      rw [zs_66_12, zf_bs, ← ih (s + 1) _ (by omega)]
      have hlt : s < N := by omega
      cases c : zf_bit (zf_look B w h N s).1 k <;> simp (disch := omega) only [↓zs_66_0, ↓zs_66_1, ↓zs_66_2, ↓zs_66_5, ↓zs_66_6, ↓zs_66_7, ↓zs_66_9, ↓zs_66_10, ↓zs_66_14, ↓zs_66_15, ↓zs_66_18, ↓zs_66_21, ↓zs_66_22, ↓zs_66_23, ↓zs_66_25, ↓zs_66_26, ↓zs_66_29, ↓zs_66_30, ↓zs_66_31, ↓zs_66_32, ↓zs_66_33, ↓zs_66_34, ↓zs_66_35, ↓zs_66_38, ↓zs_66_40, ↓zs_66_41, ↓zs_66_43, ↓zs_66_44, ↓zs_66_45, ↓zs_66_47, ↓zs_66_50, ↓zs_66_53, ↓zs_66_55, zx_pu_s, zx_pu_n, zx_rv_s, zx_rv_n, true_and, and_true, true_or, or_true, zb_0, zb_1, zq_lcl, zq_lcg, zq_lce, eq_self, ite_true, ite_false, zin_nI, nI_clamp, nI_ltI, kS, hN, hlt, h2, nI_1, nI_add, zt_ushr hk, c, reduceCtorEq, zl_10, zq_shl1, zq_orI, if_true, if_false]
  rw [ze_66]
  simp only [↓zs_66_0, ↓zs_66_1, ↓zs_66_2, ↓zs_66_5, ↓zs_66_6, ↓zs_66_7, ↓zs_66_9, ↓zs_66_10, ↓zs_66_14, ↓zs_66_15, ↓zs_66_18, ↓zs_66_21, ↓zs_66_22, ↓zs_66_23, ↓zs_66_25, ↓zs_66_26, ↓zs_66_29, ↓zs_66_30, ↓zs_66_31, ↓zs_66_32, ↓zs_66_33, ↓zs_66_34, ↓zs_66_35, ↓zs_66_38, ↓zs_66_40, ↓zs_66_41, ↓zs_66_43, ↓zs_66_44, ↓zs_66_45, ↓zs_66_47, ↓zs_66_50, ↓zs_66_53, ↓zs_66_55, zx_pu_s, zx_pu_n, zx_rv_s, zx_rv_n, true_and, and_true, true_or, or_true, zb_0, zb_1, zq_lcl, zq_lcg, zq_lce, eq_self, ite_true, ite_false, kS, h1]
  exact loop N 0 0 (by omega)
end UC
