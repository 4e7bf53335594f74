/-! the lowest bit of a long -/
def zf_lo (p : Nat → Bool) : Nat → Nat → Nat
  | 0, n => n
  | m + 1, n => if p n = true then n else zf_lo p m (n + 1)
def zf_low (b : Int64) : Nat := zf_lo (zf_bit b) 64 0
theorem zf_lo_at {p : Nat → Bool} : ∀ m n k, n ≤ k → k < n + m → p k = true → (∀ j, n ≤ j → j < k → p j = false) → zf_lo p m n = k := by
  intro m
  induction m with
  | zero => intro n k h1 h2 _ _; omega
  | succ m ih =>
    intro n k h1 h2 h3 h4
    rw [zf_lo]
    by_cases e : n = k
    · subst e; rw [if_pos h3]
    · rw [h4 n (by omega) (by omega), if_neg (by decide)]
      exact ih (n + 1) k (by omega) (by omega) h3 (fun j a b => h4 j (by omega) b)
/-- a number that isn't 0: its lowest bit -/
theorem zf_odd : ∀ n : Nat, n ≠ 0 → ∃ p r, n = 2 ^ p * (2 * r + 1) := by
  intro n
  induction n using Nat.strongRecOn with
  | ind n ih =>
    intro h
    rcases Nat.mod_two_eq_zero_or_one n with e | e
    · obtain ⟨p, r, q⟩ := ih (n / 2) (by omega) (by omega)
      refine ⟨p + 1, r, ?_⟩
      rw [Nat.pow_succ, Nat.mul_assoc, Nat.mul_left_comm, ← q]
      omega
    · exact ⟨0, n / 2, by rw [Nat.pow_zero, Nat.one_mul]; omega⟩
theorem zt_odd (p r j : Nat) : (2 ^ p * (2 * r + 1)).testBit j = if j < p then false else if j = p then true else r.testBit (j - p - 1) := by
  rw [Nat.testBit_two_pow_mul]
  by_cases h : j < p
  · rw [if_pos h, decide_eq_false (by omega), Bool.false_and]
  · rw [if_neg h, decide_eq_true (by omega), Bool.true_and]
    by_cases e : j = p
    · rw [if_pos e, e, Nat.sub_self, Nat.testBit_zero]
      exact decide_eq_true (by omega)
    · rw [if_neg e, show j - p = (j - p - 1) + 1 by omega, Nat.testBit_succ, show (2 * r + 1) / 2 = r by omega]
      rfl
theorem zt_odd1 (p r j : Nat) : (2 ^ p * (2 * r + 1) - 1).testBit j = if j < p then true else if j = p then false else r.testBit (j - p - 1) := by
  have hp : 0 < 2 ^ p := Nat.two_pow_pos p
  have e : 2 ^ p * (2 * r + 1) - 1 = 2 ^ p * (2 * r) + (2 ^ p - 1) := by
    rw [Nat.mul_succ]; omega
  rw [e, Nat.testBit_two_pow_mul_add _ (by omega)]
  by_cases h : j < p
  · rw [if_pos h, if_pos h, Nat.testBit_two_pow_sub_one]
    exact decide_eq_true h
  · rw [if_neg h, if_neg h]
    by_cases e : j = p
    · rw [if_pos e, e, Nat.sub_self, Nat.testBit_zero]
      exact decide_eq_false (by omega)
    · rw [if_neg e, show j - p = (j - p - 1) + 1 by omega, Nat.testBit_succ, show 2 * r / 2 = r by omega]
      rfl
theorem zf_odd_low {p r : Nat} (h : 2 ^ p * (2 * r + 1) < 2 ^ 64) : p < 64 ∧ zf_low (lN (2 ^ p * (2 * r + 1))) = p := by
  have hp : p < 64 := by
    rcases Nat.lt_or_ge p 64 with q | q
    · exact q
    · have h1 : 2 ^ 64 ≤ 2 ^ p := Nat.pow_le_pow_right (by decide) q
      have h2 : 2 ^ p * 1 ≤ 2 ^ p * (2 * r + 1) := Nat.mul_le_mul_left _ (by omega)
      omega
  refine ⟨hp, ?_⟩
  unfold zf_low
  refine zf_lo_at 64 0 p (by omega) (by omega) ?_ (fun j _ hj => ?_)
  · rw [zt_nat hp, zt_odd, if_neg (by omega), if_pos rfl]
  · rw [zt_nat (by omega), zt_odd, if_pos hj]
theorem zq_odd32 {p r : Nat} (hp : p < 32) (h : 2 ^ p * (2 * r + 1) < 2 ^ 32) : (nI (2 ^ p * (2 * r + 1)) ^^^ -1) &&& (nI (2 ^ p * (2 * r + 1)) - nI 1) = nI (2 ^ p - 1) := by
  have h0 : 1 ≤ 2 ^ p * (2 * r + 1) := Nat.mul_pos (Nat.two_pow_pos p) (by omega)
  rw [pk_sub h0]
  have bN : ∀ n j, j < 32 → (nI n).toBitVec.getLsbD j = n.testBit j := by
    intro n j hj
    show (BitVec.ofNat 32 n).getLsbD j = _
    rw [BitVec.getLsbD_ofNat, decide_eq_true hj, Bool.true_and]
  have b1 : ∀ j, j < 32 → (-1 : Int32).toBitVec.getLsbD j = true := by
    intro j hj
    have h : ∀ j : Fin 32, (-1 : Int32).toBitVec.getLsbD j.1 = true := by decide +kernel
    exact h ⟨j, hj⟩
  apply Int32.toBitVec_inj.mp
  apply BitVec.eq_of_getLsbD_eq
  intro j hj
  rw [Int32.toBitVec_and, BitVec.getLsbD_and, Int32.toBitVec_xor, BitVec.getLsbD_xor, b1 j hj, bN _ j hj, bN _ j hj, bN _ j hj, zt_odd, zt_odd1, Nat.testBit_two_pow_sub_one]
  by_cases c : j < p
  · rw [if_pos c, if_pos c, decide_eq_true c]; rfl
  · rw [if_neg c, if_neg c, decide_eq_false c]
    by_cases e : j = p
    · rw [if_pos e, if_pos e]; rfl
    · rw [if_neg e, if_neg e]
      cases r.testBit (j - p - 1) <;> rfl
section NT
variable {d Lh : Nat} {L : zx_Lay} {I : zx_MI} {J : zx_MJ} {P : Option Value → zx_Lay → zx_MI → zx_MJ → Prop}
def zf_h1 (c k : Int32) (i n : Int32) : Int32 × Int32 := if c < i then ((i.toUInt32 >>> (k.toUInt32 &&& Int32.toUInt32 31)).toInt32, n + k) else (i, n)
def zf_nt (i : Int32) : Int32 :=
  let a := zf_h1 (nI 65536) (nI 16) i (nI 1)
  let b := zf_h1 (nI 256) (nI 8) a.1 a.2
  let c := zf_h1 (nI 16) (nI 4) b.1 b.2
  let e := zf_h1 (nI 4) (nI 2) c.1 c.2
  e.2 + (e.1.toUInt32 >>> ((nI 1).toUInt32 &&& Int32.toUInt32 31)).toInt32
theorem zf_nt_p : ∀ p : Fin 32, 0 < p.1 → nI 0 < nI (2 ^ p.1 - 1) ∧ zf_nt (nI (2 ^ p.1 - 1)) = nI p.1 := by decide +kernel
theorem zl_ntz32 {p r : Nat} (hp : p < 32) (h : 2 ^ p * (2 * r + 1) < 2 ^ 32) : zx_rn d 273 [.int (nI (2 ^ p * (2 * r + 1)))] L I J P = P (some (.int (nI p))) L I J := by
  have e := zq_odd32 hp h
  have s1 : ∀ i n, zx_wp d 273 19 [.int i, .int n] [] L I J P = zx_wp d 273 34 [.int (zf_h1 (nI 65536) (nI 16) i n).1, .int (zf_h1 (nI 65536) (nI 16) i n).2] [] L I J P := by
    intro i n
    unfold zf_h1
    by_cases c : nI 65536 < i
    · rw [if_pos c]
      simp (disch := omega) only [↓zs_273_19, ↓zs_273_20, ↓zs_273_23, ↓zs_273_26, ↓zs_273_29, ↓zs_273_30, ↓zs_273_32, ↓zs_273_33, zx_pu_s, zx_pu_n, zx_rv_s, zx_rv_n, true_and, and_true, true_or, or_true, zb_0, zb_1, zq_lcl, zq_lcg, zq_lce, eq_self, ite_true, ite_false, c]
    · rw [if_neg c]
      simp (disch := omega) only [↓zs_273_19, ↓zs_273_20, ↓zs_273_23, ↓zs_273_26, ↓zs_273_29, ↓zs_273_30, ↓zs_273_32, ↓zs_273_33, zx_pu_s, zx_pu_n, zx_rv_s, zx_rv_n, true_and, and_true, true_or, or_true, zb_0, zb_1, zq_lcl, zq_lcg, zq_lce, eq_self, ite_true, ite_false, c]
  have s2 : ∀ i n, zx_wp d 273 34 [.int i, .int n] [] L I J P = zx_wp d 273 49 [.int (zf_h1 (nI 256) (nI 8) i n).1, .int (zf_h1 (nI 256) (nI 8) i n).2] [] L I J P := by
    intro i n
    unfold zf_h1
    by_cases c : nI 256 < i
    · rw [if_pos c]
      simp (disch := omega) only [↓zs_273_34, ↓zs_273_35, ↓zs_273_38, ↓zs_273_41, ↓zs_273_44, ↓zs_273_45, ↓zs_273_47, ↓zs_273_48, zx_pu_s, zx_pu_n, zx_rv_s, zx_rv_n, true_and, and_true, true_or, or_true, zb_0, zb_1, zq_lcl, zq_lcg, zq_lce, eq_self, ite_true, ite_false, c]
    · rw [if_neg c]
      simp (disch := omega) only [↓zs_273_34, ↓zs_273_35, ↓zs_273_38, ↓zs_273_41, ↓zs_273_44, ↓zs_273_45, ↓zs_273_47, ↓zs_273_48, zx_pu_s, zx_pu_n, zx_rv_s, zx_rv_n, true_and, and_true, true_or, or_true, zb_0, zb_1, zq_lcl, zq_lcg, zq_lce, eq_self, ite_true, ite_false, c]
  have s3 : ∀ i n, zx_wp d 273 49 [.int i, .int n] [] L I J P = zx_wp d 273 62 [.int (zf_h1 (nI 16) (nI 4) i n).1, .int (zf_h1 (nI 16) (nI 4) i n).2] [] L I J P := by
    intro i n
    unfold zf_h1
    by_cases c : nI 16 < i
    · rw [if_pos c]
      simp (disch := omega) only [↓zs_273_49, ↓zs_273_50, ↓zs_273_52, ↓zs_273_55, ↓zs_273_58, ↓zs_273_59, ↓zs_273_60, ↓zs_273_61, zx_pu_s, zx_pu_n, zx_rv_s, zx_rv_n, true_and, and_true, true_or, or_true, zb_0, zb_1, zq_lcl, zq_lcg, zq_lce, eq_self, ite_true, ite_false, c]
    · rw [if_neg c]
      simp (disch := omega) only [↓zs_273_49, ↓zs_273_50, ↓zs_273_52, ↓zs_273_55, ↓zs_273_58, ↓zs_273_59, ↓zs_273_60, ↓zs_273_61, zx_pu_s, zx_pu_n, zx_rv_s, zx_rv_n, true_and, and_true, true_or, or_true, zb_0, zb_1, zq_lcl, zq_lcg, zq_lce, eq_self, ite_true, ite_false, c]
  have s4 : ∀ i n, zx_wp d 273 62 [.int i, .int n] [] L I J P = zx_wp d 273 74 [.int (zf_h1 (nI 4) (nI 2) i n).1, .int (zf_h1 (nI 4) (nI 2) i n).2] [] L I J P := by
    intro i n
    unfold zf_h1
    by_cases c : nI 4 < i
    · rw [if_pos c]
      simp (disch := omega) only [↓zs_273_62, ↓zs_273_63, ↓zs_273_64, ↓zs_273_67, ↓zs_273_70, ↓zs_273_71, ↓zs_273_72, ↓zs_273_73, zx_pu_s, zx_pu_n, zx_rv_s, zx_rv_n, true_and, and_true, true_or, or_true, zb_0, zb_1, zq_lcl, zq_lcg, zq_lce, eq_self, ite_true, ite_false, c]
    · rw [if_neg c]
      simp (disch := omega) only [↓zs_273_62, ↓zs_273_63, ↓zs_273_64, ↓zs_273_67, ↓zs_273_70, ↓zs_273_71, ↓zs_273_72, ↓zs_273_73, zx_pu_s, zx_pu_n, zx_rv_s, zx_rv_n, true_and, and_true, true_or, or_true, zb_0, zb_1, zq_lcl, zq_lcg, zq_lce, eq_self, ite_true, ite_false, c]
  rw [ze_273]
  simp (disch := omega) only [↓zs_273_0, ↓zs_273_1, ↓zs_273_2, ↓zs_273_3, ↓zs_273_4, ↓zs_273_5, ↓zs_273_6, ↓zs_273_7, ↓zs_273_8, zx_pu_s, zx_pu_n, zx_rv_s, zx_rv_n, true_and, and_true, true_or, or_true, zb_0, zb_1, zq_lcl, zq_lcg, zq_lce, eq_self, ite_true, ite_false, e]
  rcases Nat.eq_zero_or_pos p with q | q
  · subst q
    have n0 : ¬ nI 0 < nI (2 ^ 0 - 1) := by decide
    have e0 : nI (2 ^ 0 - 1) &&& nI 32 = nI 0 := by decide
    simp (disch := omega) only [↓zs_273_9, ↓zs_273_12, ↓zs_273_13, ↓zs_273_15, ↓zs_273_16, zx_pu_s, zx_pu_n, zx_rv_s, zx_rv_n, true_and, and_true, true_or, or_true, zb_0, zb_1, zq_lcl, zq_lcg, zq_lce, eq_self, ite_true, ite_false, n0, e0]
  · obtain ⟨g1, g2⟩ := zf_nt_p ⟨p, hp⟩ q
    dsimp only at g1 g2
    simp (disch := omega) only [↓zs_273_9, ↓zs_273_12, ↓zs_273_13, ↓zs_273_15, ↓zs_273_16, ↓zs_273_17, ↓zs_273_18, zx_pu_s, zx_pu_n, zx_rv_s, zx_rv_n, true_and, and_true, true_or, or_true, zb_0, zb_1, zq_lcl, zq_lcg, zq_lce, eq_self, ite_true, ite_false, g1]
    rw [s1, s2, s3, s4]
    simp (disch := omega) only [↓zs_273_74, ↓zs_273_75, ↓zs_273_76, ↓zs_273_77, ↓zs_273_78, ↓zs_273_79, zx_pu_s, zx_pu_n, zx_rv_s, zx_rv_n, true_and, and_true, true_or, or_true, zb_0, zb_1, zq_lcl, zq_lcg, zq_lce, eq_self, ite_true, ite_false]
    rw [← g2]
    rfl
theorem zl_ntz {b : Int64} (hb : b ≠ lN 0) : zx_rn (d + 1) 275 [.long b] L I J P = P (some (.int (nI (zf_low b)))) L I J := by
  obtain ⟨n, hn, rfl⟩ := wb_of b
  obtain ⟨p, r, rfl⟩ := zf_odd n (fun e => hb (by rw [e]))
  obtain ⟨hp, hl⟩ := zf_odd_low hn
  rw [hl, ze_275]
  rcases Nat.lt_or_ge p 32 with q | q
  · have e1 : (lN (2 ^ p * (2 * r + 1))).toInt32 = nI (2 ^ p * (2 * (r % 2 ^ (31 - p)) + 1)) := by
      rw [lN_i]
      apply Int32.toBitVec_inj.mp
      apply BitVec.eq_of_getLsbD_eq
      intro j hj
      show (BitVec.ofNat 32 _).getLsbD j = (BitVec.ofNat 32 _).getLsbD j
      rw [BitVec.getLsbD_ofNat, BitVec.getLsbD_ofNat, zt_odd, zt_odd, Nat.testBit_mod_two_pow]
      by_cases c : j < p
      · rw [if_pos c, if_pos c]
      · rw [if_neg c, if_neg c]
        by_cases e : j = p
        · rw [if_pos e, if_pos e]
        · rw [if_neg e, if_neg e, decide_eq_true (show j - p - 1 < 31 - p by omega), Bool.true_and]
    have lt : 2 ^ p * (2 * (r % 2 ^ (31 - p)) + 1) < 2 ^ 32 := by
      have h1 : r % 2 ^ (31 - p) < 2 ^ (31 - p) := Nat.mod_lt _ (Nat.two_pow_pos _)
      have h2 : 2 ^ p * (2 * (r % 2 ^ (31 - p)) + 1) < 2 ^ p * (2 * 2 ^ (31 - p)) := Nat.mul_lt_mul_of_pos_left (by omega) (Nat.two_pow_pos p)
      have h3 : 2 ^ p * (2 * 2 ^ (31 - p)) = 2 ^ 32 := by
        rw [Nat.mul_comm 2, ← Nat.pow_succ, ← Nat.pow_add]
        congr 1; omega
      omega
    have ne : (nI (2 ^ p * (2 * (r % 2 ^ (31 - p)) + 1)) = nI 0) = False := eq_false (fun e => by
      have q1 := congrArg (fun x : Int32 => x.toBitVec.getLsbD p) e
      have q2 : (BitVec.ofNat 32 (2 ^ p * (2 * (r % 2 ^ (31 - p)) + 1))).getLsbD p = (BitVec.ofNat 32 0).getLsbD p := q1
      rw [BitVec.getLsbD_ofNat, zt_odd, if_neg (by omega), if_pos rfl, decide_eq_true q, BitVec.getLsbD_ofNat, Nat.zero_testBit, Bool.and_false] at q2
      exact absurd q2 (by decide))
    have hz := fun P => zl_ntz32 (d := d) (L := L) (I := I) (J := J) (P := P) q lt
    simp (disch := omega) only [↓zs_275_0, ↓zs_275_1, ↓zs_275_2, ↓zs_275_3, ↓zs_275_4, ↓zs_275_7, ↓zs_275_9, ↓zs_275_10, ↓zs_275_12, ↓zs_275_13, ↓zs_275_14, ↓zs_275_17, ↓zs_275_18, ↓zs_275_21, ↓zs_275_22, ↓zs_275_25, zx_pu_s, zx_pu_n, zx_rv_s, zx_rv_n, true_and, and_true, true_or, or_true, zb_0, zb_1, zq_lcl, zq_lcg, zq_lce, eq_self, ite_true, ite_false, e1, ne, hz]
  · have e1 : (lN (2 ^ p * (2 * r + 1))).toInt32 = nI 0 := by
      rw [lN_i]
      apply Int32.toBitVec_inj.mp
      apply BitVec.eq_of_getLsbD_eq
      intro j hj
      show (BitVec.ofNat 32 _).getLsbD j = (BitVec.ofNat 32 _).getLsbD j
      rw [BitVec.getLsbD_ofNat, BitVec.getLsbD_ofNat, zt_odd, if_pos (by omega), Nat.zero_testBit]
    have hd : 2 ^ p * (2 * r + 1) / 2 ^ 32 = 2 ^ (p - 32) * (2 * r + 1) := by
      rw [show p = 32 + (p - 32) by omega, Nat.pow_add, Nat.mul_assoc, Nat.mul_div_cancel_left _ (by decide), show 32 + (p - 32) - 32 = p - 32 by omega]
    have e2 : ((lN (2 ^ p * (2 * r + 1))).toUInt64 >>> ((nI 32).toInt64.toUInt64 &&& Int64.toUInt64 63)).toInt64.toInt32 = nI (2 ^ (p - 32) * (2 * r + 1)) := by
      rw [wb_shr hn (by decide), hd, lN_i]
    have lt : 2 ^ (p - 32) * (2 * r + 1) < 2 ^ 32 := by
      rw [← hd]
      exact Nat.div_lt_of_lt_mul (by omega)
    have hz := fun P => zl_ntz32 (d := d) (L := L) (I := I) (J := J) (P := P) (p := p - 32) (by omega) lt
    simp (disch := omega) only [↓zs_275_0, ↓zs_275_1, ↓zs_275_2, ↓zs_275_3, ↓zs_275_4, ↓zs_275_7, ↓zs_275_9, ↓zs_275_10, ↓zs_275_12, ↓zs_275_13, ↓zs_275_14, ↓zs_275_17, ↓zs_275_18, ↓zs_275_21, ↓zs_275_22, ↓zs_275_25, zx_pu_s, zx_pu_n, zx_rv_s, zx_rv_n, true_and, and_true, true_or, or_true, zb_0, zb_1, zq_lcl, zq_lcg, zq_lce, eq_self, ite_true, ite_false, e1, e2, hz, nI_add]
    rw [show 32 + (p - 32) = p by omega]
end NT
