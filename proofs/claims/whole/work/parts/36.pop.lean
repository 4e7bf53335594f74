/-! words as numbers (rows of the kit, pasted) -/
theorem wb_tb (n : Nat) : (lN n).toBitVec = BitVec.ofNat 64 n := rfl
theorem wb_inj {a b : Int64} (h : a.toBitVec = b.toBitVec) : a = b := Int64.toBitVec_inj.mp h
theorem wb_tn {n : Nat} (h : n < 2 ^ 64) : (lN n).toBitVec.toNat = n := by rw [wb_tb, BitVec.toNat_ofNat, Nat.mod_eq_of_lt h]
theorem wb_of (x : Int64) : ∃ n, n < 2 ^ 64 ∧ x = lN n := ⟨x.toBitVec.toNat, x.toBitVec.isLt, wb_inj (by rw [wb_tb]; simp)⟩
theorem wb_of32 (x : Int32) : ∃ n, n < 2 ^ 32 ∧ x = nI n := ⟨x.toBitVec.toNat, x.toBitVec.isLt, Int32.toBitVec_inj.mp (by show _ = BitVec.ofNat 32 _; simp)⟩
theorem wb_c : ∀ k, k < 64 → ((nI k).toInt64 &&& 63) = lN k := by decide +kernel
theorem wb_cu : ∀ k, k < 64 → ((nI k).toInt64.toUInt64 &&& Int64.toUInt64 63) = UInt64.ofNat k := by decide +kernel
theorem wb_sm : ∀ k, k < 64 → (BitVec.ofNat 64 k).smod 64 = BitVec.ofNat 64 k := by decide +kernel
theorem wb_pw {a b : Nat} (h : a ≤ b) : 2 ^ b = 2 ^ a * 2 ^ (b - a) := by rw [← Nat.pow_add]; congr 1; omega
theorem wb_lt2 {a b : Nat} (h : a < b) : 2 ^ a < 2 ^ b := Nat.pow_lt_pow_right (by decide) h
theorem wb_mod (n : Nat) : lN n = lN (n % 2 ^ 64) := wb_inj (by rw [wb_tb, wb_tb]; apply BitVec.eq_of_toNat_eq; rw [BitVec.toNat_ofNat, BitVec.toNat_ofNat, Nat.mod_mod])
theorem wb_shr {n k : Nat} (hn : n < 2 ^ 64) (hk : k < 64) : ((lN n).toUInt64 >>> ((nI k).toInt64.toUInt64 &&& Int64.toUInt64 63)).toInt64 = lN (n / 2 ^ k) := by
  rw [wb_cu k hk]
  apply wb_inj
  apply BitVec.eq_of_toNat_eq
  show ((lN n).toUInt64 >>> UInt64.ofNat k).toNat = (BitVec.ofNat 64 _).toNat
  have h1 : (UInt64.ofNat k).toNat = k := by
    show (BitVec.ofNat 64 k).toNat = k
    rw [BitVec.toNat_ofNat, Nat.mod_eq_of_lt (by omega)]
  have h2 : (lN n).toUInt64.toNat = n := wb_tn hn
  rw [UInt64.toNat_shiftRight, h1, h2, Nat.mod_eq_of_lt hk, Nat.shiftRight_eq_div_pow, BitVec.toNat_ofNat, Nat.mod_eq_of_lt (Nat.lt_of_le_of_lt (Nat.div_le_self _ _) hn)]
theorem wb_shl (n : Nat) {k : Nat} (hk : k < 64) : lN n <<< ((nI k).toInt64 &&& 63) = lN (n * 2 ^ k) := by
  rw [wb_c k hk]
  apply wb_inj
  rw [Int64.toBitVec_shiftLeft, wb_tb, wb_tb, wb_tb, wb_sm k hk]
  apply BitVec.eq_of_toNat_eq
  rw [BitVec.shiftLeft_eq', BitVec.toNat_shiftLeft, BitVec.toNat_ofNat, BitVec.toNat_ofNat, BitVec.toNat_ofNat, Nat.mod_eq_of_lt (show k < 2 ^ 64 by omega), Nat.shiftLeft_eq, Nat.mul_mod, Nat.mod_mod, ← Nat.mul_mod]
theorem wb_and {a b : Nat} (ha : a < 2 ^ 64) (hb : b < 2 ^ 64) : lN a &&& lN b = lN (a &&& b) := by
  apply wb_inj
  rw [Int64.toBitVec_and, wb_tb, wb_tb, wb_tb]
  apply BitVec.eq_of_toNat_eq
  rw [BitVec.toNat_and, BitVec.toNat_ofNat, BitVec.toNat_ofNat, BitVec.toNat_ofNat, Nat.mod_eq_of_lt ha, Nat.mod_eq_of_lt hb, Nat.mod_eq_of_lt (Nat.and_lt_two_pow _ hb)]
theorem wb_or {a b : Nat} (ha : a < 2 ^ 64) (hb : b < 2 ^ 64) : lN a ||| lN b = lN (a ||| b) := by
  apply wb_inj
  rw [Int64.toBitVec_or, wb_tb, wb_tb, wb_tb]
  apply BitVec.eq_of_toNat_eq
  rw [BitVec.toNat_or, BitVec.toNat_ofNat, BitVec.toNat_ofNat, BitVec.toNat_ofNat, Nat.mod_eq_of_lt ha, Nat.mod_eq_of_lt hb, Nat.mod_eq_of_lt (Nat.or_lt_two_pow ha hb)]
theorem wb_mask {n k : Nat} (hn : n < 2 ^ 64) (hk : k < 64) : lN n &&& lN (2 ^ k - 1) = lN (n % 2 ^ k) := by
  rw [wb_and hn (by have := wb_lt2 hk; omega), Nat.and_two_pow_sub_one_eq_mod]
theorem wb_a1 {n : Nat} (hn : n < 2 ^ 64) : lN n &&& 1 = lN (n % 2) := wb_mask (k := 1) hn (by decide)
/-! how many bits: the language's own counts -/
/-- bytes as one number, the lowest first -/
def zc_v : List Nat → Nat
  | [] => 0
  | b :: r => b + 256 * zc_v r
theorem zc_and {q r m c s : Nat} (hs : s ≤ 8) (hr : r < 256) (hc : c < 2 ^ (8 - s)) : (r + 256 * q) / 2 ^ s &&& (c + 256 * m) = (r / 2 ^ s &&& c) + 256 * (q / 2 ^ s &&& m) := by
  have hc8 : c < 2 ^ 8 := Nat.lt_of_lt_of_le hc (Nat.pow_le_pow_right (by decide) (by omega))
  have h1 : (r / 2 ^ s &&& c) < 2 ^ 8 := Nat.and_lt_two_pow _ hc8
  have hr8 : r < 2 ^ 8 := hr
  apply Nat.eq_of_testBit_eq
  intro j
  rw [Nat.testBit_and, Nat.testBit_div_two_pow, show r + 256 * q = 2 ^ 8 * q + r by omega, show c + 256 * m = 2 ^ 8 * m + c by omega, show (r / 2 ^ s &&& c) + 256 * (q / 2 ^ s &&& m) = 2 ^ 8 * (q / 2 ^ s &&& m) + (r / 2 ^ s &&& c) by omega, Nat.testBit_two_pow_mul_add _ hr8, Nat.testBit_two_pow_mul_add _ hc8, Nat.testBit_two_pow_mul_add _ h1]
  by_cases hj : j < 8
  · rw [if_pos hj, if_pos hj, Nat.testBit_and, Nat.testBit_div_two_pow]
    by_cases h2 : j + s < 8
    · rw [if_pos h2]
    · rw [if_neg h2, Nat.testBit_lt_two_pow (Nat.lt_of_lt_of_le hc (Nat.pow_le_pow_right (by decide) (by omega))), Bool.and_false, Bool.and_false]
  · rw [if_neg hj, if_neg (by omega), if_neg hj, Nat.testBit_and, Nat.testBit_div_two_pow, show j + s - 8 = j - 8 + s by omega]
theorem zc_andL {s c : Nat} (hs : s ≤ 8) (hc : c < 2 ^ (8 - s)) : ∀ bs : List Nat, (∀ b, b ∈ bs → b < 256) → zc_v bs / 2 ^ s &&& zc_v (bs.map fun _ => c) = zc_v (bs.map fun b => b / 2 ^ s &&& c)
  | [], _ => by show 0 / 2 ^ s &&& 0 = 0; rw [Nat.and_zero]
  | b :: r, h => by
    show (b + 256 * zc_v r) / 2 ^ s &&& (c + 256 * zc_v (r.map fun _ => c)) = (b / 2 ^ s &&& c) + 256 * zc_v (r.map fun b => b / 2 ^ s &&& c)
    rw [zc_and hs (h b (List.mem_cons_self ..)) hc, zc_andL hs hc r (fun x hx => h x (List.mem_cons_of_mem _ hx))]
theorem zc_sub {g : Nat → Nat} : ∀ bs : List Nat, (∀ b, b ∈ bs → g b ≤ b) → zc_v (bs.map g) ≤ zc_v bs ∧ zc_v bs - zc_v (bs.map g) = zc_v (bs.map fun b => b - g b)
  | [], _ => ⟨Nat.le_refl _, rfl⟩
  | b :: r, h => by
    have h1 := h b (List.mem_cons_self ..)
    obtain ⟨h2, h3⟩ := zc_sub r (fun x hx => h x (List.mem_cons_of_mem _ hx))
    show g b + 256 * zc_v (r.map g) ≤ b + 256 * zc_v r ∧ (b + 256 * zc_v r) - (g b + 256 * zc_v (r.map g)) = (b - g b) + 256 * zc_v (r.map fun b => b - g b)
    rw [← h3]
    omega
theorem zc_add {f g : Nat → Nat} : ∀ bs : List Nat, zc_v (bs.map f) + zc_v (bs.map g) = zc_v (bs.map fun b => f b + g b)
  | [] => rfl
  | b :: r => by
    show (f b + 256 * zc_v (r.map f)) + (g b + 256 * zc_v (r.map g)) = (f b + g b) + 256 * zc_v (r.map fun b => f b + g b)
    rw [← zc_add r]
    omega
theorem zc_lt : ∀ (bs : List Nat) (n : Nat), bs.length = n → (∀ b, b ∈ bs → b < 256) → zc_v bs < 2 ^ (8 * n)
  | [], n, h, _ => by subst h; exact Nat.one_pos
  | b :: r, n, h, hb => by
    subst h
    have h1 := hb b (List.mem_cons_self ..)
    have h2 := zc_lt r r.length rfl (fun x hx => hb x (List.mem_cons_of_mem _ hx))
    show b + 256 * zc_v r < 2 ^ (8 * (r.length + 1))
    rw [show 8 * (r.length + 1) = 8 * r.length + 8 by omega, Nat.pow_add]
    omega
/-- the three steps on a byte -/
def zc_1 (b : Nat) : Nat := b - (b / 2 ^ 1 &&& 85)
def zc_2 (b : Nat) : Nat := (b / 2 ^ 0 &&& 51) + (b / 2 ^ 2 &&& 51)
def zc_3 (b : Nat) : Nat := (b + b / 16) % 16
theorem zc_byte : ∀ b : Fin 256, (b.1 / 2 ^ 1 &&& 85) ≤ b.1 ∧ zc_1 b.1 < 256 ∧ zc_2 (zc_1 b.1) ≤ 68 ∧ zc_2 (zc_1 b.1) % 16 ≤ 4 ∧ zc_3 (zc_2 (zc_1 b.1)) = zf_cnt b.1.testBit 8 0 := by decide +kernel
theorem zc_nib : ∀ bs : List Nat, (∀ b, b ∈ bs → b ≤ 68 ∧ b % 16 ≤ 4) → (zc_v bs + zc_v bs / 16) / 2 ^ 0 &&& zc_v (bs.map fun _ => 15) = zc_v (bs.map zc_3)
  | [], _ => rfl
  | b :: r, h => by
    obtain ⟨h1, h2⟩ := h b (List.mem_cons_self ..)
    have ih := zc_nib r (fun x hx => h x (List.mem_cons_of_mem _ hx))
    have hX : zc_v r % 16 ≤ 4 := by
      cases r with
      | nil => exact Nat.zero_le _
      | cons c l =>
        have h3 := (h c (List.mem_cons_of_mem _ (List.mem_cons_self ..))).2
        show (c + 256 * zc_v l) % 16 ≤ 4
        omega
    show ((b + 256 * zc_v r) + (b + 256 * zc_v r) / 16) / 2 ^ 0 &&& (15 + 256 * zc_v (r.map fun _ => 15)) = zc_3 b + 256 * zc_v (r.map zc_3)
    rw [← ih, show (b + 256 * zc_v r) + (b + 256 * zc_v r) / 16 = (b + b / 16 + 16 * (zc_v r % 16)) + 256 * (zc_v r + zc_v r / 16) by omega, zc_and (by decide) (by omega) (by decide)]
    congr 1
    rw [Nat.pow_zero, Nat.div_one, show (15 : Nat) = 2 ^ 4 - 1 from rfl, Nat.and_two_pow_sub_one_eq_mod]
    unfold zc_3
    omega
theorem zf_cnt_shift (p : Nat → Bool) (a m k : Nat) : zf_cnt p m (a + k) = zf_cnt (fun j => p (a + j)) m k := by
  induction m generalizing k with
  | zero => rfl
  | succ m ih => rw [zf_cnt, zf_cnt, ← ih (k + 1), Nat.add_assoc]
theorem zt_nat {n k : Nat} (hk : k < 64) : zf_bit (lN n) k = n.testBit k := by
  unfold zf_bit
  rw [wb_tb, BitVec.getLsbD_ofNat, decide_eq_true hk, Bool.true_and]
/-- byte i of a number -/
def zc_b (n i : Nat) : Nat := n / 2 ^ (8 * i) % 2 ^ 8
theorem zc_cnt8 (n i : Nat) : zf_cnt n.testBit 8 (8 * i) = zf_cnt (zc_b n i).testBit 8 0 := by
  rw [show 8 * i = 8 * i + 0 by omega, zf_cnt_shift]
  apply zf_cnt_eq
  intro j _ h2
  unfold zc_b
  rw [Nat.testBit_mod_two_pow, Nat.testBit_div_two_pow, decide_eq_true (by omega), Bool.true_and, Nat.add_comm]
theorem zc_cnt64 (n : Nat) : zf_cnt n.testBit 64 0 = zf_cnt (zc_b n 0).testBit 8 0 + (zf_cnt (zc_b n 1).testBit 8 0 + (zf_cnt (zc_b n 2).testBit 8 0 + (zf_cnt (zc_b n 3).testBit 8 0 + (zf_cnt (zc_b n 4).testBit 8 0 + (zf_cnt (zc_b n 5).testBit 8 0 + (zf_cnt (zc_b n 6).testBit 8 0 + zf_cnt (zc_b n 7).testBit 8 0)))))) := by
  rw [← zc_cnt8, ← zc_cnt8, ← zc_cnt8, ← zc_cnt8, ← zc_cnt8, ← zc_cnt8, ← zc_cnt8, ← zc_cnt8]
  rw [show 64 = 8 + (8 + (8 + (8 + (8 + (8 + (8 + 8)))))) by rfl, zf_cnt_add, zf_cnt_add, zf_cnt_add, zf_cnt_add, zf_cnt_add, zf_cnt_add, zf_cnt_add]
/-- eight bytes -/
def zc_l (b : Nat → Nat) : List Nat := [b 0, b 1, b 2, b 3, b 4, b 5, b 6, b 7]
theorem zc_all {Q : Nat → Prop} {b : Nat → Nat} (h : ∀ i, Q (b i)) : ∀ x, x ∈ zc_l b → Q x := by
  intro x hx
  simp only [zc_l, List.mem_cons, List.not_mem_nil, or_false] at hx
  rcases hx with rfl | rfl | rfl | rfl | rfl | rfl | rfl | rfl <;> exact h _
theorem zc_map (f : Nat → Nat) (b : Nat → Nat) : (zc_l b).map f = zc_l (fun i => f (b i)) := rfl
theorem zc_64 {b : Nat → Nat} (h : ∀ i, b i < 256) : zc_v (zc_l b) < 2 ^ 64 := zc_lt (zc_l b) 8 rfl (zc_all h)
theorem zc_andW {b : Nat → Nat} {s c : Nat} (h : ∀ i, b i < 256) (hs : s < 8) (hc : c < 2 ^ (8 - s)) (hc2 : c < 256) : ((lN (zc_v (zc_l b))).toUInt64 >>> ((nI s).toInt64.toUInt64 &&& Int64.toUInt64 63)).toInt64 &&& lN (zc_v (zc_l fun _ => c)) = lN (zc_v (zc_l fun i => b i / 2 ^ s &&& c)) := by
  have h64 := zc_64 h
  rw [wb_shr h64 (by omega), wb_and (Nat.lt_of_le_of_lt (Nat.div_le_self _ _) h64) (zc_64 (fun _ => hc2))]
  exact congrArg lN (zc_andL (by omega) hc (zc_l b) (zc_all h))
theorem zc_and0 {b : Nat → Nat} {c : Nat} (h : ∀ i, b i < 256) (hc : c < 256) : lN (zc_v (zc_l b)) &&& lN (zc_v (zc_l fun _ => c)) = lN (zc_v (zc_l fun i => b i / 2 ^ 0 &&& c)) := by
  rw [wb_and (zc_64 h) (zc_64 (fun _ => hc))]
  have := zc_andL (s := 0) (by omega) hc (zc_l b) (zc_all h)
  rw [Nat.pow_zero, Nat.div_one] at this
  exact congrArg lN this
section BC
variable {d Lh : Nat} {L : zx_Lay} {I : zx_MI} {J : zx_MJ} {P : Option Value → zx_Lay → zx_MI → zx_MJ → Prop}
theorem zl_bitCountB {b : Nat → Nat} (hb : ∀ i, b i < 256) : zx_rn d 276 [.long (lN (zc_v (zc_l b)))] L I J P = P (some (.int (nI (zf_cnt (b 0).testBit 8 0 + (zf_cnt (b 1).testBit 8 0 + (zf_cnt (b 2).testBit 8 0 + (zf_cnt (b 3).testBit 8 0 + (zf_cnt (b 4).testBit 8 0 + (zf_cnt (b 5).testBit 8 0 + (zf_cnt (b 6).testBit 8 0 + zf_cnt (b 7).testBit 8 0)))))))))) L I J := by
  have e1 : lN (zc_v (zc_l b)) - (((lN (zc_v (zc_l b))).toUInt64 >>> ((nI 1).toInt64.toUInt64 &&& Int64.toUInt64 63)).toInt64 &&& lN 6148914691236517205) = lN (zc_v (zc_l fun i => zc_1 (b i))) := by
    rw [show (6148914691236517205 : Nat) = zc_v (zc_l fun _ => 85) from rfl, zc_andW hb (by decide) (by decide) (by decide)]
    obtain ⟨q1, q2⟩ := zc_sub (g := fun b => b / 2 ^ 1 &&& 85) (zc_l b) (zc_all (fun i => (zc_byte ⟨b i, hb i⟩).1))
    rw [show (zc_l fun i => b i / 2 ^ 1 &&& 85) = (zc_l b).map (fun b => b / 2 ^ 1 &&& 85) from rfl, lN_sub q1, q2]
    rfl
  have hb1 : ∀ i, zc_1 (b i) < 256 := fun i => (zc_byte ⟨b i, hb i⟩).2.1
  have e2 : (lN (zc_v (zc_l fun i => zc_1 (b i))) &&& lN 3689348814741910323) + (((lN (zc_v (zc_l fun i => zc_1 (b i)))).toUInt64 >>> ((nI 2).toInt64.toUInt64 &&& Int64.toUInt64 63)).toInt64 &&& lN 3689348814741910323) = lN (zc_v (zc_l fun i => zc_2 (zc_1 (b i)))) := by
    rw [show (3689348814741910323 : Nat) = zc_v (zc_l fun _ => 51) from rfl, zc_andW hb1 (by decide) (by decide) (by decide), zc_and0 hb1 (by decide), lN_add]
    exact congrArg lN (zc_add (f := fun b => b / 2 ^ 0 &&& 51) (g := fun b => b / 2 ^ 2 &&& 51) (zc_l fun i => zc_1 (b i)))
  have hb2 : ∀ i, zc_2 (zc_1 (b i)) ≤ 68 ∧ zc_2 (zc_1 (b i)) % 16 ≤ 4 := fun i => ⟨(zc_byte ⟨b i, hb i⟩).2.2.1, (zc_byte ⟨b i, hb i⟩).2.2.2.1⟩
  have hb2' : ∀ i, zc_2 (zc_1 (b i)) < 256 := fun i => by have := (hb2 i).1; omega
  have e3 : (lN (zc_v (zc_l fun i => zc_2 (zc_1 (b i)))) + ((lN (zc_v (zc_l fun i => zc_2 (zc_1 (b i))))).toUInt64 >>> ((nI 4).toInt64.toUInt64 &&& Int64.toUInt64 63)).toInt64) &&& lN 1085102592571150095 = lN (zc_v (zc_l fun i => zc_3 (zc_2 (zc_1 (b i))))) := by
    have q := zc_nib (zc_l fun i => zc_2 (zc_1 (b i))) (zc_all hb2)
    have h64 := zc_64 hb2'
    have hs : zc_v (zc_l fun i => zc_2 (zc_1 (b i))) < 2 ^ 63 := by
      have h7 := (hb2 7).1
      have h6 := (hb2 6).1
      have h5 := (hb2 5).1
      have h4 := (hb2 4).1
      have h3 := (hb2 3).1
      have h2 := (hb2 2).1
      have h1 := (hb2 1).1
      have h0 := (hb2 0).1
      simp only [zc_l, zc_v]
      omega
    rw [show (1085102592571150095 : Nat) = zc_v (zc_l fun _ => 15) from rfl, wb_shr h64 (by decide), lN_add, wb_and (by omega) (zc_64 (fun _ => by decide))]
    rw [Nat.pow_zero, Nat.div_one] at q
    exact congrArg lN q
  have hc : ∀ i, zc_3 (zc_2 (zc_1 (b i))) = zf_cnt (b i).testBit 8 0 := fun i => (zc_byte ⟨b i, hb i⟩).2.2.2.2
  have h8 : ∀ i, zf_cnt (b i).testBit 8 0 ≤ 8 := fun i => zf_cnt_le _ _ _
  rw [ze_276]
  simp only [↓zs_276_0, ↓zs_276_1, ↓zs_276_2, ↓zs_276_3, ↓zs_276_4, ↓zs_276_7, ↓zs_276_8, ↓zs_276_9, zx_pu_s, zx_pu_n, zx_rv_s, zx_rv_n, true_and, and_true, true_or, or_true, zb_0, zb_1, zq_lcl, zq_lcg, zq_lce, eq_self, ite_true, ite_false, e1]
  simp only [↓zs_276_10, ↓zs_276_11, ↓zs_276_14, ↓zs_276_15, ↓zs_276_16, ↓zs_276_17, ↓zs_276_18, ↓zs_276_21, ↓zs_276_22, ↓zs_276_23, zx_pu_s, zx_pu_n, zx_rv_s, zx_rv_n, true_and, and_true, true_or, or_true, zb_0, zb_1, zq_lcl, zq_lcg, zq_lce, eq_self, ite_true, ite_false, e2]
  simp only [↓zs_276_24, ↓zs_276_25, ↓zs_276_26, ↓zs_276_27, ↓zs_276_28, ↓zs_276_29, ↓zs_276_32, ↓zs_276_33, zx_pu_s, zx_pu_n, zx_rv_s, zx_rv_n, true_and, and_true, true_or, or_true, zb_0, zb_1, zq_lcl, zq_lcg, zq_lce, eq_self, ite_true, ite_false, e3, hc]
  have c0 := h8 0
  have c1 := h8 1
  have c2 := h8 2
  have c3 := h8 3
  have c4 := h8 4
  have c5 := h8 5
  have c6 := h8 6
  have c7 := h8 7
  have ev : zc_v (zc_l fun i => zf_cnt (b i).testBit 8 0) = zf_cnt (b 0).testBit 8 0 + 256 * (zf_cnt (b 1).testBit 8 0 + 256 * (zf_cnt (b 2).testBit 8 0 + 256 * (zf_cnt (b 3).testBit 8 0 + 256 * (zf_cnt (b 4).testBit 8 0 + 256 * (zf_cnt (b 5).testBit 8 0 + 256 * (zf_cnt (b 6).testBit 8 0 + 256 * (zf_cnt (b 7).testBit 8 0 + 256 * 0))))))) := rfl
  generalize zf_cnt (b 0).testBit 8 0 = k0 at *
  generalize zf_cnt (b 1).testBit 8 0 = k1 at *
  generalize zf_cnt (b 2).testBit 8 0 = k2 at *
  generalize zf_cnt (b 3).testBit 8 0 = k3 at *
  generalize zf_cnt (b 4).testBit 8 0 = k4 at *
  generalize zf_cnt (b 5).testBit 8 0 = k5 at *
  generalize zf_cnt (b 6).testBit 8 0 = k6 at *
  generalize zf_cnt (b 7).testBit 8 0 = k7 at *
  generalize zc_v (zc_l fun i => zf_cnt (b i).testBit 8 0) = v at *
  have f1 : lN v + ((lN v).toUInt64 >>> ((nI 8).toInt64.toUInt64 &&& Int64.toUInt64 63)).toInt64 = lN (v + v / 2 ^ 8) := by rw [wb_shr (by omega) (by decide), lN_add]
  simp only [↓zs_276_34, ↓zs_276_35, ↓zs_276_36, ↓zs_276_38, ↓zs_276_39, ↓zs_276_40, zx_pu_s, zx_pu_n, zx_rv_s, zx_rv_n, true_and, and_true, true_or, or_true, zb_0, zb_1, zq_lcl, zq_lcg, zq_lce, eq_self, ite_true, ite_false, f1]
  generalize ew : v + v / 2 ^ 8 = w
  have f2 : lN w + ((lN w).toUInt64 >>> ((nI 16).toInt64.toUInt64 &&& Int64.toUInt64 63)).toInt64 = lN (w + w / 2 ^ 16) := by rw [wb_shr (by omega) (by decide), lN_add]
  simp only [↓zs_276_41, ↓zs_276_42, ↓zs_276_43, ↓zs_276_45, ↓zs_276_46, ↓zs_276_47, zx_pu_s, zx_pu_n, zx_rv_s, zx_rv_n, true_and, and_true, true_or, or_true, zb_0, zb_1, zq_lcl, zq_lcg, zq_lce, eq_self, ite_true, ite_false, f2]
  generalize ex : w + w / 2 ^ 16 = x
  have f3 : lN x + ((lN x).toUInt64 >>> ((nI 32).toInt64.toUInt64 &&& Int64.toUInt64 63)).toInt64 = lN (x + x / 2 ^ 32) := by rw [wb_shr (by omega) (by decide), lN_add]
  simp only [↓zs_276_48, ↓zs_276_49, ↓zs_276_50, ↓zs_276_52, ↓zs_276_53, ↓zs_276_54, ↓zs_276_55, ↓zs_276_56, ↓zs_276_57, ↓zs_276_59, ↓zs_276_60, zx_pu_s, zx_pu_n, zx_rv_s, zx_rv_n, true_and, and_true, true_or, or_true, zb_0, zb_1, zq_lcl, zq_lcg, zq_lce, eq_self, ite_true, ite_false, f3, lN_i]
  have e9 : nI (x + x / 2 ^ 32) &&& nI 127 = nI (k0 + (k1 + (k2 + (k3 + (k4 + (k5 + (k6 + k7))))))) := by
    rw [pk_and _ 7 (by decide)]
    congr 1
    have q1 : v / 2 ^ 8 = k1 + 256 * (k2 + 256 * (k3 + 256 * (k4 + 256 * (k5 + 256 * (k6 + 256 * k7))))) := by omega
    have q2 : w / 2 ^ 16 = (k2 + k3) + 256 * ((k3 + k4) + 256 * ((k4 + k5) + 256 * ((k5 + k6) + 256 * ((k6 + k7) + 256 * k7)))) := by omega
    have q3 : x / 2 ^ 32 = (k4 + k5 + k6 + k7) + 256 * ((k5 + k6 + k7) + 256 * ((k6 + k7) + 256 * k7)) := by omega
    show (x + x / 2 ^ 32) % 2 ^ 32 % 2 ^ 7 = _
    have q4 : x % 2 ^ 8 = k0 + k1 + k2 + k3 := by omega
    have q5 : x / 2 ^ 32 % 2 ^ 8 = k4 + k5 + k6 + k7 := by omega
    clear q1 q2 q3 ev ew ex f1 f2 f3
    omega
  rw [e9]
theorem zl_bitCount (u : Int64) : zx_rn d 276 [.long u] L I J P = P (some (.int (nI (zf_cnt (zf_bit u) 64 0)))) L I J := by
  obtain ⟨n, hn, rfl⟩ := wb_of u
  have hcnt : zf_cnt (zf_bit (lN n)) 64 0 = zf_cnt n.testBit 64 0 := zf_cnt_eq _ _ _ _ (fun j _ h => zt_nat (by omega))
  rw [hcnt, zc_cnt64]
  have hv : n = zc_v (zc_l (zc_b n)) := by
    show n = zc_b n 0 + 256 * (zc_b n 1 + 256 * (zc_b n 2 + 256 * (zc_b n 3 + 256 * (zc_b n 4 + 256 * (zc_b n 5 + 256 * (zc_b n 6 + 256 * (zc_b n 7 + 256 * 0)))))))
    unfold zc_b
    omega
  have q := zl_bitCountB (d := d) (L := L) (I := I) (J := J) (P := P) (b := zc_b n) (fun i => Nat.mod_lt _ (by decide))
  rw [← hv] at q
  exact q
/-- the same of an int, as the language reckons it -/
def zc_E (x : Int32) : Int32 :=
  let u := fun (x : Int32) (k : Nat) => (x.toUInt32 >>> ((nI k).toUInt32 &&& Int32.toUInt32 31)).toInt32
  let a := x - (u x 1 &&& nI 1431655765)
  let b := (a &&& nI 858993459) + (u a 2 &&& nI 858993459)
  let c := (b + u b 4) &&& nI 252645135
  let e := c + u c 8
  (e + u e 16) &&& nI 63
theorem zl_bitCountI {n : Nat} (hn : n < 256) : zx_rn d 274 [.int (nI n)] L I J P = P (some (.int (nI (zf_cnt n.testBit 8 0)))) L I J := by
  have h : ∀ n : Fin 256, zc_E (nI n.1) = nI (zf_cnt n.1.testBit 8 0) := by decide +kernel
  have e := h ⟨n, hn⟩
  rw [ze_274]
  rw [← e]
  generalize nI n = x
  simp only [↓zs_274_0, ↓zs_274_1, ↓zs_274_2, ↓zs_274_3, ↓zs_274_4, ↓zs_274_7, ↓zs_274_8, ↓zs_274_9, ↓zs_274_10, ↓zs_274_11, ↓zs_274_14, ↓zs_274_15, ↓zs_274_16, ↓zs_274_17, ↓zs_274_18, ↓zs_274_21, ↓zs_274_22, ↓zs_274_23, zx_pu_s, zx_pu_n, zx_rv_s, zx_rv_n, true_and, and_true, true_or, or_true, zb_0, zb_1, zq_lcl, zq_lcg, zq_lce, eq_self, ite_true, ite_false]
  simp only [↓zs_274_24, ↓zs_274_25, ↓zs_274_26, ↓zs_274_27, ↓zs_274_28, ↓zs_274_29, ↓zs_274_32, ↓zs_274_33, ↓zs_274_34, ↓zs_274_35, ↓zs_274_36, ↓zs_274_38, ↓zs_274_39, ↓zs_274_40, ↓zs_274_41, ↓zs_274_42, ↓zs_274_43, ↓zs_274_45, ↓zs_274_46, ↓zs_274_47, ↓zs_274_48, ↓zs_274_49, ↓zs_274_51, ↓zs_274_52, zx_pu_s, zx_pu_n, zx_rv_s, zx_rv_n, true_and, and_true, true_or, or_true, zb_0, zb_1, zq_lcl, zq_lcg, zq_lce, eq_self, ite_true, ite_false]
  rfl
end BC
