/-! calls that look ahead: what they share -/
def zCq (Lh k : Nat) (as : List Value) (ans : (Nat → Int32) → Value) (m : Nat) : Prop := ∀ I J, zInv I J m → ∃ I1 J1, zScr I J I1 J1 ∧ ∀ d P, zx_rn (d + 30) k (.ref 0 :: as) (zx_LL Lh) I J P = P (some (ans (I 139))) (zx_LL Lh) I1 J1
def zMq (Lh k : Nat) (as : List Value) (ans : (Nat → Int32) → Value) (m : Nat) : Prop := ∀ I J, zInv I J m → ∃ I1 J1, zScr I J I1 J1 ∧ ∀ d P, zx_rn (d + 30) k (.ref 138 :: as) (zx_LL Lh) I J P = P (some (ans (I 139))) (zx_LL Lh) I1 J1
theorem zScr_139 {I I1 : zx_MI} {J J1 : zx_MJ} (h : zScr I J I1 J1) : I1 139 = I 139 := funext fun j => h.1 139 j (by unfold zSc; omega)
theorem zQ_mk {Lh k k2 m : Nat} {as : List Value} {ans : (Nat → Int32) → Value} (hc : zCq Lh k as ans m) (hm : zMq Lh k2 as ans m) {I : zx_MI} {J : zx_MJ} (v : zInv I J m) : zQ Lh k k2 as I J := by
  obtain ⟨I1, J1, s1, h1⟩ := hc I J v
  obtain ⟨I2, J2, s2, h2⟩ := hm I1 J1 (zInv_scr s1 v)
  rw [zScr_139 s1] at h2
  exact ⟨_, I1, J1, I2, J2, h1, h2, zScr_t s1 s2⟩
theorem zScr_c {T : Nat} {I I2 : zx_MI} {J : zx_MJ} (h : zFc T I I2) (hT : T = 15 ∨ T = 19 ∨ T = 66 ∨ T = 71) : zScr I J I2 J := ⟨fun a j n => h a j (fun e => n (by unfold zSc; omega)), fun _ _ _ => rfl⟩
/-- v lies from a to b -/
def zf_bt (a b : Nat) (v : Int) : Bool := decide ((a : Int) ≤ v) && decide (v ≤ b)
theorem zf_btP {a b : Nat} {v : Int} : zf_bt a b v = true ↔ (a : Int) ≤ v ∧ v ≤ b := by rw [zf_bt, Bool.and_eq_true, decide_eq_true_iff, decide_eq_true_iff]
theorem zq_gt (x : Int32) {n : Nat} (h : n < 2 ^ 31) : (nI n < x) = ((n : Int) < x.toInt) := by rw [Int32.lt_iff_toInt_lt, nI_toInt h]
theorem zf_bt_nI {a b : Nat} {x : Int32} (h : zf_bt a b x.toInt = true) (hb : b < 2 ^ 31) : ∃ k, a ≤ k ∧ k ≤ b ∧ x = nI k := by
  obtain ⟨h1, h2⟩ := zf_btP.mp h
  exact ⟨x.toInt.toNat, by omega, by omega, Int32.toInt_inj.mp (by rw [nI_toInt (by omega)]; omega)⟩
theorem sp_bt {d : Nat} {L : zx_Lay} {I : zx_MI} {J : zx_MJ} {P : Option Value → zx_Lay → zx_MI → zx_MJ → Prop} (x : Int32) {a b : Nat} (ha : a < 2 ^ 31) (hb : b < 2 ^ 31) : zx_rn d 150 [.long x.toInt64, .long (lN a), .long (lN b)] L I J P = P (some (.int (zB (zf_bt a b x.toInt)))) L I J := by
  rw [sp_within]
  have e : (!decide (x.toInt64 < lN a) && !decide (lN b < x.toInt64)) = zf_bt a b x.toInt := by
    rw [zf_bt, ← decide_not, ← decide_not]
    congr 1
    · exact decide_eq_decide.mpr (by rw [Int64.lt_iff_toInt_lt, Int32.toInt_toInt64, lN_toInt ha]; omega)
    · exact decide_eq_decide.mpr (by rw [Int64.lt_iff_toInt_lt, Int32.toInt_toInt64, lN_toInt hb]; omega)
  rw [e]
section AH
variable {Lh m : Nat} {I : zx_MI} {J : zx_MJ}
/-- the model's call begins: nothing thrown, all kept -/
theorem sp_begin (B : Nat → Int32) (hB : I 139 = B) : ∃ I1, (∀ a, a ≠ 138 → a ≠ 145 → I1 a = I a) ∧ (∀ j, j ≠ 0 → I1 138 j = I 138 j) ∧ (∀ j, j < 25 → I1 145 j = B (109 + j)) ∧ ∀ d P, zx_rn d 213 [.ref 138] (zx_LL Lh) (zx_u I 138 0 (nI 0)) J P = P none (zx_LL Lh) I1 J := by
  obtain ⟨I1, f, g, h⟩ := sp_keepsAhead (Lh := Lh) (I := zx_u I 138 0 (nI 0)) (J := J)
  refine ⟨I1, fun a h1 h2 => (f a h2).trans (zu_o h1), fun j hj => ?_, fun j hj => ?_, h⟩
  · rw [f 138 (by decide)]; exact zu_n (by omega)
  · rw [g j hj, zu_139, hB]
/-- the model's call ends: all as it was -/
theorem sp_end {I1 I3 : zx_MI} {B : Nat → Int32} (hB : I 139 = B) (f1 : ∀ a, a ≠ 138 → a ≠ 145 → I1 a = I a) (f2 : ∀ j, j ≠ 0 → I1 138 j = I 138 j) (g1 : ∀ j, j < 25 → I1 145 j = B (109 + j)) (f3 : zFm I1 I3) (s3 : zSm B (I3 139)) : (∀ d P, zx_rn d 214 [.ref 138] (zx_LL Lh) I3 J P = P none (zx_LL Lh) (zx_ur I3 139 B) J) ∧ zScr I J (zx_ur I3 139 B) J := by
  have e145 : I3 145 = I1 145 := zFm_row f3 (by decide) (by decide) (by decide)
  constructor
  · intro d P
    rw [sp_isAhead, zf_back_eq s3 (fun j hj => by rw [e145]; exact g1 j hj)]
  · refine zScr_i (fun a j n => ?_)
    unfold zSc at n
    by_cases h : a = 139
    · subst h
      rw [zr_s, hB]
    · rw [zr_o h, f3 a j (by omega)]
      by_cases h8 : a = 138
      · subst h8; exact f2 j (by omega)
      · rw [f1 a h8 (by omega)]
theorem sp_isFree {w h N k : Nat} (si : zx_SI I) (ok : zM_ok (I 139) w h N) (hk : k < 64) : ∃ I2, zFs I I2 ∧ ∀ d P, zx_rn (d + 7) 250 [.ref 138, .int (nI k)] (zx_LL Lh) I J P = P (some (.int (zB (!zf_bit (zf_under (I 139) w h N) k)))) (zx_LL Lh) I2 J := by
  obtain ⟨I2, f2, h2⟩ := sp_under (Lh := Lh) (J := J) si ok
  refine ⟨I2, f2, fun d P => ?_⟩
  rw [ze_250]
  cases c : zf_bit (zf_under (I 139) w h N) k <;> simp (disch := omega) only [↓zs_250_0, ↓zs_250_1, ↓zs_250_4, ↓zs_250_5, ↓zs_250_8, ↓zs_250_11, ↓zs_250_12, ↓zs_250_15, ↓zs_250_16, zx_pu_s, zx_pu_n, zx_rv_s, zx_rv_n, true_and, and_true, true_or, or_true, zb_0, zb_1, zq_lcl, zq_lcg, zq_lce, eq_self, ite_true, ite_false, zk_138, zw_138, zk_139, zw_139, zk_140, zw_140, zk_141, zw_141, zk_142, zw_142, zk_143, zw_143, zk_144, zw_144, zk_145, zw_145, zk_146, zw_146, zk_147, zw_147, zk_148, zw_148, zk_149, zw_149, zk_150, zw_150, zk_151, zw_151, zk_152, zw_152, zq_138_1, zq_138_2, zq_138_3, zq_138_4, zq_138_16, zq_138_19, zq_138_20, zq_138_24, zq_138_25, zq_138_26, zq_138_27, zq_138_31, zq_138_32, zq_138_33, h2, sp_isIn, c, zB_0, reduceCtorEq] <;> rfl
theorem zf_any_ex (p : Nat → Bool) (m k : Nat) : zf_any p m k = true ↔ ∃ j, k ≤ j ∧ j < k + m ∧ p j = true := by
  induction m generalizing k with
  | zero => exact ⟨fun h => Bool.noConfusion h, fun ⟨j, h1, h2, _⟩ => by omega⟩
  | succ m ih =>
    rw [zf_any, Bool.or_eq_true, ih]
    constructor
    · rintro (h | ⟨j, h1, h2, h3⟩)
      · exact ⟨k, by omega, by omega, h⟩
      · exact ⟨j, by omega, by omega, h3⟩
    · rintro ⟨j, h1, h2, h3⟩
      by_cases e : j = k
      · exact .inl (e ▸ h3)
      · exact .inr ⟨j, by omega, by omega, h3⟩
/-- nobody watches a STONE that is under no LOOK -/
theorem zf_wat_0 (B : Nat → Int32) (w h N k : Nat) : zf_bit (zf_under B w h N) k = !decide (zf_wat B w h N k = 0) := by
  unfold zf_under zf_wat
  rw [zt_orL, zt_0, Bool.false_or]
  by_cases c : zf_bs (fun s => zf_bit (zf_look B w h N s).1 k) N 0 0 = 0
  · rw [decide_eq_true c, Bool.not_true]
    cases q : zf_any (fun i => zf_bit (zf_look B w h N i).1 k) N 0 with
    | false => rfl
    | true =>
      obtain ⟨j, h1, h2, h3⟩ := (zf_any_ex _ _ _).mp q
      have := zf_bs_bit (fun s => zf_bit (zf_look B w h N s).1 k) j N 0 0
      rw [c, Nat.zero_testBit, Bool.false_or, decide_eq_true h1, decide_eq_true h2, Bool.true_and, Bool.true_and] at this
      rw [h3] at this
      exact Bool.noConfusion this
  · rw [decide_eq_false c, Bool.not_false]
    obtain ⟨j, hj⟩ := Nat.exists_testBit_of_ne_zero c
    rw [zf_bs_bit, Nat.zero_testBit, Bool.false_or, Bool.and_eq_true, Bool.and_eq_true] at hj
    exact (zf_any_ex _ _ _).mpr ⟨j, of_decide_eq_true hj.1.1, of_decide_eq_true hj.1.2, hj.2⟩
/-- the first n so that it is so -/
def zf_first (p : Nat → Bool) : Nat → Nat → Int32
  | 0, _ => -1
  | m + 1, n => if p n = true then nI n else zf_first p m (n + 1)
end AH
