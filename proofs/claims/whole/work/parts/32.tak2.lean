/-! the class's taken STONES against the row -/
/-- the walls and fountains of the square in cell S are those of the row B -/
def zR_ground (J : zx_MJ) (S : Nat) (B : Nat → Int32) : Prop := ∀ k, k < 64 → zf_bit (J S 12) k = decide (B (45 + k) = -10) ∧ zf_bit (J S 13) k = decide (B (45 + k) = -11)
/-- the row's ground: plain, wall or fountain -/
def zM_ground (B : Nat → Int32) : Prop := ∀ k, k < 64 → B (45 + k) = nI 0 ∨ B (45 + k) = -10 ∨ B (45 + k) = -11
/-- a STONE is taken -/
def zf_taken (B : Nat → Int32) (N k : Nat) : Bool := !decide (B (45 + k) = nI 0) || !decide (zf_on B (nI k) N 0 = -1)
theorem zf_on_any (B : Nat → Int32) (x : Int32) (m s : Nat) (h : s + m ≤ 8) : (!decide (zf_on B x m s = -1)) = zf_any (fun i => decide (B (109 + i) = x)) m s := by
  induction m generalizing s with
  | zero => rw [zf_on, zf_any, decide_eq_true rfl]; rfl
  | succ m ih =>
    rw [zf_on, zf_any]
    by_cases e : B (109 + s) = x
    · rw [if_pos e, decide_eq_true e, Bool.true_or, decide_eq_false (by rw [zq_m1 (by omega)]; exact fun x => x)]; rfl
    · rw [if_neg e, decide_eq_false e, Bool.false_or, ih (s + 1) (by omega)]
theorem zf_any_add (p : Nat → Bool) (a b k : Nat) : zf_any p (a + b) k = (zf_any p a k || zf_any p b (k + a)) := by
  induction a generalizing k with
  | zero => rw [Nat.zero_add, zf_any, Nat.add_zero, Bool.false_or]
  | succ a ih => rw [show a + 1 + b = (a + b) + 1 by omega, zf_any, zf_any, ih, show k + 1 + a = k + (a + 1) by omega, Bool.or_assoc]
theorem zf_any_0 (p : Nat → Bool) (m k : Nat) (h : ∀ j, k ≤ j → j < k + m → p j = false) : zf_any p m k = false := by
  induction m generalizing k with
  | zero => rfl
  | succ m ih => rw [zf_any, h k (by omega) (by omega), ih (k + 1) (fun j h1 h2 => h j (by omega) (by omega))]; rfl
theorem zf_any_eq (p q : Nat → Bool) (m k : Nat) (h : ∀ j, k ≤ j → j < k + m → p j = q j) : zf_any p m k = zf_any q m k := by
  induction m generalizing k with
  | zero => rfl
  | succ m ih => rw [zf_any, zf_any, h k (by omega) (by omega), ih (k + 1) (fun j h1 h2 => h j (by omega) (by omega))]
section TK
variable {d Lh w h N : Nat} {I : zx_MI} {J : zx_MJ} {P : Option Value → zx_Lay → zx_MI → zx_MJ → Prop}
theorem zM_place {B : Nat → Int32} {T : Nat} (rel : zR_st I T B) (ok : zM_ok B w h N) (i : Nat) (hi : i < 8) : zf_opt (I (T + 1) i) 64 := by
  have hwh : w * h ≤ 64 := Nat.mul_le_mul ok.1.2.2.2.1 ok.1.2.2.2.2.1
  rw [(rel.2 i hi).1]
  rcases (ok.2 i hi).1 with e | ⟨p, hp, e⟩
  · exact .inl e
  · exact .inr ⟨p, by omega, e⟩
theorem zt_taken {B : Nat → Int32} {S T k : Nat} (gr : zR_ground J S B) (g : zM_ground B) (rel : zR_st I T B) (ok : zM_ok B w h N) (hk : k < 64) : zf_bit (zf_orAll (I (T + 1)) 8 0 (J S 12 ||| J S 13)) k = zf_taken B N k := by
  have N8 : N ≤ 8 := ok.1.2.2.2.2.2
  rw [zt_orAll hk _ _ _ (fun i _ h2 => zM_place rel ok i (by omega)), zt_or, (gr k hk).1, (gr k hk).2, zf_taken, zf_on_any _ _ _ _ (by omega)]
  congr 1
  · rcases g k hk with e | e | e <;> rw [e] <;> decide +kernel
  · rw [zf_any_eq _ (fun i => decide (B (109 + i) = nI k)) 8 0 (fun j _ h2 => by rw [(rel.2 j (by omega)).1]), show 8 = N + (8 - N) by omega, zf_any_add, zf_any_0 _ (8 - N) _ (fun j h1 h2 => by
      rw [(ok.2 j (by omega)).2.2.2 (by omega)]
      exact decide_eq_false (fun x => by have := zq_m1 (a := k) (by omega); rw [← x] at this; exact this.mp rfl)), Bool.or_false]
theorem sc_isTaken {B : Nat → Int32} {S T k : Nat} (hS : zx_sq S) (hT : zx_st T) (gr : zR_ground J S B) (g : zM_ground B) (rel : zR_st I T B) (ok : zM_ok B w h N) (hk : k < 64) : zx_rn (d + 1) 59 [.ref S, .ref T, .int (nI k)] (zx_LL Lh) I J P = P (some (.int (zB (zf_taken B N k)))) (zx_LL Lh) I J := by
  have kS := (zS_k (Lh := Lh) hS).1
  have hh := fun P => sc_takenBits (d := d) (Lh := Lh) (J := J) (P := P) hS hT (fun i hi => zM_place rel ok i hi)
  rw [ze_59]
  simp only [↓zs_59_0, ↓zs_59_1, ↓zs_59_2, ↓zs_59_5, ↓zs_59_6, ↓zs_59_7, ↓zs_59_8, ↓zs_59_9, ↓zs_59_10, ↓zs_59_11, ↓zs_59_14, ↓zs_59_15, ↓zs_59_18, ↓zs_59_19, zx_pu_s, zx_pu_n, zx_rv_s, zx_rv_n, true_and, and_true, true_or, or_true, zb_0, zb_1, zq_lcl, zq_lcg, zq_lce, eq_self, ite_true, ite_false, kS, hh, zt_ushr hk, zt_taken gr g rel ok hk]
  cases zf_taken B N k <;> simp only [reduceCtorEq, if_true, if_false, zl_10] <;> rfl
end TK
