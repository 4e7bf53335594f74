/-! the class's taken STONES against the row -/
/-- the walls and fountains of the square in cell S are those of the row B -/
def zR_ground (J : zx_MJ) (S : Nat) (B : Nat → Int32) : Prop := ∀ k, k < 64 → zf_bit (J S 12) k = decide (B (45 + k) = -10) ∧ zf_bit (J S 13) k = decide (B (45 + k) = -11)
/-- the row's ground: plain, wall or fountain -/
def zM_ground (B : Nat → Int32) : Prop := ∀ k, k < 64 → B (45 + k) = nI 0 ∨ B (45 + k) = -10 ∨ B (45 + k) = -11
/-- a STONE is taken -/
def zf_taken (B : Nat → Int32) (N k : Nat) : Bool := !decide (B (45 + k) = nI 0) || !decide (zf_on B (nI k) N 0 = -1)
theorem zf_on_any (B : Nat → Int32) (x : Int32) (m s : Nat) (h : s + m ≤ 8) : (!decide (zf_on B x m s = -1)) = zf_any (fun i => decide (B (109 + i) = x)) m s := by
  induction m generalizing s with
  | zero => rw [zf_on, zf_any, decide_eq_true rfl]; rfl
  | succ m ih =>
    rw [zf_on, zf_any]
    by_cases e : B (109 + s) = x
    · rw [if_pos e, decide_eq_true e, Bool.true_or, decide_eq_false (by rw [zq_m1 (by omega)]; exact fun x => x)]; rfl
    · rw [if_neg e, decide_eq_false e, Bool.false_or, ih (s + 1) (by omega)]
theorem zf_any_add (p : Nat → Bool) (a b k : Nat) : zf_any p (a + b) k = (zf_any p a k || zf_any p b (k + a)) := by
  induction a generalizing k with
  | zero => rw [Nat.zero_add, zf_any, Nat.add_zero, Bool.false_or]
  | succ a ih => rw [show a + 1 + b = (a + b) + 1 by omega, zf_any, zf_any, ih, show k + 1 + a = k + (a + 1) by omega, Bool.or_assoc]
theorem zf_any_0 (p : Nat → Bool) (m k : Nat) (h : ∀ j, k ≤ j → j < k + m → p j = false) : zf_any p m k = false := by
  induction m generalizing k with
  | zero => rfl
  | succ m ih => rw [zf_any, h k (by omega) (by omega), ih (k + 1) (fun j h1 h2 => h j (by omega) (by omega))]; rfl
theorem zf_any_eq (p q : Nat → Bool) (m k : Nat) (h : ∀ j, k ≤ j → j < k + m → p j = q j) : zf_any p m k = zf_any q m k := by
  induction m generalizing k with
  | zero => rfl
  | succ m ih => rw [zf_any, zf_any, h k (by omega) (by omega), ih (k + 1) (fun j h1 h2 => h j (by omega) (by omega))]
