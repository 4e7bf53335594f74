/-! the smallest set -/
def zf_pop (a : Nat) : Nat := zf_cnt a.testBit 8 0
def zf_pc : Option Nat → Nat
  | none => 9
  | some c => zf_pop c
def zf_oi : Option Nat → Int32
  | none => -1
  | some c => nI c
def zf_min (g : Nat → Bool) : Nat → Nat → Option Nat → Option Nat
  | 0, _, b => b
  | mm + 1, a, b => zf_min g mm (a + 1) (if (decide (zf_pop a < zf_pc b) && g a) = true then some a else b)
theorem zf_cnt_le (p : Nat → Bool) : ∀ m k, zf_cnt p m k ≤ m := by
  intro m
  induction m with
  | zero => intro k; exact Nat.le_refl 0
  | succ m ih =>
    intro k
    have := ih (k + 1)
    rw [zf_cnt]
    split <;> omega
theorem zf_pop_le (a : Nat) : zf_pop a ≤ 8 := zf_cnt_le _ 8 0
theorem zf_min_o (g : Nat → Bool) : ∀ mm a b H, a + mm ≤ H → (∀ c, b = some c → c < H) → ∀ c, zf_min g mm a b = some c → c < H := by
  intro mm
  induction mm with
  | zero => intro a b H _ h c e; exact h c e
  | succ mm ih =>
    intro a b H ha h c e
    unfold zf_min at e
    refine ih (a + 1) _ H (by omega) (fun c2 e2 => ?_) c e
    split at e2
    · have := Option.some.inj e2; omega
    · exact h c2 e2
section TS
variable {Lh m : Nat} {I : zx_MI} {J : zx_MJ}
theorem sc_smallest {k : Nat} (v : zInv I J m) (hm : m < 2 ^ 29) (hk : k < 64) : ∃ I2, zFc 19 I I2 ∧ ∀ d P, zx_rn (d + 5) 133 [.ref 0, .int (nI k)] (zx_LL Lh) I J P = P (some (.int (zf_oi (zf_min (zf_gd 109 (I 139) k) (2 ^ zn (I 139)) 0 none)))) (zx_LL Lh) I2 J := by
  obtain ⟨⟨hw, hh, hN⟩, gr, g, ex, ok, N8, wh⟩ := zInv_k v
  have hH : 2 ^ zn (I 139) ≤ 256 := Nat.pow_le_pow_right (n := 2) (by decide) N8
  have hsh := zq_shl1 (s := zn (I 139)) (by omega)
  generalize zf_gd 109 (I 139) k = gd at *
  sorry
end TS
