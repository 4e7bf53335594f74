/-! the law of rest as the class reads it: a plain machine -/
/-- how fast a kind binds -/
def zl_bd (k : Nat) : Nat := if k = 45 ∨ k = 47 then 0 else if k = 13 then 1 else if k = 14 then 2 else if k = 15 then 3 else if k = 49 ∨ k = 50 ∨ k = 51 then 4 else if k = 42 ∨ k = 43 then 5 else 6
/-- the model's code for a kind -/
def zl_oc (k : Nat) : Nat := if k = 42 then 3000 else if k = 43 then 3001 else if k = 44 then 3002 else if k = 49 then 3003 else if k = 50 then 3004 else if k = 51 then 3005 else if k = 14 then 3006 else if k = 13 then 3007 else 3008
/-- what can wait -/
def zl_ks : List Nat := [45, 47, 13, 14, 15, 42, 43, 44, 49, 50, 51]
/-- all that binds as fast goes from the pile into the code -/
def zl_rl (b : Nat) : List Nat → Nat → List Nat → List Nat × Nat × List Nat
  | [], ns, c => ([], ns, c)
  | k :: r, ns, c => if zl_bd k < b then (k :: r, ns, c) else zl_rl b r (if k = 15 then ns - 1 else ns) (c ++ [zl_oc k])
def zl_wh (st os : Nat) (cp : Bool) : Bool := decide (st = 3) || (decide (st = 2) && (cp && decide (os = 0)))
def zl_mp (k : Nat) : Nat := if k = 29 then 1 else 2
/-- state, pile, nested, open sums, open truths, compared, code -/
abbrev zl_C : Type := Nat × List Nat × Nat × Nat × Nat × Bool × List Nat
def zl_join (st k : Nat) (p : List Nat) (ns os ot : Nat) (cp : Bool) (c : List Nat) : zl_C := (st, k :: (zl_rl (zl_bd k) p ns c).1, (zl_rl (zl_bd k) p ns c).2.1, os, ot, cp, (zl_rl (zl_bd k) p ns c).2.2)
def zl_close (st : Nat) (p : List Nat) (ns os ot : Nat) (cp : Bool) (c : List Nat) : zl_C := (st, (zl_rl 1 p ns c).1.tail, (zl_rl 1 p ns c).2.1 - 1, os, ot, cp, (zl_rl 1 p ns c).2.2)
def zl_opn (st k v : Nat) (p : List Nat) (ns os ot : Nat) (cp : Bool) (c : List Nat) : Nat ⊕ (List Nat ⊕ zl_C) :=
  if k = 27 then .inr (.inr (2, p, ns, os, ot, cp, c ++ [v]))
  else if 16 ≤ k ∧ k ≤ 23 then .inr (.inr (2, p, ns, os, ot, cp, c ++ [1000 + (k - 16)]))
  else if k = 45 ∨ (st = 0 ∧ (k = 47 ∨ k = 15)) then (if 6 ≤ ns then .inl 4 else .inr (.inr (if k = 45 then 1 else 0, k :: p, ns + 1, os + (if k = 45 then 1 else 0), ot + (if k = 47 then 1 else 0), cp, c)))
  else .inl (zl_mp k)
def zl_beh (st k : Nat) (p : List Nat) (ns os ot : Nat) (cp : Bool) (c : List Nat) : Nat ⊕ (List Nat ⊕ zl_C) :=
  if st = 2 ∧ (k = 42 ∨ k = 43 ∨ k = 44) then .inr (.inr (zl_join 1 k p ns os ot cp c))
  else if st = 2 ∧ (k = 49 ∨ k = 50 ∨ k = 51) ∧ os = 0 ∧ cp = false then .inr (.inr (zl_join 1 k p ns os ot true c))
  else if st = 2 ∧ k = 46 ∧ 0 < os then .inr (.inr (zl_close 2 p ns (os - 1) ot cp c))
  else if zl_wh st os cp = true ∧ (k = 14 ∨ k = 13) then .inr (.inr (zl_join 0 k p ns os ot false c))
  else if zl_wh st os cp = true ∧ k = 48 ∧ 0 < ot then .inr (.inr (zl_close 3 p ns os (ot - 1) cp c))
  else .inl (zl_mp k)
def zl_step (k v : Nat) (C : zl_C) : Nat ⊕ (List Nat ⊕ zl_C) :=
  if C.1 < 2 then zl_opn C.1 k v C.2.1 C.2.2.1 C.2.2.2.1 C.2.2.2.2.1 C.2.2.2.2.2.1 C.2.2.2.2.2.2
  else if k = 40 ∧ C.2.2.2.2.1 = 0 ∧ zl_wh C.1 C.2.2.2.1 C.2.2.2.2.2.1 = true then .inr (.inl (zl_rl 1 C.2.1 C.2.2.1 C.2.2.2.2.2.2).2.2)
  else zl_beh C.1 k C.2.1 C.2.2.1 C.2.2.2.1 C.2.2.2.2.1 C.2.2.2.2.2.1 C.2.2.2.2.2.2
/-- all steps: a fault and its place, or the code and the TOKEN behind the law -/
def zl_run (b : Nat → Nat) (n : Nat) : Nat → Nat × Nat × Nat × Nat → zl_C → (Nat × Nat) ⊕ (List Nat × (Nat × Nat × Nat × Nat))
  | 0, T, _ => .inl (zl_mp T.2.2.1, T.1)
  | i + 1, T, C => match zl_step T.2.2.1 T.2.2.2 C with
    | .inl f => .inl (f, T.1)
    | .inr (.inl c) => .inr (c, T)
    | .inr (.inr C') => zl_run b n i (zf_nx b n T.2.1) C'
/-- the bond of what lies on top -/
def zl_tb : List Nat → Nat
  | [] => 0
  | k :: _ => zl_bd k
/-- brackets and nots -/
def zl_cn : List Nat → Nat
  | [] => 0
  | k :: r => (if k = 45 ∨ k = 47 ∨ k = 15 then 1 else 0) + zl_cn r
def zl_cq (q : Nat) : List Nat → Nat
  | [] => 0
  | k :: r => (if k = q then 1 else 0) + zl_cq q r
/-- how kinds may lie one on the other -/
def zl_ch : List Nat → Prop
  | [] => True
  | k :: r => (k = 45 ∨ k = 47 ∨ (zl_tb r < zl_bd k ∧ k ≠ 15) ∨ (k = 15 ∧ zl_tb r ≤ 3)) ∧ zl_ch r
theorem zl_bd_le (k : Nat) : zl_bd k ≤ 6 := by
  unfold zl_bd
  repeat' split
  all_goals decide
theorem zl_tb_le (p : List Nat) : zl_tb p ≤ 6 := by
  cases p with
  | nil => exact Nat.zero_le _
  | cons k r => exact zl_bd_le k
theorem zl_len : ∀ p, zl_ch p → p.length ≤ 7 * zl_cn p + zl_tb p := by
  intro p
  induction p with
  | nil => intro _; exact Nat.zero_le _
  | cons k r ih =>
    rintro ⟨h, hr⟩
    have i := ih hr
    have t6 := zl_tb_le r
    show r.length + 1 ≤ 7 * ((if k = 45 ∨ k = 47 ∨ k = 15 then 1 else 0) + zl_cn r) + zl_bd k
    rcases h with h | h | ⟨h, h2⟩ | ⟨h, h2⟩
    · rw [if_pos (.inl h)]; omega
    · rw [if_pos (.inr (.inl h))]; omega
    · split <;> omega
    · subst h
      rw [if_pos (.inr (.inr rfl)), show zl_bd 15 = 3 from rfl]
      omega
/-- what releasing keeps -/
theorem zl_rl_p {b : Nat} (hb : 1 ≤ b) : ∀ p ns c, zl_ch p → zl_cn p ≤ ns → zl_ch (zl_rl b p ns c).1 ∧ zl_cn (zl_rl b p ns c).1 + ns = (zl_rl b p ns c).2.1 + zl_cn p ∧ zl_cn (zl_rl b p ns c).1 ≤ (zl_rl b p ns c).2.1 ∧ (zl_rl b p ns c).1.length + (zl_rl b p ns c).2.2.length = p.length + c.length ∧ zl_tb (zl_rl b p ns c).1 < b ∧ zl_cq 45 (zl_rl b p ns c).1 = zl_cq 45 p ∧ zl_cq 47 (zl_rl b p ns c).1 = zl_cq 47 p ∧ (∀ k, k ∈ (zl_rl b p ns c).1 → k ∈ p) := by
  intro p
  induction p with
  | nil =>
    intro ns c h h2
    exact ⟨h, by show 0 + ns = ns + 0; omega, h2, rfl, by show 0 < b; omega, rfl, rfl, fun _ q => q⟩
  | cons k r ih =>
    intro ns c h h2
    rw [zl_rl]
    by_cases cb : zl_bd k < b
    · rw [if_pos cb]
      exact ⟨h, by dsimp only; omega, h2, rfl, cb, rfl, rfl, fun _ q => q⟩
    · rw [if_neg cb]
      have h2' : (if k = 45 ∨ k = 47 ∨ k = 15 then 1 else 0) + zl_cn r ≤ ns := h2
      have nb : ¬ k = 45 ∧ ¬ k = 47 := by
        constructor <;> intro e <;> subst e <;> exact cb (by show 0 < b; omega)
      obtain ⟨i1, i2, i3, i4, i5, i6, i7, i8⟩ := ih (if k = 15 then ns - 1 else ns) (c ++ [zl_oc k]) h.2 (by
        by_cases e : k = 15
        · rw [if_pos (.inr (.inr e))] at h2'; rw [if_pos e]; omega
        · rw [if_neg e]; omega)
      refine ⟨i1, ?_, i3, ?_, i5, ?_, ?_, fun q hq => List.mem_cons_of_mem _ (i8 q hq)⟩
      · show _ = _ + ((if k = 45 ∨ k = 47 ∨ k = 15 then 1 else 0) + zl_cn r)
        by_cases e : k = 15
        · have e1 : (if k = 45 ∨ k = 47 ∨ k = 15 then 1 else 0) = 1 := if_pos (.inr (.inr e))
          rw [e1] at h2' ⊢
          simp only [if_pos e] at i2 ⊢
          omega
        · have e1 : (if k = 45 ∨ k = 47 ∨ k = 15 then 1 else 0) = 0 := if_neg (by omega)
          rw [e1]
          simp only [if_neg e] at i2 ⊢
          omega
      · rw [i4, List.length_append]
        show r.length + (c.length + 1) = r.length + 1 + c.length
        omega
      · rw [i6]
        show _ = (if k = 45 then 1 else 0) + zl_cq 45 r
        rw [if_neg nb.1]; omega
      · rw [i7]
        show _ = (if k = 47 then 1 else 0) + zl_cq 47 r
        rw [if_neg nb.2]; omega
/-- what lies in the pile with a bracket open -/
theorem zl_top {p : List Nat} (hv : ∀ k, k ∈ p → k ∈ zl_ks) (ht : zl_tb p < 1) (hc : 0 < zl_cq 45 p + zl_cq 47 p) : ∃ k r, p = k :: r ∧ (k = 45 ∨ k = 47) := by
  cases p with
  | nil => exact absurd hc (by decide)
  | cons k r =>
    have hk := hv k (List.mem_cons_self ..)
    have q : ∀ k, k ∈ zl_ks → zl_bd k < 1 → k = 45 ∨ k = 47 := by decide
    exact ⟨k, r, rfl, q k hk ht⟩
