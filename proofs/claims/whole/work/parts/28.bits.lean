/-! bits of a long -/
def zf_bit (b : Int64) (k : Nat) : Bool := b.toBitVec.getLsbD k
/-- a long with one bit -/
def zf_one (k : Nat) : Int64 := lN 1 <<< ((nI k).toInt64 &&& 63)
theorem zt_or (a b : Int64) (k : Nat) : zf_bit (a ||| b) k = (zf_bit a k || zf_bit b k) := by unfold zf_bit; rw [Int64.toBitVec_or, BitVec.getLsbD_or]
theorem zt_and (a b : Int64) (k : Nat) : zf_bit (a &&& b) k = (zf_bit a k && zf_bit b k) := by unfold zf_bit; rw [Int64.toBitVec_and, BitVec.getLsbD_and]
theorem zt_0 (k : Nat) : zf_bit (lN 0) k = false := by unfold zf_bit; exact BitVec.getLsbD_zero
theorem zt_ext {a b : Int64} (h : ∀ k, k < 64 → zf_bit a k = zf_bit b k) : a = b := by
  apply Int64.toBitVec_inj.mp
  exact BitVec.eq_of_getLsbD_eq (fun i hi => h i hi)
theorem zt_one {k j : Nat} (hk : k < 64) (hj : j < 64) : zf_bit (zf_one k) j = decide (j = k) := by
  have h : ∀ k : Fin 64, ∀ j : Fin 64, zf_bit (zf_one k.1) j.1 = decide (j.1 = k.1) := by decide +kernel
  exact h ⟨k, hk⟩ ⟨j, hj⟩
theorem zt_eq0 (a : Int64) : (a = lN 0) ↔ ∀ k, k < 64 → zf_bit a k = false :=
  ⟨fun e k _ => by rw [e, zt_0], fun h => zt_ext (fun k hk => by rw [h k hk, zt_0])⟩
/-- the bit k shifted down and masked -/
theorem zt_shr {b : Int64} {k : Nat} (hk : k < 64) : (b >>> ((nI k).toInt64 &&& 63)) &&& lN 1 = if zf_bit b k = true then lN 1 else lN 0 := by
  have hs : ((((nI k).toInt64 &&& 63 : Int64).toBitVec).smod 64).toNat = k := by
    have h : ∀ k : Fin 64, ((((nI k.1).toInt64 &&& 63 : Int64).toBitVec).smod 64).toNat = k.1 := by decide +kernel
    exact h ⟨k, hk⟩
  have e : zf_bit (b >>> ((nI k).toInt64 &&& 63)) 0 = zf_bit b k := by
    unfold zf_bit
    rw [Int64.toBitVec_shiftRight, BitVec.sshiftRight_eq', hs, BitVec.getLsbD_sshiftRight]
    simp only [Nat.zero_add, Nat.add_zero, hk, if_true, show ¬ 64 ≤ 0 by omega, decide_false, Bool.not_false, Bool.true_and]
  have h1 : ∀ j, j < 64 → zf_bit (lN 1) j = decide (j = 0) := by
    intro j hj
    have h : ∀ j : Fin 64, zf_bit (lN 1) j.1 = decide (j.1 = 0) := by decide +kernel
    exact h ⟨j, hj⟩
  apply zt_ext
  intro j hj
  rw [zt_and, h1 j hj]
  by_cases h0 : j = 0
  · rw [h0, e]
    cases zf_bit b k
    · rw [if_neg (by decide), zt_0]; rfl
    · rw [if_pos rfl, h1 0 (by omega)]; rfl
  · rw [decide_eq_false h0, Bool.and_false]
    split
    · rw [h1 j hj, decide_eq_false h0]
    · rw [zt_0]
