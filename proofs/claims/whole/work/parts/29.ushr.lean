/-! bits: the shift with no sign -/
theorem zt_ushr {b : Int64} {k : Nat} (hk : k < 64) : (b.toUInt64 >>> ((nI k).toInt64.toUInt64 &&& Int64.toUInt64 63)).toInt64 &&& lN 1 = if zf_bit b k = true then lN 1 else lN 0 := by
  have hs : ((((nI k).toInt64.toUInt64 &&& Int64.toUInt64 63).toBitVec) % 64).toNat = k := by
    have h : ∀ k : Fin 64, ((((nI k.1).toInt64.toUInt64 &&& Int64.toUInt64 63).toBitVec) % 64).toNat = k.1 := by decide +kernel
    exact h ⟨k, hk⟩
  have e : zf_bit (b.toUInt64 >>> ((nI k).toInt64.toUInt64 &&& Int64.toUInt64 63)).toInt64 0 = zf_bit b k := by
    unfold zf_bit
    show (b.toUInt64 >>> ((nI k).toInt64.toUInt64 &&& Int64.toUInt64 63)).toBitVec.getLsbD 0 = _
    rw [UInt64.toBitVec_shiftRight, BitVec.ushiftRight_eq', hs, BitVec.getLsbD_ushiftRight, Nat.add_zero]
    rfl
  have h1 : ∀ j, j < 64 → zf_bit (lN 1) j = decide (j = 0) := by
    intro j hj
    have h : ∀ j : Fin 64, zf_bit (lN 1) j.1 = decide (j.1 = 0) := by decide +kernel
    exact h ⟨j, hj⟩
  apply zt_ext
  intro j hj
  rw [zt_and, h1 j hj]
  by_cases h0 : j = 0
  · rw [h0, e]
    cases zf_bit b k
    · rw [if_neg (by decide), zt_0]; rfl
    · rw [if_pos rfl, h1 0 (by omega)]; rfl
  · rw [decide_eq_false h0, Bool.and_false]
    split
    · rw [h1 j hj, decide_eq_false h0]
    · rw [zt_0]
