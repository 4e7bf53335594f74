/-! ways: sets of STONES as longs -/
/-- the long with the bits p -/
def zf_mk (p : Nat → Bool) : Int64 := zf_orL (fun k => if p k = true then zf_one k else lN 0) 64 0 (lN 0)
theorem zt_mk {p : Nat → Bool} {j : Nat} (hj : j < 64) : zf_bit (zf_mk p) j = p j := by
  unfold zf_mk
  rw [zt_orL, zt_0, Bool.false_or]
  apply Bool.eq_iff_iff.mpr
  rw [zf_any_ex]
  constructor
  · rintro ⟨i, h1, h2, h3⟩
    by_cases c : p i = true
    · rw [if_pos c, zt_one (by omega) hj, decide_eq_true_iff] at h3
      rw [h3]; exact c
    · rw [if_neg c, zt_0] at h3
      exact Bool.noConfusion h3
  · intro h
    refine ⟨j, by omega, by omega, ?_⟩
    rw [if_pos h, zt_one hj hj, decide_eq_true rfl]
theorem zt_hi {b : Int64} {j : Nat} (h : 64 ≤ j) : zf_bit b j = false := by
  unfold zf_bit
  exact BitVec.getLsbD_of_ge _ _ h
theorem zt_shl {b : Int64} {k j : Nat} (hk : k < 64) (hj : j < 64) : zf_bit (b <<< ((nI k).toInt64 &&& 63)) j = (decide (k ≤ j) && zf_bit b (j - k)) := by
  unfold zf_bit
  rw [wb_c k hk, Int64.toBitVec_shiftLeft, wb_tb, wb_sm k hk, BitVec.shiftLeft_eq', BitVec.toNat_ofNat, Nat.mod_eq_of_lt (by omega), BitVec.getLsbD_shiftLeft, decide_eq_true hj, Bool.true_and]
  congr 1
  rw [← decide_not]
  exact decide_eq_decide.mpr (by omega)
theorem zt_ush {b : Int64} {k j : Nat} (hk : k < 64) : zf_bit (b.toUInt64 >>> ((nI k).toInt64.toUInt64 &&& Int64.toUInt64 63)).toInt64 j = zf_bit b (j + k) := by
  have hs : ((((nI k).toInt64.toUInt64 &&& Int64.toUInt64 63).toBitVec) % 64).toNat = k := by
    have h : ∀ k : Fin 64, ((((nI k.1).toInt64.toUInt64 &&& Int64.toUInt64 63).toBitVec) % 64).toNat = k.1 := by decide +kernel
    exact h ⟨k, hk⟩
  unfold zf_bit
  show (b.toUInt64 >>> ((nI k).toInt64.toUInt64 &&& Int64.toUInt64 63)).toBitVec.getLsbD j = _
  rw [UInt64.toBitVec_shiftRight, BitVec.ushiftRight_eq', hs, BitVec.getLsbD_ushiftRight, Nat.add_comm]
  rfl
theorem zt_not {b : Int64} {j : Nat} (hj : j < 64) : zf_bit (b ^^^ -1) j = !zf_bit b j := by
  have h1 : ∀ j, j < 64 → zf_bit (-1) j = true := by
    intro j hj
    have h : ∀ j : Fin 64, zf_bit (-1) j.1 = true := by decide +kernel
    exact h ⟨j, hj⟩
  have h2 := h1 j hj
  unfold zf_bit at h2 ⊢
  rw [Int64.toBitVec_xor, BitVec.getLsbD_xor, h2, Bool.xor_true]
/-- STONE b is STONE a, or beside it -/
def zf_adj (w h a b : Nat) : Bool := decide (a < w * h ∧ b < w * h ∧ (a = b ∨ a + w = b ∨ b + w = a ∨ (a + 1 = b ∧ a % w + 1 < w) ∨ (b + 1 = a ∧ b % w + 1 < w)))
theorem zf_adj_s {w h a b : Nat} : zf_adj w h a b = zf_adj w h b a := by
  unfold zf_adj
  exact decide_eq_decide.mpr (by omega)
/-- a set and all beside it -/
def zf_bes (w h : Nat) (b : Int64) : Int64 := zf_mk (fun j => zf_any (fun k => zf_bit b k && zf_adj w h k j) 64 0)
/-- a set on the square -/
def zf_sub (w h : Nat) (b : Int64) : Prop := ∀ j, j < 64 → zf_bit b j = true → j < w * h
theorem zt_bes {w h j : Nat} {b : Int64} (hj : j < 64) : zf_bit (zf_bes w h b) j = true ↔ ∃ k, k < 64 ∧ zf_bit b k = true ∧ zf_adj w h k j = true := by
  unfold zf_bes
  rw [zt_mk hj, zf_any_ex]
  constructor
  · rintro ⟨k, -, h2, h3⟩
    rw [Bool.and_eq_true] at h3
    exact ⟨k, by omega, h3.1, h3.2⟩
  · rintro ⟨k, h1, h2, h3⟩
    exact ⟨k, by omega, by omega, by rw [h2, h3]; rfl⟩
theorem zf_bes_sub {w h : Nat} {b : Int64} : zf_sub w h (zf_bes w h b) := by
  intro j hj e
  obtain ⟨k, -, -, h3⟩ := (zt_bes hj).mp e
  unfold zf_adj at h3
  exact (of_decide_eq_true h3).2.1
theorem zq_modS {w j : Nat} (hw : w < 9) (w0 : 0 < w) (hj : j < 64) : (j + 1) % w = 0 ↔ j % w + 1 = w := by
  have h : ∀ w : Fin 9, ∀ j : Fin 64, 0 < w.1 → ((j.1 + 1) % w.1 = 0 ↔ j.1 % w.1 + 1 = w.1) := by decide +kernel
  exact h ⟨w, hw⟩ ⟨j, hj⟩ w0
def zf_allb (w h : Nat) : Int64 := zf_mk (fun k => decide (k < w * h))
def zf_lastb (w h : Nat) : Int64 := zf_mk (fun k => decide (k < w * h) && decide (k % w + 1 = w))
def zf_firstb (w h : Nat) : Int64 := zf_mk (fun k => decide (k < w * h) && decide (k % w = 0))
/-- the class's way to the same -/
def zf_spr (w h : Nat) (b : Int64) : Int64 := zf_allb w h &&& (((b ||| ((b &&& (zf_lastb w h ^^^ -1)) <<< ((nI 1).toInt64 &&& 63) ||| ((b &&& (zf_firstb w h ^^^ -1)).toUInt64 >>> ((nI 1).toInt64.toUInt64 &&& Int64.toUInt64 63)).toInt64)) ||| b <<< ((nI w).toInt64 &&& 63)) ||| (b.toUInt64 >>> ((nI w).toInt64.toUInt64 &&& Int64.toUInt64 63)).toInt64)
theorem zf_spr_eq {w h : Nat} {b : Int64} (w0 : 0 < w) (w8 : w ≤ 8) (h8 : h ≤ 8) (hb : zf_sub w h b) : zf_spr w h b = zf_bes w h b := by
  have hwh : w * h ≤ 64 := Nat.mul_le_mul w8 h8
  apply zt_ext
  intro j hj
  apply Bool.eq_iff_iff.mpr
  rw [zt_bes hj]
  have ls : ∀ k, k < 64 → zf_bit b k = true → (zf_bit (b &&& (zf_lastb w h ^^^ -1)) k = true ↔ k % w + 1 < w) := by
    intro k hk e
    have := Nat.mod_lt k w0
    rw [zt_and, e, Bool.true_and, zt_not hk, zf_lastb, zt_mk hk, decide_eq_true (hb k hk e), Bool.true_and, Bool.not_eq_true', decide_eq_false_iff_not]
    omega
  have fs : ∀ k, k < 64 → zf_bit b k = true → (zf_bit (b &&& (zf_firstb w h ^^^ -1)) k = true ↔ k % w ≠ 0) := by
    intro k hk e
    rw [zt_and, e, Bool.true_and, zt_not hk, zf_firstb, zt_mk hk, decide_eq_true (hb k hk e), Bool.true_and, Bool.not_eq_true', decide_eq_false_iff_not]
  have la : ∀ k m, zf_bit (b &&& m) k = true → zf_bit b k = true := by
    intro k m e
    rw [zt_and, Bool.and_eq_true] at e
    exact e.1
  unfold zf_spr
  rw [zt_and, zf_allb, zt_mk hj, zt_or, zt_or, zt_or, zt_or, zt_shl (by omega) hj, zt_ush (by omega), zt_shl (by omega) hj, zt_ush (by omega)]
  simp only [Bool.and_eq_true, Bool.or_eq_true, decide_eq_true_iff]
  unfold zf_adj
  simp only [decide_eq_true_iff]
  constructor
  · rintro ⟨hjw, ((e | (⟨h1, e⟩ | e)) | ⟨h1, e⟩) | e⟩
    · exact ⟨j, hj, e, hb j hj e, hjw, .inl rfl⟩
    · have e2 := la _ _ e
      have := (ls (j - 1) (by omega) e2).mp e
      exact ⟨j - 1, by omega, e2, hb _ (by omega) e2, hjw, by omega⟩
    · have e2 := la _ _ e
      have hk : j + 1 < 64 := by
        rcases Nat.lt_or_ge (j + 1) 64 with q | q
        · exact q
        · rw [zt_hi q] at e2; exact Bool.noConfusion e2
      have q1 := (fs (j + 1) hk e2).mp e
      have q2 := zq_modS (w := w) (by omega) w0 hj
      have q3 := Nat.mod_lt j w0
      exact ⟨j + 1, hk, e2, hb _ hk e2, hjw, by omega⟩
    · exact ⟨j - w, by omega, e, hb _ (by omega) e, hjw, by omega⟩
    · have hk : j + w < 64 := by
        rcases Nat.lt_or_ge (j + w) 64 with q | q
        · exact q
        · rw [zt_hi q] at e; exact Bool.noConfusion e
      exact ⟨j + w, hk, e, hb _ hk e, hjw, by omega⟩
  · rintro ⟨k, hk, e, hkw, hjw, c⟩
    refine ⟨hjw, ?_⟩
    rcases c with c | c | c | ⟨c, c2⟩ | ⟨c, c2⟩
    · subst c; exact .inl (.inl (.inl e))
    · refine .inl (.inr ⟨by omega, ?_⟩)
      rw [show j - w = k by omega]; exact e
    · refine .inr ?_
      rw [c]; exact e
    · refine .inl (.inl (.inr (.inl ⟨by omega, ?_⟩)))
      rw [show j - 1 = k by omega]
      exact (ls k hk e).mpr c2
    · refine .inl (.inl (.inr (.inr ?_)))
      rw [c]
      have q2 := zq_modS (w := w) (by omega) w0 hj
      refine (fs k hk e).mpr ?_
      rw [← c]
      omega
