/-! ways, the model's sets -/
theorem zf_bey4 {w h k : Nat} (w0 : 0 < w) (w8 : w ≤ 8) (h8 : h ≤ 8) (hk : k < w * h) : zf_bey w h k 0 = (if w ≤ k then some (k - w) else none) ∧ zf_bey w h k 2 = (if k % w + 1 < w then some (k + 1) else none) ∧ zf_bey w h k 4 = (if k + w < w * h then some (k + w) else none) ∧ zf_bey w h k 6 = (if k % w = 0 then none else some (k - 1)) := by
  have hwh : w * h ≤ 64 := Nat.mul_le_mul w8 h8
  have q : ∀ w : Fin 9, ∀ h : Fin 9, ∀ k : Fin 64, 0 < w.1 → k.1 < w.1 * h.1 → zf_bey w.1 h.1 k.1 0 = (if w.1 ≤ k.1 then some (k.1 - w.1) else none) ∧ zf_bey w.1 h.1 k.1 2 = (if k.1 % w.1 + 1 < w.1 then some (k.1 + 1) else none) ∧ zf_bey w.1 h.1 k.1 4 = (if k.1 + w.1 < w.1 * h.1 then some (k.1 + w.1) else none) ∧ zf_bey w.1 h.1 k.1 6 = (if k.1 % w.1 = 0 then none else some (k.1 - 1)) := by decide +kernel
  exact q ⟨w, by omega⟩ ⟨h, by omega⟩ ⟨k, by omega⟩ w0 hk
/-- the set with the STONE o more, if there is one -/
def zf_ins (b : Int64) (o : Option Nat) : Int64 := match o with
  | none => b
  | some k => b ||| zf_one k
def zf_nbs (w h k : Nat) (b : Int64) : Int64 := zf_ins (zf_ins (zf_ins (zf_ins b (zf_bey w h k 0)) (zf_bey w h k 2)) (zf_bey w h k 4)) (zf_bey w h k 6)
theorem zt_ins {b : Int64} {o : Option Nat} {j : Nat} (hj : j < 64) (ho : ∀ k, o = some k → k < 64) : zf_bit (zf_ins b o) j = true ↔ zf_bit b j = true ∨ o = some j := by
  cases o with
  | none =>
    unfold zf_ins
    exact ⟨.inl, fun q => q.elim id (fun e => by cases e)⟩
  | some k =>
    unfold zf_ins
    dsimp only
    rw [zt_or, zt_one (ho k rfl) hj, Bool.or_eq_true, decide_eq_true_iff, Option.some.injEq]
    exact ⟨fun q => q.imp id Eq.symm, fun q => q.imp id Eq.symm⟩
theorem zt_nbs {w h k j : Nat} {b : Int64} (w0 : 0 < w) (w8 : w ≤ 8) (h8 : h ≤ 8) (hk : k < w * h) (hj : j < 64) : zf_bit (zf_nbs w h k b) j = true ↔ zf_bit b j = true ∨ (zf_adj w h k j = true ∧ k ≠ j) := by
  have hwh : w * h ≤ 64 := Nat.mul_le_mul w8 h8
  have hm := Nat.mod_lt k w0
  obtain ⟨e0, e2, e4, e6⟩ := zf_bey4 w0 w8 h8 hk
  have l0 : ∀ q, zf_bey w h k 0 = some q → q < 64 := fun q e => by rw [e0] at e; split at e <;> cases e; omega
  have l2 : ∀ q, zf_bey w h k 2 = some q → q < 64 := fun q e => by
    rw [e2] at e
    split at e <;> cases e
    have q2 := zq_modS (w := w) (j := k) (by omega) w0 (by omega)
    have hd := Nat.div_add_mod k w
    have hlt : k / w < h := Nat.div_lt_of_lt_mul hk
    have : w * (k / w) + w ≤ w * h := by rw [← Nat.mul_succ]; exact Nat.mul_le_mul_left w hlt
    omega
  have l4 : ∀ q, zf_bey w h k 4 = some q → q < 64 := fun q e => by rw [e4] at e; split at e <;> cases e; omega
  have l6 : ∀ q, zf_bey w h k 6 = some q → q < 64 := fun q e => by rw [e6] at e; split at e <;> cases e; omega
  have m2 : k % w + 1 < w → k + 1 < w * h := fun c => by
    have hd := Nat.div_add_mod k w
    have hlt : k / w < h := Nat.div_lt_of_lt_mul hk
    have : w * (k / w) + w ≤ w * h := by rw [← Nat.mul_succ]; exact Nat.mul_le_mul_left w hlt
    omega
  have m6 : ∀ i, i + 1 = k → (k % w = 0 ↔ i % w + 1 = w) := fun i e => by
    have := zq_modS (w := w) (j := i) (by omega) w0 (by omega)
    rw [e] at this
    exact this
  unfold zf_nbs
  rw [zt_ins hj l6, zt_ins hj l4, zt_ins hj l2, zt_ins hj l0, e0, e2, e4, e6]
  unfold zf_adj
  rw [decide_eq_true_iff]
  constructor
  · rintro ((((e | e) | e) | e) | e)
    · exact .inl e
    · right; split at e <;> cases e; omega
    · right; split at e <;> cases e
      have := m2 (by assumption)
      omega
    · right; split at e <;> cases e; omega
    · right; split at e <;> cases e
      have := Nat.mod_le k w
      have := m6 (k - 1) (by omega)
      have := Nat.mod_lt (k - 1) w0
      omega
  · rintro (e | ⟨⟨-, h2, c⟩, n⟩)
    · exact .inl (.inl (.inl (.inl e)))
    · rcases c with c | c | c | ⟨c, c2⟩ | ⟨c, c2⟩
      · exact absurd c n
      · refine .inl (.inr ?_)
        rw [if_pos (by omega), c]
      · refine .inl (.inl (.inl (.inr ?_)))
        rw [if_pos (by omega), show k - w = j by omega]
      · refine .inl (.inl (.inr ?_))
        rw [if_pos c2, c]
      · refine .inr ?_
        have := m6 j c
        rw [if_neg (by omega), show k - 1 = j by omega]
/-- as the model's loop goes -/
def zf_beL (w h : Nat) (s : Int64) : Nat → Nat → Int64 → Int64
  | 0, _, b => b
  | m + 1, k, b => zf_beL w h s m (k + 1) (if zf_bit s k = true then zf_nbs w h k b else b)
theorem zt_beL {w h j : Nat} {s : Int64} (w0 : 0 < w) (w8 : w ≤ 8) (h8 : h ≤ 8) (hj : j < 64) : ∀ mm k b, k + mm = w * h → (zf_bit (zf_beL w h s mm k b) j = true ↔ zf_bit b j = true ∨ ∃ i, k ≤ i ∧ i < w * h ∧ zf_bit s i = true ∧ zf_adj w h i j = true ∧ i ≠ j) := by
  intro mm
  induction mm with
  | zero =>
    intro k b hk
    exact ⟨.inl, fun q => q.elim id (fun ⟨i, h1, h2, _⟩ => by omega)⟩
  | succ mm ih =>
    intro k b hk
    rw [zf_beL, ih (k + 1) _ (by omega)]
    by_cases c : zf_bit s k = true
    · rw [if_pos c, zt_nbs w0 w8 h8 (by omega) hj]
      constructor
      · rintro ((e | ⟨e1, e2⟩) | ⟨i, h1, h2, h3⟩)
        · exact .inl e
        · exact .inr ⟨k, by omega, by omega, c, e1, e2⟩
        · exact .inr ⟨i, by omega, h2, h3⟩
      · rintro (e | ⟨i, h1, h2, h3, h4, h5⟩)
        · exact .inl (.inl e)
        · by_cases q : i = k
          · subst q; exact .inl (.inr ⟨h4, h5⟩)
          · exact .inr ⟨i, by omega, h2, h3, h4, h5⟩
    · rw [if_neg c]
      constructor
      · rintro (e | ⟨i, h1, h2, h3⟩)
        · exact .inl e
        · exact .inr ⟨i, by omega, h2, h3⟩
      · rintro (e | ⟨i, h1, h2, h3, h4⟩)
        · exact .inl e
        · by_cases q : i = k
          · subst q; exact absurd h3 c
          · exact .inr ⟨i, by omega, h2, h3, h4⟩
theorem zf_beL_eq {w h : Nat} {s : Int64} (w0 : 0 < w) (w8 : w ≤ 8) (h8 : h ≤ 8) (hs : zf_sub w h s) : zf_beL w h s (w * h) 0 s = zf_bes w h s := by
  have hwh : w * h ≤ 64 := Nat.mul_le_mul w8 h8
  apply zt_ext
  intro j hj
  apply Bool.eq_iff_iff.mpr
  rw [zt_beL w0 w8 h8 hj _ _ _ (by omega), zt_bes hj]
  constructor
  · rintro (e | ⟨i, -, h2, h3, h4, -⟩)
    · have := hs j hj e
      exact ⟨j, hj, e, by unfold zf_adj; exact decide_eq_true (by omega)⟩
    · exact ⟨i, by omega, h3, h4⟩
  · rintro ⟨i, h1, h2, h3⟩
    by_cases q : i = j
    · subst q; exact .inl h2
    · exact .inr ⟨i, by omega, hs i h1 h2, h2, h3, q⟩
/-- the STONES that are free -/
def zf_free (R : Nat → Int32) (w h N : Nat) : Int64 := zf_mk (fun k => decide (k < w * h) && !zf_taken R N k && !zf_bit (zf_under R w h N) k)
section WM
variable {Lh m w h N : Nat} {I : zx_MI} {J : zx_MJ}
theorem sp_besides {s : Int64} (si : zx_SI I) (hw : I 139 1 = nI w) (hh : I 139 2 = nI h) (w0 : 0 < w) (w8 : w ≤ 8) (h8 : h ≤ 8) : ∀ d P, zx_rn (d + 5) 242 [.ref 138, .long s] (zx_LL Lh) I J P = P (some (.long (zf_beL w h s (w * h) 0 s))) (zx_LL Lh) I J := by
  have hwh : w * h ≤ 64 := Nat.mul_le_mul w8 h8
  have hst := fun d P => sp_stones (d := d) (Lh := Lh) (I := I) (J := J) (P := P) hw hh
  have m1 : ∀ q, q < 64 → ((nI q : Int32) = -1) = False := fun q hq => zq_m1 (by omega)
  have inner : ∀ k, k < w * h → ∀ d P b, zx_wp (d + 5) 242 29 [.ref 138, .long s, zx_u0, .long b, zx_u0, .int (nI k), .int (nI 0)] [] (zx_LL Lh) I J P = zx_wp (d + 5) 242 67 [.ref 138, .long s, zx_u0, .long (zf_nbs w h k b), zx_u0, .int (nI k), .int (nI 8)] [] (zx_LL Lh) I J P := by
    intro k hk d P b
    obtain ⟨e0, e2, e4, e6⟩ := zf_bey4 w0 w8 h8 hk
    have hb := fun dr (hd : dr < 8) P => sp_beyond (d := d) (Lh := Lh) (I := I) (J := J) (P := P) (k := k) (dr := dr) si hw hh w0 w8 h8 hk hd
    have b0 := hb 0 (by omega)
    have b2 := hb 2 (by omega)
    have b4 := hb 4 (by omega)
    have b6 := hb 6 (by omega)
    have hm := Nat.mod_lt k w0
    have l2 : k % w + 1 < w → k + 1 < 64 := fun c => by
      have hd := Nat.div_add_mod k w
      have hlt : k / w < h := Nat.div_lt_of_lt_mul hk
      have : w * (k / w) + w ≤ w * h := by rw [← Nat.mul_succ]; exact Nat.mul_le_mul_left w hlt
      omega
    have step : ∀ dr, dr < 8 → (∀ P, zx_rn (d + 4) 192 [.ref 138, .int (nI k), .int (nI dr)] (zx_LL Lh) I J P = P (some (.int (zf_oI (zf_bey w h k dr)))) (zx_LL Lh) I J) → (∀ q, zf_bey w h k dr = some q → q < 64) → ∀ b, zx_wp (d + 5) 242 29 [.ref 138, .long s, zx_u0, .long b, zx_u0, .int (nI k), .int (nI dr)] [] (zx_LL Lh) I J P = zx_wp (d + 5) 242 29 [.ref 138, .long s, zx_u0, .long (zf_ins b (zf_bey w h k dr)), zx_u0, .int (nI k), .int (nI (dr + 2))] [] (zx_LL Lh) I J P := by
      intro dr hd hbey hl b
      have hlt : dr < 8 := hd
      rw [zs_242_29]
      cases c : zf_bey w h k dr with
      | none =>
        rw [c] at hbey
        simp (disch := omega) only [↓zs_242_31, ↓zs_242_33, ↓zs_242_36, ↓zs_242_37, ↓zs_242_39, ↓zs_242_41, ↓zs_242_44, ↓zs_242_45, ↓zs_242_48, ↓zs_242_49, ↓zs_242_50, ↓zs_242_51, ↓zs_242_53, ↓zs_242_55, ↓zs_242_58, ↓zs_242_59, ↓zs_242_60, ↓zs_242_61, ↓zs_242_64, zx_pu_s, zx_pu_n, zx_rv_s, zx_rv_n, true_and, and_true, true_or, or_true, zb_0, zb_1, zq_lcl, zq_lcg, zq_lce, eq_self, ite_true, ite_false, zk_138, zw_138, zk_139, zw_139, zk_140, zw_140, zk_141, zw_141, zk_142, zw_142, zk_143, zw_143, zk_144, zw_144, zk_145, zw_145, zk_146, zw_146, zk_147, zw_147, zk_148, zw_148, zk_149, zw_149, zk_150, zw_150, zk_151, zw_151, zk_152, zw_152, zq_138_1, zq_138_2, zq_138_3, zq_138_4, zq_138_16, zq_138_19, zq_138_20, zq_138_24, zq_138_25, zq_138_26, zq_138_27, zq_138_31, zq_138_32, zq_138_33, nI_ltI, nI_add, hlt, hbey, zf_oI, zf_ins]
      | some q =>
        rw [c] at hbey
        have q64 := hl q c
        simp (disch := omega) only [↓zs_242_31, ↓zs_242_33, ↓zs_242_36, ↓zs_242_37, ↓zs_242_39, ↓zs_242_41, ↓zs_242_44, ↓zs_242_45, ↓zs_242_48, ↓zs_242_49, ↓zs_242_50, ↓zs_242_51, ↓zs_242_53, ↓zs_242_55, ↓zs_242_58, ↓zs_242_59, ↓zs_242_60, ↓zs_242_61, ↓zs_242_64, zx_pu_s, zx_pu_n, zx_rv_s, zx_rv_n, true_and, and_true, true_or, or_true, zb_0, zb_1, zq_lcl, zq_lcg, zq_lce, eq_self, ite_true, ite_false, zk_138, zw_138, zk_139, zw_139, zk_140, zw_140, zk_141, zw_141, zk_142, zw_142, zk_143, zw_143, zk_144, zw_144, zk_145, zw_145, zk_146, zw_146, zk_147, zw_147, zk_148, zw_148, zk_149, zw_149, zk_150, zw_150, zk_151, zw_151, zk_152, zw_152, zq_138_1, zq_138_2, zq_138_3, zq_138_4, zq_138_16, zq_138_19, zq_138_20, zq_138_24, zq_138_25, zq_138_26, zq_138_27, zq_138_31, zq_138_32, zq_138_33, nI_ltI, nI_add, hlt, hbey, zf_oI, zf_ins, m1]
        rfl
    rw [step 0 (by omega) b0 (fun q e => by rw [e0] at e; split at e <;> cases e; omega), step 2 (by omega) b2 (fun q e => by rw [e2] at e; split at e <;> cases e; exact l2 (by assumption)), step 4 (by omega) b4 (fun q e => by rw [e4] at e; split at e <;> cases e; omega), step 6 (by omega) b6 (fun q e => by rw [e6] at e; split at e <;> cases e; omega), zs_242_29]
    simp (disch := omega) only [↓zs_242_31, ↓zs_242_33, ↓zs_242_36, ↓zs_242_37, ↓zs_242_39, ↓zs_242_41, ↓zs_242_44, ↓zs_242_45, ↓zs_242_48, ↓zs_242_49, ↓zs_242_50, ↓zs_242_51, ↓zs_242_53, ↓zs_242_55, ↓zs_242_58, ↓zs_242_59, ↓zs_242_60, ↓zs_242_61, ↓zs_242_64, zx_pu_s, zx_pu_n, zx_rv_s, zx_rv_n, true_and, and_true, true_or, or_true, zb_0, zb_1, zq_lcl, zq_lcg, zq_lce, eq_self, ite_true, ite_false, nI_ltI, Nat.lt_irrefl]
    rfl
  have outer : ∀ mm k b v6, k + mm = w * h → ∀ d P, zx_wp (d + 5) 242 5 [.ref 138, .long s, zx_u0, .long b, zx_u0, .int (nI k), v6] [] (zx_LL Lh) I J P = P (some (.long (zf_beL w h s mm k b))) (zx_LL Lh) I J := by
    intro mm
    induction mm with
    | zero =>
      intro k b v6 hk d P
      obtain rfl : k = w * h := by omega
      rw [zs_242_5]
      simp (disch := omega) only [↓zs_242_7, ↓zs_242_8, ↓zs_242_11, ↓zs_242_14, ↓zs_242_15, ↓zs_242_17, ↓zs_242_20, ↓zs_242_23, ↓zs_242_26, ↓zs_242_27, ↓zs_242_73, ↓zs_242_74, zx_pu_s, zx_pu_n, zx_rv_s, zx_rv_n, true_and, and_true, true_or, or_true, zb_0, zb_1, zq_lcl, zq_lcg, zq_lce, eq_self, ite_true, ite_false, zk_138, zw_138, zk_139, zw_139, zk_140, zw_140, zk_141, zw_141, zk_142, zw_142, zk_143, zw_143, zk_144, zw_144, zk_145, zw_145, zk_146, zw_146, zk_147, zw_147, zk_148, zw_148, zk_149, zw_149, zk_150, zw_150, zk_151, zw_151, zk_152, zw_152, zq_138_1, zq_138_2, zq_138_3, zq_138_4, zq_138_16, zq_138_19, zq_138_20, zq_138_24, zq_138_25, zq_138_26, zq_138_27, zq_138_31, zq_138_32, zq_138_33, hst, nI_ltI, Nat.lt_irrefl]
      rfl
    | succ mm ih =>
      intro k b v6 hk d P
      have hlt : k < w * h := by omega
      rw [zf_beL, zs_242_5]
      cases c : zf_bit s k with
      | false =>
        rw [if_neg (by decide), ← ih (k + 1) b v6 (by omega) d P]
        simp (disch := omega) only [↓zs_242_7, ↓zs_242_8, ↓zs_242_11, ↓zs_242_14, ↓zs_242_15, ↓zs_242_17, ↓zs_242_20, ↓zs_242_23, ↓zs_242_26, ↓zs_242_27, ↓zs_242_67, ↓zs_242_70, zx_pu_s, zx_pu_n, zx_rv_s, zx_rv_n, true_and, and_true, true_or, or_true, zb_0, zb_1, zq_lcl, zq_lcg, zq_lce, eq_self, ite_true, ite_false, zk_138, zw_138, zk_139, zw_139, zk_140, zw_140, zk_141, zw_141, zk_142, zw_142, zk_143, zw_143, zk_144, zw_144, zk_145, zw_145, zk_146, zw_146, zk_147, zw_147, zk_148, zw_148, zk_149, zw_149, zk_150, zw_150, zk_151, zw_151, zk_152, zw_152, zq_138_1, zq_138_2, zq_138_3, zq_138_4, zq_138_16, zq_138_19, zq_138_20, zq_138_24, zq_138_25, zq_138_26, zq_138_27, zq_138_31, zq_138_32, zq_138_33, hst, nI_ltI, nI_add, hlt, sp_isIn, c, zB_0, reduceCtorEq]
      | true =>
        rw [if_pos rfl, ← ih (k + 1) _ (.int (nI 8)) (by omega) d P]
        simp (disch := omega) only [↓zs_242_7, ↓zs_242_8, ↓zs_242_11, ↓zs_242_14, ↓zs_242_15, ↓zs_242_17, ↓zs_242_20, ↓zs_242_23, ↓zs_242_26, ↓zs_242_27, zx_pu_s, zx_pu_n, zx_rv_s, zx_rv_n, true_and, and_true, true_or, or_true, zb_0, zb_1, zq_lcl, zq_lcg, zq_lce, eq_self, ite_true, ite_false, zk_138, zw_138, zk_139, zw_139, zk_140, zw_140, zk_141, zw_141, zk_142, zw_142, zk_143, zw_143, zk_144, zw_144, zk_145, zw_145, zk_146, zw_146, zk_147, zw_147, zk_148, zw_148, zk_149, zw_149, zk_150, zw_150, zk_151, zw_151, zk_152, zw_152, zq_138_1, zq_138_2, zq_138_3, zq_138_4, zq_138_16, zq_138_19, zq_138_20, zq_138_24, zq_138_25, zq_138_26, zq_138_27, zq_138_31, zq_138_32, zq_138_33, hst, nI_ltI, nI_add, hlt, sp_isIn, c, zB_0, reduceCtorEq]
        rw [inner k hlt]
        simp (disch := omega) only [↓zs_242_67, ↓zs_242_70, zx_pu_s, zx_pu_n, zx_rv_s, zx_rv_n, true_and, and_true, true_or, or_true, zb_0, zb_1, zq_lcl, zq_lcg, zq_lce, eq_self, ite_true, ite_false, zk_138, zw_138, zk_139, zw_139, zk_140, zw_140, zk_141, zw_141, zk_142, zw_142, zk_143, zw_143, zk_144, zw_144, zk_145, zw_145, zk_146, zw_146, zk_147, zw_147, zk_148, zw_148, zk_149, zw_149, zk_150, zw_150, zk_151, zw_151, zk_152, zw_152, zq_138_1, zq_138_2, zq_138_3, zq_138_4, zq_138_16, zq_138_19, zq_138_20, zq_138_24, zq_138_25, zq_138_26, zq_138_27, zq_138_31, zq_138_32, zq_138_33, nI_add]
  intro d P
  rw [ze_242]
  simp (disch := omega) only [↓zs_242_0, ↓zs_242_1, ↓zs_242_2, ↓zs_242_3, zx_pu_s, zx_pu_n, zx_rv_s, zx_rv_n, true_and, and_true, true_or, or_true, zb_0, zb_1, zq_lcl, zq_lcg, zq_lce, eq_self, ite_true, ite_false]
  exact outer (w * h) 0 s zx_u0 (by omega) d P
theorem sp_freeStones (si : zx_SI I) (ok : zM_ok (I 139) w h N) : ∃ I2, zFs I I2 ∧ ∀ d P, zx_rn (d + 7) 240 [.ref 138] (zx_LL Lh) I J P = P (some (.long (zf_free (I 139) w h N))) (zx_LL Lh) I2 J := by
  obtain ⟨hw, hh, hN, w8, h8, N8⟩ := ok.1
  have hwh : w * h ≤ 64 := Nat.mul_le_mul w8 h8
  obtain ⟨I2, f2, h2⟩ := sp_under (Lh := Lh) (J := J) si ok
  have e2 : I2 139 = I 139 := zFs_139 f2
  have ok2 : zM_ok (I2 139) w h N := by rw [e2]; exact ok
  have hst := fun d P => sp_stones (d := d) (Lh := Lh) (I := I2) (J := J) (P := P) ok2.1.1 ok2.1.2.1
  have loop : ∀ mm k b, k + mm = w * h → (∀ j, j < 64 → zf_bit b j = (decide (j < k) && !zf_taken (I 139) N j && !zf_bit (zf_under (I 139) w h N) j)) → ∀ d P, zx_wp (d + 7) 240 10 [.ref 138, .long (zf_under (I 139) w h N), zx_u0, .long b, zx_u0, .int (nI k)] [] (zx_LL Lh) I2 J P = P (some (.long (zf_free (I 139) w h N))) (zx_LL Lh) I2 J := by
    intro mm
    induction mm with
    | zero =>
      intro k b hk hb d P
      obtain rfl : k = w * h := by omega
      have eb : b = zf_free (I 139) w h N := zt_ext (fun j hj => by rw [hb j hj, zf_free, zt_mk hj])
      rw [zs_240_10]
      simp (disch := omega) only [↓zs_240_12, ↓zs_240_13, ↓zs_240_16, ↓zs_240_19, ↓zs_240_20, ↓zs_240_22, ↓zs_240_25, ↓zs_240_28, ↓zs_240_29, ↓zs_240_31, ↓zs_240_34, ↓zs_240_37, ↓zs_240_38, ↓zs_240_39, ↓zs_240_41, ↓zs_240_42, ↓zs_240_43, ↓zs_240_44, ↓zs_240_47, ↓zs_240_50, ↓zs_240_51, zx_pu_s, zx_pu_n, zx_rv_s, zx_rv_n, true_and, and_true, true_or, or_true, zb_0, zb_1, zq_lcl, zq_lcg, zq_lce, eq_self, ite_true, ite_false, zk_138, zw_138, zk_139, zw_139, zk_140, zw_140, zk_141, zw_141, zk_142, zw_142, zk_143, zw_143, zk_144, zw_144, zk_145, zw_145, zk_146, zw_146, zk_147, zw_147, zk_148, zw_148, zk_149, zw_149, zk_150, zw_150, zk_151, zw_151, zk_152, zw_152, zq_138_1, zq_138_2, zq_138_3, zq_138_4, zq_138_16, zq_138_19, zq_138_20, zq_138_24, zq_138_25, zq_138_26, zq_138_27, zq_138_31, zq_138_32, zq_138_33, hst, nI_ltI, Nat.lt_irrefl, eb]
    | succ mm ih =>
      intro k b hk hb d P
      have hlt : k < w * h := by omega
      have htk : ∀ d P, zx_rn (d + 1) 187 [.ref 138, .int (nI k)] (zx_LL Lh) I2 J P = P (some (.int (zB (zf_taken (I 139) N k)))) (zx_LL Lh) I2 J := fun d P => by
        have q := sp_isTaken (d := d) (Lh := Lh) (I := I2) (J := J) (P := P) (k := k) (N := N) (by omega) N8 ok2.1.2.2.1
        rw [e2] at q
        exact q
      have grow : ∀ v : Bool, (!zf_taken (I 139) N k && !zf_bit (zf_under (I 139) w h N) k) = v → ∀ j, j < 64 → zf_bit (if v = true then b ||| zf_one k else b) j = (decide (j < k + 1) && !zf_taken (I 139) N j && !zf_bit (zf_under (I 139) w h N) j) := by
        intro v hv j hj
        by_cases q : j = k
        · subst q
          rw [decide_eq_true (by omega), Bool.true_and, hv]
          cases v with
          | false => rw [if_neg (by decide), hb j hj, decide_eq_false (by omega), Bool.false_and, Bool.false_and]
          | true => rw [if_pos rfl, zt_or, zt_one hj hj, decide_eq_true rfl, Bool.or_true]
        · rw [show decide (j < k + 1) = decide (j < k) from decide_eq_decide.mpr (by omega), ← hb j hj]
          split
          · rw [zt_or, zt_one (by omega) hj, decide_eq_false q, Bool.or_false]
          · rfl
      rw [zs_240_10]
      cases c1 : zf_taken (I 139) N k with
      | true =>
        rw [c1] at htk
        rw [← ih (k + 1) b (by omega) (grow false (by rw [c1]; rfl)) d P]
        simp (disch := omega) only [↓zs_240_12, ↓zs_240_13, ↓zs_240_16, ↓zs_240_19, ↓zs_240_20, ↓zs_240_22, ↓zs_240_25, ↓zs_240_28, ↓zs_240_29, ↓zs_240_31, ↓zs_240_34, ↓zs_240_37, ↓zs_240_38, ↓zs_240_39, ↓zs_240_41, ↓zs_240_42, ↓zs_240_43, ↓zs_240_44, ↓zs_240_47, ↓zs_240_50, ↓zs_240_51, zx_pu_s, zx_pu_n, zx_rv_s, zx_rv_n, true_and, and_true, true_or, or_true, zb_0, zb_1, zq_lcl, zq_lcg, zq_lce, eq_self, ite_true, ite_false, zk_138, zw_138, zk_139, zw_139, zk_140, zw_140, zk_141, zw_141, zk_142, zw_142, zk_143, zw_143, zk_144, zw_144, zk_145, zw_145, zk_146, zw_146, zk_147, zw_147, zk_148, zw_148, zk_149, zw_149, zk_150, zw_150, zk_151, zw_151, zk_152, zw_152, zq_138_1, zq_138_2, zq_138_3, zq_138_4, zq_138_16, zq_138_19, zq_138_20, zq_138_24, zq_138_25, zq_138_26, zq_138_27, zq_138_31, zq_138_32, zq_138_33, hst, nI_ltI, nI_add, hlt, htk, zB_0, reduceCtorEq]
      | false =>
        rw [c1] at htk
        cases c2 : zf_bit (zf_under (I 139) w h N) k with
        | true =>
          rw [← ih (k + 1) b (by omega) (grow false (by rw [c1, c2]; rfl)) d P]
          simp (disch := omega) only [↓zs_240_12, ↓zs_240_13, ↓zs_240_16, ↓zs_240_19, ↓zs_240_20, ↓zs_240_22, ↓zs_240_25, ↓zs_240_28, ↓zs_240_29, ↓zs_240_31, ↓zs_240_34, ↓zs_240_37, ↓zs_240_38, ↓zs_240_39, ↓zs_240_41, ↓zs_240_42, ↓zs_240_43, ↓zs_240_44, ↓zs_240_47, ↓zs_240_50, ↓zs_240_51, zx_pu_s, zx_pu_n, zx_rv_s, zx_rv_n, true_and, and_true, true_or, or_true, zb_0, zb_1, zq_lcl, zq_lcg, zq_lce, eq_self, ite_true, ite_false, zk_138, zw_138, zk_139, zw_139, zk_140, zw_140, zk_141, zw_141, zk_142, zw_142, zk_143, zw_143, zk_144, zw_144, zk_145, zw_145, zk_146, zw_146, zk_147, zw_147, zk_148, zw_148, zk_149, zw_149, zk_150, zw_150, zk_151, zw_151, zk_152, zw_152, zq_138_1, zq_138_2, zq_138_3, zq_138_4, zq_138_16, zq_138_19, zq_138_20, zq_138_24, zq_138_25, zq_138_26, zq_138_27, zq_138_31, zq_138_32, zq_138_33, hst, nI_ltI, nI_add, hlt, htk, sp_isIn, c2, zB_0, reduceCtorEq]
        | false =>
          rw [← ih (k + 1) (b ||| zf_one k) (by omega) (grow true (by rw [c1, c2]; rfl)) d P]
          simp (disch := omega) only [↓zs_240_12, ↓zs_240_13, ↓zs_240_16, ↓zs_240_19, ↓zs_240_20, ↓zs_240_22, ↓zs_240_25, ↓zs_240_28, ↓zs_240_29, ↓zs_240_31, ↓zs_240_34, ↓zs_240_37, ↓zs_240_38, ↓zs_240_39, ↓zs_240_41, ↓zs_240_42, ↓zs_240_43, ↓zs_240_44, ↓zs_240_47, ↓zs_240_50, ↓zs_240_51, zx_pu_s, zx_pu_n, zx_rv_s, zx_rv_n, true_and, and_true, true_or, or_true, zb_0, zb_1, zq_lcl, zq_lcg, zq_lce, eq_self, ite_true, ite_false, zk_138, zw_138, zk_139, zw_139, zk_140, zw_140, zk_141, zw_141, zk_142, zw_142, zk_143, zw_143, zk_144, zw_144, zk_145, zw_145, zk_146, zw_146, zk_147, zw_147, zk_148, zw_148, zk_149, zw_149, zk_150, zw_150, zk_151, zw_151, zk_152, zw_152, zq_138_1, zq_138_2, zq_138_3, zq_138_4, zq_138_16, zq_138_19, zq_138_20, zq_138_24, zq_138_25, zq_138_26, zq_138_27, zq_138_31, zq_138_32, zq_138_33, hst, nI_ltI, nI_add, hlt, htk, sp_isIn, c2, zB_0, reduceCtorEq]
          rfl
  refine ⟨I2, f2, fun d P => ?_⟩
  rw [ze_240]
  simp (disch := omega) only [↓zs_240_0, ↓zs_240_1, ↓zs_240_4, ↓zs_240_5, ↓zs_240_6, ↓zs_240_7, ↓zs_240_8, zx_pu_s, zx_pu_n, zx_rv_s, zx_rv_n, true_and, and_true, true_or, or_true, zb_0, zb_1, zq_lcl, zq_lcg, zq_lce, eq_self, ite_true, ite_false, zk_138, zw_138, zk_139, zw_139, zk_140, zw_140, zk_141, zw_141, zk_142, zw_142, zk_143, zw_143, zk_144, zw_144, zk_145, zw_145, zk_146, zw_146, zk_147, zw_147, zk_148, zw_148, zk_149, zw_149, zk_150, zw_150, zk_151, zw_151, zk_152, zw_152, zq_138_1, zq_138_2, zq_138_3, zq_138_4, zq_138_16, zq_138_19, zq_138_20, zq_138_24, zq_138_25, zq_138_26, zq_138_27, zq_138_31, zq_138_32, zq_138_33, h2]
  exact loop (w * h) 0 (lN 0) (by omega) (fun j _ => by rw [zt_0, decide_eq_false (by omega), Bool.false_and, Bool.false_and]) d P
end WM
