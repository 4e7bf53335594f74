/-! the state of both sides -/
/-- the row as it stood ahead of call i that can be undone -/
def zf_was (A : Nat → Int32) (i : Nat) : Nat → Int32 := fun j => if 109 ≤ j ∧ j < 134 then A (135 + 25 * i + (j - 109)) else A j
def zf_img (A : Nat → Int32) (i : Nat) : Nat → Int32 := fun j => A (1286 * (i + 1) + j)
def zI_past (I : zx_MI) (m : Nat) : Prop := ∃ e D, e < 10 ∧ D ≤ 10 ∧ I 23 1 = nI e ∧ I 23 2 = nI D ∧ I 139 134 = nI D ∧ ∀ i, i < D → zR_st I (25 + 4 * ((e + i) % 10)) (zf_was (I 139) i) ∧ zV (zf_was (I 139) i) m
def zI_img (I : zx_MI) (J : zx_MJ) (m : Nat) : Prop := ∀ i, i < 2 → ∃ b, I 82 i = zB b ∧ I 140 i = zB b ∧ (b = true → zR_sq I J (110 + 14 * i) (zf_img (I 139) i) ∧ zR_st I (120 + 14 * i) (zf_img (I 139) i) ∧ zV (zf_img (I 139) i) m)
def zI_tray (I : zx_MI) (J : zx_MJ) : Prop := ∀ t, t < 4 → (I 150 t = -1 ∧ I (102 + 2 * t) 1 = nI 0) ∨ ∃ s n, s < 4 ∧ n ≤ 40 ∧ I 150 t = nI s ∧ I 151 t = nI n ∧ I (102 + 2 * t) 1 = nI 1 ∧ I (102 + 2 * t) 2 = nI s ∧ I (102 + 2 * t) 3 = nI n ∧ ∀ i, i < n → J (103 + 2 * t) i = J 152 (40 * t + i)
def zI_tape (I : zx_MI) : Prop := ∃ p, p ≤ 900 ∧ I 0 12 = nI p ∧ I 138 5 = nI p ∧ ∀ i, i < p → ∃ b, b < 256 ∧ I 141 i = nI b ∧ I 85 i = (nI b).toInt8.toInt32
/-- both sides stand alike; no NIGHT is above m -/
def zInv (I : zx_MI) (J : zx_MJ) (m : Nat) : Prop := zx_SI I ∧ zV (I 139) m ∧ zR_sq I J 1 (I 139) ∧ zR_st I 11 (I 139) ∧ zI_past I m ∧ zI_img I J m ∧ zI_tray I J ∧ zI_tape I ∧ I 0 13 = I 138 13 ∧ I 0 14 = I 138 14
/-- what is reckoned with, and means nothing behind a call -/
def zSc (a j : Nat) : Prop := a = 4 ∨ a = 5 ∨ (15 ≤ a ∧ a ≤ 22) ∨ (65 ≤ a ∧ a ≤ 78) ∨ (a = 138 ∧ j ≠ 5 ∧ j ≠ 13 ∧ j ≠ 14) ∨ (143 ≤ a ∧ a ≤ 149)
def zScr (I : zx_MI) (J : zx_MJ) (I2 : zx_MI) (J2 : zx_MJ) : Prop := (∀ a j, ¬ zSc a j → I2 a j = I a j) ∧ ∀ a j, ¬ ((65 ≤ a ∧ a ≤ 78) ∨ (146 ≤ a ∧ a ≤ 149)) → J2 a j = J a j
theorem zScr_r (I : zx_MI) (J : zx_MJ) : zScr I J I J := ⟨fun _ _ _ => rfl, fun _ _ _ => rfl⟩
theorem zScr_t {I I2 I3 : zx_MI} {J J2 J3 : zx_MJ} (h : zScr I J I2 J2) (k : zScr I2 J2 I3 J3) : zScr I J I3 J3 := ⟨fun a j n => (k.1 a j n).trans (h.1 a j n), fun a j n => (k.2 a j n).trans (h.2 a j n)⟩
theorem zScr_s {I I2 : zx_MI} {J : zx_MJ} (h : zFs I I2) : zScr I J I2 J := ⟨fun a j n => h a j (fun e => n (by unfold zSc; omega)), fun _ _ _ => rfl⟩
theorem zScr_i {I I2 : zx_MI} {J : zx_MJ} (h : ∀ a j, ¬ zSc a j → I2 a j = I a j) : zScr I J I2 J := ⟨h, fun _ _ _ => rfl⟩
theorem zV_mono {B : Nat → Int32} {m m2 : Nat} (v : zV B m) (h : m ≤ m2) : zV B m2 := ⟨v.1, v.2.1, v.2.2.1, v.2.2.2.1, v.2.2.2.2.1, v.2.2.2.2.2.1, v.2.2.2.2.2.2.1, Nat.le_trans v.2.2.2.2.2.2.2 h⟩
theorem zInv_scr {I I2 : zx_MI} {J J2 : zx_MJ} {m : Nat} (h : zScr I J I2 J2) (v : zInv I J m) : zInv I2 J2 m := by
  obtain ⟨hI, hJ⟩ := h
  have row : ∀ a, (a ≤ 3 ∨ (6 ≤ a ∧ a ≤ 14) ∨ (23 ≤ a ∧ a ≤ 64) ∨ (79 ≤ a ∧ a ≤ 137) ∨ (139 ≤ a ∧ a ≤ 142) ∨ 150 ≤ a) → I2 a = I a := fun a ha => funext fun j => hI a j (by unfold zSc; omega)
  have rowJ : ∀ a, (a ≤ 64 ∨ (79 ≤ a ∧ a ≤ 145) ∨ 150 ≤ a) → J2 a = J a := fun a ha => funext fun j => hJ a j (by omega)
  obtain ⟨v1, v2, v3, v4, v5, v6, v7, v8, v9, v10⟩ := v
  have e139 := row 139 (by omega)
  refine ⟨?_, ?_, ?_, ?_, ?_, ?_, ?_, ?_, ?_, ?_⟩
  · intro a j ha; rw [row a (by omega)]; exact v1 a j ha
  · rw [e139]; exact v2
  · rw [e139]; exact zR_sq_f v3 (fun a j h1 h2 h3 h4 => by rw [row a (by omega)]) (fun j => by rw [rowJ 1 (by omega)])
  · rw [e139]; exact zR_st_f v4 (fun a j h1 h2 => by rw [row a (by omega)])
  · obtain ⟨e, D, he, hD, h1, h2, h3, h4⟩ := v5
    refine ⟨e, D, he, hD, by rw [row 23 (by omega)]; exact h1, by rw [row 23 (by omega)]; exact h2, by rw [e139]; exact h3, fun i hi => ?_⟩
    rw [e139]
    have hm : (e + i) % 10 < 10 := Nat.mod_lt _ (by omega)
    exact ⟨zR_st_f (h4 i hi).1 (fun a j h1 h2 => by rw [row a (by omega)]), (h4 i hi).2⟩
  · intro i hi
    obtain ⟨b, b1, b2, b3⟩ := v6 i hi
    refine ⟨b, by rw [row 82 (by omega)]; exact b1, by rw [row 140 (by omega)]; exact b2, fun hb => ?_⟩
    obtain ⟨c1, c2, c3⟩ := b3 hb
    rw [e139]
    exact ⟨zR_sq_f c1 (fun a j h1 h2 h3 h4 => by rw [row a (by omega)]) (fun j => by rw [rowJ _ (by omega)]), zR_st_f c2 (fun a j h1 h2 => by rw [row a (by omega)]), c3⟩
  · intro t ht
    rw [row 150 (by omega), row 151 (by omega), row (102 + 2 * t) (by omega), rowJ (103 + 2 * t) (by omega), rowJ 152 (by omega)]
    exact v7 t ht
  · obtain ⟨p, p1, p2, p3, p4⟩ := v8
    refine ⟨p, p1, by rw [row 0 (by omega)]; exact p2, by rw [hI 138 5 (by unfold zSc; omega)]; exact p3, fun i hi => ?_⟩
    rw [row 141 (by omega), row 85 (by omega)]
    exact p4 i hi
  · rw [row 0 (by omega), hI 138 13 (by unfold zSc; omega)]; exact v9
  · rw [row 0 (by omega), hI 138 14 (by unfold zSc; omega)]; exact v10
/-- a call of both sides answers alike, and changes nothing that lasts -/
def zQ (Lh k k2 : Nat) (as : List Value) (I : zx_MI) (J : zx_MJ) : Prop := ∃ v I1 J1 I2 J2, (∀ d P, zx_rn (d + 30) k (.ref 0 :: as) (zx_LL Lh) I J P = P (some v) (zx_LL Lh) I1 J1) ∧ (∀ d P, zx_rn (d + 30) k2 (.ref 138 :: as) (zx_LL Lh) I1 J1 P = P (some v) (zx_LL Lh) I2 J2) ∧ zScr I J I2 J2
/-- the same, and the state goes on -/
def zD (Lh k k2 : Nat) (as : List Value) (I : zx_MI) (J : zx_MJ) (m : Nat) : Prop := ∃ v I1 J1 I2 J2, (∀ d P, zx_rn (d + 30) k (.ref 0 :: as) (zx_LL Lh) I J P = P (some v) (zx_LL Lh) I1 J1) ∧ (∀ d P, zx_rn (d + 30) k2 (.ref 138 :: as) (zx_LL Lh) I1 J1 P = P (some v) (zx_LL Lh) I2 J2) ∧ zInv I2 J2 m
theorem zQ_D {Lh k k2 m m2 : Nat} {as : List Value} {I : zx_MI} {J : zx_MJ} (h : zQ Lh k k2 as I J) (v : zInv I J m) (hm : m ≤ m2) : zD Lh k k2 as I J m2 := by
  obtain ⟨x, I1, J1, I2, J2, h1, h2, h3⟩ := h
  obtain ⟨v1, v2, v3, v4, v5, v6, v7, v8⟩ := zInv_scr h3 v
  refine ⟨x, I1, J1, I2, J2, h1, h2, v1, zV_mono v2 hm, v3, v4, ?_, ?_, v7, v8⟩
  · obtain ⟨e, D, he, hD, g1, g2, g3, g4⟩ := v5
    exact ⟨e, D, he, hD, g1, g2, g3, fun i hi => ⟨(g4 i hi).1, zV_mono (g4 i hi).2 hm⟩⟩
  · intro i hi
    obtain ⟨b, b1, b2, b3⟩ := v6 i hi
    exact ⟨b, b1, b2, fun hb => ⟨(b3 hb).1, (b3 hb).2.1, zV_mono (b3 hb).2.2 hm⟩⟩
/-- the model's slots that its public calls begin with -/
theorem zFs_0 (I : zx_MI) (v : Int32) : zFs I (zx_u I 138 0 v) := zFs_u _ _ _ (by omega)
