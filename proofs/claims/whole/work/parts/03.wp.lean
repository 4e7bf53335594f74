/-! ===== what a run of the abstract machine answers: rows for one instruction ===== -/
theorem zx_ex_s (f d m pc : Nat) (ls st : List Value) (L : zx_Lay) (I : zx_MI) (J : zx_MJ) : zx_ex (f + 1) d m pc ls st L I J = match zx_ms m with
    | none => none
    | some (o, _, b, _, rt, ini) => match decode b pc with
      | .error _ => none
      | .ok (i, len) => if len = zx_len i ∨ zx_sw i = true then (match zx_act o rt ini pc i ls st L I J with
        | none => none
        | some (.inl (pc2, ls2, st2, L2, I2, J2)) => zx_ex f d m pc2 ls2 st2 L2 I2 J2
        | some (.inr (.inl r)) => some (r, L, I, J)
        | some (.inr (.inr (k, as, st2))) => match d, zx_ms k with
          | d + 1, some (_, _, _, mx, _, _) => if (zx_en as).length ≤ mx then (match zx_ex f d k 0 (zx_ent mx as) [] L I J with
            | some (r, L2, I2, J2) => zx_ex f (d + 1) m (pc + 3) ls (zx_pu r st2) L2 I2 J2
            | none => none) else none
          | _, _ => none) else none := rfl
theorem zx_mono : ∀ (f d m pc : Nat) (ls st : List Value) (L : zx_Lay) (I : zx_MI) (J : zx_MJ) (v : Option Value × zx_Lay × zx_MI × zx_MJ), zx_ex f d m pc ls st L I J = some v → ∀ (g e : Nat), f ≤ g → d ≤ e → zx_ex g e m pc ls st L I J = some v := by
  intro f
  induction f with
  | zero => intro d m pc ls st L I J v h; cases h
  | succ f ih =>
    intro d m pc ls st L I J v h g e hg he
    obtain ⟨g, rfl⟩ : ∃ g', g = g' + 1 := ⟨g - 1, by omega⟩
    rw [zx_ex_s] at h ⊢
    cases hm : zx_ms m with
    | none => rw [hm] at h; cases h
    | some me =>
      obtain ⟨o, y, b, mx, rt, ini⟩ := me
      rw [hm] at h
      dsimp only at h ⊢
      cases hd : decode b pc with
      | error z => rw [hd] at h; cases h
      | ok q =>
        obtain ⟨i, len⟩ := q
        rw [hd] at h
        dsimp only at h ⊢
        by_cases hl : len = zx_len i ∨ zx_sw i = true
        · rw [if_pos hl] at h ⊢
          cases ha : zx_act o rt ini pc i ls st L I J with
          | none => rw [ha] at h; cases h
          | some a =>
            rw [ha] at h
            rcases a with ⟨pc2, ls2, st2, L2, I2, J2⟩ | r | ⟨k, as, st2⟩
            · exact ih _ _ _ _ _ _ _ _ _ h _ _ (by omega) he
            · exact h
            · dsimp only at h ⊢
              cases d with
              | zero => cases h
              | succ d =>
                obtain ⟨e, rfl⟩ : ∃ e', e = e' + 1 := ⟨e - 1, by omega⟩
                cases hk : zx_ms k with
                | none => rw [hk] at h; cases h
                | some mk =>
                  obtain ⟨o2, y2, b2, mx2, rt2, ini2⟩ := mk
                  rw [hk] at h
                  dsimp only at h ⊢
                  by_cases hen : (zx_en as).length ≤ mx2
                  case neg => rw [if_neg hen] at h; cases h
                  rw [if_pos hen] at h ⊢
                  cases hc : zx_ex f d k 0 (zx_ent mx2 as) [] L I J with
                  | none => rw [hc] at h; cases h
                  | some q =>
                    obtain ⟨r, L2, I2, J2⟩ := q
                    rw [hc] at h
                    rw [ih _ _ _ _ _ _ _ _ _ hc g e (by omega) (by omega)]
                    exact ih _ _ _ _ _ _ _ _ _ h _ _ (by omega) he
        · rw [if_neg hl] at h; cases h
section WPR
variable {d m pc : Nat} {ls st : List Value} {L : zx_Lay} {I : zx_MI} {J : zx_MJ} {P : Option Value → zx_Lay → zx_MI → zx_MJ → Prop}
variable {o mx len : Nat} {y : MethodName} {b : ByteArray} {rt : Option FieldType} {ini : Bool} {i : Instr}
theorem zx_ex_i {f : Nat} (hm : zx_ms m = some (o, y, b, mx, rt, ini)) (hd : decode b pc = .ok (i, len)) (hl : len = zx_len i ∨ zx_sw i = true) : zx_ex (f + 1) d m pc ls st L I J = (match zx_act o rt ini pc i ls st L I J with
        | none => none
        | some (.inl (pc2, ls2, st2, L2, I2, J2)) => zx_ex f d m pc2 ls2 st2 L2 I2 J2
        | some (.inr (.inl r)) => some (r, L, I, J)
        | some (.inr (.inr (k, as, st2))) => match d, zx_ms k with
          | d + 1, some (_, _, _, mx, _, _) => if (zx_en as).length ≤ mx then (match zx_ex f d k 0 (zx_ent mx as) [] L I J with
            | some (r, L2, I2, J2) => zx_ex f (d + 1) m (pc + 3) ls (zx_pu r st2) L2 I2 J2
            | none => none) else none
          | _, _ => none) := by
  rw [zx_ex_s, hm]
  dsimp only
  rw [hd]
  dsimp only
  rw [if_pos hl]
/-- an instruction that goes on -/
theorem zx_nx (hm : zx_ms m = some (o, y, b, mx, rt, ini)) (hd : decode b pc = .ok (i, len)) (hl : len = zx_len i ∨ zx_sw i = true) {pc2 : Nat} {ls2 st2 : List Value} {L2 : zx_Lay} {I2 : zx_MI} {J2 : zx_MJ}
    (ha : zx_act o rt ini pc i ls st L I J = some (.inl (pc2, ls2, st2, L2, I2, J2))) : zx_wp d m pc ls st L I J P = zx_wp d m pc2 ls2 st2 L2 I2 J2 P := by
  apply propext
  constructor
  · rintro ⟨f, r, L3, I3, J3, h, hP⟩
    cases f with
    | zero => cases h
    | succ f =>
      rw [zx_ex_i hm hd hl, ha] at h
      exact ⟨f, r, L3, I3, J3, h, hP⟩
  · rintro ⟨f, r, L3, I3, J3, h, hP⟩
    refine ⟨f + 1, r, L3, I3, J3, ?_, hP⟩
    rw [zx_ex_i hm hd hl, ha]
    exact h
/-- one that goes on where a test holds -/
theorem zx_nc (hm : zx_ms m = some (o, y, b, mx, rt, ini)) (hd : decode b pc = .ok (i, len)) (hl : len = zx_len i ∨ zx_sw i = true) {c : Prop} {pc2 : Nat} {ls2 st2 : List Value} {L2 : zx_Lay} {I2 : zx_MI} {J2 : zx_MJ}
    (ha : zx_act o rt ini pc i ls st L I J = zx_if c (some (.inl (pc2, ls2, st2, L2, I2, J2)))) : zx_wp d m pc ls st L I J P = (c ∧ zx_wp d m pc2 ls2 st2 L2 I2 J2 P) := by
  by_cases hc : c
  · rw [zx_nx hm hd hl (ha.trans (if_pos hc))]
    exact propext ⟨fun h => ⟨hc, h⟩, fun h => h.2⟩
  · refine propext ⟨fun h => ?_, fun h => absurd h.1 hc⟩
    obtain ⟨f, r, L3, I3, J3, h, hP⟩ := h
    cases f with
    | zero => cases h
    | succ f =>
      rw [zx_ex_i hm hd hl, ha, show zx_if c (some (Sum.inl (pc2, ls2, st2, L2, I2, J2))) = none from if_neg hc] at h
      cases h
/-- the end of a method -/
theorem zx_rt (hm : zx_ms m = some (o, y, b, mx, rt, ini)) (hd : decode b pc = .ok (i, len)) (hl : len = zx_len i ∨ zx_sw i = true) {r : Option Value}
    (ha : zx_act o rt ini pc i ls st L I J = some (.inr (.inl r))) : zx_wp d m pc ls st L I J P = P r L I J := by
  apply propext
  constructor
  · rintro ⟨f, r9, L3, I3, J3, h, hP⟩
    cases f with
    | zero => cases h
    | succ f =>
      rw [zx_ex_i hm hd hl, ha] at h
      cases h
      exact hP
  · intro hP
    refine ⟨1, r, L, I, J, ?_, hP⟩
    rw [zx_ex_i hm hd hl, ha]
theorem zx_rc (hm : zx_ms m = some (o, y, b, mx, rt, ini)) (hd : decode b pc = .ok (i, len)) (hl : len = zx_len i ∨ zx_sw i = true) {c : Prop} {r : Option Value}
    (ha : zx_act o rt ini pc i ls st L I J = zx_if c (some (.inr (.inl r)))) : zx_wp d m pc ls st L I J P = (c ∧ P r L I J) := by
  by_cases hc : c
  · rw [zx_rt hm hd hl (ha.trans (if_pos hc))]
    exact propext ⟨fun h => ⟨hc, h⟩, fun h => h.2⟩
  · refine propext ⟨fun h => ?_, fun h => absurd h.1 hc⟩
    obtain ⟨f, r9, L3, I3, J3, h, hP⟩ := h
    cases f with
    | zero => cases h
    | succ f =>
      rw [zx_ex_i hm hd hl, ha, show zx_if c (some (Sum.inr (Sum.inl r))) = none from if_neg hc] at h
      cases h
/-- a call -/
theorem zx_ca (hm : zx_ms m = some (o, y, b, mx, rt, ini)) (hd : decode b pc = .ok (i, len)) (hl : len = zx_len i ∨ zx_sw i = true) {k : Nat} {as st2 : List Value}
    (ha : zx_act o rt ini pc i ls st L I J = some (.inr (.inr (k, as, st2)))) : zx_wp (d + 1) m pc ls st L I J P = zx_rn d k as L I J (fun r L2 I2 J2 => zx_wp (d + 1) m (pc + 3) ls (zx_pu r st2) L2 I2 J2 P) := by
  apply propext
  constructor
  · rintro ⟨f, r, L3, I3, J3, h, hP⟩
    cases f with
    | zero => cases h
    | succ f =>
      rw [zx_ex_i hm hd hl, ha] at h
      dsimp only at h
      cases hk : zx_ms k with
      | none => rw [hk] at h; cases h
      | some mk =>
        obtain ⟨o2, y2, b2, mx2, rt2, ini2⟩ := mk
        rw [hk] at h
        dsimp only at h
        by_cases hen : (zx_en as).length ≤ mx2
        case neg => rw [if_neg hen] at h; cases h
        rw [if_pos hen] at h
        cases hc : zx_ex f d k 0 (zx_ent mx2 as) [] L I J with
        | none => rw [hc] at h; cases h
        | some q =>
          obtain ⟨r2, L2, I2, J2⟩ := q
          rw [hc] at h
          exact ⟨_, hk, hen, f, r2, L2, I2, J2, hc, f, r, L3, I3, J3, h, hP⟩
  · rintro ⟨⟨o2, y2, b2, mx2, rt2, ini2⟩, hk, hen, f, r2, L2, I2, J2, hc, f2, r, L3, I3, J3, h, hP⟩
    refine ⟨f + f2 + 1, r, L3, I3, J3, ?_, hP⟩
    rw [zx_ex_i hm hd hl, ha]
    dsimp only
    rw [hk]
    dsimp only
    dsimp only at hen
    rw [if_pos hen, zx_mono _ _ _ _ _ _ _ _ _ _ hc (f + f2) d (by omega) (Nat.le_refl _)]
    exact zx_mono _ _ _ _ _ _ _ _ _ _ h (f + f2) (d + 1) (by omega) (Nat.le_refl _)
theorem zx_cc (hm : zx_ms m = some (o, y, b, mx, rt, ini)) (hd : decode b pc = .ok (i, len)) (hl : len = zx_len i ∨ zx_sw i = true) {c : Prop} {k : Nat} {as st2 : List Value}
    (ha : zx_act o rt ini pc i ls st L I J = zx_if c (some (.inr (.inr (k, as, st2))))) : zx_wp (d + 1) m pc ls st L I J P = (c ∧ zx_rn d k as L I J (fun r L2 I2 J2 => zx_wp (d + 1) m (pc + 3) ls (zx_pu r st2) L2 I2 J2 P)) := by
  by_cases hc : c
  · rw [zx_ca hm hd hl (ha.trans (if_pos hc))]
    exact propext ⟨fun h => ⟨hc, h⟩, fun h => h.2⟩
  · refine propext ⟨fun h => ?_, fun h => absurd h.1 hc⟩
    obtain ⟨f, r, L3, I3, J3, h, hP⟩ := h
    cases f with
    | zero => cases h
    | succ f =>
      rw [zx_ex_i hm hd hl, ha, show zx_if c (some (Sum.inr (Sum.inr (k, as, st2)))) = none from if_neg hc] at h
      cases h
/-- a branch -/
theorem zx_br {c : Prop} {_ : Decidable c} {t e : Nat} : zx_wp d m (if c then t else e) ls st L I J P = if c then zx_wp d m t ls st L I J P else zx_wp d m e ls st L I J P := by
  split <;> rfl
theorem zx_en0 (hm : zx_ms m = some (o, y, b, mx, rt, ini)) {as ls : List Value} (hl : zx_ent mx as = ls) (hn : (zx_en as).length ≤ mx) : zx_rn d m as L I J P = zx_wp d m 0 ls [] L I J P := by
  subst hl
  exact propext ⟨fun ⟨me, h, _, k⟩ => by rw [hm] at h; cases h; exact k, fun h => ⟨_, hm, hn, h⟩⟩
theorem zx_wp_mono {Q : Option Value → zx_Lay → zx_MI → zx_MJ → Prop} (h : zx_wp d m pc ls st L I J P) (hq : ∀ r L2 I2 J2, P r L2 I2 J2 → Q r L2 I2 J2) : zx_wp d m pc ls st L I J Q := by
  obtain ⟨f, r, L2, I2, J2, h1, h2⟩ := h
  exact ⟨f, r, L2, I2, J2, h1, hq _ _ _ _ h2⟩
theorem zx_rn_mono {as : List Value} {Q : Option Value → zx_Lay → zx_MI → zx_MJ → Prop} (h : zx_rn d m as L I J P) (hq : ∀ r L2 I2 J2, P r L2 I2 J2 → Q r L2 I2 J2) : zx_rn d m as L I J Q := by
  obtain ⟨me, h0, h9, h1⟩ := h
  exact ⟨me, h0, h9, zx_wp_mono h1 hq⟩
theorem zx_rn_up {as : List Value} {e : Nat} (he : d ≤ e) (h : zx_rn d m as L I J P) : zx_rn e m as L I J P := by
  obtain ⟨me, h0, h9, f, r, L2, I2, J2, h1, h2⟩ := h
  exact ⟨me, h0, h9, f, r, L2, I2, J2, zx_mono _ _ _ _ _ _ _ _ _ _ h1 f e (Nat.le_refl _) he, h2⟩
end WPR
