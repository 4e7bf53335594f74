/-! what a call answers is of its method's type; pairs as the law calls them -/
def zx_okR (rt : Option FieldType) (o : Option zx_A) : Prop := ∀ r, o = some (.inr (.inl r)) → (rt = some .int → ∃ x, r = some (.int x)) ∧ (rt = some .long → ∃ u, r = some (.long u))
section RT
variable {I : zx_MI} {J : zx_MJ} {L : zx_Lay} {ls st : List Value} {rt : Option FieldType}
theorem zy_n : zx_okR rt none := fun r h => by cases h
theorem zy_s {x : zx_N} : zx_okR rt (some (.inl x)) := fun r h => by cases h
theorem zy_c {x : zx_C} : zx_okR rt (some (.inr (.inr x))) := fun r h => by cases h
theorem zy_if {c : Prop} {r : Option zx_A} (h : zx_okR rt r) : zx_okR rt (zx_if c r) := by
  unfold zx_if
  intro A e
  by_cases q : c
  · rw [if_pos q] at e; exact h A e
  · rw [if_neg q] at e; cases e
theorem zy_j {pc : Nat} {off : Int} {k : Nat → Option zx_A} (h : ∀ t, zx_okR rt (k t)) : zx_okR rt (zx_j pc off k) := by
  unfold zx_j
  split
  · exact h _
  · exact zy_n
theorem zy_p {pc : Nat} {o : Option (List Value)} : zx_okR rt (zx_p pc ls L I J o) := by
  unfold zx_p
  split
  · exact zy_s
  · exact zy_n
theorem zy_pl {pc : Nat} {o : Option (List Value)} : zx_okR rt (zx_pl pc st L I J o) := by
  unfold zx_pl
  split
  · exact zy_s
  · exact zy_n
theorem zy_gf {pc : Nat} {f : Option (Nat × Nat × Nat)} : zx_okR rt (zx_gf pc ls L I J f st) := by
  unfold zx_gf
  repeat' split
  all_goals first
    | exact zy_n
    | exact zy_if zy_s
theorem zy_pf {pc o : Nat} {ini : Bool} {f : Option (Nat × Nat × Nat)} : zx_okR rt (zx_pf o ini pc ls L I J f st) := by
  unfold zx_pf
  repeat' split
  all_goals first
    | exact zy_n
    | exact zy_if zy_s
theorem zy_cl {pc kk : Nat} {f : Option (Nat × Nat × Nat)} : zx_okR rt (zx_cl L f pc ls I J kk st) := by
  unfold zx_cl
  repeat' split
  all_goals first
    | exact zy_n
    | exact zy_c
    | exact zy_s
    | exact zy_if zy_s
    | exact zy_if zy_c
theorem zy_ri {x : Int32} : zx_okR rt (zx_if (zx_okr rt x) (some (.inr (.inl (some (.int x)))))) := by
  unfold zx_if
  intro r e
  by_cases q : zx_okr rt x
  · rw [if_pos q] at e
    cases e
    refine ⟨fun _ => ⟨x, rfl⟩, fun h => ?_⟩
    rw [h] at q
    exact False.elim q
  · rw [if_neg q] at e; cases e
theorem zy_act {o pc : Nat} {ini : Bool} {i : Instr} : zx_okR rt (zx_act o rt ini pc i ls st L I J) := by
  unfold zx_act
  split
  all_goals first
    | exact zy_s
    | exact zy_p
    | exact zy_n
    | exact zy_gf
    | exact zy_pf
    | exact zy_cl
    | exact zy_j (fun t => zy_s)
    | skip
  all_goals repeat' split
  all_goals first
    | exact zy_n
    | exact zy_s
    | exact zy_pl
    | exact zy_if zy_s
    | exact zy_j (fun t => zy_s)
    | exact zy_j (fun t => zy_if zy_s)
    | exact zy_ri
    | (intro r e; cases e; exact ⟨fun h => (by rename_i q; first | (rw [q] at h; cases h) | cases h), fun h => (by first | exact ⟨_, rfl⟩ | (rename_i q; rw [q] at h; cases h) | cases h)⟩)
    | (intro r e; refine ⟨?_, ?_⟩ <;> intro h <;> cases h)
    | skip
theorem zy_ex : ∀ (f d m pc : Nat) (ls st : List Value) (L : zx_Lay) (I : zx_MI) (J : zx_MJ) (r : Option Value) (L2 : zx_Lay) (I2 : zx_MI) (J2 : zx_MJ) (o : Nat) (y : MethodName) (b : ByteArray) (mx : Nat) (rt : Option FieldType) (ini : Bool), zx_ms m = some (o, y, b, mx, rt, ini) → zx_ex f d m pc ls st L I J = some (r, L2, I2, J2) → (rt = some .int → ∃ x, r = some (.int x)) ∧ (rt = some .long → ∃ u, r = some (.long u)) := by
  intro f
  induction f with
  | zero => intro d m pc ls st L I J r L2 I2 J2 o y b mx rt ini _ h; rw [zx_ex] at h; cases h
  | succ f ih =>
    intro d m pc ls st L I J r L2 I2 J2 o y b mx rt ini hm h
    rw [zx_ex, hm] at h
    dsimp only at h
    split at h
    · cases h
    · split at h
      · split at h
        · cases h
        · exact ih _ _ _ _ _ _ _ _ _ _ _ _ _ _ _ _ _ _ hm h
        · rename_i e
          cases h
          exact zy_act _ e
        · split at h
          · split at h
            · split at h
              · exact ih _ _ _ _ _ _ _ _ _ _ _ _ _ _ _ _ _ _ hm h
              · cases h
            · cases h
          · cases h
      · cases h
theorem zy_rn {d k : Nat} {as : List Value} {v : Option Value} {L2 : zx_Lay} {I2 : zx_MI} {J2 : zx_MJ} {o : Nat} {y : MethodName} {b : ByteArray} {mx : Nat} {ini : Bool} (hm : zx_ms k = some (o, y, b, mx, rt, ini)) (h : ∀ P : Option Value → zx_Lay → zx_MI → zx_MJ → Prop, zx_rn d k as L I J P = P v L2 I2 J2) : (rt = some .int → ∃ x, v = some (.int x)) ∧ (rt = some .long → ∃ u, v = some (.long u)) := by
  have h1 : zx_rn d k as L I J (fun r _ _ _ => r = v) := (h _).mpr rfl
  obtain ⟨me, hme, -, f, r, L3, I3, J3, e, e2⟩ := h1
  have := zy_ex _ _ _ _ _ _ _ _ _ _ _ _ _ _ _ _ _ _ _ hm e
  rw [← e2]; exact this
end RT
/-- a pair as the law calls it: an answer of one sort, the state goes on, the script stays -/
def zE (Lh : Nat) (k k2 : Nat) (as : List Value) (I : zx_MI) (J : zx_MJ) (m : Nat) (v : Value) : Prop := ∃ I1 J1 I2 J2, (∀ P, zx_rn 999 k (.ref 0 :: as) (zx_LL Lh) I J P = P (some v) (zx_LL Lh) I1 J1) ∧ (∀ P, zx_rn 999 k2 (.ref 138 :: as) (zx_LL Lh) I1 J1 P = P (some v) (zx_LL Lh) I2 J2) ∧ zInv I2 J2 m ∧ (∀ j, I1 5000 j = I 5000 j) ∧ ∀ j, I2 5000 j = I 5000 j
section ZE
variable {Lh m k k2 : Nat} {as : List Value} {I : zx_MI} {J : zx_MJ}
theorem zE_D {m2 : Nat} (h : zD Lh k k2 as I J m2) (hm : m2 ≤ m + 100) : ∃ v, zE Lh k k2 as I J (m + 100) v := by
  obtain ⟨v, I1, J1, I2, J2, h1, h2, h3⟩ := h
  have g1 := zk_rn (show (zx_LL Lh).2.2.1 ≤ 4000 from (by decide : (153 : Nat) ≤ 4000)) (h1 969)
  have g2 := zk_rn (show (zx_LL Lh).2.2.1 ≤ 4000 from (by decide : (153 : Nat) ≤ 4000)) (h2 969)
  exact ⟨v, I1, J1, I2, J2, h1 969, h2 969, zInv_mono h3 hm, fun j => g1 5000 j (by omega), fun j => (g2 5000 j (by omega)).trans (g1 5000 j (by omega))⟩
theorem zE_D2 {m2 : Nat} (h : zD2 Lh k k2 as I J m2) (hm : m2 ≤ m + 100) : ∃ v, zE Lh k k2 as I J (m + 100) v := by
  obtain ⟨v, I1, J1, I2, J2, h1, h2, h3⟩ := h
  have g1 := zk_rn (show (zx_LL Lh).2.2.1 ≤ 4000 from (by decide : (153 : Nat) ≤ 4000)) (h1 799)
  have g2 := zk_rn (show (zx_LL Lh).2.2.1 ≤ 4000 from (by decide : (153 : Nat) ≤ 4000)) (h2 799)
  exact ⟨v, I1, J1, I2, J2, h1 799, h2 799, zInv_mono h3 hm, fun j => g1 5000 j (by omega), fun j => (g2 5000 j (by omega)).trans (g1 5000 j (by omega))⟩
theorem zE_Q (h : zQ Lh k k2 as I J) (v : zInv I J m) : ∃ v, zE Lh k k2 as I J (m + 100) v := zE_D (zQ_D h v (Nat.le_refl m)) (by omega)
theorem zE_I {o : Nat} {y : MethodName} {b : ByteArray} {mx : Nat} {ini : Bool} (hm : zx_ms k = some (o, y, b, mx, some .int, ini)) (h : ∃ v, zE Lh k k2 as I J m v) : ∃ x, zE Lh k k2 as I J m (.int x) := by
  obtain ⟨v, I1, J1, I2, J2, h1, h2⟩ := h
  obtain ⟨x, e⟩ := (zy_rn hm h1).1 rfl
  injection e with e
  subst e
  exact ⟨x, I1, J1, I2, J2, h1, h2⟩
theorem zE_J {o : Nat} {y : MethodName} {b : ByteArray} {mx : Nat} {ini : Bool} (hm : zx_ms k = some (o, y, b, mx, some .long, ini)) (h : ∃ v, zE Lh k k2 as I J m v) : ∃ u, zE Lh k k2 as I J m (.long u) := by
  obtain ⟨v, I1, J1, I2, J2, h1, h2⟩ := h
  obtain ⟨x, e⟩ := (zy_rn hm h1).2 rfl
  injection e with e
  subst e
  exact ⟨x, I1, J1, I2, J2, h1, h2⟩
end ZE
