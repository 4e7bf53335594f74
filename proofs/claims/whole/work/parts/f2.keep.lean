/-! the cells that were not made here are never written: the script stays as it is -/
def zx_okA (I : zx_MI) (A : zx_A) : Prop := match A with
  | .inl (_, _, _, L2, I2, _) => L2.2.2.1 ≤ 4000 ∧ ∀ a j, 4000 ≤ a → I2 a j = I a j
  | .inr _ => True
def zx_okO (I : zx_MI) (o : Option zx_A) : Prop := ∀ A, o = some A → zx_okA I A
section KP
variable {I : zx_MI} {J : zx_MJ} {L : zx_Lay} {ls st : List Value}
theorem zk_n : zx_okO I none := fun A h => by cases h
theorem zk_r {r : Option Value ⊕ zx_C} : zx_okO I (some (.inr r)) := fun A h => by cases h; trivial
theorem zk_s {pc : Nat} {J2 : zx_MJ} (h : L.2.2.1 ≤ 4000) : zx_okO I (some (.inl (pc, ls, st, L, I, J2))) := fun A e => by cases e; exact ⟨h, fun _ _ _ => rfl⟩
theorem zk_l {pc : Nat} {J2 : zx_MJ} {M : Nat → Nat → Option Nat} (h : L.2.2.1 ≤ 4000) : zx_okO I (some (.inl (pc, ls, st, (L.1, M, L.2.2), I, J2))) := fun A e => by cases e; exact ⟨h, fun _ _ _ => rfl⟩
theorem zk_w {pc a k : Nat} {x : Int32} (h : L.2.2.1 ≤ 4000) (w : a < L.2.2.1) : zx_okO I (some (.inl (pc, ls, st, L, zx_u I a k x, J))) := fun A e => by
  cases e
  exact ⟨h, fun b j hb => zu_n (fun q => by omega)⟩
theorem zk_c {pc k1 k2 w : Nat} {J2 : zx_MJ} (h : L.2.2.1 < 4000) : zx_okO I (some (.inl (pc, ls, st, zx_new L (k1, k2) w, I, J2))) := fun A e => by cases e; exact ⟨h, fun _ _ _ => rfl⟩
theorem zk_if {c : Prop} {r : Option zx_A} (h : c → zx_okO I r) : zx_okO I (zx_if c r) := by
  unfold zx_if
  intro A e
  by_cases q : c
  · rw [if_pos q] at e; exact h q A e
  · rw [if_neg q] at e; cases e
theorem zk_j {pc : Nat} {off : Int} {k : Nat → Option zx_A} (h : ∀ t, zx_okO I (k t)) : zx_okO I (zx_j pc off k) := by
  unfold zx_j
  split
  · exact h _
  · exact zk_n
theorem zk_p {pc : Nat} {o : Option (List Value)} (h : L.2.2.1 ≤ 4000) : zx_okO I (zx_p pc ls L I J o) := by
  unfold zx_p
  split
  · exact zk_s h
  · exact zk_n
theorem zk_pl {pc : Nat} {o : Option (List Value)} (h : L.2.2.1 ≤ 4000) : zx_okO I (zx_pl pc st L I J o) := by
  unfold zx_pl
  split
  · exact zk_s h
  · exact zk_n
theorem zk_gf {pc : Nat} {f : Option (Nat × Nat × Nat)} (h : L.2.2.1 ≤ 4000) : zx_okO I (zx_gf pc ls L I J f st) := by
  unfold zx_gf
  repeat' split
  all_goals first
    | exact zk_n
    | exact zk_if (fun _ => zk_s h)
theorem zk_pf {pc o : Nat} {ini : Bool} {f : Option (Nat × Nat × Nat)} (h : L.2.2.1 ≤ 4000) : zx_okO I (zx_pf o ini pc ls L I J f st) := by
  unfold zx_pf
  repeat' split
  all_goals first
    | exact zk_n
    | exact zk_if (fun c => zk_w h c.2)
    | exact zk_if (fun c => zk_w h c.2.1)
    | exact zk_if (fun c => zk_s h)
    | exact zk_if (fun c => zk_l h)
theorem zk_cl {pc kk : Nat} {f : Option (Nat × Nat × Nat)} (h : L.2.2.1 ≤ 4000) : zx_okO I (zx_cl L f pc ls I J kk st) := by
  unfold zx_cl
  repeat' split
  all_goals first
    | exact zk_n
    | exact zk_r
    | exact zk_s h
    | exact zk_if (fun c => zk_s h)
    | exact zk_if (fun c => zk_r)
theorem zk_act {o pc : Nat} {rt : Option FieldType} {ini : Bool} {i : Instr} (h : L.2.2.1 ≤ 4000) : zx_okO I (zx_act o rt ini pc i ls st L I J) := by
  unfold zx_act
  split
  all_goals first
    | exact zk_s h
    | exact zk_p h
    | exact zk_n
    | exact zk_gf h
    | exact zk_pf h
    | exact zk_cl h
    | exact zk_j (fun t => zk_s h)
    | skip
  all_goals repeat' split
  all_goals first
    | exact zk_n
    | exact zk_r
    | exact zk_s h
    | exact zk_pl h
    | exact zk_if (fun c => zk_s h)
    | exact zk_if (fun c => zk_r)
    | exact zk_if (fun c => zk_l h)
    | exact zk_if (fun c => zk_c c)
    | exact zk_if (fun c => zk_c c.1)
    | exact zk_if (fun c => zk_w h c.2.2)
    | exact zk_j (fun t => zk_s h)
    | exact zk_j (fun t => zk_if (fun c => zk_s h))
theorem zk_ex : ∀ (f d m pc : Nat) (ls st : List Value) (L : zx_Lay) (I : zx_MI) (J : zx_MJ) (r : Option Value) (L2 : zx_Lay) (I2 : zx_MI) (J2 : zx_MJ), L.2.2.1 ≤ 4000 → zx_ex f d m pc ls st L I J = some (r, L2, I2, J2) → L2.2.2.1 ≤ 4000 ∧ ∀ a j, 4000 ≤ a → I2 a j = I a j := by
  intro f
  induction f with
  | zero => intro d m pc ls st L I J r L2 I2 J2 _ h; rw [zx_ex] at h; cases h
  | succ f ih =>
    intro d m pc ls st L I J r L2 I2 J2 hL h
    rw [zx_ex] at h
    split at h
    · cases h
    · split at h
      · cases h
      · split at h
        · split at h
          · cases h
          · rename_i e
            have k := zk_act hL _ e
            obtain ⟨k1, k2⟩ := k
            obtain ⟨g1, g2⟩ := ih _ _ _ _ _ _ _ _ _ _ _ _ k1 h
            exact ⟨g1, fun a j ha => (g2 a j ha).trans (k2 a j ha)⟩
          · cases h
            exact ⟨hL, fun _ _ _ => rfl⟩
          · split at h
            · split at h
              · split at h
                · rename_i e
                  obtain ⟨k1, k2⟩ := ih _ _ _ _ _ _ _ _ _ _ _ _ hL e
                  obtain ⟨g1, g2⟩ := ih _ _ _ _ _ _ _ _ _ _ _ _ k1 h
                  exact ⟨g1, fun a j ha => (g2 a j ha).trans (k2 a j ha)⟩
                · cases h
              · cases h
            · cases h
        · cases h
/-- what a contract says of the cells behind a call keeps the script -/
theorem zk_rn {d k : Nat} {as : List Value} {v : Option Value} {L2 : zx_Lay} {I2 : zx_MI} {J2 : zx_MJ} (hL : L.2.2.1 ≤ 4000) (h : ∀ P : Option Value → zx_Lay → zx_MI → zx_MJ → Prop, zx_rn d k as L I J P = P v L2 I2 J2) : ∀ a j, 4000 ≤ a → I2 a j = I a j := by
  have h1 : zx_rn d k as L I J (fun _ _ I' _ => I' = I2) := (h _).mpr rfl
  obtain ⟨me, -, -, f, r, L3, I3, J3, e, e2⟩ := h1
  have := (zk_ex _ _ _ _ _ _ _ _ _ _ _ _ _ hL e).2
  rw [← e2]; exact this
end KP
