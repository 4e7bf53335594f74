/-! the whole of it: by fuel -/
theorem zx_p_no {pc : Nat} {ls : List Value} {L : zx_Lay} {I : zx_MI} {J : zx_MJ} {o : Option (List Value)} {q : Option Value ⊕ zx_C} : ¬ zx_p pc ls L I J o = some (.inr q) := by
  intro h
  cases o <;> cases h
theorem zx_pl_no {pc : Nat} {st : List Value} {L : zx_Lay} {I : zx_MI} {J : zx_MJ} {o : Option (List Value)} {q : Option Value ⊕ zx_C} : ¬ zx_pl pc st L I J o = some (.inr q) := by
  intro h
  cases o <;> cases h
theorem zx_j_no {pc : Nat} {off : Int} {k : Nat → Option zx_A} {q : Option Value ⊕ zx_C} (hk : ∀ t, ¬ k t = some (.inr q)) : ¬ zx_j pc off k = some (.inr q) := by
  intro h
  obtain ⟨t, -, h2⟩ := zx_j_inv h
  exact hk t h2
def zx_rok (rt : Option FieldType) (L : zx_Lay) (r : Option Value) (i : Instr) : Prop := match r with
  | none => i = .return_ ∧ rt = none
  | some (.int x) => i = .ireturn ∧ zx_okr rt x
  | some (.long _) => i = .lreturn ∧ rt = some .long
  | some (.ref a) => i = .areturn ∧ (∃ s, rt = some (.object s)) ∧ a < L.2.2.1
  | some .null => i = .areturn ∧ ∃ s, rt = some (.object s)
  | _ => False
theorem zx_act_inr {o pc : Nat} {rt : Option FieldType} {ini : Bool} {i : Instr} {ls st : List Value} {L : zx_Lay} {I : zx_MI} {J : zx_MJ} {q : Option Value ⊕ zx_C} (ha : zx_act o rt ini pc i ls st L I J = some (.inr q)) :
    (∃ r, q = .inl r ∧ zx_rok rt L r i ∧ st = zx_pu r []) ∨ (∃ x, i = .invokevirtual x ∧ zx_cl L (zx_find (zx_mths o) x) pc ls I J 0 st = some (.inr q)) ∨ (∃ x, i = .invokespecial x ∧ zx_cl L (zx_find (zx_mths o) x) pc ls I J 1 st = some (.inr q)) ∨ (∃ x, i = .invokestatic x ∧ zx_cl L (zx_find (zx_mths o) x) pc ls I J 2 st = some (.inr q)) := by
  cases i with
  | invokevirtual x => exact Or.inr (Or.inl ⟨x, rfl, ha⟩)
  | invokespecial x => exact Or.inr (Or.inr (Or.inl ⟨x, rfl, ha⟩))
  | invokestatic x => exact Or.inr (Or.inr (Or.inr ⟨x, rfl, ha⟩))
  | ireturn =>
    unfold zx_act at ha
    dsimp only at ha
    split at ha
    · obtain ⟨h1, h2⟩ := zx_if_inv ha
      cases h2
      exact Or.inl ⟨_, rfl, ⟨rfl, h1⟩, rfl⟩
    · cases ha
  | lreturn =>
    unfold zx_act at ha
    dsimp only at ha
    split at ha
    · split at ha
      · cases ha
        exact Or.inl ⟨_, rfl, ⟨rfl, by assumption⟩, rfl⟩
      · cases ha
    · cases ha
  | areturn =>
    unfold zx_act at ha
    dsimp only at ha
    split at ha
    · obtain ⟨h1, h2⟩ := zx_if_inv ha
      cases h2
      exact Or.inl ⟨_, rfl, ⟨rfl, ⟨_, rfl⟩, h1⟩, rfl⟩
    · cases ha
      exact Or.inl ⟨_, rfl, ⟨rfl, ⟨_, rfl⟩⟩, rfl⟩
    · cases ha
  | return_ =>
    unfold zx_act at ha
    dsimp only at ha
    split at ha
    · split at ha
      · cases ha
        exact Or.inl ⟨_, rfl, ⟨rfl, by assumption⟩, rfl⟩
      · cases ha
    · cases ha
  | getfield x =>
    obtain ⟨_, _, _, _, _, -, -, -, h⟩ := zx_gf_inv (show zx_gf pc ls L I J (zx_find (zx_flds o) x) st = _ from ha)
    cases h
  | putfield x =>
    obtain ⟨_, _, _, _, _, -, -, -, h⟩ := zx_pf_inv (show zx_pf o ini pc ls L I J (zx_find (zx_flds o) x) st = _ from ha)
    rcases h with ⟨_, _, _, _, _, _, _, h⟩ | ⟨_, _, _, _, _, _, _, _, h⟩ | ⟨_, _, _, _, _, _, _, _, h⟩ | ⟨_, _, _, _, _, _, _, h⟩ <;> cases h
  | goto off => exact absurd ha (zx_j_no fun t h => by cases h)
  | _ =>
    exfalso
    first
      | (cases ha; done)
      | (exact absurd ha zx_p_no)
      | (unfold zx_act at ha
         dsimp only at ha
         split at ha <;> first
           | (cases ha; done)
           | (exact absurd ha zx_pl_no)
           | (exact absurd (zx_if_inv ha).2 nofun)
           | (exact absurd ha (zx_j_no fun t h => by first | (cases h; done) | exact absurd (zx_if_inv h).2 nofun))
           | (split at ha <;> first
               | (cases ha; done)
               | (exact absurd (zx_if_inv ha).2 nofun)
               | (exact absurd ha (zx_j_no fun t h => by cases h))))
theorem zx_act_ok {Lh : Nat} {xs : Nat → Int32} {o pc pc2 : Nat} {rt : Option FieldType} {ini : Bool} {i : Instr} {ls ls2 st st2 : List Value} {L L2 : zx_Lay} {I I2 : zx_MI} {J J2 : zx_MJ} (ho : o < 21) (hO : zx_OK Lh xs L I J) (ha : zx_act o rt ini pc i ls st L I J = some (.inl (pc2, ls2, st2, L2, I2, J2))) : zx_OK Lh xs L2 I2 J2 ∧ L.2.2.1 ≤ L2.2.2.1 ∧ L.2.2.2 ≤ L2.2.2.2 := by
  have same : ∀ {L2 : zx_Lay} {I2 : zx_MI} {J2 : zx_MJ}, L2 = L → I2 = I → J2 = J → zx_OK Lh xs L2 I2 J2 ∧ L.2.2.1 ≤ L2.2.2.1 ∧ L.2.2.2 ≤ L2.2.2.2 := by
    rintro _ _ _ rfl rfl rfl
    exact ⟨hO, Nat.le_refl _, Nat.le_refl _⟩
  cases i with
  | invokevirtual x =>
    rcases zx_cl_inl (show zx_cl L (zx_find (zx_mths o) x) pc ls I J 0 st = _ from ha) with ⟨z, -⟩ | ⟨z, -⟩ | ⟨z, -⟩ | ⟨z, -⟩ | ⟨z, -⟩ | ⟨z, -⟩ | ⟨z, -⟩
    all_goals cases z
  | invokespecial x =>
    rcases zx_cl_inl (show zx_cl L (zx_find (zx_mths o) x) pc ls I J 1 st = _ from ha) with ⟨-, na, kd, a, r, hf, rfl, hr, hw, hq⟩ | ⟨z, -⟩ | ⟨z, -⟩ | ⟨z, -⟩ | ⟨z, -⟩ | ⟨z, -⟩ | ⟨z, -⟩
    · cases hq; exact same rfl rfl rfl
    all_goals cases z
  | invokestatic x =>
    rcases zx_cl_inl (show zx_cl L (zx_find (zx_mths o) x) pc ls I J 2 st = _ from ha) with ⟨z, -⟩ | ⟨-, na, kd, n, dp, d, sp, s1, r, hf, rfl, ⟨c1, c2, c3, c4, c5, c6, c7, c8, c9, c10⟩, hq⟩ | ⟨-, na, kd, x1, y1, r, hf, rfl, hr, hq⟩ | ⟨-, na, kd, x1, y1, r, hf, rfl, hr, hq⟩ | ⟨-, na, kd, x1, r, hf, rfl, hr, hq⟩ | ⟨-, na, kd, x1, y1, r, hf, rfl, hr, hq⟩ | ⟨-, na, kd, x1, y1, r, hf, rfl, hr, hq⟩
    · cases z
    · cases hq
      exact ⟨zx_okJ hO c4 (fun b hb => funext fun k => by unfold zx_cpy; rw [if_neg (fun z => hb z.1)]), Nat.le_refl _, Nat.le_refl _⟩
    all_goals (cases hq; exact same rfl rfl rfl)
  | getfield x =>
    obtain ⟨_, _, _, _, _, -, -, -, h⟩ := zx_gf_inv (show zx_gf pc ls L I J (zx_find (zx_flds o) x) st = _ from ha)
    cases h; exact same rfl rfl rfl
  | putfield x =>
    obtain ⟨_, _, _, _, _, -, -, -, h⟩ := zx_pf_inv (show zx_pf o ini pc ls L I J (zx_find (zx_flds o) x) st = _ from ha)
    rcases h with ⟨_, _, _, _, _, _, hw, h⟩ | ⟨_, _, _, _, _, _, hw, hw2, h⟩ | ⟨_, _, _, _, _, _, hw, _, h⟩ | ⟨_, _, _, _, _, _, hw, h⟩
    · cases h; exact ⟨zx_okJ hO hw (fun b hb => zx_u_off _ _ _ _ hb), Nat.le_refl _, Nat.le_refl _⟩
    · cases h; exact ⟨zx_okRf hO hw hw2, Nat.le_refl _, Nat.le_refl _⟩
    · cases h; exact ⟨zx_okI hO hw, Nat.le_refl _, Nat.le_refl _⟩
    · cases h; exact ⟨zx_okI hO hw, Nat.le_refl _, Nat.le_refl _⟩
  | iastore =>
    unfold zx_act at ha
    dsimp only at ha
    split at ha
    · obtain ⟨⟨-, -, hw⟩, h2⟩ := zx_if_inv ha
      cases h2; exact ⟨zx_okI hO hw, Nat.le_refl _, Nat.le_refl _⟩
    · cases ha
  | bastore =>
    unfold zx_act at ha
    dsimp only at ha
    split at ha
    · obtain ⟨⟨-, -, hw⟩, h2⟩ := zx_if_inv ha
      cases h2; exact ⟨zx_okI hO hw, Nat.le_refl _, Nat.le_refl _⟩
    · cases ha
  | lastore =>
    unfold zx_act at ha
    dsimp only at ha
    split at ha
    · obtain ⟨⟨-, -, hw⟩, h2⟩ := zx_if_inv ha
      cases h2; exact ⟨zx_okJ hO hw (fun b hb => zx_u_off _ _ _ _ hb), Nat.le_refl _, Nat.le_refl _⟩
    · cases ha
  | aastore =>
    unfold zx_act at ha
    dsimp only at ha
    split at ha
    · obtain ⟨⟨hw, hw2, -⟩, h2⟩ := zx_if_inv ha
      cases h2; exact ⟨zx_okRf hO hw hw2, Nat.le_refl _, Nat.le_refl _⟩
    · cases ha
  | new x =>
    unfold zx_act at ha
    dsimp only at ha
    split at ha
    · rename_i k hf
      by_cases hk : 1 ≤ k ∧ k < 13
      · rw [if_pos hk] at ha
        obtain ⟨h1, h2⟩ := zx_if_inv ha
        cases h2
        exact ⟨zx_okN hO h1 (by unfold zx_gk; dsimp only; omega), Nat.le_succ _, Nat.le_add_right _ _⟩
      · rw [if_neg hk] at ha; cases ha
    · cases ha
  | newarray k =>
    unfold zx_act at ha
    dsimp only at ha
    split at ha
    · rename_i t x r hk
      obtain ⟨⟨h1, -⟩, h2⟩ := zx_if_inv ha
      cases h2
      have ht : t ≤ 3 := by
        unfold zx_kty at hk
        split at hk <;> cases hk <;> omega
      exact ⟨zx_okN hO h1 (Or.inl ht), Nat.le_succ _, Nat.le_add_right _ _⟩
    · cases ha
  | anewarray x =>
    unfold zx_act at ha
    dsimp only at ha
    split at ha
    · rename_i c9 x r hf
      by_cases hc : c9 = 6 ∨ c9 = 7 ∨ c9 = 9
      · rw [if_pos hc] at ha
        obtain ⟨⟨h1, -⟩, h2⟩ := zx_if_inv ha
        cases h2
        exact ⟨zx_okN hO h1 (by unfold zx_gk; dsimp only; omega), Nat.le_succ _, Nat.le_add_right _ _⟩
      · rw [if_neg hc] at ha; cases ha
    · cases ha
  | goto off =>
    obtain ⟨t, -, h2⟩ := zx_j_inv ha
    cases h2; exact same rfl rfl rfl
  | _ =>
    first
      | (cases ha; done)
      | (cases ha; exact same rfl rfl rfl)
      | (obtain ⟨w, h1, h2⟩ := zx_p_inv ha; cases h2; exact same rfl rfl rfl)
      | (unfold zx_act at ha
         dsimp only at ha
         split at ha <;> first
           | (cases ha; done)
           | (have h9 := (zx_if_inv ha).2; cases h9; done)
           | (cases ha; exact same rfl rfl rfl)
           | (obtain ⟨w, h1, h2⟩ := zx_pl_inv ha; cases h2; exact same rfl rfl rfl)
           | (obtain ⟨h1, h2⟩ := zx_if_inv ha; cases h2; exact same rfl rfl rfl)
           | (obtain ⟨t, -, h2⟩ := zx_j_inv ha; cases h2; exact same rfl rfl rfl)
           | (obtain ⟨t, -, h3⟩ := zx_j_inv ha; obtain ⟨h1, h2⟩ := zx_if_inv h3; cases h2; exact same rfl rfl rfl)
           | (split at ha <;> first
               | (cases ha; done)
               | (cases ha; exact same rfl rfl rfl)
               | (obtain ⟨h1, h2⟩ := zx_if_inv ha; cases h2; exact same rfl rfl rfl)
               | (obtain ⟨t, -, h2⟩ := zx_j_inv ha; cases h2; exact same rfl rfl rfl)))
/-- the table's row of a method -/
theorem zx_ms_of {m o mx : Nat} {y : MethodName} {b : ByteArray} {rt : Option FieldType} {ini : Bool} (h : zx_ms m = some (o, y, b, mx, rt, ini)) : o < 21 ∧ y.cls = zx_cn o ∧ mx ≤ 20 ∧ plainName y.cls = true ∧ (ini = true → y.name = "<init>") := by
  have key : zx_cki m = true → o < 21 ∧ y.cls = zx_cn o ∧ mx ≤ 20 ∧ plainName y.cls = true ∧ (ini = true → y.name = "<init>") := by
    intro h2
    unfold zx_cki at h2
    rw [h] at h2
    simp only [Bool.and_eq_true, decide_eq_true_eq, beq_iff_eq, Bool.or_eq_true, Bool.not_eq_true'] at h2
    obtain ⟨⟨⟨⟨h3, h4⟩, h5⟩, h6⟩, h7⟩ := h2
    refine ⟨h3, h4, h5, h6, fun z => ?_⟩
    rcases h7 with h7 | h7
    · rw [z] at h7; cases h7
    · exact h7
  rcases Nat.lt_or_ge m 284 with q | q
  · exact key (zx_chkI m q)
  · rcases zx_msn m q with z | z
    · rw [h] at z; cases z
    · rw [h] at z
      cases z
      refine ⟨by decide, rfl, by decide, by decide +kernel, nofun⟩
theorem zx_grow {Lh : Nat} {xs : Nat → Int32} : ∀ (f d k pc : Nat) (ls st : List Value) (L : zx_Lay) (I : zx_MI) (J : zx_MJ) (r : Option Value) (Lf : zx_Lay) (If : zx_MI) (Jf : zx_MJ), zx_ex f d k pc ls st L I J = some (r, Lf, If, Jf) → zx_OK Lh xs L I J → zx_OK Lh xs Lf If Jf ∧ L.2.2.1 ≤ Lf.2.2.1 ∧ L.2.2.2 ≤ Lf.2.2.2 := by
  intro f
  induction f with
  | zero => intro d k pc ls st L I J r Lf If Jf h; cases h
  | succ f ih =>
    intro d k pc ls st L I J r Lf If Jf h hO
    rw [zx_ex_s] at h
    cases hm : zx_ms k with
    | none => rw [hm] at h; cases h
    | some me =>
      obtain ⟨o, y, b, mx, rt, ini⟩ := me
      have ho := (zx_ms_of hm).1
      rw [hm] at h
      dsimp only at h
      cases hd : decode b pc with
      | error z => rw [hd] at h; cases h
      | ok q =>
        obtain ⟨i, len⟩ := q
        rw [hd] at h
        dsimp only at h
        by_cases hl : len = zx_len i ∨ zx_sw i = true
        · rw [if_pos hl] at h
          cases ha : zx_act o rt ini pc i ls st L I J with
          | none => rw [ha] at h; cases h
          | some a =>
            rw [ha] at h
            rcases a with ⟨pc2, ls2, st2, L2, I2, J2⟩ | r2 | ⟨k2, as, st2⟩
            · obtain ⟨h1, h2, h3⟩ := zx_act_ok ho hO ha
              obtain ⟨h4, h5, h6⟩ := ih _ _ _ _ _ _ _ _ _ _ _ _ h h1
              exact ⟨h4, Nat.le_trans h2 h5, Nat.le_trans h3 h6⟩
            · cases h
              exact ⟨hO, Nat.le_refl _, Nat.le_refl _⟩
            · dsimp only at h
              cases d with
              | zero => cases h
              | succ d =>
                cases hk : zx_ms k2 with
                | none => rw [hk] at h; cases h
                | some mk =>
                  obtain ⟨o2, y2, b2, mx2, rt2, ini2⟩ := mk
                  rw [hk] at h
                  dsimp only at h
                  by_cases hen : (zx_en as).length ≤ mx2
                  case neg => rw [if_neg hen] at h; cases h
                  rw [if_pos hen] at h
                  cases hc : zx_ex f d k2 0 (zx_ent mx2 as) [] L I J with
                  | none => rw [hc] at h; cases h
                  | some q =>
                    obtain ⟨r2, L2, I2, J2⟩ := q
                    rw [hc] at h
                    obtain ⟨h1, h2, h3⟩ := ih _ _ _ _ _ _ _ _ _ _ _ _ hc hO
                    obtain ⟨h4, h5, h6⟩ := ih _ _ _ _ _ _ _ _ _ _ _ _ h h1
                    exact ⟨h4, Nat.le_trans h2 h5, Nat.le_trans h3 h6⟩
        · rw [if_neg hl] at h; cases h
