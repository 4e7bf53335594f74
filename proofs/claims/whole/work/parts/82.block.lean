/-! blocks: a WALL that ends a LOOK ahead of a STONE -/
def zf_ad (tk : Nat → Bool) (p q : Nat) : Bool := tk q || decide (q = p)
theorem zf_walk_mono {w h : Nat} {dx dy : Int} {tk : Nat → Bool} {k : Nat} : ∀ f x y b, zf_bit b k = true → zf_bit (zf_walk w h dx dy tk f x y b).1 k = true := by
  intro f
  induction f with
  | zero => intro x y b e; exact e
  | succ f ih =>
    intro x y b e
    cases c : zf_at w h x y with
    | none => rw [zf_walk_n c]; exact e
    | some q =>
      cases t : tk q with
      | true => rw [zf_walk_t c t]; exact e
      | false => rw [zf_walk_f c t]; exact ih _ _ _ (by rw [zt_or, e]; rfl)
/-- a wall at p ends the LOOK ahead of k iff p lies ahead of k in it -/
theorem zf_walk_blk {w h : Nat} {dx dy : Int} {tk : Nat → Bool} {k p : Nat} (hk : k < 64) (hp : p < 64) (hn : p ≠ k) (hat : ∀ x y q, zf_at w h x y = some q → q < 64) : ∀ f x y b, zf_bit b k = false → zf_bit b p = false → zf_bit (zf_walk w h dx dy tk f x y b).1 k = true → zf_bit (zf_walk w h dx dy (zf_ad tk p) f x y b).1 k = !zf_bit (zf_walk w h dx dy (zf_ad tk k) f x y b).1 p := by
  intro f
  induction f with
  | zero => intro x y b h1 h2 e; rw [show (zf_walk w h dx dy tk 0 x y b).1 = b from rfl, h1] at e; exact Bool.noConfusion e
  | succ f ih =>
    intro x y b h1 h2 e
    cases c : zf_at w h x y with
    | none => rw [zf_walk_n c, h1] at e; exact Bool.noConfusion e
    | some q =>
      have hq := hat _ _ _ c
      cases t : tk q with
      | true => rw [zf_walk_t c t, h1] at e; exact Bool.noConfusion e
      | false =>
        by_cases qk : q = k
        · subst qk
          have t1 : zf_ad tk p q = false := by unfold zf_ad; rw [t, decide_eq_false (fun z => hn z.symm)]; rfl
          have t2 : zf_ad tk q q = true := by unfold zf_ad; rw [t, decide_eq_true rfl]; rfl
          rw [zf_walk_f c t1, zf_walk_t c t2, h2]
          exact zf_walk_mono _ _ _ _ (by rw [zt_or, zt_one hk hk, decide_eq_true rfl, Bool.or_true])
        · have t2 : zf_ad tk k q = false := by unfold zf_ad; rw [t, decide_eq_false qk]; rfl
          by_cases qp : q = p
          · subst qp
            have t1 : zf_ad tk q q = true := by unfold zf_ad; rw [t, decide_eq_true rfl]; rfl
            have : zf_bit (zf_walk w h dx dy (zf_ad tk k) f (x + dx) (y + dy) (b ||| zf_one q)).1 q = true := zf_walk_mono _ _ _ _ (by rw [zt_or, zt_one hp hp, decide_eq_true rfl, Bool.or_true])
            rw [zf_walk_t c t1, zf_walk_f c t2, h1, this]
            rfl
          · have t1 : zf_ad tk p q = false := by unfold zf_ad; rw [t, decide_eq_false qp]; rfl
            rw [zf_walk_f c t] at e
            rw [zf_walk_f c t1, zf_walk_f c t2]
            exact ih _ _ _ (by rw [zt_or, h1, zt_one hq hk, decide_eq_false (fun z => qk z.symm)]; rfl) (by rw [zt_or, h2, zt_one hq hp, decide_eq_false (fun z => qp z.symm)]; rfl) e
/-- a wall more lets no LOOK go further -/
theorem zf_walk_less {w h : Nat} {dx dy : Int} {tk : Nat → Bool} {k p : Nat} : ∀ f x y b, zf_bit (zf_walk w h dx dy (zf_ad tk p) f x y b).1 k = true → zf_bit (zf_walk w h dx dy tk f x y b).1 k = true := by
  intro f
  induction f with
  | zero => intro x y b e; exact e
  | succ f ih =>
    intro x y b e
    cases c : zf_at w h x y with
    | none => rw [zf_walk_n c] at e ⊢; exact e
    | some q =>
      cases t : tk q with
      | true =>
        rw [zf_walk_t c (show zf_ad tk p q = true by unfold zf_ad; rw [t]; rfl)] at e
        rw [zf_walk_t c t]; exact e
      | false =>
        rw [zf_walk_f c t]
        by_cases qp : q = p
        · rw [zf_walk_t c (show zf_ad tk p q = true by unfold zf_ad; rw [t, decide_eq_true qp]; rfl)] at e
          exact zf_walk_mono _ _ _ _ (by rw [zt_or, e]; rfl)
        · rw [zf_walk_f c (show zf_ad tk p q = false by unfold zf_ad; rw [t, decide_eq_false qp]; rfl)] at e
          exact ih _ _ _ e
