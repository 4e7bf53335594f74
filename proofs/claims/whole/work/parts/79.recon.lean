/-! reconcile: the smallest set are those whose LOOK goes over the STONE -/
theorem zf_rm_j {r a : Nat} : ∀ mm s (B : Nat → Int32) (j : Nat), zf_rm r a mm s B j = if r + s ≤ j ∧ j < r + s + mm ∧ a.testBit (j - r) = true then -1 else B j := by
  intro mm
  induction mm with
  | zero => intro s B j; rw [if_neg (by omega)]; rfl
  | succ mm ih =>
    intro s B j
    unfold zf_rm
    rw [ih]
    by_cases q : j = r + s
    · subst q
      rw [if_neg (by omega), Nat.add_sub_cancel_left]
      cases c : a.testBit s with
      | false => rw [if_neg (by decide), if_neg (fun h => by have := h.2.2; exact Bool.noConfusion this)]
      | true => rw [if_pos rfl, if_pos ⟨by omega, by omega, rfl⟩, zu1_s]
    · have e : (if a.testBit s = true then zu1 B (r + s) (-1) else B) j = B j := by
        split
        · exact zu1_n q
        · rfl
      rw [e]
      by_cases c : r + (s + 1) ≤ j ∧ j < r + (s + 1) + mm ∧ a.testBit (j - r) = true
      · rw [if_pos c, if_pos ⟨by omega, by omega, c.2.2⟩]
      · rw [if_neg c, if_neg (fun h => c ⟨by omega, by omega, h.2.2⟩)]
theorem zf_rm_n {a mm : Nat} {B : Nat → Int32} {j : Nat} (hm : mm ≤ 8) (h : j < 125 ∨ 133 ≤ j) : zf_rm 125 a mm 0 B j = B j := by
  rw [zf_rm_j, if_neg (by omega)]
theorem zf_walk_b {w h : Nat} {dx dy : Int} {tk : Nat → Bool} {k : Nat} (hk : k < 64) (hat : ∀ x y q, zf_at w h x y = some q → q < 64) : ∀ f x y b, zf_bit (zf_walk w h dx dy tk f x y b).1 k = true → zf_bit b k = true ∨ tk k = false := by
  intro f
  induction f with
  | zero => intro x y b e; exact .inl e
  | succ f ih =>
    intro x y b e
    cases c : zf_at w h x y with
    | none => rw [zf_walk_n c] at e; exact .inl e
    | some q =>
      cases t : tk q with
      | true => rw [zf_walk_t c t] at e; exact .inl e
      | false =>
        rw [zf_walk_f c t] at e
        rcases ih _ _ _ e with e2 | e2
        · rw [zt_or, Bool.or_eq_true] at e2
          rcases e2 with e3 | e3
          · exact .inl e3
          · by_cases n : q = k
            · subst n; exact .inr t
            · rw [zt_one (hat _ _ _ c) hk, decide_eq_true_iff] at e3
              exact absurd e3.symm n
        · exact .inr e2
theorem zf_cnt_mono {p q : Nat → Bool} (h : ∀ j, p j = true → q j = true) : ∀ m k, zf_cnt p m k ≤ zf_cnt q m k := by
  intro m
  induction m with
  | zero => intro k; exact Nat.le_refl _
  | succ m ih =>
    intro k
    have i := ih (k + 1)
    rw [zf_cnt, zf_cnt]
    cases c : p k with
    | false =>
      rw [if_neg (by decide)]
      cases q k with
      | false => rw [if_neg (by decide)]; omega
      | true => rw [if_pos rfl]; omega
    | true => rw [h k c]; omega
theorem zf_min_b {g : Nat → Bool} : ∀ mm a b, (∀ c, a ≤ c → c < a + mm → (decide (zf_pop c < zf_pc b) && g c) = false) → zf_min g mm a b = b := by
  intro mm
  induction mm with
  | zero => intro a b _; rfl
  | succ mm ih =>
    intro a b h
    unfold zf_min
    rw [h a (by omega) (by omega), if_neg (by decide)]
    exact ih (a + 1) b (fun c h1 h2 => h c (by omega) (by omega))
theorem zf_min_t {g : Nat → Bool} : ∀ x y a b, zf_min g (x + y) a b = zf_min g y (a + x) (zf_min g x a b) := by
  intro x
  induction x with
  | zero => intro y a b; rw [Nat.zero_add]; rfl
  | succ x ih =>
    intro y a b
    rw [show x + 1 + y = (x + y) + 1 by omega, zf_min, zf_min, ih, show a + 1 + x = a + (x + 1) by omega]
/-- of all the sets that hold W, and W itself is good, W is the smallest -/
theorem zf_min_W {g : Nat → Bool} {W H : Nat} (hW : W < H) (gW : g W = true) (gs : ∀ a, g a = true → ∀ j, W.testBit j = true → a.testBit j = true) : zf_min g H 0 none = some W := by
  have ge : ∀ a, g a = true → W ≤ a := by
    intro a ha
    have e : W &&& a = W := Nat.eq_of_testBit_eq fun j => by
      rw [Nat.testBit_and]
      cases c : W.testBit j with
      | false => rfl
      | true => rw [gs a ha j c]; rfl
    have := Nat.and_le_right (n := W) (m := a)
    omega
  have e1 : zf_min g W 0 none = none := zf_min_b W 0 none (fun c h1 h2 => by
    cases q : g c with
    | false => exact Bool.and_false _
    | true => have := ge c q; omega)
  have hp := zf_pop_le W
  obtain ⟨y, rfl⟩ : ∃ y, H = W + (1 + y) := ⟨H - W - 1, by omega⟩
  rw [zf_min_t, e1, zf_min_t, Nat.zero_add]
  have e2 : zf_min g 1 W none = some W := by
    unfold zf_min zf_min
    rw [gW, Bool.and_true, decide_eq_true (show zf_pop W < zf_pc none from (show zf_pop W < 9 by omega)), if_pos rfl]
  rw [e2]
  refine zf_min_b _ _ _ (fun c h1 h2 => ?_)
  cases q : g c with
  | false => exact Bool.and_false _
  | true =>
    have : zf_pop W ≤ zf_pop c := zf_cnt_mono (gs c q) 8 0
    rw [decide_eq_false (show ¬ zf_pop c < zf_pc (some W) from (show ¬ zf_pop c < zf_pop W by omega)), Bool.false_and]
