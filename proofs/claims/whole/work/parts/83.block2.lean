/-! blocks: both ways to reckon it -/
theorem zf_walk_in {w h : Nat} {dx dy : Int} {tk : Nat → Bool} {k : Nat} (hk : k < 64) (hat : ∀ x y q, zf_at w h x y = some q → q < 64) : ∀ f x y b, zf_bit (zf_walk w h dx dy tk f x y b).1 k = true → zf_bit b k = true ∨ k < w * h := by
  intro f
  induction f with
  | zero => intro x y b e; exact .inl e
  | succ f ih =>
    intro x y b e
    cases c : zf_at w h x y with
    | none => rw [zf_walk_n c] at e; exact .inl e
    | some q =>
      cases t : tk q with
      | true => rw [zf_walk_t c t] at e; exact .inl e
      | false =>
        rw [zf_walk_f c t] at e
        rcases ih _ _ _ e with e2 | e2
        · rw [zt_or, Bool.or_eq_true] at e2
          rcases e2 with e3 | e3
          · exact .inl e3
          · rw [zt_one (hat _ _ _ c) hk, decide_eq_true_iff] at e3
            obtain ⟨-, -, -, -, -, -, -, h8⟩ := zf_at_some c
            exact .inr (by omega)
        · exact .inr e2
def zf_bkC (B : Nat → Int32) (w h N k W : Nat) : Nat → Nat → Int64 → Int64
  | 0, _, u => u
  | mm + 1, s, u => zf_bkC B w h N k W mm (s + 1) (if W.testBit s = true then u &&& (zf_lookT B w h (zf_ad (zf_taken B N) k) s).1 else u)
def zf_bkP (B : Nat → Int32) (w h N k p : Nat) : Bool := !decide (p = k) && !zf_taken B N p && decide (zf_wat (zu1 B (45 + p) (-10)) w h N k = 0)
def zf_bkM (B : Nat → Int32) (w h N k : Nat) : Nat → Nat → Int64 → Int64
  | 0, _, u => u
  | mm + 1, p, u => zf_bkM B w h N k mm (p + 1) (if zf_bkP B w h N k p = true then u ||| zf_one p else u)
theorem zf_bkC_b {B : Nat → Int32} {w h N k W p : Nat} : ∀ mm s u, zf_bit (zf_bkC B w h N k W mm s u) p = true ↔ zf_bit u p = true ∧ ∀ i, s ≤ i → i < s + mm → W.testBit i = true → zf_bit (zf_lookT B w h (zf_ad (zf_taken B N) k) i).1 p = true := by
  intro mm
  induction mm with
  | zero => intro s u; exact ⟨fun e => ⟨e, fun i h1 h2 => absurd h2 (by omega)⟩, fun e => e.1⟩
  | succ mm ih =>
    intro s u
    rw [zf_bkC, ih]
    cases c : W.testBit s with
    | false =>
      rw [if_neg (by decide)]
      constructor
      · intro ⟨h1, h2⟩
        refine ⟨h1, fun i a b d => ?_⟩
        by_cases q : i = s
        · subst q; rw [c] at d; exact Bool.noConfusion d
        · exact h2 i (by omega) (by omega) d
      · intro ⟨h1, h2⟩
        exact ⟨h1, fun i a b d => h2 i (by omega) (by omega) d⟩
    | true =>
      rw [if_pos rfl, zt_and, Bool.and_eq_true]
      constructor
      · intro ⟨⟨h0, h1⟩, h2⟩
        refine ⟨h0, fun i a b d => ?_⟩
        by_cases q : i = s
        · subst q; exact h1
        · exact h2 i (by omega) (by omega) d
      · intro ⟨h1, h2⟩
        exact ⟨⟨h1, h2 s (by omega) (by omega) c⟩, fun i a b d => h2 i (by omega) (by omega) d⟩
theorem zf_bkM_b {B : Nat → Int32} {w h N k p : Nat} (hp : p < 64) : ∀ mm s u, s + mm ≤ 64 → (zf_bit (zf_bkM B w h N k mm s u) p = true ↔ zf_bit u p = true ∨ (s ≤ p ∧ p < s + mm ∧ zf_bkP B w h N k p = true)) := by
  intro mm
  induction mm with
  | zero => intro s u _; exact ⟨fun e => .inl e, fun e => by rcases e with e | ⟨h1, h2, -⟩; exact e; omega⟩
  | succ mm ih =>
    intro s u hs
    rw [zf_bkM, ih _ _ (by omega)]
    cases c : zf_bkP B w h N k s with
    | false =>
      rw [if_neg (by decide)]
      constructor
      · rintro (e | ⟨h1, h2, h3⟩)
        · exact .inl e
        · exact .inr ⟨by omega, by omega, h3⟩
      · rintro (e | ⟨h1, h2, h3⟩)
        · exact .inl e
        · by_cases q : p = s
          · subst q; rw [c] at h3; exact Bool.noConfusion h3
          · exact .inr ⟨by omega, by omega, h3⟩
    | true =>
      rw [if_pos rfl, zt_or, Bool.or_eq_true, zt_one (by omega) hp, decide_eq_true_iff]
      constructor
      · rintro ((e | e) | ⟨h1, h2, h3⟩)
        · exact .inl e
        · exact .inr ⟨by omega, by omega, e ▸ c⟩
        · exact .inr ⟨by omega, by omega, h3⟩
      · rintro (e | ⟨h1, h2, h3⟩)
        · exact .inl (.inl e)
        · by_cases q : p = s
          · exact .inl (.inr q)
          · exact .inr ⟨by omega, by omega, h3⟩
theorem zf_on_bk {p : Nat} {B : Nat → Int32} {x v : Int32} (hp : p < 64) : ∀ mm s, zf_on (zu1 B (45 + p) v) x mm s = zf_on B x mm s := by
  intro mm
  induction mm with
  | zero => intro s; rfl
  | succ mm ih =>
    intro s
    rw [zf_on, zf_on, zu1_n (by omega), ih (s + 1)]
theorem zf_bk_look {B : Nat → Int32} {w h N p s : Nat} (hp : p < 64) (hat : ∀ x y q, zf_at w h x y = some q → q < 64) : zf_look (zu1 B (45 + p) (-10)) w h N s = zf_lookT B w h (zf_ad (zf_taken B N) p) s := by
  have et : ∀ q, q < 64 → zf_taken (zu1 B (45 + p) (-10)) N q = zf_ad (zf_taken B N) p q := fun q hq => by
    unfold zf_taken zf_ad
    rw [zf_on_bk hp]
    by_cases e : q = p
    · subst e
      rw [zu1_s, decide_eq_true rfl, Bool.or_true, decide_eq_false (by decide)]
      rfl
    · rw [zu1_n (by omega), decide_eq_false e, Bool.or_false]
  have hf0 : zf_hasFoe (zu1 B (45 + p) (-10)) s = zf_hasFoe B s := by
    unfold zf_hasFoe
    rw [zu1_n (by omega), zu1_n (by omega), zu1_n (by omega)]
  unfold zf_look zf_lookT
  rw [hf0, zu1_n (show 117 + s ≠ 45 + p by omega), zu1_n (show 109 + s ≠ 45 + p by omega)]
  cases zf_hasFoe B s with
  | false => rw [if_neg (by decide), if_neg (by decide)]
  | true => rw [if_pos rfl, if_pos rfl, zf_walk_eq hat et]
/-- both ways come to the same, where some LOOK goes over the STONE -/
theorem zf_bk_eq {B : Nat → Int32} {w h N k : Nat} (hk : k < 64) (hN : N ≤ 8) (wh : w * h ≤ 64) (hW : zf_wat B w h N k ≠ 0) : zf_bkC B w h N k (zf_wat B w h N k) N 0 (-1) = zf_bkM B w h N k (w * h) 0 (lN 0) := by
  have hat : ∀ x y q, zf_at w h x y = some q → q < 64 := fun x y q e => by
    obtain ⟨-, -, -, -, -, -, -, h8⟩ := zf_at_some e
    omega
  have Wb : ∀ i, (zf_wat B w h N k).testBit i = true ↔ i < N ∧ zf_bit (zf_look B w h N i).1 k = true := fun i => by
    unfold zf_wat
    rw [zf_bs_bit, Nat.zero_testBit, Bool.false_or, Bool.and_eq_true, Bool.and_eq_true, decide_eq_true_iff, decide_eq_true_iff]
    exact ⟨fun e => ⟨by omega, e.2⟩, fun e => ⟨⟨by omega, by omega⟩, e.2⟩⟩
  have foe : ∀ tk i q, zf_bit (zf_lookT B w h tk i).1 q = true → zf_hasFoe B i = true := fun tk i q e => by
    unfold zf_lookT at e
    cases c : zf_hasFoe B i with
    | true => rfl
    | false => rw [c, if_neg (by decide), zt_0] at e; exact Bool.noConfusion e
  apply zt_ext
  intro p hp
  apply Bool.eq_iff_iff.mpr
  rw [zf_bkC_b, zf_bkM_b hp _ _ _ (by omega), zt_0]
  have one : ∀ i, i < N → zf_bit (zf_look B w h N i).1 k = true → p ≠ k → zf_bit (zf_look (zu1 B (45 + p) (-10)) w h N i).1 k = !zf_bit (zf_lookT B w h (zf_ad (zf_taken B N) k) i).1 p := fun i hi e hn => by
    have f := foe _ _ _ e
    rw [zf_bk_look hp hat]
    unfold zf_look zf_lookT at e
    unfold zf_lookT
    rw [f, if_pos rfl] at e
    rw [f, if_pos rfl, if_pos rfl]
    exact zf_walk_blk hk hp hn hat _ _ _ _ (zt_0 _) (zt_0 _) e
  constructor
  · rintro ⟨-, h2⟩
    right
    obtain ⟨i, hi⟩ := Nat.exists_testBit_of_ne_zero hW
    have hi' := (Wb i).mp hi
    have e := h2 i (by omega) (by omega) hi
    have f := foe _ _ _ e
    unfold zf_lookT at e
    rw [f, if_pos rfl] at e
    have a1 : zf_ad (zf_taken B N) k p = false := by
      rcases zf_walk_b hp hat _ _ _ _ e with q | q
      · rw [zt_0] at q; exact Bool.noConfusion q
      · exact q
    have a2 : p < w * h := by
      rcases zf_walk_in hp hat _ _ _ _ e with q | q
      · rw [zt_0] at q; exact Bool.noConfusion q
      · exact q
    unfold zf_ad at a1
    rw [Bool.or_eq_false_iff, decide_eq_false_iff_not] at a1
    refine ⟨by omega, by omega, ?_⟩
    unfold zf_bkP
    rw [a1.1, decide_eq_false a1.2, Bool.not_false, Bool.true_and, Bool.true_and, decide_eq_true_iff]
    apply Nat.eq_of_testBit_eq
    intro j
    rw [Nat.zero_testBit]
    unfold zf_wat
    rw [zf_bs_bit, Nat.zero_testBit, Bool.false_or]
    by_cases hj : j < N
    · cases cj : zf_bit (zf_look B w h N j).1 k with
      | true => rw [one j hj cj a1.2, h2 j (by omega) (by omega) ((Wb j).mpr ⟨hj, cj⟩), Bool.not_true, Bool.and_false]
      | false =>
        have : zf_bit (zf_look (zu1 B (45 + p) (-10)) w h N j).1 k = false := by
          rw [zf_bk_look hp hat]
          cases cc : zf_bit (zf_lookT B w h (zf_ad (zf_taken B N) p) j).1 k with
          | false => rfl
          | true =>
            have f2 := foe _ _ _ cc
            unfold zf_look zf_lookT at cj
            unfold zf_lookT at cc
            rw [f2, if_pos rfl] at cj cc
            rw [zf_walk_less _ _ _ _ cc] at cj
            exact Bool.noConfusion cj
        rw [this, Bool.and_false]
    · rw [decide_eq_false (show ¬ j < 0 + N by omega), Bool.and_false, Bool.false_and]
  · rintro (e | ⟨h1, h2, h3⟩)
    · exact Bool.noConfusion e
    · unfold zf_bkP at h3
      rw [Bool.and_eq_true, Bool.and_eq_true, Bool.not_eq_true', decide_eq_false_iff_not, decide_eq_true_iff] at h3
      refine ⟨?_, fun i a b d => ?_⟩
      · unfold zf_bit
        exact (by decide +kernel : ∀ j : Fin 64, (-1 : Int64).toBitVec.getLsbD j.1 = true) ⟨p, hp⟩
      · obtain ⟨hi, e⟩ := (Wb i).mp d
        have o := one i hi e h3.1.1
        have z : zf_bit (zf_look (zu1 B (45 + p) (-10)) w h N i).1 k = false := by
          have := zf_bs_bit (fun s => zf_bit (zf_look (zu1 B (45 + p) (-10)) w h N s).1 k) i N 0 0
          have e3 := h3.2
          unfold zf_wat at e3
          rw [e3, Nat.zero_testBit, Bool.false_or, decide_eq_true (Nat.zero_le i), decide_eq_true (show i < 0 + N by omega), Bool.true_and, Bool.true_and] at this
          exact this.symm
        rw [z] at o
        cases cc : zf_bit (zf_lookT B w h (zf_ad (zf_taken B N) k) i).1 p with
        | true => rfl
        | false => rw [cc] at o; exact Bool.noConfusion o
