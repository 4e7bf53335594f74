/-! reconcile -/
theorem zf_walk_eq {w h : Nat} {dx dy : Int} {tk tk2 : Nat → Bool} (hat : ∀ x y q, zf_at w h x y = some q → q < 64) (e : ∀ q, q < 64 → tk q = tk2 q) : ∀ f x y b, zf_walk w h dx dy tk f x y b = zf_walk w h dx dy tk2 f x y b := by
  intro f
  induction f with
  | zero => intro x y b; rfl
  | succ f ih =>
    intro x y b
    cases c : zf_at w h x y with
    | none => rw [zf_walk_n c, zf_walk_n c]
    | some q =>
      have eq := e q (hat _ _ _ c)
      cases t : tk q with
      | true => rw [zf_walk_t c t, zf_walk_t c (eq ▸ t)]
      | false => rw [zf_walk_f c t, zf_walk_f c (eq ▸ t), ih]
theorem zf_on_rm {a N : Nat} {B : Nat → Int32} {x : Int32} (hN : N ≤ 8) : ∀ mm s, s + mm ≤ 8 → zf_on (zf_rm 125 a N 0 B) x mm s = zf_on B x mm s := by
  intro mm
  induction mm with
  | zero => intro s _; rfl
  | succ mm ih =>
    intro s hs
    rw [zf_on, zf_on, zf_rm_n hN (by omega), ih (s + 1) (by omega)]
theorem zf_rm_look {B : Nat → Int32} {a N w h s : Nat} (hN : N ≤ 8) (hs : s < N) (wh : w * h ≤ 64) (hf : zf_opt (B (125 + s)) 8) : zf_look (zf_rm 125 a N 0 B) w h N s = if a.testBit s = true then (lN 0, none) else zf_look B w h N s := by
  have hat : ∀ x y q, zf_at w h x y = some q → q < 64 := fun x y q e => by
    obtain ⟨-, -, -, -, -, -, -, h8⟩ := zf_at_some e
    omega
  have e117 : zf_rm 125 a N 0 B (117 + s) = B (117 + s) := zf_rm_n hN (by omega)
  have e109 : zf_rm 125 a N 0 B (109 + s) = B (109 + s) := zf_rm_n hN (by omega)
  have e125 : zf_rm 125 a N 0 B (125 + s) = if a.testBit s = true then -1 else B (125 + s) := by
    rw [zf_rm_j, Nat.add_sub_cancel_left]
    cases c : a.testBit s with
    | false => rw [if_neg (fun h => by have := h.2.2; exact Bool.noConfusion this), if_neg (by decide)]
    | true => rw [if_pos ⟨by omega, by omega, rfl⟩, if_pos rfl]
  have et : ∀ q, q < 64 → zf_taken (zf_rm 125 a N 0 B) N q = zf_taken B N q := fun q hq => by
    unfold zf_taken
    rw [zf_rm_n hN (by omega), zf_on_rm hN N 0 (by omega)]
  cases c : a.testBit s with
  | true =>
    rw [c, if_pos rfl] at e125
    have hf0 : zf_hasFoe (zf_rm 125 a N 0 B) s = false := by
      unfold zf_hasFoe
      rw [e125, decide_eq_true rfl, Bool.not_true, Bool.and_false, Bool.false_and]
    unfold zf_look zf_lookT
    rw [hf0, if_neg (by decide), if_pos rfl]
  | false =>
    rw [c, if_neg (by decide)] at e125
    have hf0 : zf_hasFoe (zf_rm 125 a N 0 B) s = zf_hasFoe B s := by
      unfold zf_hasFoe
      rw [e125, e109]
      rcases hf with q | ⟨i, hi, q⟩
      · rw [q, decide_eq_true rfl, Bool.not_true, Bool.and_false, Bool.false_and, Bool.false_and]
      · have e9 : (nI i).toNatClampNeg = i := nI_clamp (by omega)
        rw [q, e9, zf_rm_n hN (by omega)]
    rw [if_neg (by decide)]
    unfold zf_look zf_lookT
    rw [hf0, e117, e109]
    cases zf_hasFoe B s with
    | false => rw [if_neg (by decide), if_neg (by decide)]
    | true => rw [if_pos rfl, if_pos rfl, zf_walk_eq hat et]
theorem zf_vd_mk {k a : Nat} {B : Nat → Int32} : ∀ mm s, (∀ i, s ≤ i → i < s + mm → a.testBit i = true → zf_stds B i = true ∧ ¬ B (109 + i) = nI k) → zf_vd k a B mm s = true := by
  intro mm
  induction mm with
  | zero => intro s _; rfl
  | succ mm ih =>
    intro s h
    unfold zf_vd
    rw [ih (s + 1) (fun i h1 h2 => h i (by omega) (by omega)), Bool.and_true]
    cases c : a.testBit s with
    | false => rfl
    | true =>
      obtain ⟨h1, h2⟩ := h s (by omega) (by omega) c
      rw [h1, decide_eq_false h2]
      rfl
theorem zf_rm_wat {B : Nat → Int32} {a N w h k : Nat} (hN : N ≤ 8) (wh : w * h ≤ 64) (hf : ∀ s, s < N → zf_opt (B (125 + s)) 8) : zf_wat (zf_rm 125 a N 0 B) w h N k = 0 ↔ ∀ j, (zf_wat B w h N k).testBit j = true → a.testBit j = true := by
  unfold zf_wat
  constructor
  · intro e j hj
    rw [zf_bs_bit, Nat.zero_testBit, Bool.false_or, Bool.and_eq_true, Bool.and_eq_true, decide_eq_true_iff, decide_eq_true_iff] at hj
    cases c : a.testBit j with
    | true => rfl
    | false =>
      have := zf_bs_bit (fun s => zf_bit (zf_look (zf_rm 125 a N 0 B) w h N s).1 k) j N 0 0
      rw [e, Nat.zero_testBit, Bool.false_or, decide_eq_true hj.1.1, decide_eq_true hj.1.2, Bool.true_and, Bool.true_and, zf_rm_look hN (by omega) wh (hf j (by omega)), c, if_neg (by decide), hj.2] at this
      exact Bool.noConfusion this
  · intro hh
    apply Nat.eq_of_testBit_eq
    intro j
    rw [zf_bs_bit, Nat.zero_testBit, Bool.false_or]
    by_cases q : j < N
    · rw [zf_rm_look hN q wh (hf j q)]
      cases c : a.testBit j with
      | true => rw [if_pos rfl, zt_0, Bool.and_false]
      | false =>
        rw [if_neg (by decide)]
        cases c2 : zf_bit (zf_look B w h N j).1 k with
        | false => exact Bool.and_false _
        | true =>
          have := hh j (by rw [zf_bs_bit, Nat.zero_testBit, Bool.false_or, decide_eq_true (Nat.zero_le j), decide_eq_true (show j < 0 + N by omega), c2]; rfl)
          rw [c] at this
          exact Bool.noConfusion this
    · rw [decide_eq_false (show ¬ j < 0 + N by omega), Bool.and_false, Bool.false_and]
theorem zf_recon {B : Nat → Int32} {k : Nat} (hk : k < 64) (hN : zn B ≤ 8) (wh : zw B * zh B ≤ 64) (hf : ∀ s, s < zn B → zf_opt (B (125 + s)) 8) : zf_min (zf_gd 125 B k) (2 ^ zn B) 0 none = some (zf_wat B (zw B) (zh B) (zn B) k) := by
  have hat : ∀ x y q, zf_at (zw B) (zh B) x y = some q → q < 64 := fun x y q e => by
    obtain ⟨-, -, -, -, -, -, -, h8⟩ := zf_at_some e
    omega
  refine zf_min_W ?_ ?_ ?_
  · exact zf_bs_lt (n := zn B) _ (by omega) (Nat.two_pow_pos _)
  · unfold zf_gd
    rw [Bool.and_eq_true, decide_eq_true_iff]
    refine ⟨zf_vd_mk _ _ (fun i h1 h2 h3 => ?_), (zf_rm_wat hN wh hf).mpr (fun j h => h)⟩
    unfold zf_wat at h3
    rw [zf_bs_bit, Nat.zero_testBit, Bool.false_or, Bool.and_eq_true] at h3
    have h4 := h3.2
    unfold zf_look zf_lookT at h4
    cases c : zf_hasFoe B i with
    | false =>
      rw [c, if_neg (by decide), zt_0] at h4
      exact Bool.noConfusion h4
    | true =>
      rw [c, if_pos rfl] at h4
      constructor
      · unfold zf_hasFoe at c
        rw [Bool.and_eq_true, Bool.and_eq_true] at c
        exact c.1.1
      · intro e
        rcases zf_walk_b hk hat _ _ _ _ h4 with e2 | e2
        · rw [zt_0] at e2; exact Bool.noConfusion e2
        · unfold zf_taken at e2
          rw [Bool.or_eq_false_iff, zf_on_any _ _ _ _ (by omega)] at e2
          have : zf_any (fun i => decide (B (109 + i) = nI k)) (zn B) 0 = true := (zf_any_ex _ _ _).mpr ⟨i, h1, h2, decide_eq_true e⟩
          rw [e2.2] at this
          exact Bool.noConfusion this
  · intro a ha
    unfold zf_gd at ha
    rw [Bool.and_eq_true, decide_eq_true_iff] at ha
    exact (zf_rm_wat hN wh hf).mp ha.2
