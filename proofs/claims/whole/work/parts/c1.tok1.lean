/-! the text's TOKENS, as plain functions -/
theorem zf_lo_ge {p : Nat → Bool} : ∀ m n, n ≤ zf_lo p m n ∧ zf_lo p m n ≤ n + m := by
  intro m
  induction m with
  | zero => intro n; exact ⟨Nat.le_refl _, Nat.le_refl _⟩
  | succ m ih =>
    intro n
    rw [zf_lo]
    have := ih (n + 1)
    split <;> omega
theorem zf_lo_p {p : Nat → Bool} : ∀ m n, zf_lo p m n < n + m → p (zf_lo p m n) = true := by
  intro m
  induction m with
  | zero => intro n h; exact absurd h (Nat.lt_irrefl _)
  | succ m ih =>
    intro n h
    rw [zf_lo] at h ⊢
    by_cases c : p n = true
    · rw [if_pos c]; exact c
    · rw [if_neg c] at h ⊢
      exact ih (n + 1) (by omega)
/-- byte i of n, 256 behind the last -/
def zf_c (b : Nat → Nat) (n i : Nat) : Nat := if i < n then b i else 256
def zf_sp (c : Nat) : Bool := decide (c = 32) || decide (c = 10)
def zf_al (c : Nat) : Bool := decide (97 ≤ c) && decide (c ≤ 122)
def zf_dg (c : Nat) : Bool := decide (48 ≤ c) && decide (c ≤ 57)
/-- the class's byte, the model's -/
def zf_cv (c : Nat) : Int32 := if c < 256 then (nI c).toInt8.toInt32 else -1
def zf_mv (c : Nat) : Int32 := if c < 256 then nI c else -1
theorem zf_cv_f : ∀ c : Fin 257, ((zf_cv c.1 = nI 32 ↔ c.1 = 32) ∧ (zf_cv c.1 = nI 10 ↔ c.1 = 10)) ∧ (zf_al c.1 = true → ¬ zf_cv c.1 < nI 97 ∧ ¬ nI 122 < zf_cv c.1 ∧ zf_cv c.1 = nI c.1) ∧ (zf_al c.1 = false → zf_cv c.1 < nI 97 ∨ (¬ zf_cv c.1 < nI 97 ∧ nI 122 < zf_cv c.1)) ∧ (zf_dg c.1 = true → ¬ zf_cv c.1 < nI 48 ∧ ¬ nI 57 < zf_cv c.1 ∧ zf_cv c.1 = nI c.1) ∧ (zf_dg c.1 = false → zf_cv c.1 < nI 48 ∨ (¬ zf_cv c.1 < nI 48 ∧ nI 57 < zf_cv c.1)) := by decide +kernel
theorem zf_mv_f : ∀ c : Fin 257, ((zf_mv c.1 = nI 32 ↔ c.1 = 32) ∧ (zf_mv c.1 = nI 10 ↔ c.1 = 10)) ∧ (zf_al c.1 = true → ¬ zf_mv c.1 < nI 97 ∧ ¬ nI 122 < zf_mv c.1 ∧ zf_mv c.1 = nI c.1) ∧ (zf_al c.1 = false → zf_mv c.1 < nI 97 ∨ (¬ zf_mv c.1 < nI 97 ∧ nI 122 < zf_mv c.1)) ∧ (zf_dg c.1 = true → ¬ zf_mv c.1 < nI 48 ∧ ¬ nI 57 < zf_mv c.1 ∧ zf_mv c.1 = nI c.1) ∧ (zf_dg c.1 = false → zf_mv c.1 < nI 48 ∨ (¬ zf_mv c.1 < nI 48 ∧ nI 57 < zf_mv c.1)) := by decide +kernel
/-- the signs -/
def zf_sgn (c : Nat) : Nat := if zf_lo (fun j => decide (zf_ch 1 j = nI c)) 12 0 < 12 then 40 + zf_lo (fun j => decide (zf_ch 1 j = nI c)) 12 0 else 29
/-- the words: first char and length of each in the texts 2 (model), 0 (class) -/
def zf_km : List (Nat × Nat) := [(1, 6), (8, 6), (15, 5), (21, 2), (24, 4), (29, 8), (38, 6), (45, 4), (50, 2), (53, 5), (59, 4), (64, 3), (68, 4), (73, 2), (76, 3), (80, 3), (84, 5), (90, 4), (95, 2), (98, 3), (102, 3), (106, 1), (108, 1), (110, 4)]
def zf_kc : List (Nat × Nat) := [(0, 6), (7, 6), (14, 4), (19, 8), (28, 6), (35, 5), (41, 4), (46, 4), (51, 5), (57, 2), (60, 4), (65, 2), (68, 3), (72, 2), (75, 3), (79, 3), (83, 5), (89, 4), (94, 2), (97, 3), (101, 3), (105, 1), (107, 1), (109, 4)]
def zf_wl (t : Nat) (q : Nat × Nat) : List Int32 := (List.range q.2).map fun j => zf_ch t (q.1 + j)
/-- the letters from s to f -/
def zf_x (b : Nat → Nat) (s f : Nat) : List Int32 := (List.range (f - s)).map fun j => nI (b (s + j))
def zf_fi (t : Nat) (x : List Int32) : List (Nat × Nat) → Nat → Nat → Nat
  | [], _, no => no
  | q :: r, n, no => if x = zf_wl t q then n else zf_fi t x r (n + 1) no
def zf_wd (b : Nat → Nat) (s f : Nat) : Nat := zf_fi 2 (zf_x b s f) zf_km 0 26
def zf_tkw : List Nat := [200, 201, 208, 209, 202, 203, 204, 210, 211, 205, 206, 212, 207, 213, 214, 215, 216, 217, 218, 219, 220, 221, 222, 223]
/-- a TOKEN of the class for a kind of the model's -/
def zf_tkc (k : Nat) : Int32 := if k < 24 then nI (zf_tkw.getD k 0) else if k = 26 then nI 199 else if k = 27 then nI 2 else if k = 28 then nI 0 else if k = 29 then nI 1 else zf_ch 1 (k - 40)
theorem zf_fi_no {t : Nat} {x : List Int32} : ∀ (l : List (Nat × Nat)) (n no : Nat), (∀ q, q ∈ l → x ≠ zf_wl t q) → zf_fi t x l n no = no := by
  intro l
  induction l with
  | nil => intro n no _; rfl
  | cons q r ih =>
    intro n no h
    rw [zf_fi, if_neg (h q (List.mem_cons_self ..))]
    exact ih (n + 1) no (fun q hq => h q (List.mem_cons_of_mem _ hq))
theorem zf_fi_perm (x : List Int32) : nI (zf_fi 0 x zf_kc 200 199) = zf_tkc (zf_fi 2 x zf_km 0 26) := by
  by_cases h : ∃ q, q ∈ zf_km ∧ x = zf_wl 2 q
  · obtain ⟨q, hq, rfl⟩ := h
    have e : ∀ q, q ∈ zf_km → nI (zf_fi 0 (zf_wl 2 q) zf_kc 200 199) = zf_tkc (zf_fi 2 (zf_wl 2 q) zf_km 0 26) := by decide +kernel
    exact e q hq
  · have n1 : ∀ q, q ∈ zf_km → x ≠ zf_wl 2 q := fun q hq e => h ⟨q, hq, e⟩
    have e : ∀ q, q ∈ zf_kc → ∃ p, p ∈ zf_km ∧ zf_wl 0 q = zf_wl 2 p := by decide +kernel
    have n2 : ∀ q, q ∈ zf_kc → x ≠ zf_wl 0 q := fun q hq w => by
      obtain ⟨p, hp, e2⟩ := e q hq
      exact n1 p hp (w.trans e2)
    rw [zf_fi_no _ _ _ n1, zf_fi_no _ _ _ n2]
    rfl
/-- the word from s to f is this one -/
theorem zf_x_eq {b : Nat → Nat} {s f t : Nat} {q : Nat × Nat} (hf : s ≤ f) : zf_x b s f = zf_wl t q ↔ f = s + q.2 ∧ ∀ j, j < q.2 → nI (b (s + j)) = zf_ch t (q.1 + j) := by
  unfold zf_x zf_wl
  constructor
  · intro e
    have hl := congrArg List.length e
    rw [List.length_map, List.length_map, List.length_range, List.length_range] at hl
    refine ⟨by omega, fun j hj => ?_⟩
    have h2 := congrArg (fun l => l[j]?) e
    simp only [List.getElem?_map, List.getElem?_range (show j < f - s by omega), List.getElem?_range hj, Option.map_some, Option.some.injEq] at h2
    exact h2
  · rintro ⟨e, h⟩
    rw [show f - s = q.2 by omega]
    apply List.map_congr_left
    intro j hj
    exact h j (List.mem_range.mp hj)
/-- the value of the digits from s on -/
def zf_num (b : Nat → Nat) (s : Nat) : Nat → Nat
  | 0 => 0
  | i + 1 => if i < 3 then 10 * zf_num b s i + (b (s + i) - 48) else zf_num b s i
theorem zf_num_lt {b : Nat → Nat} {s f : Nat} (h : ∀ i, s ≤ i → i < f → b i ≤ 57) : ∀ i, s + i ≤ f → (i = 0 → zf_num b s i = 0) ∧ (i = 1 → zf_num b s i ≤ 9) ∧ (i = 2 → zf_num b s i ≤ 99) ∧ zf_num b s i ≤ 999 := by
  intro i
  induction i with
  | zero => intro _; exact ⟨fun _ => rfl, fun e => by omega, fun e => by omega, Nat.zero_le _⟩
  | succ i ih =>
    intro hi
    obtain ⟨a0, a1, a2, a3⟩ := ih (by omega)
    have hb := h (s + i) (by omega) (by omega)
    rw [zf_num]
    by_cases c : i < 3
    · rw [if_pos c]
      rcases (show i = 0 ∨ i = 1 ∨ i = 2 by omega) with q | q | q
      · have := a0 q; omega
      · have := a1 q; omega
      · have := a2 q; omega
    · rw [if_neg c]; omega
/-- the TOKEN from place e on: where it starts, where it ends, its kind, its value -/
def zf_st0 (b : Nat → Nat) (n e : Nat) : Nat := zf_lo (fun i => !zf_sp (zf_c b n i)) (n - e) e
def zf_enw (b : Nat → Nat) (n s : Nat) : Nat := zf_lo (fun i => !zf_al (zf_c b n i)) (n - s) s
def zf_end2 (b : Nat → Nat) (n s : Nat) : Nat := zf_lo (fun i => !zf_dg (zf_c b n i)) (n - s) s
def zf_tk1 (b : Nat → Nat) (n s : Nat) : Nat × Nat × Nat × Nat :=
  if n ≤ s then (s, s, 28, 0)
  else if zf_al (b s) = true then (s, zf_enw b n s, zf_wd b s (zf_enw b n s), 0)
  else if zf_dg (b s) = true then (s, zf_end2 b n s, if 3 < zf_end2 b n s - s then 29 else 27, zf_num b s (zf_end2 b n s - s))
  else (s, s + 1, zf_sgn (b s), 0)
def zf_nx (b : Nat → Nat) (n e : Nat) : Nat × Nat × Nat × Nat := zf_tk1 b n (zf_st0 b n e)
theorem zf_fi_lt {t : Nat} {x : List Int32} : ∀ (l : List (Nat × Nat)) (n no : Nat), zf_fi t x l n no < n + l.length ∨ zf_fi t x l n no = no := by
  intro l
  induction l with
  | nil => intro n no; exact .inr rfl
  | cons q r ih =>
    intro n no
    rw [zf_fi]
    split
    · left; show n < n + (r.length + 1); omega
    · rcases ih (n + 1) no with h | h
      · left; show _ < n + (r.length + 1); omega
      · exact .inr h
/-- what a TOKEN keeps to -/
theorem zf_nx_ok (b : Nat → Nat) {n e : Nat} (he : e ≤ n) : e ≤ (zf_nx b n e).1 ∧ (zf_nx b n e).1 ≤ (zf_nx b n e).2.1 ∧ (zf_nx b n e).2.1 ≤ n ∧ (zf_nx b n e).2.2.1 < 52 ∧ ((zf_nx b n e).2.2.1 = 28 ↔ n ≤ (zf_nx b n e).1) ∧ ((zf_nx b n e).2.2.1 ≠ 28 → (zf_nx b n e).1 < (zf_nx b n e).2.1) ∧ (zf_nx b n e).2.2.2 ≤ 999 := by
  obtain ⟨h1, h2⟩ := zf_lo_ge (p := fun i => !zf_sp (zf_c b n i)) (n - e) e
  unfold zf_nx zf_tk1
  have hs : zf_st0 b n e = zf_lo (fun i => !zf_sp (zf_c b n i)) (n - e) e := rfl
  rw [← hs] at h1 h2
  generalize zf_st0 b n e = s at *
  have e1 : s < n → zf_c b n s = b s := fun h => if_pos h
  by_cases c : n ≤ s
  · rw [if_pos c]
    dsimp only
    exact ⟨h1, Nat.le_refl _, by omega, by decide, ⟨fun _ => c, fun _ => rfl⟩, fun q => absurd rfl q, Nat.zero_le _⟩
  · rw [if_neg c]
    by_cases c1 : zf_al (b s) = true
    · rw [if_pos c1]
      dsimp only
      obtain ⟨g1, g2⟩ := zf_lo_ge (p := fun i => !zf_al (zf_c b n i)) (n - s) s
      have e0 : zf_enw b n s = zf_lo (fun i => !zf_al (zf_c b n i)) (n - s) s := rfl
      rw [← e0] at g1 g2
      have gs : s < zf_enw b n s := by
        unfold zf_enw
        rw [show n - s = (n - s - 1) + 1 by omega, zf_lo, e1 (by omega), c1, if_neg (by decide)]
        have := (zf_lo_ge (p := fun i => !zf_al (zf_c b n i)) (n - s - 1) (s + 1)).1
        omega
      have hw : zf_wd b s (zf_enw b n s) < 24 ∨ zf_wd b s (zf_enw b n s) = 26 := by
        rcases zf_fi_lt (t := 2) (x := zf_x b s (zf_enw b n s)) zf_km 0 26 with q | q
        · left; exact q
        · exact .inr q
      exact ⟨h1, g1, by omega, by omega, ⟨fun q => by omega, fun q => absurd q c⟩, fun _ => gs, Nat.zero_le _⟩
    · rw [if_neg c1]
      by_cases c2 : zf_dg (b s) = true
      · rw [if_pos c2]
        dsimp only
        obtain ⟨g1, g2⟩ := zf_lo_ge (p := fun i => !zf_dg (zf_c b n i)) (n - s) s
        have e0 : zf_end2 b n s = zf_lo (fun i => !zf_dg (zf_c b n i)) (n - s) s := rfl
        rw [← e0] at g1 g2
        have gs : s < zf_end2 b n s := by
          unfold zf_end2
          rw [show n - s = (n - s - 1) + 1 by omega, zf_lo, e1 (by omega), c2, if_neg (by decide)]
          have := (zf_lo_ge (p := fun i => !zf_dg (zf_c b n i)) (n - s - 1) (s + 1)).1
          omega
        have hv := zf_num_lt (b := b) (s := s) (f := zf_end2 b n s) (fun i i1 i2 => by
          have q := zf_lo_lt (p := fun i => !zf_dg (zf_c b n i)) (n - s) s i i1 (by rw [← e0]; exact i2) (by omega)
          have e1 : zf_c b n i = b i := if_pos (by omega)
          rw [e1, Bool.not_eq_false', zf_dg, Bool.and_eq_true, decide_eq_true_iff, decide_eq_true_iff] at q
          exact q.2) (zf_end2 b n s - s) (by omega)
        refine ⟨h1, g1, by omega, ?_, ⟨fun q => ?_, fun q => absurd q c⟩, fun _ => gs, hv.2.2.2⟩
        · split <;> decide
        · split at q <;> omega
      · rw [if_neg c2]
        dsimp only
        have hg : zf_sgn (b s) < 52 ∧ zf_sgn (b s) ≠ 28 := by
          unfold zf_sgn
          split <;> omega
        exact ⟨h1, by omega, by omega, hg.1, ⟨fun q => absurd q hg.2, fun q => absurd q c⟩, fun _ => by omega, Nat.zero_le _⟩
