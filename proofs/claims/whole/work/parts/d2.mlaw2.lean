/-! the plain machine: its steps, and what may be taken as released already -/
def zl_ok (n i : Nat) (T : Nat × Nat × Nat × Nat) : Prop := (T.2.2.1 = 28 ∧ 1 ≤ i) ∨ (T.2.2.1 ≠ 28 ∧ n + 2 ≤ T.2.1 + i)
theorem zl_ok_s {n i : Nat} {T : Nat × Nat × Nat × Nat} (h : zl_ok n i T) (t : zl_tk2 n T) : ∃ j, i = j + 1 := by
  have he := t.1.1
  rcases h with ⟨-, h⟩ | ⟨-, h⟩
  · exact ⟨i - 1, by omega⟩
  · exact ⟨i - 1, by omega⟩
theorem zl_ok_nx {b : Nat → Nat} {n j : Nat} {T : Nat × Nat × Nat × Nat} (h : zl_ok n (j + 1) T) (t : zl_tk2 n T) (h28 : T.2.2.1 ≠ 28) : zl_ok n j (zf_nx b n T.2.1) := by
  have he := t.1.1
  obtain ⟨t2, h2⟩ := zl_tk2_nx b he
  rcases h with ⟨h, -⟩ | ⟨-, h⟩
  · exact absurd h h28
  · by_cases c : (zf_nx b n T.2.1).2.2.1 = 28
    · exact .inl ⟨c, by omega⟩
    · have := t2.2.2.2 c
      exact .inr ⟨c, by omega⟩
theorem zl_run_go {b : Nat → Nat} {n j : Nat} {T : Nat × Nat × Nat × Nat} {C C' : zl_C} (h : zl_step T.2.2.1 T.2.2.2 C = .inr (.inr C')) : zl_run b n (j + 1) T C = zl_run b n j (zf_nx b n T.2.1) C' := by
  rw [zl_run, h]
theorem zl_run_bad {b : Nat → Nat} {n j f : Nat} {T : Nat × Nat × Nat × Nat} {C : zl_C} (h : zl_step T.2.2.1 T.2.2.2 C = .inl f) : zl_run b n (j + 1) T C = .inl (f, T.1) := by
  rw [zl_run, h]
theorem zl_rl_id {b : Nat} {p : List Nat} {ns : Nat} {c : List Nat} (hb : 1 ≤ b) (h : zl_tb p < b) : zl_rl b p ns c = (p, ns, c) := by
  cases p with
  | nil => rfl
  | cons k r => rw [zl_rl, if_pos (show zl_bd k < b from h)]
section SP
variable {st k v ns os ot : Nat} {p : List Nat} {cp : Bool} {c : List Nat}
theorem zl_s_num (hst : st < 2) (h : k = 27) : zl_step k v (st, p, ns, os, ot, cp, c) = .inr (.inr (2, p, ns, os, ot, cp, c ++ [v])) := by
  unfold zl_step zl_opn
  rw [if_pos hst, if_pos h]
theorem zl_s_word (hst : st < 2) (h : 16 ≤ k ∧ k ≤ 23) : zl_step k v (st, p, ns, os, ot, cp, c) = .inr (.inr (2, p, ns, os, ot, cp, c ++ [1000 + (k - 16)])) := by
  unfold zl_step zl_opn
  rw [if_pos hst, if_neg (by omega), if_pos h]
theorem zl_s_45 (hst : st < 2) (h : k = 45) (hn : ns < 6) : zl_step k v (st, p, ns, os, ot, cp, c) = .inr (.inr (1, 45 :: p, ns + 1, os + 1, ot, cp, c)) := by
  subst h
  unfold zl_step zl_opn
  rw [if_pos hst, if_neg (by decide), if_neg (by decide), if_pos (.inl rfl), if_neg (show ¬ 6 ≤ ns by omega)]
  rfl
theorem zl_s_47 (h : k = 47) (hn : ns < 6) : zl_step k v (0, p, ns, os, ot, cp, c) = .inr (.inr (0, 47 :: p, ns + 1, os, ot + 1, cp, c)) := by
  subst h
  unfold zl_step zl_opn
  rw [if_pos (show 0 < 2 by decide), if_neg (by decide), if_neg (by decide), if_pos (.inr ⟨rfl, .inl rfl⟩), if_neg (show ¬ 6 ≤ ns by omega)]
  rfl
theorem zl_s_15 (h : k = 15) (hn : ns < 6) : zl_step k v (0, p, ns, os, ot, cp, c) = .inr (.inr (0, 15 :: p, ns + 1, os, ot, cp, c)) := by
  subst h
  unfold zl_step zl_opn
  rw [if_pos (show 0 < 2 by decide), if_neg (by decide), if_neg (by decide), if_pos (.inr ⟨rfl, .inr rfl⟩), if_neg (show ¬ 6 ≤ ns by omega)]
  rfl
theorem zl_s_6 (hst : st < 2) (h : k = 45 ∨ (st = 0 ∧ (k = 47 ∨ k = 15))) (hn : ns = 6) : zl_step k v (st, p, ns, os, ot, cp, c) = .inl 4 := by
  unfold zl_step zl_opn
  rw [if_pos hst, if_neg (by omega), if_neg (by omega), if_pos h, if_pos (show 6 ≤ ns by omega)]
theorem zl_s_no (hst : st < 2) (h1 : k ≠ 27) (h2 : ¬ (16 ≤ k ∧ k ≤ 23)) (h3 : k ≠ 45) (h4 : st = 1 ∨ (k ≠ 15 ∧ k ≠ 47)) : zl_step k v (st, p, ns, os, ot, cp, c) = .inl (zl_mp k) := by
  unfold zl_step zl_opn
  rw [if_pos hst, if_neg h1, if_neg h2, if_neg (by omega)]
theorem zl_s_op (h : k = 42 ∨ k = 43 ∨ k = 44) (ht : zl_tb p < zl_bd k) : zl_step k v (2, p, ns, os, ot, cp, c) = .inr (.inr (1, k :: p, ns, os, ot, cp, c)) := by
  have hb : 1 ≤ zl_bd k := by rcases h with e | e | e <;> subst e <;> decide
  unfold zl_step zl_beh zl_join
  rw [if_neg (show ¬ 2 < 2 by decide), if_neg (show ¬ (k = 40 ∧ _) from fun e => by omega), if_pos ⟨rfl, h⟩]
  dsimp only
  rw [zl_rl_id hb ht]
theorem zl_s_cmp (h : k = 49 ∨ k = 50 ∨ k = 51) (ht : zl_tb p < 4) : zl_step k v (2, p, ns, 0, ot, false, c) = .inr (.inr (1, k :: p, ns, 0, ot, true, c)) := by
  have hb : zl_bd k = 4 := by rcases h with e | e | e <;> subst e <;> decide
  unfold zl_step zl_beh zl_join
  rw [if_neg (show ¬ 2 < 2 by decide), if_neg (show ¬ (k = 40 ∧ _) from fun e => by omega), if_neg (by omega), if_pos ⟨rfl, h, rfl, rfl⟩]
  dsimp only
  rw [hb, zl_rl_id (by decide) ht]
theorem zl_s_46 (h : k = 46) : zl_step k v (2, 45 :: p, ns + 1, os + 1, ot, cp, c) = .inr (.inr (2, p, ns, os, ot, cp, c)) := by
  unfold zl_step zl_beh zl_close
  rw [if_neg (show ¬ 2 < 2 by decide), if_neg (show ¬ (k = 40 ∧ _) from fun e => by omega), if_neg (by omega), if_neg (fun e => by have := e.2.1; omega), if_pos ⟨rfl, h, by dsimp only; omega⟩]
  rfl
theorem zl_wh_0 {st : Nat} {cp : Bool} (h : st = 3 ∨ (st = 2 ∧ cp = true)) : zl_wh st 0 cp = true := by
  rcases h with e | ⟨e, e2⟩
  · subst e; rfl
  · subst e; subst e2; rfl
theorem zl_s_and (w : st = 3 ∨ (st = 2 ∧ cp = true)) (h : k = 14 ∨ k = 13) (ht : zl_tb p < zl_bd k) : zl_step k v (st, p, ns, 0, ot, cp, c) = .inr (.inr (0, k :: p, ns, 0, ot, false, c)) := by
  have hb : 1 ≤ zl_bd k := by rcases h with e | e <;> subst e <;> decide
  unfold zl_step zl_beh zl_join
  rw [if_neg (show ¬ st < 2 by omega), if_neg (show ¬ (k = 40 ∧ _) from fun e => by omega), if_neg (fun e => by have := e.2; omega), if_neg (fun e => by have := e.2.1; omega), if_neg (fun e => by have := e.2.1; omega), if_pos ⟨zl_wh_0 w, h⟩]
  dsimp only
  rw [zl_rl_id hb ht]
theorem zl_s_48 (w : st = 3 ∨ (st = 2 ∧ cp = true)) (h : k = 48) : zl_step k v (st, 47 :: p, ns + 1, 0, ot + 1, cp, c) = .inr (.inr (3, p, ns, 0, ot, cp, c)) := by
  unfold zl_step zl_beh zl_close
  rw [if_neg (show ¬ st < 2 by omega), if_neg (show ¬ (k = 40 ∧ _) from fun e => by omega), if_neg (fun e => by have := e.2; omega), if_neg (fun e => by have := e.2.1; omega), if_neg (fun e => by have := e.2.1; omega), if_neg (fun e => by have := e.2; omega), if_pos ⟨zl_wh_0 w, h, by dsimp only; omega⟩]
  rfl
/-- behind a sum in open brackets nothing but its end may come -/
theorem zl_s_n1 (h1 : k ≠ 42 ∧ k ≠ 43 ∧ k ≠ 44) (h2 : k ≠ 46) : zl_step k v (2, p, ns, os + 1, ot, cp, c) = .inl (zl_mp k) := by
  have w : zl_wh 2 (os + 1) cp = false := by
    unfold zl_wh
    rw [decide_eq_false (by decide), Bool.false_or, decide_eq_false (show ¬ os + 1 = 0 by omega), Bool.and_false, Bool.and_false]
  unfold zl_step zl_beh
  rw [if_neg (show ¬ 2 < 2 by decide), if_neg (fun e => by rw [w] at e; exact Bool.noConfusion e.2.2), if_neg (by omega), if_neg (fun e => by have := e.2.2.1; dsimp only at this; omega), if_neg (by omega), if_neg (fun e => by rw [w] at e; exact Bool.noConfusion e.1), if_neg (fun e => by rw [w] at e; exact Bool.noConfusion e.1)]
/-- behind the first sum of a unit nothing but a comparison may come -/
theorem zl_s_n2 (h1 : k ≠ 42 ∧ k ≠ 43 ∧ k ≠ 44) (h2 : k ≠ 49 ∧ k ≠ 50 ∧ k ≠ 51) : zl_step k v (2, p, ns, 0, ot, false, c) = .inl (zl_mp k) := by
  have w : zl_wh 2 0 false = false := rfl
  unfold zl_step zl_beh
  rw [if_neg (show ¬ 2 < 2 by decide), if_neg (fun e => by rw [w] at e; exact Bool.noConfusion e.2.2), if_neg (by omega), if_neg (by omega), if_neg (fun e => by have := e.2.2; dsimp only at this; omega), if_neg (fun e => by rw [w] at e; exact Bool.noConfusion e.1), if_neg (fun e => by rw [w] at e; exact Bool.noConfusion e.1)]
/-- behind a truth in open brackets nothing but its end may come -/
theorem zl_s_n3 (w : st = 3 ∨ (st = 2 ∧ cp = true)) (h1 : st = 2 → k ≠ 42 ∧ k ≠ 43 ∧ k ≠ 44) (h2 : k ≠ 13 ∧ k ≠ 14) (h3 : k ≠ 48) : zl_step k v (st, p, ns, 0, ot + 1, cp, c) = .inl (zl_mp k) := by
  unfold zl_step zl_beh
  rw [if_neg (show ¬ st < 2 by omega), if_neg (fun e => by have := e.2.1; dsimp only at this; omega), if_neg (fun e => by have := h1 e.1; omega), if_neg (fun e => by
    rcases w with w | ⟨-, w⟩
    · omega
    · have := e.2.2.2; dsimp only at this; rw [w] at this; exact Bool.noConfusion this), if_neg (fun e => by have := e.2.2; dsimp only at this; omega), if_neg (fun e => by omega), if_neg (fun e => by omega)]
/-- behind the law nothing but a ; may come -/
theorem zl_s_n4 (w : st = 3 ∨ (st = 2 ∧ cp = true)) (h1 : st = 2 → k ≠ 42 ∧ k ≠ 43 ∧ k ≠ 44) (h2 : k ≠ 13 ∧ k ≠ 14) (h3 : k ≠ 40) : zl_step k v (st, p, ns, 0, 0, cp, c) = .inl (zl_mp k) := by
  unfold zl_step zl_beh
  rw [if_neg (show ¬ st < 2 by omega), if_neg (fun e => h3 e.1), if_neg (fun e => by have := h1 e.1; omega), if_neg (fun e => by
    rcases w with w | ⟨-, w⟩
    · omega
    · have := e.2.2.2; dsimp only at this; rw [w] at this; exact Bool.noConfusion this), if_neg (fun e => by have := e.2.2; dsimp only at this; omega), if_neg (fun e => by omega), if_neg (fun e => by have := e.2.2; dsimp only at this; omega)]
theorem zl_s_40 (w : st = 3 ∨ (st = 2 ∧ cp = true)) (h : k = 40) : zl_step k v (st, [], ns, 0, 0, cp, c) = .inr (.inl c) := by
  unfold zl_step
  rw [if_neg (show ¬ st < 2 by omega), if_pos ⟨h, rfl, zl_wh_0 w⟩]
  rfl
/-- an operator on top may be taken as released -/
theorem zl_fl {op : Nat} (hst : 2 ≤ st) (ho : 1 ≤ zl_bd op) (c1 : st = 2 → (k = 44 → 6 ≤ zl_bd op) ∧ (k = 42 ∨ k = 43 → 5 ≤ zl_bd op) ∧ ((k = 49 ∨ k = 50 ∨ k = 51) → os = 0 → cp = false → 4 ≤ zl_bd op)) (c2 : k = 14 → zl_wh st os cp = true → 2 ≤ zl_bd op) : zl_step k v (st, op :: p, ns, os, ot, cp, c) = zl_step k v (st, p, if op = 15 then ns - 1 else ns, os, ot, cp, c ++ [zl_oc op]) := by
  have rl : ∀ b, b ≤ zl_bd op → zl_rl b (op :: p) ns c = zl_rl b p (if op = 15 then ns - 1 else ns) (c ++ [zl_oc op]) := fun b hb => by
    rw [zl_rl, if_neg (by omega)]
  unfold zl_step
  rw [if_neg (show ¬ st < 2 by omega), if_neg (show ¬ st < 2 by omega)]
  dsimp only
  rw [rl 1 ho]
  by_cases a0 : k = 40 ∧ ot = 0 ∧ zl_wh st os cp = true
  · rw [if_pos a0, if_pos a0]
  · rw [if_neg a0, if_neg a0]
    unfold zl_beh zl_join zl_close
    rw [rl 1 ho]
    by_cases a1 : st = 2 ∧ (k = 42 ∨ k = 43 ∨ k = 44)
    · have hb : zl_bd k ≤ zl_bd op := by
        obtain ⟨d1, d2, -⟩ := c1 a1.1
        rcases a1.2 with e | e | e
        · rw [e, show zl_bd 42 = 5 from rfl]; exact d2 (.inl e)
        · rw [e, show zl_bd 43 = 5 from rfl]; exact d2 (.inr e)
        · rw [e, show zl_bd 44 = 6 from rfl]; exact d1 e
      rw [if_pos a1, if_pos a1, rl _ hb]
    · rw [if_neg a1, if_neg a1]
      by_cases a2 : st = 2 ∧ (k = 49 ∨ k = 50 ∨ k = 51) ∧ os = 0 ∧ cp = false
      · have hb : zl_bd k ≤ zl_bd op := by
          have e4 : zl_bd k = 4 := by rcases a2.2.1 with e | e | e <;> subst e <;> decide
          rw [e4]
          exact (c1 a2.1).2.2 a2.2.1 a2.2.2.1 a2.2.2.2
        rw [if_pos a2, if_pos a2, rl _ hb]
      · rw [if_neg a2, if_neg a2]
        by_cases a3 : st = 2 ∧ k = 46 ∧ 0 < os
        · rw [if_pos a3, if_pos a3]
        · rw [if_neg a3, if_neg a3]
          by_cases a4 : zl_wh st os cp = true ∧ (k = 14 ∨ k = 13)
          · have hb : zl_bd k ≤ zl_bd op := by
              rcases a4.2 with e | e
              · rw [e, show zl_bd 14 = 2 from rfl]; exact c2 e a4.1
              · rw [e, show zl_bd 13 = 1 from rfl]; exact ho
            rw [if_pos a4, if_pos a4, rl _ hb]
          · rw [if_neg a4, if_neg a4]
end SP
theorem zl_run_eq {b : Nat → Nat} {n i : Nat} {T : Nat × Nat × Nat × Nat} {C C' : zl_C} (h : zl_step T.2.2.1 T.2.2.2 C = zl_step T.2.2.1 T.2.2.2 C') : zl_run b n i T C = zl_run b n i T C' := by
  cases i with
  | zero => rfl
  | succ i => rw [zl_run, zl_run, h]
/-- the kinds that a code makes of what lies on the reckoner's pile -/
def zf_tyL : List Nat → List Bool → Option (List Bool)
  | [], ts => some ts
  | e :: r, ts =>
    if e < 3000 then (if ts.length < 60 then zf_tyL r (false :: ts) else none)
    else if e = 3008 then (if ts.head? = some true then zf_tyL r ts else none)
    else if ts.take 2 = [decide (3006 ≤ e), decide (3006 ≤ e)] then zf_tyL r (decide (3003 ≤ e) :: ts.drop 2) else none
theorem zf_tyL_app {y : List Nat} {u : List Bool} : ∀ (x : List Nat) (ts : List Bool), zf_tyL x ts = some u → zf_tyL (x ++ y) ts = zf_tyL y u := by
  intro x
  induction x with
  | nil => intro ts h; cases h; rfl
  | cons e r ih =>
    intro ts h
    show zf_tyL (e :: (r ++ y)) ts = _
    rw [zf_tyL] at h ⊢
    by_cases c1 : e < 3000
    · rw [if_pos c1] at h ⊢
      by_cases c2 : ts.length < 60
      · rw [if_pos c2] at h ⊢; exact ih _ h
      · rw [if_neg c2] at h; cases h
    · rw [if_neg c1] at h ⊢
      by_cases c2 : e = 3008
      · rw [if_pos c2] at h ⊢
        by_cases c3 : ts.head? = some true
        · rw [if_pos c3] at h ⊢; exact ih _ h
        · rw [if_neg c3] at h; cases h
      · rw [if_neg c2] at h ⊢
        by_cases c3 : ts.take 2 = [decide (3006 ≤ e), decide (3006 ≤ e)]
        · rw [if_pos c3] at h ⊢; exact ih _ h
        · rw [if_neg c3] at h; cases h
/-- codes of a law -/
def zl_cv (x : List Nat) : Prop := ∀ e, e ∈ x → e < 1008 ∨ (3000 ≤ e ∧ e ≤ 3008)
theorem zl_cv_app {x y : List Nat} (h : zl_cv x) (k : zl_cv y) : zl_cv (x ++ y) := fun e he => (List.mem_append.mp he).elim (h e) (k e)
theorem zl_cv_1 {e : Nat} (h : e < 1008 ∨ (3000 ≤ e ∧ e ≤ 3008)) : zl_cv [e] := fun q hq => by rw [List.mem_singleton.mp hq]; exact h
