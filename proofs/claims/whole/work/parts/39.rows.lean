/-! rows and frames -/
def zw (B : Nat → Int32) : Nat := zf_nat (B 1)
def zh (B : Nat → Int32) : Nat := zf_nat (B 2)
def zn (B : Nat → Int32) : Nat := zf_nat (B 3)
def zl (B : Nat → Int32) : Nat := zf_nat (B 4)
def zo (B : Nat → Int32) : Nat := zf_nat (B 5)
def zt (B : Nat → Int32) : Nat := zf_nat (B 133)
def zk (B : Nat → Int32) : Nat := zf_nat (B 385)
/-- place i of a row -/
def zu1 (B : Nat → Int32) (i : Nat) (v : Int32) : Nat → Int32 := fun j => if j = i then v else B j
/-- the row of cell a -/
def zx_ur (I : zx_MI) (a : Nat) (R : Nat → Int32) : zx_MI := fun b => if b = a then R else I b
theorem zu_r (I : zx_MI) (a i : Nat) (v : Int32) : zx_u I a i v = zx_ur I a (zu1 (I a) i v) := by
  funext b j
  unfold zx_u zx_ur zu1
  by_cases h : b = a
  · subst h
    by_cases h2 : j = i
    · rw [if_pos ⟨rfl, h2⟩, if_pos rfl, if_pos h2]
    · rw [if_neg (fun e => h2 e.2), if_pos rfl, if_neg h2]
  · rw [if_neg (fun e => h e.1), if_neg h]
theorem zr_r (I : zx_MI) (a : Nat) (R R2 : Nat → Int32) : zx_ur (zx_ur I a R) a R2 = zx_ur I a R2 := by
  funext b
  unfold zx_ur
  by_cases h : b = a
  · rw [if_pos h, if_pos h]
  · rw [if_neg h, if_neg h, if_neg h]
theorem zr_s (I : zx_MI) (a : Nat) (R : Nat → Int32) : zx_ur I a R a = R := if_pos rfl
theorem zr_o {I : zx_MI} {a b : Nat} {R : Nat → Int32} (h : b ≠ a) : zx_ur I a R b = I b := if_neg h
theorem zr_id (I : zx_MI) (a : Nat) : zx_ur I a (I a) = I := by
  funext b
  unfold zx_ur
  by_cases h : b = a
  · rw [if_pos h, h]
  · rw [if_neg h]
theorem zu_s {α : Type} (f : Nat → Nat → α) (a j : Nat) (x : α) : zx_u f a j x a j = x := if_pos ⟨rfl, rfl⟩
theorem zu_n {α : Type} {f : Nat → Nat → α} {a b i j : Nat} {x : α} (h : ¬ (b = a ∧ i = j)) : zx_u f a j x b i = f b i := if_neg h
/-- what the model's reckoning may leave behind -/
def zFs (I I2 : zx_MI) : Prop := ∀ a j, ¬ (a = 143 ∨ (a = 138 ∧ (j = 0 ∨ j = 15 ∨ j = 17 ∨ j = 18))) → I2 a j = I a j
/-- the same, and its row -/
def zFm (I I2 : zx_MI) : Prop := ∀ a j, ¬ (a = 139 ∨ a = 143 ∨ (a = 138 ∧ (j = 0 ∨ j = 15 ∨ j = 17 ∨ j = 18))) → I2 a j = I a j
theorem zFs_r (I : zx_MI) : zFs I I := fun _ _ _ => rfl
theorem zFm_r (I : zx_MI) : zFm I I := fun _ _ _ => rfl
theorem zFs_t {I I2 I3 : zx_MI} (h : zFs I I2) (k : zFs I2 I3) : zFs I I3 := fun a j n => (k a j n).trans (h a j n)
theorem zFm_t {I I2 I3 : zx_MI} (h : zFm I I2) (k : zFm I2 I3) : zFm I I3 := fun a j n => (k a j n).trans (h a j n)
theorem zFs_m {I I2 : zx_MI} (h : zFs I I2) : zFm I I2 := fun a j n => h a j (fun e => n (.inr e))
theorem zFs_row {I I2 : zx_MI} (h : zFs I I2) {a : Nat} (ha : a ≠ 143) (hb : a ≠ 138) : I2 a = I a := by
  funext j
  exact h a j (fun e => by omega)
theorem zFm_row {I I2 : zx_MI} (h : zFm I I2) {a : Nat} (ha : a ≠ 143) (hb : a ≠ 138) (hc : a ≠ 139) : I2 a = I a := by
  funext j
  exact h a j (fun e => by omega)
theorem zFs_si {I I2 : zx_MI} (h : zFs I I2) (si : zx_SI I) : zx_SI I2 := fun a j ha => (h a j (fun e => by omega)).trans (si a j ha)
theorem zFm_si {I I2 : zx_MI} (h : zFm I I2) (si : zx_SI I) : zx_SI I2 := fun a j ha => (h a j (fun e => by omega)).trans (si a j ha)
theorem zFs_u (I : zx_MI) (j : Nat) (v : Int32) (h : j = 0 ∨ j = 15 ∨ j = 17 ∨ j = 18) : zFs I (zx_u I 138 j v) := fun a i n => if_neg (fun e => n (.inr ⟨e.1, by omega⟩))
theorem zFm_u (I : zx_MI) (j : Nat) (v : Int32) : zFm I (zx_u I 139 j v) := fun a i n => if_neg (fun e => n (.inl e.1))
/-- no STATUE on a wall, a fountain -/
def zM_exc1 (B : Nat → Int32) : Prop := ∀ k s, k < 64 → s < 8 → ¬ B (45 + k) = nI 0 → ¬ B (109 + s) = nI k
/-- the same, and walls, fountains lie on the square -/
def zM_excl (B : Nat → Int32) : Prop := ∀ k s, k < 64 → s < 8 → ¬ B (45 + k) = nI 0 → k < zw B * zh B ∧ ¬ B (109 + s) = nI k
/-- the row's letters -/
def zM_let (B : Nat → Int32) : Prop := B 4 = nI (zl B) ∧ zl B ≤ 10 ∧ ∀ i, i < zl B → (∃ a, a < 1000 ∧ B (7 + 3 * i) = nI a) ∧ (∃ f, f < 8 ∧ B (7 + 3 * i + 1) = nI f) ∧ zf_opt (B (7 + 3 * i + 2)) 8
/-- the kinds that a code's m signs from k on make of what lies on the pile -/
def zf_ty (cd : Nat → Int32) : Nat → Nat → List Bool → Option (List Bool)
  | 0, _, ts => some ts
  | m + 1, k, ts =>
    if zf_nat (cd k) < 3000 then (if ts.length < 60 then zf_ty cd m (k + 1) (false :: ts) else none)
    else if zf_nat (cd k) = 3008 then (if ts.head? = some true then zf_ty cd m (k + 1) ts else none)
    else if ts.take 2 = [decide (3006 ≤ zf_nat (cd k)), decide (3006 ≤ zf_nat (cd k))] then zf_ty cd m (k + 1) (decide (3003 ≤ zf_nat (cd k)) :: ts.drop 2) else none
theorem zf_hd {ts : List Bool} {b : Bool} (h : ts.head? = some b) : ∃ r, ts = b :: r := by
  cases ts with
  | nil => cases h
  | cons a r => exact ⟨r, by cases h; rfl⟩
theorem zf_tk2 {ts : List Bool} {a b : Bool} (h : ts.take 2 = [a, b]) : ∃ r, ts = a :: b :: r := by
  cases ts with
  | nil => cases h
  | cons x r =>
    cases r with
    | nil => cases h
    | cons y r => exact ⟨r, by cases h; rfl⟩
/-- the row's law -/
def zM_law (B : Nat → Int32) : Prop := B 385 = nI (zk B) ∧ zk B ≤ 900 ∧ (∀ k, k < zk B → B (386 + k) = nI (zf_nat (B (386 + k))) ∧ (zf_nat (B (386 + k)) < 1008 ∨ (3000 ≤ zf_nat (B (386 + k)) ∧ zf_nat (B (386 + k)) ≤ 3008))) ∧ ((zk B = 0 ∧ B 6 = nI 0) ∨ (0 < zk B ∧ B 6 = nI 1 ∧ zf_ty (fun k => B (386 + k)) (zk B) 0 [] = some [true]))
/-- all that a row of the model keeps to; its NIGHT is m at most -/
def zV (B : Nat → Int32) (m : Nat) : Prop := zM_ok B (zw B) (zh B) (zn B) ∧ zM_ground B ∧ zM_excl B ∧ zM_snow B (zo B) ∧ zM_let B ∧ zM_law B ∧ B 133 = nI (zt B) ∧ zt B ≤ m
/-- sign c of the class's code for sign e of the model's -/
def zf_tc (e : Nat) : Int32 := if e < 1000 then nI e else if e < 3000 then 0 - nI (216 + (e - 1000)) else if e = 3008 then 0 - nI 215 else 0 - nI (zf_tok (e - 3000))
/-- the square in cell S is that of the row B -/
def zR_sq (I : zx_MI) (J : zx_MJ) (S : Nat) (B : Nat → Int32) : Prop := I S 6 = B 1 ∧ I S 7 = B 2 ∧ I S 8 = B 3 ∧ I S 9 = B 0 ∧ I S 10 = B 4 ∧ zR_ground J S B ∧ zR_snow I S B (zo B) ∧ (∀ i, i < zl B → I (S + 5) i = B (7 + 3 * i) ∧ I (S + 6) i = B (7 + 3 * i + 1) ∧ I (S + 7) i = B (7 + 3 * i + 2)) ∧ I (S + 1) 3 = nI (zk B) ∧ ∀ k, k < zk B → I (S + 2) k = zf_tc (zf_nat (B (386 + k)))
/-- rows alike but for the STATUES and the NIGHT -/
def zSm (B B2 : Nat → Int32) : Prop := ∀ j, ¬ (109 ≤ j ∧ j < 134) → B2 j = B j
theorem zSm_r (B : Nat → Int32) : zSm B B := fun _ _ => rfl
theorem zSm_t {B B2 B3 : Nat → Int32} (h : zSm B B2) (k : zSm B2 B3) : zSm B B3 := fun j n => (k j n).trans (h j n)
theorem zSm_k {B B2 : Nat → Int32} (h : zSm B B2) : zw B2 = zw B ∧ zh B2 = zh B ∧ zn B2 = zn B ∧ zl B2 = zl B ∧ zo B2 = zo B ∧ zk B2 = zk B := by
  unfold zw zh zn zl zo zk
  rw [h 1 (by omega), h 2 (by omega), h 3 (by omega), h 4 (by omega), h 5 (by omega), h 385 (by omega)]
  exact ⟨rfl, rfl, rfl, rfl, rfl, rfl⟩
theorem zSm_u {B : Nat → Int32} {i : Nat} {v : Int32} (h : 109 ≤ i ∧ i < 134) : zSm B (zu1 B i v) := fun j n => if_neg (fun e : j = i => n (e.symm ▸ h))
theorem zSm_sq {I : zx_MI} {J : zx_MJ} {S : Nat} {B B2 : Nat → Int32} (h : zSm B B2) (hl : zl B ≤ 10) (ho : zo B ≤ 4) (r : zR_sq I J S B) : zR_sq I J S B2 := by
  obtain ⟨e1, e2, e3, e4, e5, e6⟩ := zSm_k h
  obtain ⟨r1, r2, r3, r4, r5, r6, r7, r8, r9, r10⟩ := r
  unfold zR_sq zR_ground zR_snow
  rw [e4, e5, e6]
  rw [h 1 (by omega), h 2 (by omega), h 3 (by omega), h 0 (by omega), h 4 (by omega)]
  refine ⟨r1, r2, r3, r4, r5, fun k hk => ?_, ⟨?_, fun i hi => ?_⟩, fun i hi => ?_, r9, fun k hk => ?_⟩
  · rw [h (45 + k) (by omega)]; exact r6 k hk
  · rw [h 5 (by omega)]; exact r7.1
  · rw [h (37 + 2 * i) (by omega), h (37 + 2 * i + 1) (by omega)]; exact r7.2 i hi
  · rw [h (7 + 3 * i) (by omega), h (7 + 3 * i + 1) (by omega), h (7 + 3 * i + 2) (by omega)]; exact r8 i hi
  · rw [h (386 + k) (by omega)]; exact r10 k hk
theorem zSm_law {B B2 : Nat → Int32} (h : zSm B B2) (r : zM_law B) : zM_law B2 := by
  obtain ⟨e1, e2, e3, e4, e5, e6⟩ := zSm_k h
  unfold zM_law at r ⊢
  have e : (fun k => B2 (386 + k)) = fun k => B (386 + k) := by
    funext k
    exact h _ (by omega)
  rw [e6, h 385 (by omega), h 6 (by omega), e]
  obtain ⟨r1, r2, r3, r4⟩ := r
  refine ⟨r1, r2, fun k hk => ?_, r4⟩
  rw [h (386 + k) (by omega)]; exact r3 k hk
theorem zSm_let {B B2 : Nat → Int32} (h : zSm B B2) (r : zM_let B) : zM_let B2 := by
  obtain ⟨e1, e2, e3, e4, e5, e6⟩ := zSm_k h
  unfold zM_let at r ⊢
  obtain ⟨r1, r2, r3⟩ := r
  rw [e4, h 4 (by omega)]
  refine ⟨r1, r2, fun i hi => ?_⟩
  rw [h (7 + 3 * i) (by omega), h (7 + 3 * i + 1) (by omega), h (7 + 3 * i + 2) (by omega)]; exact r3 i hi
theorem zSm_snow {B B2 : Nat → Int32} (h : zSm B B2) (r : zM_snow B (zo B)) : zM_snow B2 (zo B2) := by
  obtain ⟨e1, e2, e3, e4, e5, e6⟩ := zSm_k h
  rw [e5]
  unfold zM_snow at r ⊢
  obtain ⟨r1, r2, r3⟩ := r
  rw [h 5 (by omega)]
  refine ⟨r1, r2, fun i hi => ?_⟩
  rw [h (37 + 2 * i) (by omega), h (37 + 2 * i + 1) (by omega)]; exact r3 i hi
theorem zSm_ground {B B2 : Nat → Int32} (h : zSm B B2) (r : zM_ground B) : zM_ground B2 := by
  intro k hk
  rw [h (45 + k) (by omega)]; exact r k hk
/-- what is left to show of a row that differs in its STATUES and its NIGHT -/
theorem zV_of {B B2 : Nat → Int32} {m m2 : Nat} (v : zV B m) (h : zSm B B2) (h1 : ∀ s, s < 8 → zf_opt (B2 (109 + s)) (zw B * zh B) ∧ zf_opt (B2 (125 + s)) 8 ∧ (∃ k, k < 8 ∧ B2 (117 + s) = nI k) ∧ (zn B ≤ s → B2 (109 + s) = -1)) (h2 : zM_exc1 B2) (h3 : B2 133 = nI (zt B2)) (h4 : zt B2 ≤ m2) : zV B2 m2 := by
  obtain ⟨e1, e2, e3, e4, e5, e6⟩ := zSm_k h
  obtain ⟨v1, v2, v3, v4, v5, v6, v7, v8⟩ := v
  refine ⟨?_, zSm_ground h v2, fun k s hk hs hne => ⟨?_, h2 k s hk hs hne⟩, zSm_snow h v4, zSm_let h v5, zSm_law h v6, h3, h4⟩
  case refine_2 =>
    rw [e1, e2]
    rw [h (45 + k) (by omega)] at hne
    exact (v3 k s hk hs hne).1
  rw [e1, e2, e3]
  refine ⟨?_, h1⟩
  rw [h 1 (by omega), h 2 (by omega), h 3 (by omega)]
  exact v1.1
theorem zR_sq_f {I I2 : zx_MI} {J J2 : zx_MJ} {S : Nat} {B : Nat → Int32} (r : zR_sq I J S B) (h : ∀ a j, S ≤ a → a ≤ S + 9 → a ≠ S + 3 → a ≠ S + 4 → I2 a j = I a j) (hJ : ∀ j, J2 S j = J S j) : zR_sq I2 J2 S B := by
  obtain ⟨r1, r2, r3, r4, r5, r6, r7, r8, r9, r10⟩ := r
  unfold zR_sq zR_ground zR_snow
  rw [h S _ (by omega) (by omega) (by omega) (by omega), h S _ (by omega) (by omega) (by omega) (by omega), h S _ (by omega) (by omega) (by omega) (by omega), h S _ (by omega) (by omega) (by omega) (by omega), h S _ (by omega) (by omega) (by omega) (by omega), h S _ (by omega) (by omega) (by omega) (by omega), h (S + 1) _ (by omega) (by omega) (by omega) (by omega), hJ, hJ]
  refine ⟨r1, r2, r3, r4, r5, r6, ⟨r7.1, fun i hi => ?_⟩, fun i hi => ?_, r9, fun k hk => ?_⟩
  · rw [h (S + 8) _ (by omega) (by omega) (by omega) (by omega), h (S + 9) _ (by omega) (by omega) (by omega) (by omega)]; exact r7.2 i hi
  · rw [h (S + 5) _ (by omega) (by omega) (by omega) (by omega), h (S + 6) _ (by omega) (by omega) (by omega) (by omega), h (S + 7) _ (by omega) (by omega) (by omega) (by omega)]; exact r8 i hi
  · rw [h (S + 2) _ (by omega) (by omega) (by omega) (by omega)]; exact r10 k hk
theorem zR_st_f {I I2 : zx_MI} {T : Nat} {B : Nat → Int32} (r : zR_st I T B) (h : ∀ a j, T ≤ a → a ≤ T + 3 → I2 a j = I a j) : zR_st I2 T B := by
  obtain ⟨r1, r2⟩ := r
  refine ⟨(h T 3 (by omega) (by omega)).trans r1, fun s hs => ?_⟩
  rw [h (T + 1) s (by omega) (by omega), h (T + 2) s (by omega) (by omega), h (T + 3) s (by omega) (by omega)]
  exact r2 s hs
/-- what the class's nights may change: the law's pile and what it is given, and the STAND in cell T -/
def zFc (T : Nat) (I I2 : zx_MI) : Prop := ∀ a j, ¬ (a = 4 ∨ a = 5 ∨ a = T + 1 ∨ a = T + 2 ∨ a = T + 3 ∨ (a = T ∧ j = 3)) → I2 a j = I a j
theorem zFc_r (T : Nat) (I : zx_MI) : zFc T I I := fun _ _ _ => rfl
theorem zFc_t {T : Nat} {I I2 I3 : zx_MI} (h : zFc T I I2) (k : zFc T I2 I3) : zFc T I I3 := fun a j n => (k a j n).trans (h a j n)
theorem zFc_sq {T : Nat} {I I2 : zx_MI} {J : zx_MJ} {B : Nat → Int32} (hT : zx_st T) (h : zFc T I I2) (r : zR_sq I J 1 B) : zR_sq I2 J 1 B := zR_sq_f r (fun a j h1 h2 h3 h4 => h a j (by have := zT_r hT; omega)) (fun _ => rfl)
theorem zFc_st {T U : Nat} {I I2 : zx_MI} {B : Nat → Int32} (hT : zx_st T) (hU : zx_st U) (hn : T ≠ U) (h : zFc T I I2) (r : zR_st I U B) : zR_st I2 U B := zR_st_f r (fun a j h1 h2 => h a j (by have := zT_r hT; have := zT_r hU; have := zT_n hT hU hn; omega))
theorem zFc_si {T : Nat} {I I2 : zx_MI} (hT : zx_st T) (h : zFc T I I2) (si : zx_SI I) : zx_SI I2 := fun a j ha => (h a j (by have := zT_r hT; omega)).trans (si a j ha)
theorem zFc_m {T : Nat} {I I2 : zx_MI} (hT : zx_st T) (h : zFc T I I2) {a : Nat} (ha : 138 ≤ a) : I2 a = I a := by
  funext j
  exact h a j (by have := zT_r hT; omega)
