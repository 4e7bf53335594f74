/-! rings -/
def zf_foeN (B : Nat → Int32) (s : Nat) : Nat := zf_nat (B (125 + s))
def zf_fp (B : Nat → Int32) : Nat → Nat → Nat
  | 0, s => s
  | i + 1, s => zf_foeN B (zf_fp B i s)
def zf_rlL (B : Nat → Int32) (s : Nat) : Nat → Nat → Int32 → Nat
  | 0, _, _ => 0
  | mm + 1, n, x => if zf_st (fun k => B (109 + k)) x = true then (if B (125 + zf_nat x) = nI s then n else zf_rlL B s mm (n + 1) (B (125 + zf_nat x))) else 0
/-- how many the RING of a STATUE has, as the class goes round -/
def zf_rl (B : Nat → Int32) (s : Nat) : Nat := zf_rlL B s 8 1 (nI s)
def zf_raL (B : Nat → Int32) (s : Nat) : Nat → Nat → Nat → Nat
  | 0, S, x => if x = s then S else 0
  | f + 1, S, x => if zf_hasFoe B x = true ∧ S.testBit x = false then zf_raL B s f (S ||| 2 ^ x) (zf_foeN B x) else if x = s then S else 0
/-- the RING of a STATUE, as the model goes round -/
def zf_ra (B : Nat → Int32) (s : Nat) : Nat := zf_raL B s 8 0 s
def zf_c8 (S : Nat) : Nat := zf_cnt S.testBit 8 0
theorem zf_c8_add {S x : Nat} (hS : S < 256) (hx : x < 8) (h : S.testBit x = false) : zf_c8 (S ||| 2 ^ x) = zf_c8 S + 1 ∧ (S ||| 2 ^ x) < 256 := by
  have q : ∀ S : Fin 256, ∀ x : Fin 8, S.1.testBit x.1 = false → zf_c8 (S.1 ||| 2 ^ x.1) = zf_c8 S.1 + 1 ∧ (S.1 ||| 2 ^ x.1) < 256 := by decide +kernel
  exact q ⟨S, hS⟩ ⟨x, hx⟩ h
theorem zf_c8_full {S x : Nat} (hS : S < 256) (hx : x < 8) (h : zf_c8 S = 8) : S.testBit x = true := by
  have q : ∀ S : Fin 256, ∀ x : Fin 8, zf_c8 S.1 = 8 → S.1.testBit x.1 = true := by decide +kernel
  exact q ⟨S, hS⟩ ⟨x, hx⟩ h
theorem zf_c8_0 {S : Nat} (hS : S < 256) (h : zf_c8 S = 0) : S = 0 := by
  have q : ∀ S : Fin 256, zf_c8 S.1 = 0 → S.1 = 0 := by decide +kernel
  exact q ⟨S, hS⟩ h
section RG
variable {B : Nat → Int32} {w h N : Nat}
theorem zf_hf (ok : zM_ok B w h N) {x : Nat} (hx : x < 8) (hf : zf_hasFoe B x = true) : ∃ f, f < 8 ∧ B (125 + x) = nI f ∧ zf_foeN B x = f ∧ ¬ B (109 + x) = -1 ∧ ¬ B (109 + f) = -1 := by
  obtain ⟨f, p, q, hf8, hp, hq, e1, e2, e3⟩ := zM_hasFoe ok hx hf
  have hwh : w * h ≤ 64 := Nat.mul_le_mul ok.1.2.2.2.1 ok.1.2.2.2.2.1
  refine ⟨f, hf8, e1, by unfold zf_foeN; rw [e1]; exact nI_clamp (by omega), ?_, ?_⟩
  · rw [e2, zq_m1 (by omega)]; exact fun x => x
  · rw [e3, zq_m1 (by omega)]; exact fun x => x
theorem zf_st_nI {x : Nat} (hx : x < 8) : zf_st (fun k => B (109 + k)) (nI x) = !decide (B (109 + x) = -1) := by
  unfold zf_st
  rw [decide_eq_false (by rw [zq_m1 (by omega)]; exact fun x => x), nI_clamp (by omega)]
  rfl
theorem zf_st_m1 : zf_st (fun k => B (109 + k)) (-1) = false := by
  unfold zf_st
  rw [decide_eq_true rfl]; rfl
theorem ring_D (ok : zM_ok B w h N) {s S : Nat} (hs : s < 8) (hc : ∀ y, y < 8 → S.testBit y = true → zf_hasFoe B y = true ∧ zf_foeN B y ≠ s ∧ S.testBit (zf_foeN B y) = true) : ∀ mm n y, y < 8 → S.testBit y = true → zf_rlL B s mm n (nI y) = 0 := by
  intro mm
  induction mm with
  | zero => intro n y _ _; rfl
  | succ mm ih =>
    intro n y hy hb
    obtain ⟨c1, c2, c3⟩ := hc y hy hb
    obtain ⟨f, f8, e1, e2, e3, e4⟩ := zf_hf ok hy c1
    rw [e2] at c2 c3
    rw [zf_rlL, zf_st_nI hy, decide_eq_false e3, show (!false) = true from rfl, if_pos rfl, show zf_nat (nI y) = y from nI_clamp (by omega), e1, if_neg (fun e => c2 ((nI_eq (by omega) (by omega)).mp e))]
    exact ih (n + 1) f f8 c3
theorem ring_sim (ok : zM_ok B w h N) {s : Nat} (hs : s < 8) : ∀ mm i S x, i + mm = 8 → S < 256 → zf_c8 S = i → x < 8 → x = zf_fp B i s → (∀ j, j < i → zf_hasFoe B (zf_fp B j s) = true) → (∀ y, y < 8 → (S.testBit y = true ↔ ∃ j, j < i ∧ y = zf_fp B j s)) → (∀ j, 1 ≤ j → j ≤ i → zf_fp B j s ≠ s) →
    (zf_raL B s mm S x = 0 ∧ zf_rlL B s mm (i + 1) (nI x) = 0) ∨ ∃ n, 1 ≤ n ∧ n ≤ 8 ∧ zf_rlL B s mm (i + 1) (nI x) = n ∧ zf_c8 (zf_raL B s mm S x) = n ∧ zf_raL B s mm S x < 256 ∧ zf_fp B n s = s ∧ (∀ j, j < n → zf_hasFoe B (zf_fp B j s) = true) ∧ ∀ y, y < 8 → ((zf_raL B s mm S x).testBit y = true ↔ ∃ j, j < n ∧ y = zf_fp B j s) := by
  intro mm
  induction mm with
  | zero =>
    intro i S x hi hS hc hx ex hf hb hne
    left
    have := hne i (by omega) (by omega)
    rw [← ex] at this
    exact ⟨if_neg this, rfl⟩
  | succ mm ih =>
    intro i S x hi hS hc hx ex hf hb hne
    by_cases c1 : zf_hasFoe B x = true
    · obtain ⟨f, f8, e1, e2, e3, e4⟩ := zf_hf ok hx c1
      cases c2 : S.testBit x with
      | true =>
        left
        obtain ⟨j, hj, ej⟩ := (hb x hx).mp c2
        have hxs : x ≠ s := by rw [ex]; exact hne i (by omega) (by omega)
        refine ⟨?_, ?_⟩
        · rw [zf_raL, c2, if_neg (fun e => Bool.noConfusion e.2), if_neg hxs]
        · refine ring_D ok hs (S := S) (fun y hy hby => ?_) (mm + 1) (i + 1) x hx c2
          obtain ⟨j2, hj2, ej2⟩ := (hb y hy).mp hby
          have hfy := hf j2 hj2
          rw [← ej2] at hfy
          obtain ⟨g, g8, -, eg, -, -⟩ := zf_hf ok hy hfy
          have es : zf_foeN B y = zf_fp B (j2 + 1) s := by rw [ej2]; rfl
          refine ⟨hfy, ?_, ?_⟩
          · rw [es]; exact hne (j2 + 1) (by omega) (by omega)
          · by_cases q : j2 + 1 < i
            · exact (hb _ (by rw [eg]; exact g8)).mpr ⟨j2 + 1, q, es⟩
            · rw [es, show j2 + 1 = i by omega, ← ex]; exact c2
      | false =>
        obtain ⟨d1, d2⟩ := zf_c8_add hS hx c2
        have hb2 : ∀ y, y < 8 → ((S ||| 2 ^ x).testBit y = true ↔ ∃ j, j < i + 1 ∧ y = zf_fp B j s) := by
          intro y hy
          rw [Nat.testBit_or, Bool.or_eq_true, hb y hy]
          constructor
          · rintro (⟨j, h1, h2⟩ | h1)
            · exact ⟨j, by omega, h2⟩
            · by_cases q : y = x
              · exact ⟨i, by omega, by rw [q, ex]⟩
              · rw [Nat.testBit_two_pow_of_ne (by omega)] at h1
                exact Bool.noConfusion h1
          · rintro ⟨j, h1, h2⟩
            by_cases q : j = i
            · right
              rw [h2, q, ← ex, Nat.testBit_two_pow_self]
            · exact .inl ⟨j, by omega, h2⟩
        have hf2 : ∀ j, j < i + 1 → zf_hasFoe B (zf_fp B j s) = true := by
          intro j hj
          by_cases q : j = i
          · rw [q, ← ex]; exact c1
          · exact hf j (by omega)
        have ef : f = zf_fp B (i + 1) s := by rw [← e2, ex]; rfl
        have r1 : zf_raL B s (mm + 1) S x = zf_raL B s mm (S ||| 2 ^ x) f := by rw [zf_raL, if_pos ⟨c1, c2⟩, e2]
        have r2 : zf_rlL B s (mm + 1) (i + 1) (nI x) = if nI f = nI s then i + 1 else zf_rlL B s mm (i + 2) (nI f) := by
          rw [zf_rlL, zf_st_nI hx, decide_eq_false e3, show (!false) = true from rfl, if_pos rfl, show zf_nat (nI x) = x from nI_clamp (by omega), e1]
        rw [r1, r2]
        by_cases q : f = s
        · right
          have hbs : (S ||| 2 ^ x).testBit s = true := (hb2 s hs).mpr ⟨0, by omega, rfl⟩
          have r3 : zf_raL B s mm (S ||| 2 ^ x) f = (S ||| 2 ^ x) := by
            rw [q]
            cases mm with
            | zero => exact if_pos rfl
            | succ k => rw [zf_raL, hbs, if_neg (fun e => Bool.noConfusion e.2), if_pos rfl]
          rw [r3, q, if_pos rfl]
          exact ⟨i + 1, by omega, by omega, rfl, by rw [d1, hc], d2, by rw [← ef, q], hf2, hb2⟩
        · rw [if_neg (fun e => q ((nI_eq (by omega) (by omega)).mp e))]
          refine ih (i + 1) (S ||| 2 ^ x) f (by omega) d2 (by rw [d1, hc]) f8 ef hf2 hb2 (fun j h1 h2 => ?_)
          by_cases q2 : j = i + 1
          · rw [q2, ← ef]; exact q
          · exact hne j h1 (by omega)
    · left
      refine ⟨?_, ?_⟩
      · rw [zf_raL, if_neg (fun e => c1 e.1)]
        by_cases q : x = s
        · rw [if_pos q]
          have i0 : i = 0 := by
            rcases Nat.eq_zero_or_pos i with z | z
            · exact z
            · exact absurd (ex.symm.trans q) (hne i z (Nat.le_refl _))
          exact zf_c8_0 hS (by omega)
        · rw [if_neg q]
      · rw [zf_rlL, zf_st_nI hx]
        by_cases c2 : B (109 + x) = -1
        · rw [decide_eq_true c2]; rfl
        · rw [decide_eq_false c2, show (!false) = true from rfl, if_pos rfl, show zf_nat (nI x) = x from nI_clamp (by omega)]
          have stS : ¬ B (109 + s) = -1 := by
            rcases Nat.eq_zero_or_pos i with z | z
            · rw [z] at ex; rw [← show x = s from ex]; exact c2
            · obtain ⟨g, -, -, -, g3, -⟩ := zf_hf ok hs (hf 0 z)
              exact g3
          have nofoe : ∀ f, f < 8 → B (125 + x) = nI f → B (109 + f) = -1 := by
            intro f f8 e1
            by_cases c3 : B (109 + f) = -1
            · exact c3
            · exfalso
              apply c1
              unfold zf_hasFoe
              rw [e1, nI_clamp (by omega), decide_eq_false c2, decide_eq_false c3, decide_eq_false (by rw [zq_m1 (by omega)]; exact fun x => x)]
              rfl
          rw [if_neg (fun e => stS (nofoe s hs e))]
          cases mm with
          | zero => rfl
          | succ k =>
            rw [zf_rlL]
            rcases (ok.2 x hx).2.1 with e | ⟨f, f8, e⟩
            · rw [e, zf_st_m1]; rfl
            · rw [e, zf_st_nI f8, decide_eq_true (nofoe f f8 e)]; rfl
theorem ring_s (ok : zM_ok B w h N) {s : Nat} (hs : s < 8) : (zf_ra B s = 0 ∧ zf_rl B s = 0) ∨ ∃ n, 1 ≤ n ∧ n ≤ 8 ∧ zf_rl B s = n ∧ zf_c8 (zf_ra B s) = n ∧ zf_ra B s < 256 ∧ zf_fp B n s = s ∧ (∀ j, j < n → zf_hasFoe B (zf_fp B j s) = true) ∧ ∀ y, y < 8 → ((zf_ra B s).testBit y = true ↔ ∃ j, j < n ∧ y = zf_fp B j s) :=
  ring_sim ok hs 8 0 0 s rfl (by decide) rfl hs rfl (fun j hj => absurd hj (Nat.not_lt_zero j)) (fun y _ => ⟨fun e => by rw [Nat.zero_testBit] at e; exact Bool.noConfusion e, fun ⟨j, hj, _⟩ => absurd hj (Nat.not_lt_zero j)⟩) (fun j h1 h2 => by omega)
theorem ring_rl (ok : zM_ok B w h N) {t : Nat} (ht : t < 8) {n : Nat} (hn : zf_fp B n t = t) (hall : ∀ i, zf_hasFoe B (zf_fp B i t) = true ∧ zf_fp B i t < 8) : ∀ mm i, i < n → n ≤ i + mm → 0 < zf_rlL B t mm (i + 1) (nI (zf_fp B i t)) := by
  intro mm
  induction mm with
  | zero => intro i h1 h2; omega
  | succ mm ih =>
    intro i h1 h2
    obtain ⟨a1, a2⟩ := hall i
    obtain ⟨f, f8, e1, e2, e3, e4⟩ := zf_hf ok a2 a1
    rw [zf_rlL, zf_st_nI a2, decide_eq_false e3, show (!false) = true from rfl, if_pos rfl, show zf_nat (nI (zf_fp B i t)) = zf_fp B i t from nI_clamp (by omega), e1]
    by_cases q : f = t
    · rw [q, if_pos rfl]; omega
    · rw [if_neg (fun e => q ((nI_eq (by omega) (by omega)).mp e))]
      have ef : f = zf_fp B (i + 1) t := by rw [← e2]; rfl
      rw [ef]
      refine ih (i + 1) ?_ (by omega)
      rcases Nat.lt_or_ge (i + 1) n with z | z
      · exact z
      · exact absurd ((ef.trans (by rw [show i + 1 = n by omega])).trans hn) q
theorem zf_fp_add (a b s : Nat) : zf_fp B (a + b) s = zf_fp B a (zf_fp B b s) := by
  induction a with
  | zero => rw [Nat.zero_add]; rfl
  | succ a ih => rw [show a + 1 + b = (a + b) + 1 by omega, zf_fp, ih]; rfl
/-- one in the RING of another is in one -/
theorem ring_in (ok : zM_ok B w h N) {s t : Nat} (hs : s < 8) (ht : t < 8) (hb : (zf_ra B s).testBit t = true) : 0 < zf_rl B t ∧ zf_hasFoe B t = true := by
  rcases ring_s ok hs with ⟨e, -⟩ | ⟨n, n1, n8, -, -, -, hp, hf, hy⟩
  · rw [e, Nat.zero_testBit] at hb
    exact Bool.noConfusion hb
  · obtain ⟨j, hj, ej⟩ := (hy t ht).mp hb
    have per : ∀ k, ∃ r, r < n ∧ zf_fp B k s = zf_fp B r s := by
      intro k
      induction k with
      | zero => exact ⟨0, by omega, rfl⟩
      | succ k ih =>
        obtain ⟨r, hr, er⟩ := ih
        by_cases q : r + 1 < n
        · exact ⟨r + 1, q, by show zf_foeN B (zf_fp B k s) = zf_foeN B (zf_fp B r s); rw [er]⟩
        · refine ⟨0, by omega, ?_⟩
          show zf_foeN B (zf_fp B k s) = s
          rw [er]
          show zf_fp B (r + 1) s = s
          rw [show r + 1 = n by omega]
          exact hp
    have l8 : ∀ j, j < n → zf_fp B j s < 8 := by
      intro j
      induction j with
      | zero => intro _; exact hs
      | succ j ih =>
        intro hj
        obtain ⟨f, f8, -, e2, -⟩ := zf_hf ok (ih (by omega)) (hf j (by omega))
        show zf_foeN B (zf_fp B j s) < 8
        rw [e2]; exact f8
    have all : ∀ k, zf_hasFoe B (zf_fp B k s) = true ∧ zf_fp B k s < 8 := by
      intro k
      obtain ⟨r, hr, er⟩ := per k
      rw [er]
      exact ⟨hf r hr, l8 r hr⟩
    have hn2 : zf_fp B n t = t := by
      rw [ej, ← zf_fp_add, Nat.add_comm, zf_fp_add, hp]
    refine ⟨ring_rl ok ht hn2 (fun i => ?_) 8 0 (by omega) (by omega), ?_⟩
    · rw [ej, ← zf_fp_add]; exact all _
    · rw [ej]; exact hf j hj
theorem ring_self (ok : zM_ok B w h N) {s : Nat} (hs : s < 8) (h0 : 0 < zf_rl B s) : (zf_ra B s).testBit s = true := by
  rcases ring_s ok hs with ⟨-, e⟩ | ⟨n, n1, -, -, -, -, -, -, hy⟩
  · omega
  · exact (hy s hs).mpr ⟨0, by omega, rfl⟩
theorem ring_cnt (ok : zM_ok B w h N) {s : Nat} (hs : s < 8) : zf_cnt (zf_ra B s).testBit 64 0 = zf_rl B s ∧ zf_ra B s < 256 := by
  rcases ring_s ok hs with ⟨e1, e2⟩ | ⟨n, n1, n8, e1, e2, e3, -⟩
  · rw [e1, e2]; exact ⟨by decide +kernel, by decide⟩
  · refine ⟨?_, e3⟩
    rw [e1, ← e2, show 64 = 8 + 56 from rfl, zf_cnt_add, zf_cnt_0 _ 56 _ (fun j h1 h2 => Nat.testBit_lt_two_pow (Nat.lt_of_lt_of_le e3 (Nat.pow_le_pow_right (n := 2) (by decide) (show 8 ≤ j by omega))))]
    rfl
def zf_orN (f : Nat → Nat) : Nat → Nat → Nat → Nat
  | 0, _, a => a
  | m + 1, s, a => zf_orN f m (s + 1) (a ||| f s)
theorem zf_orN_bit (f : Nat → Nat) (j m s a : Nat) : (zf_orN f m s a).testBit j = (a.testBit j || zf_any (fun i => (f i).testBit j) m s) := by
  induction m generalizing s a with
  | zero => rw [zf_orN, zf_any, Bool.or_false]
  | succ m ih => rw [zf_orN, ih, zf_any, Nat.testBit_or, Bool.or_assoc]
theorem rings_eq (ok : zM_ok B w h N) : zf_orN (zf_ra B) N 0 0 = zf_bs (fun s => decide (0 < zf_rl B s)) N 0 0 := by
  have N8 : N ≤ 8 := ok.1.2.2.2.2.2
  apply Nat.eq_of_testBit_eq
  intro j
  rw [zf_orN_bit, zf_bs_bit, Nat.zero_testBit, Bool.false_or, Bool.false_or, decide_eq_true (Nat.zero_le j), Bool.true_and, Nat.zero_add]
  by_cases hj : j < 8
  · cases c : zf_any (fun i => (zf_ra B i).testBit j) N 0 with
    | true =>
      obtain ⟨i, -, hi, hb⟩ := (zf_any_ex _ _ _).mp c
      obtain ⟨r1, r2⟩ := ring_in ok (by omega) hj hb
      have hjN : j < N := by
        rcases Nat.lt_or_ge j N with z | z
        · exact z
        · obtain ⟨f, -, -, -, g, -⟩ := zf_hf ok hj r2
          exact absurd ((ok.2 j hj).2.2.2 z) g
      rw [decide_eq_true hjN, decide_eq_true r1]; rfl
    | false =>
      by_cases hjN : j < N
      · by_cases h0 : 0 < zf_rl B j
        · have := ring_self ok hj h0
          have q : zf_any (fun i => (zf_ra B i).testBit j) N 0 = true := (zf_any_ex _ _ _).mpr ⟨j, by omega, by omega, this⟩
          rw [c] at q
          exact Bool.noConfusion q
        · rw [decide_eq_false h0, Bool.and_false]
      · rw [decide_eq_false hjN, Bool.false_and]
  · rw [decide_eq_false (show ¬ j < N by omega), Bool.false_and]
    cases c : zf_any (fun i => (zf_ra B i).testBit j) N 0 with
    | false => rfl
    | true =>
      obtain ⟨i, -, hi, hb⟩ := (zf_any_ex _ _ _).mp c
      have l := (ring_cnt ok (s := i) (by omega)).2
      rw [Nat.testBit_lt_two_pow (Nat.lt_of_lt_of_le l (Nat.pow_le_pow_right (n := 2) (by decide) (show 8 ≤ j by omega)))] at hb
      exact Bool.noConfusion hb
end RG
theorem zq_em (p : Prop) : (p = True) ∨ (p = False) := by
  by_cases h : p
  · exact .inl (eq_true h)
  · exact .inr (eq_false h)
section RM
variable {Lh m d : Nat} {I : zx_MI} {J : zx_MJ} {P : Option Value → zx_Lay → zx_MI → zx_MJ → Prop}
theorem sc_ringLength {T w h N s : Nat} {B : Nat → Int32} (hT : zx_st T) (rel : zR_st I T B) (ok : zM_ok B w h N) (hs : s < 8) : zx_rn d 74 [.ref T, .int (nI s)] (zx_LL Lh) I J P = P (some (.int (nI (zf_rl B s)))) (zx_LL Lh) I J := by
  obtain ⟨k0, k1, k2, k3⟩ := zT_k (Lh := Lh) hT
  obtain ⟨q0, q1, q2⟩ := zT_q (Lh := Lh) hT
  have loop : ∀ mm n x, n + mm = 9 → zf_opt x 8 → zx_wp d 74 4 [.ref T, .int (nI s), .int x, .int (nI n)] [] (zx_LL Lh) I J P = P (some (.int (nI (zf_rlL B s mm n x)))) (zx_LL Lh) I J := by
    intro mm
    induction mm with
    | zero =>
      intro n x hn hx
      have hlt : 8 < n := by omega
      rw [zs_74_4]
      simp (disch := omega) only [↓zs_74_0, ↓zs_74_1, ↓zs_74_2, ↓zs_74_3, ↓zs_74_5, ↓zs_74_7, ↓zs_74_10, ↓zs_74_11, ↓zs_74_14, ↓zs_74_15, ↓zs_74_17, ↓zs_74_20, ↓zs_74_21, ↓zs_74_24, ↓zs_74_25, ↓zs_74_26, ↓zs_74_27, ↓zs_74_30, ↓zs_74_31, ↓zs_74_32, ↓zs_74_33, ↓zs_74_36, ↓zs_74_37, ↓zs_74_38, ↓zs_74_39, ↓zs_74_40, ↓zs_74_41, ↓zs_74_44, ↓zs_74_45, ↓zs_74_46, ↓zs_74_49, ↓zs_74_52, ↓zs_74_53, zx_pu_s, zx_pu_n, zx_rv_s, zx_rv_n, true_and, and_true, true_or, or_true, zb_0, zb_1, zq_lcl, zq_lcg, zq_lce, eq_self, ite_true, ite_false, zn_10, zn_40, zn_040, zn_340, nI_add, zin_nI, nI_clamp, nI_ltI, nI_eq, pk_mul, nI_1, Nat.lt_irrefl, hlt]
      rfl
    | succ mm ih =>
      intro n x hn hx
      have hlt : ¬ 8 < n := by omega
      rw [zs_74_4, zf_rlL]
      rcases hx with e | ⟨y, hy, e⟩
      · subst e
        rw [zf_st_m1]
        simp (disch := omega) only [↓zs_74_0, ↓zs_74_1, ↓zs_74_2, ↓zs_74_3, ↓zs_74_5, ↓zs_74_7, ↓zs_74_10, ↓zs_74_11, ↓zs_74_14, ↓zs_74_15, ↓zs_74_17, ↓zs_74_20, ↓zs_74_21, ↓zs_74_24, ↓zs_74_25, ↓zs_74_26, ↓zs_74_27, ↓zs_74_30, ↓zs_74_31, ↓zs_74_32, ↓zs_74_33, ↓zs_74_36, ↓zs_74_37, ↓zs_74_38, ↓zs_74_39, ↓zs_74_40, ↓zs_74_41, ↓zs_74_44, ↓zs_74_45, ↓zs_74_46, ↓zs_74_49, ↓zs_74_52, ↓zs_74_53, zx_pu_s, zx_pu_n, zx_rv_s, zx_rv_n, true_and, and_true, true_or, or_true, zb_0, zb_1, zq_lcl, zq_lcg, zq_lce, eq_self, ite_true, ite_false, zn_10, zn_40, zn_040, zn_340, nI_add, zin_nI, nI_clamp, nI_ltI, nI_eq, pk_mul, nI_1, Nat.lt_irrefl, hlt, zb_m1]
        rfl
      · subst e
        have e1 := (rel.2 y hy).1
        have e2 := (rel.2 y hy).2.2
        rw [zf_st_nI hy, show zf_nat (nI y) = y from nI_clamp (by omega)]
        by_cases c : B (109 + y) = -1
        · rw [decide_eq_true c]
          simp (disch := omega) only [↓zs_74_0, ↓zs_74_1, ↓zs_74_2, ↓zs_74_3, ↓zs_74_5, ↓zs_74_7, ↓zs_74_10, ↓zs_74_11, ↓zs_74_14, ↓zs_74_15, ↓zs_74_17, ↓zs_74_20, ↓zs_74_21, ↓zs_74_24, ↓zs_74_25, ↓zs_74_26, ↓zs_74_27, ↓zs_74_30, ↓zs_74_31, ↓zs_74_32, ↓zs_74_33, ↓zs_74_36, ↓zs_74_37, ↓zs_74_38, ↓zs_74_39, ↓zs_74_40, ↓zs_74_41, ↓zs_74_44, ↓zs_74_45, ↓zs_74_46, ↓zs_74_49, ↓zs_74_52, ↓zs_74_53, zx_pu_s, zx_pu_n, zx_rv_s, zx_rv_n, true_and, and_true, true_or, or_true, zb_0, zb_1, zq_lcl, zq_lcg, zq_lce, eq_self, ite_true, ite_false, zn_10, zn_40, zn_040, zn_340, nI_add, zin_nI, nI_clamp, nI_ltI, nI_eq, pk_mul, nI_1, Nat.lt_irrefl, hlt, zn_lt0, hy, k0, k1, q0, e1, c]
          rfl
        · rw [decide_eq_false c, show (!false) = true from rfl, if_pos rfl]
          by_cases c2 : B (125 + y) = nI s
          · rw [if_pos c2]
            simp (disch := omega) only [↓zs_74_0, ↓zs_74_1, ↓zs_74_2, ↓zs_74_3, ↓zs_74_5, ↓zs_74_7, ↓zs_74_10, ↓zs_74_11, ↓zs_74_14, ↓zs_74_15, ↓zs_74_17, ↓zs_74_20, ↓zs_74_21, ↓zs_74_24, ↓zs_74_25, ↓zs_74_26, ↓zs_74_27, ↓zs_74_30, ↓zs_74_31, ↓zs_74_32, ↓zs_74_33, ↓zs_74_36, ↓zs_74_37, ↓zs_74_38, ↓zs_74_39, ↓zs_74_40, ↓zs_74_41, ↓zs_74_44, ↓zs_74_45, ↓zs_74_46, ↓zs_74_49, ↓zs_74_52, ↓zs_74_53, zx_pu_s, zx_pu_n, zx_rv_s, zx_rv_n, true_and, and_true, true_or, or_true, zb_0, zb_1, zq_lcl, zq_lcg, zq_lce, eq_self, ite_true, ite_false, zn_10, zn_40, zn_040, zn_340, nI_add, zin_nI, nI_clamp, nI_ltI, nI_eq, pk_mul, nI_1, Nat.lt_irrefl, hlt, zn_lt0, hy, k0, k1, k3, q0, q2, e1, e2, c, c2]
          · rw [if_neg c2, ← ih (n + 1) _ (by omega) (ok.2 y hy).2.1]
            simp (disch := omega) only [↓zs_74_0, ↓zs_74_1, ↓zs_74_2, ↓zs_74_3, ↓zs_74_5, ↓zs_74_7, ↓zs_74_10, ↓zs_74_11, ↓zs_74_14, ↓zs_74_15, ↓zs_74_17, ↓zs_74_20, ↓zs_74_21, ↓zs_74_24, ↓zs_74_25, ↓zs_74_26, ↓zs_74_27, ↓zs_74_30, ↓zs_74_31, ↓zs_74_32, ↓zs_74_33, ↓zs_74_36, ↓zs_74_37, ↓zs_74_38, ↓zs_74_39, ↓zs_74_40, ↓zs_74_41, ↓zs_74_44, ↓zs_74_45, ↓zs_74_46, ↓zs_74_49, ↓zs_74_52, ↓zs_74_53, zx_pu_s, zx_pu_n, zx_rv_s, zx_rv_n, true_and, and_true, true_or, or_true, zb_0, zb_1, zq_lcl, zq_lcg, zq_lce, eq_self, ite_true, ite_false, zn_10, zn_40, zn_040, zn_340, nI_add, zin_nI, nI_clamp, nI_ltI, nI_eq, pk_mul, nI_1, Nat.lt_irrefl, hlt, zn_lt0, hy, k0, k1, k3, q0, q2, e1, e2, c, c2]
  rw [ze_74]
  simp only [↓zs_74_0, ↓zs_74_1, ↓zs_74_2, ↓zs_74_3, zx_pu_s, zx_pu_n, zx_rv_s, zx_rv_n, true_and, and_true, true_or, or_true, zb_0, zb_1, zq_lcl, zq_lcg, zq_lce, eq_self, ite_true, ite_false]
  exact loop 8 1 (nI s) rfl (.inr ⟨s, hs, rfl⟩)
theorem sp_ringAt {w h N s : Nat} (ok : zM_ok (I 139) w h N) (hs : s < 8) : zx_rn (d + 2) 236 [.ref 138, .int (nI s)] (zx_LL Lh) I J P = P (some (.int (nI (zf_ra (I 139) s)))) (zx_LL Lh) I J := by
  have loop : ∀ f S x, S < 256 → zf_c8 S + f = 8 → x < 8 → zx_wp (d + 2) 236 4 [.ref 138, .int (nI s), .int (nI S), .int (nI x)] [] (zx_LL Lh) I J P = P (some (.int (nI (zf_raL (I 139) s f S x)))) (zx_LL Lh) I J := by
    intro f
    induction f with
    | zero =>
      intro S x hS hc hx
      have hb := zf_c8_full hS hx (by omega)
      have hf := fun P => sp_hasFoe (d := d) (Lh := Lh) (J := J) (P := P) hx (zM_foe ok hx)
      have hbt : zf_bit (lN S) x = S.testBit x := zt_nat (by omega)
      rw [zs_236_4, zf_raL]
      cases c : zf_hasFoe (I 139) x <;> rcases zq_em (x = s) with q | q <;> simp (disch := omega) only [↓zs_236_5, ↓zs_236_6, ↓zs_236_9, ↓zs_236_12, ↓zs_236_13, ↓zs_236_14, ↓zs_236_15, ↓zs_236_18, ↓zs_236_21, ↓zs_236_22, ↓zs_236_23, ↓zs_236_24, ↓zs_236_25, ↓zs_236_26, ↓zs_236_27, ↓zs_236_28, ↓zs_236_31, ↓zs_236_33, ↓zs_236_34, ↓zs_236_35, ↓zs_236_36, ↓zs_236_37, ↓zs_236_40, ↓zs_236_41, ↓zs_236_42, ↓zs_236_45, ↓zs_236_46, ↓zs_236_49, ↓zs_236_50, zx_pu_s, zx_pu_n, zx_rv_s, zx_rv_n, true_and, and_true, true_or, or_true, zb_0, zb_1, zq_lcl, zq_lcg, zq_lce, eq_self, ite_true, ite_false, zk_138, zw_138, zk_139, zw_139, zk_140, zw_140, zk_141, zw_141, zk_142, zw_142, zk_143, zw_143, zk_144, zw_144, zk_145, zw_145, zk_146, zw_146, zk_147, zw_147, zk_148, zw_148, zk_149, zw_149, zk_150, zw_150, zk_151, zw_151, zk_152, zw_152, zq_138_1, zq_138_2, zq_138_3, zq_138_4, zq_138_16, zq_138_19, zq_138_20, zq_138_24, zq_138_25, zq_138_26, zq_138_27, zq_138_31, zq_138_32, zq_138_33, zn_10, zn_40, zn_040, zn_340, nI_add, zin_nI, nI_clamp, nI_ltI, nI_eq, pk_mul, nI_l, hf, c, zB_0, reduceCtorEq, sp_isIn, hbt, hb, q]
    | succ f ih =>
      intro S x hS hc hx
      have hf := fun P => sp_hasFoe (d := d) (Lh := Lh) (J := J) (P := P) hx (zM_foe ok hx)
      have hbt : zf_bit (lN S) x = S.testBit x := zt_nat (by omega)
      rw [zs_236_4, zf_raL]
      cases c : zf_hasFoe (I 139) x with
      | false =>
        rw [if_neg (fun e => Bool.noConfusion e.1)]
        rcases zq_em (x = s) with q | q <;> simp (disch := omega) only [↓zs_236_5, ↓zs_236_6, ↓zs_236_9, ↓zs_236_12, ↓zs_236_13, ↓zs_236_14, ↓zs_236_15, ↓zs_236_18, ↓zs_236_21, ↓zs_236_22, ↓zs_236_23, ↓zs_236_24, ↓zs_236_25, ↓zs_236_26, ↓zs_236_27, ↓zs_236_28, ↓zs_236_31, ↓zs_236_33, ↓zs_236_34, ↓zs_236_35, ↓zs_236_36, ↓zs_236_37, ↓zs_236_40, ↓zs_236_41, ↓zs_236_42, ↓zs_236_45, ↓zs_236_46, ↓zs_236_49, ↓zs_236_50, zx_pu_s, zx_pu_n, zx_rv_s, zx_rv_n, true_and, and_true, true_or, or_true, zb_0, zb_1, zq_lcl, zq_lcg, zq_lce, eq_self, ite_true, ite_false, zk_138, zw_138, zk_139, zw_139, zk_140, zw_140, zk_141, zw_141, zk_142, zw_142, zk_143, zw_143, zk_144, zw_144, zk_145, zw_145, zk_146, zw_146, zk_147, zw_147, zk_148, zw_148, zk_149, zw_149, zk_150, zw_150, zk_151, zw_151, zk_152, zw_152, zq_138_1, zq_138_2, zq_138_3, zq_138_4, zq_138_16, zq_138_19, zq_138_20, zq_138_24, zq_138_25, zq_138_26, zq_138_27, zq_138_31, zq_138_32, zq_138_33, zn_10, zn_40, zn_040, zn_340, nI_add, zin_nI, nI_clamp, nI_ltI, nI_eq, pk_mul, nI_l, hf, c, zB_0, reduceCtorEq, q]
      | true =>
        cases hb : S.testBit x with
        | true =>
          rw [if_neg (fun e => Bool.noConfusion e.2)]
          rcases zq_em (x = s) with q | q <;> simp (disch := omega) only [↓zs_236_5, ↓zs_236_6, ↓zs_236_9, ↓zs_236_12, ↓zs_236_13, ↓zs_236_14, ↓zs_236_15, ↓zs_236_18, ↓zs_236_21, ↓zs_236_22, ↓zs_236_23, ↓zs_236_24, ↓zs_236_25, ↓zs_236_26, ↓zs_236_27, ↓zs_236_28, ↓zs_236_31, ↓zs_236_33, ↓zs_236_34, ↓zs_236_35, ↓zs_236_36, ↓zs_236_37, ↓zs_236_40, ↓zs_236_41, ↓zs_236_42, ↓zs_236_45, ↓zs_236_46, ↓zs_236_49, ↓zs_236_50, zx_pu_s, zx_pu_n, zx_rv_s, zx_rv_n, true_and, and_true, true_or, or_true, zb_0, zb_1, zq_lcl, zq_lcg, zq_lce, eq_self, ite_true, ite_false, zk_138, zw_138, zk_139, zw_139, zk_140, zw_140, zk_141, zw_141, zk_142, zw_142, zk_143, zw_143, zk_144, zw_144, zk_145, zw_145, zk_146, zw_146, zk_147, zw_147, zk_148, zw_148, zk_149, zw_149, zk_150, zw_150, zk_151, zw_151, zk_152, zw_152, zq_138_1, zq_138_2, zq_138_3, zq_138_4, zq_138_16, zq_138_19, zq_138_20, zq_138_24, zq_138_25, zq_138_26, zq_138_27, zq_138_31, zq_138_32, zq_138_33, zn_10, zn_40, zn_040, zn_340, nI_add, zin_nI, nI_clamp, nI_ltI, nI_eq, pk_mul, nI_l, hf, c, zB_0, reduceCtorEq, sp_isIn, hbt, hb, q]
        | false =>
          obtain ⟨f9, f8, e1, e2, -, -⟩ := zf_hf ok hx c
          obtain ⟨d1, d2⟩ := zf_c8_add hS hx hb
          rw [if_pos ⟨rfl, rfl⟩, e2, ← ih (S ||| 2 ^ x) f9 d2 (by omega) f8]
          simp (disch := omega) only [↓zs_236_5, ↓zs_236_6, ↓zs_236_9, ↓zs_236_12, ↓zs_236_13, ↓zs_236_14, ↓zs_236_15, ↓zs_236_18, ↓zs_236_21, ↓zs_236_22, ↓zs_236_23, ↓zs_236_24, ↓zs_236_25, ↓zs_236_26, ↓zs_236_27, ↓zs_236_28, ↓zs_236_31, ↓zs_236_33, ↓zs_236_34, ↓zs_236_35, ↓zs_236_36, ↓zs_236_37, ↓zs_236_40, ↓zs_236_41, ↓zs_236_42, ↓zs_236_45, ↓zs_236_46, ↓zs_236_49, ↓zs_236_50, zx_pu_s, zx_pu_n, zx_rv_s, zx_rv_n, true_and, and_true, true_or, or_true, zb_0, zb_1, zq_lcl, zq_lcg, zq_lce, eq_self, ite_true, ite_false, zk_138, zw_138, zk_139, zw_139, zk_140, zw_140, zk_141, zw_141, zk_142, zw_142, zk_143, zw_143, zk_144, zw_144, zk_145, zw_145, zk_146, zw_146, zk_147, zw_147, zk_148, zw_148, zk_149, zw_149, zk_150, zw_150, zk_151, zw_151, zk_152, zw_152, zq_138_1, zq_138_2, zq_138_3, zq_138_4, zq_138_16, zq_138_19, zq_138_20, zq_138_24, zq_138_25, zq_138_26, zq_138_27, zq_138_31, zq_138_32, zq_138_33, zn_10, zn_40, zn_040, zn_340, nI_add, zin_nI, nI_clamp, nI_ltI, nI_eq, pk_mul, nI_l, hf, c, zB_0, reduceCtorEq, sp_isIn, hbt, hb, e1, zq_shl1, zq_orI]
  rw [ze_236]
  simp only [↓zs_236_0, ↓zs_236_1, ↓zs_236_2, ↓zs_236_3, zx_pu_s, zx_pu_n, zx_rv_s, zx_rv_n, true_and, and_true, true_or, or_true, zb_0, zb_1, zq_lcl, zq_lcg, zq_lce, eq_self, ite_true, ite_false]
  exact loop 8 0 s (by decide) rfl hs
def zf_ringOf (x : Int32) (B : Nat → Int32) : Int32 := if zf_in x.toInt (zn B) = true then nI (zf_rl B x.toInt.toNat) else -2
theorem q_ringOf (v : zInv I J m) (x : Int32) : zQ Lh 125 238 [.int x] I J := by
  obtain ⟨⟨hw, hh, hN⟩, gr, g, ex, ok, N8, wh⟩ := zInv_k v
  have h1 := fun d P => sc_hasStatue (d := d) (Lh := Lh) (I := I) (J := J) (P := P) zx_sq1 x hN N8
  have ok2 : zM_ok (zx_u I 138 0 (nI 0) 139) (zw (I 139)) (zh (I 139)) (zn (I 139)) := by rw [zu_139]; exact ok
  have h2 := fun d P => sp_isStatue (d := d) (Lh := Lh) (J := J) (P := P) x.toInt64 ok2.1.2.2.1 N8
  rw [Int32.toInt_toInt64] at h2
  by_cases c : zf_in x.toInt (zn (I 139)) = true
  · have e := zq_toI (x := x) rfl c (by omega)
    have hs : x.toInt.toNat < 8 := by have := zf_inP.mp c; omega
    generalize x.toInt.toNat = s at e hs
    subst e
    obtain ⟨rc, rl⟩ := ring_cnt ok hs
    have h3 := fun d P => sc_ringLength (d := d) (Lh := Lh) (J := J) (P := P) zx_st11 v.2.2.2.1 ok hs
    have h4 := fun d P => sp_ringAt (d := d) (Lh := Lh) (J := J) (P := P) ok2 hs
    rw [zu_139] at h4
    have e64 : (nI (zf_ra (I 139) s)).toInt64 = lN (zf_ra (I 139) s) := nI_l (by omega)
    have hcnt : zf_cnt (zf_bit (lN (zf_ra (I 139) s))) 64 0 = zf_rl (I 139) s := by rw [← rc]; exact zf_cnt_eq _ _ _ _ (fun j _ h => zt_nat (by omega))
    refine ⟨.int (nI (zf_rl (I 139) s)), I, J, zx_u I 138 0 (nI 0), J, fun d P => ?_, fun d P => ?_, zScr_s (zFs_0 _ _)⟩
    · rw [ze_125]
      simp only [↓zs_125_0, ↓zs_125_1, ↓zs_125_4, ↓zs_125_5, ↓zs_125_8, ↓zs_125_11, ↓zs_125_12, ↓zs_125_15, ↓zs_125_16, ↓zs_125_19, ↓zs_125_22, ↓zs_125_24, zx_pu_s, zx_pu_n, zx_rv_s, zx_rv_n, true_and, and_true, true_or, or_true, zb_0, zb_1, zq_lcl, zq_lcg, zq_lce, eq_self, ite_true, ite_false, zk_0, zw_0, zk_1, zw_1, zq_0_0, zq_0_1, zq_0_2, zq_0_3, zq_0_4, zq_0_5, zq_0_6, zq_0_7, zq_0_8, zq_0_9, zq_0_10, zq_0_11, zq_1_0, zq_1_1, zq_1_2, zq_1_3, zq_1_4, zq_1_5, zk_11, zw_11, zq_11_0, zq_11_1, zq_11_2, h1, c, zB_0, reduceCtorEq, h3]
    · rw [ze_238]
      simp (disch := omega) only [↓zs_238_0, ↓zs_238_1, ↓zs_238_2, ↓zs_238_5, ↓zs_238_6, ↓zs_238_7, ↓zs_238_8, ↓zs_238_11, ↓zs_238_14, ↓zs_238_15, ↓zs_238_16, ↓zs_238_19, ↓zs_238_20, ↓zs_238_23, ↓zs_238_26, ↓zs_238_28, zx_pu_s, zx_pu_n, zx_rv_s, zx_rv_n, true_and, and_true, true_or, or_true, zb_0, zb_1, zq_lcl, zq_lcg, zq_lce, eq_self, ite_true, ite_false, zk_138, zw_138, zk_139, zw_139, zk_140, zw_140, zk_141, zw_141, zk_142, zw_142, zk_143, zw_143, zk_144, zw_144, zk_145, zw_145, zk_146, zw_146, zk_147, zw_147, zk_148, zw_148, zk_149, zw_149, zk_150, zw_150, zk_151, zw_151, zk_152, zw_152, zq_138_1, zq_138_2, zq_138_3, zq_138_4, zq_138_16, zq_138_19, zq_138_20, zq_138_24, zq_138_25, zq_138_26, zq_138_27, zq_138_31, zq_138_32, zq_138_33, h2, c, zB_0, reduceCtorEq, h4, e64, sp_bits, hcnt]
  · rw [Bool.not_eq_true] at c
    refine ⟨.int (-2), I, J, zx_u I 138 0 (nI 0), J, fun d P => ?_, fun d P => ?_, zScr_s (zFs_0 _ _)⟩
    · rw [ze_125]
      simp only [↓zs_125_0, ↓zs_125_1, ↓zs_125_4, ↓zs_125_5, ↓zs_125_8, ↓zs_125_11, ↓zs_125_12, ↓zs_125_15, ↓zs_125_16, ↓zs_125_19, ↓zs_125_22, ↓zs_125_24, zx_pu_s, zx_pu_n, zx_rv_s, zx_rv_n, true_and, and_true, true_or, or_true, zb_0, zb_1, zq_lcl, zq_lcg, zq_lce, eq_self, ite_true, ite_false, zk_0, zw_0, zk_1, zw_1, zq_0_0, zq_0_1, zq_0_2, zq_0_3, zq_0_4, zq_0_5, zq_0_6, zq_0_7, zq_0_8, zq_0_9, zq_0_10, zq_0_11, zq_1_0, zq_1_1, zq_1_2, zq_1_3, zq_1_4, zq_1_5, zk_11, zw_11, zq_11_0, zq_11_1, zq_11_2, h1, c, zB_0, reduceCtorEq]
    · rw [ze_238]
      simp (disch := omega) only [↓zs_238_0, ↓zs_238_1, ↓zs_238_2, ↓zs_238_5, ↓zs_238_6, ↓zs_238_7, ↓zs_238_8, ↓zs_238_11, ↓zs_238_14, ↓zs_238_15, ↓zs_238_16, ↓zs_238_19, ↓zs_238_20, ↓zs_238_23, ↓zs_238_26, ↓zs_238_28, zx_pu_s, zx_pu_n, zx_rv_s, zx_rv_n, true_and, and_true, true_or, or_true, zb_0, zb_1, zq_lcl, zq_lcg, zq_lce, eq_self, ite_true, ite_false, zk_138, zw_138, zk_139, zw_139, zk_140, zw_140, zk_141, zw_141, zk_142, zw_142, zk_143, zw_143, zk_144, zw_144, zk_145, zw_145, zk_146, zw_146, zk_147, zw_147, zk_148, zw_148, zk_149, zw_149, zk_150, zw_150, zk_151, zw_151, zk_152, zw_152, zq_138_1, zq_138_2, zq_138_3, zq_138_4, zq_138_16, zq_138_19, zq_138_20, zq_138_24, zq_138_25, zq_138_26, zq_138_27, zq_138_31, zq_138_32, zq_138_33, h2, c, zB_0, reduceCtorEq]
theorem q_rings (v : zInv I J m) : zQ Lh 124 237 [] I J := by
  obtain ⟨⟨hw, hh, hN⟩, gr, g, ex, ok, N8, wh⟩ := zInv_k v
  have ok2 : zM_ok (zx_u I 138 0 (nI 0) 139) (zw (I 139)) (zh (I 139)) (zn (I 139)) := by rw [zu_139]; exact ok
  have lc : ∀ mm s a, s + mm = zn (I 139) → ∀ d P, zx_wp (d + 30) 124 4 [.ref 0, .int (nI a), .int (nI s)] [] (zx_LL Lh) I J P = P (some (.int (nI (zf_bs (fun s => decide (0 < zf_rl (I 139) s)) mm s a)))) (zx_LL Lh) I J := by
    intro mm
    induction mm with
    | zero =>
      intro s a hs d P
      have hlt : ¬ s < zn (I 139) := by omega
      rw [zs_124_4]
      simp (disch := omega) only [↓zs_124_0, ↓zs_124_1, ↓zs_124_2, ↓zs_124_3, ↓zs_124_5, ↓zs_124_6, ↓zs_124_9, ↓zs_124_12, ↓zs_124_15, ↓zs_124_16, ↓zs_124_19, ↓zs_124_20, ↓zs_124_23, ↓zs_124_26, ↓zs_124_27, ↓zs_124_28, ↓zs_124_29, ↓zs_124_30, ↓zs_124_31, ↓zs_124_32, ↓zs_124_35, ↓zs_124_38, ↓zs_124_39, zx_pu_s, zx_pu_n, zx_rv_s, zx_rv_n, true_and, and_true, true_or, or_true, zb_0, zb_1, zq_lcl, zq_lcg, zq_lce, eq_self, ite_true, ite_false, zk_0, zw_0, zk_1, zw_1, zq_0_0, zq_0_1, zq_0_2, zq_0_3, zq_0_4, zq_0_5, zq_0_6, zq_0_7, zq_0_8, zq_0_9, zq_0_10, zq_0_11, zq_1_0, zq_1_1, zq_1_2, zq_1_3, zq_1_4, zq_1_5, zk_11, zw_11, zq_11_0, zq_11_1, zq_11_2, zn_10, zn_40, zn_040, zn_340, nI_add, zin_nI, nI_clamp, nI_ltI, nI_eq, pk_mul, nI_1, Nat.lt_irrefl, hN, hlt]
      rfl
    | succ mm ih =>
      intro s a hs d P
      have hlt : s < zn (I 139) := by omega
      have h3 := fun d P => sc_ringLength (d := d) (Lh := Lh) (J := J) (P := P) (s := s) zx_st11 v.2.2.2.1 ok (by omega)
      have rl8 : zf_rl (I 139) s ≤ 64 := by rw [← (ring_cnt ok (s := s) (by omega)).1]; exact zf_cnt_le _ _ _
      rw [zs_124_4, zf_bs, ← ih (s + 1) _ (by omega) d P]
      by_cases c : 0 < zf_rl (I 139) s
      · simp (disch := omega) only [↓zs_124_0, ↓zs_124_1, ↓zs_124_2, ↓zs_124_3, ↓zs_124_5, ↓zs_124_6, ↓zs_124_9, ↓zs_124_12, ↓zs_124_15, ↓zs_124_16, ↓zs_124_19, ↓zs_124_20, ↓zs_124_23, ↓zs_124_26, ↓zs_124_27, ↓zs_124_28, ↓zs_124_29, ↓zs_124_30, ↓zs_124_31, ↓zs_124_32, ↓zs_124_35, ↓zs_124_38, ↓zs_124_39, zx_pu_s, zx_pu_n, zx_rv_s, zx_rv_n, true_and, and_true, true_or, or_true, zb_0, zb_1, zq_lcl, zq_lcg, zq_lce, eq_self, ite_true, ite_false, zk_0, zw_0, zk_1, zw_1, zq_0_0, zq_0_1, zq_0_2, zq_0_3, zq_0_4, zq_0_5, zq_0_6, zq_0_7, zq_0_8, zq_0_9, zq_0_10, zq_0_11, zq_1_0, zq_1_1, zq_1_2, zq_1_3, zq_1_4, zq_1_5, zk_11, zw_11, zq_11_0, zq_11_1, zq_11_2, zn_10, zn_40, zn_040, zn_340, nI_add, zin_nI, nI_clamp, nI_ltI, nI_eq, pk_mul, nI_1, Nat.lt_irrefl, hN, hlt, h3, c, zq_shl1, zq_orI, decide_true, if_true]
      · simp (disch := omega) only [↓zs_124_0, ↓zs_124_1, ↓zs_124_2, ↓zs_124_3, ↓zs_124_5, ↓zs_124_6, ↓zs_124_9, ↓zs_124_12, ↓zs_124_15, ↓zs_124_16, ↓zs_124_19, ↓zs_124_20, ↓zs_124_23, ↓zs_124_26, ↓zs_124_27, ↓zs_124_28, ↓zs_124_29, ↓zs_124_30, ↓zs_124_31, ↓zs_124_32, ↓zs_124_35, ↓zs_124_38, ↓zs_124_39, zx_pu_s, zx_pu_n, zx_rv_s, zx_rv_n, true_and, and_true, true_or, or_true, zb_0, zb_1, zq_lcl, zq_lcg, zq_lce, eq_self, ite_true, ite_false, zk_0, zw_0, zk_1, zw_1, zq_0_0, zq_0_1, zq_0_2, zq_0_3, zq_0_4, zq_0_5, zq_0_6, zq_0_7, zq_0_8, zq_0_9, zq_0_10, zq_0_11, zq_1_0, zq_1_1, zq_1_2, zq_1_3, zq_1_4, zq_1_5, zk_11, zw_11, zq_11_0, zq_11_1, zq_11_2, zn_10, zn_40, zn_040, zn_340, nI_add, zin_nI, nI_clamp, nI_ltI, nI_eq, pk_mul, nI_1, Nat.lt_irrefl, hN, hlt, h3, c, decide_false, reduceCtorEq, if_false]
  have lm : ∀ mm s a, s + mm = zn (I 139) → ∀ d P, zx_wp (d + 30) 237 9 [.ref 138, .int (nI a), .int (nI s)] [] (zx_LL Lh) (zx_u I 138 0 (nI 0)) J P = P (some (.int (nI (zf_orN (zf_ra (I 139)) mm s a)))) (zx_LL Lh) (zx_u I 138 0 (nI 0)) J := by
    intro mm
    induction mm with
    | zero =>
      intro s a hs d P
      have hlt : ¬ s < zn (I 139) := by omega
      rw [zs_237_9]
      simp (disch := omega) only [↓zs_237_0, ↓zs_237_1, ↓zs_237_2, ↓zs_237_5, ↓zs_237_6, ↓zs_237_7, ↓zs_237_8, ↓zs_237_10, ↓zs_237_11, ↓zs_237_14, ↓zs_237_15, ↓zs_237_16, ↓zs_237_19, ↓zs_237_20, ↓zs_237_21, ↓zs_237_22, ↓zs_237_25, ↓zs_237_26, ↓zs_237_27, ↓zs_237_30, ↓zs_237_33, ↓zs_237_34, zx_pu_s, zx_pu_n, zx_rv_s, zx_rv_n, true_and, and_true, true_or, or_true, zb_0, zb_1, zq_lcl, zq_lcg, zq_lce, eq_self, ite_true, ite_false, zk_138, zw_138, zk_139, zw_139, zk_140, zw_140, zk_141, zw_141, zk_142, zw_142, zk_143, zw_143, zk_144, zw_144, zk_145, zw_145, zk_146, zw_146, zk_147, zw_147, zk_148, zw_148, zk_149, zw_149, zk_150, zw_150, zk_151, zw_151, zk_152, zw_152, zq_138_1, zq_138_2, zq_138_3, zq_138_4, zq_138_16, zq_138_19, zq_138_20, zq_138_24, zq_138_25, zq_138_26, zq_138_27, zq_138_31, zq_138_32, zq_138_33, zn_10, zn_40, zn_040, zn_340, nI_add, zin_nI, nI_clamp, nI_ltI, nI_eq, pk_mul, nI_1, Nat.lt_irrefl, zu_139, ok.1.2.2.1, hlt]
      rfl
    | succ mm ih =>
      intro s a hs d P
      have hlt : s < zn (I 139) := by omega
      have h4 := fun d P => sp_ringAt (d := d) (Lh := Lh) (J := J) (P := P) (s := s) ok2 (by omega)
      rw [zu_139] at h4
      rw [zs_237_9, zf_orN, ← ih (s + 1) _ (by omega) d P]
      simp (disch := omega) only [↓zs_237_0, ↓zs_237_1, ↓zs_237_2, ↓zs_237_5, ↓zs_237_6, ↓zs_237_7, ↓zs_237_8, ↓zs_237_10, ↓zs_237_11, ↓zs_237_14, ↓zs_237_15, ↓zs_237_16, ↓zs_237_19, ↓zs_237_20, ↓zs_237_21, ↓zs_237_22, ↓zs_237_25, ↓zs_237_26, ↓zs_237_27, ↓zs_237_30, ↓zs_237_33, ↓zs_237_34, zx_pu_s, zx_pu_n, zx_rv_s, zx_rv_n, true_and, and_true, true_or, or_true, zb_0, zb_1, zq_lcl, zq_lcg, zq_lce, eq_self, ite_true, ite_false, zk_138, zw_138, zk_139, zw_139, zk_140, zw_140, zk_141, zw_141, zk_142, zw_142, zk_143, zw_143, zk_144, zw_144, zk_145, zw_145, zk_146, zw_146, zk_147, zw_147, zk_148, zw_148, zk_149, zw_149, zk_150, zw_150, zk_151, zw_151, zk_152, zw_152, zq_138_1, zq_138_2, zq_138_3, zq_138_4, zq_138_16, zq_138_19, zq_138_20, zq_138_24, zq_138_25, zq_138_26, zq_138_27, zq_138_31, zq_138_32, zq_138_33, zn_10, zn_40, zn_040, zn_340, nI_add, zin_nI, nI_clamp, nI_ltI, nI_eq, pk_mul, nI_1, Nat.lt_irrefl, zu_139, ok.1.2.2.1, hlt, h4, zq_orI]
  refine ⟨.int (nI (zf_bs (fun s => decide (0 < zf_rl (I 139) s)) (zn (I 139)) 0 0)), I, J, zx_u I 138 0 (nI 0), J, fun d P => ?_, fun d P => ?_, zScr_s (zFs_0 _ _)⟩
  · rw [ze_124]
    simp only [↓zs_124_0, ↓zs_124_1, ↓zs_124_2, ↓zs_124_3, zx_pu_s, zx_pu_n, zx_rv_s, zx_rv_n, true_and, and_true, true_or, or_true, zb_0, zb_1, zq_lcl, zq_lcg, zq_lce, eq_self, ite_true, ite_false]
    exact lc _ 0 0 (by omega) d P
  · rw [ze_237, ← rings_eq ok]
    simp only [↓zs_237_0, ↓zs_237_1, ↓zs_237_2, ↓zs_237_5, ↓zs_237_6, ↓zs_237_7, ↓zs_237_8, zx_pu_s, zx_pu_n, zx_rv_s, zx_rv_n, true_and, and_true, true_or, or_true, zb_0, zb_1, zq_lcl, zq_lcg, zq_lce, eq_self, ite_true, ite_false, zk_138, zw_138, zk_139, zw_139, zk_140, zw_140, zk_141, zw_141, zk_142, zw_142, zk_143, zw_143, zk_144, zw_144, zk_145, zw_145, zk_146, zw_146, zk_147, zw_147, zk_148, zw_148, zk_149, zw_149, zk_150, zw_150, zk_151, zw_151, zk_152, zw_152, zq_138_1, zq_138_2, zq_138_3, zq_138_4, zq_138_16, zq_138_19, zq_138_20, zq_138_24, zq_138_25, zq_138_26, zq_138_27, zq_138_31, zq_138_32, zq_138_33]
    exact lm _ 0 0 (by omega) d P
end RM
