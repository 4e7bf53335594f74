/-! whom a STATUE sees: the class's way -/
theorem zf_at_ok {w h : Nat} {x y : Int} (a : 0 ≤ x ∧ x < w ∧ 0 ≤ y ∧ y < h) : zf_at w h x y = some (w * y.toNat + x.toNat) := by
  unfold zf_at
  rw [if_pos (by rw [Bool.and_eq_true, zf_inP, zf_inP]; exact ⟨⟨a.1, a.2.1⟩, a.2.2.1, a.2.2.2⟩)]
theorem zf_at_inj {w h k : Nat} {x y x2 y2 : Int} (e : zf_at w h x y = some k) (e2 : zf_at w h x2 y2 = some k) : x2 = x ∧ y2 = y := by
  obtain ⟨a1, a2, a3, a4, -, a6, a7, -⟩ := zf_at_some e
  obtain ⟨b1, b2, b3, b4, -, b6, b7, -⟩ := zf_at_some e2
  omega
theorem zf_cnt_upd (p : Nat → Bool) (k n : Nat) (hk : k < n) (hp : p k = false) : zf_cnt (fun j => p j || decide (j = k)) n 0 = zf_cnt p n 0 + 1 := by
  have e : n = k + (1 + (n - k - 1)) := by omega
  rw [e, zf_cnt_add, zf_cnt_add, zf_cnt_add, zf_cnt_add]
  have e1 : zf_cnt (fun j => p j || decide (j = k)) k 0 = zf_cnt p k 0 := zf_cnt_eq _ _ _ _ (fun j h1 h2 => by rw [decide_eq_false (by omega), Bool.or_false])
  have e2 : zf_cnt (fun j => p j || decide (j = k)) (n - k - 1) (0 + k + 1) = zf_cnt p (n - k - 1) (0 + k + 1) := zf_cnt_eq _ _ _ _ (fun j h1 h2 => by rw [decide_eq_false (by omega), Bool.or_false])
  have e3 : zf_cnt (fun j => p j || decide (j = k)) 1 (0 + k) = 1 := by
    show (if (p (0 + k) || decide (0 + k = k)) = true then 1 else 0) + 0 = 1
    rw [Nat.zero_add, decide_eq_true rfl, Bool.or_true, if_pos rfl]
  have e4 : zf_cnt p 1 (0 + k) = 0 := by
    show (if p (0 + k) = true then 1 else 0) + 0 = 0
    rw [Nat.zero_add, hp, if_neg (by decide)]
  rw [e1, e2, e3, e4]
  omega
theorem zf_cnt_one {b : Int64} {k : Nat} (hk : k < 64) (hb : zf_bit b k = false) : zf_cnt (zf_bit (b ||| zf_one k)) 64 0 = zf_cnt (zf_bit b) 64 0 + 1 := by
  rw [← zf_cnt_upd (zf_bit b) k 64 hk hb]
  exact zf_cnt_eq _ _ _ _ (fun j _ h => by rw [zt_or, zt_one hk (by omega)])
/-- where a row ends: behind as many STONES as it has -/
theorem zf_walk_end {w h dr : Nat} {tk : Nat → Bool} (hwh : w * h ≤ 64) (hd : dr < 8) : ∀ (f : Nat) (x y : Int) (b : Int64), zf_me w h (zf_dx dr) (zf_dy dr) x y ≤ f → (∀ k x2 y2, zf_at w h x2 y2 = some k → zf_bit b k = true → zf_me w h (zf_dx dr) (zf_dy dr) x y < zf_me w h (zf_dx dr) (zf_dy dr) x2 y2) →
    ∃ n : Nat, n ≤ f ∧ zf_cnt (zf_bit (zf_walk w h (zf_dx dr) (zf_dy dr) tk f x y b).1) 64 0 = zf_cnt (zf_bit b) 64 0 + n ∧ (zf_walk w h (zf_dx dr) (zf_dy dr) tk f x y b).2 = zf_at w h (x + n * zf_dx dr) (y + n * zf_dy dr) := by
  intro f
  induction f with
  | zero =>
    intro x y b hm hb
    refine ⟨0, Nat.le_refl _, by rw [zf_walk, Nat.add_zero], ?_⟩
    rw [Int.natCast_zero, Int.zero_mul, Int.zero_mul, Int.add_zero, Int.add_zero]
    cases e : zf_at w h x y with
    | none => rfl
    | some k =>
      obtain ⟨a1, a2, a3, a4, _⟩ := zf_at_some e
      have := zf_me_dec hd ⟨a1, a2, a3, a4⟩
      omega
  | succ f ih =>
    intro x y b hm hb
    cases e : zf_at w h x y with
    | none =>
      refine ⟨0, by omega, by rw [zf_walk_n e, Nat.add_zero], ?_⟩
      rw [Int.natCast_zero, Int.zero_mul, Int.zero_mul, Int.add_zero, Int.add_zero, zf_walk_n e, e]
    | some k =>
      obtain ⟨a1, a2, a3, a4, ek, -, -, hk⟩ := zf_at_some e
      have hm2 := zf_me_dec hd ⟨a1, a2, a3, a4⟩
      cases t : tk k with
      | true =>
        refine ⟨0, by omega, by rw [zf_walk_t e t, Nat.add_zero], ?_⟩
        rw [Int.natCast_zero, Int.zero_mul, Int.zero_mul, Int.add_zero, Int.add_zero, zf_walk_t e t, e]
      | false =>
        have hbk : zf_bit b k = false := by
          cases c : zf_bit b k with
          | false => rfl
          | true => have := hb k x y e c; omega
        obtain ⟨n, n1, n2, n3⟩ := ih (x + zf_dx dr) (y + zf_dy dr) (b ||| zf_one k) (by omega) (by
          intro k2 x2 y2 e2 c
          rw [zt_or, zt_one (by omega) (by have := (zf_at_some e2).2.2.2.2.2.2.2; omega)] at c
          by_cases q : k2 = k
          · subst q
            obtain ⟨q1, q2⟩ := zf_at_inj e e2
            rw [q1, q2]
            omega
          · rw [decide_eq_false q, Bool.or_false] at c
            have := hb k2 x2 y2 e2 c
            omega)
        refine ⟨n + 1, by omega, ?_, ?_⟩
        · rw [zf_walk_f e t, n2, zf_cnt_one (by omega) hbk]; omega
        · have t1 : x + zf_dx dr + (n : Int) * zf_dx dr = x + ((n + 1 : Nat) : Int) * zf_dx dr := by rw [Int.natCast_add, Int.add_mul]; omega
          have t2 : y + zf_dy dr + (n : Int) * zf_dy dr = y + ((n + 1 : Nat) : Int) * zf_dy dr := by rw [Int.natCast_add, Int.add_mul]; omega
          rw [zf_walk_f e t, n3, t1, t2]
/-- what the class finds on a STONE -/
def zf_stand (B : Nat → Int32) (N k : Nat) : Int32 := if B (45 + k) = -10 then -10 else if B (45 + k) = -11 then -11 else zf_on B (nI k) N 0
theorem zf_on_none (B : Nat → Int32) (x : Int32) (m s : Nat) (h : ∀ i, s ≤ i → i < s + m → ¬ B (109 + i) = x) : zf_on B x m s = -1 := by
  induction m generalizing s with
  | zero => rfl
  | succ m ih => rw [zf_on, if_neg (h s (by omega) (by omega)), ih (s + 1) (fun i h1 h2 => h i (by omega) (by omega))]
theorem zf_on_add (B : Nat → Int32) (x : Int32) (a b s : Nat) (h : ∀ i, s + a ≤ i → i < s + a + b → ¬ B (109 + i) = x) : zf_on B x (a + b) s = zf_on B x a s := by
  induction a generalizing s with
  | zero => rw [Nat.zero_add, zf_on, zf_on_none B x b s (fun i h1 h2 => h i (by omega) (by omega))]
  | succ a ih => rw [show a + 1 + b = (a + b) + 1 by omega, zf_on, zf_on, ih (s + 1) (fun i h1 h2 => h i (by omega) (by omega))]
theorem zf_on_opt (B : Nat → Int32) (x : Int32) (m s : Nat) : zf_on B x m s = -1 ∨ ∃ i, s ≤ i ∧ i < s + m ∧ B (109 + i) = x ∧ zf_on B x m s = nI i := by
  induction m generalizing s with
  | zero => exact .inl rfl
  | succ m ih =>
    rw [zf_on]
    by_cases e : B (109 + s) = x
    · rw [if_pos e]; exact .inr ⟨s, by omega, by omega, e, rfl⟩
    · rw [if_neg e]
      rcases ih (s + 1) with q | ⟨i, q1, q2, q3, q4⟩
      · exact .inl q
      · exact .inr ⟨i, by omega, by omega, q3, q4⟩
section SE
variable {d Lh w h N : Nat} {I : zx_MI} {J : zx_MJ} {P : Option Value → zx_Lay → zx_MI → zx_MJ → Prop} {B : Nat → Int32} {S T : Nat}
theorem sc_standing {k : Nat} (hS : zx_sq S) (hT : zx_st T) (gr : zR_ground J S B) (rel : zR_st I T B) (ok : zM_ok B w h N) (hk : k < 64) : zx_rn d 60 [.ref S, .ref T, .int (nI k)] (zx_LL Lh) I J P = P (some (.int (zf_stand B N k))) (zx_LL Lh) I J := by
  obtain ⟨k0, k1, k2, k3⟩ := zT_k (Lh := Lh) hT
  obtain ⟨q0, q1, q2⟩ := zT_q (Lh := Lh) hT
  have kS := (zS_k (Lh := Lh) hS).1
  have N8 : N ≤ 8 := ok.1.2.2.2.2.2
  have loop : ∀ m s, s + m = 8 → zx_wp d 60 34 [.ref S, .ref T, .int (nI k), .int (nI s)] [] (zx_LL Lh) I J P = P (some (.int (zf_on B (nI k) m s))) (zx_LL Lh) I J := by
    intro m
    induction m with
    | zero =>
      intro s hs
      rw [zs_60_34]
      have h : ¬ s < 8 := by omega
      simp (disch := omega) only [↓zs_60_0, ↓zs_60_1, ↓zs_60_4, ↓zs_60_5, ↓zs_60_6, ↓zs_60_7, ↓zs_60_8, ↓zs_60_9, ↓zs_60_10, ↓zs_60_13, ↓zs_60_15, ↓zs_60_16, ↓zs_60_17, ↓zs_60_20, ↓zs_60_21, ↓zs_60_22, ↓zs_60_23, ↓zs_60_24, ↓zs_60_25, ↓zs_60_26, ↓zs_60_29, ↓zs_60_31, ↓zs_60_32, ↓zs_60_33, ↓zs_60_35, ↓zs_60_37, ↓zs_60_40, ↓zs_60_41, ↓zs_60_44, ↓zs_60_45, ↓zs_60_46, ↓zs_60_47, ↓zs_60_50, ↓zs_60_51, ↓zs_60_52, ↓zs_60_55, ↓zs_60_58, ↓zs_60_59, zx_pu_s, zx_pu_n, zx_rv_s, zx_rv_n, true_and, and_true, true_or, or_true, zb_0, zb_1, zq_lcl, zq_lcg, zq_lce, eq_self, ite_true, ite_false, zn_10, zn_40, zn_040, zn_340, nI_add, zin_nI, nI_clamp, nI_ltI, nI_eq, pk_mul, nI_l, h]
      rfl
    | succ m ih =>
      intro s hs
      rw [zs_60_34, zf_on, ← (rel.2 s (by omega)).1]
      have h : s < 8 := by omega
      by_cases c : I (T + 1) s = nI k <;> simp (disch := omega) only [↓zs_60_0, ↓zs_60_1, ↓zs_60_4, ↓zs_60_5, ↓zs_60_6, ↓zs_60_7, ↓zs_60_8, ↓zs_60_9, ↓zs_60_10, ↓zs_60_13, ↓zs_60_15, ↓zs_60_16, ↓zs_60_17, ↓zs_60_20, ↓zs_60_21, ↓zs_60_22, ↓zs_60_23, ↓zs_60_24, ↓zs_60_25, ↓zs_60_26, ↓zs_60_29, ↓zs_60_31, ↓zs_60_32, ↓zs_60_33, ↓zs_60_35, ↓zs_60_37, ↓zs_60_40, ↓zs_60_41, ↓zs_60_44, ↓zs_60_45, ↓zs_60_46, ↓zs_60_47, ↓zs_60_50, ↓zs_60_51, ↓zs_60_52, ↓zs_60_55, ↓zs_60_58, ↓zs_60_59, zx_pu_s, zx_pu_n, zx_rv_s, zx_rv_n, true_and, and_true, true_or, or_true, zb_0, zb_1, zq_lcl, zq_lcg, zq_lce, eq_self, ite_true, ite_false, zn_10, zn_40, zn_040, zn_340, nI_add, zin_nI, nI_clamp, nI_ltI, nI_eq, pk_mul, nI_l, h, k0, k1, q0, c, nI_1]
      exact ih (s + 1) (by omega)
  have e8 : zf_on B (nI k) 8 0 = zf_on B (nI k) N 0 := by
    rw [show 8 = N + (8 - N) by omega, zf_on_add]
    intro i h1 h2
    rw [(ok.2 i (by omega)).2.2.2 (by omega)]
    exact fun x => by have := zq_m1 (a := k) (by omega); rw [← x] at this; exact this.mp rfl
  rw [ze_60]
  unfold zf_stand
  obtain ⟨g1, g2⟩ := gr k hk
  by_cases c1 : B (45 + k) = -10
  · rw [decide_eq_true c1] at g1
    simp (disch := omega) only [↓zs_60_0, ↓zs_60_1, ↓zs_60_4, ↓zs_60_5, ↓zs_60_6, ↓zs_60_7, ↓zs_60_8, ↓zs_60_9, ↓zs_60_10, ↓zs_60_13, ↓zs_60_15, ↓zs_60_16, ↓zs_60_17, ↓zs_60_20, ↓zs_60_21, ↓zs_60_22, ↓zs_60_23, ↓zs_60_24, ↓zs_60_25, ↓zs_60_26, ↓zs_60_29, ↓zs_60_31, ↓zs_60_32, ↓zs_60_33, ↓zs_60_35, ↓zs_60_37, ↓zs_60_40, ↓zs_60_41, ↓zs_60_44, ↓zs_60_45, ↓zs_60_46, ↓zs_60_47, ↓zs_60_50, ↓zs_60_51, ↓zs_60_52, ↓zs_60_55, ↓zs_60_58, ↓zs_60_59, zx_pu_s, zx_pu_n, zx_rv_s, zx_rv_n, true_and, and_true, true_or, or_true, zb_0, zb_1, zq_lcl, zq_lcg, zq_lce, eq_self, ite_true, ite_false, kS, zt_ushr hk, g1, c1, zl_10]
  · rw [decide_eq_false c1] at g1
    by_cases c2 : B (45 + k) = -11
    · rw [decide_eq_true c2] at g2
      simp (disch := omega) only [↓zs_60_0, ↓zs_60_1, ↓zs_60_4, ↓zs_60_5, ↓zs_60_6, ↓zs_60_7, ↓zs_60_8, ↓zs_60_9, ↓zs_60_10, ↓zs_60_13, ↓zs_60_15, ↓zs_60_16, ↓zs_60_17, ↓zs_60_20, ↓zs_60_21, ↓zs_60_22, ↓zs_60_23, ↓zs_60_24, ↓zs_60_25, ↓zs_60_26, ↓zs_60_29, ↓zs_60_31, ↓zs_60_32, ↓zs_60_33, ↓zs_60_35, ↓zs_60_37, ↓zs_60_40, ↓zs_60_41, ↓zs_60_44, ↓zs_60_45, ↓zs_60_46, ↓zs_60_47, ↓zs_60_50, ↓zs_60_51, ↓zs_60_52, ↓zs_60_55, ↓zs_60_58, ↓zs_60_59, zx_pu_s, zx_pu_n, zx_rv_s, zx_rv_n, true_and, and_true, true_or, or_true, zb_0, zb_1, zq_lcl, zq_lcg, zq_lce, eq_self, ite_true, ite_false, kS, zt_ushr hk, g1, g2, c1, c2, zl_10, reduceCtorEq]
      simp only [show ((-11 : Int32) = -10) = False from eq_false (by decide), if_false]
    · rw [decide_eq_false c2] at g2
      simp (disch := omega) only [↓zs_60_0, ↓zs_60_1, ↓zs_60_4, ↓zs_60_5, ↓zs_60_6, ↓zs_60_7, ↓zs_60_8, ↓zs_60_9, ↓zs_60_10, ↓zs_60_13, ↓zs_60_15, ↓zs_60_16, ↓zs_60_17, ↓zs_60_20, ↓zs_60_21, ↓zs_60_22, ↓zs_60_23, ↓zs_60_24, ↓zs_60_25, ↓zs_60_26, ↓zs_60_29, ↓zs_60_31, ↓zs_60_32, ↓zs_60_33, ↓zs_60_35, ↓zs_60_37, ↓zs_60_40, ↓zs_60_41, ↓zs_60_44, ↓zs_60_45, ↓zs_60_46, ↓zs_60_47, ↓zs_60_50, ↓zs_60_51, ↓zs_60_52, ↓zs_60_55, ↓zs_60_58, ↓zs_60_59, zx_pu_s, zx_pu_n, zx_rv_s, zx_rv_n, true_and, and_true, true_or, or_true, zb_0, zb_1, zq_lcl, zq_lcg, zq_lce, eq_self, ite_true, ite_false, kS, zt_ushr hk, g1, g2, c1, c2, zl_10, reduceCtorEq]
      rw [loop 8 0 rfl, e8]
theorem zq_mulI {x y : Int32} {a b : Int} (hx : x.toInt = a) (hy : y.toInt = b) (h1 : -2147483648 ≤ a * b) (h2 : a * b < 2147483648) : (x * y).toInt = a * b := by
  rw [Int32.toInt_mul, hx, hy]
  exact Int.bmod_eq_of_le (by omega) (by omega)
theorem sc_seenBy {s : Nat} (hS : zx_sq S) (hT : zx_st T) (si : zx_SI I) (hs : s < 8) (hw : I S 6 = nI w) (hh : I S 7 = nI h) (gr : zR_ground J S B) (g : zM_ground B) (ex : zM_excl B) (rel : zR_st I T B) (ok : zM_ok B w h N) : zx_rn (d + 3) 64 [.ref S, .ref T, .int (nI s)] (zx_LL Lh) I J P = P (some (.int (zf_end B N (zf_look B w h N s).2))) (zx_LL Lh) I J := by
  obtain ⟨k0, k1, k2, k3⟩ := zT_k (Lh := Lh) hT
  obtain ⟨q0, q1, q2⟩ := zT_q (Lh := Lh) hT
  have kS := (zS_k (Lh := Lh) hS).1
  have hates := fun P => sc_hatesB (d := d + 1) (Lh := Lh) (J := J) (P := P) hT hs rel ok
  have look := fun P => sc_lookB (d := d) (Lh := Lh) (J := J) (P := P) hS hT si hs hw hh gr g rel ok
  have takn := fun P => sc_takenT (d := d + 2) (Lh := Lh) (J := J) (P := P) hS hT rel ok
  have ht : ∀ k, k < 64 → zx_rn (d + 2) 60 [.ref S, .ref T, .int (nI k)] (zx_LL Lh) I J = fun P => P (some (.int (zf_stand B N k))) (zx_LL Lh) I J := fun k hk => funext fun P => sc_standing hS hT gr rel ok hk
  rw [ze_64]
  by_cases hf : zf_hasFoe B s = true
  · obtain ⟨f, p, q, hf8, hp, hq, i1, i2, i3⟩ := zM_hasFoe ok hs hf
    obtain ⟨dr, hd, i4⟩ := (ok.2 s hs).2.2.1
    have w8 : w ≤ 8 := ok.1.2.2.2.1
    have h8 : h ≤ 8 := ok.1.2.2.2.2.1
    have hwh : w * h ≤ 64 := Nat.mul_le_mul w8 h8
    have w0 : 0 < w := Nat.pos_of_ne_zero (fun e => by rw [e, Nat.zero_mul] at hp; omega)
    have j2 : I (T + 1) s = nI p := (rel.2 s hs).1.trans i2
    have j4 : I (T + 2) s = nI dr := (rel.2 s hs).2.1.trans i4
    have c1 := fun P => sc_columnOf (d := d + 2) (Lh := Lh) (J := J) (P := P) (p := p) hS hw w0 w8 (by omega)
    have c3 := fun P => sc_rowOf (d := d + 2) (Lh := Lh) (J := J) (P := P) (p := p) hS hw w0 w8 (by omega)
    have x1 := zx_SI_x si hd
    have y1 := zx_SI_y si hd
    have m1 := Nat.mod_lt p w0
    have m2 := Nat.div_lt_of_lt_mul hp
    have z1 := Int.natCast_nonneg (p % w)
    have z2 := Int.natCast_nonneg (p / w)
    have z3 : ((p % w : Nat) : Int) < w := Int.ofNat_lt.mpr m1
    have z4 : ((p / w : Nat) : Int) < h := Int.ofNat_lt.mpr m2
    have N8 : N ≤ 8 := ok.1.2.2.2.2.2
    have hm := zf_me_dec hd ⟨z1, z3, z2, z4⟩
    have hm8 := zf_me8 (dr := dr) w8 h8 ⟨z1, z3, z2, z4⟩
    obtain ⟨n, n1, n2, n3⟩ := zf_walk_end (tk := zf_taken B N) hwh hd 8 (((p % w : Nat) : Int) + zf_dx dr) (((p / w : Nat) : Int) + zf_dy dr) (lN 0) (by omega) (by
      intro k x2 y2 e c
      rw [zt_0] at c
      cases c)
    have el : zf_look B w h N s = zf_walk w h (zf_dx dr) (zf_dy dr) (zf_taken B N) 8 (((p % w : Nat) : Int) + zf_dx dr) (((p / w : Nat) : Int) + zf_dy dr) (lN 0) := by
      unfold zf_look zf_lookT
      rw [if_pos hf, i2, i4, zf_nat, zf_nat, nI_clamp (by omega), nI_clamp (by omega)]
    rw [← el] at n2 n3
    have n0 : zf_cnt (zf_bit (lN 0)) 64 0 = 0 := zf_cnt_0 _ _ _ (fun j _ _ => zt_0 j)
    rw [n0, Nat.zero_add] at n2
    have bc : ∀ P, zx_rn (d + 2) 276 [.long (zf_look B w h N s).1] (zx_LL Lh) I J P = P (some (.int (nI n))) (zx_LL Lh) I J := fun P => by rw [zl_bitCount, n2]
    obtain ⟨g1, g2, g3, g4⟩ := zf_dxy1 hd
    have v1 : (nI (p % w) + nI (n + 1) * I 5001 dr).toInt = ((p % w : Nat) : Int) + zf_dx dr + n * zf_dx dr := by
      have b1 : -((n : Int) + 1) ≤ ((n : Int) + 1) * zf_dx dr ∧ ((n : Int) + 1) * zf_dx dr ≤ (n : Int) + 1 := by
        rcases (show zf_dx dr = -1 ∨ zf_dx dr = 0 ∨ zf_dx dr = 1 by omega) with e | e | e <;> rw [e] <;> omega
      have a1 : (nI (n + 1) * I 5001 dr).toInt = ((n : Int) + 1) * zf_dx dr := zq_mulI (nI_toInt (by omega)) x1 (by omega) (by omega)
      rw [zq_addI (nI_toInt (by omega)) a1 (by omega) (by omega), Int.add_mul]
      omega
    have v2 : (nI (p / w) + nI (n + 1) * I 5002 dr).toInt = ((p / w : Nat) : Int) + zf_dy dr + n * zf_dy dr := by
      have b1 : -((n : Int) + 1) ≤ ((n : Int) + 1) * zf_dy dr ∧ ((n : Int) + 1) * zf_dy dr ≤ (n : Int) + 1 := by
        rcases (show zf_dy dr = -1 ∨ zf_dy dr = 0 ∨ zf_dy dr = 1 by omega) with e | e | e <;> rw [e] <;> omega
      have a1 : (nI (n + 1) * I 5002 dr).toInt = ((n : Int) + 1) * zf_dy dr := zq_mulI (nI_toInt (by omega)) y1 (by omega) (by omega)
      rw [zq_addI (nI_toInt (by omega)) a1 (by omega) (by omega), Int.add_mul]
      omega
    simp (disch := omega) only [↓zs_64_0, ↓zs_64_1, ↓zs_64_4, ↓zs_64_5, ↓zs_64_7, ↓zs_64_10, ↓zs_64_11, ↓zs_64_12, ↓zs_64_15, ↓zs_64_18, ↓zs_64_19, ↓zs_64_20, ↓zs_64_21, ↓zs_64_22, ↓zs_64_23, ↓zs_64_24, ↓zs_64_25, ↓zs_64_28, ↓zs_64_31, ↓zs_64_34, ↓zs_64_35, ↓zs_64_36, ↓zs_64_37, ↓zs_64_38, ↓zs_64_39, ↓zs_64_42, ↓zs_64_43, ↓zs_64_44, zx_pu_s, zx_pu_n, zx_rv_s, zx_rv_n, true_and, and_true, true_or, or_true, zb_0, zb_1, zq_lcl, zq_lcg, zq_lce, eq_self, ite_true, ite_false, zin_nI, nI_clamp, nI_ltI, zn_lt0, hs, hates, zB_0, hf, reduceCtorEq, k0, k1, kS, takn, look, bc, q0, j2, c1, nI_add]
    simp (disch := omega) only [↓zs_64_47, ↓zs_64_48, ↓zs_64_51, ↓zs_64_52, ↓zs_64_55, ↓zs_64_56, ↓zs_64_57, ↓zs_64_59, ↓zs_64_60, ↓zs_64_61, ↓zs_64_62, ↓zs_64_63, ↓zs_64_65, ↓zs_64_66, ↓zs_64_67, ↓zs_64_70, ↓zs_64_71, ↓zs_64_72, ↓zs_64_75, ↓zs_64_76, ↓zs_64_79, ↓zs_64_80, ↓zs_64_83, ↓zs_64_84, ↓zs_64_85, ↓zs_64_87, ↓zs_64_88, ↓zs_64_89, ↓zs_64_90, ↓zs_64_91, zx_pu_s, zx_pu_n, zx_rv_s, zx_rv_n, true_and, and_true, true_or, or_true, zb_0, zb_1, zq_lcl, zq_lcg, zq_lce, eq_self, ite_true, ite_false, zin_nI, nI_clamp, k0, k1, k2, kS, q0, q1, zk_5001, zk_5002, j2, j4, zq_and7, c3]
    generalize nI (p % w) + nI (n + 1) * I 5001 dr = X at *
    generalize nI (p / w) + nI (n + 1) * I 5002 dr = Y at *
    rw [n3]
    generalize ((p % w : Nat) : Int) + zf_dx dr + n * zf_dx dr = x at *
    generalize ((p / w : Nat) : Int) + zf_dy dr + n * zf_dy dr = y at *
    have ew := zq_ltn X (n := w) (by omega)
    have eh := zq_ltn Y (n := h) (by omega)
    cases e : zf_at w h x y with
    | none =>
      have hn := zf_at_none e
      by_cases d1 : x < 0
      · simp (disch := omega) only [↓zs_64_93, ↓zs_64_95, ↓zs_64_98, ↓zs_64_100, ↓zs_64_101, ↓zs_64_104, ↓zs_64_107, ↓zs_64_109, ↓zs_64_112, ↓zs_64_114, ↓zs_64_115, ↓zs_64_118, ↓zs_64_121, ↓zs_64_122, ↓zs_64_123, ↓zs_64_124, ↓zs_64_125, ↓zs_64_126, ↓zs_64_127, ↓zs_64_130, ↓zs_64_132, ↓zs_64_133, ↓zs_64_135, ↓zs_64_136, ↓zs_64_139, ↓zs_64_142, zx_pu_s, zx_pu_n, zx_rv_s, zx_rv_n, true_and, and_true, true_or, or_true, zb_0, zb_1, zq_lcl, zq_lcg, zq_lce, eq_self, ite_true, ite_false, zq_lt0, v1, d1]
        rfl
      · by_cases d2 : x < w
        · by_cases d3 : y < 0
          · simp (disch := omega) only [↓zs_64_93, ↓zs_64_95, ↓zs_64_98, ↓zs_64_100, ↓zs_64_101, ↓zs_64_104, ↓zs_64_107, ↓zs_64_109, ↓zs_64_112, ↓zs_64_114, ↓zs_64_115, ↓zs_64_118, ↓zs_64_121, ↓zs_64_122, ↓zs_64_123, ↓zs_64_124, ↓zs_64_125, ↓zs_64_126, ↓zs_64_127, ↓zs_64_130, ↓zs_64_132, ↓zs_64_133, ↓zs_64_135, ↓zs_64_136, ↓zs_64_139, ↓zs_64_142, zx_pu_s, zx_pu_n, zx_rv_s, zx_rv_n, true_and, and_true, true_or, or_true, zb_0, zb_1, zq_lcl, zq_lcg, zq_lce, eq_self, ite_true, ite_false, zq_lt0, ew, v1, v2, d1, d2, d3, kS, hw]
            rfl
          · have d4 : ¬ y < h := by omega
            simp (disch := omega) only [↓zs_64_93, ↓zs_64_95, ↓zs_64_98, ↓zs_64_100, ↓zs_64_101, ↓zs_64_104, ↓zs_64_107, ↓zs_64_109, ↓zs_64_112, ↓zs_64_114, ↓zs_64_115, ↓zs_64_118, ↓zs_64_121, ↓zs_64_122, ↓zs_64_123, ↓zs_64_124, ↓zs_64_125, ↓zs_64_126, ↓zs_64_127, ↓zs_64_130, ↓zs_64_132, ↓zs_64_133, ↓zs_64_135, ↓zs_64_136, ↓zs_64_139, ↓zs_64_142, zx_pu_s, zx_pu_n, zx_rv_s, zx_rv_n, true_and, and_true, true_or, or_true, zb_0, zb_1, zq_lcl, zq_lcg, zq_lce, eq_self, ite_true, ite_false, zq_lt0, ew, eh, v1, v2, d1, d2, d3, d4, kS, hw, hh]
            rfl
        · simp (disch := omega) only [↓zs_64_93, ↓zs_64_95, ↓zs_64_98, ↓zs_64_100, ↓zs_64_101, ↓zs_64_104, ↓zs_64_107, ↓zs_64_109, ↓zs_64_112, ↓zs_64_114, ↓zs_64_115, ↓zs_64_118, ↓zs_64_121, ↓zs_64_122, ↓zs_64_123, ↓zs_64_124, ↓zs_64_125, ↓zs_64_126, ↓zs_64_127, ↓zs_64_130, ↓zs_64_132, ↓zs_64_133, ↓zs_64_135, ↓zs_64_136, ↓zs_64_139, ↓zs_64_142, zx_pu_s, zx_pu_n, zx_rv_s, zx_rv_n, true_and, and_true, true_or, or_true, zb_0, zb_1, zq_lcl, zq_lcg, zq_lce, eq_self, ite_true, ite_false, zq_lt0, ew, v1, d1, d2, kS, hw]
          rfl
    | some k =>
      obtain ⟨a1, a2, a3, a4, ek, -, -, hk⟩ := zf_at_some e
      obtain rfl : X = nI x.toNat := Int32.toInt_inj.mp (by rw [v1, nI_toInt (by omega)]; omega)
      obtain rfl : Y = nI y.toNat := Int32.toInt_inj.mp (by rw [v2, nI_toInt (by omega)]; omega)
      have b1 : x.toNat < w := by omega
      have b2 : y.toNat < h := by omega
      have e5 : (if -1 < zf_stand B N k then zf_stand B N k else -1) = zf_on B (nI k) N 0 := by
        unfold zf_stand
        by_cases c1 : B (45 + k) = -10
        · rw [if_pos c1, zf_on_none _ _ _ _ (fun i _ h2 => (ex k i (by omega) (by omega) (by rw [c1]; decide)).2)]
          decide
        · rw [if_neg c1]
          by_cases c2 : B (45 + k) = -11
          · rw [if_pos c2, zf_on_none _ _ _ _ (fun i _ h2 => (ex k i (by omega) (by omega) (by rw [c2]; decide)).2)]
            decide
          · rw [if_neg c2]
            rcases zf_on_opt B (nI k) N 0 with o | ⟨i, o1, o2, o3, o4⟩
            · rw [o]; decide
            · rw [o4, if_pos (by
                rw [Int32.lt_iff_toInt_lt, nI_toInt (by omega), show (-1 : Int32).toInt = -1 by decide +kernel]
                omega)]
      simp (disch := omega) only [↓zs_64_93, ↓zs_64_95, ↓zs_64_98, ↓zs_64_100, ↓zs_64_101, ↓zs_64_104, ↓zs_64_107, ↓zs_64_109, ↓zs_64_112, ↓zs_64_114, ↓zs_64_115, ↓zs_64_118, ↓zs_64_121, ↓zs_64_122, ↓zs_64_123, ↓zs_64_124, ↓zs_64_125, ↓zs_64_126, ↓zs_64_127, ↓zs_64_130, ↓zs_64_132, ↓zs_64_133, ↓zs_64_135, ↓zs_64_136, ↓zs_64_139, ↓zs_64_142, zx_pu_s, zx_pu_n, zx_rv_s, zx_rv_n, true_and, and_true, true_or, or_true, zb_0, zb_1, zq_lcl, zq_lcg, zq_lce, eq_self, ite_true, ite_false, nI_ltI, pk_mul, nI_add, zn_lt0, b1, b2, kS, hw, hh, ← ek, ht, e5]
      rfl
  · rw [Bool.not_eq_true] at hf
    have el : zf_look B w h N s = (lN 0, none) := by
      unfold zf_look zf_lookT
      rw [if_neg (by rw [hf]; decide)]
    rw [el]
    simp (disch := omega) only [↓zs_64_0, ↓zs_64_1, ↓zs_64_4, ↓zs_64_5, ↓zs_64_7, ↓zs_64_10, ↓zs_64_11, ↓zs_64_12, ↓zs_64_15, ↓zs_64_18, ↓zs_64_19, ↓zs_64_20, ↓zs_64_21, ↓zs_64_22, ↓zs_64_23, ↓zs_64_24, ↓zs_64_25, ↓zs_64_28, ↓zs_64_31, ↓zs_64_34, ↓zs_64_35, ↓zs_64_36, ↓zs_64_37, ↓zs_64_38, ↓zs_64_39, ↓zs_64_42, ↓zs_64_43, ↓zs_64_44, zx_pu_s, zx_pu_n, zx_rv_s, zx_rv_n, true_and, and_true, true_or, or_true, zb_0, zb_1, zq_lcl, zq_lcg, zq_lce, eq_self, ite_true, ite_false, nI_ltI, zn_lt0, hs, hates, zB_0, hf, reduceCtorEq, k0]
    rfl
end SE
