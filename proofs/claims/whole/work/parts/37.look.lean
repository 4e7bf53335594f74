/-! a look: the STONES of a row -/
/-- the STONE at x, y -/
def zf_at (w h : Nat) (x y : Int) : Option Nat := if (zf_in x w && zf_in y h) = true then some (w * y.toNat + x.toNat) else none
theorem zf_bey_at (w h k dr : Nat) : zf_bey w h k dr = zf_at w h (((k % w : Nat) : Int) + zf_dx dr) (((k / w : Nat) : Int) + zf_dy dr) := rfl
theorem zf_at_some {w h k : Nat} {x y : Int} (e : zf_at w h x y = some k) : 0 ≤ x ∧ x < w ∧ 0 ≤ y ∧ y < h ∧ k = w * y.toNat + x.toNat ∧ k % w = x.toNat ∧ k / w = y.toNat ∧ k < w * h := by
  unfold zf_at at e
  by_cases c : (zf_in x w && zf_in y h) = true
  · rw [if_pos c] at e
    rw [Bool.and_eq_true, zf_inP, zf_inP] at c
    obtain ⟨⟨a1, a2⟩, a3, a4⟩ := c
    have ek : w * y.toNat + x.toNat = k := Option.some.inj e
    have w0 : 0 < w := by omega
    have hx : x.toNat < w := by omega
    refine ⟨a1, a2, a3, a4, ek.symm, ?_, ?_, ?_⟩
    · rw [← ek, Nat.mul_add_mod, Nat.mod_eq_of_lt hx]
    · rw [← ek, Nat.mul_add_div w0, Nat.div_eq_of_lt hx, Nat.add_zero]
    · have h1 : y.toNat + 1 ≤ h := by omega
      have h2 := Nat.mul_le_mul_left w h1
      rw [Nat.mul_add, Nat.mul_one] at h2
      omega
  · rw [if_neg c] at e
    cases e
theorem zf_at_none {w h : Nat} {x y : Int} (e : zf_at w h x y = none) : ¬ (0 ≤ x ∧ x < w ∧ 0 ≤ y ∧ y < h) := by
  intro ⟨a1, a2, a3, a4⟩
  unfold zf_at at e
  rw [if_pos (by rw [Bool.and_eq_true, zf_inP, zf_inP]; exact ⟨⟨a1, a2⟩, a3, a4⟩)] at e
  cases e
/-- the row's STONES as bits, b before them, up to the first that is taken; that one -/
def zf_walk (w h : Nat) (dx dy : Int) (tk : Nat → Bool) : Nat → Int → Int → Int64 → Int64 × Option Nat
  | 0, _, _, b => (b, none)
  | f + 1, x, y, b => match zf_at w h x y with
    | none => (b, none)
    | some k => if tk k = true then (b, some k) else zf_walk w h dx dy tk f (x + dx) (y + dy) (b ||| zf_one k)
theorem zf_walk_n {w h : Nat} {dx dy : Int} {tk : Nat → Bool} {f : Nat} {x y : Int} {b : Int64} (e : zf_at w h x y = none) : zf_walk w h dx dy tk f x y b = (b, none) := by
  cases f with
  | zero => rfl
  | succ f => rw [zf_walk, e]
theorem zf_walk_t {w h k : Nat} {dx dy : Int} {tk : Nat → Bool} {f : Nat} {x y : Int} {b : Int64} (e : zf_at w h x y = some k) (t : tk k = true) : zf_walk w h dx dy tk (f + 1) x y b = (b, some k) := by
  rw [zf_walk, e]; exact if_pos t
theorem zf_walk_f {w h k : Nat} {dx dy : Int} {tk : Nat → Bool} {f : Nat} {x y : Int} {b : Int64} (e : zf_at w h x y = some k) (t : tk k = false) : zf_walk w h dx dy tk (f + 1) x y b = zf_walk w h dx dy tk f (x + dx) (y + dy) (b ||| zf_one k) := by
  rw [zf_walk, e]; exact if_neg (by rw [t]; exact Bool.false_ne_true)
/-- how many STONES the row may still have -/
def zf_me (w h : Nat) (dx dy : Int) (x y : Int) : Nat := if dx = 1 then (w - x).toNat else if dx = -1 then (x + 1).toNat else if dy = 1 then (h - y).toNat else (y + 1).toNat
theorem zf_dxy {dr : Nat} (h : dr < 8) : zf_dx dr = 1 ∨ zf_dx dr = -1 ∨ (zf_dx dr = 0 ∧ (zf_dy dr = 1 ∨ zf_dy dr = -1)) := by
  have q : ∀ d : Fin 8, zf_dx d.1 = 1 ∨ zf_dx d.1 = -1 ∨ (zf_dx d.1 = 0 ∧ (zf_dy d.1 = 1 ∨ zf_dy d.1 = -1)) := by decide +kernel
  exact q ⟨dr, h⟩
theorem zf_dxy1 {dr : Nat} (h : dr < 8) : -1 ≤ zf_dx dr ∧ zf_dx dr ≤ 1 ∧ -1 ≤ zf_dy dr ∧ zf_dy dr ≤ 1 := by
  have q : ∀ d : Fin 8, -1 ≤ zf_dx d.1 ∧ zf_dx d.1 ≤ 1 ∧ -1 ≤ zf_dy d.1 ∧ zf_dy d.1 ≤ 1 := by decide +kernel
  exact q ⟨dr, h⟩
theorem zf_me_dec {w h dr : Nat} {x y : Int} (hd : dr < 8) (a : 0 ≤ x ∧ x < w ∧ 0 ≤ y ∧ y < h) : zf_me w h (zf_dx dr) (zf_dy dr) (x + zf_dx dr) (y + zf_dy dr) + 1 = zf_me w h (zf_dx dr) (zf_dy dr) x y := by
  unfold zf_me
  rcases zf_dxy hd with e | e | ⟨e, e2 | e2⟩
  · rw [e, if_pos rfl, if_pos rfl]; omega
  · rw [e, if_neg (by decide), if_pos rfl, if_neg (by decide), if_pos rfl]; omega
  · rw [e, e2, if_neg (by decide), if_neg (by decide), if_pos rfl, if_neg (by decide), if_neg (by decide), if_pos rfl]; omega
  · rw [e, e2, if_neg (by decide), if_neg (by decide), if_neg (by decide), if_neg (by decide), if_neg (by decide), if_neg (by decide)]; omega
theorem zf_me8 {w h dr : Nat} {x y : Int} (w8 : w ≤ 8) (h8 : h ≤ 8) (a : 0 ≤ x ∧ x < w ∧ 0 ≤ y ∧ y < h) : zf_me w h (zf_dx dr) (zf_dy dr) x y ≤ 8 := by
  unfold zf_me
  repeat' split
  all_goals omega
/-- the LOOK of a STATUE, and the STONE that ends it -/
def zf_lookT (B : Nat → Int32) (w h : Nat) (tk : Nat → Bool) (s : Nat) : Int64 × Option Nat :=
  if zf_hasFoe B s = true then zf_walk w h (zf_dx (zf_nat (B (117 + s)))) (zf_dy (zf_nat (B (117 + s)))) tk 8 (((zf_nat (B (109 + s)) % w : Nat) : Int) + zf_dx (zf_nat (B (117 + s)))) (((zf_nat (B (109 + s)) / w : Nat) : Int) + zf_dy (zf_nat (B (117 + s)))) (lN 0) else (lN 0, none)
def zf_look (B : Nat → Int32) (w h N s : Nat) : Int64 × Option Nat := zf_lookT B w h (zf_taken B N) s
def zf_end (B : Nat → Int32) (N : Nat) (o : Option Nat) : Int32 := match o with
  | none => -1
  | some k => zf_on B (nI k) N 0
section LK
variable {d Lh w h N : Nat} {I : zx_MI} {J : zx_MJ} {P : Option Value → zx_Lay → zx_MI → zx_MJ → Prop}
theorem zu_u {α : Type} (f : Nat → Nat → α) (a j : Nat) (x y : α) : zx_u (zx_u f a j x) a j y = zx_u f a j y := by
  funext b i
  unfold zx_u
  by_cases e : b = a ∧ i = j
  · rw [if_pos e, if_pos e]
  · rw [if_neg e, if_neg e, if_neg e]
/-- the end of a look as it is put down -/
def zf_put (I : zx_MI) (N : Nat) (o : Option Nat) : zx_MI := match o with
  | none => I
  | some k => zx_u I 138 15 (zf_on (I 139) (nI k) N 0)
theorem sp_look_loop {s dr : Nat} (si : zx_SI I) (hs : s < 8) (ok : zM_ok (I 139) w h N) (w0 : 0 < w) (hd : dr < 8) (hdr : I 139 (117 + s) = nI dr) : ∀ (f : Nat) (x y : Int) (b : Int64), zf_me w h (zf_dx dr) (zf_dy dr) x y ≤ f → zx_wp (d + 5) 193 41 [.ref 138, .int (nI s), .long b, zx_u0, .int (zf_oI (zf_at w h x y))] [] (zx_LL Lh) I J P = P (some (.long (zf_walk w h (zf_dx dr) (zf_dy dr) (zf_taken (I 139) N) f x y b).1)) (zx_LL Lh) (zf_put I N (zf_walk w h (zf_dx dr) (zf_dy dr) (zf_taken (I 139) N) f x y b).2) J := by
  obtain ⟨⟨hw, hh, hN, w8, h8, N8⟩, _⟩ := ok
  have hwh : w * h ≤ 64 := Nat.mul_le_mul w8 h8
  have none_case : ∀ (f : Nat) (x y : Int) (b : Int64), zf_at w h x y = none → zx_wp (d + 5) 193 41 [.ref 138, .int (nI s), .long b, zx_u0, .int (zf_oI (zf_at w h x y))] [] (zx_LL Lh) I J P = P (some (.long (zf_walk w h (zf_dx dr) (zf_dy dr) (zf_taken (I 139) N) f x y b).1)) (zx_LL Lh) (zf_put I N (zf_walk w h (zf_dx dr) (zf_dy dr) (zf_taken (I 139) N) f x y b).2) J := by
    intro f x y b e
    rw [zf_walk_n e, e, zs_193_41]
    simp (disch := omega) only [↓zs_193_0, ↓zs_193_1, ↓zs_193_2, ↓zs_193_5, ↓zs_193_6, ↓zs_193_7, ↓zs_193_10, ↓zs_193_13, ↓zs_193_14, ↓zs_193_15, ↓zs_193_16, ↓zs_193_17, ↓zs_193_18, ↓zs_193_19, ↓zs_193_22, ↓zs_193_24, ↓zs_193_25, ↓zs_193_26, ↓zs_193_27, ↓zs_193_28, ↓zs_193_31, ↓zs_193_33, ↓zs_193_34, ↓zs_193_35, ↓zs_193_36, ↓zs_193_39, ↓zs_193_43, ↓zs_193_44, ↓zs_193_47, ↓zs_193_48, ↓zs_193_50, ↓zs_193_53, ↓zs_193_56, ↓zs_193_57, ↓zs_193_58, ↓zs_193_60, ↓zs_193_61, ↓zs_193_62, ↓zs_193_63, ↓zs_193_64, ↓zs_193_66, ↓zs_193_67, ↓zs_193_70, ↓zs_193_72, ↓zs_193_73, ↓zs_193_74, ↓zs_193_75, ↓zs_193_78, ↓zs_193_80, ↓zs_193_83, ↓zs_193_85, ↓zs_193_86, ↓zs_193_89, ↓zs_193_90, ↓zs_193_91, ↓zs_193_94, ↓zs_193_96, ↓zs_193_99, ↓zs_193_102, ↓zs_193_103, zx_pu_s, zx_pu_n, zx_rv_s, zx_rv_n, true_and, and_true, true_or, or_true, zb_0, zb_1, zq_lcl, zq_lcg, zq_lce, eq_self, ite_true, ite_false, zk_138, zw_138, zk_139, zw_139, zk_140, zw_140, zk_141, zw_141, zk_142, zw_142, zk_143, zw_143, zk_144, zw_144, zk_145, zw_145, zk_146, zw_146, zk_147, zw_147, zk_148, zw_148, zk_149, zw_149, zk_150, zw_150, zk_151, zw_151, zk_152, zw_152, zq_138_1, zq_138_2, zq_138_3, zq_138_4, zq_138_16, zq_138_19, zq_138_20, zq_138_24, zq_138_25, zq_138_26, zq_138_27, zq_138_31, zq_138_32, zq_138_33, zn_10, zn_40, zn_040, zn_340, nI_add, zin_nI, nI_clamp, nI_ltI, nI_eq, pk_mul, nI_l, zf_oI]
    rfl
  intro f
  induction f with
  | zero =>
    intro x y b hm
    refine none_case 0 x y b ?_
    cases e : zf_at w h x y with
    | none => rfl
    | some k =>
      obtain ⟨a1, a2, a3, a4, _⟩ := zf_at_some e
      have := zf_me_dec hd ⟨a1, a2, a3, a4⟩
      omega
  | succ f ih =>
    intro x y b hm
    cases e : zf_at w h x y with
    | none => rw [← e]; exact none_case (f + 1) x y b e
    | some k =>
      obtain ⟨a1, a2, a3, a4, ek, ex, ey, hk⟩ := zf_at_some e
      have hm2 := zf_me_dec hd ⟨a1, a2, a3, a4⟩
      have ht : ∀ P, zx_rn (d + 4) 187 [.ref 138, .int (nI k)] (zx_LL Lh) I J P = P (some (.int (zB (zf_taken (I 139) N k)))) (zx_LL Lh) I J := fun P => sp_isTaken (by omega) N8 hN
      have hon := fun P => sp_statueOn (d := d + 4) (Lh := Lh) (J := J) (P := P) (k := nI k) (a := 139) (n := 3858) rfl (by omega) (by omega) N8 hN
      have hb : ∀ P, zx_rn (d + 4) 192 [.ref 138, .int (nI k), .int (nI dr)] (zx_LL Lh) I J P = P (some (.int (zf_oI (zf_at w h (x + zf_dx dr) (y + zf_dy dr))))) (zx_LL Lh) I J := by
        intro P
        rw [sp_beyond si hw hh w0 w8 h8 hk hd, zf_bey_at, ex, ey, Int.toNat_of_nonneg a1, Int.toNat_of_nonneg a3]
      rw [zs_193_41]
      cases t : zf_taken (I 139) N k with
      | true =>
        rw [zf_walk_t e t]
        simp (disch := omega) only [↓zs_193_0, ↓zs_193_1, ↓zs_193_2, ↓zs_193_5, ↓zs_193_6, ↓zs_193_7, ↓zs_193_10, ↓zs_193_13, ↓zs_193_14, ↓zs_193_15, ↓zs_193_16, ↓zs_193_17, ↓zs_193_18, ↓zs_193_19, ↓zs_193_22, ↓zs_193_24, ↓zs_193_25, ↓zs_193_26, ↓zs_193_27, ↓zs_193_28, ↓zs_193_31, ↓zs_193_33, ↓zs_193_34, ↓zs_193_35, ↓zs_193_36, ↓zs_193_39, ↓zs_193_43, ↓zs_193_44, ↓zs_193_47, ↓zs_193_48, ↓zs_193_50, ↓zs_193_53, ↓zs_193_56, ↓zs_193_57, ↓zs_193_58, ↓zs_193_60, ↓zs_193_61, ↓zs_193_62, ↓zs_193_63, ↓zs_193_64, ↓zs_193_66, ↓zs_193_67, ↓zs_193_70, ↓zs_193_72, ↓zs_193_73, ↓zs_193_74, ↓zs_193_75, ↓zs_193_78, ↓zs_193_80, ↓zs_193_83, ↓zs_193_85, ↓zs_193_86, ↓zs_193_89, ↓zs_193_90, ↓zs_193_91, ↓zs_193_94, ↓zs_193_96, ↓zs_193_99, ↓zs_193_102, ↓zs_193_103, zx_pu_s, zx_pu_n, zx_rv_s, zx_rv_n, true_and, and_true, true_or, or_true, zb_0, zb_1, zq_lcl, zq_lcg, zq_lce, eq_self, ite_true, ite_false, zk_138, zw_138, zk_139, zw_139, zk_140, zw_140, zk_141, zw_141, zk_142, zw_142, zk_143, zw_143, zk_144, zw_144, zk_145, zw_145, zk_146, zw_146, zk_147, zw_147, zk_148, zw_148, zk_149, zw_149, zk_150, zw_150, zk_151, zw_151, zk_152, zw_152, zq_138_1, zq_138_2, zq_138_3, zq_138_4, zq_138_16, zq_138_19, zq_138_20, zq_138_24, zq_138_25, zq_138_26, zq_138_27, zq_138_31, zq_138_32, zq_138_33, zin_nI, nI_clamp, nI_add, zf_oI, zq_m1, ht, t, zB_0, reduceCtorEq, hon]
        rfl
      | false =>
        rw [zf_walk_f e t]
        simp (disch := omega) only [↓zs_193_0, ↓zs_193_1, ↓zs_193_2, ↓zs_193_5, ↓zs_193_6, ↓zs_193_7, ↓zs_193_10, ↓zs_193_13, ↓zs_193_14, ↓zs_193_15, ↓zs_193_16, ↓zs_193_17, ↓zs_193_18, ↓zs_193_19, ↓zs_193_22, ↓zs_193_24, ↓zs_193_25, ↓zs_193_26, ↓zs_193_27, ↓zs_193_28, ↓zs_193_31, ↓zs_193_33, ↓zs_193_34, ↓zs_193_35, ↓zs_193_36, ↓zs_193_39, ↓zs_193_43, ↓zs_193_44, ↓zs_193_47, ↓zs_193_48, ↓zs_193_50, ↓zs_193_53, ↓zs_193_56, ↓zs_193_57, ↓zs_193_58, ↓zs_193_60, ↓zs_193_61, ↓zs_193_62, ↓zs_193_63, ↓zs_193_64, ↓zs_193_66, ↓zs_193_67, ↓zs_193_70, ↓zs_193_72, ↓zs_193_73, ↓zs_193_74, ↓zs_193_75, ↓zs_193_78, ↓zs_193_80, ↓zs_193_83, ↓zs_193_85, ↓zs_193_86, ↓zs_193_89, ↓zs_193_90, ↓zs_193_91, ↓zs_193_94, ↓zs_193_96, ↓zs_193_99, ↓zs_193_102, ↓zs_193_103, zx_pu_s, zx_pu_n, zx_rv_s, zx_rv_n, true_and, and_true, true_or, or_true, zb_0, zb_1, zq_lcl, zq_lcg, zq_lce, eq_self, ite_true, ite_false, zk_138, zw_138, zk_139, zw_139, zk_140, zw_140, zk_141, zw_141, zk_142, zw_142, zk_143, zw_143, zk_144, zw_144, zk_145, zw_145, zk_146, zw_146, zk_147, zw_147, zk_148, zw_148, zk_149, zw_149, zk_150, zw_150, zk_151, zw_151, zk_152, zw_152, zq_138_1, zq_138_2, zq_138_3, zq_138_4, zq_138_16, zq_138_19, zq_138_20, zq_138_24, zq_138_25, zq_138_26, zq_138_27, zq_138_31, zq_138_32, zq_138_33, zin_nI, nI_clamp, nI_add, zf_oI, zq_m1, ht, t, zB_0, reduceCtorEq, hb, hdr]
        exact ih (x + zf_dx dr) (y + zf_dy dr) (b ||| zf_one k) (by omega)
theorem sp_look {s : Nat} (si : zx_SI I) (hs : s < 8) (ok : zM_ok (I 139) w h N) : zx_rn (d + 5) 193 [.ref 138, .int (nI s)] (zx_LL Lh) I J P = P (some (.long (zf_look (I 139) w h N s).1)) (zx_LL Lh) (zx_u I 138 15 (zf_end (I 139) N (zf_look (I 139) w h N s).2)) J := by
  obtain ⟨I1, e1⟩ : ∃ I1, I1 = zx_u I 138 15 (-1) := ⟨_, rfl⟩
  have e139 : I1 139 = I 139 := by rw [e1]; exact zu_o (by decide)
  have si1 : zx_SI I1 := by
    intro a j ha
    rw [e1, show zx_u I 138 15 (-1) a j = I a j from if_neg (fun e => by omega)]
    exact si a j ha
  have ok1 : zM_ok (I1 139) w h N := by rw [e139]; exact ok
  have hh := fun P => sp_hasFoe (d := d + 3) (Lh := Lh) (J := J) (P := P) hs (zM_foe ok1 hs)
  rw [ze_193]
  unfold zf_look zf_lookT
  by_cases hf : zf_hasFoe (I 139) s = true
  · obtain ⟨f, p, q, hf8, hp, hq, i1, i2, i3⟩ := zM_hasFoe ok hs hf
    obtain ⟨dr, hd, i4⟩ := (ok.2 s hs).2.2.1
    have w8 : w ≤ 8 := ok.1.2.2.2.1
    have h8 : h ≤ 8 := ok.1.2.2.2.2.1
    have hwh : w * h ≤ 64 := Nat.mul_le_mul w8 h8
    have w0 : 0 < w := Nat.pos_of_ne_zero (fun e => by rw [e, Nat.zero_mul] at hp; omega)
    have j2 : I1 139 (109 + s) = nI p := by rw [e139]; exact i2
    have j4 : I1 139 (117 + s) = nI dr := by rw [e139]; exact i4
    have hp2 : 0 ≤ (((p % w : Nat) : Int)) ∧ ((p % w : Nat) : Int) < w ∧ 0 ≤ (((p / w : Nat) : Int)) ∧ ((p / w : Nat) : Int) < h := ⟨Int.natCast_nonneg _, Int.ofNat_lt.mpr (Nat.mod_lt p w0), Int.natCast_nonneg _, Int.ofNat_lt.mpr (Nat.div_lt_of_lt_mul hp)⟩
    have hb : ∀ P, zx_rn (d + 4) 192 [.ref 138, .int (nI p), .int (nI dr)] (zx_LL Lh) I1 J P = P (some (.int (zf_oI (zf_at w h (((p % w : Nat) : Int) + zf_dx dr) (((p / w : Nat) : Int) + zf_dy dr))))) (zx_LL Lh) I1 J := by
      intro P
      rw [sp_beyond si1 ok1.1.1 ok1.1.2.1 w0 w8 h8 hp hd, zf_bey_at]
    simp (disch := omega) only [↓zs_193_0, ↓zs_193_1, ↓zs_193_2, zx_pu_s, zx_pu_n, zx_rv_s, zx_rv_n, true_and, and_true, true_or, or_true, zb_0, zb_1, zq_lcl, zq_lcg, zq_lce, eq_self, ite_true, ite_false, zk_138, zw_138, zk_139, zw_139, zk_140, zw_140, zk_141, zw_141, zk_142, zw_142, zk_143, zw_143, zk_144, zw_144, zk_145, zw_145, zk_146, zw_146, zk_147, zw_147, zk_148, zw_148, zk_149, zw_149, zk_150, zw_150, zk_151, zw_151, zk_152, zw_152, zq_138_1, zq_138_2, zq_138_3, zq_138_4, zq_138_16, zq_138_19, zq_138_20, zq_138_24, zq_138_25, zq_138_26, zq_138_27, zq_138_31, zq_138_32, zq_138_33, ← e1]
    simp (disch := omega) only [↓zs_193_5, ↓zs_193_6, ↓zs_193_7, ↓zs_193_10, ↓zs_193_13, ↓zs_193_14, ↓zs_193_15, ↓zs_193_16, ↓zs_193_17, ↓zs_193_18, ↓zs_193_19, ↓zs_193_22, ↓zs_193_24, ↓zs_193_25, ↓zs_193_26, ↓zs_193_27, ↓zs_193_28, ↓zs_193_31, ↓zs_193_33, ↓zs_193_34, ↓zs_193_35, ↓zs_193_36, ↓zs_193_39, zx_pu_s, zx_pu_n, zx_rv_s, zx_rv_n, true_and, and_true, true_or, or_true, zb_0, zb_1, zq_lcl, zq_lcg, zq_lce, eq_self, ite_true, ite_false, zk_138, zw_138, zk_139, zw_139, zk_140, zw_140, zk_141, zw_141, zk_142, zw_142, zk_143, zw_143, zk_144, zw_144, zk_145, zw_145, zk_146, zw_146, zk_147, zw_147, zk_148, zw_148, zk_149, zw_149, zk_150, zw_150, zk_151, zw_151, zk_152, zw_152, zq_138_1, zq_138_2, zq_138_3, zq_138_4, zq_138_16, zq_138_19, zq_138_20, zq_138_24, zq_138_25, zq_138_26, zq_138_27, zq_138_31, zq_138_32, zq_138_33, zin_nI, nI_clamp, nI_add, hh, e139, hf, zB_0, reduceCtorEq, hb, i2, i4]
    have hm := zf_me_dec hd hp2
    have hm8 := zf_me8 (dr := dr) w8 h8 hp2
    rw [sp_look_loop si1 hs ok1 w0 hd j4 8 _ _ _ (by omega), zf_nat, zf_nat, nI_clamp (by omega), nI_clamp (by omega), e139]
    congr 1
    cases (zf_walk w h (zf_dx dr) (zf_dy dr) (zf_taken (I 139) N) 8 (((p % w : Nat) : Int) + zf_dx dr) (((p / w : Nat) : Int) + zf_dy dr) (lN 0)).2 with
    | none => exact e1
    | some k =>
      show zx_u I1 138 15 (zf_on (I1 139) (nI k) N 0) = zx_u I 138 15 (zf_on (I 139) (nI k) N 0)
      rw [e139, e1, zu_u]
  · rw [Bool.not_eq_true] at hf
    simp (disch := omega) only [↓zs_193_0, ↓zs_193_1, ↓zs_193_2, zx_pu_s, zx_pu_n, zx_rv_s, zx_rv_n, true_and, and_true, true_or, or_true, zb_0, zb_1, zq_lcl, zq_lcg, zq_lce, eq_self, ite_true, ite_false, zk_138, zw_138, zk_139, zw_139, zk_140, zw_140, zk_141, zw_141, zk_142, zw_142, zk_143, zw_143, zk_144, zw_144, zk_145, zw_145, zk_146, zw_146, zk_147, zw_147, zk_148, zw_148, zk_149, zw_149, zk_150, zw_150, zk_151, zw_151, zk_152, zw_152, zq_138_1, zq_138_2, zq_138_3, zq_138_4, zq_138_16, zq_138_19, zq_138_20, zq_138_24, zq_138_25, zq_138_26, zq_138_27, zq_138_31, zq_138_32, zq_138_33, ← e1]
    simp (disch := omega) only [↓zs_193_5, ↓zs_193_6, ↓zs_193_7, ↓zs_193_10, ↓zs_193_13, ↓zs_193_14, ↓zs_193_15, ↓zs_193_16, ↓zs_193_17, ↓zs_193_18, ↓zs_193_19, ↓zs_193_22, ↓zs_193_24, ↓zs_193_25, ↓zs_193_26, ↓zs_193_27, ↓zs_193_28, ↓zs_193_31, ↓zs_193_33, ↓zs_193_34, ↓zs_193_35, ↓zs_193_36, ↓zs_193_39, zx_pu_s, zx_pu_n, zx_rv_s, zx_rv_n, true_and, and_true, true_or, or_true, zb_0, zb_1, zq_lcl, zq_lcg, zq_lce, eq_self, ite_true, ite_false, zk_138, zw_138, zk_139, zw_139, zk_140, zw_140, zk_141, zw_141, zk_142, zw_142, zk_143, zw_143, zk_144, zw_144, zk_145, zw_145, zk_146, zw_146, zk_147, zw_147, zk_148, zw_148, zk_149, zw_149, zk_150, zw_150, zk_151, zw_151, zk_152, zw_152, zq_138_1, zq_138_2, zq_138_3, zq_138_4, zq_138_16, zq_138_19, zq_138_20, zq_138_24, zq_138_25, zq_138_26, zq_138_27, zq_138_31, zq_138_32, zq_138_33, zn_10, zn_40, zn_040, zn_340, nI_add, zin_nI, nI_clamp, nI_ltI, nI_eq, pk_mul, nI_l, hh, e139, hf, zB_0, reduceCtorEq]
    rw [e1]
    rfl
end LK
