/-! ways: sums over a set of STONES -/
def zf_sm (M : Nat → Int64) (b : Int64) : Nat → Nat → Int64
  | 0, _ => lN 0
  | m + 1, k => (if zf_bit b k = true then M k else lN 0) + zf_sm M b m (k + 1)
theorem zq_0 (x : Int64) : lN 0 + x = x := Int64.zero_add x
theorem zq_a0 (x : Int64) : x + lN 0 = x := Int64.add_zero x
theorem zq_al (x y z : Int64) : x + (y + z) = y + (x + z) := by rw [← Int64.add_assoc, Int64.add_comm x y, Int64.add_assoc]
theorem zf_sm_o {M M2 : Nat → Int64} {b b2 : Int64} : ∀ mm k, (∀ i, k ≤ i → i < k + mm → zf_bit b i = zf_bit b2 i ∧ (zf_bit b i = true → M i = M2 i)) → zf_sm M b mm k = zf_sm M2 b2 mm k := by
  intro mm
  induction mm with
  | zero => intro k _; rfl
  | succ mm ih =>
    intro k h
    obtain ⟨e1, e2⟩ := h k (by omega) (by omega)
    rw [zf_sm, zf_sm, ← e1, ih (k + 1) (fun i h1 h2 => h i (by omega) (by omega))]
    by_cases c : zf_bit b k = true
    · rw [if_pos c, if_pos c, e2 c]
    · rw [if_neg c, if_neg c]
theorem zf_sm_0 {M : Nat → Int64} : ∀ mm k, zf_sm M (lN 0) mm k = lN 0 := by
  intro mm
  induction mm with
  | zero => intro k; rfl
  | succ mm ih => intro k; rw [zf_sm, zt_0, if_neg (by decide), ih, zq_0]
theorem zf_sm_ins {M : Nat → Int64} {b : Int64} {j : Nat} : ∀ mm k, k ≤ j → j < k + mm → k + mm ≤ 64 → zf_bit b j = false → zf_sm M (b ||| zf_one j) mm k = M j + zf_sm M b mm k := by
  intro mm
  induction mm with
  | zero => intro k h1 h2; omega
  | succ mm ih =>
    intro k h1 h2 h3 h4
    rw [zf_sm, zf_sm, zt_or, zt_one (by omega) (by omega)]
    by_cases e : k = j
    · subst e
      rw [decide_eq_true rfl, Bool.or_true, if_pos rfl, h4, if_neg (by decide), zq_0]
      congr 1
      apply zf_sm_o
      intro i a1 a2
      rw [zt_or, zt_one (by omega) (by omega), decide_eq_false (by omega), Bool.or_false]
      exact ⟨rfl, fun _ => rfl⟩
    · rw [decide_eq_false e, Bool.or_false, ih (k + 1) (by omega) (by omega) (by omega) h4]
      exact zq_al _ _ _
theorem zt_low {b : Int64} (hb : b ≠ lN 0) : zf_low b < 64 ∧ zf_bit b (zf_low b) = true ∧ ∀ j, j < 64 → zf_bit (b &&& (b - lN 1)) j = (zf_bit b j && !decide (j = zf_low b)) := by
  obtain ⟨n, hn, rfl⟩ := wb_of b
  obtain ⟨p, r, rfl⟩ := zf_odd n (fun e => hb (by rw [e]))
  obtain ⟨hp, hl⟩ := zf_odd_low hn
  rw [hl]
  refine ⟨hp, ?_, fun j hj => ?_⟩
  · rw [zt_nat hp, zt_odd, if_neg (by omega), if_pos rfl]
  · rw [zt_and, lN_sub (Nat.mul_pos (Nat.two_pow_pos p) (by omega)), zt_nat hj, zt_nat hj, zt_odd, zt_odd1]
    by_cases c : j < p
    · rw [if_pos c]; rfl
    · rw [if_neg c, if_neg c]
      by_cases e : j = p
      · rw [if_pos e, if_pos e, decide_eq_true e]; rfl
      · rw [if_neg e, if_neg e, decide_eq_false e, Bool.and_self, Bool.not_false, Bool.and_true]
theorem zt_lowSplit {b : Int64} (hb : b ≠ lN 0) : b = (b &&& (b - lN 1)) ||| zf_one (zf_low b) ∧ zf_bit (b &&& (b - lN 1)) (zf_low b) = false := by
  obtain ⟨h1, h2, h3⟩ := zt_low hb
  constructor
  · apply zt_ext
    intro j hj
    rw [zt_or, zt_one h1 hj, h3 j hj]
    by_cases e : j = zf_low b
    · rw [decide_eq_true e, Bool.or_true, e, h2]
    · rw [decide_eq_false e, Bool.or_false, Bool.not_false, Bool.and_true]
  · rw [h3 _ h1, decide_eq_true rfl, Bool.not_true, Bool.and_false]
def zf_oa (M : Nat → Int64) (s : Int64) (o : Option Nat) : Int64 := match o with
  | none => s
  | some j => s + M j
/-- as the model sums -/
def zf_cm (M : Nat → Int64) (w h k : Nat) : Int64 := zf_oa M (zf_oa M (zf_oa M (zf_oa M (M k) (zf_bey w h k 0)) (zf_bey w h k 2)) (zf_bey w h k 4)) (zf_bey w h k 6)
theorem zf_sm_oa {M : Nat → Int64} {b : Int64} {o : Option Nat} (h : ∀ j, o = some j → j < 64 ∧ zf_bit b j = false) : zf_sm M (zf_ins b o) 64 0 = zf_oa M (zf_sm M b 64 0) o := by
  cases o with
  | none => rfl
  | some j =>
    obtain ⟨h1, h2⟩ := h j rfl
    show zf_sm M (b ||| zf_one j) 64 0 = zf_sm M b 64 0 + M j
    rw [zf_sm_ins 64 0 (by omega) (by omega) (by omega) h2, Int64.add_comm]
theorem zf_cm_eq {M : Nat → Int64} {w h k : Nat} (w0 : 0 < w) (w8 : w ≤ 8) (h8 : h ≤ 8) (hk : k < w * h) : zf_sm M (zf_bes w h (zf_one k)) 64 0 = zf_cm M w h k := by
  have hwh : w * h ≤ 64 := Nat.mul_le_mul w8 h8
  have k64 : k < 64 := by omega
  have hm := Nat.mod_lt k w0
  have hml := Nat.mod_le k w
  have e : zf_bes w h (zf_one k) = zf_nbs w h k (zf_one k) := zt_ext (fun j hj => by
    apply Bool.eq_iff_iff.mpr
    rw [zt_bes hj, zt_nbs w0 w8 h8 hk hj, zt_one k64 hj, decide_eq_true_iff]
    constructor
    · rintro ⟨i, h1, h2, h3⟩
      rw [zt_one k64 h1, decide_eq_true_iff] at h2
      subst h2
      by_cases q : i = j
      · exact .inl q.symm
      · exact .inr ⟨h3, q⟩
    · rintro (q | ⟨q, -⟩)
      · subst q
        refine ⟨j, hj, by rw [zt_one hj hj]; exact decide_eq_true rfl, ?_⟩
        unfold zf_adj
        exact decide_eq_true (by omega)
      · exact ⟨k, k64, by rw [zt_one k64 k64]; exact decide_eq_true rfl, q⟩)
  obtain ⟨e0, e2, e4, e6⟩ := zf_bey4 w0 w8 h8 hk
  have m2 : k % w + 1 < w → k + 1 < 64 := fun c => by
    have hd := Nat.div_add_mod k w
    have hlt : k / w < h := Nat.div_lt_of_lt_mul hk
    have : w * (k / w) + w ≤ w * h := by rw [← Nat.mul_succ]; exact Nat.mul_le_mul_left w hlt
    omega
  have l0 : ∀ q, zf_bey w h k 0 = some q → q < 64 ∧ w ≤ k ∧ q = k - w := fun q e => by rw [e0] at e; split at e <;> cases e; omega
  have l2 : ∀ q, zf_bey w h k 2 = some q → q < 64 ∧ k % w + 1 < w ∧ q = k + 1 := fun q e => by
    rw [e2] at e
    split at e <;> cases e
    have := m2 (by assumption)
    omega
  have l4 : ∀ q, zf_bey w h k 4 = some q → q < 64 ∧ q = k + w := fun q e => by rw [e4] at e; split at e <;> cases e; omega
  have l6 : ∀ q, zf_bey w h k 6 = some q → q < 64 ∧ k % w ≠ 0 ∧ q = k - 1 := fun q e => by rw [e6] at e; split at e <;> cases e; omega
  have nb : ∀ {b : Int64} {o : Option Nat} {j : Nat}, j < 64 → (∀ q, o = some q → q < 64) → zf_bit b j = false → o ≠ some j → zf_bit (zf_ins b o) j = false := by
    intro b o j hj ho hb hn
    cases c : zf_bit (zf_ins b o) j with
    | false => rfl
    | true =>
      rcases (zt_ins hj ho).mp c with q | q
      · rw [hb] at q; exact Bool.noConfusion q
      · exact absurd q hn
  have o1 : ∀ j, j < 64 → j ≠ k → zf_bit (zf_one k) j = false := fun j hj n => by rw [zt_one k64 hj]; exact decide_eq_false n
  have es : zf_sm M (zf_one k) 64 0 = M k := by
    have q := zf_sm_ins (M := M) (b := lN 0) (j := k) 64 0 (by omega) (by omega) (by omega) (zt_0 k)
    rw [zf_sm_0, zq_a0] at q
    rw [← q]
    apply zf_sm_o
    intro i _ h2
    rw [zt_or, zt_0, Bool.false_or]
    exact ⟨rfl, fun _ => rfl⟩
  rw [e]
  unfold zf_nbs zf_cm
  rw [zf_sm_oa (fun j hj => ?_), zf_sm_oa (fun j hj => ?_), zf_sm_oa (fun j hj => ?_), zf_sm_oa (fun j hj => ?_)]
  · rw [es]
  · obtain ⟨a1, a2, a3⟩ := l0 j hj
    exact ⟨a1, o1 j a1 (by omega)⟩
  · obtain ⟨a1, a2, a3⟩ := l2 j hj
    refine ⟨a1, nb a1 (fun q e => (l0 q e).1) (o1 j a1 (by omega)) (fun e => ?_)⟩
    obtain ⟨b1, b2, b3⟩ := l0 j e
    omega
  · obtain ⟨a1, a2⟩ := l4 j hj
    refine ⟨a1, nb a1 (fun q e => (l2 q e).1) (nb a1 (fun q e => (l0 q e).1) (o1 j a1 (by omega)) (fun e => ?_)) (fun e => ?_)⟩
    · obtain ⟨b1, b2, b3⟩ := l0 j e
      omega
    · obtain ⟨b1, b2, b3⟩ := l2 j e
      omega
  · obtain ⟨a1, a2, a3⟩ := l6 j hj
    refine ⟨a1, nb a1 (fun q e => (l4 q e).1) (nb a1 (fun q e => (l2 q e).1) (nb a1 (fun q e => (l0 q e).1) (o1 j a1 (by omega)) (fun e => ?_)) (fun e => ?_)) (fun e => ?_)⟩
    · obtain ⟨b1, b2, b3⟩ := l0 j e
      omega
    · obtain ⟨b1, b2, b3⟩ := l2 j e
      omega
    · obtain ⟨b1, b2⟩ := l4 j e
      omega
section SU
variable {Lh : Nat} {I : zx_MI} {J : zx_MJ}
theorem zq_a63 : ∀ p : Fin 64, nI p.1 &&& nI 63 = nI p.1 := by decide +kernel
/-- the class's sum -/
theorem sc_sumOver (b : Int64) : ∀ d P, zx_rn (d + 2) 97 [.ref 70, .long b] (zx_LL Lh) I J P = P (some (.long (zf_sm (J 77) b 64 0))) (zx_LL Lh) I J := by
  have loop : ∀ c i left sum, zf_cnt (zf_bit left) 64 0 = c → i + c ≤ 64 → ∀ d P, zx_wp (d + 2) 97 8 [.ref 70, .long b, zx_u0, .long sum, zx_u0, .long left, zx_u0, .int (nI i)] [] (zx_LL Lh) I J P = P (some (.long (sum + zf_sm (J 77) left 64 0))) (zx_LL Lh) I J := by
    intro c
    induction c with
    | zero =>
      intro i left sum hc hi d P
      have e0 : left = lN 0 := by
        apply (zt_eq0 left).mpr
        intro k hk
        have q := zf_cnt_any (zf_bit left) 64 0
        rw [hc] at q
        cases h : zf_bit left k with
        | false => rfl
        | true => exact absurd (q.mpr ((zf_any_ex _ _ _).mpr ⟨k, by omega, by omega, h⟩)) (by decide)
      subst e0
      rw [zf_sm_0, zq_a0, zs_97_8]
      by_cases c : i < 64
      · simp (disch := omega) only [↓zs_97_10, ↓zs_97_12, ↓zs_97_15, ↓zs_97_17, ↓zs_97_18, ↓zs_97_19, ↓zs_97_22, ↓zs_97_23, ↓zs_97_24, ↓zs_97_27, ↓zs_97_29, ↓zs_97_32, ↓zs_97_34, ↓zs_97_35, ↓zs_97_36, ↓zs_97_37, ↓zs_97_38, ↓zs_97_40, ↓zs_97_42, ↓zs_97_43, ↓zs_97_44, ↓zs_97_45, ↓zs_97_47, ↓zs_97_50, ↓zs_97_53, ↓zs_97_54, zx_pu_s, zx_pu_n, zx_rv_s, zx_rv_n, true_and, and_true, true_or, or_true, zb_0, zb_1, zq_lcl, zq_lcg, zq_lce, eq_self, ite_true, ite_false, nI_ltI, c]
      · simp (disch := omega) only [↓zs_97_10, ↓zs_97_12, ↓zs_97_15, ↓zs_97_17, ↓zs_97_18, ↓zs_97_19, ↓zs_97_22, ↓zs_97_23, ↓zs_97_24, ↓zs_97_27, ↓zs_97_29, ↓zs_97_32, ↓zs_97_34, ↓zs_97_35, ↓zs_97_36, ↓zs_97_37, ↓zs_97_38, ↓zs_97_40, ↓zs_97_42, ↓zs_97_43, ↓zs_97_44, ↓zs_97_45, ↓zs_97_47, ↓zs_97_50, ↓zs_97_53, ↓zs_97_54, zx_pu_s, zx_pu_n, zx_rv_s, zx_rv_n, true_and, and_true, true_or, or_true, zb_0, zb_1, zq_lcl, zq_lcg, zq_lce, eq_self, ite_true, ite_false, nI_ltI, c]
    | succ c ih =>
      intro i left sum hc hi d P
      have hne : left ≠ lN 0 := fun e => by
        rw [e] at hc
        have q := zf_cnt_any (zf_bit (lN 0)) 64 0
        rw [hc] at q
        obtain ⟨j, -, -, h⟩ := (zf_any_ex _ _ _).mp (q.mp (by omega))
        rw [zt_0] at h
        exact Bool.noConfusion h
      obtain ⟨h1, h2, h3⟩ := zt_low hne
      obtain ⟨g1, g2⟩ := zt_lowSplit hne
      have hc2 : zf_cnt (zf_bit (left &&& (left - lN 1))) 64 0 = c := by
        have q := zf_cnt_one h1 g2
        rw [← g1, hc] at q
        omega
      have hs : zf_sm (J 77) left 64 0 = J 77 (zf_low left) + zf_sm (J 77) (left &&& (left - lN 1)) 64 0 := by
        rw [← zf_sm_ins 64 0 (by omega) (by omega) (by omega) g2, ← g1]
      have hne' : (left = lN 0) = False := eq_false hne
      have hz := fun d P => zl_ntz (d := d) (L := zx_LL Lh) (I := I) (J := J) (P := P) hne
      have a63 := zq_a63 ⟨zf_low left, h1⟩
      dsimp only at a63
      have hlt : i < 64 := by omega
      rw [hs, ← Int64.add_assoc, ← ih (i + 1) (left &&& (left - lN 1)) (sum + J 77 (zf_low left)) hc2 (by omega) d P, zs_97_8]
      simp (disch := omega) only [↓zs_97_10, ↓zs_97_12, ↓zs_97_15, ↓zs_97_17, ↓zs_97_18, ↓zs_97_19, ↓zs_97_22, ↓zs_97_23, ↓zs_97_24, ↓zs_97_27, ↓zs_97_29, ↓zs_97_32, ↓zs_97_34, ↓zs_97_35, ↓zs_97_36, ↓zs_97_37, ↓zs_97_38, ↓zs_97_40, ↓zs_97_42, ↓zs_97_43, ↓zs_97_44, ↓zs_97_45, ↓zs_97_47, ↓zs_97_50, ↓zs_97_53, ↓zs_97_54, zx_pu_s, zx_pu_n, zx_rv_s, zx_rv_n, true_and, and_true, true_or, or_true, zb_0, zb_1, zq_lcl, zq_lcg, zq_lce, eq_self, ite_true, ite_false, zk_70, zw_70, zk_71, zw_71, zk_72, zw_72, zk_73, zw_73, zk_74, zw_74, zk_75, zw_75, zk_76, zw_76, zk_77, zw_77, zq_70_0, zq_70_1, zq_70_2, zq_70_3, zq_70_4, zq_71_0, zq_71_1, zq_71_2, nI_ltI, nI_add, hlt, hne', hz, a63, zin_nI, nI_clamp]
  intro d P
  have hc : zf_cnt (zf_bit b) 64 0 ≤ 64 := zf_cnt_le _ _ _
  rw [ze_97]
  simp (disch := omega) only [↓zs_97_0, ↓zs_97_1, ↓zs_97_2, ↓zs_97_3, ↓zs_97_5, ↓zs_97_6, zx_pu_s, zx_pu_n, zx_rv_s, zx_rv_n, true_and, and_true, true_or, or_true, zb_0, zb_1, zq_lcl, zq_lcg, zq_lce, eq_self, ite_true, ite_false]
  rw [loop _ 0 b (lN 0) rfl (by omega) d P, zq_0]
theorem sp_comesTo {w h k : Nat} (si : zx_SI I) (hw : I 139 1 = nI w) (hh : I 139 2 = nI h) (w0 : 0 < w) (w8 : w ≤ 8) (h8 : h ≤ 8) (hk : k < w * h) : ∀ d P, zx_rn (d + 5) 248 [.ref 138, .int (nI k)] (zx_LL Lh) I J P = P (some (.long (zf_cm (J 148) w h k))) (zx_LL Lh) I J := by
  have hwh : w * h ≤ 64 := Nat.mul_le_mul w8 h8
  have m1 : ∀ q, q < 64 → ((nI q : Int32) = -1) = False := fun q hq => zq_m1 (by omega)
  intro d P
  obtain ⟨e0, e2, e4, e6⟩ := zf_bey4 w0 w8 h8 hk
  have hb := fun dr (hd : dr < 8) P => sp_beyond (d := d) (Lh := Lh) (I := I) (J := J) (P := P) (k := k) (dr := dr) si hw hh w0 w8 h8 hk hd
  have l2 : k % w + 1 < w → k + 1 < 64 := fun c => by
    have hd := Nat.div_add_mod k w
    have hlt : k / w < h := Nat.div_lt_of_lt_mul hk
    have : w * (k / w) + w ≤ w * h := by rw [← Nat.mul_succ]; exact Nat.mul_le_mul_left w hlt
    omega
  have step : ∀ dr, dr < 8 → (∀ q, zf_bey w h k dr = some q → q < 64) → ∀ b, zx_wp (d + 5) 248 10 [.ref 138, .int (nI k), .long b, zx_u0, .int (nI dr)] [] (zx_LL Lh) I J P = zx_wp (d + 5) 248 10 [.ref 138, .int (nI k), .long (zf_oa (J 148) b (zf_bey w h k dr)), zx_u0, .int (nI (dr + 2))] [] (zx_LL Lh) I J P := by
    intro dr hd hl b
    have hbey := hb dr hd
    rw [zs_248_10]
    cases c : zf_bey w h k dr with
    | none =>
      rw [c] at hbey
      simp (disch := omega) only [↓zs_248_12, ↓zs_248_14, ↓zs_248_17, ↓zs_248_18, ↓zs_248_19, ↓zs_248_21, ↓zs_248_24, ↓zs_248_25, ↓zs_248_28, ↓zs_248_29, ↓zs_248_30, ↓zs_248_33, ↓zs_248_34, ↓zs_248_35, ↓zs_248_37, ↓zs_248_40, ↓zs_248_41, ↓zs_248_42, ↓zs_248_43, ↓zs_248_46, ↓zs_248_49, ↓zs_248_50, zx_pu_s, zx_pu_n, zx_rv_s, zx_rv_n, true_and, and_true, true_or, or_true, zb_0, zb_1, zq_lcl, zq_lcg, zq_lce, eq_self, ite_true, ite_false, zk_138, zw_138, zk_139, zw_139, zk_140, zw_140, zk_141, zw_141, zk_142, zw_142, zk_143, zw_143, zk_144, zw_144, zk_145, zw_145, zk_146, zw_146, zk_147, zw_147, zk_148, zw_148, zk_149, zw_149, zk_150, zw_150, zk_151, zw_151, zk_152, zw_152, zq_138_1, zq_138_2, zq_138_3, zq_138_4, zq_138_16, zq_138_19, zq_138_20, zq_138_24, zq_138_25, zq_138_26, zq_138_27, zq_138_31, zq_138_32, zq_138_33, nI_ltI, nI_add, hd, hbey, zf_oI, zf_oa]
    | some q =>
      rw [c] at hbey
      have q64 := hl q c
      simp (disch := omega) only [↓zs_248_12, ↓zs_248_14, ↓zs_248_17, ↓zs_248_18, ↓zs_248_19, ↓zs_248_21, ↓zs_248_24, ↓zs_248_25, ↓zs_248_28, ↓zs_248_29, ↓zs_248_30, ↓zs_248_33, ↓zs_248_34, ↓zs_248_35, ↓zs_248_37, ↓zs_248_40, ↓zs_248_41, ↓zs_248_42, ↓zs_248_43, ↓zs_248_46, ↓zs_248_49, ↓zs_248_50, zx_pu_s, zx_pu_n, zx_rv_s, zx_rv_n, true_and, and_true, true_or, or_true, zb_0, zb_1, zq_lcl, zq_lcg, zq_lce, eq_self, ite_true, ite_false, zk_138, zw_138, zk_139, zw_139, zk_140, zw_140, zk_141, zw_141, zk_142, zw_142, zk_143, zw_143, zk_144, zw_144, zk_145, zw_145, zk_146, zw_146, zk_147, zw_147, zk_148, zw_148, zk_149, zw_149, zk_150, zw_150, zk_151, zw_151, zk_152, zw_152, zq_138_1, zq_138_2, zq_138_3, zq_138_4, zq_138_16, zq_138_19, zq_138_20, zq_138_24, zq_138_25, zq_138_26, zq_138_27, zq_138_31, zq_138_32, zq_138_33, nI_ltI, nI_add, hd, hbey, zf_oI, zf_oa, m1, zin_nI, nI_clamp]
  rw [ze_248]
  simp (disch := omega) only [↓zs_248_0, ↓zs_248_1, ↓zs_248_4, ↓zs_248_5, ↓zs_248_6, ↓zs_248_7, ↓zs_248_8, zx_pu_s, zx_pu_n, zx_rv_s, zx_rv_n, true_and, and_true, true_or, or_true, zb_0, zb_1, zq_lcl, zq_lcg, zq_lce, eq_self, ite_true, ite_false, zk_138, zw_138, zk_139, zw_139, zk_140, zw_140, zk_141, zw_141, zk_142, zw_142, zk_143, zw_143, zk_144, zw_144, zk_145, zw_145, zk_146, zw_146, zk_147, zw_147, zk_148, zw_148, zk_149, zw_149, zk_150, zw_150, zk_151, zw_151, zk_152, zw_152, zq_138_1, zq_138_2, zq_138_3, zq_138_4, zq_138_16, zq_138_19, zq_138_20, zq_138_24, zq_138_25, zq_138_26, zq_138_27, zq_138_31, zq_138_32, zq_138_33, zin_nI, nI_clamp]
  rw [step 0 (by omega) (fun q e => by rw [e0] at e; split at e <;> cases e; omega), step 2 (by omega) (fun q e => by rw [e2] at e; split at e <;> cases e; exact l2 (by assumption)), step 4 (by omega) (fun q e => by rw [e4] at e; split at e <;> cases e; omega), step 6 (by omega) (fun q e => by rw [e6] at e; split at e <;> cases e; omega), zs_248_10]
  simp (disch := omega) only [↓zs_248_12, ↓zs_248_14, ↓zs_248_17, ↓zs_248_18, ↓zs_248_19, ↓zs_248_21, ↓zs_248_24, ↓zs_248_25, ↓zs_248_28, ↓zs_248_29, ↓zs_248_30, ↓zs_248_33, ↓zs_248_34, ↓zs_248_35, ↓zs_248_37, ↓zs_248_40, ↓zs_248_41, ↓zs_248_42, ↓zs_248_43, ↓zs_248_46, ↓zs_248_49, ↓zs_248_50, zx_pu_s, zx_pu_n, zx_rv_s, zx_rv_n, true_and, and_true, true_or, or_true, zb_0, zb_1, zq_lcl, zq_lcg, zq_lce, eq_self, ite_true, ite_false, nI_ltI, Nat.lt_irrefl]
  rfl
end SU
