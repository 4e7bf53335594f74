/-! the cells as the constructors make them -/
def zx_Lc (Lh n w : Nat) (S : List (Nat × Nat)) : zx_Lay := (fun a => if a < n then zx_tK.getD a (99, 0) else zx_sK Lh a, fun a j => if (a, j) ∈ S then (zx_tR.getD a []).getD j none else zx_sR a j, n, w)
theorem zn_ltT {a b : Nat} (h : a < b) : (a < b) = True := eq_true h
theorem zn_leT {a b : Nat} (h : a ≤ b) : (a ≤ b) = True := eq_true h
section CO
variable {Lh n w a : Nat} {S : List (Nat × Nat)}
theorem zc_k (h : a < n) (hn : n ≤ 153) : (zx_Lc Lh n w S).1 a = (zx_LL Lh).1 a := by
  show (if a < n then _ else _) = (if a < 153 then _ else _)
  rw [if_pos h, if_pos (by omega)]
theorem zc_q {j : Nat} (h : (a, j) ∈ S) (ha : a < 153) : (zx_Lc Lh n w S).2.1 a j = (zx_LL Lh).2.1 a j := by
  show (if (a, j) ∈ S then _ else _) = (if a < 153 then _ else _)
  rw [if_pos h, if_pos ha]
theorem zc_n : (zx_Lc Lh n w S).2.2.1 = n := rfl
theorem zc_w (h : a < n) : zx_wr (zx_Lc Lh n w S) a = True := eq_true h
theorem zc_new {k : Nat × Nat} {s : Nat} (hn : n < 153) (hk : (zx_LL Lh).1 n = k) : zx_new (zx_Lc Lh n w S) k s = zx_Lc Lh (n + 1) (w + s) S := by
  unfold zx_new zx_Lc
  refine Prod.ext ?_ rfl
  funext a
  show zx_uk (fun a => if a < n then zx_tK.getD a (99, 0) else zx_sK Lh a) n k a = if a < n + 1 then zx_tK.getD a (99, 0) else zx_sK Lh a
  unfold zx_uk
  by_cases q : a = n
  · subst q
    rw [if_pos rfl, if_pos (by omega), ← hk]
    show (if a < 153 then _ else _) = _
    rw [if_pos hn]
  · rw [if_neg q]
    show (if a < n then zx_tK.getD a (99, 0) else zx_sK Lh a) = _
    by_cases q2 : a < n
    · rw [if_pos q2, if_pos (show a < n + 1 by omega)]
    · rw [if_neg q2, if_neg (show ¬ a < n + 1 by omega)]
theorem zc_u {j b : Nat} (ha : a < 153) (hb : (zx_LL Lh).2.1 a j = some b) : ((zx_Lc Lh n w S).1, zx_u (zx_Lc Lh n w S).2.1 a j (some b), (zx_Lc Lh n w S).2.2) = zx_Lc Lh n w ((a, j) :: S) := by
  have e : zx_u (zx_Lc Lh n w S).2.1 a j (some b) = (zx_Lc Lh n w ((a, j) :: S)).2.1 := by
    funext c i
    show (if c = a ∧ i = j then some b else if (c, i) ∈ S then _ else _) = (if (c, i) ∈ (a, j) :: S then _ else _)
    by_cases q : c = a ∧ i = j
    · obtain ⟨rfl, rfl⟩ := q
      rw [if_pos ⟨rfl, rfl⟩, if_pos List.mem_cons_self, ← hb]
      show (if c < 153 then _ else _) = _
      rw [if_pos ha]
    · rw [if_neg q]
      by_cases q2 : (c, i) ∈ S
      · rw [if_pos q2, if_pos (List.mem_cons_of_mem _ q2)]
      · rw [if_neg q2, if_neg (fun h => by
          rcases List.mem_cons.mp h with h | h
          · injection h with h1 h2; exact q ⟨h1, h2⟩
          · exact q2 h)]
  rw [e]
  rfl
end CO
section CT
variable {Lh w : Nat} {S : List (Nat × Nat)} {I : zx_MI} {J : zx_MJ}
theorem sc_newStand {T : Nat} (hT : zx_st T) : ∃ I2, (∀ a j, ¬ (a = T + 1 ∨ a = T + 3) → I2 a j = I a j) ∧ (∀ s, s < 8 → I2 (T + 1) s = -1 ∧ I2 (T + 3) s = -1) ∧ ∀ w S d P, zx_rn d 67 [.ref T] (zx_Lc Lh (T + 1) w S) I J P = P none (zx_Lc Lh (T + 4) (w + 24) ((T, 2) :: (T, 1) :: (T, 0) :: S)) I2 J := by
  obtain ⟨k0, k1, k2, k3⟩ := zT_k (Lh := Lh) hT
  obtain ⟨q0, q1, q2⟩ := zT_q (Lh := Lh) hT
  obtain ⟨r1, r2, -⟩ := zT_r hT
  have loop : ∀ mm k I1, k + mm = 8 → (∀ a j, ¬ (a = T + 1 ∨ a = T + 3) → I1 a j = I a j) → (∀ s, s < k → I1 (T + 1) s = -1 ∧ I1 (T + 3) s = -1) → ∃ I2, (∀ a j, ¬ (a = T + 1 ∨ a = T + 3) → I2 a j = I a j) ∧ (∀ s, s < 8 → I2 (T + 1) s = -1 ∧ I2 (T + 3) s = -1) ∧ ∀ w S d P, zx_wp d 67 30 [.ref T, .int (nI k)] [] (zx_Lc Lh (T + 4) w ((T, 2) :: (T, 1) :: (T, 0) :: S)) I1 J P = P none (zx_Lc Lh (T + 4) w ((T, 2) :: (T, 1) :: (T, 0) :: S)) I2 J := by
    intro mm
    induction mm with
    | zero =>
      intro k I1 hk f g
      obtain rfl : k = 8 := by omega
      refine ⟨I1, f, g, fun w S d P => ?_⟩
      rw [zs_67_30]
      simp (disch := omega) only [↓zs_67_31, ↓zs_67_33, ↓zs_67_36, ↓zs_67_37, ↓zs_67_40, ↓zs_67_41, ↓zs_67_42, ↓zs_67_43, ↓zs_67_44, ↓zs_67_47, ↓zs_67_48, ↓zs_67_49, ↓zs_67_50, ↓zs_67_53, ↓zs_67_56, zx_pu_s, zx_pu_n, zx_rv_s, zx_rv_n, true_and, and_true, true_or, or_true, zb_0, zb_1, zq_lcl, zq_lcg, zq_lce, eq_self, ite_true, ite_false, zn_10, zn_40, zn_040, zn_340, nI_add, zin_nI, nI_clamp, nI_ltI, nI_eq, pk_mul, nI_1, Nat.lt_irrefl]
    | succ mm ih =>
      intro k I1 hk f g
      have hlt : k < 8 := by omega
      obtain ⟨I2, f2, g2, h2⟩ := ih (k + 1) (zx_u (zx_u I1 (T + 1) k (-1)) (T + 3) k (-1)) (by omega) (fun a j h => by rw [zu_n (by omega), zu_n (by omega)]; exact f a j h) (fun s hs => by
        by_cases c : s = k
        · rw [c]; exact ⟨by rw [zu_n (by omega), zu_s], zu_s _ _ _ _⟩
        · rw [zu_n (by omega), zu_n (by omega), zu_n (by omega), zu_n (by omega)]; exact g s (by omega))
      refine ⟨I2, f2, g2, fun w S d P => ?_⟩
      have a0 : (zx_Lc Lh (T + 4) w ((T, 2) :: (T, 1) :: (T, 0) :: S)).2.1 T 0 = some (T + 1) := (zc_q (by simp only [List.mem_cons, true_or, or_true]) (by omega)).trans q0
      have a2 : (zx_Lc Lh (T + 4) w ((T, 2) :: (T, 1) :: (T, 0) :: S)).2.1 T 2 = some (T + 3) := (zc_q (by simp only [List.mem_cons, true_or, or_true]) (by omega)).trans q2
      have b0 : (zx_Lc Lh (T + 4) w ((T, 2) :: (T, 1) :: (T, 0) :: S)).1 T = (47, 0) := (zc_k (by omega) (by omega)).trans k0
      have b1 : (zx_Lc Lh (T + 4) w ((T, 2) :: (T, 1) :: (T, 0) :: S)).1 (T + 1) = (0, 8) := (zc_k (by omega) (by omega)).trans k1
      have b3 : (zx_Lc Lh (T + 4) w ((T, 2) :: (T, 1) :: (T, 0) :: S)).1 (T + 3) = (0, 8) := (zc_k (by omega) (by omega)).trans k3
      rw [← h2 w S d P, zs_67_30]
      simp (disch := omega) only [↓zs_67_31, ↓zs_67_33, ↓zs_67_36, ↓zs_67_37, ↓zs_67_40, ↓zs_67_41, ↓zs_67_42, ↓zs_67_43, ↓zs_67_44, ↓zs_67_47, ↓zs_67_48, ↓zs_67_49, ↓zs_67_50, ↓zs_67_53, ↓zs_67_56, zx_pu_s, zx_pu_n, zx_rv_s, zx_rv_n, true_and, and_true, true_or, or_true, zb_0, zb_1, zq_lcl, zq_lcg, zq_lce, eq_self, ite_true, ite_false, zn_10, zn_40, zn_040, zn_340, nI_add, zin_nI, nI_clamp, nI_ltI, nI_eq, pk_mul, nI_1, Nat.lt_irrefl, hlt, a0, a2, b0, b1, b3, zc_w]
  obtain ⟨I2, f2, g2, h2⟩ := loop 8 0 I rfl (fun _ _ _ => rfl) (fun s hs => absurd hs (Nat.not_lt_zero s))
  refine ⟨I2, f2, g2, fun w S d P => ?_⟩
  have c8 : (nI 8 < 0) = False := eq_false (by decide)
  have n1 : zx_new (zx_Lc Lh (T + 1) w S) (0, 8) 8 = zx_Lc Lh (T + 2) (w + 8) S := zc_new (by omega) k1
  have n2 : zx_new (zx_Lc Lh (T + 2) (w + 8) ((T, 0) :: S)) (0, 8) 8 = zx_Lc Lh (T + 3) (w + 8 + 8) ((T, 0) :: S) := zc_new (by omega) k2
  have n3 : zx_new (zx_Lc Lh (T + 3) (w + 8 + 8) ((T, 1) :: (T, 0) :: S)) (0, 8) 8 = zx_Lc Lh (T + 4) (w + 8 + 8 + 8) ((T, 1) :: (T, 0) :: S) := zc_new (by omega) k3
  have u1 := zc_u (n := T + 2) (w := w + 8) (S := S) (by omega) q0
  have u2 := zc_u (n := T + 3) (w := w + 8 + 8) (S := (T, 0) :: S) (by omega) q1
  have u3 := zc_u (n := T + 4) (w := w + 8 + 8 + 8) (S := (T, 1) :: (T, 0) :: S) (by omega) q2
  have b0 : ∀ n w S, T < n → n ≤ 153 → (zx_Lc Lh n w S).1 T = (47, 0) := fun n w S h1 h2 => (zc_k h1 h2).trans k0
  rw [show w + 24 = w + 8 + 8 + 8 by omega, ← h2 _ S d P, ze_67]
  simp (disch := omega) only [↓zs_67_0, ↓zs_67_1, ↓zs_67_4, ↓zs_67_5, ↓zs_67_7, ↓zs_67_9, ↓zs_67_12, ↓zs_67_13, ↓zs_67_15, ↓zs_67_17, ↓zs_67_20, ↓zs_67_21, ↓zs_67_23, ↓zs_67_25, ↓zs_67_28, ↓zs_67_29, zx_pu_s, zx_pu_n, zx_rv_s, zx_rv_n, true_and, and_true, true_or, or_true, zb_0, zb_1, zq_lcl, zq_lcg, zq_lce, eq_self, ite_true, ite_false, zc_n, zn_ltT, zn_leT, c8, not_false_eq_true, nI_clamp, n1, n2, n3, u1, u2, u3, b0, zc_w]
end CT
