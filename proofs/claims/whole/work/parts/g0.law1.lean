/-! the law begins -/
section G0
variable {Lh : Nat}
theorem zInv_mono {I : zx_MI} {J : zx_MJ} {m m2 : Nat} (v : zInv I J m) (hm : m ≤ m2) : zInv I J m2 := by
  obtain ⟨v1, v2, v3, v4, v5, v6, v7, v8⟩ := v
  refine ⟨v1, zV_mono v2 hm, v3, v4, ?_, ?_, v7, v8⟩
  · obtain ⟨e, D, he, hD, g1, g2, g3, g4⟩ := v5
    exact ⟨e, D, he, hD, g1, g2, g3, fun i hi => ⟨(g4 i hi).1, zV_mono (g4 i hi).2 hm⟩⟩
  · intro i hi
    obtain ⟨b, b1, b2, b3⟩ := v6 i hi
    exact ⟨b, b1, b2, fun hb => ⟨(b3 hb).1, (b3 hb).2.1, zV_mono (b3 hb).2.2 hm⟩⟩
theorem zx_sI_0 (xs : Nat → Int32) {a j : Nat} (h : a < 5000) : zx_sI xs a j = nI 0 := by
  unfold zx_sI
  rw [if_neg (by omega), if_neg (by omega), if_neg (by omega), if_neg (by omega)]
  rfl
theorem zx_sI_s (xs ys : Nat → Int32) {a j : Nat} (h : 5001 ≤ a) : zx_sI xs a j = zx_sI ys a j := by
  unfold zx_sI
  rw [if_neg (show ¬ a = 5000 by omega), if_neg (show ¬ a = 5000 by omega)]
theorem law_start (xs : Nat → Int32) : ∃ I1, zInv I1 (fun _ _ => 0) 0 ∧ (∀ j, I1 5000 j = xs j) ∧ ∀ P, zx_rn (999 + 1) 300 [.ref 5000] (zx_sK Lh, zx_sR, 0, 0) (zx_sI xs) (fun _ _ => 0) P = zx_wp (999 + 1) 300 18 [.ref 5000, .ref 0, .ref 138, .int (nI 0)] [] (zx_LL Lh) I1 (fun _ _ => 0) P := by
  obtain ⟨I1, f1, g15, g12, h1⟩ := sc_new99 (Lh := Lh) (J := fun _ _ => 0) (zx_sI xs)
  obtain ⟨I2, f2, g139, g14, g150, h2⟩ := sp_new151 (Lh := Lh) (J := fun _ _ => 0) I1
  have z : ∀ a j, a < 5000 → ¬ ((12 ≤ a ∧ a ≤ 22 ∧ a ≠ 13) ∨ (25 ≤ a ∧ a ≤ 74) ∨ (99 ≤ a ∧ a < 102) ∨ (121 ≤ a ∧ a ≤ 137) ∨ (a = 0 ∧ j = 14) ∨ a = 139 ∨ (a = 138 ∧ j = 14) ∨ (a = 150 ∧ j < 4)) → I2 a j = nI 0 := fun a j h w => by
    rw [f2 a j (by omega), f1 a j (by omega)]; exact zx_sI_0 xs h
  obtain ⟨pf, e1, e2, e3, e4, e5, e6, eG⟩ := zPf_f0 g139
  have zF : ∀ j, j < 1286 → ¬ ((109 ≤ j ∧ j < 117) ∨ (125 ≤ j ∧ j < 133)) → I2 139 j = nI 0 := fun j h1 h2 => (g139 j h1).trans (zf_f0_0 h2)
  have l0 : zf_bit (lN 0) = fun _ => false := funext fun k => zt_0 k
  refine ⟨I2, ⟨?_, pf.1, ?_, ?_, ?_, ?_, ?_, ?_, ?_, ?_⟩, ?_, fun P => ?_⟩
  · intro a j ha
    rw [f2 a j (by omega), f1 a j (by omega)]; exact zx_sI_s xs _ ha
  · unfold zR_sq zR_ground zR_snow
    rw [e4, e5, e6]
    refine ⟨?_, ?_, ?_, ?_, ?_, fun k hk => ?_, ⟨?_, fun i hi => absurd hi (Nat.not_lt_zero i)⟩, fun i hi => absurd hi (Nat.not_lt_zero i), ?_, fun k hk => absurd hk (Nat.not_lt_zero k)⟩
    · rw [z 1 6 (by omega) (by omega), zF 1 (by omega) (by omega)]
    · rw [z 1 7 (by omega) (by omega), zF 2 (by omega) (by omega)]
    · rw [z 1 8 (by omega) (by omega), zF 3 (by omega) (by omega)]
    · rw [z 1 9 (by omega) (by omega), zF 0 (by omega) (by omega)]
    · rw [z 1 10 (by omega) (by omega), zF 4 (by omega) (by omega)]
    · rw [zF (45 + k) (by omega) (by omega)]
      show zf_bit (lN 0) k = _ ∧ zf_bit (lN 0) k = _
      rw [zt_0]
      exact ⟨by decide, by decide⟩
    · rw [z 1 11 (by omega) (by omega), zF 5 (by omega) (by omega)]
    · exact z (1 + 1) 3 (by omega) (by omega)
  · refine ⟨by rw [z 11 3 (by omega) (by omega), zF 133 (by omega) (by omega)], fun s hs => ?_⟩
    obtain ⟨s1, s2⟩ := g12 s hs
    rw [f2 (11 + 1) s (by omega), f2 (11 + 3) s (by omega), s1, s2, z (11 + 2) s (by omega) (by omega), zF (117 + s) (by omega) (by omega), g139 (109 + s) (by omega), g139 (125 + s) (by omega), zf_f0, zf_f0, if_pos (by omega), if_pos (by omega)]
    exact ⟨rfl, rfl, rfl⟩
  · exact ⟨0, 0, by omega, by omega, z 23 1 (by omega) (by omega), z 23 2 (by omega) (by omega), zF 134 (by omega) (by omega), fun i hi => absurd hi (Nat.not_lt_zero i)⟩
  · intro i hi
    exact ⟨false, z 82 i (by omega) (by omega), z 140 i (by omega) (by omega), fun h => Bool.noConfusion h⟩
  · intro t ht
    exact .inl ⟨g150 t ht, z (102 + 2 * t) 1 (by omega) (by omega)⟩
  · exact ⟨0, by omega, z 0 12 (by omega) (by omega), z 138 5 (by omega) (by omega), fun i hi => absurd hi (Nat.not_lt_zero i)⟩
  · rw [z 0 13 (by omega) (by omega), z 138 13 (by omega) (by omega)]
  · rw [f2 0 14 (by omega), g15, g14]
  · intro j
    rw [f2 5000 j (by omega), f1 5000 j (by omega)]
    unfold zx_sI
    rw [if_pos rfl]
  · have n0 : zx_new (zx_Lc Lh 0 0 []) (51, 0) 15 = zx_Lc Lh 1 15 [] := zc_new (by omega) rfl
    have n1 : zx_new (zx_Lc Lh 138 6037 zl_9) (52, 0) 34 = zx_Lc Lh 139 6071 zl_9 := zc_new (by omega) rfl
    have h1' := fun P => h1 995 P
    have h2' := fun P => h2 998 P
    rw [zc_0, ze_300]
    simp (disch := omega) only [↓zs_300_0, ↓zs_300_3, ↓zs_300_4, ↓zs_300_7, zx_pu_s, zx_pu_n, zx_rv_s, zx_rv_n, true_and, and_true, true_or, or_true, zb_0, zb_1, zq_lcl, zq_lcg, zq_lce, eq_self, ite_true, ite_false, zc_n, zn_ltT, n0, h1', Nat.reduceAdd]
    simp (disch := omega) only [↓zs_300_8, ↓zs_300_11, ↓zs_300_12, ↓zs_300_15, ↓zs_300_16, ↓zs_300_17, zx_pu_s, zx_pu_n, zx_rv_s, zx_rv_n, true_and, and_true, true_or, or_true, zb_0, zb_1, zq_lcl, zq_lcg, zq_lce, eq_self, ite_true, ite_false, zc_n, zn_ltT, n1, h2', Nat.reduceAdd]
end G0
