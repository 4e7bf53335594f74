/-! a text is read on both sides -/
/-- the form of a deed's pair, with more calls to nest -/
def zD2 (Lh k k2 : Nat) (as : List Value) (I : zx_MI) (J : zx_MJ) (m : Nat) : Prop := ∃ v I1 J1 I2 J2, (∀ d P, zx_rn (d + 200) k (.ref 0 :: as) (zx_LL Lh) I J P = P (some v) (zx_LL Lh) I1 J1) ∧ (∀ d P, zx_rn (d + 200) k2 (.ref 138 :: as) (zx_LL Lh) I1 J1 P = P (some v) (zx_LL Lh) I2 J2) ∧ zInv I2 J2 m
theorem zV_G {B : Nat → Int32} (v : zV B 0) : zV (zf_G B) 0 := by
  have sm : zSm B (zf_G B) := fun j h => zf_G_o v j (by omega)
  refine zV_of v sm (fun s hs => ?_) (fun k s hk hs hne => ?_) ?_ ?_
  · obtain ⟨o1, o2, o3, o4⟩ := v.1.2 s hs
    rw [zf_G_o v (109 + s) (by omega), zf_G_o v (117 + s) (by omega)]
    exact ⟨o1, zf_lets_f v.2.2.2.2.1 _ _ _ (by omega) (fun s hs => (v.1.2 s hs).2.1) s hs, o3, o4⟩
  · rw [zf_G_o v (45 + k) (by omega)] at hne
    rw [zf_G_o v (109 + s) (by omega)]
    exact (v.2.2.1 k s hk hs hne).2
  · rw [show zt (zf_G B) = zt B by unfold zt; rw [zf_G_o v 133 (by omega)], zf_G_o v 133 (by omega)]; exact v.2.2.2.2.2.2.1
  · rw [show zt (zf_G B) = zt B by unfold zt; rw [zf_G_o v 133 (by omega)]]; exact v.2.2.2.2.2.2.2
theorem zEx_G {F B : Nat → Int32} (v : zV F 0) (h : zEx F B) : zEx (zf_G F) (zf_G B) := by
  have hl := v.2.2.2.2.1.2.1
  intro j h1 h2
  unfold zf_G
  rw [(zEx_k h).2.2.2.1]
  exact zf_lets_p (h 133 (by omega) (by omega)) _ _ _ _ j (fun i _ hi => ⟨h _ (by omega) (by omega), h _ (by omega) (by omega), h _ (by omega) (by omega)⟩) (h j h1 h2)
theorem zInv_rd {I I2 : zx_MI} {J J2 : zx_MJ} {m : Nat} (v : zInv I J m) (hI : ∀ a j, ¬ (zSc a j ∨ (83 ≤ a ∧ a ≤ 101 ∧ a ≠ 85) ∨ a = 142 ∨ (a = 0 ∧ 12 ≤ j ∧ j ≤ 14) ∨ a = 138) → I2 a j = I a j) (hJ : ∀ a j, a ≠ 88 → J2 a j = J a j) (ht : zI_tape I2) (e1 : I2 0 13 = I2 138 13) (e2 : I2 0 14 = I2 138 14) : zInv I2 J2 m := by
  have row : ∀ a, ((1 ≤ a ∧ a ≤ 3) ∨ (6 ≤ a ∧ a ≤ 14) ∨ (23 ≤ a ∧ a ≤ 64) ∨ (79 ≤ a ∧ a ≤ 82) ∨ a = 85 ∨ (102 ≤ a ∧ a ≤ 137) ∨ (139 ≤ a ∧ a ≤ 141) ∨ 150 ≤ a) → I2 a = I a := fun a ha => funext fun j => hI a j (by unfold zSc; omega)
  obtain ⟨v1, v2, v3, v4, v5, v6, v7, v8, v9, v10⟩ := v
  have e139 := row 139 (by omega)
  refine ⟨?_, ?_, ?_, ?_, ?_, ?_, ?_, ht, e1, e2⟩
  · intro a j ha; rw [row a (by omega)]; exact v1 a j ha
  · rw [e139]; exact v2
  · rw [e139]; exact zR_sq_f v3 (fun a j h1 h2 h3 h4 => by rw [row a (by omega)]) (fun j => hJ 1 j (by omega))
  · rw [e139]; exact zR_st_f v4 (fun a j h1 h2 => by rw [row a (by omega)])
  · obtain ⟨e, D, he, hD, h1, h2, h3, h4⟩ := v5
    refine ⟨e, D, he, hD, by rw [row 23 (by omega)]; exact h1, by rw [row 23 (by omega)]; exact h2, by rw [e139]; exact h3, fun i hi => ?_⟩
    rw [e139]
    have hm : (e + i) % 10 < 10 := Nat.mod_lt _ (by omega)
    exact ⟨zR_st_f (h4 i hi).1 (fun a j h1 h2 => by rw [row a (by omega)]), (h4 i hi).2⟩
  · intro i hi
    obtain ⟨b, b1, b2, b3⟩ := v6 i hi
    refine ⟨b, by rw [row 82 (by omega)]; exact b1, by rw [row 140 (by omega)]; exact b2, fun hb => ?_⟩
    obtain ⟨c1, c2, c3⟩ := b3 hb
    rw [e139]
    exact ⟨zR_sq_f c1 (fun a j h1 h2 h3 h4 => by rw [row a (by omega)]) (fun j => hJ _ j (by omega)), zR_st_f c2 (fun a j h1 h2 => by rw [row a (by omega)]), c3⟩
  · intro t ht
    rw [row 150 (by omega), row 151 (by omega), row (102 + 2 * t) (by omega)]
    rcases v7 t ht with q | ⟨s2, nn2, q1, q2, q3, q4, q5, q6, q7, q8⟩
    · exact .inl q
    · refine .inr ⟨s2, nn2, q1, q2, q3, q4, q5, q6, q7, fun i2 hi2 => ?_⟩
      rw [hJ _ _ (by omega), hJ _ _ (by omega)]
      exact q8 i2 hi2
/-- row A with its first places as in row F -/
def zf_cp (A F : Nat → Int32) (k : Nat) : Nat → Int32 := fun j => if j < k then F j else A j
section F0
variable {Lh m : Nat} {I : zx_MI} {J : zx_MJ}
theorem sp_endN {f s : Nat} (z : zBad I f s) : ∀ d P x1 v, zx_wp d 181 100 [.ref 138, .int x1, v] [] (zx_LL Lh) I J P = P (some (.int (-30 - nI f))) (zx_LL Lh) (zx_u (zx_u I 138 13 (nI f)) 138 14 (nI s)) J := by
  intro d P x1 v
  have e11 := z.2.2.1
  have e12 := z.2.2.2
  have cf := zBad_k z
  have u1 : ∀ y, zx_u I 138 13 y 138 11 = nI f := fun y => (zu_n (by omega)).trans e11
  have u2 : ∀ y, zx_u I 138 13 y 138 12 = nI s := fun y => (zu_n (by omega)).trans e12
  have u3 : ∀ y w, zx_u (zx_u I 138 13 y) 138 14 w 138 11 = nI f := fun y w => by rw [zu_n (by omega), u1]
  simp (disch := omega) only [↓zs_181_100, ↓zs_181_101, ↓zs_181_102, ↓zs_181_105, ↓zs_181_108, ↓zs_181_109, ↓zs_181_110, ↓zs_181_113, ↓zs_181_116, ↓zs_181_117, ↓zs_181_120, ↓zs_181_121, ↓zs_181_124, ↓zs_181_127, ↓zs_181_128, ↓zs_181_131, ↓zs_181_134, ↓zs_181_136, ↓zs_181_137, ↓zs_181_140, ↓zs_181_141, zx_pu_s, zx_pu_n, zx_rv_s, zx_rv_n, true_and, and_true, true_or, or_true, zb_0, zb_1, zq_lcl, zq_lcg, zq_lce, eq_self, ite_true, ite_false, zk_138, zw_138, zk_139, zw_139, zk_140, zw_140, zk_141, zw_141, zk_142, zw_142, zk_143, zw_143, zk_144, zw_144, zk_145, zw_145, zk_146, zw_146, zk_147, zw_147, zk_148, zw_148, zk_149, zw_149, zk_150, zw_150, zk_151, zw_151, zk_152, zw_152, zq_138_1, zq_138_2, zq_138_3, zq_138_4, zq_138_16, zq_138_19, zq_138_20, zq_138_24, zq_138_25, zq_138_26, zq_138_27, zq_138_31, zq_138_32, zq_138_33, e11, u1, u2, u3, cf]
theorem sp_endY (v : zV (I 142) 0) (e11 : I 138 11 = nI 0) : ∃ I2, (∀ a j, ¬ (a = 139 ∨ (a = 138 ∧ (j = 13 ∨ j = 14))) → I2 a j = I a j) ∧ I2 139 = zf_G (zf_cp (I 139) (I 142) 1286) ∧ I2 138 13 = nI 0 ∧ I2 138 14 = -1 ∧ ∀ d P x1 w, zx_wp (d + 1) 181 100 [.ref 138, .int x1, w] [] (zx_LL Lh) I J P = P (some (.int (I 142 0))) (zx_LL Lh) I2 J := by
  obtain ⟨I1, hI1⟩ : ∃ I1, I1 = zx_u (zx_u I 138 13 (nI 0)) 138 14 (-1) := ⟨_, rfl⟩
  have f1 : ∀ a j, ¬ (a = 138 ∧ (j = 13 ∨ j = 14)) → I1 a j = I a j := fun a j w => by rw [hI1, zu_n (by omega), zu_n (by omega)]
  have e142 : I1 142 = I 142 := funext fun j => f1 142 j (by omega)
  have e139 : I1 139 = I 139 := funext fun j => f1 139 j (by omega)
  have loop : ∀ mm k, k + mm = 1286 → ∀ d P x1, zx_wp d 181 144 [.ref 138, .int x1, .int (nI k)] [] (zx_LL Lh) (zx_ur I1 139 (zf_cp (I 139) (I 142) k)) J P = zx_wp d 181 169 [.ref 138, .int x1, .int (nI 1286)] [] (zx_LL Lh) (zx_ur I1 139 (zf_cp (I 139) (I 142) 1286)) J P := by
    intro mm
    induction mm with
    | zero =>
      intro k hk d P x1
      obtain rfl : k = 1286 := by omega
      rw [zs_181_144]
      simp (disch := omega) only [↓zs_181_145, ↓zs_181_148, ↓zs_181_151, ↓zs_181_152, ↓zs_181_155, ↓zs_181_156, ↓zs_181_157, ↓zs_181_160, ↓zs_181_161, ↓zs_181_162, ↓zs_181_163, ↓zs_181_166, zx_pu_s, zx_pu_n, zx_rv_s, zx_rv_n, true_and, and_true, true_or, or_true, zb_0, zb_1, zq_lcl, zq_lcg, zq_lce, eq_self, ite_true, ite_false, zk_138, zw_138, zk_139, zw_139, zk_140, zw_140, zk_141, zw_141, zk_142, zw_142, zk_143, zw_143, zk_144, zw_144, zk_145, zw_145, zk_146, zw_146, zk_147, zw_147, zk_148, zw_148, zk_149, zw_149, zk_150, zw_150, zk_151, zw_151, zk_152, zw_152, zq_138_1, zq_138_2, zq_138_3, zq_138_4, zq_138_16, zq_138_19, zq_138_20, zq_138_24, zq_138_25, zq_138_26, zq_138_27, zq_138_31, zq_138_32, zq_138_33, zn_10, zn_40, zn_040, zn_340, nI_add, zin_nI, nI_clamp, nI_ltI, nI_eq, pk_mul, nI_1, Nat.lt_irrefl]
    | succ mm ih =>
      intro k hk d P x1
      have hlt : k < 1286 := by omega
      have hlt2 : k < 3858 := by omega
      have r0 : zx_ur I1 139 (zf_cp (I 139) (I 142) k) 142 k = I 142 k := by rw [zr_o (by decide), e142]
      have es : zu1 (zf_cp (I 139) (I 142) k) k (I 142 k) = zf_cp (I 139) (I 142) (k + 1) := by
        funext j
        unfold zf_cp
        by_cases q : j = k
        · rw [q, zu1_s, if_pos (show k < k + 1 by omega)]
        · rw [zu1_n q]
          by_cases c9 : j < k
          · rw [if_pos c9, if_pos (show j < k + 1 by omega)]
          · rw [if_neg c9, if_neg (show ¬ j < k + 1 by omega)]
      rw [← ih (k + 1) (by omega) d P x1, zs_181_144]
      simp (disch := omega) only [↓zs_181_145, ↓zs_181_148, ↓zs_181_151, ↓zs_181_152, ↓zs_181_155, ↓zs_181_156, ↓zs_181_157, ↓zs_181_160, ↓zs_181_161, ↓zs_181_162, ↓zs_181_163, ↓zs_181_166, zx_pu_s, zx_pu_n, zx_rv_s, zx_rv_n, true_and, and_true, true_or, or_true, zb_0, zb_1, zq_lcl, zq_lcg, zq_lce, eq_self, ite_true, ite_false, zk_138, zw_138, zk_139, zw_139, zk_140, zw_140, zk_141, zw_141, zk_142, zw_142, zk_143, zw_143, zk_144, zw_144, zk_145, zw_145, zk_146, zw_146, zk_147, zw_147, zk_148, zw_148, zk_149, zw_149, zk_150, zw_150, zk_151, zw_151, zk_152, zw_152, zq_138_1, zq_138_2, zq_138_3, zq_138_4, zq_138_16, zq_138_19, zq_138_20, zq_138_24, zq_138_25, zq_138_26, zq_138_27, zq_138_31, zq_138_32, zq_138_33, zn_10, zn_40, zn_040, zn_340, nI_add, zin_nI, nI_clamp, nI_ltI, nI_eq, pk_mul, nI_1, Nat.lt_irrefl, hlt, r0, zu_ur, es]
  have e0 : zx_ur I1 139 (zf_cp (I 139) (I 142) 0) = I1 := by
    have : zf_cp (I 139) (I 142) 0 = I1 139 := by
      rw [e139]
      exact funext fun j => if_neg (by omega)
    rw [this, zr_id]
  have l0 := loop 1286 0 rfl
  rw [e0] at l0
  have ex : zEx (I 142) (zf_cp (I 139) (I 142) 1286) := fun j h1 h2 => if_pos h1
  have vB := zEx_V ex v
  have hlet := fun d P => sp_letters (Lh := Lh) (I := I1) (J := J) (B := zf_cp (I 139) (I 142) 1286) vB.2.2.2.2.1 (d := d) (P := P)
  refine ⟨zx_ur I1 139 (zf_G (zf_cp (I 139) (I 142) 1286)), fun a j w => ?_, zr_s _ _ _, ?_, ?_, fun d P x1 w => ?_⟩
  · rw [zr_o (by omega)]; exact f1 a j (by omega)
  · rw [zr_o (by decide), hI1, zu_n (by omega), zu_s]
  · rw [zr_o (by decide), hI1, zu_s]
  · have u1 : ∀ y, zx_u I 138 13 y 138 11 = nI 0 := fun y => (zu_n (by omega)).trans e11
    have u3 : ∀ y w, zx_u (zx_u I 138 13 y) 138 14 w 138 11 = nI 0 := fun y w => by rw [zu_n (by omega), u1]
    have g0 : zx_ur I1 139 (zf_lets (zf_cp (I 139) (I 142) 1286) (zl (zf_cp (I 139) (I 142) 1286)) 0 (zf_cp (I 139) (I 142) 1286)) 139 0 = I 142 0 := by
      rw [zr_s]
      have := zf_G_o vB 0 (by omega)
      unfold zf_G at this
      rw [this]
      rfl
    simp (disch := omega) only [↓zs_181_100, ↓zs_181_101, ↓zs_181_102, ↓zs_181_105, ↓zs_181_108, ↓zs_181_109, ↓zs_181_110, ↓zs_181_113, ↓zs_181_116, ↓zs_181_117, ↓zs_181_120, ↓zs_181_121, ↓zs_181_124, ↓zs_181_127, ↓zs_181_128, ↓zs_181_131, ↓zs_181_134, ↓zs_181_136, ↓zs_181_137, ↓zs_181_140, ↓zs_181_141, ↓zs_181_142, ↓zs_181_143, zx_pu_s, zx_pu_n, zx_rv_s, zx_rv_n, true_and, and_true, true_or, or_true, zb_0, zb_1, zq_lcl, zq_lcg, zq_lce, eq_self, ite_true, ite_false, zk_138, zw_138, zk_139, zw_139, zk_140, zw_140, zk_141, zw_141, zk_142, zw_142, zk_143, zw_143, zk_144, zw_144, zk_145, zw_145, zk_146, zw_146, zk_147, zw_147, zk_148, zw_148, zk_149, zw_149, zk_150, zw_150, zk_151, zw_151, zk_152, zw_152, zq_138_1, zq_138_2, zq_138_3, zq_138_4, zq_138_16, zq_138_19, zq_138_20, zq_138_24, zq_138_25, zq_138_26, zq_138_27, zq_138_31, zq_138_32, zq_138_33, e11, u1, u3]
    rw [← hI1, l0]
    simp (disch := omega) only [↓zs_181_169, ↓zs_181_170, ↓zs_181_173, ↓zs_181_174, ↓zs_181_175, ↓zs_181_178, ↓zs_181_179, ↓zs_181_180, zx_pu_s, zx_pu_n, zx_rv_s, zx_rv_n, true_and, and_true, true_or, or_true, zb_0, zb_1, zq_lcl, zq_lcg, zq_lce, eq_self, ite_true, ite_false, zk_138, zw_138, zk_139, zw_139, zk_140, zw_140, zk_141, zw_141, zk_142, zw_142, zk_143, zw_143, zk_144, zw_144, zk_145, zw_145, zk_146, zw_146, zk_147, zw_147, zk_148, zw_148, zk_149, zw_149, zk_150, zw_150, zk_151, zw_151, zk_152, zw_152, zq_138_1, zq_138_2, zq_138_3, zq_138_4, zq_138_16, zq_138_19, zq_138_20, zq_138_24, zq_138_25, zq_138_26, zq_138_27, zq_138_31, zq_138_32, zq_138_33, zn_10, zn_40, zn_040, zn_340, nI_add, zin_nI, nI_clamp, nI_ltI, nI_eq, pk_mul, nI_1, Nat.lt_irrefl, hlet, g0]
    rfl
end F0
