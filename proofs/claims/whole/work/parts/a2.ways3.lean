/-! ways: the coming NIGHTS -/
theorem zf_night_p {B : Nat → Int32} {m : Nat} (v : zV B m) (s : Nat) (hs : s < 8) : zf_night B (109 + s) = B (109 + s) := by
  have hn : zn B ≤ 8 := v.1.1.2.2.2.2.2
  have h1 := zf_next_sm hn
  have hl := zSm_let h1 v.2.2.2.2.1
  unfold zf_night
  rw [← (zSm_k h1).2.2.2.1, zf_lets_o hl _ _ _ (by omega) _ (by omega)]
  unfold zf_next
  rw [zu1_n (by omega), zf_trow_o hn _ (by omega)]
theorem zf_ni_p {B : Nat → Int32} {m : Nat} (v : zV B m) : ∀ n, m + n < 2 ^ 30 → ∀ s, s < 8 → zf_ni B n (109 + s) = B (109 + s) := by
  intro n
  induction n with
  | zero => intro _ s _; rfl
  | succ n ih =>
    intro h s hs
    obtain ⟨v1, -⟩ := zf_ni_V v n (by omega)
    exact (zf_night_p v1 s hs).trans (ih (by omega) s hs)
theorem zf_taken_ni {B : Nat → Int32} {m n N k : Nat} (v : zV B m) (h : m + n < 2 ^ 30) (hN : N ≤ 8) (hk : k < 64) : zf_taken (zf_ni B n) N k = zf_taken B N k := by
  obtain ⟨-, s1⟩ := zf_ni_V v n h
  unfold zf_taken
  rw [zf_on_any _ _ _ _ (by omega), zf_on_any _ _ _ _ (by omega), s1 (45 + k) (by omega)]
  congr 1
  apply zf_any_eq
  intro j _ hj
  rw [zf_ni_p v n h j (by omega)]
/-- the STONES one may go to in coming NIGHT n -/
def zf_opn (B : Nat → Int32) (n : Nat) : Int64 := zf_free (zf_ni B n) (zw B) (zh B) (zn B)
theorem zf_opn_sub (B : Nat → Int32) (n : Nat) : zf_sub (zw B) (zh B) (zf_opn B n) := by
  intro j hj e
  unfold zf_opn zf_free at e
  rw [zt_mk hj, Bool.and_eq_true, Bool.and_eq_true, decide_eq_true_iff] at e
  exact e.1.1
section WN
variable {Lh m : Nat} {I : zx_MI} {J : zx_MJ} {B : Nat → Int32}
theorem sc_foresee (v : zInv I J m) (hm : m < 2 ^ 29) (w0 : 0 < zw (I 139)) : ∃ I2 J2, zFc 71 I I2 ∧ (∀ a j, ¬ ((a = 70 ∧ 5 ≤ j ∧ j ≤ 7) ∨ a = 75) → J2 a j = J a j) ∧ zW J2 (zw (I 139)) (zh (I 139)) ∧ (∀ i, i < 40 → J2 75 i = zf_opn (I 139) i) ∧ ∀ d P, zx_rn (d + 8) 91 [.ref 70, .ref 1, .ref 11] (zx_LL Lh) I J P = P none (zx_LL Lh) I2 J2 := by
  obtain ⟨⟨hw, hh, hN⟩, gr, g, ex, ok, N8, wh⟩ := zInv_k v
  obtain ⟨-, -, -, w8, h8, -⟩ := ok.1
  obtain ⟨J1, fJ1, z1, h1⟩ := sc_measure (Lh := Lh) (I := I) (J := J) hw hh w0 w8 h8
  obtain ⟨I2, f2, f2', r2, hb⟩ := sc_become (Lh := Lh) (I := I) (J := J1) zx_st71 zx_st11 (by decide)
  have jrow : ∀ J4 : zx_MJ, (∀ a j, ¬ ((a = 70 ∧ 5 ≤ j ∧ j ≤ 7) ∨ a = 75) → J4 a j = J a j) → zR_sq I J4 1 (I 139) := fun J4 f => zR_sq_f v.2.2.1 (fun _ _ _ _ _ _ => rfl) (fun j => f 1 j (by omega))
  have fJ1' : ∀ a j, ¬ ((a = 70 ∧ 5 ≤ j ∧ j ≤ 7) ∨ a = 75) → J1 a j = J a j := fun a j n => fJ1 a j (by omega)
  have rel1 : zR_st I2 11 (I 139) := zFc_st zx_st71 zx_st11 (by decide) f2 v.2.2.2.1
  have sq1 := jrow J1 fJ1'
  have tk : ∀ d P, zx_rn d 58 [.ref 1, .ref 11] (zx_LL Lh) I2 J1 P = P (some (.long (zf_orAll (I2 12) 8 0 (J1 1 12 ||| J1 1 13)))) (zx_LL Lh) I2 J1 := fun d P => sc_takenBits zx_sq1 zx_st11 (fun i hi => zM_place rel1 ok i hi)
  have tkb : ∀ k, k < 64 → zf_bit (zf_orAll (I2 12) 8 0 (J1 1 12 ||| J1 1 13)) k = zf_taken (I 139) (zn (I 139)) k := fun k hk => zt_taken (S := 1) (T := 11) sq1.2.2.2.2.2.1 g rel1 ok hk
  generalize zf_orAll (I2 12) 8 0 (J1 1 12 ||| J1 1 13) = T at tk tkb
  have loop : ∀ mm n I4 J4, n + mm = 40 → zFc 71 I I4 → zR_st I4 71 (zf_ni (I 139) n) → (∀ a j, ¬ ((a = 70 ∧ 5 ≤ j ∧ j ≤ 7) ∨ a = 75) → J4 a j = J a j) → zW J4 (zw (I 139)) (zh (I 139)) → (∀ i, i < n → J4 75 i = zf_opn (I 139) i) → ∃ I5 J5, zFc 71 I I5 ∧ (∀ a j, ¬ ((a = 70 ∧ 5 ≤ j ∧ j ≤ 7) ∨ a = 75) → J5 a j = J a j) ∧ zW J5 (zw (I 139)) (zh (I 139)) ∧ (∀ i, i < 40 → J5 75 i = zf_opn (I 139) i) ∧ ∀ d P, zx_wp (d + 8) 91 22 [.ref 70, .ref 1, .ref 11, .long T, zx_u0, .int (nI n)] [] (zx_LL Lh) I4 J4 P = P none (zx_LL Lh) I5 J5 := by
    intro mm
    induction mm with
    | zero =>
      intro n I4 J4 hn f r fJ z go
      obtain rfl : n = 40 := by omega
      refine ⟨I4, J4, f, fJ, z, go, fun d P => ?_⟩
      have e40 : Int32.ofNat 40 = nI 40 := rfl
      rw [zs_91_22]
      simp (disch := omega) only [↓zs_91_24, ↓zs_91_25, ↓zs_91_28, ↓zs_91_29, ↓zs_91_32, ↓zs_91_33, ↓zs_91_36, ↓zs_91_38, ↓zs_91_39, ↓zs_91_42, ↓zs_91_43, ↓zs_91_46, ↓zs_91_47, ↓zs_91_48, ↓zs_91_49, ↓zs_91_50, ↓zs_91_53, ↓zs_91_56, ↓zs_91_59, ↓zs_91_60, ↓zs_91_61, ↓zs_91_62, ↓zs_91_63, ↓zs_91_64, ↓zs_91_67, ↓zs_91_70, ↓zs_91_71, ↓zs_91_74, ↓zs_91_77, zx_pu_s, zx_pu_n, zx_rv_s, zx_rv_n, true_and, and_true, true_or, or_true, zb_0, zb_1, zq_lcl, zq_lcg, zq_lce, eq_self, ite_true, ite_false, zk_70, zw_70, zk_71, zw_71, zk_72, zw_72, zk_73, zw_73, zk_74, zw_74, zk_75, zw_75, zq_70_0, zq_70_1, zq_70_2, zq_70_3, zq_70_4, zq_71_0, zq_71_1, zq_71_2, e40, nI_ltI, Nat.lt_irrefl, zn_340]
    | succ mm ih =>
      intro n I4 J4 hn f r fJ z go
      have hlt : n < 40 := by omega
      obtain ⟨okn, gn, en, sn⟩ := zf_ni_ok v.2.1 n (by omega)
      have sq4 := zFc_sq zx_st71 f (jrow J4 fJ)
      have hun := fun d P => sc_under (d := d) (Lh := Lh) (I := I4) (J := J4) (P := P) zx_sq1 zx_st71 (zFc_si zx_st71 f v.1) ((f 1 6 (by decide)).trans hw) ((f 1 7 (by decide)).trans hh) ((f 1 8 (by decide)).trans hN) (zR_ground_s sn (jrow J4 fJ).2.2.2.2.2.1) gn r okn
      have eo : zf_allb (zw (I 139)) (zh (I 139)) &&& (T ^^^ -1) &&& (zf_under (zf_ni (I 139) n) (zw (I 139)) (zh (I 139)) (zn (I 139)) ^^^ -1) = zf_opn (I 139) n := zt_ext (fun k hk => by
        rw [zt_and, zt_and, zt_not hk, zt_not hk, zf_allb, zt_mk hk, tkb k hk, zf_opn, zf_free, zt_mk hk, zf_taken_ni v.2.1 (by omega) N8 hk])
      obtain ⟨I5, f5, r5, h5⟩ := sc_nightN (Lh := Lh) (I := I) (I1 := I4) (J := zx_u J4 75 n (zf_opn (I 139) n)) (n := n) zx_st71 v.2.1 (by omega) (jrow _ (fun a j q => by rw [zu_n (by omega)]; exact fJ a j q)) f r
      obtain ⟨I6, J6, f6, fJ6, z6, g6, h6⟩ := ih (n + 1) I5 (zx_u J4 75 n (zf_opn (I 139) n)) (by omega) f5 r5 (fun a j q => by rw [zu_n (by omega)]; exact fJ a j q) (zW_f z (fun j => zu_n (by omega))) (fun i hi => by
        by_cases q : i = n
        · subst q; exact zu_s _ _ _ _
        · rw [zu_n (by omega)]; exact go i (by omega))
      refine ⟨I6, J6, f6, fJ6, z6, g6, fun d P => ?_⟩
      have e40 : Int32.ofNat 40 = nI 40 := rfl
      rw [← h6 d P, zs_91_22]
      simp (disch := omega) only [↓zs_91_24, ↓zs_91_25, ↓zs_91_28, ↓zs_91_29, ↓zs_91_32, ↓zs_91_33, ↓zs_91_36, ↓zs_91_38, ↓zs_91_39, ↓zs_91_42, ↓zs_91_43, ↓zs_91_46, ↓zs_91_47, ↓zs_91_48, ↓zs_91_49, ↓zs_91_50, ↓zs_91_53, ↓zs_91_56, ↓zs_91_59, ↓zs_91_60, ↓zs_91_61, zx_pu_s, zx_pu_n, zx_rv_s, zx_rv_n, true_and, and_true, true_or, or_true, zb_0, zb_1, zq_lcl, zq_lcg, zq_lce, eq_self, ite_true, ite_false, zk_1, zw_1, zq_1_0, zq_1_1, zq_1_2, zq_1_3, zq_1_4, zq_1_5, zk_70, zw_70, zk_71, zw_71, zk_72, zw_72, zk_73, zw_73, zk_74, zw_74, zk_75, zw_75, zq_70_0, zq_70_1, zq_70_2, zq_70_3, zq_70_4, zq_71_0, zq_71_1, zq_71_2, e40, zin_nI, nI_clamp, nI_ltI, hlt, z.1, hun, eo, zn_340]
      simp (disch := omega) only [↓zs_91_62, ↓zs_91_63, ↓zs_91_64, ↓zs_91_67, ↓zs_91_70, ↓zs_91_71, ↓zs_91_74, ↓zs_91_77, zx_pu_s, zx_pu_n, zx_rv_s, zx_rv_n, true_and, and_true, true_or, or_true, zb_0, zb_1, zq_lcl, zq_lcg, zq_lce, eq_self, ite_true, ite_false, zk_1, zw_1, zq_1_0, zq_1_1, zq_1_2, zq_1_3, zq_1_4, zq_1_5, zk_70, zw_70, zk_71, zw_71, zk_72, zw_72, zk_73, zw_73, zk_74, zw_74, zk_75, zw_75, zq_70_0, zq_70_1, zq_70_2, zq_70_3, zq_70_4, zq_71_0, zq_71_1, zq_71_2, h5, nI_add]
  obtain ⟨I5, J5, f5, fJ5, z5, g5, h5⟩ := loop 40 0 I2 J1 (by omega) f2 (r2 _ v.2.2.2.1) fJ1' z1 (fun i hi => absurd hi (Nat.not_lt_zero i))
  refine ⟨I5, J5, f5, fJ5, z5, g5, fun d P => ?_⟩
  rw [← h5 d P, ze_91]
  simp (disch := omega) only [↓zs_91_0, ↓zs_91_1, ↓zs_91_2, ↓zs_91_5, ↓zs_91_6, ↓zs_91_9, ↓zs_91_10, ↓zs_91_13, ↓zs_91_14, ↓zs_91_15, ↓zs_91_18, ↓zs_91_19, ↓zs_91_20, zx_pu_s, zx_pu_n, zx_rv_s, zx_rv_n, true_and, and_true, true_or, or_true, zb_0, zb_1, zq_lcl, zq_lcg, zq_lce, eq_self, ite_true, ite_false, zk_1, zw_1, zq_1_0, zq_1_1, zq_1_2, zq_1_3, zq_1_4, zq_1_5, zk_11, zw_11, zq_11_0, zq_11_1, zq_11_2, zk_70, zw_70, zk_71, zw_71, zq_70_0, zq_70_1, zq_70_2, zq_70_3, zq_70_4, zq_71_0, zq_71_1, zq_71_2, h1, hb, tk]
theorem sp_laysOpen {n : Nat} (si : zx_SI I) (v : zV B m) (hm : m + 50 < 2 ^ 30) (eB : I 139 = B) (hn : n ≤ 40) : ∃ I2 J2, zFk I I2 ∧ I2 139 = B ∧ (∀ a, a ≠ 146 → J2 a = J a) ∧ (∀ i, i < n → J2 146 i = zf_opn B i) ∧ ∀ d P, zx_rn (d + 9) 241 [.ref 138, .int (nI n)] (zx_LL Lh) I J P = P none (zx_LL Lh) I2 J2 := by
  obtain ⟨I1, f1, g1, h1⟩ := sp_keepsAhead (Lh := Lh) (I := I) (J := J)
  rw [eB] at g1
  have e1 : I1 139 = B := (f1 139 (by decide)).trans eB
  have si1 : zx_SI I1 := fun a j ha => (congrFun (f1 a (by omega)) j).trans (si a j ha)
  have loop : ∀ mm i I4 J4, i + mm = n → zFm I1 I4 → I4 139 = zf_ni B i → (∀ a, a ≠ 146 → J4 a = J a) → (∀ j, j < i → J4 146 j = zf_opn B j) → ∃ I2 J2, zFk I I2 ∧ I2 139 = B ∧ (∀ a, a ≠ 146 → J2 a = J a) ∧ (∀ j, j < n → J2 146 j = zf_opn B j) ∧ ∀ d P, zx_wp (d + 9) 241 6 [.ref 138, .int (nI n), .int (nI i)] [] (zx_LL Lh) I4 J4 P = P none (zx_LL Lh) I2 J2 := by
    intro mm
    induction mm with
    | zero =>
      intro i I4 J4 hi f e fJ go
      obtain rfl : i = n := by omega
      obtain ⟨-, sn⟩ := zf_ni_V v i (by omega)
      have eback : zf_back (I4 139) (I4 145) = B := zf_back_eq (by rw [e]; exact sn) (fun j hj => by rw [zFm_row f (by decide) (by decide) (by decide)]; exact g1 j hj)
      have hah := fun d P => sp_isAhead (Lh := Lh) (I := I4) (J := J4) (d := d) (P := P)
      rw [eback] at hah
      refine ⟨zx_ur I4 139 B, J4, fun a j w => ?_, zr_s _ _ _, fJ, go, fun d P => ?_⟩
      · rw [zr_o (by omega), f a j (by omega), f1 a (by omega)]
      · rw [zs_241_6]
        simp (disch := omega) only [↓zs_241_7, ↓zs_241_8, ↓zs_241_11, ↓zs_241_12, ↓zs_241_15, ↓zs_241_16, ↓zs_241_17, ↓zs_241_20, ↓zs_241_21, ↓zs_241_22, ↓zs_241_25, ↓zs_241_26, ↓zs_241_29, ↓zs_241_32, ↓zs_241_33, ↓zs_241_36, zx_pu_s, zx_pu_n, zx_rv_s, zx_rv_n, true_and, and_true, true_or, or_true, zb_0, zb_1, zq_lcl, zq_lcg, zq_lce, eq_self, ite_true, ite_false, zk_138, zw_138, zk_139, zw_139, zk_140, zw_140, zk_141, zw_141, zk_142, zw_142, zk_143, zw_143, zk_144, zw_144, zk_145, zw_145, zk_146, zw_146, zk_147, zw_147, zk_148, zw_148, zk_149, zw_149, zk_150, zw_150, zk_151, zw_151, zk_152, zw_152, zq_138_1, zq_138_2, zq_138_3, zq_138_4, zq_138_16, zq_138_19, zq_138_20, zq_138_24, zq_138_25, zq_138_26, zq_138_27, zq_138_31, zq_138_32, zq_138_33, nI_ltI, Nat.lt_irrefl, hah]
    | succ mm ih =>
      intro i I4 J4 hi f e fJ go
      have hlt : i < n := by omega
      obtain ⟨okn, -, -, sn⟩ := zf_ni_ok v i (by omega)
      obtain ⟨I5, f5, h5⟩ := sp_freeStones (Lh := Lh) (I := I4) (J := J4) (w := zw B) (h := zh B) (N := zn B) (zFm_si f si1) (by rw [e]; exact okn)
      rw [e] at h5
      have f15 : zFm I1 I5 := zFm_t f (zFs_m f5)
      have e5 : I5 139 = zf_ni B i := (zFs_139 f5).trans e
      obtain ⟨I6, f6, r6, -, -, h6⟩ := sp_nightN (Lh := Lh) (J := zx_u J4 146 i (zf_opn B i)) (n := i) v (by omega) f15 e5
      obtain ⟨I2, J2, f2, e2, fJ2, g2, h2⟩ := ih (i + 1) I6 (zx_u J4 146 i (zf_opn B i)) (by omega) f6 r6 (fun a ha => (zu_o ha).trans (fJ a ha)) (fun j hj => by
        by_cases q : j = i
        · subst q; exact zu_s _ _ _ _
        · rw [zu_n (by omega)]; exact go j (by omega))
      refine ⟨I2, J2, f2, e2, fJ2, g2, fun d P => ?_⟩
      have h5' : ∀ d P, zx_rn (d + 7) 240 [.ref 138] (zx_LL Lh) I4 J4 P = P (some (.long (zf_opn B i))) (zx_LL Lh) I5 J4 := h5
      rw [← h2 d P, zs_241_6]
      simp (disch := omega) only [↓zs_241_7, ↓zs_241_8, ↓zs_241_11, ↓zs_241_12, ↓zs_241_15, ↓zs_241_16, ↓zs_241_17, ↓zs_241_20, ↓zs_241_21, ↓zs_241_22, ↓zs_241_25, ↓zs_241_26, ↓zs_241_29, ↓zs_241_32, ↓zs_241_33, ↓zs_241_36, zx_pu_s, zx_pu_n, zx_rv_s, zx_rv_n, true_and, and_true, true_or, or_true, zb_0, zb_1, zq_lcl, zq_lcg, zq_lce, eq_self, ite_true, ite_false, zk_138, zw_138, zk_139, zw_139, zk_140, zw_140, zk_141, zw_141, zk_142, zw_142, zk_143, zw_143, zk_144, zw_144, zk_145, zw_145, zk_146, zw_146, zk_147, zw_147, zk_148, zw_148, zk_149, zw_149, zk_150, zw_150, zk_151, zw_151, zk_152, zw_152, zq_138_1, zq_138_2, zq_138_3, zq_138_4, zq_138_16, zq_138_19, zq_138_20, zq_138_24, zq_138_25, zq_138_26, zq_138_27, zq_138_31, zq_138_32, zq_138_33, nI_ltI, nI_add, hlt, h5', zin_nI, nI_clamp, h6]
  obtain ⟨I2, J2, f2, e2, fJ2, g2, h2⟩ := loop n 0 I1 J (by omega) (zFm_r _) e1 (fun _ _ => rfl) (fun j hj => absurd hj (Nat.not_lt_zero j))
  refine ⟨I2, J2, f2, e2, fJ2, g2, fun d P => ?_⟩
  rw [← h2 d P, ze_241]
  simp (disch := omega) only [↓zs_241_0, ↓zs_241_1, ↓zs_241_4, ↓zs_241_5, zx_pu_s, zx_pu_n, zx_rv_s, zx_rv_n, true_and, and_true, true_or, or_true, zb_0, zb_1, zq_lcl, zq_lcg, zq_lce, eq_self, ite_true, ite_false, zk_138, zw_138, zk_139, zw_139, zk_140, zw_140, zk_141, zw_141, zk_142, zw_142, zk_143, zw_143, zk_144, zw_144, zk_145, zw_145, zk_146, zw_146, zk_147, zw_147, zk_148, zw_148, zk_149, zw_149, zk_150, zw_150, zk_151, zw_151, zk_152, zw_152, zq_138_1, zq_138_2, zq_138_3, zq_138_4, zq_138_16, zq_138_19, zq_138_20, zq_138_24, zq_138_25, zq_138_26, zq_138_27, zq_138_31, zq_138_32, zq_138_33, h1]
end WN
