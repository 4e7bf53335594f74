/-! letter, peace, down, up -/
def zKo (I Ic : zx_MI) (B : Nat → Int32) (e D : Nat) : Prop := (∀ a j, ¬ (zSc a j ∨ (11 ≤ a ∧ a ≤ 14) ∨ (a = 23 ∧ (j = 1 ∨ j = 2)) ∨ (25 + 4 * ((e + D) % 10) ≤ a ∧ a ≤ 25 + 4 * ((e + D) % 10) + 3)) → Ic a j = I a j) ∧ Ic 23 1 = nI (if D < 10 then e else (e + 1) % 10) ∧ Ic 23 2 = nI (if D < 10 then D + 1 else 10) ∧ zR_st Ic (25 + 4 * ((e + D) % 10)) (I 139) ∧ zR_st Ic 11 B
def zMo (Ic Im : zx_MI) (B A : Nat → Int32) (D : Nat) : Prop := (∀ a j, ¬ (a = 139 ∨ zSc a j) → Im a j = Ic a j) ∧ ∃ W : Nat → Int32, (∀ j, j < 25 → W j = A (109 + j)) ∧ Im 139 = zf_note B W D
theorem zKM {I Ic Im : zx_MI} {J : zx_MJ} {m m2 e D : Nat} {B : Nat → Int32} (v : zInv I J m) (hm : m ≤ m2) (sB : zSm (I 139) B) (vB : zV B m2) (he : e < 10) (hD : D ≤ 10) (h1 : I 23 1 = nI e) (h2 : I 23 2 = nI D) (h3 : I 139 134 = nI D) (h4 : ∀ i, i < D → zR_st I (25 + 4 * ((e + i) % 10)) (zf_was (I 139) i) ∧ zV (zf_was (I 139) i) m) (k : zKo I Ic B e D) (o : zMo Ic Im B (I 139) D) : zInv Im J m2 := by
  obtain ⟨k1, k2, k3, k4, k5⟩ := k
  obtain ⟨o1, W, o2, o3⟩ := o
  have hm9 : (e + D) % 10 < 10 := Nat.mod_lt _ (by omega)
  refine zInv_note v hm sB vB he hD h1 h2 h3 (fun _ _ _ => rfl) (fun a j n => ?_) ?_ ?_ ?_ ?_ o2 o3 h4
  · rw [o1 a j (fun q => q.elim (fun z => n (.inr (.inr (.inr (.inr z))))) (fun z => n (.inl z))), k1 a j (fun q => by
      rcases q with z | z | z | z
      · exact n (.inl z)
      · exact n (.inr (.inl z))
      · exact n (.inr (.inr (.inl z)))
      · exact n (.inr (.inr (.inr (.inl z)))))]
  · rw [o1 23 1 (by unfold zSc; omega)]; exact k2
  · rw [o1 23 2 (by unfold zSc; omega)]; exact k3
  · exact zR_st_f k4 (fun a j h1 h2 => o1 a j (by unfold zSc; omega))
  · exact zR_st_f k5 (fun a j h1 h2 => o1 a j (by unfold zSc; omega))
section LE
variable {Lh m : Nat} {I : zx_MI} {J : zx_MJ}
/-- the class keeps how all stand, and sets one place -/
theorem sc_keepSet {e D f c : Nat} {x : Int32} {B : Nat → Int32} (v : zInv I J m) (he : e < 10) (hD : D ≤ 10) (h1 : I 23 1 = nI e) (h2 : I 23 2 = nI D) (hc : c = 12 ∨ c = 14) (hf : f < 8) (hB : B = if c = 14 then zu1 (I 139) (125 + f) x else zu1 (I 139) (109 + f) x) : ∃ Ik, (∀ d P, zx_rn (d + 1) 26 [.ref 23, .ref 11] (zx_LL Lh) I J P = P none (zx_LL Lh) Ik J) ∧ (∀ a, a ≤ 22 → Ik a = I a) ∧ zKo I (zx_u Ik c f x) B e D := by
  obtain ⟨Ik, k1, k2, k3, k4, hk⟩ := sc_keep (Lh := Lh) (I := I) (J := J) zx_st11 (by decide) he hD h1 h2
  have hm9 : (e + D) % 10 < 10 := Nat.mod_lt _ (by omega)
  have rel := v.2.2.2.1
  have r11 : zR_st Ik 11 (I 139) := zR_st_f rel (fun a j h1 h2 => k1 a j (by omega))
  refine ⟨Ik, hk, fun a ha => funext fun j => k1 a j (by omega), fun a j n => ?_, ?_, ?_, ?_, ?_⟩
  · rw [zu_n (fun q => n (by omega))]
    exact k1 a j (fun q => n (by rcases q with q | q <;> omega))
  · rw [zu_n (by omega)]; exact k3
  · rw [zu_n (by omega)]; exact k4
  · exact zR_st_f (k2 _ rel) (fun a j h1 h2 => zu_n (by omega))
  · rcases hc with rfl | rfl
    · rw [hB, if_neg (by decide)]; exact zR_u_place r11 hf
    · rw [hB, if_pos rfl]; exact zR_u_foe r11 hf
/-- the model does a deed that can be, or says why not -/
theorem sp_did {n s r D : Nat} {A : Nat → Int32} (hA : I 139 = A) (v : zV A m) (hm : m < 2 ^ 29) (hn : n < 1800) (hs : s < 8) (hr : r = 109 ∨ r = 125) (hD : D ≤ 10) (h134 : A 134 = nI D) (hw : zf_whyN A n = 0) : ∃ I2, zMo I I2 (zf_doN A n) A D ∧ ∀ d P, zx_rn (d + 12) 219 [.ref 138, .int (nI s), .int (nI 1), .int (nI n), .int (nI r)] (zx_LL Lh) I J P = P (some (.int (A (r + s)))) (zx_LL Lh) I2 J := by
  subst hA
  have hwy := fun d P => sp_whyNot (d := d) (Lh := Lh) (J := J) (P := P) (lN n) v
  have w0 : zf_why (I 139) (lN n) = 0 := by rw [zf_why_n (by omega)]; exact hw
  rw [w0] at hwy
  obtain ⟨I1, f1, g1, h1⟩ := sp_keeps (Lh := Lh) (I := I) (J := J)
  have e1 : I1 139 = I 139 := f1 139 (by decide)
  obtain ⟨I2, f2, e2, h2⟩ := sp_does (Lh := Lh) (I := I1) (J := J) (lN n) (by rw [e1]; exact v) (by omega) (by rw [e1]; exact w0)
  rw [e1, lN_i] at h2
  rw [e1, (zf_do_n (B := I 139) (n := n) (by omega)).1] at e2
  have sm : zSm (I 139) (zf_doN (I 139) n) := by
    have := (zf_do_V v (by omega) w0).2
    rw [(zf_do_n (B := I 139) (n := n) (by omega)).1] at this
    exact this
  have e144 : I2 144 = I1 144 := zFm_row f2 (by decide) (by decide) (by decide)
  have hnote := fun d P => sp_notes (Lh := Lh) (I := I2) (J := J) (D := D) hD (by rw [e2, sm 134 (by omega)]; exact h134) (d := d) (P := P)
  have u144 : ∀ R, zx_ur I2 139 R 144 = I1 144 := fun R => (zr_o (by decide)).trans e144
  have c0 : (nI 1 = nI 0) = False := eq_false (by decide)
  refine ⟨zx_ur I2 139 (zf_note (I2 139) (I2 144) D), ⟨fun a j q => ?_, I1 144, fun j hj => g1 j hj, by rw [zr_s, e2, e144]⟩, fun d P => ?_⟩
  · unfold zSc at q
    rw [zr_o (fun e => q (.inl e)), f2 a j (by omega), f1 a (by omega)]
  · rw [ze_219]
    rcases hr with rfl | rfl
    · have w1 : I1 144 s = I 139 (109 + s) := g1 s (by omega)
      simp (disch := omega) only [↓zs_219_0, ↓zs_219_1, ↓zs_219_4, ↓zs_219_5, ↓zs_219_6, ↓zs_219_7, ↓zs_219_10, ↓zs_219_13, ↓zs_219_14, ↓zs_219_16, ↓zs_219_18, ↓zs_219_21, ↓zs_219_23, ↓zs_219_25, ↓zs_219_26, ↓zs_219_27, ↓zs_219_28, ↓zs_219_31, ↓zs_219_32, ↓zs_219_33, ↓zs_219_36, ↓zs_219_37, ↓zs_219_38, ↓zs_219_41, ↓zs_219_42, ↓zs_219_45, ↓zs_219_47, ↓zs_219_49, ↓zs_219_50, ↓zs_219_51, ↓zs_219_52, ↓zs_219_53, zx_pu_s, zx_pu_n, zx_rv_s, zx_rv_n, true_and, and_true, true_or, or_true, zb_0, zb_1, zq_lcl, zq_lcg, zq_lce, eq_self, ite_true, ite_false, zk_138, zw_138, zk_139, zw_139, zk_140, zw_140, zk_141, zw_141, zk_142, zw_142, zk_143, zw_143, zk_144, zw_144, zk_145, zw_145, zk_146, zw_146, zk_147, zw_147, zk_148, zw_148, zk_149, zw_149, zk_150, zw_150, zk_151, zw_151, zk_152, zw_152, zq_138_1, zq_138_2, zq_138_3, zq_138_4, zq_138_16, zq_138_19, zq_138_20, zq_138_24, zq_138_25, zq_138_26, zq_138_27, zq_138_31, zq_138_32, zq_138_33, zn_10, zn_40, zn_040, zn_340, nI_add, zin_nI, nI_clamp, nI_ltI, nI_eq, pk_mul, nI_l, c0, hwy, h1, h2, hnote, u144, pk_sub, Nat.sub_self, Nat.zero_add, w1]
    · have w1 : I1 144 (16 + s) = I 139 (125 + s) := by rw [g1 (16 + s) (by omega)]; congr 1; omega
      have e16 : nI 125 - nI 109 = nI 16 := rfl
      simp (disch := omega) only [↓zs_219_0, ↓zs_219_1, ↓zs_219_4, ↓zs_219_5, ↓zs_219_6, ↓zs_219_7, ↓zs_219_10, ↓zs_219_13, ↓zs_219_14, ↓zs_219_16, ↓zs_219_18, ↓zs_219_21, ↓zs_219_23, ↓zs_219_25, ↓zs_219_26, ↓zs_219_27, ↓zs_219_28, ↓zs_219_31, ↓zs_219_32, ↓zs_219_33, ↓zs_219_36, ↓zs_219_37, ↓zs_219_38, ↓zs_219_41, ↓zs_219_42, ↓zs_219_45, ↓zs_219_47, ↓zs_219_49, ↓zs_219_50, ↓zs_219_51, ↓zs_219_52, ↓zs_219_53, zx_pu_s, zx_pu_n, zx_rv_s, zx_rv_n, true_and, and_true, true_or, or_true, zb_0, zb_1, zq_lcl, zq_lcg, zq_lce, eq_self, ite_true, ite_false, zk_138, zw_138, zk_139, zw_139, zk_140, zw_140, zk_141, zw_141, zk_142, zw_142, zk_143, zw_143, zk_144, zw_144, zk_145, zw_145, zk_146, zw_146, zk_147, zw_147, zk_148, zw_148, zk_149, zw_149, zk_150, zw_150, zk_151, zw_151, zk_152, zw_152, zq_138_1, zq_138_2, zq_138_3, zq_138_4, zq_138_16, zq_138_19, zq_138_20, zq_138_24, zq_138_25, zq_138_26, zq_138_27, zq_138_31, zq_138_32, zq_138_33, zn_10, zn_40, zn_040, zn_340, nI_add, zin_nI, nI_clamp, nI_ltI, nI_eq, pk_mul, nI_l, c0, hwy, h1, h2, hnote, u144, e16, w1]
theorem sp_didNot {n s r : Nat} {A : Nat → Int32} (hA : I 139 = A) (v : zV A m) (hn : n < 1800) (hw : zf_whyN A n ≠ 0) (hw3 : zf_whyN A n ≤ 3) : ∀ d P, zx_rn (d + 12) 219 [.ref 138, .int (nI s), .int (nI 1), .int (nI n), .int (nI r)] (zx_LL Lh) I J P = P (some (.int (-10 - nI (zf_whyN A n)))) (zx_LL Lh) I J := by
  subst hA
  intro d P
  have hwy := fun d P => sp_whyNot (d := d) (Lh := Lh) (J := J) (P := P) (lN n) v
  rw [zf_why_n (by omega)] at hwy
  have c0 : (nI 1 = nI 0) = False := eq_false (by decide)
  have c1 : (zf_whyN (I 139) n = 0) = False := eq_false hw
  rw [ze_219]
  simp (disch := omega) only [↓zs_219_0, ↓zs_219_1, ↓zs_219_4, ↓zs_219_5, ↓zs_219_6, ↓zs_219_7, ↓zs_219_10, ↓zs_219_13, ↓zs_219_14, ↓zs_219_16, ↓zs_219_18, ↓zs_219_21, ↓zs_219_23, ↓zs_219_25, ↓zs_219_26, ↓zs_219_27, ↓zs_219_28, ↓zs_219_31, ↓zs_219_32, ↓zs_219_33, ↓zs_219_36, ↓zs_219_37, ↓zs_219_38, ↓zs_219_41, ↓zs_219_42, ↓zs_219_45, ↓zs_219_47, ↓zs_219_49, ↓zs_219_50, ↓zs_219_51, ↓zs_219_52, ↓zs_219_53, zx_pu_s, zx_pu_n, zx_rv_s, zx_rv_n, true_and, and_true, true_or, or_true, zb_0, zb_1, zq_lcl, zq_lcg, zq_lce, eq_self, ite_true, ite_false, zk_138, zw_138, zk_139, zw_139, zk_140, zw_140, zk_141, zw_141, zk_142, zw_142, zk_143, zw_143, zk_144, zw_144, zk_145, zw_145, zk_146, zw_146, zk_147, zw_147, zk_148, zw_148, zk_149, zw_149, zk_150, zw_150, zk_151, zw_151, zk_152, zw_152, zq_138_1, zq_138_2, zq_138_3, zq_138_4, zq_138_16, zq_138_19, zq_138_20, zq_138_24, zq_138_25, zq_138_26, zq_138_27, zq_138_31, zq_138_32, zq_138_33, zn_10, zn_40, zn_040, zn_340, nI_add, zin_nI, nI_clamp, nI_ltI, nI_eq, pk_mul, nI_l, c0, hwy, c1]
theorem sp_didBad {x y z : Int32} : ∀ d P, zx_rn (d + 12) 219 [.ref 138, .int x, .int (nI 0), .int y, .int z] (zx_LL Lh) I J P = P (some (.int (-10 - nI 1))) (zx_LL Lh) I J := by
  intro d P
  have c0 : (nI 1 = nI 0) = False := eq_false (by decide)
  rw [ze_219]
  simp (disch := omega) only [↓zs_219_0, ↓zs_219_1, ↓zs_219_4, ↓zs_219_5, ↓zs_219_6, ↓zs_219_7, ↓zs_219_10, ↓zs_219_13, ↓zs_219_14, ↓zs_219_16, ↓zs_219_18, ↓zs_219_21, ↓zs_219_23, ↓zs_219_25, ↓zs_219_26, ↓zs_219_27, ↓zs_219_28, ↓zs_219_31, ↓zs_219_32, ↓zs_219_33, ↓zs_219_36, ↓zs_219_37, ↓zs_219_38, ↓zs_219_41, ↓zs_219_42, ↓zs_219_45, ↓zs_219_47, ↓zs_219_49, ↓zs_219_50, ↓zs_219_51, ↓zs_219_52, ↓zs_219_53, zx_pu_s, zx_pu_n, zx_rv_s, zx_rv_n, true_and, and_true, true_or, or_true, zb_0, zb_1, zq_lcl, zq_lcg, zq_lce, eq_self, ite_true, ite_false, zk_138, zw_138, zk_139, zw_139, zk_140, zw_140, zk_141, zw_141, zk_142, zw_142, zk_143, zw_143, zk_144, zw_144, zk_145, zw_145, zk_146, zw_146, zk_147, zw_147, zk_148, zw_148, zk_149, zw_149, zk_150, zw_150, zk_151, zw_151, zk_152, zw_152, zq_138_1, zq_138_2, zq_138_3, zq_138_4, zq_138_16, zq_138_19, zq_138_20, zq_138_24, zq_138_25, zq_138_26, zq_138_27, zq_138_31, zq_138_32, zq_138_33, c0]
theorem zf_wL_le (B : Nat → Int32) (a b : Nat) : zf_wL B a b ≤ 3 := by 
  unfold zf_wL
  repeat' split
  all_goals omega
theorem zf_w1_le (B : Nat → Int32) (a : Nat) : zf_w1 B a ≤ 3 := by 
  unfold zf_w1
  repeat' split
  all_goals omega
theorem zf_wU_le (B : Nat → Int32) (a b : Nat) : zf_wU B a b ≤ 3 := by 
  unfold zf_wU
  repeat' split
  all_goals omega
theorem sc_whyLn {T : Nat} {x y : Int32} {B : Nat → Int32} (hN : I 1 8 = nI (zn B)) (N8 : zn B ≤ 8) (h : (zf_in x.toInt (zn B) && zf_in y.toInt (zn B)) = false) : ∀ d P, zx_rn (d + 1) 3 [.ref 1, .ref T, .int x, .int y] (zx_LL Lh) I J P = P (some (.int (nI 1))) (zx_LL Lh) I J := by
  intro d P
  have h1 := fun P => sc_hasStatue (d := d) (Lh := Lh) (J := J) (P := P) zx_sq1 x hN N8
  have h2 := fun P => sc_hasStatue (d := d) (Lh := Lh) (J := J) (P := P) zx_sq1 y hN N8
  rw [ze_3]
  cases c1 : zf_in x.toInt (zn B) with
  | false => simp (disch := omega) only [↓zs_3_0, ↓zs_3_1, ↓zs_3_2, ↓zs_3_5, ↓zs_3_8, ↓zs_3_9, ↓zs_3_10, ↓zs_3_13, ↓zs_3_16, ↓zs_3_17, ↓zs_3_18, ↓zs_3_21, ↓zs_3_22, ↓zs_3_23, ↓zs_3_24, ↓zs_3_25, ↓zs_3_28, ↓zs_3_31, ↓zs_3_32, ↓zs_3_33, ↓zs_3_36, ↓zs_3_39, ↓zs_3_40, ↓zs_3_43, ↓zs_3_44, zx_pu_s, zx_pu_n, zx_rv_s, zx_rv_n, true_and, and_true, true_or, or_true, zb_0, zb_1, zq_lcl, zq_lcg, zq_lce, eq_self, ite_true, ite_false, zk_1, zw_1, zq_1_0, zq_1_1, zq_1_2, zq_1_3, zq_1_4, zq_1_5, h1, c1, zB_0]
  | true =>
    cases c2 : zf_in y.toInt (zn B) with
    | false => simp (disch := omega) only [↓zs_3_0, ↓zs_3_1, ↓zs_3_2, ↓zs_3_5, ↓zs_3_8, ↓zs_3_9, ↓zs_3_10, ↓zs_3_13, ↓zs_3_16, ↓zs_3_17, ↓zs_3_18, ↓zs_3_21, ↓zs_3_22, ↓zs_3_23, ↓zs_3_24, ↓zs_3_25, ↓zs_3_28, ↓zs_3_31, ↓zs_3_32, ↓zs_3_33, ↓zs_3_36, ↓zs_3_39, ↓zs_3_40, ↓zs_3_43, ↓zs_3_44, zx_pu_s, zx_pu_n, zx_rv_s, zx_rv_n, true_and, and_true, true_or, or_true, zb_0, zb_1, zq_lcl, zq_lcg, zq_lce, eq_self, ite_true, ite_false, zk_1, zw_1, zq_1_0, zq_1_1, zq_1_2, zq_1_3, zq_1_4, zq_1_5, h1, h2, c1, c2, zB_0, reduceCtorEq]
    | true => rw [c1, c2] at h; exact Bool.noConfusion h
theorem d_letter (v : zInv I J m) (hm : m < 2 ^ 29) (x y : Int32) : zD Lh 111 220 [.int x, .int y] I J (m + 1) := by
  obtain ⟨⟨hw, hh, hN⟩, gr, g, ex, ok, N8, wh⟩ := zInv_k v
  obtain ⟨e, D, he, hD, p1, p2, p3, p4⟩ := v.2.2.2.2.1
  have hNu : zx_u I 138 0 (nI 0) 139 3 = nI (zn (I 139)) := by rw [zu_139]; exact ok.1.2.2.1
  have hx := fun d P => sp_isStatue (d := d) (Lh := Lh) (J := J) (P := P) x.toInt64 hNu N8
  have hy := fun d P => sp_isStatue (d := d) (Lh := Lh) (J := J) (P := P) y.toInt64 hNu N8
  rw [Int32.toInt_toInt64] at hx hy
  cases c : (zf_in x.toInt (zn (I 139)) && zf_in y.toInt (zn (I 139))) with
  | false =>
    refine zQ_D (m := m) ⟨.int (-10 - nI 1), I, J, zx_u I 138 0 (nI 0), J, fun d P => ?_, fun d P => ?_, zScr_s (zFs_0 _ _)⟩ v (by omega)
    · have h1 := sc_whyLn (Lh := Lh) (J := J) (T := 11) hN N8 c
      have c0 : (nI 1 = nI 0) = False := eq_false (by decide)
      rw [ze_111]
      simp (disch := omega) only [↓zs_111_0, ↓zs_111_1, ↓zs_111_4, ↓zs_111_5, ↓zs_111_8, ↓zs_111_9, ↓zs_111_10, ↓zs_111_13, ↓zs_111_14, ↓zs_111_15, ↓zs_111_18, ↓zs_111_20, ↓zs_111_21, ↓zs_111_22, ↓zs_111_23, ↓zs_111_24, ↓zs_111_27, ↓zs_111_30, ↓zs_111_31, ↓zs_111_32, ↓zs_111_34, ↓zs_111_35, ↓zs_111_38, ↓zs_111_39, ↓zs_111_42, ↓zs_111_45, ↓zs_111_46, ↓zs_111_49, ↓zs_111_52, ↓zs_111_53, ↓zs_111_54, ↓zs_111_55, ↓zs_111_57, zx_pu_s, zx_pu_n, zx_rv_s, zx_rv_n, true_and, and_true, true_or, or_true, zb_0, zb_1, zq_lcl, zq_lcg, zq_lce, eq_self, ite_true, ite_false, zk_0, zw_0, zk_1, zw_1, zq_0_0, zq_0_1, zq_0_2, zq_0_3, zq_0_4, zq_0_5, zq_0_6, zq_0_7, zq_0_8, zq_0_9, zq_0_10, zq_0_11, zq_1_0, zq_1_1, zq_1_2, zq_1_3, zq_1_4, zq_1_5, zk_11, zw_11, zq_11_0, zq_11_1, zq_11_2, h1, c0]
    · rw [ze_220]
      have hb := fun x y z => sp_didBad (Lh := Lh) (I := zx_u I 138 0 (nI 0)) (J := J) (x := x) (y := y) (z := z)
      cases c1 : zf_in x.toInt (zn (I 139)) with
      | false => simp (disch := omega) only [↓zs_220_0, ↓zs_220_1, ↓zs_220_2, ↓zs_220_5, ↓zs_220_6, ↓zs_220_7, ↓zs_220_8, ↓zs_220_9, ↓zs_220_10, ↓zs_220_13, ↓zs_220_16, ↓zs_220_17, ↓zs_220_18, ↓zs_220_19, ↓zs_220_22, ↓zs_220_25, ↓zs_220_26, ↓zs_220_29, ↓zs_220_30, ↓zs_220_32, ↓zs_220_33, ↓zs_220_34, ↓zs_220_35, ↓zs_220_36, ↓zs_220_38, ↓zs_220_41, zx_pu_s, zx_pu_n, zx_rv_s, zx_rv_n, true_and, and_true, true_or, or_true, zb_0, zb_1, zq_lcl, zq_lcg, zq_lce, eq_self, ite_true, ite_false, zk_138, zw_138, zk_139, zw_139, zk_140, zw_140, zk_141, zw_141, zk_142, zw_142, zk_143, zw_143, zk_144, zw_144, zk_145, zw_145, zk_146, zw_146, zk_147, zw_147, zk_148, zw_148, zk_149, zw_149, zk_150, zw_150, zk_151, zw_151, zk_152, zw_152, zq_138_1, zq_138_2, zq_138_3, zq_138_4, zq_138_16, zq_138_19, zq_138_20, zq_138_24, zq_138_25, zq_138_26, zq_138_27, zq_138_31, zq_138_32, zq_138_33, hx, c1, zB_0, hb]
      | true =>
        rw [c1, Bool.true_and] at c
        simp (disch := omega) only [↓zs_220_0, ↓zs_220_1, ↓zs_220_2, ↓zs_220_5, ↓zs_220_6, ↓zs_220_7, ↓zs_220_8, ↓zs_220_9, ↓zs_220_10, ↓zs_220_13, ↓zs_220_16, ↓zs_220_17, ↓zs_220_18, ↓zs_220_19, ↓zs_220_22, ↓zs_220_25, ↓zs_220_26, ↓zs_220_29, ↓zs_220_30, ↓zs_220_32, ↓zs_220_33, ↓zs_220_34, ↓zs_220_35, ↓zs_220_36, ↓zs_220_38, ↓zs_220_41, zx_pu_s, zx_pu_n, zx_rv_s, zx_rv_n, true_and, and_true, true_or, or_true, zb_0, zb_1, zq_lcl, zq_lcg, zq_lce, eq_self, ite_true, ite_false, zk_138, zw_138, zk_139, zw_139, zk_140, zw_140, zk_141, zw_141, zk_142, zw_142, zk_143, zw_143, zk_144, zw_144, zk_145, zw_145, zk_146, zw_146, zk_147, zw_147, zk_148, zw_148, zk_149, zw_149, zk_150, zw_150, zk_151, zw_151, zk_152, zw_152, zq_138_1, zq_138_2, zq_138_3, zq_138_4, zq_138_16, zq_138_19, zq_138_20, zq_138_24, zq_138_25, zq_138_26, zq_138_27, zq_138_31, zq_138_32, zq_138_33, hx, hy, c1, c, zB_0, reduceCtorEq, hb]
  | true =>
    rw [Bool.and_eq_true] at c
    obtain ⟨c1, c2⟩ := c
    have ex1 := zq_toI (x := x) rfl c1 (by omega)
    have ey1 := zq_toI (x := y) rfl c2 (by omega)
    have ha : x.toInt.toNat < zn (I 139) := by have := zf_inP.mp c1; omega
    have hb : y.toInt.toNat < zn (I 139) := by have := zf_inP.mp c2; omega
    rw [c1] at hx
    rw [c2] at hy
    generalize x.toInt.toNat = a at ex1 ha
    generalize y.toInt.toNat = b at ey1 hb
    subst ex1 ey1
    have hL := fun d P => sc_whyL (d := d) (Lh := Lh) (P := P) (a := a) (b := b) zx_st11 v.2.1 v.2.2.1 v.2.2.2.1 (by omega) (by omega)
    have en : zf_whyN (I 139) (10 * a + b) = zf_wL (I 139) a b := by
      unfold zf_whyN
      rw [if_pos (by omega), show (10 * a + b) / 10 = a by omega, show (10 * a + b) % 10 = b by omega]
    have le := zf_wL_le (I 139) a b
    by_cases h0 : zf_wL (I 139) a b = 0
    · have edo : zf_doN (I 139) (10 * a + b) = zu1 (I 139) (125 + a) (nI b) := by
        unfold zf_doN
        rw [if_pos (by omega), show (10 * a + b) / 10 = a by omega, show (10 * a + b) % 10 = b by omega]
      obtain ⟨Ik, k1, k2, k3⟩ := sc_keepSet (Lh := Lh) (c := 14) (f := a) (x := nI b) v he hD p1 p2 (.inr rfl) (by omega) rfl
      rw [if_pos rfl] at k3
      have eA : (zx_u (zx_u Ik 14 a (nI b)) 138 0 (nI 0)) 139 = I 139 := by
        rw [zu_139, zu_o (by decide)]
        funext j
        have := k3.1 139 j (by
          have : (e + D) % 10 < 10 := Nat.mod_lt _ (by omega)
          unfold zSc; omega)
        rw [zu_o (by decide)] at this
        exact this
      obtain ⟨I2, o2, h2⟩ := sp_did (Lh := Lh) (J := J) (n := 10 * a + b) (s := a) (r := 125) eA v.2.1 hm (by omega) (by omega) (.inr rfl) hD p3 (by rw [en]; exact h0)
      rw [edo] at o2
      have hV := zf_do_V v.2.1 (u := lN (10 * a + b)) (by omega) (by rw [zf_why_n (by omega), en]; exact h0)
      rw [(zf_do_n (B := I 139) (n := 10 * a + b) (by omega)).1, edo] at hV
      have o3 : zMo (zx_u Ik 14 a (nI b)) I2 (zu1 (I 139) (125 + a) (nI b)) (I 139) D := by
        refine ⟨fun a2 j q => ?_, o2.2⟩
        rw [o2.1 a2 j q, zu_n (fun z => q (.inr (by unfold zSc; omega)))]
      have f14 : I 14 a = I 139 (125 + a) := (v.2.2.2.1.2 a (by omega)).2.2
      have hx3 := fun d P => sp_isStatue (d := d) (Lh := Lh) (I := zx_u (zx_u Ik 14 a (nI b)) 138 0 (nI 0)) (J := J) (P := P) (nI a).toInt64 (by rw [eA]; exact ok.1.2.2.1) N8
      have hy3 := fun d P => sp_isStatue (d := d) (Lh := Lh) (I := zx_u (zx_u Ik 14 a (nI b)) 138 0 (nI 0)) (J := J) (P := P) (nI b).toInt64 (by rw [eA]; exact ok.1.2.2.1) N8
      rw [Int32.toInt_toInt64, zf_in_nI (by omega), decide_eq_true ha] at hx3
      rw [Int32.toInt_toInt64, zf_in_nI (by omega), decide_eq_true hb] at hy3
      refine ⟨.int (I 139 (125 + a)), zx_u Ik 14 a (nI b), J, I2, J, fun d P => ?_, fun d P => ?_, zKM v (by omega) hV.2 hV.1 he hD p1 p2 p3 p4 k3 o3⟩
      · rw [ze_111]
        simp (disch := omega) only [↓zs_111_0, ↓zs_111_1, ↓zs_111_4, ↓zs_111_5, ↓zs_111_8, ↓zs_111_9, ↓zs_111_10, ↓zs_111_13, ↓zs_111_14, ↓zs_111_15, ↓zs_111_18, ↓zs_111_20, ↓zs_111_21, ↓zs_111_22, ↓zs_111_23, ↓zs_111_24, ↓zs_111_27, ↓zs_111_30, ↓zs_111_31, ↓zs_111_32, ↓zs_111_34, ↓zs_111_35, ↓zs_111_38, ↓zs_111_39, ↓zs_111_42, ↓zs_111_45, ↓zs_111_46, ↓zs_111_49, ↓zs_111_52, ↓zs_111_53, ↓zs_111_54, ↓zs_111_55, ↓zs_111_57, zx_pu_s, zx_pu_n, zx_rv_s, zx_rv_n, true_and, and_true, true_or, or_true, zb_0, zb_1, zq_lcl, zq_lcg, zq_lce, eq_self, ite_true, ite_false, zk_0, zw_0, zk_1, zw_1, zq_0_0, zq_0_1, zq_0_2, zq_0_3, zq_0_4, zq_0_5, zq_0_6, zq_0_7, zq_0_8, zq_0_9, zq_0_10, zq_0_11, zq_1_0, zq_1_1, zq_1_2, zq_1_3, zq_1_4, zq_1_5, zk_11, zw_11, zk_12, zw_12, zk_13, zw_13, zk_14, zw_14, zq_11_0, zq_11_1, zq_11_2, zk_23, zw_23, zk_24, zw_24, zq_23_0, zq_24_0, zq_24_1, zq_24_2, zq_24_3, zq_24_4, zq_24_5, zq_24_6, zq_24_7, zq_24_8, zq_24_9, zin_nI, nI_clamp, hL, h0, f14, k1]
      · rw [ze_220]
        simp (disch := omega) only [↓zs_220_0, ↓zs_220_1, ↓zs_220_2, ↓zs_220_5, ↓zs_220_6, ↓zs_220_7, ↓zs_220_8, ↓zs_220_9, ↓zs_220_10, ↓zs_220_13, ↓zs_220_16, ↓zs_220_17, ↓zs_220_18, ↓zs_220_19, ↓zs_220_22, ↓zs_220_25, ↓zs_220_26, ↓zs_220_29, ↓zs_220_30, ↓zs_220_32, ↓zs_220_33, ↓zs_220_34, ↓zs_220_35, ↓zs_220_36, ↓zs_220_38, ↓zs_220_41, zx_pu_s, zx_pu_n, zx_rv_s, zx_rv_n, true_and, and_true, true_or, or_true, zb_0, zb_1, zq_lcl, zq_lcg, zq_lce, eq_self, ite_true, ite_false, zk_138, zw_138, zk_139, zw_139, zk_140, zw_140, zk_141, zw_141, zk_142, zw_142, zk_143, zw_143, zk_144, zw_144, zk_145, zw_145, zk_146, zw_146, zk_147, zw_147, zk_148, zw_148, zk_149, zw_149, zk_150, zw_150, zk_151, zw_151, zk_152, zw_152, zq_138_1, zq_138_2, zq_138_3, zq_138_4, zq_138_16, zq_138_19, zq_138_20, zq_138_24, zq_138_25, zq_138_26, zq_138_27, zq_138_31, zq_138_32, zq_138_33, hx3, hy3, zB_0, reduceCtorEq, pk_mul, nI_add, h2]
    · have h0' : (nI (zf_wL (I 139) a b) = nI 0) = False := zq_ne h0 (by omega) (by omega)
      have hd := sp_didNot (Lh := Lh) (J := J) (n := 10 * a + b) (s := a) (r := 125) (zu_139 I 0 (nI 0)) v.2.1 (by omega) (by rw [en]; exact h0) (by rw [en]; exact le)
      rw [en] at hd
      refine zQ_D (m := m) ⟨.int (-10 - nI (zf_wL (I 139) a b)), I, J, zx_u I 138 0 (nI 0), J, fun d P => ?_, fun d P => ?_, zScr_s (zFs_0 _ _)⟩ v (by omega)
      · rw [ze_111]
        simp (disch := omega) only [↓zs_111_0, ↓zs_111_1, ↓zs_111_4, ↓zs_111_5, ↓zs_111_8, ↓zs_111_9, ↓zs_111_10, ↓zs_111_13, ↓zs_111_14, ↓zs_111_15, ↓zs_111_18, ↓zs_111_20, ↓zs_111_21, ↓zs_111_22, ↓zs_111_23, ↓zs_111_24, ↓zs_111_27, ↓zs_111_30, ↓zs_111_31, ↓zs_111_32, ↓zs_111_34, ↓zs_111_35, ↓zs_111_38, ↓zs_111_39, ↓zs_111_42, ↓zs_111_45, ↓zs_111_46, ↓zs_111_49, ↓zs_111_52, ↓zs_111_53, ↓zs_111_54, ↓zs_111_55, ↓zs_111_57, zx_pu_s, zx_pu_n, zx_rv_s, zx_rv_n, true_and, and_true, true_or, or_true, zb_0, zb_1, zq_lcl, zq_lcg, zq_lce, eq_self, ite_true, ite_false, zk_0, zw_0, zk_1, zw_1, zq_0_0, zq_0_1, zq_0_2, zq_0_3, zq_0_4, zq_0_5, zq_0_6, zq_0_7, zq_0_8, zq_0_9, zq_0_10, zq_0_11, zq_1_0, zq_1_1, zq_1_2, zq_1_3, zq_1_4, zq_1_5, zk_11, zw_11, zk_12, zw_12, zk_13, zw_13, zk_14, zw_14, zq_11_0, zq_11_1, zq_11_2, hL, h0']
      · rw [ze_220]
        simp (disch := omega) only [↓zs_220_0, ↓zs_220_1, ↓zs_220_2, ↓zs_220_5, ↓zs_220_6, ↓zs_220_7, ↓zs_220_8, ↓zs_220_9, ↓zs_220_10, ↓zs_220_13, ↓zs_220_16, ↓zs_220_17, ↓zs_220_18, ↓zs_220_19, ↓zs_220_22, ↓zs_220_25, ↓zs_220_26, ↓zs_220_29, ↓zs_220_30, ↓zs_220_32, ↓zs_220_33, ↓zs_220_34, ↓zs_220_35, ↓zs_220_36, ↓zs_220_38, ↓zs_220_41, zx_pu_s, zx_pu_n, zx_rv_s, zx_rv_n, true_and, and_true, true_or, or_true, zb_0, zb_1, zq_lcl, zq_lcg, zq_lce, eq_self, ite_true, ite_false, zk_138, zw_138, zk_139, zw_139, zk_140, zw_140, zk_141, zw_141, zk_142, zw_142, zk_143, zw_143, zk_144, zw_144, zk_145, zw_145, zk_146, zw_146, zk_147, zw_147, zk_148, zw_148, zk_149, zw_149, zk_150, zw_150, zk_151, zw_151, zk_152, zw_152, zq_138_1, zq_138_2, zq_138_3, zq_138_4, zq_138_16, zq_138_19, zq_138_20, zq_138_24, zq_138_25, zq_138_26, zq_138_27, zq_138_31, zq_138_32, zq_138_33, hx, hy, zB_0, reduceCtorEq, pk_mul, nI_add, hd]
end LE
