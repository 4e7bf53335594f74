/-! the texts -/
/-- what lies outside the made cells is as it was laid -/
def zx_SI (I : zx_MI) : Prop := ∀ a j, 5001 ≤ a → I a j = zx_sI (fun _ => 0) a j
/-- character j of text i -/
def zf_ch (i j : Nat) : Int32 := (zx_sb.getD i []).getD j 0
def zf_len (i : Nat) : Nat := (zx_sb.getD i []).length
theorem zf_ch_ok {i j : Nat} (hi : i < 5) (hj : j < zf_len i) : ((zf_ch i j &&& nI 255).toUInt32 % 65536).toInt32 = zf_ch i j ∧ zf_ch i j &&& 65535 = zf_ch i j := by
  have h : ∀ i : Fin 5, ∀ j : Fin (zf_len i.1), ((zf_ch i.1 j.1 &&& nI 255).toUInt32 % 65536).toInt32 = zf_ch i.1 j.1 ∧ zf_ch i.1 j.1 &&& 65535 = zf_ch i.1 j.1 := by decide +kernel
  exact h ⟨i, hi⟩ ⟨j, hj⟩
theorem zf_lenM (i : Nat) (hi : i < 5) : zf_len i < 200 ∧ nI (zf_len i) >>> (nI 0 &&& 31) = nI (zf_len i) := by
  have h : ∀ i : Fin 5, zf_len i.1 < 200 ∧ nI (zf_len i.1) >>> (nI 0 &&& 31) = nI (zf_len i.1) := by decide +kernel
  exact h ⟨i, hi⟩
section ST
variable {d Lh : Nat} {I : zx_MI} {J : zx_MJ} {P : Option Value → zx_Lay → zx_MI → zx_MJ → Prop}
theorem zx_SI_b {i : Nat} (si : zx_SI I) (hi : i < 5) (j : Nat) : I (5020 + i) j = zf_ch i j := by
  rw [si _ _ (by omega)]
  unfold zx_sI zf_ch
  rw [if_neg (by omega), if_neg (by omega), if_neg (by omega), if_pos (by omega), Nat.add_sub_cancel_left]
theorem zx_SI_c {i : Nat} (si : zx_SI I) (hi : i < 5) : I (5010 + i) 1 = nI 0 := by
  rw [si _ _ (by omega)]
  unfold zx_sI
  rw [if_neg (by omega), if_neg (by omega), if_neg (by omega), if_neg (by omega)]
  rfl
theorem zk_txt {i : Nat} (hi : i < 5) : (zx_LL Lh).1 (5010 + i) = (56, 0) := by
  show (if 5010 + i < 153 then _ else zx_sK Lh (5010 + i)) = _
  unfold zx_sK
  rw [if_neg (by omega), if_neg (by omega), if_neg (by omega), if_neg (by omega), if_pos (by omega)]
theorem zk_byt {i : Nat} (hi : i < 5) : (zx_LL Lh).1 (5020 + i) = (1, zf_len i) := by
  show (if 5020 + i < 153 then _ else zx_sK Lh (5020 + i)) = _
  unfold zx_sK zf_len
  rw [if_neg (by omega), if_neg (by omega), if_neg (by omega), if_neg (by omega), if_neg (by omega), if_pos (by omega), Nat.add_sub_cancel_left]
theorem zq_txt {i : Nat} (hi : i < 5) : (zx_LL Lh).2.1 (5010 + i) 0 = some (5020 + i) := by
  show (if 5010 + i < 153 then _ else zx_sR (5010 + i) 0) = _
  unfold zx_sR
  rw [if_neg (by omega), if_pos (by omega)]
  congr 1; omega
theorem zl_isLatin1 {i : Nat} (si : zx_SI I) (hi : i < 5) : zx_rn d 280 [.ref (5010 + i)] (zx_LL Lh) I J P = P (some (.int (nI 1))) (zx_LL Lh) I J := by
  rw [ze_280]
  simp (disch := omega) only [↓zs_280_0, ↓zs_280_3, ↓zs_280_6, ↓zs_280_7, ↓zs_280_10, ↓zs_280_13, ↓zs_280_14, ↓zs_280_17, ↓zs_280_18, zx_pu_s, zx_pu_n, zx_rv_s, zx_rv_n, true_and, and_true, true_or, or_true, zb_0, zb_1, zq_lcl, zq_lcg, zq_lce, eq_self, ite_true, ite_false, zn_10, zn_40, zn_040, zn_340, nI_add, zin_nI, nI_clamp, nI_ltI, nI_eq, pk_mul, nI_l, zk_txt hi, zx_SI_c si hi]
theorem zl_coder {i : Nat} (si : zx_SI I) (hi : i < 5) : zx_rn d 279 [.ref (5010 + i)] (zx_LL Lh) I J P = P (some (.int (nI 0))) (zx_LL Lh) I J := by
  rw [ze_279]
  have e : ((nI 0).toInt8.toInt32 = nI 0) = True := eq_true (by decide +kernel)
  simp (disch := omega) only [↓zs_279_0, ↓zs_279_3, ↓zs_279_6, ↓zs_279_7, ↓zs_279_10, ↓zs_279_13, ↓zs_279_14, zx_pu_s, zx_pu_n, zx_rv_s, zx_rv_n, true_and, and_true, true_or, or_true, zb_0, zb_1, zq_lcl, zq_lcg, zq_lce, eq_self, ite_true, ite_false, zn_10, zn_40, zn_040, zn_340, nI_add, zin_nI, nI_clamp, nI_ltI, nI_eq, pk_mul, nI_l, zk_txt hi, zx_SI_c si hi, e]
theorem zl_check {L : zx_Lay} {j n : Nat} (hj : j < n) (hn : n < 200) : zx_rn (d + 1) 281 [.int (nI j), .int (nI n)] L I J P = P none L I J := by
  have h0 : ¬ j < 0 := by omega
  have h : zx_rn d 283 [.int (nI j), .int (nI n), .ref 5030] L I J = fun P => P (some (.int (nI j))) L I J := by
    funext P
    rw [ze_283]
    simp (disch := omega) only [↓zs_283_0, ↓zs_283_1, ↓zs_283_4, ↓zs_283_5, ↓zs_283_6, ↓zs_283_9, ↓zs_283_10, ↓zs_283_11, ↓zs_283_16, ↓zs_283_17, zx_pu_s, zx_pu_n, zx_rv_s, zx_rv_n, true_and, and_true, true_or, or_true, zb_0, zb_1, zq_lcl, zq_lcg, zq_lce, eq_self, ite_true, ite_false, zn_10, zn_40, zn_040, zn_340, nI_add, zin_nI, nI_clamp, nI_ltI, nI_eq, pk_mul, nI_l, hj, h0]
  rw [ze_281]
  simp (disch := omega) only [↓zs_281_0, ↓zs_281_1, ↓zs_281_2, ↓zs_281_5, ↓zs_281_8, ↓zs_281_9, zx_pu_s, zx_pu_n, zx_rv_s, zx_rv_n, true_and, and_true, true_or, or_true, zb_0, zb_1, zq_lcl, zq_lcg, zq_lce, eq_self, ite_true, ite_false, zn_10, zn_40, zn_040, zn_340, nI_add, zin_nI, nI_clamp, nI_ltI, nI_eq, pk_mul, nI_l, h]
theorem zl_charAtB {i j : Nat} (si : zx_SI I) (hi : i < 5) (hj : j < zf_len i) : zx_rn (d + 2) 282 [.ref (5020 + i), .int (nI j)] (zx_LL Lh) I J P = P (some (.int (zf_ch i j))) (zx_LL Lh) I J := by
  obtain ⟨hn, hs⟩ := zf_lenM i hi
  obtain ⟨c1, c2⟩ := zf_ch_ok hi hj
  rw [ze_282]
  have hc := fun P => zl_check (d := d) (L := zx_LL Lh) (I := I) (J := J) (P := P) hj hn
  have e : Int32.ofNat (zf_len i) = nI (zf_len i) := rfl
  simp (disch := omega) only [↓zs_282_0, ↓zs_282_1, ↓zs_282_2, ↓zs_282_3, ↓zs_282_6, ↓zs_282_7, ↓zs_282_8, ↓zs_282_9, ↓zs_282_12, ↓zs_282_13, ↓zs_282_14, zx_pu_s, zx_pu_n, zx_rv_s, zx_rv_n, true_and, and_true, true_or, or_true, zb_0, zb_1, zq_lcl, zq_lcg, zq_lce, eq_self, ite_true, ite_false, zn_10, zn_40, zn_040, zn_340, nI_add, zin_nI, nI_clamp, nI_ltI, nI_eq, pk_mul, nI_l, zk_byt hi, e, hc, zx_SI_b si hi, hj, c1, c2]
theorem zl_charAt {i j : Nat} (si : zx_SI I) (hi : i < 5) (hj : j < zf_len i) : zx_rn (d + 3) 278 [.ref (5010 + i), .int (nI j)] (zx_LL Lh) I J P = P (some (.int (zf_ch i j))) (zx_LL Lh) I J := by
  obtain ⟨c1, c2⟩ := zf_ch_ok hi hj
  have h1 := fun d P => zl_isLatin1 (d := d) (Lh := Lh) (J := J) (P := P) si hi
  have h2 := fun P => zl_charAtB (d := d) (Lh := Lh) (J := J) (P := P) si hi hj
  have e : (nI 1 = nI 0) = False := eq_false (by decide +kernel)
  rw [ze_278]
  simp (disch := omega) only [↓zs_278_0, ↓zs_278_1, ↓zs_278_4, ↓zs_278_7, ↓zs_278_8, ↓zs_278_11, ↓zs_278_12, ↓zs_278_15, ↓zs_278_16, ↓zs_278_17, ↓zs_278_20, zx_pu_s, zx_pu_n, zx_rv_s, zx_rv_n, true_and, and_true, true_or, or_true, zb_0, zb_1, zq_lcl, zq_lcg, zq_lce, eq_self, ite_true, ite_false, zn_10, zn_40, zn_040, zn_340, nI_add, zin_nI, nI_clamp, nI_ltI, nI_eq, pk_mul, nI_l, zk_txt hi, zq_txt hi, h1, h2, e, c2]
theorem zl_length {i : Nat} (si : zx_SI I) (hi : i < 5) : zx_rn (d + 1) 277 [.ref (5010 + i)] (zx_LL Lh) I J P = P (some (.int (nI (zf_len i)))) (zx_LL Lh) I J := by
  obtain ⟨hn, hs⟩ := zf_lenM i hi
  have h1 := fun P => zl_coder (d := d) (Lh := Lh) (J := J) (P := P) si hi
  have e : Int32.ofNat (zf_len i) = nI (zf_len i) := rfl
  rw [ze_277]
  simp (disch := omega) only [↓zs_277_0, ↓zs_277_1, ↓zs_277_4, ↓zs_277_5, ↓zs_277_6, ↓zs_277_9, ↓zs_277_10, zx_pu_s, zx_pu_n, zx_rv_s, zx_rv_n, true_and, and_true, true_or, or_true, zb_0, zb_1, zq_lcl, zq_lcg, zq_lce, eq_self, ite_true, ite_false, zn_10, zn_40, zn_040, zn_340, nI_add, zin_nI, nI_clamp, nI_ltI, nI_eq, pk_mul, nI_l, zk_txt hi, zk_byt hi, zq_txt hi, h1, e, hs]
end ST
