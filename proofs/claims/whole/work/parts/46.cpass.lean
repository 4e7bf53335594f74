/-! a NIGHT goes by, in the class -/
theorem zq_dir1 {b : Nat} (h : b < 8) : (nI b + nI 1) &&& nI 7 = nI ((b + 1) % 8) ∧ (nI b + -1) &&& nI 7 = nI ((b + 7) % 8) := by
  have q : ∀ b : Fin 8, (nI b.1 + nI 1) &&& nI 7 = nI ((b.1 + 1) % 8) ∧ (nI b.1 + -1) &&& nI 7 = nI ((b.1 + 7) % 8) := by decide +kernel
  exact q ⟨b, h⟩
theorem zf_bs_0 (p : Nat → Bool) (m s a : Nat) (h : ∀ i, s ≤ i → i < s + m → p i = false) : zf_bs p m s a = a := by
  induction m generalizing s with
  | zero => rfl
  | succ m ih => rw [zf_bs, h s (by omega) (by omega), if_neg (by decide), ih (s + 1) (fun i h1 h2 => h i (by omega) (by omega))]
theorem zf_turned_bit {B : Nat → Int32} {s : Nat} (hs : s < zn B) : (zf_turned B).testBit s = (!zf_snow B && zf_turns B s) := by
  unfold zf_turned
  rw [zf_bs_bit, Nat.zero_testBit, Bool.false_or, decide_eq_true (by omega), decide_eq_true (by omega), Bool.true_and, Bool.true_and]
theorem zf_trow_V {B : Nat → Int32} {m t n : Nat} (v : zV B m) (hn : n ≤ 8) : zV (zf_trow B t n) m := by
  have hs : zSm B (zf_trow B t n) := fun j h => zf_trow_o hn j (by omega)
  have e133 : zf_trow B t n 133 = B 133 := zf_trow_o hn 133 (by omega)
  have ez : zt (zf_trow B t n) = zt B := by unfold zt; rw [e133]
  refine zV_of v hs (zf_trow_ok v.1 hn).2 (fun k s hk hs => ?_) ?_ ?_
  · rw [zf_trow_o hn (45 + k) (by omega), zf_trow_o hn (109 + s) (by omega)]; exact fun hne => (v.2.2.1 k s hk hs hne).2
  · rw [e133, ez]; exact v.2.2.2.2.2.2.1
  · rw [ez]; exact v.2.2.2.2.2.2.2
section CPN
variable {Lh T : Nat} {I : zx_MI} {J : zx_MJ} {B : Nat → Int32}
theorem sc_passNight {mm : Nat} (hT : zx_st T) (v : zV B mm) (hm : mm < 2 ^ 30) (sq : zR_sq I J 1 B) (rel : zR_st I T B) : ∃ I2, zFc T I I2 ∧ zR_st I2 T (zf_night B) ∧ ∀ d P, zx_rn (d + 4) 0 [.ref 1, .ref T] (zx_LL Lh) I J P = P (some (.int (nI (zf_turned B)))) (zx_LL Lh) I2 J := by
  obtain ⟨k0, k1, k2, k3⟩ := zT_k (Lh := Lh) hT
  obtain ⟨q0, q1, q2⟩ := zT_q (Lh := Lh) hT
  have hr := zT_r hT
  have N8 : zn B ≤ 8 := v.1.1.2.2.2.2.2
  have hl10 : zl B ≤ 10 := v.2.2.2.2.1.2.1
  have ho4 : zo B ≤ 4 := v.2.2.2.1.2.1
  have hN : I 1 8 = nI (zn B) := sq.2.2.1.trans v.1.1.2.2.1
  have tn : I T 3 = nI (zt B) := rel.1.trans v.2.2.2.2.2.2.1
  have htz := v.2.2.2.2.2.2.2
  have wT2 : zx_wr (zx_LL Lh) (T + 2) = True := eq_true (zx_wrp (by omega))
  have wT0 : zx_wr (zx_LL Lh) T = True := eq_true (zx_wrp (by omega))
  have hsn := fun d P => sc_snowLies (d := d) (Lh := Lh) (J := J) (P := P) (n := zt B) zx_sq1 sq.2.2.2.2.2.2.1 v.2.2.2.1 (by omega)
  -- behind the turns
  have tail : ∀ I1 v3 v4, zFc T I I1 → zR_st I1 T (zf_trow B (zf_turned B) (zn B)) → ∃ I2, zFc T I I2 ∧ zR_st I2 T (zf_night B) ∧ ∀ d P, zx_wp (d + 4) 0 72 [.ref 1, .ref T, .int (nI (zf_turned B)), v3, v4] [] (zx_LL Lh) I1 J P = P (some (.int (nI (zf_turned B)))) (zx_LL Lh) I2 J := by
    intro I1 v3 v4 f rl
    have sq1 : zR_sq I1 J 1 (zf_next B) := zSm_sq (zf_next_sm N8) hl10 ho4 (zFc_sq hT f sq)
    have f2 : zFc T I (zx_u I1 T 3 (nI (zt B + 1))) := zFc_t f (fun a j n => zu_n (fun e => n (by omega)))
    have sq2 : zR_sq (zx_u I1 T 3 (nI (zt B + 1))) J 1 (zf_next B) := zSm_sq (zf_next_sm N8) hl10 ho4 (zFc_sq hT f2 sq)
    have rl2 : zR_st (zx_u I1 T 3 (nI (zt B + 1))) T (zf_next B) := zR_u_night rl
    have e3 : I1 T 3 = nI (zt B) := rl.1.trans ((zf_trow_o N8 133 (by omega)).trans v.2.2.2.2.2.2.1)
    obtain ⟨I3, f3, rl3, h3⟩ := sc_deliver (Lh := Lh) hT (zSm_let (zf_next_sm N8) v.2.2.2.2.1) sq2 rl2
    rw [(zSm_k (zf_next_sm N8)).2.2.2.1] at rl3
    refine ⟨I3, zFc_t f2 f3, rl3, fun d P => ?_⟩
    simp (disch := omega) only [↓zs_0_72, ↓zs_0_73, ↓zs_0_74, ↓zs_0_77, ↓zs_0_78, ↓zs_0_79, ↓zs_0_82, ↓zs_0_83, ↓zs_0_84, ↓zs_0_87, ↓zs_0_88, zx_pu_s, zx_pu_n, zx_rv_s, zx_rv_n, true_and, and_true, true_or, or_true, zb_0, zb_1, zq_lcl, zq_lcg, zq_lce, eq_self, ite_true, ite_false, zk_0, zw_0, zk_1, zw_1, zk_2, zw_2, zq_0_0, zq_0_1, zq_0_2, zq_0_3, zq_0_4, zq_0_5, zq_0_6, zq_0_7, zq_0_8, zq_0_9, zq_0_10, zq_0_11, zq_1_0, zq_1_1, zq_1_2, zq_1_3, zq_1_4, zq_1_5, zq_2_0, zq_2_1, zq_2_2, zn_10, zn_40, zn_040, zn_340, nI_add, zin_nI, nI_clamp, nI_ltI, nI_eq, pk_mul, nI_1, Nat.lt_irrefl, k0, e3, wT0, h3]
  have loop : ∀ m s b I1 v4, s + m = zn B → zf_snow B = false → b = zf_bs (fun s => !zf_snow B && zf_turns B s) s 0 0 → zFc T I I1 → zR_st I1 T (zf_trow B (zf_turned B) s) → ∃ I2 v4', zFc T I I2 ∧ zR_st I2 T (zf_trow B (zf_turned B) (zn B)) ∧ ∀ d P, zx_wp (d + 4) 0 15 [.ref 1, .ref T, .int (nI b), .int (nI s), v4] [] (zx_LL Lh) I1 J P = zx_wp (d + 4) 0 72 [.ref 1, .ref T, .int (nI (zf_turned B)), .int (nI (zn B)), v4'] [] (zx_LL Lh) I2 J P := by
    intro m
    induction m with
    | zero =>
      intro s b I1 v4 hs hsn hb f rl
      obtain rfl : s = zn B := by omega
      have e8 : I1 1 8 = nI (zn B) := (f 1 8 (by omega)).trans hN
      refine ⟨I1, v4, f, rl, fun d P => ?_⟩
      have eb : b = zf_turned B := hb
      rw [zs_0_15, eb]
      simp (disch := omega) only [↓zs_0_16, ↓zs_0_17, ↓zs_0_20, ↓zs_0_23, ↓zs_0_24, ↓zs_0_26, ↓zs_0_29, ↓zs_0_30, ↓zs_0_31, ↓zs_0_32, ↓zs_0_35, ↓zs_0_37, ↓zs_0_39, ↓zs_0_42, ↓zs_0_43, ↓zs_0_46, ↓zs_0_47, ↓zs_0_48, ↓zs_0_51, ↓zs_0_52, ↓zs_0_53, ↓zs_0_55, ↓zs_0_56, ↓zs_0_58, ↓zs_0_59, ↓zs_0_60, ↓zs_0_61, ↓zs_0_62, ↓zs_0_63, ↓zs_0_64, ↓zs_0_65, ↓zs_0_66, ↓zs_0_69, zx_pu_s, zx_pu_n, zx_rv_s, zx_rv_n, true_and, and_true, true_or, or_true, zb_0, zb_1, zq_lcl, zq_lcg, zq_lce, eq_self, ite_true, ite_false, zk_0, zw_0, zk_1, zw_1, zk_2, zw_2, zq_0_0, zq_0_1, zq_0_2, zq_0_3, zq_0_4, zq_0_5, zq_0_6, zq_0_7, zq_0_8, zq_0_9, zq_0_10, zq_0_11, zq_1_0, zq_1_1, zq_1_2, zq_1_3, zq_1_4, zq_1_5, zq_2_0, zq_2_1, zq_2_2, zn_10, zn_40, zn_040, zn_340, nI_add, zin_nI, nI_clamp, nI_ltI, nI_eq, pk_mul, nI_1, Nat.lt_irrefl, e8]
    | succ m ih =>
      intro s b I1 v4 hs hsn hb f rl
      have hlt : s < zn B := by omega
      have hlt8 : s < 8 := by omega
      have e8 : I1 1 8 = nI (zn B) := (f 1 8 (by omega)).trans hN
      have vR := zf_trow_V (t := zf_turned B) (n := s) v (by omega)
      have sqR : zR_sq I1 J 1 (zf_trow B (zf_turned B) s) := zSm_sq (fun j h => zf_trow_o (by omega) j (by omega)) hl10 ho4 (zFc_sq hT f sq)
      obtain ⟨I2, g2, h2⟩ := sc_turnOf (Lh := Lh) (s := s) hT (by omega) vR hm sqR rl
      have dl := zf_trow_dl (B := B) (t := zf_turned B) (Nat.le_refl s) hlt8
      have ho := (v.1.2 s hlt8).2.1
      have ev : zf_turnv (zf_trow B (zf_turned B) s) s = zf_turnv B s := by
        unfold zf_turnv
        rw [zf_turns_eq dl hlt8 ho N8, (zDl_k hlt8 dl).1, zf_to_eq dl hlt8 ho, zf_trow_l s (Nat.le_refl s)]
      rw [ev] at h2
      have hbit := zf_turned_bit hlt
      rw [hsn, Bool.not_false, Bool.true_and] at hbit
      have rl2 : zR_st I2 T (zf_trow B (zf_turned B) s) := zR_st_f rl (fun a j h1 h2 => by rw [g2 a (by omega) (by omega)])
      obtain ⟨c, hc, ec⟩ := (v.1.2 s hlt8).2.2.1
      have td : I2 (T + 2) s = nI c := (rl2.2 s hlt8).2.1.trans ((zf_trow_l s (Nat.le_refl s)).trans ec)
      have enw : zf_newdir B s = (c + if zf_cw (zf_nat (zf_to B (zw B) s)) (zf_nat (B (117 + s))) ≤ 4 then 1 else 7) % 8 := by
        unfold zf_newdir
        rw [ec, show zf_nat (nI c) = c from nI_clamp (by omega)]
      have ebs : ∀ x, zf_bs (fun s => !zf_snow B && zf_turns B s) (s + 1) 0 x = if zf_turns B s = true then zf_bs (fun s => !zf_snow B && zf_turns B s) s 0 x ||| 2 ^ s else zf_bs (fun s => !zf_snow B && zf_turns B s) s 0 x := by
        have gen : ∀ (p : Nat → Bool) (n k x : Nat), zf_bs p (n + 1) k x = if p (k + n) = true then zf_bs p n k x ||| 2 ^ (k + n) else zf_bs p n k x := by
          intro p n
          induction n with
          | zero => intro k x; rfl
          | succ n ih => intro k x; rw [zf_bs, ih, zf_bs, show k + 1 + n = k + (n + 1) by omega]
        intro x
        rw [gen, Nat.zero_add, hsn, Bool.not_false, Bool.true_and]
      cases ct : zf_turns B s with
      | false =>
        have ev0 : zf_turnv B s = nI 0 := by unfold zf_turnv; rw [ct]; rfl
        obtain ⟨I3, v4', f3, rl3, h3⟩ := ih (s + 1) b I2 (.int (nI 0)) (by omega) hsn (by rw [ebs, ct]; exact hb) (zFc_t f (zF4_c g2)) (by rw [zf_trow_s, hbit, ct, if_neg (by decide)]; exact rl2)
        refine ⟨I3, v4', f3, rl3, fun d P => ?_⟩
        rw [← h3 d P, zs_0_15]
        simp (disch := omega) only [↓zs_0_16, ↓zs_0_17, ↓zs_0_20, ↓zs_0_23, ↓zs_0_24, ↓zs_0_26, ↓zs_0_29, ↓zs_0_30, ↓zs_0_31, ↓zs_0_32, ↓zs_0_35, ↓zs_0_37, ↓zs_0_39, ↓zs_0_42, ↓zs_0_43, ↓zs_0_46, ↓zs_0_47, ↓zs_0_48, ↓zs_0_51, ↓zs_0_52, ↓zs_0_53, ↓zs_0_55, ↓zs_0_56, ↓zs_0_58, ↓zs_0_59, ↓zs_0_60, ↓zs_0_61, ↓zs_0_62, ↓zs_0_63, ↓zs_0_64, ↓zs_0_65, ↓zs_0_66, ↓zs_0_69, zx_pu_s, zx_pu_n, zx_rv_s, zx_rv_n, true_and, and_true, true_or, or_true, zb_0, zb_1, zq_lcl, zq_lcg, zq_lce, eq_self, ite_true, ite_false, zk_0, zw_0, zk_1, zw_1, zk_2, zw_2, zq_0_0, zq_0_1, zq_0_2, zq_0_3, zq_0_4, zq_0_5, zq_0_6, zq_0_7, zq_0_8, zq_0_9, zq_0_10, zq_0_11, zq_1_0, zq_1_1, zq_1_2, zq_1_3, zq_1_4, zq_1_5, zq_2_0, zq_2_1, zq_2_2, zn_10, zn_40, zn_040, zn_340, nI_add, zin_nI, nI_clamp, nI_ltI, nI_eq, pk_mul, nI_1, Nat.lt_irrefl, e8, hlt, hlt8, h2, ev0]
      | true =>
        by_cases c4 : zf_cw (zf_nat (zf_to B (zw B) s)) (zf_nat (B (117 + s))) ≤ 4
        · have ev0 : zf_turnv B s = nI 1 := by unfold zf_turnv; rw [ct, if_pos rfl, if_pos c4]
          rw [if_pos c4] at enw
          have e10 : (nI 1 = nI 0) = False := eq_false (by decide)
          obtain ⟨I3, v4', f3, rl3, h3⟩ := ih (s + 1) (b ||| 2 ^ s) (zx_u I2 (T + 2) s (nI (zf_newdir B s))) (.int (nI 1)) (by omega) hsn (by rw [ebs, ct, if_pos rfl, hb]) (zFc_t f (zFc_t (zF4_c g2) (fun a j n => zu_n (fun e => n (by omega))))) (by rw [zf_trow_s, hbit, ct, if_pos rfl]; exact zR_u_dir rl2 hlt8)
          refine ⟨I3, v4', f3, rl3, fun d P => ?_⟩
          rw [← h3 d P, zs_0_15, enw]
          simp (disch := omega) only [↓zs_0_16, ↓zs_0_17, ↓zs_0_20, ↓zs_0_23, ↓zs_0_24, ↓zs_0_26, ↓zs_0_29, ↓zs_0_30, ↓zs_0_31, ↓zs_0_32, ↓zs_0_35, ↓zs_0_37, ↓zs_0_39, ↓zs_0_42, ↓zs_0_43, ↓zs_0_46, ↓zs_0_47, ↓zs_0_48, ↓zs_0_51, ↓zs_0_52, ↓zs_0_53, ↓zs_0_55, ↓zs_0_56, ↓zs_0_58, ↓zs_0_59, ↓zs_0_60, ↓zs_0_61, ↓zs_0_62, ↓zs_0_63, ↓zs_0_64, ↓zs_0_65, ↓zs_0_66, ↓zs_0_69, zx_pu_s, zx_pu_n, zx_rv_s, zx_rv_n, true_and, and_true, true_or, or_true, zb_0, zb_1, zq_lcl, zq_lcg, zq_lce, eq_self, ite_true, ite_false, zk_0, zw_0, zk_1, zw_1, zk_2, zw_2, zq_0_0, zq_0_1, zq_0_2, zq_0_3, zq_0_4, zq_0_5, zq_0_6, zq_0_7, zq_0_8, zq_0_9, zq_0_10, zq_0_11, zq_1_0, zq_1_1, zq_1_2, zq_1_3, zq_1_4, zq_1_5, zq_2_0, zq_2_1, zq_2_2, zn_10, zn_40, zn_040, zn_340, zin_nI, nI_clamp, nI_ltI, nI_1, e8, hlt, hlt8, h2, ev0, e10, k0, k2, q1, td, wT2, (zq_dir1 hc).1, zq_shl1, zq_orI]
          rw [nI_add]
        · have ev0 : zf_turnv B s = -1 := by unfold zf_turnv; rw [ct, if_pos rfl, if_neg c4]
          rw [if_neg c4] at enw
          have e10 : ((-1 : Int32) = nI 0) = False := eq_false (by decide)
          obtain ⟨I3, v4', f3, rl3, h3⟩ := ih (s + 1) (b ||| 2 ^ s) (zx_u I2 (T + 2) s (nI (zf_newdir B s))) (.int (-1)) (by omega) hsn (by rw [ebs, ct, if_pos rfl, hb]) (zFc_t f (zFc_t (zF4_c g2) (fun a j n => zu_n (fun e => n (by omega))))) (by rw [zf_trow_s, hbit, ct, if_pos rfl]; exact zR_u_dir rl2 hlt8)
          refine ⟨I3, v4', f3, rl3, fun d P => ?_⟩
          rw [← h3 d P, zs_0_15, enw]
          simp (disch := omega) only [↓zs_0_16, ↓zs_0_17, ↓zs_0_20, ↓zs_0_23, ↓zs_0_24, ↓zs_0_26, ↓zs_0_29, ↓zs_0_30, ↓zs_0_31, ↓zs_0_32, ↓zs_0_35, ↓zs_0_37, ↓zs_0_39, ↓zs_0_42, ↓zs_0_43, ↓zs_0_46, ↓zs_0_47, ↓zs_0_48, ↓zs_0_51, ↓zs_0_52, ↓zs_0_53, ↓zs_0_55, ↓zs_0_56, ↓zs_0_58, ↓zs_0_59, ↓zs_0_60, ↓zs_0_61, ↓zs_0_62, ↓zs_0_63, ↓zs_0_64, ↓zs_0_65, ↓zs_0_66, ↓zs_0_69, zx_pu_s, zx_pu_n, zx_rv_s, zx_rv_n, true_and, and_true, true_or, or_true, zb_0, zb_1, zq_lcl, zq_lcg, zq_lce, eq_self, ite_true, ite_false, zk_0, zw_0, zk_1, zw_1, zk_2, zw_2, zq_0_0, zq_0_1, zq_0_2, zq_0_3, zq_0_4, zq_0_5, zq_0_6, zq_0_7, zq_0_8, zq_0_9, zq_0_10, zq_0_11, zq_1_0, zq_1_1, zq_1_2, zq_1_3, zq_1_4, zq_1_5, zq_2_0, zq_2_1, zq_2_2, zn_10, zn_40, zn_040, zn_340, zin_nI, nI_clamp, nI_ltI, nI_1, e8, hlt, hlt8, h2, ev0, e10, k0, k2, q1, td, wT2, (zq_dir1 hc).2, zq_shl1, zq_orI]
          rw [nI_add]
  cases cs : zf_snow B with
  | true =>
    have et : zf_turned B = 0 := zf_bs_0 _ _ _ _ (fun i _ _ => by rw [cs]; rfl)
    have erow : zf_trow B (zf_turned B) (zn B) = B := by
      funext j
      unfold zf_trow
      rw [et]
      exact if_neg (fun e => by rw [Nat.zero_testBit] at e; exact absurd e.2.2 (by decide))
    obtain ⟨I2, f2, rl2, h2⟩ := tail I zx_u0 zx_u0 (zFc_r T I) (by rw [erow]; exact rel)
    refine ⟨I2, f2, rl2, fun d P => ?_⟩
    unfold zf_snow at cs
    rw [← h2 d P, ze_0, et]
    simp (disch := omega) only [↓zs_0_0, ↓zs_0_1, ↓zs_0_2, ↓zs_0_3, ↓zs_0_4, ↓zs_0_7, ↓zs_0_10, ↓zs_0_13, ↓zs_0_14, zx_pu_s, zx_pu_n, zx_rv_s, zx_rv_n, true_and, and_true, true_or, or_true, zb_0, zb_1, zq_lcl, zq_lcg, zq_lce, eq_self, ite_true, ite_false, zk_0, zw_0, zk_1, zw_1, zk_2, zw_2, zq_0_0, zq_0_1, zq_0_2, zq_0_3, zq_0_4, zq_0_5, zq_0_6, zq_0_7, zq_0_8, zq_0_9, zq_0_10, zq_0_11, zq_1_0, zq_1_1, zq_1_2, zq_1_3, zq_1_4, zq_1_5, zq_2_0, zq_2_1, zq_2_2, zn_10, zn_40, zn_040, zn_340, nI_add, zin_nI, nI_clamp, nI_ltI, nI_eq, pk_mul, nI_1, Nat.lt_irrefl, k0, tn, hsn, cs, zB_0, reduceCtorEq]
  | false =>
    obtain ⟨I1, v4', f1, rl1, h1⟩ := loop (zn B) 0 0 I zx_u0 (by omega) cs rfl (zFc_r T I) (by rw [zf_trow_0]; exact rel)
    obtain ⟨I2, f2, rl2, h2⟩ := tail I1 (.int (nI (zn B))) v4' f1 rl1
    refine ⟨I2, f2, rl2, fun d P => ?_⟩
    unfold zf_snow at cs
    rw [← h2 d P, ← h1 d P, ze_0]
    simp (disch := omega) only [↓zs_0_0, ↓zs_0_1, ↓zs_0_2, ↓zs_0_3, ↓zs_0_4, ↓zs_0_7, ↓zs_0_10, ↓zs_0_13, ↓zs_0_14, zx_pu_s, zx_pu_n, zx_rv_s, zx_rv_n, true_and, and_true, true_or, or_true, zb_0, zb_1, zq_lcl, zq_lcg, zq_lce, eq_self, ite_true, ite_false, zk_0, zw_0, zk_1, zw_1, zk_2, zw_2, zq_0_0, zq_0_1, zq_0_2, zq_0_3, zq_0_4, zq_0_5, zq_0_6, zq_0_7, zq_0_8, zq_0_9, zq_0_10, zq_0_11, zq_1_0, zq_1_1, zq_1_2, zq_1_3, zq_1_4, zq_1_5, zq_2_0, zq_2_1, zq_2_2, zn_10, zn_40, zn_040, zn_340, nI_add, zin_nI, nI_clamp, nI_ltI, nI_eq, pk_mul, nI_1, Nat.lt_irrefl, k0, tn, hsn, cs, zB_0, reduceCtorEq]
end CPN
