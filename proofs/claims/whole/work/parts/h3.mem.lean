/-! steps that read or write cells (by program) -/
/-! the cells behind a store, what is read, where things stand -/
theorem zx_cell_i {G : Nat → ClassId} {ad : Nat → Nat} {L : zx_Lay} {I : zx_MI} {J : zx_MJ} {a : Nat} (h : (L.1 a).1 < 3) : zx_cell G ad L I J a = .inl (G (L.1 a).1, (L.1 a).2, .inl (I a)) := by
  unfold zx_cell zx_cellOf
  rw [if_pos h]
theorem zx_cell_l {G : Nat → ClassId} {ad : Nat → Nat} {L : zx_Lay} {I : zx_MI} {J : zx_MJ} {a : Nat} (h : (L.1 a).1 = 3) : zx_cell G ad L I J a = .inl (G 3, (L.1 a).2, .inr (.inl (J a))) := by
  unfold zx_cell zx_cellOf
  rw [if_neg (by omega), if_pos h]
theorem zx_cell_r {G : Nat → ClassId} {ad : Nat → Nat} {L : zx_Lay} {I : zx_MI} {J : zx_MJ} {a : Nat} (h : 10 ≤ (L.1 a).1) (h2 : (L.1 a).1 < 40) : zx_cell G ad L I J a = .inl (G (L.1 a).1, (L.1 a).2, .inr (.inr (.inr (.inr (fun j => (L.2.1 a j).map ad))))) := by
  unfold zx_cell zx_cellOf
  rw [if_neg (by omega), if_neg (by omega), if_pos h2]
theorem zx_cell_o {G : Nat → ClassId} {ad : Nat → Nat} {L : zx_Lay} {I : zx_MI} {J : zx_MJ} {a k : Nat} (hk : 1 ≤ k) (h : L.1 a = (40 + k, 0)) : zx_cell G ad L I J a = .inr (k - 1, (List.range (zx_nf k)).map (fun i => zx_fv ad (L.2.1 a) (I a) (J a) i (zx_tyc (zx_ty k i)))) := by
  unfold zx_cell zx_cellOf
  rw [h]
  dsimp only
  rw [if_neg (by omega), if_neg (by omega), if_neg (by omega), show 40 + k - 40 = k by omega, show 40 + k - 41 = k - 1 by omega]
theorem zx_kc {Lh : Nat} {xs : Nat → Int32} {L : zx_Lay} {I : zx_MI} {J : zx_MJ} (h : zx_OK Lh xs L I J) (a : Nat) : (a < L.2.2.1 ∧ zx_gk (L.1 a)) ∨ (L.2.2.1 ≤ a ∧ L.1 a = (99, 0)) ∨ (5000 ≤ a ∧ L.1 a = zx_sK Lh a) := by
  obtain ⟨h1, h2, h3, h4, h5⟩ := h
  rcases Nat.lt_or_ge a L.2.2.1 with q | q
  · exact Or.inl ⟨q, h2 a q⟩
  · rcases Nat.lt_or_ge a 5000 with r | r
    · exact Or.inr (Or.inl ⟨q, (h4 a q r).1⟩)
    · exact Or.inr (Or.inr ⟨r, (h5 a r).1⟩)
theorem zx_sK_cases (Lh a : Nat) : (a = 5000 ∧ zx_sK Lh a = (0, Lh)) ∨ (a = 5001 ∧ zx_sK Lh a = (0, 8)) ∨ (a = 5002 ∧ zx_sK Lh a = (0, 8)) ∨ (∃ i, i < 5 ∧ a = 5010 + i ∧ zx_sK Lh a = (56, 0)) ∨ (∃ i, i < 5 ∧ a = 5020 + i ∧ zx_sK Lh a = (1, (zx_sb.getD i []).length)) ∨ zx_sK Lh a = (99, 0) := by
  by_cases h1 : a = 5000
  · exact Or.inl ⟨h1, by unfold zx_sK; rw [if_pos h1]⟩
  by_cases h2 : a = 5001
  · exact Or.inr (Or.inl ⟨h2, by unfold zx_sK; rw [if_neg h1, if_pos h2]⟩)
  by_cases h3 : a = 5002
  · exact Or.inr (Or.inr (Or.inl ⟨h3, by unfold zx_sK; rw [if_neg h1, if_neg h2, if_pos h3]⟩))
  by_cases h4 : 5010 ≤ a ∧ a < 5015
  · exact Or.inr (Or.inr (Or.inr (Or.inl ⟨a - 5010, by omega, by omega, by unfold zx_sK; rw [if_neg h1, if_neg h2, if_neg h3, if_pos h4]⟩)))
  by_cases h5 : 5020 ≤ a ∧ a < 5025
  · exact Or.inr (Or.inr (Or.inr (Or.inr (Or.inl ⟨a - 5020, by omega, by omega, by unfold zx_sK; rw [if_neg h1, if_neg h2, if_neg h3, if_neg h4, if_pos h5]⟩))))
  · exact Or.inr (Or.inr (Or.inr (Or.inr (Or.inr (by unfold zx_sK; rw [if_neg h1, if_neg h2, if_neg h3, if_neg h4, if_neg h5])))))
/-- a kind below 40 but 99: an own row, or one of the given ones -/
theorem zx_row {Lh : Nat} {xs : Nat → Int32} {L : zx_Lay} {I : zx_MI} {J : zx_MJ} (h : zx_OK Lh xs L I J) {a : Nat} (hk : (L.1 a).1 < 40) : (a < L.2.2.1 ∧ zx_gk (L.1 a)) ∨ (a = 5000 ∧ L.1 a = (0, Lh)) ∨ (a = 5001 ∧ L.1 a = (0, 8)) ∨ (a = 5002 ∧ L.1 a = (0, 8)) ∨ ∃ i, i < 5 ∧ a = 5020 + i ∧ L.1 a = (1, (zx_sb.getD i []).length) := by
  rcases zx_kc h a with q | ⟨_, q⟩ | ⟨_, q⟩
  · exact Or.inl q
  · rw [q] at hk; simp at hk
  · rcases zx_sK_cases Lh a with ⟨r, t⟩ | ⟨r, t⟩ | ⟨r, t⟩ | ⟨i, hi, r, t⟩ | ⟨i, hi, r, t⟩ | t
    · exact Or.inr (Or.inl ⟨r, q.trans t⟩)
    · exact Or.inr (Or.inr (Or.inl ⟨r, q.trans t⟩))
    · exact Or.inr (Or.inr (Or.inr (Or.inl ⟨r, q.trans t⟩)))
    · rw [q, t] at hk; simp at hk
    · exact Or.inr (Or.inr (Or.inr (Or.inr ⟨i, hi, r, q.trans t⟩)))
    · rw [q, t] at hk; simp at hk
theorem zx_obj {Lh : Nat} {xs : Nat → Int32} {L : zx_Lay} {I : zx_MI} {J : zx_MJ} (h : zx_OK Lh xs L I J) {a k : Nat} (hk : L.1 a = (40 + k, 0)) : (a < L.2.2.1 ∧ 1 ≤ k ∧ k < 13) ∨ (k = 59 ∧ L.2.2.1 ≤ a) ∨ (k = 16 ∧ ∃ i, i < 5 ∧ a = 5010 + i) := by
  rcases zx_kc h a with ⟨q, g⟩ | ⟨g, q⟩ | ⟨_, q⟩
  · unfold zx_gk at g
    rw [hk] at g
    dsimp only at g
    exact Or.inl ⟨q, by omega, by omega⟩
  · rw [hk] at q
    have q := (Prod.mk.inj q).1
    exact Or.inr (Or.inl ⟨by omega, g⟩)
  · rcases zx_sK_cases Lh a with ⟨r, t⟩ | ⟨r, t⟩ | ⟨r, t⟩ | ⟨i, hi, r, t⟩ | ⟨i, hi, r, t⟩ | t
    all_goals (rw [hk, t] at q; have q := (Prod.mk.inj q).1)
    · omega
    · omega
    · omega
    · exact Or.inr (Or.inr ⟨by omega, i, hi, r⟩)
    · omega
    · exact Or.inr (Or.inl ⟨by omega, Nat.le_trans h.1 (by omega)⟩)
theorem zx_clsg {k : Nat} (h1 : 1 ≤ k) (h2 : k < 13) : zx_cls[k - 1]? = some (zx_cn k, zx_T k, zx_nf k) := by
  unfold zx_cls
  rw [List.getElem?_map, List.getElem?_range (by omega)]
  simp only [Option.map_some]
  rw [show k - 1 + 1 = k by omega]
theorem zx_wsin {k : Nat} (h1 : 1 ≤ k) (h2 : k < 13) : ∀ w ∈ u_ws (zx_cn k) (zx_T k) (zx_nf k), w ∈ zx_tb := zx_all2_in (fun _ : Unit => u_ws (zx_cn k) (zx_T k) (zx_nf k)) [()] [zx_layH k] (zx_chkC k h2 h1) () List.mem_cons_self
/-- a field's table row, read -/
theorem zx_fl_of {o x k f t : Nat} (ho : o < 21) (hf : zx_find (zx_flds o) x = some (k, f, t)) : (k = 16 ∧ ((f = 0 ∧ t = 3 ∧ Cond.fieldLink (zx_cn o) x "java/lang/String" "value" "[B" ∈ zx_tb) ∨ (f = 1 ∧ t = 4 ∧ Cond.fieldLink (zx_cn o) x "java/lang/String" "coder" "B" ∈ zx_tb))) ∨ (1 ≤ k ∧ k < 13 ∧ f < zx_nf k ∧ zx_tyc (zx_ty k f) = t ∧ Cond.fieldLink (zx_cn o) x (zx_cn k) (zx_T k f).2.1 (zx_T k f).2.2.1 ∈ zx_tb) := by
  have hm := zx_find_in _ hf
  have h1 := zx_all2_in _ _ _ (zx_chkF o ho) _ hm
  have h2 := List.all_eq_true.mp (zx_chkF2 o ho) _ hm
  simp only [Bool.or_eq_true, Bool.and_eq_true, decide_eq_true_eq, beq_iff_eq, Prod.mk.injEq] at h2
  rcases h2 with ⟨rfl, h2⟩ | ⟨⟨⟨h2, h3⟩, h4⟩, h5⟩
  · rcases h2 with ⟨rfl, rfl⟩ | ⟨rfl, rfl⟩
    · exact Or.inl ⟨rfl, Or.inl ⟨rfl, rfl, h1 _ List.mem_cons_self⟩⟩
    · exact Or.inl ⟨rfl, Or.inr ⟨rfl, rfl, h1 _ List.mem_cons_self⟩⟩
  · refine Or.inr ⟨h2, by omega, h4, h5, h1 _ ?_⟩
    unfold zx_wF
    dsimp only
    split
    · omega
    · exact List.mem_cons_self
theorem zx_adw {ad : Nat → Nat} {vS : Value} {L : zx_Lay} (hn : L.2.2.1 ≤ 4000) {a : Nat} (h : a < L.2.2.1) : zx_e ad vS (.ref a) = .ref (ad a) := if_neg (fun z => by have z2 : a = 5030 := z; omega)
theorem zx_eref {ad : Nat → Nat} {vS : Value} {a : Nat} (h : a ≠ 5030) : zx_e ad vS (.ref a) = .ref (ad a) := if_neg h
theorem zx_ervl {ad : Nat → Nat} {vS : Value} {r : Option Nat} (h : ∀ b, r = some b → b ≠ 5030) : zx_e ad vS (zx_rv r) = va_rf (r.map ad) := by
  cases r with
  | none => rfl
  | some b => exact zx_eref (h b rfl)
theorem zx_hs {p : Program} {l : Launch} {e : Env} {R : Room} {s : State} {m : MethodId} {args : Array Value} {below : List Frame} {meth : Method} {c : Code} {H : Heap} {locs : List Loc} {cells slots : Nat} {Q : State → Prop} {g : JFrame} (h : H.size ≤ s.heap.size + cells → W p l e R s m args below meth c H locs cells slots Q g) : W p l e R s m args below meth c H locs cells slots Q g := fun T hT X => h (hT ▸ X.heapSize) T hT X
theorem zx_vpin {i : Int32} {n : Nat} (h : zx_in i n) : vp_in i n := fun z => z.elim (fun q => h.1 q) (fun q => absurd h.2 (by omega))
/-! what always holds stays -/
theorem zx_okI {Lh : Nat} {xs : Nat → Int32} {L : zx_Lay} {I : zx_MI} {J : zx_MJ} (h : zx_OK Lh xs L I J) {a i : Nat} {v : Int32} (ha : a < L.2.2.1) : zx_OK Lh xs L (zx_u I a i v) J := by
  obtain ⟨h1, h2, h3, h4, h5⟩ := h
  refine ⟨h1, h2, h3, fun b hb hb2 => ⟨(h4 b hb hb2).1, fun j => ?_⟩, fun b hb => ⟨(h5 b hb).1, fun j => ?_⟩⟩
  · rw [zx_u_off _ _ _ _ (by omega : b ≠ a)]; exact (h4 b hb hb2).2 j
  · rw [zx_u_off _ _ _ _ (by omega : b ≠ a)]; exact (h5 b hb).2 j
theorem zx_okJ {Lh : Nat} {xs : Nat → Int32} {L : zx_Lay} {I : zx_MI} {J J2 : zx_MJ} (h : zx_OK Lh xs L I J) {a : Nat} (ha : a < L.2.2.1) (hJ : ∀ b, b ≠ a → J2 b = J b) : zx_OK Lh xs L I J2 := by
  obtain ⟨h1, h2, h3, h4, h5⟩ := h
  refine ⟨h1, h2, h3, fun b hb hb2 => ⟨(h4 b hb hb2).1, fun j => ?_⟩, h5⟩
  rw [hJ b (by omega)]; exact (h4 b hb hb2).2 j
theorem zx_okRf {Lh : Nat} {xs : Nat → Int32} {L : zx_Lay} {I : zx_MI} {J : zx_MJ} (h : zx_OK Lh xs L I J) {a i v : Nat} (ha : a < L.2.2.1) (hv : v < L.2.2.1) : zx_OK Lh xs (L.1, zx_u L.2.1 a i (some v), L.2.2) I J := by
  obtain ⟨h1, h2, h3, h4, h5⟩ := h
  refine ⟨h1, h2, fun b j k hb hk => ?_, fun b hb hb2 => ⟨(h4 b hb hb2).1, fun j => ?_⟩, fun b hb => ⟨(h5 b hb).1, fun j => ?_⟩⟩
  · dsimp only at hb hk ⊢
    unfold zx_u at hk
    split at hk
    · cases hk; exact hv
    · exact h3 b j k hb hk
  · dsimp only at hb ⊢
    rw [zx_u_off _ _ _ _ (by omega : b ≠ a)]; exact (h4 b hb hb2).2 j
  · dsimp only
    rw [zx_u_off _ _ _ _ (by omega : b ≠ a)]; exact (h5 b hb).2 j
theorem zx_okN {Lh : Nat} {xs : Nat → Int32} {L : zx_Lay} {I : zx_MI} {J : zx_MJ} (h : zx_OK Lh xs L I J) {k : Nat × Nat} {w : Nat} (hn : L.2.2.1 < 4000) (hk : zx_gk k) : zx_OK Lh xs (zx_new L k w) I J := by
  obtain ⟨h1, h2, h3, h4, h5⟩ := h
  unfold zx_new
  refine ⟨hn, fun b hb => ?_, fun b j q hb hq => ?_, fun b hb hb2 => ⟨?_, fun j => ?_⟩, fun b hb => ⟨?_, fun j => ?_⟩⟩
  · dsimp only at hb ⊢
    unfold zx_uk
    split
    · exact hk
    · exact h2 b (by omega)
  · dsimp only at hb hq ⊢
    rcases Nat.lt_or_ge b L.2.2.1 with z | z
    · have := h3 b j q z hq; omega
    · rw [((h4 b z (by omega)).2 j).1] at hq; cases hq
  · dsimp only at hb ⊢
    unfold zx_uk
    rw [if_neg (by omega)]
    exact (h4 b (by omega) hb2).1
  · dsimp only at hb ⊢
    exact (h4 b (by omega) hb2).2 j
  · dsimp only
    unfold zx_uk
    rw [if_neg (by omega)]
    exact (h5 b hb).1
  · exact (h5 b hb).2 j
section STEPM
variable {p : Program} {l : Launch} {e : Env} {R : Room} {s : State} {m : MethodId} {args : Array Value} {below : List Frame} {meth : Method} {c : Code} {Q : State → Prop} {D : va_G} {G : Nat → ClassId} {ad : Nat → Nat} {vS : Value} {base Lh mx n0 s0 o : Nat} {xs : Nat → Int32} {b : ByteArray} {rt : Option FieldType} {ini : Bool} {pc pc2 : Nat} {ls ls2 st st2 : List Value} {L L2 : zx_Lay} {I I2 : zx_MI} {J J2 : zx_MJ} {i : Instr}
theorem zs_iaload  (hO : zx_OK Lh xs L I J) (C : zx_Cx p s m args meth c D G ad vS base Lh xs o mx b rt ini) (hd : decode b pc = .ok (.iaload, 1)) (ha : zx_act o rt ini pc (.iaload) ls st L I J = some (.inl (pc2, ls2, st2, L2, I2, J2))) (kk : zx_AT p l e R s m args below meth c Q D G ad vS base mx n0 s0 pc2 ls2 st2 L2 I2 J2) : zx_AT p l e R s m args below meth c Q D G ad vS base mx n0 s0 pc ls st L I J := by
  obtain ⟨hx, hb, hml, hown, hts, hlocks, hret, hini, hK, hSP, hbase, ho⟩ := C
  have hS5 := hSP.2.2.2.2.2.2.2.2.2.2.2.1
  unfold zx_act at ha
  dsimp only at ha
  split at ha
  · rename_i x a r
    obtain ⟨⟨h1, h2⟩, h3⟩ := zx_if_inv ha
    cases h3
    intro H locs lsM hW hS hL
    have k1 := kk H locs lsM hW hS hL
    have hq : a ≠ 5030 := by
      rintro rfl
      rw [show L.1 5030 = (99, 0) from (hO.2.2.2.2 5030 (by omega)).1] at h1
      cases h1
    rw [List.map_cons, List.map_cons, zx_eref hq]
    rw [List.map_cons] at k1
    rcases zx_row hO (a := a) (by omega) with ⟨q, -⟩ | ⟨rfl, q⟩ | ⟨rfl, q⟩ | ⟨rfl, q⟩ | ⟨i, hi, rfl, q⟩
    · have he := zx_ws_get (G := G) (ad := ad) (L := L) (I := I) (J := J) q
      rw [zx_cell_i (by omega), h1] at he
      exact va_iald hx hb hK hW.1 a 0 he rfl (zx_vpin h2) hd k1
    · rw [q] at h2
      rw [show I 5000 x.toNatClampNeg = xs x.toNatClampNeg from ((hO.2.2.2.2 5000 (by omega)).2 _).2] at k1
      exact va_sld hx hb hSP.2.2.1 (Nat.lt_of_lt_of_le hSP.2.1 hbase) (by have := hSP.2.1; show ¬ base ≤ ad 5000; omega) hS (zx_vpin h2) hd k1
    · rw [q] at h2
      rw [show I 5001 x.toNatClampNeg = zx_alX.getD x.toNatClampNeg 0 from ((hO.2.2.2.2 5001 (by omega)).2 _).2] at k1
      exact va_ti hx hb hSP.2.2.2.2.1 hS (zx_vpin h2) rfl hd k1
    · rw [q] at h2
      rw [show I 5002 x.toNatClampNeg = zx_alY.getD x.toNatClampNeg 0 from ((hO.2.2.2.2 5002 (by omega)).2 _).2] at k1
      exact va_ti hx hb hSP.2.2.2.2.2.2.1 hS (zx_vpin h2) rfl hd k1
    · rw [q] at h1; cases h1
  · cases ha

theorem zs_baload  (hO : zx_OK Lh xs L I J) (C : zx_Cx p s m args meth c D G ad vS base Lh xs o mx b rt ini) (hd : decode b pc = .ok (.baload, 1)) (ha : zx_act o rt ini pc (.baload) ls st L I J = some (.inl (pc2, ls2, st2, L2, I2, J2))) (kk : zx_AT p l e R s m args below meth c Q D G ad vS base mx n0 s0 pc2 ls2 st2 L2 I2 J2) : zx_AT p l e R s m args below meth c Q D G ad vS base mx n0 s0 pc ls st L I J := by
  obtain ⟨hx, hb, hml, hown, hts, hlocks, hret, hini, hK, hSP, hbase, ho⟩ := C
  have hS5 := hSP.2.2.2.2.2.2.2.2.2.2.2.1
  unfold zx_act at ha
  dsimp only at ha
  split at ha
  · rename_i x a r
    obtain ⟨⟨h1, h2⟩, h3⟩ := zx_if_inv ha
    cases h3
    intro H locs lsM hW hS hL
    have k1 := kk H locs lsM hW hS hL
    have hq : a ≠ 5030 := by
      rintro rfl
      rw [show L.1 5030 = (99, 0) from (hO.2.2.2.2 5030 (by omega)).1] at h1
      simp at h1
    rw [List.map_cons, List.map_cons, zx_eref hq]
    rw [List.map_cons] at k1
    rcases zx_row hO (a := a) (by omega) with ⟨q, -⟩ | ⟨rfl, q⟩ | ⟨rfl, q⟩ | ⟨rfl, q⟩ | ⟨i, hi, rfl, q⟩
    · have he := zx_ws_get (G := G) (ad := ad) (L := L) (I := I) (J := J) q
      rw [zx_cell_i (by omega)] at he
      rcases h1 with h1 | h1
      · rw [h1] at he
        exact va_bald hx hb hK hW.1 a 1 he rfl (zx_vpin h2) hd k1
      · rw [h1] at he
        exact va_zald hx hb hK hW.1 a 2 he rfl (zx_vpin h2) hd k1
    · rw [q] at h1; simp at h1
    · rw [q] at h1; simp at h1
    · rw [q] at h1; simp at h1
    · rw [q] at h2
      have hv : I (5020 + i) x.toNatClampNeg = (zx_sb.getD i []).getD x.toNatClampNeg 0 := by
        rw [((hO.2.2.2.2 (5020 + i) (by omega)).2 _).2]
        unfold zx_sI
        rw [if_neg (by omega), if_neg (by omega), if_neg (by omega), if_pos (by omega), show 5020 + i - 5020 = i by omega]
      rw [hv] at k1
      have hT := (hSP.2.2.2.2.2.2.2.1.1 i hi).2.2.2
      have hl : (zx_sb.map List.length).getD i 0 = (zx_sb.getD i []).length := by
        simp only [List.getD_eq_getElem?_getD, List.getElem?_map]
        cases zx_sb[i]? <;> rfl
      rw [hl] at hT
      exact va_tb hx hb hT hS (zx_vpin h2) rfl hd k1
  · cases ha

theorem zs_laload  (hO : zx_OK Lh xs L I J) (C : zx_Cx p s m args meth c D G ad vS base Lh xs o mx b rt ini) (hd : decode b pc = .ok (.laload, 1)) (ha : zx_act o rt ini pc (.laload) ls st L I J = some (.inl (pc2, ls2, st2, L2, I2, J2))) (kk : zx_AT p l e R s m args below meth c Q D G ad vS base mx n0 s0 pc2 ls2 st2 L2 I2 J2) : zx_AT p l e R s m args below meth c Q D G ad vS base mx n0 s0 pc ls st L I J := by
  obtain ⟨hx, hb, hml, hown, hts, hlocks, hret, hini, hK, hSP, hbase, ho⟩ := C
  have hS5 := hSP.2.2.2.2.2.2.2.2.2.2.2.1
  unfold zx_act at ha
  dsimp only at ha
  split at ha
  · rename_i x a r
    obtain ⟨⟨h1, h2⟩, h3⟩ := zx_if_inv ha
    cases h3
    intro H locs lsM hW hS hL
    have k1 := kk H locs lsM hW hS hL
    rcases zx_row hO (a := a) (by omega) with ⟨q, -⟩ | ⟨rfl, q⟩ | ⟨rfl, q⟩ | ⟨rfl, q⟩ | ⟨i, hi, rfl, q⟩
    · rw [List.map_cons, List.map_cons, zx_adw hO.1 q]
      rw [List.map_cons] at k1
      have he := zx_ws_get (G := G) (ad := ad) (L := L) (I := I) (J := J) q
      rw [zx_cell_l h1] at he
      exact va_lald hx hb hK hW.1 a 3 he rfl (zx_vpin h2) hd k1
    · rw [q] at h1; cases h1
    · rw [q] at h1; cases h1
    · rw [q] at h1; cases h1
    · rw [q] at h1; cases h1
  · cases ha

theorem zs_aaload  (hO : zx_OK Lh xs L I J) (C : zx_Cx p s m args meth c D G ad vS base Lh xs o mx b rt ini) (hd : decode b pc = .ok (.aaload, 1)) (ha : zx_act o rt ini pc (.aaload) ls st L I J = some (.inl (pc2, ls2, st2, L2, I2, J2))) (kk : zx_AT p l e R s m args below meth c Q D G ad vS base mx n0 s0 pc2 ls2 st2 L2 I2 J2) : zx_AT p l e R s m args below meth c Q D G ad vS base mx n0 s0 pc ls st L I J := by
  obtain ⟨hx, hb, hml, hown, hts, hlocks, hret, hini, hK, hSP, hbase, ho⟩ := C
  have hS5 := hSP.2.2.2.2.2.2.2.2.2.2.2.1
  unfold zx_act at ha
  dsimp only at ha
  split at ha
  · rename_i x a r
    obtain ⟨⟨h0, h1, h2⟩, h3⟩ := zx_if_inv ha
    cases h3
    intro H locs lsM hW hS hL
    have k1 := kk H locs lsM hW hS hL
    rcases zx_row hO (a := a) h1 with ⟨q, g⟩ | ⟨rfl, q⟩ | ⟨rfl, q⟩ | ⟨rfl, q⟩ | ⟨i, hi, rfl, q⟩
    · rw [List.map_cons, List.map_cons, zx_adw hO.1 q]
      rw [List.map_cons, zx_ervl (fun b hb => by have := hO.2.2.1 a _ b q hb; have := hO.1; omega)] at k1
      have he := zx_ws_get (G := G) (ad := ad) (L := L) (I := I) (J := J) q
      rw [zx_cell_r h0 h1] at he
      unfold zx_gk at g
      rcases (show (L.1 a).1 = 16 ∨ (L.1 a).1 = 17 ∨ (L.1 a).1 = 19 by omega) with g | g | g
      · rw [g] at he; exact va_aldq hx hb hK hW.1 a 4 he rfl (zx_vpin h2) hd k1
      · rw [g] at he; exact va_aldq hx hb hK hW.1 a 5 he rfl (zx_vpin h2) hd k1
      · rw [g] at he; exact va_aldq hx hb hK hW.1 a 6 he rfl (zx_vpin h2) hd k1
    · rw [q] at h0; simp at h0
    · rw [q] at h0; simp at h0
    · rw [q] at h0; simp at h0
    · rw [q] at h0; simp at h0
  · cases ha

theorem zs_alen  (hO : zx_OK Lh xs L I J) (C : zx_Cx p s m args meth c D G ad vS base Lh xs o mx b rt ini) (hd : decode b pc = .ok (.arraylength, 1)) (ha : zx_act o rt ini pc (.arraylength) ls st L I J = some (.inl (pc2, ls2, st2, L2, I2, J2))) (kk : zx_AT p l e R s m args below meth c Q D G ad vS base mx n0 s0 pc2 ls2 st2 L2 I2 J2) : zx_AT p l e R s m args below meth c Q D G ad vS base mx n0 s0 pc ls st L I J := by
  obtain ⟨hx, hb, hml, hown, hts, hlocks, hret, hini, hK, hSP, hbase, ho⟩ := C
  have hS5 := hSP.2.2.2.2.2.2.2.2.2.2.2.1
  unfold zx_act at ha
  dsimp only at ha
  split at ha
  · rename_i a r
    obtain ⟨h1, h3⟩ := zx_if_inv ha
    cases h3
    intro H locs lsM hW hS hL
    have k1 := kk H locs lsM hW hS hL
    have hq : a ≠ 5030 := by
      rintro rfl
      rw [show L.1 5030 = (99, 0) from (hO.2.2.2.2 5030 (by omega)).1] at h1
      simp at h1
    rw [List.map_cons, zx_eref hq]
    rw [List.map_cons] at k1
    rcases zx_row hO (a := a) h1 with ⟨q, g⟩ | ⟨rfl, q⟩ | ⟨rfl, q⟩ | ⟨rfl, q⟩ | ⟨i, hi, rfl, q⟩
    · have he := zx_ws_get (G := G) (ad := ad) (L := L) (I := I) (J := J) q
      unfold zx_gk at g
      rcases (show (L.1 a).1 = 0 ∨ (L.1 a).1 = 1 ∨ (L.1 a).1 = 2 ∨ (L.1 a).1 = 3 ∨ (L.1 a).1 = 16 ∨ (L.1 a).1 = 17 ∨ (L.1 a).1 = 19 by omega) with g | g | g | g | g | g | g
      · rw [zx_cell_i (by omega), g] at he; exact va_alen hx hb hK hW.1 a 0 he rfl rfl hd k1
      · rw [zx_cell_i (by omega), g] at he; exact va_alen hx hb hK hW.1 a 1 he rfl rfl hd k1
      · rw [zx_cell_i (by omega), g] at he; exact va_alen hx hb hK hW.1 a 2 he rfl rfl hd k1
      · rw [zx_cell_l g] at he; exact va_alen hx hb hK hW.1 a 3 he rfl rfl hd k1
      · rw [zx_cell_r (by omega) (by omega), g] at he; exact va_alen hx hb hK hW.1 a 4 he rfl rfl hd k1
      · rw [zx_cell_r (by omega) (by omega), g] at he; exact va_alen hx hb hK hW.1 a 5 he rfl rfl hd k1
      · rw [zx_cell_r (by omega) (by omega), g] at he; exact va_alen hx hb hK hW.1 a 6 he rfl rfl hd k1
    · rw [q] at k1
      exact va_slen hx hb hSP.2.2.1 (Nat.lt_of_lt_of_le hSP.2.1 hbase) (by have := hSP.2.1; show ¬ base ≤ ad 5000; omega) hS hd k1
    · rw [q] at k1
      exact va_tlen hx hb hSP.2.2.2.2.1 hS rfl hd k1
    · rw [q] at k1
      exact va_tlen hx hb hSP.2.2.2.2.2.2.1 hS rfl hd k1
    · rw [q] at k1
      have hT := (hSP.2.2.2.2.2.2.2.1.1 i hi).2.2.2
      have hl : (zx_sb.map List.length).getD i 0 = (zx_sb.getD i []).length := by
        simp only [List.getD_eq_getElem?_getD, List.getElem?_map]
        cases zx_sb[i]? <;> rfl
      rw [hl] at hT
      exact va_tlen hx hb hT hS rfl hd k1
  · cases ha

theorem zs_iastore  (hO : zx_OK Lh xs L I J) (C : zx_Cx p s m args meth c D G ad vS base Lh xs o mx b rt ini) (hd : decode b pc = .ok (.iastore, 1)) (ha : zx_act o rt ini pc (.iastore) ls st L I J = some (.inl (pc2, ls2, st2, L2, I2, J2))) (kk : zx_AT p l e R s m args below meth c Q D G ad vS base mx n0 s0 pc2 ls2 st2 L2 I2 J2) : zx_AT p l e R s m args below meth c Q D G ad vS base mx n0 s0 pc ls st L I J := by
  obtain ⟨hx, hb, hml, hown, hts, hlocks, hret, hini, hK, hSP, hbase, ho⟩ := C
  have hS5 := hSP.2.2.2.2.2.2.2.2.2.2.2.1
  unfold zx_act at ha
  dsimp only at ha
  split at ha
  · rename_i v x a r
    obtain ⟨⟨h1, h2, hw⟩, h3⟩ := zx_if_inv ha
    cases h3
    intro H locs lsM hW hS hL
    rw [List.map_cons, List.map_cons, List.map_cons, zx_adw hO.1 hw]
    have he := zx_ws_get (G := G) (ad := ad) (L := L) (I := I) (J := J) hw
    rw [zx_cell_i (by omega), h1] at he
    refine va_iast hx hb hK hW.1 hW.2 hS a 0 he rfl (zx_vpin h2) hd (fun H1 locs1 hP1 hD1 hS1 => kk H1 locs1 lsM ?_ hS1 hL)
    have hz := zx_ws_set (G := G) (ad := ad) (L := L) (L2 := L) (I := I) (I2 := zx_u I a x.toNatClampNeg v) (J := J) (J2 := J) (a := a) rfl (fun j hj => by unfold zx_cell; rw [zx_u_off _ _ _ _ hj]) (c := .inl (G 0, (L.1 a).2, .inl (upd (I a) x.toNatClampNeg v))) (by rw [zx_cell_i (by omega), h1, zx_u_at]; rfl)
    rw [hz] at hP1 hD1
    exact ⟨hP1, hD1⟩
  · cases ha

theorem zs_bastore  (hO : zx_OK Lh xs L I J) (C : zx_Cx p s m args meth c D G ad vS base Lh xs o mx b rt ini) (hd : decode b pc = .ok (.bastore, 1)) (ha : zx_act o rt ini pc (.bastore) ls st L I J = some (.inl (pc2, ls2, st2, L2, I2, J2))) (kk : zx_AT p l e R s m args below meth c Q D G ad vS base mx n0 s0 pc2 ls2 st2 L2 I2 J2) : zx_AT p l e R s m args below meth c Q D G ad vS base mx n0 s0 pc ls st L I J := by
  obtain ⟨hx, hb, hml, hown, hts, hlocks, hret, hini, hK, hSP, hbase, ho⟩ := C
  have hS5 := hSP.2.2.2.2.2.2.2.2.2.2.2.1
  unfold zx_act at ha
  dsimp only at ha
  split at ha
  · rename_i v x a r
    obtain ⟨⟨h1, h2, hw⟩, h3⟩ := zx_if_inv ha
    cases h3
    intro H locs lsM hW hS hL
    rw [List.map_cons, List.map_cons, List.map_cons, zx_adw hO.1 hw]
    have he := zx_ws_get (G := G) (ad := ad) (L := L) (I := I) (J := J) hw
    rw [zx_cell_i (by omega)] at he
    rcases h1 with h1 | h1
    · rw [h1] at he kk
      refine va_bast hx hb hK hW.1 hW.2 hS a 1 he rfl (zx_vpin h2) hd (fun H1 locs1 hP1 hD1 hS1 => kk H1 locs1 lsM ?_ hS1 hL)
      have hz := zx_ws_set (G := G) (ad := ad) (L := L) (L2 := L) (I := I) (I2 := zx_u I a x.toNatClampNeg (zx_bst 1 v)) (J := J) (J2 := J) (a := a) rfl (fun j hj => by unfold zx_cell; rw [zx_u_off _ _ _ _ hj]) (c := .inl (G 1, (L.1 a).2, .inl (upd (I a) x.toNatClampNeg (vp_nar .byte v)))) (by rw [zx_cell_i (by omega), h1, zx_u_at]; rfl)
      rw [hz] at hP1 hD1
      exact ⟨hP1, hD1⟩
  
    · rw [h1] at he kk
      refine va_zast hx hb hK hW.1 hW.2 hS a 2 he rfl (zx_vpin h2) hd (fun H1 locs1 hP1 hD1 hS1 => kk H1 locs1 lsM ?_ hS1 hL)
      have hz := zx_ws_set (G := G) (ad := ad) (L := L) (L2 := L) (I := I) (I2 := zx_u I a x.toNatClampNeg (zx_bst 2 v)) (J := J) (J2 := J) (a := a) rfl (fun j hj => by unfold zx_cell; rw [zx_u_off _ _ _ _ hj]) (c := .inl (G 2, (L.1 a).2, .inl (upd (I a) x.toNatClampNeg (vp_nar .boolean v)))) (by rw [zx_cell_i (by omega), h1, zx_u_at]; rfl)
      rw [hz] at hP1 hD1
      exact ⟨hP1, hD1⟩
  
  · cases ha

theorem zs_lastore  (hO : zx_OK Lh xs L I J) (C : zx_Cx p s m args meth c D G ad vS base Lh xs o mx b rt ini) (hd : decode b pc = .ok (.lastore, 1)) (ha : zx_act o rt ini pc (.lastore) ls st L I J = some (.inl (pc2, ls2, st2, L2, I2, J2))) (kk : zx_AT p l e R s m args below meth c Q D G ad vS base mx n0 s0 pc2 ls2 st2 L2 I2 J2) : zx_AT p l e R s m args below meth c Q D G ad vS base mx n0 s0 pc ls st L I J := by
  obtain ⟨hx, hb, hml, hown, hts, hlocks, hret, hini, hK, hSP, hbase, ho⟩ := C
  have hS5 := hSP.2.2.2.2.2.2.2.2.2.2.2.1
  unfold zx_act at ha
  dsimp only at ha
  split at ha
  · rename_i v x a r
    obtain ⟨⟨h1, h2, hw⟩, h3⟩ := zx_if_inv ha
    cases h3
    intro H locs lsM hW hS hL
    rw [List.map_cons, List.map_cons, List.map_cons, zx_adw hO.1 hw]
    have he := zx_ws_get (G := G) (ad := ad) (L := L) (I := I) (J := J) hw
    rw [zx_cell_l h1] at he
    refine va_last hx hb hK hW.1 hW.2 hS a 3 he rfl (zx_vpin h2) hd (fun H1 locs1 hP1 hD1 hS1 => kk H1 locs1 lsM ?_ hS1 hL)
    have hz := zx_ws_set (G := G) (ad := ad) (L := L) (L2 := L) (I := I) (I2 := I) (J := J) (J2 := zx_u J a x.toNatClampNeg v) (a := a) rfl (fun j hj => by unfold zx_cell; rw [zx_u_off _ _ _ _ hj]) (c := .inl (G 3, (L.1 a).2, .inr (.inl (vp_updL (J a) x.toNatClampNeg v)))) (by rw [zx_cell_l h1, zx_u_at]; rfl)
    rw [hz] at hP1 hD1
    exact ⟨hP1, hD1⟩
  · cases ha

end STEPM
