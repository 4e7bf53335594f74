/-! steps that make cells (by program) -/
theorem zx_cls_of {o x c : Nat} (ho : o < 21) (hf : zx_find (zx_clss o) x = some c) : Cond.classLink (zx_cn o) x (zx_cn c) ∈ zx_tb ∧ Cond.instantiable (zx_cn c) (zx_nf c) ∈ zx_tb ∧ Cond.initialized (zx_cn c) ∈ zx_tb := by
  have h1 := zx_all2_in _ _ _ (zx_chkW o ho) _ (zx_find_in _ hf)
  exact ⟨h1 _ List.mem_cons_self, h1 _ (List.mem_cons_of_mem _ List.mem_cons_self), h1 _ (List.mem_cons_of_mem _ (List.mem_cons_of_mem _ List.mem_cons_self))⟩
theorem zx_arr_of : Cond.arrayClass .int ∈ zx_tb ∧ Cond.arrayClass .byte ∈ zx_tb ∧ Cond.arrayClass .boolean ∈ zx_tb ∧ Cond.arrayClass .long ∈ zx_tb := by
  have h1 := zx_all2_in _ _ _ zx_chkA () List.mem_cons_self
  exact ⟨h1 _ List.mem_cons_self, h1 _ (List.mem_cons_of_mem _ List.mem_cons_self), h1 _ (List.mem_cons_of_mem _ (List.mem_cons_of_mem _ List.mem_cons_self)), h1 _ (List.mem_cons_of_mem _ (List.mem_cons_of_mem _ (List.mem_cons_of_mem _ List.mem_cons_self)))⟩
/-- the fresh cell stands right behind the others -/
theorem zx_fresh {D : va_G} {G : Nat → ClassId} {ad : Nat → Nat} {base : Nat} {L : zx_Lay} {I : zx_MI} {J : zx_MJ} {q : Nat} {c : va_E} {H1 : Heap} (had : ∀ k, k < 5000 → ad k = base + k) (hn : L.2.2.1 ≤ 4000) (hP : va_P D zx_cls (zx_ws G ad L I J ++ [(q, c)]) H1) (hD : va_D (fun q => base ≤ q) (zx_ws G ad L I J ++ [(q, c)])) (hz : H1.size ≤ base + L.2.2.1 + 1) : q = ad L.2.2.1 := by
  have hlen : (zx_ws G ad L I J).length = L.2.2.1 := by simp [zx_ws]
  have hg : (zx_ws G ad L I J ++ [(q, c)])[L.2.2.1]? = some (q, c) := by
    rw [List.getElem?_append_right (by omega), hlen, Nat.sub_self]; rfl
  have h1 : base ≤ q := hD.2 _ _ hg
  have h2 : q < H1.size := (hP _ _ hg).lt
  rw [had _ (by omega)]
  rcases Nat.lt_or_ge q (base + L.2.2.1) with h3 | h3
  · exfalso
    have h4 : (zx_ws G ad L I J ++ [(q, c)])[q - base]? = some (ad (q - base), zx_cell G ad L I J (q - base)) := by
      rw [List.getElem?_append_left (by omega)]
      exact zx_ws_get (by omega)
    have h5 := hD.1 _ _ _ _ h4 hg (by dsimp only; rw [had _ (by omega)]; omega)
    omega
  · omega
theorem zx_new_WH {D : va_G} {G : Nat → ClassId} {ad : Nat → Nat} {base : Nat} {L : zx_Lay} {I : zx_MI} {J : zx_MJ} {H1 : Heap} {k : Nat × Nat} {w : Nat} {c : va_E} (hc : c = zx_cell G ad (zx_new L k w) I J L.2.2.1) (hP : va_P D zx_cls (zx_ws G ad L I J ++ [(ad L.2.2.1, c)]) H1) (hD : va_D (fun q => base ≤ q) (zx_ws G ad L I J ++ [(ad L.2.2.1, c)])) : zx_WH D G ad base (zx_new L k w) I J H1 := by
  have e := zx_ws_push (G := G) (ad := ad) (L := L) (L2 := zx_new L k w) (I := I) (J := J) rfl (fun j hj => by
    unfold zx_cell zx_new zx_uk
    dsimp only
    rw [if_neg (by omega)])
  subst hc
  rw [e] at hP hD
  exact ⟨hP, hD⟩
theorem zx_new_cell {G : Nat → ClassId} {ad : Nat → Nat} {Lh : Nat} {xs : Nat → Int32} {L : zx_Lay} {I : zx_MI} {J : zx_MJ} (hO : zx_OK Lh xs L I J) (hn : L.2.2.1 < 4000) (k : Nat × Nat) (w : Nat) : zx_cell G ad (zx_new L k w) I J L.2.2.1 = zx_cellOf G ad k (fun _ => none) (fun _ => 0) (fun _ => 0) := by
  obtain ⟨-, -, -, h4, -⟩ := hO
  have h := (h4 L.2.2.1 (Nat.le_refl _) (by omega)).2
  unfold zx_cell zx_new zx_uk
  dsimp only
  rw [if_pos rfl, show L.2.1 L.2.2.1 = fun _ => none from funext fun j => (h j).1, show I L.2.2.1 = fun _ => 0 from funext fun j => (h j).2.1, show J L.2.2.1 = fun _ => 0 from funext fun j => (h j).2.2]
section STEPN
variable {p : Program} {l : Launch} {e : Env} {R : Room} {s : State} {m : MethodId} {args : Array Value} {below : List Frame} {meth : Method} {c : Code} {Q : State → Prop} {D : va_G} {G : Nat → ClassId} {ad : Nat → Nat} {vS : Value} {base Lh mx n0 s0 o : Nat} {xs : Nat → Int32} {b : ByteArray} {rt : Option FieldType} {ini : Bool} {pc pc2 : Nat} {ls ls2 st st2 : List Value} {L L2 : zx_Lay} {I I2 : zx_MI} {J J2 : zx_MJ} {i : Instr}
theorem zs_new  (hO : zx_OK Lh xs L I J) (hsz : s.heap.size = base + n0) (hn0 : n0 ≤ L.2.2.1) (hs0 : s0 ≤ L.2.2.2) (hr1 : L2.2.2.1 - n0 ≤ R.cells) (hr2 : L2.2.2.2 - s0 ≤ R.slots) {x : Nat} (C : zx_Cx p s m args meth c D G ad vS base Lh xs o mx b rt ini) (hd : decode b pc = .ok (.new x, 3)) (ha : zx_act o rt ini pc (.new x) ls st L I J = some (.inl (pc2, ls2, st2, L2, I2, J2))) (kk : zx_AT p l e R s m args below meth c Q D G ad vS base mx n0 s0 pc2 ls2 st2 L2 I2 J2) : zx_AT p l e R s m args below meth c Q D G ad vS base mx n0 s0 pc ls st L I J := by
  obtain ⟨hx, hb, hml, hown, hts, hlocks, hret, hini, hK, hSP, hbase, ho⟩ := C
  have hS5 := hSP.2.2.2.2.2.2.2.2.2.2.2.1
  unfold zx_act at ha
  dsimp only at ha
  split at ha
  · rename_i k hf
    by_cases hk : 1 ≤ k ∧ k < 13
    · rw [if_pos hk] at ha
      obtain ⟨h1, h2⟩ := zx_if_inv ha
      cases h2
      intro H locs lsM hW hS hL
      obtain ⟨w1, w2, w3⟩ := zx_cls_of ho hf
      have hlen := zx_chkL k hk.2 hk.1
      rw [hlen] at hr1 hr2 kk
      have e1 : (zx_new L (40 + k, 0) (zx_nf k)).2.2.1 = L.2.2.1 + 1 := rfl
      have e2 : (zx_new L (40 + k, 0) (zx_nf k)).2.2.2 = L.2.2.2 + zx_nf k := rfl
      rw [e1] at hr1
      rw [e2] at hr2
      refine va_new (ci := k - 1) (fs := (List.range (zx_nf k)).map (fun i => zx_fv ad (fun _ => none) (fun _ => 0) (fun _ => 0) i (zx_tyc (zx_ty k i)))) hx hb hts (zx_wsin hk.1 hk.2) (zx_ty k) (fun j hj => (zx_chkT k hk.2 j hj).1) hown (hts _ w1) (hts _ w2) (hts _ w3) hK hW.1 hW.2 hS (fun q hq => Nat.le_trans hbase hq) (zx_clsg hk.1 hk.2) (fun j hj => ?_) (by omega) (by omega) hd (fun q H1 hP1 hD1 hS1 => ?_)
      · unfold vp_V
        rw [List.getD_eq_getElem?_getD, List.getElem?_map, List.getElem?_range hj]
        simp only [Option.map_some, Option.getD_some]
        have ht : zx_tyc (zx_ty k j) = 0 ∨ zx_tyc (zx_ty k j) = 1 ∨ zx_tyc (zx_ty k j) = 2 ∨ zx_tyc (zx_ty k j) = 3 := by
          have : ∀ k, k < 13 → (List.range (zx_nf k)).all (fun j => decide (zx_tyc (zx_ty k j) < 4)) = true := by decide +kernel
          have := List.all_eq_true.mp (this k hk.2) j (List.mem_range.mpr hj)
          simp at this
          omega
        rcases ht with t | t | t | t
        · rw [t, zx_ty_i t]; rfl
        · rw [t, zx_ty_z t]; rfl
        · rw [t, zx_ty_l t]; rfl
        · rw [t]
          rcases zx_ty_r t with ⟨_, h⟩ | ⟨_, h⟩ <;> rw [h] <;> rfl
      · refine zx_hs (fun hz => ?_)
        have hq := zx_fresh hSP.1 hO.1 hP1 hD1 (by omega)
        subst hq
        have k1 := kk H1 locs lsM (zx_new_WH (k := (40 + k, 0)) (w := zx_nf k) (by rw [zx_new_cell hO h1]; unfold zx_cellOf; dsimp only; rw [if_neg (by omega), if_neg (by omega), if_neg (by omega), show 40 + k - 40 = k by omega, show 40 + k - 41 = k - 1 by omega]) hP1 hD1) hS1 hL
        rw [List.map_cons, zx_eref (by omega : L.2.2.1 ≠ 5030), e1, e2, show L.2.2.1 + 1 - n0 = L.2.2.1 - n0 + 1 by omega, show L.2.2.2 + zx_nf k - s0 = L.2.2.2 - s0 + zx_nf k by omega] at k1
        exact k1
    · rw [if_neg hk] at ha; cases ha
  · cases ha

theorem zs_newarray  (hO : zx_OK Lh xs L I J) (hsz : s.heap.size = base + n0) (hn0 : n0 ≤ L.2.2.1) (hs0 : s0 ≤ L.2.2.2) (hr1 : L2.2.2.1 - n0 ≤ R.cells) (hr2 : L2.2.2.2 - s0 ≤ R.slots) {k : ArrayType} (C : zx_Cx p s m args meth c D G ad vS base Lh xs o mx b rt ini) (hd : decode b pc = .ok (.newarray k, 2)) (ha : zx_act o rt ini pc (.newarray k) ls st L I J = some (.inl (pc2, ls2, st2, L2, I2, J2))) (kk : zx_AT p l e R s m args below meth c Q D G ad vS base mx n0 s0 pc2 ls2 st2 L2 I2 J2) : zx_AT p l e R s m args below meth c Q D G ad vS base mx n0 s0 pc ls st L I J := by
  obtain ⟨hx, hb, hml, hown, hts, hlocks, hret, hini, hK, hSP, hbase, ho⟩ := C
  have hS5 := hSP.2.2.2.2.2.2.2.2.2.2.2.1
  unfold zx_act at ha
  dsimp only at ha
  split at ha
  · rename_i t x r hk
    obtain ⟨⟨h1, h4, h5⟩, h2⟩ := zx_if_inv ha
    cases h2
    intro H locs lsM hW hS hL
    have e1 : (zx_new L (t, x.toNatClampNeg) x.toNatClampNeg).2.2.1 = L.2.2.1 + 1 := rfl
    have e2 : (zx_new L (t, x.toNatClampNeg) x.toNatClampNeg).2.2.2 = L.2.2.2 + x.toNatClampNeg := rfl
    rw [e1] at hr1
    rw [e2] at hr2
    cases k with
    | int =>
      obtain rfl := Option.some.inj hk
      refine va_newa (atype := .int) (ty := .int) (a0 := (x.toNatClampNeg, .inl (fun _ => 0))) hx hb (hts _ zx_arr_of.1) rfl hK hW.1 hW.2 hS (fun q hq => Nat.le_trans hbase hq) (fun cA => rfl) h4 rfl (Nat.le_trans (Nat.mul_le_mul_right _ h5) (by decide)) (by omega) (by omega) hd (fun q cA H1 hK1 hP1 hD1 hS1 => ?_)
      have hcA : cA = G 0 := by
        have a1 := (hK1.2 7 (cA, .int) rfl).2
        have a2 := (hK.2 0 (G 0, .int) rfl).2
        exact Option.some.inj (a1.symm.trans a2)
      subst hcA
      refine zx_hs (fun hz => ?_)
      have hq := zx_fresh hSP.1 hO.1 hP1 hD1 (by omega)
      subst hq
      have k1 := kk H1 locs lsM (zx_new_WH (k := (0, x.toNatClampNeg)) (w := x.toNatClampNeg) (by rw [zx_new_cell hO h1]; rfl) hP1 hD1) hS1 hL
      rw [List.map_cons, zx_eref (by omega : L.2.2.1 ≠ 5030), e1, e2, show L.2.2.1 + 1 - n0 = L.2.2.1 - n0 + 1 by omega, show L.2.2.2 + x.toNatClampNeg - s0 = L.2.2.2 - s0 + x.toNatClampNeg by omega] at k1
      exact k1
    | byte =>
      obtain rfl := Option.some.inj hk
      refine va_newa (atype := .byte) (ty := .byte) (a0 := (x.toNatClampNeg, .inl (fun _ => 0))) hx hb (hts _ zx_arr_of.2.1) rfl hK hW.1 hW.2 hS (fun q hq => Nat.le_trans hbase hq) (fun cA => rfl) h4 rfl (Nat.le_trans (Nat.mul_le_mul_right _ h5) (by decide)) (by omega) (by omega) hd (fun q cA H1 hK1 hP1 hD1 hS1 => ?_)
      have hcA : cA = G 1 := by
        have a1 := (hK1.2 7 (cA, .byte) rfl).2
        have a2 := (hK.2 1 (G 1, .byte) rfl).2
        exact Option.some.inj (a1.symm.trans a2)
      subst hcA
      refine zx_hs (fun hz => ?_)
      have hq := zx_fresh hSP.1 hO.1 hP1 hD1 (by omega)
      subst hq
      have k1 := kk H1 locs lsM (zx_new_WH (k := (1, x.toNatClampNeg)) (w := x.toNatClampNeg) (by rw [zx_new_cell hO h1]; rfl) hP1 hD1) hS1 hL
      rw [List.map_cons, zx_eref (by omega : L.2.2.1 ≠ 5030), e1, e2, show L.2.2.1 + 1 - n0 = L.2.2.1 - n0 + 1 by omega, show L.2.2.2 + x.toNatClampNeg - s0 = L.2.2.2 - s0 + x.toNatClampNeg by omega] at k1
      exact k1
    | boolean =>
      obtain rfl := Option.some.inj hk
      refine va_newa (atype := .boolean) (ty := .boolean) (a0 := (x.toNatClampNeg, .inl (fun _ => 0))) hx hb (hts _ zx_arr_of.2.2.1) rfl hK hW.1 hW.2 hS (fun q hq => Nat.le_trans hbase hq) (fun cA => rfl) h4 rfl (Nat.le_trans (Nat.mul_le_mul_right _ h5) (by decide)) (by omega) (by omega) hd (fun q cA H1 hK1 hP1 hD1 hS1 => ?_)
      have hcA : cA = G 2 := by
        have a1 := (hK1.2 7 (cA, .boolean) rfl).2
        have a2 := (hK.2 2 (G 2, .boolean) rfl).2
        exact Option.some.inj (a1.symm.trans a2)
      subst hcA
      refine zx_hs (fun hz => ?_)
      have hq := zx_fresh hSP.1 hO.1 hP1 hD1 (by omega)
      subst hq
      have k1 := kk H1 locs lsM (zx_new_WH (k := (2, x.toNatClampNeg)) (w := x.toNatClampNeg) (by rw [zx_new_cell hO h1]; rfl) hP1 hD1) hS1 hL
      rw [List.map_cons, zx_eref (by omega : L.2.2.1 ≠ 5030), e1, e2, show L.2.2.1 + 1 - n0 = L.2.2.1 - n0 + 1 by omega, show L.2.2.2 + x.toNatClampNeg - s0 = L.2.2.2 - s0 + x.toNatClampNeg by omega] at k1
      exact k1
    | long =>
      obtain rfl := Option.some.inj hk
      refine va_newa (atype := .long) (ty := .long) (a0 := (x.toNatClampNeg, .inr (.inl (fun _ => 0)))) hx hb (hts _ zx_arr_of.2.2.2) rfl hK hW.1 hW.2 hS (fun q hq => Nat.le_trans hbase hq) (fun cA => rfl) h4 rfl (Nat.le_trans (Nat.mul_le_mul_right _ h5) (by decide)) (by omega) (by omega) hd (fun q cA H1 hK1 hP1 hD1 hS1 => ?_)
      have hcA : cA = G 3 := by
        have a1 := (hK1.2 7 (cA, .long) rfl).2
        have a2 := (hK.2 3 (G 3, .long) rfl).2
        exact Option.some.inj (a1.symm.trans a2)
      subst hcA
      refine zx_hs (fun hz => ?_)
      have hq := zx_fresh hSP.1 hO.1 hP1 hD1 (by omega)
      subst hq
      have k1 := kk H1 locs lsM (zx_new_WH (k := (3, x.toNatClampNeg)) (w := x.toNatClampNeg) (by rw [zx_new_cell hO h1]; rfl) hP1 hD1) hS1 hL
      rw [List.map_cons, zx_eref (by omega : L.2.2.1 ≠ 5030), e1, e2, show L.2.2.1 + 1 - n0 = L.2.2.1 - n0 + 1 by omega, show L.2.2.2 + x.toNatClampNeg - s0 = L.2.2.2 - s0 + x.toNatClampNeg by omega] at k1
      exact k1
    | _ => cases hk
  · cases ha

theorem zs_anewarray  (hO : zx_OK Lh xs L I J) (hsz : s.heap.size = base + n0) (hn0 : n0 ≤ L.2.2.1) (hs0 : s0 ≤ L.2.2.2) (hr1 : L2.2.2.1 - n0 ≤ R.cells) (hr2 : L2.2.2.2 - s0 ≤ R.slots) {k : Nat} (C : zx_Cx p s m args meth c D G ad vS base Lh xs o mx b rt ini) (hd : decode b pc = .ok (.anewarray k, 3)) (ha : zx_act o rt ini pc (.anewarray k) ls st L I J = some (.inl (pc2, ls2, st2, L2, I2, J2))) (kk : zx_AT p l e R s m args below meth c Q D G ad vS base mx n0 s0 pc2 ls2 st2 L2 I2 J2) : zx_AT p l e R s m args below meth c Q D G ad vS base mx n0 s0 pc ls st L I J := by
  obtain ⟨hx, hb, hml, hown, hts, hlocks, hret, hini, hK, hSP, hbase, ho⟩ := C
  have hS5 := hSP.2.2.2.2.2.2.2.2.2.2.2.1
  unfold zx_act at ha
  dsimp only at ha
  split at ha
  · rename_i c9 x r hf
    by_cases hc : c9 = 6 ∨ c9 = 7 ∨ c9 = 9
    · rw [if_pos hc] at ha
      obtain ⟨⟨h1, h4, h5⟩, h2⟩ := zx_if_inv ha
      cases h2
      intro H locs lsM hW hS hL
      obtain ⟨w1, -, -⟩ := zx_cls_of ho hf
      rw [show (zx_new L (10 + c9, x.toNatClampNeg) x.toNatClampNeg).2.2.1 = L.2.2.1 + 1 from rfl] at hr1
      rw [show (zx_new L (10 + c9, x.toNatClampNeg) x.toNatClampNeg).2.2.2 = L.2.2.2 + x.toNatClampNeg from rfl] at hr2
      obtain ⟨ao6, ao7, ao9⟩ := hSP.2.2.2.2.2.2.2.2.2.2.2.2.1
      rcases hc with rfl | rfl | rfl
      · refine va_newq (C := RX6) hx hb hown (hts _ w1) ao6 hK hW.1 hW.2 hS (fun q hq => Nat.le_trans hbase hq) h4 rfl (Nat.le_trans (Nat.mul_le_mul_right _ h5) (by decide)) (by omega) (by omega) hd (fun q cA H1 hK1 hP1 hD1 hS1 => ?_)
        have hcA : cA = G 16 := by
          obtain ⟨_, _, _, _, _, a1⟩ := (hK1.2 7 (cA, .object RX6) rfl).2
          obtain ⟨_, _, _, _, _, a2⟩ := (hK.2 4 (G 16, .object RX6) rfl).2
          exact Option.some.inj (a1.symm.trans a2)
        subst hcA
        refine zx_hs (fun hz => ?_)
        have hq := zx_fresh hSP.1 hO.1 hP1 hD1 (by omega)
        subst hq
        have k1 := kk H1 locs lsM (zx_new_WH (k := (16, x.toNatClampNeg)) (w := x.toNatClampNeg) (by rw [zx_new_cell hO h1]; rfl) hP1 hD1) hS1 hL
        rw [List.map_cons, zx_eref (by omega : L.2.2.1 ≠ 5030), show (zx_new L (10 + 6, x.toNatClampNeg) x.toNatClampNeg).2.2.1 = L.2.2.1 + 1 from rfl, show (zx_new L (10 + 6, x.toNatClampNeg) x.toNatClampNeg).2.2.2 = L.2.2.2 + x.toNatClampNeg from rfl, show L.2.2.1 + 1 - n0 = L.2.2.1 - n0 + 1 by omega, show L.2.2.2 + x.toNatClampNeg - s0 = L.2.2.2 - s0 + x.toNatClampNeg by omega] at k1
        exact k1
      · refine va_newq (C := RX7) hx hb hown (hts _ w1) ao7 hK hW.1 hW.2 hS (fun q hq => Nat.le_trans hbase hq) h4 rfl (Nat.le_trans (Nat.mul_le_mul_right _ h5) (by decide)) (by omega) (by omega) hd (fun q cA H1 hK1 hP1 hD1 hS1 => ?_)
        have hcA : cA = G 17 := by
          obtain ⟨_, _, _, _, _, a1⟩ := (hK1.2 7 (cA, .object RX7) rfl).2
          obtain ⟨_, _, _, _, _, a2⟩ := (hK.2 5 (G 17, .object RX7) rfl).2
          exact Option.some.inj (a1.symm.trans a2)
        subst hcA
        refine zx_hs (fun hz => ?_)
        have hq := zx_fresh hSP.1 hO.1 hP1 hD1 (by omega)
        subst hq
        have k1 := kk H1 locs lsM (zx_new_WH (k := (17, x.toNatClampNeg)) (w := x.toNatClampNeg) (by rw [zx_new_cell hO h1]; rfl) hP1 hD1) hS1 hL
        rw [List.map_cons, zx_eref (by omega : L.2.2.1 ≠ 5030), show (zx_new L (10 + 7, x.toNatClampNeg) x.toNatClampNeg).2.2.1 = L.2.2.1 + 1 from rfl, show (zx_new L (10 + 7, x.toNatClampNeg) x.toNatClampNeg).2.2.2 = L.2.2.2 + x.toNatClampNeg from rfl, show L.2.2.1 + 1 - n0 = L.2.2.1 - n0 + 1 by omega, show L.2.2.2 + x.toNatClampNeg - s0 = L.2.2.2 - s0 + x.toNatClampNeg by omega] at k1
        exact k1
      · refine va_newq (C := RX9) hx hb hown (hts _ w1) ao9 hK hW.1 hW.2 hS (fun q hq => Nat.le_trans hbase hq) h4 rfl (Nat.le_trans (Nat.mul_le_mul_right _ h5) (by decide)) (by omega) (by omega) hd (fun q cA H1 hK1 hP1 hD1 hS1 => ?_)
        have hcA : cA = G 19 := by
          obtain ⟨_, _, _, _, _, a1⟩ := (hK1.2 7 (cA, .object RX9) rfl).2
          obtain ⟨_, _, _, _, _, a2⟩ := (hK.2 6 (G 19, .object RX9) rfl).2
          exact Option.some.inj (a1.symm.trans a2)
        subst hcA
        refine zx_hs (fun hz => ?_)
        have hq := zx_fresh hSP.1 hO.1 hP1 hD1 (by omega)
        subst hq
        have k1 := kk H1 locs lsM (zx_new_WH (k := (19, x.toNatClampNeg)) (w := x.toNatClampNeg) (by rw [zx_new_cell hO h1]; rfl) hP1 hD1) hS1 hL
        rw [List.map_cons, zx_eref (by omega : L.2.2.1 ≠ 5030), show (zx_new L (10 + 9, x.toNatClampNeg) x.toNatClampNeg).2.2.1 = L.2.2.1 + 1 from rfl, show (zx_new L (10 + 9, x.toNatClampNeg) x.toNatClampNeg).2.2.2 = L.2.2.2 + x.toNatClampNeg from rfl, show L.2.2.1 + 1 - n0 = L.2.2.1 - n0 + 1 by omega, show L.2.2.2 + x.toNatClampNeg - s0 = L.2.2.2 - s0 + x.toNatClampNeg by omega] at k1
        exact k1
    · rw [if_neg hc] at ha; cases ha
  · cases ha

theorem zs_aastore  (hO : zx_OK Lh xs L I J) (C : zx_Cx p s m args meth c D G ad vS base Lh xs o mx b rt ini) (hd : decode b pc = .ok (.aastore, 1)) (ha : zx_act o rt ini pc (.aastore) ls st L I J = some (.inl (pc2, ls2, st2, L2, I2, J2))) (kk : zx_AT p l e R s m args below meth c Q D G ad vS base mx n0 s0 pc2 ls2 st2 L2 I2 J2) : zx_AT p l e R s m args below meth c Q D G ad vS base mx n0 s0 pc ls st L I J := by
  obtain ⟨hx, hb, hml, hown, hts, hlocks, hret, hini, hK, hSP, hbase, ho⟩ := C
  have hS5 := hSP.2.2.2.2.2.2.2.2.2.2.2.1
  unfold zx_act at ha
  dsimp only at ha
  split at ha
  · rename_i v x a r
    obtain ⟨⟨hw, hwb, h2, k, c1, c2, h1, h6⟩, h3⟩ := zx_if_inv ha
    cases h3
    intro H locs lsM hW hS hL
    rw [List.map_cons, List.map_cons, List.map_cons, zx_adw hO.1 hw, zx_adw hO.1 hwb]
    have he := zx_ws_get (G := G) (ad := ad) (L := L) (I := I) (J := J) hw
    have hv := zx_ws_get (G := G) (ad := ad) (L := L) (I := I) (J := J) hwb
    rw [zx_cell_r (by omega) (by omega)] at he
    rw [zx_cell_o c1 h6] at hv
    have hz := zx_ws_set (G := G) (ad := ad) (L := L) (L2 := (L.1, zx_u L.2.1 a x.toNatClampNeg (some v), L.2.2)) (I := I) (I2 := I) (J := J) (J2 := J) (a := a) rfl (fun j hj => by unfold zx_cell; dsimp only; rw [zx_u_off _ _ _ _ hj]) (c := .inl (G (L.1 a).1, (L.1 a).2, .inr (.inr (.inr (.inr (va_up (fun j => (L.2.1 a j).map ad) x.toNatClampNeg (some (ad v)))))))) (by
      rw [zx_cell_r (L := (L.1, zx_u L.2.1 a x.toNatClampNeg (some v), L.2.2)) (show 10 ≤ (L.1 a).1 by omega) (show (L.1 a).1 < 40 by omega)]
      dsimp only
      rw [zx_u_at]
      congr 7
      funext j
      unfold va_up
      dsimp only
      split <;> rfl)
    have g := hO.2.1 a hw
    unfold zx_gk at g
    rcases (show k = 6 ∨ k = 7 ∨ k = 9 by omega) with rfl | rfl | rfl
    · rw [show (L.1 a).1 = 16 from h1] at he hz
      refine va_astq (r := (zx_cn 6, zx_T 6, zx_nf 6)) hx hb hK hW.1 hW.2 hS a 4 v 5 he rfl hv (zx_clsg (by omega) (by omega)) (zx_vpin h2) hd (fun H1 locs1 hP1 hD1 hS1 => kk H1 locs1 lsM ?_ hS1 hL)
      rw [hz] at hP1 hD1
      exact ⟨hP1, hD1⟩
    · rw [show (L.1 a).1 = 17 from h1] at he hz
      refine va_astq (r := (zx_cn 7, zx_T 7, zx_nf 7)) hx hb hK hW.1 hW.2 hS a 5 v 6 he rfl hv (zx_clsg (by omega) (by omega)) (zx_vpin h2) hd (fun H1 locs1 hP1 hD1 hS1 => kk H1 locs1 lsM ?_ hS1 hL)
      rw [hz] at hP1 hD1
      exact ⟨hP1, hD1⟩
    · rw [show (L.1 a).1 = 19 from h1] at he hz
      refine va_astq (r := (zx_cn 9, zx_T 9, zx_nf 9)) hx hb hK hW.1 hW.2 hS a 6 v 8 he rfl hv (zx_clsg (by omega) (by omega)) (zx_vpin h2) hd (fun H1 locs1 hP1 hD1 hS1 => kk H1 locs1 lsM ?_ hS1 hL)
      rw [hz] at hP1 hD1
      exact ⟨hP1, hD1⟩
  · cases ha

end STEPN
