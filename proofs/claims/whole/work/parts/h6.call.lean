/-! calls, and all steps in one (by program) -/
theorem zx_cs_e {ad : Nat → Nat} {vS : Value} (hS : vS = .null ∨ ∃ t, vS = .ref t) (st : List Value) : ((st.map (zx_e ad vS)).map (fun v => v.category)).sum = zx_cs st := by
  unfold zx_cs
  rw [List.map_map]
  congr 1
  exact List.map_congr_left fun v _ => zx_e_cat ad vS hS v
/-- a call that is done at once -/
theorem zx_cl_inl {L : zx_Lay} {f : Option (Nat × Nat × Nat)} {pc kk : Nat} {ls st : List Value} {I : zx_MI} {J : zx_MJ} {q : zx_N} (h : zx_cl L f pc ls I J kk st = some (.inl q)) :
    (kk = 1 ∧ ∃ na kd a r, f = some (999, na, kd) ∧ st = .ref a :: r ∧ zx_cs r ≤ 8 ∧ zx_wr L a ∧ q = (pc + 3, ls, r, L, I, J)) ∨
    (kk = 2 ∧ ∃ na kd n dp d sp s r, f = some (998, na, kd) ∧ st = .int n :: .int dp :: .ref d :: .int sp :: .ref s :: r ∧ ((L.1 s).1 = 3 ∧ (L.1 d).1 = 3 ∧ zx_wr L s ∧ zx_wr L d ∧ ¬ n < 0 ∧ ¬ dp < 0 ∧ ¬ sp < 0 ∧ sp.toNatClampNeg + n.toNatClampNeg ≤ (L.1 s).2 ∧ dp.toNatClampNeg + n.toNatClampNeg ≤ (L.1 d).2 ∧ zx_cs r ≤ 8) ∧ q = (pc + 3, ls, r, L, I, zx_cpy J s d sp.toNatClampNeg dp.toNatClampNeg n.toNatClampNeg)) ∨
    (kk = 2 ∧ ∃ na kd x y r, f = some (990, na, kd) ∧ st = .int y :: .int x :: r ∧ zx_cs r ≤ 8 ∧ q = (pc + 3, ls, .int (if y < x then y else x) :: r, L, I, J)) ∨
    (kk = 2 ∧ ∃ na kd x y r, f = some (991, na, kd) ∧ st = .int y :: .int x :: r ∧ zx_cs r ≤ 8 ∧ q = (pc + 3, ls, .int (if x < y then y else x) :: r, L, I, J)) ∨
    (kk = 2 ∧ ∃ na kd x r, f = some (992, na, kd) ∧ st = .int x :: r ∧ zx_cs r ≤ 8 ∧ q = (pc + 3, ls, .int (if 0 ≤ x then x else 0 - x) :: r, L, I, J)) ∨
    (kk = 2 ∧ ∃ na kd x y r, f = some (993, na, kd) ∧ st = .long y :: .long x :: r ∧ zx_cs r ≤ 8 ∧ q = (pc + 3, ls, .long (if y < x then y else x) :: r, L, I, J)) ∨
    (kk = 2 ∧ ∃ na kd x y r, f = some (994, na, kd) ∧ st = .long y :: .long x :: r ∧ zx_cs r ≤ 8 ∧ q = (pc + 3, ls, .long (if y < x then x else y) :: r, L, I, J)) := by
  unfold zx_cl at h
  split at h
  · rename_i k na kd
    split at h
    · split at h
      · split at h
        · obtain ⟨h1, h2⟩ := zx_if_inv h
          cases h2
          exact Or.inl ⟨rfl, _, _, _, _, rfl, rfl, by assumption, h1, rfl⟩
        · cases h
      · cases h
    · split at h
      · obtain ⟨h1, h2⟩ := zx_if_inv h
        cases h2
        exact Or.inr (Or.inl ⟨rfl, _, _, _, _, _, _, _, _, rfl, rfl, h1, rfl⟩)
      · cases h
    · split at h
      · split at h
        · cases h
          exact Or.inr (Or.inr (Or.inl ⟨rfl, _, _, _, _, _, rfl, rfl, by assumption, rfl⟩))
        · cases h
      · cases h
    · split at h
      · split at h
        · cases h
          exact Or.inr (Or.inr (Or.inr (Or.inl ⟨rfl, _, _, _, _, _, rfl, rfl, by assumption, rfl⟩)))
        · cases h
      · cases h
    · split at h
      · split at h
        · cases h
          exact Or.inr (Or.inr (Or.inr (Or.inr (Or.inl ⟨rfl, _, _, _, _, rfl, rfl, by assumption, rfl⟩))))
        · cases h
      · cases h
    · split at h
      · split at h
        · cases h
          exact Or.inr (Or.inr (Or.inr (Or.inr (Or.inr (Or.inl ⟨rfl, _, _, _, _, _, rfl, rfl, by assumption, rfl⟩)))))
        · cases h
      · cases h
    · split at h
      · split at h
        · cases h
          exact Or.inr (Or.inr (Or.inr (Or.inr (Or.inr (Or.inr ⟨rfl, _, _, _, _, _, rfl, rfl, by assumption, rfl⟩)))))
        · cases h
      · cases h
    · split at h
      · split at h
        · split at h
          · split at h <;> cases h
          · cases h
        · split at h
          · split at h
            · obtain ⟨-, h2⟩ := zx_if_inv h
              cases h2
            · cases h
          · cases h
        · split at h
          · split at h
            · obtain ⟨-, h2⟩ := zx_if_inv h
              cases h2
            · cases h
          · cases h
        · split at h
          · split at h
            · obtain ⟨-, h2⟩ := zx_if_inv h
              cases h2
            · cases h
          · cases h
        · cases h
      · cases h
  · cases h
/-- a call of a method -/
theorem zx_cl_inr {L : zx_Lay} {f : Option (Nat × Nat × Nat)} {pc kk : Nat} {ls st as st2 : List Value} {I : zx_MI} {J : zx_MJ} {k : Nat} (h : zx_cl L f pc ls I J kk st = some (.inr (.inr (k, as, st2)))) :
    ∃ na kd c w, f = some (k, na, kd) ∧ zx_ms k = some (c, w) ∧ zx_cs st2 ≤ 8 ∧ (k < 990 ∨ 1000 ≤ k ∨ (994 < k ∧ k < 998)) ∧ ((kk = 2 ∧ kd = 2 ∧ zx_tk na st = some (as, st2)) ∨ (kk = 0 ∧ kd = 0 ∧ ∃ a as2, as = .ref a :: as2 ∧ zx_tk (na + 1) st = some (.ref a :: as2, st2) ∧ L.1 a = (40 + c, 0)) ∨ (kk = 1 ∧ (kd = 1 ∨ kd = 3) ∧ ∃ a as2, as = .ref a :: as2 ∧ zx_tk (na + 1) st = some (.ref a :: as2, st2) ∧ a < 5000)) := by
  unfold zx_cl at h
  split at h
  · rename_i k9 na kd
    split at h
    · split at h
      · split at h
        · obtain ⟨h1, h2⟩ := zx_if_inv h
          cases h2
        · cases h
      · cases h
    · split at h
      · obtain ⟨h1, h2⟩ := zx_if_inv h
        cases h2
      · cases h
    · split at h
      · split at h <;> cases h
      · cases h
    · split at h
      · split at h <;> cases h
      · cases h
    · split at h
      · split at h <;> cases h
      · cases h
    · split at h
      · split at h <;> cases h
      · cases h
    · split at h
      · split at h <;> cases h
      · cases h
    · rename_i g1 g2 g3 g4 g5 g6 g7
      have hk : k9 < 990 ∨ 1000 ≤ k9 ∨ (994 < k9 ∧ k9 < 998) := by
        have a1 : ¬ k9 = 999 := fun z => g1 z
        have a2 : ¬ k9 = 998 := fun z => g2 z
        have a3 : ¬ k9 = 990 := fun z => g3 z
        have a4 : ¬ k9 = 991 := fun z => g4 z
        have a5 : ¬ k9 = 992 := fun z => g5 z
        have a6 : ¬ k9 = 993 := fun z => g6 z
        have a7 : ¬ k9 = 994 := fun z => g7 z
        omega
      split at h
      · rename_i c w hm
        split at h
        · split at h
          · split at h
            · cases h
              exact ⟨_, _, _, _, rfl, hm, by assumption, hk, Or.inl ⟨rfl, rfl, by assumption⟩⟩
            · cases h
          · cases h
        · split at h
          · split at h
            · obtain ⟨h1, h2⟩ := zx_if_inv h
              cases h2
              exact ⟨_, _, _, _, rfl, hm, by assumption, hk, Or.inr (Or.inl ⟨rfl, rfl, _, _, rfl, by assumption, h1⟩)⟩
            · cases h
          · cases h
        · split at h
          · split at h
            · obtain ⟨h1, h2⟩ := zx_if_inv h
              cases h2
              exact ⟨_, _, _, _, rfl, hm, by assumption, hk, Or.inr (Or.inr ⟨rfl, Or.inl rfl, _, _, rfl, by assumption, h1⟩)⟩
            · cases h
          · cases h
        · split at h
          · split at h
            · obtain ⟨h1, h2⟩ := zx_if_inv h
              cases h2
              exact ⟨_, _, _, _, rfl, hm, by assumption, hk, Or.inr (Or.inr ⟨rfl, Or.inr rfl, _, _, rfl, by assumption, h1⟩)⟩
            · cases h
          · cases h
        · cases h
      · cases h
  · cases h
theorem zx_tk_inv {n : Nat} {st as r : List Value} (h : zx_tk n st = some (as, r)) : st = as.reverse ++ r ∧ as.length = n := by
  unfold zx_tk at h
  split at h
  · cases h
    exact ⟨by rw [List.reverse_reverse, List.take_append_drop], by rw [List.length_reverse, List.length_take]; omega⟩
  · cases h
section STEPC
variable {p : Program} {l : Launch} {e : Env} {R : Room} {s : State} {m : MethodId} {args : Array Value} {below : List Frame} {meth : Method} {c : Code} {Q : State → Prop} {D : va_G} {G : Nat → ClassId} {ad : Nat → Nat} {vS : Value} {base Lh mx n0 s0 o : Nat} {xs : Nat → Int32} {b : ByteArray} {rt : Option FieldType} {ini : Bool} {pc pc2 : Nat} {ls ls2 st st2 : List Value} {L L2 : zx_Lay} {I I2 : zx_MI} {J J2 : zx_MJ} {i : Instr}
theorem zs_isp  (hO : zx_OK Lh xs L I J) (hfr : 1 ≤ R.frames) (hlo : 60 ≤ R.locals) (hcc : L.2.2.1 - n0 ≤ R.cells) (hcs : L.2.2.2 - s0 ≤ R.slots) {x : Nat} (C : zx_Cx p s m args meth c D G ad vS base Lh xs o mx b rt ini) (hd : decode b pc = .ok (.invokespecial x, 3)) (ha : zx_act o rt ini pc (.invokespecial x) ls st L I J = some (.inl (pc2, ls2, st2, L2, I2, J2))) (kk : zx_AT p l e R s m args below meth c Q D G ad vS base mx n0 s0 pc2 ls2 st2 L2 I2 J2) : zx_AT p l e R s m args below meth c Q D G ad vS base mx n0 s0 pc ls st L I J := by
  obtain ⟨hx, hb, hml, hown, hts, hlocks, hret, hini, hK, hSP, hbase, ho⟩ := C
  have hS5 := hSP.2.2.2.2.2.2.2.2.2.2.2.1
  rcases zx_cl_inl (show zx_cl L (zx_find (zx_mths o) x) pc ls I J 1 st = _ from ha) with ⟨-, na, kd, a, r, hf, rfl, hr, hw, hq⟩ | ⟨z, -⟩ | ⟨z, -⟩ | ⟨z, -⟩ | ⟨z, -⟩ | ⟨z, -⟩ | ⟨z, -⟩
  · have w := zx_chkM o _ (zx_find_in _ hf)
    cases hq
    intro H locs lsM hW hS hL
    rw [List.map_cons, zx_adw hO.1 hw]
    exact W.objInit hx hb hown (hts _ (w _ List.mem_cons_self)) (hts _ (w _ (List.mem_cons_of_mem _ List.mem_cons_self))) (hts _ (w _ (List.mem_cons_of_mem _ (List.mem_cons_of_mem _ List.mem_cons_self)))) rfl (by rw [hml]; exact hL.2.1) rfl hd hfr (by rw [zx_cs_e hS5]; show 2 * 0 + zx_cs st2 + 12 ≤ R.locals; omega) (kk H locs lsM hW hS hL)
  all_goals cases z

theorem zs_ist  (hO : zx_OK Lh xs L I J) (hfr : 1 ≤ R.frames) (hlo : 60 ≤ R.locals) (hcc : L.2.2.1 - n0 ≤ R.cells) (hcs : L.2.2.2 - s0 ≤ R.slots) {x : Nat} (C : zx_Cx p s m args meth c D G ad vS base Lh xs o mx b rt ini) (hd : decode b pc = .ok (.invokestatic x, 3)) (ha : zx_act o rt ini pc (.invokestatic x) ls st L I J = some (.inl (pc2, ls2, st2, L2, I2, J2))) (kk : zx_AT p l e R s m args below meth c Q D G ad vS base mx n0 s0 pc2 ls2 st2 L2 I2 J2) : zx_AT p l e R s m args below meth c Q D G ad vS base mx n0 s0 pc ls st L I J := by
  obtain ⟨hx, hb, hml, hown, hts, hlocks, hret, hini, hK, hSP, hbase, ho⟩ := C
  have hS5 := hSP.2.2.2.2.2.2.2.2.2.2.2.1
  rcases zx_cl_inl (show zx_cl L (zx_find (zx_mths o) x) pc ls I J 2 st = _ from ha) with ⟨z, -⟩ | ⟨-, na, kd, n, dp, d, sp, s1, r, hf, rfl, ⟨c1, c2, c3, c4, c5, c6, c7, c8, c9, c10⟩, hq⟩ | ⟨-, na, kd, x1, y1, r, hf, rfl, hr, hq⟩ | ⟨-, na, kd, x1, y1, r, hf, rfl, hr, hq⟩ | ⟨-, na, kd, x1, r, hf, rfl, hr, hq⟩ | ⟨-, na, kd, x1, y1, r, hf, rfl, hr, hq⟩ | ⟨-, na, kd, x1, y1, r, hf, rfl, hr, hq⟩
  · cases z
  · have w := zx_chkM o _ (zx_find_in _ hf)
    cases hq
    intro H locs lsM hW hS hL
    rw [List.map_cons, List.map_cons, List.map_cons, List.map_cons, List.map_cons, zx_adw hO.1 c3, zx_adw hO.1 c4]
    have he := zx_ws_get (G := G) (ad := ad) (L := L) (I := I) (J := J) c3
    have hv := zx_ws_get (G := G) (ad := ad) (L := L) (I := I) (J := J) c4
    rw [zx_cell_l c1] at he
    rw [zx_cell_l c2] at hv
    refine va_copyl hx hb (by rw [hml]; exact hL.2.1.symm) hown (hts _ (w _ List.mem_cons_self)) (hts _ (w _ (List.mem_cons_of_mem _ List.mem_cons_self))) (hts _ (w _ (List.mem_cons_of_mem _ (List.mem_cons_of_mem _ List.mem_cons_self)))) (hts _ (w _ (List.mem_cons_of_mem _ (List.mem_cons_of_mem _ (List.mem_cons_of_mem _ List.mem_cons_self))))) hK hW.1 hW.2 hS s1 d 3 3 he hv rfl rfl rfl c7 c6 c5 c8 c9 (fun _ _ => rfl) hfr (by rw [zx_cs_e hS5]; rw [(by decide +kernel : nativeFrameWords "java/lang/System" "arraycopy" 5 = 7)]; omega) hd (fun H1 locs1 hP1 hD1 hS1 => kk H1 locs1 lsM ?_ hS1 hL)
    have hz := zx_ws_set (G := G) (ad := ad) (L := L) (L2 := L) (I := I) (I2 := I) (J := J) (J2 := zx_cpy J s1 d sp.toNatClampNeg dp.toNatClampNeg n.toNatClampNeg) (a := d) rfl (fun j hj => by
      unfold zx_cell
      rw [show zx_cpy J s1 d sp.toNatClampNeg dp.toNatClampNeg n.toNatClampNeg j = J j from funext fun k => by unfold zx_cpy; rw [if_neg (fun z => hj z.1)]]) (c := .inl (G 3, (L.1 d).2, .inr (.inl (va_cpy (J s1) (J d) sp.toNatClampNeg dp.toNatClampNeg n.toNatClampNeg)))) (by
      rw [zx_cell_l c2]
      congr 5
      funext k
      unfold va_cpy zx_cpy
      simp)
    rw [hz] at hP1 hD1
    exact ⟨hP1, hD1⟩
  · have w := zx_chkM o _ (zx_find_in _ hf)
    cases hq
    intro H locs lsM hW hS hL
    exact va_mmin hx hb (by rw [hml]; exact hL.2.1.symm) hown (hts _ (w _ List.mem_cons_self)) (hts _ (w _ (List.mem_cons_of_mem _ List.mem_cons_self))) (hts _ (w _ (List.mem_cons_of_mem _ (List.mem_cons_of_mem _ List.mem_cons_self)))) (hts _ (w _ (List.mem_cons_of_mem _ (List.mem_cons_of_mem _ (List.mem_cons_of_mem _ List.mem_cons_self))))) hfr (by rw [zx_cs_e hS5]; omega) hcc hcs hd (kk H locs lsM hW hS hL)
  · have w := zx_chkM o _ (zx_find_in _ hf)
    cases hq
    intro H locs lsM hW hS hL
    exact va_mmax hx hb (by rw [hml]; exact hL.2.1.symm) hown (hts _ (w _ List.mem_cons_self)) (hts _ (w _ (List.mem_cons_of_mem _ List.mem_cons_self))) (hts _ (w _ (List.mem_cons_of_mem _ (List.mem_cons_of_mem _ List.mem_cons_self)))) (hts _ (w _ (List.mem_cons_of_mem _ (List.mem_cons_of_mem _ (List.mem_cons_of_mem _ List.mem_cons_self))))) hfr (by rw [zx_cs_e hS5]; omega) hcc hcs hd (kk H locs lsM hW hS hL)
  · have w := zx_chkM o _ (zx_find_in _ hf)
    cases hq
    intro H locs lsM hW hS hL
    exact va_mabs hx hb (by rw [hml]; exact hL.2.1.symm) hown (hts _ (w _ List.mem_cons_self)) (hts _ (w _ (List.mem_cons_of_mem _ List.mem_cons_self))) (hts _ (w _ (List.mem_cons_of_mem _ (List.mem_cons_of_mem _ List.mem_cons_self)))) (hts _ (w _ (List.mem_cons_of_mem _ (List.mem_cons_of_mem _ (List.mem_cons_of_mem _ List.mem_cons_self))))) hfr (by rw [zx_cs_e hS5]; omega) hcc hcs hd (kk H locs lsM hW hS hL)
  · have w := zx_chkM o _ (zx_find_in _ hf)
    cases hq
    intro H locs lsM hW hS hL
    exact va_mmin_long hx hb (by rw [hml]; exact hL.2.1.symm) hown (hts _ (w _ List.mem_cons_self)) (hts _ (w _ (List.mem_cons_of_mem _ List.mem_cons_self))) (hts _ (w _ (List.mem_cons_of_mem _ (List.mem_cons_of_mem _ List.mem_cons_self)))) (hts _ (w _ (List.mem_cons_of_mem _ (List.mem_cons_of_mem _ (List.mem_cons_of_mem _ List.mem_cons_self))))) hfr (by rw [zx_cs_e hS5]; omega) hcc hcs hd (kk H locs lsM hW hS hL)
  · have w := zx_chkM o _ (zx_find_in _ hf)
    cases hq
    intro H locs lsM hW hS hL
    exact va_mmax_long hx hb (by rw [hml]; exact hL.2.1.symm) hown (hts _ (w _ List.mem_cons_self)) (hts _ (w _ (List.mem_cons_of_mem _ List.mem_cons_self))) (hts _ (w _ (List.mem_cons_of_mem _ (List.mem_cons_of_mem _ List.mem_cons_self)))) (hts _ (w _ (List.mem_cons_of_mem _ (List.mem_cons_of_mem _ (List.mem_cons_of_mem _ List.mem_cons_self))))) hfr (by rw [zx_cs_e hS5]; omega) hcc hcs hd (kk H locs lsM hW hS hL)

theorem zs_iva  {x : Nat} (C : zx_Cx p s m args meth c D G ad vS base Lh xs o mx b rt ini) (hd : decode b pc = .ok (.invokevirtual x, 3)) (ha : zx_act o rt ini pc (.invokevirtual x) ls st L I J = some (.inl (pc2, ls2, st2, L2, I2, J2))) (kk : zx_AT p l e R s m args below meth c Q D G ad vS base mx n0 s0 pc2 ls2 st2 L2 I2 J2) : zx_AT p l e R s m args below meth c Q D G ad vS base mx n0 s0 pc ls st L I J := by
  obtain ⟨hx, hb, hml, hown, hts, hlocks, hret, hini, hK, hSP, hbase, ho⟩ := C
  have hS5 := hSP.2.2.2.2.2.2.2.2.2.2.2.1
  rcases zx_cl_inl (show zx_cl L (zx_find (zx_mths o) x) pc ls I J 0 st = _ from ha) with ⟨z, -⟩ | ⟨z, -⟩ | ⟨z, -⟩ | ⟨z, -⟩ | ⟨z, -⟩ | ⟨z, -⟩ | ⟨z, -⟩
  all_goals cases z

theorem zx_step (hO : zx_OK Lh xs L I J) (hsz : s.heap.size = base + n0) (hn0 : n0 ≤ L.2.2.1) (hs0 : s0 ≤ L.2.2.2) (hr1 : L2.2.2.1 - n0 ≤ R.cells) (hr2 : L2.2.2.2 - s0 ≤ R.slots) (hfr : 1 ≤ R.frames) (hlo : 60 ≤ R.locals) (hcc : L.2.2.1 - n0 ≤ R.cells) (hcs : L.2.2.2 - s0 ≤ R.slots) (C : zx_Cx p s m args meth c D G ad vS base Lh xs o mx b rt ini) {len : Nat} (hd0 : decode b pc = .ok (i, len)) (hl : len = zx_len i ∨ zx_sw i = true) (ha : zx_act o rt ini pc i ls st L I J = some (.inl (pc2, ls2, st2, L2, I2, J2))) (kk : zx_AT p l e R s m args below meth c Q D G ad vS base mx n0 s0 pc2 ls2 st2 L2 I2 J2) : zx_AT p l e R s m args below meth c Q D G ad vS base mx n0 s0 pc ls st L I J := by
  have hd : zx_sw i = false → decode b pc = .ok (i, zx_len i) := fun h => by
    rcases hl with rfl | hl
    · exact hd0
    · rw [h] at hl; cases hl
  clear hl
  cases i with
  | iconst n => exact zs_iconst C (hd rfl) ha kk
  | bipush n => exact zs_bipush C (hd rfl) ha kk
  | sipush n => exact zs_sipush C (hd rfl) ha kk
  | lconst n => exact zs_lconst C (hd rfl) ha kk
  | aconst_null => exact zs_null C (hd rfl) ha kk
  | iload k => exact zs_iload C (hd rfl) ha kk
  | iload_n k => exact zs_iloadn C (hd rfl) ha kk
  | lload k => exact zs_lload C (hd rfl) ha kk
  | lload_n k => exact zs_lloadn C (hd rfl) ha kk
  | aload k => exact zs_aload C (hd rfl) ha kk
  | aload_n k => exact zs_aloadn C (hd rfl) ha kk
  | istore k => exact zs_istore C (hd rfl) ha kk
  | istore_n k => exact zs_istoren C (hd rfl) ha kk
  | lstore k => exact zs_lstore C (hd rfl) ha kk
  | lstore_n k => exact zs_lstoren C (hd rfl) ha kk
  | astore k => exact zs_astore C (hd rfl) ha kk
  | astore_n k => exact zs_astoren C (hd rfl) ha kk
  | iinc k n => exact zs_iinc C (hd rfl) ha kk
  | goto off => exact zs_goto C (hd rfl) ha kk
  | ifCond cd off => exact zs_ifc C (hd rfl) ha kk
  | if_icmp cd off => exact zs_icm C (hd rfl) ha kk
  | ifnull off => exact zs_ifnull C (hd rfl) ha kk
  | ifnonnull off => exact zs_ifnonnull C (hd rfl) ha kk
  | ldc k => exact zs_ldc C (hd rfl) ha kk
  | ldc_w k => exact zs_ldcw C (hd rfl) ha kk
  | ldc2_w k => exact zs_ldc2 C (hd rfl) ha kk
  | getstatic x => exact zs_getstatic C (hd rfl) ha kk
  | invokevirtual x => exact zs_iva C (hd rfl) ha kk
  | iadd => exact zs_iadd C (hd rfl) ha kk
  | isub => exact zs_isub C (hd rfl) ha kk
  | imul => exact zs_imul C (hd rfl) ha kk
  | iand => exact zs_iand C (hd rfl) ha kk
  | ior => exact zs_ior C (hd rfl) ha kk
  | ixor => exact zs_ixor C (hd rfl) ha kk
  | ishl => exact zs_ishl C (hd rfl) ha kk
  | ishr => exact zs_ishr C (hd rfl) ha kk
  | iushr => exact zs_iushr C (hd rfl) ha kk
  | idiv => exact zs_idiv C (hd rfl) ha kk
  | irem => exact zs_irem C (hd rfl) ha kk
  | ineg => exact zs_ineg C (hd rfl) ha kk
  | i2l => exact zs_i2l C (hd rfl) ha kk
  | i2b => exact zs_i2b C (hd rfl) ha kk
  | i2s => exact zs_i2s C (hd rfl) ha kk
  | i2c => exact zs_i2c C (hd rfl) ha kk
  | l2i => exact zs_l2i C (hd rfl) ha kk
  | ladd => exact zs_ladd C (hd rfl) ha kk
  | lsub => exact zs_lsub C (hd rfl) ha kk
  | lmul => exact zs_lmul C (hd rfl) ha kk
  | land => exact zs_land C (hd rfl) ha kk
  | lor => exact zs_lor C (hd rfl) ha kk
  | lxor => exact zs_lxor C (hd rfl) ha kk
  | lcmp => exact zs_lcmp C (hd rfl) ha kk
  | lshl => exact zs_lshl C (hd rfl) ha kk
  | lshr => exact zs_lshr C (hd rfl) ha kk
  | lushr => exact zs_lushr C (hd rfl) ha kk
  | dup => exact zs_dup C (hd rfl) ha kk
  | dup2 => exact zs_dup2 C (hd rfl) ha kk
  | pop => exact zs_pop C (hd rfl) ha kk
  | pop2 => exact zs_pop2 C (hd rfl) ha kk
  | iaload => exact zs_iaload hO C (hd rfl) ha kk
  | baload => exact zs_baload hO C (hd rfl) ha kk
  | laload => exact zs_laload hO C (hd rfl) ha kk
  | aaload => exact zs_aaload hO C (hd rfl) ha kk
  | arraylength => exact zs_alen hO C (hd rfl) ha kk
  | iastore => exact zs_iastore hO C (hd rfl) ha kk
  | bastore => exact zs_bastore hO C (hd rfl) ha kk
  | lastore => exact zs_lastore hO C (hd rfl) ha kk
  | aastore => exact zs_aastore hO C (hd rfl) ha kk
  | getfield x => exact zs_getfield hO C (hd rfl) ha kk
  | putfield x => exact zs_putfield hO C (hd rfl) ha kk
  | new x => exact zs_new hO hsz hn0 hs0 hr1 hr2 C (hd rfl) ha kk
  | newarray k => exact zs_newarray hO hsz hn0 hs0 hr1 hr2 C (hd rfl) ha kk
  | anewarray x => exact zs_anewarray hO hsz hn0 hs0 hr1 hr2 C (hd rfl) ha kk
  | invokespecial x => exact zs_isp hO hfr hlo hcc hcs C (hd rfl) ha kk
  | invokestatic x => exact zs_ist hO hfr hlo hcc hcs C (hd rfl) ha kk
  | tableswitch d lo hi offs => exact zs_tsw C hd0 ha kk
  | lookupswitch d ps => exact zs_lsw C hd0 ha kk
  | ireturn =>
    unfold zx_act at ha
    dsimp only at ha
    split at ha
    · exact absurd (zx_if_inv ha).2 nofun
    · cases ha
  | lreturn =>
    unfold zx_act at ha
    dsimp only at ha
    split at ha
    · split at ha <;> cases ha
    · cases ha
  | areturn =>
    unfold zx_act at ha
    dsimp only at ha
    split at ha
    · exact absurd (zx_if_inv ha).2 nofun
    · cases ha
    · cases ha
  | return_ =>
    unfold zx_act at ha
    dsimp only at ha
    split at ha
    · split at ha <;> cases ha
    · cases ha
  | _ => cases ha

end STEPC
