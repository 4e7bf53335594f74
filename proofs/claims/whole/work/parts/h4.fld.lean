/-! steps that read or write fields (by program) -/
theorem zx_ty_i {t : FieldType} (h : zx_tyc t = 0) : t = .int := by cases t <;> first | rfl | cases h
theorem zx_ty_z {t : FieldType} (h : zx_tyc t = 1) : t = .boolean := by cases t <;> first | rfl | cases h
theorem zx_ty_l {t : FieldType} (h : zx_tyc t = 2) : t = .long := by cases t <;> first | rfl | cases h
theorem zx_ty_r {t : FieldType} (h : zx_tyc t = 3) : (∃ s, t = .object s) ∨ ∃ s, t = .array s := by
  cases t <;> first | exact Or.inl ⟨_, rfl⟩ | exact Or.inr ⟨_, rfl⟩ | cases h
/-- a field's place, set -/
theorem zx_fset {ad : Nat → Nat} {r r2 : Nat → Option Nat} {f f2 : Nat → Int32} {g g2 : Nat → Int64} {c k : Nat} {v : Value} (hk : k < zx_nf c) (hv : v = zx_fv ad r2 f2 g2 k (zx_tyc (zx_ty c k))) (ho : ∀ j, j ≠ k → r2 j = r j ∧ f2 j = f j ∧ g2 j = g j) :
    ((List.range (zx_nf c)).map (fun i => zx_fv ad r f g i (zx_tyc (zx_ty c i)))).set k v = (List.range (zx_nf c)).map (fun i => zx_fv ad r2 f2 g2 i (zx_tyc (zx_ty c i))) := by
  apply List.ext_getElem?
  intro j
  subst hv
  by_cases hj : j = k
  · subst hj
    rw [List.getElem?_set_self']
    simp [hk]
  · rw [List.getElem?_set_ne (Ne.symm hj)]
    by_cases hl : j < zx_nf c
    · obtain ⟨h1, h2, h3⟩ := ho j hj
      simp [hl, zx_fv, h1, h2, h3]
    · simp [hl]
theorem zx_gve {ad : Nat → Nat} {vS : Value} {L : zx_Lay} {I : zx_MI} {J : zx_MJ} {a k t : Nat} (h : ∀ b, L.2.1 a k = some b → b ≠ 5030) : zx_e ad vS (match t with
      | 2 => .long (J a k)
      | 3 => zx_rv (L.2.1 a k)
      | _ => .int (I a k)) = zx_fv ad (L.2.1 a) (I a) (J a) k t := by
  split
  · rfl
  · rw [zx_ervl h]; rfl
  · rename_i h1 h2
    unfold zx_fv
    rw [if_neg h1, if_neg h2]
    rfl
theorem zx_pf_inv {o pc : Nat} {ini : Bool} {ls st : List Value} {L : zx_Lay} {I : zx_MI} {J : zx_MJ} {f : Option (Nat × Nat × Nat)} {q : zx_A} (h : zx_pf o ini pc ls L I J f st = some q) : ∃ c k t ty fin, f = some (c, k, t) ∧ (zx_ft c)[k]? = some (ty, fin) ∧ (fin = true → ini = true ∧ o = c) ∧
    ((t = 2 ∧ ∃ x a r, st = .long x :: .ref a :: r ∧ L.1 a = (40 + c, 0) ∧ zx_wr L a ∧ q = .inl (pc + 3, ls, r, L, I, zx_u J a k x)) ∨
     (t = 3 ∧ ∃ b a r, st = .ref b :: .ref a :: r ∧ L.1 a = (40 + c, 0) ∧ zx_wr L a ∧ zx_wr L b ∧ q = .inl (pc + 3, ls, r, (L.1, zx_u L.2.1 a k (some b), L.2.2), I, J)) ∨
     (t = 1 ∧ ∃ x a r, st = .int x :: .ref a :: r ∧ L.1 a = (40 + c, 0) ∧ zx_wr L a ∧ (x = 0 ∨ x = 1) ∧ q = .inl (pc + 3, ls, r, L, zx_u I a k x, J)) ∨
     (t = 0 ∧ ∃ x a r, st = .int x :: .ref a :: r ∧ L.1 a = (40 + c, 0) ∧ zx_wr L a ∧ q = .inl (pc + 3, ls, r, L, zx_u I a k x, J))) := by
  unfold zx_pf at h
  split at h
  · rename_i c k t
    split at h
    · rename_i ty fin hf
      split at h
      · rename_i hn
        refine ⟨c, k, t, ty, fin, rfl, hf, fun hfin => ?_, ?_⟩
        · subst hfin
          simp at hn
          exact ⟨hn.1, hn.2⟩
        · split at h
          · split at h
            · obtain ⟨⟨h1, h2⟩, h3⟩ := zx_if_inv h
              cases h3
              exact Or.inl ⟨rfl, _, _, _, rfl, h1, h2, rfl⟩
            · cases h
          · split at h
            · obtain ⟨⟨h1, h2, h4⟩, h3⟩ := zx_if_inv h
              cases h3
              exact Or.inr (Or.inl ⟨rfl, _, _, _, rfl, h1, h2, h4, rfl⟩)
            · cases h
          · split at h
            · obtain ⟨⟨h1, h2, h4⟩, h3⟩ := zx_if_inv h
              cases h3
              exact Or.inr (Or.inr (Or.inl ⟨rfl, _, _, _, rfl, h1, h2, h4, rfl⟩))
            · cases h
          · split at h
            · obtain ⟨⟨h1, h2⟩, h3⟩ := zx_if_inv h
              cases h3
              exact Or.inr (Or.inr (Or.inr ⟨rfl, _, _, _, rfl, h1, h2, rfl⟩))
            · cases h
          · cases h
      · cases h
    · cases h
  · cases h
theorem zx_gf_inv {pc : Nat} {ls st : List Value} {L : zx_Lay} {I : zx_MI} {J : zx_MJ} {f : Option (Nat × Nat × Nat)} {q : zx_A} (h : zx_gf pc ls L I J f st = some q) : ∃ c k t a r, f = some (c, k, t) ∧ st = .ref a :: r ∧ L.1 a = (40 + c, 0) ∧ q = .inl (pc + 3, ls, (match t with
      | 2 => .long (J a k)
      | 3 => zx_rv (L.2.1 a k)
      | _ => .int (I a k)) :: r, L, I, J) := by
  unfold zx_gf at h
  split at h
  · split at h
    · obtain ⟨h1, h3⟩ := zx_if_inv h
      cases h3
      exact ⟨_, _, _, _, _, rfl, rfl, h1, rfl⟩
    · cases h
  · cases h
section STEPF
variable {p : Program} {l : Launch} {e : Env} {R : Room} {s : State} {m : MethodId} {args : Array Value} {below : List Frame} {meth : Method} {c : Code} {Q : State → Prop} {D : va_G} {G : Nat → ClassId} {ad : Nat → Nat} {vS : Value} {base Lh mx n0 s0 o : Nat} {xs : Nat → Int32} {b : ByteArray} {rt : Option FieldType} {ini : Bool} {pc pc2 : Nat} {ls ls2 st st2 : List Value} {L L2 : zx_Lay} {I I2 : zx_MI} {J J2 : zx_MJ} {i : Instr}
theorem zs_getfield  (hO : zx_OK Lh xs L I J) {x : Nat} (C : zx_Cx p s m args meth c D G ad vS base Lh xs o mx b rt ini) (hd : decode b pc = .ok (.getfield x, 3)) (ha : zx_act o rt ini pc (.getfield x) ls st L I J = some (.inl (pc2, ls2, st2, L2, I2, J2))) (kk : zx_AT p l e R s m args below meth c Q D G ad vS base mx n0 s0 pc2 ls2 st2 L2 I2 J2) : zx_AT p l e R s m args below meth c Q D G ad vS base mx n0 s0 pc ls st L I J := by
  obtain ⟨hx, hb, hml, hown, hts, hlocks, hret, hini, hK, hSP, hbase, ho⟩ := C
  have hS5 := hSP.2.2.2.2.2.2.2.2.2.2.2.1
  obtain ⟨k, f, t, a, r, hf, rfl, h1, h2⟩ := zx_gf_inv (show zx_gf pc ls L I J (zx_find (zx_flds o) x) st = _ from ha)
  cases h2
  intro H locs lsM hW hS hL
  have k1 := kk H locs lsM hW hS hL
  rcases zx_fl_of ho hf with ⟨rfl, hz⟩ | ⟨c1, c2, c3, c4, c5⟩
  · rcases zx_obj hO h1 with ⟨-, -, z⟩ | ⟨z, -⟩ | ⟨-, i, hi, rfl⟩
    · omega
    · omega
    · obtain ⟨-, hco, hva, -⟩ := hSP.2.2.2.2.2.2.2.1.1 i hi
      rw [List.map_cons, zx_eref (by omega : 5010 + i ≠ 5030)]
      rcases hz with ⟨rfl, rfl, hw⟩ | ⟨rfl, rfl, hw⟩
      · have hv : L.2.1 (5010 + i) 0 = some (5020 + i) := by
          rw [((hO.2.2.2.2 (5010 + i) (by omega)).2 0).1]
          unfold zx_sR
          rw [if_pos (by omega), show 5010 + i + 10 = 5020 + i by omega]
        have k1 : W p l e R s m args below meth c H locs (L.2.2.1 - n0) (L.2.2.2 - s0) Q (F0 m (pc + 3) lsM (zx_e ad vS (zx_rv (L.2.1 (5010 + i) 0)) :: List.map (zx_e ad vS) r)) := k1
        rw [hv, show zx_e ad vS (zx_rv (some (5020 + i))) = .ref (ad (5020 + i)) from zx_eref (by omega)] at k1
        exact vk_getf hx hb hva hS hown (hts _ hw) (fun _ h => h) hd k1
      · have hv : I (5010 + i) 1 = 0 := by
          rw [((hO.2.2.2.2 (5010 + i) (by omega)).2 1).2]
          unfold zx_sI
          rw [if_neg (by omega), if_neg (by omega), if_neg (by omega), if_neg (by omega)]
        have k1 : W p l e R s m args below meth c H locs (L.2.2.1 - n0) (L.2.2.2 - s0) Q (F0 m (pc + 3) lsM (.int (I (5010 + i) 1) :: List.map (zx_e ad vS) r)) := k1
        rw [hv] at k1
        exact vk_getf hx hb hco hS hown (hts _ hw) (fun _ h => h) hd k1
  · rcases zx_obj hO h1 with ⟨q, -, -⟩ | ⟨z, -⟩ | ⟨z, -⟩
    · have he := zx_ws_get (G := G) (ad := ad) (L := L) (I := I) (J := J) q
      rw [zx_cell_o c1 h1] at he
      rw [List.map_cons, zx_adw hO.1 q]
      obtain ⟨t1, t2, t3⟩ := zx_chkT k c2 f c3
      refine va_get hx hb hts (zx_wsin c1 c2) hown hK hW.1 a he (zx_clsg c1 c2) f c3 (hts _ c5) (fun z h => by rw [t3] at h; exact h) (v := zx_fv ad (L.2.1 a) (I a) (J a) f t) (by rw [List.getElem?_map, List.getElem?_range c3]; simp [c4]) hd ?_
      rw [← zx_gve (vS := vS) (L := L) (I := I) (J := J) (a := a) (k := f) (t := t) (fun b hb => by have := hO.2.2.1 a _ b q hb; have := hO.1; omega)]
      exact k1
    · omega
    · omega

theorem zs_putfield  (hO : zx_OK Lh xs L I J) {x : Nat} (C : zx_Cx p s m args meth c D G ad vS base Lh xs o mx b rt ini) (hd : decode b pc = .ok (.putfield x, 3)) (ha : zx_act o rt ini pc (.putfield x) ls st L I J = some (.inl (pc2, ls2, st2, L2, I2, J2))) (kk : zx_AT p l e R s m args below meth c Q D G ad vS base mx n0 s0 pc2 ls2 st2 L2 I2 J2) : zx_AT p l e R s m args below meth c Q D G ad vS base mx n0 s0 pc ls st L I J := by
  obtain ⟨hx, hb, hml, hown, hts, hlocks, hret, hini, hK, hSP, hbase, ho⟩ := C
  have hS5 := hSP.2.2.2.2.2.2.2.2.2.2.2.1
  obtain ⟨k, f, t, ty, fin, hf, hft, hfin, hcase⟩ := zx_pf_inv (show zx_pf o ini pc ls L I J (zx_find (zx_flds o) x) st = _ from ha)
  intro H locs lsM hW hS hL
  rcases zx_fl_of ho hf with ⟨rfl, hz⟩ | ⟨c1, c2, c3, c4, c5⟩
  · cases hft
  · rcases hcase with ⟨rfl, v, a, r, rfl, h1, hw, hq⟩ | ⟨rfl, v, a, r, rfl, h1, hw, hwb, hq⟩ | ⟨rfl, v, a, r, rfl, h1, hw, h01, hq⟩ | ⟨rfl, v, a, r, rfl, h1, hw, hq⟩
    · cases hq
      have he := zx_ws_get (G := G) (ad := ad) (L := L) (I := I) (J := J) hw
      rw [zx_cell_o c1 h1] at he
      obtain ⟨t1, t2, t3⟩ := zx_chkT k c2 f c3
      have hlen : f < ((List.range (zx_nf k)).map (fun i => zx_fv ad (L.2.1 a) (I a) (J a) i (zx_tyc (zx_ty k i)))).length := by simp [c3]
      have hty := zx_ty_l c4
      
      have hz := zx_ws_set (G := G) (ad := ad) (L := L) (L2 := L) (I := I) (I2 := I) (J := J) (J2 := zx_u J a f v) (a := a) rfl (fun j hj => by unfold zx_cell; rw [zx_u_off _ _ _ _ hj]) (c := .inr (k - 1, ((List.range (zx_nf k)).map (fun i => zx_fv ad (L.2.1 a) (I a) (J a) i (zx_tyc (zx_ty k i)))).set f (.long v))) (by
        rw [zx_cell_o c1 (by exact h1)]
        congr 2
        refine zx_fset c3 ?_ (fun j hj => ?_)
        · rw [c4]
          simp [zx_fv, zx_u]
        · simp [zx_u, hj])
      have key : ∀ (H1 : Heap) (locs1 : List Loc), va_P D zx_cls ((zx_ws G ad L I J).set a (ad a, .inr (k - 1, ((List.range (zx_nf k)).map (fun i => zx_fv ad (L.2.1 a) (I a) (J a) i (zx_tyc (zx_ty k i)))).set f (.long v)))) H1 → va_D (fun q => base ≤ q) ((zx_ws G ad L I J).set a (ad a, .inr (k - 1, ((List.range (zx_nf k)).map (fun i => zx_fv ad (L.2.1 a) (I a) (J a) i (zx_tyc (zx_ty k i)))).set f (.long v)))) → va_S (fun q => base ≤ q) s.heap H1 locs1 → W p l e R s m args below meth c H1 locs1 (L.2.2.1 - n0) (L.2.2.2 - s0) Q (F0 m (pc + 3) lsM (st2.map (zx_e ad vS))) := fun H1 locs1 hP1 hD1 hS1 => by
        rw [hz] at hP1 hD1
        exact kk H1 locs1 lsM ⟨hP1, hD1⟩ hS1 hL
      rw [hft] at t2
      have t2 := Option.some.inj t2
      rw [List.map_cons, List.map_cons, zx_adw hO.1 hw]
      show W _ _ _ _ _ _ _ _ _ _ _ _ _ _ _ (F0 m pc lsM (.long v :: .ref (ad a) :: st2.map (zx_e ad vS)))
      cases hfn : fin with
      | false => exact va_put hx hb hts (zx_wsin c1 c2) (zx_ty k) (fun j hj => (zx_chkT k c2 j hj).1) (zx_chkN k c2) hown hK hW.1 hW.2 hS a he (zx_clsg c1 c2) f c3 (hts _ c5) (fun z h => by rw [t3] at h; exact h) (by rw [← hfn]; exact (Prod.mk.inj t2).2.symm) t1 (by rw [hty]; rfl) (by rw [hty]; rfl) hlen hd key
      | true =>
        obtain ⟨f1, f2⟩ := hfin hfn
        exact va_putF hx hb hts (zx_wsin c1 c2) (zx_ty k) (fun j hj => (zx_chkT k c2 j hj).1) (zx_chkN k c2) hown hK hW.1 hW.2 hS a he (zx_clsg c1 c2) f c3 (hts _ c5) (fun z h => by rw [t3] at h; exact h) (by rw [← hfn]; exact (Prod.mk.inj t2).2.symm) (hini f1) (by rw [t3, f2]) t1 (by rw [hty]; rfl) (by rw [hty]; rfl) hlen hd key
    · cases hq
      have he := zx_ws_get (G := G) (ad := ad) (L := L) (I := I) (J := J) hw
      rw [zx_cell_o c1 h1] at he
      obtain ⟨t1, t2, t3⟩ := zx_chkT k c2 f c3
      have hlen : f < ((List.range (zx_nf k)).map (fun i => zx_fv ad (L.2.1 a) (I a) (J a) i (zx_tyc (zx_ty k i)))).length := by simp [c3]
      have hty := zx_ty_r c4
      
      have hz := zx_ws_set (G := G) (ad := ad) (L := L) (L2 := (L.1, zx_u L.2.1 a f (some v), L.2.2)) (I := I) (I2 := I) (J := J) (J2 := J) (a := a) rfl (fun j hj => by unfold zx_cell; dsimp only; rw [zx_u_off _ _ _ _ hj]) (c := .inr (k - 1, ((List.range (zx_nf k)).map (fun i => zx_fv ad (L.2.1 a) (I a) (J a) i (zx_tyc (zx_ty k i)))).set f (.ref (ad v)))) (by
        rw [zx_cell_o c1 (by exact h1)]
        congr 2
        refine zx_fset c3 ?_ (fun j hj => ?_)
        · rw [c4]
          simp [zx_fv, zx_u, va_rf]
        · simp [zx_u, hj])
      have key : ∀ (H1 : Heap) (locs1 : List Loc), va_P D zx_cls ((zx_ws G ad L I J).set a (ad a, .inr (k - 1, ((List.range (zx_nf k)).map (fun i => zx_fv ad (L.2.1 a) (I a) (J a) i (zx_tyc (zx_ty k i)))).set f (.ref (ad v))))) H1 → va_D (fun q => base ≤ q) ((zx_ws G ad L I J).set a (ad a, .inr (k - 1, ((List.range (zx_nf k)).map (fun i => zx_fv ad (L.2.1 a) (I a) (J a) i (zx_tyc (zx_ty k i)))).set f (.ref (ad v))))) → va_S (fun q => base ≤ q) s.heap H1 locs1 → W p l e R s m args below meth c H1 locs1 (L.2.2.1 - n0) (L.2.2.2 - s0) Q (F0 m (pc + 3) lsM (st2.map (zx_e ad vS))) := fun H1 locs1 hP1 hD1 hS1 => by
        rw [hz] at hP1 hD1
        exact kk H1 locs1 lsM ⟨hP1, hD1⟩ hS1 hL
      rw [hft] at t2
      have t2 := Option.some.inj t2
      rw [List.map_cons, List.map_cons, zx_adw hO.1 hw, zx_adw hO.1 hwb]
      cases hfn : fin with
      | false => exact va_put hx hb hts (zx_wsin c1 c2) (zx_ty k) (fun j hj => (zx_chkT k c2 j hj).1) (zx_chkN k c2) hown hK hW.1 hW.2 hS a he (zx_clsg c1 c2) f c3 (hts _ c5) (fun z h => by rw [t3] at h; exact h) (by rw [← hfn]; exact (Prod.mk.inj t2).2.symm) t1 (by rcases hty with ⟨_, hty⟩ | ⟨_, hty⟩ <;> rw [hty] <;> rfl) (by rcases hty with ⟨_, hty⟩ | ⟨_, hty⟩ <;> rw [hty] <;> rfl) hlen hd key
      | true =>
        obtain ⟨f1, f2⟩ := hfin hfn
        exact va_putF hx hb hts (zx_wsin c1 c2) (zx_ty k) (fun j hj => (zx_chkT k c2 j hj).1) (zx_chkN k c2) hown hK hW.1 hW.2 hS a he (zx_clsg c1 c2) f c3 (hts _ c5) (fun z h => by rw [t3] at h; exact h) (by rw [← hfn]; exact (Prod.mk.inj t2).2.symm) (hini f1) (by rw [t3, f2]) t1 (by rcases hty with ⟨_, hty⟩ | ⟨_, hty⟩ <;> rw [hty] <;> rfl) (by rcases hty with ⟨_, hty⟩ | ⟨_, hty⟩ <;> rw [hty] <;> rfl) hlen hd key
    · cases hq
      have he := zx_ws_get (G := G) (ad := ad) (L := L) (I := I) (J := J) hw
      rw [zx_cell_o c1 h1] at he
      obtain ⟨t1, t2, t3⟩ := zx_chkT k c2 f c3
      have hlen : f < ((List.range (zx_nf k)).map (fun i => zx_fv ad (L.2.1 a) (I a) (J a) i (zx_tyc (zx_ty k i)))).length := by simp [c3]
      have hty := zx_ty_z c4
      
      have hz := zx_ws_set (G := G) (ad := ad) (L := L) (L2 := L) (I := I) (I2 := zx_u I a f v) (J := J) (J2 := J) (a := a) rfl (fun j hj => by unfold zx_cell; rw [zx_u_off _ _ _ _ hj]) (c := .inr (k - 1, ((List.range (zx_nf k)).map (fun i => zx_fv ad (L.2.1 a) (I a) (J a) i (zx_tyc (zx_ty k i)))).set f (.int v))) (by
        rw [zx_cell_o c1 (by exact h1)]
        congr 2
        refine zx_fset c3 ?_ (fun j hj => ?_)
        · rw [c4]
          simp [zx_fv, zx_u]
        · simp [zx_u, hj])
      have key : ∀ (H1 : Heap) (locs1 : List Loc), va_P D zx_cls ((zx_ws G ad L I J).set a (ad a, .inr (k - 1, ((List.range (zx_nf k)).map (fun i => zx_fv ad (L.2.1 a) (I a) (J a) i (zx_tyc (zx_ty k i)))).set f (.int v)))) H1 → va_D (fun q => base ≤ q) ((zx_ws G ad L I J).set a (ad a, .inr (k - 1, ((List.range (zx_nf k)).map (fun i => zx_fv ad (L.2.1 a) (I a) (J a) i (zx_tyc (zx_ty k i)))).set f (.int v)))) → va_S (fun q => base ≤ q) s.heap H1 locs1 → W p l e R s m args below meth c H1 locs1 (L.2.2.1 - n0) (L.2.2.2 - s0) Q (F0 m (pc + 3) lsM (st2.map (zx_e ad vS))) := fun H1 locs1 hP1 hD1 hS1 => by
        rw [hz] at hP1 hD1
        exact kk H1 locs1 lsM ⟨hP1, hD1⟩ hS1 hL
      rw [hft] at t2
      have t2 := Option.some.inj t2
      rw [List.map_cons, List.map_cons, zx_adw hO.1 hw]
      show W _ _ _ _ _ _ _ _ _ _ _ _ _ _ _ (F0 m pc lsM (.int v :: .ref (ad a) :: st2.map (zx_e ad vS)))
      cases hfn : fin with
      | false => exact va_put hx hb hts (zx_wsin c1 c2) (zx_ty k) (fun j hj => (zx_chkT k c2 j hj).1) (zx_chkN k c2) hown hK hW.1 hW.2 hS a he (zx_clsg c1 c2) f c3 (hts _ c5) (fun z h => by rw [t3] at h; exact h) (by rw [← hfn]; exact (Prod.mk.inj t2).2.symm) t1 (by rw [hty]; rcases h01 with rfl | rfl <;> rfl) (by rw [hty]; rcases h01 with rfl | rfl <;> rfl) hlen hd key
      | true =>
        obtain ⟨f1, f2⟩ := hfin hfn
        exact va_putF hx hb hts (zx_wsin c1 c2) (zx_ty k) (fun j hj => (zx_chkT k c2 j hj).1) (zx_chkN k c2) hown hK hW.1 hW.2 hS a he (zx_clsg c1 c2) f c3 (hts _ c5) (fun z h => by rw [t3] at h; exact h) (by rw [← hfn]; exact (Prod.mk.inj t2).2.symm) (hini f1) (by rw [t3, f2]) t1 (by rw [hty]; rcases h01 with rfl | rfl <;> rfl) (by rw [hty]; rcases h01 with rfl | rfl <;> rfl) hlen hd key
    · cases hq
      have he := zx_ws_get (G := G) (ad := ad) (L := L) (I := I) (J := J) hw
      rw [zx_cell_o c1 h1] at he
      obtain ⟨t1, t2, t3⟩ := zx_chkT k c2 f c3
      have hlen : f < ((List.range (zx_nf k)).map (fun i => zx_fv ad (L.2.1 a) (I a) (J a) i (zx_tyc (zx_ty k i)))).length := by simp [c3]
      have hty := zx_ty_i c4
      
      have hz := zx_ws_set (G := G) (ad := ad) (L := L) (L2 := L) (I := I) (I2 := zx_u I a f v) (J := J) (J2 := J) (a := a) rfl (fun j hj => by unfold zx_cell; rw [zx_u_off _ _ _ _ hj]) (c := .inr (k - 1, ((List.range (zx_nf k)).map (fun i => zx_fv ad (L.2.1 a) (I a) (J a) i (zx_tyc (zx_ty k i)))).set f (.int v))) (by
        rw [zx_cell_o c1 (by exact h1)]
        congr 2
        refine zx_fset c3 ?_ (fun j hj => ?_)
        · rw [c4]
          simp [zx_fv, zx_u]
        · simp [zx_u, hj])
      have key : ∀ (H1 : Heap) (locs1 : List Loc), va_P D zx_cls ((zx_ws G ad L I J).set a (ad a, .inr (k - 1, ((List.range (zx_nf k)).map (fun i => zx_fv ad (L.2.1 a) (I a) (J a) i (zx_tyc (zx_ty k i)))).set f (.int v)))) H1 → va_D (fun q => base ≤ q) ((zx_ws G ad L I J).set a (ad a, .inr (k - 1, ((List.range (zx_nf k)).map (fun i => zx_fv ad (L.2.1 a) (I a) (J a) i (zx_tyc (zx_ty k i)))).set f (.int v)))) → va_S (fun q => base ≤ q) s.heap H1 locs1 → W p l e R s m args below meth c H1 locs1 (L.2.2.1 - n0) (L.2.2.2 - s0) Q (F0 m (pc + 3) lsM (st2.map (zx_e ad vS))) := fun H1 locs1 hP1 hD1 hS1 => by
        rw [hz] at hP1 hD1
        exact kk H1 locs1 lsM ⟨hP1, hD1⟩ hS1 hL
      rw [hft] at t2
      have t2 := Option.some.inj t2
      rw [List.map_cons, List.map_cons, zx_adw hO.1 hw]
      show W _ _ _ _ _ _ _ _ _ _ _ _ _ _ _ (F0 m pc lsM (.int v :: .ref (ad a) :: st2.map (zx_e ad vS)))
      cases hfn : fin with
      | false => exact va_put hx hb hts (zx_wsin c1 c2) (zx_ty k) (fun j hj => (zx_chkT k c2 j hj).1) (zx_chkN k c2) hown hK hW.1 hW.2 hS a he (zx_clsg c1 c2) f c3 (hts _ c5) (fun z h => by rw [t3] at h; exact h) (by rw [← hfn]; exact (Prod.mk.inj t2).2.symm) t1 (by rw [hty]; rfl) (by rw [hty]; rfl) hlen hd key
      | true =>
        obtain ⟨f1, f2⟩ := hfin hfn
        exact va_putF hx hb hts (zx_wsin c1 c2) (zx_ty k) (fun j hj => (zx_chkT k c2 j hj).1) (zx_chkN k c2) hown hK hW.1 hW.2 hS a he (zx_clsg c1 c2) f c3 (hts _ c5) (fun z h => by rw [t3] at h; exact h) (by rw [← hfn]; exact (Prod.mk.inj t2).2.symm) (hini f1) (by rw [t3, f2]) t1 (by rw [hty]; rfl) (by rw [hty]; rfl) hlen hd key

theorem zs_getstatic {x : Nat} (C : zx_Cx p s m args meth c D G ad vS base Lh xs o mx b rt ini) (hd : decode b pc = .ok (.getstatic x, 3)) (ha : zx_act o rt ini pc (.getstatic x) ls st L I J = some (.inl (pc2, ls2, st2, L2, I2, J2))) (kk : zx_AT p l e R s m args below meth c Q D G ad vS base mx n0 s0 pc2 ls2 st2 L2 I2 J2) : zx_AT p l e R s m args below meth c Q D G ad vS base mx n0 s0 pc ls st L I J := by
  obtain ⟨hx, hb, hml, hown, hts, hlocks, hret, hini, hK, hSP, hbase, ho⟩ := C
  have hS5 := hSP.2.2.2.2.2.2.2.2.2.2.2.1
  unfold zx_act at ha
  dsimp only at ha
  split at ha
  · rename_i v hf
    cases ha
    intro H locs lsM hW hS hL
    have k1 := kk H locs lsM hW hS hL
    have hm := zx_find_in _ hf
    have hoo : o = 6 ∨ o = 16 := by
      unfold zx_gsts at hm
      split at hm
      · exact Or.inl rfl
      · exact Or.inr rfl
      · cases hm
    rcases hoo with rfl | rfl
    · have hm : (x, v) ∈ [(109, Value.ref 5001), (112, Value.ref 5002)] := hm
      simp only [List.mem_cons, Prod.mk.injEq, List.not_mem_nil, or_false] at hm
      rcases hm with ⟨rfl, rfl⟩ | ⟨rfl, rfl⟩
      · exact va_getsN hx hb hSP.2.2.2.1 hS hown (va_Nw.use rfl (hSP.2.2.2.2.2.2.2.2.2.2.2.2.2 (.fieldLinkNest "TurnedStatues$Square" 109 "TurnedStatues" "ALONG_X" "[I" "TurnedStatues") (by simp [zx_nest]))) (fun _ h => h) hd k1
      · exact va_getsN hx hb hSP.2.2.2.2.2.1 hS hown (va_Nw.use rfl (hSP.2.2.2.2.2.2.2.2.2.2.2.2.2 (.fieldLinkNest "TurnedStatues$Square" 112 "TurnedStatues" "ALONG_Y" "[I" "TurnedStatues") (by simp [zx_nest]))) (fun _ h => h) hd k1
    · have hg := zx_all2_in _ _ _ zx_chkG _ hm
      have hm : (x, v) ∈ [(38, Value.int 1), (1053, Value.ref 5030)] := hm
      simp only [List.mem_cons, Prod.mk.injEq, List.not_mem_nil, or_false] at hm
      rcases hm with ⟨rfl, rfl⟩ | ⟨rfl, rfl⟩
      · exact va_gets hx hb hSP.2.2.2.2.2.2.2.2.2.1 hS hown (hts _ (hg _ List.mem_cons_self)) (fun _ h => h) hd k1
      · exact va_gets hx hb hSP.2.2.2.2.2.2.2.2.2.2.1 hS hown (hts _ (hg _ List.mem_cons_self)) (fun _ h => h) hd k1
  · cases ha

end STEPF
