/-! a step of each kind (by program) -/
section STEP
variable {p : Program} {l : Launch} {e : Env} {R : Room} {s : State} {m : MethodId} {args : Array Value} {below : List Frame} {meth : Method} {c : Code} {Q : State → Prop} {D : va_G} {G : Nat → ClassId} {ad : Nat → Nat} {vS : Value} {base Lh mx n0 s0 o : Nat} {xs : Nat → Int32} {b : ByteArray} {rt : Option FieldType} {ini : Bool} {pc pc2 : Nat} {ls ls2 st st2 : List Value} {L L2 : zx_Lay} {I I2 : zx_MI} {J J2 : zx_MJ} {i : Instr}
theorem zs_iconst {n : Int} (C : zx_Cx p s m args meth c D G ad vS base Lh xs o mx b rt ini) (hd : decode b pc = .ok (.iconst n, 1)) (ha : zx_act o rt ini pc (.iconst n) ls st L I J = some (.inl (pc2, ls2, st2, L2, I2, J2))) (kk : zx_AT p l e R s m args below meth c Q D G ad vS base mx n0 s0 pc2 ls2 st2 L2 I2 J2) : zx_AT p l e R s m args below meth c Q D G ad vS base mx n0 s0 pc ls st L I J := by
  obtain ⟨hx, hb, hml, hown, hts, hlocks, hret, hini, hK, hSP, hbase, ho⟩ := C
  have hS5 := hSP.2.2.2.2.2.2.2.2.2.2.2.1
  cases ha
  intro H locs lsM hW hS hL
  exact lv_iconst hx hb hd rfl (kk H locs lsM hW hS hL)

theorem zs_bipush {n : Int} (C : zx_Cx p s m args meth c D G ad vS base Lh xs o mx b rt ini) (hd : decode b pc = .ok (.bipush n, 2)) (ha : zx_act o rt ini pc (.bipush n) ls st L I J = some (.inl (pc2, ls2, st2, L2, I2, J2))) (kk : zx_AT p l e R s m args below meth c Q D G ad vS base mx n0 s0 pc2 ls2 st2 L2 I2 J2) : zx_AT p l e R s m args below meth c Q D G ad vS base mx n0 s0 pc ls st L I J := by
  obtain ⟨hx, hb, hml, hown, hts, hlocks, hret, hini, hK, hSP, hbase, ho⟩ := C
  have hS5 := hSP.2.2.2.2.2.2.2.2.2.2.2.1
  cases ha
  intro H locs lsM hW hS hL
  exact lv_bipush hx hb hd rfl (kk H locs lsM hW hS hL)

theorem zs_sipush {n : Int} (C : zx_Cx p s m args meth c D G ad vS base Lh xs o mx b rt ini) (hd : decode b pc = .ok (.sipush n, 3)) (ha : zx_act o rt ini pc (.sipush n) ls st L I J = some (.inl (pc2, ls2, st2, L2, I2, J2))) (kk : zx_AT p l e R s m args below meth c Q D G ad vS base mx n0 s0 pc2 ls2 st2 L2 I2 J2) : zx_AT p l e R s m args below meth c Q D G ad vS base mx n0 s0 pc ls st L I J := by
  obtain ⟨hx, hb, hml, hown, hts, hlocks, hret, hini, hK, hSP, hbase, ho⟩ := C
  have hS5 := hSP.2.2.2.2.2.2.2.2.2.2.2.1
  cases ha
  intro H locs lsM hW hS hL
  exact lv_sipush hx hb hd rfl (kk H locs lsM hW hS hL)

theorem zs_lconst {n : Fin 2} (C : zx_Cx p s m args meth c D G ad vS base Lh xs o mx b rt ini) (hd : decode b pc = .ok (.lconst n, 1)) (ha : zx_act o rt ini pc (.lconst n) ls st L I J = some (.inl (pc2, ls2, st2, L2, I2, J2))) (kk : zx_AT p l e R s m args below meth c Q D G ad vS base mx n0 s0 pc2 ls2 st2 L2 I2 J2) : zx_AT p l e R s m args below meth c Q D G ad vS base mx n0 s0 pc ls st L I J := by
  obtain ⟨hx, hb, hml, hown, hts, hlocks, hret, hini, hK, hSP, hbase, ho⟩ := C
  have hS5 := hSP.2.2.2.2.2.2.2.2.2.2.2.1
  cases ha
  intro H locs lsM hW hS hL
  exact lv_lconst hx hb hd rfl (kk H locs lsM hW hS hL)

theorem zs_null  (C : zx_Cx p s m args meth c D G ad vS base Lh xs o mx b rt ini) (hd : decode b pc = .ok (.aconst_null, 1)) (ha : zx_act o rt ini pc (.aconst_null) ls st L I J = some (.inl (pc2, ls2, st2, L2, I2, J2))) (kk : zx_AT p l e R s m args below meth c Q D G ad vS base mx n0 s0 pc2 ls2 st2 L2 I2 J2) : zx_AT p l e R s m args below meth c Q D G ad vS base mx n0 s0 pc ls st L I J := by
  obtain ⟨hx, hb, hml, hown, hts, hlocks, hret, hini, hK, hSP, hbase, ho⟩ := C
  have hS5 := hSP.2.2.2.2.2.2.2.2.2.2.2.1
  cases ha
  intro H locs lsM hW hS hL
  exact lv_null hx hb hd  (kk H locs lsM hW hS hL)

theorem zs_iload {k : Nat} (C : zx_Cx p s m args meth c D G ad vS base Lh xs o mx b rt ini) (hd : decode b pc = .ok (.iload k, 2)) (ha : zx_act o rt ini pc (.iload k) ls st L I J = some (.inl (pc2, ls2, st2, L2, I2, J2))) (kk : zx_AT p l e R s m args below meth c Q D G ad vS base mx n0 s0 pc2 ls2 st2 L2 I2 J2) : zx_AT p l e R s m args below meth c Q D G ad vS base mx n0 s0 pc ls st L I J := by
  obtain ⟨hx, hb, hml, hown, hts, hlocks, hret, hini, hK, hSP, hbase, ho⟩ := C
  have hS5 := hSP.2.2.2.2.2.2.2.2.2.2.2.1
  obtain ⟨w, h1, h2⟩ := zx_p_inv ha
  obtain ⟨x, h3, rfl⟩ := zx_ldi_inv h1
  cases h2
  intro H locs lsM hW hS hL
  exact lv_iload hx hb hd (hL.2.2.2 _ _ h3 rfl) (kk H locs lsM hW hS hL)

theorem zs_iloadn {k : Fin 4} (C : zx_Cx p s m args meth c D G ad vS base Lh xs o mx b rt ini) (hd : decode b pc = .ok (.iload_n k, 1)) (ha : zx_act o rt ini pc (.iload_n k) ls st L I J = some (.inl (pc2, ls2, st2, L2, I2, J2))) (kk : zx_AT p l e R s m args below meth c Q D G ad vS base mx n0 s0 pc2 ls2 st2 L2 I2 J2) : zx_AT p l e R s m args below meth c Q D G ad vS base mx n0 s0 pc ls st L I J := by
  obtain ⟨hx, hb, hml, hown, hts, hlocks, hret, hini, hK, hSP, hbase, ho⟩ := C
  have hS5 := hSP.2.2.2.2.2.2.2.2.2.2.2.1
  obtain ⟨w, h1, h2⟩ := zx_p_inv ha
  obtain ⟨x, h3, rfl⟩ := zx_ldi_inv h1
  cases h2
  intro H locs lsM hW hS hL
  exact lv_iload_n hx hb hd rfl (hL.2.2.2 _ _ h3 rfl) (kk H locs lsM hW hS hL)

theorem zs_lload {k : Nat} (C : zx_Cx p s m args meth c D G ad vS base Lh xs o mx b rt ini) (hd : decode b pc = .ok (.lload k, 2)) (ha : zx_act o rt ini pc (.lload k) ls st L I J = some (.inl (pc2, ls2, st2, L2, I2, J2))) (kk : zx_AT p l e R s m args below meth c Q D G ad vS base mx n0 s0 pc2 ls2 st2 L2 I2 J2) : zx_AT p l e R s m args below meth c Q D G ad vS base mx n0 s0 pc ls st L I J := by
  obtain ⟨hx, hb, hml, hown, hts, hlocks, hret, hini, hK, hSP, hbase, ho⟩ := C
  have hS5 := hSP.2.2.2.2.2.2.2.2.2.2.2.1
  obtain ⟨w, h1, h2⟩ := zx_p_inv ha
  obtain ⟨x, h3, rfl⟩ := zx_ldl_inv h1
  cases h2
  intro H locs lsM hW hS hL
  exact lv_lload hx hb hd (hL.2.2.2 _ _ h3 rfl) (kk H locs lsM hW hS hL)

theorem zs_lloadn {k : Fin 4} (C : zx_Cx p s m args meth c D G ad vS base Lh xs o mx b rt ini) (hd : decode b pc = .ok (.lload_n k, 1)) (ha : zx_act o rt ini pc (.lload_n k) ls st L I J = some (.inl (pc2, ls2, st2, L2, I2, J2))) (kk : zx_AT p l e R s m args below meth c Q D G ad vS base mx n0 s0 pc2 ls2 st2 L2 I2 J2) : zx_AT p l e R s m args below meth c Q D G ad vS base mx n0 s0 pc ls st L I J := by
  obtain ⟨hx, hb, hml, hown, hts, hlocks, hret, hini, hK, hSP, hbase, ho⟩ := C
  have hS5 := hSP.2.2.2.2.2.2.2.2.2.2.2.1
  obtain ⟨w, h1, h2⟩ := zx_p_inv ha
  obtain ⟨x, h3, rfl⟩ := zx_ldl_inv h1
  cases h2
  intro H locs lsM hW hS hL
  exact lv_lload_n hx hb hd rfl (hL.2.2.2 _ _ h3 rfl) (kk H locs lsM hW hS hL)

theorem zs_aload {k : Nat} (C : zx_Cx p s m args meth c D G ad vS base Lh xs o mx b rt ini) (hd : decode b pc = .ok (.aload k, 2)) (ha : zx_act o rt ini pc (.aload k) ls st L I J = some (.inl (pc2, ls2, st2, L2, I2, J2))) (kk : zx_AT p l e R s m args below meth c Q D G ad vS base mx n0 s0 pc2 ls2 st2 L2 I2 J2) : zx_AT p l e R s m args below meth c Q D G ad vS base mx n0 s0 pc ls st L I J := by
  obtain ⟨hx, hb, hml, hown, hts, hlocks, hret, hini, hK, hSP, hbase, ho⟩ := C
  have hS5 := hSP.2.2.2.2.2.2.2.2.2.2.2.1
  obtain ⟨w, h1, h2⟩ := zx_p_inv ha
  rcases zx_lda_inv h1 with ⟨a, h3, rfl⟩ | ⟨h3, rfl⟩
  · cases h2
    intro H locs lsM hW hS hL
    have k1 := kk H locs lsM hW hS hL
    have h4 := hL.2.2.2 _ _ h3 rfl
    have h5 : zx_e ad vS (.ref a) = .null ∨ ∃ t, zx_e ad vS (.ref a) = .ref t := by
      show (if a = 5030 then vS else .ref (ad a)) = .null ∨ ∃ t, (if a = 5030 then vS else .ref (ad a)) = .ref t
      by_cases ha : a = 5030
      · rw [if_pos ha]; exact hS5
      · rw [if_neg ha]; exact Or.inr ⟨_, rfl⟩
    rw [List.map_cons] at k1
    rcases h5 with h5 | ⟨t, h5⟩
    · rw [h5] at h4 k1
      exact lv_aloadN hx hb hd h4 k1
    · rw [h5] at h4 k1
      exact lv_aload hx hb hd h4 k1
  · cases h2
    intro H locs lsM hW hS hL
    exact lv_aloadN hx hb hd (hL.2.2.2 _ _ h3 rfl) (kk H locs lsM hW hS hL)

theorem zs_aloadn {k : Fin 4} (C : zx_Cx p s m args meth c D G ad vS base Lh xs o mx b rt ini) (hd : decode b pc = .ok (.aload_n k, 1)) (ha : zx_act o rt ini pc (.aload_n k) ls st L I J = some (.inl (pc2, ls2, st2, L2, I2, J2))) (kk : zx_AT p l e R s m args below meth c Q D G ad vS base mx n0 s0 pc2 ls2 st2 L2 I2 J2) : zx_AT p l e R s m args below meth c Q D G ad vS base mx n0 s0 pc ls st L I J := by
  obtain ⟨hx, hb, hml, hown, hts, hlocks, hret, hini, hK, hSP, hbase, ho⟩ := C
  have hS5 := hSP.2.2.2.2.2.2.2.2.2.2.2.1
  obtain ⟨w, h1, h2⟩ := zx_p_inv ha
  rcases zx_lda_inv h1 with ⟨a, h3, rfl⟩ | ⟨h3, rfl⟩
  · cases h2
    intro H locs lsM hW hS hL
    have k1 := kk H locs lsM hW hS hL
    have h4 := hL.2.2.2 _ _ h3 rfl
    have h5 : zx_e ad vS (.ref a) = .null ∨ ∃ t, zx_e ad vS (.ref a) = .ref t := by
      show (if a = 5030 then vS else .ref (ad a)) = .null ∨ ∃ t, (if a = 5030 then vS else .ref (ad a)) = .ref t
      by_cases ha : a = 5030
      · rw [if_pos ha]; exact hS5
      · rw [if_neg ha]; exact Or.inr ⟨_, rfl⟩
    rw [List.map_cons] at k1
    rcases h5 with h5 | ⟨t, h5⟩
    · rw [h5] at h4 k1
      exact lv_aload_nN hx hb hd rfl h4 k1
    · rw [h5] at h4 k1
      exact lv_aload_n hx hb hd rfl h4 k1
  · cases h2
    intro H locs lsM hW hS hL
    exact lv_aload_nN hx hb hd rfl (hL.2.2.2 _ _ h3 rfl) (kk H locs lsM hW hS hL)

theorem zs_istore {k : Nat} (C : zx_Cx p s m args meth c D G ad vS base Lh xs o mx b rt ini) (hd : decode b pc = .ok (.istore k, 2)) (ha : zx_act o rt ini pc (.istore k) ls st L I J = some (.inl (pc2, ls2, st2, L2, I2, J2))) (kk : zx_AT p l e R s m args below meth c Q D G ad vS base mx n0 s0 pc2 ls2 st2 L2 I2 J2) : zx_AT p l e R s m args below meth c Q D G ad vS base mx n0 s0 pc ls st L I J := by
  obtain ⟨hx, hb, hml, hown, hts, hlocks, hret, hini, hK, hSP, hbase, ho⟩ := C
  have hS5 := hSP.2.2.2.2.2.2.2.2.2.2.2.1
  unfold zx_act at ha
  dsimp only at ha
  split at ha
  · obtain ⟨w, h1, h2⟩ := zx_pl_inv ha
    obtain ⟨g1, g2, rfl⟩ := zx_st1_inv h1
    cases h2
    intro H locs lsM hW hS hL
    exact lv_istore hx hb hd hL.has (by rw [← hL.1]; exact g1) rfl (fun lsN hN => kk H locs lsN hW hS (hL.set1 hS5 g2 hN))
  · cases ha

theorem zs_istoren {k : Fin 4} (C : zx_Cx p s m args meth c D G ad vS base Lh xs o mx b rt ini) (hd : decode b pc = .ok (.istore_n k, 1)) (ha : zx_act o rt ini pc (.istore_n k) ls st L I J = some (.inl (pc2, ls2, st2, L2, I2, J2))) (kk : zx_AT p l e R s m args below meth c Q D G ad vS base mx n0 s0 pc2 ls2 st2 L2 I2 J2) : zx_AT p l e R s m args below meth c Q D G ad vS base mx n0 s0 pc ls st L I J := by
  obtain ⟨hx, hb, hml, hown, hts, hlocks, hret, hini, hK, hSP, hbase, ho⟩ := C
  have hS5 := hSP.2.2.2.2.2.2.2.2.2.2.2.1
  unfold zx_act at ha
  dsimp only at ha
  split at ha
  · obtain ⟨w, h1, h2⟩ := zx_pl_inv ha
    obtain ⟨g1, g2, rfl⟩ := zx_st1_inv h1
    cases h2
    intro H locs lsM hW hS hL
    exact lv_istore_n hx hb hd rfl hL.has (by rw [← hL.1]; exact g1) rfl (fun lsN hN => kk H locs lsN hW hS (hL.set1 hS5 g2 hN))
  · cases ha

theorem zs_lstore {k : Nat} (C : zx_Cx p s m args meth c D G ad vS base Lh xs o mx b rt ini) (hd : decode b pc = .ok (.lstore k, 2)) (ha : zx_act o rt ini pc (.lstore k) ls st L I J = some (.inl (pc2, ls2, st2, L2, I2, J2))) (kk : zx_AT p l e R s m args below meth c Q D G ad vS base mx n0 s0 pc2 ls2 st2 L2 I2 J2) : zx_AT p l e R s m args below meth c Q D G ad vS base mx n0 s0 pc ls st L I J := by
  obtain ⟨hx, hb, hml, hown, hts, hlocks, hret, hini, hK, hSP, hbase, ho⟩ := C
  have hS5 := hSP.2.2.2.2.2.2.2.2.2.2.2.1
  unfold zx_act at ha
  dsimp only at ha
  split at ha
  · obtain ⟨w, h1, h2⟩ := zx_pl_inv ha
    obtain ⟨g1, g2, rfl⟩ := zx_st2_inv h1
    cases h2
    intro H locs lsM hW hS hL
    exact lv_lstore hx hb hd hL.has (by rw [← hL.1]; exact g1) rfl (fun lsN hN => kk H locs lsN hW hS (hL.set2 hS5 g2 hN))
  · cases ha

theorem zs_lstoren {k : Fin 4} (C : zx_Cx p s m args meth c D G ad vS base Lh xs o mx b rt ini) (hd : decode b pc = .ok (.lstore_n k, 1)) (ha : zx_act o rt ini pc (.lstore_n k) ls st L I J = some (.inl (pc2, ls2, st2, L2, I2, J2))) (kk : zx_AT p l e R s m args below meth c Q D G ad vS base mx n0 s0 pc2 ls2 st2 L2 I2 J2) : zx_AT p l e R s m args below meth c Q D G ad vS base mx n0 s0 pc ls st L I J := by
  obtain ⟨hx, hb, hml, hown, hts, hlocks, hret, hini, hK, hSP, hbase, ho⟩ := C
  have hS5 := hSP.2.2.2.2.2.2.2.2.2.2.2.1
  unfold zx_act at ha
  dsimp only at ha
  split at ha
  · obtain ⟨w, h1, h2⟩ := zx_pl_inv ha
    obtain ⟨g1, g2, rfl⟩ := zx_st2_inv h1
    cases h2
    intro H locs lsM hW hS hL
    exact lv_lstore_n hx hb hd rfl hL.has (by rw [← hL.1]; exact g1) rfl (fun lsN hN => kk H locs lsN hW hS (hL.set2 hS5 g2 hN))
  · cases ha

theorem zs_astore {k : Nat} (C : zx_Cx p s m args meth c D G ad vS base Lh xs o mx b rt ini) (hd : decode b pc = .ok (.astore k, 2)) (ha : zx_act o rt ini pc (.astore k) ls st L I J = some (.inl (pc2, ls2, st2, L2, I2, J2))) (kk : zx_AT p l e R s m args below meth c Q D G ad vS base mx n0 s0 pc2 ls2 st2 L2 I2 J2) : zx_AT p l e R s m args below meth c Q D G ad vS base mx n0 s0 pc ls st L I J := by
  obtain ⟨hx, hb, hml, hown, hts, hlocks, hret, hini, hK, hSP, hbase, ho⟩ := C
  have hS5 := hSP.2.2.2.2.2.2.2.2.2.2.2.1
  unfold zx_act at ha
  dsimp only at ha
  split at ha
  · rename_i a r
    obtain ⟨w, h1, h2⟩ := zx_pl_inv ha
    obtain ⟨g1, g2, rfl⟩ := zx_st1_inv h1
    cases h2
    intro H locs lsM hW hS hL
    have h5 : zx_e ad vS (.ref a) = .null ∨ ∃ t, zx_e ad vS (.ref a) = .ref t := by
      show (if a = 5030 then vS else .ref (ad a)) = .null ∨ ∃ t, (if a = 5030 then vS else .ref (ad a)) = .ref t
      by_cases ha : a = 5030
      · rw [if_pos ha]; exact hS5
      · rw [if_neg ha]; exact Or.inr ⟨_, rfl⟩
    rw [List.map_cons]
    have k1 := fun lsN hN => kk H locs lsN hW hS (hL.set1 (lsN := lsN) (v := .ref a) hS5 g2 hN)
    rcases h5 with h5 | ⟨t, h5⟩
    · rw [h5] at k1 ⊢
      exact lv_astoreN hx hb hd hL.has (by rw [← hL.1]; exact g1) rfl k1
    · rw [h5] at k1 ⊢
      exact lv_astore hx hb hd hL.has (by rw [← hL.1]; exact g1) rfl k1
  · obtain ⟨w, h1, h2⟩ := zx_pl_inv ha
    obtain ⟨g1, g2, rfl⟩ := zx_st1_inv h1
    cases h2
    intro H locs lsM hW hS hL
    exact lv_astoreN hx hb hd hL.has (by rw [← hL.1]; exact g1) rfl (fun lsN hN => kk H locs lsN hW hS (hL.set1 (v := .null) hS5 g2 hN))
  · cases ha

theorem zs_astoren {k : Fin 4} (C : zx_Cx p s m args meth c D G ad vS base Lh xs o mx b rt ini) (hd : decode b pc = .ok (.astore_n k, 1)) (ha : zx_act o rt ini pc (.astore_n k) ls st L I J = some (.inl (pc2, ls2, st2, L2, I2, J2))) (kk : zx_AT p l e R s m args below meth c Q D G ad vS base mx n0 s0 pc2 ls2 st2 L2 I2 J2) : zx_AT p l e R s m args below meth c Q D G ad vS base mx n0 s0 pc ls st L I J := by
  obtain ⟨hx, hb, hml, hown, hts, hlocks, hret, hini, hK, hSP, hbase, ho⟩ := C
  have hS5 := hSP.2.2.2.2.2.2.2.2.2.2.2.1
  unfold zx_act at ha
  dsimp only at ha
  split at ha
  · rename_i a r
    obtain ⟨w, h1, h2⟩ := zx_pl_inv ha
    obtain ⟨g1, g2, rfl⟩ := zx_st1_inv h1
    cases h2
    intro H locs lsM hW hS hL
    have h5 : zx_e ad vS (.ref a) = .null ∨ ∃ t, zx_e ad vS (.ref a) = .ref t := by
      show (if a = 5030 then vS else .ref (ad a)) = .null ∨ ∃ t, (if a = 5030 then vS else .ref (ad a)) = .ref t
      by_cases ha : a = 5030
      · rw [if_pos ha]; exact hS5
      · rw [if_neg ha]; exact Or.inr ⟨_, rfl⟩
    rw [List.map_cons]
    have k1 := fun lsN hN => kk H locs lsN hW hS (hL.set1 (lsN := lsN) (v := .ref a) hS5 g2 hN)
    rcases h5 with h5 | ⟨t, h5⟩
    · rw [h5] at k1 ⊢
      exact lv_astore_nN hx hb hd rfl hL.has (by rw [← hL.1]; exact g1) rfl k1
    · rw [h5] at k1 ⊢
      exact lv_astore_n hx hb hd rfl hL.has (by rw [← hL.1]; exact g1) rfl k1
  · obtain ⟨w, h1, h2⟩ := zx_pl_inv ha
    obtain ⟨g1, g2, rfl⟩ := zx_st1_inv h1
    cases h2
    intro H locs lsM hW hS hL
    exact lv_astore_nN hx hb hd rfl hL.has (by rw [← hL.1]; exact g1) rfl (fun lsN hN => kk H locs lsN hW hS (hL.set1 (v := .null) hS5 g2 hN))
  · cases ha

theorem zs_iinc {k : Nat} {n : Int} (C : zx_Cx p s m args meth c D G ad vS base Lh xs o mx b rt ini) (hd : decode b pc = .ok (.iinc k n, 3)) (ha : zx_act o rt ini pc (.iinc k n) ls st L I J = some (.inl (pc2, ls2, st2, L2, I2, J2))) (kk : zx_AT p l e R s m args below meth c Q D G ad vS base mx n0 s0 pc2 ls2 st2 L2 I2 J2) : zx_AT p l e R s m args below meth c Q D G ad vS base mx n0 s0 pc ls st L I J := by
  obtain ⟨hx, hb, hml, hown, hts, hlocks, hret, hini, hK, hSP, hbase, ho⟩ := C
  have hS5 := hSP.2.2.2.2.2.2.2.2.2.2.2.1
  unfold zx_act at ha
  dsimp only at ha
  split at ha
  · rename_i x hk
    obtain ⟨w, h1, h2⟩ := zx_pl_inv ha
    obtain ⟨g1, g2, rfl⟩ := zx_st1_inv h1
    cases h2
    intro H locs lsM hW hS hL
    obtain ⟨q, hq⟩ := List.mem_iff_getElem?.mp (zx_pr_in (ad := ad) (vS := vS) hk rfl)
    exact lv_iinc hx hb hd hL.has hq rfl (by rw [← hL.1]; exact g1) rfl (fun lsN hN => kk H locs lsN hW hS (hL.set1 hS5 g2 hN))
  · cases ha

theorem zs_iadd  (C : zx_Cx p s m args meth c D G ad vS base Lh xs o mx b rt ini) (hd : decode b pc = .ok (.iadd, 1)) (ha : zx_act o rt ini pc (.iadd) ls st L I J = some (.inl (pc2, ls2, st2, L2, I2, J2))) (kk : zx_AT p l e R s m args below meth c Q D G ad vS base mx n0 s0 pc2 ls2 st2 L2 I2 J2) : zx_AT p l e R s m args below meth c Q D G ad vS base mx n0 s0 pc ls st L I J := by
  obtain ⟨hx, hb, hml, hown, hts, hlocks, hret, hini, hK, hSP, hbase, ho⟩ := C
  have hS5 := hSP.2.2.2.2.2.2.2.2.2.2.2.1
  obtain ⟨w, h1, h2⟩ := zx_p_inv ha
  obtain ⟨x, y, r, rfl, rfl⟩ := zx_i2_inv h1
  cases h2
  intro H locs lsM hW hS hL
  exact lv_iadd hx hb hd (kk H locs lsM hW hS hL)

theorem zs_isub  (C : zx_Cx p s m args meth c D G ad vS base Lh xs o mx b rt ini) (hd : decode b pc = .ok (.isub, 1)) (ha : zx_act o rt ini pc (.isub) ls st L I J = some (.inl (pc2, ls2, st2, L2, I2, J2))) (kk : zx_AT p l e R s m args below meth c Q D G ad vS base mx n0 s0 pc2 ls2 st2 L2 I2 J2) : zx_AT p l e R s m args below meth c Q D G ad vS base mx n0 s0 pc ls st L I J := by
  obtain ⟨hx, hb, hml, hown, hts, hlocks, hret, hini, hK, hSP, hbase, ho⟩ := C
  have hS5 := hSP.2.2.2.2.2.2.2.2.2.2.2.1
  obtain ⟨w, h1, h2⟩ := zx_p_inv ha
  obtain ⟨x, y, r, rfl, rfl⟩ := zx_i2_inv h1
  cases h2
  intro H locs lsM hW hS hL
  exact lv_isub hx hb hd (kk H locs lsM hW hS hL)

theorem zs_imul  (C : zx_Cx p s m args meth c D G ad vS base Lh xs o mx b rt ini) (hd : decode b pc = .ok (.imul, 1)) (ha : zx_act o rt ini pc (.imul) ls st L I J = some (.inl (pc2, ls2, st2, L2, I2, J2))) (kk : zx_AT p l e R s m args below meth c Q D G ad vS base mx n0 s0 pc2 ls2 st2 L2 I2 J2) : zx_AT p l e R s m args below meth c Q D G ad vS base mx n0 s0 pc ls st L I J := by
  obtain ⟨hx, hb, hml, hown, hts, hlocks, hret, hini, hK, hSP, hbase, ho⟩ := C
  have hS5 := hSP.2.2.2.2.2.2.2.2.2.2.2.1
  obtain ⟨w, h1, h2⟩ := zx_p_inv ha
  obtain ⟨x, y, r, rfl, rfl⟩ := zx_i2_inv h1
  cases h2
  intro H locs lsM hW hS hL
  exact lv_imul hx hb hd (kk H locs lsM hW hS hL)

theorem zs_iand  (C : zx_Cx p s m args meth c D G ad vS base Lh xs o mx b rt ini) (hd : decode b pc = .ok (.iand, 1)) (ha : zx_act o rt ini pc (.iand) ls st L I J = some (.inl (pc2, ls2, st2, L2, I2, J2))) (kk : zx_AT p l e R s m args below meth c Q D G ad vS base mx n0 s0 pc2 ls2 st2 L2 I2 J2) : zx_AT p l e R s m args below meth c Q D G ad vS base mx n0 s0 pc ls st L I J := by
  obtain ⟨hx, hb, hml, hown, hts, hlocks, hret, hini, hK, hSP, hbase, ho⟩ := C
  have hS5 := hSP.2.2.2.2.2.2.2.2.2.2.2.1
  obtain ⟨w, h1, h2⟩ := zx_p_inv ha
  obtain ⟨x, y, r, rfl, rfl⟩ := zx_i2_inv h1
  cases h2
  intro H locs lsM hW hS hL
  exact lv_iand hx hb hd (kk H locs lsM hW hS hL)

theorem zs_ior  (C : zx_Cx p s m args meth c D G ad vS base Lh xs o mx b rt ini) (hd : decode b pc = .ok (.ior, 1)) (ha : zx_act o rt ini pc (.ior) ls st L I J = some (.inl (pc2, ls2, st2, L2, I2, J2))) (kk : zx_AT p l e R s m args below meth c Q D G ad vS base mx n0 s0 pc2 ls2 st2 L2 I2 J2) : zx_AT p l e R s m args below meth c Q D G ad vS base mx n0 s0 pc ls st L I J := by
  obtain ⟨hx, hb, hml, hown, hts, hlocks, hret, hini, hK, hSP, hbase, ho⟩ := C
  have hS5 := hSP.2.2.2.2.2.2.2.2.2.2.2.1
  obtain ⟨w, h1, h2⟩ := zx_p_inv ha
  obtain ⟨x, y, r, rfl, rfl⟩ := zx_i2_inv h1
  cases h2
  intro H locs lsM hW hS hL
  exact lv_ior hx hb hd (kk H locs lsM hW hS hL)

theorem zs_ixor  (C : zx_Cx p s m args meth c D G ad vS base Lh xs o mx b rt ini) (hd : decode b pc = .ok (.ixor, 1)) (ha : zx_act o rt ini pc (.ixor) ls st L I J = some (.inl (pc2, ls2, st2, L2, I2, J2))) (kk : zx_AT p l e R s m args below meth c Q D G ad vS base mx n0 s0 pc2 ls2 st2 L2 I2 J2) : zx_AT p l e R s m args below meth c Q D G ad vS base mx n0 s0 pc ls st L I J := by
  obtain ⟨hx, hb, hml, hown, hts, hlocks, hret, hini, hK, hSP, hbase, ho⟩ := C
  have hS5 := hSP.2.2.2.2.2.2.2.2.2.2.2.1
  obtain ⟨w, h1, h2⟩ := zx_p_inv ha
  obtain ⟨x, y, r, rfl, rfl⟩ := zx_i2_inv h1
  cases h2
  intro H locs lsM hW hS hL
  exact lv_ixor hx hb hd (kk H locs lsM hW hS hL)

theorem zs_ishl  (C : zx_Cx p s m args meth c D G ad vS base Lh xs o mx b rt ini) (hd : decode b pc = .ok (.ishl, 1)) (ha : zx_act o rt ini pc (.ishl) ls st L I J = some (.inl (pc2, ls2, st2, L2, I2, J2))) (kk : zx_AT p l e R s m args below meth c Q D G ad vS base mx n0 s0 pc2 ls2 st2 L2 I2 J2) : zx_AT p l e R s m args below meth c Q D G ad vS base mx n0 s0 pc ls st L I J := by
  obtain ⟨hx, hb, hml, hown, hts, hlocks, hret, hini, hK, hSP, hbase, ho⟩ := C
  have hS5 := hSP.2.2.2.2.2.2.2.2.2.2.2.1
  obtain ⟨w, h1, h2⟩ := zx_p_inv ha
  obtain ⟨x, y, r, rfl, rfl⟩ := zx_i2_inv h1
  cases h2
  intro H locs lsM hW hS hL
  exact lv_ishl hx hb hd (kk H locs lsM hW hS hL)

theorem zs_ishr  (C : zx_Cx p s m args meth c D G ad vS base Lh xs o mx b rt ini) (hd : decode b pc = .ok (.ishr, 1)) (ha : zx_act o rt ini pc (.ishr) ls st L I J = some (.inl (pc2, ls2, st2, L2, I2, J2))) (kk : zx_AT p l e R s m args below meth c Q D G ad vS base mx n0 s0 pc2 ls2 st2 L2 I2 J2) : zx_AT p l e R s m args below meth c Q D G ad vS base mx n0 s0 pc ls st L I J := by
  obtain ⟨hx, hb, hml, hown, hts, hlocks, hret, hini, hK, hSP, hbase, ho⟩ := C
  have hS5 := hSP.2.2.2.2.2.2.2.2.2.2.2.1
  obtain ⟨w, h1, h2⟩ := zx_p_inv ha
  obtain ⟨x, y, r, rfl, rfl⟩ := zx_i2_inv h1
  cases h2
  intro H locs lsM hW hS hL
  exact lv_ishr hx hb hd (kk H locs lsM hW hS hL)

theorem zs_iushr  (C : zx_Cx p s m args meth c D G ad vS base Lh xs o mx b rt ini) (hd : decode b pc = .ok (.iushr, 1)) (ha : zx_act o rt ini pc (.iushr) ls st L I J = some (.inl (pc2, ls2, st2, L2, I2, J2))) (kk : zx_AT p l e R s m args below meth c Q D G ad vS base mx n0 s0 pc2 ls2 st2 L2 I2 J2) : zx_AT p l e R s m args below meth c Q D G ad vS base mx n0 s0 pc ls st L I J := by
  obtain ⟨hx, hb, hml, hown, hts, hlocks, hret, hini, hK, hSP, hbase, ho⟩ := C
  have hS5 := hSP.2.2.2.2.2.2.2.2.2.2.2.1
  obtain ⟨w, h1, h2⟩ := zx_p_inv ha
  obtain ⟨x, y, r, rfl, rfl⟩ := zx_i2_inv h1
  cases h2
  intro H locs lsM hW hS hL
  exact lv_iushr hx hb hd rfl (kk H locs lsM hW hS hL)

theorem zs_idiv  (C : zx_Cx p s m args meth c D G ad vS base Lh xs o mx b rt ini) (hd : decode b pc = .ok (.idiv, 1)) (ha : zx_act o rt ini pc (.idiv) ls st L I J = some (.inl (pc2, ls2, st2, L2, I2, J2))) (kk : zx_AT p l e R s m args below meth c Q D G ad vS base mx n0 s0 pc2 ls2 st2 L2 I2 J2) : zx_AT p l e R s m args below meth c Q D G ad vS base mx n0 s0 pc ls st L I J := by
  obtain ⟨hx, hb, hml, hown, hts, hlocks, hret, hini, hK, hSP, hbase, ho⟩ := C
  have hS5 := hSP.2.2.2.2.2.2.2.2.2.2.2.1
  unfold zx_act at ha
  dsimp only at ha
  split at ha
  · obtain ⟨h1, h2⟩ := zx_if_inv ha
    cases h2
    intro H locs lsM hW hS hL
    exact lv_idiv hx hb hd h1 (kk H locs lsM hW hS hL)
  · cases ha

theorem zs_irem  (C : zx_Cx p s m args meth c D G ad vS base Lh xs o mx b rt ini) (hd : decode b pc = .ok (.irem, 1)) (ha : zx_act o rt ini pc (.irem) ls st L I J = some (.inl (pc2, ls2, st2, L2, I2, J2))) (kk : zx_AT p l e R s m args below meth c Q D G ad vS base mx n0 s0 pc2 ls2 st2 L2 I2 J2) : zx_AT p l e R s m args below meth c Q D G ad vS base mx n0 s0 pc ls st L I J := by
  obtain ⟨hx, hb, hml, hown, hts, hlocks, hret, hini, hK, hSP, hbase, ho⟩ := C
  have hS5 := hSP.2.2.2.2.2.2.2.2.2.2.2.1
  unfold zx_act at ha
  dsimp only at ha
  split at ha
  · obtain ⟨h1, h2⟩ := zx_if_inv ha
    cases h2
    intro H locs lsM hW hS hL
    exact lv_irem hx hb hd h1 (kk H locs lsM hW hS hL)
  · cases ha

theorem zs_ineg  (C : zx_Cx p s m args meth c D G ad vS base Lh xs o mx b rt ini) (hd : decode b pc = .ok (.ineg, 1)) (ha : zx_act o rt ini pc (.ineg) ls st L I J = some (.inl (pc2, ls2, st2, L2, I2, J2))) (kk : zx_AT p l e R s m args below meth c Q D G ad vS base mx n0 s0 pc2 ls2 st2 L2 I2 J2) : zx_AT p l e R s m args below meth c Q D G ad vS base mx n0 s0 pc ls st L I J := by
  obtain ⟨hx, hb, hml, hown, hts, hlocks, hret, hini, hK, hSP, hbase, ho⟩ := C
  have hS5 := hSP.2.2.2.2.2.2.2.2.2.2.2.1
  obtain ⟨w, h1, h2⟩ := zx_p_inv ha
  obtain ⟨x, r, rfl, rfl⟩ := zx_i1_inv h1
  cases h2
  intro H locs lsM hW hS hL
  exact lv_ineg hx hb hd (kk H locs lsM hW hS hL)

theorem zs_i2l  (C : zx_Cx p s m args meth c D G ad vS base Lh xs o mx b rt ini) (hd : decode b pc = .ok (.i2l, 1)) (ha : zx_act o rt ini pc (.i2l) ls st L I J = some (.inl (pc2, ls2, st2, L2, I2, J2))) (kk : zx_AT p l e R s m args below meth c Q D G ad vS base mx n0 s0 pc2 ls2 st2 L2 I2 J2) : zx_AT p l e R s m args below meth c Q D G ad vS base mx n0 s0 pc ls st L I J := by
  obtain ⟨hx, hb, hml, hown, hts, hlocks, hret, hini, hK, hSP, hbase, ho⟩ := C
  have hS5 := hSP.2.2.2.2.2.2.2.2.2.2.2.1
  obtain ⟨w, h1, h2⟩ := zx_p_inv ha
  obtain ⟨x, r, rfl, rfl⟩ := zx_i1_inv h1
  cases h2
  intro H locs lsM hW hS hL
  exact lv_i2l hx hb hd rfl (kk H locs lsM hW hS hL)

theorem zs_i2b  (C : zx_Cx p s m args meth c D G ad vS base Lh xs o mx b rt ini) (hd : decode b pc = .ok (.i2b, 1)) (ha : zx_act o rt ini pc (.i2b) ls st L I J = some (.inl (pc2, ls2, st2, L2, I2, J2))) (kk : zx_AT p l e R s m args below meth c Q D G ad vS base mx n0 s0 pc2 ls2 st2 L2 I2 J2) : zx_AT p l e R s m args below meth c Q D G ad vS base mx n0 s0 pc ls st L I J := by
  obtain ⟨hx, hb, hml, hown, hts, hlocks, hret, hini, hK, hSP, hbase, ho⟩ := C
  have hS5 := hSP.2.2.2.2.2.2.2.2.2.2.2.1
  obtain ⟨w, h1, h2⟩ := zx_p_inv ha
  obtain ⟨x, r, rfl, rfl⟩ := zx_i1_inv h1
  cases h2
  intro H locs lsM hW hS hL
  exact lv_i2b hx hb hd rfl (kk H locs lsM hW hS hL)

theorem zs_i2s  (C : zx_Cx p s m args meth c D G ad vS base Lh xs o mx b rt ini) (hd : decode b pc = .ok (.i2s, 1)) (ha : zx_act o rt ini pc (.i2s) ls st L I J = some (.inl (pc2, ls2, st2, L2, I2, J2))) (kk : zx_AT p l e R s m args below meth c Q D G ad vS base mx n0 s0 pc2 ls2 st2 L2 I2 J2) : zx_AT p l e R s m args below meth c Q D G ad vS base mx n0 s0 pc ls st L I J := by
  obtain ⟨hx, hb, hml, hown, hts, hlocks, hret, hini, hK, hSP, hbase, ho⟩ := C
  have hS5 := hSP.2.2.2.2.2.2.2.2.2.2.2.1
  obtain ⟨w, h1, h2⟩ := zx_p_inv ha
  obtain ⟨x, r, rfl, rfl⟩ := zx_i1_inv h1
  cases h2
  intro H locs lsM hW hS hL
  exact lv_i2s hx hb hd rfl (kk H locs lsM hW hS hL)

theorem zs_i2c  (C : zx_Cx p s m args meth c D G ad vS base Lh xs o mx b rt ini) (hd : decode b pc = .ok (.i2c, 1)) (ha : zx_act o rt ini pc (.i2c) ls st L I J = some (.inl (pc2, ls2, st2, L2, I2, J2))) (kk : zx_AT p l e R s m args below meth c Q D G ad vS base mx n0 s0 pc2 ls2 st2 L2 I2 J2) : zx_AT p l e R s m args below meth c Q D G ad vS base mx n0 s0 pc ls st L I J := by
  obtain ⟨hx, hb, hml, hown, hts, hlocks, hret, hini, hK, hSP, hbase, ho⟩ := C
  have hS5 := hSP.2.2.2.2.2.2.2.2.2.2.2.1
  obtain ⟨w, h1, h2⟩ := zx_p_inv ha
  obtain ⟨x, r, rfl, rfl⟩ := zx_i1_inv h1
  cases h2
  intro H locs lsM hW hS hL
  exact lv_i2c hx hb hd rfl (kk H locs lsM hW hS hL)

theorem zs_l2i  (C : zx_Cx p s m args meth c D G ad vS base Lh xs o mx b rt ini) (hd : decode b pc = .ok (.l2i, 1)) (ha : zx_act o rt ini pc (.l2i) ls st L I J = some (.inl (pc2, ls2, st2, L2, I2, J2))) (kk : zx_AT p l e R s m args below meth c Q D G ad vS base mx n0 s0 pc2 ls2 st2 L2 I2 J2) : zx_AT p l e R s m args below meth c Q D G ad vS base mx n0 s0 pc ls st L I J := by
  obtain ⟨hx, hb, hml, hown, hts, hlocks, hret, hini, hK, hSP, hbase, ho⟩ := C
  have hS5 := hSP.2.2.2.2.2.2.2.2.2.2.2.1
  obtain ⟨w, h1, h2⟩ := zx_p_inv ha
  obtain ⟨x, r, rfl, rfl⟩ := zx_l1_inv h1
  cases h2
  intro H locs lsM hW hS hL
  exact lv_l2i hx hb hd rfl (kk H locs lsM hW hS hL)

theorem zs_ladd  (C : zx_Cx p s m args meth c D G ad vS base Lh xs o mx b rt ini) (hd : decode b pc = .ok (.ladd, 1)) (ha : zx_act o rt ini pc (.ladd) ls st L I J = some (.inl (pc2, ls2, st2, L2, I2, J2))) (kk : zx_AT p l e R s m args below meth c Q D G ad vS base mx n0 s0 pc2 ls2 st2 L2 I2 J2) : zx_AT p l e R s m args below meth c Q D G ad vS base mx n0 s0 pc ls st L I J := by
  obtain ⟨hx, hb, hml, hown, hts, hlocks, hret, hini, hK, hSP, hbase, ho⟩ := C
  have hS5 := hSP.2.2.2.2.2.2.2.2.2.2.2.1
  obtain ⟨w, h1, h2⟩ := zx_p_inv ha
  obtain ⟨x, y, r, rfl, rfl⟩ := zx_l2_inv h1
  cases h2
  intro H locs lsM hW hS hL
  exact lv_ladd hx hb hd (kk H locs lsM hW hS hL)

theorem zs_lsub  (C : zx_Cx p s m args meth c D G ad vS base Lh xs o mx b rt ini) (hd : decode b pc = .ok (.lsub, 1)) (ha : zx_act o rt ini pc (.lsub) ls st L I J = some (.inl (pc2, ls2, st2, L2, I2, J2))) (kk : zx_AT p l e R s m args below meth c Q D G ad vS base mx n0 s0 pc2 ls2 st2 L2 I2 J2) : zx_AT p l e R s m args below meth c Q D G ad vS base mx n0 s0 pc ls st L I J := by
  obtain ⟨hx, hb, hml, hown, hts, hlocks, hret, hini, hK, hSP, hbase, ho⟩ := C
  have hS5 := hSP.2.2.2.2.2.2.2.2.2.2.2.1
  obtain ⟨w, h1, h2⟩ := zx_p_inv ha
  obtain ⟨x, y, r, rfl, rfl⟩ := zx_l2_inv h1
  cases h2
  intro H locs lsM hW hS hL
  exact lv_lsub hx hb hd (kk H locs lsM hW hS hL)

theorem zs_lmul  (C : zx_Cx p s m args meth c D G ad vS base Lh xs o mx b rt ini) (hd : decode b pc = .ok (.lmul, 1)) (ha : zx_act o rt ini pc (.lmul) ls st L I J = some (.inl (pc2, ls2, st2, L2, I2, J2))) (kk : zx_AT p l e R s m args below meth c Q D G ad vS base mx n0 s0 pc2 ls2 st2 L2 I2 J2) : zx_AT p l e R s m args below meth c Q D G ad vS base mx n0 s0 pc ls st L I J := by
  obtain ⟨hx, hb, hml, hown, hts, hlocks, hret, hini, hK, hSP, hbase, ho⟩ := C
  have hS5 := hSP.2.2.2.2.2.2.2.2.2.2.2.1
  obtain ⟨w, h1, h2⟩ := zx_p_inv ha
  obtain ⟨x, y, r, rfl, rfl⟩ := zx_l2_inv h1
  cases h2
  intro H locs lsM hW hS hL
  exact lv_lmul hx hb hd (kk H locs lsM hW hS hL)

theorem zs_land  (C : zx_Cx p s m args meth c D G ad vS base Lh xs o mx b rt ini) (hd : decode b pc = .ok (.land, 1)) (ha : zx_act o rt ini pc (.land) ls st L I J = some (.inl (pc2, ls2, st2, L2, I2, J2))) (kk : zx_AT p l e R s m args below meth c Q D G ad vS base mx n0 s0 pc2 ls2 st2 L2 I2 J2) : zx_AT p l e R s m args below meth c Q D G ad vS base mx n0 s0 pc ls st L I J := by
  obtain ⟨hx, hb, hml, hown, hts, hlocks, hret, hini, hK, hSP, hbase, ho⟩ := C
  have hS5 := hSP.2.2.2.2.2.2.2.2.2.2.2.1
  obtain ⟨w, h1, h2⟩ := zx_p_inv ha
  obtain ⟨x, y, r, rfl, rfl⟩ := zx_l2_inv h1
  cases h2
  intro H locs lsM hW hS hL
  exact lv_land hx hb hd (kk H locs lsM hW hS hL)

theorem zs_lor  (C : zx_Cx p s m args meth c D G ad vS base Lh xs o mx b rt ini) (hd : decode b pc = .ok (.lor, 1)) (ha : zx_act o rt ini pc (.lor) ls st L I J = some (.inl (pc2, ls2, st2, L2, I2, J2))) (kk : zx_AT p l e R s m args below meth c Q D G ad vS base mx n0 s0 pc2 ls2 st2 L2 I2 J2) : zx_AT p l e R s m args below meth c Q D G ad vS base mx n0 s0 pc ls st L I J := by
  obtain ⟨hx, hb, hml, hown, hts, hlocks, hret, hini, hK, hSP, hbase, ho⟩ := C
  have hS5 := hSP.2.2.2.2.2.2.2.2.2.2.2.1
  obtain ⟨w, h1, h2⟩ := zx_p_inv ha
  obtain ⟨x, y, r, rfl, rfl⟩ := zx_l2_inv h1
  cases h2
  intro H locs lsM hW hS hL
  exact lv_lor hx hb hd (kk H locs lsM hW hS hL)

theorem zs_lxor  (C : zx_Cx p s m args meth c D G ad vS base Lh xs o mx b rt ini) (hd : decode b pc = .ok (.lxor, 1)) (ha : zx_act o rt ini pc (.lxor) ls st L I J = some (.inl (pc2, ls2, st2, L2, I2, J2))) (kk : zx_AT p l e R s m args below meth c Q D G ad vS base mx n0 s0 pc2 ls2 st2 L2 I2 J2) : zx_AT p l e R s m args below meth c Q D G ad vS base mx n0 s0 pc ls st L I J := by
  obtain ⟨hx, hb, hml, hown, hts, hlocks, hret, hini, hK, hSP, hbase, ho⟩ := C
  have hS5 := hSP.2.2.2.2.2.2.2.2.2.2.2.1
  obtain ⟨w, h1, h2⟩ := zx_p_inv ha
  obtain ⟨x, y, r, rfl, rfl⟩ := zx_l2_inv h1
  cases h2
  intro H locs lsM hW hS hL
  exact lv_lxor hx hb hd (kk H locs lsM hW hS hL)

theorem zs_lcmp  (C : zx_Cx p s m args meth c D G ad vS base Lh xs o mx b rt ini) (hd : decode b pc = .ok (.lcmp, 1)) (ha : zx_act o rt ini pc (.lcmp) ls st L I J = some (.inl (pc2, ls2, st2, L2, I2, J2))) (kk : zx_AT p l e R s m args below meth c Q D G ad vS base mx n0 s0 pc2 ls2 st2 L2 I2 J2) : zx_AT p l e R s m args below meth c Q D G ad vS base mx n0 s0 pc ls st L I J := by
  obtain ⟨hx, hb, hml, hown, hts, hlocks, hret, hini, hK, hSP, hbase, ho⟩ := C
  have hS5 := hSP.2.2.2.2.2.2.2.2.2.2.2.1
  obtain ⟨w, h1, h2⟩ := zx_p_inv ha
  obtain ⟨x, y, r, rfl, rfl⟩ := zx_l2_inv h1
  cases h2
  intro H locs lsM hW hS hL
  exact W.lcmp hx hb hd (kk H locs lsM hW hS hL)

theorem zs_lshl  (C : zx_Cx p s m args meth c D G ad vS base Lh xs o mx b rt ini) (hd : decode b pc = .ok (.lshl, 1)) (ha : zx_act o rt ini pc (.lshl) ls st L I J = some (.inl (pc2, ls2, st2, L2, I2, J2))) (kk : zx_AT p l e R s m args below meth c Q D G ad vS base mx n0 s0 pc2 ls2 st2 L2 I2 J2) : zx_AT p l e R s m args below meth c Q D G ad vS base mx n0 s0 pc ls st L I J := by
  obtain ⟨hx, hb, hml, hown, hts, hlocks, hret, hini, hK, hSP, hbase, ho⟩ := C
  have hS5 := hSP.2.2.2.2.2.2.2.2.2.2.2.1
  obtain ⟨w, h1, h2⟩ := zx_p_inv ha
  obtain ⟨x, y, r, rfl, rfl⟩ := zx_li_inv h1
  cases h2
  intro H locs lsM hW hS hL
  exact lv_lshl hx hb hd rfl (kk H locs lsM hW hS hL)

theorem zs_lshr  (C : zx_Cx p s m args meth c D G ad vS base Lh xs o mx b rt ini) (hd : decode b pc = .ok (.lshr, 1)) (ha : zx_act o rt ini pc (.lshr) ls st L I J = some (.inl (pc2, ls2, st2, L2, I2, J2))) (kk : zx_AT p l e R s m args below meth c Q D G ad vS base mx n0 s0 pc2 ls2 st2 L2 I2 J2) : zx_AT p l e R s m args below meth c Q D G ad vS base mx n0 s0 pc ls st L I J := by
  obtain ⟨hx, hb, hml, hown, hts, hlocks, hret, hini, hK, hSP, hbase, ho⟩ := C
  have hS5 := hSP.2.2.2.2.2.2.2.2.2.2.2.1
  obtain ⟨w, h1, h2⟩ := zx_p_inv ha
  obtain ⟨x, y, r, rfl, rfl⟩ := zx_li_inv h1
  cases h2
  intro H locs lsM hW hS hL
  exact lv_lshr hx hb hd rfl (kk H locs lsM hW hS hL)

theorem zs_lushr  (C : zx_Cx p s m args meth c D G ad vS base Lh xs o mx b rt ini) (hd : decode b pc = .ok (.lushr, 1)) (ha : zx_act o rt ini pc (.lushr) ls st L I J = some (.inl (pc2, ls2, st2, L2, I2, J2))) (kk : zx_AT p l e R s m args below meth c Q D G ad vS base mx n0 s0 pc2 ls2 st2 L2 I2 J2) : zx_AT p l e R s m args below meth c Q D G ad vS base mx n0 s0 pc ls st L I J := by
  obtain ⟨hx, hb, hml, hown, hts, hlocks, hret, hini, hK, hSP, hbase, ho⟩ := C
  have hS5 := hSP.2.2.2.2.2.2.2.2.2.2.2.1
  obtain ⟨w, h1, h2⟩ := zx_p_inv ha
  obtain ⟨x, y, r, rfl, rfl⟩ := zx_li_inv h1
  cases h2
  intro H locs lsM hW hS hL
  exact lv_lushr hx hb hd rfl (kk H locs lsM hW hS hL)

theorem zs_dup  (C : zx_Cx p s m args meth c D G ad vS base Lh xs o mx b rt ini) (hd : decode b pc = .ok (.dup, 1)) (ha : zx_act o rt ini pc (.dup) ls st L I J = some (.inl (pc2, ls2, st2, L2, I2, J2))) (kk : zx_AT p l e R s m args below meth c Q D G ad vS base mx n0 s0 pc2 ls2 st2 L2 I2 J2) : zx_AT p l e R s m args below meth c Q D G ad vS base mx n0 s0 pc ls st L I J := by
  obtain ⟨hx, hb, hml, hown, hts, hlocks, hret, hini, hK, hSP, hbase, ho⟩ := C
  have hS5 := hSP.2.2.2.2.2.2.2.2.2.2.2.1
  unfold zx_act at ha
  dsimp only at ha
  split at ha
  · cases ha
    intro H locs lsM hW hS hL
    exact lv_dup hx hb hd rfl (kk H locs lsM hW hS hL)
  · rename_i a r
    cases ha
    intro H locs lsM hW hS hL
    exact lv_dup hx hb hd (zx_e_cat ad vS hS5 (.ref a)) (kk H locs lsM hW hS hL)
  · cases ha

theorem zs_dup2  (C : zx_Cx p s m args meth c D G ad vS base Lh xs o mx b rt ini) (hd : decode b pc = .ok (.dup2, 1)) (ha : zx_act o rt ini pc (.dup2) ls st L I J = some (.inl (pc2, ls2, st2, L2, I2, J2))) (kk : zx_AT p l e R s m args below meth c Q D G ad vS base mx n0 s0 pc2 ls2 st2 L2 I2 J2) : zx_AT p l e R s m args below meth c Q D G ad vS base mx n0 s0 pc ls st L I J := by
  obtain ⟨hx, hb, hml, hown, hts, hlocks, hret, hini, hK, hSP, hbase, ho⟩ := C
  have hS5 := hSP.2.2.2.2.2.2.2.2.2.2.2.1
  unfold zx_act at ha
  dsimp only at ha
  split at ha
  · rename_i y a r
    cases ha
    intro H locs lsM hW hS hL
    exact lv_dup2_11 hx hb hd rfl (zx_e_cat ad vS hS5 (.ref a)) (kk H locs lsM hW hS hL)
  · cases ha

theorem zs_pop  (C : zx_Cx p s m args meth c D G ad vS base Lh xs o mx b rt ini) (hd : decode b pc = .ok (.pop, 1)) (ha : zx_act o rt ini pc (.pop) ls st L I J = some (.inl (pc2, ls2, st2, L2, I2, J2))) (kk : zx_AT p l e R s m args below meth c Q D G ad vS base mx n0 s0 pc2 ls2 st2 L2 I2 J2) : zx_AT p l e R s m args below meth c Q D G ad vS base mx n0 s0 pc ls st L I J := by
  obtain ⟨hx, hb, hml, hown, hts, hlocks, hret, hini, hK, hSP, hbase, ho⟩ := C
  have hS5 := hSP.2.2.2.2.2.2.2.2.2.2.2.1
  unfold zx_act at ha
  dsimp only at ha
  split at ha
  · cases ha
    intro H locs lsM hW hS hL
    exact lv_pop hx hb hd rfl (kk H locs lsM hW hS hL)
  · cases ha

theorem zs_pop2  (C : zx_Cx p s m args meth c D G ad vS base Lh xs o mx b rt ini) (hd : decode b pc = .ok (.pop2, 1)) (ha : zx_act o rt ini pc (.pop2) ls st L I J = some (.inl (pc2, ls2, st2, L2, I2, J2))) (kk : zx_AT p l e R s m args below meth c Q D G ad vS base mx n0 s0 pc2 ls2 st2 L2 I2 J2) : zx_AT p l e R s m args below meth c Q D G ad vS base mx n0 s0 pc ls st L I J := by
  obtain ⟨hx, hb, hml, hown, hts, hlocks, hret, hini, hK, hSP, hbase, ho⟩ := C
  have hS5 := hSP.2.2.2.2.2.2.2.2.2.2.2.1
  unfold zx_act at ha
  dsimp only at ha
  split at ha
  · cases ha
    intro H locs lsM hW hS hL
    exact lv_pop2_2 hx hb hd rfl (kk H locs lsM hW hS hL)
  · cases ha

theorem zs_goto {off : Int} (C : zx_Cx p s m args meth c D G ad vS base Lh xs o mx b rt ini) (hd : decode b pc = .ok (.goto off, 3)) (ha : zx_act o rt ini pc (.goto off) ls st L I J = some (.inl (pc2, ls2, st2, L2, I2, J2))) (kk : zx_AT p l e R s m args below meth c Q D G ad vS base mx n0 s0 pc2 ls2 st2 L2 I2 J2) : zx_AT p l e R s m args below meth c Q D G ad vS base mx n0 s0 pc ls st L I J := by
  obtain ⟨hx, hb, hml, hown, hts, hlocks, hret, hini, hK, hSP, hbase, ho⟩ := C
  have hS5 := hSP.2.2.2.2.2.2.2.2.2.2.2.1
  obtain ⟨t, h1, h2⟩ := zx_j_inv ha
  cases h2
  intro H locs lsM hW hS hL
  exact lv_goto hx hb hd h1 (kk H locs lsM hW hS hL)

theorem zs_ifc {cd : ClassFile.Cond} {off : Int} (C : zx_Cx p s m args meth c D G ad vS base Lh xs o mx b rt ini) (hd : decode b pc = .ok (.ifCond cd off, 3)) (ha : zx_act o rt ini pc (.ifCond cd off) ls st L I J = some (.inl (pc2, ls2, st2, L2, I2, J2))) (kk : zx_AT p l e R s m args below meth c Q D G ad vS base mx n0 s0 pc2 ls2 st2 L2 I2 J2) : zx_AT p l e R s m args below meth c Q D G ad vS base mx n0 s0 pc ls st L I J := by
  obtain ⟨hx, hb, hml, hown, hts, hlocks, hret, hini, hK, hSP, hbase, ho⟩ := C
  have hS5 := hSP.2.2.2.2.2.2.2.2.2.2.2.1
  unfold zx_act at ha
  dsimp only at ha
  split at ha
  · obtain ⟨t, h1, h2⟩ := zx_j_inv ha
    cases h2
    intro H locs lsM hW hS hL
    cases cd
    · refine lv_if_eq hx hb hd h1 (fun q => ?_) (fun q => ?_)
      · have k1 := kk
        dsimp only [zx_ic] at k1
        rw [(if_pos (q))] at k1
        exact k1 H locs lsM hW hS hL
      · have k1 := kk
        dsimp only [zx_ic] at k1
        rw [(if_neg (q))] at k1
        exact k1 H locs lsM hW hS hL
    · refine lv_if_ne hx hb hd h1 (fun q => ?_) (fun q => ?_)
      · have k1 := kk
        dsimp only [zx_ic] at k1
        rw [(if_neg (q))] at k1
        exact k1 H locs lsM hW hS hL
      · have k1 := kk
        dsimp only [zx_ic] at k1
        rw [(if_pos (q))] at k1
        exact k1 H locs lsM hW hS hL
    · refine lv_if_lt hx hb hd h1 (fun q => ?_) (fun q => ?_)
      · have k1 := kk
        dsimp only [zx_ic] at k1
        rw [(if_pos (q))] at k1
        exact k1 H locs lsM hW hS hL
      · have k1 := kk
        dsimp only [zx_ic] at k1
        rw [(if_neg (q))] at k1
        exact k1 H locs lsM hW hS hL
    · refine lv_if_ge hx hb hd h1 (fun q => ?_) (fun q => ?_)
      · have k1 := kk
        dsimp only [zx_ic] at k1
        rw [(if_neg (Int32.not_lt.mpr q))] at k1
        exact k1 H locs lsM hW hS hL
      · have k1 := kk
        dsimp only [zx_ic] at k1
        rw [(if_pos (Int32.not_le.mp q))] at k1
        exact k1 H locs lsM hW hS hL
    · refine lv_if_gt hx hb hd h1 (fun q => ?_) (fun q => ?_)
      · have k1 := kk
        dsimp only [zx_ic] at k1
        rw [(if_pos (q))] at k1
        exact k1 H locs lsM hW hS hL
      · have k1 := kk
        dsimp only [zx_ic] at k1
        rw [(if_neg (q))] at k1
        exact k1 H locs lsM hW hS hL
    · refine lv_if_le hx hb hd h1 (fun q => ?_) (fun q => ?_)
      · have k1 := kk
        dsimp only [zx_ic] at k1
        rw [(if_neg (Int32.not_lt.mpr q))] at k1
        exact k1 H locs lsM hW hS hL
      · have k1 := kk
        dsimp only [zx_ic] at k1
        rw [(if_pos (Int32.not_le.mp q))] at k1
        exact k1 H locs lsM hW hS hL
  · cases ha

theorem zs_icm {cd : ClassFile.Cond} {off : Int} (C : zx_Cx p s m args meth c D G ad vS base Lh xs o mx b rt ini) (hd : decode b pc = .ok (.if_icmp cd off, 3)) (ha : zx_act o rt ini pc (.if_icmp cd off) ls st L I J = some (.inl (pc2, ls2, st2, L2, I2, J2))) (kk : zx_AT p l e R s m args below meth c Q D G ad vS base mx n0 s0 pc2 ls2 st2 L2 I2 J2) : zx_AT p l e R s m args below meth c Q D G ad vS base mx n0 s0 pc ls st L I J := by
  obtain ⟨hx, hb, hml, hown, hts, hlocks, hret, hini, hK, hSP, hbase, ho⟩ := C
  have hS5 := hSP.2.2.2.2.2.2.2.2.2.2.2.1
  unfold zx_act at ha
  dsimp only at ha
  split at ha
  · obtain ⟨t, h1, h2⟩ := zx_j_inv ha
    cases h2
    intro H locs lsM hW hS hL
    cases cd
    · refine lv_icmp_eq hx hb hd h1 (fun q => ?_) (fun q => ?_)
      · have k1 := kk
        dsimp only [zx_ic] at k1
        rw [(if_pos (q))] at k1
        exact k1 H locs lsM hW hS hL
      · have k1 := kk
        dsimp only [zx_ic] at k1
        rw [(if_neg (q))] at k1
        exact k1 H locs lsM hW hS hL
    · refine lv_icmp_ne hx hb hd h1 (fun q => ?_) (fun q => ?_)
      · have k1 := kk
        dsimp only [zx_ic] at k1
        rw [(if_neg (q))] at k1
        exact k1 H locs lsM hW hS hL
      · have k1 := kk
        dsimp only [zx_ic] at k1
        rw [(if_pos (q))] at k1
        exact k1 H locs lsM hW hS hL
    · refine lv_icmp_lt hx hb hd h1 (fun q => ?_) (fun q => ?_)
      · have k1 := kk
        dsimp only [zx_ic] at k1
        rw [(if_pos (q))] at k1
        exact k1 H locs lsM hW hS hL
      · have k1 := kk
        dsimp only [zx_ic] at k1
        rw [(if_neg (q))] at k1
        exact k1 H locs lsM hW hS hL
    · refine lv_icmp_ge hx hb hd h1 (fun q => ?_) (fun q => ?_)
      · have k1 := kk
        dsimp only [zx_ic] at k1
        rw [(if_neg (Int32.not_lt.mpr q))] at k1
        exact k1 H locs lsM hW hS hL
      · have k1 := kk
        dsimp only [zx_ic] at k1
        rw [(if_pos (Int32.not_le.mp q))] at k1
        exact k1 H locs lsM hW hS hL
    · refine lv_icmp_gt hx hb hd h1 (fun q => ?_) (fun q => ?_)
      · have k1 := kk
        dsimp only [zx_ic] at k1
        rw [(if_pos (q))] at k1
        exact k1 H locs lsM hW hS hL
      · have k1 := kk
        dsimp only [zx_ic] at k1
        rw [(if_neg (q))] at k1
        exact k1 H locs lsM hW hS hL
    · refine lv_icmp_le hx hb hd h1 (fun q => ?_) (fun q => ?_)
      · have k1 := kk
        dsimp only [zx_ic] at k1
        rw [(if_neg (Int32.not_lt.mpr q))] at k1
        exact k1 H locs lsM hW hS hL
      · have k1 := kk
        dsimp only [zx_ic] at k1
        rw [(if_pos (Int32.not_le.mp q))] at k1
        exact k1 H locs lsM hW hS hL
  · cases ha

theorem zs_ifnull {off : Int} (C : zx_Cx p s m args meth c D G ad vS base Lh xs o mx b rt ini) (hd : decode b pc = .ok (.ifnull off, 3)) (ha : zx_act o rt ini pc (.ifnull off) ls st L I J = some (.inl (pc2, ls2, st2, L2, I2, J2))) (kk : zx_AT p l e R s m args below meth c Q D G ad vS base mx n0 s0 pc2 ls2 st2 L2 I2 J2) : zx_AT p l e R s m args below meth c Q D G ad vS base mx n0 s0 pc ls st L I J := by
  obtain ⟨hx, hb, hml, hown, hts, hlocks, hret, hini, hK, hSP, hbase, ho⟩ := C
  have hS5 := hSP.2.2.2.2.2.2.2.2.2.2.2.1
  unfold zx_act at ha
  dsimp only at ha
  split at ha
  · rename_i a r
    obtain ⟨h9, h8⟩ := zx_if_inv ha
    cases h8
    intro H locs lsM hW hS hL
    have k1 := kk H locs lsM hW hS hL
    rw [List.map_cons, show zx_e ad vS (.ref a) = .ref (ad a) from if_neg (fun z => absurd h9 (by rw [z]; decide))]
    exact lv_ifnull hx hb hd k1
  · obtain ⟨t, h1, h2⟩ := zx_j_inv ha
    cases h2
    intro H locs lsM hW hS hL
    exact lv_ifnullN hx hb hd h1 (kk H locs lsM hW hS hL)
  · cases ha

theorem zs_ifnonnull {off : Int} (C : zx_Cx p s m args meth c D G ad vS base Lh xs o mx b rt ini) (hd : decode b pc = .ok (.ifnonnull off, 3)) (ha : zx_act o rt ini pc (.ifnonnull off) ls st L I J = some (.inl (pc2, ls2, st2, L2, I2, J2))) (kk : zx_AT p l e R s m args below meth c Q D G ad vS base mx n0 s0 pc2 ls2 st2 L2 I2 J2) : zx_AT p l e R s m args below meth c Q D G ad vS base mx n0 s0 pc ls st L I J := by
  obtain ⟨hx, hb, hml, hown, hts, hlocks, hret, hini, hK, hSP, hbase, ho⟩ := C
  have hS5 := hSP.2.2.2.2.2.2.2.2.2.2.2.1
  unfold zx_act at ha
  dsimp only at ha
  split at ha
  · rename_i a r
    obtain ⟨t, h1, h2⟩ := zx_j_inv ha
    obtain ⟨h9, h8⟩ := zx_if_inv h2
    cases h8
    intro H locs lsM hW hS hL
    have k1 := kk H locs lsM hW hS hL
    rw [List.map_cons, show zx_e ad vS (.ref a) = .ref (ad a) from if_neg (fun z => absurd h9 (by rw [z]; decide))]
    exact lv_ifnonnull hx hb hd h1 k1
  · cases ha
    intro H locs lsM hW hS hL
    exact lv_ifnonnullN hx hb hd (kk H locs lsM hW hS hL)
  · cases ha

theorem zs_tsw {d lo hi : Int} {offs : Array Int} {len : Nat} (C : zx_Cx p s m args meth c D G ad vS base Lh xs o mx b rt ini) (hd : decode b pc = .ok (.tableswitch d lo hi offs, len)) (ha : zx_act o rt ini pc (.tableswitch d lo hi offs) ls st L I J = some (.inl (pc2, ls2, st2, L2, I2, J2))) (kk : zx_AT p l e R s m args below meth c Q D G ad vS base mx n0 s0 pc2 ls2 st2 L2 I2 J2) : zx_AT p l e R s m args below meth c Q D G ad vS base mx n0 s0 pc ls st L I J := by
  obtain ⟨hx, hb, hml, hown, hts, hlocks, hret, hini, hK, hSP, hbase, ho⟩ := C
  have hS5 := hSP.2.2.2.2.2.2.2.2.2.2.2.1
  unfold zx_act at ha
  dsimp only at ha
  split at ha
  · rename_i x r
    by_cases hc : hi - lo + 1 = (offs.size : Int) ∧ -2147483648 ≤ lo ∧ hi < 2147483648
    · rw [if_pos hc] at ha
      obtain ⟨t, h1, h2⟩ := zx_j_inv ha
      cases h2
      intro H locs lsM hW hS hL
      obtain ⟨c1, c2, c3⟩ := hc
      have hlen : (offs.toList.length : Int) = hi - lo + 1 := by rw [c1]; simp
      obtain ⟨p1, p2⟩ := zx_pick_tps (x := x) (d := d) offs.toList lo c2 (by omega)
      by_cases hin : x.toInt < lo ∨ hi < x.toInt
      · rw [p1 (by omega)] at h1
        exact lv_tableOut hx hb hd hin h1 (kk H locs lsM hW hS hL)
      · have q1 : ¬ x.toInt < lo := fun z => hin (Or.inl z)
        have q2 : ¬ hi < x.toInt := fun z => hin (Or.inr z)
        exact lv_tableIn hx hb hd q1 q2 (by rw [← Array.getElem?_toList]; exact p2 q1 (by omega)) h1 (kk H locs lsM hW hS hL)
    · rw [if_neg hc] at ha; cases ha
  · cases ha

theorem zs_lsw {d : Int} {ps : Array (Int × Int)} {len : Nat} (C : zx_Cx p s m args meth c D G ad vS base Lh xs o mx b rt ini) (hd : decode b pc = .ok (.lookupswitch d ps, len)) (ha : zx_act o rt ini pc (.lookupswitch d ps) ls st L I J = some (.inl (pc2, ls2, st2, L2, I2, J2))) (kk : zx_AT p l e R s m args below meth c Q D G ad vS base mx n0 s0 pc2 ls2 st2 L2 I2 J2) : zx_AT p l e R s m args below meth c Q D G ad vS base mx n0 s0 pc ls st L I J := by
  obtain ⟨hx, hb, hml, hown, hts, hlocks, hret, hini, hK, hSP, hbase, ho⟩ := C
  have hS5 := hSP.2.2.2.2.2.2.2.2.2.2.2.1
  unfold zx_act at ha
  dsimp only at ha
  split at ha
  · rename_i x r
    by_cases hc : (ps.toList.zip (ps.toList.drop 1)).all (fun (a, next) => a.1 < next.1) = true ∧ ps.toList.all (fun q => decide (-2147483648 ≤ q.1 ∧ q.1 < 2147483648)) = true
    · rw [if_pos hc] at ha
      obtain ⟨t, h1, h2⟩ := zx_j_inv ha
      cases h2
      intro H locs lsM hW hS hL
      exact lv_lookup hx hb hd hc.1 (zx_pick_lk _ hc.2) h1 (kk H locs lsM hW hS hL)
    · rw [if_neg hc] at ha; cases ha
  · cases ha

theorem zs_ldc {k : Nat} (C : zx_Cx p s m args meth c D G ad vS base Lh xs o mx b rt ini) (hd : decode b pc = .ok (.ldc k, 2)) (ha : zx_act o rt ini pc (.ldc k) ls st L I J = some (.inl (pc2, ls2, st2, L2, I2, J2))) (kk : zx_AT p l e R s m args below meth c Q D G ad vS base mx n0 s0 pc2 ls2 st2 L2 I2 J2) : zx_AT p l e R s m args below meth c Q D G ad vS base mx n0 s0 pc ls st L I J := by
  obtain ⟨hx, hb, hml, hown, hts, hlocks, hret, hini, hK, hSP, hbase, ho⟩ := C
  have hS5 := hSP.2.2.2.2.2.2.2.2.2.2.2.1
  unfold zx_act at ha
  dsimp only at ha
  split at ha
  · rename_i v hf
    cases ha
    intro H locs lsM hW hS hL
    exact lv_ldc hx hb hown (hts _ (zx_all2_in _ _ _ (zx_chkK o ho) _ (zx_find_in _ hf) _ List.mem_cons_self)) hd (kk H locs lsM hW hS hL)
  · split at ha
    · rename_i q hf
      cases ha
      intro H locs lsM hW hS hL
      obtain ⟨tx, hZ⟩ := hSP.2.2.2.2.2.2.2.2.1 o k q hf
      have hq : 5010 + q ≠ 5030 := by
        have h0 := zx_find_in _ hf
        have : ∀ o, o < 21 → (zx_strs o).all (fun z => decide (z.2 < 5)) = true := by decide +kernel
        have := List.all_eq_true.mp (this o ho) _ h0
        simp at this
        omega
      have k1 := kk H locs lsM hW hS hL
      rw [List.map_cons, show zx_e ad vS (.ref (5010 + q)) = .ref (ad (5010 + q)) from if_neg hq] at k1
      exact va_ldcS hx hb hown hZ hd k1
    · cases ha

theorem zs_ldcw {k : Nat} (C : zx_Cx p s m args meth c D G ad vS base Lh xs o mx b rt ini) (hd : decode b pc = .ok (.ldc_w k, 3)) (ha : zx_act o rt ini pc (.ldc_w k) ls st L I J = some (.inl (pc2, ls2, st2, L2, I2, J2))) (kk : zx_AT p l e R s m args below meth c Q D G ad vS base mx n0 s0 pc2 ls2 st2 L2 I2 J2) : zx_AT p l e R s m args below meth c Q D G ad vS base mx n0 s0 pc ls st L I J := by
  obtain ⟨hx, hb, hml, hown, hts, hlocks, hret, hini, hK, hSP, hbase, ho⟩ := C
  have hS5 := hSP.2.2.2.2.2.2.2.2.2.2.2.1
  unfold zx_act at ha
  dsimp only at ha
  split at ha
  · rename_i v hf
    cases ha
    intro H locs lsM hW hS hL
    exact lv_ldcw hx hb hown (hts _ (zx_all2_in _ _ _ (zx_chkK o ho) _ (zx_find_in _ hf) _ List.mem_cons_self)) hd (kk H locs lsM hW hS hL)
  · cases ha

theorem zs_ldc2 {k : Nat} (C : zx_Cx p s m args meth c D G ad vS base Lh xs o mx b rt ini) (hd : decode b pc = .ok (.ldc2_w k, 3)) (ha : zx_act o rt ini pc (.ldc2_w k) ls st L I J = some (.inl (pc2, ls2, st2, L2, I2, J2))) (kk : zx_AT p l e R s m args below meth c Q D G ad vS base mx n0 s0 pc2 ls2 st2 L2 I2 J2) : zx_AT p l e R s m args below meth c Q D G ad vS base mx n0 s0 pc ls st L I J := by
  obtain ⟨hx, hb, hml, hown, hts, hlocks, hret, hini, hK, hSP, hbase, ho⟩ := C
  have hS5 := hSP.2.2.2.2.2.2.2.2.2.2.2.1
  unfold zx_act at ha
  dsimp only at ha
  split at ha
  · rename_i v hf
    cases ha
    intro H locs lsM hW hS hL
    exact lv_ldc2 hx hb hown (hts _ (zx_all2_in _ _ _ (zx_chkJ o ho) _ (zx_find_in _ hf) _ List.mem_cons_self)) hd (kk H locs lsM hW hS hL)
  · cases ha

end STEP
