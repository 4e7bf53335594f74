/-! entry, calls by contract, the theorem -/
theorem zx_sl_len {ad : Nat → Nat} {vS : Value} (hS : vS = .null ∨ ∃ t, vS = .ref t) (as : List Value) : (lg_sl (as.map (zx_e ad vS))).length = (zx_en as).length := by
  induction as with
  | nil => rfl
  | cons a r ih =>
    unfold lg_sl at ih ⊢
    rw [List.map_cons, List.flatMap_cons, List.length_append, ih, zx_e_cat ad vS hS]
    show _ = (if a.category = 2 then a :: zx_u0 :: zx_en r else a :: zx_en r).length
    by_cases hc : a.category = 2
    · simp only [if_pos hc, List.length_cons, List.length_nil]; omega
    · simp only [if_neg hc, List.length_cons, List.length_nil]; omega
theorem zx_args_in {ad : Nat → Nat} {vS : Value} (hS : vS = .null ∨ ∃ t, vS = .ref t) : ∀ (as : List Value) (off i : Nat) (v : Value), (zx_en as)[i]? = some v → zx_fl v = false → (off + i, zx_e ad vS v) ∈ lv_args off (as.map (zx_e ad vS)) := by
  intro as
  induction as with
  | nil => intro off i v h; cases h
  | cons a r ih =>
    intro off i v h hf
    rw [List.map_cons]
    unfold lv_args
    unfold zx_en at h
    rw [zx_e_cat ad vS hS]
    by_cases hc : a.category = 2
    · rw [if_pos hc] at h ⊢
      match i, h with
      | 0, h => cases h; exact List.mem_cons_self
      | 1, h => cases h; cases hf
      | i + 2, h =>
        have := ih (off + 2) i v h hf
        rw [show off + (i + 2) = off + 2 + i by omega]
        exact List.mem_cons_of_mem _ this
    · rw [if_neg hc] at h ⊢
      match i, h with
      | 0, h => cases h; exact List.mem_cons_self
      | i + 1, h =>
        have := ih (off + 1) i v h hf
        rw [show off + (i + 1) = off + 1 + i by omega]
        exact List.mem_cons_of_mem _ this
theorem zx_entry {ad : Nat → Nat} {vS : Value} (hS : vS = .null ∨ ∃ t, vS = .ref t) {as : List Value} {mx : Nat} (h : (zx_en as).length ≤ mx) : zx_LR ad vS mx ((lg_sl (as.map (zx_e ad vS)) ++ List.replicate (mx - (lg_sl (as.map (zx_e ad vS))).length) Slot.unset).toArray) (zx_ent mx as) := by
  have hl := lv_entry (as.map (zx_e ad vS)) (n := mx) (by rw [zx_sl_len hS]; exact h)
  obtain ⟨g1, g2, g3⟩ := hl
  refine ⟨by unfold zx_ent; rw [List.length_append, List.length_replicate]; omega, g1, g2, fun i v hi hf => ?_⟩
  unfold zx_ent at hi
  by_cases hl : i < (zx_en as).length
  · rw [List.getElem?_append_left hl] at hi
    have := zx_args_in (ad := ad) hS as 0 i v hi hf
    rw [Nat.zero_add] at this
    exact g3 _ this
  · rw [List.getElem?_append_right (by omega), List.getElem?_replicate] at hi
    split at hi
    · cases hi; cases hf
    · cases hi
def zx_Wd (D : va_G) (G : Nat → ClassId) (ad : Nat → Nat) (vS : Value) (base Lh : Nat) (xs : Nat → Int32) (L : zx_Lay) (I : zx_MI) (J : zx_MJ) (U : State) : Prop := U.heap.size = base + L.2.2.1 ∧ zx_WH D G ad base L I J U.heap ∧ va_K D zx_cls (zx_tys G) U ∧ zx_SP ad vS base Lh xs U U.heap
abbrev zx_wsl (y : MethodName) (b : ByteArray) (mx : Nat) (rt : Option FieldType) : List Cond := .code y b mx rt :: zx_tb
abbrev zx_rm (d mc ms : Nat) : Room := { frames := d + 1, cells := mc, slots := ms, locals := 60 * (d + 1) }
def zx_Qc (D : va_G) (G : Nat → ClassId) (ad : Nat → Nat) (vS : Value) (base : Nat) (r : Option Value) (Lf : zx_Lay) (If : zx_MI) (Jf : zx_MJ) : Array Value → State → Outcome → State → Prop := fun _ st o t => o = .returned (r.map (zx_e ad vS)) ∧ zx_WH D G ad base Lf If Jf t.heap ∧ va_F (fun q => base ≤ q) st t
/-- what is claimed at a fuel -/
def zx_Sim (D : va_G) (G : Nat → ClassId) (ad : Nat → Nat) (vS : Value) (base Lh : Nat) (xs : Nat → Int32) (f : Nat) : Prop :=
  ∀ (d k o mx : Nat) (y : MethodName) (b : ByteArray) (rt : Option FieldType) (ini : Bool) (pc : Nat) (ls st : List Value) (L : zx_Lay) (I : zx_MI) (J : zx_MJ) (r : Option Value) (Lf : zx_Lay) (If : zx_MI) (Jf : zx_MJ), zx_ms k = some (o, y, b, mx, rt, ini) → zx_ex f d k pc ls st L I J = some (r, Lf, If, Jf) → zx_OK Lh xs L I J →
  ∀ (p : Program) (l : Launch) (e : Env) (R : Room) (s : State) (m : MethodId) (args : Array Value) (below : List Frame) (meth : Method) (c : Code) (Q : State → Prop) (n0 s0 : Nat), zx_Cx p s m args meth c D G ad vS base Lh xs o mx b rt ini → s.heap.size = base + n0 → n0 ≤ L.2.2.1 → s0 ≤ L.2.2.2 → Lf.2.2.1 - n0 ≤ R.cells → Lf.2.2.2 - s0 ≤ R.slots → d + 1 ≤ R.frames → 60 * (d + 1) ≤ R.locals →
  (∀ (pcr : Nat) (lsM : Array Slot) (H : Heap) (locs : List Loc) (i : Instr), decode b pcr = .ok (i, 1) → zx_rok rt Lf r i → zx_WH D G ad base Lf If Jf H → va_S (fun q => base ≤ q) s.heap H locs → W p l e R s m args below meth c H locs (Lf.2.2.1 - n0) (Lf.2.2.2 - s0) Q (F0 m pcr lsM (zx_pu (r.map (zx_e ad vS)) []))) →
  zx_AT p l e R s m args below meth c Q D G ad vS base mx n0 s0 pc ls st L I J
theorem zx_met {D : va_G} {G : Nat → ClassId} {ad : Nat → Nat} {vS : Value} {base Lh : Nat} {xs : Nat → Int32} {f : Nat} (hS : zx_Sim D G ad vS base Lh xs f) (l : Launch) {d k o mx : Nat} {y : MethodName} {b : ByteArray} {rt : Option FieldType} {ini : Bool} {as : List Value} {L Lf : zx_Lay} {I If : zx_MI} {J Jf : zx_MJ} {r : Option Value} (hm : zx_ms k = some (o, y, b, mx, rt, ini)) (hen : (zx_en as).length ≤ mx) (hex : zx_ex f d k 0 (zx_ent mx as) [] L I J = some (r, Lf, If, Jf)) (hO : zx_OK Lh xs L I J) :
    Met l y (zx_wsl y b mx rt) (zx_rm d (Lf.2.2.1 - L.2.2.1) (Lf.2.2.2 - L.2.2.2)) (va_Pc (as.map (zx_e ad vS)) (zx_Wd D G ad vS base Lh xs L I J)) (zx_Qc D G ad vS base r Lf If Jf) (Lf.2.2.1 - L.2.2.1) (Lf.2.2.2 - L.2.2.2) (fun q => base ≤ q) := by
  obtain ⟨h1, h2, h3, h4, h5⟩ := zx_ms_of hm
  refine Met.ofW (cc := b) (maxL := mx) (ret := rt) h4 rfl ?_
  intro p e s m args below meth c s₁ B hml hv
  obtain ⟨rfl, hz, hWH, hK, hSP⟩ := hv
  have hts := atoms_spec (ws := zx_wsl y b mx rt) B.pre
  have hown : s.vm.findClass (zx_cn o) = some m.cls := by rw [← h2]; exact findClass_of_methodNamed B.named
  have hS5 := hSP.2.2.2.2.2.2.2.2.2.2.2.1
  have C : zx_Cx p s m (as.map (zx_e ad vS)).toArray meth c D G ad vS base Lh xs o mx b rt ini := ⟨B.exec, B.bytes, hml, hown, fun w hw => hts w (List.mem_cons_of_mem _ hw), B.notSynchronized, B.returns, fun h => (name_of_methodNamed B.named B.method).1.trans (h5 h), hK, hSP, by rw [hz]; exact Nat.le_add_right _ _, h1⟩
  rw [lg_entry_eq]
  have key := hS d k o mx y b rt ini 0 (zx_ent mx as) [] L I J r Lf If Jf hm hex hO p l e (zx_rm d (Lf.2.2.1 - L.2.2.1) (Lf.2.2.2 - L.2.2.2)) s m (as.map (zx_e ad vS)).toArray below meth c (MQ below (zx_Qc D G ad vS base r Lf If Jf) (as.map (zx_e ad vS)).toArray s (Lf.2.2.1 - L.2.2.1) (Lf.2.2.2 - L.2.2.2) (fun q => base ≤ q)) L.2.2.1 L.2.2.2 C hz (Nat.le_refl _) (Nat.le_refl _) (Nat.le_refl _) (Nat.le_refl _) (Nat.le_refl _) (Nat.le_refl _) ?_ s.heap [] _ hWH va_S.rf (zx_entry hS5 hen)
  · rw [Nat.sub_self, Nat.sub_self] at key
    exact key
  · intro pcr lsM H locs i hd hr hW hS1
    have hq : ∀ t : State, t.heap = H → s.WarmedH t.vm → zx_Qc D G ad vS base r Lf If Jf (as.map (zx_e ad vS)).toArray s (.returned (r.map (zx_e ad vS))) t := fun t ht hw => ⟨rfl, by rw [ht]; exact hW, hS1.F ht⟩
    have hlocks := B.notSynchronized
    match r, hr, hq with
    | none, ⟨hi, hrt⟩, hq => subst hi; subst hrt; exact W.vret B.exec B.bytes B.returns hq hS1.2.2 hd
    | some (.int x), ⟨hi, hrt⟩, hq =>
      subst hi
      match rt, hrt, B with
      | some .int, _, B => exact W.zret B.exec B.bytes B.returns rfl hq hS1.2.2 hd
      | some .boolean, h01, B => exact W.zret B.exec B.bytes B.returns (by rcases h01 with rfl | rfl <;> rfl) hq hS1.2.2 hd
      | some .byte, h8, B => exact W.zret B.exec B.bytes B.returns (by show Value.int _ = _; rw [show x.toInt8.toInt32 = x from h8]) hq hS1.2.2 hd
      | some .char, h16, B => exact W.zret B.exec B.bytes B.returns (by
          have h16 : x &&& 65535 = x := h16
          obtain ⟨w, hw, e1, e2⟩ : ∃ w : Nat, w < 65536 ∧ (x.toUInt32 % 65536).toInt32 = nI w ∧ x &&& 65535 = nI w := by
            refine ⟨x.toBitVec.toNat % 65536, Nat.mod_lt _ (by decide), pk_char x, ?_⟩
            exact pk_and x (m := 65535) 16 (by decide +kernel)
          rw [h16] at e2
          rw [e2]
          exact (pk_charN hw).1) hq hS1.2.2 hd
    | some (.long x), ⟨hi, hrt⟩, hq => subst hi; subst hrt; exact W.lret B.exec B.bytes B.returns hq hS1.2.2 hd
    | some .null, ⟨hi, sn, hrt⟩, hq => subst hi; subst hrt; exact W.aret B.exec B.bytes B.returns (Or.inl ⟨_, rfl⟩) (Or.inl rfl) hq hS1.2.2 hd
    | some (.ref a), ⟨hi, ⟨sn, hrt⟩, hn⟩, hq =>
      subst hi; subst hrt
      have hOf := (zx_grow f d k 0 _ _ L I J _ Lf If Jf hex hO).1
      have e1 : zx_e ad vS (.ref a) = .ref (ad a) := zx_adw hOf.1 hn
      refine W.aret B.exec B.bytes B.returns (Or.inl ⟨_, rfl⟩) (Or.inr ⟨ad a, e1⟩) hq hS1.2.2 hd
theorem zx_after {p : Program} {l : Launch} {e : Env} {R : Room} {s : State} {m : MethodId} {args : Array Value} {below : List Frame} {meth : Method} {c : Code} {H : Heap} {locs : List Loc} {cells slots mc ms pc : Nat} {ls : Array Slot} {st0 rest : List Value} {Q : State → Prop} {A : Nat → Prop} {r : Option Value} {F : Heap → Prop} (hr : va_Run p l e R s m args below meth c H locs cells slots mc ms (F0 m pc ls st0) rest (fun st o t => o = .returned r ∧ F t.heap ∧ va_F A st t) A) (hS : va_S A s.heap H locs)
    (kk : ∀ (H1 : Heap) (locs1 : List Loc), F H1 → va_S A s.heap H1 locs1 → W p l e R s m args below meth c H1 locs1 (cells + mc) (slots + ms) Q (F0 m (pc + 3) ls (zx_pu r rest))) : W p l e R s m args below meth c H locs cells slots Q (F0 m pc ls st0) := by
  intro T hT X
  obtain ⟨v, st₀, t, T', L, h0, X', hL, e1, e2, ⟨hv, hF, hz, hk⟩, st⟩ := hr T hT X
  cases hv
  rw [h0] at hz hk
  obtain ⟨t2, a1, b1⟩ := kk T'.heap (locs ++ L) (by rw [e1]; exact hF) ⟨Nat.le_trans hS.1 (by rw [e1]; exact hz), fun q h1 h2 => by rw [e1, hk q (Nat.lt_of_lt_of_le h1 hS.1) h2]; exact hS.2.1 q h1 h2, fun q hq => by
      rcases List.mem_append.mp hq with h | h
      · exact hS.2.2 q h
      · exact hL q h⟩ T' rfl X'
  refine ⟨t2, st t2 ?_, b1⟩
  cases r with
  | none => exact a1
  | some v => exact a1
theorem zx_size {D : va_G} {G : Nat → ClassId} {ad : Nat → Nat} {vS : Value} {base Lh n0 : Nat} {xs : Nat → Int32} {s : State} {L : zx_Lay} {I : zx_MI} {J : zx_MJ} {H : Heap} {locs : List Loc} (hSP : zx_SP ad vS base Lh xs s s.heap) (hO : zx_OK Lh xs L I J) (hsz : s.heap.size = base + n0) (hn0 : n0 ≤ L.2.2.1) (hW : zx_WH D G ad base L I J H) (hS : va_S (fun q => base ≤ q) s.heap H locs) (hz : H.size ≤ s.heap.size + (L.2.2.1 - n0)) : H.size = base + L.2.2.1 := by
  have h1 : base + L.2.2.1 ≤ H.size := by
    rcases Nat.eq_zero_or_pos L.2.2.1 with h | h
    · have := hS.1; omega
    · have := (hW.1 _ _ (zx_ws_get (G := G) (ad := ad) (L := L) (I := I) (J := J) (show L.2.2.1 - 1 < L.2.2.1 by omega))).lt
      dsimp only at this
      rw [hSP.1 _ (by have := hO.1; omega)] at this
      omega
  omega
theorem zx_goodIn (ws : List Cond) (h : ∀ w ∈ ws, w ∈ zx_tb) : GoodIn zx_tb ws := fun w hw => ⟨h w hw, zx_good w (h w hw)⟩
theorem zx_cl_ret {L : zx_Lay} {f : Option (Nat × Nat × Nat)} {pc kk : Nat} {ls st : List Value} {I : zx_MI} {J : zx_MJ} {r : Option Value} : ¬ zx_cl L f pc ls I J kk st = some (.inr (.inl r)) := by
  intro h
  unfold zx_cl at h
  repeat' (first
    | (cases h; done)
    | (have h9 := (zx_if_inv h).2; cases h9; done)
    | split at h)
theorem zx_chkM3 : ∀ o, o < 21 → (zx_mths o).all (fun q => decide (q.2.1 < 284 ∨ (990 ≤ q.2.1 ∧ q.2.1 ≤ 994) ∨ q.2.1 = 998 ∨ q.2.1 = 999)) = true := by decide +kernel
def zx_wK (o x kd : Nat) (y : MethodName) : List Cond := match kd with
  | 2 => [.methodLink (zx_cn o) x y, .initialized y.cls, .static y]
  | 0 => [.methodLink (zx_cn o) x y, .initialized y.cls, .instanceMethod y, .selects y.cls y y]
  | 1 => [.methodLink (zx_cn o) x y, .initialized y.cls, .instanceMethod y]
  | _ => [.initialized y.cls, .instanceMethod y]
/-- a call's table row, read -/
theorem zx_mt_of {o x k na kd o2 mx : Nat} {y : MethodName} {b : ByteArray} {rt : Option FieldType} {ini : Bool} (ho : o < 21) (hf : zx_find (zx_mths o) x = some (k, na, kd)) (hk : k < 990 ∨ 1000 ≤ k ∨ (994 < k ∧ k < 998)) (hm : zx_ms k = some (o2, y, b, mx, rt, ini)) :
    k < 284 ∧ (y.cls ≠ "java/lang/invoke/MethodHandle" ∧ y.cls ≠ "java/lang/invoke/VarHandle" ∧ (parseMethodDescriptor y.desc).map (fun d => d.parameters.length) = some na) ∧ (kd = 0 → 1 ≤ o2 ∧ o2 ≤ 12 ∨ o2 = 16) ∧ (kd = 1 → y.name = "<init>" ∧ rt = none) ∧ (kd = 3 → y.name = "<init>" ∧ rt = none ∧ Cond.methodLinkNest (zx_cn o) x y "TurnedStatues" ∈ zx_nest) ∧
    (∀ w ∈ zx_wK o x kd y, w ∈ zx_tb) := by
  have hin := zx_find_in _ hf
  have h3 := List.all_eq_true.mp (zx_chkM3 o ho) _ hin
  simp only [decide_eq_true_eq] at h3
  have hk2 : k < 284 := by omega
  have h2 := List.all_eq_true.mp (zx_chkM2 o ho) _ hin
  have h1 := zx_chkM o _ hin
  have e : zx_wM o (x, k, na, kd) = zx_wK o x kd y := by
    unfold zx_wM
    dsimp only
    split
    any_goals omega
    rw [hm]
    rfl
  rw [e] at h1
  unfold zx_ckm at h2
  dsimp only at h2
  rw [if_neg (by omega), if_neg (by omega), hm] at h2
  dsimp only at h2
  simp only [Bool.and_eq_true, decide_eq_true_eq, beq_iff_eq] at h2
  obtain ⟨⟨⟨⟨⟨⟨a1, a2⟩, a3⟩, a4⟩, a5⟩, a6⟩, a7⟩ := h2
  refine ⟨hk2, ⟨a2, a3, a4⟩, fun z => ?_, fun z => ?_, fun z => ?_, h1⟩
  · subst z; simpa using a7
  · subst z; simpa using a7
  · subst z
    simp only [Bool.and_eq_true, decide_eq_true_eq] at a7
    exact ⟨a7.1.1, a7.1.2, a7.2⟩
theorem zx_sim {D : va_G} {G : Nat → ClassId} {ad : Nat → Nat} {vS : Value} {base Lh : Nat} {xs : Nat → Int32} : ∀ f, zx_Sim D G ad vS base Lh xs f := by
  intro f
  induction f with
  | zero => intro d k o mx y b rt ini pc ls st L I J r Lf If Jf hm hex; cases hex
  | succ f ih =>
    intro d k o mx y b rt ini pc ls st L I J r Lf If Jf hm hex hO p l e R s m args below meth c Q n0 s0 C hsz hn0 hs0 hr1 hr2 hfr hlo hret
    obtain ⟨g0, g1, g2⟩ := zx_grow (f + 1) d k pc ls st L I J r Lf If Jf hex hO
    rw [zx_ex_s, hm] at hex
    dsimp only at hex
    cases hd : decode b pc with
    | error z => rw [hd] at hex; cases hex
    | ok q =>
      obtain ⟨i, len⟩ := q
      rw [hd] at hex
      dsimp only at hex
      by_cases hl : len = zx_len i ∨ zx_sw i = true
      case neg => rw [if_neg hl] at hex; cases hex
      rw [if_pos hl] at hex
      cases ha : zx_act o rt ini pc i ls st L I J with
      | none => rw [ha] at hex; cases hex
      | some a =>
        rw [ha] at hex
        rcases a with ⟨pc2, ls2, st2, L2, I2, J2⟩ | q
        · dsimp only at hex
          obtain ⟨h1, h2, h3⟩ := zx_act_ok C.2.2.2.2.2.2.2.2.2.2.2 hO ha
          obtain ⟨-, h5, h6⟩ := zx_grow f d k pc2 ls2 st2 L2 I2 J2 r Lf If Jf hex h1
          exact zx_step hO hsz hn0 hs0 (by omega) (by omega) (by omega) (by omega) (by omega) (by omega) C hd hl ha (ih d k o mx y b rt ini pc2 ls2 st2 L2 I2 J2 r Lf If Jf hm hex h1 p l e R s m args below meth c Q n0 s0 C hsz (by omega) (by omega) hr1 hr2 hfr hlo hret)
        · have hin := zx_act_inr ha
          rcases q with r2 | ⟨k2, as, st2⟩
          · dsimp only at hex
            cases hex
            rcases hin with ⟨r3, h1, h2, h3⟩ | ⟨x, -, h⟩ | ⟨x, -, h⟩ | ⟨x, -, h⟩
            · cases h1
              subst h3
              intro H locs lsM hW hS hL
              have hlen : len = 1 := by
                rcases hl with hl | hl
                · rw [hl]
                  cases r with
                  | none => rw [h2.1]; rfl
                  | some v => cases v with
                    | int _ => rw [h2.1]; rfl
                    | long _ => rw [h2.1]; rfl
                    | null => rw [h2.1]; rfl
                    | ref _ => rw [h2.1]; rfl
                    | _ => exact h2.elim
                · exfalso
                  cases r with
                  | none => rw [h2.1] at hl; cases hl
                  | some v => cases v with
                    | int _ => rw [h2.1] at hl; cases hl
                    | long _ => rw [h2.1] at hl; cases hl
                    | null => rw [h2.1] at hl; cases hl
                    | ref _ => rw [h2.1] at hl; cases hl
                    | _ => exact h2.elim
              subst hlen
              have := hret pc lsM H locs i hd h2 hW hS
              cases r <;> exact this
            all_goals
              exact absurd h zx_cl_ret
          · dsimp only at hex
            cases d with
            | zero => cases hex
            | succ d =>
              cases hk : zx_ms k2 with
              | none => rw [hk] at hex; cases hex
              | some mk =>
                obtain ⟨o2, y2, b2, mx2, rt2, ini2⟩ := mk
                rw [hk] at hex
                dsimp only at hex
                by_cases hen : (zx_en as).length ≤ mx2
                case neg => rw [if_neg hen] at hex; cases hex
                rw [if_pos hen] at hex
                cases hc : zx_ex f d k2 0 (zx_ent mx2 as) [] L I J with
                | none => rw [hc] at hex; cases hex
                | some q =>
                  obtain ⟨r2, L2, I2, J2⟩ := q
                  rw [hc] at hex
                  dsimp only at hex
                  obtain ⟨h1, h2, h3⟩ := zx_grow f d k2 0 _ _ L I J r2 L2 I2 J2 hc hO
                  obtain ⟨-, h5, h6⟩ := zx_grow f (d + 1) k (pc + 3) ls (zx_pu r2 st2) L2 I2 J2 r Lf If Jf hex h1
                  have hM := zx_met ih l hk hen hc hO
                  have kk := ih (d + 1) k o mx y b rt ini (pc + 3) ls (zx_pu r2 st2) L2 I2 J2 r Lf If Jf hm hex h1 p l e R s m args below meth c Q n0 s0 C hsz (by omega) (by omega) hr1 hr2 hfr hlo hret
                  obtain ⟨hx, hb, hml, hown, hts, hlocks, hrt, hini, hK, hSP, hbase, ho⟩ := C
                  have hS5 := hSP.2.2.2.2.2.2.2.2.2.2.2.1
                  obtain ⟨q1, q2, q3, q4, q5⟩ := zx_ms_of hk
                  intro H locs lsM hW hS hL
                  refine zx_hs (fun hz => ?_)
                  have hz := zx_size hSP hO hsz hn0 hW hS hz
                  have hcat : ∀ st : List Value, zx_cs st ≤ 8 → 2 * (F0 m pc lsM (st.map (zx_e ad vS))).monitorRoom + ((st.map (zx_e ad vS)).map (fun v => v.category)).sum ≤ 8 := fun st h => by rw [zx_cs_e hS5]; show 2 * 0 + zx_cs st ≤ 8; omega
                  have hPc : ∀ U : State, U.heap = H → s.WarmedH U.vm → va_Pc (as.map (zx_e ad vS)) (zx_Wd D G ad vS base Lh xs L I J) (as.map (zx_e ad vS)).toArray U := fun U hU hW2 => ⟨rfl, by rw [hU]; exact hz, by rw [hU]; exact hW, va_K.moved hW2.alike hK, by rw [hU]; exact hSP.moved hW2 hS.2.1 (Nat.lt_of_lt_of_le hSP.2.1 hbase)⟩
                  have hbl : FrameBlind (va_Pc (as.map (zx_e ad vS)) (zx_Wd D G ad vS base Lh xs L I J)) := fun a U g mk q => ⟨q.1, q.2.1, q.2.2.1, va_K.moved (u := U) (U := U.calling g mk a) (Vm.Alike.refl U.vm) q.2.2.2.1, zx_SP.vm (s := U) (U := U.calling g mk a) q.2.2.2.2 rfl⟩
                  have hfit : (L.2.2.1 - n0) + (L2.2.2.1 - L.2.2.1) ≤ R.cells ∧ (L.2.2.2 - s0) + (L2.2.2.2 - L.2.2.2) ≤ R.slots := ⟨by omega, by omega⟩
                  have hR : (zx_rm d (L2.2.2.1 - L.2.2.1) (L2.2.2.2 - L.2.2.2)).frames + 1 ≤ R.frames ∧ 8 + (mx2 + 11) + (zx_rm d (L2.2.2.1 - L.2.2.1) (L2.2.2.2 - L.2.2.2)).locals ≤ R.locals := ⟨hfr, by show 8 + (mx2 + 11) + 60 * (d + 1) ≤ R.locals; omega⟩
                  have hcells : L2.2.2.1 - n0 = (L.2.2.1 - n0) + (L2.2.2.1 - L.2.2.1) := by omega
                  have hslots : L2.2.2.2 - s0 = (L.2.2.2 - s0) + (L2.2.2.2 - L.2.2.2) := by omega
                  have hgo : ∀ (H1 : Heap) (locs1 : List Loc), zx_WH D G ad base L2 I2 J2 H1 → va_S (fun q => base ≤ q) s.heap H1 locs1 → W p l e R s m args below meth c H1 locs1 ((L.2.2.1 - n0) + (L2.2.2.1 - L.2.2.1)) ((L.2.2.2 - s0) + (L2.2.2.2 - L.2.2.2)) Q (F0 m (pc + 3) lsM (zx_pu (r2.map (zx_e ad vS)) (st2.map (zx_e ad vS)))) := fun H1 locs1 hW1 hS1 => by
                    have k1 := kk H1 locs1 lsM hW1 hS1 hL
                    rw [hcells, hslots] at k1
                    cases r2 <;> exact k1
                  have hlen : ∀ x, (i = .invokevirtual x ∨ i = .invokespecial x ∨ i = .invokestatic x) → len = 3 := fun x hx => by
                    rcases hl with hl | hl
                    · rw [hl]; rcases hx with rfl | rfl | rfl <;> rfl
                    · rcases hx with rfl | rfl | rfl <;> cases hl
                  have hCF : CallFix p m c b mx s args zx_tb (zx_cn o) := ⟨hx, hb, hml, hown, hts⟩
                  rcases hin with ⟨_, h, -⟩ | ⟨x, rfl, h⟩ | ⟨x, rfl, h⟩ | ⟨x, rfl, h⟩
                  · cases h
                  · obtain ⟨na, kd, c2, w, hf, hk3, hcs, hkk, hcase⟩ := zx_cl_inr h
                    rw [hk] at hk3
                    cases hk3
                    obtain ⟨t1, t2, t3, t4, t5, t6⟩ := zx_mt_of ho hf hkk hk
                    have hcw := zx_cw (by omega) hk
                    obtain rfl := hlen x (Or.inl rfl)
                    rcases hcase with ⟨z, -⟩ | ⟨-, rfl, a, as2, rfl, htk, hrc⟩ | ⟨z, -⟩
                    · cases z
                    · obtain ⟨u1, u2⟩ := zx_tk_inv htk
                      have ha : zx_e ad vS (.ref a) = .ref (ad a) := zx_eref (by
                        rintro rfl
                        rw [(hO.2.2.2.2 5030 (by omega)).1] at hrc
                        have : zx_sK Lh 5030 = (99, 0) := rfl
                        rw [this] at hrc
                        have := (Prod.mk.inj hrc).1
                        rcases t3 rfl with t | t <;> omega)
                      have hrecv : ∃ cellB : Cell, H[ad a]? = some cellB ∧ cellB.vm.isStatics = false ∧ s.vm.findClass y2.cls = some cellB.cls := by
                        rw [q2]
                        rcases zx_obj hO hrc with ⟨v1, v2, v3⟩ | ⟨v, -⟩ | ⟨v, i, hi, rfl⟩
                        · have he := zx_ws_get (G := G) (ad := ad) (L := L) (I := I) (J := J) v1
                          rw [zx_cell_o v2 hrc] at he
                          exact va_recv hK hW.1 (zx_clsg v2 v3) he
                        · rcases t3 rfl with t | t <;> omega
                        · subst v
                          exact vk_recv (adK := fun i => ad (5010 + i)) (i := i) hSP.2.2.2.2.2.2.2.1 hi hS
                      refine zx_after (F := zx_WH D G ad base L2 I2 J2) (va_runV (As := as2.map (zx_e ad vS)) (rest := st2.map (zx_e ad vS)) (b := ad a) hCF hM (cwV na hts (zx_goodIn _ (fun w hw => ?_)) rfl rfl rfl ⟨rfl, t2⟩ hR) ⟨hbl, hrecv, fun U hU hW2 => ?_⟩ rfl ?_ hL.2.1 ?_ (hcat _ hcs) hd hfit) hS hgo
                      · unfold wsV at hw
                        rcases List.mem_append.mp hw with hw | hw
                        · exact t6 w (by unfold zx_wK; simp only [List.mem_cons, List.not_mem_nil, or_false] at hw ⊢; rcases hw with h | h | h | h <;> simp [h])
                        · rcases List.mem_cons.mp hw with rfl | hw
                          · exact hcw
                          · exact hw
                      · have := hPc U hU hW2
                        rw [List.map_cons, ha] at this ⊢
                        exact this
                      · rw [List.length_map]
                        have := u2
                        simp at this
                        exact this
                      · show st.map (zx_e ad vS) = _
                        rw [u1]
                        simp [ha]
                    · cases z
                  · obtain ⟨na, kd, c2, w, hf, hk3, hcs, hkk, hcase⟩ := zx_cl_inr h
                    rw [hk] at hk3
                    cases hk3
                    obtain ⟨t1, t2, t3, t4, t5, t6⟩ := zx_mt_of ho hf hkk hk
                    have hcw := zx_cw (by omega) hk
                    obtain rfl := hlen x (Or.inr (Or.inl rfl))
                    rcases hcase with ⟨z, -⟩ | ⟨z, -⟩ | ⟨-, hkd, a, as2, rfl, htk, ha5⟩
                    · cases z
                    · cases z
                    · obtain ⟨u1, u2⟩ := zx_tk_inv htk
                      have hwd : ∀ w ∈ zx_wsl y2 b2 mx2 rt2, w ∈ zx_tb := fun w hw => by
                        rcases List.mem_cons.mp hw with rfl | hw
                        · exact hcw
                        · exact hw
                      have hst : st.map (zx_e ad vS) = (as2.map (zx_e ad vS)).reverse ++ zx_e ad vS (.ref a) :: st2.map (zx_e ad vS) := by
                        rw [u1]
                        simp
                      have hn2 : (as2.map (zx_e ad vS)).length = na := by
                        rw [List.length_map]
                        have := u2
                        simp at this
                        exact this
                      by_cases h5030 : a = 5030
                      · rw [h5030] at ha5; exact absurd ha5 (by decide)
                      · have ha : zx_e ad vS (.ref a) = .ref (ad a) := zx_eref h5030
                        rw [ha] at hst
                        have hPc2 : ∀ U : State, U.heap = H → s.WarmedH U.vm → va_Pc ((Value.ref a :: as2).map (zx_e ad vS)) (zx_Wd D G ad vS base Lh xs L I J) (Value.ref (ad a) :: as2.map (zx_e ad vS)).toArray U := fun U hU hW2 => by
                          have := hPc U hU hW2
                          rw [List.map_cons, ha] at this ⊢
                          exact this
                        rcases hkd with rfl | rfl
                        · obtain ⟨w1, rfl⟩ := t4 rfl
                          exact zx_after (F := zx_WH D G ad base L2 I2 J2) (va_runI (As := as2.map (zx_e ad vS)) (rest := st2.map (zx_e ad vS)) (b := ad a) hCF hM (cwI na hts (zx_goodIn _ hwd) rfl rfl rfl (hts _ (t6 _ (by simp [zx_wK]))) (hts _ (t6 _ (by simp [zx_wK]))) (hts _ (t6 _ (by simp [zx_wK]))) w1 t2 hR) ⟨hbl, hPc2⟩ rfl hn2 hL.2.1 hst (hcat _ hcs) hd hfit) hS hgo
                        · obtain ⟨w1, rfl, w2⟩ := t5 rfl
                          exact zx_after (F := zx_WH D G ad base L2 I2 J2) (va_runIN (As := as2.map (zx_e ad vS)) (rest := st2.map (zx_e ad vS)) (b := ad a) (host := "TurnedStatues") hCF hM ⟨va_cnB na hts (zx_goodIn _ hwd) rfl rfl rfl (hSP.2.2.2.2.2.2.2.2.2.2.2.2.2 _ w2) (hts _ (t6 _ (by simp [zx_wK]))) t2 hR, w1, hts _ (t6 _ (by simp [zx_wK]))⟩ ⟨hbl, hPc2⟩ rfl hn2 hL.2.1 hst (hcat _ hcs) hd hfit) hS hgo
                  · obtain ⟨na, kd, c2, w, hf, hk3, hcs, hkk, hcase⟩ := zx_cl_inr h
                    rw [hk] at hk3
                    cases hk3
                    obtain ⟨t1, t2, t3, t4, t5, t6⟩ := zx_mt_of ho hf hkk hk
                    have hcw := zx_cw (by omega) hk
                    obtain rfl := hlen x (Or.inr (Or.inr rfl))
                    rcases hcase with ⟨-, rfl, htk⟩ | ⟨z, -⟩ | ⟨z, -⟩
                    · obtain ⟨u1, u2⟩ := zx_tk_inv htk
                      refine zx_after (F := zx_WH D G ad base L2 I2 J2) (va_runS (As := as.map (zx_e ad vS)) (rest := st2.map (zx_e ad vS)) hCF hM (va_cwS na hts (zx_goodIn _ (fun w hw => ?_)) rfl rfl rfl t2 hR) ⟨hbl, hPc⟩ rfl (by rw [List.length_map]; exact u2) hL.2.1 ?_ (hcat _ hcs) hd hfit) hS hgo
                      · unfold va_wsS at hw
                        rcases List.mem_append.mp hw with hw | hw
                        · exact t6 w (by unfold zx_wK; simp only [List.mem_cons, List.not_mem_nil, or_false] at hw ⊢; rcases hw with h | h | h <;> simp [h])
                        · rcases List.mem_cons.mp hw with rfl | hw
                          · exact hcw
                          · exact hw
                      · show st.map (zx_e ad vS) = _
                        rw [u1]
                        simp
                    · cases z
                    · cases z
