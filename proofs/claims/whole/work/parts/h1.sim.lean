/-! ===== the machine does what the abstract machine does ===== -/
/-! cells -/
def zx_e (ad : Nat → Nat) (vS : Value) (v : Value) : Value := match v with
  | .ref k => if k = 5030 then vS else .ref (ad k)
  | v => v
abbrev zx_cls : List vw_C := (List.range 12).map (fun i => (zx_cn (i + 1), zx_T (i + 1), zx_nf (i + 1)))
def zx_fv (ad : Nat → Nat) (r : Nat → Option Nat) (f : Nat → Int32) (g : Nat → Int64) (i t : Nat) : Value := if t = 2 then .long (g i) else if t = 3 then va_rf ((r i).map ad) else .int (f i)
def zx_cellOf (G : Nat → ClassId) (ad : Nat → Nat) (q : Nat × Nat) (r : Nat → Option Nat) (f : Nat → Int32) (g : Nat → Int64) : va_E :=
  if q.1 < 3 then .inl (G q.1, q.2, .inl f)
  else if q.1 = 3 then .inl (G 3, q.2, .inr (.inl g))
  else if q.1 < 40 then .inl (G q.1, q.2, .inr (.inr (.inr (.inr (fun j => (r j).map ad)))))
  else .inr (q.1 - 41, (List.range (zx_nf (q.1 - 40))).map (fun i => zx_fv ad r f g i (zx_tyc (zx_ty (q.1 - 40) i))))
def zx_cell (G : Nat → ClassId) (ad : Nat → Nat) (L : zx_Lay) (I : zx_MI) (J : zx_MJ) (k : Nat) : va_E := zx_cellOf G ad (L.1 k) (L.2.1 k) (I k) (J k)
def zx_ws (G : Nat → ClassId) (ad : Nat → Nat) (L : zx_Lay) (I : zx_MI) (J : zx_MJ) : va_W := (List.range L.2.2.1).map (fun k => (ad k, zx_cell G ad L I J k))
abbrev zx_tys (G : Nat → ClassId) : List (ClassId × FieldType) := [(G 0, .int), (G 1, .byte), (G 2, .boolean), (G 3, .long), (G 16, .object RX6), (G 17, .object RX7), (G 19, .object RX9)]
def zx_gk (q : Nat × Nat) : Prop := q.1 ≤ 3 ∨ q.1 = 16 ∨ q.1 = 17 ∨ q.1 = 19 ∨ (41 ≤ q.1 ∧ q.1 ≤ 52 ∧ q.2 = 0)
/-- what always holds of the cells -/
def zx_OK (Lh : Nat) (xs : Nat → Int32) (L : zx_Lay) (I : zx_MI) (J : zx_MJ) : Prop :=
  L.2.2.1 ≤ 4000 ∧ (∀ a, a < L.2.2.1 → zx_gk (L.1 a)) ∧ (∀ a j k, a < L.2.2.1 → L.2.1 a j = some k → k < L.2.2.1) ∧
  (∀ a, L.2.2.1 ≤ a → a < 5000 → L.1 a = (99, 0) ∧ ∀ j, L.2.1 a j = none ∧ I a j = 0 ∧ J a j = 0) ∧
  (∀ a, 5000 ≤ a → L.1 a = zx_sK Lh a ∧ ∀ j, L.2.1 a j = zx_sR a j ∧ I a j = zx_sI xs a j)
/-- the world's cells in a heap -/
def zx_WH (D : va_G) (G : Nat → ClassId) (ad : Nat → Nat) (base : Nat) (L : zx_Lay) (I : zx_MI) (J : zx_MJ) (H : Heap) : Prop :=
  va_P D zx_cls (zx_ws G ad L I J) H ∧ va_D (fun q => base ≤ q) (zx_ws G ad L I J)
/-- what was there before: the script, two rows of numbers, texts -/
def zx_SP (ad : Nat → Nat) (vS : Value) (base Lh : Nat) (xs : Nat → Int32) (U : State) (H : Heap) : Prop :=
  (∀ k, k < 5000 → ad k = base + k) ∧ ad 5000 < base ∧ va_X (ad 5000) Lh xs U H ∧
  va_Z "TurnedStatues" "ALONG_X" "[I" (.ref (ad 5001)) (fun q => base ≤ q) U H ∧ va_T .int (ad 5001) 8 (fun j => .int (zx_alX.getD j 0)) (fun q => base ≤ q) U H ∧
  va_Z "TurnedStatues" "ALONG_Y" "[I" (.ref (ad 5002)) (fun q => base ≤ q) U H ∧ va_T .int (ad 5002) 8 (fun j => .int (zx_alY.getD j 0)) (fun q => base ≤ q) U H ∧
  vk_S 5 (zx_sb.map List.length) zx_sb (fun i => ad (5010 + i)) (fun i => ad (5020 + i)) (fun q => base ≤ q) U H ∧
  (∀ o x q, zx_find (zx_strs o) x = some q → ∃ tx, vk_R (zx_cn o) x tx (ad (5010 + q)) U) ∧
  va_Z "java/lang/String" "COMPACT_STRINGS" "Z" (.int 1) (fun q => base ≤ q) U H ∧
  va_Z "jdk/internal/util/Preconditions" "SIOOBE_FORMATTER" "Ljava/util/function/BiFunction;" vS (fun q => base ≤ q) U H ∧ (vS = .null ∨ ∃ t, vS = .ref t) ∧
  (va_AO RX6 U ∧ va_AO RX7 U ∧ va_AO RX9 U) ∧ ∀ w ∈ zx_nest, va_Nw w U
theorem zx_SP.moved {ad : Nat → Nat} {vS : Value} {base Lh : Nat} {xs : Nat → Int32} {s U : State} {H H1 : Heap} (h : zx_SP ad vS base Lh xs s H) (hW : s.WarmedH U.vm) (hq : ∀ a : Nat, a < H.size → ¬ base ≤ a → H1[a]? = H[a]?) (hb : ad 5000 < H.size) : zx_SP ad vS base Lh xs U H1 := by
  obtain ⟨h0, h1, h2, h3, h4, h5, h6, h7, h8, h9, h10, h11, ⟨h12, h13, h14⟩, h15⟩ := h
  have hv := hW.alike
  refine ⟨h0, h1, (h2.moved hv).kept (hq _ hb (by omega)), (h3.moved hv).kept hq, (h4.moved hv).kept hq, (h5.moved hv).kept hq, (h6.moved hv).kept hq, (h7.moved hv).kept hq, fun o x q e => ?_, (h9.moved hv).kept hq, (h10.moved hv).kept hq, h11, ⟨h12.moved hv, h13.moved hv, h14.moved hv⟩, fun w hw => ?_⟩
  · obtain ⟨tx, k⟩ := h8 o x q e
    exact ⟨tx, vk_R.warm hW k⟩
  · have k := h15 w hw
    revert k
    have hn : ∀ v ∈ zx_nest, (∃ a i x h, v = .methodLinkNest a i x h) ∨ ∃ a i b n d h, v = .fieldLinkNest a i b n d h := by
      intro v hv
      simp only [zx_nest, List.mem_cons, List.not_mem_nil, or_false] at hv
      rcases hv with rfl | rfl | rfl | rfl | rfl | rfl | rfl | rfl | rfl | rfl | rfl <;> first | exact Or.inl ⟨_, _, _, _, rfl⟩ | exact Or.inr ⟨_, _, _, _, _, _, rfl⟩
    rcases hn w hw with ⟨a, i, x, h, rfl⟩ | ⟨a, i, b, n, d, h, rfl⟩
    · exact fun k => va_Nw.warmM hW k
    · exact fun k => va_Nw.warmF hW k
theorem zx_SP.vm {ad : Nat → Nat} {vS : Value} {base Lh : Nat} {xs : Nat → Int32} {s U : State} {H : Heap} (h : zx_SP ad vS base Lh xs s H) (hv : U.vm = s.vm) : zx_SP ad vS base Lh xs U H := by
  obtain ⟨h0, h1, h2, h3, h4, h5, h6, h7, h8, h9, h10, h11, ⟨h12, h13, h14⟩, h15⟩ := h
  have ha : s.vm.Alike U.vm := by rw [hv]; exact Vm.Alike.refl _
  refine ⟨h0, h1, h2.moved ha, h3.moved ha, h4.moved ha, h5.moved ha, h6.moved ha, h7.moved ha, fun o x q e => ?_, h9.moved ha, h10.moved ha, h11, ⟨h12.moved ha, h13.moved ha, h14.moved ha⟩, fun w hw => ?_⟩
  · obtain ⟨tx, k⟩ := h8 o x q e
    exact ⟨tx, vk_R.same hv k⟩
  · refine va_Nw.same ?_ hv.symm (h15 w hw)
    simp only [zx_nest, List.mem_cons, List.not_mem_nil, or_false] at hw
    rcases hw with rfl | rfl | rfl | rfl | rfl | rfl | rfl | rfl | rfl | rfl | rfl <;> rfl
/-! a row of the world -/
theorem zx_ws_get {G : Nat → ClassId} {ad : Nat → Nat} {L : zx_Lay} {I : zx_MI} {J : zx_MJ} {k : Nat} (h : k < L.2.2.1) : (zx_ws G ad L I J)[k]? = some (ad k, zx_cell G ad L I J k) := by
  unfold zx_ws
  rw [List.getElem?_map, List.getElem?_range h]
  rfl
theorem zx_ws_set {G : Nat → ClassId} {ad : Nat → Nat} {L L2 : zx_Lay} {I I2 : zx_MI} {J J2 : zx_MJ} {a : Nat} {c : va_E} (hn : L2.2.2.1 = L.2.2.1) (ho : ∀ j, j ≠ a → zx_cell G ad L2 I2 J2 j = zx_cell G ad L I J j) (hc : c = zx_cell G ad L2 I2 J2 a) : (zx_ws G ad L I J).set a (ad a, c) = zx_ws G ad L2 I2 J2 := by
  apply List.ext_getElem?
  intro k
  subst hc
  unfold zx_ws
  rw [hn]
  by_cases hk : k = a
  · subst hk
    rw [List.getElem?_set_self']
    by_cases hl : k < L.2.2.1
    · simp [hl]
    · simp [hl]
  · rw [List.getElem?_set_ne (Ne.symm hk)]
    by_cases hl : k < L.2.2.1
    · simp [hl, ho k hk]
    · simp [hl]
theorem zx_ws_push {G : Nat → ClassId} {ad : Nat → Nat} {L L2 : zx_Lay} {I : zx_MI} {J : zx_MJ} (hn : L2.2.2.1 = L.2.2.1 + 1) (ho : ∀ j, j < L.2.2.1 → zx_cell G ad L2 I J j = zx_cell G ad L I J j) : zx_ws G ad L I J ++ [(ad L.2.2.1, zx_cell G ad L2 I J L.2.2.1)] = zx_ws G ad L2 I J := by
  unfold zx_ws
  rw [hn, List.range_succ, List.map_append]
  congr 1
  refine List.map_congr_left fun k hk => ?_
  rw [ho k (List.mem_range.mp hk)]
theorem zx_u_at {α : Type} (M : Nat → Nat → α) (a i : Nat) (v : α) : zx_u M a i v a = fun j => if j = i then v else M a j := by
  funext j
  simp [zx_u]
theorem zx_u_off {α : Type} (M : Nat → Nat → α) (a i : Nat) (v : α) {b : Nat} (h : b ≠ a) : zx_u M a i v b = M b := by
  funext j
  simp [zx_u, h]
/-! locals -/
def zx_fl (v : Value) : Bool := match v with
  | .float _ => true
  | _ => false
def zx_LR (ad : Nat → Nat) (vS : Value) (mx : Nat) (lsM : Array Slot) (ls : List Value) : Prop := ls.length = mx ∧ lsM.size = mx ∧ lv_wf lsM ∧ ∀ (i : Nat) (v : Value), ls[i]? = some v → zx_fl v = false → lsM[i]? = some (Slot.val (zx_e ad vS v))
def zx_pr (ad : Nat → Nat) (vS : Value) (ls : List Value) : List (Nat × Value) := (List.range ls.length).filterMap (fun i => match ls[i]? with
  | some v => if zx_fl v = true then none else some (i, zx_e ad vS v)
  | none => none)
theorem zx_pr_in {ad : Nat → Nat} {vS : Value} {ls : List Value} {i : Nat} {v : Value} (h : ls[i]? = some v) (hf : zx_fl v = false) : (i, zx_e ad vS v) ∈ zx_pr ad vS ls := by
  unfold zx_pr
  refine List.mem_filterMap.mpr ⟨i, List.mem_range.mpr (List.getElem?_eq_some_iff.mp h).1, ?_⟩
  rw [h]
  simp [hf]
theorem zx_LR.has {ad : Nat → Nat} {vS : Value} {mx : Nat} {lsM : Array Slot} {ls : List Value} (h : zx_LR ad vS mx lsM ls) : lv_has lsM mx (zx_pr ad vS ls) := by
  obtain ⟨h1, h2, h3, h4⟩ := h
  refine ⟨h2, h3, fun q hq => ?_⟩
  obtain ⟨i, hi, e⟩ := List.mem_filterMap.mp hq
  cases hv : ls[i]? with
  | none => rw [hv] at e; cases e
  | some v =>
    rw [hv] at e
    dsimp only at e
    by_cases hf : zx_fl v = true
    · rw [if_pos hf] at e; cases e
    · rw [if_neg hf] at e
      cases e
      exact h4 i v hv (by simpa using hf)
/-! the context of a method's run -/
def zx_Cx (p : Program) (s : State) (m : MethodId) (args : Array Value) (meth : Method) (c : Code) (D : va_G) (G : Nat → ClassId) (ad : Nat → Nat) (vS : Value) (base Lh : Nat) (xs : Nat → Int32) (o mx : Nat) (b : ByteArray) (rt : Option FieldType) (ini : Bool) : Prop :=
  p.tables.exec = Jvm.exec ∧ c.code = b ∧ c.maxLocals = mx ∧ s.vm.findClass (zx_cn o) = some m.cls ∧ (∀ w ∈ zx_tb, w.before args s = true) ∧ meth.locks = false ∧ meth.sig.returnType = rt ∧ (ini = true → meth.name = "<init>") ∧ va_K D zx_cls (zx_tys G) s ∧ zx_SP ad vS base Lh xs s s.heap ∧ base ≤ s.heap.size ∧ o < 21
def zx_AT (p : Program) (l : Launch) (e : Env) (R : Room) (s : State) (m : MethodId) (args : Array Value) (below : List Frame) (meth : Method) (c : Code) (Q : State → Prop) (D : va_G) (G : Nat → ClassId) (ad : Nat → Nat) (vS : Value) (base mx n0 s0 : Nat) (pc : Nat) (ls st : List Value) (L : zx_Lay) (I : zx_MI) (J : zx_MJ) : Prop :=
  ∀ (H : Heap) (locs : List Loc) (lsM : Array Slot), zx_WH D G ad base L I J H → va_S (fun q => base ≤ q) s.heap H locs → zx_LR ad vS mx lsM ls → W p l e R s m args below meth c H locs (L.2.2.1 - n0) (L.2.2.2 - s0) Q (F0 m pc lsM (st.map (zx_e ad vS)))
/-! inversions -/
theorem zx_p_inv {pc : Nat} {ls : List Value} {L : zx_Lay} {I : zx_MI} {J : zx_MJ} {o : Option (List Value)} {q : zx_N} (h : zx_p pc ls L I J o = some (.inl q)) : ∃ st, o = some st ∧ q = (pc, ls, st, L, I, J) := by
  cases o with
  | none => cases h
  | some st => cases h; exact ⟨st, rfl, rfl⟩
theorem zx_pl_inv {pc : Nat} {st : List Value} {L : zx_Lay} {I : zx_MI} {J : zx_MJ} {o : Option (List Value)} {q : zx_N} (h : zx_pl pc st L I J o = some (.inl q)) : ∃ ls, o = some ls ∧ q = (pc, ls, st, L, I, J) := by
  cases o with
  | none => cases h
  | some st => cases h; exact ⟨st, rfl, rfl⟩
theorem zx_i2_inv {f : Int32 → Int32 → Int32} {st st2 : List Value} (h : zx_i2 f st = some st2) : ∃ x y r, st = .int y :: .int x :: r ∧ st2 = .int (f x y) :: r := by
  unfold zx_i2 at h
  split at h
  · cases h; exact ⟨_, _, _, rfl, rfl⟩
  · cases h
theorem zx_i1_inv {f : Int32 → Value} {st st2 : List Value} (h : zx_i1 f st = some st2) : ∃ x r, st = .int x :: r ∧ st2 = f x :: r := by
  unfold zx_i1 at h
  split at h
  · cases h; exact ⟨_, _, rfl, rfl⟩
  · cases h
theorem zx_l2_inv {f : Int64 → Int64 → Value} {st st2 : List Value} (h : zx_l2 f st = some st2) : ∃ x y r, st = .long y :: .long x :: r ∧ st2 = f x y :: r := by
  unfold zx_l2 at h
  split at h
  · cases h; exact ⟨_, _, _, rfl, rfl⟩
  · cases h
theorem zx_li_inv {f : Int64 → Int32 → Int64} {st st2 : List Value} (h : zx_li f st = some st2) : ∃ x y r, st = .int y :: .long x :: r ∧ st2 = .long (f x y) :: r := by
  unfold zx_li at h
  split at h
  · cases h; exact ⟨_, _, _, rfl, rfl⟩
  · cases h
theorem zx_l1_inv {f : Int64 → Value} {st st2 : List Value} (h : zx_l1 f st = some st2) : ∃ x r, st = .long x :: r ∧ st2 = f x :: r := by
  unfold zx_l1 at h
  split at h
  · cases h; exact ⟨_, _, rfl, rfl⟩
  · cases h
theorem zx_ldi_inv {ls st st2 : List Value} {k : Nat} (h : zx_ldi ls st k = some st2) : ∃ x, ls[k]? = some (.int x) ∧ st2 = .int x :: st := by
  unfold zx_ldi at h
  split at h
  · cases h; exact ⟨_, by assumption, rfl⟩
  · cases h
theorem zx_ldl_inv {ls st st2 : List Value} {k : Nat} (h : zx_ldl ls st k = some st2) : ∃ x, ls[k]? = some (.long x) ∧ st2 = .long x :: st := by
  unfold zx_ldl at h
  split at h
  · cases h; exact ⟨_, by assumption, rfl⟩
  · cases h
theorem zx_lda_inv {ls st st2 : List Value} {k : Nat} (h : zx_lda ls st k = some st2) : (∃ a, ls[k]? = some (.ref a) ∧ st2 = .ref a :: st) ∨ (ls[k]? = some .null ∧ st2 = .null :: st) := by
  unfold zx_lda at h
  split at h
  · cases h; exact Or.inl ⟨_, by assumption, rfl⟩
  · cases h; exact Or.inr ⟨by assumption, rfl⟩
  · cases h
theorem zx_j_inv {pc : Nat} {off : Int} {k : Nat → Option zx_A} {q : zx_A} (h : zx_j pc off k = some q) : ∃ t : Nat, (pc : Int) + off = (t : Int) ∧ k t = some q := by
  unfold zx_j at h
  split at h
  · exact ⟨_, by assumption, h⟩
  · cases h
theorem zx_if_inv {c : Prop} {r : Option zx_A} {q : zx_A} (h : zx_if c r = some q) : c ∧ r = some q := by
  unfold zx_if at h
  by_cases hc : c
  · rw [if_pos hc] at h; exact ⟨hc, h⟩
  · rw [if_neg hc] at h; cases h
theorem zx_nol_of {ls : List Value} {k : Nat} (h : zx_nol ls (k + 1) = true) {v : Value} (hv : ls[k]? = some v) : v.category = 1 := by
  unfold zx_nol at h
  dsimp only at h
  rw [hv] at h
  cases v <;> first | rfl | cases h
theorem zx_st1_inv {ls ls2 : List Value} {k : Nat} {v : Value} (h : zx_st1 ls k v = some ls2) : k < ls.length ∧ zx_nol ls k = true ∧ ls2 = ls.set k v := by
  unfold zx_st1 at h
  split at h
  · cases h; exact ⟨(by assumption : _ ∧ _).1, (by assumption : _ ∧ _).2, rfl⟩
  · cases h
theorem zx_st2_inv {ls ls2 : List Value} {k : Nat} {v : Value} (h : zx_st2 ls k v = some ls2) : k + 1 < ls.length ∧ zx_nol ls k = true ∧ ls2 = (ls.set k v).set (k + 1) zx_u0 := by
  unfold zx_st2 at h
  split at h
  · cases h; exact ⟨(by assumption : _ ∧ _).1, (by assumption : _ ∧ _).2, rfl⟩
  · cases h
theorem zx_e_cat (ad : Nat → Nat) (vS : Value) (hS : vS = .null ∨ ∃ t, vS = .ref t) (v : Value) : (zx_e ad vS v).category = v.category := by
  cases v with
  | ref k =>
    show (if k = 5030 then vS else .ref (ad k)).category = 1
    split
    · rcases hS with rfl | ⟨t, rfl⟩ <;> rfl
    · rfl
  | _ => rfl
/-- the locals behind a store of one word -/
theorem zx_LR.set1 {ad : Nat → Nat} {vS : Value} (hS : vS = .null ∨ ∃ t, vS = .ref t) {mx k : Nat} {lsM lsN : Array Slot} {ls : List Value} {v : Value} (h : zx_LR ad vS mx lsM ls) (hn : zx_nol ls k = true) (hv : lv_has lsN mx ((k, zx_e ad vS v) :: (zx_pr ad vS ls).filter (fun q => !(q.1 == k) && !(q.1 + 1 == k && q.2.category == 2)))) : zx_LR ad vS mx lsN (ls.set k v) := by
  obtain ⟨g1, g2, g3⟩ := hv
  refine ⟨by rw [List.length_set]; exact h.1, g1, g2, fun i w hi hf => ?_⟩
  by_cases hk : k = i
  · subst hk
    have hl : k < ls.length := by
      have := (List.getElem?_eq_some_iff.mp hi).1
      rwa [List.length_set] at this
    rw [List.getElem?_set_self hl] at hi
    cases hi
    exact g3 (k, zx_e ad vS v) List.mem_cons_self
  · rw [List.getElem?_set_ne hk] at hi
    refine g3 (i, zx_e ad vS w) (List.mem_cons_of_mem _ (List.mem_filter.mpr ⟨zx_pr_in hi hf, ?_⟩))
    have h1 : (i == k) = false := by simpa using Ne.symm hk
    by_cases h2 : i + 1 = k
    · subst h2
      have := zx_nol_of hn hi
      simp [zx_e_cat ad vS hS, this]
    · have h3 : (i + 1 == k) = false := by simpa using h2
      simp [h1, h3]
theorem zx_LR.set2 {ad : Nat → Nat} {vS : Value} (hS : vS = .null ∨ ∃ t, vS = .ref t) {mx k : Nat} {lsM lsN : Array Slot} {ls : List Value} {v : Value} (h : zx_LR ad vS mx lsM ls) (hn : zx_nol ls k = true) (hv : lv_has lsN mx ((k, zx_e ad vS v) :: (zx_pr ad vS ls).filter (fun q => !(q.1 == k) && (!(q.1 == k + 1) && !(q.1 + 1 == k && q.2.category == 2))))) : zx_LR ad vS mx lsN ((ls.set k v).set (k + 1) zx_u0) := by
  obtain ⟨g1, g2, g3⟩ := hv
  refine ⟨by rw [List.length_set, List.length_set]; exact h.1, g1, g2, fun i w hi hf => ?_⟩
  by_cases hk1 : k + 1 = i
  · subst hk1
    have hl : k + 1 < (ls.set k v).length := by
      have := (List.getElem?_eq_some_iff.mp hi).1
      rwa [List.length_set] at this
    rw [List.getElem?_set_self hl] at hi
    cases hi
    cases hf
  · rw [List.getElem?_set_ne hk1] at hi
    by_cases hk : k = i
    · subst hk
      have hl : k < ls.length := by
        have := (List.getElem?_eq_some_iff.mp hi).1
        rwa [List.length_set] at this
      rw [List.getElem?_set_self hl] at hi
      cases hi
      exact g3 (k, zx_e ad vS v) List.mem_cons_self
    · rw [List.getElem?_set_ne hk] at hi
      refine g3 (i, zx_e ad vS w) (List.mem_cons_of_mem _ (List.mem_filter.mpr ⟨zx_pr_in hi hf, ?_⟩))
      have h1 : (i == k) = false := by simpa using Ne.symm hk
      have h4 : (i == k + 1) = false := by simpa using Ne.symm hk1
      by_cases h2 : i + 1 = k
      · subst h2
        have := zx_nol_of hn hi
        simp [zx_e_cat ad vS hS, this]
        omega
      · have h3 : (i + 1 == k) = false := by simpa using h2
        simp [h1, h3, h4]
/-! switches -/
theorem zx_ofI {x : Int32} {k : Int} (h1 : -2147483648 ≤ k) (h2 : k < 2147483648) : x = Int32.ofInt k ↔ x.toInt = k := by
  constructor
  · rintro rfl
    exact Int32.toInt_ofInt_of_le h1 h2
  · rintro rfl
    exact (Int32.ofInt_toInt x).symm
theorem zx_pick_tps {x : Int32} {d : Int} : ∀ (l : List Int) (lo : Int), -2147483648 ≤ lo → lo + l.length ≤ 2147483648 → (x.toInt < lo ∨ lo + l.length ≤ x.toInt → zx_pick (zx_tps lo l) d x = d) ∧ (¬ x.toInt < lo → x.toInt < lo + l.length → l[(x.toInt - lo).toNat]? = some (zx_pick (zx_tps lo l) d x)) := by
  intro l
  induction l with
  | nil =>
    intro lo h1 h2
    refine ⟨fun _ => rfl, fun h3 h4 => ?_⟩
    simp at h4
    omega
  | cons a l ih =>
    intro lo h1 h2
    simp only [List.length_cons] at h2 ⊢
    obtain ⟨i1, i2⟩ := ih (lo + 1) (by omega) (by omega)
    have hp : zx_pick (zx_tps lo (a :: l)) d x = if x = Int32.ofInt lo then a else zx_pick (zx_tps (lo + 1) l) d x := rfl
    rw [hp]
    have he := zx_ofI (x := x) h1 (by omega : lo < 2147483648)
    refine ⟨fun h3 => ?_, fun h3 h4 => ?_⟩
    · rw [if_neg (fun z => by have := he.mp z; omega)]
      exact i1 (by omega)
    · by_cases hx : x.toInt = lo
      · rw [if_pos (he.mpr hx), hx]
        simp
      · rw [if_neg (fun z => hx (he.mp z)), ← i2 (by omega) (by omega)]
        rw [show (x.toInt - lo).toNat = (x.toInt - (lo + 1)).toNat + 1 by omega]
        rfl
theorem zx_pick_lk {x : Int32} {d : Int} : ∀ (l : List (Int × Int)), l.all (fun q => decide (-2147483648 ≤ q.1 ∧ q.1 < 2147483648)) = true → Op.lookupswitch.offset l d x.toInt = zx_pick l d x := by
  intro l
  induction l with
  | nil => intro _; rfl
  | cons a l ih =>
    intro h
    obtain ⟨k, o⟩ := a
    simp only [List.all_cons, Bool.and_eq_true, decide_eq_true_eq] at h
    have he := zx_ofI (x := x) h.1.1 h.1.2
    rw [Op.lookupswitch.offset_cons, ih h.2]
    show _ = if x = Int32.ofInt k then o else zx_pick l d x
    by_cases hx : x.toInt = k
    · rw [if_pos (he.mpr hx)]
      simp [hx]
    · rw [if_neg (fun z => hx (he.mp z))]
      have : ¬ k = x.toInt := fun z => hx z.symm
      simp [this]
