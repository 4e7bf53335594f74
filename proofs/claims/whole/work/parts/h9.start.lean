/-! THE CLAIM OUT OF ONE WALK OF THE LAW'S BODY. Your part is whole_start (and what it stands on); all else here is the same for every law, but numbers. -/
def R_law : String := "TurnedStatuesLaw"
def lw_P (b : Addr) (xs : List Int32) (args : Array Value) (s : State) : Prop := args = #[.ref b] ∧ s.IntsAt b xs ∧ xs.length ≤ 3072 ∧ (Jvm.Cond.and given_1 narrow_1).before args s = true
def lw_Q (_ : Array Value) (s : State) (o : Outcome) (t : State) : Prop := o = .returned (some (.int 1)) ∧ Framed s o t [] 600000 7302250
def lw_Z (below : List Frame) (a : Array Value) (s : State) : State → Prop := fun t => ∃ o, t.status = .running ∧ Ended t below o ∧ lw_Q a s o t
/-- the law's own end, with 1 on the stack, nothing written that was there before, its room as the claim has it -/
theorem lw_ret {p : Program} {l : Launch} {e : Env} {s : State} {m : MethodId} {below : List Frame} {meth : Method} {c : Code} {b : Nat} (hx : p.tables.exec = Jvm.exec) (hb : c.code = code) (hr : meth.sig.returnType = ret) (hlocks : meth.locks = false) {pc : Nat} {H : Heap} {ls : Array Slot} (hdg : decode code pc = .ok (.ireturn, 1)) : W p l e room_1 s m #[Value.ref b] below meth c H [] 600000 7302250 (lw_Z below #[Value.ref b] s) (F0 m pc ls [.int 1]) := by
  intro T hT X
  obtain ⟨fs, hret, hrun, hended, hW, hframe⟩ := X.leave (v := some (.int 1)) (hlocks := hlocks) (fun h => by rw [hr] at h; cases h)
  have hmeth' : T.vm.method? m = some meth := X.method'
  refine ⟨T.setFrames fs, ?_, .returned (some (.int 1)), hrun, hended, rfl, ⟨_, rfl⟩, hW, hframe⟩
  jvm_step X.here [X.here.top, hx, hb, hdg, hmeth', hr, ret, narrow_b1]
  (try refine ⟨rfl, ?_⟩); (try refine ⟨rfl, ?_⟩)
  first | (intro acts; rw [hret _ acts rfl rfl rfl]) | rw [hret _ _ rfl rfl rfl]
  exact Steps.refl _
/-- what holds at the law's entry: the machine, the code, the tables' words (any of lw_tbl by 'hts w (by decide +kernel)'), the script of L ints xs at the cell b, what the Statement gives of the start (any of its parts by flat_of_before) -/
def lw_At (p : Program) (s : State) (m : MethodId) (meth : Method) (c : Code) (b L : Nat) (xs : Nat → Int32) : Prop :=
  p.tables.exec = Jvm.exec ∧ c.code = code ∧ meth.sig.returnType = ret ∧ c.maxLocals = 4 ∧ s.vm.findClass R_law = some m.cls ∧ (∀ w ∈ lw_tbl, w.before #[Value.ref b] s = true) ∧ va_X b L xs s s.heap ∧ b < s.heap.size ∧ meth.locks = false ∧ (Jvm.Cond.and given_1 narrow_1).before #[Value.ref b] s = true

/-! the start: what the Statement gives, as a world -/
def zx_insH : List Nat := [137, 392, 257, 346, 277, 131, 221, 352, 442, 309, 123, 1210]
theorem zx_chkS : ∀ c, c < 12 → zx_has (zx_insH.getD c 0) (.instantiable (zx_cn (c + 1)) (zx_nf (c + 1))) = true := by decide +kernel
theorem zx_chkO : (Cond.arrayOver (.object RX6) ∈ lw_tbl ∧ Cond.arrayOver (.object RX7) ∈ lw_tbl ∧ Cond.arrayOver (.object RX9) ∈ lw_tbl) := ⟨List.mem_of_getElem? (i := 344) (by decide +kernel), List.mem_of_getElem? (i := 263) (by decide +kernel), List.mem_of_getElem? (i := 343) (by decide +kernel)⟩
theorem zx_chkLS : Cond.laysStatic "TurnedStatues" "ALONG_X" "[I" ∈ lw_tbl ∧ Cond.initialized "TurnedStatues" ∈ lw_tbl ∧ Cond.laysStatic "TurnedStatues" "ALONG_Y" "[I" ∈ lw_tbl ∧ Cond.initialized "TurnedStatues" ∈ lw_tbl ∧ Cond.laysStatic "java/lang/String" "COMPACT_STRINGS" "Z" ∈ lw_tbl ∧ Cond.initialized "java/lang/String" ∈ lw_tbl ∧ Cond.laysStatic "jdk/internal/util/Preconditions" "SIOOBE_FORMATTER" "Ljava/util/function/BiFunction;" ∈ lw_tbl ∧ Cond.initialized "jdk/internal/util/Preconditions" ∈ lw_tbl := ⟨List.mem_of_getElem? (i := 790) (by decide +kernel), List.mem_of_getElem? (i := 101) (by decide +kernel), List.mem_of_getElem? (i := 792) (by decide +kernel), List.mem_of_getElem? (i := 101) (by decide +kernel), List.mem_of_getElem? (i := 563) (by decide +kernel), List.mem_of_getElem? (i := 113) (by decide +kernel), List.mem_of_getElem? (i := 579) (by decide +kernel), List.mem_of_getElem? (i := 115) (by decide +kernel)⟩
theorem zx_chkSR : Cond.stringRef "TurnedStatues$Tokens" 52 (zx_stx 1) ∈ lw_tbl ∧ Cond.stringRef "TurnedStatues$Tokens" 65 (zx_stx 0) ∈ lw_tbl ∧ Cond.stringRef "TurnedStatuesModel" 71 (zx_stx 2) ∈ lw_tbl ∧ Cond.stringRef "TurnedStatuesModel" 109 (zx_stx 1) ∈ lw_tbl ∧ Cond.stringRef "TurnedStatuesModel" 215 (zx_stx 3) ∈ lw_tbl ∧ Cond.stringRef "TurnedStatuesModel" 217 (zx_stx 4) ∈ lw_tbl := ⟨List.mem_of_getElem? (i := 609) (by decide +kernel), List.mem_of_getElem? (i := 553) (by decide +kernel), List.mem_of_getElem? (i := 1347) (by decide +kernel), List.mem_of_getElem? (i := 1353) (by decide +kernel), List.mem_of_getElem? (i := 1486) (by decide +kernel), List.mem_of_getElem? (i := 1487) (by decide +kernel)⟩
theorem zx_hasnl_in : ∀ (is : List Nat) (ws : List Cond), zx_hasnl is ws = true → ∀ w ∈ ws, w ∈ lw_tbl ∧ w.onTables = true := by
  intro is
  induction is with
  | nil =>
    intro ws h w hw
    cases ws with
    | nil => cases hw
    | cons a l => cases h
  | cons i is ih =>
    intro ws h w hw
    cases ws with
    | nil => cases h
    | cons a l =>
      simp only [zx_hasnl, Bool.and_eq_true] at h
      rcases List.mem_cons.mp hw with rfl | hw
      · have h1 := h.1
        unfold zx_hasn at h1
        cases hi : lw_tbl[i]? with
        | none => rw [hi] at h1; cases h1
        | some v =>
          rw [hi] at h1
          simp only [Bool.and_eq_true] at h1
          cases zx_ceq_eq h1.1
          exact ⟨List.mem_of_getElem? hi, h1.2⟩
      · exact ih l h.2 w hw
/-- some words stand, in this order, among others -/
def zx_among (ws l : List Cond) : Bool := match l with
  | [] => (match ws with
    | [] => true
    | _ => false)
  | a :: l => (match ws with
    | [] => true
    | w :: ws => if w = a then zx_among ws l else zx_among (w :: ws) l)
theorem zx_among_in : ∀ (l ws : List Cond), zx_among ws l = true → ∀ w ∈ ws, w ∈ l := by
  intro l
  induction l with
  | nil =>
    intro ws h w hw
    cases ws with
    | nil => cases hw
    | cons a r => cases h
  | cons a l ih =>
    intro ws h w hw
    cases ws with
    | nil => cases hw
    | cons v ws =>
      unfold zx_among at h
      dsimp only at h
      by_cases e : v = a
      · rw [if_pos e] at h
        rcases List.mem_cons.mp hw with rfl | hw
        · rw [e]; exact List.mem_cons_self
        · exact List.mem_cons_of_mem _ (ih ws h w hw)
      · rw [if_neg e] at h
        exact List.mem_cons_of_mem _ (ih (v :: ws) h w hw)
def zx_flat : List Cond := flatC (Jvm.Cond.and given_1 narrow_1)
def zx_tm (i : Nat) : Term := match i with
  | 0 => .string "TurnedStatues$Tokens" 65
  | 1 => .string "TurnedStatues$Tokens" 52
  | 2 => .string "TurnedStatuesModel" 71
  | 3 => .string "TurnedStatuesModel" 215
  | _ => .string "TurnedStatuesModel" 217
theorem zx_n1 : zx_among ((List.range 5).map (fun i => .exactly (zx_tm i) "java/lang/String")) zx_flat = true := by decide +kernel
theorem zx_n2 : zx_among ((List.range 5).map (fun i => .eq (.field (zx_tm i) "java/lang/String" "coder" "B") (.int 0))) zx_flat = true := by decide +kernel
theorem zx_n3 : zx_among ((List.range 5).map (fun i => .arrayOf (.field (zx_tm i) "java/lang/String" "value" "[B") .byte)) zx_flat = true := by decide +kernel
theorem zx_n4 : zx_among ((List.range 5).map (fun i => .eq (.length (.field (zx_tm i) "java/lang/String" "value" "[B")) (.int (Int32.ofNat ((zx_sb.map List.length).getD i 0))))) zx_flat = true := by decide +kernel
theorem zx_n5 : zx_among ((List.range 5).flatMap (fun i => (List.range ((zx_sb.map List.length).getD i 0)).map (fun j => .eq (.elem (.field (zx_tm i) "java/lang/String" "value" "[B") (.int (Int32.ofNat j))) (.int ((zx_sb.getD i []).getD j 0))))) zx_flat = true := by decide +kernel
theorem zx_n6 : zx_among ((List.range 5).flatMap (fun j => (List.range j).map (fun i => .not (.eq (zx_tm i) (zx_tm j))))) zx_flat = true := by decide +kernel
theorem zx_n7 : zx_among [.eq (.static "java/lang/String" "COMPACT_STRINGS" "Z") (.int 1), .isRef (.static "jdk/internal/util/Preconditions" "SIOOBE_FORMATTER" "Ljava/util/function/BiFunction;"), .arrayOf (.static "TurnedStatues" "ALONG_X" "[I") .int, .eq (.length (.static "TurnedStatues" "ALONG_X" "[I")) (.int (Int32.ofNat 8))] zx_flat = true := by decide +kernel
theorem zx_n8 : zx_among ((List.range 8).map (fun j => .eq (.elem (.static "TurnedStatues" "ALONG_X" "[I") (.int (Int32.ofNat j))) (.int (zx_alX.getD j 0)))) zx_flat = true := by decide +kernel
theorem zx_n9 : zx_among [.arrayOf (.static "TurnedStatues" "ALONG_Y" "[I") .int, .eq (.length (.static "TurnedStatues" "ALONG_Y" "[I")) (.int (Int32.ofNat 8))] zx_flat = true := by decide +kernel
theorem zx_n10 : zx_among ((List.range 8).map (fun j => .eq (.elem (.static "TurnedStatues" "ALONG_Y" "[I") (.int (Int32.ofNat j))) (.int (zx_alY.getD j 0)))) zx_flat = true := by decide +kernel
theorem zx_n11 : zx_among [.eq (.string "TurnedStatues$Tokens" 52) (.string "TurnedStatuesModel" 109)] zx_flat = true := by decide +kernel
theorem zx_strlen : ∀ i, i < 5 → (zx_sb.map List.length).getD i 0 < 2 ^ 31 := by decide +kernel
theorem zx_strtab : ∀ o x q, zx_find (zx_strs o) x = some q → (o = 8 ∧ x = 52 ∧ q = 1) ∨ (o = 8 ∧ x = 65 ∧ q = 0) ∨ (o = 12 ∧ x = 71 ∧ q = 2) ∨ (o = 12 ∧ x = 109 ∧ q = 1) ∨ (o = 12 ∧ x = 215 ∧ q = 3) ∨ (o = 12 ∧ x = 217 ∧ q = 4) := by
  intro o x q h
  have hm := zx_find_in _ h
  unfold zx_strs at hm
  split at hm
  · simp only [List.mem_cons, Prod.mk.injEq, List.not_mem_nil, or_false] at hm
    rcases hm with ⟨rfl, rfl⟩ | ⟨rfl, rfl⟩ <;> simp
  · simp only [List.mem_cons, Prod.mk.injEq, List.not_mem_nil, or_false] at hm
    rcases hm with ⟨rfl, rfl⟩ | ⟨rfl, rfl⟩ | ⟨rfl, rfl⟩ | ⟨rfl, rfl⟩ <;> simp
  · cases hm
theorem zx_arrG {s : State} {args : Array Value} {t : FieldType} (h : (Cond.arrayClass t).before args s = true) : ∃ cA : ClassId, ArrOfT s cA t ∧ s.vm.findClass ("[" ++ t.toString) = some cA := by
  obtain ⟨c, k, comp, h1, h2, h3⟩ := Cond.arrayClass_spec h
  exact ⟨c, fun n z => ⟨fun k h => (by cases h), k, h2, comp, h3⟩, h1⟩
theorem zx_arrO {s : State} {args : Array Value} {n : String} (h : (Cond.arrayOver (.object n)).before args s = true) : ∃ cA : ClassId, ArrOfT s cA (.object n) ∧ va_RA s cA (.object n) := by
  obtain ⟨comp, c, k, h1, -, h2, h3, h4⟩ := Cond.arrayOver_spec h
  exact ⟨c, fun n z => ⟨fun k h => (by cases h), k, h2, comp, h3⟩, k, comp, h2, h3, h1, h4⟩
theorem zx_classes {s : State} {args : Array Value} (hts : ∀ w ∈ lw_tbl, w.before args s = true) : ∃ (D : va_G), ∀ (c : Nat) (q : vw_C), zx_cls[c]? = some q → u_Kn s q.1 q.2.1 q.2.2 (D.1 c) (D.2 c) := by
  have h : ∀ c : Nat, ∃ z : ClassId × (Nat → Nat), c < 12 → u_Kn s (zx_cn (c + 1)) (zx_T (c + 1)) (zx_nf (c + 1)) z.1 z.2 := by
    intro c
    by_cases hc : c < 12
    · obtain ⟨cC, iS, hK⟩ := u_known (C := zx_cn (c + 1)) (T := zx_T (c + 1)) (N := zx_nf (c + 1)) (ws := lw_tbl) hts (fun w hw => zx_sub w (zx_wsin (by omega) (by omega) w hw)) (hts _ (zx_sub _ (zx_has_in (zx_chkS c hc))))
      exact ⟨(cC, iS), fun _ => hK⟩
    · exact ⟨(0, fun _ => 0), fun h => absurd h hc⟩
  obtain ⟨f, hf⟩ := Classical.axiomOfChoice h
  refine ⟨(fun c => (f c).1, fun c => (f c).2), fun c q hq => ?_⟩
  by_cases hc : c < 12
  · unfold zx_cls at hq
    rw [List.getElem?_map, List.getElem?_range hc] at hq
    cases hq
    exact hf c hc
  · unfold zx_cls at hq
    rw [List.getElem?_map, List.getElem?_eq_none (by simp; omega)] at hq
    cases hq
theorem zx_world {s : State} {b Lh : Nat} {xs : Nat → Int32} (hts : ∀ w ∈ lw_tbl, w.before #[Value.ref b] s = true) (hX : va_X b Lh xs s s.heap) (hbl : b < s.heap.size) (hgv : (Jvm.Cond.and given_1 narrow_1).before #[Value.ref b] s = true) :
    ∃ (D : va_G) (G : Nat → ClassId) (ad : Nat → Nat) (vS : Value), va_K D zx_cls (zx_tys G) s ∧ zx_SP ad vS s.heap.size Lh xs s s.heap ∧ ad 5000 = b := by
  have hn : ∀ w ∈ zx_flat, w.before #[Value.ref b] s = true := flat_of_before _ hgv
  have hA : ∀ a : Nat, a < s.heap.size → ¬ s.heap.size ≤ a := fun a h => Nat.not_le.mpr h
  obtain ⟨D, hD⟩ := zx_classes hts
  obtain ⟨w1, w2, w3, w4⟩ := zx_arr_of
  obtain ⟨c0, a0, n0⟩ := zx_arrG (hts _ (zx_sub _ w1))
  obtain ⟨c1, a1, n1⟩ := zx_arrG (hts _ (zx_sub _ w2))
  obtain ⟨c2, a2, n2⟩ := zx_arrG (hts _ (zx_sub _ w3))
  obtain ⟨c3, a3, n3⟩ := zx_arrG (hts _ (zx_sub _ w4))
  obtain ⟨o6, o7, o9⟩ := zx_chkO
  obtain ⟨c6, a6, r6⟩ := zx_arrO (hts _ o6)
  obtain ⟨c7, a7, r7⟩ := zx_arrO (hts _ o7)
  obtain ⟨c9, a9, r9⟩ := zx_arrO (hts _ o9)
  have mem5 : ∀ {f : Nat → Cond} {n i : Nat}, zx_among ((List.range n).map f) zx_flat = true → i < n → (f i).before #[Value.ref b] s = true := fun h hi => hn _ (zx_among_in _ _ h _ (List.mem_map.mpr ⟨_, List.mem_range.mpr hi, rfl⟩))
  obtain ⟨adK, adV, hE, hK⟩ := vk_Sof (args := #[Value.ref b]) (s := s) (N := 5) (tm := zx_tm) (len := zx_sb.map List.length) (byt := zx_sb) (A := fun q => s.heap.size ≤ q) zx_strlen (fun i hi => mem5 zx_n1 hi) (fun i hi => mem5 zx_n2 hi) (fun i hi => mem5 zx_n3 hi) (fun i hi => mem5 zx_n4 hi)
    (fun i hi j hj => hn _ (zx_among_in _ _ zx_n5 _ (List.mem_flatMap.mpr ⟨i, List.mem_range.mpr hi, List.mem_map.mpr ⟨j, List.mem_range.mpr hj, rfl⟩⟩)))
    (fun i j hi hj hij => by
      rcases Nat.lt_or_gt_of_ne hij with q | q
      · exact Or.inl (hn _ (zx_among_in _ _ zx_n6 _ (List.mem_flatMap.mpr ⟨j, List.mem_range.mpr hj, List.mem_map.mpr ⟨i, List.mem_range.mpr q, rfl⟩⟩)))
      · exact Or.inr (hn _ (zx_among_in _ _ zx_n6 _ (List.mem_flatMap.mpr ⟨i, List.mem_range.mpr hi, List.mem_map.mpr ⟨j, List.mem_range.mpr q, rfl⟩⟩)))) hA
  obtain ⟨l1, i1, l2, i2, l3, i3, l4, i4⟩ := zx_chkLS
  have h7 := fun w hw => hn w (zx_among_in _ _ zx_n7 w hw)
  have h9 := fun w hw => hn w (zx_among_in _ _ zx_n9 w hw)
  obtain ⟨tX, eX, hTX⟩ := va_Tof (tm := .static "TurnedStatues" "ALONG_X" "[I") (ty := .int) (N := 8) (f := fun j => .int (zx_alX.getD j 0)) (A := fun q => s.heap.size ≤ q) (by decide) (h7 _ (by simp)) (va_eqt (h7 _ (by simp))) (fun j hj => va_eqt (mem5 zx_n8 hj)) hA
  obtain ⟨tY, eY, hTY⟩ := va_Tof (tm := .static "TurnedStatues" "ALONG_Y" "[I") (ty := .int) (N := 8) (f := fun j => .int (zx_alY.getD j 0)) (A := fun q => s.heap.size ≤ q) (by decide) (h9 _ (by simp)) (va_eqt (h9 _ (by simp))) (fun j hj => va_eqt (mem5 zx_n10 hj)) hA
  have hZX := va_Zref (A := fun q => s.heap.size ≤ q) (hts _ l1) (hts _ i1) eX hA
  have hZY := va_Zref (A := fun q => s.heap.size ≤ q) (hts _ l2) (hts _ i2) eY hA
  have hZC := va_Zof (A := fun q => s.heap.size ≤ q) (hts _ l3) (hts _ i3) (va_eqi (z := 1) (h7 _ (by simp))) hA
  have hZS := va_Zqof (A := fun q => s.heap.size ≤ q) (hts _ l4) (hts _ i4) (h7 _ (by simp)) hA
  obtain ⟨vS, hvS, hZS⟩ : ∃ vS : Value, (vS = .null ∨ ∃ t, vS = .ref t) ∧ va_Z "jdk/internal/util/Preconditions" "SIOOBE_FORMATTER" "Ljava/util/function/BiFunction;" vS (fun q => s.heap.size ≤ q) s s.heap := by
    rcases hZS with h | ⟨t, h⟩
    · exact ⟨_, Or.inl rfl, h⟩
    · exact ⟨_, Or.inr ⟨t, rfl⟩, h⟩
  refine ⟨D, fun t => if t = 0 then c0 else if t = 1 then c1 else if t = 2 then c2 else if t = 3 then c3 else if t = 16 then c6 else if t = 17 then c7 else c9,
    fun k => if k < 5000 then s.heap.size + k else if k = 5000 then b else if k = 5001 then tX else if k = 5002 then tY else if k < 5015 then adK (k - 5010) else adV (k - 5020), vS, ⟨hD, fun k q hq => ?_⟩, ⟨fun k hk => if_pos hk, ?_, ?_, ?_, ?_, ?_, ?_, ?_, ?_, hZC, hZS, hvS, ⟨va_AO.of (hts _ o6), va_AO.of (hts _ o7), va_AO.of (hts _ o9)⟩, fun w hw => ?_⟩, rfl⟩
  · match k, hq with
    | 0, hq => cases hq; exact ⟨a0, n0⟩
    | 1, hq => cases hq; exact ⟨a1, n1⟩
    | 2, hq => cases hq; exact ⟨a2, n2⟩
    | 3, hq => cases hq; exact ⟨a3, n3⟩
    | 4, hq => cases hq; exact ⟨a6, r6⟩
    | 5, hq => cases hq; exact ⟨a7, r7⟩
    | 6, hq => cases hq; exact ⟨a9, r9⟩
    | k + 7, hq => cases hq
  · exact hbl
  · exact hX
  · exact hZX
  · exact hTX
  · exact hZY
  · exact hTY
  · refine ⟨fun i hi => ?_, fun i j hi hj e => ?_⟩
    · have e1 : (if 5010 + i < 5000 then s.heap.size + (5010 + i) else if 5010 + i = 5000 then b else if 5010 + i = 5001 then tX else if 5010 + i = 5002 then tY else if 5010 + i < 5015 then adK (5010 + i - 5010) else adV (5010 + i - 5020)) = adK i := by
        rw [if_neg (by omega), if_neg (by omega), if_neg (by omega), if_neg (by omega), if_pos (by omega), show 5010 + i - 5010 = i by omega]
      have e2 : (if 5020 + i < 5000 then s.heap.size + (5020 + i) else if 5020 + i = 5000 then b else if 5020 + i = 5001 then tX else if 5020 + i = 5002 then tY else if 5020 + i < 5015 then adK (5020 + i - 5010) else adV (5020 + i - 5020)) = adV i := by
        rw [if_neg (by omega), if_neg (by omega), if_neg (by omega), if_neg (by omega), if_neg (by omega), show 5020 + i - 5020 = i by omega]
      dsimp only
      rw [e1, e2]
      exact hE.1 i hi
    · dsimp only at e
      rw [if_neg (by omega), if_neg (by omega), if_neg (by omega), if_neg (by omega), if_pos (by omega), if_neg (by omega), if_neg (by omega), if_neg (by omega), if_neg (by omega), if_pos (by omega), show 5010 + i - 5010 = i by omega, show 5010 + j - 5010 = j by omega] at e
      exact hE.2 i j hi hj e
  · intro o x q h
    obtain ⟨s1, s2, s3, s4, s5, s6⟩ := zx_chkSR
    have h11 := hn _ (zx_among_in _ _ zx_n11 _ List.mem_cons_self)
    rcases zx_strtab o x q h with ⟨rfl, rfl, rfl⟩ | ⟨rfl, rfl, rfl⟩ | ⟨rfl, rfl, rfl⟩ | ⟨rfl, rfl, rfl⟩ | ⟨rfl, rfl, rfl⟩ | ⟨rfl, rfl, rfl⟩
    · exact ⟨_, vk_R.of (hts _ s1) (hK 1 (by decide))⟩
    · exact ⟨_, vk_R.of (hts _ s2) (hK 0 (by decide))⟩
    · exact ⟨_, vk_R.of (hts _ s3) (hK 2 (by decide))⟩
    · exact ⟨_, vk_R.of (hts _ s4) (va_eqR h11 (hK 1 (by decide)))⟩
    · exact ⟨_, vk_R.of (hts _ s5) (hK 3 (by decide))⟩
    · exact ⟨_, vk_R.of (hts _ s6) (hK 4 (by decide))⟩
  · obtain ⟨m1, m2⟩ := zx_hasnl_in _ _ zx_chkB w hw
    exact va_Nw.of m2 (hts w m1)
/-- the claim's walk, out of what the abstract machine answers for the law -/
theorem zx_fin (hlaw : ∀ (Lh : Nat) (xs : Nat → Int32), Lh ≤ 3072 → zx_rn 1000 300 [.ref 5000] (zx_sK Lh, zx_sR, 0, 0) (zx_sI xs) (fun _ _ => 0) (fun r L _ _ => r = some (.int 1) ∧ L.2.2.2 ≤ 7302250)) {p : Program} {e : Env} {s : State} {m : MethodId} {below : List Frame} {meth : Method} {c : Code} (l : Launch) {b L : Nat} {xs : Nat → Int32} (hL : L ≤ 3072) (C0 : lw_At p s m meth c b L xs) : W p l e room_1 s m #[Value.ref b] below meth c s.heap [] 0 0 (lw_Z below #[Value.ref b] s) (entryFrame m ([Value.ref b] : List Value).toArray 4) := by
  obtain ⟨hx, hb, hr, hml, hown, hts, hX, hbl, hlocks, hgv⟩ := C0
  obtain ⟨D, G, ad, vS, hK, hSP, hb0⟩ := zx_world hts hX hbl hgv
  obtain ⟨me, hme, hen, f, r, Lf, If, Jf, hex, rfl, hsl⟩ := hlaw L xs hL
  rw [zm_300] at hme
  cases hme
  have hO : zx_OK L xs (zx_sK L, zx_sR, 0, 0) (zx_sI xs) (fun _ _ => 0) := by
    refine ⟨Nat.zero_le _, fun a h => absurd h (Nat.not_lt_zero _), fun a j k h => absurd h (Nat.not_lt_zero _), fun a h0 h => ⟨?_, fun j => ⟨?_, ?_, rfl⟩⟩, fun a h => ⟨rfl, fun j => ⟨rfl, rfl⟩⟩⟩
    · show zx_sK L a = _
      unfold zx_sK
      rw [if_neg (by omega), if_neg (by omega), if_neg (by omega), if_neg (by omega), if_neg (by omega)]
    · show zx_sR a j = none
      unfold zx_sR
      rw [if_neg (by omega)]
    · unfold zx_sI
      rw [if_neg (by omega), if_neg (by omega), if_neg (by omega), if_neg (by omega)]
  have hOf := (zx_grow f 1000 300 0 _ _ _ _ _ _ Lf If Jf hex hO).1
  have C : zx_Cx p s m #[Value.ref b] meth c D G ad vS s.heap.size L xs 20 4 code (some Jvm.ClassFile.FieldType.boolean) false := ⟨hx, hb, hml, hown, fun w hw => hts w (zx_sub w hw), hlocks, hr, nofun, hK, hSP, Nat.le_refl _, by decide⟩
  have hS5 := hSP.2.2.2.2.2.2.2.2.2.2.2.1
  have e5 : ([Value.ref 5000]).map (zx_e ad vS) = [Value.ref b] := by
    rw [List.map_cons, zx_eref (by omega : (5000 : Nat) ≠ 5030), hb0]; rfl
  have hent := zx_entry (ad := ad) (vS := vS) hS5 (as := [.ref 5000]) (mx := 4) hen
  rw [e5] at hent
  rw [lg_entry_eq]
  have hWH : zx_WH D G ad s.heap.size (zx_sK L, zx_sR, 0, 0) (zx_sI xs) (fun _ _ => 0) s.heap := ⟨fun k q h => (by cases h), ⟨fun i j p q h => (by cases h), fun k q h => (by cases h)⟩⟩
  exact zx_sim f 1000 300 20 4 _ code _ false 0 _ [] _ _ _ _ Lf If Jf zm_300 hex hO p l e room_1 s m #[Value.ref b] below meth c (lw_Z below #[Value.ref b] s) 0 0 C (Nat.add_zero _).symm (Nat.le_refl _) (Nat.le_refl _) (by have := hOf.1; show Lf.2.2.1 - 0 ≤ 600000; omega) (by show Lf.2.2.2 - 0 ≤ 7302250; omega) (by decide) (by decide) (fun pcr lsM H locs i hd hr1 hW hS => by
    obtain ⟨rfl, -⟩ := hr1
    refine va_forget (fun q hq => hS.2.2 q hq) ?_
    refine W.widen (k := 600000) (n := 7302250) (by have := hOf.1; omega) (by omega) ?_
    exact lw_ret hx hb hr hlocks hd) s.heap [] _ hWH va_S.rf hent
