/-! ===== a row for each kind of instruction ===== -/
theorem zx_lcl (x y : Int64) : (lg_cmp x y < 0) = (x < y) := by
  unfold lg_cmp
  by_cases h : y < x
  · rw [if_pos h]
    exact propext ⟨fun q => absurd q (by decide), fun q => (Int64.lt_irrefl (Int64.lt_trans q h)).elim⟩
  · rw [if_neg h]
    by_cases e : x = y
    · rw [if_pos e, e]
      exact propext ⟨fun q => absurd q (by decide), fun q => (Int64.lt_irrefl q).elim⟩
    · rw [if_neg e]
      refine propext ⟨fun _ => ?_, fun _ => by decide⟩
      rcases Int64.lt_or_lt_of_ne e with q | q
      · exact q
      · exact absurd q h
theorem zx_lcg (x y : Int64) : (0 < lg_cmp x y) = (y < x) := by
  unfold lg_cmp
  by_cases h : y < x
  · rw [if_pos h]
    exact propext ⟨fun q => h, fun q => by decide⟩
  · rw [if_neg h]
    by_cases e : x = y
    · rw [if_pos e, e]
      exact propext ⟨fun q => absurd q (by decide), fun q => (Int64.lt_irrefl q).elim⟩
    · rw [if_neg e]
      exact propext ⟨fun q => absurd q (by decide), fun q => absurd q h⟩
theorem zx_lce (x y : Int64) : (lg_cmp x y = 0) = (x = y) := by
  unfold lg_cmp
  by_cases h : y < x
  · rw [if_pos h]
    exact propext ⟨fun q => absurd q (by decide), fun q => (Int64.lt_irrefl (q ▸ h)).elim⟩
  · rw [if_neg h]
    by_cases e : x = y
    · rw [if_pos e, e]
      exact propext ⟨fun _ => rfl, fun _ => rfl⟩
    · rw [if_neg e]
      exact propext ⟨fun q => absurd q (by decide), fun q => absurd q e⟩
/-- a switch as a chain of tests -/
def zx_ifs (l : List (Int32 × Nat)) (d : Nat) (x : Int32) (F : Nat → Prop) : Prop := match l with
  | [] => F d
  | (k, t) :: r => if x = k then F t else zx_ifs r d x F
theorem zx_pick_ifs {pc : Nat} {x : Int32} {d : Int} {td : Nat} (hd : (pc : Int) + d = (td : Int)) : ∀ (ps : List (Int × Int)) (ts : List (Int32 × Nat)), ps.map (fun q => (Int32.ofInt q.1, (pc : Int) + q.2)) = ts.map (fun q => (q.1, (q.2 : Int))) → ∃ t : Nat, (pc : Int) + zx_pick ps d x = (t : Int) ∧ ∀ F : Nat → Prop, zx_ifs ts td x F = F t := by
  intro ps
  induction ps with
  | nil =>
    intro ts h
    cases ts with
    | nil => exact ⟨td, hd, fun _ => rfl⟩
    | cons a l => cases h
  | cons a l ih =>
    intro ts h
    cases ts with
    | nil => cases h
    | cons a2 l2 =>
      obtain ⟨k, o⟩ := a
      obtain ⟨k2, t2⟩ := a2
      simp only [List.map_cons, List.cons.injEq, Prod.mk.injEq] at h
      obtain ⟨⟨h1, h2⟩, h3⟩ := h
      by_cases hx : x = Int32.ofInt k
      · exact ⟨t2, by rw [zx_pick, if_pos hx]; exact h2, fun F => by rw [zx_ifs, if_pos (hx.trans h1)]⟩
      · obtain ⟨t, q1, q2⟩ := ih l2 h3
        exact ⟨t, by rw [zx_pick, if_neg hx]; exact q1, fun F => by rw [zx_ifs, if_neg (fun z => hx (z.trans h1.symm))]; exact q2 F⟩
theorem zx_j_of {pc t : Nat} {off : Int} {k : Nat → Option zx_A} (h : (pc : Int) + off = (t : Int)) : zx_j pc off k = k t := by
  unfold zx_j
  rw [h]
theorem zx_pu_s (v : Value) (st : List Value) : zx_pu (some v) st = v :: st := rfl
theorem zx_pu_n (st : List Value) : zx_pu none st = st := rfl
theorem zx_rv_s (a : Nat) : zx_rv (some a) = .ref a := rfl
theorem zx_rv_n : zx_rv none = .null := rfl
section ROW
variable {d m pc pc2 : Nat} {ls ls2 st st2 : List Value} {L : zx_Lay} {I : zx_MI} {J : zx_MJ} {P : Option Value → zx_Lay → zx_MI → zx_MJ → Prop}
variable {o mx : Nat} {y : MethodName} {b : ByteArray} {rt : Option FieldType} {ini : Bool} {x z : Int32} {u w : Int64} {a q : Nat} {r : List Value}
theorem zr_ic {n : Int} (hm : zx_ms m = some (o, y, b, mx, rt, ini)) (hd : decode b pc = .ok (.iconst n, 1)) (hv : Int32.ofInt n = x) : zx_wp d m pc ls st L I J P = zx_wp d m (pc + 1) ls (.int x :: st) L I J P := by subst hv; exact zx_nx hm hd (.inl rfl) rfl
theorem zr_bi {n : Int} (hm : zx_ms m = some (o, y, b, mx, rt, ini)) (hd : decode b pc = .ok (.bipush n, 2)) (hv : (Int8.ofInt n).toInt32 = x) : zx_wp d m pc ls st L I J P = zx_wp d m (pc + 2) ls (.int x :: st) L I J P := by subst hv; exact zx_nx hm hd (.inl rfl) rfl
theorem zr_si {n : Int} (hm : zx_ms m = some (o, y, b, mx, rt, ini)) (hd : decode b pc = .ok (.sipush n, 3)) (hv : (Int16.ofInt n).toInt32 = x) : zx_wp d m pc ls st L I J P = zx_wp d m (pc + 3) ls (.int x :: st) L I J P := by subst hv; exact zx_nx hm hd (.inl rfl) rfl
theorem zr_lc {n : Fin 2} (hm : zx_ms m = some (o, y, b, mx, rt, ini)) (hd : decode b pc = .ok (.lconst n, 1)) (hv : Int64.ofNat (n : Nat) = u) : zx_wp d m pc ls st L I J P = zx_wp d m (pc + 1) ls (.long u :: st) L I J P := by subst hv; exact zx_nx hm hd (.inl rfl) rfl
theorem zr_nl (hm : zx_ms m = some (o, y, b, mx, rt, ini)) (hd : decode b pc = .ok (.aconst_null, 1)) : zx_wp d m pc ls st L I J P = zx_wp d m (pc + 1) ls (.null :: st) L I J P := zx_nx hm hd (.inl rfl) rfl
theorem zr_ldc {k : Nat} (hm : zx_ms m = some (o, y, b, mx, rt, ini)) (hd : decode b pc = .ok (.ldc k, 2)) (hf : zx_find (zx_ints o) k = some x) : zx_wp d m pc ls st L I J P = zx_wp d m (pc + 2) ls (.int x :: st) L I J P := zx_nx hm hd (.inl rfl) (by rw [zx_act, hf])
theorem zr_ldcs {k : Nat} (hm : zx_ms m = some (o, y, b, mx, rt, ini)) (hd : decode b pc = .ok (.ldc k, 2)) (hf : zx_find (zx_ints o) k = none) (hg : zx_find (zx_strs o) k = some q) (h2 : 5010 + q = a) : zx_wp d m pc ls st L I J P = zx_wp d m (pc + 2) ls (.ref a :: st) L I J P := by subst h2; exact zx_nx hm hd (.inl rfl) (by rw [zx_act, hf]; dsimp only; rw [hg])
theorem zr_ldcw {k : Nat} (hm : zx_ms m = some (o, y, b, mx, rt, ini)) (hd : decode b pc = .ok (.ldc_w k, 3)) (hf : zx_find (zx_ints o) k = some x) : zx_wp d m pc ls st L I J P = zx_wp d m (pc + 3) ls (.int x :: st) L I J P := zx_nx hm hd (.inl rfl) (by rw [zx_act, hf])
theorem zr_ldc2 {k : Nat} (hm : zx_ms m = some (o, y, b, mx, rt, ini)) (hd : decode b pc = .ok (.ldc2_w k, 3)) (hf : zx_find (zx_lngs o) k = some u) : zx_wp d m pc ls st L I J P = zx_wp d m (pc + 3) ls (.long u :: st) L I J P := zx_nx hm hd (.inl rfl) (by rw [zx_act, hf])
theorem zr_gst {k : Nat} {v : Value} (hm : zx_ms m = some (o, y, b, mx, rt, ini)) (hd : decode b pc = .ok (.getstatic k, 3)) (hf : zx_find (zx_gsts o) k = some v) : zx_wp d m pc ls st L I J P = zx_wp d m (pc + 3) ls (v :: st) L I J P := zx_nx hm hd (.inl rfl) (by rw [zx_act, hf])
theorem zr_go {off : Int} (hm : zx_ms m = some (o, y, b, mx, rt, ini)) (hd : decode b pc = .ok (.goto off, 3)) (ht : (pc : Int) + off = (pc2 : Int)) : zx_wp d m pc ls st L I J P = zx_wp d m pc2 ls st L I J P := zx_nx hm hd (.inl rfl) (by rw [zx_act, zx_j_of ht])
theorem zr_if {c : ClassFile.Cond} {off : Int} (hm : zx_ms m = some (o, y, b, mx, rt, ini)) (hd : decode b pc = .ok (.ifCond c off, 3)) (ht : (pc : Int) + off = (pc2 : Int)) : zx_wp d m pc ls (.int x :: r) L I J P = zx_wp d m (zx_ic c x 0 pc2 (pc + 3)) ls r L I J P := zx_nx hm hd (.inl rfl) (by rw [zx_act]; rw [zx_j_of ht])
theorem zr_cm {c : ClassFile.Cond} {off : Int} (hm : zx_ms m = some (o, y, b, mx, rt, ini)) (hd : decode b pc = .ok (.if_icmp c off, 3)) (ht : (pc : Int) + off = (pc2 : Int)) : zx_wp d m pc ls (.int z :: .int x :: r) L I J P = zx_wp d m (zx_ic c x z pc2 (pc + 3)) ls r L I J P := zx_nx hm hd (.inl rfl) (by rw [zx_act]; rw [zx_j_of ht])
theorem zr_nuN {off : Int} (hm : zx_ms m = some (o, y, b, mx, rt, ini)) (hd : decode b pc = .ok (.ifnull off, 3)) (ht : (pc : Int) + off = (pc2 : Int)) : zx_wp d m pc ls (.null :: r) L I J P = zx_wp d m pc2 ls r L I J P := zx_nx hm hd (.inl rfl) (by rw [zx_act]; rw [zx_j_of ht])
theorem zr_nu {off : Int} (hm : zx_ms m = some (o, y, b, mx, rt, ini)) (hd : decode b pc = .ok (.ifnull off, 3)) : zx_wp d m pc ls (.ref a :: r) L I J P = (a < 5000 ∧ zx_wp d m (pc + 3) ls r L I J P) := zx_nc hm hd (.inl rfl) rfl
theorem zr_nn {off : Int} (hm : zx_ms m = some (o, y, b, mx, rt, ini)) (hd : decode b pc = .ok (.ifnonnull off, 3)) (ht : (pc : Int) + off = (pc2 : Int)) : zx_wp d m pc ls (.ref a :: r) L I J P = (a < 5000 ∧ zx_wp d m pc2 ls r L I J P) := zx_nc hm hd (.inl rfl) (by rw [zx_act]; rw [zx_j_of ht])
theorem zr_nnN {off : Int} (hm : zx_ms m = some (o, y, b, mx, rt, ini)) (hd : decode b pc = .ok (.ifnonnull off, 3)) : zx_wp d m pc ls (.null :: r) L I J P = zx_wp d m (pc + 3) ls r L I J P := zx_nx hm hd (.inl rfl) rfl
theorem zr_ts {df lo hi : Int} {offs : Array Int} {len td : Nat} (hm : zx_ms m = some (o, y, b, mx, rt, ini)) (ts : List (Int32 × Nat)) (hd : decode b pc = .ok (.tableswitch df lo hi offs, len)) (hc : hi - lo + 1 = (offs.size : Int) ∧ -2147483648 ≤ lo ∧ hi < 2147483648) (h1 : (pc : Int) + df = (td : Int)) (h2 : (zx_tps lo offs.toList).map (fun q => (Int32.ofInt q.1, (pc : Int) + q.2)) = ts.map (fun q => (q.1, (q.2 : Int)))) : zx_wp d m pc ls (.int x :: r) L I J P = zx_ifs ts td x (fun t => zx_wp d m t ls r L I J P) := by
  obtain ⟨t, q1, q2⟩ := zx_pick_ifs (x := x) h1 _ _ h2
  rw [q2]
  exact zx_nx hm hd (.inr rfl) (by rw [zx_act]; rw [if_pos hc, zx_j_of q1])
theorem zr_lk {df : Int} {ps : Array (Int × Int)} {len td : Nat} (hm : zx_ms m = some (o, y, b, mx, rt, ini)) (ts : List (Int32 × Nat)) (hd : decode b pc = .ok (.lookupswitch df ps, len)) (hc : (ps.toList.zip (ps.toList.drop 1)).all (fun (a, next) => a.1 < next.1) = true ∧ ps.toList.all (fun q => decide (-2147483648 ≤ q.1 ∧ q.1 < 2147483648)) = true) (h1 : (pc : Int) + df = (td : Int)) (h2 : ps.toList.map (fun q => (Int32.ofInt q.1, (pc : Int) + q.2)) = ts.map (fun q => (q.1, (q.2 : Int)))) : zx_wp d m pc ls (.int x :: r) L I J P = zx_ifs ts td x (fun t => zx_wp d m t ls r L I J P) := by
  obtain ⟨t, q1, q2⟩ := zx_pick_ifs (x := x) h1 _ _ h2
  rw [q2]
  exact zx_nx hm hd (.inr rfl) (by rw [zx_act]; rw [if_pos hc, zx_j_of q1])
theorem zr_gi {k c s : Nat} (hm : zx_ms m = some (o, y, b, mx, rt, ini)) (hd : decode b pc = .ok (.getfield k, 3)) (hf : zx_find (zx_flds o) k = some (c, s, 0)) : zx_wp d m pc ls (.ref a :: r) L I J P = (L.1 a = (40 + c, 0) ∧ zx_wp d m (pc + 3) ls (.int (I a s) :: r) L I J P) := zx_nc hm hd (.inl rfl) (by rw [zx_act, hf]; rfl)
theorem zr_gz {k c s : Nat} (hm : zx_ms m = some (o, y, b, mx, rt, ini)) (hd : decode b pc = .ok (.getfield k, 3)) (hf : zx_find (zx_flds o) k = some (c, s, 1)) : zx_wp d m pc ls (.ref a :: r) L I J P = (L.1 a = (40 + c, 0) ∧ zx_wp d m (pc + 3) ls (.int (I a s) :: r) L I J P) := zx_nc hm hd (.inl rfl) (by rw [zx_act, hf]; rfl)
theorem zr_gb {k c s : Nat} (hm : zx_ms m = some (o, y, b, mx, rt, ini)) (hd : decode b pc = .ok (.getfield k, 3)) (hf : zx_find (zx_flds o) k = some (c, s, 4)) : zx_wp d m pc ls (.ref a :: r) L I J P = (L.1 a = (40 + c, 0) ∧ zx_wp d m (pc + 3) ls (.int (I a s) :: r) L I J P) := zx_nc hm hd (.inl rfl) (by rw [zx_act, hf]; rfl)
theorem zr_gl {k c s : Nat} (hm : zx_ms m = some (o, y, b, mx, rt, ini)) (hd : decode b pc = .ok (.getfield k, 3)) (hf : zx_find (zx_flds o) k = some (c, s, 2)) : zx_wp d m pc ls (.ref a :: r) L I J P = (L.1 a = (40 + c, 0) ∧ zx_wp d m (pc + 3) ls (.long (J a s) :: r) L I J P) := zx_nc hm hd (.inl rfl) (by rw [zx_act, hf]; rfl)
theorem zr_gr {k c s : Nat} (hm : zx_ms m = some (o, y, b, mx, rt, ini)) (hd : decode b pc = .ok (.getfield k, 3)) (hf : zx_find (zx_flds o) k = some (c, s, 3)) : zx_wp d m pc ls (.ref a :: r) L I J P = (L.1 a = (40 + c, 0) ∧ zx_wp d m (pc + 3) ls (zx_rv (L.2.1 a s) :: r) L I J P) := zx_nc hm hd (.inl rfl) (by rw [zx_act, hf]; rfl)
theorem zr_pi {k c s t : Nat} {fin : Bool} (hm : zx_ms m = some (o, y, b, mx, rt, ini)) (hd : decode b pc = .ok (.putfield k, 3)) (hf : zx_find (zx_flds o) k = some (c, s, 0)) (hg : (zx_ft c)[s]? = some (t, fin)) (hn : (!fin || (ini && (o == c))) = true) : zx_wp d m pc ls (.int x :: .ref a :: r) L I J P = ((L.1 a = (40 + c, 0) ∧ zx_wr L a) ∧ zx_wp d m (pc + 3) ls r L (zx_u I a s x) J P) := zx_nc hm hd (.inl rfl) (by rw [zx_act, hf, zx_pf, hg]; dsimp only; rw [if_pos hn])
theorem zr_pz {k c s t : Nat} {fin : Bool} (hm : zx_ms m = some (o, y, b, mx, rt, ini)) (hd : decode b pc = .ok (.putfield k, 3)) (hf : zx_find (zx_flds o) k = some (c, s, 1)) (hg : (zx_ft c)[s]? = some (t, fin)) (hn : (!fin || (ini && (o == c))) = true) : zx_wp d m pc ls (.int x :: .ref a :: r) L I J P = ((L.1 a = (40 + c, 0) ∧ zx_wr L a ∧ (x = 0 ∨ x = 1)) ∧ zx_wp d m (pc + 3) ls r L (zx_u I a s x) J P) := zx_nc hm hd (.inl rfl) (by rw [zx_act, hf, zx_pf, hg]; dsimp only; rw [if_pos hn])
theorem zr_pl {k c s t : Nat} {fin : Bool} (hm : zx_ms m = some (o, y, b, mx, rt, ini)) (hd : decode b pc = .ok (.putfield k, 3)) (hf : zx_find (zx_flds o) k = some (c, s, 2)) (hg : (zx_ft c)[s]? = some (t, fin)) (hn : (!fin || (ini && (o == c))) = true) : zx_wp d m pc ls (.long u :: .ref a :: r) L I J P = ((L.1 a = (40 + c, 0) ∧ zx_wr L a) ∧ zx_wp d m (pc + 3) ls r L I (zx_u J a s u) P) := zx_nc hm hd (.inl rfl) (by rw [zx_act, hf, zx_pf, hg]; dsimp only; rw [if_pos hn])
theorem zr_pr {k c s t : Nat} {fin : Bool} (hm : zx_ms m = some (o, y, b, mx, rt, ini)) (hd : decode b pc = .ok (.putfield k, 3)) (hf : zx_find (zx_flds o) k = some (c, s, 3)) (hg : (zx_ft c)[s]? = some (t, fin)) (hn : (!fin || (ini && (o == c))) = true) : zx_wp d m pc ls (.ref q :: .ref a :: r) L I J P = ((L.1 a = (40 + c, 0) ∧ zx_wr L a ∧ zx_wr L q) ∧ zx_wp d m (pc + 3) ls r (L.1, zx_u L.2.1 a s (some q), L.2.2) I J P) := zx_nc hm hd (.inl rfl) (by rw [zx_act, hf, zx_pf, hg]; dsimp only; rw [if_pos hn])
theorem zr_new {k c : Nat} (hm : zx_ms m = some (o, y, b, mx, rt, ini)) (hd : decode b pc = .ok (.new k, 3)) (hf : zx_find (zx_clss o) k = some c) (hc : 1 ≤ c ∧ c < 13) : zx_wp d m pc ls st L I J P = (L.2.2.1 < 4000 ∧ zx_wp d m (pc + 3) ls (.ref L.2.2.1 :: st) (zx_new L (40 + c, 0) (zx_ft c).length) I J P) := zx_nc hm hd (.inl rfl) (by rw [zx_act, hf]; dsimp only; rw [if_pos hc])
theorem zr_na {k : ArrayType} {t : Nat} (hm : zx_ms m = some (o, y, b, mx, rt, ini)) (hd : decode b pc = .ok (.newarray k, 2)) (hk : zx_kty k = some t) : zx_wp d m pc ls (.int x :: r) L I J P = ((L.2.2.1 < 4000 ∧ ¬ x < 0 ∧ x.toNatClampNeg ≤ 100000) ∧ zx_wp d m (pc + 2) ls (.ref L.2.2.1 :: r) (zx_new L (t, x.toNatClampNeg) x.toNatClampNeg) I J P) := by
  refine zx_nc hm hd (.inl rfl) ?_
  rw [zx_act]
  exact hk
theorem zr_an {k c : Nat} (hm : zx_ms m = some (o, y, b, mx, rt, ini)) (hd : decode b pc = .ok (.anewarray k, 3)) (hf : zx_find (zx_clss o) k = some c) (hc : c = 6 ∨ c = 7 ∨ c = 9) : zx_wp d m pc ls (.int x :: r) L I J P = ((L.2.2.1 < 4000 ∧ ¬ x < 0 ∧ x.toNatClampNeg ≤ 100000) ∧ zx_wp d m (pc + 3) ls (.ref L.2.2.1 :: r) (zx_new L (10 + c, x.toNatClampNeg) x.toNatClampNeg) I J P) := by
  refine zx_nc hm hd (.inl rfl) ?_
  unfold zx_act
  simp only [hf, if_pos hc]
theorem zr_oi {k : Nat} (hm : zx_ms m = some (o, y, b, mx, rt, ini)) (hd : decode b pc = .ok (.invokespecial k, 3)) (hf : zx_find (zx_mths o) k = some (999, 0, 1)) (hr : zx_cs r ≤ 8) : zx_wp d m pc ls (.ref a :: r) L I J P = (zx_wr L a ∧ zx_wp d m (pc + 3) ls r L I J P) := zx_nc hm hd (.inl rfl) (by rw [zx_act, hf, zx_cl]; exact if_pos hr)
theorem zr_ac {k s e : Nat} {n dp sp : Int32} (hm : zx_ms m = some (o, y, b, mx, rt, ini)) (hd : decode b pc = .ok (.invokestatic k, 3)) (hf : zx_find (zx_mths o) k = some (998, 5, 2)) : zx_wp d m pc ls (.int n :: .int dp :: .ref e :: .int sp :: .ref s :: r) L I J P = (((L.1 s).1 = 3 ∧ (L.1 e).1 = 3 ∧ zx_wr L s ∧ zx_wr L e ∧ ¬ n < 0 ∧ ¬ dp < 0 ∧ ¬ sp < 0 ∧ sp.toNatClampNeg + n.toNatClampNeg ≤ (L.1 s).2 ∧ dp.toNatClampNeg + n.toNatClampNeg ≤ (L.1 e).2 ∧ zx_cs r ≤ 8) ∧ zx_wp d m (pc + 3) ls r L I (zx_cpy J s e sp.toNatClampNeg dp.toNatClampNeg n.toNatClampNeg) P) := zx_nc hm hd (.inl rfl) (by rw [zx_act, hf]; rfl)
theorem zx_clS {k na c : Nat} {r2 : List Value} {as : List Value} {w : MethodName × ByteArray × Nat × Option FieldType × Bool} (hk : zx_ms k = some (c, w)) (h9 : k < 990) (ht : zx_tk na st = some (as, r2)) (hr : zx_cs r2 ≤ 8) : zx_cl L (some (k, na, 2)) pc ls I J 2 st = some (.inr (.inr (k, as, r2))) := by
  rw [zx_cl]
  · rw [hk]
    dsimp only
    rw [ht]
    dsimp only
    rw [if_pos hr]
    rfl
  all_goals omega
theorem zx_clV {k na c : Nat} {r2 : List Value} {as : List Value} {w : MethodName × ByteArray × Nat × Option FieldType × Bool} (hk : zx_ms k = some (c, w)) (h9 : k < 990) (ht : zx_tk (na + 1) st = some (.ref a :: as, r2)) (hr : zx_cs r2 ≤ 8) : zx_cl L (some (k, na, 0)) pc ls I J 0 st = zx_if (L.1 a = (40 + c, 0)) (some (.inr (.inr (k, .ref a :: as, r2)))) := by
  rw [zx_cl]
  · rw [hk]
    dsimp only
    rw [ht]
    dsimp only
    rw [if_pos hr]
    rfl
  all_goals omega
theorem zx_clI {k na c kd : Nat} {r2 : List Value} {as : List Value} {w : MethodName × ByteArray × Nat × Option FieldType × Bool} (hk : zx_ms k = some (c, w)) (h9 : k < 990) (hkd : kd = 1 ∨ kd = 3) (ht : zx_tk (na + 1) st = some (.ref a :: as, r2)) (hr : zx_cs r2 ≤ 8) : zx_cl L (some (k, na, kd)) pc ls I J 1 st = zx_if (a < 5000) (some (.inr (.inr (k, .ref a :: as, r2)))) := by
  rw [zx_cl]
  · rw [hk]
    dsimp only
    rcases hkd with rfl | rfl
    · rw [ht]
      exact if_pos hr
    · rw [ht]
      exact if_pos hr
  all_goals omega
theorem zr_is {x2 k na c : Nat} {r2 as : List Value} {w : MethodName × ByteArray × Nat × Option FieldType × Bool} (hm : zx_ms m = some (o, y, b, mx, rt, ini)) (hd : decode b pc = .ok (.invokestatic x2, 3)) (hf : zx_find (zx_mths o) x2 = some (k, na, 2)) (hk : zx_ms k = some (c, w)) (h9 : k < 990) (ht : zx_tk na st = some (as, r2)) (hr : zx_cs r2 ≤ 8) : zx_wp (d + 1) m pc ls st L I J P = zx_rn d k as L I J (fun r L2 I2 J2 => zx_wp (d + 1) m (pc + 3) ls (zx_pu r r2) L2 I2 J2 P) := zx_ca hm hd (.inl rfl) (by rw [zx_act, hf]; exact zx_clS hk h9 ht hr)
theorem zr_iv {x2 k na c : Nat} {r2 as : List Value} {w : MethodName × ByteArray × Nat × Option FieldType × Bool} (hm : zx_ms m = some (o, y, b, mx, rt, ini)) (hd : decode b pc = .ok (.invokevirtual x2, 3)) (hf : zx_find (zx_mths o) x2 = some (k, na, 0)) (hk : zx_ms k = some (c, w)) (h9 : k < 990) (ht : zx_tk (na + 1) st = some (.ref a :: as, r2)) (hr : zx_cs r2 ≤ 8) : zx_wp (d + 1) m pc ls st L I J P = (L.1 a = (40 + c, 0) ∧ zx_rn d k (.ref a :: as) L I J (fun r L2 I2 J2 => zx_wp (d + 1) m (pc + 3) ls (zx_pu r r2) L2 I2 J2 P)) := zx_cc hm hd (.inl rfl) (by rw [zx_act, hf]; exact zx_clV hk h9 ht hr)
theorem zr_ii {x2 k na c kd : Nat} {r2 as : List Value} {w : MethodName × ByteArray × Nat × Option FieldType × Bool} (hm : zx_ms m = some (o, y, b, mx, rt, ini)) (hd : decode b pc = .ok (.invokespecial x2, 3)) (hf : zx_find (zx_mths o) x2 = some (k, na, kd)) (hk : zx_ms k = some (c, w)) (h9 : k < 990) (hkd : kd = 1 ∨ kd = 3) (ht : zx_tk (na + 1) st = some (.ref a :: as, r2)) (hr : zx_cs r2 ≤ 8) : zx_wp (d + 1) m pc ls st L I J P = (a < 5000 ∧ zx_rn d k (.ref a :: as) L I J (fun r L2 I2 J2 => zx_wp (d + 1) m (pc + 3) ls (zx_pu r r2) L2 I2 J2 P)) := zx_cc hm hd (.inl rfl) (by rw [zx_act, hf]; exact zx_clI hk h9 hkd ht hr)
theorem zr_ri (hm : zx_ms m = some (o, y, b, mx, rt, ini)) (hrt : rt = some .int) (hd : decode b pc = .ok (.ireturn, 1)) : zx_wp d m pc ls [.int x] L I J P = P (some (.int x)) L I J := by
  subst hrt
  exact (zx_rc hm hd (.inl rfl) rfl).trans (propext ⟨fun h => h.2, fun h => ⟨trivial, h⟩⟩)
theorem zr_rx {c : Prop} (hm : zx_ms m = some (o, y, b, mx, rt, ini)) (hrt : zx_okr rt x = c) (hd : decode b pc = .ok (.ireturn, 1)) : zx_wp d m pc ls [.int x] L I J P = (c ∧ P (some (.int x)) L I J) := by
  subst hrt
  exact zx_rc hm hd (.inl rfl) rfl
theorem zr_rl (hm : zx_ms m = some (o, y, b, mx, rt, ini)) (hrt : rt = some .long) (hd : decode b pc = .ok (.lreturn, 1)) : zx_wp d m pc ls [.long u] L I J P = P (some (.long u)) L I J := zx_rt hm hd (.inl rfl) (by rw [zx_act]; rw [if_pos hrt])
theorem zr_rv (hm : zx_ms m = some (o, y, b, mx, rt, ini)) (hrt : rt = none) (hd : decode b pc = .ok (.return_, 1)) : zx_wp d m pc ls [] L I J P = P none L I J := zx_rt hm hd (.inl rfl) (by rw [zx_act]; rw [if_pos hrt])
theorem zr_ra {s : String} (hm : zx_ms m = some (o, y, b, mx, rt, ini)) (hrt : rt = some (.object s)) (hd : decode b pc = .ok (.areturn, 1)) : zx_wp d m pc ls [.ref a] L I J P = (zx_wr L a ∧ P (some (.ref a)) L I J) := by
  subst hrt
  exact zx_rc hm hd (.inl rfl) rfl
theorem zr_rn {s : String} (hm : zx_ms m = some (o, y, b, mx, rt, ini)) (hrt : rt = some (.object s)) (hd : decode b pc = .ok (.areturn, 1)) : zx_wp d m pc ls [.null] L I J P = P (some .null) L I J := by
  subst hrt
  exact zx_rt hm hd (.inl rfl) rfl
theorem zr_m0 {k : Nat} (hm : zx_ms m = some (o, y, b, mx, rt, ini)) (hd : decode b pc = .ok (.invokestatic k, 3)) (hf : zx_find (zx_mths o) k = some (990, 2, 2)) (hr : zx_cs r ≤ 8) : zx_wp d m pc ls (.int z :: .int x :: r) L I J P = zx_wp d m (pc + 3) ls (.int (if z < x then z else x) :: r) L I J P := zx_nx hm hd (.inl rfl) (by rw [zx_act, hf, zx_cl]; exact if_pos hr)
theorem zr_m1 {k : Nat} (hm : zx_ms m = some (o, y, b, mx, rt, ini)) (hd : decode b pc = .ok (.invokestatic k, 3)) (hf : zx_find (zx_mths o) k = some (991, 2, 2)) (hr : zx_cs r ≤ 8) : zx_wp d m pc ls (.int z :: .int x :: r) L I J P = zx_wp d m (pc + 3) ls (.int (if x < z then z else x) :: r) L I J P := zx_nx hm hd (.inl rfl) (by rw [zx_act, hf, zx_cl]; exact if_pos hr)
theorem zr_m2 {k : Nat} (hm : zx_ms m = some (o, y, b, mx, rt, ini)) (hd : decode b pc = .ok (.invokestatic k, 3)) (hf : zx_find (zx_mths o) k = some (992, 1, 2)) (hr : zx_cs r ≤ 8) : zx_wp d m pc ls (.int x :: r) L I J P = zx_wp d m (pc + 3) ls (.int (if 0 ≤ x then x else 0 - x) :: r) L I J P := zx_nx hm hd (.inl rfl) (by rw [zx_act, hf, zx_cl]; exact if_pos hr)
theorem zr_m3 {k : Nat} (hm : zx_ms m = some (o, y, b, mx, rt, ini)) (hd : decode b pc = .ok (.invokestatic k, 3)) (hf : zx_find (zx_mths o) k = some (993, 2, 2)) (hr : zx_cs r ≤ 8) : zx_wp d m pc ls (.long w :: .long u :: r) L I J P = zx_wp d m (pc + 3) ls (.long (if w < u then w else u) :: r) L I J P := zx_nx hm hd (.inl rfl) (by rw [zx_act, hf, zx_cl]; exact if_pos hr)
theorem zr_m4 {k : Nat} (hm : zx_ms m = some (o, y, b, mx, rt, ini)) (hd : decode b pc = .ok (.invokestatic k, 3)) (hf : zx_find (zx_mths o) k = some (994, 2, 2)) (hr : zx_cs r ≤ 8) : zx_wp d m pc ls (.long w :: .long u :: r) L I J P = zx_wp d m (pc + 3) ls (.long (if w < u then u else w) :: r) L I J P := zx_nx hm hd (.inl rfl) (by rw [zx_act, hf, zx_cl]; exact if_pos hr)
end ROW
