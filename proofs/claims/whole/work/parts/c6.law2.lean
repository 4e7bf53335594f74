/-! the class's law reader, piece by piece -/
def zl_kd (k : Nat) : Bool := decide (k < 24) || (decide (26 ≤ k) && decide (k ≤ 29)) || (decide (40 ≤ k) && decide (k ≤ 51))
theorem zf_nx_kd (b : Nat → Nat) (n e : Nat) : zl_kd (zf_nx b n e).2.2.1 = true := by
  unfold zf_nx zf_tk1
  generalize zf_st0 b n e = s
  by_cases c : n ≤ s
  · rw [if_pos c]; rfl
  · rw [if_neg c]
    by_cases c1 : zf_al (b s) = true
    · rw [if_pos c1]
      dsimp only
      rcases zf_fi_lt (t := 2) (x := zf_x b s (zf_enw b n s)) zf_km 0 26 with q | q
      · have q' : zf_wd b s (zf_enw b n s) < 24 := q
        unfold zl_kd
        rw [decide_eq_true q']; rfl
      · have q' : zf_wd b s (zf_enw b n s) = 26 := q
        rw [q']; rfl
    · rw [if_neg c1]
      by_cases c2 : zf_dg (b s) = true
      · rw [if_pos c2]
        dsimp only
        split <;> rfl
      · rw [if_neg c2]
        dsimp only
        unfold zf_sgn
        split
        · have h : ∀ i : Fin 12, zl_kd (40 + i.1) = true := by decide
          exact h ⟨_, by assumption⟩
        · rfl
theorem zf_tkc_eq : ∀ k : Fin 52, zl_kd k.1 = true → ((zf_tkc k.1 = nI 2 ↔ k.1 = 27) ∧ (zf_tkc k.1 = nI 40 ↔ k.1 = 45) ∧ (zf_tkc k.1 = nI 91 ↔ k.1 = 47) ∧ (zf_tkc k.1 = nI 215 ↔ k.1 = 15) ∧ (zf_tkc k.1 = nI 59 ↔ k.1 = 40) ∧ (zf_tkc k.1 = nI 43 ↔ k.1 = 42) ∧ (zf_tkc k.1 = nI 45 ↔ k.1 = 43) ∧ (zf_tkc k.1 = nI 42 ↔ k.1 = 44)) ∧ ((zf_tkc k.1 = nI 61 ↔ k.1 = 49) ∧ (zf_tkc k.1 = nI 60 ↔ k.1 = 50) ∧ (zf_tkc k.1 = nI 62 ↔ k.1 = 51) ∧ (zf_tkc k.1 = nI 41 ↔ k.1 = 46) ∧ (zf_tkc k.1 = nI 214 ↔ k.1 = 14) ∧ (zf_tkc k.1 = nI 213 ↔ k.1 = 13) ∧ (zf_tkc k.1 = nI 93 ↔ k.1 = 48) ∧ (zf_tkc k.1 = nI 1 ↔ k.1 = 29)) ∧ ((zf_tkc k.1 < nI 216 ↔ ¬ 16 ≤ k.1 ∨ 24 ≤ k.1) ∧ (¬ zf_tkc k.1 < nI 216 → ¬ nI 223 < zf_tkc k.1)) ∧ (zf_tkc k.1 = nI 0 ↔ k.1 = 28) ∧ (zf_tkc k.1 = nI 58 ↔ k.1 = 41) := by decide +kernel
def zl_g : List Nat → Nat → Nat
  | [], _ => 0
  | x :: _, 0 => x
  | _ :: r, i + 1 => zl_g r i
theorem zl_g_app {x : Nat} : ∀ (c : List Nat) (i : Nat), zl_g (c ++ [x]) i = if i < c.length then zl_g c i else if i = c.length then x else 0 := by
  intro c
  induction c with
  | nil =>
    intro i
    cases i with
    | zero => rfl
    | succ i => rfl
  | cons y r ih =>
    intro i
    cases i with
    | zero => rfl
    | succ i =>
      show zl_g (r ++ [x]) i = if i + 1 < r.length + 1 then zl_g r i else if i + 1 = r.length + 1 then x else 0
      rw [ih i]
      by_cases c1 : i < r.length
      · rw [if_pos c1, if_pos (show i + 1 < r.length + 1 by omega)]
      · rw [if_neg c1, if_neg (show ¬ i + 1 < r.length + 1 by omega)]
        by_cases c2 : i = r.length
        · rw [if_pos c2, if_pos (show i + 1 = r.length + 1 by omega)]
        · rw [if_neg c2, if_neg (show ¬ i + 1 = r.length + 1 by omega)]
/-- the pile as it lies in the class's cell -/
def zPl (I : zx_MI) : List Nat → Prop
  | [] => True
  | k :: r => I 87 r.length = zf_tkc k ∧ zPl I r
theorem zPl_f {I I2 : zx_MI} : ∀ p : List Nat, (∀ j, j < p.length → I2 87 j = I 87 j) → zPl I p → zPl I2 p := by
  intro p
  induction p with
  | nil => intro _ _; trivial
  | cons k r ih =>
    rintro h ⟨h1, h2⟩
    exact ⟨(h r.length (Nat.lt_succ_self _)).trans h1, ih (fun j hj => h j (Nat.lt_succ_of_lt hj)) h2⟩
def zLr (I : zx_MI) (p : List Nat) (ns os ot : Nat) (cp : Bool) (c : List Nat) : Prop := I 86 1 = nI p.length ∧ zPl I p ∧ I 86 2 = nI ns ∧ I 86 3 = nI os ∧ I 86 4 = nI ot ∧ I 86 5 = zB cp ∧ I 89 3 = nI c.length ∧ ∀ i, i < c.length → I 90 i = zf_tc (zl_g c i)
def zFl (I I2 : zx_MI) : Prop := ∀ a j, ¬ (a = 89 ∨ a = 90 ∨ a = 86 ∨ a = 87) → I2 a j = I a j
theorem zFl_t {I I2 I3 : zx_MI} (h : zFl I I2) (k : zFl I2 I3) : zFl I I3 := fun a j n => (k a j n).trans (h a j n)
def zl_vd (p : List Nat) : Prop := ∀ k, k ∈ p → k ∈ zl_ks
theorem zl_oc_n : ∀ k, k ∈ zl_ks → 1 ≤ zl_bd k → -(zf_tkc k) = zf_tc (zl_oc k) := by decide +kernel
theorem zl_15 : ∀ k, k ∈ zl_ks → (zf_tkc k = nI 215 ↔ k = 15) := by decide +kernel
theorem zl_wd_n : ∀ k : Fin 24, 16 ≤ k.1 → -(zf_tkc k.1) = zf_tc (1000 + (k.1 - 16)) := by decide +kernel
section LR
variable {Lh : Nat} {I : zx_MI} {J : zx_MJ} {os ot : Nat} {cp : Bool}
theorem sc_bond {d k : Nat} {L : zx_Lay} {P : Option Value → zx_Lay → zx_MI → zx_MJ → Prop} (hk : k ∈ zl_ks) : zx_rn d 23 [.int (zf_tkc k)] L I J P = P (some (.int (nI (zl_bd k)))) L I J := by
  rw [ze_23]
  simp only [zl_ks, List.mem_cons, List.not_mem_nil, or_false] at hk
  have e45 : zf_tkc 45 = nI 40 := by decide +kernel
  have e47 : zf_tkc 47 = nI 91 := by decide +kernel
  have e13 : zf_tkc 13 = nI 213 := by decide +kernel
  have e14 : zf_tkc 14 = nI 214 := by decide +kernel
  have e15 : zf_tkc 15 = nI 215 := by decide +kernel
  have e42 : zf_tkc 42 = nI 43 := by decide +kernel
  have e43 : zf_tkc 43 = nI 45 := by decide +kernel
  have e44 : zf_tkc 44 = nI 42 := by decide +kernel
  have e49 : zf_tkc 49 = nI 61 := by decide +kernel
  have e50 : zf_tkc 50 = nI 60 := by decide +kernel
  have e51 : zf_tkc 51 = nI 62 := by decide +kernel
  rcases hk with h | h | h | h | h | h | h | h | h | h | h <;> subst h
  · rw [e45]; simp (disch := omega) only [↓zs_23_0, zx_pu_s, zx_pu_n, zx_rv_s, zx_rv_n, true_and, and_true, true_or, or_true, zb_0, zb_1, zq_lcl, zq_lcg, zq_lce, eq_self, ite_true, ite_false]; rw [zs_23_1, zi_at, (show zi_t [((nI 40), 92), ((nI 43), 102), ((nI 45), 102), ((nI 60), 100), ((nI 61), 100), ((nI 62), 100), ((nI 91), 92), ((nI 213), 94), ((nI 214), 96), ((nI 215), 98)] 104 (nI 40) = 92 from by decide +kernel)]; simp (disch := omega) only [↓zs_23_92, ↓zs_23_93, ↓zs_23_94, ↓zs_23_95, ↓zs_23_96, ↓zs_23_97, ↓zs_23_98, ↓zs_23_99, ↓zs_23_100, ↓zs_23_101, ↓zs_23_102, ↓zs_23_103, ↓zs_23_104, ↓zs_23_106, zx_pu_s, zx_pu_n, zx_rv_s, zx_rv_n, true_and, and_true, true_or, or_true, zb_0, zb_1, zq_lcl, zq_lcg, zq_lce, eq_self, ite_true, ite_false]; rfl
  · rw [e47]; simp (disch := omega) only [↓zs_23_0, zx_pu_s, zx_pu_n, zx_rv_s, zx_rv_n, true_and, and_true, true_or, or_true, zb_0, zb_1, zq_lcl, zq_lcg, zq_lce, eq_self, ite_true, ite_false]; rw [zs_23_1, zi_at, (show zi_t [((nI 40), 92), ((nI 43), 102), ((nI 45), 102), ((nI 60), 100), ((nI 61), 100), ((nI 62), 100), ((nI 91), 92), ((nI 213), 94), ((nI 214), 96), ((nI 215), 98)] 104 (nI 91) = 92 from by decide +kernel)]; simp (disch := omega) only [↓zs_23_92, ↓zs_23_93, ↓zs_23_94, ↓zs_23_95, ↓zs_23_96, ↓zs_23_97, ↓zs_23_98, ↓zs_23_99, ↓zs_23_100, ↓zs_23_101, ↓zs_23_102, ↓zs_23_103, ↓zs_23_104, ↓zs_23_106, zx_pu_s, zx_pu_n, zx_rv_s, zx_rv_n, true_and, and_true, true_or, or_true, zb_0, zb_1, zq_lcl, zq_lcg, zq_lce, eq_self, ite_true, ite_false]; rfl
  · rw [e13]; simp (disch := omega) only [↓zs_23_0, zx_pu_s, zx_pu_n, zx_rv_s, zx_rv_n, true_and, and_true, true_or, or_true, zb_0, zb_1, zq_lcl, zq_lcg, zq_lce, eq_self, ite_true, ite_false]; rw [zs_23_1, zi_at, (show zi_t [((nI 40), 92), ((nI 43), 102), ((nI 45), 102), ((nI 60), 100), ((nI 61), 100), ((nI 62), 100), ((nI 91), 92), ((nI 213), 94), ((nI 214), 96), ((nI 215), 98)] 104 (nI 213) = 94 from by decide +kernel)]; simp (disch := omega) only [↓zs_23_92, ↓zs_23_93, ↓zs_23_94, ↓zs_23_95, ↓zs_23_96, ↓zs_23_97, ↓zs_23_98, ↓zs_23_99, ↓zs_23_100, ↓zs_23_101, ↓zs_23_102, ↓zs_23_103, ↓zs_23_104, ↓zs_23_106, zx_pu_s, zx_pu_n, zx_rv_s, zx_rv_n, true_and, and_true, true_or, or_true, zb_0, zb_1, zq_lcl, zq_lcg, zq_lce, eq_self, ite_true, ite_false]; rfl
  · rw [e14]; simp (disch := omega) only [↓zs_23_0, zx_pu_s, zx_pu_n, zx_rv_s, zx_rv_n, true_and, and_true, true_or, or_true, zb_0, zb_1, zq_lcl, zq_lcg, zq_lce, eq_self, ite_true, ite_false]; rw [zs_23_1, zi_at, (show zi_t [((nI 40), 92), ((nI 43), 102), ((nI 45), 102), ((nI 60), 100), ((nI 61), 100), ((nI 62), 100), ((nI 91), 92), ((nI 213), 94), ((nI 214), 96), ((nI 215), 98)] 104 (nI 214) = 96 from by decide +kernel)]; simp (disch := omega) only [↓zs_23_92, ↓zs_23_93, ↓zs_23_94, ↓zs_23_95, ↓zs_23_96, ↓zs_23_97, ↓zs_23_98, ↓zs_23_99, ↓zs_23_100, ↓zs_23_101, ↓zs_23_102, ↓zs_23_103, ↓zs_23_104, ↓zs_23_106, zx_pu_s, zx_pu_n, zx_rv_s, zx_rv_n, true_and, and_true, true_or, or_true, zb_0, zb_1, zq_lcl, zq_lcg, zq_lce, eq_self, ite_true, ite_false]; rfl
  · rw [e15]; simp (disch := omega) only [↓zs_23_0, zx_pu_s, zx_pu_n, zx_rv_s, zx_rv_n, true_and, and_true, true_or, or_true, zb_0, zb_1, zq_lcl, zq_lcg, zq_lce, eq_self, ite_true, ite_false]; rw [zs_23_1, zi_at, (show zi_t [((nI 40), 92), ((nI 43), 102), ((nI 45), 102), ((nI 60), 100), ((nI 61), 100), ((nI 62), 100), ((nI 91), 92), ((nI 213), 94), ((nI 214), 96), ((nI 215), 98)] 104 (nI 215) = 98 from by decide +kernel)]; simp (disch := omega) only [↓zs_23_92, ↓zs_23_93, ↓zs_23_94, ↓zs_23_95, ↓zs_23_96, ↓zs_23_97, ↓zs_23_98, ↓zs_23_99, ↓zs_23_100, ↓zs_23_101, ↓zs_23_102, ↓zs_23_103, ↓zs_23_104, ↓zs_23_106, zx_pu_s, zx_pu_n, zx_rv_s, zx_rv_n, true_and, and_true, true_or, or_true, zb_0, zb_1, zq_lcl, zq_lcg, zq_lce, eq_self, ite_true, ite_false]; rfl
  · rw [e42]; simp (disch := omega) only [↓zs_23_0, zx_pu_s, zx_pu_n, zx_rv_s, zx_rv_n, true_and, and_true, true_or, or_true, zb_0, zb_1, zq_lcl, zq_lcg, zq_lce, eq_self, ite_true, ite_false]; rw [zs_23_1, zi_at, (show zi_t [((nI 40), 92), ((nI 43), 102), ((nI 45), 102), ((nI 60), 100), ((nI 61), 100), ((nI 62), 100), ((nI 91), 92), ((nI 213), 94), ((nI 214), 96), ((nI 215), 98)] 104 (nI 43) = 102 from by decide +kernel)]; simp (disch := omega) only [↓zs_23_92, ↓zs_23_93, ↓zs_23_94, ↓zs_23_95, ↓zs_23_96, ↓zs_23_97, ↓zs_23_98, ↓zs_23_99, ↓zs_23_100, ↓zs_23_101, ↓zs_23_102, ↓zs_23_103, ↓zs_23_104, ↓zs_23_106, zx_pu_s, zx_pu_n, zx_rv_s, zx_rv_n, true_and, and_true, true_or, or_true, zb_0, zb_1, zq_lcl, zq_lcg, zq_lce, eq_self, ite_true, ite_false]; rfl
  · rw [e43]; simp (disch := omega) only [↓zs_23_0, zx_pu_s, zx_pu_n, zx_rv_s, zx_rv_n, true_and, and_true, true_or, or_true, zb_0, zb_1, zq_lcl, zq_lcg, zq_lce, eq_self, ite_true, ite_false]; rw [zs_23_1, zi_at, (show zi_t [((nI 40), 92), ((nI 43), 102), ((nI 45), 102), ((nI 60), 100), ((nI 61), 100), ((nI 62), 100), ((nI 91), 92), ((nI 213), 94), ((nI 214), 96), ((nI 215), 98)] 104 (nI 45) = 102 from by decide +kernel)]; simp (disch := omega) only [↓zs_23_92, ↓zs_23_93, ↓zs_23_94, ↓zs_23_95, ↓zs_23_96, ↓zs_23_97, ↓zs_23_98, ↓zs_23_99, ↓zs_23_100, ↓zs_23_101, ↓zs_23_102, ↓zs_23_103, ↓zs_23_104, ↓zs_23_106, zx_pu_s, zx_pu_n, zx_rv_s, zx_rv_n, true_and, and_true, true_or, or_true, zb_0, zb_1, zq_lcl, zq_lcg, zq_lce, eq_self, ite_true, ite_false]; rfl
  · rw [e44]; simp (disch := omega) only [↓zs_23_0, zx_pu_s, zx_pu_n, zx_rv_s, zx_rv_n, true_and, and_true, true_or, or_true, zb_0, zb_1, zq_lcl, zq_lcg, zq_lce, eq_self, ite_true, ite_false]; rw [zs_23_1, zi_at, (show zi_t [((nI 40), 92), ((nI 43), 102), ((nI 45), 102), ((nI 60), 100), ((nI 61), 100), ((nI 62), 100), ((nI 91), 92), ((nI 213), 94), ((nI 214), 96), ((nI 215), 98)] 104 (nI 42) = 104 from by decide +kernel)]; simp (disch := omega) only [↓zs_23_92, ↓zs_23_93, ↓zs_23_94, ↓zs_23_95, ↓zs_23_96, ↓zs_23_97, ↓zs_23_98, ↓zs_23_99, ↓zs_23_100, ↓zs_23_101, ↓zs_23_102, ↓zs_23_103, ↓zs_23_104, ↓zs_23_106, zx_pu_s, zx_pu_n, zx_rv_s, zx_rv_n, true_and, and_true, true_or, or_true, zb_0, zb_1, zq_lcl, zq_lcg, zq_lce, eq_self, ite_true, ite_false]; rfl
  · rw [e49]; simp (disch := omega) only [↓zs_23_0, zx_pu_s, zx_pu_n, zx_rv_s, zx_rv_n, true_and, and_true, true_or, or_true, zb_0, zb_1, zq_lcl, zq_lcg, zq_lce, eq_self, ite_true, ite_false]; rw [zs_23_1, zi_at, (show zi_t [((nI 40), 92), ((nI 43), 102), ((nI 45), 102), ((nI 60), 100), ((nI 61), 100), ((nI 62), 100), ((nI 91), 92), ((nI 213), 94), ((nI 214), 96), ((nI 215), 98)] 104 (nI 61) = 100 from by decide +kernel)]; simp (disch := omega) only [↓zs_23_92, ↓zs_23_93, ↓zs_23_94, ↓zs_23_95, ↓zs_23_96, ↓zs_23_97, ↓zs_23_98, ↓zs_23_99, ↓zs_23_100, ↓zs_23_101, ↓zs_23_102, ↓zs_23_103, ↓zs_23_104, ↓zs_23_106, zx_pu_s, zx_pu_n, zx_rv_s, zx_rv_n, true_and, and_true, true_or, or_true, zb_0, zb_1, zq_lcl, zq_lcg, zq_lce, eq_self, ite_true, ite_false]; rfl
  · rw [e50]; simp (disch := omega) only [↓zs_23_0, zx_pu_s, zx_pu_n, zx_rv_s, zx_rv_n, true_and, and_true, true_or, or_true, zb_0, zb_1, zq_lcl, zq_lcg, zq_lce, eq_self, ite_true, ite_false]; rw [zs_23_1, zi_at, (show zi_t [((nI 40), 92), ((nI 43), 102), ((nI 45), 102), ((nI 60), 100), ((nI 61), 100), ((nI 62), 100), ((nI 91), 92), ((nI 213), 94), ((nI 214), 96), ((nI 215), 98)] 104 (nI 60) = 100 from by decide +kernel)]; simp (disch := omega) only [↓zs_23_92, ↓zs_23_93, ↓zs_23_94, ↓zs_23_95, ↓zs_23_96, ↓zs_23_97, ↓zs_23_98, ↓zs_23_99, ↓zs_23_100, ↓zs_23_101, ↓zs_23_102, ↓zs_23_103, ↓zs_23_104, ↓zs_23_106, zx_pu_s, zx_pu_n, zx_rv_s, zx_rv_n, true_and, and_true, true_or, or_true, zb_0, zb_1, zq_lcl, zq_lcg, zq_lce, eq_self, ite_true, ite_false]; rfl
  · rw [e51]; simp (disch := omega) only [↓zs_23_0, zx_pu_s, zx_pu_n, zx_rv_s, zx_rv_n, true_and, and_true, true_or, or_true, zb_0, zb_1, zq_lcl, zq_lcg, zq_lce, eq_self, ite_true, ite_false]; rw [zs_23_1, zi_at, (show zi_t [((nI 40), 92), ((nI 43), 102), ((nI 45), 102), ((nI 60), 100), ((nI 61), 100), ((nI 62), 100), ((nI 91), 92), ((nI 213), 94), ((nI 214), 96), ((nI 215), 98)] 104 (nI 62) = 100 from by decide +kernel)]; simp (disch := omega) only [↓zs_23_92, ↓zs_23_93, ↓zs_23_94, ↓zs_23_95, ↓zs_23_96, ↓zs_23_97, ↓zs_23_98, ↓zs_23_99, ↓zs_23_100, ↓zs_23_101, ↓zs_23_102, ↓zs_23_103, ↓zs_23_104, ↓zs_23_106, zx_pu_s, zx_pu_n, zx_rv_s, zx_rv_n, true_and, and_true, true_or, or_true, zb_0, zb_1, zq_lcl, zq_lcg, zq_lce, eq_self, ite_true, ite_false]; rfl
theorem sc_add {d l : Nat} {x : Int32} {P : Option Value → zx_Lay → zx_MI → zx_MJ → Prop} (hl : l < 900) (e : I 89 3 = nI l) : zx_rn d 11 [.ref 89, .int x] (zx_LL Lh) I J P = P none (zx_LL Lh) (zx_u (zx_u I 90 l x) 89 3 (nI (l + 1))) J := by
  have e900 : Int32.ofNat 900 = nI 900 := rfl
  have e2 : ∀ y, zx_u I 90 l y 89 3 = nI l := fun y => (zu_n (by omega)).trans e
  rw [ze_11]
  simp (disch := omega) only [↓zs_11_0, ↓zs_11_1, ↓zs_11_4, ↓zs_11_7, ↓zs_11_8, ↓zs_11_11, ↓zs_11_12, ↓zs_11_15, ↓zs_11_16, ↓zs_11_19, ↓zs_11_20, ↓zs_11_23, ↓zs_11_24, ↓zs_11_27, ↓zs_11_28, ↓zs_11_29, ↓zs_11_30, ↓zs_11_31, ↓zs_11_34, ↓zs_11_35, ↓zs_11_36, ↓zs_11_39, zx_pu_s, zx_pu_n, zx_rv_s, zx_rv_n, true_and, and_true, true_or, or_true, zb_0, zb_1, zq_lcl, zq_lcg, zq_lce, eq_self, ite_true, ite_false, zk_89, zw_89, zk_90, zw_90, zq_89_0, zq_89_1, zq_89_2, nI_ltI, zn_lt0, e, e900, hl, zin_nI, nI_clamp, e2, nI_add, zn_040]
theorem zLr_add {p : List Nat} {ns y : Nat} {c : List Nat} {x : Int32} (z : zLr I p ns os ot cp c) (e : x = zf_tc y) : zLr (zx_u (zx_u I 90 c.length x) 89 3 (nI (c.length + 1))) p ns os ot cp (c ++ [y]) := by
  obtain ⟨z1, z2, z3, z4, z5, z6, z7, z8⟩ := z
  refine ⟨?_, zPl_f p (fun j _ => ?_) z2, ?_, ?_, ?_, ?_, ?_, fun i hi => ?_⟩
  · rw [zu_n (by omega), zu_n (by omega)]; exact z1
  · rw [zu_n (by omega), zu_n (by omega)]
  · rw [zu_n (by omega), zu_n (by omega)]; exact z3
  · rw [zu_n (by omega), zu_n (by omega)]; exact z4
  · rw [zu_n (by omega), zu_n (by omega)]; exact z5
  · rw [zu_n (by omega), zu_n (by omega)]; exact z6
  · rw [zu_s, List.length_append]; rfl
  · rw [List.length_append] at hi
    have hi' : i < c.length + 1 := hi
    rw [zu_n (by omega), zl_g_app]
    by_cases q : i = c.length
    · subst q
      rw [zu_s, if_neg (Nat.lt_irrefl _), if_pos rfl, e]
    · rw [zu_n (by omega), if_pos (by omega)]
      exact z8 i (by omega)
theorem sc_release {least : Nat} (hl : 1 ≤ least) (hl6 : least ≤ 6) : ∀ (p : List Nat) (ns : Nat) (c : List Nat) (I : zx_MI), zLr I p ns os ot cp c → zl_vd p → zl_cn p ≤ ns → ns ≤ 60 → p.length ≤ 64 → p.length + c.length ≤ 900 → ∃ I2, zFl I I2 ∧ zLr I2 (zl_rl least p ns c).1 (zl_rl least p ns c).2.1 os ot cp (zl_rl least p ns c).2.2 ∧ ∀ d P v4, zx_wp (d + 1) 22 5 [.ref 86, .ref 89, .int (nI least), .int (nI p.length), v4] [] (zx_LL Lh) I J P = P none (zx_LL Lh) I2 J := by
  have e64 : Int32.ofNat 64 = nI 64 := rfl
  intro p
  induction p with
  | nil =>
    intro ns c I z _ _ _ _ _
    refine ⟨I, fun _ _ _ => rfl, z, fun d P v4 => ?_⟩
    rw [show ([] : List Nat).length = 0 from rfl, zs_22_5]
    simp (disch := omega) only [↓zs_22_6, ↓zs_22_9, ↓zs_22_10, ↓zs_22_13, ↓zs_22_16, ↓zs_22_17, ↓zs_22_20, ↓zs_22_21, ↓zs_22_24, ↓zs_22_25, ↓zs_22_28, ↓zs_22_29, ↓zs_22_32, ↓zs_22_33, ↓zs_22_36, ↓zs_22_37, ↓zs_22_38, ↓zs_22_39, ↓zs_22_41, ↓zs_22_43, ↓zs_22_46, ↓zs_22_47, ↓zs_22_50, ↓zs_22_51, ↓zs_22_52, ↓zs_22_54, ↓zs_22_55, ↓zs_22_58, ↓zs_22_59, ↓zs_22_60, ↓zs_22_63, ↓zs_22_64, ↓zs_22_65, ↓zs_22_68, ↓zs_22_69, ↓zs_22_70, ↓zs_22_73, ↓zs_22_75, ↓zs_22_78, ↓zs_22_81, ↓zs_22_82, ↓zs_22_85, ↓zs_22_86, ↓zs_22_87, ↓zs_22_90, ↓zs_22_93, ↓zs_22_96, zx_pu_s, zx_pu_n, zx_rv_s, zx_rv_n, true_and, and_true, true_or, or_true, zb_0, zb_1, zq_lcl, zq_lcg, zq_lce, eq_self, ite_true, ite_false, nI_ltI, Nat.lt_irrefl]
  | cons k r ih =>
    intro ns c I z hv hcn hns h64 h900
    have hk := hv k (List.mem_cons_self ..)
    have h64' : r.length + 1 ≤ 64 := h64
    have h900' : r.length + 1 + c.length ≤ 900 := h900
    obtain ⟨z1, z2, z3, z4, z5, z6, z7, z8⟩ := z
    have z1' : I 86 1 = nI (r.length + 1) := z1
    have ez : zLr I (k :: r) ns os ot cp c := ⟨z1, z2, z3, z4, z5, z6, z7, z8⟩
    have hb := fun d L I J P => sc_bond (d := d) (L := L) (I := I) (J := J) (P := P) hk
    have em : nI (r.length + 1) - nI 1 = nI r.length := by rw [pk_sub (by omega), Nat.add_sub_cancel]
    have g1 : 0 < r.length + 1 := by omega
    have g2 : ¬ 64 < r.length + 1 := by omega
    rw [zl_rl]
    have b6 := zl_bd_le k
    by_cases cb : zl_bd k < least
    · rw [if_pos cb]
      refine ⟨I, fun _ _ _ => rfl, ez, fun d P v4 => ?_⟩
      rw [show (k :: r).length = r.length + 1 from rfl, zs_22_5]
      simp (disch := omega) only [↓zs_22_6, ↓zs_22_9, ↓zs_22_10, ↓zs_22_13, ↓zs_22_16, ↓zs_22_17, ↓zs_22_20, ↓zs_22_21, ↓zs_22_24, ↓zs_22_25, ↓zs_22_28, ↓zs_22_29, ↓zs_22_32, ↓zs_22_33, ↓zs_22_36, ↓zs_22_37, ↓zs_22_38, ↓zs_22_39, ↓zs_22_41, ↓zs_22_43, ↓zs_22_46, ↓zs_22_47, ↓zs_22_50, zx_pu_s, zx_pu_n, zx_rv_s, zx_rv_n, true_and, and_true, true_or, or_true, zb_0, zb_1, zq_lcl, zq_lcg, zq_lce, eq_self, ite_true, ite_false, zk_86, zw_86, zk_87, zw_87, zq_86_0, nI_ltI, z1', e64, g1, g2, em, zin_nI, nI_clamp, z2.1, hb, cb, zn_040]
    · rw [if_neg cb]
      have ho := zl_oc_n k hk (by omega)
      have hadd := fun d P => sc_add (d := d) (Lh := Lh) (I := I) (J := J) (P := P) (l := c.length) (x := zf_tc (zl_oc k)) (by omega) z7
      have za := zLr_add ez (x := zf_tc (zl_oc k)) (y := zl_oc k) rfl
      generalize ha : zx_u (zx_u I 90 c.length (zf_tc (zl_oc k))) 89 3 (nI (c.length + 1)) = Ia at za hadd
      have fa : zFl I Ia := fun a j n => by rw [← ha, zu_n (by omega), zu_n (by omega)]
      obtain ⟨y1, y2, y3, y4, y5, y6, y7, y8⟩ := za
      have y1' : Ia 86 1 = nI (r.length + 1) := y1
      have e3 : ∀ x, zx_u Ia 86 1 x 86 2 = nI ns := fun x => (zu_n (by omega)).trans y3
      have zn : ∀ ns', zLr (zx_u (zx_u Ia 86 1 (nI r.length)) 86 2 (nI ns')) r ns' os ot cp (c ++ [zl_oc k]) := by
        intro ns'
        refine ⟨?_, zPl_f r (fun j _ => ?_) y2.2, zu_s _ _ _ _, ?_, ?_, ?_, ?_, fun i hi => ?_⟩
        · rw [zu_n (by omega), zu_s]
        · rw [zu_n (by omega), zu_n (by omega)]
        · rw [zu_n (by omega), zu_n (by omega)]; exact y4
        · rw [zu_n (by omega), zu_n (by omega)]; exact y5
        · rw [zu_n (by omega), zu_n (by omega)]; exact y6
        · rw [zu_n (by omega), zu_n (by omega)]; exact y7
        · rw [zu_n (by omega), zu_n (by omega)]; exact y8 i hi
      have hvr : zl_vd r := fun q hq => hv q (List.mem_cons_of_mem _ hq)
      have hcn' : (if k = 45 ∨ k = 47 ∨ k = 15 then 1 else 0) + zl_cn r ≤ ns := hcn
      have lc : (c ++ [zl_oc k]).length = c.length + 1 := by rw [List.length_append]; rfl
      by_cases c15 : k = 15
      · have e1 : (if k = 45 ∨ k = 47 ∨ k = 15 then 1 else 0) = 1 := if_pos (.inr (.inr c15))
        rw [e1] at hcn'
        rw [if_pos c15]
        have t15 : (zf_tkc k = nI 215) = True := eq_true ((zl_15 k hk).mpr c15)
        have en : nI ns - nI 1 = nI (ns - 1) := pk_sub (by omega)
        obtain ⟨I2, f2, z2', h2⟩ := ih (ns - 1) (c ++ [zl_oc k]) _ (zn (ns - 1)) hvr (by omega) (by omega) (by omega) (by omega)
        refine ⟨I2, zFl_t fa (zFl_t (fun a j n => by rw [zu_n (by omega), zu_n (by omega)]) f2), z2', fun d P v4 => ?_⟩
        rw [← h2 d P (.int (zf_tkc k)), show (k :: r).length = r.length + 1 from rfl, zs_22_5]
        simp (disch := omega) only [↓zs_22_6, ↓zs_22_9, ↓zs_22_10, ↓zs_22_13, ↓zs_22_16, ↓zs_22_17, ↓zs_22_20, ↓zs_22_21, ↓zs_22_24, ↓zs_22_25, ↓zs_22_28, ↓zs_22_29, ↓zs_22_32, ↓zs_22_33, ↓zs_22_36, ↓zs_22_37, ↓zs_22_38, ↓zs_22_39, ↓zs_22_41, ↓zs_22_43, ↓zs_22_46, ↓zs_22_47, ↓zs_22_50, zx_pu_s, zx_pu_n, zx_rv_s, zx_rv_n, true_and, and_true, true_or, or_true, zb_0, zb_1, zq_lcl, zq_lcg, zq_lce, eq_self, ite_true, ite_false, zk_86, zw_86, zk_87, zw_87, zq_86_0, nI_ltI, z1', e64, g1, g2, em, zin_nI, nI_clamp, z2.1, hb, cb, zn_040]
        simp (disch := omega) only [↓zs_22_51, ↓zs_22_52, ↓zs_22_54, ↓zs_22_55, ↓zs_22_58, ↓zs_22_59, ↓zs_22_60, ↓zs_22_63, ↓zs_22_64, ↓zs_22_65, ↓zs_22_68, ↓zs_22_69, ↓zs_22_70, ↓zs_22_73, ↓zs_22_75, ↓zs_22_78, ↓zs_22_81, ↓zs_22_82, ↓zs_22_85, ↓zs_22_86, ↓zs_22_87, ↓zs_22_90, ↓zs_22_93, ↓zs_22_96, zx_pu_s, zx_pu_n, zx_rv_s, zx_rv_n, true_and, and_true, true_or, or_true, zb_0, zb_1, zq_lcl, zq_lcg, zq_lce, eq_self, ite_true, ite_false, zk_89, zw_89, zq_89_0, zq_89_1, zq_89_2, zk_86, zw_86, zk_87, zw_87, zq_86_0, ho, hadd, y1', em, e3, t15, en, zq_dec]
      · rw [if_neg c15]
        have t15 : (zf_tkc k = nI 215) = False := eq_false (fun e => c15 ((zl_15 k hk).mp e))
        have en : nI ns - nI 0 = nI ns := pk_sub (by omega)
        obtain ⟨I2, f2, z2', h2⟩ := ih ns (c ++ [zl_oc k]) _ (zn ns) hvr (by omega) hns (by omega) (by omega)
        refine ⟨I2, zFl_t fa (zFl_t (fun a j n => by rw [zu_n (by omega), zu_n (by omega)]) f2), z2', fun d P v4 => ?_⟩
        rw [← h2 d P (.int (zf_tkc k)), show (k :: r).length = r.length + 1 from rfl, zs_22_5]
        simp (disch := omega) only [↓zs_22_6, ↓zs_22_9, ↓zs_22_10, ↓zs_22_13, ↓zs_22_16, ↓zs_22_17, ↓zs_22_20, ↓zs_22_21, ↓zs_22_24, ↓zs_22_25, ↓zs_22_28, ↓zs_22_29, ↓zs_22_32, ↓zs_22_33, ↓zs_22_36, ↓zs_22_37, ↓zs_22_38, ↓zs_22_39, ↓zs_22_41, ↓zs_22_43, ↓zs_22_46, ↓zs_22_47, ↓zs_22_50, zx_pu_s, zx_pu_n, zx_rv_s, zx_rv_n, true_and, and_true, true_or, or_true, zb_0, zb_1, zq_lcl, zq_lcg, zq_lce, eq_self, ite_true, ite_false, zk_86, zw_86, zk_87, zw_87, zq_86_0, nI_ltI, z1', e64, g1, g2, em, zin_nI, nI_clamp, z2.1, hb, cb, zn_040]
        simp (disch := omega) only [↓zs_22_51, ↓zs_22_52, ↓zs_22_54, ↓zs_22_55, ↓zs_22_58, ↓zs_22_59, ↓zs_22_60, ↓zs_22_63, ↓zs_22_64, ↓zs_22_65, ↓zs_22_68, ↓zs_22_69, ↓zs_22_70, ↓zs_22_73, ↓zs_22_75, ↓zs_22_78, ↓zs_22_81, ↓zs_22_82, ↓zs_22_85, ↓zs_22_86, ↓zs_22_87, ↓zs_22_90, ↓zs_22_93, ↓zs_22_96, zx_pu_s, zx_pu_n, zx_rv_s, zx_rv_n, true_and, and_true, true_or, or_true, zb_0, zb_1, zq_lcl, zq_lcg, zq_lce, eq_self, ite_true, ite_false, zk_89, zw_89, zq_89_0, zq_89_1, zq_89_2, zk_86, zw_86, zk_87, zw_87, zq_86_0, ho, hadd, y1', em, e3, t15, en, zq_dec]
end LR
