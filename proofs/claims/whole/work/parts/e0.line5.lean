/-! lines: statues -/
section E0
variable {Lh n : Nat} {b : Nat → Nat} {I Im : zx_MI} {J Jm : zx_MJ} {T : zTk} {F : Nat → Int32}
/-- a row with one more statue -/
def zf_sta (F : Nat → Int32) (N k g : Nat) (y : Int32) : Nat → Int32 := zu1 (zu1 (zu1 (zu1 F (109 + N) (nI k)) (117 + N) (nI g)) (125 + N) y) 3 (nI (N + 1))
theorem zf_sta_o {N k g : Nat} {y : Int32} (hN : N < 8) : (∀ j, ¬ (j = 3 ∨ j = 109 + N ∨ j = 117 + N ∨ j = 125 + N) → zf_sta F N k g y j = F j) ∧ zf_sta F N k g y (109 + N) = nI k ∧ zf_sta F N k g y (117 + N) = nI g ∧ zf_sta F N k g y (125 + N) = y ∧ zf_sta F N k g y 3 = nI (N + 1) := by
  unfold zf_sta
  refine ⟨fun j h => ?_, ?_, ?_, ?_, zu1_s _ _ _⟩
  · rw [zu1_n (by omega), zu1_n (by omega), zu1_n (by omega), zu1_n (by omega)]
  · rw [zu1_n (by omega), zu1_n (by omega), zu1_n (by omega), zu1_s]
  · rw [zu1_n (by omega), zu1_n (by omega), zu1_s]
  · rw [zu1_n (by omega), zu1_s]
theorem zStaFin {I2 : zx_MI} {T2 : zTk} {k g : Nat} {y : Int32} (hc : zPc I J b n T F) (pf : zPf F) (N8 : zn F < 8) (kw : k < zw F * zh F) (kf : zf_taken F (zn F) k = false) (g8 : g < 8) (hy : zf_opt y 8) (f : ∀ a j, ¬ ((a = 84 ∧ 2 ≤ j) ∨ (a = 83 ∧ (j = 4 ∨ j = 5)) ∨ (a = 88 ∧ j = 8) ∨ ((a = 99 ∨ a = 100 ∨ a = 101) ∧ j = zn F)) → I2 a j = I a j) (p2 : zPt I2 b n T2) (h6 : I2 84 6 = nI 0) (h7 : I2 84 7 = -1) (e8 : I2 88 8 = nI (zn F + 1)) (ep : I2 99 (zn F) = nI k) (ed : I2 100 (zn F) = nI g) (ef : I2 101 (zn F) = y) : zPc I2 J b n T2 (zf_sta F (zn F) k g y) ∧ zPf (zf_sta F (zn F) k g y) := by
  have v := pf.1
  obtain ⟨⟨vw, vh, vN, w8, h8, -⟩, vs⟩ := v.1
  have wh : zw F * zh F ≤ 64 := Nat.mul_le_mul w8 h8
  obtain ⟨k0, kn⟩ := zf_frk (by omega) v kf
  obtain ⟨ek, e1, e2, e3, e4⟩ := zf_sta_o (F := F) (k := k) (g := g) (y := y) N8
  have l10 := v.2.2.2.2.1.2.1
  have o4 := v.2.2.2.1.2.1
  generalize hF2 : zf_sta F (zn F) k g y = F2 at *
  have ewF : zw F2 = zw F := by unfold zw; rw [ek 1 (by omega)]
  have ehF : zh F2 = zh F := by unfold zh; rw [ek 2 (by omega)]
  have enF : zn F2 = zn F + 1 := by show zf_nat (F2 3) = _; rw [e4, zf_nat, nI_clamp (by omega)]
  have etF : zt F2 = zt F := by unfold zt; rw [ek 133 (by omega)]
  have elF : zl F2 = zl F := by unfold zl; rw [ek 4 (by omega)]
  have eoF : zo F2 = zo F := by unfold zo; rw [ek 5 (by omega)]
  have ekF : zk F2 = zk F := by unfold zk; rw [ek 385 (by omega)]
  have v2 : zV F2 0 := by
    obtain ⟨v1, v2, v3, v4, v5, v6, v7, v8⟩ := v
    refine ⟨⟨?_, fun s hs => ?_⟩, fun j hj => ?_, fun j s hj hs hne => ?_, zV_snow (ek 5 (by omega)) (fun j h1 h2 => ek j (by omega)) v4, zV_let (ek 4 (by omega)) (fun j h1 h2 => ek j (by omega)) v5, zV_law (ek 6 (by omega)) (fun j h1 => ek j (by omega)) v6, ?_, ?_⟩
    · rw [ek 1 (by omega), ek 2 (by omega), e4, ewF, ehF, enF]; exact ⟨vw, vh, rfl, w8, h8, by omega⟩
    · obtain ⟨s1, s2, s3, s4⟩ := vs s hs
      rw [ewF, ehF, enF]
      by_cases q : s = zn F
      · rw [q, e1, e2, e3]
        exact ⟨.inr ⟨k, kw, rfl⟩, hy, ⟨g, g8, rfl⟩, fun h => by omega⟩
      · rw [ek (109 + s) (by omega), ek (125 + s) (by omega), ek (117 + s) (by omega)]
        exact ⟨s1, s2, s3, fun h => s4 (by omega)⟩
    · rw [ek (45 + j) (by omega)]; exact v2 j hj
    · rw [ek (45 + j) (by omega)] at hne
      rw [ewF, ehF]
      refine ⟨(v3 j s hj hs hne).1, ?_⟩
      by_cases q : s = zn F
      · rw [q, e1]
        intro e
        have : k = j := (nI_eq (by omega) (by omega)).mp e
        exact hne (this ▸ k0)
      · rw [ek (109 + s) (by omega)]; exact (v3 j s hj hs hne).2
    · rw [etF, ek 133 (by omega)]; exact v7
    · rw [etF]; exact v8
  obtain ⟨-, -, -, sq, st⟩ := hc
  refine ⟨⟨p2, h6, h7, ?_, ?_⟩, v2, fun s h1 h2 => ?_, fun i hi => ?_⟩
  · obtain ⟨r1, r2, r3, r4, r5, r6, r7, r8, r9, r10⟩ := sq
    unfold zR_sq zR_ground zR_snow
    rw [elF, eoF, ekF]
    refine ⟨?_, ?_, ?_, ?_, ?_, fun j hj => ?_, ⟨?_, fun i hi => ?_⟩, fun i hi => ?_, ?_, fun j hj => ?_⟩
    · rw [f 88 6 (by omega), ek 1 (by omega)]; exact r1
    · rw [f 88 7 (by omega), ek 2 (by omega)]; exact r2
    · rw [e8, e4]
    · rw [f 88 9 (by omega), ek 0 (by omega)]; exact r4
    · rw [f 88 10 (by omega), ek 4 (by omega)]; exact r5
    · rw [ek (45 + j) (by omega)]; exact r6 j hj
    · rw [f 88 11 (by omega), ek 5 (by omega)]; exact r7.1
    · rw [f (88 + 8) i (by omega), f (88 + 9) i (by omega), ek (37 + 2 * i) (by omega), ek (37 + 2 * i + 1) (by omega)]; exact r7.2 i hi
    · rw [f (88 + 5) i (by omega), f (88 + 6) i (by omega), f (88 + 7) i (by omega), ek (7 + 3 * i) (by omega), ek (7 + 3 * i + 1) (by omega), ek (7 + 3 * i + 2) (by omega)]; exact r8 i hi
    · rw [f (88 + 1) 3 (by omega)]; exact r9
    · rw [f (88 + 2) j (by omega), ek (386 + j) (by omega)]; exact r10 j hj
  · have G : ∀ j, ¬ (j = 3 ∨ j = 109 + zn F ∨ j = 117 + zn F ∨ j = 125 + zn F) → zf_G F2 j = zf_G F j := fun j h => zf_G_k v (fun i _ _ _ _ => ek i (by omega)) (ek 133 (by omega)) (ek j h)
    refine ⟨by rw [f 98 3 (by omega), G 133 (by omega)]; exact st.1, fun s hs => ?_⟩
    by_cases q : s = zn F
    · rw [q, ep, ed, ef, zf_G_o v2 (109 + zn F) (by omega), zf_G_o v2 (117 + zn F) (by omega), e1, e2]
      refine ⟨rfl, rfl, ?_⟩
      show y = zf_lets F2 (zl F2) 0 F2 (125 + zn F)
      rw [zf_lets_n, e3]
      intro i _ hi
      rw [elF] at hi
      obtain ⟨w, hw, ew⟩ := pf.2.2 i (by omega)
      rw [ek (7 + 3 * i + 1) (by omega), ew, zf_nat, nI_clamp (by omega)]
      omega
    · rw [f (98 + 1) s (by omega), f (98 + 2) s (by omega), f (98 + 3) s (by omega), G (109 + s) (by omega), G (117 + s) (by omega), G (125 + s) (by omega)]; exact st.2 s hs
  · rw [enF] at h1
    rw [ek (125 + s) (by omega)]; exact pf.2.1 s (by omega) h2
  · rw [elF] at hi
    rw [ek (7 + 3 * i + 1) (by omega), enF]
    obtain ⟨w, hw, ew⟩ := pf.2.2 i hi
    exact ⟨w, by omega, ew⟩
theorem zf_G_N (pf : zPf F) (N8 : zn F < 8) : zf_G F (125 + zn F) = -1 := by
  have l10 := pf.1.2.2.2.2.1.2.1
  show zf_lets F (zl F) 0 F (125 + zn F) = -1
  rw [zf_lets_n, pf.2.1 _ (Nat.le_refl _) N8]
  intro i _ hi
  obtain ⟨w, hw, ew⟩ := pf.2.2 i (by omega)
  rw [ew, zf_nat, nI_clamp (by omega)]
  omega
end E0
