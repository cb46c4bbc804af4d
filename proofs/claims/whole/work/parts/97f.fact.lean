/-! fact -/
section Fact
variable {I J : Nat → Int32} {F G : Nat → Nat → Int32} {g : Nat → Int64} {W : Int32 → (Nat → Int32) → (Nat → Nat → Int32) → (Nat → Int64) → Prop}
theorem bnd_iff {N P p n : Nat} {bk po : Tb} (hB : WfB N P bk po) (hO : WfO N P bk po) (hp : p < P) (hn : n ≤ N) : (ls bk p 999 0 n).isSome = true ↔ po 2 p < (n : Int) := by
  obtain ⟨o1, o2, o3, o4, -⟩ := hO.2 p hp
  constructor
  · intro h
    rcases (show po 2 p < (n : Int) ∨ (n : Int) ≤ po 2 p by omega) with c | c
    · exact c
    · rw [ls_before hB hn c] at h; cases h
  · intro h
    exact ls_after hO hp (by omega) (by omega) hn h
theorem c_fact {x1 x2 x3 x4 : Int32} (hR : Rl I F J G) (h : ∀ (r : Int32) I1 F1 g1, (∀ post : Int32 → (Nat → Int32) → (Nat → Nat → Int32) → Prop, (∀ r2 J1 G1, Rl I1 F1 J1 G1 → J1 0 = r → (r = 0 → g1 0 = r2.toInt64) → post r2 J1 G1) → wX5_fact J G x1 x2 x3 x4 post) → W r I1 F1 g1) : wL_fact I F g x1 x2 x3 x4 W := by
  obtain ⟨R, N, P, C, pl, bk, po, l, hp, hg, hb, hj, ht, hc⟩ := id hR
  obtain ⟨b1, b2, b3, b4, b5, b6, b7, b8, b9, b10, b11⟩ := id hb
  have hP6 := b9.1
  have hN := b1.1
  have e0 : (0 : Int32).toInt = 0 := rfl
  have e4 : (4 : Int32).toInt = 4 := rfl
  let A : Prop := ¬ ((0 ≤ x1.toInt ∧ x1.toInt < (P : Int)) ∧ (0 ≤ x2.toInt ∧ x2.toInt ≤ 4))
  -- the reference's way behind its test
  have ref : ∀ post : Int32 → (Nat → Int32) → (Nat → Nat → Int32) → Prop, (A → post 0 (va_up J 0 (1 : Int32)) G) → (¬ A → wX5_inTerm (va_up J 0 (0 : Int32)) G x1 x3 (fun r5 => ((r5 = (0 : Int32) → post (-1 : Int32) (va_up J 0 (0 : Int32)) G) ∧ (¬ r5 = (0 : Int32) → wX5_bound (va_up J 0 (0 : Int32)) G x1 x4 (fun r7 I8 F9 => ((¬ r7 = (0 : Int32) → wX5_charge I8 F9 x1 x3 x4 (fun r11 I12 F13 => ((¬ x2 = (3 : Int32) → ((¬ x2 = (4 : Int32) → wX5_known I12 F13 x2 (fun r16 => post r16 I12 F13)) ∧ (x2 = (4 : Int32) → post r11 I12 F13))) ∧ (x2 = (3 : Int32) → wX5_runs I12 F13 (fun r17 => ((r17 = (0 : Int32) → post (0 : Int32) I12 F13) ∧ (¬ r17 = (0 : Int32) → post (1 : Int32) I12 F13))))))) ∧ (r7 = (0 : Int32) → post (-1 : Int32) I8 F9))))))) → wX5_fact J G x1 x2 x3 x4 post := by
    intro post g1 g0
    have one : ∀ y0 : Int32, (¬ y0 = 0 ↔ A) → bX5_fact_23 post J G x1 x2 x3 x4 y0 := by
      intro y0 hy
      unfold bX5_fact_23
      exact r_fails2 (b := False) (c := False) hy (z_iff id) (z_iff id) (fun q => ⟨fun e => absurd e (by decide), fun _ => g1 q⟩) (fun _ q => q.elim) (fun _ _ q => q.elim) (fun q _ _ => ⟨fun _ => g0 q, fun e => absurd rfl e⟩)
    unfold wX5_fact
    refine r_isPolicy b11 hP6 ⟨fun q => one _ (o_iff ?_), fun q => m_outside ?_⟩
    · rw [nB_z] at q; exact fun z => q z.1
    rw [nB_z, Classical.not_not] at q
    rw [e0, e4]
    refine ⟨fun q2 => one _ (z_iff ?_), fun q2 => one _ (o_iff ?_)⟩
    · rw [nB_z, Classical.not_not] at q2; exact fun z => z ⟨q, q2⟩
    · rw [nB_z, Classical.not_not] at q2; exact fun z => q2 z.2
  have bad : A → W (1 : Int32) I F g := fun q => h 1 I F g (fun post hh => ref post (fun _ => hh _ _ _ (hR.thrown _) rfl (fun z => absurd z (by decide))) (fun n => absurd q n))
  unfold wL_fact wX4_fact
  refine m_isPolicy b10 hP6 ⟨fun q => ⟨rfl, bad ?_⟩, fun q => m_isWithin ?_⟩
  · rw [nB_z] at q; exact fun z => q z.1
  rw [nB_z, Classical.not_not] at q
  rw [e0, e4]
  refine ⟨fun q2 => m_counted b3 hN ?_, fun q2 => ⟨rfl, bad ?_⟩⟩
  · rw [nB_z, Classical.not_not] at q2
    have hA : ¬ A := fun z => z ⟨q, q2⟩
    obtain ⟨p, hpp, rfl⟩ := isP hP6 q
    have hM := mkCM hp (hg (by omega)) hb
    have hRM := mkRM hp hb 0
    have hcl := cnt_le N x4.toInt
    have hbi := bnd_iff b8 b9 hpp hcl
    refine m_isInTerm b6 hpp hP6 ⟨fun q3 => ?_, fun q3 => m_isBound b6 hpp hP6 (by omega) ⟨fun q4 => ?_, fun q4 => ?_⟩⟩
    · rw [nB_z] at q3
      refine h 0 I F _ (fun post hh => ref post (fun n => absurd n hA) (fun _ => r_inTerm b7 hpp hP6 ⟨fun _ => hh _ _ _ (hR.thrown _) rfl (fun _ => rfl), fun q4 => ?_⟩))
      rw [nB_z, Classical.not_not] at q4; exact absurd q4 q3
    · rw [nB_z, Classical.not_not] at q3 q4
      -- the reference comes to its charge
      have go : ∀ (r : Int32) (post : Int32 → (Nat → Int32) → (Nat → Nat → Int32) → Prop), (∀ (r11 : Int32) (g2 : Nat → Int32), (∀ j, j < 4 → g2 j = enc (ls bk p x3.toInt j (cnt N x4.toInt))) → r11.toInt = chA bk po pl R p (cnt N x4.toInt) x3.toInt → ((¬ x2 = (3 : Int32) → ((¬ x2 = (4 : Int32) → wX5_known (va_up J 0 (0 : Int32)) (va_up G 9 g2) x2 (fun r16 => post r16 (va_up J 0 (0 : Int32)) (va_up G 9 g2))) ∧ (x2 = (4 : Int32) → post r11 (va_up J 0 (0 : Int32)) (va_up G 9 g2)))) ∧ (x2 = (3 : Int32) → wX5_runs (va_up J 0 (0 : Int32)) (va_up G 9 g2) (fun r17 => ((r17 = (0 : Int32) → post (0 : Int32) (va_up J 0 (0 : Int32)) (va_up G 9 g2)) ∧ (¬ r17 = (0 : Int32) → post (1 : Int32) (va_up J 0 (0 : Int32)) (va_up G 9 g2))))))) → wX5_fact J G (nI p) x2 x3 x4 post := by
        intro r post gg
        refine ref post (fun n => absurd n hA) (fun _ => r_inTerm b7 hpp hP6 ⟨fun z => ?_, fun _ => r_bound hRM hpp (fun g1 => ⟨fun _ => ?_, fun z => ?_⟩)⟩)
        · rw [nB_z] at z; exact absurd q3 z
        · refine r_charge (hRM.up (g := g1)) hpp (fun r11 g2 hg2 hr11 => ?_)
          rw [up_same]
          exact gg r11 g2 hg2 hr11
        · rw [nB_z, hbi] at z; exact absurd q4 z
      have e4n : x2 = (4 : Int32) ↔ x2.toInt = 4 := by rw [tI_eq, e4]
      have e3n : x2 = (3 : Int32) ↔ x2.toInt = 3 := by rw [tI_eq]; exact Iff.rfl
      rw [e4n]
      refine ⟨fun q5 => ?_, fun q5 => ?_⟩
      · have hf : x2.toInt.toNat ≤ 3 := by omega
        have ef : x2 = nI x2.toInt.toNat := by rw [tI_eq, tI_nI (by omega)]; omega
        have ei : x2.toInt = (x2.toInt.toNat : Int) := by omega
        generalize x2.toInt.toNat = f at hf ef ei
        rw [ef]
        refine m_valueOn b8 b9 b1 b6 hpp hf hcl q4 q3.1 (fun r hr => h 0 I F _ (fun post hh => ?_))
        refine go r post (fun r11 g2 hg2 hr11 => ⟨fun z => ⟨fun _ => ?_, fun z2 => absurd (e4n.mp z2) q5⟩, fun z => ?_⟩)
        · rw [e3n] at z
          rw [ef]
          refine r_known (p := p) (d := x3.toInt) (n := cnt N x4.toInt) (bk := bk) (po := po) b8 b9 b2 b5 hpp (by omega) hcl (hg2 f (by omega)) (fun r16 hr16 => hh _ _ _ ((hR.thrown _).best _) rfl (fun _ => ?_))
          rw [vx_same (hr16.trans hr.symm)]
          rfl
        · rw [e3n] at z
          have f3 : f = 3 := by omega
          subst f3
          have hs := ls_after (f := 0) (d := x3.toInt) b9 hpp (by omega) q3.1 hcl q4
          have h01 := force01 (p := p) (d := x3.toInt) b8 hcl
          refine r_runs (p := p) (d := x3.toInt) (n := cnt N x4.toInt) (bk := bk) (po := po) b8 b2 hcl (hg2 0 (by omega)) (hg2 3 (by omega)) ⟨fun z2 => ?_, fun z2 => ?_⟩
          · rw [nB_z] at z2
            have h0 : vA bk po p x3.toInt (cnt N x4.toInt) 3 = 0 := by
              rcases h01 with w | w
              · exact w
              · exact absurd ⟨hs, w⟩ z2
            refine hh _ _ _ ((hR.thrown _).best _) rfl (fun _ => ?_)
            rw [vx_same (r := r) (r2 := 0) (by rw [hr, h0]; rfl)]
            rfl
          · rw [nB_z, Classical.not_not] at z2
            refine hh _ _ _ ((hR.thrown _).best _) rfl (fun _ => ?_)
            rw [vx_same (r := r) (r2 := 1) (by rw [hr, z2.2]; rfl)]
            rfl
      · refine m_chargeOn hM hpp hcl q4 q3.1 (fun r hr => h 0 I F _ (fun post hh => ?_))
        refine go r post (fun r11 g2 hg2 hr11 => ⟨fun z => ⟨fun z2 => absurd (e4n.mpr q5) z2, fun _ => ?_⟩, fun z => ?_⟩)
        · refine hh _ _ _ ((hR.thrown _).best _) rfl (fun _ => ?_)
          rw [vx_same (hr11.trans hr.symm)]
          rfl
        · rw [e3n] at z; omega
    · rw [nB_z, Classical.not_not] at q3
      rw [nB_z] at q4
      refine h 0 I F _ (fun post hh => ref post (fun n => absurd n hA) (fun _ => r_inTerm b7 hpp hP6 ⟨fun z => ?_, fun _ => r_bound hRM hpp (fun g1 => ⟨fun z => ?_, fun _ => hh _ _ _ ((hR.thrown _).best _) rfl (fun _ => rfl)⟩)⟩))
      · rw [nB_z] at z; exact absurd q3 z
      · rw [nB_z, Classical.not_not, hbi] at z; exact absurd z q4
  · rw [nB_z] at q2; exact fun z => q2 z.2
end Fact
