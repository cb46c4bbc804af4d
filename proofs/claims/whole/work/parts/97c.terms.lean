/-! terms, layer, row -/
section Trm
variable {I J : Nat → Int32} {F G : Nat → Nat → Int32} {g : Nat → Int64} {W : Int32 → (Nat → Int32) → (Nat → Nat → Int32) → (Nat → Int64) → Prop}
/-- without claims nothing is paid -/
theorem Cl.zero {I1 J1 : Nat → Int32} {F1 G1 : Nat → Nat → Int32} (h : Cl I F J G 0) (h6 : 1 ≤ (I1 6).toInt) (h8 : 0 ≤ (I1 8).toInt) (h9 : 0 ≤ (I1 9).toInt) (i11 : I1 11 = I 11) (i12 : I1 12 = I 12) (i13 : I1 13 = I 13) (f18 : F1 18 = F 18) (j14 : J1 14 = J 14) : Cl I1 F1 J1 G1 0 := by
  obtain ⟨c1, c2, c3, c4, c5, ⟨c6, -⟩, ⟨c7, -⟩⟩ := h
  have z : (0 : Int32).toInt = 0 := rfl
  have q1 : I 11 = 0 := c6
  have q2 : I 12 = 0 := c7
  refine ⟨by rw [i13, c1], by rw [j14, c2], by omega, fun k hk => by omega, fun p hp => ?_, ⟨by rw [i11, q1]; rfl, ?_⟩, ⟨by rw [i12, q2]; rfl, ?_⟩⟩
  · have q3 : F 18 p = 0 := (c5 p hp).1
    rw [f18, q3, z]
    exact ⟨rfl, by omega, by omega⟩
  · rw [i11, q1, z]
    exact ⟨by omega, Int.mul_nonneg h8 (by omega)⟩
  · rw [i12, q2, z]
    exact ⟨by omega, Int.mul_nonneg h8 h9⟩
theorem c_terms {x1 x2 x3 : Int32} (hR : Rl I F J G) (h : ∀ (r : Int32) I1 F1 g1, (∀ post : (Nat → Int32) → (Nat → Nat → Int32) → Prop, (∀ J1 G1, Rl I1 F1 J1 G1 → J1 0 = r → post J1 G1) → wX5_terms J G x1 x2 x3 post) → W r I1 F1 g1) : wL_terms I F g x1 x2 x3 W := by
  obtain ⟨R, N, P, C, pl, bk, po, l, hp, hg, hb, hj, ht, hc⟩ := id hR
  have hC := hc.2.2.1
  have e0 : (0 : Int32).toInt = 0 := rfl
  have e1 : (1 : Int32).toInt = 1 := rfl
  have e9 : (999 : Int32).toInt = 999 := rfl
  have e99 : (9999 : Int32).toInt = 9999 := rfl
  let B : Prop := ¬ ((0 ≤ x1.toInt ∧ x1.toInt ≤ 999) ∧ (1 ≤ x2.toInt ∧ x2.toInt ≤ 9999) ∧ (1 ≤ x3.toInt ∧ x3.toInt ≤ 9999))
  have ref : ∀ post : (Nat → Int32) → (Nat → Nat → Int32) → Prop, (0 < C → post (va_up J 0 (1 : Int32)) G) → (¬ 0 < C → B → post (va_up J 0 (2 : Int32)) G) → (¬ 0 < C → ¬ B → post (va_up (va_up (va_up (va_up J 0 (0 : Int32)) 7 x1) 8 x2) 9 x3) G) → wX5_terms J G x1 x2 x3 post := by
    intro post g1 g2 g0
    have two : ∀ y0 y1 : Int32, (¬ y0 = 0 ↔ B) → (¬ y1 = 0 ↔ 0 < C) → bX5_terms_51 post J G x1 x2 x3 y0 y1 := by
      intro y0 y1 hy hy1
      unfold bX5_terms_51
      refine r_fails2 (b := B) (c := False) hy1 hy (z_iff id) (fun q => ⟨fun e => absurd e (by decide), fun _ => g1 q⟩) (fun q q2 => ⟨fun e => absurd e (by decide), fun _ => g2 q q2⟩) (fun _ _ q => q.elim) (fun q q2 _ => ⟨fun _ I5 e5 I6 e6 I7 e7 => ?_, fun e => absurd rfl e⟩)
      rw [e7, e6, e5]
      exact g0 q q2
    have one : ∀ y0 : Int32, (¬ y0 = 0 ↔ 0 < C) → bX5_terms_13 post J G x1 x2 x3 y0 := by
      intro y0 hy
      unfold bX5_terms_13
      refine m_outside ?_
      rw [e0, e9]
      refine ⟨fun q => two _ _ (o_iff ?_) hy, fun q => m_outside ?_⟩
      · rw [nB_z, Classical.not_not] at q; exact fun z => q z.1
      · rw [nB_z, Classical.not_not] at q
        rw [e1, e99]
        refine ⟨fun q2 => two _ _ (o_iff ?_) hy, fun q2 => m_outside ?_⟩
        · rw [nB_z, Classical.not_not] at q2; exact fun z => q2 z.2.1
        · rw [nB_z, Classical.not_not] at q2
          rw [e1, e99]
          refine ⟨fun q3 => two _ _ (z_iff ?_) hy, fun q3 => two _ _ (o_iff ?_) hy⟩
          · rw [nB_z, Classical.not_not] at q3; exact fun z => z ⟨q, q2, q3⟩
          · rw [nB_z, Classical.not_not] at q3; exact fun z => q3 z.2.2
    unfold wX5_terms
    rw [n_le0 hc.2.1 (by omega)]
    exact ⟨fun c => one _ (z_iff (by omega)), fun c => one _ (o_iff (by omega))⟩
  have bad : C = 0 → B → W (2 : Int32) I F g := fun c q => h 2 I F g (fun post hh => ref post (fun q => by omega) (fun _ _ => hh _ _ (hR.thrown _) rfl) (fun _ n => absurd q n))
  unfold wL_terms wX4_terms
  rw [n_le0 hc.1 (by omega)]
  refine ⟨fun c => m_isWithin ?_, fun c => Or.inl ⟨rfl, h 1 I F g (fun post hh => ref post (fun _ => hh _ _ (hR.thrown _) rfl) (fun q => by omega) (fun q => by omega))⟩⟩
  rw [e0, e9]
  refine ⟨fun q => Or.inr ⟨rfl, bad c ?_⟩, fun q => m_isWithin ?_⟩
  · rw [nB_z] at q; exact fun z => q z.1
  rw [nB_z, Classical.not_not] at q
  rw [e1, e99]
  refine ⟨fun q2 => Or.inr ⟨rfl, bad c ?_⟩, fun q2 => m_isWithin ?_⟩
  · rw [nB_z] at q2; exact fun z => q2 z.2.1
  rw [nB_z, Classical.not_not] at q2
  rw [e1, e99]
  refine ⟨fun q3 => ?_, fun q3 => Or.inr ⟨rfl, bad c ?_⟩⟩
  · rw [nB_z, Classical.not_not] at q3
    unfold wX3_setTerms
    intro I1 h1 I2 h2 I3 h3
    refine h 0 I3 F g (fun post hh => ref post (fun q => by omega) (fun _ z => absurd ⟨q, q2, q3⟩ z) (fun _ _ => hh _ _ ?_ rfl))
    rw [h3, h2, h1]
    subst c
    refine ⟨R, N, P, 0, pl, bk, po, l, ?_, hg, ?_, ?_, ⟨ht.1, ⟨rfl, q.1, q.2⟩, ⟨rfl, q2.1, q2.2⟩, ⟨rfl, q3.1, q3.2⟩, ht.2.2.2.2⟩, hc.zero q3.1 ht.2.2.2.2.2.1.2.1 ht.2.2.2.2.2.2.1.2.1 rfl rfl rfl rfl rfl⟩
    · exact hp.s (a := [4, 5, 6]) (b := []) (c := [0, 7, 8, 9]) (d := []) (sI_u (sI_u (sI_u sI_r (by decide)) (by decide)) (by decide)) sF_r (sI_u (sI_u (sI_u (sI_u sI_r (by decide)) (by decide)) (by decide)) (by decide)) sF_r (by decide) (by decide) (by decide) (by decide)
    · exact hb.s (a := [4, 5, 6]) (b := []) (c := [0, 7, 8, 9]) (d := []) (sI_u (sI_u (sI_u sI_r (by decide)) (by decide)) (by decide)) sF_r (sI_u (sI_u (sI_u (sI_u sI_r (by decide)) (by decide)) (by decide)) (by decide)) sF_r (by decide) (by decide) (by decide) (by decide)
    · exact hj.s (a := [4, 5, 6]) (b := []) (c := [0, 7, 8, 9]) (d := []) (sI_u (sI_u (sI_u sI_r (by decide)) (by decide)) (by decide)) sF_r (sI_u (sI_u (sI_u (sI_u sI_r (by decide)) (by decide)) (by decide)) (by decide)) sF_r (by decide) (by decide) (by decide) (by decide)
  · rw [nB_z] at q3; exact fun z => q3 z.2.2
theorem c_layer {x1 x2 x3 x4 : Int32} (hR : Rl I F J G) (h : ∀ (r : Int32) I1 F1 g1, (∀ post : (Nat → Int32) → (Nat → Nat → Int32) → Prop, (∀ J1 G1, Rl I1 F1 J1 G1 → J1 0 = r → post J1 G1) → wX5_layer J G x1 x2 x3 x4 post) → W r I1 F1 g1) : wL_layer I F g x1 x2 x3 x4 W := by
  obtain ⟨R, N, P, C, pl, bk, po, l, hp, hg, hb, hj, ht, hc⟩ := id hR
  have hC := hc.2.2.1
  have e0 : (0 : Int32).toInt = 0 := rfl
  have e3 : (3 : Int32).toInt = 3 := rfl
  have e9 : (99 : Int32).toInt = 99 := rfl
  have e99 : (9999 : Int32).toInt = 9999 := rfl
  let B : Prop := ¬ ((0 ≤ x1.toInt ∧ x1.toInt ≤ 9999) ∧ (0 ≤ x2.toInt ∧ x2.toInt ≤ 9999) ∧ (0 ≤ x3.toInt ∧ x3.toInt ≤ 3) ∧ (0 ≤ x4.toInt ∧ x4.toInt ≤ 99))
  have ref : ∀ post : (Nat → Int32) → (Nat → Nat → Int32) → Prop, (0 < C → post (va_up J 0 (1 : Int32)) G) → (¬ 0 < C → B → post (va_up J 0 (2 : Int32)) G) → (¬ 0 < C → ¬ B → post (va_up (va_up (va_up (va_up (va_up J 0 (0 : Int32)) 10 x1) 11 x2) 12 x3) 13 x4) G) → wX5_layer J G x1 x2 x3 x4 post := by
    intro post g1 g2 g0
    have two : ∀ y0 y1 : Int32, (¬ y0 = 0 ↔ B) → (¬ y1 = 0 ↔ 0 < C) → bX5_layer_60 post J G x1 x2 x3 x4 y0 y1 := by
      intro y0 y1 hy hy1
      unfold bX5_layer_60
      refine r_fails2 (b := B) (c := False) hy1 hy (z_iff id) (fun q => ⟨fun e => absurd e (by decide), fun _ => g1 q⟩) (fun q q2 => ⟨fun e => absurd e (by decide), fun _ => g2 q q2⟩) (fun _ _ q => q.elim) (fun q q2 _ => ⟨fun _ I5 e5 I6 e6 I7 e7 I8 e8 => ?_, fun e => absurd rfl e⟩)
      rw [e8, e7, e6, e5]
      exact g0 q q2
    have one : ∀ y0 : Int32, (¬ y0 = 0 ↔ 0 < C) → bX5_layer_13 post J G x1 x2 x3 x4 y0 := by
      intro y0 hy
      unfold bX5_layer_13
      refine m_outside ?_
      rw [e0, e99]
      refine ⟨fun q => two _ _ (o_iff ?_) hy, fun q => m_outside ?_⟩
      · rw [nB_z, Classical.not_not] at q; exact fun z => q z.1
      rw [nB_z, Classical.not_not] at q
      rw [e0, e99]
      refine ⟨fun q2 => two _ _ (o_iff ?_) hy, fun q2 => m_outside ?_⟩
      · rw [nB_z, Classical.not_not] at q2; exact fun z => q2 z.2.1
      rw [nB_z, Classical.not_not] at q2
      rw [e0, e3]
      refine ⟨fun q3 => two _ _ (o_iff ?_) hy, fun q3 => m_outside ?_⟩
      · rw [nB_z, Classical.not_not] at q3; exact fun z => q3 z.2.2.1
      rw [nB_z, Classical.not_not] at q3
      rw [e0, e9]
      refine ⟨fun q4 => two _ _ (z_iff ?_) hy, fun q4 => two _ _ (o_iff ?_) hy⟩
      · rw [nB_z, Classical.not_not] at q4; exact fun z => z ⟨q, q2, q3, q4⟩
      · rw [nB_z, Classical.not_not] at q4; exact fun z => q4 z.2.2.2
    unfold wX5_layer
    rw [n_le0 hc.2.1 (by omega)]
    exact ⟨fun c => one _ (z_iff (by omega)), fun c => one _ (o_iff (by omega))⟩
  have bad : C = 0 → B → W (2 : Int32) I F g := fun c q => h 2 I F g (fun post hh => ref post (fun q => by omega) (fun _ _ => hh _ _ (hR.thrown _) rfl) (fun _ n => absurd q n))
  unfold wL_layer wX4_layer
  rw [n_le0 hc.1 (by omega)]
  refine ⟨fun c => m_isWithin ?_, fun c => Or.inl ⟨rfl, h 1 I F g (fun post hh => ref post (fun _ => hh _ _ (hR.thrown _) rfl) (fun q => by omega) (fun q => by omega))⟩⟩
  rw [e0, e99]
  refine ⟨fun q => Or.inr ⟨rfl, bad c ?_⟩, fun q => m_isWithin ?_⟩
  · rw [nB_z] at q; exact fun z => q z.1
  rw [nB_z, Classical.not_not] at q
  rw [e0, e99]
  refine ⟨fun q2 => Or.inr ⟨rfl, bad c ?_⟩, fun q2 => m_isWithin ?_⟩
  · rw [nB_z] at q2; exact fun z => q2 z.2.1
  rw [nB_z, Classical.not_not] at q2
  rw [e0, e3]
  refine ⟨fun q3 => Or.inr ⟨rfl, bad c ?_⟩, fun q3 => m_isWithin ?_⟩
  · rw [nB_z] at q3; exact fun z => q3 z.2.2.1
  rw [nB_z, Classical.not_not] at q3
  rw [e0, e9]
  refine ⟨fun q4 => ?_, fun q4 => Or.inr ⟨rfl, bad c ?_⟩⟩
  · rw [nB_z, Classical.not_not] at q4
    unfold wX3_setLayer
    intro I1 h1 I2 h2 I3 h3 I4 h4
    refine h 0 I4 F g (fun post hh => ref post (fun q => by omega) (fun _ z => absurd ⟨q, q2, q3, q4⟩ z) (fun _ _ => hh _ _ ?_ rfl))
    rw [h4, h3, h2, h1]
    subst c
    refine ⟨R, N, P, 0, pl, bk, po, l, ?_, hg, ?_, ?_, ⟨ht.1, ht.2.1, ht.2.2.1, ht.2.2.2.1, ⟨rfl, q.1, q.2⟩, ⟨rfl, q2.1, q2.2⟩, ⟨rfl, q3.1, q3.2⟩, ⟨rfl, q4.1, q4.2⟩⟩, hc.zero ht.2.2.2.1.2.1 q2.1 q3.1 rfl rfl rfl rfl rfl⟩
    · exact hp.s (a := [7, 8, 9, 10]) (b := []) (c := [0, 10, 11, 12, 13]) (d := []) (sI_u (sI_u (sI_u (sI_u sI_r (by decide)) (by decide)) (by decide)) (by decide)) sF_r (sI_u (sI_u (sI_u (sI_u (sI_u sI_r (by decide)) (by decide)) (by decide)) (by decide)) (by decide)) sF_r (by decide) (by decide) (by decide) (by decide)
    · exact hb.s (a := [7, 8, 9, 10]) (b := []) (c := [0, 10, 11, 12, 13]) (d := []) (sI_u (sI_u (sI_u (sI_u sI_r (by decide)) (by decide)) (by decide)) (by decide)) sF_r (sI_u (sI_u (sI_u (sI_u (sI_u sI_r (by decide)) (by decide)) (by decide)) (by decide)) (by decide)) sF_r (by decide) (by decide) (by decide) (by decide)
    · exact hj.s (a := [7, 8, 9, 10]) (b := []) (c := [0, 10, 11, 12, 13]) (d := []) (sI_u (sI_u (sI_u (sI_u sI_r (by decide)) (by decide)) (by decide)) (by decide)) sF_r (sI_u (sI_u (sI_u (sI_u (sI_u sI_r (by decide)) (by decide)) (by decide)) (by decide)) (by decide)) sF_r (by decide) (by decide) (by decide) (by decide)
  · rw [nB_z] at q4; exact fun z => q4 z.2.2.2
end Trm
