/-! undo, witness, quota, terms, layer, count -/
theorem nI_pr {R : Nat} (h : 0 < R) (hR : R < 2147483648) : nI R - (1 : Int32) = nI (R - 1) := by
  have e1 : (1 : Int32).toInt = 1 := rfl
  rw [tI_eq, tI_sub (by rw [tI_nI hR, e1]; omega) (by rw [tI_nI hR, e1]; omega), tI_nI hR, e1, tI_nI (by omega)]
  omega
section Small
variable {I J : Nat → Int32} {F G : Nat → Nat → Int32} {g : Nat → Int64} {W : Int32 → (Nat → Int32) → (Nat → Nat → Int32) → (Nat → Int64) → Prop}
theorem c_undo (hR : Rl I F J G) (h : ∀ (r : Int32) I1 F1 g1, (∀ post : (Nat → Int32) → (Nat → Nat → Int32) → Prop, (∀ J1 G1, Rl I1 F1 J1 G1 → J1 0 = r → post J1 G1) → wX5_undo J G post) → W r I1 F1 g1) : wL_undo I F g W := by
  obtain ⟨R, N, P, C, pl, bk, po, l, hp, hg, hb, hj, ht, hc⟩ := id hR
  obtain ⟨b1, b2, b3, b4, b5, b6, b7, b8, b9, b10, b11⟩ := id hb
  have hP6 := b9.1
  obtain ⟨⟨p1, p2, p3⟩, ⟨p4, -, p5⟩, p6⟩ := id hp
  have ref : ∀ post : (Nat → Int32) → (Nat → Nat → Int32) → Prop, ((0 < P ∨ R = 0) → post (va_up J 0 (1 : Int32)) G) → (¬ (0 < P ∨ R = 0) → post (va_up (va_up J 0 (0 : Int32)) 1 (nI (R - 1))) G) → wX5_undo J G post := by
    intro post g1 g0
    have one : ∀ y0 : Int32, (¬ y0 = 0 ↔ (0 < P ∨ R = 0)) → bX5_undo_20 post J G y0 := by
      intro y0 hy
      unfold bX5_undo_20
      refine r_fails2 (b := False) (c := False) hy (z_iff id) (z_iff id) (fun q => ⟨fun _ => g1 q, fun e => absurd e (by decide)⟩) (fun _ q => q.elim) (fun _ _ q => q.elim) (fun q _ _ => ⟨fun e => absurd rfl e, fun _ v5 e5 I6 e6 => ?_⟩)
      have e : v5 = nI (R - 1) := by
        rw [e5]
        show J 1 - (1 : Int32) = _
        rw [p4, nI_pr (by omega) (by omega)]
      rw [e6, e]
      exact g0 q
    have e0 : J 1 = (0 : Int32) ↔ R = 0 := n_eq (c := 0) p4 (by omega) (by omega)
    unfold wX5_undo
    rw [n_lt0 b11 (by omega), e0]
    exact ⟨fun c => one _ (o_iff (Or.inl c)), fun c => ⟨fun c2 => one _ (z_iff (by omega)), fun c2 => one _ (o_iff (Or.inr c2))⟩⟩
  have thr : (0 < P ∨ R = 0) → W (1 : Int32) I F g := fun q => h 1 I F g (fun post hh => ref post (fun _ => hh _ _ (hR.thrown _) rfl) (fun n => absurd q n))
  unfold wL_undo wX4_undo
  have e0 : I 1 = (0 : Int32) ↔ R = 0 := n_eq (c := 0) p1 (by omega) (by omega)
  refine m_isPlanClosed b10 hP6 ⟨fun c => ⟨rfl, thr (Or.inl ?_)⟩, fun c => ?_⟩
  · rw [nB_z, Classical.not_not] at c; exact c
  · rw [nB_z] at c
    rw [e0]
    refine ⟨fun c2 => ?_, fun c2 => ⟨rfl, thr (Or.inr c2)⟩⟩
    unfold wX1_dropLatest
    intro v1 e1 I2 e2
    have e : v1 = nI (R - 1) := by rw [e1, p1, nI_pr (by omega) (by omega)]
    refine h 0 I2 F g (fun post hh => ref post (fun q => by omega) (fun _ => hh _ _ ?_ rfl))
    rw [e2, e]
    refine ⟨R - 1, N, P, C, pl, bk, po, l, ⟨⟨rfl, by omega, fun r hr => p3 r (by omega)⟩, ⟨rfl, by omega, fun r hr => p5 r (by omega)⟩, fun r hr => p6 r (by omega)⟩, fun q => by omega, ?_, ?_, ?_, ?_⟩
    · exact hb.s (a := [1]) (b := []) (c := [0, 1]) (d := []) (sI_u sI_r (by decide)) sF_r (sI_u (sI_u sI_r (by decide)) (by decide)) sF_r (by decide) (by decide) (by decide) (by decide)
    · exact hj.s (a := [1]) (b := []) (c := [0, 1]) (d := []) (sI_u sI_r (by decide)) sF_r (sI_u (sI_u sI_r (by decide)) (by decide)) sF_r (by decide) (by decide) (by decide) (by decide)
    · exact ht.s (a := [1]) (c := [0, 1]) (sI_u sI_r (by decide)) (sI_u (sI_u sI_r (by decide)) (by decide)) (by decide) (by decide)
    · exact hc.s (a := [1]) (b := []) (c := [0, 1]) (d := []) (sI_u sI_r (by decide)) sF_r (sI_u (sI_u sI_r (by decide)) (by decide)) sF_r (by decide) (by decide) (by decide) (by decide)
theorem c_witness {W : Int32 → Prop} (hR : Rl I F J G) (h : ∀ r : Int32, (∀ post : Int32 → (Nat → Int32) → (Nat → Nat → Int32) → Prop, (∀ J1 G1, Rl I F J1 G1 → post r J1 G1) → wX5_witness J G post) → W r) : wX4_witness I F W := by
  obtain ⟨R, N, P, C, pl, bk, po, l, hp, hg, hb, hj, ht, hc⟩ := id hR
  unfold wX4_witness
  refine m_firstFault hp.1 (fun r hr => h r (fun post hh => ?_))
  unfold wX5_witness
  intro I1 e1
  have h1 : PlM I1 G R pl := by rw [e1]; exact hp.2.1
  refine r_flaw h1 (fun r2 hr2 => ?_)
  have : r2 = r := by rw [tI_eq, hr, hr2]
  rw [this, e1]
  exact hh _ _ (hR.thrown _)
theorem c_quota {x1 : Int32} (hR : Rl I F J G) (h : ∀ (r : Int32) I1 F1 g1, (∀ post : (Nat → Int32) → (Nat → Nat → Int32) → Prop, (∀ J1 G1, Rl I1 F1 J1 G1 → J1 0 = r → post J1 G1) → wX5_quota J G x1 post) → W r I1 F1 g1) : wL_quota I F g x1 W := by
  obtain ⟨R, N, P, C, pl, bk, po, l, hp, hg, hb, hj, ht, hc⟩ := id hR
  obtain ⟨b1, b2, b3, b4, b5, b6, b7, b8, b9, b10, b11⟩ := id hb
  have hP6 := b9.1
  have e0 : (0 : Int32).toInt = 0 := rfl
  have e90 : (90 : Int32).toInt = 90 := rfl
  have ref : ∀ post : (Nat → Int32) → (Nat → Nat → Int32) → Prop, (0 < P → post (va_up J 0 (1 : Int32)) G) → (¬ 0 < P → ¬ (0 ≤ x1.toInt ∧ x1.toInt ≤ 90) → post (va_up J 0 (2 : Int32)) G) → (¬ 0 < P → (0 ≤ x1.toInt ∧ x1.toInt ≤ 90) → post (va_up (va_up J 0 (0 : Int32)) 6 x1) G) → wX5_quota J G x1 post := by
    intro post g1 g2 g0
    have one : ∀ y0 : Int32, (¬ y0 = 0 ↔ 0 < P) → bX5_quota_13 post J G x1 y0 := by
      intro y0 hy
      unfold bX5_quota_13
      refine m_outside ?_
      rw [e0, e90]
      refine r_fails2 (b := ¬ (0 ≤ x1.toInt ∧ x1.toInt ≤ 90)) (c := False) hy (by rw [nB_z, Classical.not_not]) (z_iff id) (fun q => ⟨fun _ => g1 q, fun e => absurd e (by decide)⟩) (fun q q2 => ⟨fun _ => g2 q q2, fun e => absurd e (by decide)⟩) (fun _ _ q => q.elim) (fun q q2 _ => ⟨fun e => absurd rfl e, fun _ I6 e6 => ?_⟩)
      rw [e6]
      exact g0 q (Classical.not_not.mp q2)
    unfold wX5_quota
    rw [n_le0 b11 (by omega)]
    exact ⟨fun c => one _ (z_iff (by omega)), fun c => one _ (o_iff (by omega))⟩
  unfold wL_quota wX4_quota
  rw [n_le0 b10 (by omega)]
  refine ⟨fun c => m_isWithin ?_, fun c => Or.inl ⟨rfl, h 1 I F g (fun post hh => ref post (fun _ => hh _ _ (hR.thrown _) rfl) (fun q => by omega) (fun q => by omega))⟩⟩
  rw [e0, e90]
  refine ⟨fun c2 I4 e4 => ?_, fun c2 => Or.inr ⟨rfl, ?_⟩⟩
  · rw [nB_z, Classical.not_not] at c2
    refine h 0 I4 F g (fun post hh => ref post (fun q => by omega) (fun _ q => absurd c2 q) (fun _ _ => hh _ _ ?_ rfl))
    rw [e4]
    refine ⟨R, N, P, C, pl, bk, po, l, ?_, hg, ?_, ?_, ⟨⟨rfl, c2.1, c2.2⟩, ht.2⟩, ?_⟩
    · exact hp.s (a := [0]) (b := []) (c := [0, 6]) (d := []) (sI_u sI_r (by decide)) sF_r (sI_u (sI_u sI_r (by decide)) (by decide)) sF_r (by decide) (by decide) (by decide) (by decide)
    · exact hb.s (a := [0]) (b := []) (c := [0, 6]) (d := []) (sI_u sI_r (by decide)) sF_r (sI_u (sI_u sI_r (by decide)) (by decide)) sF_r (by decide) (by decide) (by decide) (by decide)
    · exact hj.s (a := [0]) (b := []) (c := [0, 6]) (d := []) (sI_u sI_r (by decide)) sF_r (sI_u (sI_u sI_r (by decide)) (by decide)) sF_r (by decide) (by decide) (by decide) (by decide)
    · exact hc.s (a := [0]) (b := []) (c := [0, 6]) (d := []) (sI_u sI_r (by decide)) sF_r (sI_u (sI_u sI_r (by decide)) (by decide)) sF_r (by decide) (by decide) (by decide) (by decide)
  · rw [nB_z] at c2
    exact h 2 I F g (fun post hh => ref post (fun q => by omega) (fun _ _ => hh _ _ (hR.thrown _) rfl) (fun _ q => absurd q c2))
theorem c_count {x1 : Int32} {W : Int32 → Prop} (hR : Rl I F J G) (h : ∀ r : Int32, (∀ post : Int32 → (Nat → Int32) → (Nat → Nat → Int32) → Prop, (∀ J1 G1, Rl I F J1 G1 → post r J1 G1) → wX5_count J G x1 post) → W r) : wX4_count I F x1 W := by
  obtain ⟨R, N, P, C, pl, bk, po, l, hp, hg, hb, hj, ht, hc⟩ := id hR
  obtain ⟨b1, b2, b3, b4, b5, b6, b7, b8, b9, b10, b11⟩ := id hb
  unfold wX4_count
  refine ⟨fun c => h _ ?_, fun c => h _ ?_, fun c => h _ ?_, fun c => h _ ?_, fun c => h _ ?_, fun c0 c1 c2 c3 c4 => h _ ?_⟩
  · intro post hh I1 e1
    have e : I1 2 = I 2 := by rw [e1, b10]; exact b11
    subst c
    refine ⟨fun q => absurd rfl q, fun _ => ?_⟩
    rw [e, e1]; exact hh _ _ (hR.thrown _)
  · intro post hh I1 e1
    have e : I1 3 = I 3 := by rw [e1, b3]; exact b4
    subst c
    refine ⟨fun _ => ⟨fun q => absurd rfl q, fun _ => ?_⟩, fun q => absurd q (by decide)⟩
    rw [e, e1]; exact hh _ _ (hR.thrown _)
  · intro post hh I1 e1
    have e : I1 14 = I 13 := by rw [e1, hc.1]; exact hc.2.1
    subst c
    refine ⟨fun _ => ⟨fun _ => ⟨fun q => absurd rfl q, fun _ => ?_⟩, fun q => absurd q (by decide)⟩, fun q => absurd q (by decide)⟩
    rw [e, e1]; exact hh _ _ (hR.thrown _)
  · intro post hh I1 e1
    have e : I1 4 = I 14 := by rw [e1, hj.1.1]; exact hj.2.1
    subst c
    refine ⟨fun _ => ⟨fun _ => ⟨fun _ => ⟨fun q => absurd rfl q, fun _ => ?_⟩, fun q => absurd q (by decide)⟩, fun q => absurd q (by decide)⟩, fun q => absurd q (by decide)⟩
    rw [e, e1]; exact hh _ _ (hR.thrown _)
  · intro post hh I1 e1
    have e : I1 1 = I 1 := by rw [e1, hp.1.1]; exact hp.2.1.1
    subst c
    refine ⟨fun _ => ⟨fun _ => ⟨fun _ => ⟨fun _ => ⟨fun q => absurd rfl q, fun _ => ?_⟩, fun q => absurd q (by decide)⟩, fun q => absurd q (by decide)⟩, fun q => absurd q (by decide)⟩, fun q => absurd q (by decide)⟩
    rw [e, e1]; exact hh _ _ (hR.thrown _)
  · intro post hh I1 e1
    refine ⟨fun _ => ⟨fun _ => ⟨fun _ => ⟨fun _ => ⟨fun _ => ?_, fun q => absurd q c4⟩, fun q => absurd q c3⟩, fun q => absurd q c2⟩, fun q => absurd q c1⟩, fun q => absurd q c0⟩
    rw [e1]; exact hh _ _ (hR.thrown _)
end Small
