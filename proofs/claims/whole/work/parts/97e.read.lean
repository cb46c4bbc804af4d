/-! written, earned, fact, settled, posting, balance -/
theorem vx_same {r r2 : Int32} (h : r.toInt = r2.toInt) : r = r2 := (tI_eq r r2).mpr h
section Read
variable {I J : Nat → Int32} {F G : Nat → Nat → Int32} {g : Nat → Int64} {W : Int32 → (Nat → Int32) → (Nat → Nat → Int32) → (Nat → Int64) → Prop}
theorem mkRM {R N P : Nat} {pl bk po : Tb} (hp : RPl I F J G R pl) (hb : RBk I F J G N P bk po) (v : Int32) : RM (va_up J 0 v) G R N P pl bk po := by
  obtain ⟨b1, b2, b3, b4, b5, b6, b7, b8, b9, b10, b11⟩ := hb
  exact ⟨hp.2.1, hp.2.2, b2, b4, b5, b7, b8, b9⟩
theorem mkCM {R N P : Nat} {pl bk po : Tb} (hp : RPl I F J G R pl) (hg : Gd R pl) (hb : RBk I F J G N P bk po) : CM I F R N P pl bk po := by
  obtain ⟨b1, b2, b3, b4, b5, b6, b7, b8, b9, b10, b11⟩ := hb
  exact ⟨hp.1, hp.2.2, hg, b1, b6, b8, b9⟩
theorem c_written {x1 x2 : Int32} (hR : Rl I F J G) (h : ∀ (r : Int32) I1 F1 g1, (∀ post : Int32 → (Nat → Int32) → (Nat → Nat → Int32) → Prop, (∀ r2 J1 G1, Rl I1 F1 J1 G1 → J1 0 = r → (r = 0 → g1 0 = r2.toInt64) → post r2 J1 G1) → wX5_written J G x1 x2 post) → W r I1 F1 g1) : wL_written I F g x1 x2 W := by
  obtain ⟨R, N, P, C, pl, bk, po, l, hp, hg, hb, hj, ht, hc⟩ := id hR
  obtain ⟨b1, b2, b3, b4, b5, b6, b7, b8, b9, b10, b11⟩ := id hb
  have hP6 := b9.1
  have hN := b1.1
  unfold wL_written wX4_written
  refine m_isPolicy b10 hP6 ⟨fun c => m_counted b3 hN ?_, fun c => ⟨rfl, h 1 I F g (fun post hh => ?_)⟩⟩
  · rw [nB_z, Classical.not_not] at c
    obtain ⟨p, hpp, rfl⟩ := isP hP6 c
    refine m_premiumBefore (mkCM hp (hg (by omega)) hb) hpp (cnt_le _ _) (fun r hr => h 0 I F _ (fun post hh => ?_))
    unfold wX5_written
    refine r_isPolicy b11 hP6 ⟨fun _ => ?_, fun d => ?_⟩
    · unfold bX5_written_14
      refine r_fails2 (a := False) (b := False) (c := False) (z_iff id) (z_iff id) (z_iff id) (fun q => q.elim) (fun _ q => q.elim) (fun _ _ q => q.elim) (fun _ _ _ => ⟨fun _ => ?_, fun e => absurd rfl e⟩)
      refine r_charges (mkRM hp hb 0) hpp (fun r2 g2 hr2 => hh _ _ _ ((hR.thrown _).best _) rfl (fun _ => ?_))
      rw [vx_same (hr2.trans hr.symm)]
      rfl
    · rw [nB_z] at d; exact absurd c d
  · rw [nB_z] at c
    unfold wX5_written
    refine r_isPolicy b11 hP6 ⟨fun d => ?_, fun _ => ?_⟩
    · rw [nB_z, Classical.not_not] at d; exact absurd d c
    · unfold bX5_written_14
      refine r_fails2 (a := True) (b := False) (c := False) (o_iff trivial) (z_iff id) (z_iff id) (fun _ => ⟨fun e => absurd e (by decide), fun _ => hh _ _ _ (hR.thrown _) rfl (fun z => absurd z (by decide))⟩) (fun q => absurd trivial q) (fun q => absurd trivial q) (fun q => absurd trivial q)
theorem c_earned {x1 x2 x3 : Int32} (hR : Rl I F J G) (h : ∀ (r : Int32) I1 F1 g1, (∀ post : Int32 → (Nat → Int32) → (Nat → Nat → Int32) → Prop, (∀ r2 J1 G1, Rl I1 F1 J1 G1 → J1 0 = r → (r = 0 → g1 0 = r2.toInt64) → post r2 J1 G1) → wX5_earned J G x1 x2 x3 post) → W r I1 F1 g1) : wL_earned I F g x1 x2 x3 W := by
  obtain ⟨R, N, P, C, pl, bk, po, l, hp, hg, hb, hj, ht, hc⟩ := id hR
  obtain ⟨b1, b2, b3, b4, b5, b6, b7, b8, b9, b10, b11⟩ := id hb
  have hP6 := b9.1
  have hN := b1.1
  unfold wL_earned wX4_earned
  refine m_isPolicy b10 hP6 ⟨fun c => m_counted b3 hN ?_, fun c => ⟨rfl, h 1 I F g (fun post hh => ?_)⟩⟩
  · rw [nB_z, Classical.not_not] at c
    obtain ⟨p, hpp, rfl⟩ := isP hP6 c
    refine m_premiumBefore (mkCM hp (hg (by omega)) hb) hpp (cnt_le _ _) (fun r hr => h 0 I F _ (fun post hh => ?_))
    unfold wX5_earned
    refine r_isPolicy b11 hP6 ⟨fun _ => ?_, fun d => ?_⟩
    · unfold bX5_earned_14
      refine r_fails2 (a := False) (b := False) (c := False) (z_iff id) (z_iff id) (z_iff id) (fun q => q.elim) (fun _ q => q.elim) (fun _ _ q => q.elim) (fun _ _ _ => ⟨fun _ => ?_, fun e => absurd rfl e⟩)
      refine r_charges (mkRM hp hb 0) hpp (fun r2 g2 hr2 => hh _ _ _ ((hR.thrown _).best _) rfl (fun _ => ?_))
      rw [vx_same (hr2.trans hr.symm)]
      rfl
    · rw [nB_z] at d; exact absurd c d
  · rw [nB_z] at c
    unfold wX5_earned
    refine r_isPolicy b11 hP6 ⟨fun d => ?_, fun _ => ?_⟩
    · rw [nB_z, Classical.not_not] at d; exact absurd d c
    · unfold bX5_earned_14
      refine r_fails2 (a := True) (b := False) (c := False) (o_iff trivial) (z_iff id) (z_iff id) (fun _ => ⟨fun e => absurd e (by decide), fun _ => hh _ _ _ (hR.thrown _) rfl (fun z => absurd z (by decide))⟩) (fun q => absurd trivial q) (fun q => absurd trivial q) (fun q => absurd trivial q)
theorem c_settled {x1 x2 : Int32} (hR : Rl I F J G) (h : ∀ (r : Int32) I1 F1 g1, (∀ post : Int32 → (Nat → Int32) → (Nat → Nat → Int32) → Prop, (∀ r2 J1 G1, Rl I1 F1 J1 G1 → J1 0 = r → (r = 0 → g1 0 = r2.toInt64) → post r2 J1 G1) → wX5_settled J G x1 x2 post) → W r I1 F1 g1) : wL_settled I F g x1 x2 W := by
  obtain ⟨R, N, P, C, pl, bk, po, l, hp, hg, hb, hj, ht, hc⟩ := id hR
  obtain ⟨c1, c2, c3, c4, -⟩ := id hc
  have e0 : (0 : Int32).toInt = 0 := rfl
  have e1 : (1 : Int32).toInt = 1 := rfl
  have e5 : (5 : Int32).toInt = 5 := rfl
  have e6 : (6 : Int32).toInt = 6 := rfl
  let A : Prop := ¬ ((0 ≤ x1.toInt ∧ x1.toInt < (C : Int)) ∧ (0 ≤ x2.toInt ∧ x2.toInt < 6))
  have js : (J 14 - (1 : Int32)).toInt = (C : Int) - 1 := by
    rw [c2, tI_sub (by rw [tI_nI (by omega), e1]; omega) (by rw [tI_nI (by omega), e1]; omega), tI_nI (by omega), e1]
  have ref : ∀ post : Int32 → (Nat → Int32) → (Nat → Nat → Int32) → Prop, (A → post 0 (va_up J 0 (1 : Int32)) G) → (¬ A → vp_in ((6 : Int32) * x1 + x2) 120 ∧ post (G 16 (Int32.toNatClampNeg ((6 : Int32) * x1 + x2))) (va_up J 0 (0 : Int32)) G) → wX5_settled J G x1 x2 post := by
    intro post g1 g0
    have one : ∀ y0 : Int32, (¬ y0 = 0 ↔ A) → bX5_settled_29 post J G x1 x2 y0 := by
      intro y0 hy
      unfold bX5_settled_29
      exact r_fails2 (b := False) (c := False) hy (z_iff id) (z_iff id) (fun q => ⟨fun e => absurd e (by decide), fun _ => g1 q⟩) (fun _ q => q.elim) (fun _ _ q => q.elim) (fun q _ _ => ⟨fun _ => g0 q, fun e => absurd rfl e⟩)
    unfold wX5_settled
    refine m_outside ?_
    rw [e0, js]
    refine ⟨fun q => one _ (o_iff ?_), fun q => m_outside ?_⟩
    · rw [nB_z, Classical.not_not] at q; exact fun z => q ⟨z.1.1, by omega⟩
    rw [nB_z, Classical.not_not] at q
    rw [e0, e5]
    refine ⟨fun q2 => one _ (z_iff ?_), fun q2 => one _ (o_iff ?_)⟩
    · rw [nB_z, Classical.not_not] at q2; exact fun z => z ⟨⟨q.1, by omega⟩, ⟨q2.1, by omega⟩⟩
    · rw [nB_z, Classical.not_not] at q2; exact fun z => q2 ⟨z.2.1, by omega⟩
  have bad : A → W (1 : Int32) I F g := fun q => h 1 I F g (fun post hh => ref post (fun _ => hh _ _ _ (hR.thrown _) rfl (fun z => absurd z (by decide))) (fun n => absurd q n))
  unfold wL_settled wX4_settled
  refine m_isIndex ?_
  rw [c1, tI_nI (by omega)]
  refine ⟨fun q => ⟨rfl, bad ?_⟩, fun q => m_isIndex ?_⟩
  · rw [nB_z] at q; exact fun z => q z.1
  rw [nB_z, Classical.not_not] at q
  rw [e6]
  refine ⟨fun q2 => ?_, fun q2 => ⟨rfl, bad ?_⟩⟩
  · rw [nB_z, Classical.not_not] at q2
    obtain ⟨a, ha⟩ : ∃ a : Nat, x1 = nI a := ⟨x1.toInt.toNat, by rw [tI_eq, tI_nI (by omega)]; omega⟩
    obtain ⟨b, hb2⟩ : ∃ b : Nat, x2 = nI b := ⟨x2.toInt.toNat, by rw [tI_eq, tI_nI (by have := tI_rng x2; omega)]; omega⟩
    have ha1 : x1.toInt.toNat < C := by omega
    have hb1 : x2.toInt.toNat < 6 := by omega
    have ea : x1 = nI x1.toInt.toNat := by rw [tI_eq, tI_nI (by omega)]; omega
    have eb : x2 = nI x2.toInt.toNat := by rw [tI_eq, tI_nI (by omega)]; omega
    generalize x1.toInt.toNat = m at ha1 ea
    generalize x2.toInt.toNat = n at hb1 eb
    have w1 : x1 * (6 : Int32) + x2 = nI (6 * m + n) := by
      rw [ea, eb]
      show nI m * nI 6 + nI n = _
      rw [pk_mul, nI_add, Nat.mul_comm]
    have w2 : (6 : Int32) * x1 + x2 = nI (6 * m + n) := by
      rw [ea, eb]
      show nI 6 * nI m + nI n = _
      rw [pk_mul, nI_add]
    rw [w1, nI_clamp (by omega), c4 (6 * m + n) (by omega)]
    refine ⟨vp_in_nI (by omega) (by omega), h 0 I F _ (fun post hh => ref post (fun n => absurd ⟨q, q2⟩ n) (fun _ => ?_))⟩
    rw [w2, nI_clamp (by omega)]
    exact ⟨vp_in_nI (by omega) (by omega), hh _ _ _ (hR.thrown _) rfl (fun _ => rfl)⟩
  · rw [nB_z] at q2; exact fun z => q2 z.2
theorem c_posting {x1 x2 : Int32} (hR : Rl I F J G) (h : ∀ (r : Int32) I1 F1 g1, (∀ post : Int32 → (Nat → Int32) → (Nat → Nat → Int32) → Prop, (∀ r2 J1 G1, Rl I1 F1 J1 G1 → J1 0 = r → (r = 0 → g1 0 = r2.toInt64) → post r2 J1 G1) → wX5_posting J G x1 x2 post) → W r I1 F1 g1) : wL_posting I F g x1 x2 W := by
  obtain ⟨R, N, P, C, pl, bk, po, l, hp, hg, hb, hj, ht, hc⟩ := id hR
  obtain ⟨⟨c1, c3, k4, -⟩, ⟨c2, -, m4⟩⟩ := id hj
  have e0 : (0 : Int32).toInt = 0 := rfl
  have e1 : (1 : Int32).toInt = 1 := rfl
  have e2 : (2 : Int32).toInt = 2 := rfl
  have e3 : (3 : Int32).toInt = 3 := rfl
  let A : Prop := ¬ ((0 ≤ x1.toInt ∧ x1.toInt < (l.length : Int)) ∧ (0 ≤ x2.toInt ∧ x2.toInt < 3))
  have js : (J 4 - (1 : Int32)).toInt = (l.length : Int) - 1 := by
    rw [c2, tI_sub (by rw [tI_nI (by omega), e1]; omega) (by rw [tI_nI (by omega), e1]; omega), tI_nI (by omega), e1]
  have ref : ∀ post : Int32 → (Nat → Int32) → (Nat → Nat → Int32) → Prop, (A → post 0 (va_up J 0 (1 : Int32)) G) → (¬ A → (¬ x2 = (0 : Int32) → ((¬ x2 = (1 : Int32) → vp_in x1 90 ∧ post (G 12 (Int32.toNatClampNeg x1)) (va_up J 0 (0 : Int32)) G) ∧ (x2 = (1 : Int32) → vp_in x1 90 ∧ post (G 11 (Int32.toNatClampNeg x1)) (va_up J 0 (0 : Int32)) G))) ∧ (x2 = (0 : Int32) → vp_in x1 90 ∧ post (G 10 (Int32.toNatClampNeg x1)) (va_up J 0 (0 : Int32)) G)) → wX5_posting J G x1 x2 post := by
    intro post g1 g0
    have one : ∀ y0 : Int32, (¬ y0 = 0 ↔ A) → bX5_posting_29 post J G x1 x2 y0 := by
      intro y0 hy
      unfold bX5_posting_29
      exact r_fails2 (b := False) (c := False) hy (z_iff id) (z_iff id) (fun q => ⟨fun e => absurd e (by decide), fun _ => g1 q⟩) (fun _ q => q.elim) (fun _ _ q => q.elim) (fun q _ _ => ⟨fun _ => g0 q, fun e => absurd rfl e⟩)
    unfold wX5_posting
    refine m_outside ?_
    rw [e0, js]
    refine ⟨fun q => one _ (o_iff ?_), fun q => m_outside ?_⟩
    · rw [nB_z, Classical.not_not] at q; exact fun z => q ⟨z.1.1, by omega⟩
    rw [nB_z, Classical.not_not] at q
    rw [e0, e2]
    refine ⟨fun q2 => one _ (z_iff ?_), fun q2 => one _ (o_iff ?_)⟩
    · rw [nB_z, Classical.not_not] at q2; exact fun z => z ⟨⟨q.1, by omega⟩, ⟨q2.1, by omega⟩⟩
    · rw [nB_z, Classical.not_not] at q2; exact fun z => q2 ⟨z.2.1, by omega⟩
  have bad : A → W (1 : Int32) I F g := fun q => h 1 I F g (fun post hh => ref post (fun _ => hh _ _ _ (hR.thrown _) rfl (fun z => absurd z (by decide))) (fun n => absurd q n))
  unfold wL_posting wX4_posting
  refine m_isIndex ?_
  rw [c1, tI_nI (by omega)]
  refine ⟨fun q => ⟨rfl, bad ?_⟩, fun q => m_isIndex ?_⟩
  · rw [nB_z] at q; exact fun z => q z.1
  rw [nB_z, Classical.not_not] at q
  rw [e3]
  refine ⟨fun q2 => ?_, fun q2 => ⟨rfl, bad ?_⟩⟩
  · rw [nB_z, Classical.not_not] at q2
    have ha1 : x1.toInt.toNat < l.length := by omega
    have ea : x1 = nI x1.toInt.toNat := by rw [tI_eq, tI_nI (by omega)]; omega
    generalize x1.toInt.toNat = m at ha1 ea
    have hA : ¬ A := fun z => z ⟨q, q2⟩
    obtain ⟨e, he⟩ : ∃ e, l[m]? = some e := ⟨l[m], List.getElem?_eq_getElem ha1⟩
    obtain ⟨k1, k2, k3⟩ := k4 m e he
    obtain ⟨m1, m2, m3⟩ := m4 m e he
    have hin : vp_in x1 90 := by rw [ea]; exact vp_in_nI (by omega) (by omega)
    have hcl : Int32.toNatClampNeg x1 = m := by rw [ea]; exact nI_clamp (by omega)
    rcases (show x2.toInt = 0 ∨ x2.toInt = 1 ∨ x2.toInt = 2 by omega) with z | z | z
    · have eb : x2 = nI 0 := by rw [tI_eq, z]; rfl
      have w1 : x1 * (3 : Int32) + x2 = nI (m * 3) := by
        rw [ea, eb]; show nI m * nI 3 + nI 0 = _; rw [pk_mul, nI_add, Nat.add_zero]
      rw [w1, nI_clamp (by omega), k1]
      refine ⟨vp_in_nI (by omega) (by omega), h 0 I F _ (fun post hh => ref post (fun n => absurd n hA) (fun _ => ⟨fun n => absurd eb n, fun _ => ⟨hin, ?_⟩⟩))⟩
      rw [hcl, m1]
      exact hh _ _ _ (hR.thrown _) rfl (fun _ => rfl)
    · have eb : x2 = nI 1 := by rw [tI_eq, z]; rfl
      have w1 : x1 * (3 : Int32) + x2 = nI (m * 3 + 1) := by
        rw [ea, eb]; show nI m * nI 3 + nI 1 = _; rw [pk_mul, nI_add]
      rw [w1, nI_clamp (by omega), k2]
      refine ⟨vp_in_nI (by omega) (by omega), h 0 I F _ (fun post hh => ref post (fun n => absurd n hA) (fun _ => ⟨fun _ => ⟨fun n => absurd eb n, fun _ => ⟨hin, ?_⟩⟩, fun n => absurd n (by rw [eb]; decide)⟩))⟩
      rw [hcl, m2]
      exact hh _ _ _ (hR.thrown _) rfl (fun _ => rfl)
    · have eb : x2 = nI 2 := by rw [tI_eq, z]; rfl
      have w1 : x1 * (3 : Int32) + x2 = nI (m * 3 + 2) := by
        rw [ea, eb]; show nI m * nI 3 + nI 2 = _; rw [pk_mul, nI_add]
      rw [w1, nI_clamp (by omega), k3]
      refine ⟨vp_in_nI (by omega) (by omega), h 0 I F _ (fun post hh => ref post (fun n => absurd n hA) (fun _ => ⟨fun _ => ⟨fun _ => ⟨hin, ?_⟩, fun n => absurd n (by rw [eb]; decide)⟩, fun n => absurd n (by rw [eb]; decide)⟩))⟩
      rw [hcl, m3]
      exact hh _ _ _ (hR.thrown _) rfl (fun _ => rfl)
  · rw [nB_z] at q2; exact fun z => q2 z.2
theorem c_balance {x1 : Int32} (hR : Rl I F J G) (h : ∀ (r : Int32) I1 F1 g1, (∀ post : Int32 → (Nat → Int32) → (Nat → Nat → Int32) → Prop, (∀ r2 J1 G1, Rl I1 F1 J1 G1 → J1 0 = r → (r = 0 → g1 0 = r2.toInt64) → post r2 J1 G1) → wX5_balance J G x1 post) → W r I1 F1 g1) : wL_balance I F g x1 W := by
  obtain ⟨R, N, P, C, pl, bk, po, l, hp, hg, hb, hj, ht, hc⟩ := id hR
  have e0 : (0 : Int32).toInt = 0 := rfl
  have e6 : (6 : Int32).toInt = 6 := rfl
  have e7 : (7 : Int32).toInt = 7 := rfl
  unfold wL_balance wX4_balance
  refine m_isIndex ?_
  rw [e7]
  refine ⟨fun q => ?_, fun q => ⟨rfl, h 1 I F g (fun post hh => ?_)⟩⟩
  · rw [nB_z, Classical.not_not] at q
    have ha1 : x1.toInt.toNat < 7 := by omega
    have ea : x1 = nI x1.toInt.toNat := by rw [tI_eq, tI_nI (by omega)]; omega
    generalize x1.toInt.toNat = m at ha1 ea
    have hcl : Int32.toNatClampNeg x1 = m := by rw [ea]; exact nI_clamp (by omega)
    refine ⟨by rw [ea]; exact vp_in_nI (by omega) (by omega), ?_⟩
    rw [hcl, hj.1.2.2.2 m ha1, ← ea]
    refine h 0 I F _ (fun post hh => ?_)
    unfold wX5_balance
    refine m_outside ?_
    rw [e0, e6]
    refine r_fails2 (a := ¬ (0 ≤ x1.toInt ∧ x1.toInt ≤ 6)) (b := False) (c := False) (by rw [nB_z, Classical.not_not]) (z_iff id) (z_iff id) (fun z => absurd ⟨q.1, by omega⟩ z) (fun _ q => q.elim) (fun _ _ q => q.elim) (fun _ _ _ => ⟨fun _ => ⟨l.length + 1, ?_⟩, fun e => absurd rfl e⟩)
    have hM : JM (va_up J 0 (0 : Int32)) G l := hj.2
    exact r_balance_l hM (hh _ _ _ (hR.thrown _) rfl (fun _ => rfl)) (l.length + 1) 0 0 (by omega) (by omega) rfl
  · rw [nB_z] at q
    unfold wX5_balance
    refine m_outside ?_
    rw [e0, e6]
    refine r_fails2 (a := ¬ (0 ≤ x1.toInt ∧ x1.toInt ≤ 6)) (b := False) (c := False) (by rw [nB_z, Classical.not_not]) (z_iff id) (z_iff id) (fun z => ⟨fun e => absurd e (by decide), fun _ => hh _ _ _ (hR.thrown _) rfl (fun z => absurd z (by decide))⟩) (fun _ q => q.elim) (fun _ _ q => q.elim) (fun z _ _ => absurd (fun w => q ⟨w.1, by omega⟩) z)
end Read
