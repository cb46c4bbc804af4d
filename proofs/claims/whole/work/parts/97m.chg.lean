/-! change, cancel, reinstate -/
section Chg
variable {I J : Nat → Int32} {F G : Nat → Nat → Int32} {g : Nat → Int64} {W : Int32 → (Nat → Int32) → (Nat → Nat → Int32) → (Nat → Int64) → Prop}
theorem c_change {x1 x2 x3 x4 : Int32} (hR : Rl I F J G) (h : ∀ (r : Int32) I1 F1 g1, (∀ post : Int32 → (Nat → Int32) → (Nat → Nat → Int32) → Prop, (∀ r2 J1 G1, Rl I1 F1 J1 G1 → J1 0 = r → (r = 0 → g1 0 = r2.toInt64) → post r2 J1 G1) → wX5_change J G x1 x2 x3 x4 post) → W r I1 F1 g1) : wL_change I F g x1 x2 x3 x4 W := by
  obtain ⟨R, N, P, C, pl, bk, po, l, hp, hg, hb, hj, ht, hc⟩ := id hR
  obtain ⟨b1, b2, b3, b4, b5, b6, b7, b8, b9, b10, b11⟩ := id hb
  have hP6 := b9.1
  have hN := b1.1
  have e0 : (0 : Int32).toInt = 0 := rfl
  have e2 : (2 : Int32).toInt = 2 := rfl
  have e99 : (99 : Int32).toInt = 99 := rfl
  have hcn : cnt N 99 = N := by unfold cnt; omega
  let A : Prop := ¬ ((0 ≤ x1.toInt ∧ x1.toInt < (P : Int)) ∧ (0 ≤ x3.toInt ∧ x3.toInt ≤ 2))
  let B : Prop := ¬ ((po 0 x1.toInt.toNat ≤ x2.toInt ∧ x2.toInt < po 1 x1.toInt.toNat) ∧ okv x3.toInt x4.toInt)
  let D : Prop := ¬ ifA bk po x1.toInt.toNat N x2.toInt ∨ N = 40
  have ref : ∀ post : Int32 → (Nat → Int32) → (Nat → Nat → Int32) → Prop, (∀ g' : Nat → Int32, A → post 0 (va_up J 0 (1 : Int32)) (va_up G 9 g')) → (∀ g' : Nat → Int32, ¬ A → B → post 0 (va_up J 0 (2 : Int32)) (va_up G 9 g')) → (∀ g' : Nat → Int32, ¬ A → ¬ B → D → post 0 (va_up J 0 (3 : Int32)) (va_up G 9 g')) → (∀ g' : Nat → Int32, ¬ A → ¬ B → ¬ D → wX5_lay (va_up J 0 (0 : Int32)) (va_up G 9 g') (1 : Int32) x1 x2 x3 x4 (fun I6 F7 => wX5_bookedOr I6 F7 (0 : Int32) post)) → wX5_change J G x1 x2 x3 x4 post := by
    intro post g1 g2 g3 g0
    have two : ∀ (g' : Nat → Int32) (y0 y1 y2 : Int32), (¬ y0 = 0 ↔ (¬ A ∧ D)) → (¬ y1 = 0 ↔ (¬ A ∧ B)) → (¬ y2 = 0 ↔ A) → bX5_change_85 post J (va_up G 9 g') x1 x2 x3 x4 y0 y1 y2 := by
      intro g' y0 y1 y2 hy0 hy1 hy2
      unfold bX5_change_85
      exact r_fails2 (b := ¬ A ∧ B) (c := ¬ A ∧ D) hy2 hy1 hy0 (fun q => ⟨fun e => absurd e (by decide), fun _ => g1 g' q⟩) (fun q q2 => ⟨fun e => absurd e (by decide), fun _ => g2 g' q q2.2⟩) (fun q q2 q3 => ⟨fun e => absurd e (by decide), fun _ => g3 g' q (fun w => q2 ⟨q, w⟩) q3.2⟩) (fun q q2 q3 => ⟨fun _ => g0 g' q (fun w => q2 ⟨q, w⟩) (fun w => q3 ⟨q, w⟩), fun e => absurd rfl e⟩)
    have one : ∀ (x5 y0 y1 : Int32), (¬ x5 = 0 → A) → (x5 = 0 → ¬ A) → (¬ y0 = 0 ↔ (¬ A ∧ B)) → (¬ y1 = 0 ↔ A) → bX5_change_55 post J G x1 x2 x3 x4 x5 y0 y1 := by
      intro x5 y0 y1 ha hna hy0 hy1
      unfold bX5_change_55
      refine ⟨fun q => ?_, fun q => ?_⟩
      · have := two (G 9) 0 y0 y1 (z_iff (fun w => w.1 (ha q))) hy0 hy1
        rw [up_id] at this
        exact this
      · have nA := hna q
        obtain ⟨p, hpp, ep⟩ := isP hP6 (Classical.not_not.mp nA).1
        have en : x1.toInt.toNat = p := by rw [ep, tI_nI (by omega)]; omega
        have hRM : RM J G R N P pl bk po := ⟨hp.2.1, hp.2.2, b2, b4, b5, b7, b8, b9⟩
        rw [ep]
        refine r_inForce hRM hpp (fun g' => ?_)
        rw [e99, hcn, ← ep]
        have e40 : J 3 = (40 : Int32) ↔ N = 40 := n_eq (c := 40) b4 (by omega) (by omega)
        refine ⟨fun z => two g' _ _ _ (o_iff ⟨nA, Or.inl ?_⟩) hy0 hy1, fun z => ?_⟩
        · rw [nB_z] at z; rw [en]; exact z
        · rw [nB_z, Classical.not_not] at z
          rw [e40]
          refine ⟨fun z2 => two g' _ _ _ (z_iff (fun w => w.2.elim (fun w2 => ?_) z2)) hy0 hy1, fun z2 => two g' _ _ _ (o_iff ⟨nA, Or.inr z2⟩) hy0 hy1⟩
          rw [en] at w2; exact w2 z
    have mid : ∀ (y0 : Int32), (¬ y0 = 0 ↔ A) → bX5_change_22 post J G x1 x2 x3 x4 y0 := by
      intro y0 hy
      unfold bX5_change_22
      have ha : ¬ y0 = 0 → A := fun q => hy.mp q
      have hna : y0 = 0 → ¬ A := fun q w => hy.mpr w q
      refine ⟨fun q => one _ _ _ ha hna (z_iff (fun w => w.1 (ha q))) hy, fun q => ?_⟩
      have nA := hna q
      have hxx := Classical.not_not.mp nA
      obtain ⟨p, hpp, ep⟩ := isP hP6 hxx.1
      have en : x1.toInt.toNat = p := by rw [ep, tI_nI (by omega)]; omega
      rw [ep]
      refine r_inTerm b7 hpp hP6 ?_
      rw [← ep]
      refine ⟨fun z => one _ _ _ ha hna (o_iff ⟨nA, fun w => ?_⟩) hy, fun z => m_isValue hxx.2.1 hxx.2.2 ⟨fun z2 => one _ _ _ ha hna (z_iff (fun w => w.2 ⟨?_, ?_⟩)) hy, fun z2 => one _ _ _ ha hna (o_iff ⟨nA, fun w => ?_⟩) hy⟩⟩
      · rw [nB_z] at z; rw [en] at w; exact z w.1
      · rw [nB_z, Classical.not_not] at z; rw [en]; exact z
      · rw [nB_z, Classical.not_not] at z2; exact z2
      · rw [nB_z] at z2; exact z2 w.2
    unfold wX5_change
    refine r_isPolicy b11 hP6 ⟨fun q => mid _ (o_iff ?_), fun q => m_outside ?_⟩
    · rw [nB_z] at q; exact fun z => q z.1
    rw [nB_z, Classical.not_not] at q
    rw [e0, e2]
    refine ⟨fun q2 => mid _ (z_iff ?_), fun q2 => mid _ (o_iff ?_)⟩
    · rw [nB_z, Classical.not_not] at q2; exact fun z => z ⟨q, q2⟩
    · rw [nB_z, Classical.not_not] at q2; exact fun z => q2 z.2
  have noA : A → W (1 : Int32) I F g := fun q => h 1 I F g (fun post hh => ref post (fun g' _ => hh _ _ _ ((hR.thrown _).best _) rfl (fun z => absurd z (by decide))) (fun _ z => absurd q z) (fun _ z => absurd q z) (fun _ z => absurd q z))
  have noB : ¬ A → B → W (2 : Int32) I F g := fun q q2 => h 2 I F g (fun post hh => ref post (fun _ z => absurd z q) (fun g' _ _ => hh _ _ _ ((hR.thrown _).best _) rfl (fun z => absurd z (by decide))) (fun _ _ z => absurd q2 z) (fun _ _ z => absurd q2 z))
  have noD : ¬ A → ¬ B → D → W (3 : Int32) I F g := fun q q2 q3 => h 3 I F g (fun post hh => ref post (fun _ z => absurd z q) (fun _ _ z => absurd z q2) (fun g' _ _ _ => hh _ _ _ ((hR.thrown _).best _) rfl (fun z => absurd z (by decide))) (fun _ _ _ z => absurd q3 z))
  unfold wL_change wX4_change
  refine m_isPolicy b10 hP6 ⟨fun q => Or.inl ⟨rfl, noA ?_⟩, fun q => m_isWithin ?_⟩
  · rw [nB_z] at q; exact fun z => q z.1
  rw [nB_z, Classical.not_not] at q
  rw [e0, e2]
  obtain ⟨p, hpp, ep⟩ := isP hP6 q
  have en : x1.toInt.toNat = p := by rw [ep, tI_nI (by omega)]; omega
  refine ⟨fun q2 => ?_, fun q2 => Or.inl ⟨rfl, noA ?_⟩⟩
  · rw [nB_z, Classical.not_not] at q2
    have hA : ¬ A := fun z => z ⟨q, q2⟩
    rw [ep]
    refine m_isInTerm b6 hpp hP6 ⟨fun q3 => Or.inr (Or.inl ⟨rfl, noB hA ?_⟩), fun q3 => m_isValueOf ⟨fun q4 => ?_, fun q4 => Or.inr (Or.inl ⟨rfl, noB hA ?_⟩)⟩⟩
    · rw [nB_z] at q3; intro z; rw [en] at z; exact q3 z.1
    · rw [nB_z, Classical.not_not] at q3 q4
      have hB : ¬ B := fun z => z ⟨by rw [en]; exact q3, q4⟩
      refine m_isInForce b8 b9 b1 b6 b3 hpp ⟨fun q5 => Or.inr (Or.inr (Or.inl ⟨rfl, noD hA hB (Or.inl ?_)⟩)), fun q5 => m_isFull b3 hN ⟨fun q6 => ?_, fun q6 => Or.inr (Or.inr (Or.inl ⟨rfl, noD hA hB (Or.inr ?_)⟩))⟩⟩
      · rw [nB_z] at q5; rw [en]; exact q5
      · rw [nB_z, Classical.not_not] at q5
        rw [nB_z] at q6
        have hD : ¬ D := fun z => z.elim (fun w => w (by rw [en]; exact q5)) q6
        refine c_book (k := 1) (t := x3) (v := x4) hp hg hb hj ht hc (by omega) hpp q3 (by omega) rfl rfl (fun _ => q4) (fun I1 F1 hw => h 0 I1 F1 _ (fun post hh => ?_)) (fun F1 hw => Or.inr (Or.inr (Or.inr ⟨rfl, h 4 I F1 g (fun post hh => ?_)⟩)))
        · refine ref post (fun _ z => absurd z hA) (fun _ _ z => absurd z hB) (fun _ _ _ z => absurd z hD) (fun g' _ _ _ => ?_)
          rw [ep]
          exact hw post g' (fun J1 G1 hR1 j0 => hh _ _ _ hR1 j0 (fun _ => rfl))
        · refine ref post (fun _ z => absurd z hA) (fun _ _ z => absurd z hB) (fun _ _ _ z => absurd z hD) (fun g' _ _ _ => ?_)
          rw [ep]
          exact hw post g' (fun J1 G1 hR1 j0 => hh _ _ _ hR1 j0 (fun z => absurd z (by decide)))
      · rw [nB_z, Classical.not_not] at q6; exact q6
    · rw [nB_z] at q4; exact fun z => q4 z.2
  · rw [nB_z] at q2; exact fun z => q2 z.2
/-- the reference's way to cancel and to reinstate -/
theorem r_turns {R N P : Nat} {pl bk po : Tb} {k : Nat} {x1 x2 sh : Int32} (hp : RPl I F J G R pl) (hb : RBk I F J G N P bk po) (hk : k = 2 ∨ k = 3) (post : Int32 → (Nat → Int32) → (Nat → Nat → Int32) → Prop) (g1 : ∀ g' : Nat → Int32, ¬ (0 ≤ x1.toInt ∧ x1.toInt < (P : Int)) → post 0 (va_up J 0 (1 : Int32)) (va_up G 9 g')) (g2 : ∀ (g' : Nat → Int32) (p : Nat), p < P → x1 = nI p → ¬ (po 0 p ≤ x2.toInt ∧ x2.toInt < po 1 p) → post 0 (va_up J 0 (2 : Int32)) (va_up G 9 g')) (g3 : ∀ (g' : Nat → Int32) (p : Nat), p < P → x1 = nI p → (po 0 p ≤ x2.toInt ∧ x2.toInt < po 1 p) → ((ifA bk po p N x2.toInt ↔ k = 3) ∨ N = 40) → post 0 (va_up J 0 (3 : Int32)) (va_up G 9 g')) (g0 : ∀ (g' : Nat → Int32) (p : Nat), p < P → x1 = nI p → (po 0 p ≤ x2.toInt ∧ x2.toInt < po 1 p) → ¬ ((ifA bk po p N x2.toInt ↔ k = 3) ∨ N = 40) → wX5_lay (va_up J 0 (0 : Int32)) (va_up G 9 g') (nI k) x1 x2 (0 : Int32) (0 : Int32) (fun I6 F7 => wX5_bookedOr I6 F7 sh post)) : wX5_turns J G (nI k) x1 x2 sh post := by
  obtain ⟨b1, b2, b3, b4, b5, b6, b7, b8, b9, b10, b11⟩ := id hb
  have hP6 := b9.1
  have hN := b1.1
  have e99 : (99 : Int32).toInt = 99 := rfl
  have hcn : cnt N 99 = N := by unfold cnt; omega
  have e40 : J 3 = (40 : Int32) ↔ N = 40 := n_eq (c := 40) b4 (by omega) (by omega)
  have e3 : nI k = (3 : Int32) ↔ k = 3 := nI_eq (a := k) (b := 3) (by omega) (by omega)
  unfold wX5_turns
  refine r_isPolicy b11 hP6 ⟨fun q => ?_, fun q => ?_⟩
  · have q' := q
    rw [nB_z, Classical.not_not] at q
    obtain ⟨p, hpp, ep⟩ := isP hP6 q
    have two : ∀ (g' : Nat → Int32) (y0 y1 : Int32), (¬ y0 = 0 ↔ ((ifA bk po p N x2.toInt ↔ k = 3) ∨ N = 40)) → (¬ y1 = 0 ↔ ¬ (po 0 p ≤ x2.toInt ∧ x2.toInt < po 1 p)) → bX5_turns_77 post J (va_up G 9 g') (nI k) x1 x2 sh y0 y1 (0 : Int32) := by
      intro g' y0 y1 hy0 hy1
      unfold bX5_turns_77
      exact r_fails2 (a := False) (b := ¬ (po 0 p ≤ x2.toInt ∧ x2.toInt < po 1 p)) (c := ((ifA bk po p N x2.toInt ↔ k = 3) ∨ N = 40)) (z_iff id) hy1 hy0 (fun q => q.elim) (fun _ w => ⟨fun e => absurd e (by decide), fun _ => g2 g' p hpp ep w⟩) (fun _ w w2 => ⟨fun e => absurd e (by decide), fun _ => g3 g' p hpp ep (Classical.not_not.mp w) w2⟩) (fun _ w w2 => ⟨fun _ => g0 g' p hpp ep (Classical.not_not.mp w) w2, fun e => absurd rfl e⟩)
    have one : ∀ y0 : Int32, (¬ y0 = 0 ↔ ¬ (po 0 p ≤ x2.toInt ∧ x2.toInt < po 1 p)) → bX5_turns_37 post J G (nI k) x1 x2 sh (nB (0 ≤ x1.toInt ∧ x1.toInt < (P : Int))) y0 (0 : Int32) := by
      intro y0 hy
      unfold bX5_turns_37
      refine ⟨fun z => absurd z q', fun _ => ?_⟩
      have hRM : RM J G R N P pl bk po := ⟨hp.2.1, hp.2.2, b2, b4, b5, b7, b8, b9⟩
      rw [ep]
      refine r_inForce hRM hpp (fun g' => ?_)
      rw [e99, hcn, ← ep, e3]
      refine ⟨fun z => ?_, fun z => ?_⟩
      · unfold bX5_turns_60
        rw [e40, nB_z]
        refine ⟨fun w => two g' _ _ (o_iff (Or.inl ⟨fun w2 => absurd w2 w, fun w2 => absurd w2 z⟩)) hy, fun w => ⟨fun w2 => two g' _ _ (z_iff (fun w3 => w3.elim (fun w4 => z (w4.mp (Classical.not_not.mp w))) w2)) hy, fun w2 => two g' _ _ (o_iff (Or.inr w2)) hy⟩⟩
      · unfold bX5_turns_60
        rw [e40, nB_o]
        refine ⟨fun w => two g' _ _ (o_iff (Or.inl ⟨fun _ => z, fun _ => w⟩)) hy, fun w => ⟨fun w2 => two g' _ _ (z_iff (fun w3 => w3.elim (fun w4 => w (w4.mpr z)) w2)) hy, fun w2 => two g' _ _ (o_iff (Or.inr w2)) hy⟩⟩
    unfold bX5_turns_18
    refine ⟨fun z => absurd z q', fun _ => ?_⟩
    have tm : ∀ {pp : Int32 → Prop}, pp (nB (po 0 p ≤ x2.toInt ∧ x2.toInt < po 1 p)) → wX5_inTerm J G x1 x2 pp := fun {pp} hh => by rw [ep]; exact r_inTerm b7 hpp hP6 hh
    refine tm ⟨fun z => one _ (z_iff ?_), fun z => one _ (o_iff ?_)⟩
    · rw [nB_z, Classical.not_not] at z; exact fun w => w z
    · rw [nB_z] at z; exact z
  · have q' := q
    rw [nB_z] at q
    unfold bX5_turns_18
    refine ⟨fun _ => ?_, fun z => absurd q' z⟩
    unfold bX5_turns_37
    refine ⟨fun _ => ?_, fun z => absurd q' z⟩
    unfold bX5_turns_77
    refine r_fails2 (a := True) (b := False) (c := False) (o_iff trivial) (z_iff id) (z_iff id) (fun _ => ⟨fun e => absurd e (by decide), fun _ => ?_⟩) (fun w => absurd trivial w) (fun w => absurd trivial w) (fun w => absurd trivial w)
    have := g1 (G 9) q
    rw [up_id] at this
    exact this
theorem c_cancel {x1 x2 x3 : Int32} (hR : Rl I F J G) (h : ∀ (r : Int32) I1 F1 g1, (∀ post : Int32 → (Nat → Int32) → (Nat → Nat → Int32) → Prop, (∀ r2 J1 G1, Rl I1 F1 J1 G1 → J1 0 = r → (r = 0 → g1 0 = r2.toInt64) → post r2 J1 G1) → wX5_cancel J G x1 x2 x3 post) → W r I1 F1 g1) : wL_cancel I F g x1 x2 x3 W := by
  obtain ⟨R, N, P, C, pl, bk, po, l, hp, hg, hb, hj, ht, hc⟩ := id hR
  obtain ⟨b1, b2, b3, b4, b5, b6, b7, b8, b9, b10, b11⟩ := id hb
  have hP6 := b9.1
  have hN := b1.1
  unfold wL_cancel wX4_cancel
  refine m_isPolicy b10 hP6 ⟨fun q => ?_, fun q => Or.inl ⟨rfl, h 1 I F g (fun post hh => ?_)⟩⟩
  · rw [nB_z, Classical.not_not] at q
    obtain ⟨p, hpp, ep⟩ := isP hP6 q
    have inj : ∀ p', p' < P → x1 = nI p' → p' = p := fun p' h1 h2 => (nI_eq (by omega) (by omega)).mp (h2.symm.trans ep)
    rw [ep]
    refine m_isInTerm b6 hpp hP6 ⟨fun q3 => ?_, fun q3 => Or.inr (Or.inl ⟨rfl, h 2 I F g (fun post hh => ?_)⟩)⟩
    · rw [nB_z, Classical.not_not] at q3
      refine m_isInForce b8 b9 b1 b6 b3 hpp ⟨fun q5 => ?_, fun q5 => m_isFull b3 hN ⟨fun q6 => ?_, fun q6 => ?_⟩⟩
      · rw [nB_z] at q5
        refine Or.inr (Or.inr (Or.inl ⟨rfl, h 3 I F g (fun post hh => ?_)⟩))
        refine r_turns (k := 2) hp hb (by omega) post (fun _ z => absurd q z) (fun _ p' h1 h2 z => ?_) (fun g' _ _ _ _ _ => hh _ _ _ ((hR.thrown _).best _) rfl (fun z => absurd z (by decide))) (fun _ p' h1 h2 _ z => ?_)
        · rw [inj p' h1 h2] at z; exact absurd q3 z
        · rw [inj p' h1 h2] at z; exact absurd (Or.inl ⟨fun w => absurd w q5, fun w => by omega⟩) z
      · rw [nB_z, Classical.not_not] at q5
        rw [nB_z] at q6
        have hD : ¬ ((ifA bk po p N x2.toInt ↔ 2 = 3) ∨ N = 40) := fun z => z.elim (fun w => by have := w.mp q5; omega) q6
        have ref : ∀ post : Int32 → (Nat → Int32) → (Nat → Nat → Int32) → Prop, (∀ g' : Nat → Int32, wX5_lay (va_up J 0 (0 : Int32)) (va_up G 9 g') (nI 2) (nI p) x2 (0 : Int32) (0 : Int32) (fun I6 F7 => wX5_bookedOr I6 F7 x3 post)) → wX5_cancel J G x1 x2 x3 post := by
          intro post hw
          refine r_turns (k := 2) hp hb (by omega) post (fun _ z => absurd q z) (fun _ p' h1 h2 z => ?_) (fun g' p' h1 h2 _ z => ?_) (fun g' _ _ _ _ _ => by rw [ep]; exact hw g')
          · rw [inj p' h1 h2] at z; exact absurd q3 z
          · rw [inj p' h1 h2] at z; exact absurd z hD
        refine c_book (k := 2) (t := 0) (v := 0) hp hg hb hj ht hc (by omega) hpp q3 (by omega) rfl rfl (fun z => by omega) (fun I1 F1 hw => h 0 I1 F1 _ (fun post hh => ref post (fun g' => hw post g' (fun J1 G1 hR1 j0 => hh _ _ _ hR1 j0 (fun _ => rfl))))) (fun F1 hw => Or.inr (Or.inr (Or.inr ⟨rfl, h 4 I F1 g (fun post hh => ref post (fun g' => hw post g' (fun J1 G1 hR1 j0 => hh _ _ _ hR1 j0 (fun z => absurd z (by decide)))))⟩)))
      · rw [nB_z, Classical.not_not] at q6
        refine Or.inr (Or.inr (Or.inl ⟨rfl, h 3 I F g (fun post hh => ?_)⟩))
        refine r_turns (k := 2) hp hb (by omega) post (fun _ z => absurd q z) (fun _ p' h1 h2 z => ?_) (fun g' _ _ _ _ _ => hh _ _ _ ((hR.thrown _).best _) rfl (fun z => absurd z (by decide))) (fun _ p' h1 h2 _ z => absurd (Or.inr q6) z)
        rw [inj p' h1 h2] at z; exact absurd q3 z
    · rw [nB_z] at q3
      refine r_turns (k := 2) hp hb (by omega) post (fun _ z => absurd q z) (fun g' p' h1 h2 z => hh _ _ _ ((hR.thrown _).best _) rfl (fun z => absurd z (by decide))) (fun g' p' h1 h2 z => ?_) (fun _ p' h1 h2 z => ?_)
      · rw [inj p' h1 h2] at z; exact absurd z q3
      · rw [inj p' h1 h2] at z; exact absurd z q3
  · rw [nB_z] at q
    refine r_turns (k := 2) hp hb (by omega) post (fun _ _ => hh _ _ _ ((hR.thrown _).best _) rfl (fun z => absurd z (by decide))) (fun g' p' h1 h2 z => ?_) (fun g' p' h1 h2 z => ?_) (fun _ p' h1 h2 z => ?_)
    all_goals exact absurd (by rw [h2, tI_nI (by omega)]; omega) q
theorem c_reinstate {x1 x2 : Int32} (hR : Rl I F J G) (h : ∀ (r : Int32) I1 F1 g1, (∀ post : Int32 → (Nat → Int32) → (Nat → Nat → Int32) → Prop, (∀ r2 J1 G1, Rl I1 F1 J1 G1 → J1 0 = r → (r = 0 → g1 0 = r2.toInt64) → post r2 J1 G1) → wX5_reinstate J G x1 x2 post) → W r I1 F1 g1) : wL_reinstate I F g x1 x2 W := by
  obtain ⟨R, N, P, C, pl, bk, po, l, hp, hg, hb, hj, ht, hc⟩ := id hR
  obtain ⟨b1, b2, b3, b4, b5, b6, b7, b8, b9, b10, b11⟩ := id hb
  have hP6 := b9.1
  have hN := b1.1
  unfold wL_reinstate wX4_reinstate
  refine m_isPolicy b10 hP6 ⟨fun q => ?_, fun q => Or.inl ⟨rfl, h 1 I F g (fun post hh => ?_)⟩⟩
  · rw [nB_z, Classical.not_not] at q
    obtain ⟨p, hpp, ep⟩ := isP hP6 q
    have inj : ∀ p', p' < P → x1 = nI p' → p' = p := fun p' h1 h2 => (nI_eq (by omega) (by omega)).mp (h2.symm.trans ep)
    rw [ep]
    refine m_isInTerm b6 hpp hP6 ⟨fun q3 => ?_, fun q3 => Or.inr (Or.inl ⟨rfl, h 2 I F g (fun post hh => ?_)⟩)⟩
    · rw [nB_z, Classical.not_not] at q3
      refine m_isInForce b8 b9 b1 b6 b3 hpp ⟨fun q5 => ?_, fun q5 => m_isFull b3 hN ⟨fun q6 => ?_, fun q6 => ?_⟩⟩
      · rw [nB_z, Classical.not_not] at q5
        refine Or.inr (Or.inr (Or.inl ⟨rfl, h 3 I F g (fun post hh => ?_)⟩))
        refine r_turns (k := 3) hp hb (by omega) post (fun _ z => absurd q z) (fun _ p' h1 h2 z => ?_) (fun g' _ _ _ _ _ => hh _ _ _ ((hR.thrown _).best _) rfl (fun z => absurd z (by decide))) (fun _ p' h1 h2 _ z => ?_)
        · rw [inj p' h1 h2] at z; exact absurd q3 z
        · rw [inj p' h1 h2] at z; exact absurd (Or.inl ⟨fun _ => rfl, fun _ => q5⟩) z
      · rw [nB_z] at q5
        rw [nB_z] at q6
        have hD : ¬ ((ifA bk po p N x2.toInt ↔ 3 = 3) ∨ N = 40) := fun z => z.elim (fun w => q5 (w.mpr rfl)) q6
        have ref : ∀ post : Int32 → (Nat → Int32) → (Nat → Nat → Int32) → Prop, (∀ g' : Nat → Int32, wX5_lay (va_up J 0 (0 : Int32)) (va_up G 9 g') (nI 3) (nI p) x2 (0 : Int32) (0 : Int32) (fun I6 F7 => wX5_bookedOr I6 F7 (0 : Int32) post)) → wX5_reinstate J G x1 x2 post := by
          intro post hw
          refine r_turns (k := 3) hp hb (by omega) post (fun _ z => absurd q z) (fun _ p' h1 h2 z => ?_) (fun g' p' h1 h2 _ z => ?_) (fun g' _ _ _ _ _ => by rw [ep]; exact hw g')
          · rw [inj p' h1 h2] at z; exact absurd q3 z
          · rw [inj p' h1 h2] at z; exact absurd z hD
        refine c_book (k := 3) (t := 0) (v := 0) hp hg hb hj ht hc (by omega) hpp q3 (by omega) rfl rfl (fun z => by omega) (fun I1 F1 hw => h 0 I1 F1 _ (fun post hh => ref post (fun g' => hw post g' (fun J1 G1 hR1 j0 => hh _ _ _ hR1 j0 (fun _ => rfl))))) (fun F1 hw => Or.inr (Or.inr (Or.inr ⟨rfl, h 4 I F1 g (fun post hh => ref post (fun g' => hw post g' (fun J1 G1 hR1 j0 => hh _ _ _ hR1 j0 (fun z => absurd z (by decide)))))⟩)))
      · rw [nB_z, Classical.not_not] at q6
        refine Or.inr (Or.inr (Or.inl ⟨rfl, h 3 I F g (fun post hh => ?_)⟩))
        refine r_turns (k := 3) hp hb (by omega) post (fun _ z => absurd q z) (fun _ p' h1 h2 z => ?_) (fun g' _ _ _ _ _ => hh _ _ _ ((hR.thrown _).best _) rfl (fun z => absurd z (by decide))) (fun _ p' h1 h2 _ z => absurd (Or.inr q6) z)
        rw [inj p' h1 h2] at z; exact absurd q3 z
    · rw [nB_z] at q3
      refine r_turns (k := 3) hp hb (by omega) post (fun _ z => absurd q z) (fun g' p' h1 h2 z => hh _ _ _ ((hR.thrown _).best _) rfl (fun z => absurd z (by decide))) (fun g' p' h1 h2 z => ?_) (fun _ p' h1 h2 z => ?_)
      · rw [inj p' h1 h2] at z; exact absurd z q3
      · rw [inj p' h1 h2] at z; exact absurd z q3
  · rw [nB_z] at q
    refine r_turns (k := 3) hp hb (by omega) post (fun _ _ => hh _ _ _ ((hR.thrown _).best _) rfl (fun z => absurd z (by decide))) (fun g' p' h1 h2 z => ?_) (fun g' p' h1 h2 z => ?_) (fun _ p' h1 h2 z => ?_)
    all_goals exact absurd (by rw [h2, tI_nI (by omega)]; omega) q
end Chg
