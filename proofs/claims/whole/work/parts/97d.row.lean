/-! row -/
def plS (pl : Tb) (R : Nat) (a b c d e : Int) : Tb := fun r j => if r = R then (if j = 0 then a else if j = 1 then b else if j = 2 then c else if j = 3 then d else e) else pl r j
theorem plS_at {pl : Tb} {R : Nat} {a b c d e : Int} : plS pl R a b c d e R 0 = a ∧ plS pl R a b c d e R 1 = b ∧ plS pl R a b c d e R 2 = c ∧ plS pl R a b c d e R 3 = d ∧ plS pl R a b c d e R 4 = e := by
  unfold plS
  refine ⟨?_, ?_, ?_, ?_, ?_⟩ <;> (rw [if_pos rfl]; rfl)
theorem plS_ne {pl : Tb} {R r j : Nat} {a b c d e : Int} (h : r < R) : plS pl R a b c d e r j = pl r j := by
  unfold plS
  rw [if_neg (by omega)]
section Row
variable {I J : Nat → Int32} {F G : Nat → Nat → Int32} {g : Nat → Int64} {W : Int32 → (Nat → Int32) → (Nat → Nat → Int32) → (Nat → Int64) → Prop}
theorem c_row {x1 x2 x3 x4 x5 : Int32} (hR : Rl I F J G) (h : ∀ (r : Int32) I1 F1 g1, (∀ post : Int32 → (Nat → Int32) → (Nat → Nat → Int32) → Prop, (∀ r2 J1 G1, Rl I1 F1 J1 G1 → J1 0 = r → (r = 0 → g1 0 = r2.toInt64) → post r2 J1 G1) → wX5_row J G x1 x2 x3 x4 x5 post) → W r I1 F1 g1) : wL_row I F g x1 x2 x3 x4 x5 W := by
  obtain ⟨R, N, P, C, pl, bk, po, l, hp, hg, hb, hj, ht, hc⟩ := id hR
  obtain ⟨b1, b2, b3, b4, b5, b6, b7, b8, b9, b10, b11⟩ := id hb
  have hP6 := b9.1
  obtain ⟨⟨p1, p2, p3⟩, ⟨p4, -, p5⟩, p6⟩ := id hp
  have e0 : (0 : Int32).toInt = 0 := rfl
  have e1 : (1 : Int32).toInt = 1 := rfl
  have e49 : (49 : Int32).toInt = 49 := rfl
  have e9 : (9 : Int32).toInt = 9 := rfl
  have e99 : (99 : Int32).toInt = 99 := rfl
  let A : Prop := 0 < P ∨ R = 8
  let B : Prop := ¬ ((0 ≤ x1.toInt ∧ x1.toInt ≤ x2.toInt ∧ x2.toInt ≤ 49) ∧ (0 ≤ x3.toInt ∧ x3.toInt ≤ x4.toInt ∧ x4.toInt ≤ 9) ∧ (1 ≤ x5.toInt ∧ x5.toInt ≤ 99))
  have ref : ∀ post : Int32 → (Nat → Int32) → (Nat → Nat → Int32) → Prop, (A → post 0 (va_up J 0 (1 : Int32)) G) → (¬ A → B → post 0 (va_up J 0 (2 : Int32)) G) → (¬ A → ¬ B → post (nI R) (va_up (va_up J 0 (0 : Int32)) 1 (nI (R + 1))) (va_up G 1 (upd (upd (upd (upd (upd (G 1) (5 * R) x1) (5 * R + 1) x2) (5 * R + 2) x3) (5 * R + 3) x4) (5 * R + 4) x5))) → wX5_row J G x1 x2 x3 x4 x5 post := by
    intro post g1 g2 g0
    have two : ∀ y0 y1 : Int32, (¬ y0 = 0 ↔ B) → (¬ y1 = 0 ↔ A) → bX5_row_72 post J G x1 x2 x3 x4 x5 y0 y1 := by
      intro y0 y1 hy hy1
      unfold bX5_row_72
      refine r_fails2 (b := B) (c := False) hy1 hy (z_iff id) (fun q => ⟨fun e => absurd e (by decide), fun _ => g1 q⟩) (fun q q2 => ⟨fun e => absurd e (by decide), fun _ => g2 q q2⟩) (fun _ _ q => q.elim) (fun q q2 _ => ⟨fun _ => ?_, fun e => absurd rfl e⟩)
      have j1 : (va_up J 0 (0 : Int32)) 1 = nI R := p4
      have a1 : (5 : Int32) * nI R + (1 : Int32) = nI (5 * R + 1) := i5 R 1
      have a2 : (5 : Int32) * nI R + (2 : Int32) = nI (5 * R + 2) := i5 R 2
      have a3 : (5 : Int32) * nI R + (3 : Int32) = nI (5 * R + 3) := i5 R 3
      have a4 : (5 : Int32) * nI R + (4 : Int32) = nI (5 * R + 4) := i5 R 4
      rw [j1, a1, a2, a3, a4, i50 R]
      have hR8 : R < 8 := by
        have : ¬ R = 8 := fun z => q (Or.inr z)
        omega
      refine ⟨vp_in_nI (by omega) (by omega), fun F5 f5 => ⟨vp_in_nI (by omega) (by omega), fun F7 f7 => ⟨vp_in_nI (by omega) (by omega), fun F9 f9 => ⟨vp_in_nI (by omega) (by omega), fun F11 f11 => ⟨vp_in_nI (by omega) (by omega), fun F13 f13 v15 e15 I16 e16 => ?_⟩⟩⟩⟩⟩
      rw [nI_clamp (by omega)] at f5 f7 f9 f11 f13
      have w : F13 = va_up G 1 (upd (upd (upd (upd (upd (G 1) (5 * R) x1) (5 * R + 1) x2) (5 * R + 2) x3) (5 * R + 3) x4) (5 * R + 4) x5) := by
        rw [f13, f11, f9, f7, f5]
        rw [bx_uu, bx_uu, bx_uu, bx_uu]
        rfl
      have w2 : v15 = nI (R + 1) := by rw [e15, nI_1]
      have w3 : I16 1 - (1 : Int32) = nI R := by
        rw [e16, w2]
        show nI (R + 1) - (1 : Int32) = _
        rw [nI_pr (by omega) (by omega)]
        rfl
      rw [w3, w, e16, w2]
      exact g0 q q2
    have one : ∀ y0 : Int32, (¬ y0 = 0 ↔ B) → bX5_row_48 post J G x1 x2 x3 x4 x5 y0 := by
      intro y0 hy
      have e8 : J 1 = (8 : Int32) ↔ R = 8 := n_eq (c := 8) p4 (by omega) (by omega)
      unfold bX5_row_48
      rw [n_lt0 b11 (by omega), e8]
      exact ⟨fun c => two _ _ hy (o_iff (Or.inl c)), fun c => ⟨fun c2 => two _ _ hy (z_iff (fun z => z.elim c c2)), fun c2 => two _ _ hy (o_iff (Or.inr c2))⟩⟩
    unfold wX5_row
    simp only [tI_lt, e0, e49, e9]
    refine ⟨fun q => one _ (o_iff (fun z => by omega)), fun q => ⟨fun q2 => one _ (o_iff (fun z => by omega)), fun q2 => ⟨fun q3 => one _ (o_iff (fun z => by omega)), fun q3 => ⟨fun q4 => one _ (o_iff (fun z => by omega)), fun q4 => ⟨fun q5 => one _ (o_iff (fun z => by omega)), fun q5 => ⟨fun q6 => one _ (o_iff (fun z => by omega)), fun q6 => m_outside ?_⟩⟩⟩⟩⟩⟩
    rw [e1, e99]
    refine ⟨fun q7 => one _ (z_iff ?_), fun q7 => one _ (o_iff ?_)⟩
    · rw [nB_z, Classical.not_not] at q7; exact fun z => z ⟨⟨by omega, by omega, by omega⟩, ⟨by omega, by omega, by omega⟩, q7⟩
    · rw [nB_z, Classical.not_not] at q7; exact fun z => q7 z.2.2
  have clo : A → W (1 : Int32) I F g := fun q => h 1 I F g (fun post hh => ref post (fun _ => hh _ _ _ (hR.thrown _) rfl (fun z => absurd z (by decide))) (fun n => absurd q n) (fun n => absurd q n))
  have bad : ¬ A → B → W (2 : Int32) I F g := fun c q => h 2 I F g (fun post hh => ref post (fun q => absurd q c) (fun _ _ => hh _ _ _ (hR.thrown _) rfl (fun z => absurd z (by decide))) (fun _ n => absurd q n))
  unfold wL_row wX4_row
  refine m_isPlanClosed b10 hP6 ⟨fun c => Or.inl ⟨rfl, clo (Or.inl ?_)⟩, fun c => ?_⟩
  · rw [nB_z, Classical.not_not] at c; exact c
  rw [nB_z] at c
  have e8 : I 1 = (8 : Int32) ↔ R = 8 := n_eq (c := 8) p1 (by omega) (by omega)
  rw [e8]
  refine ⟨fun c2 => m_isSpan ?_, fun c2 => Or.inl ⟨rfl, clo (Or.inr c2)⟩⟩
  have hA : ¬ A := fun z => z.elim c c2
  rw [e49]
  refine ⟨fun q => Or.inr ⟨rfl, bad hA ?_⟩, fun q => m_isSpan ?_⟩
  · rw [nB_z] at q; exact fun z => q z.1
  rw [nB_z, Classical.not_not] at q
  rw [e9]
  refine ⟨fun q2 => Or.inr ⟨rfl, bad hA ?_⟩, fun q2 => m_isWithin ?_⟩
  · rw [nB_z] at q2; exact fun z => q2 z.2.1
  rw [nB_z, Classical.not_not] at q2
  rw [e1, e99]
  refine ⟨fun q3 => ?_, fun q3 => Or.inr ⟨rfl, bad hA ?_⟩⟩
  · rw [nB_z, Classical.not_not] at q3
    unfold wX1_add
    rw [p1, nI_clamp (by omega)]
    have hin : vp_in (nI R) 8 := vp_in_nI (by omega) (by omega)
    refine ⟨hin, fun F1 f1 => ⟨hin, fun F3 f3 => ⟨hin, fun F5 f5 => ⟨hin, fun F7 f7 => ⟨hin, fun F9 f9 v11 e11 I12 e12 => ?_⟩⟩⟩⟩⟩
    have w2 : v11 = nI (R + 1) := by rw [e11, nI_1]
    have w3 : I12 1 - (1 : Int32) = nI R := by
      rw [e12, w2]
      show nI (R + 1) - (1 : Int32) = _
      rw [nI_pr (by omega) (by omega)]
      rfl
    rw [w3]
    refine h 0 I12 F9 _ (fun post hh => ref post (fun q => absurd q hA) (fun _ z => absurd ⟨q, q2, q3⟩ z) (fun _ _ => hh _ _ _ ?_ rfl (fun _ => rfl)))
    have sf : sF F F9 [5, 6, 7, 8, 9] := by
      rw [f9, f7, f5, f3, f1]
      exact sF_u (sF_u (sF_u (sF_u (sF_u sF_r (by decide)) (by decide)) (by decide)) (by decide)) (by decide)
    have y5 : F9 5 = upd (F 5) R x1 := by rw [f9, f7, f5, f3, f1]; rfl
    have y6 : F9 6 = upd (F 6) R x2 := by rw [f9, f7, f5, f3, f1]; rfl
    have y7 : F9 7 = upd (F 7) R x3 := by rw [f9, f7, f5, f3, f1]; rfl
    have y8 : F9 8 = upd (F 8) R x4 := by rw [f9, f7, f5, f3, f1]; rfl
    have y9 : F9 9 = upd (F 9) R x5 := by rw [f9, f7, f5, f3, f1]; rfl
    have hR8 : R < 8 := by omega
    obtain ⟨s0, s1, s2, s3, s4⟩ := plS_at (pl := pl) (R := R) (a := x1.toInt) (b := x2.toInt) (c := x3.toInt) (d := x4.toInt) (e := x5.toInt)
    rw [e12, w2]
    refine ⟨R + 1, N, P, C, plS pl R x1.toInt x2.toInt x3.toInt x4.toInt x5.toInt, bk, po, l, ⟨⟨rfl, by omega, fun r hr => ?_⟩, ⟨rfl, by omega, fun r hr => ?_⟩, fun r hr => ?_⟩, fun q => absurd q c, ?_, ?_, ?_, ?_⟩
    · rw [y5, y6, y7, y8, y9]
      rcases (show r < R ∨ r = R by omega) with z | z
      · rw [pk_un (by omega), pk_un (by omega), pk_un (by omega), pk_un (by omega), pk_un (by omega), plS_ne z, plS_ne z, plS_ne z, plS_ne z, plS_ne z]
        exact p3 r z
      · subst z
        rw [pk_us, pk_us, pk_us, pk_us, pk_us, s0, s1, s2, s3, s4]
        exact ⟨rfl, rfl, rfl, rfl, rfl⟩
    · show ((upd (upd (upd (upd (upd (G 1) (5 * R) x1) (5 * R + 1) x2) (5 * R + 2) x3) (5 * R + 3) x4) (5 * R + 4) x5) (5 * r)).toInt = _ ∧ ((upd (upd (upd (upd (upd (G 1) (5 * R) x1) (5 * R + 1) x2) (5 * R + 2) x3) (5 * R + 3) x4) (5 * R + 4) x5) (5 * r + 1)).toInt = _ ∧ ((upd (upd (upd (upd (upd (G 1) (5 * R) x1) (5 * R + 1) x2) (5 * R + 2) x3) (5 * R + 3) x4) (5 * R + 4) x5) (5 * r + 2)).toInt = _ ∧ ((upd (upd (upd (upd (upd (G 1) (5 * R) x1) (5 * R + 1) x2) (5 * R + 2) x3) (5 * R + 3) x4) (5 * R + 4) x5) (5 * r + 3)).toInt = _ ∧ ((upd (upd (upd (upd (upd (G 1) (5 * R) x1) (5 * R + 1) x2) (5 * R + 2) x3) (5 * R + 3) x4) (5 * R + 4) x5) (5 * r + 4)).toInt = _
      rcases (show r < R ∨ r = R by omega) with z | z
      · have un : ∀ j, j < 5 → (upd (upd (upd (upd (upd (G 1) (5 * R) x1) (5 * R + 1) x2) (5 * R + 2) x3) (5 * R + 3) x4) (5 * R + 4) x5) (5 * r + j) = G 1 (5 * r + j) := fun j hj => by
          rw [pk_un (by omega), pk_un (by omega), pk_un (by omega), pk_un (by omega), pk_un (by omega)]
        have un0 : (upd (upd (upd (upd (upd (G 1) (5 * R) x1) (5 * R + 1) x2) (5 * R + 2) x3) (5 * R + 3) x4) (5 * R + 4) x5) (5 * r) = G 1 (5 * r) := un 0 (by omega)
        rw [un0, un 1 (by omega), un 2 (by omega), un 3 (by omega), un 4 (by omega), plS_ne z, plS_ne z, plS_ne z, plS_ne z, plS_ne z]
        exact p5 r z
      · subst z
        refine ⟨?_, ?_, ?_, ?_, ?_⟩
        · rw [pk_un (by omega), pk_un (by omega), pk_un (by omega), pk_un (by omega), pk_us, s0]
        · rw [pk_un (by omega), pk_un (by omega), pk_un (by omega), pk_us, s1]
        · rw [pk_un (by omega), pk_un (by omega), pk_us, s2]
        · rw [pk_un (by omega), pk_us, s3]
        · rw [pk_us, s4]
    · rcases (show r < R ∨ r = R by omega) with z | z
      · rw [plS_ne z, plS_ne z, plS_ne z, plS_ne z, plS_ne z]
        exact p6 r z
      · subst z
        rw [s0, s1, s2, s3, s4]
        omega
    · exact hb.s (a := [1]) (c := [0, 1]) (d := [1]) (sI_u sI_r (by decide)) sf (sI_u (sI_u sI_r (by decide)) (by decide)) (sF_u sF_r (by decide)) (by decide) (by decide) (by decide) (by decide)
    · exact hj.s (a := [1]) (c := [0, 1]) (d := [1]) (sI_u sI_r (by decide)) sf (sI_u (sI_u sI_r (by decide)) (by decide)) (sF_u sF_r (by decide)) (by decide) (by decide) (by decide) (by decide)
    · exact ht.s (a := [1]) (c := [0, 1]) (sI_u sI_r (by decide)) (sI_u (sI_u sI_r (by decide)) (by decide)) (by decide) (by decide)
    · exact hc.s (a := [1]) (c := [0, 1]) (d := [1]) (sI_u sI_r (by decide)) sf (sI_u (sI_u sI_r (by decide)) (by decide)) (sF_u sF_r (by decide)) (by decide) (by decide) (by decide) (by decide)
  · rw [nB_z] at q3; exact fun z => q3 z.2.2
end Row
