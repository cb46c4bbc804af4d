/-! CLAIMS: the case -/
abbrev up6 (g : Nat → Int32) (C : Nat) (a b c d e f : Int32) : Nat → Int32 := upd (upd (upd (upd (upd (upd g (6 * C) a) (6 * C + 1) b) (6 * C + 2) c) (6 * C + 3) d) (6 * C + 4) e) (6 * C + 5) f
theorem up6_lt {g : Nat → Int32} {C k : Nat} {a b c d e f : Int32} (h : k < 6 * C) : up6 g C a b c d e f k = g k := by
  unfold up6
  rw [pk_un (by omega), pk_un (by omega), pk_un (by omega), pk_un (by omega), pk_un (by omega), pk_un (by omega)]
theorem up6_at {g : Nat → Int32} {C : Nat} {a b c d e f : Int32} : up6 g C a b c d e f (6 * C) = a ∧ up6 g C a b c d e f (6 * C + 2) = c ∧ up6 g C a b c d e f (6 * C + 4) = e ∧ up6 g C a b c d e f (6 * C + 5) = f := by
  unfold up6
  refine ⟨?_, ?_, ?_, ?_⟩
  · rw [pk_un (by omega), pk_un (by omega), pk_un (by omega), pk_un (by omega), pk_un (by omega), pk_us]
  · rw [pk_un (by omega), pk_un (by omega), pk_un (by omega), pk_us]
  · rw [pk_un (by omega), pk_us]
  · rw [pk_us]
theorem up6_same {g g2 : Nat → Int32} {C : Nat} {a b c d e f : Int32} (h : ∀ k, k < 6 * C → g k = g2 k) (k : Nat) (hk : k < 6 * (C + 1)) : up6 g C a b c d e f k = up6 g2 C a b c d e f k := by
  rcases (show k < 6 * C ∨ 6 * C ≤ k by omega) with q | q
  · rw [up6_lt q, up6_lt q, h k q]
  · unfold up6
    rcases (show k = 6 * C + 5 ∨ k = 6 * C + 4 ∨ k = 6 * C + 3 ∨ k = 6 * C + 2 ∨ k = 6 * C + 1 ∨ k = 6 * C by omega) with z | z | z | z | z | z
    · subst z; rw [pk_us, pk_us]
    · subst z; rw [pk_un (by omega), pk_us, pk_un (by omega), pk_us]
    · subst z; rw [pk_un (by omega), pk_un (by omega), pk_us, pk_un (by omega), pk_un (by omega), pk_us]
    · subst z; rw [pk_un (by omega), pk_un (by omega), pk_un (by omega), pk_us, pk_un (by omega), pk_un (by omega), pk_un (by omega), pk_us]
    · subst z; rw [pk_un (by omega), pk_un (by omega), pk_un (by omega), pk_un (by omega), pk_us, pk_un (by omega), pk_un (by omega), pk_un (by omega), pk_un (by omega), pk_us]
    · subst z; rw [pk_un (by omega), pk_un (by omega), pk_un (by omega), pk_un (by omega), pk_un (by omega), pk_us, pk_un (by omega), pk_un (by omega), pk_un (by omega), pk_un (by omega), pk_un (by omega), pk_us]
section ClmK
variable {I J I1 J1 : Nat → Int32} {F G F1 G1 : Nat → Nat → Int32} {g : Nat → Int64} {W : Int32 → (Nat → Int32) → (Nat → Nat → Int32) → (Nat → Int64) → Prop}
theorem m_keep {post : (Nat → Int32) → (Nat → Nat → Int32) → Prop} {p C : Nat} {x2 paid part more ren : Int32} (h13 : I 13 = nI C) (hC : C < 20) (hp : p < 6)
    (h : ∀ I1 F1, sI I I1 [11, 12, 13] → sF F F1 [18, 19] → I1 13 = nI (C + 1) → I1 11 = I 11 + more → I1 12 = I 12 + ren → F1 18 = upd (F 18) p (F 18 p + paid) → F1 19 = up6 (F 19) C (nI p) x2 paid part more ren → post I1 F1) : wX3_keep I F (nI p) x2 paid part more ren post := by
  unfold wX3_keep
  intro v1 e1
  have a0 : v1 = nI (6 * C) := by rw [e1, h13]; show nI C * nI 6 = _; rw [pk_mul, Nat.mul_comm]
  have a1 : v1 + (1 : Int32) = nI (6 * C + 1) := by rw [a0]; exact nI_add _ 1
  have a2 : v1 + (2 : Int32) = nI (6 * C + 2) := by rw [a0]; exact nI_add _ 2
  have a3 : v1 + (3 : Int32) = nI (6 * C + 3) := by rw [a0]; exact nI_add _ 3
  have a4 : v1 + (4 : Int32) = nI (6 * C + 4) := by rw [a0]; exact nI_add _ 4
  have a5 : v1 + (5 : Int32) = nI (6 * C + 5) := by rw [a0]; exact nI_add _ 5
  rw [a1, a2, a3, a4, a5, a0]
  refine ⟨vp_in_nI (by omega) (by omega), fun F2 g2 => ⟨vp_in_nI (by omega) (by omega), fun F4 g4 => ⟨vp_in_nI (by omega) (by omega), fun F6 g6 => ⟨vp_in_nI (by omega) (by omega), fun F8 g8 => ⟨vp_in_nI (by omega) (by omega), fun F10 g10 => ⟨vp_in_nI (by omega) (by omega), fun F12 g12 v14 g14 I15 g15 => ⟨vp_in_nI (by omega) (by omega), fun v17 g17 => ⟨vp_in_nI (by omega) (by omega), fun F18 g18 v20 g20 I21 g21 v22 g22 I23 g23 => ?_⟩⟩⟩⟩⟩⟩⟩⟩
  rw [nI_clamp (by omega)] at g2 g4 g6 g8 g10 g12 g17 g18
  have w12 : F12 = va_up F 19 (up6 (F 19) C (nI p) x2 paid part more ren) := by
    rw [g12, g10, g8, g6, g4, g2]
    rw [bx_uu, bx_uu, bx_uu, bx_uu, bx_uu]
    rfl
  have w17 : v17 = F 18 p + paid := by rw [g17, w12]; rfl
  refine h I23 F18 ?_ ?_ ?_ ?_ ?_ ?_ ?_
  · rw [g23, g21, g15]
    exact sI_u (sI_u (sI_u sI_r (by decide)) (by decide)) (by decide)
  · rw [g18, w12]
    exact sF_u (sF_u sF_r (by decide)) (by decide)
  · rw [g23, g21, g15]
    show v14 = _
    rw [g14, h13, nI_1]
  · rw [g23, g21]
    show v20 = _
    rw [g20, g15]
    rfl
  · rw [g23]
    show v22 = _
    rw [g22, g21, g15]
    rfl
  · rw [g18, w12, w17]
    rfl
  · rw [g18, w12]
    rfl
theorem Cl.next {p C : Nat} {x2 y paid part more ren fee : Int32} (ht : Tm I J) (hc : Cl I F J G C) (hC : C < 20) (hp : p < 6) (hy : 0 ≤ y.toInt ∧ y.toInt ≤ 9999) (hf : Fig I F p y paid part more ren fee) (i6 : I1 6 = I 6) (i8 : I1 8 = I 8) (i9 : I1 9 = I 9) (i13 : I1 13 = nI (C + 1)) (i11 : I1 11 = I 11 + more) (i12 : I1 12 = I 12 + ren) (f18 : F1 18 = upd (F 18) p (F 18 p + paid)) (f19 : F1 19 = up6 (F 19) C (nI p) x2 paid part more ren) (j14 : J1 14 = nI (C + 1)) (g16 : G1 16 = up6 (G 16) C (nI p) x2 paid part more ren) : Cl I1 F1 J1 G1 (C + 1) := by
  obtain ⟨⟨r1, r2, r3⟩, ⟨r4, r5⟩, ⟨r6, r7, r8⟩, ⟨r9, r10, r11⟩, ⟨r12, r13⟩, n1, n2, n3, n4⟩ := fig_rng ht hc hp hy hf
  obtain ⟨c1, c2, c3, c4, c5, ⟨cu, c6, c7⟩, ⟨cr, c8, c9⟩⟩ := id hc
  have t6 := ht.2.2.2.1.2.2
  have e1 : (-1 : Int32).toInt = -1 := rfl
  obtain ⟨u0, u2, u4, u5⟩ := up6_at (g := G 16) (C := C) (a := nI p) (b := x2) (c := paid) (d := part) (e := more) (f := ren)
  have bfx : ∀ (q : Int32) (w : Nat), w < 6 → bf (G1 16) q w C = bf (G 16) q w C := fun q w hw => bf_congr hw (fun k hk => by rw [g16, up6_lt hk])
  have s11 : (I 11 + more).toInt = (I 11).toInt + more.toInt := tI_add (by omega) (by omega)
  have s12 : (I 12 + ren).toInt = (I 12).toInt + ren.toInt := tI_add (by omega) (by omega)
  refine ⟨i13, j14, by omega, fun k hk => ?_, fun q hq => ?_, ⟨?_, ?_, ?_⟩, ⟨?_, ?_, ?_⟩⟩
  · rw [f19, g16]
    exact up6_same c4 k hk
  · obtain ⟨k1, k2, k3⟩ := c5 q hq
    have nq : ¬ (nI q).toInt < 0 := by rw [tI_nI (by omega)]; omega
    show _ = bf (G1 16) (nI q) 2 C + (if (nI q).toInt < 0 ∨ G1 16 (6 * C) = nI q then G1 16 (6 * C + 2) else 0) ∧ _
    rw [bfx _ 2 (by omega), g16, u0, u2, f18, i6]
    by_cases z : q = p
    · subst z
      rw [pk_us, if_pos (Or.inr rfl), k1]
      rw [k1] at k2 k3 r3
      rw [tI_add (by omega) (by omega)]
      exact ⟨rfl, by omega, by omega⟩
    · rw [pk_un z, if_neg (fun w => w.elim nq (fun w => z ((nI_eq (by omega) (by omega)).mp w).symm)), Int32.add_zero]
      exact ⟨k1, k2, k3⟩
  · show _ = bf (G1 16) (-1) 4 C + (if (-1 : Int32).toInt < 0 ∨ G1 16 (6 * C) = -1 then G1 16 (6 * C + 4) else 0)
    rw [bfx _ 4 (by omega), g16, u4, if_pos (Or.inl (by rw [e1]; omega)), i11, cu]
  · rw [i11, s11]; omega
  · rw [i11, s11, i8, i9]; exact r8
  · show _ = bf (G1 16) (-1) 5 C + (if (-1 : Int32).toInt < 0 ∨ G1 16 (6 * C) = -1 then G1 16 (6 * C + 5) else 0)
    rw [bfx _ 5 (by omega), g16, u5, if_pos (Or.inl (by rw [e1]; omega)), i12, cr]
  · rw [i12, s12]; omega
  · rw [i12, s12, i8, i9]; exact r11
theorem c_claim {x1 x2 x3 : Int32} (hR : Rl I F J G) (h : ∀ (r : Int32) I1 F1 g1, (∀ post : Int32 → (Nat → Int32) → (Nat → Nat → Int32) → Prop, (∀ r2 J1 G1, Rl I1 F1 J1 G1 → J1 0 = r → (r = 0 → g1 0 = r2.toInt64) → post r2 J1 G1) → wX5_claim J G x1 x2 x3 post) → W r I1 F1 g1) : wL_claim I F g x1 x2 x3 W := by
  obtain ⟨R, N, P, C, pl, bk, po, l, hp, hg, hb, hj, ht, hc⟩ := id hR
  obtain ⟨b1, b2, b3, b4, b5, b6, b7, b8, b9, b10, b11⟩ := id hb
  have hP6 := b9.1
  have hN := b1.1
  have hC20 := hc.2.2.1
  have e0 : (0 : Int32).toInt = 0 := rfl
  have e1 : (1 : Int32).toInt = 1 := rfl
  have e999 : (999 : Int32).toInt = 999 := rfl
  have e9 : (9999 : Int32).toInt = 9999 := rfl
  have e99 : (99 : Int32).toInt = 99 := rfl
  have hcn : cnt N 99 = N := by unfold cnt; omega
  let A : Prop := ¬ (0 ≤ x1.toInt ∧ x1.toInt < (P : Int))
  let B : Prop := ¬ ((0 ≤ x2.toInt ∧ x2.toInt < 1000) ∧ (1 ≤ x3.toInt ∧ x3.toInt ≤ 9999))
  let D : Prop := ¬ ifA bk po x1.toInt.toNat N x2.toInt ∨ C = 20
  have ref : ∀ post : Int32 → (Nat → Int32) → (Nat → Nat → Int32) → Prop, (∀ g' : Nat → Int32, A → post 0 (va_up J 0 (1 : Int32)) (va_up G 9 g')) → (∀ g' : Nat → Int32, ¬ A → B → post 0 (va_up J 0 (2 : Int32)) (va_up G 9 g')) → (∀ g' : Nat → Int32, ¬ A → ¬ B → D → post 0 (va_up J 0 (3 : Int32)) (va_up G 9 g')) → (∀ g' : Nat → Int32, ¬ A → ¬ B → ¬ D → ∀ y : Int32, y.toInt = max (x3.toInt - (I 4).toInt) 0 → bX5_claim_101 post (va_up J 0 (0 : Int32)) (va_up G 9 g') x1 x2 y) → wX5_claim J G x1 x2 x3 post := by
    intro post g1 g2 g3 g0
    have two : ∀ (g' : Nat → Int32) (y0 y1 y2 : Int32), (¬ y0 = 0 ↔ (¬ A ∧ D)) → (¬ y1 = 0 ↔ B) → (¬ y2 = 0 ↔ A) → bX5_claim_75 post J (va_up G 9 g') x1 x2 x3 y0 y1 y2 := by
      intro g' y0 y1 y2 hy0 hy1 hy2
      have q4 := ht.2.1
      unfold bX5_claim_75
      refine r_fails2 (b := B) (c := ¬ A ∧ D) hy2 hy1 hy0 (fun q => ⟨fun e => absurd e (by decide), fun _ => g1 g' q⟩) (fun q q2 => ⟨fun e => absurd e (by decide), fun _ => g2 g' q q2⟩) (fun q q2 q3 => ⟨fun e => absurd e (by decide), fun _ => g3 g' q q2 q3.2⟩) (fun q q2 q3 => ⟨fun _ => ?_, fun e => absurd rfl e⟩)
      have j7 : (va_up J 0 (0 : Int32)) 7 = I 4 := q4.1.symm
      have hx3 : 1 ≤ x3.toInt ∧ x3.toInt ≤ 9999 := (Classical.not_not.mp q2).2
      rw [j7, tI_le]
      refine ⟨fun c => g0 g' q q2 (fun w => q3 ⟨q, w⟩) _ (by rw [e0]; omega), fun c => g0 g' q q2 (fun w => q3 ⟨q, w⟩) _ ?_⟩
      rw [tI_sub (by omega) (by omega)]
      omega
    have one : ∀ (x4 y0 y1 : Int32), (x4 = 0 → A) → (¬ x4 = 0 → ¬ A) → (¬ y0 = 0 ↔ B) → (¬ y1 = 0 ↔ A) → bX5_claim_45 post J G x1 x2 x3 x4 y0 y1 := by
      intro x4 y0 y1 ha hna hy0 hy1
      unfold bX5_claim_45
      refine ⟨fun q => ?_, fun q => ?_⟩
      · have := two (G 9) 0 y0 y1 (z_iff (fun w => w.1 (ha q))) hy0 hy1
        rw [up_id] at this
        exact this
      · have nA := hna q
        have hx := Classical.not_not.mp nA
        obtain ⟨p, hpp, ep⟩ := isP hP6 hx
        have en : x1.toInt.toNat = p := by rw [ep, tI_nI (by omega)]; omega
        have hRM : RM J G R N P pl bk po := ⟨hp.2.1, hp.2.2, b2, b4, b5, b7, b8, b9⟩
        rw [ep]
        refine r_inForce hRM hpp (fun g' => ?_)
        rw [e99, hcn, ← ep]
        have e20 : J 14 = (20 : Int32) ↔ C = 20 := n_eq (c := 20) hc.2.1 (by omega) (by omega)
        refine ⟨fun z => two g' _ _ _ (o_iff ⟨nA, Or.inl ?_⟩) hy0 hy1, fun z => ?_⟩
        · rw [nB_z] at z; rw [en]; exact z
        · rw [nB_z, Classical.not_not] at z
          rw [e20]
          refine ⟨fun z2 => two g' _ _ _ (z_iff (fun w => w.2.elim (fun w2 => ?_) z2)) hy0 hy1, fun z2 => two g' _ _ _ (o_iff ⟨nA, Or.inr z2⟩) hy0 hy1⟩
          rw [en] at w2; exact w2 z
    have mid : ∀ (x4 y1 : Int32), (x4 = 0 → A) → (¬ x4 = 0 → ¬ A) → (¬ y1 = 0 ↔ A) → bX5_claim_18 post J G x1 x2 x3 x4 y1 := by
      intro x4 y1 ha hna hy1
      unfold bX5_claim_18
      refine m_outside ?_
      rw [e0, e999]
      refine ⟨fun q => one _ _ _ ha hna (o_iff ?_) hy1, fun q => m_outside ?_⟩
      · rw [nB_z, Classical.not_not] at q; exact fun z => q ⟨z.1.1, by omega⟩
      rw [nB_z, Classical.not_not] at q
      rw [e1, e9]
      refine ⟨fun q2 => one _ _ _ ha hna (z_iff ?_) hy1, fun q2 => one _ _ _ ha hna (o_iff ?_) hy1⟩
      · rw [nB_z, Classical.not_not] at q2; exact fun z => z ⟨⟨q.1, by omega⟩, q2⟩
      · rw [nB_z, Classical.not_not] at q2; exact fun z => q2 z.2
    unfold wX5_claim
    refine r_isPolicy b11 hP6 ⟨fun q => mid _ _ (fun z => absurd z q) (fun _ => ?_) (z_iff ?_), fun q => mid _ _ (fun _ => ?_) (fun z => absurd q z) (o_iff ?_)⟩
    · rw [nB_z, Classical.not_not] at q; exact fun z => z q
    · rw [nB_z, Classical.not_not] at q; exact fun z => z q
    · rw [nB_z] at q; exact q
    · rw [nB_z] at q; exact q
  unfold wL_claim wX4_claim
  refine m_isPolicy b10 hP6 ⟨fun q => m_isDay ⟨fun q2 => ?_, fun q2 => m_isWithin ?_⟩, fun q => ?_⟩
  · rw [nB_z, Classical.not_not] at q
    rw [nB_z] at q2
    refine Or.inr (Or.inl ⟨rfl, h 2 I F g (fun post hh => ref post (fun _ z => absurd q z) (fun g' _ _ => hh _ _ _ ((hR.thrown _).best _) rfl (fun z => absurd z (by decide))) (fun _ _ z => absurd (fun w => q2 w.1) z) (fun _ _ z => absurd (fun w => q2 w.1) z))⟩)
  · rw [nB_z, Classical.not_not] at q q2
    rw [e1, e9]
    obtain ⟨p, hpp, ep⟩ := isP hP6 q
    have en : x1.toInt.toNat = p := by rw [ep, tI_nI (by omega)]; omega
    have hA : ¬ A := fun z => z q
    refine ⟨fun q3 => ?_, fun q3 => ?_⟩
    · rw [nB_z, Classical.not_not] at q3
      have hB : ¬ B := fun z => z ⟨q2, q3⟩
      rw [ep]
      refine m_isInForce b8 b9 b1 b6 b3 hpp ⟨fun q4 => ?_, fun q4 => ?_⟩
      · rw [nB_z] at q4
        refine Or.inr (Or.inr (Or.inl ⟨rfl, h 3 I F g (fun post hh => ref post (fun _ z => absurd z hA) (fun _ _ z => absurd z hB) (fun g' _ _ _ => hh _ _ _ ((hR.thrown _).best _) rfl (fun z => absurd z (by decide))) (fun _ _ _ z => absurd (Or.inl (by rw [en]; exact q4)) z))⟩))
      · rw [nB_z, Classical.not_not] at q4
        have e20 : I 13 = (20 : Int32) ↔ C = 20 := n_eq (c := 20) hc.1 (by omega) (by omega)
        rw [e20]
        refine ⟨fun q5 => ?_, fun q5 => ?_⟩
        · have hD : ¬ D := fun z => z.elim (fun w => w (by rw [en]; exact q4)) q5
          have hC : C < 20 := by omega
          refine m_figs ht hc (by omega) q3 (fun y paid part more ren fee hy hye hf => ?_)
          have cont : ∀ post : Int32 → (Nat → Int32) → (Nat → Nat → Int32) → Prop, (∀ g' : Nat → Int32, bX5_claim_101 post (va_up J 0 (0 : Int32)) (va_up G 9 g') (nI p) x2 y) → wX5_claim J G x1 x2 x3 post := by
            intro post gg
            refine ref post (fun _ z => absurd z hA) (fun _ _ z => absurd z hB) (fun _ _ _ z => absurd z hD) (fun g' _ _ _ y' hy' => ?_)
            rw [vx_same (r := y') (r2 := y) (by rw [hy', hye]), ep]
            exact gg g'
          unfold wX4_postClaim
          refine m_post3 (a1 := 1) (b1 := 4) (a2 := 5) (b2 := 3) (a3 := 3) (b3 := 2) hj.1 (by omega) (by omega) (by omega) (by omega) (by omega) (by omega) (by omega) (by omega) (by omega) (fun room I2 F2 s1 s2 hJC => ?_) (fun noroom => ?_)
          · have h13 : I2 13 = nI C := by rw [s1 13 (by decide)]; exact hc.1
            refine m_keep h13 hC (by omega) (fun I3 F3 s3 s4 k13 k11 k12 k18 k19 => h 0 I3 F3 _ (fun post hh => cont post (fun g' => ?_)))
            refine r_claim101 (I := I) (F := F) (J := va_up J 0 (0 : Int32)) (G := va_up G 9 g') ht hc hj.2 (by omega) hC hy hf (fun _ J1 G1 u1 u2 hJM v14 v16 => hh _ _ _ ?_ (by rw [u1 0 (by decide)]; rfl) (fun _ => rfl)) (fun nr => absurd room nr)
            have si : sI I I3 [11, 12, 13, 14] := sI_s (sI_w s1 (by decide)) (sI_w s3 (by decide))
            have sf : sF F F3 [18, 19, 20, 21] := sF_s (sF_w s2 (by decide)) (sF_w s4 (by decide))
            have sj : sI J J1 [0, 4, 5, 14] := sI_s (a := [0, 4, 5, 14]) (sI_u sI_r (by decide)) (sI_w u1 (by decide))
            have sg : sF G G1 [9, 10, 11, 12, 13, 14, 15, 16] := sF_s (a := [9, 10, 11, 12, 13, 14, 15, 16]) (sF_u sF_r (by decide)) (sF_w u2 (by decide))
            refine ⟨R, N, P, C + 1, pl, bk, po, _, hp.s si sf sj sg (by decide) (by decide) (by decide) (by decide), hg, hb.s si sf sj sg (by decide) (by decide) (by decide) (by decide), ⟨?_, hJM⟩, ht.s si sj (by decide) (by decide), ?_⟩
            · unfold JC at hJC ⊢
              rw [s3 14 (by decide), s4 20 (by decide), s4 21 (by decide)]
              exact hJC
            · refine Cl.next ht hc hC (by omega) hy hf (si 6 (by decide)) (si 8 (by decide)) (si 9 (by decide)) k13 ?_ ?_ ?_ ?_ v14 v16
              · rw [k11, s1 11 (by decide)]
              · rw [k12, s1 12 (by decide)]
              · rw [k18, s2 18 (by decide)]
              · rw [k19, s2 19 (by decide)]
          · refine Or.inr (Or.inr (Or.inr ⟨rfl, h 4 I F g (fun post hh => cont post (fun g' => ?_))⟩))
            refine r_claim101 (I := I) (F := F) (J := va_up J 0 (0 : Int32)) (G := va_up G 9 g') ht hc hj.2 (by omega) hC hy hf (fun room => absurd room noroom) (fun _ J1 G1 u1 u2 j0 => hh _ _ _ ?_ j0 (fun z => absurd z (by decide)))
            refine hR.junk (sI_s (a := [0, 5]) (sI_u sI_r (by decide)) (sI_w u1 (by decide))) (sF_s (a := [9, 13, 14, 15]) (sF_u sF_r (by decide)) (sF_w u2 (by decide)))
        · refine Or.inr (Or.inr (Or.inl ⟨rfl, h 3 I F g (fun post hh => ref post (fun _ z => absurd z hA) (fun _ _ z => absurd z hB) (fun g' _ _ _ => hh _ _ _ ((hR.thrown _).best _) rfl (fun z => absurd z (by decide))) (fun _ _ _ z => absurd (Or.inr q5) z))⟩))
    · rw [nB_z] at q3
      refine Or.inr (Or.inl ⟨rfl, h 2 I F g (fun post hh => ref post (fun _ z => absurd q z) (fun g' _ _ => hh _ _ _ ((hR.thrown _).best _) rfl (fun z => absurd z (by decide))) (fun _ _ z => absurd (fun w => q3 w.2) z) (fun _ _ z => absurd (fun w => q3 w.2) z))⟩)
  · rw [nB_z] at q
    refine Or.inl ⟨rfl, h 1 I F g (fun post hh => ref post (fun g' _ => hh _ _ _ ((hR.thrown _).best _) rfl (fun z => absurd z (by decide))) (fun _ z => absurd q z) (fun _ z => absurd q z) (fun _ z => absurd q z))⟩
end ClmK
