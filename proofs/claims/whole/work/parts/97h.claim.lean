/-! CLAIMS: the two sides -/
theorem sI_s {I I1 I2 : Nat → Int32} {a : List Nat} (h : sI I I1 a) (h2 : sI I1 I2 a) : sI I I2 a := fun j hj => by rw [h2 j hj, h j hj]
theorem sF_s {F F1 F2 : Nat → Nat → Int32} {a : List Nat} (h : sF F F1 a) (h2 : sF F1 F2 a) : sF F F2 a := fun j hj => by rw [h2 j hj, h j hj]
theorem sI_w {I I1 : Nat → Int32} {a b : List Nat} (h : sI I I1 a) (hs : ∀ j ∈ a, j ∈ b) : sI I I1 b := fun j hj => h j (fun q => hj (hs j q))
theorem sF_w {F F1 : Nat → Nat → Int32} {a b : List Nat} (h : sF F F1 a) (hs : ∀ j ∈ a, j ∈ b) : sF F F1 b := fun j hj => h j (fun q => hj (hs j q))
abbrev nz (x : Int32) : Nat := if x = 0 then 0 else 1
section ClmC
variable {I J : Nat → Int32} {F G : Nat → Nat → Int32} {l : Jl}
theorem m_post3 {post : (Nat → Int32) → (Nat → Nat → Int32) → Prop} {px : Prop} {a1 b1 a2 b2 a3 b3 : Nat} {x1 x2 x3 : Int32} (hJ : JC I F l) (h1 : a1 < 7) (h2 : b1 < 7) (h3 : a1 ≠ b1) (h4 : a2 < 7) (h5 : b2 < 7) (h6 : a2 ≠ b2) (h7 : a3 < 7) (h8 : b3 < 7) (h9 : a3 ≠ b3)
    (h : l.length + nz x1 + nz x2 + nz x3 ≤ 90 → ∀ I1 F1, sI I I1 [14] → sF F F1 [20, 21] → JC I1 F1 (pst x3 (nI a3) (nI b3) (pst x2 (nI a2) (nI b2) (pst x1 (nI a1) (nI b1) l))) → post I1 F1) (hx : ¬ l.length + nz x1 + nz x2 + nz x3 ≤ 90 → px) :
    wX0_hasRoomFor I F x1 x2 x3 (fun r1 => ((¬ r1 = (0 : Int32) → wX0_post I F x1 (nI a1) (nI b1) (fun I4 F5 => wX0_post I4 F5 x2 (nI a2) (nI b2) (fun I7 F8 => wX0_post I7 F8 x3 (nI a3) (nI b3) (fun I10 F11 => post I10 F11)))) ∧ (r1 = (0 : Int32) → px))) := by
  refine m_hasRoom hJ ⟨fun c => ?_, fun c => ?_⟩
  · rw [nB_z, Classical.not_not] at c
    have l1 := pst_len x1 (nI a1) (nI b1) l
    have l2 := pst_len x2 (nI a2) (nI b2) (pst x1 (nI a1) (nI b1) l)
    have l3 := pst_len x3 (nI a3) (nI b3) (pst x2 (nI a2) (nI b2) (pst x1 (nI a1) (nI b1) l))
    refine m_post hJ (by omega) h1 h2 h3 (fun I1 F1 s1 f1 j1 => ?_)
    refine m_post j1 (by omega) h4 h5 h6 (fun I2 F2 s2 f2 j2 => ?_)
    refine m_post j2 (by omega) h7 h8 h9 (fun I3 F3 s3 f3 j3 => ?_)
    exact h c I3 F3 (sI_s (sI_s s1 s2) s3) (sF_s (sF_s f1 f2) f3) j3
  · rw [nB_z] at c
    exact hx c
/-- the class's figures -/
theorem m_figs {post : Int32 → Int32 → Int32 → Int32 → Int32 → Prop} {p C : Nat} {x3 : Int32} (ht : Tm I J) (hc : Cl I F J G C) (hp : p < 6) (hx : 1 ≤ x3.toInt ∧ x3.toInt ≤ 9999)
    (h : ∀ y paid part more ren fee : Int32, 0 ≤ y.toInt ∧ y.toInt ≤ 9999 → y.toInt = max (x3.toInt - (I 4).toInt) 0 → Fig I F p y paid part more ren fee → post paid part more ren fee) :
    wX3_payable I F (nI p) x3 (fun r10 => wX4_percentOf r10 (I 0) (fun r11 => wX3_layerPartOf I F (r10 - r11) (fun r12 => wX3_renewedOf I F r12 (fun r13 => wX4_percentOf r13 (I 10) (fun r14 => post r10 r11 r12 r13 r14))))) := by
  obtain ⟨⟨-, t1, t2⟩, ⟨-, t3, t4⟩, ⟨-, t5, t6⟩, ⟨-, t7, t8⟩, ⟨-, t9, t10⟩, ⟨-, t11, t12⟩, ⟨-, t13, t14⟩, ⟨-, t15, t16⟩⟩ := id ht
  obtain ⟨c1, c2, c3, c4, c5, ⟨-, c6, c7⟩, ⟨-, c8, c9⟩⟩ := id hc
  obtain ⟨-, c10, c11⟩ := c5 p hp
  have e1 : (1 : Int32).toInt = 1 := rfl
  have n1 := mul_b t11 t12 (show 0 ≤ 1 + (I 9).toInt by omega) (show 1 + (I 9).toInt ≤ 4 by omega)
  have n2 := mul_b t11 t12 t13 t14
  unfold wX3_payable
  rw [nI_clamp (by omega)]
  refine ⟨vp_in_nI (by omega) (by omega), fun v2 e2 v3 e3 v4 e4 v5 e5 => ?_⟩
  have w2 : v2.toInt = (I 6).toInt - (F 18 p).toInt := by rw [e2, tI_sub (by omega) (by omega)]
  have w3 : v3.toInt = max (x3.toInt - (I 4).toInt) 0 := by rw [e3, ite_max0, tI_sub (by omega) (by omega)]
  have w4 : v4.toInt = min v2.toInt (I 5).toInt := by rw [e4, ite_min]
  have w5 : v5.toInt = min v4.toInt v3.toInt := by rw [e5, ite_min]
  have f1 : v5.toInt = min v3.toInt (min (I 5).toInt ((I 6).toInt - (F 18 p).toInt)) := by omega
  have a1 : 0 ≤ v5.toInt ∧ v5.toInt ≤ 9999 := by omega
  have n3 := mul_b a1.1 a1.2 t1 t2
  refine m_percentOf (by omega) (by omega) (fun r11 f2 => ?_)
  have a2 : 0 ≤ r11.toInt ∧ r11.toInt ≤ 9999 := by omega
  have w6 : (v5 - r11).toInt = v5.toInt - r11.toInt := tI_sub (by omega) (by omega)
  unfold wX3_layerPartOf
  intro u1 g1 u2 g2 u3 g3 u4 g4
  have y1 : ((1 : Int32) + I 9).toInt = 1 + (I 9).toInt := by rw [tI_add (by rw [e1]; omega) (by rw [e1]; omega), e1]
  have y2 : (I 8 * ((1 : Int32) + I 9)).toInt = (I 8).toInt * (1 + (I 9).toInt) := by rw [tI_mul (by rw [y1]; omega) (by rw [y1]; omega), y1]
  have x1 : u1.toInt = (I 8).toInt * (1 + (I 9).toInt) - (I 11).toInt := by rw [g1, tI_sub (by rw [y2]; omega) (by rw [y2]; omega), y2]
  have x2 : u2.toInt = max (v5.toInt - r11.toInt - (I 7).toInt) 0 := by rw [g2, ite_max0, tI_sub (by rw [w6]; omega) (by rw [w6]; omega), w6]
  have x3' : u3.toInt = min u1.toInt (I 8).toInt := by rw [g3, ite_min]
  have x4 : u4.toInt = min u3.toInt u2.toInt := by rw [g4, ite_min]
  have f3 : u4.toInt = min (max (v5.toInt - r11.toInt - (I 7).toInt) 0) (min (I 8).toInt ((I 8).toInt * (1 + (I 9).toInt) - (I 11).toInt)) := by
    generalize (I 8).toInt * (1 + (I 9).toInt) = LT at *
    omega
  have a3 : 0 ≤ u4.toInt ∧ u4.toInt ≤ 9999 := by
    generalize (I 8).toInt * (1 + (I 9).toInt) = LT at *
    omega
  unfold wX3_renewedOf
  intro z1 k1
  have y3 : (I 8 * I 9).toInt = (I 8).toInt * (I 9).toInt := tI_mul (by omega) (by omega)
  have y4 : (I 8 * I 9 - I 12).toInt = (I 8).toInt * (I 9).toInt - (I 12).toInt := by rw [tI_sub (by rw [y3]; omega) (by rw [y3]; omega), y3]
  have f4 : z1.toInt = min u4.toInt ((I 8).toInt * (I 9).toInt - (I 12).toInt) := by rw [k1, ite_min, y4, Int.min_comm]
  have a4 : 0 ≤ z1.toInt ∧ z1.toInt ≤ 9999 := by
    generalize (I 8).toInt * (I 9).toInt = LR at *
    omega
  have n4 := mul_b a4.1 a4.2 t15 t16
  refine m_percentOf (by omega) (by omega) (fun r14 f5 => ?_)
  exact h v3 v5 r11 u4 z1 r14 (by omega) w3 ⟨f1, f2, f3, f4, f5⟩
end ClmC
section ClmM
variable {I J : Nat → Int32} {F G : Nat → Nat → Int32} {l : Jl}
/-- what the reference drafts and posts for a claim -/
theorem r_claim101 {post : Int32 → (Nat → Int32) → (Nat → Nat → Int32) → Prop} {p C : Nat} {x2 y paid part more ren fee : Int32} (ht : Tm I J) (hc : Cl I F J G C) (hM : JM J G l) (hp : p < 6) (hC : C < 20) (hy : 0 ≤ y.toInt ∧ y.toInt ≤ 9999) (hf : Fig I F p y paid part more ren fee)
    (h : l.length + nz paid + nz (part + more) + nz fee ≤ 90 → ∀ J1 G1, sI J J1 [4, 5, 14] → sF G G1 [10, 11, 12, 13, 14, 15, 16] → JM J1 G1 (pst fee 3 2 (pst (part + more) 5 3 (pst paid 1 4 l))) → J1 14 = nI (C + 1) → G1 16 = upd (upd (upd (upd (upd (upd (G 16) (6 * C) (nI p)) (6 * C + 1) x2) (6 * C + 2) paid) (6 * C + 3) part) (6 * C + 4) more) (6 * C + 5) ren → post paid J1 G1)
    (hx : ¬ l.length + nz paid + nz (part + more) + nz fee ≤ 90 → ∀ J1 G1, sI J J1 [0, 5] → sF G G1 [13, 14, 15] → J1 0 = 4 → post 0 J1 G1) : bX5_claim_101 post J G (nI p) x2 y := by
  obtain ⟨⟨q0, t1, t2⟩, ⟨q4, t3, t4⟩, ⟨q5, t5, t6⟩, ⟨q6, t7, t8⟩, ⟨q7, t9, t10⟩, ⟨q8, t11, t12⟩, ⟨q9, t13, t14⟩, ⟨q10, t15, t16⟩⟩ := id ht
  obtain ⟨c1, c2, c3, c4, c5, ⟨cu, c6, c7⟩, ⟨cr, c8, c9⟩⟩ := id hc
  obtain ⟨cp, c10, c11⟩ := c5 p hp
  obtain ⟨⟨r1, r2, r3⟩, ⟨r4, r5⟩, ⟨r6, r7, r8⟩, ⟨r9, r10, r11⟩, ⟨r12, r13⟩, n1, n2, n3, n4⟩ := fig_rng ht hc hp hy hf
  obtain ⟨f1, f2, f3, f4, f5⟩ := hf
  have e1 : (1 : Int32).toInt = 1 := rfl
  have e100 : (100 : Int32).toInt = 100 := rfl
  have e0 : (0 : Int32).toInt = 0 := rfl
  unfold bX5_claim_101
  rw [← q0, ← q5, ← q6, ← q7]
  refine m_least (fun s1 h1 => r_before (w := 2) c2 c3 (by omega) ?_)
  rw [← cp]
  refine m_least (fun s2 h2 v38 e38 => ?_)
  rw [tI_sub (by omega) (by omega)] at h2
  have z2 : s2 = paid := vx_same (by omega)
  subst z2
  have z3 : v38 = part := vx_same (by
    rw [e38, tI_div (by rw [tI_mul (by omega) (by omega)]; omega), tI_mul (by omega) (by omega), e100, Int.tdiv_eq_ediv_of_nonneg (by omega)]
    exact f2.symm)
  subst z3
  have w6 : (s2 - v38).toInt = s2.toInt - v38.toInt := tI_sub (by omega) (by omega)
  -- behind the share of the layer
  have go : ∀ y0 : Int32, y0.toInt = max (s2.toInt - v38.toInt - (I 7).toInt) 0 → bX5_claim_162 post J G (nI p) x2 s2 v38 y0 := by
    intro y0 hy0
    unfold bX5_claim_162
    rw [← q8, ← q9]
    have y1 : ((1 : Int32) + I 9).toInt = 1 + (I 9).toInt := by rw [tI_add (by rw [e1]; omega) (by rw [e1]; omega), e1]
    have y2 : (I 8 * ((1 : Int32) + I 9)).toInt = (I 8).toInt * (1 + (I 9).toInt) := by rw [tI_mul (by rw [y1]; omega) (by rw [y1]; omega), y1]
    have y3 : (I 8 * I 9).toInt = (I 8).toInt * (I 9).toInt := tI_mul (by omega) (by omega)
    refine m_least (fun s3 h3 => r_before (w := 4) c2 c3 (by omega) ?_)
    rw [← cu]
    refine m_least (fun s4 h4 => r_before (w := 5) c2 c3 (by omega) ?_)
    rw [tI_sub (by rw [y2]; omega) (by rw [y2]; omega), y2] at h4
    have z4 : s4 = more := vx_same (by
      generalize (I 8).toInt * (1 + (I 9).toInt) = LT at *
      omega)
    subst z4
    rw [← cr]
    refine m_least (fun s5 h5 J6 e6 => ?_)
    rw [tI_sub (by rw [y3]; omega) (by rw [y3]; omega), y3] at h5
    have z5 : s5 = ren := vx_same (by rw [h5, f4])
    subst z5
    have hD0 : DM J6 G [] := ⟨by rw [e6]; rfl, fun k e hk => by cases hk⟩
    have sJ6 : sI J J6 [5] := by rw [e6]; exact sI_u sI_r (by decide)
    refine r_drafted hD0 (by decide) (fun J8 G9 sa fa d1 => ?_)
    have l1 := pst_len s2 1 4 []
    have k1 : nz s2 ≤ 1 := by unfold nz; split <;> omega
    have k2 : nz (v38 + s4) ≤ 1 := by unfold nz; split <;> omega
    have k3 : nz fee ≤ 1 := by unfold nz; split <;> omega
    have e9 : (pst s2 1 4 []).length = nz s2 := by rw [l1]; simp
    refine r_drafted d1 (by omega) (fun J11 G12 sb fb d2 => ?_)
    have l2 : (pst (v38 + s4) 5 3 (pst s2 1 4 [])).length = nz s2 + nz (v38 + s4) := by rw [pst_len, e9]
    have pr : J11 13 = I 10 := by rw [sb 13 (by decide), sa 13 (by decide), sJ6 13 (by decide), q10]
    have ze : s5 * J11 13 / (100 : Int32) = fee := vx_same (by
      rw [pr, tI_div (by rw [tI_mul (by omega) (by omega)]; omega), tI_mul (by omega) (by omega), e100, Int.tdiv_eq_ediv_of_nonneg (by omega)]
      exact f5.symm)
    rw [ze]
    refine r_drafted d2 (by omega) (fun J14 G15 sc fc d3 => ?_)
    have l3 : (pst fee 3 2 (pst (v38 + s4) 5 3 (pst s2 1 4 []))).length = nz s2 + nz (v38 + s4) + nz fee := by rw [pst_len, l2]
    have sJ : sI J J14 [5] := sI_s (sI_s (sI_s sJ6 sa) sb) sc
    have sG : sF G G15 [13, 14, 15] := sF_s (sF_s fa fb) fc
    have hM2 : JM J14 G15 l := by
      unfold JM at hM ⊢
      rw [sJ 4 (by decide), sG 10 (by decide), sG 11 (by decide), sG 12 (by decide)]
      exact hM
    have app : l ++ pst fee 3 2 (pst (v38 + s4) 5 3 (pst s2 1 4 [])) = pst fee 3 2 (pst (v38 + s4) 5 3 (pst s2 1 4 l)) := by
      rw [← pst_app, ← pst_app, ← pst_app, List.append_nil]
    refine r_posts hM2 d3 (by omega) (fun room J17 G18 sd fd hM3 => ⟨fun _ => ?_, fun e => absurd e (by decide)⟩) (fun noroom => ⟨fun e => absurd rfl e, fun _ J34 e34 => hx (by omega) _ _ ?_ ?_ ?_⟩)
    · rw [app] at hM3
      have j14 : J17 14 = nI C := by rw [sd 14 (by decide), sJ 14 (by decide), c2]
      have a0 : (6 : Int32) * nI C = nI (6 * C) := by show nI 6 * nI C = _; rw [pk_mul]
      have a1 : nI (6 * C) + (1 : Int32) = nI (6 * C + 1) := nI_add _ 1
      have a2 : nI (6 * C) + (2 : Int32) = nI (6 * C + 2) := nI_add _ 2
      have a3 : nI (6 * C) + (3 : Int32) = nI (6 * C + 3) := nI_add _ 3
      have a4 : nI (6 * C) + (4 : Int32) = nI (6 * C + 4) := nI_add _ 4
      have a5 : nI (6 * C) + (5 : Int32) = nI (6 * C + 5) := nI_add _ 5
      rw [j14, a0, a1, a2, a3, a4, a5]
      refine ⟨vp_in_nI (by omega) (by omega), fun F20 g20 => ⟨vp_in_nI (by omega) (by omega), fun F22 g22 => ⟨vp_in_nI (by omega) (by omega), fun F24 g24 => ⟨vp_in_nI (by omega) (by omega), fun F26 g26 => ⟨vp_in_nI (by omega) (by omega), fun F28 g28 => ⟨vp_in_nI (by omega) (by omega), fun F30 g30 v32 g32 J33 g33 => ?_⟩⟩⟩⟩⟩⟩
      rw [nI_clamp (by omega)] at g20 g22 g24 g26 g28 g30
      have w : F30 = va_up G18 16 (upd (upd (upd (upd (upd (upd (G18 16) (6 * C) (nI p)) (6 * C + 1) x2) (6 * C + 2) s2) (6 * C + 3) v38) (6 * C + 4) s4) (6 * C + 5) s5) := by
        rw [g30, g28, g26, g24, g22, g20]
        rw [bx_uu, bx_uu, bx_uu, bx_uu, bx_uu]
        rfl
      have g16 : G18 16 = G 16 := by rw [fd 16 (by decide), sG 16 (by decide)]
      refine h (by omega) J33 F30 ?_ ?_ ?_ ?_ ?_
      · rw [g33]
        exact sI_u (sI_s (sI_w sJ (by decide)) (sI_w sd (by decide))) (by decide)
      · rw [w]
        exact sF_u (sF_s (sF_w sG (by decide)) (sF_w fd (by decide))) (by decide)
      · unfold JM at hM3 ⊢
        rw [g33, w]
        exact hM3
      · rw [g33]
        show v32 = _
        rw [g32, nI_1]
      · rw [w, g16]
        rfl
    · rw [e34]
      exact sI_u (sI_w sJ (by decide)) (by decide)
    · exact sG
    · rw [e34]
      rfl
  rw [tI_le, w6]
  refine ⟨fun c => go _ (by rw [e0]; omega), fun c => go _ ?_⟩
  rw [tI_sub (by rw [w6]; omega) (by rw [w6]; omega), w6]
  omega
end ClmM
