/-! THE PREMIUM OF A BOOKING -/
/-- what a booking posts: the difference, what is ceded, the fee -/
def Prm (bk po pl : Tb) (R p N : Nat) (q sh d c f : Int32) : Prop := d.toInt = pmA bk po pl R p (N + 1) 1000 - pmA bk po pl R p N 1000 ∧ c.toInt = d.toInt * q.toInt / 100 ∧ f = (if sh = 0 then 0 else if 0 ≤ d.toInt then 0 else (-d) / (10 : Int32))
theorem pm_rng {bk po pl : Tb} {N P R p n : Nat} {x : Int} (hP : WfP R pl) (hB : WfB N P bk po) (hO : WfO N P bk po) (hp : p < P) (hn : n ≤ N) : 0 ≤ pmA bk po pl R p n x ∧ pmA bk po pl R p n x ≤ 19781 := by
  have h := sm_le (k := dys po p x) hP hB hO hp hn (dys_le hO hp)
  unfold pmA
  omega
theorem mul_s {a b A B : Int} (h1 : -A ≤ a) (h2 : a ≤ A) (h3 : 0 ≤ b) (h4 : b ≤ B) (hA : 0 ≤ A) : -(A * B) ≤ a * b ∧ a * b ≤ A * B := by
  have k1 := Int.mul_le_mul_of_nonneg_right h2 h3
  have k2 := Int.mul_le_mul_of_nonneg_right h1 h3
  have k3 := Int.mul_le_mul_of_nonneg_left h4 hA
  rw [Int.neg_mul] at k2
  omega
section PrmC
variable {I J : Nat → Int32} {F G : Nat → Nat → Int32} {N P R : Nat} {bk po pl : Tb} {l : Jl}
theorem m_postPremium {post : (Nat → Int32) → (Nat → Nat → Int32) → Prop} {px : String → (Nat → Int32) → (Nat → Nat → Int32) → Prop} {p : Nat} {sh : Int32} (hM : CM I F R (N + 1) P pl bk po) (hI : I 3 = nI N) (hp : p < P) (hq : 0 ≤ (I 0).toInt ∧ (I 0).toInt ≤ 90) (hJ : JC I F l)
    (h : ∀ d c f : Int32, Prm bk po pl R p N (I 0) sh d c f → l.length + nz d + nz c + nz f ≤ 90 → ∀ I1 F1, sI I I1 [14] → sF F F1 [20, 21] → JC I1 F1 (pst f 6 1 (pst c 3 2 (pst d 0 1 l))) → post I1 F1)
    (hx : ∀ d c f : Int32, Prm bk po pl R p N (I 0) sh d c f → ¬ l.length + nz d + nz c + nz f ≤ 90 → px "java/lang/UnsupportedOperationException" I F) : wX4_postPremium I F (nI p) sh post px := by
  obtain ⟨h1, h2, h3, h4, h5, h6, h7⟩ := id hM
  have e0 : (0 : Int32).toInt = 0 := rfl
  have eK : (1000 : Int32).toInt = 1000 := rfl
  have ra := pm_rng (x := 1000) h2 h6 h7 hp (Nat.le_refl (N + 1))
  have rb := pm_rng (x := 1000) (n := N) h2 h6 h7 hp (by omega)
  unfold wX4_postPremium
  intro v12 e12
  rw [e12, hI, nI_1]
  refine m_premiumBefore hM hp (Nat.le_refl _) (fun r13 k13 => m_premiumBefore hM hp (by omega) (fun r14 k14 v15 e15 => ?_))
  rw [eK] at k13 k14
  have hd : v15.toInt = pmA bk po pl R p (N + 1) 1000 - pmA bk po pl R p N 1000 := by rw [e15, tI_sub (by omega) (by omega), k13, k14]
  have hm := mul_s (a := v15.toInt) (A := 19781) (by omega) (by omega) hq.1 hq.2 (by omega)
  refine m_percentOf (by omega) (by omega) (fun r16 k16 => ?_)
  have go : ∀ y0 : Int32, y0 = (if sh = 0 then 0 else if 0 ≤ v15.toInt then 0 else (-v15) / (10 : Int32)) → bX4_postPremium_75 post px I F v15 r16 y0 := by
    intro y0 hy
    unfold bX4_postPremium_75
    exact m_post3 (a1 := 0) (b1 := 1) (a2 := 3) (b2 := 2) (a3 := 6) (b3 := 1) hJ (by omega) (by omega) (by omega) (by omega) (by omega) (by omega) (by omega) (by omega) (by omega) (fun room I1 F1 s1 s2 j => h v15 r16 y0 ⟨hd, k16, hy⟩ room I1 F1 s1 s2 j) (fun noroom => hx v15 r16 y0 ⟨hd, k16, hy⟩ noroom)
  rw [tI_le, e0]
  refine ⟨fun c => go _ (by rw [if_pos c]), fun c => ⟨fun c2 => go _ (by rw [if_neg c, if_pos c2]), fun c2 => go _ (by rw [if_neg c, if_neg c2])⟩⟩
theorem r_books {post : Int32 → (Nat → Int32) → (Nat → Nat → Int32) → Prop} {p : Nat} {sh d c f q : Int32} (hM : RM (va_up J 3 (nI (N + 1))) G R (N + 1) P pl bk po) (hI : J 3 = nI N) (hp : p < P) (h5 : G 5 N = nI p) (h6 : J 6 = q) (hq : 0 ≤ q.toInt ∧ q.toInt ≤ 90) (hJ : JM J G l) (hf : Prm bk po pl R p N q sh d c f)
    (h : l.length + nz d + nz c + nz f ≤ 90 → ∀ J1 G1, sI J J1 [3, 4, 5] → sF G G1 [9, 10, 11, 12, 13, 14, 15] → J1 3 = nI (N + 1) → JM J1 G1 (pst f 6 1 (pst c 3 2 (pst d 0 1 l))) → post (nI N) J1 G1)
    (hx : ¬ l.length + nz d + nz c + nz f ≤ 90 → ∀ J1 G1, sI J J1 [5] → sF G G1 [9, 13, 14, 15] → post (-1) J1 G1) : wX5_books J G sh post := by
  obtain ⟨m1, m2, m3, m4, m5, m6, m7, m8⟩ := id hM
  have hN40 := m3.1
  have e0 : (0 : Int32).toInt = 0 := rfl
  have e2 : (2 : Int32).toInt = 2 := rfl
  have eK : (1000 : Int32).toInt = 1000 := rfl
  have ra := pm_rng (x := 1000) m2 m7 m8 hp (Nat.le_refl (N + 1))
  have rb := pm_rng (x := 1000) (n := N) m2 m7 m8 hp (by omega)
  obtain ⟨hd, hc, hff⟩ := hf
  have hm := mul_s (a := d.toInt) (A := 19781) (by omega) (by omega) hq.1 hq.2 (by omega)
  unfold wX5_books
  rw [hI, nI_clamp (by omega), h5]
  refine ⟨vp_in_nI (by omega) (by omega), fun v8 e8 v9 e9 I10 e10 => ?_⟩
  have e9' : v9 = nI (N + 1) := by rw [e9, nI_1]
  rw [e9'] at e10
  subst e10
  have t1 : (va_up J 3 (nI (N + 1))) 3 - (1 : Int32) = nI N := by
    show nI (N + 1) - (1 : Int32) = _
    rw [nI_pr (by omega) (by omega)]
    rfl
  have t2 : ((va_up J 3 (nI (N + 1))) 3 - (2 : Int32)).toInt = (N : Int) - 1 := by
    show (nI (N + 1) - (2 : Int32)).toInt = _
    rw [tI_sub (by rw [tI_nI (by omega), e2]; omega) (by rw [tI_nI (by omega), e2]; omega), tI_nI (by omega), e2]
    omega
  have k1 : cnt (N + 1) (N : Int) = N + 1 := by unfold cnt; omega
  have k2 : cnt (N + 1) ((N : Int) - 1) = N := by unfold cnt; omega
  rw [e8, t1]
  refine r_charges hM hp (fun r11 g1 w11 => ?_)
  rw [tI_nI (by omega), k1, eK] at w11
  refine r_charges (hM.up (g := g1)) hp (fun r14 g2 w14 v17 e17 I18 e18 => ?_)
  rw [t2, k2, eK] at w14
  rw [up_same]
  have hv : v17 = d := vx_same (by rw [e17, tI_sub (by omega) (by omega), w11, w14, hd])
  subst hv
  have sJ0 : sI J I18 [3, 5] := by rw [e18]; exact sI_u (sI_u sI_r (by decide)) (by decide)
  have j3 : I18 3 = nI (N + 1) := by rw [e18]; rfl
  have hD0 : DM I18 (va_up G 9 g2) [] := ⟨by rw [e18]; rfl, fun k e hk => by cases hk⟩
  have sG0 : sF G (va_up G 9 g2) [9, 13, 14, 15] := sF_u sF_r (by decide)
  have q1 : nz v17 ≤ 1 := by unfold nz; split <;> omega
  have q2 : nz c ≤ 1 := by unfold nz; split <;> omega
  have q3 : nz f ≤ 1 := by unfold nz; split <;> omega
  refine r_drafted hD0 (by decide) (fun I20 F21 sa fa d1 => ?_)
  have l1 : (pst v17 0 1 []).length = nz v17 := by rw [pst_len]; simp
  have j6 : I20 6 = q := by rw [sa 6 (by decide), sJ0 6 (by decide), h6]
  rw [j6]
  have em : (v17 * q).toInt = v17.toInt * q.toInt := tI_mul (by omega) (by omega)
  refine m_down (by rw [em]; omega) (fun r22 w22 => ?_)
  have hc2 : r22 = c := vx_same (by rw [w22, em, hc])
  subst hc2
  refine r_drafted d1 (by omega) (fun I24 F25 sb fb d2 => ?_)
  have l2 : (pst r22 3 2 (pst v17 0 1 [])).length = nz v17 + nz r22 := by rw [pst_len, l1]
  have sJ1 : sI J I24 [3, 5] := sI_s (sI_s sJ0 (sI_w sa (by decide))) (sI_w sb (by decide))
  have sG1 : sF G F25 [9, 13, 14, 15] := sF_s (sF_s sG0 (sF_w fa (by decide))) (sF_w fb (by decide))
  have j31 : I24 3 = nI (N + 1) := by rw [sb 3 (by decide), sa 3 (by decide), j3]
  have app : l ++ pst f 6 1 (pst r22 3 2 (pst v17 0 1 [])) = pst f 6 1 (pst r22 3 2 (pst v17 0 1 l)) := by
    rw [← pst_app, ← pst_app, ← pst_app, List.append_nil]
  -- the postings
  have fin : ∀ I29 F30, sI J I29 [3, 5] → sF G F30 [9, 13, 14, 15] → I29 3 = nI (N + 1) → DM I29 F30 (pst f 6 1 (pst r22 3 2 (pst v17 0 1 []))) → bX5_books_99 post I29 F30 := by
    intro I29 F30 sJ sG j3 dd
    have l3 : (pst f 6 1 (pst r22 3 2 (pst v17 0 1 []))).length = nz v17 + nz r22 + nz f := by rw [pst_len, l2]
    have hM2 : JM I29 F30 l := by
      unfold JM at hJ ⊢
      rw [sJ 4 (by decide), sG 10 (by decide), sG 11 (by decide), sG 12 (by decide)]
      exact hJ
    unfold bX5_books_99
    refine r_posts hM2 dd (by omega) (fun room J2 G2 sc fc hM3 => ⟨fun e => absurd e (by decide), fun _ => ?_⟩) (fun noroom => ⟨fun _ v5 e5 I6 e6 => ?_, fun e => absurd rfl e⟩)
    · rw [app] at hM3
      have j32 : J2 3 = nI (N + 1) := by rw [sc 3 (by decide), j3]
      have er : J2 3 - (1 : Int32) = nI N := by rw [j32, nI_pr (by omega) (by omega)]; rfl
      rw [er]
      exact h (by omega) J2 G2 (sI_s (sI_w sJ (by decide)) (sI_w sc (by decide))) (sF_s (sF_w sG (by decide)) (sF_w fc (by decide))) j32 hM3
    · refine hx (by omega) I6 F30 ?_ sG
      intro j hj
      rw [e6]
      by_cases z : j = 3
      · subst z
        rw [hI]
        show v5 = _
        rw [e5, j3, nI_pr (by omega) (by omega)]
        rfl
      · rw [va_up_ne _ _ z]
        refine sJ j (fun w => ?_)
        rcases List.mem_cons.mp w with w | w
        · exact z w
        · exact hj w
  rw [tI_le, e0]
  have same : f = 0 → bX5_books_99 post I24 F25 := by
    intro z
    refine fin I24 F25 sJ1 sG1 j31 ?_
    have : pst f 6 1 (pst r22 3 2 (pst v17 0 1 [])) = pst r22 3 2 (pst v17 0 1 []) := if_pos z
    rw [this]
    exact d2
  refine ⟨fun z => same (by rw [hff, if_pos z]), fun z => ⟨fun z2 => same (by rw [hff, if_neg z, if_pos z2]), fun z2 => ?_⟩⟩
  have ef : (-v17) / (10 : Int32) = f := by rw [hff, if_neg z, if_neg z2]
  rw [ef]
  exact r_drafted d2 (by omega) (fun I29 F30 sc fc d3 => fin I29 F30 (sI_s sJ1 (sI_w sc (by decide))) (sF_s sG1 (sF_w fc (by decide))) (by rw [sc 3 (by decide), j31]) d3)
end PrmC
