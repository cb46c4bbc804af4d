/-! the case of a binding -/
section Bind2
variable {I J : Nat → Int32} {F G : Nat → Nat → Int32} {g : Nat → Int64} {W : Int32 → (Nat → Int32) → (Nat → Nat → Int32) → (Nat → Int64) → Prop}
theorem c_bind {x1 x2 x3 x4 x5 : Int32} (hR : Rl I F J G) (h : ∀ (r : Int32) I1 F1 g1, (∀ post : Int32 → (Nat → Int32) → (Nat → Nat → Int32) → Prop, (∀ r2 J1 G1, Rl I1 F1 J1 G1 → J1 0 = r → (r = 0 → g1 0 = r2.toInt64) → post r2 J1 G1) → wX5_bind J G x1 x2 x3 x4 x5 post) → W r I1 F1 g1) : wL_bind I F g x1 x2 x3 x4 x5 W := by
  obtain ⟨R, N, P, C, pl, bk, po, l, hp, hg, hb, hj, ht, hc⟩ := id hR
  obtain ⟨b1, b2, b3, b4, b5, b6, b7, b8, b9, b10, b11⟩ := id hb
  have hP6 := b9.1
  have hN := b1.1
  have e0 : (0 : Int32).toInt = 0 := rfl
  have e1 : (1 : Int32).toInt = 1 := rfl
  have e2 : (2 : Int32).toInt = 2 := rfl
  have e200 : (200 : Int32).toInt = 200 := rfl
  have e6 : I 2 = (6 : Int32) ↔ P = 6 := n_eq (c := 6) b10 (by omega) (by omega)
  have noA : ¬ bA R pl P N → W (1 : Int32) I F g := fun q => h 1 I F g (fun post hh => r_bind hp.2.1 b11 b4 hP6 hN (fun _ => hh _ _ _ (hR.thrown _) rfl (fun z => absurd z (by decide))) (fun z => absurd z q) (fun z => absurd z q))
  have noB : bA R pl P N → ¬ bB x1 x2 x3 x4 x5 → W (2 : Int32) I F g := fun q q2 => h 2 I F g (fun post hh => r_bind hp.2.1 b11 b4 hP6 hN (fun z => absurd q z) (fun _ _ => hh _ _ _ (hR.thrown _) rfl (fun z => absurd z (by decide))) (fun _ z => absurd z q2))
  unfold wL_bind wX4_bind
  rw [e6]
  refine m_isPlanGood hp.1 b10 hP6 hg ⟨fun q1 => Or.inl ⟨rfl, noA ?_⟩, fun q1 => ⟨fun q2 => Or.inl ⟨rfl, noA (fun z => z.2.1 q2)⟩, fun q2 => m_isFull b3 hN ⟨fun q3 => ?_, fun q3 => Or.inl ⟨rfl, noA ?_⟩⟩⟩⟩
  · rw [nB_z] at q1; exact fun z => q1 z.1
  · rw [nB_z, Classical.not_not] at q1
    rw [nB_z] at q3
    have hA : bA R pl P N := ⟨q1, q2, q3⟩
    refine m_isDay ⟨fun q4 => Or.inr (Or.inl ⟨rfl, noB hA ?_⟩), fun q4 => m_isWithin ⟨fun q5 => Or.inr (Or.inl ⟨rfl, noB hA ?_⟩), fun q5 => m_isValueOf ⟨fun q6 => Or.inr (Or.inl ⟨rfl, noB hA ?_⟩), fun q6 => m_isValueOf ⟨fun q7 => Or.inr (Or.inl ⟨rfl, noB hA ?_⟩), fun q7 => m_isValueOf ⟨fun q8 v16 e16 => ?_, fun q8 => Or.inr (Or.inl ⟨rfl, noB hA ?_⟩)⟩⟩⟩⟩⟩
    · rw [nB_z] at q4; exact fun z => q4 ⟨z.1.1, by have := z.1.2; omega⟩
    · rw [nB_z, e1, e200] at q5; exact fun z => q5 z.2.1
    · rw [nB_z, e0] at q6; exact fun z => q6 z.2.2.1
    · rw [nB_z, e1] at q7; exact fun z => q7 z.2.2.2.1
    · rw [nB_z, Classical.not_not] at q4
      rw [nB_z, Classical.not_not, e1, e200] at q5
      rw [nB_z, Classical.not_not, e0] at q6
      rw [nB_z, Classical.not_not, e1] at q7
      rw [nB_z, Classical.not_not, e2] at q8
      have hB : bB x1 x2 x3 x4 x5 := ⟨⟨q4.1, by omega⟩, q5, q6, q7, q8⟩
      have hGd : Gd R pl := ff_gd.mp q1
      rw [e16, b10]
      refine m_pencilBind b10 b3 (by omega) (by omega) hB.1 q5 (fun F1 e he hC => ?_)
      -- what lies at the reference, whatever it is
      let bk1 : Tb := xt bk N (bv P x1.toInt 0 0 0)
      let po1 : Tb := xt po P (pv x1.toInt e.toInt N x3.toInt x4.toInt x5.toInt)
      have all : ∀ (G1 : Nat → Nat → Int32) (e3 v : Int32), e3.toInt = min 999 (x1.toInt + x2.toInt - 1) → v.toInt = 1000000 * x3.toInt + 1000 * x4.toInt + x5.toInt → BdR G G1 N P x1 e3 v → ∀ I1 J1 : Nat → Int32, I1 2 = nI (P + 1) → I1 3 = nI (N + 1) → J1 2 = nI (P + 1) → J1 3 = nI (N + 1) → RBk I1 F1 J1 G1 (N + 1) (P + 1) bk1 po1 := fun G1 e3 v he3 hv hM I1 J1 i2 i3 j2 j3 => hb.bind (by omega) (by omega) hB he he3 hv hC hM i2 i3 j2 j3
      have hJC : JC I F1 l := by
        have := hj.1
        unfold JC at this ⊢
        rw [hC.1 20 (by decide), hC.1 21 (by decide)]
        exact this
      have hPlC : PlC I F1 R pl := (hp.s (a := []) (c := []) (d := []) sI_r hC.1 (sI_r (I := J)) (sF_r (F := G)) (by decide) (by decide) (by decide) (by decide)).1
      -- a reference state of the new kind is there: take the class's own words from it
      have cls : BkC F1 (N + 1) bk1 ∧ PoC F1 (P + 1) po1 ∧ WfB (N + 1) (P + 1) bk1 po1 ∧ WfO (N + 1) (P + 1) bk1 po1 := by
        obtain ⟨e3, he3⟩ : ∃ e3 : Int32, e3.toInt = min 999 (x1.toInt + x2.toInt - 1) := ⟨nI (min 999 (x1.toInt + x2.toInt - 1)).toNat, by rw [tI_nI (by omega)]; omega⟩
        obtain ⟨v, hv⟩ : ∃ v : Int32, v.toInt = 1000000 * x3.toInt + 1000 * x4.toInt + x5.toInt := ⟨nI (1000000 * x3.toInt + 1000 * x4.toInt + x5.toInt).toNat, by rw [tI_nI (by omega)]; omega⟩
        have hM : BdR G (pG (va_up (va_up G 2 (upd (G 2) P x1)) 3 (upd (G 3) P e3)) N 0 (nI P) x1 0 v) N P x1 e3 v := by
          refine ⟨sF_u (sF_u (sF_u (sF_u (sF_u (sF_u (sF_u sF_r (by decide)) (by decide)) (by decide)) (by decide)) (by decide)) (by decide)) (by decide), ?_, ?_, ⟨?_, ?_⟩, ⟨?_, ?_, ?_, ?_, ?_⟩⟩
          · intro j q1 q2 p hp
            rcases (show j = 2 ∨ j = 3 by omega) with z | z
            · subst z; exact pk_un (f := G 2) (by omega)
            · subst z; exact pk_un (f := G 3) (by omega)
          · intro j q1 q2 b hb
            rw [pG_lt q1 q2 hb, va_up_ne _ _ (by omega), va_up_ne _ _ (by omega)]
          · exact pk_us (f := G 2)
          · exact pk_us (f := G 3)
          · exact pk_us (f := G 4)
          · exact pk_us (f := G 5)
          · exact pk_us (f := G 6)
          · exact pk_us (f := G 7)
          · exact pk_us (f := G 8)
        have k := all _ e3 v he3 hv hM (fun j => if j = 2 then nI (P + 1) else nI (N + 1)) (fun j => if j = 2 then nI (P + 1) else nI (N + 1)) rfl rfl rfl rfl
        exact ⟨k.1, k.2.2.2.2.2.1, k.2.2.2.2.2.2.2.1, k.2.2.2.2.2.2.2.2.1⟩
      have hM : CM I F1 R (N + 1) (P + 1) pl bk1 po1 := ⟨hPlC, hp.2.2, hGd, cls.1, cls.2.1, cls.2.2.1, cls.2.2.2⟩
      have sJ0 : sI J (va_up (va_up J 0 (0 : Int32)) 2 (nI (P + 1))) [0, 2] := sI_u (sI_u sI_r (by decide)) (by decide)
      -- the reference's side
      have ref : ∀ (d c f : Int32), Prm bk1 po1 pl R P N (I 0) 0 d c f → ∀ post : Int32 → (Nat → Int32) → (Nat → Nat → Int32) → Prop, (l.length + nz d + nz c + nz f ≤ 90 → ∀ J1 G1 G2, sI J J1 [0, 2, 3, 4, 5] → sF G2 G1 [9, 10, 11, 12, 13, 14, 15] → sF G G2 [2, 3, 4, 5, 6, 7, 8] → J1 0 = 0 → J1 2 = nI (P + 1) → J1 3 = nI (N + 1) → (∀ I1 : Nat → Int32, I1 2 = nI (P + 1) → I1 3 = nI (N + 1) → RBk I1 F1 J1 G2 (N + 1) (P + 1) bk1 po1) → JM J1 G1 (pst f 6 1 (pst c 3 2 (pst d 0 1 l))) → post (nI P) J1 G1) → (¬ l.length + nz d + nz c + nz f ≤ 90 → ∀ J1 G1 G2, sI J J1 [0, 5] → sF G2 G1 [9, 13, 14, 15] → J1 0 = 3 → sF G G2 [2, 3, 4, 5, 6, 7, 8] → (∀ j, 2 ≤ j → j ≤ 3 → ∀ p, p < P → G2 j p = G j p) → (∀ j, 4 ≤ j → j ≤ 8 → ∀ b, b < N → G2 j b = G j b) → post 0 J1 G1) → wX5_bind J G x1 x2 x3 x4 x5 post := by
        intro d c f hf post k1 k2
        refine r_bind hp.2.1 b11 b4 hP6 hN (fun z => absurd hA z) (fun _ z => absurd hB z) (fun _ _ G1 e3 v he3 hv hMM => ?_)
        have rel := all G1 e3 v he3 hv hMM (fun j => if j = 2 then nI (P + 1) else nI (N + 1)) (va_up (va_up (va_up J 0 (0 : Int32)) 2 (nI (P + 1))) 3 (nI (N + 1))) rfl rfl rfl rfl
        have hPlM : PlM (va_up (va_up (va_up J 0 (0 : Int32)) 2 (nI (P + 1))) 3 (nI (N + 1))) G1 R pl := by
          have := hp.2.1
          unfold PlM at this ⊢
          rw [hMM.1 1 (by decide)]
          exact this
        have hRM : RM (va_up (va_up (va_up J 0 (0 : Int32)) 2 (nI (P + 1))) 3 (nI (N + 1))) G1 R (N + 1) (P + 1) pl bk1 po1 := ⟨hPlM, hp.2.2, rel.2.1, rel.2.2.2.1, rel.2.2.2.2.1, rel.2.2.2.2.2.2.1, rel.2.2.2.2.2.2.2.1, rel.2.2.2.2.2.2.2.2.1⟩
        have hJM : JM (va_up (va_up J 0 (0 : Int32)) 2 (nI (P + 1))) G1 l := by
          have := hj.2
          unfold JM at this ⊢
          rw [hMM.1 10 (by decide), hMM.1 11 (by decide), hMM.1 12 (by decide)]
          exact this
        refine r_books (q := I 0) (l := l) hRM b4 (Nat.lt_succ_self P) hMM.2.2.2.2.2.1 ht.1.1.symm ht.1.2 hJM hf (fun room J1 G3 s1 s2 j3 jm => ⟨fun _ => ?_, fun z => ?_⟩) (fun noroom J1 G3 s1 s2 => ⟨fun z => ?_, fun _ v19 e19 I20 e20 I21 e21 => ?_⟩)
        · have j2 : J1 2 = nI (P + 1) := by rw [s1 2 (by decide)]; rfl
          have j0 : J1 0 = 0 := by rw [s1 0 (by decide)]; rfl
          have er : J1 2 - (1 : Int32) = nI P := by rw [j2, nI_pr (by omega) (by omega)]; rfl
          rw [er]
          refine k1 room J1 G3 G1 (sI_s (sI_w sJ0 (by decide)) (sI_w s1 (by decide))) s2 hMM.1 j0 j2 j3 (fun I1 i2 i3 => all G1 e3 v he3 hv hMM I1 J1 i2 i3 j2 j3) jm
        · exfalso
          apply z
          rw [tI_le, e0, tI_nI (by omega)]
          omega
        · exact absurd z (by decide)
        · have j2 : J1 2 = nI (P + 1) := by rw [s1 2 (by decide)]; rfl
          have ev : v19 = nI P := by rw [e19, j2, nI_pr (by omega) (by omega)]; rfl
          refine k2 noroom I21 G3 G1 ?_ s2 (by rw [e21]; rfl) hMM.1 hMM.2.1 hMM.2.2.1
          intro j hjj
          by_cases z2 : j = 2
          · subst z2
            rw [e21, e20, ev, b11]
            rfl
          · have z0 : j ≠ 0 := fun w => hjj (by rw [w]; decide)
            have z5 : j ≠ 5 := fun w => hjj (by rw [w]; decide)
            rw [e21, va_up_ne _ _ z0, e20, va_up_ne _ _ z2, s1 j (by simp [z5]), va_up_ne _ _ z2, va_up_ne _ _ z0]
      refine m_postPremium hM b3 (Nat.lt_succ_self P) ht.1.2 hJC (fun d c f hf room I1 F2 s1 s2 hJC1 => ?_) (fun d c f hf noroom => Or.inr (Or.inr ⟨rfl, h 3 I F1 g (fun post hh => ref d c f hf post (fun room => absurd room noroom) (fun _ J1 G1 G2 u1 u2 j0 u3 u4 u5 => hh _ _ _ ?_ j0 (fun z => absurd z (by decide))))⟩))
      · unfold wX2_confirmBind
        intro w1 d1 I2 d2 w3 d3 I4 d4
        have i2 : I1 2 = nI P := by rw [s1 2 (by decide)]; exact b10
        have i3 : I1 3 = nI N := by rw [s1 3 (by decide)]; exact b3
        have ew1 : w1 = nI (P + 1) := by rw [d1, i2, nI_1]
        have ew3 : w3 = nI (N + 1) := by
          rw [d3, d2]
          show I1 3 + (1 : Int32) = _
          rw [i3, nI_1]
        refine h 0 I4 F2 _ (fun post hh => ref d c f hf post (fun _ J1 G1 G2 u1 u2 u3 j0 j2 j3 rel jm => hh _ _ _ ?_ j0 (fun _ => rfl)) (fun nr => absurd room nr))
        have si : sI I I4 [2, 3, 14] := by rw [d4, d2]; exact sI_u (sI_u (sI_w s1 (by decide)) (by decide)) (by decide)
        have sf : sF F F2 [10, 11, 12, 13, 14, 15, 16, 17, 20, 21] := sF_s (sF_w hC.1 (by decide)) (sF_w s2 (by decide))
        have sg : sF G G1 [2, 3, 4, 5, 6, 7, 8, 9, 10, 11, 12, 13, 14, 15] := sF_s (sF_w u3 (by decide)) (sF_w u2 (by decide))
        refine ⟨R, N + 1, P + 1, C, pl, bk1, po1, pst f 6 1 (pst c 3 2 (pst d 0 1 l)), hp.s si sf u1 sg (by decide) (by decide) (by decide) (by decide), fun _ => hGd, ?_, ⟨?_, jm⟩, ht.s si u1 (by decide) (by decide), hc.s si sf u1 sg (by decide) (by decide) (by decide) (by decide)⟩
        · exact (rel I4 (by rw [d4, d2, ew1]; rfl) (by rw [d4, ew3]; rfl)).congr (fun _ _ => rfl) (fun j h1 h2 => s2 j (fun w => by simp at w; omega)) (fun _ _ => rfl) (fun j h1 h2 => u2 j (fun w => by simp at w; omega))
        · unfold JC at hJC1 ⊢
          rw [d4, d2]
          exact hJC1
      · have sg : sF G G1 [2, 3, 4, 5, 6, 7, 8, 9, 13, 14, 15] := sF_s (sF_w u3 (by decide)) (sF_w u2 (by decide))
        refine ⟨R, N, P, C, pl, bk, po, l, hp.s (a := []) sI_r hC.1 u1 sg (by decide) (by decide) (by decide) (by decide), hg, ?_, hj.s (a := []) sI_r hC.1 u1 sg (by decide) (by decide) (by decide) (by decide), ht.s (a := []) sI_r u1 (by decide) (by decide), hc.s (a := []) sI_r hC.1 u1 sg (by decide) (by decide) (by decide) (by decide)⟩
        refine hb.below rfl rfl (u1 2 (by decide)) (u1 3 (by decide)) hC.2.2.2.1 hC.2.1 hC.2.2.1 (fun j h1 h2 b hb => ?_) (fun j h1 h2 q hq => ?_)
        · rw [u2 j (fun w => by simp at w; omega)]; exact u5 j h1 h2 b hb
        · rw [u2 j (fun w => by simp at w; omega)]; exact u4 j h1 h2 q hq
    · rw [nB_z, e2] at q8; exact fun z => q8 z.2.2.2.2
  · rw [nB_z, Classical.not_not] at q3; exact fun z => z.2.2 q3
end Bind2
