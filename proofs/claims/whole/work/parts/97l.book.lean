/-! A CHANGE, A CANCEL, A REINSTATE -/
abbrev pF (F : Nat → Nat → Int32) (N : Nat) (a b c d : Int32) : Nat → Nat → Int32 := va_up (va_up (va_up (va_up F 14 (upd (F 14) N a)) 15 (upd (F 15) N b)) 16 (upd (F 16) N c)) 17 (upd (F 17) N d)
abbrev pG (G : Nat → Nat → Int32) (N : Nat) (k p d t v : Int32) : Nat → Nat → Int32 := va_up (va_up (va_up (va_up (va_up G 4 (upd (G 4) N k)) 5 (upd (G 5) N p)) 6 (upd (G 6) N d)) 7 (upd (G 7) N t)) 8 (upd (G 8) N v)
section Book
variable {I J : Nat → Int32} {F G : Nat → Nat → Int32} {N P R C : Nat} {bk po pl : Tb} {l : Jl}
theorem pF_lt {a b c d : Int32} {j q : Nat} (h1 : 14 ≤ j) (h2 : j ≤ 17) (hq : q < N) : pF F N a b c d j q = F j q := by
  rcases (show j = 14 ∨ j = 15 ∨ j = 16 ∨ j = 17 by omega) with z | z | z | z
  · subst z; exact pk_un (f := F 14) (by omega)
  · subst z; exact pk_un (f := F 15) (by omega)
  · subst z; exact pk_un (f := F 16) (by omega)
  · subst z; exact pk_un (f := F 17) (by omega)
theorem pG_lt {k p d t v : Int32} {j q : Nat} (h1 : 4 ≤ j) (h2 : j ≤ 8) (hq : q < N) : pG G N k p d t v j q = G j q := by
  rcases (show j = 4 ∨ j = 5 ∨ j = 6 ∨ j = 7 ∨ j = 8 by omega) with z | z | z | z | z
  · subst z; exact pk_un (f := G 4) (by omega)
  · subst z; exact pk_un (f := G 5) (by omega)
  · subst z; exact pk_un (f := G 6) (by omega)
  · subst z; exact pk_un (f := G 7) (by omega)
  · subst z; exact pk_un (f := G 8) (by omega)
theorem pF_s {a b c d : Int32} : sF F (pF F N a b c d) [14, 15, 16, 17] := sF_u (sF_u (sF_u (sF_u sF_r (by decide)) (by decide)) (by decide)) (by decide)
theorem pG_s {k p d t v : Int32} : sF G (pG G N k p d t v) [4, 5, 6, 7, 8] := sF_u (sF_u (sF_u (sF_u (sF_u sF_r (by decide)) (by decide)) (by decide)) (by decide)) (by decide)
theorem m_pencil {post : (Nat → Int32) → (Nat → Nat → Int32) → Prop} {x1 x2 x3 x4 : Int32} (hI : I 3 = nI N) (hN : N < 40) (h : post I (pF F N x1 x2 x3 x4)) : wX2_pencil I F x1 x2 x3 x4 post := by
  unfold wX2_pencil
  rw [hI, nI_clamp (by omega)]
  have hin : vp_in (nI N) 40 := vp_in_nI (by omega) (by omega)
  refine ⟨hin, fun F1 e1 => ⟨hin, fun F3 e3 => ⟨hin, fun F5 e5 => ⟨hin, fun F7 e7 => ?_⟩⟩⟩⟩
  subst e1
  subst e3
  subst e5
  subst e7
  exact h
theorem r_lay {post : (Nat → Int32) → (Nat → Nat → Int32) → Prop} {x1 x2 x3 x4 x5 : Int32} (hI : J 3 = nI N) (hN : N < 40) (h : post J (pG G N x1 x2 x3 x4 x5)) : wX5_lay J G x1 x2 x3 x4 x5 post := by
  unfold wX5_lay
  rw [hI, nI_clamp (by omega)]
  have hin : vp_in (nI N) 40 := vp_in_nI (by omega) (by omega)
  refine ⟨hin, fun F1 e1 => ⟨hin, fun F3 e3 => ⟨hin, fun F5 e5 => ⟨hin, fun F7 e7 => ⟨hin, fun F9 e9 => ?_⟩⟩⟩⟩⟩
  subst e1
  subst e3
  subst e5
  subst e7
  subst e9
  exact h
/-- the row of a booking -/
abbrev bv (p : Nat) (d k t v : Int) : Nat → Int := fun j => if j = 0 then p else if j = 1 then d else if j = 2 then k else if j = 3 then t else v
theorem WfO.more {v : Nat → Int} (h : WfO N P bk po) : WfO (N + 1) P (xt bk N v) po := by
  refine ⟨h.1, fun p hp => ?_⟩
  obtain ⟨o1, o2, o3, o4, ⟨b, hb, q1, q2, q3, q4⟩, o6, o7, o8⟩ := h.2 p hp
  exact ⟨o1, o2, o3, o4, ⟨b, by omega, q1, by rw [xt_lt hb]; exact q2, by rw [xt_lt hb]; exact q3, by rw [xt_lt hb]; exact q4⟩, o6, o7, o8⟩
/-- the state with the new booking -/
theorem RBk.book {p k : Nat} {x2 t v fc vc : Int32} (hb : RBk I F J G N P bk po) (hN : N < 40) (hp : p < P) (hd : po 0 p ≤ x2.toInt ∧ x2.toInt < po 1 p) (hk : 1 ≤ k ∧ k ≤ 3) (hfc : fc.toInt = cfk k t.toInt) (hvc : vc.toInt = cvk k v.toInt) (hok : k = 1 → okv t.toInt v.toInt) : RBk (va_up I 3 (nI (N + 1))) (pF F N (nI p) x2 fc vc) (va_up J 3 (nI (N + 1))) (pG G N (nI k) (nI p) x2 t v) (N + 1) P (xt bk N (bv p x2.toInt k t.toInt v.toInt)) po := by
  obtain ⟨b1, b2, b3, b4, b5, b6, b7, b8, b9, b10, b11⟩ := id hb
  have hP6 := b9.1
  obtain ⟨o1, o2, o3, o4, ⟨b, hbb, q1, q2, q3, q4⟩, o6, o7, o8⟩ := b9.2 p hp
  refine RBk.more hb hN (Nat.le_refl P) (fun _ _ _ => rfl) b10 rfl b11 rfl (fun j h1 h2 b hb => pF_lt h1 h2 hb) (fun j h1 h2 b hb => pG_lt h1 h2 hb) ?_ ?_ ?_ ?_ ?_ ?_ ?_ ?_ ?_ ?_ ?_ ?_ ?_ (b9.more)
  · show (upd (F 14) N (nI p) N).toInt = (p : Int)
    rw [pk_us, tI_nI (by omega)]
  · show (upd (F 15) N x2 N).toInt = x2.toInt
    rw [pk_us]
  · show (upd (F 16) N fc N).toInt = cfk k t.toInt
    rw [pk_us, hfc]
  · show (upd (F 17) N vc N).toInt = cvk k v.toInt
    rw [pk_us, hvc]
  · show (upd (G 5) N (nI p) N).toInt = (p : Int)
    rw [pk_us, tI_nI (by omega)]
  · show (upd (G 6) N x2 N).toInt = x2.toInt
    rw [pk_us]
  · show (upd (G 4) N (nI k) N).toInt = (k : Int)
    rw [pk_us, tI_nI (by omega)]
  · show (upd (G 7) N t N).toInt = t.toInt
    rw [pk_us]
  · intro _
    show (upd (G 8) N v N).toInt = v.toInt
    rw [pk_us]
  · intro q _ z
    have z : (k : Int) = 0 := z
    omega
  · exact b6
  · exact b7
  · refine ⟨p, hp, rfl, hd.1, hd.2, ?_, ?_, ?_, ?_, ?_, ?_⟩
    · omega
    · show (0 : Int) ≤ (k : Int); omega
    · show (k : Int) ≤ 3; omega
    · show (k : Int) = 0 ↔ _; omega
    · intro z
      have z : (k : Int) = 1 := z
      exact hok (by omega)
    · intro z
      have z : (k : Int) = 0 := z
      omega
theorem c_book {post0 : Int32 → (Nat → Int32) → (Nat → Nat → Int32) → Prop} {px : String → (Nat → Int32) → (Nat → Nat → Int32) → Prop} {p k : Nat} {x2 t v fc vc sh : Int32} (hpl : RPl I F J G R pl) (hg : 0 < P → Gd R pl) (hb : RBk I F J G N P bk po) (hj : RJn I F J G l) (ht : Tm I J) (hc : Cl I F J G C) (hN : N < 40) (hp : p < P) (hd : po 0 p ≤ x2.toInt ∧ x2.toInt < po 1 p) (hk : 1 ≤ k ∧ k ≤ 3) (hfc : fc.toInt = cfk k t.toInt) (hvc : vc.toInt = cvk k v.toInt) (hok : k = 1 → okv t.toInt v.toInt)
    (h0 : ∀ I1 F1, (∀ (post : Int32 → (Nat → Int32) → (Nat → Nat → Int32) → Prop) (g' : Nat → Int32), (∀ J1 G1, Rl I1 F1 J1 G1 → J1 0 = 0 → post (nI N) J1 G1) → wX5_lay (va_up J 0 (0 : Int32)) (va_up G 9 g') (nI k) (nI p) x2 t v (fun I6 F7 => wX5_bookedOr I6 F7 sh post)) → post0 (nI N) I1 F1)
    (hx : ∀ F1, (∀ (post : Int32 → (Nat → Int32) → (Nat → Nat → Int32) → Prop) (g' : Nat → Int32), (∀ J1 G1, Rl I F1 J1 G1 → J1 0 = 4 → post 0 J1 G1) → wX5_lay (va_up J 0 (0 : Int32)) (va_up G 9 g') (nI k) (nI p) x2 t v (fun I6 F7 => wX5_bookedOr I6 F7 sh post)) → px "java/lang/UnsupportedOperationException" I F1) : wX4_book I F (nI p) x2 fc vc sh post0 px := by
  obtain ⟨b1, b2, b3, b4, b5, b6, b7, b8, b9, b10, b11⟩ := id hb
  have hP6 := b9.1
  have e0 : (0 : Int32).toInt = 0 := rfl
  let bk1 : Tb := xt bk N (bv p x2.toInt k t.toInt v.toInt)
  have hb1 := hb.book hN hp hd hk hfc hvc hok
  have hM : CM I (pF F N (nI p) x2 fc vc) R (N + 1) P pl bk1 po := ⟨hpl.1, hpl.2.2, hg (by omega), hb1.1, hb1.2.2.2.2.2.1, hb1.2.2.2.2.2.2.2.1, hb1.2.2.2.2.2.2.2.2.1⟩
  -- the reference's side
  have ref : ∀ (d c f : Int32), Prm bk1 po pl R p N (I 0) sh d c f → ∀ (g' : Nat → Int32) (post : Int32 → (Nat → Int32) → (Nat → Nat → Int32) → Prop), (l.length + nz d + nz c + nz f ≤ 90 → ∀ J1 G1, sI (va_up J 0 (0 : Int32)) J1 [3, 4, 5] → sF (pG (va_up G 9 g') N (nI k) (nI p) x2 t v) G1 [9, 10, 11, 12, 13, 14, 15] → J1 3 = nI (N + 1) → JM J1 G1 (pst f 6 1 (pst c 3 2 (pst d 0 1 l))) → post (nI N) (va_up J1 0 (0 : Int32)) G1) → (¬ l.length + nz d + nz c + nz f ≤ 90 → ∀ J1 G1, sI (va_up J 0 (0 : Int32)) J1 [5] → sF (pG (va_up G 9 g') N (nI k) (nI p) x2 t v) G1 [9, 13, 14, 15] → post 0 (va_up J1 0 (4 : Int32)) G1) → wX5_lay (va_up J 0 (0 : Int32)) (va_up G 9 g') (nI k) (nI p) x2 t v (fun I6 F7 => wX5_bookedOr I6 F7 sh post) := by
    intro d c f hf g' post k1 k2
    have hb0 : RBk I F (va_up J 0 (0 : Int32)) (va_up G 9 g') N P bk po := hb.s (a := []) (b := []) (c := [0]) (d := [9]) sI_r sF_r (sI_u sI_r (by decide)) (sF_u sF_r (by decide)) (by decide) (by decide) (by decide) (by decide)
    have hb2 := hb0.book hN hp hd hk hfc hvc hok
    refine r_lay b4 hN ?_
    unfold wX5_bookedOr
    have hRM : RM (va_up (va_up J 0 (0 : Int32)) 3 (nI (N + 1))) (pG (va_up G 9 g') N (nI k) (nI p) x2 t v) R (N + 1) P pl bk1 po := ⟨hpl.2.1, hpl.2.2, hb2.2.1, hb2.2.2.2.1, hb2.2.2.2.2.1, hb2.2.2.2.2.2.2.1, hb2.2.2.2.2.2.2.2.1, hb2.2.2.2.2.2.2.2.2.1⟩
    refine r_books (q := I 0) (l := l) hRM b4 hp (pk_us (f := G 5)) ht.1.1.symm ht.1.2 hj.2 hf (fun room J1 G1 s1 s2 j3 jm => ⟨fun _ => ?_, fun z => ?_⟩) (fun noroom J1 G1 s1 s2 => ⟨fun z => ?_, fun _ => ?_⟩)
    · unfold bX5_bookedOr_16
      intro I1 e1
      rw [e1]
      refine ⟨fun _ => k1 room J1 G1 s1 s2 j3 jm, fun z => ?_⟩
      exfalso
      apply z
      rw [tI_le, e0, tI_nI (by omega)]
      omega
    · exfalso
      apply z
      rw [tI_le, e0, tI_nI (by omega)]
      omega
    · exact absurd z (by decide)
    · unfold bX5_bookedOr_16
      intro I1 e1
      rw [e1]
      exact ⟨fun z => absurd z (by decide), fun _ => k2 noroom J1 G1 s1 s2⟩
  have hJC : JC I (pF F N (nI p) x2 fc vc) l := hj.1
  unfold wX4_book
  refine m_pencil b3 hN ?_
  refine m_postPremium hM b3 hp ht.1.2 hJC (fun d c f hf room I1 F1 s1 s2 hJC1 => ?_) (fun d c f hf noroom => hx _ (fun post g' hh => ?_))
  · unfold wX2_confirm
    intro v1 e1 I2 e2
    have i3 : I1 3 = nI N := by rw [s1 3 (by decide)]; exact b3
    have ev : v1 = nI (N + 1) := by rw [e1, i3, nI_1]
    have er : I2 3 - (1 : Int32) = nI N := by
      rw [e2, ev]
      show nI (N + 1) - (1 : Int32) = _
      rw [nI_pr (by omega) (by omega)]
      rfl
    rw [er]
    refine h0 I2 F1 (fun post g' hh => ref d c f hf g' post (fun _ J1 G1 u1 u2 j3 jm => hh _ _ ?_ rfl) (fun nr => absurd room nr))
    have hb0 : RBk I F (va_up J 0 (0 : Int32)) (va_up G 9 g') N P bk po := hb.s (a := []) (b := []) (c := [0]) (d := [9]) sI_r sF_r (sI_u sI_r (by decide)) (sF_u sF_r (by decide)) (by decide) (by decide) (by decide) (by decide)
    have hb2 := hb0.book hN hp hd hk hfc hvc hok
    have si : sI I I2 [3, 14] := by rw [e2]; exact sI_u (sI_w s1 (by decide)) (by decide)
    have sf : sF F F1 [14, 15, 16, 17, 20, 21] := sF_s (sF_w pF_s (by decide)) (sF_w s2 (by decide))
    have sj : sI J (va_up J1 0 (0 : Int32)) [0, 3, 4, 5] := sI_u (sI_s (a := [0, 3, 4, 5]) (sI_u sI_r (by decide)) (sI_w u1 (by decide))) (by decide)
    have sg : sF G G1 [4, 5, 6, 7, 8, 9, 10, 11, 12, 13, 14, 15] := sF_s (a := [4, 5, 6, 7, 8, 9, 10, 11, 12, 13, 14, 15]) (sF_u sF_r (by decide)) (sF_s (sF_w pG_s (by decide)) (sF_w u2 (by decide)))
    refine ⟨R, N + 1, P, C, pl, bk1, po, pst f 6 1 (pst c 3 2 (pst d 0 1 l)), hpl.s si sf sj sg (by decide) (by decide) (by decide) (by decide), hg, ?_, ⟨?_, ?_⟩, ht.s si sj (by decide) (by decide), hc.s si sf sj sg (by decide) (by decide) (by decide) (by decide)⟩
    · refine hb2.congr (fun j hjj => ?_) (fun j h1 h2 => s2 j (fun w => by simp at w; omega)) (fun j hjj => ?_) (fun j h1 h2 => u2 j (fun w => by simp at w; omega))
      · rcases hjj with z | z
        · subst z; rw [si 2 (by decide)]; rfl
        · subst z; rw [e2, ev]; rfl
      · rcases hjj with z | z
        · subst z; rw [sj 2 (by decide)]; rfl
        · subst z; exact j3
    · unfold JC at hJC1 ⊢
      rw [e2]
      exact hJC1
    · unfold JM at jm ⊢
      exact jm
  · refine ref d c f hf g' post (fun room => absurd room noroom) (fun _ J1 G1 u1 u2 => hh _ _ ?_ rfl)
    have sf : sF F (pF F N (nI p) x2 fc vc) [14, 15, 16, 17] := pF_s
    have sj : sI J (va_up J1 0 (4 : Int32)) [0, 5] := sI_u (sI_s (a := [0, 5]) (sI_u sI_r (by decide)) (sI_w u1 (by decide))) (by decide)
    have sg : sF G G1 [4, 5, 6, 7, 8, 9, 13, 14, 15] := sF_s (a := [4, 5, 6, 7, 8, 9, 13, 14, 15]) (sF_u sF_r (by decide)) (sF_s (sF_w pG_s (by decide)) (sF_w u2 (by decide)))
    refine ⟨R, N, P, C, pl, bk, po, l, hpl.s (a := []) sI_r sf sj sg (by decide) (by decide) (by decide) (by decide), hg, ?_, hj.s (a := []) sI_r sf sj sg (by decide) (by decide) (by decide) (by decide), ht.s (a := []) sI_r sj (by decide) (by decide), hc.s (a := []) sI_r sf sj sg (by decide) (by decide) (by decide) (by decide)⟩
    refine hb.below rfl rfl (sj 2 (by decide)) (sj 3 (by decide)) (fun j h1 h2 b hb => pF_lt h1 h2 hb) (fun j h1 h2 q hq => by rw [sf j (fun w => by simp at w; omega)]) (fun q hq => by rw [sf 13 (by decide)]) (fun j h1 h2 b hb => ?_) (fun j h1 h2 q hq => by rw [sg j (fun w => by simp at w; omega)])
    rw [u2 j (fun w => by simp at w; omega), pG_lt h1 h2 hb, va_up_ne _ _ (by omega)]
end Book
