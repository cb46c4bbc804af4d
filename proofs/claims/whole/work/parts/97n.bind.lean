/-! A POLICY IS BOUND -/
theorem ffr_gd {pl : Tb} {R : Nat} : ∀ (n p : Nat), ffr pl R n p = -1 ↔ ∀ q : Nat, p ≤ q → q < p + n → cn pl ((q / 10 : Nat) : Int) ((q % 10 : Nat) : Int) R = 1
  | 0, p => ⟨fun _ q h1 h2 => by omega, fun _ => rfl⟩
  | n + 1, p => by
    unfold ffr
    by_cases c : cn pl ((p / 10 : Nat) : Int) ((p % 10 : Nat) : Int) R = 1
    · rw [if_pos c, ffr_gd n (p + 1)]
      refine ⟨fun h q h1 h2 => ?_, fun h q h1 h2 => h q (by omega) (by omega)⟩
      rcases (show q = p ∨ p + 1 ≤ q by omega) with z | z
      · subst z; exact c
      · exact h q z (by omega)
    · rw [if_neg c]
      exact ⟨fun h => by omega, fun h => absurd (h p (Nat.le_refl _) (by omega)) c⟩
theorem ff_gd {pl : Tb} {R : Nat} : ff pl R = -1 ↔ Gd R pl := by
  unfold ff Gd
  rw [ffr_gd]
  constructor
  · intro h a z a1 a2 z1 z2
    have := h (10 * a.toNat + z.toNat) (by omega) (by omega)
    have q1 : (((10 * a.toNat + z.toNat) / 10 : Nat) : Int) = a := by omega
    have q2 : (((10 * a.toNat + z.toNat) % 10 : Nat) : Int) = z := by omega
    rw [q1, q2] at this
    exact this
  · intro h q h1 h2
    exact h _ _ (by omega) (by omega) (by omega) (by omega)
theorem ffr_sg {pl : Tb} {R : Nat} : ∀ (n p : Nat), ffr pl R n p = -1 ∨ 0 ≤ ffr pl R n p
  | 0, p => Or.inl rfl
  | n + 1, p => by
    unfold ffr
    split
    · exact ffr_sg n (p + 1)
    · exact Or.inr (by omega)
/-- what a binding leaves in the class -/
def BdC (F F1 : Nat → Nat → Int32) (N P : Nat) (x1 e x3 x4 x5 : Int32) : Prop := sF F F1 [10, 11, 12, 13, 14, 15, 16, 17] ∧ (∀ j, 10 ≤ j → j ≤ 12 → ∀ p, p < P → F1 j p = F j p) ∧ (∀ q, q < P * 4 → F1 13 q = F 13 q) ∧ (∀ j, 14 ≤ j → j ≤ 17 → ∀ b, b < N → F1 j b = F j b) ∧ (F1 10 P = x1 ∧ F1 11 P = e ∧ F1 12 P = nI N) ∧ (F1 13 (P * 4) = x3 ∧ F1 13 (P * 4 + 1) = x4 ∧ F1 13 (P * 4 + 2) = x5 ∧ F1 13 (P * 4 + 3) = 1) ∧ (F1 14 N = nI P ∧ F1 15 N = x1 ∧ F1 16 N = -1 ∧ F1 17 N = 0)
/-- what a binding leaves in the reference -/
def BdR (G G1 : Nat → Nat → Int32) (N P : Nat) (x1 e v : Int32) : Prop := sF G G1 [2, 3, 4, 5, 6, 7, 8] ∧ (∀ j, 2 ≤ j → j ≤ 3 → ∀ p, p < P → G1 j p = G j p) ∧ (∀ j, 4 ≤ j → j ≤ 8 → ∀ b, b < N → G1 j b = G j b) ∧ (G1 2 P = x1 ∧ G1 3 P = e) ∧ (G1 4 N = 0 ∧ G1 5 N = nI P ∧ G1 6 N = x1 ∧ G1 7 N = 0 ∧ G1 8 N = v)
abbrev bA (R : Nat) (pl : Tb) (P N : Nat) : Prop := ff pl R = -1 ∧ ¬ P = 6 ∧ ¬ N = 40
abbrev bB (x1 x2 x3 x4 x5 : Int32) : Prop := (0 ≤ x1.toInt ∧ x1.toInt ≤ 999) ∧ (1 ≤ x2.toInt ∧ x2.toInt ≤ 200) ∧ okv 0 x3.toInt ∧ okv 1 x4.toInt ∧ okv 2 x5.toInt
section Bind
variable {I J : Nat → Int32} {F F1 G G1 : Nat → Nat → Int32} {N P R C : Nat} {bk po pl : Tb} {l : Jl} {x1 x2 x3 x4 x5 e e3 v : Int32}
theorem m_isPlanGood {post : Int32 → Prop} (hC : PlC I F R pl) (hI : I 2 = nI P) (hP : P ≤ 6) (hg : 0 < P → Gd R pl) (h : post (nB (ff pl R = -1))) : wX4_isPlanGood I F post := by
  have em : (-1 : Int32).toInt = -1 := rfl
  unfold wX4_isPlanGood
  refine m_isPlanClosed hI hP ⟨fun q => ?_, fun q => m_firstFault hC (fun r hr => ?_)⟩
  · rw [nB_z, Classical.not_not] at q
    exact p_at h (nB_t (ff_gd.mpr (hg q)))
  · rw [tI_eq, hr, em]
    exact ⟨fun c => p_at h (nB_f c), fun c => p_at h (nB_t c)⟩
theorem m_pencilBind {post : (Nat → Int32) → (Nat → Nat → Int32) → Prop} (hI2 : I 2 = nI P) (hI3 : I 3 = nI N) (hP : P < 6) (hN : N < 40) (h1 : 0 ≤ x1.toInt ∧ x1.toInt ≤ 999) (h2 : 1 ≤ x2.toInt ∧ x2.toInt ≤ 200) (h : ∀ F1 e, e.toInt = min (x1.toInt + x2.toInt) 1000 → BdC F F1 N P x1 e x3 x4 x5 → post I F1) : wX2_pencilBind I F x1 x2 x3 x4 x5 post := by
  have eK : (1000 : Int32).toInt = 1000 := rfl
  have hs : (x1 + x2).toInt = x1.toInt + x2.toInt := tI_add (by omega) (by omega)
  have hin : vp_in (nI P) 6 := vp_in_nI (by omega) (by omega)
  have aj : ∀ j, nI P * (4 : Int32) + nI j = nI (P * 4 + j) := fun j => by show nI P * nI 4 + nI j = _; rw [pk_mul, nI_add]
  have a0 : nI P * (4 : Int32) + (0 : Int32) = nI (P * 4) := aj 0
  have a1 : nI P * (4 : Int32) + (1 : Int32) = nI (P * 4 + 1) := aj 1
  have a2 : nI P * (4 : Int32) + (2 : Int32) = nI (P * 4 + 2) := aj 2
  have a3 : nI P * (4 : Int32) + (3 : Int32) = nI (P * 4 + 3) := aj 3
  unfold wX2_pencilBind
  rw [hI2, hI3, nI_clamp (by omega)]
  refine ⟨hin, fun F1 e1 v3 e3 => ⟨hin, fun F4 e4 v6 e6 => ⟨hin, fun F7 e7 v9 e9 => ?_⟩⟩⟩
  rw [e9, a0, a1, a2, a3, nI_clamp (by omega), nI_clamp (by omega), nI_clamp (by omega), nI_clamp (by omega)]
  refine ⟨vp_in_nI (by omega) (by omega), fun F10 e10 => ⟨vp_in_nI (by omega) (by omega), fun F12 e12 => ⟨vp_in_nI (by omega) (by omega), fun F14 e14 => ⟨vp_in_nI (by omega) (by omega), fun F16 e16 => ?_⟩⟩⟩⟩
  have hv : v3.toInt = min (x1.toInt + x2.toInt) 1000 := by
    rw [e3]
    by_cases c : (1000 : Int32) < x1 + x2
    · rw [if_pos c, eK]; rw [tI_lt, eK, hs] at c; omega
    · rw [if_neg c, hs]; rw [tI_lt, eK, hs] at c; omega
  refine m_pencil hI3 hN (h _ v3 hv ?_)
  clear e3
  subst e6
  subst e1
  subst e4
  subst e7
  subst e10
  subst e12
  subst e14
  subst e16
  refine ⟨sF_u (sF_u (sF_u (sF_u (sF_u (sF_u (sF_u (sF_u (sF_u (sF_u (sF_u sF_r (by decide)) (by decide)) (by decide)) (by decide)) (by decide)) (by decide)) (by decide)) (by decide)) (by decide)) (by decide)) (by decide), ?_, ?_, ?_, ⟨?_, ?_, ?_⟩, ⟨?_, ?_, ?_, ?_⟩, ⟨?_, ?_, ?_, ?_⟩⟩
  · intro j q1 q2 p hp
    rcases (show j = 10 ∨ j = 11 ∨ j = 12 by omega) with z | z | z
    · subst z; exact pk_un (f := F 10) (by omega)
    · subst z; exact pk_un (f := F 11) (by omega)
    · subst z; exact pk_un (f := F 12) (by omega)
  · intro q hq
    show upd (upd (upd (upd (F 13) (P * 4) x3) (P * 4 + 1) x4) (P * 4 + 2) x5) (P * 4 + 3) 1 q = F 13 q
    rw [pk_un (by omega), pk_un (by omega), pk_un (by omega), pk_un (by omega)]
  · intro j q1 q2 b hb
    rw [pF_lt q1 q2 hb, va_up_ne _ _ (by omega), va_up_ne _ _ (by omega), va_up_ne _ _ (by omega), va_up_ne _ _ (by omega), va_up_ne _ _ (by omega), va_up_ne _ _ (by omega), va_up_ne _ _ (by omega)]
  · exact pk_us (f := F 10)
  · exact pk_us (f := F 11)
  · exact pk_us (f := F 12)
  · show upd (upd (upd (upd (F 13) (P * 4) x3) (P * 4 + 1) x4) (P * 4 + 2) x5) (P * 4 + 3) 1 (P * 4) = x3
    rw [pk_un (by omega), pk_un (by omega), pk_un (by omega), pk_us]
  · show upd (upd (upd (upd (F 13) (P * 4) x3) (P * 4 + 1) x4) (P * 4 + 2) x5) (P * 4 + 3) 1 (P * 4 + 1) = x4
    rw [pk_un (by omega), pk_un (by omega), pk_us]
  · show upd (upd (upd (upd (F 13) (P * 4) x3) (P * 4 + 1) x4) (P * 4 + 2) x5) (P * 4 + 3) 1 (P * 4 + 2) = x5
    rw [pk_un (by omega), pk_us]
  · show upd (upd (upd (upd (F 13) (P * 4) x3) (P * 4 + 1) x4) (P * 4 + 2) x5) (P * 4 + 3) 1 (P * 4 + 3) = 1
    rw [pk_us]
  · exact pk_us (f := F 14)
  · exact pk_us (f := F 15)
  · exact pk_us (f := F 16)
  · exact pk_us (f := F 17)
abbrev pv (a e n c d f : Int) : Nat → Int := fun j => if j = 0 then a else if j = 1 then e else if j = 2 then n else if j = 3 then c else if j = 4 then d else f
theorem RBk.bind {I1 J1 : Nat → Int32} (hb : RBk I F J G N P bk po) (hN : N < 40) (hP : P < 6) (hB : bB x1 x2 x3 x4 x5) (he : e.toInt = min (x1.toInt + x2.toInt) 1000) (he3 : e3.toInt = min 999 (x1.toInt + x2.toInt - 1)) (hv : v.toInt = 1000000 * x3.toInt + 1000 * x4.toInt + x5.toInt) (hC : BdC F F1 N P x1 e x3 x4 x5) (hM : BdR G G1 N P x1 e3 v) (i2 : I1 2 = nI (P + 1)) (i3 : I1 3 = nI (N + 1)) (j2 : J1 2 = nI (P + 1)) (j3 : J1 3 = nI (N + 1)) : RBk I1 F1 J1 G1 (N + 1) (P + 1) (xt bk N (bv P x1.toInt 0 0 0)) (xt po P (pv x1.toInt e.toInt N x3.toInt x4.toInt x5.toInt)) := by
  obtain ⟨b1, b2, b3, b4, b5, b6, b7, b8, b9, b10, b11⟩ := id hb
  obtain ⟨c1, c2, c3, c4, ⟨c5, c6, c7⟩, ⟨d0, d1, d2, d3⟩, ⟨f0, f1, f2, f3⟩⟩ := hC
  obtain ⟨m1, m2, m3, ⟨m4, m5⟩, ⟨n0, n1, n2, n3, n4⟩⟩ := hM
  obtain ⟨k1, k2, k3, k4, k5⟩ := hB
  have e1 : (1 : Int32).toInt = 1 := rfl
  have e0 : (0 : Int32).toInt = 0 := rfl
  refine RBk.more hb hN (Nat.le_succ P) (fun j p hp => xt_lt hp) i2 i3 j2 j3 c4 m3 ?_ ?_ ?_ ?_ ?_ ?_ ?_ ?_ ?_ ?_ ?_ ?_ ?_ ?_
  · show (F1 14 N).toInt = (P : Int)
    rw [f0, tI_nI (by omega)]
  · show (F1 15 N).toInt = x1.toInt
    rw [f1]
  · exact (congrArg Int32.toInt f2).trans rfl
  · exact (congrArg Int32.toInt f3).trans rfl
  · show (G1 5 N).toInt = (P : Int)
    rw [n1, tI_nI (by omega)]
  · show (G1 6 N).toInt = x1.toInt
    rw [n2]
  · exact (congrArg Int32.toInt n0).trans rfl
  · exact (congrArg Int32.toInt n3).trans rfl
  · intro z
    have z : (0 : Int) = 1 := z
    omega
  · intro p z _
    have z : (P : Int) = p := z
    have : p = P := by omega
    rw [this, n4, xt_at, xt_at, xt_at]
    exact hv
  · intro p hp
    rcases (show p < P ∨ p = P by omega) with z | z
    · obtain ⟨v0, v1, v2, v3, v4⟩ := b6 p z
      rw [xt_lt z, xt_lt z, xt_lt z, c2 10 (by omega) (by omega) p z, c2 11 (by omega) (by omega) p z, c2 12 (by omega) (by omega) p z]
      refine ⟨v0, v1, v2, fun f hf => ?_, ?_⟩
      · rw [xt_lt z, c3 _ (by omega)]; exact v3 f hf
      · rw [c3 _ (by omega)]; exact v4
    · rw [z, xt_at, xt_at, xt_at]
      refine ⟨congrArg Int32.toInt c5, congrArg Int32.toInt c6, (congrArg Int32.toInt c7).trans (tI_nI (by omega)), fun f hf => ?_, congrArg Int32.toInt d3⟩
      rw [xt_at]
      rcases (show f = 0 ∨ f = 1 ∨ f = 2 by omega) with z | z | z
      · subst z; exact congrArg Int32.toInt d0
      · subst z; exact congrArg Int32.toInt d1
      · subst z; exact congrArg Int32.toInt d2
  · intro p hp
    rcases (show p < P ∨ p = P by omega) with z | z
    · rw [xt_lt z, xt_lt z, m2 2 (by omega) (by omega) p z, m2 3 (by omega) (by omega) p z]
      exact b7 p z
    · rw [z, xt_at, xt_at, m4, m5]
      refine ⟨rfl, ?_⟩
      show e3.toInt = e.toInt - 1
      omega
  · refine ⟨P, by omega, rfl, ?_, ?_, ?_, ?_, ?_, ?_, ?_, ?_⟩
    · rw [xt_at]; exact Int.le_refl _
    · rw [xt_at]; show x1.toInt < e.toInt; omega
    · rw [xt_at]; show (N : Int) ≤ N; omega
    · show (0 : Int) ≤ 0; omega
    · show (0 : Int) ≤ 3; omega
    · rw [xt_at]; exact ⟨fun _ => rfl, fun _ => rfl⟩
    · intro z
      have z : (0 : Int) = 1 := z
      omega
    · exact fun _ => (xt_at (t := po) (N := P) (j := 0) (v := pv x1.toInt e.toInt N x3.toInt x4.toInt x5.toInt)).symm
  · refine ⟨by omega, fun p hp => ?_⟩
    rcases (show p < P ∨ p = P by omega) with z | z
    · obtain ⟨o1, o2, o3, o4, ⟨b, hb, q1, q2, q3, q4⟩, o6, o7, o8⟩ := b9.2 p z
      rw [xt_lt z, xt_lt z, xt_lt z, xt_lt z, xt_lt z, xt_lt z]
      exact ⟨o1, o2, o3, o4, ⟨b, by omega, q1, by rw [xt_lt hb]; exact q2, by rw [xt_lt hb]; exact q3, by rw [xt_lt hb]; exact q4⟩, o6, o7, o8⟩
    · rw [z, xt_at (t := po), xt_at (t := po), xt_at (t := po), xt_at (t := po), xt_at (t := po), xt_at (t := po)]
      refine ⟨k1.1, ?_, ?_, ?_, ⟨N, by omega, rfl, xt_at (t := bk) (j := 0) (v := bv P x1.toInt 0 0 0), xt_at (t := bk) (j := 2) (v := bv P x1.toInt 0 0 0), xt_at (t := bk) (j := 1) (v := bv P x1.toInt 0 0 0)⟩, k3, k4, k5⟩
      · show x1.toInt < e.toInt; omega
      · show e.toInt ≤ 1000; omega
      · show e.toInt ≤ x1.toInt + 200; omega
/-- the reference's way to bind -/
theorem r_bind {post : Int32 → (Nat → Int32) → (Nat → Nat → Int32) → Prop} (hp : PlM J G R pl) (hJ2 : J 2 = nI P) (hJ3 : J 3 = nI N) (hP : P ≤ 6) (hN : N ≤ 40) (g1 : ¬ bA R pl P N → post 0 (va_up J 0 (1 : Int32)) G) (g2 : bA R pl P N → ¬ bB x1 x2 x3 x4 x5 → post 0 (va_up J 0 (2 : Int32)) G)
    (g0 : bA R pl P N → bB x1 x2 x3 x4 x5 → ∀ (G1 : Nat → Nat → Int32) (e v : Int32), e.toInt = min 999 (x1.toInt + x2.toInt - 1) → v.toInt = 1000000 * x3.toInt + 1000 * x4.toInt + x5.toInt → BdR G G1 N P x1 e v → wX5_books (va_up (va_up J 0 (0 : Int32)) 2 (nI (P + 1))) G1 (0 : Int32) (fun r15 I16 F17 => (((0 : Int32) ≤ r15 → post ((I16 2) - (1 : Int32)) I16 F17) ∧ (¬ (0 : Int32) ≤ r15 → ∀ v19 : Int32, v19 = ((I16 2) - (1 : Int32)) → ∀ I20 : Nat → Int32, I20 = va_up I16 2 v19 → ∀ I21 : Nat → Int32, I21 = va_up I20 0 (3 : Int32) → post (0 : Int32) I21 F17)))) : wX5_bind J G x1 x2 x3 x4 x5 post := by
  have e0 : (0 : Int32).toInt = 0 := rfl
  have e1 : (1 : Int32).toInt = 1 := rfl
  have e2 : (2 : Int32).toInt = 2 := rfl
  have e200 : (200 : Int32).toInt = 200 := rfl
  have e999 : (999 : Int32).toInt = 999 := rfl
  have eM : (1000000 : Int32).toInt = 1000000 := rfl
  have eK : (1000 : Int32).toInt = 1000 := rfl
  have e6 : J 2 = (6 : Int32) ↔ P = 6 := n_eq (c := 6) hJ2 (by omega) (by omega)
  have e40 : J 3 = (40 : Int32) ↔ N = 40 := n_eq (c := 40) hJ3 (by omega) (by omega)
  have two : ∀ x6 y0 : Int32, (¬ x6 = 0 ↔ ¬ bB x1 x2 x3 x4 x5) → (¬ y0 = 0 ↔ ¬ bA R pl P N) → bX5_bind_86 post J G x1 x2 x3 x4 x5 x6 y0 := by
    intro x6 y0 hB hA
    unfold bX5_bind_86
    refine r_fails2 (c := False) hA hB (z_iff id) (fun q => ⟨fun e => absurd e (by decide), fun _ => g1 q⟩) (fun q q2 => ⟨fun e => absurd e (by decide), fun _ => g2 (Classical.not_not.mp q) q2⟩) (fun _ _ q => q.elim) (fun q q2 _ => ⟨fun _ => ?_, fun e => absurd rfl e⟩)
    have q := Classical.not_not.mp q
    have q2 := Classical.not_not.mp q2
    obtain ⟨k1, k2, k3, k4, k5⟩ := id q2
    obtain ⟨a1, a2, a3⟩ := id q
    have j2 : (va_up J 0 (0 : Int32)) 2 = nI P := hJ2
    have hs : (x1 + x2).toInt = x1.toInt + x2.toInt := tI_add (by omega) (by omega)
    have hs1 : (x1 + x2 - (1 : Int32)).toInt = x1.toInt + x2.toInt - 1 := by rw [tI_sub (by omega) (by omega), hs, e1]
    have w1 : ((1000000 : Int32) * x3).toInt = 1000000 * x3.toInt := by rw [tI_mul (by rw [eM]; omega) (by rw [eM]; omega), eM]
    have w2 : ((1000 : Int32) * x4).toInt = 1000 * x4.toInt := by rw [tI_mul (by rw [eK]; omega) (by rw [eK]; omega), eK]
    have w3 : ((1000000 : Int32) * x3 + (1000 : Int32) * x4).toInt = 1000000 * x3.toInt + 1000 * x4.toInt := by rw [tI_add (by omega) (by omega), w1, w2]
    have w4 : ((1000000 : Int32) * x3 + (1000 : Int32) * x4 + x5).toInt = 1000000 * x3.toInt + 1000 * x4.toInt + x5.toInt := by rw [tI_add (by omega) (by omega), w3]
    rw [j2, nI_clamp (by omega)]
    refine ⟨vp_in_nI (by omega) (by omega), fun F5 e5 => m_least (fun r7 h7 => ⟨vp_in_nI (by omega) (by omega), fun F8 e8 => ?_⟩)⟩
    rw [hs1, e999] at h7
    refine r_lay hJ3 (by omega) (fun v13 e13 I14 e14 => ?_)
    have ev : v13 = nI (P + 1) := by rw [e13, j2, nI_1]
    rw [e14, ev]
    refine g0 q q2 _ r7 _ h7 w4 ?_
    subst e5
    subst e8
    refine ⟨sF_u (sF_u (sF_u (sF_u (sF_u (sF_u (sF_u sF_r (by decide)) (by decide)) (by decide)) (by decide)) (by decide)) (by decide)) (by decide), ?_, ?_, ⟨?_, ?_⟩, ⟨?_, ?_, ?_, ?_, ?_⟩⟩
    · intro j q1 q2 p hp
      rcases (show j = 2 ∨ j = 3 by omega) with z | z
      · subst z; exact pk_un (f := G 2) (by omega)
      · subst z; exact pk_un (f := G 3) (by omega)
    · intro j q1 q2 b hb
      rw [pG_lt q1 q2 hb, va_up_ne _ _ (by omega), va_up_ne _ _ (by omega)]
    · exact pk_us (f := G 2)
    · exact pk_us (f := G 3)
    · exact pk_us (f := G 4)
    · exact pk_us (f := G 5)
    · exact pk_us (f := G 6)
    · exact pk_us (f := G 7)
    · exact pk_us (f := G 8)
  have one : ∀ y0 : Int32, (¬ y0 = 0 ↔ ¬ bB x1 x2 x3 x4 x5) → bX5_bind_53 post J G x1 x2 x3 x4 x5 y0 := by
    intro y0 hB
    unfold bX5_bind_53
    refine r_flaw hp (fun r hr => ?_)
    have sg := ffr_sg (pl := pl) (R := R) 500 0
    rw [tI_le, e0, hr, e6, e40]
    refine ⟨fun c => two _ _ hB (o_iff (fun z => ?_)), fun c => ⟨fun c2 => two _ _ hB (o_iff (fun z => z.2.1 c2)), fun c2 => ⟨fun c3 => two _ _ hB (z_iff (fun z => z ⟨?_, c2, c3⟩)), fun c3 => two _ _ hB (o_iff (fun z => z.2.2 c3))⟩⟩⟩
    · have := z.1; omega
    · exact sg.resolve_right c
  unfold wX5_bind
  refine m_outside ⟨fun q1 => one _ (o_iff ?_), fun q1 => m_outside ⟨fun q2 => one _ (o_iff ?_), fun q2 => m_isValue (by decide) (by decide) ⟨fun q3 => one _ (o_iff ?_), fun q3 => m_isValue (by decide) (by decide) ⟨fun q4 => one _ (o_iff ?_), fun q4 => m_isValue (by decide) (by decide) ⟨fun q5 => one _ (z_iff ?_), fun q5 => one _ (o_iff ?_)⟩⟩⟩⟩⟩
  · rw [nB_z, Classical.not_not, e0, e999] at q1
    exact fun z => q1 z.1
  · rw [nB_z, Classical.not_not, e1, e200] at q2
    exact fun z => q2 z.2.1
  · rw [nB_z, e0] at q3
    exact fun z => q3 z.2.2.1
  · rw [nB_z, e1] at q4
    exact fun z => q4 z.2.2.2.1
  · rw [nB_z, Classical.not_not, e0, e999] at q1
    rw [nB_z, Classical.not_not, e1, e200] at q2
    rw [nB_z, Classical.not_not, e0] at q3
    rw [nB_z, Classical.not_not, e1] at q4
    rw [nB_z, Classical.not_not, e2] at q5
    exact fun z => z ⟨q1, q2, q3, q4, q5⟩
  · rw [nB_z, e2] at q5
    exact fun z => q5 z.2.2.2.2
end Bind
