/-! SUMS OF DAYS, THE REFERENCE's SIDE -/
/-- days that count before a day -/
def dys (po : Tb) (p : Nat) (x : Int) : Nat := (min x (po 1 p) - po 0 p).toNat
/-- the premium up to a day -/
def pmA (bk po pl : Tb) (R p n : Nat) (x : Int) : Int := sm (chA bk po pl R p n) (po 0 p) (dys po p x) / 1000
section RefS
variable {J : Nat → Int32} {G : Nat → Nat → Int32} {N P R : Nat} {bk po pl : Tb}
theorem dys_le {p : Nat} {x : Int} (hO : WfO N P bk po) (hp : p < P) : dys po p x ≤ 200 := by
  obtain ⟨o1, o2, o3, o4, -⟩ := hO.2 p hp
  unfold dys; omega
theorem sm_le {p n k : Nat} (hP : WfP R pl) (hB : WfB N P bk po) (hO : WfO N P bk po) (hp : p < P) (hn : n ≤ N) (hk : k ≤ 200) : 0 ≤ sm (chA bk po pl R p n) (po 0 p) k ∧ sm (chA bk po pl R p n) (po 0 p) k ≤ 19780200 := by
  have h := sm_rng (c := chA bk po pl R p n) (a := po 0 p) (M := 98901) (fun d => chA_rng (d := d) hP hB hO hp hn) k
  constructor
  · exact h.1
  · have : (k : Int) * 98901 ≤ 200 * 98901 := Int.mul_le_mul_of_nonneg_right (by omega) (by omega)
    omega
theorem r_charges_l {post : Int32 → (Nat → Int32) → (Nat → Nat → Int32) → Prop} {p : Nat} {x2 x3 : Int32} (hR : RM J G R N P pl bk po) (hp : p < P)
    (h : ∀ (r : Int32) (g : Nat → Int32), r.toInt = pmA bk po pl R p (cnt N x3.toInt) x2.toInt → post r J (va_up G 9 g)) :
    ∀ (n k : Nat) (g : Nat → Int32) (x4 x5 : Int32), k ≤ dys po p x2.toInt → dys po p x2.toInt < n + k → x4.toInt = sm (chA bk po pl R p (cnt N x3.toInt)) (po 0 p) k → x5.toInt = po 0 p + k → bX5_charges_11 post n J (va_up G 9 g) (nI p) x2 x3 x4 x5 := by
  obtain ⟨h1, h2, h3, h4, h5, h6, h7, h8⟩ := id hR
  obtain ⟨o1, o2, o3, o4, o5, o6, o7, o8⟩ := h8.2 p hp
  have hP6 := h8.1
  have hD := dys_le (x := x2.toInt) h8 hp
  have eK : (1000 : Int32).toInt = 1000 := rfl
  have e1 : (1 : Int32).toInt = 1 := rfl
  intro n
  induction n with
  | zero => intro k g x4 x5 a b; omega
  | succ n ih =>
    intro k g x4 x5 hk hn hx4 hx5
    unfold bX5_charges_11
    have hl := (h6 p hp).2
    have w3 : (va_up G 9 g) 3 p = G 3 p := rfl
    have hs := sm_le (k := k) h2 h7 h8 hp (cnt_le N x3.toInt) (by omega)
    have fin : k = dys po p x2.toInt → post (x4 / (1000 : Int32)) J (va_up G 9 g) := by
      intro e
      refine h _ g ?_
      unfold pmA
      rw [tI_div (by rw [hx4]; omega), eK, hx4, Int.tdiv_eq_ediv_of_nonneg hs.1, e]
    have hdy : (dys po p x2.toInt : Int) = max 0 (min x2.toInt (po 1 p) - po 0 p) := by unfold dys; omega
    refine ⟨vp_in_nI (by omega) (by omega), ?_⟩
    rw [nI_clamp (by omega), w3, tI_lt, hl, hx5, tI_le, hx5]
    refine ⟨fun c => fin (by omega), fun c => ⟨fun c2 => fin (by omega), fun c2 => ?_⟩⟩
    have hR2 : RM J (va_up G 9 g) R N P pl bk po := hR
    refine r_charge hR2 hp (fun r g2 hg2 hr v7 e7 v8 e8 => ?_)
    have hc := chA_rng (d := x5.toInt) h2 h7 h8 hp (cnt_le N x3.toInt) (n := cnt N x3.toInt)
    rw [up_same]
    refine ih (k + 1) g2 v7 v8 (by omega) (by omega) ?_ ?_
    · rw [e7, tI_add (by rw [hx4, hr]; omega) (by rw [hx4, hr]; omega), hx4, hr, hx5]
      rfl
    · rw [e8, tI_add (by rw [hx5, e1]; omega) (by rw [hx5, e1]; omega), hx5, e1]
      omega
theorem r_charges {post : Int32 → (Nat → Int32) → (Nat → Nat → Int32) → Prop} {p : Nat} {x2 x3 : Int32} (hR : RM J G R N P pl bk po) (hp : p < P)
    (h : ∀ (r : Int32) (g : Nat → Int32), r.toInt = pmA bk po pl R p (cnt N x3.toInt) x2.toInt → post r J (va_up G 9 g)) : wX5_charges J G (nI p) x2 x3 post := by
  have hP6 := hR.2.2.2.2.2.2.2.1
  unfold wX5_charges
  refine ⟨vp_in_nI (by omega) (by omega), fun v10 e10 => ⟨dys po p x2.toInt + 1, ?_⟩⟩
  rw [nI_clamp (by omega)] at e10
  have := r_charges_l hR hp h (dys po p x2.toInt + 1) 0 (G 9) (0 : Int32) v10 (by omega) (by omega) rfl (by rw [e10, (hR.2.2.2.2.2.1 p hp).1]; simp)
  rw [up_id] at this
  exact this
theorem r_inTerm {post : Int32 → Prop} {p : Nat} {x2 : Int32} (hM : PoM G P po) (hp : p < P) (hP : P ≤ 6) (h : post (nB (po 0 p ≤ x2.toInt ∧ x2.toInt < po 1 p))) : wX5_inTerm J G (nI p) x2 post := by
  unfold wX5_inTerm
  obtain ⟨v1, v2⟩ := hM p hp
  have hin : vp_in (nI p) 6 := vp_in_nI (by omega) (by omega)
  rw [nI_clamp (by omega), tI_lt, v1, tI_lt, v2]
  exact ⟨hin, fun c => p_at h (nB_f (by omega)), fun c => ⟨hin, fun c2 => p_at h (nB_f (by omega)), fun c2 => p_at h (nB_t (by omega))⟩⟩
/-- in force on a day -/
abbrev ifA (bk po : Tb) (p n : Nat) (d : Int) : Prop := (po 0 p ≤ d ∧ d < po 1 p) ∧ rnA bk po p d n
theorem r_inForce {post : Int32 → (Nat → Int32) → (Nat → Nat → Int32) → Prop} {p : Nat} {x2 x3 : Int32} (hR : RM J G R N P pl bk po) (hp : p < P) (h : ∀ g : Nat → Int32, post (nB (ifA bk po p (cnt N x3.toInt) x2.toInt)) J (va_up G 9 g)) : wX5_inForce J G (nI p) x2 x3 post := by
  obtain ⟨h1, h2, h3, h4, h5, h6, h7, h8⟩ := id hR
  have hP6 := h8.1
  unfold wX5_inForce
  refine r_inTerm h6 hp hP6 ⟨fun c => ?_, fun c => ?_⟩
  · rw [nB_z, Classical.not_not] at c
    refine r_look h3 h4 (by omega) (cnt_eq N x3.toInt) (fun g hg => ?_)
    have q3 : BkM (va_up G 9 g) N bk := h3
    refine r_runs (p := p) (d := x2.toInt) (n := cnt N x3.toInt) (po := po) h7 q3 (cnt_le N x3.toInt) (hg 0 (by omega)) (hg 3 (by omega)) ⟨nB_nar _, ?_⟩
    have := h g
    rw [nB_iff (q2 := rnA bk po p x2.toInt (cnt N x3.toInt)) ⟨fun q => q.2, fun q => ⟨c, q⟩⟩] at this
    exact this
  · rw [nB_z] at c
    have := h (G 9)
    rw [up_id, nB_f (fun q => c q.1)] at this
    exact this
theorem r_bound {post : Int32 → (Nat → Int32) → (Nat → Nat → Int32) → Prop} {p : Nat} {x2 : Int32} (hR : RM J G R N P pl bk po) (hp : p < P) (h : ∀ g : Nat → Int32, post (nB ((ls bk p 999 0 (cnt N x2.toInt)).isSome = true)) J (va_up G 9 g)) : wX5_bound J G (nI p) x2 post := by
  obtain ⟨h1, h2, h3, h4, h5, h6, h7, h8⟩ := id hR
  have hP6 := h8.1
  have hN := h3.1
  unfold wX5_bound
  have c0 : (0 : Int32).toNatClampNeg = 0 := by decide
  have i0 : vp_in (0 : Int32) 4 := vp_in_nI (n := 0) (by omega) (by omega)
  refine r_look h3 h4 (by omega) (cnt_eq N x2.toInt) (fun g hg => ⟨i0, ?_⟩)
  have hg0 : (va_up G 9 g) 9 0 = enc (ls bk p (999 : Int32).toInt 0 (cnt N x2.toInt)) := hg 0 (by omega)
  have e9 : (999 : Int32).toInt = 999 := rfl
  rw [e9] at hg0
  have hc := cnt_le N x2.toInt
  rw [c0, hg0, enc_neg (n := cnt N x2.toInt) (fun j hj => ls_lt hj) (by omega)]
  have hh := h g
  refine ⟨fun c => ?_, fun c => ?_⟩
  · rw [nB_f (by rw [c]; simp)] at hh; exact hh
  · rw [nB_t (by cases hq : ls bk p 999 0 (cnt N x2.toInt) with | none => exact absurd hq c | some j => rfl)] at hh; exact hh
end RefS
/-- a policy that isn't bound yet has no bookings -/
theorem ls_before {bk po : Tb} {N P p f : Nat} {d : Int} (hB : WfB N P bk po) : ∀ {n : Nat}, n ≤ N → (n : Int) ≤ po 2 p → ls bk p d f n = none
  | 0, _, _ => rfl
  | n + 1, hn, h => by
    unfold ls
    rw [if_neg, ls_before hB (by omega) (by omega)]
    intro c
    obtain ⟨p', hp', g1, g2, g3, g4, -⟩ := hB n (by omega)
    have : p' = p := by have := c.1; omega
    subst this
    omega
/-- behind its binding, on a day of its term or later, it has its first three facts -/
theorem ls_after {bk po : Tb} {N P p f : Nat} {d : Int} (hO : WfO N P bk po) (hp : p < P) (hf : f < 3) (hd : po 0 p ≤ d) : ∀ {n : Nat}, n ≤ N → po 2 p < (n : Int) → (ls bk p d f n).isSome = true
  | 0, _, h => by obtain ⟨-, -, -, -, ⟨b, hb, e, -⟩, -⟩ := hO.2 p hp; omega
  | n + 1, hn, h => by
    unfold ls
    split
    · rfl
    · rename_i c
      rcases (show po 2 p < (n : Int) ∨ po 2 p = (n : Int) by omega) with h1 | h1
      · exact ls_after hO hp hf hd (by omega) h1
      · cases hq : ls bk p d f n with
        | some j => rfl
        | none =>
          exfalso
          apply c
          obtain ⟨-, -, -, -, ⟨b, hb, e1, e2, e3, e4⟩, -⟩ := hO.2 p hp
          have : b = n := by omega
          subst this
          refine ⟨e2, by omega, ?_, by rw [hq]; rfl⟩
          unfold tells
          rw [if_neg (by omega)]
          exact Or.inl e3
