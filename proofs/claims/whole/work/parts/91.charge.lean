/-! VALUES, CHARGES -/
/-- the value of fact f (3: in force or not) of policy p by the booking that counts -/
def valA (bk po : Tb) (p f : Nat) (o : Option Nat) : Int := match o with
  | none => if f = 3 then 1 else 0
  | some j => if bk 2 j = 0 then po (3 + f) p else if bk 2 j = 1 then bk 4 j else if bk 2 j = 3 then 1 else 0
abbrev vA (bk po : Tb) (p : Nat) (d : Int) (n f : Nat) : Int := valA bk po p f (ls bk p d f n)
abbrev rnA (bk po : Tb) (p : Nat) (d : Int) (n : Nat) : Prop := (ls bk p d 0 n).isSome = true ∧ vA bk po p d n 3 = 1
/-- the charge of a day -/
def chA (bk po pl : Tb) (R p n : Nat) (d : Int) : Int := if rnA bk po p d n then vA bk po p d n 2 * rtL pl (vA bk po p d n 0) (vA bk po p d n 1) R else 0
def WfP (R : Nat) (pl : Tb) : Prop := ∀ r, r < R → 0 ≤ pl r 0 ∧ pl r 0 ≤ pl r 1 ∧ pl r 1 ≤ 49 ∧ 0 ≤ pl r 2 ∧ pl r 2 ≤ pl r 3 ∧ pl r 3 ≤ 9 ∧ 1 ≤ pl r 4 ∧ pl r 4 ≤ 99
def WfB (N P : Nat) (bk po : Tb) : Prop := ∀ b, b < N → ∃ p, p < P ∧ bk 0 b = p ∧ po 0 p ≤ bk 1 b ∧ bk 1 b < po 1 p ∧ po 2 p ≤ b ∧ 0 ≤ bk 2 b ∧ bk 2 b ≤ 3 ∧ (bk 2 b = 0 ↔ po 2 p = b) ∧ (bk 2 b = 1 → okv (bk 3 b) (bk 4 b)) ∧ (bk 2 b = 0 → bk 1 b = po 0 p)
def WfO (N P : Nat) (bk po : Tb) : Prop := P ≤ 6 ∧ ∀ p, p < P → 0 ≤ po 0 p ∧ po 0 p < po 1 p ∧ po 1 p ≤ 1000 ∧ po 1 p ≤ po 0 p + 200 ∧ (∃ b, b < N ∧ po 2 p = b ∧ bk 0 b = p ∧ bk 2 b = 0 ∧ bk 1 b = po 0 p) ∧ okv 0 (po 3 p) ∧ okv 1 (po 4 p) ∧ okv 2 (po 5 p)
/-- what the reference's bookings tell, its policies' terms -/
def VlM (G : Nat → Nat → Int32) (N : Nat) (bk po : Tb) : Prop := ∀ b, b < N → (bk 2 b = 1 → (G 8 b).toInt = bk 4 b) ∧ ∀ p : Nat, bk 0 b = p → bk 2 b = 0 → (G 8 b).toInt = 1000000 * po 3 p + 1000 * po 4 p + po 5 p
def PoM (G : Nat → Nat → Int32) (P : Nat) (po : Tb) : Prop := ∀ p, p < P → (G 2 p).toInt = po 0 p ∧ (G 3 p).toInt = po 1 p - 1
theorem rtL_rng {pl : Tb} {a z : Int} : ∀ {R : Nat}, WfP R pl → 0 ≤ rtL pl a z R ∧ rtL pl a z R ≤ 99
  | 0, _ => ⟨Int.le_refl _, by show (0 : Int) ≤ 99; omega⟩
  | n + 1, h => by
    unfold rtL
    split
    · have := h n (by omega); omega
    · exact rtL_rng (fun r hr => h r (by omega))
theorem valA_ok {bk po : Tb} {N P p f n j : Nat} {d : Int} (hB : WfB N P bk po) (hO : WfO N P bk po) (hp : p < P) (hf : f < 3) (hn : n ≤ N) (h : ls bk p d f n = some j) : okv f (valA bk po p f (some j)) := by
  have hj := ls_lt h
  obtain ⟨h1, h2, h3⟩ := ls_prop h
  obtain ⟨p', hp', g1, g2, g3, g4, g5, g6, g7, g8, g9⟩ := hB j (by omega)
  obtain ⟨o1, o2, o3, o4, o5, o6, o7, o8⟩ := hO.2 p hp
  unfold tells at h3
  rw [if_neg (by omega)] at h3
  unfold valA
  rcases h3 with h3 | ⟨h3, h4⟩
  · show okv f (if bk 2 j = 0 then _ else _)
    rw [if_pos h3]
    rcases (show f = 0 ∨ f = 1 ∨ f = 2 by omega) with rfl | rfl | rfl
    · exact o6
    · exact o7
    · exact o8
  · show okv f (if bk 2 j = 0 then _ else if bk 2 j = 1 then _ else _)
    rw [if_neg (by omega), if_pos h3]
    have := g8 h3
    rw [h4] at this
    exact this
theorem valA_rng2 {bk po : Tb} {N P p n : Nat} {d : Int} (hB : WfB N P bk po) (hO : WfO N P bk po) (hp : p < P) (hn : n ≤ N) : 0 ≤ vA bk po p d n 2 ∧ vA bk po p d n 2 ≤ 999 := by
  cases h : ls bk p d 2 n with
  | none => simp only [vA, h, valA]; omega
  | some j =>
    have := valA_ok hB hO hp (by omega) hn h
    simp only [vA, h]
    omega
theorem chA_rng {bk po pl : Tb} {N P R p n : Nat} {d : Int} (hR : WfP R pl) (hB : WfB N P bk po) (hO : WfO N P bk po) (hp : p < P) (hn : n ≤ N) : 0 ≤ chA bk po pl R p n d ∧ chA bk po pl R p n d ≤ 98901 := by
  unfold chA
  split
  · have h1 := rtL_rng (a := vA bk po p d n 0) (z := vA bk po p d n 1) hR
    have h2 := valA_rng2 hB hO hp hn (d := d)
    constructor
    · exact Int.mul_nonneg h2.1 h1.1
    · have := Int.mul_le_mul h2.2 h1.2 h1.1 (by omega)
      omega
  · omega
/-- a sum of days: k of them from a on -/
def sm (c : Int → Int) (a : Int) : Nat → Int
  | 0 => 0
  | k + 1 => sm c a k + c (a + k)
theorem sm_rng {c : Int → Int} {a : Int} {M : Int} (h : ∀ d, 0 ≤ c d ∧ c d ≤ M) : ∀ k : Nat, 0 ≤ sm c a k ∧ sm c a k ≤ k * M
  | 0 => ⟨Int.le_refl _, by show (0 : Int) ≤ ((0 : Nat) : Int) * M; simp⟩
  | k + 1 => by
    have h1 := sm_rng (a := a) h k
    have h2 := h (a + k)
    unfold sm
    rw [Int.natCast_add, Int.add_mul]
    constructor
    · omega
    · have : ((1 : Nat) : Int) * M = M := by simp
      omega
section RefV
variable {J : Nat → Int32} {G : Nat → Nat → Int32} {N P R : Nat} {bk po pl : Tb} {post : Int32 → Prop}
theorem r_known {p f n : Nat} {d : Int} (hB : WfB N P bk po) (hO : WfO N P bk po) (hM : BkM G N bk) (hV : VlM G N bk po) (hp : p < P) (hf : f < 3) (hn : n ≤ N) (hg : G 9 f = enc (ls bk p d f n)) (h : ∀ r : Int32, r.toInt = vA bk po p d n f → post r) : wX5_known J G (nI f) post := by
  unfold wX5_known
  refine ⟨vp_in_nI (by omega) (by omega), fun v2 e2 => ?_⟩
  rw [nI_clamp (by omega), hg] at e2
  have e0 : (0 : Int32).toInt = 0 := rfl
  have e1 : (1 : Int32).toInt = 1 := rfl
  have eK : (1000 : Int32).toInt = 1000 := rfl
  have eM : (1000000 : Int32).toInt = 1000000 := rfl
  cases hq : ls bk p d f n with
  | none =>
    rw [hq] at e2
    subst e2
    refine ⟨fun c => absurd c (by decide), fun _ => h _ ?_⟩
    simp only [vA, hq, valA]
    rw [if_neg (by omega)]
    rfl
  | some j =>
    rw [hq] at e2
    have hj := ls_lt hq
    obtain ⟨h1, h2, h3⟩ := ls_prop hq
    have hN := hM.1
    obtain ⟨w0, w1, w2, w3⟩ := hM.2 j (by omega)
    have hjc : v2.toNatClampNeg = j := by rw [e2]; exact nI_clamp (by omega)
    have hin : vp_in v2 40 := by rw [e2]; exact vp_in_nI (by omega) (by omega)
    have hv := h
    simp only [vA, hq] at hv
    unfold tells at h3
    rw [if_neg (by omega)] at h3
    refine ⟨fun _ => ⟨hin, ?_⟩, fun c => absurd (by rw [tI_le, e0, e2]; show 0 ≤ (nI j).toInt; rw [tI_nI (by omega)]; omega) c⟩
    rw [hjc, tI_eq (G 4 j), e1, w2]
    refine ⟨fun c => ?_, fun c => ⟨hin, hv _ ?_⟩⟩
    · have k0 : bk 2 j = 0 := by omega
      have hval := (hV j (by omega)).2 p h1 k0
      obtain ⟨o1, o2, o3, o4, o5, o6, o7, o8⟩ := hO.2 p hp
      have r1 : (G 8 j / (1000 : Int32)).toInt = 1000 * po 3 p + po 4 p := by
        rw [tI_div (by rw [hval]; omega), hval, eK, Int.tdiv_eq_ediv_of_nonneg (by omega)]; omega
      have r2 : (G 8 j / (1000000 : Int32)).toInt = po 3 p := by
        rw [tI_div (by rw [hval]; omega), hval, eM, Int.tdiv_eq_ediv_of_nonneg (by omega)]; omega
      have r3 : (G 8 j / (1000 : Int32) / (1000 : Int32)).toInt = po 3 p := by
        rw [tI_div (by rw [r1]; omega), r1, eK, Int.tdiv_eq_ediv_of_nonneg (by omega)]; omega
      have va : valA bk po p f (some j) = po (3 + f) p := by unfold valA; show (if bk 2 j = 0 then _ else _) = _; rw [if_pos k0]
      rw [va] at hv
      refine ⟨fun c2 => ⟨fun c3 => ⟨hin, hv _ ?_⟩, fun c3 => ⟨hin, hv _ ?_⟩⟩, fun c2 => ⟨hin, hv _ ?_⟩⟩
      · have : f = 2 := by
          rw [tI_eq, e0, tI_nI (by omega)] at c2; rw [tI_eq, e1, tI_nI (by omega)] at c3; omega
        subst this
        have m1 : (G 8 j / (1000 : Int32) * (1000 : Int32)).toInt = (1000 * po 3 p + po 4 p) * 1000 := by
          rw [tI_mul (by rw [r1, eK]; omega) (by rw [r1, eK]; omega), r1, eK]
        rw [tI_sub (by rw [m1, hval]; omega) (by rw [m1, hval]; omega), m1, hval]
        show _ = po 5 p
        omega
      · have : f = 1 := by rw [tI_eq, e1, tI_nI (by omega)] at c3; omega
        subst this
        have m1 : (G 8 j / (1000 : Int32) / (1000 : Int32) * (1000 : Int32)).toInt = po 3 p * 1000 := by
          rw [tI_mul (by rw [r3, eK]; omega) (by rw [r3, eK]; omega), r3, eK]
        rw [tI_sub (by rw [m1, r1]; omega) (by rw [m1, r1]; omega), m1, r1]
        show _ = po 4 p
        omega
      · have : f = 0 := by rw [tI_eq, e0, tI_nI (by omega)] at c2; omega
        subst this
        exact r2
    · rw [(hV j (by omega)).1 c]
      unfold valA
      show _ = (if bk 2 j = 0 then _ else if bk 2 j = 1 then _ else _)
      rw [if_neg (by omega), if_pos c]
theorem r_runs {p n : Nat} {d : Int} (hB : WfB N P bk po) (hM : BkM G N bk) (hn : n ≤ N) (hg0 : G 9 0 = enc (ls bk p d 0 n)) (hg3 : G 9 3 = enc (ls bk p d 3 n)) (h : post (nB (rnA bk po p d n))) : wX5_runs J G post := by
  unfold wX5_runs
  have hN := hM.1
  have c0 : (0 : Int32).toNatClampNeg = 0 := by decide
  have c3 : (3 : Int32).toNatClampNeg = 3 := by decide
  have i0 : vp_in (0 : Int32) 4 := vp_in_nI (n := 0) (by omega) (by omega)
  have i3 : vp_in (3 : Int32) 4 := vp_in_nI (n := 3) (by omega) (by omega)
  have e3 : (3 : Int32).toInt = 3 := rfl
  refine ⟨i0, ?_⟩
  rw [c0, c3, hg0, hg3, enc_neg (n := n) (fun j hj => ls_lt hj) (by omega), enc_neg (n := n) (fun j hj => ls_lt hj) (by omega)]
  refine ⟨fun c => p_at h (nB_f (fun q => by have q1 := q.1; rw [c] at q1; cases q1)), fun c => ⟨i3, fun c2 => p_at h (nB_t ⟨?_, ?_⟩), fun c2 => ⟨i3, ?_⟩⟩⟩
  · cases hq : ls bk p d 0 n with
    | none => exact absurd hq c
    | some j => rfl
  · simp only [vA, c2, valA]; rfl
  · cases hq : ls bk p d 3 n with
    | none => exact absurd hq c2
    | some j =>
      have hj := ls_lt hq
      obtain ⟨h1, h2, h3⟩ := ls_prop hq
      unfold tells at h3
      rw [if_pos rfl] at h3
      obtain ⟨w0, w1, w2, w3⟩ := hM.2 j (by omega)
      obtain ⟨p', hp', g1, g2, g3, g4, g5, g6, g7, g8, g9⟩ := hB j (by omega)
      have hjc : (enc (some j)).toNatClampNeg = j := nI_clamp (by omega)
      have s0 : (ls bk p d 0 n).isSome = true := by
        cases hq0 : ls bk p d 0 n with
        | none => exact absurd hq0 c
        | some j0 => rfl
      have va : vA bk po p d n 3 = if bk 2 j = 3 then 1 else 0 := by
        simp only [vA, hq, valA]
        rw [if_neg (by omega), if_neg (by omega)]
      refine ⟨vp_in_nI (by omega) (by omega), ?_⟩
      rw [hjc, tI_eq, e3, w2]
      refine ⟨fun c5 => p_at h (nB_f (fun q => by have := q.2; rw [va, if_neg c5] at this; omega)), fun c5 => p_at h (nB_t ⟨s0, by rw [va, if_pos c5]⟩)⟩
end RefV
section RefC
variable {J : Nat → Int32} {G : Nat → Nat → Int32} {N P R : Nat} {bk po pl : Tb} {post : Int32 → (Nat → Int32) → (Nat → Nat → Int32) → Prop}
/-- the number of bookings that count -/
def cnt (N : Nat) (b : Int) : Nat := (max 0 (min (N : Int) (b + 1))).toNat
theorem cnt_eq (N : Nat) (b : Int) : ((cnt N b : Nat) : Int) = max 0 (min (N : Int) (b + 1)) := by unfold cnt; omega
theorem cnt_le (N : Nat) (b : Int) : cnt N b ≤ N := by unfold cnt; omega
/-- all that the reference's reckoning rests on -/
def RM (J : Nat → Int32) (G : Nat → Nat → Int32) (R N P : Nat) (pl bk po : Tb) : Prop := PlM J G R pl ∧ WfP R pl ∧ BkM G N bk ∧ J 3 = nI N ∧ VlM G N bk po ∧ PoM G P po ∧ WfB N P bk po ∧ WfO N P bk po
theorem RM.up {g : Nat → Int32} (h : RM J G R N P pl bk po) : RM J (va_up G 9 g) R N P pl bk po := h
theorem r_charge {p : Nat} {x2 x3 : Int32} (hR : RM J G R N P pl bk po) (hp : p < P) (h : ∀ (r : Int32) (g : Nat → Int32), (∀ j, j < 4 → g j = enc (ls bk p x2.toInt j (cnt N x3.toInt))) → r.toInt = chA bk po pl R p (cnt N x3.toInt) x2.toInt → post r J (va_up G 9 g)) : wX5_charge J G (nI p) x2 x3 post := by
  obtain ⟨h1, h2, h3, h4, h5, h6, h7, h8⟩ := id hR
  have hP6 := h8.1
  unfold wX5_charge
  refine r_look h3 h4 (by omega) (cnt_eq N x3.toInt) (fun g hg => ?_)
  have hn := cnt_le N x3.toInt
  have q3 : BkM (va_up G 9 g) N bk := h3
  refine r_runs (p := p) (d := x2.toInt) (n := cnt N x3.toInt) (po := po) h7 q3 hn (hg 0 (by omega)) (hg 3 (by omega)) ⟨fun c => ?_, fun c => ?_⟩
  · rw [nB_z] at c
    refine h _ g hg ?_
    unfold chA
    rw [if_neg c]
    rfl
  · rw [nB_z, Classical.not_not] at c
    have k2 := valA_rng2 h7 h8 hp hn (d := x2.toInt)
    refine r_known (f := 2) (p := p) (d := x2.toInt) (n := cnt N x3.toInt) h7 h8 q3 h5 hp (by omega) hn (hg 2 (by omega)) (fun r6 e6 => ?_)
    refine r_known (f := 0) (p := p) (d := x2.toInt) (n := cnt N x3.toInt) h7 h8 q3 h5 hp (by omega) hn (hg 0 (by omega)) (fun r7 e7 => ?_)
    refine r_known (f := 1) (p := p) (d := x2.toInt) (n := cnt N x3.toInt) h7 h8 q3 h5 hp (by omega) hn (hg 1 (by omega)) (fun r8 e8 => ?_)
    refine r_rate (pl := pl) (R := R) h1 (fun r9 e9 => h _ g hg ?_)
    rw [e7, e8] at e9
    have b9 := rtL_rng (a := vA bk po p x2.toInt (cnt N x3.toInt) 0) (z := vA bk po p x2.toInt (cnt N x3.toInt) 1) h2
    have b1 := Int.mul_nonneg k2.1 b9.1
    have b2 := Int.mul_le_mul k2.2 b9.2 b9.1 (by omega)
    rw [tI_mul (by rw [e6, e9]; omega) (by rw [e6, e9]; omega), e6, e9]
    unfold chA
    rw [if_pos c]
end RefC
