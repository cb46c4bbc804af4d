/-! VALUES AND CHARGES, THE CLASS's SIDE -/
abbrev cfk (k t : Int) : Int := if k = 0 then -1 else if k = 1 then t else 3
abbrev cvk (k v : Int) : Int := if k = 1 then v else if k = 3 then 1 else 0
def BkC (F : Nat → Nat → Int32) (N : Nat) (bk : Tb) : Prop := N ≤ 40 ∧ ∀ b, b < N → (F 14 b).toInt = bk 0 b ∧ (F 15 b).toInt = bk 1 b ∧ (F 16 b).toInt = cfk (bk 2 b) (bk 3 b) ∧ (F 17 b).toInt = cvk (bk 2 b) (bk 4 b)
def PoC (F : Nat → Nat → Int32) (P : Nat) (po : Tb) : Prop := ∀ p, p < P → (F 10 p).toInt = po 0 p ∧ (F 11 p).toInt = po 1 p ∧ (F 12 p).toInt = po 2 p ∧ (∀ f, f < 3 → (F 13 (p * 4 + f)).toInt = po (3 + f) p) ∧ (F 13 (p * 4 + 3)).toInt = 1
/-- since when the value counts -/
def snA (bk po : Tb) (p : Nat) (o : Option Nat) : Int := match o with
  | none => po 0 p
  | some j => bk 1 j
/-- every pair of an age and a zone is matched just once -/
def Gd (R : Nat) (pl : Tb) : Prop := ∀ a z : Int, 0 ≤ a → a ≤ 49 → 0 ≤ z → z ≤ 9 → cn pl a z R = 1
section ClsV
variable {I : Nat → Int32} {F : Nat → Nat → Int32} {N P R : Nat} {bk po pl : Tb} {post : Int32 → Prop}
theorem tell_cf {p f k : Nat} (hB : WfB N P bk po) (hk : k < N) (hf : f ≤ 3) (hp : bk 0 k = p) (hbb : po 2 p < k) : cfk (bk 2 k) (bk 3 k) = f ↔ tells bk k f := by
  obtain ⟨p', hp', g1, g2, g3, g4, g5, g6, g7, g8, g9⟩ := hB k hk
  have : p' = p := by omega
  subst this
  have h0 : ¬ bk 2 k = 0 := fun q => by have := g7.mp q; omega
  unfold tells cfk
  by_cases c1 : bk 2 k = 1
  · have := g8 c1
    rw [if_neg h0, if_pos c1]
    by_cases c3 : f = 3
    · rw [if_pos c3]; omega
    · rw [if_neg c3]; omega
  · rw [if_neg h0, if_neg c1]
    by_cases c3 : f = 3
    · rw [if_pos c3]; omega
    · rw [if_neg c3]; omega
theorem m_valueOn_l {p f n : Nat} {x3 : Int32} (hB : WfB N P bk po) (hC : BkC F N bk) (h6 : P ≤ 6) (hp : p < P) (hf : f ≤ 3) (hn : n ≤ N) (h : ∀ r : Int32, r.toInt = vA bk po p x3.toInt n f → post r) :
    ∀ (m k : Nat) (x5 x6 : Int32), k ≤ n → n < m + k → po 2 p < k → x5.toInt = snA bk po p (ls bk p x3.toInt f k) → x6.toInt = valA bk po p f (ls bk p x3.toInt f k) → bX2_valueOn_30 I F post m (nI p) (nI f) x3 (nI n) x5 x6 (nI k) := by
  have hN := hC.1
  have e0 : (0 : Int32).toInt = 0 := rfl
  intro m
  induction m with
  | zero => intro k x5 x6 a b; omega
  | succ m ih =>
    intro k x5 x6 hk hm hbb hx5 hx6
    unfold bX2_valueOn_30
    rw [tI_le, tI_nI (by omega), tI_nI (by omega)]
    refine ⟨fun c => ?_, fun c => ?_⟩
    · have : k = n := by omega
      subst this
      exact h _ hx6
    · have hin : vp_in (nI k) 40 := vp_in_nI (by omega) (by omega)
      have hkc : (nI k).toNatClampNeg = k := nI_clamp (by omega)
      obtain ⟨w0, w1, w2, w3⟩ := hC.2 k (by omega)
      have keep : ¬ (bk 0 k = p ∧ bk 1 k ≤ x3.toInt ∧ tells bk k f ∧ okb bk (ls bk p x3.toInt f k) k = true) → ∀ v : Int32, v = nI k + (1 : Int32) → bX2_valueOn_30 I F post m (nI p) (nI f) x3 (nI n) x5 x6 v := by
        intro hno v ev
        rw [ev, nI_1]
        have e : ls bk p x3.toInt f (k + 1) = ls bk p x3.toInt f k := by
          conv => lhs; unfold ls
          rw [if_neg hno]
        exact ih (k + 1) x5 x6 (by omega) (by omega) (by omega) (by rw [e]; exact hx5) (by rw [e]; exact hx6)
      refine ⟨hin, ?_⟩
      rw [hkc, tI_eq (F 14 k), w0, tI_nI (by omega)]
      refine ⟨fun d => keep (fun q => d q.1), fun d => ⟨hin, ?_⟩⟩
      have htc := tell_cf hB (by omega) hf d hbb
      rw [tI_eq (F 16 k), w2, tI_nI (by omega), htc]
      refine ⟨fun d2 => keep (fun q => d2 q.2.2.1), fun d2 => ⟨hin, ?_⟩⟩
      obtain ⟨p', hp', g1, g2, g3, g4, g5, g6, g7, g8, g9⟩ := hB k (by omega)
      have : p' = p := by omega
      subst this
      have hok : snA bk po p' (ls bk p' x3.toInt f k) ≤ bk 1 k ↔ okb bk (ls bk p' x3.toInt f k) k = true := by
        cases ls bk p' x3.toInt f k with
        | none => exact ⟨fun _ => rfl, fun _ => g2⟩
        | some j => exact ⟨fun q => decide_eq_true q, fun q => of_decide_eq_true q⟩
      refine m_isWithin ⟨fun d3 => ?_, fun d3 => ⟨hin, fun v13 e13 => ⟨hin, fun v15 e15 v16 e16 => ?_⟩⟩⟩
      · rw [nB_z, hx5, w1, hok] at d3
        exact keep (fun q => d3 ⟨q.2.2.2, q.2.1⟩)
      · rw [nB_z, Classical.not_not, hx5, w1, hok] at d3
        rw [e16, nI_1]
        have e : ls bk p' x3.toInt f (k + 1) = some k := by
          conv => lhs; unfold ls
          rw [if_pos ⟨d, d3.2, d2, d3.1⟩]
        refine ih (k + 1) v13 v15 (by omega) (by omega) (by omega) (by rw [e, e13, w1]; rfl) ?_
        rw [e, e15, w3]
        have h0 : ¬ bk 2 k = 0 := fun q => by have := g7.mp q; omega
        unfold valA
        show cvk (bk 2 k) (bk 4 k) = (if bk 2 k = 0 then _ else if bk 2 k = 1 then _ else _)
        rw [if_neg h0]
theorem m_valueOn {p f n : Nat} {x3 : Int32} (hB : WfB N P bk po) (hO : WfO N P bk po) (hC : BkC F N bk) (hP : PoC F P po) (hp : p < P) (hf : f ≤ 3) (hn : n ≤ N) (hbb : po 2 p < n) (hd : po 0 p ≤ x3.toInt) (h : ∀ r : Int32, r.toInt = vA bk po p x3.toInt n f → post r) : wX2_valueOn I F (nI p) (nI f) x3 (nI n) post := by
  have hP6 := hO.1
  have hN := hC.1
  obtain ⟨v0, v1, v2, v3, v4⟩ := hP p hp
  obtain ⟨o1, o2, o3, o4, ⟨b, hb, q1, q2, q3, q4⟩, o6, o7, o8⟩ := hO.2 p hp
  unfold wX2_valueOn
  have hin : vp_in (nI p) 6 := vp_in_nI (by omega) (by omega)
  have ei : nI p * (4 : Int32) + nI f = nI (p * 4 + f) := by show nI p * nI 4 + nI f = _; rw [pk_mul, nI_add]
  rw [ei, nI_clamp (by omega), nI_clamp (by omega)]
  refine ⟨hin, fun v18 e18 => ⟨vp_in_nI (by omega) (by omega), fun v20 e20 => ⟨hin, fun v22 e22 => ⟨n + 1, ?_⟩⟩⟩⟩
  have e22' : v22 = nI (b + 1) := by
    rw [e22, ← nI_1]
    congr 1
    rw [tI_eq, v2, q1, tI_nI (by omega)]
  rw [e22']
  have hl : ls bk p x3.toInt f b = none := ls_before hB (by omega) (by omega)
  by_cases c3 : f = 3
  · have e : ls bk p x3.toInt f (b + 1) = none := by
      unfold ls
      rw [if_neg, hl]
      intro q
      have := q.2.2.1
      unfold tells at this
      rw [if_pos c3] at this
      omega
    refine m_valueOn_l hB hC hP6 hp hf hn h (n + 1) (b + 1) v18 v20 (by omega) (by omega) (by omega) (by rw [e, e18]; exact v0) ?_
    rw [e, e20]
    unfold valA
    show _ = if f = 3 then 1 else 0
    rw [if_pos c3, c3]
    exact v4
  · have e : ls bk p x3.toInt f (b + 1) = some b := by
      unfold ls
      rw [if_pos]
      refine ⟨q2, by omega, ?_, by rw [hl]; rfl⟩
      unfold tells
      rw [if_neg c3]
      exact Or.inl q3
    refine m_valueOn_l hB hC hP6 hp hf hn h (n + 1) (b + 1) v18 v20 (by omega) (by omega) (by omega) (by rw [e, e18, v0]; exact q4.symm) ?_
    rw [e, e20]
    unfold valA
    show _ = if bk 2 b = 0 then _ else _
    rw [if_pos q3]
    exact v3 f (by omega)
theorem force01 {p n : Nat} {d : Int} (hB : WfB N P bk po) (hn : n ≤ N) : vA bk po p d n 3 = 0 ∨ vA bk po p d n 3 = 1 := by
  cases hq : ls bk p d 3 n with
  | none => right; simp only [vA, hq, valA]; rfl
  | some j =>
    have hj := ls_lt hq
    obtain ⟨-, -, h3⟩ := ls_prop hq
    unfold tells at h3
    rw [if_pos rfl] at h3
    simp only [vA, hq, valA]
    rw [if_neg (by omega), if_neg (by omega)]
    split <;> omega
theorem vA_ok {p n f : Nat} {d : Int} (hB : WfB N P bk po) (hO : WfO N P bk po) (hp : p < P) (hf : f < 3) (hn : n ≤ N) (hbb : po 2 p < n) (hd : po 0 p ≤ d) : okv f (vA bk po p d n f) := by
  have hs := ls_after (f := f) (d := d) hO hp hf hd hn hbb
  cases hq : ls bk p d f n with
  | none => rw [hq] at hs; cases hs
  | some j => simp only [vA, hq]; exact valA_ok hB hO hp hf hn hq
/-- all that the class's reckoning rests on -/
def CM (I : Nat → Int32) (F : Nat → Nat → Int32) (R N P : Nat) (pl bk po : Tb) : Prop := PlC I F R pl ∧ WfP R pl ∧ Gd R pl ∧ BkC F N bk ∧ PoC F P po ∧ WfB N P bk po ∧ WfO N P bk po
theorem m_chargeOn {p n : Nat} {x2 : Int32} (hM : CM I F R N P pl bk po) (hp : p < P) (hn : n ≤ N) (hbb : po 2 p < n) (hd : po 0 p ≤ x2.toInt) (h : ∀ r : Int32, r.toInt = chA bk po pl R p n x2.toInt → post r) : wX2_chargeOn I F (nI p) x2 (nI n) post := by
  obtain ⟨h1, h2, h3, h4, h5, h6, h7⟩ := hM
  have e0 : (0 : Int32).toInt = 0 := rfl
  unfold wX2_chargeOn
  have hs := ls_after (f := 0) (d := x2.toInt) h7 hp (by omega) hd hn hbb
  have h01 := force01 (p := p) (d := x2.toInt) h6 hn
  refine m_valueOn (f := 3) h6 h7 h4 h5 hp (by omega) hn hbb hd (fun r1 e1 => ⟨fun c => ?_, fun c => ?_⟩)
  · rw [tI_eq, e0, e1] at c
    have hrun : rnA bk po p x2.toInt n := ⟨hs, by omega⟩
    refine m_valueOn (f := 0) h6 h7 h4 h5 hp (by omega) hn hbb hd (fun r3 e3 => ?_)
    refine m_valueOn (f := 1) h6 h7 h4 h5 hp (by omega) hn hbb hd (fun r4 e4 => ?_)
    refine m_valueOn (f := 2) h6 h7 h4 h5 hp (by omega) hn hbb hd (fun r5 e5 => ?_)
    refine m_rateOf h1 (fun r6 e6 => h _ ?_)
    have k0 := vA_ok (f := 0) h6 h7 hp (by omega) hn hbb hd
    have k1 := vA_ok (f := 1) h6 h7 hp (by omega) hn hbb hd
    have k2 := vA_ok (f := 2) h6 h7 hp (by omega) hn hbb hd
    rw [e3, e4, rt_same R (h3 _ _ (by omega) (by omega) (by omega) (by omega))] at e6
    have b9 := rtL_rng (a := vA bk po p x2.toInt n 0) (z := vA bk po p x2.toInt n 1) h2
    have b1 := Int.mul_nonneg (show 0 ≤ vA bk po p x2.toInt n 2 by omega) b9.1
    have b2 := Int.mul_le_mul (show vA bk po p x2.toInt n 2 ≤ 999 by omega) b9.2 b9.1 (by omega)
    rw [tI_mul (by rw [e5, e6]; omega) (by rw [e5, e6]; omega), e5, e6]
    unfold chA
    rw [if_pos hrun]
  · rw [tI_eq, e0, e1] at c
    refine h _ ?_
    unfold chA
    rw [if_neg (fun q => by have := q.2; omega)]
    rfl
theorem m_isInTerm {p : Nat} {x2 : Int32} (hP : PoC F P po) (hp : p < P) (h6 : P ≤ 6) (h : post (nB (po 0 p ≤ x2.toInt ∧ x2.toInt < po 1 p))) : wX2_isInTerm I F (nI p) x2 post := by
  obtain ⟨v0, v1, -⟩ := hP p hp
  unfold wX2_isInTerm
  have hin : vp_in (nI p) 6 := vp_in_nI (by omega) (by omega)
  rw [nI_clamp (by omega), tI_lt, v0, tI_le, v1]
  exact ⟨hin, fun c => p_at h (nB_f (by omega)), fun c => ⟨hin, fun c2 => p_at h (nB_f (by omega)), fun c2 => p_at h (nB_t (by omega))⟩⟩
theorem m_isBound {p n : Nat} (hP : PoC F P po) (hp : p < P) (h6 : P ≤ 6) (hn : n ≤ 40) (h : post (nB (po 2 p < (n : Int)))) : wX2_isBound I F (nI p) (nI n) post := by
  obtain ⟨v0, v1, v2, -⟩ := hP p hp
  unfold wX2_isBound
  have hin : vp_in (nI p) 6 := vp_in_nI (by omega) (by omega)
  rw [nI_clamp (by omega), tI_le, v2, tI_nI (by omega)]
  exact ⟨hin, fun c => p_at h (nB_f (by omega)), fun c => p_at h (nB_t (by omega))⟩
theorem m_isInForce {p : Nat} {x2 : Int32} (hB : WfB N P bk po) (hO : WfO N P bk po) (hC : BkC F N bk) (hP : PoC F P po) (hI : I 3 = nI N) (hp : p < P) (h : post (nB (ifA bk po p N x2.toInt))) : wX2_isInForce I F (nI p) x2 post := by
  have e1 : (1 : Int32).toInt = 1 := rfl
  unfold wX2_isInForce
  refine m_isInTerm hP hp hO.1 ⟨fun c => ?_, fun c => ?_⟩
  · rw [nB_z] at c
    exact p_at h (nB_f (fun q => c q.1))
  · rw [nB_z, Classical.not_not] at c
    rw [hI]
    obtain ⟨o1, o2, o3, o4, ⟨b, hb, q1, -⟩, -⟩ := hO.2 p hp
    have hs := ls_after (f := 0) (d := x2.toInt) hO hp (by omega) c.1 (Nat.le_refl N) (by omega)
    refine m_valueOn (f := 3) hB hO hC hP hp (by omega) (Nat.le_refl N) (by omega) c.1 (fun r3 e3 => ⟨fun d => ?_, fun d => ?_⟩)
    · rw [tI_eq, e1, e3] at d
      exact p_at h (nB_f (fun q => d q.2.2))
    · rw [tI_eq, e1, e3] at d
      exact p_at h (nB_t ⟨c, hs, d⟩)
end ClsV
