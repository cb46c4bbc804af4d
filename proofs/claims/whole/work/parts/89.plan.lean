/-! THE PLAN: rows r < R, pl r 0 .. pl r 4 (ages from, to, zones from, to, rate) -/
abbrev mt (pl : Nat → Nat → Int) (r : Nat) (a z : Int) : Prop := pl r 0 ≤ a ∧ a ≤ pl r 1 ∧ pl r 2 ≤ z ∧ z ≤ pl r 3
/-- how many of the first n rows match -/
def cn (pl : Nat → Nat → Int) (a z : Int) : Nat → Nat
  | 0 => 0
  | n + 1 => cn pl a z n + (if mt pl n a z then 1 else 0)
theorem cn_le (pl : Nat → Nat → Int) (a z : Int) : ∀ n, cn pl a z n ≤ n
  | 0 => Nat.le_refl _
  | n + 1 => by
    have := cn_le pl a z n
    unfold cn
    split <;> omega
def PlC (I : Nat → Int32) (F : Nat → Nat → Int32) (R : Nat) (pl : Nat → Nat → Int) : Prop := I 1 = nI R ∧ R ≤ 8 ∧ ∀ r, r < R → (F 5 r).toInt = pl r 0 ∧ (F 6 r).toInt = pl r 1 ∧ (F 7 r).toInt = pl r 2 ∧ (F 8 r).toInt = pl r 3 ∧ (F 9 r).toInt = pl r 4
def PlM (J : Nat → Int32) (G : Nat → Nat → Int32) (R : Nat) (pl : Nat → Nat → Int) : Prop := J 1 = nI R ∧ R ≤ 8 ∧ ∀ r, r < R → (G 1 (5 * r)).toInt = pl r 0 ∧ (G 1 (5 * r + 1)).toInt = pl r 1 ∧ (G 1 (5 * r + 2)).toInt = pl r 2 ∧ (G 1 (5 * r + 3)).toInt = pl r 3 ∧ (G 1 (5 * r + 4)).toInt = pl r 4
section PlanC
variable {I : Nat → Int32} {F : Nat → Nat → Int32} {R : Nat} {pl : Nat → Nat → Int} {post : Int32 → Prop}
theorem m_isMatch {r : Nat} {x2 x3 : Int32} (hC : PlC I F R pl) (hr : r < R) (h : post (nB (mt pl r x2.toInt x3.toInt))) : wX1_isMatch I F (nI r) x2 x3 post := by
  obtain ⟨-, h8, hv⟩ := hC
  obtain ⟨v0, v1, v2, v3, -⟩ := hv r hr
  unfold wX1_isMatch
  have e : (nI r).toNatClampNeg = r := nI_clamp (by omega)
  have hin : vp_in (nI r) 8 := vp_in_nI (by omega) (by omega)
  simp only [tI_lt, e, v0, v1, v2, v3]
  exact ⟨hin, fun c => p_at h (nB_f (by omega)), fun c => ⟨hin, fun c2 => p_at h (nB_f (by omega)), fun c2 => ⟨hin, fun c3 => p_at h (nB_f (by omega)), fun c3 => ⟨hin, fun c4 => p_at h (nB_f (by omega)), fun c4 => p_at h (nB_t (by omega))⟩⟩⟩⟩
theorem nI_leR {k : Nat} (hk : k < 2 ^ 31) (hR : R ≤ 8) : nI R ≤ nI k ↔ R ≤ k := nI_leI (by omega) hk
theorem m_matches_l {x1 x2 : Int32} (hC : PlC I F R pl) (h : post (nI (cn pl x1.toInt x2.toInt R))) : ∀ (n k : Nat), k ≤ R → R < n + k → bX1_matches_5 I F post n x1 x2 (nI (cn pl x1.toInt x2.toInt k)) (nI k) := by
  have h8 := hC.2.1
  intro n
  induction n with
  | zero => intro k h1 h2; omega
  | succ n ih =>
    intro k hk hn
    unfold bX1_matches_5
    rw [hC.1]
    refine ⟨fun c => ?_, fun c => ?_⟩
    · rw [nI_leR (by omega) h8] at c
      have : k = R := by omega
      subst this
      exact h
    · rw [nI_leR (by omega) h8] at c
      refine m_isMatch hC (by omega) ⟨fun d v4 e4 => ?_, fun d v5 e5 v6 e6 => ?_⟩
      · rw [nB_z] at d
        have := ih (k + 1) (by omega) (by omega)
        rw [e4, nI_1]
        unfold cn at this
        rwa [if_neg d, Nat.add_zero] at this
      · rw [nB_z, Classical.not_not] at d
        have := ih (k + 1) (by omega) (by omega)
        rw [e5, e6, nI_1, nI_1]
        unfold cn at this
        rwa [if_pos d] at this
theorem m_matches {x1 x2 : Int32} (hC : PlC I F R pl) (h : post (nI (cn pl x1.toInt x2.toInt R))) : wX1_matches I F x1 x2 post :=
  ⟨R + 1, m_matches_l hC h (R + 1) 0 (Nat.zero_le _) (by omega)⟩
/-- the rate of the first row that matches among those from k on, n of them -/
def rtF (pl : Nat → Nat → Int) (a z : Int) : Nat → Nat → Int
  | 0, _ => 0
  | n + 1, k => if mt pl k a z then pl k 4 else rtF pl a z n (k + 1)
theorem m_rateOf_l {x1 x2 : Int32} (hC : PlC I F R pl) : ∀ (n k : Nat), k ≤ R → R < n + k → (∀ r : Int32, r.toInt = rtF pl x1.toInt x2.toInt (R - k) k → post r) → bX1_rateOf_2 I F post n x1 x2 (nI k) := by
  have h8 := hC.2.1
  intro n
  induction n with
  | zero => intro k h1 h2; omega
  | succ n ih =>
    intro k hk hn h
    unfold bX1_rateOf_2
    rw [hC.1]
    refine ⟨fun c => ?_, fun c => ?_⟩
    · rw [nI_leR (by omega) h8] at c
      have : k = R := by omega
      subst this
      rw [Nat.sub_self] at h
      exact h _ rfl
    · rw [nI_leR (by omega) h8] at c
      have e : R - k = (R - (k + 1)) + 1 := by omega
      rw [e] at h
      refine m_isMatch hC (by omega) ⟨fun d v4 e4 => ?_, fun d => ⟨vp_in_nI (by omega) (by omega), ?_⟩⟩
      · rw [nB_z] at d
        rw [e4, nI_1]
        refine ih (k + 1) (by omega) (by omega) (fun r hr => h r ?_)
        unfold rtF
        rw [if_neg d]
        exact hr
      · rw [nB_z, Classical.not_not] at d
        refine h _ ?_
        unfold rtF
        rw [if_pos d, nI_clamp (by omega)]
        exact (hC.2.2 k (by omega)).2.2.2.2
theorem m_rateOf {x1 x2 : Int32} (hC : PlC I F R pl) (h : ∀ r : Int32, r.toInt = rtF pl x1.toInt x2.toInt R 0 → post r) : wX1_rateOf I F x1 x2 post :=
  ⟨R + 1, m_rateOf_l hC (R + 1) 0 (Nat.zero_le _) (by omega) h⟩
/-- the first place from p on, among n, that isn't matched just once -/
def ffr (pl : Nat → Nat → Int) (R : Nat) : Nat → Nat → Int
  | 0, _ => -1
  | n + 1, p => if cn pl ((p / 10 : Nat) : Int) ((p % 10 : Nat) : Int) R = 1 then ffr pl R n (p + 1) else (p : Int)
abbrev ff (pl : Nat → Nat → Int) (R : Nat) : Int := ffr pl R 500 0
theorem cn_one {pl : Nat → Nat → Int} {a z : Int} {R : Nat} (h8 : R ≤ 8) : nI (cn pl a z R) = (1 : Int32) ↔ cn pl a z R = 1 := by
  have := cn_le pl a z R
  exact nI_eq (a := cn pl a z R) (b := 1) (by omega) (by omega)
theorem m_ff_in (hC : PlC I F R pl) {K2 : Int32 → Prop} {a : Nat} (ha : a < 50) : ∀ (n z : Nat), z ≤ 10 → 10 < n + z → (∀ r : Int32, r.toInt = ffr pl R (500 - (10 * a + z)) (10 * a + z) → post r) → ((∀ r : Int32, r.toInt = ffr pl R (500 - 10 * (a + 1)) (10 * (a + 1)) → post r) → K2 (nI (a + 1))) → bX1_firstFault_10 I F K2 post n (nI a) (nI z) := by
  intro n
  induction n with
  | zero => intro z h1 h2; omega
  | succ n ih =>
    intro z hz hn h hK
    unfold bX1_firstFault_10
    have e9 : (9 : Int32).toInt = 9 := rfl
    refine ⟨fun c v2 e2 => ?_, fun c => ?_⟩
    · rw [tI_lt, e9, tI_nI (by omega)] at c
      have : z = 10 := by omega
      subst this
      rw [e2, nI_1]
      exact hK h
    · rw [tI_lt, e9, tI_nI (by omega)] at c
      have e : 500 - (10 * a + z) = (500 - (10 * a + (z + 1))) + 1 := by omega
      have q1 : (10 * a + z) / 10 = a := by omega
      have q2 : (10 * a + z) % 10 = z := by omega
      rw [e] at h
      unfold ffr at h
      rw [q1, q2] at h
      refine m_matches hC ⟨fun d v5 e5 => ?_, fun d => ?_⟩
      · rw [cn_one hC.2.1, tI_nI (by omega), tI_nI (by omega)] at d
        rw [e5, nI_1]
        refine ih (z + 1) (by omega) (by omega) (fun r hr => h r ?_) hK
        rw [if_pos d]
        exact hr
      · rw [cn_one hC.2.1, tI_nI (by omega), tI_nI (by omega)] at d
        refine h _ ?_
        rw [if_neg d]
        have e10 : ((10 : Int32) * nI a + nI z) = nI (10 * a + z) := by
          show nI 10 * nI a + nI z = _
          rw [pk_mul, nI_add]
        rw [e10, tI_nI (by omega)]
theorem m_ff_out (hC : PlC I F R pl) : ∀ (n a : Nat), a ≤ 50 → 50 < n + a → (∀ r : Int32, r.toInt = ffr pl R (500 - 10 * a) (10 * a) → post r) → bX1_firstFault_2 I F post n (nI a) := by
  intro n
  induction n with
  | zero => intro a h1 h2; omega
  | succ n ih =>
    intro a ha hn h
    unfold bX1_firstFault_2
    have e49 : (49 : Int32).toInt = 49 := rfl
    refine ⟨fun c => ?_, fun c => ?_⟩
    · rw [tI_lt, e49, tI_nI (by omega)] at c
      have : a = 50 := by omega
      subst this
      exact h _ rfl
    · rw [tI_lt, e49, tI_nI (by omega)] at c
      exact ⟨11, m_ff_in hC (by omega) 11 0 (by omega) (by omega) h (fun h2 => ih (a + 1) (by omega) (by omega) h2)⟩
theorem m_firstFault (hC : PlC I F R pl) (h : ∀ r : Int32, r.toInt = ff pl R → post r) : wX1_firstFault I F post :=
  ⟨51, m_ff_out hC 51 0 (by omega) (by omega) h⟩
end PlanC
section PlanM
variable {J : Nat → Int32} {G : Nat → Nat → Int32} {R : Nat} {pl : Nat → Nat → Int} {post : Int32 → Prop}
theorem i5 (r j : Nat) : (5 : Int32) * nI r + nI j = nI (5 * r + j) := by show nI 5 * nI r + nI j = _; rw [pk_mul, nI_add]
theorem i50 (r : Nat) : (5 : Int32) * nI r = nI (5 * r) := by show nI 5 * nI r = _; rw [pk_mul]
theorem r_matches {r : Nat} {x2 x3 : Int32} (hC : PlM J G R pl) (hr : r < R) (h : post (nB (mt pl r x2.toInt x3.toInt))) : wX5_matches J G (nI r) x2 x3 post := by
  obtain ⟨-, h8, hv⟩ := hC
  obtain ⟨v0, v1, v2, v3, -⟩ := hv r hr
  unfold wX5_matches
  have a0 := i50 r
  have a1 : (5 : Int32) * nI r + (1 : Int32) = nI (5 * r + 1) := i5 r 1
  have a2 : (5 : Int32) * nI r + (2 : Int32) = nI (5 * r + 2) := i5 r 2
  have a3 : (5 : Int32) * nI r + (3 : Int32) = nI (5 * r + 3) := i5 r 3
  rw [a1, a2, a3, a0]
  simp only [tI_lt, nI_clamp (show 5 * r < 2 ^ 31 by omega), nI_clamp (show 5 * r + 1 < 2 ^ 31 by omega), nI_clamp (show 5 * r + 2 < 2 ^ 31 by omega), nI_clamp (show 5 * r + 3 < 2 ^ 31 by omega), v0, v1, v2, v3]
  exact ⟨vp_in_nI (by omega) (by omega), fun c => p_at h (nB_f (by omega)), fun c => ⟨vp_in_nI (by omega) (by omega), fun c2 => p_at h (nB_f (by omega)), fun c2 => ⟨vp_in_nI (by omega) (by omega), fun c3 => p_at h (nB_f (by omega)), fun c3 => ⟨vp_in_nI (by omega) (by omega), fun c4 => p_at h (nB_f (by omega)), fun c4 => p_at h (nB_t (by omega))⟩⟩⟩⟩
theorem r_flaw_in (hC : PlM J G R pl) {K2 : Int32 → Prop} {p : Nat} (hp : p < 500) (hK : cn pl ((p / 10 : Nat) : Int) ((p % 10 : Nat) : Int) R = 1 → K2 (nI (p + 1))) (hP : ¬ cn pl ((p / 10 : Nat) : Int) ((p % 10 : Nat) : Int) R = 1 → post (nI p)) : ∀ (n k : Nat), k ≤ R → R < n + k → bX5_flaw_13 J G K2 post n (nI p) (nI (cn pl ((p / 10 : Nat) : Int) ((p % 10 : Nat) : Int) k)) (nI k) := by
  have h8 := hC.2.1
  intro n
  induction n with
  | zero => intro k h1 h2; omega
  | succ n ih =>
    intro k hk hn
    unfold bX5_flaw_13
    rw [hC.1]
    refine ⟨fun c => ?_, fun c => ?_⟩
    · rw [nI_leR (by omega) h8] at c
      have : k = R := by omega
      subst this
      refine ⟨fun d v3 e3 => ?_, fun d => ?_⟩
      · rw [cn_one h8] at d
        rw [e3, nI_1]
        exact hK d
      · rw [cn_one h8] at d
        exact hP d
    · rw [nI_leR (by omega) h8] at c
      have e1 : nI p / (10 : Int32) = nI (p / 10) := pk_div (a := p) (d := 10) (by omega) (by omega) (by omega)
      have e2 : nI p - nI p / (10 : Int32) * (10 : Int32) = nI (p % 10) := pk_rem (a := p) (d := 10) (by omega) (by omega) (by omega)
      rw [e2, e1]
      refine r_matches hC (by omega) ⟨fun d v6 e6 v7 e7 => ?_, fun d v8 e8 v9 e9 => ?_⟩
      · rw [nB_z, tI_nI (by omega), tI_nI (by omega)] at d
        have h1 := ih (k + 1) (by omega) (by omega)
        unfold cn at h1
        rw [if_neg d, Nat.add_zero] at h1
        have e0 : nI (cn pl ((p / 10 : Nat) : Int) ((p % 10 : Nat) : Int) k) + (0 : Int32) = nI (cn pl ((p / 10 : Nat) : Int) ((p % 10 : Nat) : Int) k) := nI_add _ 0
        rw [e6, e7, nI_1, e0]
        exact h1
      · rw [nB_z, Classical.not_not, tI_nI (by omega), tI_nI (by omega)] at d
        have h1 := ih (k + 1) (by omega) (by omega)
        unfold cn at h1
        rw [if_pos d] at h1
        rw [e8, e9, nI_1, nI_1]
        exact h1
theorem r_flaw_out (hC : PlM J G R pl) : ∀ (n p : Nat), p ≤ 500 → 500 < n + p → (∀ r : Int32, r.toInt = ffr pl R (500 - p) p → post r) → bX5_flaw_2 J G post n (nI p) := by
  intro n
  induction n with
  | zero => intro p h1 h2; omega
  | succ n ih =>
    intro p hp hn h
    unfold bX5_flaw_2
    have e500 : (500 : Int32).toInt = 500 := rfl
    refine ⟨fun c => ?_, fun c => ?_⟩
    · rw [tI_le, e500, tI_nI (by omega)] at c
      have : p = 500 := by omega
      subst this
      exact h _ rfl
    · rw [tI_le, e500, tI_nI (by omega)] at c
      have e : 500 - p = (500 - (p + 1)) + 1 := by omega
      rw [e] at h
      unfold ffr at h
      refine ⟨R + 1, r_flaw_in hC (by omega) (fun d => ?_) (fun d => ?_) (R + 1) 0 (Nat.zero_le _) (by omega)⟩
      · rw [if_pos d] at h
        exact ih (p + 1) (by omega) (by omega) h
      · rw [if_neg d] at h
        exact h _ (tI_nI (by omega))
theorem r_flaw (hC : PlM J G R pl) (h : ∀ r : Int32, r.toInt = ff pl R → post r) : wX5_flaw J G post :=
  ⟨501, r_flaw_out hC 501 0 (by omega) (by omega) h⟩
/-- the rate of the last row that matches among the first n -/
def rtL (pl : Nat → Nat → Int) (a z : Int) : Nat → Int
  | 0 => 0
  | n + 1 => if mt pl n a z then pl n 4 else rtL pl a z n
theorem r_rate_l {x1 x2 : Int32} (hC : PlM J G R pl) (h : ∀ r : Int32, r.toInt = rtL pl x1.toInt x2.toInt R → post r) : ∀ (n k : Nat) (x3 : Int32), k ≤ R → R < n + k → x3.toInt = rtL pl x1.toInt x2.toInt k → bX5_rate_5 J G post n x1 x2 x3 (nI k) := by
  have h8 := hC.2.1
  intro n
  induction n with
  | zero => intro k x3 h1 h2; omega
  | succ n ih =>
    intro k x3 hk hn hx
    unfold bX5_rate_5
    rw [hC.1]
    refine ⟨fun c => ?_, fun c => ?_⟩
    · rw [nI_leR (by omega) h8] at c
      have : k = R := by omega
      subst this
      exact h _ hx
    · rw [nI_leR (by omega) h8] at c
      have a4 : (5 : Int32) * nI k + (4 : Int32) = nI (5 * k + 4) := i5 k 4
      refine r_matches hC (by omega) ⟨fun d v4 e4 => ?_, fun d => ?_⟩
      · rw [nB_z] at d
        rw [e4, nI_1]
        exact ih (k + 1) _ (by omega) (by omega) (by unfold rtL; rw [if_neg d]; exact hx)
      · rw [nB_z, Classical.not_not] at d
        rw [a4]
        refine ⟨vp_in_nI (by omega) (by omega), fun v6 e6 v7 e7 => ?_⟩
        rw [e7, nI_1]
        refine ih (k + 1) _ (by omega) (by omega) ?_
        unfold rtL
        rw [if_pos d, e6, nI_clamp (by omega)]
        exact (hC.2.2 k (by omega)).2.2.2.2
theorem r_rate {x1 x2 : Int32} (hC : PlM J G R pl) (h : ∀ r : Int32, r.toInt = rtL pl x1.toInt x2.toInt R → post r) : wX5_rate J G x1 x2 post :=
  ⟨R + 1, r_rate_l hC h (R + 1) 0 _ (Nat.zero_le _) (by omega) rfl⟩
end PlanM
/-- where just one row matches, first and last are one -/
theorem rt_none {pl : Nat → Nat → Int} {a z : Int} : ∀ n, cn pl a z n = 0 → rtL pl a z n = 0
  | 0, _ => rfl
  | n + 1, h => by
    unfold cn at h
    unfold rtL
    by_cases c : mt pl n a z
    · rw [if_pos c] at h; omega
    · rw [if_neg c]; rw [if_neg c] at h; exact rt_none n h
theorem rtF_skip {pl : Nat → Nat → Int} {a z : Int} : ∀ (n k m : Nat), (∀ j, k ≤ j → j < k + n → ¬ mt pl j a z) → rtF pl a z (n + m) k = rtF pl a z m (k + n)
  | 0, k, m, _ => by rw [Nat.zero_add, Nat.add_zero]
  | n + 1, k, m, h => by
    have e : n + 1 + m = (n + m) + 1 := by omega
    rw [e]
    show (if mt pl k a z then pl k 4 else rtF pl a z (n + m) (k + 1)) = _
    rw [if_neg (h k (Nat.le_refl _) (by omega)), rtF_skip n (k + 1) m (fun j h1 h2 => h j (by omega) (by omega))]
    congr 1
    omega
theorem cn_zero {pl : Nat → Nat → Int} {a z : Int} : ∀ n, cn pl a z n = 0 → ∀ j, j < n → ¬ mt pl j a z
  | 0, _, j, hj => by omega
  | n + 1, h, j, hj => by
    unfold cn at h
    by_cases c : mt pl n a z
    · rw [if_pos c] at h; omega
    · rw [if_neg c] at h
      rcases Nat.lt_or_ge j n with h1 | h1
      · exact cn_zero n h j h1
      · have : j = n := by omega
        subst this
        exact c
theorem rtF_more {pl : Nat → Nat → Int} {a z : Int} : ∀ (n k : Nat), ¬ mt pl (k + n) a z → rtF pl a z (n + 1) k = rtF pl a z n k
  | 0, k, h => by
    show (if mt pl k a z then pl k 4 else rtF pl a z 0 (k + 1)) = rtF pl a z 0 k
    have h : ¬ mt pl k a z := h
    rw [if_neg h]
    rfl
  | n + 1, k, h => by
    show (if mt pl k a z then pl k 4 else rtF pl a z (n + 1) (k + 1)) = (if mt pl k a z then pl k 4 else rtF pl a z n (k + 1))
    rw [rtF_more n (k + 1) (by rw [show k + 1 + n = k + (n + 1) by omega]; exact h)]
theorem rt_same {pl : Nat → Nat → Int} {a z : Int} : ∀ n, cn pl a z n = 1 → rtF pl a z n 0 = rtL pl a z n
  | 0, h => by unfold cn at h; omega
  | n + 1, h => by
    unfold cn at h
    by_cases c : mt pl n a z
    · rw [if_pos c] at h
      have h0 : cn pl a z n = 0 := by omega
      have e := rtF_skip (pl := pl) (a := a) (z := z) n 0 1 (fun j _ h2 => cn_zero n h0 j (by omega))
      rw [e]
      unfold rtL
      rw [if_pos c]
      show (if mt pl (0 + n) a z then pl (0 + n) 4 else _) = _
      rw [Nat.zero_add, if_pos c]
    · rw [if_neg c] at h
      unfold rtL
      rw [if_neg c, ← rt_same n (by omega)]
      exact rtF_more n 0 (by rw [Nat.zero_add]; exact c)
