/-! THE PREMIUM, THE CLASS's SIDE: spans of days with one charge -/
/-- the bookings of p with a day behind x, among the first n -/
def cg (bk : Tb) (p : Nat) (x : Int) : Nat → Nat
  | 0 => 0
  | n + 1 => cg bk p x n + (if bk 0 n = p ∧ x < bk 1 n then 1 else 0)
theorem cg_le {bk : Tb} {p : Nat} {x : Int} : ∀ n, cg bk p x n ≤ n
  | 0 => Nat.le_refl _
  | n + 1 => by
    have := cg_le (bk := bk) (p := p) (x := x) n
    unfold cg
    split <;> omega
theorem cg_less {bk : Tb} {p b : Nat} {x : Int} (hb : bk 1 b ≤ x) : ∀ n, b < n → cg bk p x n + 1 ≤ n
  | 0, h => by omega
  | n + 1, h => by
    unfold cg
    rcases (show b < n ∨ b = n by omega) with h1 | h1
    · have := cg_less (bk := bk) (p := p) hb n h1
      split <;> omega
    · subst h1
      have := cg_le (bk := bk) (p := p) (x := x) b
      rw [if_neg (fun q => by have := q.2; omega)]
      omega
theorem cg_mono {bk : Tb} {p : Nat} {x y : Int} (h : x ≤ y) : ∀ n, cg bk p y n ≤ cg bk p x n
  | 0 => Nat.le_refl _
  | n + 1 => by
    have := cg_mono (bk := bk) (p := p) h n
    unfold cg
    by_cases c : bk 0 n = p ∧ y < bk 1 n
    · rw [if_pos c, if_pos ⟨c.1, by have := c.2; omega⟩]; omega
    · rw [if_neg c]; split <;> omega
theorem cg_drop {bk : Tb} {p k : Nat} {x y : Int} (h : x ≤ y) (hk : bk 0 k = p) (h1 : x < bk 1 k) (h2 : bk 1 k ≤ y) : ∀ n, k < n → cg bk p y n + 1 ≤ cg bk p x n
  | 0, hn => by omega
  | n + 1, hn => by
    unfold cg
    rcases (show k < n ∨ k = n by omega) with c | c
    · have := cg_drop h hk h1 h2 n c
      by_cases d : bk 0 n = p ∧ y < bk 1 n
      · rw [if_pos d, if_pos ⟨d.1, by have := d.2; omega⟩]; omega
      · rw [if_neg d]; split <;> omega
    · subst c
      have := cg_mono (bk := bk) (p := p) h k
      rw [if_neg (fun q => by have := q.2; omega), if_pos ⟨hk, h1⟩]
      omega
/-- where no booking of p lies between, what counts is the same -/
theorem ls_const {bk : Tb} {p f : Nat} {x y : Int} (hxy : x ≤ y) : ∀ n, (∀ k, k < n → bk 0 k = p → x < bk 1 k → y < bk 1 k) → ls bk p y f n = ls bk p x f n
  | 0, _ => rfl
  | n + 1, h => by
    have e := ls_const (bk := bk) (p := p) (f := f) hxy n (fun k hk => h k (by omega))
    unfold ls
    rw [e]
    have hc : (bk 0 n = p ∧ bk 1 n ≤ y ∧ tells bk n f ∧ okb bk (ls bk p x f n) n = true) ↔ (bk 0 n = p ∧ bk 1 n ≤ x ∧ tells bk n f ∧ okb bk (ls bk p x f n) n = true) := by
      constructor
      · rintro ⟨a, b, c, d⟩
        refine ⟨a, ?_, c, d⟩
        rcases (show bk 1 n ≤ x ∨ x < bk 1 n by omega) with q | q
        · exact q
        · have := h n (by omega) a q; omega
      · rintro ⟨a, b, c, d⟩
        exact ⟨a, by omega, c, d⟩
    by_cases c : bk 0 n = p ∧ bk 1 n ≤ x ∧ tells bk n f ∧ okb bk (ls bk p x f n) n = true
    · rw [if_pos c, if_pos (hc.mpr c)]
    · rw [if_neg c, if_neg (fun q => c (hc.mp q))]
theorem chA_const {bk po pl : Tb} {R p n : Nat} {x y : Int} (hxy : x ≤ y) (h : ∀ k, k < n → bk 0 k = p → x < bk 1 k → y < bk 1 k) : chA bk po pl R p n y = chA bk po pl R p n x := by
  unfold chA rnA vA
  rw [ls_const hxy n h, ls_const hxy n h, ls_const hxy n h, ls_const hxy n h]
theorem sm_span {c : Int → Int} {a : Int} {v : Int} {k : Nat} : ∀ (m : Nat), (∀ j, j < m → c (a + ((k + j : Nat) : Int)) = v) → sm c a (k + m) = sm c a k + m * v
  | 0, _ => by simp
  | m + 1, h => by
    have e := sm_span m (fun j hj => h j (by omega))
    have h1 := h m (by omega)
    show sm c a (k + m) + c (a + ((k + m : Nat) : Int)) = _
    rw [e, h1, Int.natCast_add, Int.add_mul]
    simp
    omega
/-- what the search for the next told day answers -/
def isNx (bk po : Tb) (p n : Nat) (x r : Int) : Prop := r ≤ po 1 p ∧ (∀ k, k < n → bk 0 k = p → x < bk 1 k → r ≤ bk 1 k) ∧ (r = po 1 p ∨ ∃ k, k < n ∧ bk 0 k = p ∧ x < bk 1 k ∧ r = bk 1 k)
section ClsP
variable {I : Nat → Int32} {F : Nat → Nat → Int32} {N P R : Nat} {bk po pl : Tb} {post : Int32 → Prop}
theorem m_next_l {p n : Nat} {x2 : Int32} (hC : BkC F N bk) (h6 : P ≤ 6) (hp : p < P) (hn : n ≤ N) (h : ∀ r : Int32, isNx bk po p n x2.toInt r.toInt → post r) :
    ∀ (m k : Nat) (x4 : Int32), k ≤ n → n < m + k → isNx bk po p k x2.toInt x4.toInt → bX2_nextToldDay_18 I F post m (nI p) x2 (nI n) x4 (nI k) := by
  have hN := hC.1
  intro m
  induction m with
  | zero => intro k x4 a b; omega
  | succ m ih =>
    intro k x4 hk hm hx4
    unfold bX2_nextToldDay_18
    rw [tI_le, tI_nI (by omega), tI_nI (by omega)]
    refine ⟨fun c => ?_, fun c => ?_⟩
    · have : k = n := by omega
      subst this
      exact h _ hx4
    · have hin : vp_in (nI k) 40 := vp_in_nI (by omega) (by omega)
      have hkc : (nI k).toNatClampNeg = k := nI_clamp (by omega)
      obtain ⟨w0, w1, w2, w3⟩ := hC.2 k (by omega)
      obtain ⟨n1, n2, n3⟩ := hx4
      have keep : ¬ (bk 0 k = p ∧ x2.toInt < bk 1 k) → ∀ v : Int32, v = nI k + (1 : Int32) → bX2_nextToldDay_18 I F post m (nI p) x2 (nI n) x4 v := by
        intro hno v ev
        rw [ev, nI_1]
        refine ih (k + 1) x4 (by omega) (by omega) ⟨n1, fun j hj hjp hjx => ?_, ?_⟩
        · rcases (show j < k ∨ j = k by omega) with q | q
          · exact n2 j q hjp hjx
          · subst q; exact absurd ⟨hjp, hjx⟩ hno
        · rcases n3 with q | ⟨j, q1, q2⟩
          · exact Or.inl q
          · exact Or.inr ⟨j, by omega, q2⟩
      refine ⟨hin, ?_⟩
      rw [hkc, tI_eq (F 14 k), w0, tI_nI (by omega)]
      refine ⟨fun d => keep (fun q => d q.1), fun d => ⟨hin, ?_⟩⟩
      rw [tI_le, w1]
      refine ⟨fun d2 => keep (fun q => by have := q.2; omega), fun d2 => ⟨hin, fun v9 e9 v10 e10 => ?_⟩⟩
      rw [e10, nI_1]
      have hv : v9.toInt = min (bk 1 k) x4.toInt := by
        rw [e9]
        split
        · rename_i q; rw [tI_lt, w1] at q; rw [w1]; omega
        · rename_i q; rw [tI_lt, w1] at q; omega
      refine ih (k + 1) v9 (by omega) (by omega) ⟨by omega, fun j hj hjp hjx => ?_, ?_⟩
      · rcases (show j < k ∨ j = k by omega) with q | q
        · have := n2 j q hjp hjx; omega
        · subst q; omega
      · rcases (show bk 1 k ≤ x4.toInt ∨ x4.toInt < bk 1 k by omega) with q | q
        · exact Or.inr ⟨k, by omega, d, by omega, by omega⟩
        · rcases n3 with r | ⟨j, r1, r2, r3, r4⟩
          · exact Or.inl (by omega)
          · exact Or.inr ⟨j, by omega, r2, r3, by omega⟩
theorem m_next {p n : Nat} {x2 : Int32} (hB : WfB N P bk po) (hO : WfO N P bk po) (hC : BkC F N bk) (hP : PoC F P po) (hp : p < P) (hn : n ≤ N) (hbb : po 2 p < n) (hd : po 0 p ≤ x2.toInt) (h : ∀ r : Int32, isNx bk po p n x2.toInt r.toInt → post r) : wX2_nextToldDay I F (nI p) x2 (nI n) post := by
  have hP6 := hO.1
  have hN := hC.1
  obtain ⟨v0, v1, v2, v3, v4⟩ := hP p hp
  obtain ⟨o1, o2, o3, o4, ⟨b, hb, q1, q2, q3, q4⟩, o6, o7, o8⟩ := hO.2 p hp
  unfold wX2_nextToldDay
  have hin : vp_in (nI p) 6 := vp_in_nI (by omega) (by omega)
  rw [nI_clamp (by omega)]
  refine ⟨hin, fun v12 e12 => ⟨hin, fun v14 e14 => ⟨n + 1, ?_⟩⟩⟩
  have e14' : v14 = nI (b + 1) := by
    rw [e14, ← nI_1]
    congr 1
    rw [tI_eq, v2, q1, tI_nI (by omega)]
  rw [e14']
  refine m_next_l hC hP6 hp hn h (n + 1) (b + 1) v12 (by omega) (by omega) ⟨by rw [e12, v1]; omega, fun k hk hkp hkx => ?_, Or.inl (by rw [e12, v1])⟩
  exfalso
  obtain ⟨p', hp', g1, g2, g3, g4, -⟩ := hB k (by omega)
  have : p' = p := by omega
  subst this
  have : k = b := by omega
  subst this
  omega
theorem m_prem_l {p n : Nat} {x4 : Int32} (hM : CM I F R N P pl bk po) (hp : p < P) (hn : n ≤ N) (hbb : po 2 p < n) (hx4 : x4.toInt ≤ po 1 p) (D : Nat) (hD : (D : Int) = max 0 (x4.toInt - po 0 p)) (h : ∀ r : Int32, r.toInt = sm (chA bk po pl R p n) (po 0 p) D / 1000 → post r) :
    ∀ (m k sp : Nat) (x5 x6 : Int32), k ≤ D → x5.toInt = po 0 p + k → x6.toInt = sm (chA bk po pl R p n) (po 0 p) k → sp + cg bk p x5.toInt n + 1 ≤ n → n ≤ m + sp → bX2_premiumBefore_38 I F post (m + 1) (nI p) (nI n) x4 x5 x6 (nI sp) := by
  obtain ⟨h1, h2, h3, h4, h5, h6, h7⟩ := id hM
  have hP6 := h7.1
  have hN := h4.1
  obtain ⟨o1, o2, o3, o4, -⟩ := h7.2 p hp
  have eK : (1000 : Int32).toInt = 1000 := rfl
  intro m
  induction m with
  | zero => intro k sp x5 x6 a b c d e; omega
  | succ m ih =>
    intro k sp x5 x6 hk hx5 hx6 hsp hm
    unfold bX2_premiumBefore_38
    rw [tI_le, tI_nI (by omega), tI_nI (by omega), tI_le, hx5]
    have hs := sm_le (k := k) h2 h6 h7 hp hn (by omega)
    refine ⟨fun c => by omega, fun c => ⟨fun c2 => ?_, fun c2 => ?_⟩⟩
    · refine h _ ?_
      have : k = D := by omega
      rw [tI_div (by rw [hx6]; omega), eK, hx6, Int.tdiv_eq_ediv_of_nonneg hs.1, this]
    · refine m_next h6 h7 h4 h5 hp hn hbb (by omega) (fun r3 hr3 v4 e4 => ?_)
      obtain ⟨n1, n2, n3⟩ := hr3
      rw [hx5] at n2 n3
      have hr : po 0 p + k < r3.toInt := by
        rcases n3 with q | ⟨j, j1, j2, j3, j4⟩
        · omega
        · omega
      have hv4 : v4.toInt = min x4.toInt r3.toInt := by
        rw [e4]
        split
        · rename_i q; rw [tI_lt] at q; omega
        · rename_i q; rw [tI_lt] at q; omega
      refine m_chargeOn hM hp hn hbb (by omega) (fun r5 hr5 v6 e6 v7 e7 => ?_)
      rw [e7, nI_1]
      rw [hx5] at hr5
      obtain ⟨t, ht⟩ : ∃ t : Nat, v4.toInt = po 0 p + ((k + t : Nat) : Int) := ⟨(v4.toInt - po 0 p - k).toNat, by omega⟩
      have hspan : sm (chA bk po pl R p n) (po 0 p) (k + t) = sm (chA bk po pl R p n) (po 0 p) k + t * chA bk po pl R p n (po 0 p + k) := by
        refine sm_span t (fun j hj => ?_)
        refine chA_const (by omega) (fun q hq hqp hqx => ?_)
        have := n2 q hq hqp hqx
        omega
      have hs2 := sm_le (k := k + t) h2 h6 h7 hp hn (by omega)
      have hc := chA_rng (d := po 0 p + k) h2 h6 h7 hp hn
      have hsub : (v4 - x5).toInt = t := by rw [tI_sub (by rw [hx5]; omega) (by rw [hx5]; omega), hx5]; omega
      have hmul : ((v4 - x5) * r5).toInt = t * chA bk po pl R p n (po 0 p + k) := by
        have b1 : 0 ≤ (t : Int) * chA bk po pl R p n (po 0 p + k) := Int.mul_nonneg (by omega) hc.1
        rw [tI_mul (by rw [hsub, hr5]; omega) (by rw [hsub, hr5]; omega), hsub, hr5]
      have hv6 : v6.toInt = sm (chA bk po pl R p n) (po 0 p) (k + t) := by
        have b1 : 0 ≤ (t : Int) * chA bk po pl R p n (po 0 p + k) := Int.mul_nonneg (by omega) hc.1
        rw [e6, tI_add (by rw [hx6, hmul]; omega) (by rw [hx6, hmul]; omega), hx6, hmul, hspan]
      rcases (show v4.toInt = x4.toInt ∨ (v4.toInt = r3.toInt ∧ r3.toInt < x4.toInt) by omega) with q | ⟨q, q2⟩
      · -- the last span: whatever span count comes, the loop ends
        unfold bX2_premiumBefore_38
        have fin : post (v6 / (1000 : Int32)) := by
          refine h _ ?_
          have : k + t = D := by clear n3 n2; omega
          rw [tI_div (by rw [hv6]; omega), eK, hv6, Int.tdiv_eq_ediv_of_nonneg hs2.1, this]
        rw [tI_le x4, q]
        exact ⟨fun _ => fin, fun _ => ⟨fun _ => fin, fun c5 => absurd (Int.le_refl _) c5⟩⟩
      · refine ih (k + t) (sp + 1) v4 v6 (by omega) ht hv6 ?_ (by omega)
        rcases n3 with z | ⟨j, j1, j2, j3, j4⟩
        · omega
        · have := cg_drop (bk := bk) (p := p) (k := j) (x := x5.toInt) (y := v4.toInt) (by omega) j2 (by omega) (by omega) n j1
          omega
theorem m_premiumBefore {p n : Nat} {x2 : Int32} (hM : CM I F R N P pl bk po) (hp : p < P) (hn : n ≤ N) (h : ∀ r : Int32, r.toInt = pmA bk po pl R p n x2.toInt → post r) : wX2_premiumBefore I F (nI p) x2 (nI n) post := by
  obtain ⟨h1, h2, h3, h4, h5, h6, h7⟩ := id hM
  have hP6 := h7.1
  have hN := h4.1
  obtain ⟨o1, o2, o3, o4, ⟨b, hb, q1, q2, q3, q4⟩, -⟩ := h7.2 p hp
  obtain ⟨v0, v1, v2, -⟩ := h5 p hp
  unfold wX2_premiumBefore
  have hin : vp_in (nI p) 6 := vp_in_nI (by omega) (by omega)
  refine m_isBound h5 hp hP6 (by omega) ⟨fun c => ?_, fun c => ?_⟩
  · rw [nB_z, Classical.not_not] at c
    rw [nI_clamp (by omega)]
    refine ⟨hin, fun v11 e11 => ⟨hin, fun v13 e13 => ⟨n + 1, ?_⟩⟩⟩
    have hv11 : v11.toInt = min x2.toInt (po 1 p) := by
      rw [e11]
      split
      · rename_i q; rw [tI_lt, v1] at q; rw [v1]; omega
      · rename_i q; rw [tI_lt, v1] at q; omega
    have hv13 : v13.toInt = po 0 p := by rw [e13, v0]
    have hcg := cg_less (bk := bk) (p := p) (b := b) (x := v13.toInt) (by omega) n (by omega)
    exact m_prem_l hM hp hn c (by omega) (dys po p x2.toInt) (by unfold dys; omega) h n 0 0 v13 (0 : Int32) (by omega) (by omega) rfl (by omega) (by omega)
  · rw [nB_z] at c
    refine h _ ?_
    unfold pmA
    have hz : ∀ k, sm (chA bk po pl R p n) (po 0 p) k = 0 := by
      intro k
      induction k with
      | zero => rfl
      | succ k ih =>
        unfold sm
        rw [ih]
        unfold chA
        rw [if_neg]
        · rfl
        · intro q
          have := q.1
          rw [ls_before h6 hn (by omega)] at this
          cases this
    rw [hz]
    rfl
end ClsP
