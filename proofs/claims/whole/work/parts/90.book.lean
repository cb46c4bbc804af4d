/-! BOOKINGS: bk 0 b the policy, bk 1 b the day, bk 2 b the kind (0 bind, 1 change, 2 cancel, 3 reinstate), bk 3 b the fact told, bk 4 b its value. POLICIES: po 0 p start, po 1 p end (the first day behind), po 2 p the booking that bound it, po 3 .. po 5 its first facts -/
abbrev Tb : Type := Nat → Nat → Int
abbrev tells (bk : Tb) (n f : Nat) : Prop := if f = 3 then 1 < bk 2 n else bk 2 n = 0 ∨ (bk 2 n = 1 ∧ bk 3 n = f)
/-- a booking's day isn't ahead of the one that counted till now -/
def okb (bk : Tb) (o : Option Nat) (n : Nat) : Bool := match o with
  | none => true
  | some k => decide (bk 1 k ≤ bk 1 n)
/-- of the first n bookings of p that tell f from day d or an earlier one on, the one that counts -/
def ls (bk : Tb) (p d : Int) (f : Nat) : Nat → Option Nat
  | 0 => none
  | n + 1 => if bk 0 n = p ∧ bk 1 n ≤ d ∧ tells bk n f ∧ okb bk (ls bk p d f n) n = true then some n else ls bk p d f n
theorem ls_lt {bk : Tb} {p d : Int} {f : Nat} : ∀ {n k : Nat}, ls bk p d f n = some k → k < n
  | 0, k, h => by cases h
  | n + 1, k, h => by
    unfold ls at h
    split at h
    · cases h; omega
    · have := ls_lt h; omega
theorem ls_prop {bk : Tb} {p d : Int} {f : Nat} : ∀ {n k : Nat}, ls bk p d f n = some k → bk 0 k = p ∧ bk 1 k ≤ d ∧ tells bk k f
  | 0, k, h => by cases h
  | n + 1, k, h => by
    unfold ls at h
    split at h
    · rename_i c; cases h; exact ⟨c.1, c.2.1, c.2.2.1⟩
    · exact ls_prop h
def enc (o : Option Nat) : Int32 := match o with
  | none => -1
  | some k => nI k
/-- the reference's bookings -/
def BkM (G : Nat → Nat → Int32) (N : Nat) (bk : Tb) : Prop := N ≤ 40 ∧ ∀ b, b < N → (G 5 b).toInt = bk 0 b ∧ (G 6 b).toInt = bk 1 b ∧ (G 4 b).toInt = bk 2 b ∧ (G 7 b).toInt = bk 3 b
theorem up_same {G : Nat → Nat → Int32} {g h : Nat → Int32} : va_up (va_up G 9 g) 9 h = va_up G 9 h := bx_uu G 9 g h
section LookR
variable {J : Nat → Int32} {G : Nat → Nat → Int32} {N : Nat} {bk : Tb} {post : (Nat → Int32) → (Nat → Nat → Int32) → Prop}
theorem m1 : (-1 : Int32).toInt = -1 := rfl
theorem enc_neg {o : Option Nat} {n : Nat} (h : ∀ k, o = some k → k < n) (hn : n ≤ 40) : enc o < (0 : Int32) ↔ o = none := by
  cases o with
  | none => simp only [enc, tI_lt]; decide
  | some k =>
    have := h k rfl
    have e0 : (0 : Int32).toInt = 0 := rfl
    simp only [enc, tI_lt, tI_nI (show k < 2147483648 by omega), e0]
    constructor
    · intro c; omega
    · intro c; cases c
/-- the inner loop of the search: facts f .. 3 of booking k -/
theorem r_look73 (hB : BkM G N bk) {p k : Nat} {x2 x3 : Int32} (hk : k < N) {K26 : (Nat → Int32) → (Nat → Nat → Int32) → Int32 → Int32 → Int32 → Int32 → Prop} (hp : bk 0 k = p) (hd : bk 1 k ≤ x2.toInt)
    (hK : ∀ g : Nat → Int32, (∀ j, j < 4 → g j = enc (ls bk p x2.toInt j (k + 1))) → K26 J (va_up G 9 g) (nI p) x2 x3 (nI (k + 1))) :
    ∀ (n f : Nat) (g : Nat → Int32), f ≤ 4 → 4 < n + f → (∀ j, j < f → g j = enc (ls bk p x2.toInt j (k + 1))) → (∀ j, f ≤ j → j < 4 → g j = enc (ls bk p x2.toInt j k)) → bX5_look_73 K26 post n J (va_up G 9 g) (nI p) x2 x3 (nI k) (1 : Int32) (nI f) := by
  obtain ⟨hN, hv⟩ := hB
  obtain ⟨v0, v1, v2, v3⟩ := hv k hk
  have hkc : (nI k).toNatClampNeg = k := nI_clamp (by omega)
  have hin40 : vp_in (nI k) 40 := vp_in_nI (by omega) (by omega)
  have e0 : (0 : Int32).toInt = 0 := rfl
  have e1 : (1 : Int32).toInt = 1 := rfl
  have e3 : (3 : Int32).toInt = 3 := rfl
  have e4 : (4 : Int32).toInt = 4 := rfl
  intro n
  induction n with
  | zero => intro f g h1 h2; omega
  | succ n ih =>
    intro f g hf hn hlo hhi
    -- the step of one fact: what becomes of best[f]
    have step : ∀ g2 : Nat → Int32, (∀ j, j ≠ f → g2 j = g j) → (f < 4 → g2 f = enc (ls bk p x2.toInt f (k + 1))) → f < 4 → bX5_look_73 K26 post n J (va_up G 9 g2) (nI p) x2 x3 (nI k) (1 : Int32) (nI (f + 1)) := by
      intro g2 h1 h2 h4
      refine ih (f + 1) g2 (by omega) (by omega) (fun j hj => ?_) (fun j h5 h6 => ?_)
      · rcases Nat.lt_or_ge j f with c | c
        · rw [h1 j (by omega)]; exact hlo j c
        · have : j = f := by omega
          subst this
          exact h2 h4
      · rw [h1 j (by omega)]; exact hhi j (by omega) h6
    have keep : f < 4 → ¬ (tells bk k f ∧ okb bk (ls bk p x2.toInt f k) k = true) → bX5_look_73 K26 post n J (va_up G 9 g) (nI p) x2 x3 (nI k) (1 : Int32) (nI (f + 1)) := by
      intro h4 hno
      refine step g (fun _ _ => rfl) (fun _ => ?_) h4
      rw [hhi f (Nat.le_refl _) h4]
      congr 1
      conv => rhs; unfold ls
      rw [if_neg (fun c => hno ⟨c.2.2.1, c.2.2.2⟩)]
    have set : f < 4 → tells bk k f → okb bk (ls bk p x2.toInt f k) k = true → bX5_look_186 (bX5_look_73 K26 post n) post J (va_up G 9 g) (nI p) x2 x3 (nI k) (1 : Int32) (nI f) := by
      intro h4 ht ho
      unfold bX5_look_186
      refine ⟨vp_in_nI (by omega) (by omega), fun F1 e5 v3 e6 => ?_⟩
      rw [e5, e6, nI_1]
      have e7 : va_up (va_up G 9 g) 9 (upd ((va_up G 9 g) 9) (nI f).toNatClampNeg (nI k)) = va_up G 9 (upd g f (nI k)) := by
        rw [up_same, nI_clamp (by omega)]; rfl
      rw [e7]
      refine step _ (fun j hj => pk_un hj) (fun _ => ?_) h4
      rw [pk_us]
      conv => rhs; unfold ls
      rw [if_pos ⟨hp, hd, ht, ho⟩]
      rfl
    have tl : f < 4 → ∀ y0 : Int32, (¬ y0 = (0 : Int32) ↔ tells bk k f) → bX5_look_147 (bX5_look_73 K26 post n) post J (va_up G 9 g) (nI p) x2 x3 (nI k) (1 : Int32) (nI f) y0 := by
      intro h4 y0 hy
      unfold bX5_look_147
      have hfc : (nI f).toNatClampNeg = f := nI_clamp (by omega)
      have hg : (va_up G 9 g) 9 f = enc (ls bk p x2.toInt f k) := hhi f (Nat.le_refl _) h4
      refine ⟨fun c v5 e5 => ?_, fun c => ⟨vp_in_nI (by omega) (by omega), ?_⟩⟩
      · rw [e5, nI_1]
        exact keep h4 (fun d => (hy.mpr d.1) c)
      · rw [hfc, hg, enc_neg (n := k) (fun j hj => ls_lt hj) (by omega)]
        refine ⟨fun c2 => ?_, fun c2 => ⟨hin40, vp_in_nI (by omega) (by omega), ?_⟩⟩
        · exact set h4 (hy.mp c) (by rw [c2]; rfl)
        · cases hq : ls bk p x2.toInt f k with
          | none => exact absurd hq c2
          | some q =>
            have hql := ls_lt hq
            have hqc : (enc (some q)).toNatClampNeg = q := nI_clamp (by omega)
            have w1 : (va_up G 9 g) 6 q = G 6 q := rfl
            have w2 : (va_up G 9 g) 6 k = G 6 k := rfl
            refine ⟨vp_in_nI (by omega) (by omega), ?_⟩
            rw [hqc, hkc, w1, w2, tI_lt, v1, (hv q (by omega)).2.1]
            refine ⟨fun c3 v12 e12 => ?_, fun c3 => ?_⟩
            · rw [e12, nI_1]
              exact keep h4 (fun d => by rw [hq] at d; have := of_decide_eq_true d.2; omega)
            · exact set h4 (hy.mp c) (by rw [hq]; exact decide_eq_true (by omega))
    unfold bX5_look_73
    rw [tI_le, e4, tI_nI (by omega)]
    refine ⟨fun c v14 e14 => ?_, fun c => ⟨fun c2 => absurd c2 (by decide), fun _ => ⟨fun c3 => ⟨hin40, ?_⟩, fun c3 => ⟨hin40, ?_⟩⟩⟩⟩
    · rw [e14, nI_1]
      exact hK g (fun j hj => hlo j (by omega))
    · have hf3 : ¬ f = 3 := fun q => c3 (by rw [q]; rfl)
      have w4 : (va_up G 9 g) 4 k = G 4 k := rfl
      have w7 : (va_up G 9 g) 7 k = G 7 k := rfl
      rw [hkc, w4, w7]
      refine ⟨fun d => ?_, fun d => ⟨hin40, fun d2 => ?_, fun d2 => ⟨hin40, fun d3 => ?_, fun d3 => ?_⟩⟩⟩
      · rw [tI_eq, e0, v2] at d
        exact tl (by omega) _ ⟨fun _ => by unfold tells; rw [if_neg hf3]; exact Or.inl d, fun _ => by decide⟩
      · rw [tI_eq, e0, v2] at d; rw [tI_eq, e1, v2] at d2
        exact tl (by omega) _ ⟨fun q => absurd rfl q, fun q => by unfold tells at q; rw [if_neg hf3] at q; omega⟩
      · rw [tI_eq, e0, v2] at d; rw [tI_eq, e1, v2] at d2; rw [tI_eq, v3, tI_nI (by omega)] at d3
        exact tl (by omega) _ ⟨fun q => absurd rfl q, fun q => by unfold tells at q; rw [if_neg hf3] at q; omega⟩
      · rw [tI_eq, e1, v2] at d2; rw [tI_eq, v3, tI_nI (by omega)] at d3
        exact tl (by omega) _ ⟨fun _ => by unfold tells; rw [if_neg hf3]; exact Or.inr ⟨d2, d3⟩, fun _ => by decide⟩
    · have hf3 : f = 3 := by rw [tI_eq, e3, tI_nI (by omega)] at c3; omega
      have w4 : (va_up G 9 g) 4 k = G 4 k := rfl
      rw [hkc, w4, tI_le, e1, v2]
      refine ⟨fun d => ?_, fun d => ?_⟩
      · exact tl (by omega) _ ⟨fun q => absurd rfl q, fun q => by unfold tells at q; rw [if_pos hf3] at q; omega⟩
      · exact tl (by omega) _ ⟨fun _ => by unfold tells; rw [if_pos hf3]; omega, fun _ => by decide⟩
/-- the outer loop -/
theorem r_look26 (hB : BkM G N bk) (hJ : J 3 = nI N) {p n0 : Nat} {x2 x3 : Int32} (hp : p < 6) (hn0 : (n0 : Int) = max 0 (min (N : Int) (x3.toInt + 1)))
    (h : ∀ g : Nat → Int32, (∀ j, j < 4 → g j = enc (ls bk p x2.toInt j n0)) → post J (va_up G 9 g)) :
    ∀ (n k : Nat) (g : Nat → Int32), k ≤ n0 → n0 < n + k → (∀ j, j < 4 → g j = enc (ls bk p x2.toInt j k)) → bX5_look_26 post n J (va_up G 9 g) (nI p) x2 x3 (nI k) := by
  obtain ⟨hN, hv⟩ := id hB
  have hx3 := tI_rng x3
  intro n
  induction n with
  | zero => intro k g h1 h2; omega
  | succ n ih =>
    intro k g hk hn hg
    unfold bX5_look_26
    rw [hJ, tI_le, tI_lt, tI_nI (by omega), tI_nI (by omega)]
    have fin : k = n0 → post J (va_up G 9 g) := fun e => by subst e; exact h g hg
    refine ⟨fun c => fin (by omega), fun c => ⟨fun c2 => fin (by omega), fun c2 => ⟨vp_in_nI (by omega) (by omega), ?_⟩⟩⟩
    have hkc : (nI k).toNatClampNeg = k := nI_clamp (by omega)
    obtain ⟨v0, v1, v2, v3⟩ := hv k (by omega)
    have w5 : (va_up G 9 g) 5 k = G 5 k := rfl
    have w6 : (va_up G 9 g) 6 k = G 6 k := rfl
    have e4 : (4 : Int32).toInt = 4 := rfl
    have skip : ¬ (bk 0 k = p ∧ bk 1 k ≤ x2.toInt) → ∃ n73 : Nat, bX5_look_73 (bX5_look_26 post n) post n73 J (va_up G 9 g) (nI p) x2 x3 (nI k) (0 : Int32) (0 : Int32) := by
      intro hno
      refine ⟨1, ?_⟩
      unfold bX5_look_73
      refine ⟨fun c3 => absurd c3 (by decide), fun _ => ⟨fun _ v16 e16 => ?_, fun c3 => absurd rfl c3⟩⟩
      rw [e16, nI_1]
      refine ih (k + 1) g (by omega) (by omega) (fun j hj => ?_)
      rw [hg j hj]
      congr 1
      conv => rhs; unfold ls
      rw [if_neg (fun c => hno ⟨c.1, c.2.1⟩)]
    rw [hkc, w5, w6, tI_eq, v0, tI_nI (by omega), tI_lt, v1]
    refine ⟨fun d => skip (fun q => d q.1), fun d => ⟨vp_in_nI (by omega) (by omega), fun d2 => skip (fun q => by omega), fun d2 => ?_⟩⟩
    exact ⟨5, r_look73 hB (by omega) d (by omega) (fun g2 hg2 => ih (k + 1) g2 (by omega) (by omega) hg2) 5 0 g (by omega) (by omega) (fun j hj => by omega) (fun j _ hj => hg j hj)⟩
theorem r_look3 (hB : BkM G N bk) (hJ : J 3 = nI N) {p n0 : Nat} {x2 x3 : Int32} (hp : p < 6) (hn0 : (n0 : Int) = max 0 (min (N : Int) (x3.toInt + 1)))
    (h : ∀ g : Nat → Int32, (∀ j, j < 4 → g j = enc (ls bk p x2.toInt j n0)) → post J (va_up G 9 g)) :
    ∀ (n f : Nat) (g : Nat → Int32), f ≤ 4 → 4 < n + f → (∀ j, j < f → g j = -1) → bX5_look_3 post n J (va_up G 9 g) (nI p) x2 x3 (nI f) := by
  have e4 : (4 : Int32).toInt = 4 := rfl
  intro n
  induction n with
  | zero => intro f g h1 h2; omega
  | succ n ih =>
    intro f g hf hn hg
    unfold bX5_look_3
    rw [tI_le, e4, tI_nI (by omega)]
    refine ⟨fun c => ⟨n0 + 1, ?_⟩, fun c => ⟨vp_in_nI (by omega) (by omega), fun F33 e33 v35 e35 => ?_⟩⟩
    · exact r_look26 hB hJ hp hn0 h (n0 + 1) 0 g (Nat.zero_le _) (by omega) (fun j hj => hg j (by omega))
    · have e7 : va_up (va_up G 9 g) 9 (upd ((va_up G 9 g) 9) (nI f).toNatClampNeg (-1)) = va_up G 9 (upd g f (-1)) := by
        rw [up_same, nI_clamp (by omega)]; rfl
      rw [e33, e35, nI_1, e7]
      refine ih (f + 1) _ (by omega) (by omega) (fun j hj => ?_)
      rcases Nat.lt_or_ge j f with c2 | c2
      · rw [pk_un (by omega)]; exact hg j c2
      · have : j = f := by omega
        subst this
        exact pk_us
theorem up_id (G : Nat → Nat → Int32) : va_up G 9 (G 9) = G := by
  funext j
  unfold va_up
  split
  · rename_i h; rw [h]
  · rfl
/-- what the reference's search leaves -/
theorem r_look (hB : BkM G N bk) (hJ : J 3 = nI N) {p n0 : Nat} {x2 x3 : Int32} (hp : p < 6) (hn0 : (n0 : Int) = max 0 (min (N : Int) (x3.toInt + 1)))
    (h : ∀ g : Nat → Int32, (∀ j, j < 4 → g j = enc (ls bk p x2.toInt j n0)) → post J (va_up G 9 g)) : wX5_look J G (nI p) x2 x3 post := by
  refine ⟨5, ?_⟩
  have := r_look3 hB hJ (x2 := x2) (x3 := x3) hp hn0 h 5 0 (G 9) (by omega) (by omega) (fun j hj => by omega)
  rw [up_id] at this
  exact this
end LookR
