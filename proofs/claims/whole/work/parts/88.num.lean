/-! NUMBERS: whole numbers of 32 bits by their values -/
theorem tI_lt (x y : Int32) : x < y ↔ x.toInt < y.toInt := Int32.lt_iff_toInt_lt
theorem tI_le (x y : Int32) : x ≤ y ↔ x.toInt ≤ y.toInt := Int32.le_iff_toInt_le
theorem tI_eq (x y : Int32) : x = y ↔ x.toInt = y.toInt := ⟨fun h => by rw [h], fun h => Int32.toInt_inj.mp h⟩
theorem tI_rng (x : Int32) : -2147483648 ≤ x.toInt ∧ x.toInt < 2147483648 := ⟨Int32.le_toInt x, Int32.toInt_lt x⟩
theorem tI_add {x y : Int32} (h1 : -2147483648 ≤ x.toInt + y.toInt) (h2 : x.toInt + y.toInt < 2147483648) : (x + y).toInt = x.toInt + y.toInt := by
  rw [Int32.toInt_add]; exact Int.bmod_eq_of_le (by omega) (by omega)
theorem tI_sub {x y : Int32} (h1 : -2147483648 ≤ x.toInt - y.toInt) (h2 : x.toInt - y.toInt < 2147483648) : (x - y).toInt = x.toInt - y.toInt := by
  rw [Int32.toInt_sub]; exact Int.bmod_eq_of_le (by omega) (by omega)
theorem tI_mul {x y : Int32} (h1 : -2147483648 ≤ x.toInt * y.toInt) (h2 : x.toInt * y.toInt < 2147483648) : (x * y).toInt = x.toInt * y.toInt := by
  rw [Int32.toInt_mul]; exact Int.bmod_eq_of_le (by omega) (by omega)
theorem tI_neg {x : Int32} (h : -2147483648 < x.toInt) : (-x).toInt = -x.toInt := by
  have := tI_rng x
  rw [Int32.toInt_neg]; exact Int.bmod_eq_of_le (by omega) (by omega)
theorem tI_div {x y : Int32} (h : -2147483648 < x.toInt) : (x / y).toInt = x.toInt.tdiv y.toInt := by
  have hx := tI_rng x
  rw [Int32.toInt_div]
  have h1 : (x.toInt.tdiv y.toInt).natAbs ≤ x.toInt.natAbs := Int.natAbs_tdiv_le_natAbs x.toInt y.toInt
  exact Int.bmod_eq_of_le (by omega) (by omega)
theorem tI_nI {n : Nat} (h : n < 2147483648) : (nI n).toInt = (n : Int) := nI_toInt h
theorem nB_t {q : Prop} [Decidable q] (h : q) : nB q = 1 := if_pos h
theorem nB_f {q : Prop} [Decidable q] (h : ¬ q) : nB q = 0 := if_neg h
theorem nB_nar (q : Prop) [Decidable q] : narrow FieldType.boolean (.int (nB q)) = .int (nB q) := by
  by_cases h : q
  · rw [nB_t h]; rfl
  · rw [nB_f h]; rfl
theorem nB_z {q : Prop} [Decidable q] : nB q = 0 ↔ ¬ q := by
  by_cases h : q
  · rw [nB_t h]; simp [h]
  · rw [nB_f h]; simp [h]
theorem nB_o {q : Prop} [Decidable q] : nB q = 1 ↔ q := by
  by_cases h : q
  · rw [nB_t h]; simp [h]
  · rw [nB_f h]; simp [h]
theorem nB_iff {q q2 : Prop} [Decidable q] [Decidable q2] (h : q ↔ q2) : nB q = nB q2 := by
  by_cases c : q
  · rw [nB_t c, nB_t (h.mp c)]
  · rw [nB_f c, nB_f (fun d => c (h.mpr d))]
/-- a post at an answer that is the one it wants -/
theorem p_at {α : Type} {post : α → Prop} {a b : α} (h : post a) (e : a = b) : post b := e ▸ h
/-! the statics -/
theorem m_isWithin {x0 x1 x2 : Int32} {post : Int32 → Prop} (h : post (nB (x0.toInt ≤ x1.toInt ∧ x1.toInt ≤ x2.toInt))) : wX4_isWithin x0 x1 x2 post := by
  unfold wX4_isWithin
  simp only [tI_lt, tI_le]
  refine ⟨fun c => p_at h (nB_f (by omega)), fun c => ⟨fun c2 => p_at h (nB_f (by omega)), fun c2 => p_at h (nB_t (by omega))⟩⟩
theorem m_isSpan {x0 x1 x2 : Int32} {post : Int32 → Prop} (h : post (nB (0 ≤ x0.toInt ∧ x0.toInt ≤ x1.toInt ∧ x1.toInt ≤ x2.toInt))) : wX4_isSpan x0 x1 x2 post := by
  unfold wX4_isSpan
  have e0 : (0 : Int32).toInt = 0 := rfl
  simp only [tI_lt, tI_le, e0]
  exact ⟨fun c => p_at h (nB_f (by omega)), fun c => ⟨fun c2 => p_at h (nB_f (by omega)), fun c2 => ⟨fun c3 => p_at h (nB_f (by omega)), fun c3 => p_at h (nB_t (by omega))⟩⟩⟩
theorem m_isIndex {x0 x1 : Int32} {post : Int32 → Prop} (h : post (nB (0 ≤ x0.toInt ∧ x0.toInt < x1.toInt))) : wX4_isIndex x0 x1 post := by
  unfold wX4_isIndex
  have e0 : (0 : Int32).toInt = 0 := rfl
  simp only [tI_lt, tI_le, e0]
  exact ⟨fun c => p_at h (nB_f (by omega)), fun c => ⟨fun c2 => p_at h (nB_f (by omega)), fun c2 => p_at h (nB_t (by omega))⟩⟩
theorem m_isDay {x0 : Int32} {post : Int32 → Prop} (h : post (nB (0 ≤ x0.toInt ∧ x0.toInt < 1000))) : wX4_isDay x0 post := by
  unfold wX4_isDay
  exact m_isIndex ⟨nB_nar _, h⟩
/-- is a number a value of a fact -/
abbrev okv (f v : Int) : Prop := (f = 0 ∧ 0 ≤ v ∧ v ≤ 49) ∨ (f = 1 ∧ 0 ≤ v ∧ v ≤ 9) ∨ (f = 2 ∧ 1 ≤ v ∧ v ≤ 999)
theorem m_isValueOf {x0 x1 : Int32} {post : Int32 → Prop} (h : post (nB (okv x0.toInt x1.toInt))) : wX4_isValueOf x0 x1 post := by
  unfold wX4_isValueOf
  have e0 : (0 : Int32).toInt = 0 := rfl
  have e1 : (1 : Int32).toInt = 1 := rfl
  have e2 : (2 : Int32).toInt = 2 := rfl
  have e49 : (49 : Int32).toInt = 49 := rfl
  have e9 : (9 : Int32).toInt = 9 := rfl
  have e999 : (999 : Int32).toInt = 999 := rfl
  refine ⟨fun c => m_isWithin ⟨nB_nar _, p_at h ?_⟩, fun c => m_isWithin ⟨nB_nar _, p_at h ?_⟩, fun c => m_isWithin ⟨nB_nar _, p_at h ?_⟩, fun c c2 c3 => p_at h (nB_f ?_)⟩
  · rw [e0, e49]; subst c; exact nB_iff (by rw [e0]; omega)
  · rw [e0, e9]; subst c; exact nB_iff (by rw [e1]; omega)
  · rw [e1, e999]; subst c; exact nB_iff (by rw [e2]; omega)
  · rw [tI_eq, e0] at c; rw [tI_eq, e1] at c2; rw [tI_eq, e2] at c3; omega
theorem m_outside {x0 x1 x2 : Int32} {post : Int32 → Prop} (h : post (nB (¬ (x1.toInt ≤ x0.toInt ∧ x0.toInt ≤ x2.toInt)))) : wX5_outside x0 x1 x2 post := by
  unfold wX5_outside
  simp only [tI_lt, tI_le]
  exact ⟨fun c => p_at h (nB_t (by omega)), fun c => ⟨fun c2 => p_at h (nB_f (by omega)), fun c2 => p_at h (nB_t (by omega))⟩⟩
theorem m_isValue {x0 x1 : Int32} {post : Int32 → Prop} (h0 : 0 ≤ x0.toInt) (h1 : x0.toInt ≤ 2) (h : post (nB (okv x0.toInt x1.toInt))) : wX5_isValue x0 x1 post := by
  unfold wX5_isValue
  have e0 : (0 : Int32).toInt = 0 := rfl
  have e1 : (1 : Int32).toInt = 1 := rfl
  have e49 : (49 : Int32).toInt = 49 := rfl
  have e9 : (9 : Int32).toInt = 9 := rfl
  have e999 : (999 : Int32).toInt = 999 := rfl
  simp only [tI_eq x0, e0, e1]
  refine ⟨fun c => ⟨fun c2 => m_outside ⟨fun d => ?_, fun d => ?_⟩, fun c2 => m_outside ⟨fun d => ?_, fun d => ?_⟩⟩, fun c => m_outside ⟨fun d => ?_, fun d => ?_⟩⟩ <;> (rw [nB_z] at d; simp only [e0, e1, e49, e9, e999] at d)
  · exact p_at h (nB_f (by omega))
  · exact p_at h (nB_t (by omega))
  · exact p_at h (nB_f (by omega))
  · exact p_at h (nB_t (by omega))
  · exact p_at h (nB_f (by omega))
  · exact p_at h (nB_t (by omega))
theorem m_least {x0 x1 : Int32} {post : Int32 → Prop} (h : ∀ r : Int32, r.toInt = min x0.toInt x1.toInt → post r) : wX5_least x0 x1 post := by
  unfold wX5_least
  simp only [tI_le]
  exact ⟨fun c => h _ (by omega), fun c => h _ (by omega)⟩
theorem xor_pos (x : Int32) : (0 : Int32) ≤ (x ^^^ (100 : Int32)) ↔ 0 ≤ x.toInt := by
  rw [tI_le]
  have e0 : (0 : Int32).toInt = 0 := rfl
  rw [e0]
  have h1 : (x ^^^ (100 : Int32)).toInt = (x.toBitVec ^^^ (100 : Int32).toBitVec).toInt := rfl
  have h2 : x.toInt = x.toBitVec.toInt := rfl
  have m1 := BitVec.msb_eq_toInt (x := x.toBitVec ^^^ (100 : Int32).toBitVec)
  have m2 := BitVec.msb_eq_toInt (x := x.toBitVec)
  have m3 : (x.toBitVec ^^^ (100 : Int32).toBitVec).msb = x.toBitVec.msb := by
    rw [BitVec.msb_xor]
    have : (100 : Int32).toBitVec.msb = false := by decide
    rw [this]; simp
  rw [m3, m2] at m1
  have m4 := decide_eq_decide.mp m1
  rw [h1, h2]
  omega
theorem fdiv_of {a : Int} (q : Int) (h : q = a.tdiv 100) : (0 ≤ a → q = a / 100) ∧ (a < 0 → q * 100 = a → q = a / 100) ∧ (a < 0 → ¬ q * 100 = a → q - 1 = a / 100) := by
  have h1 := Int.tdiv_mul_add_tmod a 100
  have h2 : a < 0 → -100 < a.tmod 100 ∧ a.tmod 100 ≤ 0 := fun ha => ⟨Int.lt_tmod_of_pos a (by omega), by
    have h9 := Int.tmod_nonneg (a := -a) 100 (by omega)
    rw [Int.neg_tmod] at h9
    omega⟩
  have h3 : 0 ≤ a → 0 ≤ a.tmod 100 ∧ a.tmod 100 < 100 := fun ha => ⟨Int.tmod_nonneg 100 ha, Int.tmod_lt_of_pos a (by omega)⟩
  subst h
  refine ⟨fun ha => ?_, fun ha e => ?_, fun ha e => ?_⟩
  · have := h3 ha; omega
  · omega
  · have := h2 ha; omega
theorem m_floorDiv {x : Int32} {post : Int32 → Prop} (hx : -2147483648 < x.toInt) (h : ∀ r : Int32, r.toInt = x.toInt / 100 → post r) : wJ9_floorDiv_7cf53 x (100 : Int32) post := by
  unfold wJ9_floorDiv_7cf53
  refine ⟨by decide, fun v ev => ?_⟩
  have e100 : (100 : Int32).toInt = 100 := rfl
  have e1 : (1 : Int32).toInt = 1 := rfl
  have hv : v.toInt = x.toInt.tdiv 100 := by rw [ev, tI_div hx, e100]
  have hr := tI_rng x
  obtain ⟨d1, d2, d3⟩ := fdiv_of v.toInt hv
  have hvr : -21474837 ≤ v.toInt ∧ v.toInt ≤ 21474837 := by
    rcases (show x.toInt < 0 ∨ 0 ≤ x.toInt by omega) with c | c
    · by_cases e : v.toInt * 100 = x.toInt
      · omega
      · have := d3 c e; omega
    · have := d1 c; omega
  have hm : (v * (100 : Int32)).toInt = v.toInt * 100 := by rw [tI_mul (by rw [e100]; omega) (by rw [e100]; omega), e100]
  refine ⟨fun c => ?_, fun c => ⟨fun c2 => ?_, fun c2 => ?_⟩⟩
  · rw [xor_pos] at c; exact h _ (d1 c)
  · rw [xor_pos] at c; rw [tI_eq, hm] at c2; exact h _ (d2 (by omega) c2)
  · rw [xor_pos] at c; rw [tI_eq, hm] at c2; exact h _ (by rw [tI_sub (by rw [e1]; omega) (by rw [e1]; omega), e1]; exact d3 (by omega) c2)
theorem m_down {x : Int32} {post : Int32 → Prop} (hx : -2147483648 < x.toInt) (h : ∀ r : Int32, r.toInt = x.toInt / 100 → post r) : wX5_down x (100 : Int32) post := by
  unfold wX5_down
  refine ⟨by decide, fun v ev => ⟨by decide, ?_⟩⟩
  have e100 : (100 : Int32).toInt = 100 := rfl
  have e0 : (0 : Int32).toInt = 0 := rfl
  have e1 : (1 : Int32).toInt = 1 := rfl
  have hv : v.toInt = x.toInt.tdiv 100 := by rw [ev, tI_div hx, e100]
  have hr := tI_rng x
  obtain ⟨d1, d2, d3⟩ := fdiv_of v.toInt hv
  have hvr : -21474837 ≤ v.toInt ∧ v.toInt ≤ 21474837 := by
    rcases (show x.toInt < 0 ∨ 0 ≤ x.toInt by omega) with c | c
    · by_cases e : v.toInt * 100 = x.toInt
      · omega
      · have := d3 c e; omega
    · have := d1 c; omega
  have hm : (v * (100 : Int32)).toInt = v.toInt * 100 := by rw [tI_mul (by rw [e100]; omega) (by rw [e100]; omega), e100]
  rw [← ev]
  have hs : (x - v * (100 : Int32)).toInt = x.toInt - v.toInt * 100 := by
    rw [tI_sub (by rw [hm]; rcases (show x.toInt < 0 ∨ 0 ≤ x.toInt by omega) with c | c; (by_cases e : v.toInt * 100 = x.toInt; omega; have := d3 c e; omega); (have := d1 c; omega)) (by rw [hm]; rcases (show x.toInt < 0 ∨ 0 ≤ x.toInt by omega) with c | c; (by_cases e : v.toInt * 100 = x.toInt; omega; have := d3 c e; omega); (have := d1 c; omega)), hm]
  rw [tI_le, e0, hs]
  refine ⟨fun c => ?_, fun c => ?_⟩
  · rcases (show x.toInt < 0 ∨ 0 ≤ x.toInt by omega) with c2 | c2
    · by_cases e : v.toInt * 100 = x.toInt
      · exact h _ (d2 c2 e)
      · have := d3 c2 e; omega
    · exact h _ (d1 c2)
  · rcases (show x.toInt < 0 ∨ 0 ≤ x.toInt by omega) with c2 | c2
    · by_cases e : v.toInt * 100 = x.toInt
      · omega
      · exact h _ (by rw [tI_sub (by rw [e1]; omega) (by rw [e1]; omega), e1]; exact d3 c2 e)
    · have := d1 c2; omega
theorem m_percentOf {x y : Int32} {post : Int32 → Prop} (h1 : -2147483648 < x.toInt * y.toInt) (h2 : x.toInt * y.toInt < 2147483648) (h : ∀ r : Int32, r.toInt = x.toInt * y.toInt / 100 → post r) : wX4_percentOf x y post := by
  unfold wX4_percentOf
  have e := tI_mul (x := x) (y := y) (by omega) h2
  exact m_floorDiv (by rw [e]; omega) (fun r hr => h r (by rw [hr, e]))
