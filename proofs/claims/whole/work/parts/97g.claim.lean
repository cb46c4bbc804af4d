/-! CLAIMS: what is paid, the layer's part, what is renewed -/
theorem ite_min {a b : Int32} : (if a < b then a else b).toInt = min a.toInt b.toInt := by
  by_cases c : a < b
  · rw [if_pos c]; rw [tI_lt] at c; omega
  · rw [if_neg c]; rw [tI_lt] at c; omega
theorem ite_max0 {a : Int32} : (if a < (0 : Int32) then (0 : Int32) else a).toInt = max a.toInt 0 := by
  have e0 : (0 : Int32).toInt = 0 := rfl
  by_cases c : a < (0 : Int32)
  · rw [if_pos c]; rw [tI_lt, e0] at c; omega
  · rw [if_neg c]; rw [tI_lt, e0] at c; omega
/-- products stay small -/
theorem mul_b {a b A B : Int} (h1 : 0 ≤ a) (h2 : a ≤ A) (h3 : 0 ≤ b) (h4 : b ≤ B) : 0 ≤ a * b ∧ a * b ≤ A * B :=
  ⟨Int.mul_nonneg h1 h3, Int.mul_le_mul h2 h4 h3 (by omega)⟩
theorem bf_congr {g g2 : Nat → Int32} {p : Int32} {w : Nat} (hw : w < 6) : ∀ {C : Nat}, (∀ k, k < 6 * C → g k = g2 k) → bf g p w C = bf g2 p w C
  | 0, _ => rfl
  | C + 1, h => by
    unfold bf
    rw [bf_congr hw (C := C) (fun k hk => h k (by omega)), h (6 * C) (by omega), h (6 * C + w) (by omega)]
section Clm
variable {I J : Nat → Int32} {F G : Nat → Nat → Int32}
theorem r_before_l {post : Int32 → Prop} {x1 : Int32} {w C : Nat} (hc : J 14 = nI C) (hC : C ≤ 20) (hw : w < 6) (h : post (bf (G 16) x1 w C)) :
    ∀ (n k : Nat), k ≤ C → C < n + k → bX5_before_5 J G post n x1 (nI w) (bf (G 16) x1 w k) (nI k) := by
  have e0 : (0 : Int32).toInt = 0 := rfl
  intro n
  induction n with
  | zero => intro k a b; omega
  | succ n ih =>
    intro k hk hn
    unfold bX5_before_5
    rw [hc, tI_le, tI_nI (by omega), tI_nI (by omega)]
    refine ⟨fun c => ?_, fun c => ?_⟩
    · have : k = C := by omega
      subst this
      exact h
    · have a0 : (6 : Int32) * nI k = nI (6 * k) := by show nI 6 * nI k = _; rw [pk_mul]
      have nx := ih (k + 1) (by omega) (by omega)
      have add : (x1.toInt < 0 ∨ G 16 (6 * k) = x1) → bX5_before_33 J G (bX5_before_5 J G post n) post x1 (nI w) (nI k) (bf (G 16) x1 w k) := by
        intro q
        unfold bX5_before_33
        rw [a0, nI_add, nI_clamp (by omega)]
        refine ⟨vp_in_nI (by omega) (by omega), fun v2 e2 v3 e3 => ?_⟩
        rw [e3, nI_1, e2]
        unfold bf at nx
        rw [if_pos q] at nx
        exact nx
      rw [a0, nI_clamp (by omega), tI_lt, e0]
      refine ⟨fun c2 => add (Or.inl c2), fun c2 => ⟨vp_in_nI (by omega) (by omega), fun c3 v8 e8 v9 e9 => ?_, fun c3 => add (Or.inr c3)⟩⟩
      rw [e9, nI_1, e8]
      unfold bf at nx
      rw [if_neg (fun q => q.elim c2 c3)] at nx
      exact nx
theorem r_before {post : Int32 → Prop} {x1 : Int32} {w C : Nat} (hc : J 14 = nI C) (hC : C ≤ 20) (hw : w < 6) (h : post (bf (G 16) x1 w C)) : wX5_before J G x1 (nI w) post :=
  ⟨C + 1, r_before_l hc hC hw h (C + 1) 0 (by omega) (by omega)⟩
/-- the figures of a claim -/
def Fig (I : Nat → Int32) (F : Nat → Nat → Int32) (p : Nat) (y paid part more ren fee : Int32) : Prop :=
  paid.toInt = min y.toInt (min (I 5).toInt ((I 6).toInt - (F 18 p).toInt)) ∧ part.toInt = paid.toInt * (I 0).toInt / 100 ∧ more.toInt = min (max (paid.toInt - part.toInt - (I 7).toInt) 0) (min (I 8).toInt ((I 8).toInt * (1 + (I 9).toInt) - (I 11).toInt)) ∧ ren.toInt = min more.toInt ((I 8).toInt * (I 9).toInt - (I 12).toInt) ∧ fee.toInt = ren.toInt * (I 10).toInt / 100
theorem fig_rng {p C : Nat} {y paid part more ren fee : Int32} (ht : Tm I J) (hc : Cl I F J G C) (hp : p < 6) (hy : 0 ≤ y.toInt ∧ y.toInt ≤ 9999) (hf : Fig I F p y paid part more ren fee) : (0 ≤ paid.toInt ∧ paid.toInt ≤ 9999 ∧ (F 18 p).toInt + paid.toInt ≤ (I 6).toInt) ∧ (0 ≤ part.toInt ∧ part.toInt ≤ 9999) ∧ (0 ≤ more.toInt ∧ more.toInt ≤ 9999 ∧ (I 11).toInt + more.toInt ≤ (I 8).toInt * (1 + (I 9).toInt)) ∧ (0 ≤ ren.toInt ∧ ren.toInt ≤ 9999 ∧ (I 12).toInt + ren.toInt ≤ (I 8).toInt * (I 9).toInt) ∧ (0 ≤ fee.toInt ∧ fee.toInt ≤ 9999) ∧ (0 ≤ (I 8).toInt * (1 + (I 9).toInt) ∧ (I 8).toInt * (1 + (I 9).toInt) ≤ 39996) ∧ (0 ≤ (I 8).toInt * (I 9).toInt ∧ (I 8).toInt * (I 9).toInt ≤ 29997) ∧ (0 ≤ paid.toInt * (I 0).toInt ∧ paid.toInt * (I 0).toInt ≤ 899910) ∧ (0 ≤ ren.toInt * (I 10).toInt ∧ ren.toInt * (I 10).toInt ≤ 989901) := by
  obtain ⟨⟨-, t1, t2⟩, ⟨-, t3, t4⟩, ⟨-, t5, t6⟩, ⟨-, t7, t8⟩, ⟨-, t9, t10⟩, ⟨-, t11, t12⟩, ⟨-, t13, t14⟩, ⟨-, t15, t16⟩⟩ := ht
  obtain ⟨c1, c2, c3, c4, c5, ⟨-, c6, c7⟩, ⟨-, c8, c9⟩⟩ := hc
  obtain ⟨-, c10, c11⟩ := c5 p hp
  obtain ⟨f1, f2, f3, f4, f5⟩ := hf
  have n1 := mul_b t11 t12 (show 0 ≤ 1 + (I 9).toInt by omega) (show 1 + (I 9).toInt ≤ 4 by omega)
  have n2 := mul_b t11 t12 t13 t14
  generalize (I 8).toInt * (1 + (I 9).toInt) = LT at *
  generalize (I 8).toInt * (I 9).toInt = LR at *
  have a1 : 0 ≤ paid.toInt ∧ paid.toInt ≤ 9999 ∧ (F 18 p).toInt + paid.toInt ≤ (I 6).toInt := by omega
  have n3 := mul_b a1.1 a1.2.1 t1 t2
  generalize paid.toInt * (I 0).toInt = PQ at *
  have a2 : 0 ≤ part.toInt ∧ part.toInt ≤ 9999 := by omega
  have a3 : 0 ≤ more.toInt ∧ more.toInt ≤ 9999 ∧ (I 11).toInt + more.toInt ≤ LT := by omega
  have a4 : 0 ≤ ren.toInt ∧ ren.toInt ≤ 9999 ∧ (I 12).toInt + ren.toInt ≤ LR := by omega
  have n4 := mul_b a4.1 a4.2.1 t15 t16
  generalize ren.toInt * (I 10).toInt = RP at *
  exact ⟨a1, a2, a3, a4, by omega, by omega, by omega, by omega, by omega⟩
end Clm
