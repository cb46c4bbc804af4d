/-! GLUE OF THE CASES -/
theorem sI_r {I : Nat → Int32} {a : List Nat} : sI I I a := fun _ _ => rfl
theorem sF_r {F : Nat → Nat → Int32} {a : List Nat} : sF F F a := fun _ _ => rfl
theorem sI_u {I I1 : Nat → Int32} {a : List Nat} {k : Nat} {v : Int32} (h : sI I I1 a) (hk : k ∈ a) : sI I (va_up I1 k v) a := fun j hj => by
  rw [va_up_ne _ _ (fun q => hj (by rw [q]; exact hk))]
  exact h j hj
theorem sF_u {F F1 : Nat → Nat → Int32} {a : List Nat} {k : Nat} {v : Nat → Int32} (h : sF F F1 a) (hk : k ∈ a) : sF F (va_up F1 k v) a := fun j hj => by
  rw [va_up_ne _ _ (fun q => hj (by rw [q]; exact hk))]
  exact h j hj
theorem sI_t {I I1 I2 : Nat → Int32} {a b : List Nat} (h : sI I I1 a) (h2 : sI I1 I2 b) : sI I I2 (a ++ b) := fun j hj => by
  rw [h2 j (fun q => hj (List.mem_append_right _ q)), h j (fun q => hj (List.mem_append_left _ q))]
theorem sF_t {F F1 F2 : Nat → Nat → Int32} {a b : List Nat} (h : sF F F1 a) (h2 : sF F1 F2 b) : sF F F2 (a ++ b) := fun j hj => by
  rw [h2 j (fun q => hj (List.mem_append_right _ q)), h j (fun q => hj (List.mem_append_left _ q))]
section Move
variable {I I1 J J1 : Nat → Int32} {F F1 G G1 : Nat → Nat → Int32} {a b c d : List Nat}
theorem RPl.s {R : Nat} {pl : Tb} (h : RPl I F J G R pl) (si : sI I I1 a) (sf : sF F F1 b) (sj : sI J J1 c) (sg : sF G G1 d) (q1 : ∀ j ∈ a, j ≠ 1) (q2 : ∀ j ∈ b, 9 < j) (q3 : ∀ j ∈ c, j ≠ 1) (q4 : ∀ j ∈ d, j ≠ 1) : RPl I1 F1 J1 G1 R pl :=
  have n2 : ∀ j, j ≤ 9 → F1 j = F j := fun j hj => sf j (fun q => by have := q2 j q; omega)
  h.congr (si 1 (fun q => q1 1 q rfl)) (n2 5 (by omega)) (n2 6 (by omega)) (n2 7 (by omega)) (n2 8 (by omega)) (n2 9 (by omega)) (sj 1 (fun q => q3 1 q rfl)) (sg 1 (fun q => q4 1 q rfl))
theorem RBk.s {N P : Nat} {bk po : Tb} (h : RBk I F J G N P bk po) (si : sI I I1 a) (sf : sF F F1 b) (sj : sI J J1 c) (sg : sF G G1 d) (q1 : ∀ j ∈ a, j ≠ 2 ∧ j ≠ 3) (q2 : ∀ j ∈ b, j < 10 ∨ 17 < j) (q3 : ∀ j ∈ c, j ≠ 2 ∧ j ≠ 3) (q4 : ∀ j ∈ d, j < 2 ∨ 8 < j) : RBk I1 F1 J1 G1 N P bk po :=
  h.congr (fun j hj => si j (fun q => by have := q1 j q; omega)) (fun j h1 h2 => sf j (fun q => by have := q2 j q; omega)) (fun j hj => sj j (fun q => by have := q3 j q; omega)) (fun j h1 h2 => sg j (fun q => by have := q4 j q; omega))
theorem RJn.s {l : Jl} (h : RJn I F J G l) (si : sI I I1 a) (sf : sF F F1 b) (sj : sI J J1 c) (sg : sF G G1 d) (q1 : ∀ j ∈ a, j ≠ 14) (q2 : ∀ j ∈ b, j < 20) (q3 : ∀ j ∈ c, j ≠ 4) (q4 : ∀ j ∈ d, j < 10 ∨ 12 < j) : RJn I1 F1 J1 G1 l :=
  h.congr (si 14 (fun q => q1 14 q rfl)) (sf 20 (fun q => by have := q2 20 q; omega)) (sf 21 (fun q => by have := q2 21 q; omega)) (sj 4 (fun q => q3 4 q rfl)) (sg 10 (fun q => by have := q4 10 q; omega)) (sg 11 (fun q => by have := q4 11 q; omega)) (sg 12 (fun q => by have := q4 12 q; omega))
theorem Tm.s (h : Tm I J) (si : sI I I1 a) (sj : sI J J1 c) (q1 : ∀ j ∈ a, j ≠ 0 ∧ (j < 4 ∨ 10 < j)) (q3 : ∀ j ∈ c, j < 6 ∨ 13 < j) : Tm I1 J1 :=
  h.congr (fun j hj => si j (fun q => by have := q1 j q; omega)) (fun j h1 h2 => sj j (fun q => by have := q3 j q; omega))
theorem Cl.s {C : Nat} (h : Cl I F J G C) (si : sI I I1 a) (sf : sF F F1 b) (sj : sI J J1 c) (sg : sF G G1 d) (q1 : ∀ j ∈ a, j ≠ 6 ∧ j ≠ 8 ∧ j ≠ 9 ∧ j ≠ 11 ∧ j ≠ 12 ∧ j ≠ 13) (q2 : ∀ j ∈ b, j ≠ 18 ∧ j ≠ 19) (q3 : ∀ j ∈ c, j ≠ 14) (q4 : ∀ j ∈ d, j ≠ 16) : Cl I1 F1 J1 G1 C :=
  h.congr (fun j hj => si j (fun q => by have := q1 j q; omega)) (sf 18 (fun q => (q2 18 q).1 rfl)) (sf 19 (fun q => (q2 19 q).2 rfl)) (sj 14 (fun q => q3 14 q rfl)) (sg 16 (fun q => q4 16 q rfl))
end Move
/-! what the law does with two answers -/
section Tail
variable {K : (Nat → Int32) → (Nat → Nat → Int32) → (Nat → Int32) → (Nat → Nat → Int32) → (Nat → Int64) → Int32 → Prop} {I J : Nat → Int32} {F G : Nat → Nat → Int32} {g : Nat → Int64} {x4 r r2 : Int32}
theorem tl_v (ht : J 0 = r) (hv : r = 0 → g 0 = r2.toInt64) (hK : K I F J G g (x4 + (6 : Int32))) : wX5_thrown J G (fun r18 => ((r18 = r → ((¬ r = (0 : Int32) → ∀ v21 : Int32, v21 = x4 + (6 : Int32) → K I F J G g v21) ∧ (r = (0 : Int32) → (((lg_cmp (g (Int32.toNatClampNeg (0 : Int32))) r2.toInt64) = (0 : Int32) → ∀ v23 : Int32, v23 = x4 + (6 : Int32) → K I F J G g v23) ∧ (¬ (lg_cmp (g (Int32.toNatClampNeg (0 : Int32))) r2.toInt64) = (0 : Int32) → False))))) ∧ (¬ r18 = r → False))) := by
  unfold wX5_thrown
  refine ⟨fun _ => ⟨fun _ v e => by rw [e]; exact hK, fun h0 => ⟨fun _ v e => by rw [e]; exact hK, fun q => q ?_⟩⟩, fun q => q ht⟩
  have c0 : (0 : Int32).toNatClampNeg = 0 := by decide
  rw [c0, hv h0]
  exact lg_same _
theorem tl_n (ht : J 0 = r) (hK : K I F J G g (x4 + (6 : Int32))) : wX5_thrown J G (fun r8 => ((r8 = r → ∀ v10 : Int32, v10 = x4 + (6 : Int32) → K I F J G g v10) ∧ (¬ r8 = r → False))) :=
  ⟨fun _ v e => by rw [e]; exact hK, fun q => q ht⟩
theorem tl_e (hv : r = r2) (hK : K I F J G g (x4 + (6 : Int32))) : ((r = r2 → ∀ v6 : Int32, v6 = x4 + (6 : Int32) → K I F J G g v6) ∧ (¬ r = r2 → False)) :=
  ⟨fun _ v e => by rw [e]; exact hK, fun q => q hv⟩
end Tail
theorem o_iff {B : Prop} (h : B) : ¬ (1 : Int32) = 0 ↔ B := ⟨fun _ => h, fun _ => by decide⟩
theorem z_iff {B : Prop} (h : ¬ B) : ¬ (0 : Int32) = 0 ↔ B := ⟨fun q => absurd rfl q, fun q => absurd q h⟩
theorem n_le0 {x : Int32} {P : Nat} (h : x = nI P) (hP : P < 2147483648) : x ≤ (0 : Int32) ↔ P = 0 := by
  have e0 : (0 : Int32).toInt = 0 := rfl
  rw [h, tI_le, tI_nI hP, e0]; omega
theorem n_lt0 {x : Int32} {P : Nat} (h : x = nI P) (hP : P < 2147483648) : (0 : Int32) < x ↔ 0 < P := by
  have e0 : (0 : Int32).toInt = 0 := rfl
  rw [h, tI_lt, tI_nI hP, e0]; omega
theorem n_eq {x : Int32} {P c : Nat} (h : x = nI P) (hP : P < 2147483648) (hc : c < 2147483648) : x = nI c ↔ P = c := by
  rw [h]; exact nI_eq (by omega) (by omega)
theorem tc_pos {a b c : Prop} [Decidable a] [Decidable b] [Decidable c] : 0 < tc a b c ↔ a ∨ b ∨ c := by
  unfold tc
  by_cases ha : a
  · rw [if_pos ha]; exact ⟨fun _ => Or.inl ha, fun _ => by omega⟩
  · rw [if_neg ha]
    by_cases hb : b
    · rw [if_pos hb]; exact ⟨fun _ => Or.inr (Or.inl hb), fun _ => by omega⟩
    · rw [if_neg hb]
      by_cases hc : c
      · rw [if_pos hc]; exact ⟨fun _ => Or.inr (Or.inr hc), fun _ => by omega⟩
      · rw [if_neg hc]; exact ⟨fun q => by omega, fun q => by rcases q with q | q | q <;> contradiction⟩
/-- the reference's test, by its outcomes -/
theorem r_fails2 {J : Nat → Int32} {G : Nat → Nat → Int32} {post : Int32 → (Nat → Int32) → (Nat → Nat → Int32) → Prop} {a b c : Prop} [Decidable a] [Decidable b] [Decidable c] {x1 x2 x3 : Int32} (h1 : ¬ x1 = 0 ↔ a) (h2 : ¬ x2 = 0 ↔ b) (h3 : ¬ x3 = 0 ↔ c) (g1 : a → post 1 (va_up J 0 (1 : Int32)) G) (g2 : ¬ a → b → post 1 (va_up J 0 (2 : Int32)) G) (g3 : ¬ a → ¬ b → c → post 1 (va_up J 0 (3 : Int32)) G) (g0 : ¬ a → ¬ b → ¬ c → post 0 (va_up J 0 (0 : Int32)) G) : wX5_fails J G x1 x2 x3 post := by
  refine r_fails h1 h2 h3 ?_
  unfold tc
  by_cases ha : a
  · rw [if_pos ha]; exact g1 ha
  · rw [if_neg ha]
    by_cases hb : b
    · rw [if_pos hb]; exact g2 ha hb
    · rw [if_neg hb]
      by_cases hc : c
      · rw [if_pos hc]; exact g3 ha hb hc
      · rw [if_neg hc]; exact g0 ha hb hc
theorem m_isPlanClosed {I : Nat → Int32} {F : Nat → Nat → Int32} {P : Nat} {post : Int32 → Prop} (hI : I 2 = nI P) (hP : P ≤ 6) (h : post (nB (0 < P))) : wX4_isPlanClosed I F post := by
  unfold wX4_isPlanClosed
  rw [n_le0 hI (by omega)]
  exact ⟨fun c => p_at h (nB_f (by omega)), fun c => p_at h (nB_t (by omega))⟩
theorem m_isFull {I : Nat → Int32} {F : Nat → Nat → Int32} {N : Nat} {post : Int32 → Prop} (hI : I 3 = nI N) (hN : N ≤ 40) (h : post (nB (N = 40))) : wX2_isFull I F post := by
  have e : I 3 = (40 : Int32) ↔ N = 40 := n_eq (c := 40) hI (by omega) (by omega)
  unfold wX2_isFull
  rw [e]
  exact ⟨fun c => p_at h (nB_f c), fun c => p_at h (nB_t c)⟩
theorem m_isPolicy {I : Nat → Int32} {F : Nat → Nat → Int32} {P : Nat} {x1 : Int32} {post : Int32 → Prop} (hI : I 2 = nI P) (hP : P ≤ 6) (h : post (nB (0 ≤ x1.toInt ∧ x1.toInt < P))) : wX4_isPolicy I F x1 post := by
  unfold wX4_isPolicy
  refine m_isIndex ⟨nB_nar _, ?_⟩
  rw [hI, tI_nI (by omega)]
  exact h
theorem r_isPolicy {J : Nat → Int32} {G : Nat → Nat → Int32} {P : Nat} {x1 : Int32} {post : Int32 → Prop} (hI : J 2 = nI P) (hP : P ≤ 6) (h : post (nB (0 ≤ x1.toInt ∧ x1.toInt < P))) : wX5_isPolicy J G x1 post := by
  have e0 : (0 : Int32).toInt = 0 := rfl
  unfold wX5_isPolicy
  rw [hI, tI_lt, tI_le, e0, tI_nI (by omega)]
  exact ⟨fun c => p_at h (nB_f (by omega)), fun c => ⟨fun c2 => p_at h (nB_f (by omega)), fun c2 => p_at h (nB_t (by omega))⟩⟩
theorem isP {x1 : Int32} {P : Nat} (hP : P ≤ 6) (h : 0 ≤ x1.toInt ∧ x1.toInt < P) : ∃ p, p < P ∧ x1 = nI p := ⟨x1.toInt.toNat, by omega, by rw [tI_eq, tI_nI (by omega)]; omega⟩
theorem m_counted {I : Nat → Int32} {F : Nat → Nat → Int32} {N : Nat} {x1 : Int32} {post : Int32 → Prop} (hI : I 3 = nI N) (hN : N ≤ 40) (h : post (nI (cnt N x1.toInt))) : wX2_countedAsOf I F x1 post := by
  have e0 : (0 : Int32).toInt = 0 := rfl
  have e1 : (1 : Int32).toInt = 1 := rfl
  have hx := tI_rng x1
  unfold wX2_countedAsOf
  intro v1 h1 v2 h2
  have hs : (I 3 - (1 : Int32)).toInt = (N : Int) - 1 := by rw [hI, tI_sub (by rw [tI_nI (by omega), e1]; omega) (by rw [tI_nI (by omega), e1]; omega), tI_nI (by omega), e1]
  have hv1 : v1.toInt = min ((N : Int) - 1) x1.toInt := by
    rw [h1]
    by_cases c : I 3 - (1 : Int32) < x1
    · rw [if_pos c, hs]; rw [tI_lt, hs] at c; omega
    · rw [if_neg c]; rw [tI_lt, hs] at c; omega
  have hv1s : (v1 + (1 : Int32)).toInt = v1.toInt + 1 := by rw [tI_add (by rw [e1]; omega) (by rw [e1]; omega), e1]
  have hc := cnt_eq N x1.toInt
  have hcl := cnt_le N x1.toInt
  refine p_at h ?_
  rw [tI_eq, tI_nI (by omega), h2, hc]
  by_cases c : (0 : Int32) < v1 + (1 : Int32)
  · rw [if_pos c, hv1s]; rw [tI_lt, hv1s, e0] at c; omega
  · rw [if_neg c, e0]; rw [tI_lt, hv1s, e0] at c; omega
