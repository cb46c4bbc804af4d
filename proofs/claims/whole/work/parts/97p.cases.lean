/-! THE LAW's CASES, AND THE PURE HALF'S END -/
section Cases
variable {L : Nat} {xs : Nat → Int32} {K : (Nat → Int32) → (Nat → Nat → Int32) → (Nat → Int32) → (Nat → Nat → Int32) → (Nat → Int64) → Int32 → Prop} {I J : Nat → Int32} {F G : Nat → Nat → Int32} {g : Nat → Int64} {x4 : Int32}
theorem q_0 (hR : Rl I F J G) (hin : ∀ j, j < 6 → vp_in (x4 + nI j) L) (hK : ∀ I F J G g, Rl I F J G → K I F J G g (x4 + (6 : Int32))) : pL_0 L xs K I F J G g x4 := by
  unfold pL_0
  exact ⟨hin 1 (by omega), hin 2 (by omega), hin 3 (by omega), hin 4 (by omega), hin 5 (by omega), c_row hR (fun r I1 F1 g1 hw => ⟨hin 1 (by omega), hin 2 (by omega), hin 3 (by omega), hin 4 (by omega), hin 5 (by omega), hw _ (fun r2 J1 G1 hR1 ht hv => tl_v ht hv (hK _ _ _ _ _ hR1))⟩)⟩
theorem q_1 (hR : Rl I F J G) (hin : ∀ j, j < 6 → vp_in (x4 + nI j) L) (hK : ∀ I F J G g, Rl I F J G → K I F J G g (x4 + (6 : Int32))) : pL_1 L xs K I F J G g x4 := by
  unfold pL_1
  exact c_undo hR (fun r I1 F1 g1 hw => hw _ (fun J1 G1 hR1 ht => tl_n ht (hK _ _ _ _ _ hR1)))
theorem q_2 (hR : Rl I F J G) (hin : ∀ j, j < 6 → vp_in (x4 + nI j) L) (hK : ∀ I F J G g, Rl I F J G → K I F J G g (x4 + (6 : Int32))) : pL_2 L xs K I F J G g x4 := by
  unfold pL_2
  exact c_witness hR (fun r hw => hw _ (fun J1 G1 hR1 => tl_e rfl (hK _ _ _ _ _ hR1)))
theorem q_3 (hR : Rl I F J G) (hin : ∀ j, j < 6 → vp_in (x4 + nI j) L) (hK : ∀ I F J G g, Rl I F J G → K I F J G g (x4 + (6 : Int32))) : pL_3 L xs K I F J G g x4 := by
  unfold pL_3
  exact ⟨hin 1 (by omega), c_quota hR (fun r I1 F1 g1 hw => ⟨hin 1 (by omega), hw _ (fun J1 G1 hR1 ht => tl_n ht (hK _ _ _ _ _ hR1))⟩)⟩
theorem q_4 (hR : Rl I F J G) (hin : ∀ j, j < 6 → vp_in (x4 + nI j) L) (hK : ∀ I F J G g, Rl I F J G → K I F J G g (x4 + (6 : Int32))) : pL_4 L xs K I F J G g x4 := by
  unfold pL_4
  exact ⟨hin 1 (by omega), hin 2 (by omega), hin 3 (by omega), c_terms hR (fun r I1 F1 g1 hw => ⟨hin 1 (by omega), hin 2 (by omega), hin 3 (by omega), hw _ (fun J1 G1 hR1 ht => tl_n ht (hK _ _ _ _ _ hR1))⟩)⟩
theorem q_5 (hR : Rl I F J G) (hin : ∀ j, j < 6 → vp_in (x4 + nI j) L) (hK : ∀ I F J G g, Rl I F J G → K I F J G g (x4 + (6 : Int32))) : pL_5 L xs K I F J G g x4 := by
  unfold pL_5
  exact ⟨hin 1 (by omega), hin 2 (by omega), hin 3 (by omega), hin 4 (by omega), c_layer hR (fun r I1 F1 g1 hw => ⟨hin 1 (by omega), hin 2 (by omega), hin 3 (by omega), hin 4 (by omega), hw _ (fun J1 G1 hR1 ht => tl_n ht (hK _ _ _ _ _ hR1))⟩)⟩
theorem q_6 (hR : Rl I F J G) (hin : ∀ j, j < 6 → vp_in (x4 + nI j) L) (hK : ∀ I F J G g, Rl I F J G → K I F J G g (x4 + (6 : Int32))) : pL_6 L xs K I F J G g x4 := by
  unfold pL_6
  exact ⟨hin 1 (by omega), hin 2 (by omega), hin 3 (by omega), hin 4 (by omega), hin 5 (by omega), c_bind hR (fun r I1 F1 g1 hw => ⟨hin 1 (by omega), hin 2 (by omega), hin 3 (by omega), hin 4 (by omega), hin 5 (by omega), hw _ (fun r2 J1 G1 hR1 ht hv => tl_v ht hv (hK _ _ _ _ _ hR1))⟩)⟩
theorem q_7 (hR : Rl I F J G) (hin : ∀ j, j < 6 → vp_in (x4 + nI j) L) (hK : ∀ I F J G g, Rl I F J G → K I F J G g (x4 + (6 : Int32))) : pL_7 L xs K I F J G g x4 := by
  unfold pL_7
  exact ⟨hin 1 (by omega), hin 2 (by omega), hin 3 (by omega), hin 4 (by omega), c_change hR (fun r I1 F1 g1 hw => ⟨hin 1 (by omega), hin 2 (by omega), hin 3 (by omega), hin 4 (by omega), hw _ (fun r2 J1 G1 hR1 ht hv => tl_v ht hv (hK _ _ _ _ _ hR1))⟩)⟩
theorem q_9 (hR : Rl I F J G) (hin : ∀ j, j < 6 → vp_in (x4 + nI j) L) (hK : ∀ I F J G g, Rl I F J G → K I F J G g (x4 + (6 : Int32))) : pL_9 L xs K I F J G g x4 := by
  unfold pL_9
  exact ⟨hin 1 (by omega), hin 2 (by omega), c_reinstate hR (fun r I1 F1 g1 hw => ⟨hin 1 (by omega), hin 2 (by omega), hw _ (fun r2 J1 G1 hR1 ht hv => tl_v ht hv (hK _ _ _ _ _ hR1))⟩)⟩
theorem q_10 (hR : Rl I F J G) (hin : ∀ j, j < 6 → vp_in (x4 + nI j) L) (hK : ∀ I F J G g, Rl I F J G → K I F J G g (x4 + (6 : Int32))) : pL_10 L xs K I F J G g x4 := by
  unfold pL_10
  exact ⟨hin 1 (by omega), hin 2 (by omega), hin 3 (by omega), c_claim hR (fun r I1 F1 g1 hw => ⟨hin 1 (by omega), hin 2 (by omega), hin 3 (by omega), hw _ (fun r2 J1 G1 hR1 ht hv => tl_v ht hv (hK _ _ _ _ _ hR1))⟩)⟩
theorem q_11 (hR : Rl I F J G) (hin : ∀ j, j < 6 → vp_in (x4 + nI j) L) (hK : ∀ I F J G g, Rl I F J G → K I F J G g (x4 + (6 : Int32))) : pL_11 L xs K I F J G g x4 := by
  unfold pL_11
  exact ⟨hin 1 (by omega), c_count hR (fun r hw => ⟨hin 1 (by omega), hw _ (fun J1 G1 hR1 => tl_e rfl (hK _ _ _ _ _ hR1))⟩)⟩
theorem q_12 (hR : Rl I F J G) (hin : ∀ j, j < 6 → vp_in (x4 + nI j) L) (hK : ∀ I F J G g, Rl I F J G → K I F J G g (x4 + (6 : Int32))) : pL_12 L xs K I F J G g x4 := by
  unfold pL_12
  exact ⟨hin 1 (by omega), hin 2 (by omega), hin 3 (by omega), hin 4 (by omega), c_fact hR (fun r I1 F1 g1 hw => ⟨hin 1 (by omega), hin 2 (by omega), hin 3 (by omega), hin 4 (by omega), hw _ (fun r2 J1 G1 hR1 ht hv => tl_v ht hv (hK _ _ _ _ _ hR1))⟩)⟩
theorem q_13 (hR : Rl I F J G) (hin : ∀ j, j < 6 → vp_in (x4 + nI j) L) (hK : ∀ I F J G g, Rl I F J G → K I F J G g (x4 + (6 : Int32))) : pL_13 L xs K I F J G g x4 := by
  unfold pL_13
  exact ⟨hin 1 (by omega), hin 2 (by omega), c_written hR (fun r I1 F1 g1 hw => ⟨hin 1 (by omega), hin 2 (by omega), hw _ (fun r2 J1 G1 hR1 ht hv => tl_v ht hv (hK _ _ _ _ _ hR1))⟩)⟩
theorem q_14 (hR : Rl I F J G) (hin : ∀ j, j < 6 → vp_in (x4 + nI j) L) (hK : ∀ I F J G g, Rl I F J G → K I F J G g (x4 + (6 : Int32))) : pL_14 L xs K I F J G g x4 := by
  unfold pL_14
  exact ⟨hin 1 (by omega), hin 2 (by omega), hin 3 (by omega), c_earned hR (fun r I1 F1 g1 hw => ⟨hin 1 (by omega), hin 2 (by omega), hin 3 (by omega), hw _ (fun r2 J1 G1 hR1 ht hv => tl_v ht hv (hK _ _ _ _ _ hR1))⟩)⟩
theorem q_15 (hR : Rl I F J G) (hin : ∀ j, j < 6 → vp_in (x4 + nI j) L) (hK : ∀ I F J G g, Rl I F J G → K I F J G g (x4 + (6 : Int32))) : pL_15 L xs K I F J G g x4 := by
  unfold pL_15
  exact ⟨hin 1 (by omega), hin 2 (by omega), c_settled hR (fun r I1 F1 g1 hw => ⟨hin 1 (by omega), hin 2 (by omega), hw _ (fun r2 J1 G1 hR1 ht hv => tl_v ht hv (hK _ _ _ _ _ hR1))⟩)⟩
theorem q_16 (hR : Rl I F J G) (hin : ∀ j, j < 6 → vp_in (x4 + nI j) L) (hK : ∀ I F J G g, Rl I F J G → K I F J G g (x4 + (6 : Int32))) : pL_16 L xs K I F J G g x4 := by
  unfold pL_16
  exact ⟨hin 1 (by omega), hin 2 (by omega), c_posting hR (fun r I1 F1 g1 hw => ⟨hin 1 (by omega), hin 2 (by omega), hw _ (fun r2 J1 G1 hR1 ht hv => tl_v ht hv (hK _ _ _ _ _ hR1))⟩)⟩
theorem q_17 (hR : Rl I F J G) (hin : ∀ j, j < 6 → vp_in (x4 + nI j) L) (hK : ∀ I F J G g, Rl I F J G → K I F J G g (x4 + (6 : Int32))) : pL_17 L xs K I F J G g x4 := by
  unfold pL_17
  exact ⟨hin 1 (by omega), c_balance hR (fun r I1 F1 g1 hw => ⟨hin 1 (by omega), hw _ (fun r2 J1 G1 hR1 ht hv => tl_v ht hv (hK _ _ _ _ _ hR1))⟩)⟩
theorem q_8 (hR : Rl I F J G) (hin : ∀ j, j < 6 → vp_in (x4 + nI j) L) (hK : ∀ I F J G g, Rl I F J G → K I F J G g (x4 + (6 : Int32))) : pL_8 L xs K I F J G g x4 := by
  unfold pL_8
  refine ⟨hin 1 (by omega), hin 2 (by omega), hin 3 (by omega), fun z => c_cancel hR (fun r I1 F1 g1 hw => ⟨hin 1 (by omega), hin 2 (by omega), hin 3 (by omega), fun _ => hw _ (fun r2 J1 G1 hR1 ht hv => tl_v ht hv (hK _ _ _ _ _ hR1)), fun w => absurd z w⟩), fun z => c_cancel hR (fun r I1 F1 g1 hw => ⟨hin 1 (by omega), hin 2 (by omega), hin 3 (by omega), fun w => absurd w z, fun _ => hw _ (fun r2 J1 G1 hR1 ht hv => tl_v ht hv (hK _ _ _ _ _ hR1))⟩)⟩
theorem q_d (hR : Rl I F J G) (hK : ∀ I F J G g, Rl I F J G → K I F J G g (x4 + (6 : Int32))) : pL_d L xs K I F J G g x4 := by
  unfold pL_d
  intro v e
  rw [e]
  exact hK _ _ _ _ _ hR
end Cases
theorem Rl_0 : Rl I0 Z0 J0 Z0 := by
  refine ⟨0, 0, 0, 0, fun _ _ => 0, fun _ _ => 0, fun _ _ => 0, [], ⟨⟨rfl, by omega, fun r hr => absurd hr (by omega)⟩, ⟨rfl, by omega, fun r hr => absurd hr (by omega)⟩, fun r hr => absurd hr (by omega)⟩, fun h => absurd h (by omega), ⟨⟨by omega, fun b hb => absurd hb (by omega)⟩, ⟨by omega, fun b hb => absurd hb (by omega)⟩, rfl, rfl, fun b hb => absurd hb (by omega), fun p hp => absurd hp (by omega), fun p hp => absurd hp (by omega), fun b hb => absurd hb (by omega), ⟨by omega, fun p hp => absurd hp (by omega)⟩, rfl, rfl⟩, ⟨⟨rfl, by decide, fun k e hk => (by cases hk), fun a ha => ?_⟩, ⟨rfl, by decide, fun k e hk => by cases hk⟩⟩, ?_, ?_⟩
  · rfl
  · unfold Tm
    decide
  · refine ⟨rfl, rfl, by omega, fun k hk => absurd hk (by omega), fun p hp => ⟨rfl, (show (0 : Int) ≤ (0 : Int32).toInt by decide), (show (0 : Int32).toInt ≤ (I0 6).toInt by decide)⟩, ⟨rfl, by decide, by decide⟩, ⟨rfl, by decide, by decide⟩⟩
theorem pure_ind {L : Nat} (hL : L ≤ 3072) (xs : Nat → Int32) : ∀ (n k : Nat) (I : Nat → Int32) (F : Nat → Nat → Int32) (J : Nat → Int32) (G : Nat → Nat → Int32) (g : Nat → Int64) (x4 : Int32), x4 = nI (6 * k) → 6 * k ≤ L → L < 6 * (n + k) → Rl I F J G → bL L xs n I F J G g x4 := by
  intro n
  induction n with
  | zero => intro k I F J G g x4 hx h1 h2; omega
  | succ n ih =>
    intro k I F J G g x4 hx h1 h2 hR
    have e6 : (6 : Int32).toInt = 6 := rfl
    have eL : (Int32.ofNat L - (6 : Int32)).toInt = (L : Int) - 6 := by
      show (nI L - (6 : Int32)).toInt = _
      rw [tI_sub (by rw [tI_nI (by omega), e6]; omega) (by rw [tI_nI (by omega), e6]; omega), tI_nI (by omega), e6]
    unfold bL
    refine ⟨fun _ => trivial, fun c => ?_⟩
    rw [tI_lt, eL, hx, tI_nI (by omega)] at c
    have hin : ∀ j, j < 6 → vp_in (x4 + nI j) L := fun j hj => at_i hx (by omega) hL j hj
    have hK : ∀ I F J G g, Rl I F J G → bL L xs n I F J G g (x4 + (6 : Int32)) := fun I F J G g hR => ih (k + 1) I F J G g _ (by
      rw [hx]
      show nI (6 * k) + nI 6 = _
      rw [nI_add]
      congr 1) (by omega) (by omega) hR
    refine ⟨by rw [hx]; exact vp_in_nI (by omega) (by omega), fun y _ => ⟨fun _ => q_0 hR hin hK, fun _ => q_1 hR hin hK, fun _ => q_2 hR hin hK, fun _ => q_3 hR hin hK, fun _ => q_4 hR hin hK, fun _ => q_5 hR hin hK, fun _ => q_6 hR hin hK, fun _ => q_7 hR hin hK, fun _ => q_8 hR hin hK, fun _ => q_9 hR hin hK, fun _ => q_10 hR hin hK, fun _ => q_11 hR hin hK, fun _ => q_12 hR hin hK, fun _ => q_13 hR hin hK, fun _ => q_14 hR hin hK, fun _ => q_15 hR hin hK, fun _ => q_16 hR hin hK, fun _ => q_17 hR hin hK, fun _ _ _ _ _ _ _ _ _ _ _ _ _ _ _ _ _ _ => q_d hR hK⟩⟩
/-- the pure half: for every script the loop's predicate holds from the start on -/
theorem pure_all {L : Nat} (hL : L ≤ 3072) (xs : Nat → Int32) : ∃ n, bL L xs n I0 Z0 J0 Z0 zG 0 :=
  ⟨L + 1, pure_ind hL xs (L + 1) 0 I0 Z0 J0 Z0 zG 0 rfl (by omega) (by omega) Rl_0⟩
