/-! ONE BOOKING MORE -/
def xt (t : Tb) (N : Nat) (v : Nat → Int) : Tb := fun j b => if b = N then v j else t j b
theorem xt_at {t : Tb} {N j : Nat} {v : Nat → Int} : xt t N v j N = v j := if_pos rfl
theorem xt_lt {t : Tb} {N j b : Nat} {v : Nat → Int} (h : b < N) : xt t N v j b = t j b := if_neg (by omega)
section Ext
variable {I I1 J J1 : Nat → Int32} {F F1 G G1 : Nat → Nat → Int32} {N P P1 : Nat} {bk po po1 : Tb} {v : Nat → Int}
/-- what lies behind the bookings and the policies doesn't count -/
theorem RBk.below (h : RBk I F J G N P bk po) (i2 : I1 2 = I 2) (i3 : I1 3 = I 3) (j2 : J1 2 = J 2) (j3 : J1 3 = J 3) (fb : ∀ j, 14 ≤ j → j ≤ 17 → ∀ b, b < N → F1 j b = F j b) (fp : ∀ j, 10 ≤ j → j ≤ 12 → ∀ p, p < P → F1 j p = F j p) (f13 : ∀ q, q < P * 4 → F1 13 q = F 13 q) (gb : ∀ j, 4 ≤ j → j ≤ 8 → ∀ b, b < N → G1 j b = G j b) (gp : ∀ j, 2 ≤ j → j ≤ 3 → ∀ p, p < P → G1 j p = G j p) : RBk I1 F1 J1 G1 N P bk po := by
  obtain ⟨b1, b2, b3, b4, b5, b6, b7, b8, b9, b10, b11⟩ := h
  refine ⟨⟨b1.1, fun b hb => ?_⟩, ⟨b2.1, fun b hb => ?_⟩, by rw [i3, b3], by rw [j3, b4], fun b hb => ?_, fun p hp => ?_, fun p hp => ?_, b8, b9, by rw [i2, b10], by rw [j2, b11]⟩
  · rw [fb 14 (by omega) (by omega) b hb, fb 15 (by omega) (by omega) b hb, fb 16 (by omega) (by omega) b hb, fb 17 (by omega) (by omega) b hb]
    exact b1.2 b hb
  · rw [gb 4 (by omega) (by omega) b hb, gb 5 (by omega) (by omega) b hb, gb 6 (by omega) (by omega) b hb, gb 7 (by omega) (by omega) b hb]
    exact b2.2 b hb
  · rw [gb 8 (by omega) (by omega) b hb]
    exact b5 b hb
  · obtain ⟨v0, v1, v2, v3, v4⟩ := b6 p hp
    rw [fp 10 (by omega) (by omega) p hp, fp 11 (by omega) (by omega) p hp, fp 12 (by omega) (by omega) p hp]
    refine ⟨v0, v1, v2, fun f hf => ?_, ?_⟩
    · rw [f13 _ (by omega)]; exact v3 f hf
    · rw [f13 _ (by omega)]; exact v4
  · rw [gp 2 (by omega) (by omega) p hp, gp 3 (by omega) (by omega) p hp]
    exact b7 p hp
/-- with one booking more -/
theorem RBk.more (h : RBk I F J G N P bk po) (hN : N < 40) (hP1 : P ≤ P1) (hpo : ∀ j p, p < P → po1 j p = po j p) (i2 : I1 2 = nI P1) (i3 : I1 3 = nI (N + 1)) (j2 : J1 2 = nI P1) (j3 : J1 3 = nI (N + 1)) (fb : ∀ j, 14 ≤ j → j ≤ 17 → ∀ b, b < N → F1 j b = F j b) (gb : ∀ j, 4 ≤ j → j ≤ 8 → ∀ b, b < N → G1 j b = G j b)
    (f14 : (F1 14 N).toInt = v 0) (f15 : (F1 15 N).toInt = v 1) (f16 : (F1 16 N).toInt = cfk (v 2) (v 3)) (f17 : (F1 17 N).toInt = cvk (v 2) (v 4)) (g5 : (G1 5 N).toInt = v 0) (g6 : (G1 6 N).toInt = v 1) (g4 : (G1 4 N).toInt = v 2) (g7 : (G1 7 N).toInt = v 3) (g8 : v 2 = 1 → (G1 8 N).toInt = v 4) (g8b : ∀ p : Nat, v 0 = p → v 2 = 0 → (G1 8 N).toInt = 1000000 * po1 3 p + 1000 * po1 4 p + po1 5 p)
    (pc : PoC F1 P1 po1) (pm : PoM G1 P1 po1) (wb : ∃ p : Nat, p < P1 ∧ v 0 = p ∧ po1 0 p ≤ v 1 ∧ v 1 < po1 1 p ∧ po1 2 p ≤ N ∧ 0 ≤ v 2 ∧ v 2 ≤ 3 ∧ (v 2 = 0 ↔ po1 2 p = N) ∧ (v 2 = 1 → okv (v 3) (v 4)) ∧ (v 2 = 0 → v 1 = po1 0 p)) (wo : WfO (N + 1) P1 (xt bk N v) po1) : RBk I1 F1 J1 G1 (N + 1) P1 (xt bk N v) po1 := by
  obtain ⟨b1, b2, b3, b4, b5, b6, b7, b8, b9, b10, b11⟩ := h
  refine ⟨⟨by omega, fun b hb => ?_⟩, ⟨by omega, fun b hb => ?_⟩, i3, j3, fun b hb => ?_, pc, pm, fun b hb => ?_, wo, i2, j2⟩
  all_goals rcases (show b < N ∨ b = N by omega) with z | z
  · rw [xt_lt z, xt_lt z, xt_lt z, xt_lt z, xt_lt z, fb 14 (by omega) (by omega) b z, fb 15 (by omega) (by omega) b z, fb 16 (by omega) (by omega) b z, fb 17 (by omega) (by omega) b z]
    exact b1.2 b z
  · subst z
    rw [xt_at, xt_at, xt_at, xt_at, xt_at]
    exact ⟨f14, f15, f16, f17⟩
  · rw [xt_lt z, xt_lt z, xt_lt z, xt_lt z, gb 4 (by omega) (by omega) b z, gb 5 (by omega) (by omega) b z, gb 6 (by omega) (by omega) b z, gb 7 (by omega) (by omega) b z]
    exact b2.2 b z
  · subst z
    rw [xt_at, xt_at, xt_at, xt_at]
    exact ⟨g5, g6, g4, g7⟩
  · rw [xt_lt z, xt_lt z, xt_lt z, gb 8 (by omega) (by omega) b z]
    obtain ⟨p', hp', e, -⟩ := b8 b z
    refine ⟨(b5 b z).1, fun p e1 e2 => ?_⟩
    have : p = p' := by omega
    subst this
    rw [hpo 3 p hp', hpo 4 p hp', hpo 5 p hp']
    exact (b5 b z).2 p e1 e2
  · subst z
    rw [xt_at, xt_at, xt_at]
    exact ⟨g8, g8b⟩
  · obtain ⟨p', hp', e⟩ := b8 b z
    rw [xt_lt z, xt_lt z, xt_lt z, xt_lt z, xt_lt z]
    refine ⟨p', by omega, ?_⟩
    rw [hpo 0 p' hp', hpo 1 p' hp', hpo 2 p' hp']
    exact e
  · subst z
    rw [xt_at, xt_at, xt_at, xt_at, xt_at]
    exact wb
end Ext
