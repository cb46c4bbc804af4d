/-- the pure half: for every script the loop's predicate holds from the start on -/
theorem pure_all {L : Nat} (hL : L ≤ 3072) (xs : Nat → Int32) : ∃ n, bL L xs n I0 Z0 J0 Z0 zG 0 := by
  sorry
