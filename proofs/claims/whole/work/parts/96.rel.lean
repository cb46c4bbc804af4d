/-! THE RELATION OF THE CLASS's STATE AND THE REFERENCE's -/
/-- what the reference sums over its first k claims: figure w of those of policy p (p < 0: of all) -/
def bf (g : Nat → Int32) (p : Int32) (w : Nat) : Nat → Int32
  | 0 => 0
  | k + 1 => bf g p w k + (if p.toInt < 0 ∨ g (6 * k) = p then g (6 * k + w) else 0)
def Tm (I J : Nat → Int32) : Prop := (I 0 = J 6 ∧ 0 ≤ (I 0).toInt ∧ (I 0).toInt ≤ 90) ∧ (I 4 = J 7 ∧ 0 ≤ (I 4).toInt ∧ (I 4).toInt ≤ 999) ∧ (I 5 = J 8 ∧ 1 ≤ (I 5).toInt ∧ (I 5).toInt ≤ 9999) ∧ (I 6 = J 9 ∧ 1 ≤ (I 6).toInt ∧ (I 6).toInt ≤ 9999) ∧ (I 7 = J 10 ∧ 0 ≤ (I 7).toInt ∧ (I 7).toInt ≤ 9999) ∧ (I 8 = J 11 ∧ 0 ≤ (I 8).toInt ∧ (I 8).toInt ≤ 9999) ∧ (I 9 = J 12 ∧ 0 ≤ (I 9).toInt ∧ (I 9).toInt ≤ 3) ∧ (I 10 = J 13 ∧ 0 ≤ (I 10).toInt ∧ (I 10).toInt ≤ 99)
def Cl (I : Nat → Int32) (F : Nat → Nat → Int32) (J : Nat → Int32) (G : Nat → Nat → Int32) (C : Nat) : Prop := I 13 = nI C ∧ J 14 = nI C ∧ C ≤ 20 ∧ (∀ k, k < 6 * C → F 19 k = G 16 k) ∧ (∀ p, p < 6 → F 18 p = bf (G 16) (nI p) 2 C ∧ 0 ≤ (F 18 p).toInt ∧ (F 18 p).toInt ≤ (I 6).toInt) ∧ (I 11 = bf (G 16) (-1) 4 C ∧ 0 ≤ (I 11).toInt ∧ (I 11).toInt ≤ (I 8).toInt * (1 + (I 9).toInt)) ∧ (I 12 = bf (G 16) (-1) 5 C ∧ 0 ≤ (I 12).toInt ∧ (I 12).toInt ≤ (I 8).toInt * (I 9).toInt)
def RPl (I : Nat → Int32) (F : Nat → Nat → Int32) (J : Nat → Int32) (G : Nat → Nat → Int32) (R : Nat) (pl : Tb) : Prop := PlC I F R pl ∧ PlM J G R pl ∧ WfP R pl
def RBk (I : Nat → Int32) (F : Nat → Nat → Int32) (J : Nat → Int32) (G : Nat → Nat → Int32) (N P : Nat) (bk po : Tb) : Prop := BkC F N bk ∧ BkM G N bk ∧ I 3 = nI N ∧ J 3 = nI N ∧ VlM G N bk po ∧ PoC F P po ∧ PoM G P po ∧ WfB N P bk po ∧ WfO N P bk po ∧ I 2 = nI P ∧ J 2 = nI P
def RJn (I : Nat → Int32) (F : Nat → Nat → Int32) (J : Nat → Int32) (G : Nat → Nat → Int32) (l : Jl) : Prop := JC I F l ∧ JM J G l
/-- the relation -/
def Rl (I : Nat → Int32) (F : Nat → Nat → Int32) (J : Nat → Int32) (G : Nat → Nat → Int32) : Prop := ∃ (R N P C : Nat) (pl bk po : Tb) (l : Jl), RPl I F J G R pl ∧ (0 < P → Gd R pl) ∧ RBk I F J G N P bk po ∧ RJn I F J G l ∧ Tm I J ∧ Cl I F J G C
section Congr
variable {I I1 J J1 : Nat → Int32} {F F1 G G1 : Nat → Nat → Int32}
theorem RPl.congr {R : Nat} {pl : Tb} (h : RPl I F J G R pl) (i1 : I1 1 = I 1) (f5 : F1 5 = F 5) (f6 : F1 6 = F 6) (f7 : F1 7 = F 7) (f8 : F1 8 = F 8) (f9 : F1 9 = F 9) (j1 : J1 1 = J 1) (g1 : G1 1 = G 1) : RPl I1 F1 J1 G1 R pl := by
  unfold RPl PlC PlM at *
  rw [i1, f5, f6, f7, f8, f9, j1, g1]
  exact h
theorem RBk.congr {N P : Nat} {bk po : Tb} (h : RBk I F J G N P bk po) (hi : ∀ j, j = 2 ∨ j = 3 → I1 j = I j) (hf : ∀ j, 10 ≤ j → j ≤ 17 → F1 j = F j) (hj : ∀ j, j = 2 ∨ j = 3 → J1 j = J j) (hg : ∀ j, 2 ≤ j → j ≤ 8 → G1 j = G j) : RBk I1 F1 J1 G1 N P bk po := by
  unfold RBk BkC BkM VlM PoC PoM at *
  rw [hi 2 (by omega), hi 3 (by omega), hj 2 (by omega), hj 3 (by omega), hf 10 (by omega) (by omega), hf 11 (by omega) (by omega), hf 12 (by omega) (by omega), hf 13 (by omega) (by omega), hf 14 (by omega) (by omega), hf 15 (by omega) (by omega), hf 16 (by omega) (by omega), hf 17 (by omega) (by omega), hg 2 (by omega) (by omega), hg 3 (by omega) (by omega), hg 4 (by omega) (by omega), hg 5 (by omega) (by omega), hg 6 (by omega) (by omega), hg 7 (by omega) (by omega), hg 8 (by omega) (by omega)]
  exact h
theorem RJn.congr {l : Jl} (h : RJn I F J G l) (i14 : I1 14 = I 14) (f20 : F1 20 = F 20) (f21 : F1 21 = F 21) (j4 : J1 4 = J 4) (g10 : G1 10 = G 10) (g11 : G1 11 = G 11) (g12 : G1 12 = G 12) : RJn I1 F1 J1 G1 l := by
  unfold RJn JC JM at *
  rw [i14, f20, f21, j4, g10, g11, g12]
  exact h
theorem Tm.congr (h : Tm I J) (hi : ∀ j, j = 0 ∨ (4 ≤ j ∧ j ≤ 10) → I1 j = I j) (hj : ∀ j, 6 ≤ j → j ≤ 13 → J1 j = J j) : Tm I1 J1 := by
  unfold Tm at *
  rw [hi 0 (by omega), hi 4 (by omega), hi 5 (by omega), hi 6 (by omega), hi 7 (by omega), hi 8 (by omega), hi 9 (by omega), hi 10 (by omega), hj 6 (by omega) (by omega), hj 7 (by omega) (by omega), hj 8 (by omega) (by omega), hj 9 (by omega) (by omega), hj 10 (by omega) (by omega), hj 11 (by omega) (by omega), hj 12 (by omega) (by omega), hj 13 (by omega) (by omega)]
  exact h
theorem Cl.congr {C : Nat} (h : Cl I F J G C) (hi : ∀ j, j = 6 ∨ j = 8 ∨ j = 9 ∨ j = 11 ∨ j = 12 ∨ j = 13 → I1 j = I j) (f18 : F1 18 = F 18) (f19 : F1 19 = F 19) (j14 : J1 14 = J 14) (g16 : G1 16 = G 16) : Cl I1 F1 J1 G1 C := by
  unfold Cl at *
  rw [hi 6 (by omega), hi 8 (by omega), hi 9 (by omega), hi 11 (by omega), hi 12 (by omega), hi 13 (by omega), f18, f19, j14, g16]
  exact h
/-- the reference's marks and drafts don't count -/
theorem Rl.junk (h : Rl I F J G) (hj : sI J J1 [0, 5]) (hg : sF G G1 [9, 13, 14, 15]) : Rl I F J1 G1 := by
  obtain ⟨R, N, P, C, pl, bk, po, l, a, b, c, d, e, f⟩ := h
  have qj : ∀ j, j ≠ 0 → j ≠ 5 → J1 j = J j := fun j h0 h5 => hj j (by simp [h0, h5])
  have qg : ∀ j, j ≠ 9 → j ≠ 13 → j ≠ 14 → j ≠ 15 → G1 j = G j := fun j h1 h2 h3 h4 => hg j (by simp [h1, h2, h3, h4])
  exact ⟨R, N, P, C, pl, bk, po, l, a.congr rfl rfl rfl rfl rfl rfl (qj 1 (by omega) (by omega)) (qg 1 (by omega) (by omega) (by omega) (by omega)), b,
    c.congr (fun _ _ => rfl) (fun _ _ _ => rfl) (fun j hj => qj j (by omega) (by omega)) (fun j h1 h2 => qg j (by omega) (by omega) (by omega) (by omega)),
    d.congr rfl rfl rfl (qj 4 (by omega) (by omega)) (qg 10 (by omega) (by omega) (by omega) (by omega)) (qg 11 (by omega) (by omega) (by omega) (by omega)) (qg 12 (by omega) (by omega) (by omega) (by omega)),
    e.congr (fun _ _ => rfl) (fun j h1 h2 => qj j (by omega) (by omega)), f.congr (fun _ _ => rfl) rfl rfl (qj 14 (by omega) (by omega)) (qg 16 (by omega) (by omega) (by omega) (by omega))⟩
theorem Rl.thrown (h : Rl I F J G) (v : Int32) : Rl I F (va_up J 0 v) G :=
  h.junk (fun j hj => va_up_ne _ _ (fun q => hj (by rw [q]; exact List.mem_cons_self))) (fun _ _ => rfl)
theorem Rl.best (h : Rl I F J G) (g : Nat → Int32) : Rl I F J (va_up G 9 g) :=
  h.junk (fun _ _ => rfl) (fun j hj => va_up_ne _ _ (fun q => hj (by rw [q]; exact List.mem_cons_self)))
end Congr
section Glue
variable {J : Nat → Int32} {G : Nat → Nat → Int32} {post : Int32 → (Nat → Int32) → (Nat → Nat → Int32) → Prop}
/-- the number that tells which exception is due -/
def tc (a b c : Prop) [Decidable a] [Decidable b] [Decidable c] : Nat := if a then 1 else if b then 2 else if c then 3 else 0
theorem r_fails {a b c : Prop} [Decidable a] [Decidable b] [Decidable c] {x1 x2 x3 : Int32} (h1 : ¬ x1 = 0 ↔ a) (h2 : ¬ x2 = 0 ↔ b) (h3 : ¬ x3 = 0 ↔ c) (h : post (nB (0 < tc a b c)) (va_up J 0 (nI (tc a b c))) G) : wX5_fails J G x1 x2 x3 post := by
  have one : ∀ (t : Nat) (y : Int32), y = nI t → t ≤ 3 → t = tc a b c → bX5_fails_26 post J G y := by
    intro t y hy h4 ht
    subst ht
    unfold bX5_fails_26
    intro I1 e1
    have e0 : (0 : Int32).toInt = 0 := rfl
    have e2 : I1 0 = nI (tc a b c) := by rw [e1, hy]; rfl
    rw [e2, tI_le, e0, tI_nI (by omega), e1, hy]
    refine ⟨fun q => ?_, fun q => ?_⟩
    · rw [nB_f (by omega)] at h; exact h
    · rw [nB_t (by omega)] at h; exact h
  unfold wX5_fails
  refine ⟨fun q1 => ⟨fun q2 => ⟨fun q3 => one 0 _ rfl (by omega) ?_, fun q3 => one 3 _ rfl (by omega) ?_⟩, fun q2 => one 2 _ rfl (by omega) ?_⟩, fun q1 => one 1 _ rfl (by omega) ?_⟩
  · unfold tc; rw [if_neg (fun q => h1.mpr q q1), if_neg (fun q => h2.mpr q q2), if_neg (fun q => h3.mpr q q3)]
  · unfold tc; rw [if_neg (fun q => h1.mpr q q1), if_neg (fun q => h2.mpr q q2), if_pos (h3.mp q3)]
  · unfold tc; rw [if_neg (fun q => h1.mpr q q1), if_pos (h2.mp q2)]
  · unfold tc; rw [if_pos (h1.mp q1)]
theorem lg_same (x : Int64) : lg_cmp x x = (0 : Int32) := by
  unfold lg_cmp
  rw [if_neg (Int64.lt_irrefl), if_pos rfl]
/-- the script's places -/
theorem at_i {L k : Nat} {x4 : Int32} (hx : x4 = nI (6 * k)) (hk : 6 * k + 6 ≤ L) (hL : L ≤ 3072) (j : Nat) (hj : j < 6) : vp_in (x4 + nI j) L := by
  rw [hx, nI_add]; exact vp_in_nI (by omega) (by omega)
end Glue
