/-! THE JOURNAL: a list of (from, to, amount) -/
abbrev Jl : Type := List (Int32 × Int32 × Int32)
/-- to post an amount from x to y -/
def pst (v x y : Int32) (l : Jl) : Jl := if v = 0 then l else if 0 < v.toInt then l ++ [(x, y, v)] else l ++ [(y, x, -v)]
theorem pst_app (v x y : Int32) (l m : Jl) : pst v x y (l ++ m) = l ++ pst v x y m := by
  unfold pst
  split
  · rfl
  · split <;> rw [List.append_assoc]
theorem pst_nil (v x y : Int32) (l : Jl) : pst v x y l = l ++ pst v x y [] := by
  have := pst_app v x y l []
  rwa [List.append_nil] at this
theorem pst_len (v x y : Int32) (l : Jl) : (pst v x y l).length = l.length + (if v = 0 then 0 else 1) := by
  unfold pst
  split
  · rfl
  · split <;> simp
def bal (l : Jl) (a : Int32) : Int32 := l.foldl (fun s e => s + ((if e.2.1 = a then e.2.2 else 0) - (if e.1 = a then e.2.2 else 0))) 0
theorem bal_add (l : Jl) (e : Int32 × Int32 × Int32) (a : Int32) : bal (l ++ [e]) a = bal l a + ((if e.2.1 = a then e.2.2 else 0) - (if e.1 = a then e.2.2 else 0)) := by
  unfold bal
  rw [List.foldl_append]
  rfl
def JC (I : Nat → Int32) (F : Nat → Nat → Int32) (l : Jl) : Prop := I 14 = nI l.length ∧ l.length ≤ 90 ∧ (∀ k e, l[k]? = some e → F 20 (k * 3) = e.1 ∧ F 20 (k * 3 + 1) = e.2.1 ∧ F 20 (k * 3 + 2) = e.2.2) ∧ ∀ a, a < 7 → F 21 a = bal l (nI a)
def JM (J : Nat → Int32) (G : Nat → Nat → Int32) (l : Jl) : Prop := J 4 = nI l.length ∧ l.length ≤ 90 ∧ ∀ k e, l[k]? = some e → G 10 k = e.1 ∧ G 11 k = e.2.1 ∧ G 12 k = e.2.2
def DM (J : Nat → Int32) (G : Nat → Nat → Int32) (l : Jl) : Prop := J 5 = nI l.length ∧ ∀ k e, l[k]? = some e → G 13 k = e.1 ∧ G 14 k = e.2.1 ∧ G 15 k = e.2.2
/-- the same but for some fields -/
def sI (I I1 : Nat → Int32) (ks : List Nat) : Prop := ∀ j, j ∉ ks → I1 j = I j
def sF (F F1 : Nat → Nat → Int32) (ks : List Nat) : Prop := ∀ j, j ∉ ks → F1 j = F j
theorem get_snoc {l : Jl} {e q : Int32 × Int32 × Int32} {k : Nat} (h : (l ++ [e])[k]? = some q) : (k < l.length ∧ l[k]? = some q) ∨ (k = l.length ∧ q = e) := by
  rcases Nat.lt_or_ge k l.length with c | c
  · rw [List.getElem?_append_left c] at h; exact Or.inl ⟨c, h⟩
  · rw [List.getElem?_append_right c] at h
    have h1 : k - l.length < 1 := (List.getElem?_eq_some_iff.mp h).1
    have : k = l.length := by omega
    subst this
    rw [Nat.sub_self] at h
    exact Or.inr ⟨rfl, (Option.some.inj h).symm⟩
section JrnC
variable {I : Nat → Int32} {F : Nat → Nat → Int32} {l : Jl} {post : (Nat → Int32) → (Nat → Nat → Int32) → Prop}
theorem m_enter {a b : Nat} {x1 : Int32} (hJ : JC I F l) (hl : l.length < 90) (ha : a < 7) (hb : b < 7) (hab : a ≠ b) (h : ∀ I1 F1, sI I I1 [14] → sF F F1 [20, 21] → JC I1 F1 (l ++ [(nI a, nI b, x1)]) → post I1 F1) : wX0_enter I F x1 (nI a) (nI b) post := by
  obtain ⟨j1, j2, j3, j4⟩ := hJ
  unfold wX0_enter
  rw [j1]
  intro v1 e1
  have e1' : v1 = nI (l.length * 3) := by rw [e1]; exact pk_mul l.length 3
  have f1 : v1 + (1 : Int32) = nI (l.length * 3 + 1) := by rw [e1']; exact nI_add _ 1
  have f2 : v1 + (2 : Int32) = nI (l.length * 3 + 2) := by rw [e1']; exact nI_add _ 2
  rw [f1, f2, e1']
  refine ⟨vp_in_nI (by omega) (by omega), fun F2 e2 => ⟨vp_in_nI (by omega) (by omega), fun F4 e4 => ⟨vp_in_nI (by omega) (by omega), fun F6 e6 v8 e8 I9 e9 => ⟨vp_in_nI (by omega) (by omega), fun v11 e11 => ⟨vp_in_nI (by omega) (by omega), fun F12 e12 => ⟨vp_in_nI (by omega) (by omega), fun v15 e15 => ⟨vp_in_nI (by omega) (by omega), fun F16 e16 => ?_⟩⟩⟩⟩⟩⟩⟩
  rw [nI_clamp (by omega)] at e2 e4 e6 e11 e12 e15 e16
  have g6 : F6 21 = F 21 := by rw [e6, e4, e2]; rfl
  have g20 : F6 20 = upd (upd (upd (F 20) (l.length * 3) (nI a)) (l.length * 3 + 1) (nI b)) (l.length * 3 + 2) x1 := by rw [e6, e4, e2]; rfl
  refine h I9 F16 ?_ ?_ ⟨?_, ?_, ?_, ?_⟩
  · intro j hj
    rw [e9]
    have : j ≠ 14 := fun q => hj (by rw [q]; exact List.mem_cons_self)
    exact va_up_ne _ _ this
  · intro j hj
    have q1 : j ≠ 20 := fun q => hj (by rw [q]; exact List.mem_cons_self)
    have q2 : j ≠ 21 := fun q => hj (by rw [q]; exact List.mem_cons_of_mem _ List.mem_cons_self)
    rw [e16, e12, e6, e4, e2, va_up_ne _ _ q2, va_up_ne _ _ q2, va_up_ne _ _ q1, va_up_ne _ _ q1, va_up_ne _ _ q1]
  · rw [e9, List.length_append]
    show v8 = nI (l.length + 1)
    rw [e8, nI_1]
  · rw [List.length_append]; show l.length + 1 ≤ 90; omega
  · intro k e hk
    have w : F16 20 = upd (upd (upd (F 20) (l.length * 3) (nI a)) (l.length * 3 + 1) (nI b)) (l.length * 3 + 2) x1 := by rw [← g20, e16, e12]; rfl
    rw [w]
    rcases get_snoc hk with ⟨c, hc⟩ | ⟨c, hc⟩
    · obtain ⟨z1, z2, z3⟩ := j3 k e hc
      refine ⟨?_, ?_, ?_⟩
      · rw [pk_un (by omega), pk_un (by omega), pk_un (by omega)]; exact z1
      · rw [pk_un (by omega), pk_un (by omega), pk_un (by omega)]; exact z2
      · rw [pk_un (by omega), pk_un (by omega), pk_un (by omega)]; exact z3
    · subst c; subst hc
      refine ⟨?_, ?_, ?_⟩
      · rw [pk_un (by omega), pk_un (by omega)]; exact pk_us
      · rw [pk_un (by omega)]; exact pk_us
      · exact pk_us
  · intro c hc
    have w : F16 21 = upd (upd (F 21) a v11) b v15 := by
      rw [e16, e12]
      show upd (upd (F6 21) a v11) b v15 = _
      rw [g6]
    have w15 : v15 = F 21 b + x1 := by
      rw [e15, e12]
      show upd (F6 21) a v11 b + x1 = _
      rw [pk_un (Ne.symm hab), g6]
    rw [w, bal_add]
    show _ = bal l (nI c) + ((if nI b = nI c then x1 else 0) - (if nI a = nI c then x1 else 0))
    by_cases cb : c = b
    · subst cb
      rw [pk_us, if_pos rfl, if_neg (fun q => hab ((nI_eq (by omega) (by omega)).mp q)), w15, j4 c hc, Int32.sub_zero]
    · rw [pk_un cb, if_neg (fun q => cb ((nI_eq (by omega) (by omega)).mp q).symm)]
      by_cases ca : c = a
      · subst ca
        rw [pk_us, if_pos rfl, e11, g6, j4 c hc, Int32.zero_sub, Int32.sub_eq_add_neg]
      · rw [pk_un ca, if_neg (fun q => ca ((nI_eq (by omega) (by omega)).mp q).symm), j4 c hc, Int32.sub_zero, Int32.add_zero]
theorem m_post {a b : Nat} {x1 : Int32} (hJ : JC I F l) (hl : (pst x1 (nI a) (nI b) l).length ≤ 90) (ha : a < 7) (hb : b < 7) (hab : a ≠ b) (h : ∀ I1 F1, sI I I1 [14] → sF F F1 [20, 21] → JC I1 F1 (pst x1 (nI a) (nI b) l) → post I1 F1) : wX0_post I F x1 (nI a) (nI b) post := by
  unfold wX0_post
  have e0 : (0 : Int32).toInt = 0 := rfl
  rw [pst_len] at hl
  simp only [tI_le, e0]
  refine ⟨fun c => ⟨fun c2 => ?_, fun c2 => ?_⟩, fun c => ?_⟩
  · have hz : x1 = 0 := by rw [tI_eq, e0]; omega
    refine h I F (fun _ _ => rfl) (fun _ _ => rfl) ?_
    unfold pst
    rw [if_pos hz]
    exact hJ
  · have hz : ¬ x1 = 0 := by rw [tI_eq, e0]; omega
    rw [if_neg hz] at hl
    refine m_enter hJ (by omega) hb ha (Ne.symm hab) (fun I1 F1 s1 s2 hj => h I1 F1 s1 s2 ?_)
    unfold pst
    rw [if_neg hz, if_neg (by omega)]
    exact hj
  · have hz : ¬ x1 = 0 := by rw [tI_eq, e0]; omega
    rw [if_neg hz] at hl
    refine m_enter hJ (by omega) ha hb hab (fun I1 F1 s1 s2 hj => h I1 F1 s1 s2 ?_)
    unfold pst
    rw [if_neg hz, if_pos (by omega)]
    exact hj
theorem m_needed {x : Int32} {post : Int32 → Prop} (h : post (nI (if x = 0 then 0 else 1))) : wX0_needed x post := by
  unfold wX0_needed
  refine ⟨fun c => ?_, fun c => ?_⟩
  · rw [if_neg c] at h; exact h
  · rw [if_pos c] at h; exact h
theorem m_hasRoom {x1 x2 x3 : Int32} {post : Int32 → Prop} (hJ : JC I F l) (h : post (nB (l.length + (if x1 = 0 then 0 else 1) + (if x2 = 0 then 0 else 1) + (if x3 = 0 then 0 else 1) ≤ 90))) : wX0_hasRoomFor I F x1 x2 x3 post := by
  unfold wX0_hasRoomFor
  refine m_needed (m_needed (m_needed ?_))
  have e90 : (90 : Int32).toInt = 90 := rfl
  have hl := hJ.2.1
  rw [hJ.1, nI_add, nI_add, nI_add, tI_lt, e90]
  have k1 : (if x1 = 0 then 0 else 1) ≤ 1 := by split <;> omega
  have k2 : (if x2 = 0 then 0 else 1) ≤ 1 := by split <;> omega
  have k3 : (if x3 = 0 then 0 else 1) ≤ 1 := by split <;> omega
  generalize (if x1 = 0 then 0 else 1) = n1 at k1 h ⊢
  generalize (if x2 = 0 then 0 else 1) = n2 at k2 h ⊢
  generalize (if x3 = 0 then 0 else 1) = n3 at k3 h ⊢
  rw [tI_nI (by omega)]
  exact ⟨fun c => p_at h (nB_f (by omega)), fun c => p_at h (nB_t (by omega))⟩
end JrnC
section JrnM
variable {J : Nat → Int32} {G : Nat → Nat → Int32} {l dl : Jl}
theorem r_drafted {post : (Nat → Int32) → (Nat → Nat → Int32) → Prop} {x1 x2 x3 : Int32} (hD : DM J G dl) (hl : dl.length < 3) (h : ∀ J1 G1, sI J J1 [5] → sF G G1 [13, 14, 15] → DM J1 G1 (pst x1 x2 x3 dl) → post J1 G1) : wX5_drafted J G x1 x2 x3 post := by
  obtain ⟨d1, d2⟩ := hD
  have e0 : (0 : Int32).toInt = 0 := rfl
  -- one draft
  have put : ∀ (y0 y1 y2 : Int32), (∀ J1 G1, sI J J1 [5] → sF G G1 [13, 14, 15] → DM J1 G1 (dl ++ [(y0, y1, y2)]) → post J1 G1) → ∀ F8 F5 F1 : Nat → Nat → Int32, F8 = va_up G 13 (upd (G 13) dl.length y0) → F5 = va_up F8 14 (upd (F8 14) dl.length y1) → F1 = va_up F5 15 (upd (F5 15) dl.length y2) → ∀ v3 : Int32, v3 = nI dl.length + (1 : Int32) → ∀ I4 : Nat → Int32, I4 = va_up J 5 v3 → post I4 F1 := by
    intro y0 y1 y2 hh F8 F5 F1 e8 e5 e1 v3 e3 I4 e4
    refine hh I4 F1 ?_ ?_ ⟨?_, ?_⟩
    · intro j hj
      rw [e4]
      exact va_up_ne _ _ (fun q => hj (by rw [q]; exact List.mem_cons_self))
    · intro j hj
      have q1 : j ≠ 13 := fun q => hj (by rw [q]; exact List.mem_cons_self)
      have q2 : j ≠ 14 := fun q => hj (by rw [q]; exact List.mem_cons_of_mem _ List.mem_cons_self)
      have q3 : j ≠ 15 := fun q => hj (by rw [q]; exact List.mem_cons_of_mem _ (List.mem_cons_of_mem _ List.mem_cons_self))
      rw [e1, e5, e8, va_up_ne _ _ q3, va_up_ne _ _ q2, va_up_ne _ _ q1]
    · rw [e4, List.length_append]
      show v3 = nI (dl.length + 1)
      rw [e3, nI_1]
    · have w13 : F1 13 = upd (G 13) dl.length y0 := by rw [e1, e5, e8]; rfl
      have w14 : F1 14 = upd (G 14) dl.length y1 := by rw [e1, e5, e8]; rfl
      have w15 : F1 15 = upd (G 15) dl.length y2 := by rw [e1, e5, e8]; rfl
      intro k e hk
      rw [w13, w14, w15]
      rcases get_snoc hk with ⟨c, hc⟩ | ⟨c, hc⟩
      · rw [pk_un (by omega), pk_un (by omega), pk_un (by omega)]
        exact d2 k e hc
      · subst c; subst hc
        exact ⟨pk_us, pk_us, pk_us⟩
  have hin : vp_in (nI dl.length) 3 := vp_in_nI (by omega) (by omega)
  have hc : (nI dl.length).toNatClampNeg = dl.length := nI_clamp (by omega)
  unfold wX5_drafted
  simp only [tI_le, e0]
  refine ⟨fun c => ⟨fun c2 => ?_, fun c2 => ?_⟩, fun c => ?_⟩
  · unfold bX5_drafted_22
    rw [d1, hc, tI_le, e0]
    refine ⟨hin, fun F8 e8 => ⟨fun _ => ?_, fun q => absurd c2 q⟩⟩
    unfold bX5_drafted_40
    rw [d1, hc, tI_le, e0]
    refine ⟨hin, fun F5 e5 => ⟨fun _ => ?_, fun q => absurd c2 q⟩⟩
    unfold bX5_drafted_59
    rw [d1, hc]
    refine ⟨hin, fun F1 e1 v3 e3 I4 e4 => put x3 x2 (-x1) (fun J1 G1 s1 s2 hd => h J1 G1 s1 s2 ?_) F8 F5 F1 e8 e5 e1 v3 e3 I4 e4⟩
    unfold pst
    rw [if_neg c, if_neg (by omega)]
    exact hd
  · unfold bX5_drafted_22
    rw [d1, hc, tI_le, e0]
    refine ⟨hin, fun F8 e8 => ⟨fun q => absurd q c2, fun _ => ?_⟩⟩
    unfold bX5_drafted_40
    rw [d1, hc, tI_le, e0]
    refine ⟨hin, fun F5 e5 => ⟨fun q => absurd q c2, fun _ => ?_⟩⟩
    unfold bX5_drafted_59
    rw [d1, hc]
    refine ⟨hin, fun F1 e1 v3 e3 I4 e4 => put x2 x3 x1 (fun J1 G1 s1 s2 hd => h J1 G1 s1 s2 ?_) F8 F5 F1 e8 e5 e1 v3 e3 I4 e4⟩
    unfold pst
    rw [if_neg c, if_pos (by omega)]
    exact hd
  · refine h J G (fun _ _ => rfl) (fun _ _ => rfl) ?_
    unfold pst
    rw [if_pos c]
    exact ⟨d1, d2⟩
theorem take_get {l : Jl} {k : Nat} {e : Int32 × Int32 × Int32} (h : l[k]? = some e) : l.take (k + 1) = l.take k ++ [e] := by
  rw [List.take_add_one, h]
  rfl
theorem r_posts_l {post : Int32 → (Nat → Int32) → (Nat → Nat → Int32) → Prop} (hl : l.length + dl.length ≤ 90) (h3 : dl.length ≤ 3) (h : ∀ J1 G1, sI J J1 [4] → sF G G1 [10, 11, 12] → JM J1 G1 (l ++ dl) → post 1 J1 G1) :
    ∀ (n k : Nat) (J1 : Nat → Int32) (G1 : Nat → Nat → Int32), k ≤ dl.length → dl.length < n + k → sI J J1 [4] → sF G G1 [10, 11, 12] → DM J1 G1 dl → JM J1 G1 (l ++ dl.take k) → bX5_posts_18 post n J1 G1 (nI k) := by
  intro n
  induction n with
  | zero => intro k J1 G1 a b; omega
  | succ n ih =>
    intro k J1 G1 hk hn s1 s2 hD hM
    obtain ⟨d1, d2⟩ := id hD
    obtain ⟨m1, m2, m3⟩ := id hM
    unfold bX5_posts_18
    rw [d1, tI_le, tI_nI (by omega), tI_nI (by omega)]
    refine ⟨fun c => ?_, fun c => ?_⟩
    · have : k = dl.length := by omega
      subst this
      rw [List.take_length] at hM
      exact h J1 G1 s1 s2 hM
    · have hkl : k < dl.length := by omega
      obtain ⟨e, he⟩ : ∃ e, dl[k]? = some e := ⟨dl[k], List.getElem?_eq_getElem hkl⟩
      obtain ⟨f1, f2, f3⟩ := d2 k e he
      have hlen : (l ++ dl.take k).length = l.length + k := by rw [List.length_append, List.length_take]; omega
      rw [hlen] at m1 m2
      have hin3 : vp_in (nI k) 3 := vp_in_nI (by omega) (by omega)
      have hin90 : vp_in (nI (l.length + k)) 90 := vp_in_nI (by omega) (by omega)
      rw [m1, nI_clamp (by omega), nI_clamp (by omega)]
      refine ⟨hin3, fun v3 e3 => ⟨hin90, fun F4 e4 => ⟨hin3, fun v7 e7 => ⟨hin90, fun F8 e8 => ⟨hin3, fun v11 e11 => ⟨hin90, fun F12 e12 v14 e14 I15 e15 v16 e16 => ?_⟩⟩⟩⟩⟩⟩
      rw [e16, nI_1]
      have x3 : v3 = e.1 := by rw [e3, f1]
      have x7 : v7 = e.2.1 := by rw [e7, e4]; exact f2
      have x11 : v11 = e.2.2 := by rw [e11, e8, e4]; exact f3
      have w10 : F12 10 = upd (G1 10) (l.length + k) e.1 := by rw [e12, e8, e4, x3]; rfl
      have w11 : F12 11 = upd (G1 11) (l.length + k) e.2.1 := by rw [e12, e8, e4, x7]; rfl
      have w12 : F12 12 = upd (G1 12) (l.length + k) e.2.2 := by rw [e12, e8, e4, x11]; rfl
      refine ih (k + 1) I15 F12 (by omega) (by omega) ?_ ?_ ⟨?_, ?_⟩ ⟨?_, ?_, ?_⟩
      · intro j hj
        rw [e15, va_up_ne _ _ (fun q => hj (by rw [q]; exact List.mem_cons_self))]
        exact s1 j hj
      · intro j hj
        have q1 : j ≠ 10 := fun q => hj (by rw [q]; exact List.mem_cons_self)
        have q2 : j ≠ 11 := fun q => hj (by rw [q]; exact List.mem_cons_of_mem _ List.mem_cons_self)
        have q3 : j ≠ 12 := fun q => hj (by rw [q]; exact List.mem_cons_of_mem _ (List.mem_cons_of_mem _ List.mem_cons_self))
        rw [e12, e8, e4, va_up_ne _ _ q3, va_up_ne _ _ q2, va_up_ne _ _ q1]
        exact s2 j hj
      · rw [e15]; exact d1
      · intro q z hz
        have y13 : F12 13 = G1 13 := by rw [e12, e8, e4]; rfl
        have y14 : F12 14 = G1 14 := by rw [e12, e8, e4]; rfl
        have y15 : F12 15 = G1 15 := by rw [e12, e8, e4]; rfl
        rw [y13, y14, y15]
        exact d2 q z hz
      · rw [take_get he, ← List.append_assoc, List.length_append, hlen, e15]
        show v14 = nI (l.length + k + 1)
        rw [e14, nI_1]
      · rw [take_get he, ← List.append_assoc, List.length_append, hlen]
        show l.length + k + 1 ≤ 90
        omega
      · intro q z hz
        rw [take_get he, ← List.append_assoc] at hz
        rw [w10, w11, w12]
        rcases get_snoc hz with ⟨c1, c2⟩ | ⟨c1, c2⟩
        · rw [hlen] at c1
          rw [pk_un (by omega), pk_un (by omega), pk_un (by omega)]
          exact m3 q z c2
        · rw [hlen] at c1
          subst c1; subst c2
          exact ⟨pk_us, pk_us, pk_us⟩
theorem r_posts {post : Int32 → (Nat → Int32) → (Nat → Nat → Int32) → Prop} (hM : JM J G l) (hD : DM J G dl) (h3 : dl.length ≤ 3) (h : l.length + dl.length ≤ 90 → ∀ J1 G1, sI J J1 [4] → sF G G1 [10, 11, 12] → JM J1 G1 (l ++ dl) → post 1 J1 G1) (hx : ¬ l.length + dl.length ≤ 90 → post 0 J G) : wX5_posts J G post := by
  have hl := hM.2.1
  have e90 : (90 : Int32).toInt = 90 := rfl
  unfold wX5_posts
  rw [hM.1, hD.1, nI_add, tI_le, e90, tI_nI (by omega)]
  refine ⟨fun c => ⟨dl.length + 1, ?_⟩, fun c => hx (by omega)⟩
  refine r_posts_l (by omega) h3 (h (by omega)) (dl.length + 1) 0 J G (by omega) (by omega) (fun _ _ => rfl) (fun _ _ => rfl) hD ?_
  rw [List.take_zero, List.append_nil]
  exact hM
theorem r_balance_l {post : Int32 → (Nat → Int32) → (Nat → Nat → Int32) → Prop} {x1 : Int32} (hM : JM J G l) (h : post (bal l x1) J G) :
    ∀ (n k : Nat) (x2 : Int32), k ≤ l.length → l.length < n + k → x2 = bal (l.take k) x1 → bX5_balance_22 post n J G x1 x2 (nI k) := by
  obtain ⟨m1, m2, m3⟩ := hM
  intro n
  induction n with
  | zero => intro k x2 a b; omega
  | succ n ih =>
    intro k x2 hk hn hx2
    unfold bX5_balance_22
    rw [m1, tI_le, tI_nI (by omega), tI_nI (by omega)]
    refine ⟨fun c => ?_, fun c => ?_⟩
    · have : k = l.length := by omega
      subst this
      rw [List.take_length] at hx2
      rw [hx2]
      exact h
    · have hkl : k < l.length := by omega
      obtain ⟨e, he⟩ : ∃ e, l[k]? = some e := ⟨l[k], List.getElem?_eq_getElem hkl⟩
      obtain ⟨f1, f2, f3⟩ := m3 k e he
      have hin : vp_in (nI k) 90 := vp_in_nI (by omega) (by omega)
      have hb : bal (l.take (k + 1)) x1 = x2 + ((if e.2.1 = x1 then e.2.2 else 0) - (if e.1 = x1 then e.2.2 else 0)) := by rw [take_get he, bal_add, hx2]
      rw [nI_clamp (by omega), f2, f3]
      have nxt : ∀ y0 : Int32, y0 = (if e.2.1 = x1 then e.2.2 else 0) → bX5_balance_51 (bX5_balance_22 post n) post J G x1 (nI k) y0 x2 := by
        intro y0 hy
        unfold bX5_balance_51
        rw [nI_clamp (by omega), f1, f3]
        refine ⟨hin, fun d v3 e3 v4 e4 => ?_, fun d => ⟨hin, fun v6 e6 v7 e7 => ?_⟩⟩
        · rw [e4, nI_1]
          exact ih (k + 1) v3 (by omega) (by omega) (by rw [hb, e3, hy, if_neg d])
        · rw [e7, nI_1]
          exact ih (k + 1) v6 (by omega) (by omega) (by rw [hb, e6, hy, if_pos d])
      exact ⟨hin, fun d => nxt _ (by rw [if_neg d]), fun d => ⟨hin, nxt _ (by rw [if_pos d])⟩⟩
end JrnM
