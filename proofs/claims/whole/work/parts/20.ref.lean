theorem iX5_thrown_X5 : ∀ w ∈ wsX50, w ∈ wsX5_thrown := by decide +kernel
def wX5_thrown (I : Nat → Int32) (F : Nat → Nat → Int32) (post : Int32 → Prop) : Prop := post (I 0)
set_option maxHeartbeats 4000000 in
set_option maxRecDepth 100000 in
theorem cTX5_thrown (l : Launch) (dC : Nat → ClassId) (dI : Nat → Nat → Nat) (cI : ClassId) (ad : Nat → Nat) (I : Nat → Int32) (F : Nat → Nat → Int32) (post : Int32 → Prop) (h : wX5_thrown I F post) : Met l yX5_thrown wsX5_thrown { frames := 0, cells := 0, slots := 0, locals := 0 } (va_Pc [.ref (ad 0)] (PW dC dI cI (wM cI ad) I F)) (vp_Si post) 0 0 (fun _ => False) := by
  refine Met.ofW (cc := cX5_thrown) (maxL := 1) (ret := (some .int)) (by decide) rfl ?_
  intro p e s m args below meth c s₁ B hml hv
  obtain ⟨rfl, hP, hK, hN⟩ := hv
  have hx := B.exec
  have hb := B.bytes
  have hr := B.returns
  have hts := atoms_spec (ws := wsX5_thrown) B.pre
  have hown : s.vm.findClass RX5 = some m.cls := findClass_of_methodNamed B.named
  have hlocks := B.notSynchronized
  have C : Cx p s m _ meth c cX5_thrown 1 (some .int) RX5 wsX5_thrown := ⟨hx, hb, hml, hown, hts, hr, hlocks⟩
  have hl := lv_entry ([.ref (ad 0)]) (n := 1) (Nat.le_of_ble_eq_true rfl)
  rw [lg_entry_eq]
  generalize (lg_sl ([.ref (ad 0)]) ++ List.replicate (1 - (lg_sl ([.ref (ad 0)])).length) Slot.unset).toArray = ls at hl ⊢
  have hl : lv_has ls 1 [(0, .ref (ad 0))] := hl
  unfold wX5_thrown at h
  refine lv_aload_n hx hb dX5_thrown_0 rfl (lv_at hl 0 rfl) ?_
  refine va_get (D := (dC, dI)) (ci := 5) (v := .int (I 0)) (C := RX5) (T := TX5) (N := 31) hx hb hts iX5_thrown_X5 hown hK hP 0 rfl rfl 0 (by decide) (hts (.fieldLink RX5 68 "CarrierBooksModel" "thrown" "I") (by decide +kernel)) (fun _ h9 => h9) rfl dX5_thrown_1 ?_
  exact W.iret (v := (I 0)) hx hb hr (fun t ht hW => ⟨_, rfl, h, ht⟩) (fun q hq => by cases hq) dX5_thrown_4

theorem iX5_matches_X5 : ∀ w ∈ wsX50, w ∈ wsX5_matches := by decide +kernel
def wX5_matches (I : Nat → Int32) (F : Nat → Nat → Int32) (x1 x2 x3 : Int32) (post : Int32 → Prop) : Prop := vp_in ((5 : Int32) * x1) 40 ∧ ((x2 < (F 1 (Int32.toNatClampNeg ((5 : Int32) * x1))) → post (0 : Int32)) ∧ (¬ x2 < (F 1 (Int32.toNatClampNeg ((5 : Int32) * x1))) → vp_in (((5 : Int32) * x1) + (1 : Int32)) 40 ∧ (((F 1 (Int32.toNatClampNeg (((5 : Int32) * x1) + (1 : Int32)))) < x2 → post (0 : Int32)) ∧ (¬ (F 1 (Int32.toNatClampNeg (((5 : Int32) * x1) + (1 : Int32)))) < x2 → vp_in (((5 : Int32) * x1) + (2 : Int32)) 40 ∧ ((x3 < (F 1 (Int32.toNatClampNeg (((5 : Int32) * x1) + (2 : Int32)))) → post (0 : Int32)) ∧ (¬ x3 < (F 1 (Int32.toNatClampNeg (((5 : Int32) * x1) + (2 : Int32)))) → vp_in (((5 : Int32) * x1) + (3 : Int32)) 40 ∧ (((F 1 (Int32.toNatClampNeg (((5 : Int32) * x1) + (3 : Int32)))) < x3 → post (0 : Int32)) ∧ (¬ (F 1 (Int32.toNatClampNeg (((5 : Int32) * x1) + (3 : Int32)))) < x3 → post (1 : Int32)))))))))
set_option maxHeartbeats 4000000 in
set_option maxRecDepth 100000 in
theorem cTX5_matches (l : Launch) (dC : Nat → ClassId) (dI : Nat → Nat → Nat) (cI : ClassId) (ad : Nat → Nat) (I : Nat → Int32) (F : Nat → Nat → Int32) (x1 x2 x3 : Int32) (post : Int32 → Prop) (h : wX5_matches I F x1 x2 x3 post) : Met l yX5_matches wsX5_matches { frames := 0, cells := 0, slots := 0, locals := 0 } (va_Pc [.ref (ad 0), .int x1, .int x2, .int x3] (PW dC dI cI (wM cI ad) I F)) (vp_Si post) 0 0 (fun _ => False) := by
  refine Met.ofW (cc := cX5_matches) (maxL := 4) (ret := (some .boolean)) (by decide) rfl ?_
  intro p e s m args below meth c s₁ B hml hv
  obtain ⟨rfl, hP, hK, hN⟩ := hv
  have hx := B.exec
  have hb := B.bytes
  have hr := B.returns
  have hts := atoms_spec (ws := wsX5_matches) B.pre
  have hown : s.vm.findClass RX5 = some m.cls := findClass_of_methodNamed B.named
  have hlocks := B.notSynchronized
  have C : Cx p s m _ meth c cX5_matches 4 (some .boolean) RX5 wsX5_matches := ⟨hx, hb, hml, hown, hts, hr, hlocks⟩
  have hl := lv_entry ([.ref (ad 0), .int x1, .int x2, .int x3]) (n := 4) (Nat.le_of_ble_eq_true rfl)
  rw [lg_entry_eq]
  generalize (lg_sl ([.ref (ad 0), .int x1, .int x2, .int x3]) ++ List.replicate (4 - (lg_sl ([.ref (ad 0), .int x1, .int x2, .int x3])).length) Slot.unset).toArray = ls at hl ⊢
  have hl : lv_has ls 4 [(0, .ref (ad 0)), (1, .int x1), (2, .int x2), (3, .int x3)] := hl
  unfold wX5_matches at h
  refine lv_aload_n hx hb dX5_matches_0 rfl (lv_at hl 0 rfl) ?_
  refine va_get (D := (dC, dI)) (ci := 5) (v := .ref (ad 1)) (C := RX5) (T := TX5) (N := 31) hx hb hts iX5_matches_X5 hown hK hP 0 rfl rfl 2 (by decide) (hts (.fieldLink RX5 7 "CarrierBooksModel" "plan" "[I") (by decide +kernel)) (fun _ h9 => h9) rfl dX5_matches_1 ?_
  refine lv_iconst (v := (5 : Int32)) hx hb dX5_matches_4 (by decide) ?_
  refine lv_iload_n hx hb dX5_matches_5 rfl (lv_at hl 1 rfl) ?_
  refine lv_imul hx hb dX5_matches_6 ?_
  obtain ⟨hin1, h⟩ := h
  refine va_iald hx hb hK hP 1 0 rfl rfl hin1 dX5_matches_7 ?_
  refine lv_iload_n hx hb dX5_matches_8 rfl (lv_at hl 2 rfl) ?_
  refine lv_icmp_gt (tgt := 58) hx hb dX5_matches_9 (by decide) (fun c2 => ?_) (fun c2 => ?_)
  · have h := h.1 c2
    refine lv_iconst (v := (0 : Int32)) hx hb dX5_matches_58 (by decide) ?_
    exact W.zret (v := (0 : Int32)) hx hb hr rfl (fun t ht hW => ⟨_, rfl, h, ht⟩) (fun q hq => by cases hq) dX5_matches_59
  · have h := h.2 c2
    refine lv_iload_n hx hb dX5_matches_12 rfl (lv_at hl 2 rfl) ?_
    refine lv_aload_n hx hb dX5_matches_13 rfl (lv_at hl 0 rfl) ?_
    refine va_get (D := (dC, dI)) (ci := 5) (v := .ref (ad 1)) (C := RX5) (T := TX5) (N := 31) hx hb hts iX5_matches_X5 hown hK hP 0 rfl rfl 2 (by decide) (hts (.fieldLink RX5 7 "CarrierBooksModel" "plan" "[I") (by decide +kernel)) (fun _ h9 => h9) rfl dX5_matches_14 ?_
    refine lv_iconst (v := (5 : Int32)) hx hb dX5_matches_17 (by decide) ?_
    refine lv_iload_n hx hb dX5_matches_18 rfl (lv_at hl 1 rfl) ?_
    refine lv_imul hx hb dX5_matches_19 ?_
    refine lv_iconst (v := (1 : Int32)) hx hb dX5_matches_20 (by decide) ?_
    refine lv_iadd hx hb dX5_matches_21 ?_
    obtain ⟨hin3, h⟩ := h
    refine va_iald hx hb hK hP 1 0 rfl rfl hin3 dX5_matches_22 ?_
    refine lv_icmp_gt (tgt := 58) hx hb dX5_matches_23 (by decide) (fun c4 => ?_) (fun c4 => ?_)
    · have h := h.1 c4
      refine lv_iconst (v := (0 : Int32)) hx hb dX5_matches_58 (by decide) ?_
      exact W.zret (v := (0 : Int32)) hx hb hr rfl (fun t ht hW => ⟨_, rfl, h, ht⟩) (fun q hq => by cases hq) dX5_matches_59
    · have h := h.2 c4
      refine lv_aload_n hx hb dX5_matches_26 rfl (lv_at hl 0 rfl) ?_
      refine va_get (D := (dC, dI)) (ci := 5) (v := .ref (ad 1)) (C := RX5) (T := TX5) (N := 31) hx hb hts iX5_matches_X5 hown hK hP 0 rfl rfl 2 (by decide) (hts (.fieldLink RX5 7 "CarrierBooksModel" "plan" "[I") (by decide +kernel)) (fun _ h9 => h9) rfl dX5_matches_27 ?_
      refine lv_iconst (v := (5 : Int32)) hx hb dX5_matches_30 (by decide) ?_
      refine lv_iload_n hx hb dX5_matches_31 rfl (lv_at hl 1 rfl) ?_
      refine lv_imul hx hb dX5_matches_32 ?_
      refine lv_iconst (v := (2 : Int32)) hx hb dX5_matches_33 (by decide) ?_
      refine lv_iadd hx hb dX5_matches_34 ?_
      obtain ⟨hin5, h⟩ := h
      refine va_iald hx hb hK hP 1 0 rfl rfl hin5 dX5_matches_35 ?_
      refine lv_iload_n hx hb dX5_matches_36 rfl (lv_at hl 3 rfl) ?_
      refine lv_icmp_gt (tgt := 58) hx hb dX5_matches_37 (by decide) (fun c6 => ?_) (fun c6 => ?_)
      · have h := h.1 c6
        refine lv_iconst (v := (0 : Int32)) hx hb dX5_matches_58 (by decide) ?_
        exact W.zret (v := (0 : Int32)) hx hb hr rfl (fun t ht hW => ⟨_, rfl, h, ht⟩) (fun q hq => by cases hq) dX5_matches_59
      · have h := h.2 c6
        refine lv_iload_n hx hb dX5_matches_40 rfl (lv_at hl 3 rfl) ?_
        refine lv_aload_n hx hb dX5_matches_41 rfl (lv_at hl 0 rfl) ?_
        refine va_get (D := (dC, dI)) (ci := 5) (v := .ref (ad 1)) (C := RX5) (T := TX5) (N := 31) hx hb hts iX5_matches_X5 hown hK hP 0 rfl rfl 2 (by decide) (hts (.fieldLink RX5 7 "CarrierBooksModel" "plan" "[I") (by decide +kernel)) (fun _ h9 => h9) rfl dX5_matches_42 ?_
        refine lv_iconst (v := (5 : Int32)) hx hb dX5_matches_45 (by decide) ?_
        refine lv_iload_n hx hb dX5_matches_46 rfl (lv_at hl 1 rfl) ?_
        refine lv_imul hx hb dX5_matches_47 ?_
        refine lv_iconst (v := (3 : Int32)) hx hb dX5_matches_48 (by decide) ?_
        refine lv_iadd hx hb dX5_matches_49 ?_
        obtain ⟨hin7, h⟩ := h
        refine va_iald hx hb hK hP 1 0 rfl rfl hin7 dX5_matches_50 ?_
        refine lv_icmp_gt (tgt := 58) hx hb dX5_matches_51 (by decide) (fun c8 => ?_) (fun c8 => ?_)
        · have h := h.1 c8
          refine lv_iconst (v := (0 : Int32)) hx hb dX5_matches_58 (by decide) ?_
          exact W.zret (v := (0 : Int32)) hx hb hr rfl (fun t ht hW => ⟨_, rfl, h, ht⟩) (fun q hq => by cases hq) dX5_matches_59
        · have h := h.2 c8
          refine lv_iconst (v := (1 : Int32)) hx hb dX5_matches_54 (by decide) ?_
          refine lv_goto (tgt := 59) hx hb dX5_matches_55 (by decide) ?_
          exact W.zret (v := (1 : Int32)) hx hb hr rfl (fun t ht hW => ⟨_, rfl, h, ht⟩) (fun q hq => by cases hq) dX5_matches_59

theorem iX5_flaw_X5 : ∀ w ∈ wsX50, w ∈ wsX5_flaw := by decide +kernel
def bX5_flaw_13 (I : Nat → Int32) (F : Nat → Nat → Int32) (K2 : Int32 → Prop) (post : Int32 → Prop) : Nat → Int32 → Int32 → Int32 → Prop
  | 0 => fun _ _ _ => False
  | n + 1 => fun x1 x2 x3 => (((I 1) ≤ x3 → ((x2 = (1 : Int32) → ∀ v3 : Int32, v3 = x1 + (1 : Int32) → K2 v3) ∧ (¬ x2 = (1 : Int32) → post x1))) ∧ (¬ (I 1) ≤ x3 → wX5_matches I F x3 (x1 / (10 : Int32)) (x1 - x1 / (10 : Int32) * (10 : Int32)) (fun r4 => ((r4 = (0 : Int32) → ∀ v6 : Int32, v6 = (x2 + (0 : Int32)) → ∀ v7 : Int32, v7 = x3 + (1 : Int32) → bX5_flaw_13 I F K2 post n x1 v6 v7) ∧ (¬ r4 = (0 : Int32) → ∀ v8 : Int32, v8 = (x2 + (1 : Int32)) → ∀ v9 : Int32, v9 = x3 + (1 : Int32) → bX5_flaw_13 I F K2 post n x1 v8 v9)))))
def bX5_flaw_2 (I : Nat → Int32) (F : Nat → Nat → Int32) (post : Int32 → Prop) : Nat → Int32 → Prop
  | 0 => fun _ => False
  | n + 1 => fun x1 => (((500 : Int32) ≤ x1 → post (-1 : Int32)) ∧ (¬ (500 : Int32) ≤ x1 → ∃ n13 : Nat, bX5_flaw_13 I F (bX5_flaw_2 I F post n) post n13 x1 (0 : Int32) (0 : Int32)))
def wX5_flaw (I : Nat → Int32) (F : Nat → Nat → Int32) (post : Int32 → Prop) : Prop := ∃ n2 : Nat, bX5_flaw_2 I F post n2 (0 : Int32)
set_option maxHeartbeats 4000000 in
set_option maxRecDepth 100000 in
theorem sX5_flaw_13 {p : Program} {l : Launch} {e : Env} {s : State} {m : MethodId} {args : Array Value} {below : List Frame} {meth : Method} {c : Code} {dC : Nat → ClassId} {dI : Nat → Nat → Nat} {cI : ClassId} {ad : Nat → Nat} {I : Nat → Int32} {F : Nat → Nat → Int32} (C : Cx p s m args meth c cX5_flaw 4 (some .int) RX5 wsX5_flaw) (hP : va_P (dC, dI) vwCl (wM cI ad I F) s.heap) (hK : va_K (dC, dI) vwCl [(cI, .int)] s) (hN : NW s) (post : Int32 → Prop) (K2 : Int32 → Prop) (hK2 : ∀ (x1 : Int32), K2 x1 → ∀ (ls : Array Slot), lv_has ls 4 [(0, .ref (ad 0)), (1, .int x1)] → W p l e { frames := 1, cells := 0, slots := 0, locals := 23 } s m args below meth c s.heap [] 0 0 (MQ below (vp_Si post) args s 0 0 (fun _ => False)) (F0 m 2 ls [])) : ∀ (n : Nat) (x1 x2 x3 : Int32), bX5_flaw_13 I F K2 post n x1 x2 x3 → ∀ (ls : Array Slot), lv_has ls 4 [(0, .ref (ad 0)), (1, .int x1), (2, .int x2), (3, .int x3)] → W p l e { frames := 1, cells := 0, slots := 0, locals := 23 } s m args below meth c s.heap [] 0 0 (MQ below (vp_Si post) args s 0 0 (fun _ => False)) (F0 m 13 ls []) := by
  obtain ⟨hx, hb, hml, hown, hts, hr, hlocks⟩ := id C
  intro n
  induction n with
  | zero =>
    intro x1 x2 x3 h ls hl
    exact h.elim
  | succ n ih =>
    intro x1 x2 x3 h ls hl
    unfold bX5_flaw_13 at h
    refine lv_iload_n hx hb dX5_flaw_13 rfl (lv_at hl 3 rfl) ?_
    refine lv_aload_n hx hb dX5_flaw_14 rfl (lv_at hl 0 rfl) ?_
    refine va_get (D := (dC, dI)) (ci := 5) (v := .int (I 1)) (C := RX5) (T := TX5) (N := 31) hx hb hts iX5_flaw_X5 hown hK hP 0 rfl rfl 1 (by decide) (hts (.fieldLink RX5 78 "CarrierBooksModel" "rows" "I") (by decide +kernel)) (fun _ h9 => h9) rfl dX5_flaw_15 ?_
    refine lv_icmp_ge (tgt := 51) hx hb dX5_flaw_18 (by decide) (fun c1 => ?_) (fun c1 => ?_)
    · have h := h.1 c1
      refine lv_iload_n hx hb dX5_flaw_51 rfl (lv_at hl 2 rfl) ?_
      refine lv_iconst (v := (1 : Int32)) hx hb dX5_flaw_52 (by decide) ?_
      refine lv_icmp_eq (tgt := 58) hx hb dX5_flaw_53 (by decide) (fun c2 => ?_) (fun c2 => ?_)
      · have h := h.1 c2
        obtain ⟨v3, ev3⟩ : ∃ y : Int32, y = x1 + (1 : Int32) := ⟨_, rfl⟩
        have h := h v3 ev3
        refine lv_iinc (v := v3) (lv' := [(1, .int v3), (0, .ref (ad 0)), (2, .int x2), (3, .int x3)]) hx hb dX5_flaw_58 hl (k := 1) rfl (by rw [ev3]; rfl) (by decide) rfl (fun ls hl => ?_)
        refine lv_goto (tgt := 2) hx hb dX5_flaw_61 (by decide) ?_
        exact hK2 v3 h ls (lv_sub hl [1, 0] rfl)
      · have h := h.2 c2
        refine lv_iload_n hx hb dX5_flaw_56 rfl (lv_at hl 1 rfl) ?_
        exact W.iret (v := x1) hx hb hr (fun t ht hW => ⟨_, rfl, h, ht⟩) (fun q hq => by cases hq) dX5_flaw_57
    · have h := h.2 c1
      refine lv_iload_n hx hb dX5_flaw_21 rfl (lv_at hl 2 rfl) ?_
      refine lv_aload_n hx hb dX5_flaw_22 rfl (lv_at hl 0 rfl) ?_
      refine lv_iload_n hx hb dX5_flaw_23 rfl (lv_at hl 3 rfl) ?_
      refine lv_iload_n hx hb dX5_flaw_24 rfl (lv_at hl 1 rfl) ?_
      refine lv_bipush (v := (10 : Int32)) hx hb dX5_flaw_25 (by decide) ?_
      refine lv_idiv hx hb dX5_flaw_27 (by decide) ?_
      refine lv_iload_n hx hb dX5_flaw_28 rfl (lv_at hl 1 rfl) ?_
      refine lv_bipush (v := (10 : Int32)) hx hb dX5_flaw_29 (by decide) ?_
      refine lv_irem hx hb dX5_flaw_31 (by decide) ?_
      refine vp_callSi (cr_of (va_runV (As := [.int x3, .int (x1 / (10 : Int32)), .int (x1 - x1 / (10 : Int32) * (10 : Int32))]) (rest := [.int x2]) ⟨hx, hb, hml, hown, hts⟩ (cTX5_matches l dC dI cI ad I F x3 (x1 / (10 : Int32)) (x1 - x1 / (10 : Int32) * (10 : Int32)) _ h) (cwV 3 hts gX5_flaw_X5_matches rfl rfl rfl (by decide +kernel) ⟨Nat.le_of_ble_eq_true rfl, Nat.le_of_ble_eq_true rfl⟩) (pv_R hP hK hN 0 5 rfl rfl _) rfl rfl hl.1 rfl (lv_room (Nat.le_of_ble_eq_true rfl)) dX5_flaw_32 ⟨Nat.le_of_ble_eq_true rfl, Nat.le_of_ble_eq_true rfl⟩)) (fun r4 h => ?_)
      refine lv_if_eq (tgt := 42) hx hb dX5_flaw_35 (by decide) (fun c5 => ?_) (fun c5 => ?_)
      · have h := h.1 c5
        refine lv_iconst (v := (0 : Int32)) hx hb dX5_flaw_42 (by decide) ?_
        refine lv_iadd hx hb dX5_flaw_43 ?_
        refine lv_topi (fun v6 ev6 => ?_)
        have h := h v6 ev6
        refine lv_istore_n (lv' := [(2, .int v6), (0, .ref (ad 0)), (1, .int x1), (3, .int x3)]) hx hb dX5_flaw_44 rfl hl (by decide) rfl (fun ls hl => ?_)
        obtain ⟨v7, ev7⟩ : ∃ y : Int32, y = x3 + (1 : Int32) := ⟨_, rfl⟩
        have h := h v7 ev7
        refine lv_iinc (v := v7) (lv' := [(3, .int v7), (2, .int v6), (0, .ref (ad 0)), (1, .int x1)]) hx hb dX5_flaw_45 hl (k := 3) rfl (by rw [ev7]; rfl) (by decide) rfl (fun ls hl => ?_)
        refine lv_goto (tgt := 13) hx hb dX5_flaw_48 (by decide) ?_
        exact ih x1 v6 v7 h ls (lv_sub hl [2, 3, 1, 0] rfl)
      · have h := h.2 c5
        refine lv_iconst (v := (1 : Int32)) hx hb dX5_flaw_38 (by decide) ?_
        refine lv_goto (tgt := 43) hx hb dX5_flaw_39 (by decide) ?_
        refine lv_iadd hx hb dX5_flaw_43 ?_
        refine lv_topi (fun v8 ev8 => ?_)
        have h := h v8 ev8
        refine lv_istore_n (lv' := [(2, .int v8), (0, .ref (ad 0)), (1, .int x1), (3, .int x3)]) hx hb dX5_flaw_44 rfl hl (by decide) rfl (fun ls hl => ?_)
        obtain ⟨v9, ev9⟩ : ∃ y : Int32, y = x3 + (1 : Int32) := ⟨_, rfl⟩
        have h := h v9 ev9
        refine lv_iinc (v := v9) (lv' := [(3, .int v9), (2, .int v8), (0, .ref (ad 0)), (1, .int x1)]) hx hb dX5_flaw_45 hl (k := 3) rfl (by rw [ev9]; rfl) (by decide) rfl (fun ls hl => ?_)
        refine lv_goto (tgt := 13) hx hb dX5_flaw_48 (by decide) ?_
        exact ih x1 v8 v9 h ls (lv_sub hl [2, 3, 1, 0] rfl)
set_option maxHeartbeats 4000000 in
set_option maxRecDepth 100000 in
theorem sX5_flaw_2 {p : Program} {l : Launch} {e : Env} {s : State} {m : MethodId} {args : Array Value} {below : List Frame} {meth : Method} {c : Code} {dC : Nat → ClassId} {dI : Nat → Nat → Nat} {cI : ClassId} {ad : Nat → Nat} {I : Nat → Int32} {F : Nat → Nat → Int32} (C : Cx p s m args meth c cX5_flaw 4 (some .int) RX5 wsX5_flaw) (hP : va_P (dC, dI) vwCl (wM cI ad I F) s.heap) (hK : va_K (dC, dI) vwCl [(cI, .int)] s) (hN : NW s) (post : Int32 → Prop) : ∀ (n : Nat) (x1 : Int32), bX5_flaw_2 I F post n x1 → ∀ (ls : Array Slot), lv_has ls 4 [(0, .ref (ad 0)), (1, .int x1)] → W p l e { frames := 1, cells := 0, slots := 0, locals := 23 } s m args below meth c s.heap [] 0 0 (MQ below (vp_Si post) args s 0 0 (fun _ => False)) (F0 m 2 ls []) := by
  obtain ⟨hx, hb, hml, hown, hts, hr, hlocks⟩ := id C
  intro n
  induction n with
  | zero =>
    intro x1 h ls hl
    exact h.elim
  | succ n ih =>
    intro x1 h ls hl
    unfold bX5_flaw_2 at h
    refine lv_iload_n hx hb dX5_flaw_2 rfl (lv_at hl 1 rfl) ?_
    refine lv_sipush (v := (500 : Int32)) hx hb dX5_flaw_3 (by decide) ?_
    refine lv_icmp_ge (tgt := 64) hx hb dX5_flaw_6 (by decide) (fun c10 => ?_) (fun c10 => ?_)
    · have h := h.1 c10
      refine lv_iconst (v := (-1 : Int32)) hx hb dX5_flaw_64 (by decide) ?_
      exact W.iret (v := (-1 : Int32)) hx hb hr (fun t ht hW => ⟨_, rfl, h, ht⟩) (fun q hq => by cases hq) dX5_flaw_65
    · have h := h.2 c10
      refine lv_iconst (v := (0 : Int32)) hx hb dX5_flaw_9 (by decide) ?_
      refine lv_istore_n (lv' := [(2, .int (0 : Int32)), (0, .ref (ad 0)), (1, .int x1)]) hx hb dX5_flaw_10 rfl hl (by decide) rfl (fun ls hl => ?_)
      refine lv_iconst (v := (0 : Int32)) hx hb dX5_flaw_11 (by decide) ?_
      refine lv_istore_n (lv' := [(3, .int (0 : Int32)), (2, .int (0 : Int32)), (0, .ref (ad 0)), (1, .int x1)]) hx hb dX5_flaw_12 rfl hl (by decide) rfl (fun ls hl => ?_)
      obtain ⟨n9, h⟩ := h
      exact sX5_flaw_13 C hP hK hN post (bX5_flaw_2 I F post n) ih n9 x1 (0 : Int32) (0 : Int32) h ls (lv_sub hl [2, 3, 1, 0] rfl)
set_option maxHeartbeats 4000000 in
set_option maxRecDepth 100000 in
theorem cTX5_flaw (l : Launch) (dC : Nat → ClassId) (dI : Nat → Nat → Nat) (cI : ClassId) (ad : Nat → Nat) (I : Nat → Int32) (F : Nat → Nat → Int32) (post : Int32 → Prop) (h : wX5_flaw I F post) : Met l yX5_flaw wsX5_flaw { frames := 1, cells := 0, slots := 0, locals := 23 } (va_Pc [.ref (ad 0)] (PW dC dI cI (wM cI ad) I F)) (vp_Si post) 0 0 (fun _ => False) := by
  refine Met.ofW (cc := cX5_flaw) (maxL := 4) (ret := (some .int)) (by decide) rfl ?_
  intro p e s m args below meth c s₁ B hml hv
  obtain ⟨rfl, hP, hK, hN⟩ := hv
  have hx := B.exec
  have hb := B.bytes
  have hr := B.returns
  have hts := atoms_spec (ws := wsX5_flaw) B.pre
  have hown : s.vm.findClass RX5 = some m.cls := findClass_of_methodNamed B.named
  have hlocks := B.notSynchronized
  have C : Cx p s m _ meth c cX5_flaw 4 (some .int) RX5 wsX5_flaw := ⟨hx, hb, hml, hown, hts, hr, hlocks⟩
  have hl := lv_entry ([.ref (ad 0)]) (n := 4) (Nat.le_of_ble_eq_true rfl)
  rw [lg_entry_eq]
  generalize (lg_sl ([.ref (ad 0)]) ++ List.replicate (4 - (lg_sl ([.ref (ad 0)])).length) Slot.unset).toArray = ls at hl ⊢
  have hl : lv_has ls 4 [(0, .ref (ad 0))] := hl
  unfold wX5_flaw at h
  refine lv_iconst (v := (0 : Int32)) hx hb dX5_flaw_0 (by decide) ?_
  refine lv_istore_n (lv' := [(1, .int (0 : Int32)), (0, .ref (ad 0))]) hx hb dX5_flaw_1 rfl hl (by decide) rfl (fun ls hl => ?_)
  obtain ⟨n9, h⟩ := h
  exact sX5_flaw_2 C hP hK hN post n9 (0 : Int32) h ls (lv_sub hl [1, 0] rfl)

theorem iX5_rate_X5 : ∀ w ∈ wsX50, w ∈ wsX5_rate := by decide +kernel
def bX5_rate_5 (I : Nat → Int32) (F : Nat → Nat → Int32) (post : Int32 → Prop) : Nat → Int32 → Int32 → Int32 → Int32 → Prop
  | 0 => fun _ _ _ _ => False
  | n + 1 => fun x1 x2 x3 x4 => (((I 1) ≤ x4 → post x3) ∧ (¬ (I 1) ≤ x4 → wX5_matches I F x4 x1 x2 (fun r2 => ((r2 = (0 : Int32) → ∀ v4 : Int32, v4 = x4 + (1 : Int32) → bX5_rate_5 I F post n x1 x2 x3 v4) ∧ (¬ r2 = (0 : Int32) → vp_in (((5 : Int32) * x4) + (4 : Int32)) 40 ∧ ∀ v6 : Int32, v6 = (F 1 (Int32.toNatClampNeg (((5 : Int32) * x4) + (4 : Int32)))) → ∀ v7 : Int32, v7 = x4 + (1 : Int32) → bX5_rate_5 I F post n x1 x2 v6 v7)))))
def wX5_rate (I : Nat → Int32) (F : Nat → Nat → Int32) (x1 x2 : Int32) (post : Int32 → Prop) : Prop := ∃ n5 : Nat, bX5_rate_5 I F post n5 x1 x2 (0 : Int32) (0 : Int32)
set_option maxHeartbeats 4000000 in
set_option maxRecDepth 100000 in
theorem sX5_rate_5 {p : Program} {l : Launch} {e : Env} {s : State} {m : MethodId} {args : Array Value} {below : List Frame} {meth : Method} {c : Code} {dC : Nat → ClassId} {dI : Nat → Nat → Nat} {cI : ClassId} {ad : Nat → Nat} {I : Nat → Int32} {F : Nat → Nat → Int32} (C : Cx p s m args meth c cX5_rate 5 (some .int) RX5 wsX5_rate) (hP : va_P (dC, dI) vwCl (wM cI ad I F) s.heap) (hK : va_K (dC, dI) vwCl [(cI, .int)] s) (hN : NW s) (post : Int32 → Prop) : ∀ (n : Nat) (x1 x2 x3 x4 : Int32), bX5_rate_5 I F post n x1 x2 x3 x4 → ∀ (ls : Array Slot), lv_has ls 5 [(0, .ref (ad 0)), (1, .int x1), (2, .int x2), (3, .int x3), (4, .int x4)] → W p l e { frames := 1, cells := 0, slots := 0, locals := 23 } s m args below meth c s.heap [] 0 0 (MQ below (vp_Si post) args s 0 0 (fun _ => False)) (F0 m 5 ls []) := by
  obtain ⟨hx, hb, hml, hown, hts, hr, hlocks⟩ := id C
  intro n
  induction n with
  | zero =>
    intro x1 x2 x3 x4 h ls hl
    exact h.elim
  | succ n ih =>
    intro x1 x2 x3 x4 h ls hl
    unfold bX5_rate_5 at h
    refine lv_iload hx hb dX5_rate_5 (lv_at hl 4 rfl) ?_
    refine lv_aload_n hx hb dX5_rate_7 rfl (lv_at hl 0 rfl) ?_
    refine va_get (D := (dC, dI)) (ci := 5) (v := .int (I 1)) (C := RX5) (T := TX5) (N := 31) hx hb hts iX5_rate_X5 hown hK hP 0 rfl rfl 1 (by decide) (hts (.fieldLink RX5 78 "CarrierBooksModel" "rows" "I") (by decide +kernel)) (fun _ h9 => h9) rfl dX5_rate_8 ?_
    refine lv_icmp_ge (tgt := 47) hx hb dX5_rate_11 (by decide) (fun c1 => ?_) (fun c1 => ?_)
    · have h := h.1 c1
      refine lv_iload_n hx hb dX5_rate_47 rfl (lv_at hl 3 rfl) ?_
      exact W.iret (v := x3) hx hb hr (fun t ht hW => ⟨_, rfl, h, ht⟩) (fun q hq => by cases hq) dX5_rate_48
    · have h := h.2 c1
      refine lv_aload_n hx hb dX5_rate_14 rfl (lv_at hl 0 rfl) ?_
      refine lv_iload hx hb dX5_rate_15 (lv_at hl 4 rfl) ?_
      refine lv_iload_n hx hb dX5_rate_17 rfl (lv_at hl 1 rfl) ?_
      refine lv_iload_n hx hb dX5_rate_18 rfl (lv_at hl 2 rfl) ?_
      refine vp_callSi (cr_of (va_runV (As := [.int x4, .int x1, .int x2]) (rest := []) ⟨hx, hb, hml, hown, hts⟩ (cTX5_matches l dC dI cI ad I F x4 x1 x2 _ h) (cwV 3 hts gX5_rate_X5_matches rfl rfl rfl (by decide +kernel) ⟨Nat.le_of_ble_eq_true rfl, Nat.le_of_ble_eq_true rfl⟩) (pv_R hP hK hN 0 5 rfl rfl _) rfl rfl hl.1 rfl (lv_room (Nat.le_of_ble_eq_true rfl)) dX5_rate_19 ⟨Nat.le_of_ble_eq_true rfl, Nat.le_of_ble_eq_true rfl⟩)) (fun r2 h => ?_)
      refine lv_if_eq (tgt := 39) hx hb dX5_rate_22 (by decide) (fun c3 => ?_) (fun c3 => ?_)
      · have h := h.1 c3
        refine lv_iload_n hx hb dX5_rate_39 rfl (lv_at hl 3 rfl) ?_
        refine lv_istore_n (lv' := [(3, .int x3), (0, .ref (ad 0)), (1, .int x1), (2, .int x2), (4, .int x4)]) hx hb dX5_rate_40 rfl hl (by decide) rfl (fun ls hl => ?_)
        obtain ⟨v4, ev4⟩ : ∃ y : Int32, y = x4 + (1 : Int32) := ⟨_, rfl⟩
        have h := h v4 ev4
        refine lv_iinc (v := v4) (lv' := [(4, .int v4), (3, .int x3), (0, .ref (ad 0)), (1, .int x1), (2, .int x2)]) hx hb dX5_rate_41 hl (k := 4) rfl (by rw [ev4]; rfl) (by decide) rfl (fun ls hl => ?_)
        refine lv_goto (tgt := 5) hx hb dX5_rate_44 (by decide) ?_
        exact ih x1 x2 x3 v4 h ls (lv_sub hl [2, 3, 4, 1, 0] rfl)
      · have h := h.2 c3
        refine lv_aload_n hx hb dX5_rate_25 rfl (lv_at hl 0 rfl) ?_
        refine va_get (D := (dC, dI)) (ci := 5) (v := .ref (ad 1)) (C := RX5) (T := TX5) (N := 31) hx hb hts iX5_rate_X5 hown hK hP 0 rfl rfl 2 (by decide) (hts (.fieldLink RX5 7 "CarrierBooksModel" "plan" "[I") (by decide +kernel)) (fun _ h9 => h9) rfl dX5_rate_26 ?_
        refine lv_iconst (v := (5 : Int32)) hx hb dX5_rate_29 (by decide) ?_
        refine lv_iload hx hb dX5_rate_30 (lv_at hl 4 rfl) ?_
        refine lv_imul hx hb dX5_rate_32 ?_
        refine lv_iconst (v := (4 : Int32)) hx hb dX5_rate_33 (by decide) ?_
        refine lv_iadd hx hb dX5_rate_34 ?_
        obtain ⟨hin5, h⟩ := h
        refine va_iald hx hb hK hP 1 0 rfl rfl hin5 dX5_rate_35 ?_
        refine lv_goto (tgt := 40) hx hb dX5_rate_36 (by decide) ?_
        refine lv_topi (fun v6 ev6 => ?_)
        have h := h v6 ev6
        refine lv_istore_n (lv' := [(3, .int v6), (0, .ref (ad 0)), (1, .int x1), (2, .int x2), (4, .int x4)]) hx hb dX5_rate_40 rfl hl (by decide) rfl (fun ls hl => ?_)
        obtain ⟨v7, ev7⟩ : ∃ y : Int32, y = x4 + (1 : Int32) := ⟨_, rfl⟩
        have h := h v7 ev7
        refine lv_iinc (v := v7) (lv' := [(4, .int v7), (3, .int v6), (0, .ref (ad 0)), (1, .int x1), (2, .int x2)]) hx hb dX5_rate_41 hl (k := 4) rfl (by rw [ev7]; rfl) (by decide) rfl (fun ls hl => ?_)
        refine lv_goto (tgt := 5) hx hb dX5_rate_44 (by decide) ?_
        exact ih x1 x2 v6 v7 h ls (lv_sub hl [2, 3, 4, 1, 0] rfl)
set_option maxHeartbeats 4000000 in
set_option maxRecDepth 100000 in
theorem cTX5_rate (l : Launch) (dC : Nat → ClassId) (dI : Nat → Nat → Nat) (cI : ClassId) (ad : Nat → Nat) (I : Nat → Int32) (F : Nat → Nat → Int32) (x1 x2 : Int32) (post : Int32 → Prop) (h : wX5_rate I F x1 x2 post) : Met l yX5_rate wsX5_rate { frames := 1, cells := 0, slots := 0, locals := 23 } (va_Pc [.ref (ad 0), .int x1, .int x2] (PW dC dI cI (wM cI ad) I F)) (vp_Si post) 0 0 (fun _ => False) := by
  refine Met.ofW (cc := cX5_rate) (maxL := 5) (ret := (some .int)) (by decide) rfl ?_
  intro p e s m args below meth c s₁ B hml hv
  obtain ⟨rfl, hP, hK, hN⟩ := hv
  have hx := B.exec
  have hb := B.bytes
  have hr := B.returns
  have hts := atoms_spec (ws := wsX5_rate) B.pre
  have hown : s.vm.findClass RX5 = some m.cls := findClass_of_methodNamed B.named
  have hlocks := B.notSynchronized
  have C : Cx p s m _ meth c cX5_rate 5 (some .int) RX5 wsX5_rate := ⟨hx, hb, hml, hown, hts, hr, hlocks⟩
  have hl := lv_entry ([.ref (ad 0), .int x1, .int x2]) (n := 5) (Nat.le_of_ble_eq_true rfl)
  rw [lg_entry_eq]
  generalize (lg_sl ([.ref (ad 0), .int x1, .int x2]) ++ List.replicate (5 - (lg_sl ([.ref (ad 0), .int x1, .int x2])).length) Slot.unset).toArray = ls at hl ⊢
  have hl : lv_has ls 5 [(0, .ref (ad 0)), (1, .int x1), (2, .int x2)] := hl
  unfold wX5_rate at h
  refine lv_iconst (v := (0 : Int32)) hx hb dX5_rate_0 (by decide) ?_
  refine lv_istore_n (lv' := [(3, .int (0 : Int32)), (0, .ref (ad 0)), (1, .int x1), (2, .int x2)]) hx hb dX5_rate_1 rfl hl (by decide) rfl (fun ls hl => ?_)
  refine lv_iconst (v := (0 : Int32)) hx hb dX5_rate_2 (by decide) ?_
  refine lv_istore (lv' := [(4, .int (0 : Int32)), (3, .int (0 : Int32)), (0, .ref (ad 0)), (1, .int x1), (2, .int x2)]) hx hb dX5_rate_3 hl (by decide) rfl (fun ls hl => ?_)
  obtain ⟨n9, h⟩ := h
  exact sX5_rate_5 C hP hK hN post n9 x1 x2 (0 : Int32) (0 : Int32) h ls (lv_sub hl [2, 3, 4, 1, 0] rfl)

theorem iX5_isPolicy_X5 : ∀ w ∈ wsX50, w ∈ wsX5_isPolicy := by decide +kernel
def wX5_isPolicy (I : Nat → Int32) (F : Nat → Nat → Int32) (x1 : Int32) (post : Int32 → Prop) : Prop := ((x1 < (0 : Int32) → post (0 : Int32)) ∧ (¬ x1 < (0 : Int32) → (((I 2) ≤ x1 → post (0 : Int32)) ∧ (¬ (I 2) ≤ x1 → post (1 : Int32)))))
set_option maxHeartbeats 4000000 in
set_option maxRecDepth 100000 in
theorem cTX5_isPolicy (l : Launch) (dC : Nat → ClassId) (dI : Nat → Nat → Nat) (cI : ClassId) (ad : Nat → Nat) (I : Nat → Int32) (F : Nat → Nat → Int32) (x1 : Int32) (post : Int32 → Prop) (h : wX5_isPolicy I F x1 post) : Met l yX5_isPolicy wsX5_isPolicy { frames := 0, cells := 0, slots := 0, locals := 0 } (va_Pc [.ref (ad 0), .int x1] (PW dC dI cI (wM cI ad) I F)) (vp_Si post) 0 0 (fun _ => False) := by
  refine Met.ofW (cc := cX5_isPolicy) (maxL := 2) (ret := (some .boolean)) (by decide) rfl ?_
  intro p e s m args below meth c s₁ B hml hv
  obtain ⟨rfl, hP, hK, hN⟩ := hv
  have hx := B.exec
  have hb := B.bytes
  have hr := B.returns
  have hts := atoms_spec (ws := wsX5_isPolicy) B.pre
  have hown : s.vm.findClass RX5 = some m.cls := findClass_of_methodNamed B.named
  have hlocks := B.notSynchronized
  have C : Cx p s m _ meth c cX5_isPolicy 2 (some .boolean) RX5 wsX5_isPolicy := ⟨hx, hb, hml, hown, hts, hr, hlocks⟩
  have hl := lv_entry ([.ref (ad 0), .int x1]) (n := 2) (Nat.le_of_ble_eq_true rfl)
  rw [lg_entry_eq]
  generalize (lg_sl ([.ref (ad 0), .int x1]) ++ List.replicate (2 - (lg_sl ([.ref (ad 0), .int x1])).length) Slot.unset).toArray = ls at hl ⊢
  have hl : lv_has ls 2 [(0, .ref (ad 0)), (1, .int x1)] := hl
  unfold wX5_isPolicy at h
  refine lv_iload_n hx hb dX5_isPolicy_0 rfl (lv_at hl 1 rfl) ?_
  refine lv_if_lt (tgt := 16) hx hb dX5_isPolicy_1 (by decide) (fun c1 => ?_) (fun c1 => ?_)
  · have h := h.1 c1
    refine lv_iconst (v := (0 : Int32)) hx hb dX5_isPolicy_16 (by decide) ?_
    exact W.zret (v := (0 : Int32)) hx hb hr rfl (fun t ht hW => ⟨_, rfl, h, ht⟩) (fun q hq => by cases hq) dX5_isPolicy_17
  · have h := h.2 c1
    refine lv_iload_n hx hb dX5_isPolicy_4 rfl (lv_at hl 1 rfl) ?_
    refine lv_aload_n hx hb dX5_isPolicy_5 rfl (lv_at hl 0 rfl) ?_
    refine va_get (D := (dC, dI)) (ci := 5) (v := .int (I 2)) (C := RX5) (T := TX5) (N := 31) hx hb hts iX5_isPolicy_X5 hown hK hP 0 rfl rfl 3 (by decide) (hts (.fieldLink RX5 75 "CarrierBooksModel" "policies" "I") (by decide +kernel)) (fun _ h9 => h9) rfl dX5_isPolicy_6 ?_
    refine lv_icmp_ge (tgt := 16) hx hb dX5_isPolicy_9 (by decide) (fun c2 => ?_) (fun c2 => ?_)
    · have h := h.1 c2
      refine lv_iconst (v := (0 : Int32)) hx hb dX5_isPolicy_16 (by decide) ?_
      exact W.zret (v := (0 : Int32)) hx hb hr rfl (fun t ht hW => ⟨_, rfl, h, ht⟩) (fun q hq => by cases hq) dX5_isPolicy_17
    · have h := h.2 c2
      refine lv_iconst (v := (1 : Int32)) hx hb dX5_isPolicy_12 (by decide) ?_
      refine lv_goto (tgt := 17) hx hb dX5_isPolicy_13 (by decide) ?_
      exact W.zret (v := (1 : Int32)) hx hb hr rfl (fun t ht hW => ⟨_, rfl, h, ht⟩) (fun q hq => by cases hq) dX5_isPolicy_17

theorem iX5_inTerm_X5 : ∀ w ∈ wsX50, w ∈ wsX5_inTerm := by decide +kernel
def wX5_inTerm (I : Nat → Int32) (F : Nat → Nat → Int32) (x1 x2 : Int32) (post : Int32 → Prop) : Prop := vp_in x1 6 ∧ ((x2 < (F 2 (Int32.toNatClampNeg x1)) → post (0 : Int32)) ∧ (¬ x2 < (F 2 (Int32.toNatClampNeg x1)) → vp_in x1 6 ∧ (((F 3 (Int32.toNatClampNeg x1)) < x2 → post (0 : Int32)) ∧ (¬ (F 3 (Int32.toNatClampNeg x1)) < x2 → post (1 : Int32)))))
set_option maxHeartbeats 4000000 in
set_option maxRecDepth 100000 in
theorem cTX5_inTerm (l : Launch) (dC : Nat → ClassId) (dI : Nat → Nat → Nat) (cI : ClassId) (ad : Nat → Nat) (I : Nat → Int32) (F : Nat → Nat → Int32) (x1 x2 : Int32) (post : Int32 → Prop) (h : wX5_inTerm I F x1 x2 post) : Met l yX5_inTerm wsX5_inTerm { frames := 0, cells := 0, slots := 0, locals := 0 } (va_Pc [.ref (ad 0), .int x1, .int x2] (PW dC dI cI (wM cI ad) I F)) (vp_Si post) 0 0 (fun _ => False) := by
  refine Met.ofW (cc := cX5_inTerm) (maxL := 3) (ret := (some .boolean)) (by decide) rfl ?_
  intro p e s m args below meth c s₁ B hml hv
  obtain ⟨rfl, hP, hK, hN⟩ := hv
  have hx := B.exec
  have hb := B.bytes
  have hr := B.returns
  have hts := atoms_spec (ws := wsX5_inTerm) B.pre
  have hown : s.vm.findClass RX5 = some m.cls := findClass_of_methodNamed B.named
  have hlocks := B.notSynchronized
  have C : Cx p s m _ meth c cX5_inTerm 3 (some .boolean) RX5 wsX5_inTerm := ⟨hx, hb, hml, hown, hts, hr, hlocks⟩
  have hl := lv_entry ([.ref (ad 0), .int x1, .int x2]) (n := 3) (Nat.le_of_ble_eq_true rfl)
  rw [lg_entry_eq]
  generalize (lg_sl ([.ref (ad 0), .int x1, .int x2]) ++ List.replicate (3 - (lg_sl ([.ref (ad 0), .int x1, .int x2])).length) Slot.unset).toArray = ls at hl ⊢
  have hl : lv_has ls 3 [(0, .ref (ad 0)), (1, .int x1), (2, .int x2)] := hl
  unfold wX5_inTerm at h
  refine lv_iload_n hx hb dX5_inTerm_0 rfl (lv_at hl 2 rfl) ?_
  refine lv_aload_n hx hb dX5_inTerm_1 rfl (lv_at hl 0 rfl) ?_
  refine va_get (D := (dC, dI)) (ci := 5) (v := .ref (ad 2)) (C := RX5) (T := TX5) (N := 31) hx hb hts iX5_inTerm_X5 hown hK hP 0 rfl rfl 4 (by decide) (hts (.fieldLink RX5 13 "CarrierBooksModel" "start" "[I") (by decide +kernel)) (fun _ h9 => h9) rfl dX5_inTerm_2 ?_
  refine lv_iload_n hx hb dX5_inTerm_5 rfl (lv_at hl 1 rfl) ?_
  obtain ⟨hin1, h⟩ := h
  refine va_iald hx hb hK hP 2 0 rfl rfl hin1 dX5_inTerm_6 ?_
  refine lv_icmp_lt (tgt := 24) hx hb dX5_inTerm_7 (by decide) (fun c2 => ?_) (fun c2 => ?_)
  · have h := h.1 c2
    refine lv_iconst (v := (0 : Int32)) hx hb dX5_inTerm_24 (by decide) ?_
    exact W.zret (v := (0 : Int32)) hx hb hr rfl (fun t ht hW => ⟨_, rfl, h, ht⟩) (fun q hq => by cases hq) dX5_inTerm_25
  · have h := h.2 c2
    refine lv_iload_n hx hb dX5_inTerm_10 rfl (lv_at hl 2 rfl) ?_
    refine lv_aload_n hx hb dX5_inTerm_11 rfl (lv_at hl 0 rfl) ?_
    refine va_get (D := (dC, dI)) (ci := 5) (v := .ref (ad 3)) (C := RX5) (T := TX5) (N := 31) hx hb hts iX5_inTerm_X5 hown hK hP 0 rfl rfl 5 (by decide) (hts (.fieldLink RX5 16 "CarrierBooksModel" "last" "[I") (by decide +kernel)) (fun _ h9 => h9) rfl dX5_inTerm_12 ?_
    refine lv_iload_n hx hb dX5_inTerm_15 rfl (lv_at hl 1 rfl) ?_
    obtain ⟨hin3, h⟩ := h
    refine va_iald hx hb hK hP 3 0 rfl rfl hin3 dX5_inTerm_16 ?_
    refine lv_icmp_gt (tgt := 24) hx hb dX5_inTerm_17 (by decide) (fun c4 => ?_) (fun c4 => ?_)
    · have h := h.1 c4
      refine lv_iconst (v := (0 : Int32)) hx hb dX5_inTerm_24 (by decide) ?_
      exact W.zret (v := (0 : Int32)) hx hb hr rfl (fun t ht hW => ⟨_, rfl, h, ht⟩) (fun q hq => by cases hq) dX5_inTerm_25
    · have h := h.2 c4
      refine lv_iconst (v := (1 : Int32)) hx hb dX5_inTerm_20 (by decide) ?_
      refine lv_goto (tgt := 25) hx hb dX5_inTerm_21 (by decide) ?_
      exact W.zret (v := (1 : Int32)) hx hb hr rfl (fun t ht hW => ⟨_, rfl, h, ht⟩) (fun q hq => by cases hq) dX5_inTerm_25

theorem iX5_known_X5 : ∀ w ∈ wsX50, w ∈ wsX5_known := by decide +kernel
def wX5_known (I : Nat → Int32) (F : Nat → Nat → Int32) (x1 : Int32) (post : Int32 → Prop) : Prop := vp_in x1 4 ∧ ∀ v2 : Int32, v2 = (F 9 (Int32.toNatClampNeg x1)) → (((0 : Int32) ≤ v2 → vp_in v2 40 ∧ ((¬ (F 4 (Int32.toNatClampNeg v2)) = (1 : Int32) → ((¬ x1 = (0 : Int32) → ((¬ x1 = (1 : Int32) → vp_in v2 40 ∧ post ((F 8 (Int32.toNatClampNeg v2)) - (F 8 (Int32.toNatClampNeg v2)) / (1000 : Int32) * (1000 : Int32))) ∧ (x1 = (1 : Int32) → vp_in v2 40 ∧ post (((F 8 (Int32.toNatClampNeg v2)) / (1000 : Int32)) - ((F 8 (Int32.toNatClampNeg v2)) / (1000 : Int32)) / (1000 : Int32) * (1000 : Int32))))) ∧ (x1 = (0 : Int32) → vp_in v2 40 ∧ post ((F 8 (Int32.toNatClampNeg v2)) / (1000000 : Int32))))) ∧ ((F 4 (Int32.toNatClampNeg v2)) = (1 : Int32) → vp_in v2 40 ∧ post (F 8 (Int32.toNatClampNeg v2))))) ∧ (¬ (0 : Int32) ≤ v2 → post (0 : Int32)))
set_option maxHeartbeats 4000000 in
set_option maxRecDepth 100000 in
theorem cTX5_known (l : Launch) (dC : Nat → ClassId) (dI : Nat → Nat → Nat) (cI : ClassId) (ad : Nat → Nat) (I : Nat → Int32) (F : Nat → Nat → Int32) (x1 : Int32) (post : Int32 → Prop) (h : wX5_known I F x1 post) : Met l yX5_known wsX5_known { frames := 0, cells := 0, slots := 0, locals := 0 } (va_Pc [.ref (ad 0), .int x1] (PW dC dI cI (wM cI ad) I F)) (vp_Si post) 0 0 (fun _ => False) := by
  refine Met.ofW (cc := cX5_known) (maxL := 3) (ret := (some .int)) (by decide) rfl ?_
  intro p e s m args below meth c s₁ B hml hv
  obtain ⟨rfl, hP, hK, hN⟩ := hv
  have hx := B.exec
  have hb := B.bytes
  have hr := B.returns
  have hts := atoms_spec (ws := wsX5_known) B.pre
  have hown : s.vm.findClass RX5 = some m.cls := findClass_of_methodNamed B.named
  have hlocks := B.notSynchronized
  have C : Cx p s m _ meth c cX5_known 3 (some .int) RX5 wsX5_known := ⟨hx, hb, hml, hown, hts, hr, hlocks⟩
  have hl := lv_entry ([.ref (ad 0), .int x1]) (n := 3) (Nat.le_of_ble_eq_true rfl)
  rw [lg_entry_eq]
  generalize (lg_sl ([.ref (ad 0), .int x1]) ++ List.replicate (3 - (lg_sl ([.ref (ad 0), .int x1])).length) Slot.unset).toArray = ls at hl ⊢
  have hl : lv_has ls 3 [(0, .ref (ad 0)), (1, .int x1)] := hl
  unfold wX5_known at h
  refine lv_aload_n hx hb dX5_known_0 rfl (lv_at hl 0 rfl) ?_
  refine va_get (D := (dC, dI)) (ci := 5) (v := .ref (ad 9)) (C := RX5) (T := TX5) (N := 31) hx hb hts iX5_known_X5 hown hK hP 0 rfl rfl 12 (by decide) (hts (.fieldLink RX5 34 "CarrierBooksModel" "best" "[I") (by decide +kernel)) (fun _ h9 => h9) rfl dX5_known_1 ?_
  refine lv_iload_n hx hb dX5_known_4 rfl (lv_at hl 1 rfl) ?_
  obtain ⟨hin1, h⟩ := h
  refine va_iald hx hb hK hP 9 0 rfl rfl hin1 dX5_known_5 ?_
  refine lv_topi (fun v2 ev2 => ?_)
  have h := h v2 ev2
  refine lv_istore_n (lv' := [(2, .int v2), (0, .ref (ad 0)), (1, .int x1)]) hx hb dX5_known_6 rfl hl (by decide) rfl (fun ls hl => ?_)
  refine lv_iload_n hx hb dX5_known_7 rfl (lv_at hl 0 rfl) ?_
  refine lv_if_ge (tgt := 13) hx hb dX5_known_8 (by decide) (fun c3 => ?_) (fun c3 => ?_)
  · have h := h.1 c3
    refine lv_aload_n hx hb dX5_known_13 rfl (lv_at hl 1 rfl) ?_
    refine va_get (D := (dC, dI)) (ci := 5) (v := .ref (ad 4)) (C := RX5) (T := TX5) (N := 31) hx hb hts iX5_known_X5 hown hK hP 0 rfl rfl 7 (by decide) (hts (.fieldLink RX5 19 "CarrierBooksModel" "kind" "[I") (by decide +kernel)) (fun _ h9 => h9) rfl dX5_known_14 ?_
    refine lv_iload_n hx hb dX5_known_17 rfl (lv_at hl 0 rfl) ?_
    obtain ⟨hin4, h⟩ := h
    refine va_iald hx hb hK hP 4 0 rfl rfl hin4 dX5_known_18 ?_
    refine lv_iconst (v := (1 : Int32)) hx hb dX5_known_19 (by decide) ?_
    refine lv_icmp_ne (tgt := 30) hx hb dX5_known_20 (by decide) (fun c5 => ?_) (fun c5 => ?_)
    · have h := h.1 c5
      refine lv_iload_n hx hb dX5_known_30 rfl (lv_at hl 2 rfl) ?_
      refine lv_if_ne (tgt := 46) hx hb dX5_known_31 (by decide) (fun c6 => ?_) (fun c6 => ?_)
      · have h := h.1 c6
        refine lv_iload_n hx hb dX5_known_46 rfl (lv_at hl 2 rfl) ?_
        refine lv_iconst (v := (1 : Int32)) hx hb dX5_known_47 (by decide) ?_
        refine lv_icmp_ne (tgt := 68) hx hb dX5_known_48 (by decide) (fun c7 => ?_) (fun c7 => ?_)
        · have h := h.1 c7
          refine lv_aload_n hx hb dX5_known_68 rfl (lv_at hl 1 rfl) ?_
          refine va_get (D := (dC, dI)) (ci := 5) (v := .ref (ad 8)) (C := RX5) (T := TX5) (N := 31) hx hb hts iX5_known_X5 hown hK hP 0 rfl rfl 11 (by decide) (hts (.fieldLink RX5 31 "CarrierBooksModel" "value" "[I") (by decide +kernel)) (fun _ h9 => h9) rfl dX5_known_69 ?_
          refine lv_iload_n hx hb dX5_known_72 rfl (lv_at hl 0 rfl) ?_
          obtain ⟨hin8, h⟩ := h
          refine va_iald hx hb hK hP 8 0 rfl rfl hin8 dX5_known_73 ?_
          refine lv_sipush (v := (1000 : Int32)) hx hb dX5_known_74 (by decide) ?_
          refine lv_irem hx hb dX5_known_77 (by decide) ?_
          exact W.iret (v := ((F 8 (Int32.toNatClampNeg v2)) - (F 8 (Int32.toNatClampNeg v2)) / (1000 : Int32) * (1000 : Int32))) hx hb hr (fun t ht hW => ⟨_, rfl, h, ht⟩) (fun q hq => by cases hq) dX5_known_78
        · have h := h.2 c7
          refine lv_aload_n hx hb dX5_known_51 rfl (lv_at hl 1 rfl) ?_
          refine va_get (D := (dC, dI)) (ci := 5) (v := .ref (ad 8)) (C := RX5) (T := TX5) (N := 31) hx hb hts iX5_known_X5 hown hK hP 0 rfl rfl 11 (by decide) (hts (.fieldLink RX5 31 "CarrierBooksModel" "value" "[I") (by decide +kernel)) (fun _ h9 => h9) rfl dX5_known_52 ?_
          refine lv_iload_n hx hb dX5_known_55 rfl (lv_at hl 0 rfl) ?_
          obtain ⟨hin9, h⟩ := h
          refine va_iald hx hb hK hP 8 0 rfl rfl hin9 dX5_known_56 ?_
          refine lv_sipush (v := (1000 : Int32)) hx hb dX5_known_57 (by decide) ?_
          refine lv_idiv hx hb dX5_known_60 (by decide) ?_
          refine lv_sipush (v := (1000 : Int32)) hx hb dX5_known_61 (by decide) ?_
          refine lv_irem hx hb dX5_known_64 (by decide) ?_
          refine lv_goto (tgt := 78) hx hb dX5_known_65 (by decide) ?_
          exact W.iret (v := (((F 8 (Int32.toNatClampNeg v2)) / (1000 : Int32)) - ((F 8 (Int32.toNatClampNeg v2)) / (1000 : Int32)) / (1000 : Int32) * (1000 : Int32))) hx hb hr (fun t ht hW => ⟨_, rfl, h, ht⟩) (fun q hq => by cases hq) dX5_known_78
      · have h := h.2 c6
        refine lv_aload_n hx hb dX5_known_34 rfl (lv_at hl 1 rfl) ?_
        refine va_get (D := (dC, dI)) (ci := 5) (v := .ref (ad 8)) (C := RX5) (T := TX5) (N := 31) hx hb hts iX5_known_X5 hown hK hP 0 rfl rfl 11 (by decide) (hts (.fieldLink RX5 31 "CarrierBooksModel" "value" "[I") (by decide +kernel)) (fun _ h9 => h9) rfl dX5_known_35 ?_
        refine lv_iload_n hx hb dX5_known_38 rfl (lv_at hl 0 rfl) ?_
        obtain ⟨hin10, h⟩ := h
        refine va_iald hx hb hK hP 8 0 rfl rfl hin10 dX5_known_39 ?_
        refine lv_ldc (v := (1000000 : Int32)) hx hb hown (hts (.constant RX5 113 1000000) (by decide +kernel)) dX5_known_40 ?_
        refine lv_idiv hx hb dX5_known_42 (by decide) ?_
        refine lv_goto (tgt := 78) hx hb dX5_known_43 (by decide) ?_
        exact W.iret (v := ((F 8 (Int32.toNatClampNeg v2)) / (1000000 : Int32))) hx hb hr (fun t ht hW => ⟨_, rfl, h, ht⟩) (fun q hq => by cases hq) dX5_known_78
    · have h := h.2 c5
      refine lv_aload_n hx hb dX5_known_23 rfl (lv_at hl 1 rfl) ?_
      refine va_get (D := (dC, dI)) (ci := 5) (v := .ref (ad 8)) (C := RX5) (T := TX5) (N := 31) hx hb hts iX5_known_X5 hown hK hP 0 rfl rfl 11 (by decide) (hts (.fieldLink RX5 31 "CarrierBooksModel" "value" "[I") (by decide +kernel)) (fun _ h9 => h9) rfl dX5_known_24 ?_
      refine lv_iload_n hx hb dX5_known_27 rfl (lv_at hl 0 rfl) ?_
      obtain ⟨hin11, h⟩ := h
      refine va_iald hx hb hK hP 8 0 rfl rfl hin11 dX5_known_28 ?_
      exact W.iret (v := (F 8 (Int32.toNatClampNeg v2))) hx hb hr (fun t ht hW => ⟨_, rfl, h, ht⟩) (fun q hq => by cases hq) dX5_known_29
  · have h := h.2 c3
    refine lv_iconst (v := (0 : Int32)) hx hb dX5_known_11 (by decide) ?_
    exact W.iret (v := (0 : Int32)) hx hb hr (fun t ht hW => ⟨_, rfl, h, ht⟩) (fun q hq => by cases hq) dX5_known_12

theorem iX5_runs_X5 : ∀ w ∈ wsX50, w ∈ wsX5_runs := by decide +kernel
def wX5_runs (I : Nat → Int32) (F : Nat → Nat → Int32) (post : Int32 → Prop) : Prop := vp_in (0 : Int32) 4 ∧ (((F 9 (Int32.toNatClampNeg (0 : Int32))) < (0 : Int32) → post (0 : Int32)) ∧ (¬ (F 9 (Int32.toNatClampNeg (0 : Int32))) < (0 : Int32) → vp_in (3 : Int32) 4 ∧ (((F 9 (Int32.toNatClampNeg (3 : Int32))) < (0 : Int32) → post (1 : Int32)) ∧ (¬ (F 9 (Int32.toNatClampNeg (3 : Int32))) < (0 : Int32) → vp_in (3 : Int32) 4 ∧ vp_in (F 9 (Int32.toNatClampNeg (3 : Int32))) 40 ∧ ((¬ (F 4 (Int32.toNatClampNeg (F 9 (Int32.toNatClampNeg (3 : Int32))))) = (3 : Int32) → post (0 : Int32)) ∧ ((F 4 (Int32.toNatClampNeg (F 9 (Int32.toNatClampNeg (3 : Int32))))) = (3 : Int32) → post (1 : Int32)))))))
set_option maxHeartbeats 4000000 in
set_option maxRecDepth 100000 in
theorem cTX5_runs (l : Launch) (dC : Nat → ClassId) (dI : Nat → Nat → Nat) (cI : ClassId) (ad : Nat → Nat) (I : Nat → Int32) (F : Nat → Nat → Int32) (post : Int32 → Prop) (h : wX5_runs I F post) : Met l yX5_runs wsX5_runs { frames := 0, cells := 0, slots := 0, locals := 0 } (va_Pc [.ref (ad 0)] (PW dC dI cI (wM cI ad) I F)) (vp_Si post) 0 0 (fun _ => False) := by
  refine Met.ofW (cc := cX5_runs) (maxL := 1) (ret := (some .boolean)) (by decide) rfl ?_
  intro p e s m args below meth c s₁ B hml hv
  obtain ⟨rfl, hP, hK, hN⟩ := hv
  have hx := B.exec
  have hb := B.bytes
  have hr := B.returns
  have hts := atoms_spec (ws := wsX5_runs) B.pre
  have hown : s.vm.findClass RX5 = some m.cls := findClass_of_methodNamed B.named
  have hlocks := B.notSynchronized
  have C : Cx p s m _ meth c cX5_runs 1 (some .boolean) RX5 wsX5_runs := ⟨hx, hb, hml, hown, hts, hr, hlocks⟩
  have hl := lv_entry ([.ref (ad 0)]) (n := 1) (Nat.le_of_ble_eq_true rfl)
  rw [lg_entry_eq]
  generalize (lg_sl ([.ref (ad 0)]) ++ List.replicate (1 - (lg_sl ([.ref (ad 0)])).length) Slot.unset).toArray = ls at hl ⊢
  have hl : lv_has ls 1 [(0, .ref (ad 0))] := hl
  unfold wX5_runs at h
  refine lv_aload_n hx hb dX5_runs_0 rfl (lv_at hl 0 rfl) ?_
  refine va_get (D := (dC, dI)) (ci := 5) (v := .ref (ad 9)) (C := RX5) (T := TX5) (N := 31) hx hb hts iX5_runs_X5 hown hK hP 0 rfl rfl 12 (by decide) (hts (.fieldLink RX5 34 "CarrierBooksModel" "best" "[I") (by decide +kernel)) (fun _ h9 => h9) rfl dX5_runs_1 ?_
  refine lv_iconst (v := (0 : Int32)) hx hb dX5_runs_4 (by decide) ?_
  obtain ⟨hin1, h⟩ := h
  refine va_iald hx hb hK hP 9 0 rfl rfl hin1 dX5_runs_5 ?_
  refine lv_if_lt (tgt := 37) hx hb dX5_runs_6 (by decide) (fun c2 => ?_) (fun c2 => ?_)
  · have h := h.1 c2
    refine lv_iconst (v := (0 : Int32)) hx hb dX5_runs_37 (by decide) ?_
    exact W.zret (v := (0 : Int32)) hx hb hr rfl (fun t ht hW => ⟨_, rfl, h, ht⟩) (fun q hq => by cases hq) dX5_runs_38
  · have h := h.2 c2
    refine lv_aload_n hx hb dX5_runs_9 rfl (lv_at hl 0 rfl) ?_
    refine va_get (D := (dC, dI)) (ci := 5) (v := .ref (ad 9)) (C := RX5) (T := TX5) (N := 31) hx hb hts iX5_runs_X5 hown hK hP 0 rfl rfl 12 (by decide) (hts (.fieldLink RX5 34 "CarrierBooksModel" "best" "[I") (by decide +kernel)) (fun _ h9 => h9) rfl dX5_runs_10 ?_
    refine lv_iconst (v := (3 : Int32)) hx hb dX5_runs_13 (by decide) ?_
    obtain ⟨hin3, h⟩ := h
    refine va_iald hx hb hK hP 9 0 rfl rfl hin3 dX5_runs_14 ?_
    refine lv_if_lt (tgt := 33) hx hb dX5_runs_15 (by decide) (fun c4 => ?_) (fun c4 => ?_)
    · have h := h.1 c4
      refine lv_iconst (v := (1 : Int32)) hx hb dX5_runs_33 (by decide) ?_
      refine lv_goto (tgt := 38) hx hb dX5_runs_34 (by decide) ?_
      exact W.zret (v := (1 : Int32)) hx hb hr rfl (fun t ht hW => ⟨_, rfl, h, ht⟩) (fun q hq => by cases hq) dX5_runs_38
    · have h := h.2 c4
      refine lv_aload_n hx hb dX5_runs_18 rfl (lv_at hl 0 rfl) ?_
      refine va_get (D := (dC, dI)) (ci := 5) (v := .ref (ad 4)) (C := RX5) (T := TX5) (N := 31) hx hb hts iX5_runs_X5 hown hK hP 0 rfl rfl 7 (by decide) (hts (.fieldLink RX5 19 "CarrierBooksModel" "kind" "[I") (by decide +kernel)) (fun _ h9 => h9) rfl dX5_runs_19 ?_
      refine lv_aload_n hx hb dX5_runs_22 rfl (lv_at hl 0 rfl) ?_
      refine va_get (D := (dC, dI)) (ci := 5) (v := .ref (ad 9)) (C := RX5) (T := TX5) (N := 31) hx hb hts iX5_runs_X5 hown hK hP 0 rfl rfl 12 (by decide) (hts (.fieldLink RX5 34 "CarrierBooksModel" "best" "[I") (by decide +kernel)) (fun _ h9 => h9) rfl dX5_runs_23 ?_
      refine lv_iconst (v := (3 : Int32)) hx hb dX5_runs_26 (by decide) ?_
      obtain ⟨hin5, h⟩ := h
      refine va_iald hx hb hK hP 9 0 rfl rfl hin5 dX5_runs_27 ?_
      obtain ⟨hin6, h⟩ := h
      refine va_iald hx hb hK hP 4 0 rfl rfl hin6 dX5_runs_28 ?_
      refine lv_iconst (v := (3 : Int32)) hx hb dX5_runs_29 (by decide) ?_
      refine lv_icmp_ne (tgt := 37) hx hb dX5_runs_30 (by decide) (fun c7 => ?_) (fun c7 => ?_)
      · have h := h.1 c7
        refine lv_iconst (v := (0 : Int32)) hx hb dX5_runs_37 (by decide) ?_
        exact W.zret (v := (0 : Int32)) hx hb hr rfl (fun t ht hW => ⟨_, rfl, h, ht⟩) (fun q hq => by cases hq) dX5_runs_38
      · have h := h.2 c7
        refine lv_iconst (v := (1 : Int32)) hx hb dX5_runs_33 (by decide) ?_
        refine lv_goto (tgt := 38) hx hb dX5_runs_34 (by decide) ?_
        exact W.zret (v := (1 : Int32)) hx hb hr rfl (fun t ht hW => ⟨_, rfl, h, ht⟩) (fun q hq => by cases hq) dX5_runs_38

theorem iX5_before_X5 : ∀ w ∈ wsX50, w ∈ wsX5_before := by decide +kernel
def bX5_before_33 (I : Nat → Int32) (F : Nat → Nat → Int32) (K5 : Int32 → Int32 → Int32 → Int32 → Prop) (post : Int32 → Prop) (x1 x2 x4 y0 : Int32) : Prop := vp_in (((6 : Int32) * x4) + x2) 120 ∧ ∀ v2 : Int32, v2 = (y0 + (F 16 (Int32.toNatClampNeg (((6 : Int32) * x4) + x2)))) → ∀ v3 : Int32, v3 = x4 + (1 : Int32) → K5 x1 x2 v2 v3
def bX5_before_5 (I : Nat → Int32) (F : Nat → Nat → Int32) (post : Int32 → Prop) : Nat → Int32 → Int32 → Int32 → Int32 → Prop
  | 0 => fun _ _ _ _ => False
  | n + 1 => fun x1 x2 x3 x4 => (((I 14) ≤ x4 → post x3) ∧ (¬ (I 14) ≤ x4 → ((x1 < (0 : Int32) → bX5_before_33 I F (bX5_before_5 I F post n) post x1 x2 x4 x3) ∧ (¬ x1 < (0 : Int32) → vp_in ((6 : Int32) * x4) 120 ∧ ((¬ (F 16 (Int32.toNatClampNeg ((6 : Int32) * x4))) = x1 → ∀ v8 : Int32, v8 = (x3 + (0 : Int32)) → ∀ v9 : Int32, v9 = x4 + (1 : Int32) → bX5_before_5 I F post n x1 x2 v8 v9) ∧ ((F 16 (Int32.toNatClampNeg ((6 : Int32) * x4))) = x1 → bX5_before_33 I F (bX5_before_5 I F post n) post x1 x2 x4 x3))))))
def wX5_before (I : Nat → Int32) (F : Nat → Nat → Int32) (x1 x2 : Int32) (post : Int32 → Prop) : Prop := ∃ n5 : Nat, bX5_before_5 I F post n5 x1 x2 (0 : Int32) (0 : Int32)
set_option maxHeartbeats 4000000 in
set_option maxRecDepth 100000 in
theorem sX5_before_33 {p : Program} {l : Launch} {e : Env} {s : State} {m : MethodId} {args : Array Value} {below : List Frame} {meth : Method} {c : Code} {dC : Nat → ClassId} {dI : Nat → Nat → Nat} {cI : ClassId} {ad : Nat → Nat} {I : Nat → Int32} {F : Nat → Nat → Int32} (C : Cx p s m args meth c cX5_before 5 (some .int) RX5 wsX5_before) (hP : va_P (dC, dI) vwCl (wM cI ad I F) s.heap) (hK : va_K (dC, dI) vwCl [(cI, .int)] s) (hN : NW s) (post : Int32 → Prop) (K5 : Int32 → Int32 → Int32 → Int32 → Prop) (hK5 : ∀ (x1 x2 x3 x4 : Int32), K5 x1 x2 x3 x4 → ∀ (ls : Array Slot), lv_has ls 5 [(0, .ref (ad 0)), (1, .int x1), (2, .int x2), (3, .int x3), (4, .int x4)] → W p l e { frames := 0, cells := 0, slots := 0, locals := 0 } s m args below meth c s.heap [] 0 0 (MQ below (vp_Si post) args s 0 0 (fun _ => False)) (F0 m 5 ls [])) : ∀ (x1 x2 x4 y0 : Int32), bX5_before_33 I F K5 post x1 x2 x4 y0 → ∀ (ls : Array Slot), lv_has ls 5 [(0, .ref (ad 0)), (1, .int x1), (2, .int x2), (4, .int x4)] → W p l e { frames := 0, cells := 0, slots := 0, locals := 0 } s m args below meth c s.heap [] 0 0 (MQ below (vp_Si post) args s 0 0 (fun _ => False)) (F0 m 33 ls [.int y0]) := by
  obtain ⟨hx, hb, hml, hown, hts, hr, hlocks⟩ := id C
  intro x1 x2 x4 y0 h ls hl
  unfold bX5_before_33 at h
  refine lv_aload_n hx hb dX5_before_33 rfl (lv_at hl 0 rfl) ?_
  refine va_get (D := (dC, dI)) (ci := 5) (v := .ref (ad 16)) (C := RX5) (T := TX5) (N := 31) hx hb hts iX5_before_X5 hown hK hP 0 rfl rfl 30 (by decide) (hts (.fieldLink RX5 65 "CarrierBooksModel" "claim" "[I") (by decide +kernel)) (fun _ h9 => h9) rfl dX5_before_34 ?_
  refine lv_bipush (v := (6 : Int32)) hx hb dX5_before_37 (by decide) ?_
  refine lv_iload hx hb dX5_before_39 (lv_at hl 3 rfl) ?_
  refine lv_imul hx hb dX5_before_41 ?_
  refine lv_iload_n hx hb dX5_before_42 rfl (lv_at hl 2 rfl) ?_
  refine lv_iadd hx hb dX5_before_43 ?_
  obtain ⟨hin1, h⟩ := h
  refine va_iald hx hb hK hP 16 0 rfl rfl hin1 dX5_before_44 ?_
  refine lv_goto (tgt := 49) hx hb dX5_before_45 (by decide) ?_
  refine lv_iadd hx hb dX5_before_49 ?_
  refine lv_topi (fun v2 ev2 => ?_)
  have h := h v2 ev2
  refine lv_istore_n (lv' := [(3, .int v2), (0, .ref (ad 0)), (1, .int x1), (2, .int x2), (4, .int x4)]) hx hb dX5_before_50 rfl hl (by decide) rfl (fun ls hl => ?_)
  obtain ⟨v3, ev3⟩ : ∃ y : Int32, y = x4 + (1 : Int32) := ⟨_, rfl⟩
  have h := h v3 ev3
  refine lv_iinc (v := v3) (lv' := [(4, .int v3), (3, .int v2), (0, .ref (ad 0)), (1, .int x1), (2, .int x2)]) hx hb dX5_before_51 hl (k := 4) rfl (by rw [ev3]; rfl) (by decide) rfl (fun ls hl => ?_)
  refine lv_goto (tgt := 5) hx hb dX5_before_54 (by decide) ?_
  exact hK5 x1 x2 v2 v3 h ls (lv_sub hl [2, 3, 4, 1, 0] rfl)
set_option maxHeartbeats 4000000 in
set_option maxRecDepth 100000 in
theorem sX5_before_5 {p : Program} {l : Launch} {e : Env} {s : State} {m : MethodId} {args : Array Value} {below : List Frame} {meth : Method} {c : Code} {dC : Nat → ClassId} {dI : Nat → Nat → Nat} {cI : ClassId} {ad : Nat → Nat} {I : Nat → Int32} {F : Nat → Nat → Int32} (C : Cx p s m args meth c cX5_before 5 (some .int) RX5 wsX5_before) (hP : va_P (dC, dI) vwCl (wM cI ad I F) s.heap) (hK : va_K (dC, dI) vwCl [(cI, .int)] s) (hN : NW s) (post : Int32 → Prop) : ∀ (n : Nat) (x1 x2 x3 x4 : Int32), bX5_before_5 I F post n x1 x2 x3 x4 → ∀ (ls : Array Slot), lv_has ls 5 [(0, .ref (ad 0)), (1, .int x1), (2, .int x2), (3, .int x3), (4, .int x4)] → W p l e { frames := 0, cells := 0, slots := 0, locals := 0 } s m args below meth c s.heap [] 0 0 (MQ below (vp_Si post) args s 0 0 (fun _ => False)) (F0 m 5 ls []) := by
  obtain ⟨hx, hb, hml, hown, hts, hr, hlocks⟩ := id C
  intro n
  induction n with
  | zero =>
    intro x1 x2 x3 x4 h ls hl
    exact h.elim
  | succ n ih =>
    intro x1 x2 x3 x4 h ls hl
    unfold bX5_before_5 at h
    refine lv_iload hx hb dX5_before_5 (lv_at hl 4 rfl) ?_
    refine lv_aload_n hx hb dX5_before_7 rfl (lv_at hl 0 rfl) ?_
    refine va_get (D := (dC, dI)) (ci := 5) (v := .int (I 14)) (C := RX5) (T := TX5) (N := 31) hx hb hts iX5_before_X5 hown hK hP 0 rfl rfl 29 (by decide) (hts (.fieldLink RX5 95 "CarrierBooksModel" "claims" "I") (by decide +kernel)) (fun _ h9 => h9) rfl dX5_before_8 ?_
    refine lv_icmp_ge (tgt := 57) hx hb dX5_before_11 (by decide) (fun c4 => ?_) (fun c4 => ?_)
    · have h := h.1 c4
      refine lv_iload_n hx hb dX5_before_57 rfl (lv_at hl 3 rfl) ?_
      exact W.iret (v := x3) hx hb hr (fun t ht hW => ⟨_, rfl, h, ht⟩) (fun q hq => by cases hq) dX5_before_58
    · have h := h.2 c4
      refine lv_iload_n hx hb dX5_before_14 rfl (lv_at hl 3 rfl) ?_
      refine lv_iload_n hx hb dX5_before_15 rfl (lv_at hl 1 rfl) ?_
      refine lv_if_lt (tgt := 33) hx hb dX5_before_16 (by decide) (fun c5 => ?_) (fun c5 => ?_)
      · have h := h.1 c5
        exact sX5_before_33 C hP hK hN post (bX5_before_5 I F post n) ih x1 x2 x4 x3 h ls (lv_sub hl [0, 1, 2, 4] rfl)
      · have h := h.2 c5
        refine lv_aload_n hx hb dX5_before_19 rfl (lv_at hl 0 rfl) ?_
        refine va_get (D := (dC, dI)) (ci := 5) (v := .ref (ad 16)) (C := RX5) (T := TX5) (N := 31) hx hb hts iX5_before_X5 hown hK hP 0 rfl rfl 30 (by decide) (hts (.fieldLink RX5 65 "CarrierBooksModel" "claim" "[I") (by decide +kernel)) (fun _ h9 => h9) rfl dX5_before_20 ?_
        refine lv_bipush (v := (6 : Int32)) hx hb dX5_before_23 (by decide) ?_
        refine lv_iload hx hb dX5_before_25 (lv_at hl 4 rfl) ?_
        refine lv_imul hx hb dX5_before_27 ?_
        obtain ⟨hin6, h⟩ := h
        refine va_iald hx hb hK hP 16 0 rfl rfl hin6 dX5_before_28 ?_
        refine lv_iload_n hx hb dX5_before_29 rfl (lv_at hl 1 rfl) ?_
        refine lv_icmp_ne (tgt := 48) hx hb dX5_before_30 (by decide) (fun c7 => ?_) (fun c7 => ?_)
        · have h := h.1 c7
          refine lv_iconst (v := (0 : Int32)) hx hb dX5_before_48 (by decide) ?_
          refine lv_iadd hx hb dX5_before_49 ?_
          refine lv_topi (fun v8 ev8 => ?_)
          have h := h v8 ev8
          refine lv_istore_n (lv' := [(3, .int v8), (0, .ref (ad 0)), (1, .int x1), (2, .int x2), (4, .int x4)]) hx hb dX5_before_50 rfl hl (by decide) rfl (fun ls hl => ?_)
          obtain ⟨v9, ev9⟩ : ∃ y : Int32, y = x4 + (1 : Int32) := ⟨_, rfl⟩
          have h := h v9 ev9
          refine lv_iinc (v := v9) (lv' := [(4, .int v9), (3, .int v8), (0, .ref (ad 0)), (1, .int x1), (2, .int x2)]) hx hb dX5_before_51 hl (k := 4) rfl (by rw [ev9]; rfl) (by decide) rfl (fun ls hl => ?_)
          refine lv_goto (tgt := 5) hx hb dX5_before_54 (by decide) ?_
          exact ih x1 x2 v8 v9 h ls (lv_sub hl [2, 3, 4, 1, 0] rfl)
        · have h := h.2 c7
          exact sX5_before_33 C hP hK hN post (bX5_before_5 I F post n) ih x1 x2 x4 x3 h ls (lv_sub hl [0, 1, 2, 4] rfl)
set_option maxHeartbeats 4000000 in
set_option maxRecDepth 100000 in
theorem cTX5_before (l : Launch) (dC : Nat → ClassId) (dI : Nat → Nat → Nat) (cI : ClassId) (ad : Nat → Nat) (I : Nat → Int32) (F : Nat → Nat → Int32) (x1 x2 : Int32) (post : Int32 → Prop) (h : wX5_before I F x1 x2 post) : Met l yX5_before wsX5_before { frames := 0, cells := 0, slots := 0, locals := 0 } (va_Pc [.ref (ad 0), .int x1, .int x2] (PW dC dI cI (wM cI ad) I F)) (vp_Si post) 0 0 (fun _ => False) := by
  refine Met.ofW (cc := cX5_before) (maxL := 5) (ret := (some .int)) (by decide) rfl ?_
  intro p e s m args below meth c s₁ B hml hv
  obtain ⟨rfl, hP, hK, hN⟩ := hv
  have hx := B.exec
  have hb := B.bytes
  have hr := B.returns
  have hts := atoms_spec (ws := wsX5_before) B.pre
  have hown : s.vm.findClass RX5 = some m.cls := findClass_of_methodNamed B.named
  have hlocks := B.notSynchronized
  have C : Cx p s m _ meth c cX5_before 5 (some .int) RX5 wsX5_before := ⟨hx, hb, hml, hown, hts, hr, hlocks⟩
  have hl := lv_entry ([.ref (ad 0), .int x1, .int x2]) (n := 5) (Nat.le_of_ble_eq_true rfl)
  rw [lg_entry_eq]
  generalize (lg_sl ([.ref (ad 0), .int x1, .int x2]) ++ List.replicate (5 - (lg_sl ([.ref (ad 0), .int x1, .int x2])).length) Slot.unset).toArray = ls at hl ⊢
  have hl : lv_has ls 5 [(0, .ref (ad 0)), (1, .int x1), (2, .int x2)] := hl
  unfold wX5_before at h
  refine lv_iconst (v := (0 : Int32)) hx hb dX5_before_0 (by decide) ?_
  refine lv_istore_n (lv' := [(3, .int (0 : Int32)), (0, .ref (ad 0)), (1, .int x1), (2, .int x2)]) hx hb dX5_before_1 rfl hl (by decide) rfl (fun ls hl => ?_)
  refine lv_iconst (v := (0 : Int32)) hx hb dX5_before_2 (by decide) ?_
  refine lv_istore (lv' := [(4, .int (0 : Int32)), (3, .int (0 : Int32)), (0, .ref (ad 0)), (1, .int x1), (2, .int x2)]) hx hb dX5_before_3 hl (by decide) rfl (fun ls hl => ?_)
  obtain ⟨n9, h⟩ := h
  exact sX5_before_5 C hP hK hN post n9 x1 x2 (0 : Int32) (0 : Int32) h ls (lv_sub hl [2, 3, 4, 1, 0] rfl)
