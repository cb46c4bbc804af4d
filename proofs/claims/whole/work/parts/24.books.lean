theorem iX4_row_X1 : ∀ w ∈ wsX10, w ∈ wsX4_row := by decide +kernel
theorem iX4_row_X4 : ∀ w ∈ wsX40, w ∈ wsX4_row := by decide +kernel
theorem tX4_row_47 : ∀ w ∈ (vx_at0 RX4 47 "java/lang/IllegalStateException" exNames).filter goodWord, w ∈ wsX4_row := by decide +kernel
theorem tX4_row_57 : ∀ w ∈ (vx_at0 RX4 57 "java/lang/IllegalArgumentException" exNames).filter goodWord, w ∈ wsX4_row := by decide +kernel
def wX4_row (I : Nat → Int32) (F : Nat → Nat → Int32) (x1 x2 x3 x4 x5 : Int32) (post : Int32 → (Nat → Int32) → (Nat → Nat → Int32) → Prop) (px : String → (Nat → Int32) → (Nat → Nat → Int32) → Prop) : Prop := wX4_isPlanClosed I F (fun r1 => ((¬ r1 = (0 : Int32) → px "java/lang/IllegalStateException" I F) ∧ (r1 = (0 : Int32) → ((¬ (I 1) = (8 : Int32) → wX4_isSpan x1 x2 (49 : Int32) (fun r4 => ((r4 = (0 : Int32) → px "java/lang/IllegalArgumentException" I F) ∧ (¬ r4 = (0 : Int32) → wX4_isSpan x3 x4 (9 : Int32) (fun r6 => ((r6 = (0 : Int32) → px "java/lang/IllegalArgumentException" I F) ∧ (¬ r6 = (0 : Int32) → wX4_isWithin (1 : Int32) x5 (99 : Int32) (fun r8 => ((¬ r8 = (0 : Int32) → wX1_add I F x1 x2 x3 x4 x5 (fun r10 I11 F12 => post r10 I11 F12)) ∧ (r8 = (0 : Int32) → px "java/lang/IllegalArgumentException" I F)))))))))) ∧ ((I 1) = (8 : Int32) → px "java/lang/IllegalStateException" I F)))))
set_option maxHeartbeats 4000000 in
set_option maxRecDepth 100000 in
theorem cTX4_row (l : Launch) (hst : l.stackTraces = false) (dC : Nat → ClassId) (dI : Nat → Nat → Nat) (cI : ClassId) (ad : Nat → Nat) (I : Nat → Int32) (F : Nat → Nat → Int32) (sz : Nat) (x1 x2 x3 x4 x5 : Int32) (post : Int32 → (Nat → Int32) → (Nat → Nat → Int32) → Prop) (px : String → (Nat → Int32) → (Nat → Nat → Int32) → Prop) (h : wX4_row I F x1 x2 x3 x4 x5 post px) : vx_Met l yX4_row wsX4_row { frames := 6, cells := 1, slots := 6, locals := 89 } (va_Pc [.ref (ad 0), .int x1, .int x2, .int x3, .int x4, .int x5] (PWt dC dI cI (wC cI ad) I F sz)) (QWi dC dI (wC cI ad) post (va_A (wC cI ad I F) sz)) (XW dC dI (wC cI ad) px (va_A (wC cI ad I F) sz)) 1 6 (va_A (wC cI ad I F) sz) := by
  refine vx_ofW (cc := cX4_row) (maxL := 6) (ret := (some .int)) (by decide) rfl ?_
  intro p e s m args below meth c s₁ B hml hout hv
  obtain ⟨rfl, ⟨hsz, ⟨hP, hK, hN⟩, hD0⟩, hT, hZ⟩ := hv
  subst hsz
  have hD := wD_any (wC_fix cI ad) (hD0.self (sz := s.heap.size))
  generalize hAe : va_A (wC cI ad I F) s.heap.size = A at hD hZ ⊢
  have hA : ∀ q : Nat, s.heap.size ≤ q → A q := fun q h => by rw [← hAe]; exact Or.inr h
  clear hAe hD0
  have hx := B.exec
  have hb := B.bytes
  have hr := B.returns
  have hts := atoms_spec (ws := wsX4_row) B.pre
  have hown : s.vm.findClass RX4 = some m.cls := findClass_of_methodNamed B.named
  have hlocks := B.notSynchronized
  have C : Cx p s m _ meth c cX4_row 6 (some .int) RX4 wsX4_row := ⟨hx, hb, hml, hown, hts, hr, hlocks⟩
  have hS : va_S A s.heap s.heap [] := va_S.rf
  have hl := lv_entry ([.ref (ad 0), .int x1, .int x2, .int x3, .int x4, .int x5]) (n := 6) (Nat.le_of_ble_eq_true rfl)
  rw [lg_entry_eq]
  generalize (lg_sl ([.ref (ad 0), .int x1, .int x2, .int x3, .int x4, .int x5]) ++ List.replicate (6 - (lg_sl ([.ref (ad 0), .int x1, .int x2, .int x3, .int x4, .int x5])).length) Slot.unset).toArray = ls at hl ⊢
  have hl : lv_has ls 6 [(0, .ref (ad 0)), (1, .int x1), (2, .int x2), (3, .int x3), (4, .int x4), (5, .int x5)] := hl
  unfold wX4_row at h
  refine lv_aload_n hx hb dX4_row_0 rfl (lv_at hl 0 rfl) ?_
  refine vp_callSi (cr_of (va_runV (As := []) (rest := []) ⟨hx, hb, hml, hown, hts⟩ (cTX4_isPlanClosed l dC dI cI ad I F _ h) (cwV 0 hts gX4_row_X4_isPlanClosed rfl rfl rfl (by decide +kernel) ⟨Nat.le_of_ble_eq_true rfl, Nat.le_of_ble_eq_true rfl⟩) (pv_R hP hK hN 0 4 rfl rfl _) rfl rfl hl.1 rfl (lv_room (Nat.le_of_ble_eq_true rfl)) dX4_row_1 ⟨Nat.le_of_ble_eq_true rfl, Nat.le_of_ble_eq_true rfl⟩)) (fun r1 h => ?_)
  refine lv_if_ne (tgt := 19) hx hb dX4_row_4 (by decide) (fun c2 => ?_) (fun c2 => ?_)
  · have h := h.1 c2
    exact throw_w (wf := wC cI ad) (own := RX4) (names := exNames) (ik := 45) (ic := 47) (cls := "java/lang/IllegalStateException") hx hb hst hown (by decide +kernel) (by decide +kernel) hts (by decide +kernel) (by decide +kernel) tX4_row_47 hT twm_47 twg_47 hZ hP hS (hl.1.trans hml.symm) dX4_row_19 dX4_row_22 dX4_row_23 dX4_row_26 hout (Nat.le_of_ble_eq_true rfl) (Nat.le_of_ble_eq_true rfl) (Nat.le_of_ble_eq_true rfl) (Nat.le_of_ble_eq_true rfl) hlocks h
  · have h := h.2 c2
    refine lv_aload_n hx hb dX4_row_7 rfl (lv_at hl 0 rfl) ?_
    refine va_get (D := (dC, dI)) (ci := 4) (v := .ref (ad 1)) (C := RX4) (T := TX4) (N := 5) hx hb hts iX4_row_X4 hown hK hP 0 rfl rfl 0 (by decide) (hts (.fieldLink RX4 10 "CarrierBooks" "plan" "LCarrierBooks$Plan;") (by decide +kernel)) (fun _ h9 => h9) rfl dX4_row_8 ?_
    refine va_getN (host := RX4) (D := (dC, dI)) (ci := 1) (v := .int (I 1)) (C := RX1) (T := TX1) (N := 6) hx hb hts iX4_row_X1 hown hK hP 1 rfl rfl 5 (by decide) (va_Nw.use rfl (hN (.fieldLinkNest RX4 41 "CarrierBooks$Plan" "size" "I" RX4) (by decide +kernel))) (fun _ h9 => h9) rfl dX4_row_11 ?_
    refine lv_bipush (v := (8 : Int32)) hx hb dX4_row_14 (by decide) ?_
    refine lv_icmp_ne (tgt := 27) hx hb dX4_row_16 (by decide) (fun c3 => ?_) (fun c3 => ?_)
    · have h := h.1 c3
      refine lv_iload_n hx hb dX4_row_27 rfl (lv_at hl 1 rfl) ?_
      refine lv_iload_n hx hb dX4_row_28 rfl (lv_at hl 2 rfl) ?_
      refine lv_bipush (v := (49 : Int32)) hx hb dX4_row_29 (by decide) ?_
      refine vp_callSi (cr_of (va_runS (As := [.int x1, .int x2, .int (49 : Int32)]) (rest := []) ⟨hx, hb, hml, hown, hts⟩ (cTX4_isSpan l x1 x2 (49 : Int32) _ h) (va_cwS 3 hts gX4_row_X4_isSpan rfl rfl rfl (by decide +kernel) ⟨Nat.le_of_ble_eq_true rfl, Nat.le_of_ble_eq_true rfl⟩) (pv_S _) rfl rfl hl.1 rfl (lv_room (Nat.le_of_ble_eq_true rfl)) dX4_row_31 ⟨Nat.le_of_ble_eq_true rfl, Nat.le_of_ble_eq_true rfl⟩)) (fun r4 h => ?_)
      refine lv_if_eq (tgt := 59) hx hb dX4_row_34 (by decide) (fun c5 => ?_) (fun c5 => ?_)
      · have h := h.1 c5
        exact throw_w (wf := wC cI ad) (own := RX4) (names := exNames) (ik := 55) (ic := 57) (cls := "java/lang/IllegalArgumentException") hx hb hst hown (by decide +kernel) (by decide +kernel) hts (by decide +kernel) (by decide +kernel) tX4_row_57 hT twm_57 twg_57 hZ hP hS (hl.1.trans hml.symm) dX4_row_59 dX4_row_62 dX4_row_63 dX4_row_66 hout (Nat.le_of_ble_eq_true rfl) (Nat.le_of_ble_eq_true rfl) (Nat.le_of_ble_eq_true rfl) (Nat.le_of_ble_eq_true rfl) hlocks h
      · have h := h.2 c5
        refine lv_iload_n hx hb dX4_row_37 rfl (lv_at hl 3 rfl) ?_
        refine lv_iload hx hb dX4_row_38 (lv_at hl 4 rfl) ?_
        refine lv_bipush (v := (9 : Int32)) hx hb dX4_row_40 (by decide) ?_
        refine vp_callSi (cr_of (va_runS (As := [.int x3, .int x4, .int (9 : Int32)]) (rest := []) ⟨hx, hb, hml, hown, hts⟩ (cTX4_isSpan l x3 x4 (9 : Int32) _ h) (va_cwS 3 hts gX4_row_X4_isSpan rfl rfl rfl (by decide +kernel) ⟨Nat.le_of_ble_eq_true rfl, Nat.le_of_ble_eq_true rfl⟩) (pv_S _) rfl rfl hl.1 rfl (lv_room (Nat.le_of_ble_eq_true rfl)) dX4_row_42 ⟨Nat.le_of_ble_eq_true rfl, Nat.le_of_ble_eq_true rfl⟩)) (fun r6 h => ?_)
        refine lv_if_eq (tgt := 59) hx hb dX4_row_45 (by decide) (fun c7 => ?_) (fun c7 => ?_)
        · have h := h.1 c7
          exact throw_w (wf := wC cI ad) (own := RX4) (names := exNames) (ik := 55) (ic := 57) (cls := "java/lang/IllegalArgumentException") hx hb hst hown (by decide +kernel) (by decide +kernel) hts (by decide +kernel) (by decide +kernel) tX4_row_57 hT twm_57 twg_57 hZ hP hS (hl.1.trans hml.symm) dX4_row_59 dX4_row_62 dX4_row_63 dX4_row_66 hout (Nat.le_of_ble_eq_true rfl) (Nat.le_of_ble_eq_true rfl) (Nat.le_of_ble_eq_true rfl) (Nat.le_of_ble_eq_true rfl) hlocks h
        · have h := h.2 c7
          refine lv_iconst (v := (1 : Int32)) hx hb dX4_row_48 (by decide) ?_
          refine lv_iload hx hb dX4_row_49 (lv_at hl 5 rfl) ?_
          refine lv_bipush (v := (99 : Int32)) hx hb dX4_row_51 (by decide) ?_
          refine vp_callSi (cr_of (va_runS (As := [.int (1 : Int32), .int x5, .int (99 : Int32)]) (rest := []) ⟨hx, hb, hml, hown, hts⟩ (cTX4_isWithin l (1 : Int32) x5 (99 : Int32) _ h) (va_cwS 3 hts gX4_row_X4_isWithin rfl rfl rfl (by decide +kernel) ⟨Nat.le_of_ble_eq_true rfl, Nat.le_of_ble_eq_true rfl⟩) (pv_S _) rfl rfl hl.1 rfl (lv_room (Nat.le_of_ble_eq_true rfl)) dX4_row_53 ⟨Nat.le_of_ble_eq_true rfl, Nat.le_of_ble_eq_true rfl⟩)) (fun r8 h => ?_)
          refine lv_if_ne (tgt := 67) hx hb dX4_row_56 (by decide) (fun c9 => ?_) (fun c9 => ?_)
          · have h := h.1 c9
            refine lv_aload_n hx hb dX4_row_67 rfl (lv_at hl 0 rfl) ?_
            refine va_get (D := (dC, dI)) (ci := 4) (v := .ref (ad 1)) (C := RX4) (T := TX4) (N := 5) hx hb hts iX4_row_X4 hown hK hP 0 rfl rfl 0 (by decide) (hts (.fieldLink RX4 10 "CarrierBooks" "plan" "LCarrierBooks$Plan;") (by decide +kernel)) (fun _ h9 => h9) rfl dX4_row_68 ?_
            refine lv_iload_n hx hb dX4_row_71 rfl (lv_at hl 1 rfl) ?_
            refine lv_iload_n hx hb dX4_row_72 rfl (lv_at hl 2 rfl) ?_
            refine lv_iload_n hx hb dX4_row_73 rfl (lv_at hl 3 rfl) ?_
            refine lv_iload hx hb dX4_row_74 (lv_at hl 4 rfl) ?_
            refine lv_iload hx hb dX4_row_76 (lv_at hl 5 rfl) ?_
            refine wcall_i (va_runVN (As := [.int x1, .int x2, .int x3, .int x4, .int x5]) (rest := []) ⟨hx, hb, hml, hown, hts⟩ (cTX1_add l dC dI cI ad I F s.heap.size x1 x2 x3 x4 x5 _ h) ⟨va_cnB 5 hts gX4_row_X1_add_n58 rfl rfl rfl (hN (.methodLinkNest RX4 58 yX1_add RX4) (by decide +kernel)) (hts (.initialized RX1) (by decide +kernel)) (by decide +kernel) ⟨Nat.le_of_ble_eq_true rfl, Nat.le_of_ble_eq_true rfl⟩, hts (.instanceMethod yX1_add) (by decide +kernel), hts (.selects RX1 yX1_add yX1_add) (by decide +kernel)⟩ (pv_W hP hK hN ((hD _ _).weaken (fun _ _ _ _ => trivial)) 1 1 rfl rfl _) rfl rfl hl.1 rfl (lv_room (Nat.le_of_ble_eq_true rfl)) dX4_row_78 ⟨Nat.le_of_ble_eq_true rfl, Nat.le_of_ble_eq_true rfl⟩) hD hS hA (fun r10 I11 F12 h H locs hP hS => ?_)
            refine W.widen (k := 1) (n := 6) (Nat.le_of_ble_eq_true rfl) (Nat.le_of_ble_eq_true rfl) ?_
            exact vx_ret (W.iret (v := r10) hx hb hr (fun t ht hW => ⟨⟨r10, (I11, F12), rfl, h, by show va_P _ _ _ t.heap; rw [ht]; exact hP⟩, hS.F ht⟩) hS.2.2 dX4_row_81)
          · have h := h.2 c9
            exact throw_w (wf := wC cI ad) (own := RX4) (names := exNames) (ik := 55) (ic := 57) (cls := "java/lang/IllegalArgumentException") hx hb hst hown (by decide +kernel) (by decide +kernel) hts (by decide +kernel) (by decide +kernel) tX4_row_57 hT twm_57 twg_57 hZ hP hS (hl.1.trans hml.symm) dX4_row_59 dX4_row_62 dX4_row_63 dX4_row_66 hout (Nat.le_of_ble_eq_true rfl) (Nat.le_of_ble_eq_true rfl) (Nat.le_of_ble_eq_true rfl) (Nat.le_of_ble_eq_true rfl) hlocks h
    · have h := h.2 c3
      exact throw_w (wf := wC cI ad) (own := RX4) (names := exNames) (ik := 45) (ic := 47) (cls := "java/lang/IllegalStateException") hx hb hst hown (by decide +kernel) (by decide +kernel) hts (by decide +kernel) (by decide +kernel) tX4_row_47 hT twm_47 twg_47 hZ hP hS (hl.1.trans hml.symm) dX4_row_19 dX4_row_22 dX4_row_23 dX4_row_26 hout (Nat.le_of_ble_eq_true rfl) (Nat.le_of_ble_eq_true rfl) (Nat.le_of_ble_eq_true rfl) (Nat.le_of_ble_eq_true rfl) hlocks h

theorem iX4_undo_X1 : ∀ w ∈ wsX10, w ∈ wsX4_undo := by decide +kernel
theorem iX4_undo_X4 : ∀ w ∈ wsX40, w ∈ wsX4_undo := by decide +kernel
theorem tX4_undo_47 : ∀ w ∈ (vx_at0 RX4 47 "java/lang/IllegalStateException" exNames).filter goodWord, w ∈ wsX4_undo := by decide +kernel
def wX4_undo (I : Nat → Int32) (F : Nat → Nat → Int32) (post : (Nat → Int32) → (Nat → Nat → Int32) → Prop) (px : String → (Nat → Int32) → (Nat → Nat → Int32) → Prop) : Prop := wX4_isPlanClosed I F (fun r1 => ((¬ r1 = (0 : Int32) → px "java/lang/IllegalStateException" I F) ∧ (r1 = (0 : Int32) → ((¬ (I 1) = (0 : Int32) → wX1_dropLatest I F (fun I5 F6 => post I5 F6)) ∧ ((I 1) = (0 : Int32) → px "java/lang/IllegalStateException" I F)))))
set_option maxHeartbeats 4000000 in
set_option maxRecDepth 100000 in
theorem cTX4_undo (l : Launch) (hst : l.stackTraces = false) (dC : Nat → ClassId) (dI : Nat → Nat → Nat) (cI : ClassId) (ad : Nat → Nat) (I : Nat → Int32) (F : Nat → Nat → Int32) (sz : Nat) (post : (Nat → Int32) → (Nat → Nat → Int32) → Prop) (px : String → (Nat → Int32) → (Nat → Nat → Int32) → Prop) (h : wX4_undo I F post px) : vx_Met l yX4_undo wsX4_undo { frames := 6, cells := 1, slots := 6, locals := 89 } (va_Pc [.ref (ad 0)] (PWt dC dI cI (wC cI ad) I F sz)) (QWv dC dI (wC cI ad) post (va_A (wC cI ad I F) sz)) (XW dC dI (wC cI ad) px (va_A (wC cI ad I F) sz)) 1 6 (va_A (wC cI ad I F) sz) := by
  refine vx_ofW (cc := cX4_undo) (maxL := 1) (ret := none) (by decide) rfl ?_
  intro p e s m args below meth c s₁ B hml hout hv
  obtain ⟨rfl, ⟨hsz, ⟨hP, hK, hN⟩, hD0⟩, hT, hZ⟩ := hv
  subst hsz
  have hD := wD_any (wC_fix cI ad) (hD0.self (sz := s.heap.size))
  generalize hAe : va_A (wC cI ad I F) s.heap.size = A at hD hZ ⊢
  have hA : ∀ q : Nat, s.heap.size ≤ q → A q := fun q h => by rw [← hAe]; exact Or.inr h
  clear hAe hD0
  have hx := B.exec
  have hb := B.bytes
  have hr := B.returns
  have hts := atoms_spec (ws := wsX4_undo) B.pre
  have hown : s.vm.findClass RX4 = some m.cls := findClass_of_methodNamed B.named
  have hlocks := B.notSynchronized
  have C : Cx p s m _ meth c cX4_undo 1 none RX4 wsX4_undo := ⟨hx, hb, hml, hown, hts, hr, hlocks⟩
  have hS : va_S A s.heap s.heap [] := va_S.rf
  have hl := lv_entry ([.ref (ad 0)]) (n := 1) (Nat.le_of_ble_eq_true rfl)
  rw [lg_entry_eq]
  generalize (lg_sl ([.ref (ad 0)]) ++ List.replicate (1 - (lg_sl ([.ref (ad 0)])).length) Slot.unset).toArray = ls at hl ⊢
  have hl : lv_has ls 1 [(0, .ref (ad 0))] := hl
  unfold wX4_undo at h
  refine lv_aload_n hx hb dX4_undo_0 rfl (lv_at hl 0 rfl) ?_
  refine vp_callSi (cr_of (va_runV (As := []) (rest := []) ⟨hx, hb, hml, hown, hts⟩ (cTX4_isPlanClosed l dC dI cI ad I F _ h) (cwV 0 hts gX4_undo_X4_isPlanClosed rfl rfl rfl (by decide +kernel) ⟨Nat.le_of_ble_eq_true rfl, Nat.le_of_ble_eq_true rfl⟩) (pv_R hP hK hN 0 4 rfl rfl _) rfl rfl hl.1 rfl (lv_room (Nat.le_of_ble_eq_true rfl)) dX4_undo_1 ⟨Nat.le_of_ble_eq_true rfl, Nat.le_of_ble_eq_true rfl⟩)) (fun r1 h => ?_)
  refine lv_if_ne (tgt := 17) hx hb dX4_undo_4 (by decide) (fun c2 => ?_) (fun c2 => ?_)
  · have h := h.1 c2
    exact throw_w (wf := wC cI ad) (own := RX4) (names := exNames) (ik := 45) (ic := 47) (cls := "java/lang/IllegalStateException") hx hb hst hown (by decide +kernel) (by decide +kernel) hts (by decide +kernel) (by decide +kernel) tX4_undo_47 hT twm_47 twg_47 hZ hP hS (hl.1.trans hml.symm) dX4_undo_17 dX4_undo_20 dX4_undo_21 dX4_undo_24 hout (Nat.le_of_ble_eq_true rfl) (Nat.le_of_ble_eq_true rfl) (Nat.le_of_ble_eq_true rfl) (Nat.le_of_ble_eq_true rfl) hlocks h
  · have h := h.2 c2
    refine lv_aload_n hx hb dX4_undo_7 rfl (lv_at hl 0 rfl) ?_
    refine va_get (D := (dC, dI)) (ci := 4) (v := .ref (ad 1)) (C := RX4) (T := TX4) (N := 5) hx hb hts iX4_undo_X4 hown hK hP 0 rfl rfl 0 (by decide) (hts (.fieldLink RX4 10 "CarrierBooks" "plan" "LCarrierBooks$Plan;") (by decide +kernel)) (fun _ h9 => h9) rfl dX4_undo_8 ?_
    refine va_getN (host := RX4) (D := (dC, dI)) (ci := 1) (v := .int (I 1)) (C := RX1) (T := TX1) (N := 6) hx hb hts iX4_undo_X1 hown hK hP 1 rfl rfl 5 (by decide) (va_Nw.use rfl (hN (.fieldLinkNest RX4 41 "CarrierBooks$Plan" "size" "I" RX4) (by decide +kernel))) (fun _ h9 => h9) rfl dX4_undo_11 ?_
    refine lv_if_ne (tgt := 25) hx hb dX4_undo_14 (by decide) (fun c3 => ?_) (fun c3 => ?_)
    · have h := h.1 c3
      refine lv_aload_n hx hb dX4_undo_25 rfl (lv_at hl 0 rfl) ?_
      refine va_get (D := (dC, dI)) (ci := 4) (v := .ref (ad 1)) (C := RX4) (T := TX4) (N := 5) hx hb hts iX4_undo_X4 hown hK hP 0 rfl rfl 0 (by decide) (hts (.fieldLink RX4 10 "CarrierBooks" "plan" "LCarrierBooks$Plan;") (by decide +kernel)) (fun _ h9 => h9) rfl dX4_undo_26 ?_
      refine wcall_v (va_runVN (As := []) (rest := []) ⟨hx, hb, hml, hown, hts⟩ (cTX1_dropLatest l dC dI cI ad I F s.heap.size _ h) ⟨va_cnB 0 hts gX4_undo_X1_dropLatest_n62 rfl rfl rfl (hN (.methodLinkNest RX4 62 yX1_dropLatest RX4) (by decide +kernel)) (hts (.initialized RX1) (by decide +kernel)) (by decide +kernel) ⟨Nat.le_of_ble_eq_true rfl, Nat.le_of_ble_eq_true rfl⟩, hts (.instanceMethod yX1_dropLatest) (by decide +kernel), hts (.selects RX1 yX1_dropLatest yX1_dropLatest) (by decide +kernel)⟩ (pv_W hP hK hN ((hD _ _).weaken (fun _ _ _ _ => trivial)) 1 1 rfl rfl _) rfl rfl hl.1 rfl (lv_room (Nat.le_of_ble_eq_true rfl)) dX4_undo_29 ⟨Nat.le_of_ble_eq_true rfl, Nat.le_of_ble_eq_true rfl⟩) hD hS hA (fun I5 F6 h H locs hP hS => ?_)
      refine W.widen (k := 1) (n := 6) (Nat.le_of_ble_eq_true rfl) (Nat.le_of_ble_eq_true rfl) ?_
      exact vx_ret (W.vret hx hb hr (fun t ht hW => ⟨⟨(I5, F6), rfl, h, by show va_P _ _ _ t.heap; rw [ht]; exact hP⟩, hS.F ht⟩) hS.2.2 dX4_undo_32)
    · have h := h.2 c3
      exact throw_w (wf := wC cI ad) (own := RX4) (names := exNames) (ik := 45) (ic := 47) (cls := "java/lang/IllegalStateException") hx hb hst hown (by decide +kernel) (by decide +kernel) hts (by decide +kernel) (by decide +kernel) tX4_undo_47 hT twm_47 twg_47 hZ hP hS (hl.1.trans hml.symm) dX4_undo_17 dX4_undo_20 dX4_undo_21 dX4_undo_24 hout (Nat.le_of_ble_eq_true rfl) (Nat.le_of_ble_eq_true rfl) (Nat.le_of_ble_eq_true rfl) (Nat.le_of_ble_eq_true rfl) hlocks h

theorem iX4_quota_X2 : ∀ w ∈ wsX20, w ∈ wsX4_quota := by decide +kernel
theorem iX4_quota_X4 : ∀ w ∈ wsX40, w ∈ wsX4_quota := by decide +kernel
theorem tX4_quota_47 : ∀ w ∈ (vx_at0 RX4 47 "java/lang/IllegalStateException" exNames).filter goodWord, w ∈ wsX4_quota := by decide +kernel
theorem tX4_quota_57 : ∀ w ∈ (vx_at0 RX4 57 "java/lang/IllegalArgumentException" exNames).filter goodWord, w ∈ wsX4_quota := by decide +kernel
def wX4_quota (I : Nat → Int32) (F : Nat → Nat → Int32) (x1 : Int32) (post : (Nat → Int32) → (Nat → Nat → Int32) → Prop) (px : String → (Nat → Int32) → (Nat → Nat → Int32) → Prop) : Prop := (((I 2) ≤ (0 : Int32) → wX4_isWithin (0 : Int32) x1 (90 : Int32) (fun r2 => ((¬ r2 = (0 : Int32) → ∀ I4 : Nat → Int32, I4 = va_up I 0 x1 → post I4 F) ∧ (r2 = (0 : Int32) → px "java/lang/IllegalArgumentException" I F)))) ∧ (¬ (I 2) ≤ (0 : Int32) → px "java/lang/IllegalStateException" I F))
set_option maxHeartbeats 4000000 in
set_option maxRecDepth 100000 in
theorem cTX4_quota (l : Launch) (hst : l.stackTraces = false) (dC : Nat → ClassId) (dI : Nat → Nat → Nat) (cI : ClassId) (ad : Nat → Nat) (I : Nat → Int32) (F : Nat → Nat → Int32) (sz : Nat) (x1 : Int32) (post : (Nat → Int32) → (Nat → Nat → Int32) → Prop) (px : String → (Nat → Int32) → (Nat → Nat → Int32) → Prop) (h : wX4_quota I F x1 post px) : vx_Met l yX4_quota wsX4_quota { frames := 6, cells := 1, slots := 6, locals := 89 } (va_Pc [.ref (ad 0), .int x1] (PWt dC dI cI (wC cI ad) I F sz)) (QWv dC dI (wC cI ad) post (va_A (wC cI ad I F) sz)) (XW dC dI (wC cI ad) px (va_A (wC cI ad I F) sz)) 1 6 (va_A (wC cI ad I F) sz) := by
  refine vx_ofW (cc := cX4_quota) (maxL := 2) (ret := none) (by decide) rfl ?_
  intro p e s m args below meth c s₁ B hml hout hv
  obtain ⟨rfl, ⟨hsz, ⟨hP, hK, hN⟩, hD0⟩, hT, hZ⟩ := hv
  subst hsz
  have hD := wD_any (wC_fix cI ad) (hD0.self (sz := s.heap.size))
  generalize hAe : va_A (wC cI ad I F) s.heap.size = A at hD hZ ⊢
  have hA : ∀ q : Nat, s.heap.size ≤ q → A q := fun q h => by rw [← hAe]; exact Or.inr h
  clear hAe hD0
  have hx := B.exec
  have hb := B.bytes
  have hr := B.returns
  have hts := atoms_spec (ws := wsX4_quota) B.pre
  have hown : s.vm.findClass RX4 = some m.cls := findClass_of_methodNamed B.named
  have hlocks := B.notSynchronized
  have C : Cx p s m _ meth c cX4_quota 2 none RX4 wsX4_quota := ⟨hx, hb, hml, hown, hts, hr, hlocks⟩
  have hS : va_S A s.heap s.heap [] := va_S.rf
  have hl := lv_entry ([.ref (ad 0), .int x1]) (n := 2) (Nat.le_of_ble_eq_true rfl)
  rw [lg_entry_eq]
  generalize (lg_sl ([.ref (ad 0), .int x1]) ++ List.replicate (2 - (lg_sl ([.ref (ad 0), .int x1])).length) Slot.unset).toArray = ls at hl ⊢
  have hl : lv_has ls 2 [(0, .ref (ad 0)), (1, .int x1)] := hl
  unfold wX4_quota at h
  refine lv_aload_n hx hb dX4_quota_0 rfl (lv_at hl 0 rfl) ?_
  refine va_get (D := (dC, dI)) (ci := 4) (v := .ref (ad 2)) (C := RX4) (T := TX4) (N := 5) hx hb hts iX4_quota_X4 hown hK hP 0 rfl rfl 1 (by decide) (hts (.fieldLink RX4 19 "CarrierBooks" "register" "LCarrierBooks$Register;") (by decide +kernel)) (fun _ h9 => h9) rfl dX4_quota_1 ?_
  refine va_getN (host := RX4) (D := (dC, dI)) (ci := 2) (v := .int (I 2)) (C := RX2) (T := TX2) (N := 10) hx hb hts iX4_quota_X2 hown hK hP 2 rfl rfl 4 (by decide) (va_Nw.use rfl (hN (.fieldLinkNest RX4 69 "CarrierBooks$Register" "policies" "I" RX4) (by decide +kernel))) (fun _ h9 => h9) rfl dX4_quota_4 ?_
  refine lv_if_le (tgt := 18) hx hb dX4_quota_7 (by decide) (fun c1 => ?_) (fun c1 => ?_)
  · have h := h.1 c1
    refine lv_iconst (v := (0 : Int32)) hx hb dX4_quota_18 (by decide) ?_
    refine lv_iload_n hx hb dX4_quota_19 rfl (lv_at hl 1 rfl) ?_
    refine lv_bipush (v := (90 : Int32)) hx hb dX4_quota_20 (by decide) ?_
    refine vp_callSi (cr_of (va_runS (As := [.int (0 : Int32), .int x1, .int (90 : Int32)]) (rest := []) ⟨hx, hb, hml, hown, hts⟩ (cTX4_isWithin l (0 : Int32) x1 (90 : Int32) _ h) (va_cwS 3 hts gX4_quota_X4_isWithin rfl rfl rfl (by decide +kernel) ⟨Nat.le_of_ble_eq_true rfl, Nat.le_of_ble_eq_true rfl⟩) (pv_S _) rfl rfl hl.1 rfl (lv_room (Nat.le_of_ble_eq_true rfl)) dX4_quota_22 ⟨Nat.le_of_ble_eq_true rfl, Nat.le_of_ble_eq_true rfl⟩)) (fun r2 h => ?_)
    refine lv_if_ne (tgt := 36) hx hb dX4_quota_25 (by decide) (fun c3 => ?_) (fun c3 => ?_)
    · have h := h.1 c3
      refine lv_aload_n hx hb dX4_quota_36 rfl (lv_at hl 0 rfl) ?_
      refine lv_iload_n hx hb dX4_quota_37 rfl (lv_at hl 1 rfl) ?_
      refine put_w (wf := wC cI ad) (ci := 4) (C := RX4) (T := TX4) (N := 5) hx hb hts iX4_quota_X4 tyX4 tyX4_ok nmX4 hown hK hP hD hS 0 rfl rfl 4 (by decide) (hts (.fieldLink RX4 72 "CarrierBooks" "quotaPercent" "I") (by decide +kernel)) (fun _ h9 => h9) rfl 0 (by decide +kernel) (Nat.le_of_ble_eq_true rfl) rfl dX4_quota_38 (fun I4 eI4 H locs hP hS => ?_)
      have h := h I4 eI4
      refine W.widen (k := 1) (n := 6) (Nat.le_of_ble_eq_true rfl) (Nat.le_of_ble_eq_true rfl) ?_
      exact vx_ret (W.vret hx hb hr (fun t ht hW => ⟨⟨(I4, F), rfl, h, by show va_P _ _ _ t.heap; rw [ht]; exact hP⟩, hS.F ht⟩) hS.2.2 dX4_quota_41)
    · have h := h.2 c3
      exact throw_w (wf := wC cI ad) (own := RX4) (names := exNames) (ik := 55) (ic := 57) (cls := "java/lang/IllegalArgumentException") hx hb hst hown (by decide +kernel) (by decide +kernel) hts (by decide +kernel) (by decide +kernel) tX4_quota_57 hT twm_57 twg_57 hZ hP hS (hl.1.trans hml.symm) dX4_quota_28 dX4_quota_31 dX4_quota_32 dX4_quota_35 hout (Nat.le_of_ble_eq_true rfl) (Nat.le_of_ble_eq_true rfl) (Nat.le_of_ble_eq_true rfl) (Nat.le_of_ble_eq_true rfl) hlocks h
  · have h := h.2 c1
    exact throw_w (wf := wC cI ad) (own := RX4) (names := exNames) (ik := 45) (ic := 47) (cls := "java/lang/IllegalStateException") hx hb hst hown (by decide +kernel) (by decide +kernel) hts (by decide +kernel) (by decide +kernel) tX4_quota_47 hT twm_47 twg_47 hZ hP hS (hl.1.trans hml.symm) dX4_quota_10 dX4_quota_13 dX4_quota_14 dX4_quota_17 hout (Nat.le_of_ble_eq_true rfl) (Nat.le_of_ble_eq_true rfl) (Nat.le_of_ble_eq_true rfl) (Nat.le_of_ble_eq_true rfl) hlocks h

theorem iX4_terms_X3 : ∀ w ∈ wsX30, w ∈ wsX4_terms := by decide +kernel
theorem iX4_terms_X4 : ∀ w ∈ wsX40, w ∈ wsX4_terms := by decide +kernel
theorem tX4_terms_47 : ∀ w ∈ (vx_at0 RX4 47 "java/lang/IllegalStateException" exNames).filter goodWord, w ∈ wsX4_terms := by decide +kernel
theorem tX4_terms_57 : ∀ w ∈ (vx_at0 RX4 57 "java/lang/IllegalArgumentException" exNames).filter goodWord, w ∈ wsX4_terms := by decide +kernel
def wX4_terms (I : Nat → Int32) (F : Nat → Nat → Int32) (x1 x2 x3 : Int32) (post : (Nat → Int32) → (Nat → Nat → Int32) → Prop) (px : String → (Nat → Int32) → (Nat → Nat → Int32) → Prop) : Prop := (((I 13) ≤ (0 : Int32) → wX4_isWithin (0 : Int32) x1 (999 : Int32) (fun r2 => ((r2 = (0 : Int32) → px "java/lang/IllegalArgumentException" I F) ∧ (¬ r2 = (0 : Int32) → wX4_isWithin (1 : Int32) x2 (9999 : Int32) (fun r4 => ((r4 = (0 : Int32) → px "java/lang/IllegalArgumentException" I F) ∧ (¬ r4 = (0 : Int32) → wX4_isWithin (1 : Int32) x3 (9999 : Int32) (fun r6 => ((¬ r6 = (0 : Int32) → wX3_setTerms I F x1 x2 x3 (fun I9 F10 => post I9 F10)) ∧ (r6 = (0 : Int32) → px "java/lang/IllegalArgumentException" I F)))))))))) ∧ (¬ (I 13) ≤ (0 : Int32) → px "java/lang/IllegalStateException" I F))
set_option maxHeartbeats 4000000 in
set_option maxRecDepth 100000 in
theorem cTX4_terms (l : Launch) (hst : l.stackTraces = false) (dC : Nat → ClassId) (dI : Nat → Nat → Nat) (cI : ClassId) (ad : Nat → Nat) (I : Nat → Int32) (F : Nat → Nat → Int32) (sz : Nat) (x1 x2 x3 : Int32) (post : (Nat → Int32) → (Nat → Nat → Int32) → Prop) (px : String → (Nat → Int32) → (Nat → Nat → Int32) → Prop) (h : wX4_terms I F x1 x2 x3 post px) : vx_Met l yX4_terms wsX4_terms { frames := 6, cells := 1, slots := 6, locals := 89 } (va_Pc [.ref (ad 0), .int x1, .int x2, .int x3] (PWt dC dI cI (wC cI ad) I F sz)) (QWv dC dI (wC cI ad) post (va_A (wC cI ad I F) sz)) (XW dC dI (wC cI ad) px (va_A (wC cI ad I F) sz)) 1 6 (va_A (wC cI ad I F) sz) := by
  refine vx_ofW (cc := cX4_terms) (maxL := 4) (ret := none) (by decide) rfl ?_
  intro p e s m args below meth c s₁ B hml hout hv
  obtain ⟨rfl, ⟨hsz, ⟨hP, hK, hN⟩, hD0⟩, hT, hZ⟩ := hv
  subst hsz
  have hD := wD_any (wC_fix cI ad) (hD0.self (sz := s.heap.size))
  generalize hAe : va_A (wC cI ad I F) s.heap.size = A at hD hZ ⊢
  have hA : ∀ q : Nat, s.heap.size ≤ q → A q := fun q h => by rw [← hAe]; exact Or.inr h
  clear hAe hD0
  have hx := B.exec
  have hb := B.bytes
  have hr := B.returns
  have hts := atoms_spec (ws := wsX4_terms) B.pre
  have hown : s.vm.findClass RX4 = some m.cls := findClass_of_methodNamed B.named
  have hlocks := B.notSynchronized
  have C : Cx p s m _ meth c cX4_terms 4 none RX4 wsX4_terms := ⟨hx, hb, hml, hown, hts, hr, hlocks⟩
  have hS : va_S A s.heap s.heap [] := va_S.rf
  have hl := lv_entry ([.ref (ad 0), .int x1, .int x2, .int x3]) (n := 4) (Nat.le_of_ble_eq_true rfl)
  rw [lg_entry_eq]
  generalize (lg_sl ([.ref (ad 0), .int x1, .int x2, .int x3]) ++ List.replicate (4 - (lg_sl ([.ref (ad 0), .int x1, .int x2, .int x3])).length) Slot.unset).toArray = ls at hl ⊢
  have hl : lv_has ls 4 [(0, .ref (ad 0)), (1, .int x1), (2, .int x2), (3, .int x3)] := hl
  unfold wX4_terms at h
  refine lv_aload_n hx hb dX4_terms_0 rfl (lv_at hl 0 rfl) ?_
  refine va_get (D := (dC, dI)) (ci := 4) (v := .ref (ad 3)) (C := RX4) (T := TX4) (N := 5) hx hb hts iX4_terms_X4 hown hK hP 0 rfl rfl 2 (by decide) (hts (.fieldLink RX4 26 "CarrierBooks" "settlements" "LCarrierBooks$Settlements;") (by decide +kernel)) (fun _ h9 => h9) rfl dX4_terms_1 ?_
  refine va_getN (host := RX4) (D := (dC, dI)) (ci := 3) (v := .int (I 13)) (C := RX3) (T := TX3) (N := 12) hx hb hts iX4_terms_X3 hown hK hP 3 rfl rfl 11 (by decide) (va_Nw.use rfl (hN (.fieldLinkNest RX4 75 "CarrierBooks$Settlements" "size" "I" RX4) (by decide +kernel))) (fun _ h9 => h9) rfl dX4_terms_4 ?_
  refine lv_if_le (tgt := 18) hx hb dX4_terms_7 (by decide) (fun c1 => ?_) (fun c1 => ?_)
  · have h := h.1 c1
    refine lv_iconst (v := (0 : Int32)) hx hb dX4_terms_18 (by decide) ?_
    refine lv_iload_n hx hb dX4_terms_19 rfl (lv_at hl 1 rfl) ?_
    refine lv_sipush (v := (999 : Int32)) hx hb dX4_terms_20 (by decide) ?_
    refine vp_callSi (cr_of (va_runS (As := [.int (0 : Int32), .int x1, .int (999 : Int32)]) (rest := []) ⟨hx, hb, hml, hown, hts⟩ (cTX4_isWithin l (0 : Int32) x1 (999 : Int32) _ h) (va_cwS 3 hts gX4_terms_X4_isWithin rfl rfl rfl (by decide +kernel) ⟨Nat.le_of_ble_eq_true rfl, Nat.le_of_ble_eq_true rfl⟩) (pv_S _) rfl rfl hl.1 rfl (lv_room (Nat.le_of_ble_eq_true rfl)) dX4_terms_23 ⟨Nat.le_of_ble_eq_true rfl, Nat.le_of_ble_eq_true rfl⟩)) (fun r2 h => ?_)
    refine lv_if_eq (tgt := 51) hx hb dX4_terms_26 (by decide) (fun c3 => ?_) (fun c3 => ?_)
    · have h := h.1 c3
      exact throw_w (wf := wC cI ad) (own := RX4) (names := exNames) (ik := 55) (ic := 57) (cls := "java/lang/IllegalArgumentException") hx hb hst hown (by decide +kernel) (by decide +kernel) hts (by decide +kernel) (by decide +kernel) tX4_terms_57 hT twm_57 twg_57 hZ hP hS (hl.1.trans hml.symm) dX4_terms_51 dX4_terms_54 dX4_terms_55 dX4_terms_58 hout (Nat.le_of_ble_eq_true rfl) (Nat.le_of_ble_eq_true rfl) (Nat.le_of_ble_eq_true rfl) (Nat.le_of_ble_eq_true rfl) hlocks h
    · have h := h.2 c3
      refine lv_iconst (v := (1 : Int32)) hx hb dX4_terms_29 (by decide) ?_
      refine lv_iload_n hx hb dX4_terms_30 rfl (lv_at hl 2 rfl) ?_
      refine lv_sipush (v := (9999 : Int32)) hx hb dX4_terms_31 (by decide) ?_
      refine vp_callSi (cr_of (va_runS (As := [.int (1 : Int32), .int x2, .int (9999 : Int32)]) (rest := []) ⟨hx, hb, hml, hown, hts⟩ (cTX4_isWithin l (1 : Int32) x2 (9999 : Int32) _ h) (va_cwS 3 hts gX4_terms_X4_isWithin rfl rfl rfl (by decide +kernel) ⟨Nat.le_of_ble_eq_true rfl, Nat.le_of_ble_eq_true rfl⟩) (pv_S _) rfl rfl hl.1 rfl (lv_room (Nat.le_of_ble_eq_true rfl)) dX4_terms_34 ⟨Nat.le_of_ble_eq_true rfl, Nat.le_of_ble_eq_true rfl⟩)) (fun r4 h => ?_)
      refine lv_if_eq (tgt := 51) hx hb dX4_terms_37 (by decide) (fun c5 => ?_) (fun c5 => ?_)
      · have h := h.1 c5
        exact throw_w (wf := wC cI ad) (own := RX4) (names := exNames) (ik := 55) (ic := 57) (cls := "java/lang/IllegalArgumentException") hx hb hst hown (by decide +kernel) (by decide +kernel) hts (by decide +kernel) (by decide +kernel) tX4_terms_57 hT twm_57 twg_57 hZ hP hS (hl.1.trans hml.symm) dX4_terms_51 dX4_terms_54 dX4_terms_55 dX4_terms_58 hout (Nat.le_of_ble_eq_true rfl) (Nat.le_of_ble_eq_true rfl) (Nat.le_of_ble_eq_true rfl) (Nat.le_of_ble_eq_true rfl) hlocks h
      · have h := h.2 c5
        refine lv_iconst (v := (1 : Int32)) hx hb dX4_terms_40 (by decide) ?_
        refine lv_iload_n hx hb dX4_terms_41 rfl (lv_at hl 3 rfl) ?_
        refine lv_sipush (v := (9999 : Int32)) hx hb dX4_terms_42 (by decide) ?_
        refine vp_callSi (cr_of (va_runS (As := [.int (1 : Int32), .int x3, .int (9999 : Int32)]) (rest := []) ⟨hx, hb, hml, hown, hts⟩ (cTX4_isWithin l (1 : Int32) x3 (9999 : Int32) _ h) (va_cwS 3 hts gX4_terms_X4_isWithin rfl rfl rfl (by decide +kernel) ⟨Nat.le_of_ble_eq_true rfl, Nat.le_of_ble_eq_true rfl⟩) (pv_S _) rfl rfl hl.1 rfl (lv_room (Nat.le_of_ble_eq_true rfl)) dX4_terms_45 ⟨Nat.le_of_ble_eq_true rfl, Nat.le_of_ble_eq_true rfl⟩)) (fun r6 h => ?_)
        refine lv_if_ne (tgt := 59) hx hb dX4_terms_48 (by decide) (fun c7 => ?_) (fun c7 => ?_)
        · have h := h.1 c7
          refine lv_aload_n hx hb dX4_terms_59 rfl (lv_at hl 0 rfl) ?_
          refine va_get (D := (dC, dI)) (ci := 4) (v := .ref (ad 3)) (C := RX4) (T := TX4) (N := 5) hx hb hts iX4_terms_X4 hown hK hP 0 rfl rfl 2 (by decide) (hts (.fieldLink RX4 26 "CarrierBooks" "settlements" "LCarrierBooks$Settlements;") (by decide +kernel)) (fun _ h9 => h9) rfl dX4_terms_60 ?_
          refine lv_iload_n hx hb dX4_terms_63 rfl (lv_at hl 1 rfl) ?_
          refine lv_iload_n hx hb dX4_terms_64 rfl (lv_at hl 2 rfl) ?_
          refine lv_iload_n hx hb dX4_terms_65 rfl (lv_at hl 3 rfl) ?_
          refine wcall_v (va_runVN (As := [.int x1, .int x2, .int x3]) (rest := []) ⟨hx, hb, hml, hown, hts⟩ (cTX3_setTerms l dC dI cI ad I F s.heap.size x1 x2 x3 _ h) ⟨va_cnB 3 hts gX4_terms_X3_setTerms_n76 rfl rfl rfl (hN (.methodLinkNest RX4 76 yX3_setTerms RX4) (by decide +kernel)) (hts (.initialized RX3) (by decide +kernel)) (by decide +kernel) ⟨Nat.le_of_ble_eq_true rfl, Nat.le_of_ble_eq_true rfl⟩, hts (.instanceMethod yX3_setTerms) (by decide +kernel), hts (.selects RX3 yX3_setTerms yX3_setTerms) (by decide +kernel)⟩ (pv_W hP hK hN ((hD _ _).weaken (fun _ _ _ _ => trivial)) 3 3 rfl rfl _) rfl rfl hl.1 rfl (lv_room (Nat.le_of_ble_eq_true rfl)) dX4_terms_66 ⟨Nat.le_of_ble_eq_true rfl, Nat.le_of_ble_eq_true rfl⟩) hD hS hA (fun I9 F10 h H locs hP hS => ?_)
          refine W.widen (k := 1) (n := 6) (Nat.le_of_ble_eq_true rfl) (Nat.le_of_ble_eq_true rfl) ?_
          exact vx_ret (W.vret hx hb hr (fun t ht hW => ⟨⟨(I9, F10), rfl, h, by show va_P _ _ _ t.heap; rw [ht]; exact hP⟩, hS.F ht⟩) hS.2.2 dX4_terms_69)
        · have h := h.2 c7
          exact throw_w (wf := wC cI ad) (own := RX4) (names := exNames) (ik := 55) (ic := 57) (cls := "java/lang/IllegalArgumentException") hx hb hst hown (by decide +kernel) (by decide +kernel) hts (by decide +kernel) (by decide +kernel) tX4_terms_57 hT twm_57 twg_57 hZ hP hS (hl.1.trans hml.symm) dX4_terms_51 dX4_terms_54 dX4_terms_55 dX4_terms_58 hout (Nat.le_of_ble_eq_true rfl) (Nat.le_of_ble_eq_true rfl) (Nat.le_of_ble_eq_true rfl) (Nat.le_of_ble_eq_true rfl) hlocks h
  · have h := h.2 c1
    exact throw_w (wf := wC cI ad) (own := RX4) (names := exNames) (ik := 45) (ic := 47) (cls := "java/lang/IllegalStateException") hx hb hst hown (by decide +kernel) (by decide +kernel) hts (by decide +kernel) (by decide +kernel) tX4_terms_47 hT twm_47 twg_47 hZ hP hS (hl.1.trans hml.symm) dX4_terms_10 dX4_terms_13 dX4_terms_14 dX4_terms_17 hout (Nat.le_of_ble_eq_true rfl) (Nat.le_of_ble_eq_true rfl) (Nat.le_of_ble_eq_true rfl) (Nat.le_of_ble_eq_true rfl) hlocks h

theorem iX4_layer_X3 : ∀ w ∈ wsX30, w ∈ wsX4_layer := by decide +kernel
theorem iX4_layer_X4 : ∀ w ∈ wsX40, w ∈ wsX4_layer := by decide +kernel
theorem tX4_layer_47 : ∀ w ∈ (vx_at0 RX4 47 "java/lang/IllegalStateException" exNames).filter goodWord, w ∈ wsX4_layer := by decide +kernel
theorem tX4_layer_57 : ∀ w ∈ (vx_at0 RX4 57 "java/lang/IllegalArgumentException" exNames).filter goodWord, w ∈ wsX4_layer := by decide +kernel
def wX4_layer (I : Nat → Int32) (F : Nat → Nat → Int32) (x1 x2 x3 x4 : Int32) (post : (Nat → Int32) → (Nat → Nat → Int32) → Prop) (px : String → (Nat → Int32) → (Nat → Nat → Int32) → Prop) : Prop := (((I 13) ≤ (0 : Int32) → wX4_isWithin (0 : Int32) x1 (9999 : Int32) (fun r2 => ((r2 = (0 : Int32) → px "java/lang/IllegalArgumentException" I F) ∧ (¬ r2 = (0 : Int32) → wX4_isWithin (0 : Int32) x2 (9999 : Int32) (fun r4 => ((r4 = (0 : Int32) → px "java/lang/IllegalArgumentException" I F) ∧ (¬ r4 = (0 : Int32) → wX4_isWithin (0 : Int32) x3 (3 : Int32) (fun r6 => ((r6 = (0 : Int32) → px "java/lang/IllegalArgumentException" I F) ∧ (¬ r6 = (0 : Int32) → wX4_isWithin (0 : Int32) x4 (99 : Int32) (fun r8 => ((¬ r8 = (0 : Int32) → wX3_setLayer I F x1 x2 x3 x4 (fun I11 F12 => post I11 F12)) ∧ (r8 = (0 : Int32) → px "java/lang/IllegalArgumentException" I F))))))))))))) ∧ (¬ (I 13) ≤ (0 : Int32) → px "java/lang/IllegalStateException" I F))
set_option maxHeartbeats 4000000 in
set_option maxRecDepth 100000 in
theorem cTX4_layer (l : Launch) (hst : l.stackTraces = false) (dC : Nat → ClassId) (dI : Nat → Nat → Nat) (cI : ClassId) (ad : Nat → Nat) (I : Nat → Int32) (F : Nat → Nat → Int32) (sz : Nat) (x1 x2 x3 x4 : Int32) (post : (Nat → Int32) → (Nat → Nat → Int32) → Prop) (px : String → (Nat → Int32) → (Nat → Nat → Int32) → Prop) (h : wX4_layer I F x1 x2 x3 x4 post px) : vx_Met l yX4_layer wsX4_layer { frames := 6, cells := 1, slots := 6, locals := 89 } (va_Pc [.ref (ad 0), .int x1, .int x2, .int x3, .int x4] (PWt dC dI cI (wC cI ad) I F sz)) (QWv dC dI (wC cI ad) post (va_A (wC cI ad I F) sz)) (XW dC dI (wC cI ad) px (va_A (wC cI ad I F) sz)) 1 6 (va_A (wC cI ad I F) sz) := by
  refine vx_ofW (cc := cX4_layer) (maxL := 5) (ret := none) (by decide) rfl ?_
  intro p e s m args below meth c s₁ B hml hout hv
  obtain ⟨rfl, ⟨hsz, ⟨hP, hK, hN⟩, hD0⟩, hT, hZ⟩ := hv
  subst hsz
  have hD := wD_any (wC_fix cI ad) (hD0.self (sz := s.heap.size))
  generalize hAe : va_A (wC cI ad I F) s.heap.size = A at hD hZ ⊢
  have hA : ∀ q : Nat, s.heap.size ≤ q → A q := fun q h => by rw [← hAe]; exact Or.inr h
  clear hAe hD0
  have hx := B.exec
  have hb := B.bytes
  have hr := B.returns
  have hts := atoms_spec (ws := wsX4_layer) B.pre
  have hown : s.vm.findClass RX4 = some m.cls := findClass_of_methodNamed B.named
  have hlocks := B.notSynchronized
  have C : Cx p s m _ meth c cX4_layer 5 none RX4 wsX4_layer := ⟨hx, hb, hml, hown, hts, hr, hlocks⟩
  have hS : va_S A s.heap s.heap [] := va_S.rf
  have hl := lv_entry ([.ref (ad 0), .int x1, .int x2, .int x3, .int x4]) (n := 5) (Nat.le_of_ble_eq_true rfl)
  rw [lg_entry_eq]
  generalize (lg_sl ([.ref (ad 0), .int x1, .int x2, .int x3, .int x4]) ++ List.replicate (5 - (lg_sl ([.ref (ad 0), .int x1, .int x2, .int x3, .int x4])).length) Slot.unset).toArray = ls at hl ⊢
  have hl : lv_has ls 5 [(0, .ref (ad 0)), (1, .int x1), (2, .int x2), (3, .int x3), (4, .int x4)] := hl
  unfold wX4_layer at h
  refine lv_aload_n hx hb dX4_layer_0 rfl (lv_at hl 0 rfl) ?_
  refine va_get (D := (dC, dI)) (ci := 4) (v := .ref (ad 3)) (C := RX4) (T := TX4) (N := 5) hx hb hts iX4_layer_X4 hown hK hP 0 rfl rfl 2 (by decide) (hts (.fieldLink RX4 26 "CarrierBooks" "settlements" "LCarrierBooks$Settlements;") (by decide +kernel)) (fun _ h9 => h9) rfl dX4_layer_1 ?_
  refine va_getN (host := RX4) (D := (dC, dI)) (ci := 3) (v := .int (I 13)) (C := RX3) (T := TX3) (N := 12) hx hb hts iX4_layer_X3 hown hK hP 3 rfl rfl 11 (by decide) (va_Nw.use rfl (hN (.fieldLinkNest RX4 75 "CarrierBooks$Settlements" "size" "I" RX4) (by decide +kernel))) (fun _ h9 => h9) rfl dX4_layer_4 ?_
  refine lv_if_le (tgt := 18) hx hb dX4_layer_7 (by decide) (fun c1 => ?_) (fun c1 => ?_)
  · have h := h.1 c1
    refine lv_iconst (v := (0 : Int32)) hx hb dX4_layer_18 (by decide) ?_
    refine lv_iload_n hx hb dX4_layer_19 rfl (lv_at hl 1 rfl) ?_
    refine lv_sipush (v := (9999 : Int32)) hx hb dX4_layer_20 (by decide) ?_
    refine vp_callSi (cr_of (va_runS (As := [.int (0 : Int32), .int x1, .int (9999 : Int32)]) (rest := []) ⟨hx, hb, hml, hown, hts⟩ (cTX4_isWithin l (0 : Int32) x1 (9999 : Int32) _ h) (va_cwS 3 hts gX4_layer_X4_isWithin rfl rfl rfl (by decide +kernel) ⟨Nat.le_of_ble_eq_true rfl, Nat.le_of_ble_eq_true rfl⟩) (pv_S _) rfl rfl hl.1 rfl (lv_room (Nat.le_of_ble_eq_true rfl)) dX4_layer_23 ⟨Nat.le_of_ble_eq_true rfl, Nat.le_of_ble_eq_true rfl⟩)) (fun r2 h => ?_)
    refine lv_if_eq (tgt := 60) hx hb dX4_layer_26 (by decide) (fun c3 => ?_) (fun c3 => ?_)
    · have h := h.1 c3
      exact throw_w (wf := wC cI ad) (own := RX4) (names := exNames) (ik := 55) (ic := 57) (cls := "java/lang/IllegalArgumentException") hx hb hst hown (by decide +kernel) (by decide +kernel) hts (by decide +kernel) (by decide +kernel) tX4_layer_57 hT twm_57 twg_57 hZ hP hS (hl.1.trans hml.symm) dX4_layer_60 dX4_layer_63 dX4_layer_64 dX4_layer_67 hout (Nat.le_of_ble_eq_true rfl) (Nat.le_of_ble_eq_true rfl) (Nat.le_of_ble_eq_true rfl) (Nat.le_of_ble_eq_true rfl) hlocks h
    · have h := h.2 c3
      refine lv_iconst (v := (0 : Int32)) hx hb dX4_layer_29 (by decide) ?_
      refine lv_iload_n hx hb dX4_layer_30 rfl (lv_at hl 2 rfl) ?_
      refine lv_sipush (v := (9999 : Int32)) hx hb dX4_layer_31 (by decide) ?_
      refine vp_callSi (cr_of (va_runS (As := [.int (0 : Int32), .int x2, .int (9999 : Int32)]) (rest := []) ⟨hx, hb, hml, hown, hts⟩ (cTX4_isWithin l (0 : Int32) x2 (9999 : Int32) _ h) (va_cwS 3 hts gX4_layer_X4_isWithin rfl rfl rfl (by decide +kernel) ⟨Nat.le_of_ble_eq_true rfl, Nat.le_of_ble_eq_true rfl⟩) (pv_S _) rfl rfl hl.1 rfl (lv_room (Nat.le_of_ble_eq_true rfl)) dX4_layer_34 ⟨Nat.le_of_ble_eq_true rfl, Nat.le_of_ble_eq_true rfl⟩)) (fun r4 h => ?_)
      refine lv_if_eq (tgt := 60) hx hb dX4_layer_37 (by decide) (fun c5 => ?_) (fun c5 => ?_)
      · have h := h.1 c5
        exact throw_w (wf := wC cI ad) (own := RX4) (names := exNames) (ik := 55) (ic := 57) (cls := "java/lang/IllegalArgumentException") hx hb hst hown (by decide +kernel) (by decide +kernel) hts (by decide +kernel) (by decide +kernel) tX4_layer_57 hT twm_57 twg_57 hZ hP hS (hl.1.trans hml.symm) dX4_layer_60 dX4_layer_63 dX4_layer_64 dX4_layer_67 hout (Nat.le_of_ble_eq_true rfl) (Nat.le_of_ble_eq_true rfl) (Nat.le_of_ble_eq_true rfl) (Nat.le_of_ble_eq_true rfl) hlocks h
      · have h := h.2 c5
        refine lv_iconst (v := (0 : Int32)) hx hb dX4_layer_40 (by decide) ?_
        refine lv_iload_n hx hb dX4_layer_41 rfl (lv_at hl 3 rfl) ?_
        refine lv_iconst (v := (3 : Int32)) hx hb dX4_layer_42 (by decide) ?_
        refine vp_callSi (cr_of (va_runS (As := [.int (0 : Int32), .int x3, .int (3 : Int32)]) (rest := []) ⟨hx, hb, hml, hown, hts⟩ (cTX4_isWithin l (0 : Int32) x3 (3 : Int32) _ h) (va_cwS 3 hts gX4_layer_X4_isWithin rfl rfl rfl (by decide +kernel) ⟨Nat.le_of_ble_eq_true rfl, Nat.le_of_ble_eq_true rfl⟩) (pv_S _) rfl rfl hl.1 rfl (lv_room (Nat.le_of_ble_eq_true rfl)) dX4_layer_43 ⟨Nat.le_of_ble_eq_true rfl, Nat.le_of_ble_eq_true rfl⟩)) (fun r6 h => ?_)
        refine lv_if_eq (tgt := 60) hx hb dX4_layer_46 (by decide) (fun c7 => ?_) (fun c7 => ?_)
        · have h := h.1 c7
          exact throw_w (wf := wC cI ad) (own := RX4) (names := exNames) (ik := 55) (ic := 57) (cls := "java/lang/IllegalArgumentException") hx hb hst hown (by decide +kernel) (by decide +kernel) hts (by decide +kernel) (by decide +kernel) tX4_layer_57 hT twm_57 twg_57 hZ hP hS (hl.1.trans hml.symm) dX4_layer_60 dX4_layer_63 dX4_layer_64 dX4_layer_67 hout (Nat.le_of_ble_eq_true rfl) (Nat.le_of_ble_eq_true rfl) (Nat.le_of_ble_eq_true rfl) (Nat.le_of_ble_eq_true rfl) hlocks h
        · have h := h.2 c7
          refine lv_iconst (v := (0 : Int32)) hx hb dX4_layer_49 (by decide) ?_
          refine lv_iload hx hb dX4_layer_50 (lv_at hl 4 rfl) ?_
          refine lv_bipush (v := (99 : Int32)) hx hb dX4_layer_52 (by decide) ?_
          refine vp_callSi (cr_of (va_runS (As := [.int (0 : Int32), .int x4, .int (99 : Int32)]) (rest := []) ⟨hx, hb, hml, hown, hts⟩ (cTX4_isWithin l (0 : Int32) x4 (99 : Int32) _ h) (va_cwS 3 hts gX4_layer_X4_isWithin rfl rfl rfl (by decide +kernel) ⟨Nat.le_of_ble_eq_true rfl, Nat.le_of_ble_eq_true rfl⟩) (pv_S _) rfl rfl hl.1 rfl (lv_room (Nat.le_of_ble_eq_true rfl)) dX4_layer_54 ⟨Nat.le_of_ble_eq_true rfl, Nat.le_of_ble_eq_true rfl⟩)) (fun r8 h => ?_)
          refine lv_if_ne (tgt := 68) hx hb dX4_layer_57 (by decide) (fun c9 => ?_) (fun c9 => ?_)
          · have h := h.1 c9
            refine lv_aload_n hx hb dX4_layer_68 rfl (lv_at hl 0 rfl) ?_
            refine va_get (D := (dC, dI)) (ci := 4) (v := .ref (ad 3)) (C := RX4) (T := TX4) (N := 5) hx hb hts iX4_layer_X4 hown hK hP 0 rfl rfl 2 (by decide) (hts (.fieldLink RX4 26 "CarrierBooks" "settlements" "LCarrierBooks$Settlements;") (by decide +kernel)) (fun _ h9 => h9) rfl dX4_layer_69 ?_
            refine lv_iload_n hx hb dX4_layer_72 rfl (lv_at hl 1 rfl) ?_
            refine lv_iload_n hx hb dX4_layer_73 rfl (lv_at hl 2 rfl) ?_
            refine lv_iload_n hx hb dX4_layer_74 rfl (lv_at hl 3 rfl) ?_
            refine lv_iload hx hb dX4_layer_75 (lv_at hl 4 rfl) ?_
            refine wcall_v (va_runVN (As := [.int x1, .int x2, .int x3, .int x4]) (rest := []) ⟨hx, hb, hml, hown, hts⟩ (cTX3_setLayer l dC dI cI ad I F s.heap.size x1 x2 x3 x4 _ h) ⟨va_cnB 4 hts gX4_layer_X3_setLayer_n80 rfl rfl rfl (hN (.methodLinkNest RX4 80 yX3_setLayer RX4) (by decide +kernel)) (hts (.initialized RX3) (by decide +kernel)) (by decide +kernel) ⟨Nat.le_of_ble_eq_true rfl, Nat.le_of_ble_eq_true rfl⟩, hts (.instanceMethod yX3_setLayer) (by decide +kernel), hts (.selects RX3 yX3_setLayer yX3_setLayer) (by decide +kernel)⟩ (pv_W hP hK hN ((hD _ _).weaken (fun _ _ _ _ => trivial)) 3 3 rfl rfl _) rfl rfl hl.1 rfl (lv_room (Nat.le_of_ble_eq_true rfl)) dX4_layer_77 ⟨Nat.le_of_ble_eq_true rfl, Nat.le_of_ble_eq_true rfl⟩) hD hS hA (fun I11 F12 h H locs hP hS => ?_)
            refine W.widen (k := 1) (n := 6) (Nat.le_of_ble_eq_true rfl) (Nat.le_of_ble_eq_true rfl) ?_
            exact vx_ret (W.vret hx hb hr (fun t ht hW => ⟨⟨(I11, F12), rfl, h, by show va_P _ _ _ t.heap; rw [ht]; exact hP⟩, hS.F ht⟩) hS.2.2 dX4_layer_80)
          · have h := h.2 c9
            exact throw_w (wf := wC cI ad) (own := RX4) (names := exNames) (ik := 55) (ic := 57) (cls := "java/lang/IllegalArgumentException") hx hb hst hown (by decide +kernel) (by decide +kernel) hts (by decide +kernel) (by decide +kernel) tX4_layer_57 hT twm_57 twg_57 hZ hP hS (hl.1.trans hml.symm) dX4_layer_60 dX4_layer_63 dX4_layer_64 dX4_layer_67 hout (Nat.le_of_ble_eq_true rfl) (Nat.le_of_ble_eq_true rfl) (Nat.le_of_ble_eq_true rfl) (Nat.le_of_ble_eq_true rfl) hlocks h
  · have h := h.2 c1
    exact throw_w (wf := wC cI ad) (own := RX4) (names := exNames) (ik := 45) (ic := 47) (cls := "java/lang/IllegalStateException") hx hb hst hown (by decide +kernel) (by decide +kernel) hts (by decide +kernel) (by decide +kernel) tX4_layer_47 hT twm_47 twg_47 hZ hP hS (hl.1.trans hml.symm) dX4_layer_10 dX4_layer_13 dX4_layer_14 dX4_layer_17 hout (Nat.le_of_ble_eq_true rfl) (Nat.le_of_ble_eq_true rfl) (Nat.le_of_ble_eq_true rfl) (Nat.le_of_ble_eq_true rfl) hlocks h

theorem iX4_fact_X4 : ∀ w ∈ wsX40, w ∈ wsX4_fact := by decide +kernel
theorem tX4_fact_114 : ∀ w ∈ (vx_at0 RX4 114 "java/util/NoSuchElementException" exNames).filter goodWord, w ∈ wsX4_fact := by decide +kernel
def wX4_fact (I : Nat → Int32) (F : Nat → Nat → Int32) (x1 x2 x3 x4 : Int32) (post : Int32 → (Nat → Int32) → (Nat → Nat → Int32) → Prop) (px : String → (Nat → Int32) → (Nat → Nat → Int32) → Prop) : Prop := wX4_isPolicy I F x1 (fun r1 => ((r1 = (0 : Int32) → px "java/util/NoSuchElementException" I F) ∧ (¬ r1 = (0 : Int32) → wX4_isWithin (0 : Int32) x2 (4 : Int32) (fun r3 => ((¬ r3 = (0 : Int32) → wX2_countedAsOf I F x4 (fun r5 => wX2_isInTerm I F x1 x3 (fun r6 => ((r6 = (0 : Int32) → post (-1 : Int32) I F) ∧ (¬ r6 = (0 : Int32) → wX2_isBound I F x1 r5 (fun r8 => ((¬ r8 = (0 : Int32) → ((¬ x2 = (4 : Int32) → wX2_valueOn I F x1 x2 x3 r5 (fun r11 => post r11 I F)) ∧ (x2 = (4 : Int32) → wX2_chargeOn I F x1 x3 r5 (fun r12 => post r12 I F)))) ∧ (r8 = (0 : Int32) → post (-1 : Int32) I F)))))))) ∧ (r3 = (0 : Int32) → px "java/util/NoSuchElementException" I F))))))
set_option maxHeartbeats 4000000 in
set_option maxRecDepth 100000 in
theorem cTX4_fact (l : Launch) (hst : l.stackTraces = false) (dC : Nat → ClassId) (dI : Nat → Nat → Nat) (cI : ClassId) (ad : Nat → Nat) (I : Nat → Int32) (F : Nat → Nat → Int32) (sz : Nat) (x1 x2 x3 x4 : Int32) (post : Int32 → (Nat → Int32) → (Nat → Nat → Int32) → Prop) (px : String → (Nat → Int32) → (Nat → Nat → Int32) → Prop) (h : wX4_fact I F x1 x2 x3 x4 post px) : vx_Met l yX4_fact wsX4_fact { frames := 6, cells := 1, slots := 6, locals := 89 } (va_Pc [.ref (ad 0), .int x1, .int x2, .int x3, .int x4] (PWt dC dI cI (wC cI ad) I F sz)) (QWi dC dI (wC cI ad) post (va_A (wC cI ad I F) sz)) (XW dC dI (wC cI ad) px (va_A (wC cI ad I F) sz)) 1 6 (va_A (wC cI ad I F) sz) := by
  refine vx_ofW (cc := cX4_fact) (maxL := 6) (ret := (some .int)) (by decide) rfl ?_
  intro p e s m args below meth c s₁ B hml hout hv
  obtain ⟨rfl, ⟨hsz, ⟨hP, hK, hN⟩, hD0⟩, hT, hZ⟩ := hv
  subst hsz
  have hD := wD_any (wC_fix cI ad) (hD0.self (sz := s.heap.size))
  generalize hAe : va_A (wC cI ad I F) s.heap.size = A at hD hZ ⊢
  have hA : ∀ q : Nat, s.heap.size ≤ q → A q := fun q h => by rw [← hAe]; exact Or.inr h
  clear hAe hD0
  have hx := B.exec
  have hb := B.bytes
  have hr := B.returns
  have hts := atoms_spec (ws := wsX4_fact) B.pre
  have hown : s.vm.findClass RX4 = some m.cls := findClass_of_methodNamed B.named
  have hlocks := B.notSynchronized
  have C : Cx p s m _ meth c cX4_fact 6 (some .int) RX4 wsX4_fact := ⟨hx, hb, hml, hown, hts, hr, hlocks⟩
  have hS : va_S A s.heap s.heap [] := va_S.rf
  have hl := lv_entry ([.ref (ad 0), .int x1, .int x2, .int x3, .int x4]) (n := 6) (Nat.le_of_ble_eq_true rfl)
  rw [lg_entry_eq]
  generalize (lg_sl ([.ref (ad 0), .int x1, .int x2, .int x3, .int x4]) ++ List.replicate (6 - (lg_sl ([.ref (ad 0), .int x1, .int x2, .int x3, .int x4])).length) Slot.unset).toArray = ls at hl ⊢
  have hl : lv_has ls 6 [(0, .ref (ad 0)), (1, .int x1), (2, .int x2), (3, .int x3), (4, .int x4)] := hl
  unfold wX4_fact at h
  refine lv_aload_n hx hb dX4_fact_0 rfl (lv_at hl 0 rfl) ?_
  refine lv_iload_n hx hb dX4_fact_1 rfl (lv_at hl 1 rfl) ?_
  refine vp_callSi (cr_of (va_runV (As := [.int x1]) (rest := []) ⟨hx, hb, hml, hown, hts⟩ (cTX4_isPolicy l dC dI cI ad I F x1 _ h) (cwV 1 hts gX4_fact_X4_isPolicy rfl rfl rfl (by decide +kernel) ⟨Nat.le_of_ble_eq_true rfl, Nat.le_of_ble_eq_true rfl⟩) (pv_R hP hK hN 0 4 rfl rfl _) rfl rfl hl.1 rfl (lv_room (Nat.le_of_ble_eq_true rfl)) dX4_fact_2 ⟨Nat.le_of_ble_eq_true rfl, Nat.le_of_ble_eq_true rfl⟩)) (fun r1 h => ?_)
  refine lv_if_eq (tgt := 17) hx hb dX4_fact_5 (by decide) (fun c2 => ?_) (fun c2 => ?_)
  · have h := h.1 c2
    exact throw_w (wf := wC cI ad) (own := RX4) (names := exNames) (ik := 112) (ic := 114) (cls := "java/util/NoSuchElementException") hx hb hst hown (by decide +kernel) (by decide +kernel) hts (by decide +kernel) (by decide +kernel) tX4_fact_114 hT twm_114 twg_114 hZ hP hS (hl.1.trans hml.symm) dX4_fact_17 dX4_fact_20 dX4_fact_21 dX4_fact_24 hout (Nat.le_of_ble_eq_true rfl) (Nat.le_of_ble_eq_true rfl) (Nat.le_of_ble_eq_true rfl) (Nat.le_of_ble_eq_true rfl) hlocks h
  · have h := h.2 c2
    refine lv_iconst (v := (0 : Int32)) hx hb dX4_fact_8 (by decide) ?_
    refine lv_iload_n hx hb dX4_fact_9 rfl (lv_at hl 2 rfl) ?_
    refine lv_iconst (v := (4 : Int32)) hx hb dX4_fact_10 (by decide) ?_
    refine vp_callSi (cr_of (va_runS (As := [.int (0 : Int32), .int x2, .int (4 : Int32)]) (rest := []) ⟨hx, hb, hml, hown, hts⟩ (cTX4_isWithin l (0 : Int32) x2 (4 : Int32) _ h) (va_cwS 3 hts gX4_fact_X4_isWithin rfl rfl rfl (by decide +kernel) ⟨Nat.le_of_ble_eq_true rfl, Nat.le_of_ble_eq_true rfl⟩) (pv_S _) rfl rfl hl.1 rfl (lv_room (Nat.le_of_ble_eq_true rfl)) dX4_fact_11 ⟨Nat.le_of_ble_eq_true rfl, Nat.le_of_ble_eq_true rfl⟩)) (fun r3 h => ?_)
    refine lv_if_ne (tgt := 25) hx hb dX4_fact_14 (by decide) (fun c4 => ?_) (fun c4 => ?_)
    · have h := h.1 c4
      refine lv_aload_n hx hb dX4_fact_25 rfl (lv_at hl 0 rfl) ?_
      refine va_get (D := (dC, dI)) (ci := 4) (v := .ref (ad 2)) (C := RX4) (T := TX4) (N := 5) hx hb hts iX4_fact_X4 hown hK hP 0 rfl rfl 1 (by decide) (hts (.fieldLink RX4 19 "CarrierBooks" "register" "LCarrierBooks$Register;") (by decide +kernel)) (fun _ h9 => h9) rfl dX4_fact_26 ?_
      refine lv_iload hx hb dX4_fact_29 (lv_at hl 4 rfl) ?_
      refine vp_callSi (cr_of (va_runVN (As := [.int x4]) (rest := []) ⟨hx, hb, hml, hown, hts⟩ (cTX2_countedAsOf l dC dI cI ad I F x4 _ h) ⟨va_cnB 1 hts gX4_fact_X2_countedAsOf_n153 rfl rfl rfl (hN (.methodLinkNest RX4 153 yX2_countedAsOf RX4) (by decide +kernel)) (hts (.initialized RX2) (by decide +kernel)) (by decide +kernel) ⟨Nat.le_of_ble_eq_true rfl, Nat.le_of_ble_eq_true rfl⟩, hts (.instanceMethod yX2_countedAsOf) (by decide +kernel), hts (.selects RX2 yX2_countedAsOf yX2_countedAsOf) (by decide +kernel)⟩ (pv_R hP hK hN 2 2 rfl rfl _) rfl rfl hl.1 rfl (lv_room (Nat.le_of_ble_eq_true rfl)) dX4_fact_31 ⟨Nat.le_of_ble_eq_true rfl, Nat.le_of_ble_eq_true rfl⟩)) (fun r5 h => ?_)
      refine lv_istore (lv' := [(5, .int r5), (0, .ref (ad 0)), (1, .int x1), (2, .int x2), (3, .int x3), (4, .int x4)]) hx hb dX4_fact_34 hl (by decide) rfl (fun ls hl => ?_)
      refine lv_aload_n hx hb dX4_fact_36 rfl (lv_at hl 1 rfl) ?_
      refine va_get (D := (dC, dI)) (ci := 4) (v := .ref (ad 2)) (C := RX4) (T := TX4) (N := 5) hx hb hts iX4_fact_X4 hown hK hP 0 rfl rfl 1 (by decide) (hts (.fieldLink RX4 19 "CarrierBooks" "register" "LCarrierBooks$Register;") (by decide +kernel)) (fun _ h9 => h9) rfl dX4_fact_37 ?_
      refine lv_iload_n hx hb dX4_fact_40 rfl (lv_at hl 2 rfl) ?_
      refine lv_iload_n hx hb dX4_fact_41 rfl (lv_at hl 4 rfl) ?_
      refine vp_callSi (cr_of (va_runVN (As := [.int x1, .int x3]) (rest := []) ⟨hx, hb, hml, hown, hts⟩ (cTX2_isInTerm l dC dI cI ad I F x1 x3 _ h) ⟨va_cnB 2 hts gX4_fact_X2_isInTerm_n115 rfl rfl rfl (hN (.methodLinkNest RX4 115 yX2_isInTerm RX4) (by decide +kernel)) (hts (.initialized RX2) (by decide +kernel)) (by decide +kernel) ⟨Nat.le_of_ble_eq_true rfl, Nat.le_of_ble_eq_true rfl⟩, hts (.instanceMethod yX2_isInTerm) (by decide +kernel), hts (.selects RX2 yX2_isInTerm yX2_isInTerm) (by decide +kernel)⟩ (pv_R hP hK hN 2 2 rfl rfl _) rfl rfl hl.1 rfl (lv_room (Nat.le_of_ble_eq_true rfl)) dX4_fact_42 ⟨Nat.le_of_ble_eq_true rfl, Nat.le_of_ble_eq_true rfl⟩)) (fun r6 h => ?_)
      refine lv_if_eq (tgt := 61) hx hb dX4_fact_45 (by decide) (fun c7 => ?_) (fun c7 => ?_)
      · have h := h.1 c7
        refine lv_iconst (v := (-1 : Int32)) hx hb dX4_fact_61 (by decide) ?_
        refine W.widen (k := 1) (n := 6) (Nat.le_of_ble_eq_true rfl) (Nat.le_of_ble_eq_true rfl) ?_
        exact vx_ret (W.iret (v := (-1 : Int32)) hx hb hr (fun t ht hW => ⟨⟨(-1 : Int32), (I, F), rfl, h, by show va_P _ _ _ t.heap; rw [ht]; exact hP⟩, hS.F ht⟩) hS.2.2 dX4_fact_62)
      · have h := h.2 c7
        refine lv_aload_n hx hb dX4_fact_48 rfl (lv_at hl 1 rfl) ?_
        refine va_get (D := (dC, dI)) (ci := 4) (v := .ref (ad 2)) (C := RX4) (T := TX4) (N := 5) hx hb hts iX4_fact_X4 hown hK hP 0 rfl rfl 1 (by decide) (hts (.fieldLink RX4 19 "CarrierBooks" "register" "LCarrierBooks$Register;") (by decide +kernel)) (fun _ h9 => h9) rfl dX4_fact_49 ?_
        refine lv_iload_n hx hb dX4_fact_52 rfl (lv_at hl 2 rfl) ?_
        refine lv_iload hx hb dX4_fact_53 (lv_at hl 0 rfl) ?_
        refine vp_callSi (cr_of (va_runVN (As := [.int x1, .int r5]) (rest := []) ⟨hx, hb, hml, hown, hts⟩ (cTX2_isBound l dC dI cI ad I F x1 r5 _ h) ⟨va_cnB 2 hts gX4_fact_X2_isBound_n156 rfl rfl rfl (hN (.methodLinkNest RX4 156 yX2_isBound RX4) (by decide +kernel)) (hts (.initialized RX2) (by decide +kernel)) (by decide +kernel) ⟨Nat.le_of_ble_eq_true rfl, Nat.le_of_ble_eq_true rfl⟩, hts (.instanceMethod yX2_isBound) (by decide +kernel), hts (.selects RX2 yX2_isBound yX2_isBound) (by decide +kernel)⟩ (pv_R hP hK hN 2 2 rfl rfl _) rfl rfl hl.1 rfl (lv_room (Nat.le_of_ble_eq_true rfl)) dX4_fact_55 ⟨Nat.le_of_ble_eq_true rfl, Nat.le_of_ble_eq_true rfl⟩)) (fun r8 h => ?_)
        refine lv_if_ne (tgt := 63) hx hb dX4_fact_58 (by decide) (fun c9 => ?_) (fun c9 => ?_)
        · have h := h.1 c9
          refine lv_iload_n hx hb dX4_fact_63 rfl (lv_at hl 3 rfl) ?_
          refine lv_iconst (v := (4 : Int32)) hx hb dX4_fact_64 (by decide) ?_
          refine lv_icmp_ne (tgt := 86) hx hb dX4_fact_65 (by decide) (fun c10 => ?_) (fun c10 => ?_)
          · have h := h.1 c10
            refine lv_aload_n hx hb dX4_fact_86 rfl (lv_at hl 1 rfl) ?_
            refine va_get (D := (dC, dI)) (ci := 4) (v := .ref (ad 2)) (C := RX4) (T := TX4) (N := 5) hx hb hts iX4_fact_X4 hown hK hP 0 rfl rfl 1 (by decide) (hts (.fieldLink RX4 19 "CarrierBooks" "register" "LCarrierBooks$Register;") (by decide +kernel)) (fun _ h9 => h9) rfl dX4_fact_87 ?_
            refine lv_iload_n hx hb dX4_fact_90 rfl (lv_at hl 2 rfl) ?_
            refine lv_iload_n hx hb dX4_fact_91 rfl (lv_at hl 3 rfl) ?_
            refine lv_iload_n hx hb dX4_fact_92 rfl (lv_at hl 4 rfl) ?_
            refine lv_iload hx hb dX4_fact_93 (lv_at hl 0 rfl) ?_
            refine vp_callSi (cr_of (va_runVN (As := [.int x1, .int x2, .int x3, .int r5]) (rest := []) ⟨hx, hb, hml, hown, hts⟩ (cTX2_valueOn l dC dI cI ad I F x1 x2 x3 r5 _ h) ⟨va_cnB 4 hts gX4_fact_X2_valueOn_n163 rfl rfl rfl (hN (.methodLinkNest RX4 163 yX2_valueOn RX4) (by decide +kernel)) (hts (.initialized RX2) (by decide +kernel)) (by decide +kernel) ⟨Nat.le_of_ble_eq_true rfl, Nat.le_of_ble_eq_true rfl⟩, hts (.instanceMethod yX2_valueOn) (by decide +kernel), hts (.selects RX2 yX2_valueOn yX2_valueOn) (by decide +kernel)⟩ (pv_R hP hK hN 2 2 rfl rfl _) rfl rfl hl.1 rfl (lv_room (Nat.le_of_ble_eq_true rfl)) dX4_fact_95 ⟨Nat.le_of_ble_eq_true rfl, Nat.le_of_ble_eq_true rfl⟩)) (fun r11 h => ?_)
            refine W.widen (k := 1) (n := 6) (Nat.le_of_ble_eq_true rfl) (Nat.le_of_ble_eq_true rfl) ?_
            exact vx_ret (W.iret (v := r11) hx hb hr (fun t ht hW => ⟨⟨r11, (I, F), rfl, h, by show va_P _ _ _ t.heap; rw [ht]; exact hP⟩, hS.F ht⟩) hS.2.2 dX4_fact_98)
          · have h := h.2 c10
            refine lv_aload_n hx hb dX4_fact_68 rfl (lv_at hl 1 rfl) ?_
            refine va_get (D := (dC, dI)) (ci := 4) (v := .ref (ad 2)) (C := RX4) (T := TX4) (N := 5) hx hb hts iX4_fact_X4 hown hK hP 0 rfl rfl 1 (by decide) (hts (.fieldLink RX4 19 "CarrierBooks" "register" "LCarrierBooks$Register;") (by decide +kernel)) (fun _ h9 => h9) rfl dX4_fact_69 ?_
            refine lv_aload_n hx hb dX4_fact_72 rfl (lv_at hl 1 rfl) ?_
            refine va_get (D := (dC, dI)) (ci := 4) (v := .ref (ad 1)) (C := RX4) (T := TX4) (N := 5) hx hb hts iX4_fact_X4 hown hK hP 0 rfl rfl 0 (by decide) (hts (.fieldLink RX4 10 "CarrierBooks" "plan" "LCarrierBooks$Plan;") (by decide +kernel)) (fun _ h9 => h9) rfl dX4_fact_73 ?_
            refine lv_iload_n hx hb dX4_fact_76 rfl (lv_at hl 2 rfl) ?_
            refine lv_iload_n hx hb dX4_fact_77 rfl (lv_at hl 4 rfl) ?_
            refine lv_iload hx hb dX4_fact_78 (lv_at hl 0 rfl) ?_
            refine vp_callSi (cr_of (va_runVN (As := [.ref (ad 1), .int x1, .int x3, .int r5]) (rest := []) ⟨hx, hb, hml, hown, hts⟩ (cTX2_chargeOn l dC dI cI ad I F x1 x3 r5 _ h) ⟨va_cnB 4 hts gX4_fact_X2_chargeOn_n159 rfl rfl rfl (hN (.methodLinkNest RX4 159 yX2_chargeOn RX4) (by decide +kernel)) (hts (.initialized RX2) (by decide +kernel)) (by decide +kernel) ⟨Nat.le_of_ble_eq_true rfl, Nat.le_of_ble_eq_true rfl⟩, hts (.instanceMethod yX2_chargeOn) (by decide +kernel), hts (.selects RX2 yX2_chargeOn yX2_chargeOn) (by decide +kernel)⟩ (pv_R hP hK hN 2 2 rfl rfl _) rfl rfl hl.1 rfl (lv_room (Nat.le_of_ble_eq_true rfl)) dX4_fact_80 ⟨Nat.le_of_ble_eq_true rfl, Nat.le_of_ble_eq_true rfl⟩)) (fun r12 h => ?_)
            refine lv_goto (tgt := 98) hx hb dX4_fact_83 (by decide) ?_
            refine W.widen (k := 1) (n := 6) (Nat.le_of_ble_eq_true rfl) (Nat.le_of_ble_eq_true rfl) ?_
            exact vx_ret (W.iret (v := r12) hx hb hr (fun t ht hW => ⟨⟨r12, (I, F), rfl, h, by show va_P _ _ _ t.heap; rw [ht]; exact hP⟩, hS.F ht⟩) hS.2.2 dX4_fact_98)
        · have h := h.2 c9
          refine lv_iconst (v := (-1 : Int32)) hx hb dX4_fact_61 (by decide) ?_
          refine W.widen (k := 1) (n := 6) (Nat.le_of_ble_eq_true rfl) (Nat.le_of_ble_eq_true rfl) ?_
          exact vx_ret (W.iret (v := (-1 : Int32)) hx hb hr (fun t ht hW => ⟨⟨(-1 : Int32), (I, F), rfl, h, by show va_P _ _ _ t.heap; rw [ht]; exact hP⟩, hS.F ht⟩) hS.2.2 dX4_fact_62)
    · have h := h.2 c4
      exact throw_w (wf := wC cI ad) (own := RX4) (names := exNames) (ik := 112) (ic := 114) (cls := "java/util/NoSuchElementException") hx hb hst hown (by decide +kernel) (by decide +kernel) hts (by decide +kernel) (by decide +kernel) tX4_fact_114 hT twm_114 twg_114 hZ hP hS (hl.1.trans hml.symm) dX4_fact_17 dX4_fact_20 dX4_fact_21 dX4_fact_24 hout (Nat.le_of_ble_eq_true rfl) (Nat.le_of_ble_eq_true rfl) (Nat.le_of_ble_eq_true rfl) (Nat.le_of_ble_eq_true rfl) hlocks h

theorem iX4_written_X4 : ∀ w ∈ wsX40, w ∈ wsX4_written := by decide +kernel
theorem tX4_written_114 : ∀ w ∈ (vx_at0 RX4 114 "java/util/NoSuchElementException" exNames).filter goodWord, w ∈ wsX4_written := by decide +kernel
def wX4_written (I : Nat → Int32) (F : Nat → Nat → Int32) (x1 x2 : Int32) (post : Int32 → (Nat → Int32) → (Nat → Nat → Int32) → Prop) (px : String → (Nat → Int32) → (Nat → Nat → Int32) → Prop) : Prop := wX4_isPolicy I F x1 (fun r1 => ((¬ r1 = (0 : Int32) → wX2_countedAsOf I F x2 (fun r3 => wX2_premiumBefore I F x1 (1000 : Int32) r3 (fun r4 => post r4 I F))) ∧ (r1 = (0 : Int32) → px "java/util/NoSuchElementException" I F)))
set_option maxHeartbeats 4000000 in
set_option maxRecDepth 100000 in
theorem cTX4_written (l : Launch) (hst : l.stackTraces = false) (dC : Nat → ClassId) (dI : Nat → Nat → Nat) (cI : ClassId) (ad : Nat → Nat) (I : Nat → Int32) (F : Nat → Nat → Int32) (sz : Nat) (x1 x2 : Int32) (post : Int32 → (Nat → Int32) → (Nat → Nat → Int32) → Prop) (px : String → (Nat → Int32) → (Nat → Nat → Int32) → Prop) (h : wX4_written I F x1 x2 post px) : vx_Met l yX4_written wsX4_written { frames := 6, cells := 1, slots := 6, locals := 104 } (va_Pc [.ref (ad 0), .int x1, .int x2] (PWt dC dI cI (wC cI ad) I F sz)) (QWi dC dI (wC cI ad) post (va_A (wC cI ad I F) sz)) (XW dC dI (wC cI ad) px (va_A (wC cI ad I F) sz)) 1 6 (va_A (wC cI ad I F) sz) := by
  refine vx_ofW (cc := cX4_written) (maxL := 3) (ret := (some .int)) (by decide) rfl ?_
  intro p e s m args below meth c s₁ B hml hout hv
  obtain ⟨rfl, ⟨hsz, ⟨hP, hK, hN⟩, hD0⟩, hT, hZ⟩ := hv
  subst hsz
  have hD := wD_any (wC_fix cI ad) (hD0.self (sz := s.heap.size))
  generalize hAe : va_A (wC cI ad I F) s.heap.size = A at hD hZ ⊢
  have hA : ∀ q : Nat, s.heap.size ≤ q → A q := fun q h => by rw [← hAe]; exact Or.inr h
  clear hAe hD0
  have hx := B.exec
  have hb := B.bytes
  have hr := B.returns
  have hts := atoms_spec (ws := wsX4_written) B.pre
  have hown : s.vm.findClass RX4 = some m.cls := findClass_of_methodNamed B.named
  have hlocks := B.notSynchronized
  have C : Cx p s m _ meth c cX4_written 3 (some .int) RX4 wsX4_written := ⟨hx, hb, hml, hown, hts, hr, hlocks⟩
  have hS : va_S A s.heap s.heap [] := va_S.rf
  have hl := lv_entry ([.ref (ad 0), .int x1, .int x2]) (n := 3) (Nat.le_of_ble_eq_true rfl)
  rw [lg_entry_eq]
  generalize (lg_sl ([.ref (ad 0), .int x1, .int x2]) ++ List.replicate (3 - (lg_sl ([.ref (ad 0), .int x1, .int x2])).length) Slot.unset).toArray = ls at hl ⊢
  have hl : lv_has ls 3 [(0, .ref (ad 0)), (1, .int x1), (2, .int x2)] := hl
  unfold wX4_written at h
  refine lv_aload_n hx hb dX4_written_0 rfl (lv_at hl 0 rfl) ?_
  refine lv_iload_n hx hb dX4_written_1 rfl (lv_at hl 1 rfl) ?_
  refine vp_callSi (cr_of (va_runV (As := [.int x1]) (rest := []) ⟨hx, hb, hml, hown, hts⟩ (cTX4_isPolicy l dC dI cI ad I F x1 _ h) (cwV 1 hts gX4_written_X4_isPolicy rfl rfl rfl (by decide +kernel) ⟨Nat.le_of_ble_eq_true rfl, Nat.le_of_ble_eq_true rfl⟩) (pv_R hP hK hN 0 4 rfl rfl _) rfl rfl hl.1 rfl (lv_room (Nat.le_of_ble_eq_true rfl)) dX4_written_2 ⟨Nat.le_of_ble_eq_true rfl, Nat.le_of_ble_eq_true rfl⟩)) (fun r1 h => ?_)
  refine lv_if_ne (tgt := 16) hx hb dX4_written_5 (by decide) (fun c2 => ?_) (fun c2 => ?_)
  · have h := h.1 c2
    refine lv_aload_n hx hb dX4_written_16 rfl (lv_at hl 0 rfl) ?_
    refine va_get (D := (dC, dI)) (ci := 4) (v := .ref (ad 2)) (C := RX4) (T := TX4) (N := 5) hx hb hts iX4_written_X4 hown hK hP 0 rfl rfl 1 (by decide) (hts (.fieldLink RX4 19 "CarrierBooks" "register" "LCarrierBooks$Register;") (by decide +kernel)) (fun _ h9 => h9) rfl dX4_written_17 ?_
    refine lv_aload_n hx hb dX4_written_20 rfl (lv_at hl 0 rfl) ?_
    refine va_get (D := (dC, dI)) (ci := 4) (v := .ref (ad 1)) (C := RX4) (T := TX4) (N := 5) hx hb hts iX4_written_X4 hown hK hP 0 rfl rfl 0 (by decide) (hts (.fieldLink RX4 10 "CarrierBooks" "plan" "LCarrierBooks$Plan;") (by decide +kernel)) (fun _ h9 => h9) rfl dX4_written_21 ?_
    refine lv_iload_n hx hb dX4_written_24 rfl (lv_at hl 1 rfl) ?_
    refine lv_sipush (v := (1000 : Int32)) hx hb dX4_written_25 (by decide) ?_
    refine lv_aload_n hx hb dX4_written_28 rfl (lv_at hl 0 rfl) ?_
    refine va_get (D := (dC, dI)) (ci := 4) (v := .ref (ad 2)) (C := RX4) (T := TX4) (N := 5) hx hb hts iX4_written_X4 hown hK hP 0 rfl rfl 1 (by decide) (hts (.fieldLink RX4 19 "CarrierBooks" "register" "LCarrierBooks$Register;") (by decide +kernel)) (fun _ h9 => h9) rfl dX4_written_29 ?_
    refine lv_iload_n hx hb dX4_written_32 rfl (lv_at hl 2 rfl) ?_
    refine vp_callSi (cr_of (va_runVN (As := [.int x2]) (rest := [.int (1000 : Int32), .int x1, .ref (ad 1), .ref (ad 2)]) ⟨hx, hb, hml, hown, hts⟩ (cTX2_countedAsOf l dC dI cI ad I F x2 _ h) ⟨va_cnB 1 hts gX4_written_X2_countedAsOf_n153 rfl rfl rfl (hN (.methodLinkNest RX4 153 yX2_countedAsOf RX4) (by decide +kernel)) (hts (.initialized RX2) (by decide +kernel)) (by decide +kernel) ⟨Nat.le_of_ble_eq_true rfl, Nat.le_of_ble_eq_true rfl⟩, hts (.instanceMethod yX2_countedAsOf) (by decide +kernel), hts (.selects RX2 yX2_countedAsOf yX2_countedAsOf) (by decide +kernel)⟩ (pv_R hP hK hN 2 2 rfl rfl _) rfl rfl hl.1 rfl (lv_room (Nat.le_of_ble_eq_true rfl)) dX4_written_33 ⟨Nat.le_of_ble_eq_true rfl, Nat.le_of_ble_eq_true rfl⟩)) (fun r3 h => ?_)
    refine vp_callSi (cr_of (va_runVN (As := [.ref (ad 1), .int x1, .int (1000 : Int32), .int r3]) (rest := []) ⟨hx, hb, hml, hown, hts⟩ (cTX2_premiumBefore l dC dI cI ad I F x1 (1000 : Int32) r3 _ h) ⟨va_cnB 4 hts gX4_written_X2_premiumBefore_n167 rfl rfl rfl (hN (.methodLinkNest RX4 167 yX2_premiumBefore RX4) (by decide +kernel)) (hts (.initialized RX2) (by decide +kernel)) (by decide +kernel) ⟨Nat.le_of_ble_eq_true rfl, Nat.le_of_ble_eq_true rfl⟩, hts (.instanceMethod yX2_premiumBefore) (by decide +kernel), hts (.selects RX2 yX2_premiumBefore yX2_premiumBefore) (by decide +kernel)⟩ (pv_R hP hK hN 2 2 rfl rfl _) rfl rfl hl.1 rfl (lv_room (Nat.le_of_ble_eq_true rfl)) dX4_written_36 ⟨Nat.le_of_ble_eq_true rfl, Nat.le_of_ble_eq_true rfl⟩)) (fun r4 h => ?_)
    refine W.widen (k := 1) (n := 6) (Nat.le_of_ble_eq_true rfl) (Nat.le_of_ble_eq_true rfl) ?_
    exact vx_ret (W.iret (v := r4) hx hb hr (fun t ht hW => ⟨⟨r4, (I, F), rfl, h, by show va_P _ _ _ t.heap; rw [ht]; exact hP⟩, hS.F ht⟩) hS.2.2 dX4_written_39)
  · have h := h.2 c2
    exact throw_w (wf := wC cI ad) (own := RX4) (names := exNames) (ik := 112) (ic := 114) (cls := "java/util/NoSuchElementException") hx hb hst hown (by decide +kernel) (by decide +kernel) hts (by decide +kernel) (by decide +kernel) tX4_written_114 hT twm_114 twg_114 hZ hP hS (hl.1.trans hml.symm) dX4_written_8 dX4_written_11 dX4_written_12 dX4_written_15 hout (Nat.le_of_ble_eq_true rfl) (Nat.le_of_ble_eq_true rfl) (Nat.le_of_ble_eq_true rfl) (Nat.le_of_ble_eq_true rfl) hlocks h

theorem iX4_earned_X4 : ∀ w ∈ wsX40, w ∈ wsX4_earned := by decide +kernel
theorem tX4_earned_114 : ∀ w ∈ (vx_at0 RX4 114 "java/util/NoSuchElementException" exNames).filter goodWord, w ∈ wsX4_earned := by decide +kernel
def wX4_earned (I : Nat → Int32) (F : Nat → Nat → Int32) (x1 x2 x3 : Int32) (post : Int32 → (Nat → Int32) → (Nat → Nat → Int32) → Prop) (px : String → (Nat → Int32) → (Nat → Nat → Int32) → Prop) : Prop := wX4_isPolicy I F x1 (fun r1 => ((¬ r1 = (0 : Int32) → wX2_countedAsOf I F x3 (fun r3 => wX2_premiumBefore I F x1 x2 r3 (fun r4 => post r4 I F))) ∧ (r1 = (0 : Int32) → px "java/util/NoSuchElementException" I F)))
set_option maxHeartbeats 4000000 in
set_option maxRecDepth 100000 in
theorem cTX4_earned (l : Launch) (hst : l.stackTraces = false) (dC : Nat → ClassId) (dI : Nat → Nat → Nat) (cI : ClassId) (ad : Nat → Nat) (I : Nat → Int32) (F : Nat → Nat → Int32) (sz : Nat) (x1 x2 x3 : Int32) (post : Int32 → (Nat → Int32) → (Nat → Nat → Int32) → Prop) (px : String → (Nat → Int32) → (Nat → Nat → Int32) → Prop) (h : wX4_earned I F x1 x2 x3 post px) : vx_Met l yX4_earned wsX4_earned { frames := 6, cells := 1, slots := 6, locals := 104 } (va_Pc [.ref (ad 0), .int x1, .int x2, .int x3] (PWt dC dI cI (wC cI ad) I F sz)) (QWi dC dI (wC cI ad) post (va_A (wC cI ad I F) sz)) (XW dC dI (wC cI ad) px (va_A (wC cI ad I F) sz)) 1 6 (va_A (wC cI ad I F) sz) := by
  refine vx_ofW (cc := cX4_earned) (maxL := 4) (ret := (some .int)) (by decide) rfl ?_
  intro p e s m args below meth c s₁ B hml hout hv
  obtain ⟨rfl, ⟨hsz, ⟨hP, hK, hN⟩, hD0⟩, hT, hZ⟩ := hv
  subst hsz
  have hD := wD_any (wC_fix cI ad) (hD0.self (sz := s.heap.size))
  generalize hAe : va_A (wC cI ad I F) s.heap.size = A at hD hZ ⊢
  have hA : ∀ q : Nat, s.heap.size ≤ q → A q := fun q h => by rw [← hAe]; exact Or.inr h
  clear hAe hD0
  have hx := B.exec
  have hb := B.bytes
  have hr := B.returns
  have hts := atoms_spec (ws := wsX4_earned) B.pre
  have hown : s.vm.findClass RX4 = some m.cls := findClass_of_methodNamed B.named
  have hlocks := B.notSynchronized
  have C : Cx p s m _ meth c cX4_earned 4 (some .int) RX4 wsX4_earned := ⟨hx, hb, hml, hown, hts, hr, hlocks⟩
  have hS : va_S A s.heap s.heap [] := va_S.rf
  have hl := lv_entry ([.ref (ad 0), .int x1, .int x2, .int x3]) (n := 4) (Nat.le_of_ble_eq_true rfl)
  rw [lg_entry_eq]
  generalize (lg_sl ([.ref (ad 0), .int x1, .int x2, .int x3]) ++ List.replicate (4 - (lg_sl ([.ref (ad 0), .int x1, .int x2, .int x3])).length) Slot.unset).toArray = ls at hl ⊢
  have hl : lv_has ls 4 [(0, .ref (ad 0)), (1, .int x1), (2, .int x2), (3, .int x3)] := hl
  unfold wX4_earned at h
  refine lv_aload_n hx hb dX4_earned_0 rfl (lv_at hl 0 rfl) ?_
  refine lv_iload_n hx hb dX4_earned_1 rfl (lv_at hl 1 rfl) ?_
  refine vp_callSi (cr_of (va_runV (As := [.int x1]) (rest := []) ⟨hx, hb, hml, hown, hts⟩ (cTX4_isPolicy l dC dI cI ad I F x1 _ h) (cwV 1 hts gX4_earned_X4_isPolicy rfl rfl rfl (by decide +kernel) ⟨Nat.le_of_ble_eq_true rfl, Nat.le_of_ble_eq_true rfl⟩) (pv_R hP hK hN 0 4 rfl rfl _) rfl rfl hl.1 rfl (lv_room (Nat.le_of_ble_eq_true rfl)) dX4_earned_2 ⟨Nat.le_of_ble_eq_true rfl, Nat.le_of_ble_eq_true rfl⟩)) (fun r1 h => ?_)
  refine lv_if_ne (tgt := 16) hx hb dX4_earned_5 (by decide) (fun c2 => ?_) (fun c2 => ?_)
  · have h := h.1 c2
    refine lv_aload_n hx hb dX4_earned_16 rfl (lv_at hl 0 rfl) ?_
    refine va_get (D := (dC, dI)) (ci := 4) (v := .ref (ad 2)) (C := RX4) (T := TX4) (N := 5) hx hb hts iX4_earned_X4 hown hK hP 0 rfl rfl 1 (by decide) (hts (.fieldLink RX4 19 "CarrierBooks" "register" "LCarrierBooks$Register;") (by decide +kernel)) (fun _ h9 => h9) rfl dX4_earned_17 ?_
    refine lv_aload_n hx hb dX4_earned_20 rfl (lv_at hl 0 rfl) ?_
    refine va_get (D := (dC, dI)) (ci := 4) (v := .ref (ad 1)) (C := RX4) (T := TX4) (N := 5) hx hb hts iX4_earned_X4 hown hK hP 0 rfl rfl 0 (by decide) (hts (.fieldLink RX4 10 "CarrierBooks" "plan" "LCarrierBooks$Plan;") (by decide +kernel)) (fun _ h9 => h9) rfl dX4_earned_21 ?_
    refine lv_iload_n hx hb dX4_earned_24 rfl (lv_at hl 1 rfl) ?_
    refine lv_iload_n hx hb dX4_earned_25 rfl (lv_at hl 2 rfl) ?_
    refine lv_aload_n hx hb dX4_earned_26 rfl (lv_at hl 0 rfl) ?_
    refine va_get (D := (dC, dI)) (ci := 4) (v := .ref (ad 2)) (C := RX4) (T := TX4) (N := 5) hx hb hts iX4_earned_X4 hown hK hP 0 rfl rfl 1 (by decide) (hts (.fieldLink RX4 19 "CarrierBooks" "register" "LCarrierBooks$Register;") (by decide +kernel)) (fun _ h9 => h9) rfl dX4_earned_27 ?_
    refine lv_iload_n hx hb dX4_earned_30 rfl (lv_at hl 3 rfl) ?_
    refine vp_callSi (cr_of (va_runVN (As := [.int x3]) (rest := [.int x2, .int x1, .ref (ad 1), .ref (ad 2)]) ⟨hx, hb, hml, hown, hts⟩ (cTX2_countedAsOf l dC dI cI ad I F x3 _ h) ⟨va_cnB 1 hts gX4_earned_X2_countedAsOf_n153 rfl rfl rfl (hN (.methodLinkNest RX4 153 yX2_countedAsOf RX4) (by decide +kernel)) (hts (.initialized RX2) (by decide +kernel)) (by decide +kernel) ⟨Nat.le_of_ble_eq_true rfl, Nat.le_of_ble_eq_true rfl⟩, hts (.instanceMethod yX2_countedAsOf) (by decide +kernel), hts (.selects RX2 yX2_countedAsOf yX2_countedAsOf) (by decide +kernel)⟩ (pv_R hP hK hN 2 2 rfl rfl _) rfl rfl hl.1 rfl (lv_room (Nat.le_of_ble_eq_true rfl)) dX4_earned_31 ⟨Nat.le_of_ble_eq_true rfl, Nat.le_of_ble_eq_true rfl⟩)) (fun r3 h => ?_)
    refine vp_callSi (cr_of (va_runVN (As := [.ref (ad 1), .int x1, .int x2, .int r3]) (rest := []) ⟨hx, hb, hml, hown, hts⟩ (cTX2_premiumBefore l dC dI cI ad I F x1 x2 r3 _ h) ⟨va_cnB 4 hts gX4_earned_X2_premiumBefore_n167 rfl rfl rfl (hN (.methodLinkNest RX4 167 yX2_premiumBefore RX4) (by decide +kernel)) (hts (.initialized RX2) (by decide +kernel)) (by decide +kernel) ⟨Nat.le_of_ble_eq_true rfl, Nat.le_of_ble_eq_true rfl⟩, hts (.instanceMethod yX2_premiumBefore) (by decide +kernel), hts (.selects RX2 yX2_premiumBefore yX2_premiumBefore) (by decide +kernel)⟩ (pv_R hP hK hN 2 2 rfl rfl _) rfl rfl hl.1 rfl (lv_room (Nat.le_of_ble_eq_true rfl)) dX4_earned_34 ⟨Nat.le_of_ble_eq_true rfl, Nat.le_of_ble_eq_true rfl⟩)) (fun r4 h => ?_)
    refine W.widen (k := 1) (n := 6) (Nat.le_of_ble_eq_true rfl) (Nat.le_of_ble_eq_true rfl) ?_
    exact vx_ret (W.iret (v := r4) hx hb hr (fun t ht hW => ⟨⟨r4, (I, F), rfl, h, by show va_P _ _ _ t.heap; rw [ht]; exact hP⟩, hS.F ht⟩) hS.2.2 dX4_earned_37)
  · have h := h.2 c2
    exact throw_w (wf := wC cI ad) (own := RX4) (names := exNames) (ik := 112) (ic := 114) (cls := "java/util/NoSuchElementException") hx hb hst hown (by decide +kernel) (by decide +kernel) hts (by decide +kernel) (by decide +kernel) tX4_earned_114 hT twm_114 twg_114 hZ hP hS (hl.1.trans hml.symm) dX4_earned_8 dX4_earned_11 dX4_earned_12 dX4_earned_15 hout (Nat.le_of_ble_eq_true rfl) (Nat.le_of_ble_eq_true rfl) (Nat.le_of_ble_eq_true rfl) (Nat.le_of_ble_eq_true rfl) hlocks h

theorem iX4_settled_X3 : ∀ w ∈ wsX30, w ∈ wsX4_settled := by decide +kernel
theorem iX4_settled_X4 : ∀ w ∈ wsX40, w ∈ wsX4_settled := by decide +kernel
theorem tX4_settled_114 : ∀ w ∈ (vx_at0 RX4 114 "java/util/NoSuchElementException" exNames).filter goodWord, w ∈ wsX4_settled := by decide +kernel
def wX4_settled (I : Nat → Int32) (F : Nat → Nat → Int32) (x1 x2 : Int32) (post : Int32 → (Nat → Int32) → (Nat → Nat → Int32) → Prop) (px : String → (Nat → Int32) → (Nat → Nat → Int32) → Prop) : Prop := wX4_isIndex x1 (I 13) (fun r1 => ((r1 = (0 : Int32) → px "java/util/NoSuchElementException" I F) ∧ (¬ r1 = (0 : Int32) → wX4_isIndex x2 (6 : Int32) (fun r3 => ((¬ r3 = (0 : Int32) → vp_in ((x1 * (6 : Int32)) + x2) 120 ∧ post (F 19 (Int32.toNatClampNeg ((x1 * (6 : Int32)) + x2))) I F) ∧ (r3 = (0 : Int32) → px "java/util/NoSuchElementException" I F))))))
set_option maxHeartbeats 4000000 in
set_option maxRecDepth 100000 in
theorem cTX4_settled (l : Launch) (hst : l.stackTraces = false) (dC : Nat → ClassId) (dI : Nat → Nat → Nat) (cI : ClassId) (ad : Nat → Nat) (I : Nat → Int32) (F : Nat → Nat → Int32) (sz : Nat) (x1 x2 : Int32) (post : Int32 → (Nat → Int32) → (Nat → Nat → Int32) → Prop) (px : String → (Nat → Int32) → (Nat → Nat → Int32) → Prop) (h : wX4_settled I F x1 x2 post px) : vx_Met l yX4_settled wsX4_settled { frames := 6, cells := 1, slots := 6, locals := 89 } (va_Pc [.ref (ad 0), .int x1, .int x2] (PWt dC dI cI (wC cI ad) I F sz)) (QWi dC dI (wC cI ad) post (va_A (wC cI ad I F) sz)) (XW dC dI (wC cI ad) px (va_A (wC cI ad I F) sz)) 1 6 (va_A (wC cI ad I F) sz) := by
  refine vx_ofW (cc := cX4_settled) (maxL := 3) (ret := (some .int)) (by decide) rfl ?_
  intro p e s m args below meth c s₁ B hml hout hv
  obtain ⟨rfl, ⟨hsz, ⟨hP, hK, hN⟩, hD0⟩, hT, hZ⟩ := hv
  subst hsz
  have hD := wD_any (wC_fix cI ad) (hD0.self (sz := s.heap.size))
  generalize hAe : va_A (wC cI ad I F) s.heap.size = A at hD hZ ⊢
  have hA : ∀ q : Nat, s.heap.size ≤ q → A q := fun q h => by rw [← hAe]; exact Or.inr h
  clear hAe hD0
  have hx := B.exec
  have hb := B.bytes
  have hr := B.returns
  have hts := atoms_spec (ws := wsX4_settled) B.pre
  have hown : s.vm.findClass RX4 = some m.cls := findClass_of_methodNamed B.named
  have hlocks := B.notSynchronized
  have C : Cx p s m _ meth c cX4_settled 3 (some .int) RX4 wsX4_settled := ⟨hx, hb, hml, hown, hts, hr, hlocks⟩
  have hS : va_S A s.heap s.heap [] := va_S.rf
  have hl := lv_entry ([.ref (ad 0), .int x1, .int x2]) (n := 3) (Nat.le_of_ble_eq_true rfl)
  rw [lg_entry_eq]
  generalize (lg_sl ([.ref (ad 0), .int x1, .int x2]) ++ List.replicate (3 - (lg_sl ([.ref (ad 0), .int x1, .int x2])).length) Slot.unset).toArray = ls at hl ⊢
  have hl : lv_has ls 3 [(0, .ref (ad 0)), (1, .int x1), (2, .int x2)] := hl
  unfold wX4_settled at h
  refine lv_iload_n hx hb dX4_settled_0 rfl (lv_at hl 1 rfl) ?_
  refine lv_aload_n hx hb dX4_settled_1 rfl (lv_at hl 0 rfl) ?_
  refine va_get (D := (dC, dI)) (ci := 4) (v := .ref (ad 3)) (C := RX4) (T := TX4) (N := 5) hx hb hts iX4_settled_X4 hown hK hP 0 rfl rfl 2 (by decide) (hts (.fieldLink RX4 26 "CarrierBooks" "settlements" "LCarrierBooks$Settlements;") (by decide +kernel)) (fun _ h9 => h9) rfl dX4_settled_2 ?_
  refine va_getN (host := RX4) (D := (dC, dI)) (ci := 3) (v := .int (I 13)) (C := RX3) (T := TX3) (N := 12) hx hb hts iX4_settled_X3 hown hK hP 3 rfl rfl 11 (by decide) (va_Nw.use rfl (hN (.fieldLinkNest RX4 75 "CarrierBooks$Settlements" "size" "I" RX4) (by decide +kernel))) (fun _ h9 => h9) rfl dX4_settled_5 ?_
  refine vp_callSi (cr_of (va_runS (As := [.int x1, .int (I 13)]) (rest := []) ⟨hx, hb, hml, hown, hts⟩ (cTX4_isIndex l x1 (I 13) _ h) (va_cwS 2 hts gX4_settled_X4_isIndex rfl rfl rfl (by decide +kernel) ⟨Nat.le_of_ble_eq_true rfl, Nat.le_of_ble_eq_true rfl⟩) (pv_S _) rfl rfl hl.1 rfl (lv_room (Nat.le_of_ble_eq_true rfl)) dX4_settled_8 ⟨Nat.le_of_ble_eq_true rfl, Nat.le_of_ble_eq_true rfl⟩)) (fun r1 h => ?_)
  refine lv_if_eq (tgt := 23) hx hb dX4_settled_11 (by decide) (fun c2 => ?_) (fun c2 => ?_)
  · have h := h.1 c2
    exact throw_w (wf := wC cI ad) (own := RX4) (names := exNames) (ik := 112) (ic := 114) (cls := "java/util/NoSuchElementException") hx hb hst hown (by decide +kernel) (by decide +kernel) hts (by decide +kernel) (by decide +kernel) tX4_settled_114 hT twm_114 twg_114 hZ hP hS (hl.1.trans hml.symm) dX4_settled_23 dX4_settled_26 dX4_settled_27 dX4_settled_30 hout (Nat.le_of_ble_eq_true rfl) (Nat.le_of_ble_eq_true rfl) (Nat.le_of_ble_eq_true rfl) (Nat.le_of_ble_eq_true rfl) hlocks h
  · have h := h.2 c2
    refine lv_iload_n hx hb dX4_settled_14 rfl (lv_at hl 2 rfl) ?_
    refine lv_bipush (v := (6 : Int32)) hx hb dX4_settled_15 (by decide) ?_
    refine vp_callSi (cr_of (va_runS (As := [.int x2, .int (6 : Int32)]) (rest := []) ⟨hx, hb, hml, hown, hts⟩ (cTX4_isIndex l x2 (6 : Int32) _ h) (va_cwS 2 hts gX4_settled_X4_isIndex rfl rfl rfl (by decide +kernel) ⟨Nat.le_of_ble_eq_true rfl, Nat.le_of_ble_eq_true rfl⟩) (pv_S _) rfl rfl hl.1 rfl (lv_room (Nat.le_of_ble_eq_true rfl)) dX4_settled_17 ⟨Nat.le_of_ble_eq_true rfl, Nat.le_of_ble_eq_true rfl⟩)) (fun r3 h => ?_)
    refine lv_if_ne (tgt := 31) hx hb dX4_settled_20 (by decide) (fun c4 => ?_) (fun c4 => ?_)
    · have h := h.1 c4
      refine lv_aload_n hx hb dX4_settled_31 rfl (lv_at hl 0 rfl) ?_
      refine va_get (D := (dC, dI)) (ci := 4) (v := .ref (ad 3)) (C := RX4) (T := TX4) (N := 5) hx hb hts iX4_settled_X4 hown hK hP 0 rfl rfl 2 (by decide) (hts (.fieldLink RX4 26 "CarrierBooks" "settlements" "LCarrierBooks$Settlements;") (by decide +kernel)) (fun _ h9 => h9) rfl dX4_settled_32 ?_
      refine va_getN (host := RX4) (D := (dC, dI)) (ci := 3) (v := .ref (ad 19)) (C := RX3) (T := TX3) (N := 12) hx hb hts iX4_settled_X3 hown hK hP 3 rfl rfl 10 (by decide) (va_Nw.use rfl (hN (.fieldLinkNest RX4 173 "CarrierBooks$Settlements" "figures" "[I" RX4) (by decide +kernel))) (fun _ h9 => h9) rfl dX4_settled_35 ?_
      refine lv_iload_n hx hb dX4_settled_38 rfl (lv_at hl 1 rfl) ?_
      refine lv_bipush (v := (6 : Int32)) hx hb dX4_settled_39 (by decide) ?_
      refine lv_imul hx hb dX4_settled_41 ?_
      refine lv_iload_n hx hb dX4_settled_42 rfl (lv_at hl 2 rfl) ?_
      refine lv_iadd hx hb dX4_settled_43 ?_
      obtain ⟨hin5, h⟩ := h
      refine va_iald hx hb hK hP 19 0 rfl rfl hin5 dX4_settled_44 ?_
      refine W.widen (k := 1) (n := 6) (Nat.le_of_ble_eq_true rfl) (Nat.le_of_ble_eq_true rfl) ?_
      exact vx_ret (W.iret (v := (F 19 (Int32.toNatClampNeg ((x1 * (6 : Int32)) + x2)))) hx hb hr (fun t ht hW => ⟨⟨(F 19 (Int32.toNatClampNeg ((x1 * (6 : Int32)) + x2))), (I, F), rfl, h, by show va_P _ _ _ t.heap; rw [ht]; exact hP⟩, hS.F ht⟩) hS.2.2 dX4_settled_45)
    · have h := h.2 c4
      exact throw_w (wf := wC cI ad) (own := RX4) (names := exNames) (ik := 112) (ic := 114) (cls := "java/util/NoSuchElementException") hx hb hst hown (by decide +kernel) (by decide +kernel) hts (by decide +kernel) (by decide +kernel) tX4_settled_114 hT twm_114 twg_114 hZ hP hS (hl.1.trans hml.symm) dX4_settled_23 dX4_settled_26 dX4_settled_27 dX4_settled_30 hout (Nat.le_of_ble_eq_true rfl) (Nat.le_of_ble_eq_true rfl) (Nat.le_of_ble_eq_true rfl) (Nat.le_of_ble_eq_true rfl) hlocks h

theorem iX4_posting_X0 : ∀ w ∈ wsX00, w ∈ wsX4_posting := by decide +kernel
theorem iX4_posting_X4 : ∀ w ∈ wsX40, w ∈ wsX4_posting := by decide +kernel
theorem tX4_posting_114 : ∀ w ∈ (vx_at0 RX4 114 "java/util/NoSuchElementException" exNames).filter goodWord, w ∈ wsX4_posting := by decide +kernel
def wX4_posting (I : Nat → Int32) (F : Nat → Nat → Int32) (x1 x2 : Int32) (post : Int32 → (Nat → Int32) → (Nat → Nat → Int32) → Prop) (px : String → (Nat → Int32) → (Nat → Nat → Int32) → Prop) : Prop := wX4_isIndex x1 (I 14) (fun r1 => ((r1 = (0 : Int32) → px "java/util/NoSuchElementException" I F) ∧ (¬ r1 = (0 : Int32) → wX4_isIndex x2 (3 : Int32) (fun r3 => ((¬ r3 = (0 : Int32) → vp_in ((x1 * (3 : Int32)) + x2) 270 ∧ post (F 20 (Int32.toNatClampNeg ((x1 * (3 : Int32)) + x2))) I F) ∧ (r3 = (0 : Int32) → px "java/util/NoSuchElementException" I F))))))
set_option maxHeartbeats 4000000 in
set_option maxRecDepth 100000 in
theorem cTX4_posting (l : Launch) (hst : l.stackTraces = false) (dC : Nat → ClassId) (dI : Nat → Nat → Nat) (cI : ClassId) (ad : Nat → Nat) (I : Nat → Int32) (F : Nat → Nat → Int32) (sz : Nat) (x1 x2 : Int32) (post : Int32 → (Nat → Int32) → (Nat → Nat → Int32) → Prop) (px : String → (Nat → Int32) → (Nat → Nat → Int32) → Prop) (h : wX4_posting I F x1 x2 post px) : vx_Met l yX4_posting wsX4_posting { frames := 6, cells := 1, slots := 6, locals := 89 } (va_Pc [.ref (ad 0), .int x1, .int x2] (PWt dC dI cI (wC cI ad) I F sz)) (QWi dC dI (wC cI ad) post (va_A (wC cI ad I F) sz)) (XW dC dI (wC cI ad) px (va_A (wC cI ad I F) sz)) 1 6 (va_A (wC cI ad I F) sz) := by
  refine vx_ofW (cc := cX4_posting) (maxL := 3) (ret := (some .int)) (by decide) rfl ?_
  intro p e s m args below meth c s₁ B hml hout hv
  obtain ⟨rfl, ⟨hsz, ⟨hP, hK, hN⟩, hD0⟩, hT, hZ⟩ := hv
  subst hsz
  have hD := wD_any (wC_fix cI ad) (hD0.self (sz := s.heap.size))
  generalize hAe : va_A (wC cI ad I F) s.heap.size = A at hD hZ ⊢
  have hA : ∀ q : Nat, s.heap.size ≤ q → A q := fun q h => by rw [← hAe]; exact Or.inr h
  clear hAe hD0
  have hx := B.exec
  have hb := B.bytes
  have hr := B.returns
  have hts := atoms_spec (ws := wsX4_posting) B.pre
  have hown : s.vm.findClass RX4 = some m.cls := findClass_of_methodNamed B.named
  have hlocks := B.notSynchronized
  have C : Cx p s m _ meth c cX4_posting 3 (some .int) RX4 wsX4_posting := ⟨hx, hb, hml, hown, hts, hr, hlocks⟩
  have hS : va_S A s.heap s.heap [] := va_S.rf
  have hl := lv_entry ([.ref (ad 0), .int x1, .int x2]) (n := 3) (Nat.le_of_ble_eq_true rfl)
  rw [lg_entry_eq]
  generalize (lg_sl ([.ref (ad 0), .int x1, .int x2]) ++ List.replicate (3 - (lg_sl ([.ref (ad 0), .int x1, .int x2])).length) Slot.unset).toArray = ls at hl ⊢
  have hl : lv_has ls 3 [(0, .ref (ad 0)), (1, .int x1), (2, .int x2)] := hl
  unfold wX4_posting at h
  refine lv_iload_n hx hb dX4_posting_0 rfl (lv_at hl 1 rfl) ?_
  refine lv_aload_n hx hb dX4_posting_1 rfl (lv_at hl 0 rfl) ?_
  refine va_get (D := (dC, dI)) (ci := 4) (v := .ref (ad 4)) (C := RX4) (T := TX4) (N := 5) hx hb hts iX4_posting_X4 hown hK hP 0 rfl rfl 3 (by decide) (hts (.fieldLink RX4 33 "CarrierBooks" "journal" "LCarrierBooks$Journal;") (by decide +kernel)) (fun _ h9 => h9) rfl dX4_posting_2 ?_
  refine va_getN (host := RX4) (D := (dC, dI)) (ci := 0) (v := .int (I 14)) (C := RX0) (T := TX0) (N := 3) hx hb hts iX4_posting_X0 hown hK hP 4 rfl rfl 2 (by decide) (va_Nw.use rfl (hN (.fieldLinkNest RX4 152 "CarrierBooks$Journal" "size" "I" RX4) (by decide +kernel))) (fun _ h9 => h9) rfl dX4_posting_5 ?_
  refine vp_callSi (cr_of (va_runS (As := [.int x1, .int (I 14)]) (rest := []) ⟨hx, hb, hml, hown, hts⟩ (cTX4_isIndex l x1 (I 14) _ h) (va_cwS 2 hts gX4_posting_X4_isIndex rfl rfl rfl (by decide +kernel) ⟨Nat.le_of_ble_eq_true rfl, Nat.le_of_ble_eq_true rfl⟩) (pv_S _) rfl rfl hl.1 rfl (lv_room (Nat.le_of_ble_eq_true rfl)) dX4_posting_8 ⟨Nat.le_of_ble_eq_true rfl, Nat.le_of_ble_eq_true rfl⟩)) (fun r1 h => ?_)
  refine lv_if_eq (tgt := 22) hx hb dX4_posting_11 (by decide) (fun c2 => ?_) (fun c2 => ?_)
  · have h := h.1 c2
    exact throw_w (wf := wC cI ad) (own := RX4) (names := exNames) (ik := 112) (ic := 114) (cls := "java/util/NoSuchElementException") hx hb hst hown (by decide +kernel) (by decide +kernel) hts (by decide +kernel) (by decide +kernel) tX4_posting_114 hT twm_114 twg_114 hZ hP hS (hl.1.trans hml.symm) dX4_posting_22 dX4_posting_25 dX4_posting_26 dX4_posting_29 hout (Nat.le_of_ble_eq_true rfl) (Nat.le_of_ble_eq_true rfl) (Nat.le_of_ble_eq_true rfl) (Nat.le_of_ble_eq_true rfl) hlocks h
  · have h := h.2 c2
    refine lv_iload_n hx hb dX4_posting_14 rfl (lv_at hl 2 rfl) ?_
    refine lv_iconst (v := (3 : Int32)) hx hb dX4_posting_15 (by decide) ?_
    refine vp_callSi (cr_of (va_runS (As := [.int x2, .int (3 : Int32)]) (rest := []) ⟨hx, hb, hml, hown, hts⟩ (cTX4_isIndex l x2 (3 : Int32) _ h) (va_cwS 2 hts gX4_posting_X4_isIndex rfl rfl rfl (by decide +kernel) ⟨Nat.le_of_ble_eq_true rfl, Nat.le_of_ble_eq_true rfl⟩) (pv_S _) rfl rfl hl.1 rfl (lv_room (Nat.le_of_ble_eq_true rfl)) dX4_posting_16 ⟨Nat.le_of_ble_eq_true rfl, Nat.le_of_ble_eq_true rfl⟩)) (fun r3 h => ?_)
    refine lv_if_ne (tgt := 30) hx hb dX4_posting_19 (by decide) (fun c4 => ?_) (fun c4 => ?_)
    · have h := h.1 c4
      refine lv_aload_n hx hb dX4_posting_30 rfl (lv_at hl 0 rfl) ?_
      refine va_get (D := (dC, dI)) (ci := 4) (v := .ref (ad 4)) (C := RX4) (T := TX4) (N := 5) hx hb hts iX4_posting_X4 hown hK hP 0 rfl rfl 3 (by decide) (hts (.fieldLink RX4 33 "CarrierBooks" "journal" "LCarrierBooks$Journal;") (by decide +kernel)) (fun _ h9 => h9) rfl dX4_posting_31 ?_
      refine va_getN (host := RX4) (D := (dC, dI)) (ci := 0) (v := .ref (ad 20)) (C := RX0) (T := TX0) (N := 3) hx hb hts iX4_posting_X0 hown hK hP 4 rfl rfl 0 (by decide) (va_Nw.use rfl (hN (.fieldLinkNest RX4 177 "CarrierBooks$Journal" "figures" "[I" RX4) (by decide +kernel))) (fun _ h9 => h9) rfl dX4_posting_34 ?_
      refine lv_iload_n hx hb dX4_posting_37 rfl (lv_at hl 1 rfl) ?_
      refine lv_iconst (v := (3 : Int32)) hx hb dX4_posting_38 (by decide) ?_
      refine lv_imul hx hb dX4_posting_39 ?_
      refine lv_iload_n hx hb dX4_posting_40 rfl (lv_at hl 2 rfl) ?_
      refine lv_iadd hx hb dX4_posting_41 ?_
      obtain ⟨hin5, h⟩ := h
      refine va_iald hx hb hK hP 20 0 rfl rfl hin5 dX4_posting_42 ?_
      refine W.widen (k := 1) (n := 6) (Nat.le_of_ble_eq_true rfl) (Nat.le_of_ble_eq_true rfl) ?_
      exact vx_ret (W.iret (v := (F 20 (Int32.toNatClampNeg ((x1 * (3 : Int32)) + x2)))) hx hb hr (fun t ht hW => ⟨⟨(F 20 (Int32.toNatClampNeg ((x1 * (3 : Int32)) + x2))), (I, F), rfl, h, by show va_P _ _ _ t.heap; rw [ht]; exact hP⟩, hS.F ht⟩) hS.2.2 dX4_posting_43)
    · have h := h.2 c4
      exact throw_w (wf := wC cI ad) (own := RX4) (names := exNames) (ik := 112) (ic := 114) (cls := "java/util/NoSuchElementException") hx hb hst hown (by decide +kernel) (by decide +kernel) hts (by decide +kernel) (by decide +kernel) tX4_posting_114 hT twm_114 twg_114 hZ hP hS (hl.1.trans hml.symm) dX4_posting_22 dX4_posting_25 dX4_posting_26 dX4_posting_29 hout (Nat.le_of_ble_eq_true rfl) (Nat.le_of_ble_eq_true rfl) (Nat.le_of_ble_eq_true rfl) (Nat.le_of_ble_eq_true rfl) hlocks h

theorem iX4_balance_X0 : ∀ w ∈ wsX00, w ∈ wsX4_balance := by decide +kernel
theorem iX4_balance_X4 : ∀ w ∈ wsX40, w ∈ wsX4_balance := by decide +kernel
theorem tX4_balance_114 : ∀ w ∈ (vx_at0 RX4 114 "java/util/NoSuchElementException" exNames).filter goodWord, w ∈ wsX4_balance := by decide +kernel
def wX4_balance (I : Nat → Int32) (F : Nat → Nat → Int32) (x1 : Int32) (post : Int32 → (Nat → Int32) → (Nat → Nat → Int32) → Prop) (px : String → (Nat → Int32) → (Nat → Nat → Int32) → Prop) : Prop := wX4_isIndex x1 (7 : Int32) (fun r1 => ((¬ r1 = (0 : Int32) → vp_in x1 7 ∧ post (F 21 (Int32.toNatClampNeg x1)) I F) ∧ (r1 = (0 : Int32) → px "java/util/NoSuchElementException" I F)))
set_option maxHeartbeats 4000000 in
set_option maxRecDepth 100000 in
theorem cTX4_balance (l : Launch) (hst : l.stackTraces = false) (dC : Nat → ClassId) (dI : Nat → Nat → Nat) (cI : ClassId) (ad : Nat → Nat) (I : Nat → Int32) (F : Nat → Nat → Int32) (sz : Nat) (x1 : Int32) (post : Int32 → (Nat → Int32) → (Nat → Nat → Int32) → Prop) (px : String → (Nat → Int32) → (Nat → Nat → Int32) → Prop) (h : wX4_balance I F x1 post px) : vx_Met l yX4_balance wsX4_balance { frames := 6, cells := 1, slots := 6, locals := 89 } (va_Pc [.ref (ad 0), .int x1] (PWt dC dI cI (wC cI ad) I F sz)) (QWi dC dI (wC cI ad) post (va_A (wC cI ad I F) sz)) (XW dC dI (wC cI ad) px (va_A (wC cI ad I F) sz)) 1 6 (va_A (wC cI ad I F) sz) := by
  refine vx_ofW (cc := cX4_balance) (maxL := 2) (ret := (some .int)) (by decide) rfl ?_
  intro p e s m args below meth c s₁ B hml hout hv
  obtain ⟨rfl, ⟨hsz, ⟨hP, hK, hN⟩, hD0⟩, hT, hZ⟩ := hv
  subst hsz
  have hD := wD_any (wC_fix cI ad) (hD0.self (sz := s.heap.size))
  generalize hAe : va_A (wC cI ad I F) s.heap.size = A at hD hZ ⊢
  have hA : ∀ q : Nat, s.heap.size ≤ q → A q := fun q h => by rw [← hAe]; exact Or.inr h
  clear hAe hD0
  have hx := B.exec
  have hb := B.bytes
  have hr := B.returns
  have hts := atoms_spec (ws := wsX4_balance) B.pre
  have hown : s.vm.findClass RX4 = some m.cls := findClass_of_methodNamed B.named
  have hlocks := B.notSynchronized
  have C : Cx p s m _ meth c cX4_balance 2 (some .int) RX4 wsX4_balance := ⟨hx, hb, hml, hown, hts, hr, hlocks⟩
  have hS : va_S A s.heap s.heap [] := va_S.rf
  have hl := lv_entry ([.ref (ad 0), .int x1]) (n := 2) (Nat.le_of_ble_eq_true rfl)
  rw [lg_entry_eq]
  generalize (lg_sl ([.ref (ad 0), .int x1]) ++ List.replicate (2 - (lg_sl ([.ref (ad 0), .int x1])).length) Slot.unset).toArray = ls at hl ⊢
  have hl : lv_has ls 2 [(0, .ref (ad 0)), (1, .int x1)] := hl
  unfold wX4_balance at h
  refine lv_iload_n hx hb dX4_balance_0 rfl (lv_at hl 1 rfl) ?_
  refine lv_bipush (v := (7 : Int32)) hx hb dX4_balance_1 (by decide) ?_
  refine vp_callSi (cr_of (va_runS (As := [.int x1, .int (7 : Int32)]) (rest := []) ⟨hx, hb, hml, hown, hts⟩ (cTX4_isIndex l x1 (7 : Int32) _ h) (va_cwS 2 hts gX4_balance_X4_isIndex rfl rfl rfl (by decide +kernel) ⟨Nat.le_of_ble_eq_true rfl, Nat.le_of_ble_eq_true rfl⟩) (pv_S _) rfl rfl hl.1 rfl (lv_room (Nat.le_of_ble_eq_true rfl)) dX4_balance_3 ⟨Nat.le_of_ble_eq_true rfl, Nat.le_of_ble_eq_true rfl⟩)) (fun r1 h => ?_)
  refine lv_if_ne (tgt := 17) hx hb dX4_balance_6 (by decide) (fun c2 => ?_) (fun c2 => ?_)
  · have h := h.1 c2
    refine lv_aload_n hx hb dX4_balance_17 rfl (lv_at hl 0 rfl) ?_
    refine va_get (D := (dC, dI)) (ci := 4) (v := .ref (ad 4)) (C := RX4) (T := TX4) (N := 5) hx hb hts iX4_balance_X4 hown hK hP 0 rfl rfl 3 (by decide) (hts (.fieldLink RX4 33 "CarrierBooks" "journal" "LCarrierBooks$Journal;") (by decide +kernel)) (fun _ h9 => h9) rfl dX4_balance_18 ?_
    refine va_getN (host := RX4) (D := (dC, dI)) (ci := 0) (v := .ref (ad 21)) (C := RX0) (T := TX0) (N := 3) hx hb hts iX4_balance_X0 hown hK hP 4 rfl rfl 1 (by decide) (va_Nw.use rfl (hN (.fieldLinkNest RX4 178 "CarrierBooks$Journal" "balances" "[I" RX4) (by decide +kernel))) (fun _ h9 => h9) rfl dX4_balance_21 ?_
    refine lv_iload_n hx hb dX4_balance_24 rfl (lv_at hl 1 rfl) ?_
    obtain ⟨hin3, h⟩ := h
    refine va_iald hx hb hK hP 21 0 rfl rfl hin3 dX4_balance_25 ?_
    refine W.widen (k := 1) (n := 6) (Nat.le_of_ble_eq_true rfl) (Nat.le_of_ble_eq_true rfl) ?_
    exact vx_ret (W.iret (v := (F 21 (Int32.toNatClampNeg x1))) hx hb hr (fun t ht hW => ⟨⟨(F 21 (Int32.toNatClampNeg x1)), (I, F), rfl, h, by show va_P _ _ _ t.heap; rw [ht]; exact hP⟩, hS.F ht⟩) hS.2.2 dX4_balance_26)
  · have h := h.2 c2
    exact throw_w (wf := wC cI ad) (own := RX4) (names := exNames) (ik := 112) (ic := 114) (cls := "java/util/NoSuchElementException") hx hb hst hown (by decide +kernel) (by decide +kernel) hts (by decide +kernel) (by decide +kernel) tX4_balance_114 hT twm_114 twg_114 hZ hP hS (hl.1.trans hml.symm) dX4_balance_9 dX4_balance_12 dX4_balance_13 dX4_balance_16 hout (Nat.le_of_ble_eq_true rfl) (Nat.le_of_ble_eq_true rfl) (Nat.le_of_ble_eq_true rfl) (Nat.le_of_ble_eq_true rfl) hlocks h
