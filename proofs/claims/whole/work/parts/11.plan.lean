theorem iX1_add_X1 : ∀ w ∈ wsX10, w ∈ wsX1_add := by decide +kernel
def wX1_add (I : Nat → Int32) (F : Nat → Nat → Int32) (x1 x2 x3 x4 x5 : Int32) (post : Int32 → (Nat → Int32) → (Nat → Nat → Int32) → Prop) : Prop := vp_in (I 1) 8 ∧ ∀ F1 : Nat → Nat → Int32, F1 = va_up F 5 (upd (F 5) (Int32.toNatClampNeg (I 1)) x1) → vp_in (I 1) 8 ∧ ∀ F3 : Nat → Nat → Int32, F3 = va_up F1 6 (upd (F1 6) (Int32.toNatClampNeg (I 1)) x2) → vp_in (I 1) 8 ∧ ∀ F5 : Nat → Nat → Int32, F5 = va_up F3 7 (upd (F3 7) (Int32.toNatClampNeg (I 1)) x3) → vp_in (I 1) 8 ∧ ∀ F7 : Nat → Nat → Int32, F7 = va_up F5 8 (upd (F5 8) (Int32.toNatClampNeg (I 1)) x4) → vp_in (I 1) 8 ∧ ∀ F9 : Nat → Nat → Int32, F9 = va_up F7 9 (upd (F7 9) (Int32.toNatClampNeg (I 1)) x5) → ∀ v11 : Int32, v11 = ((I 1) + (1 : Int32)) → ∀ I12 : Nat → Int32, I12 = va_up I 1 v11 → post ((I12 1) - (1 : Int32)) I12 F9
set_option maxHeartbeats 4000000 in
set_option maxRecDepth 100000 in
theorem cTX1_add (l : Launch) (dC : Nat → ClassId) (dI : Nat → Nat → Nat) (cI : ClassId) (ad : Nat → Nat) (I : Nat → Int32) (F : Nat → Nat → Int32) (sz : Nat) (x1 x2 x3 x4 x5 : Int32) (post : Int32 → (Nat → Int32) → (Nat → Nat → Int32) → Prop) (h : wX1_add I F x1 x2 x3 x4 x5 post) : Met l yX1_add wsX1_add { frames := 0, cells := 0, slots := 0, locals := 0 } (va_Pc [.ref (ad 1), .int x1, .int x2, .int x3, .int x4, .int x5] (PWw dC dI cI (wC cI ad) I F sz)) (QWi dC dI (wC cI ad) post (va_A (wC cI ad I F) sz)) 0 0 (va_A (wC cI ad I F) sz) := by
  refine Met.ofW (cc := cX1_add) (maxL := 6) (ret := (some .int)) (by decide) rfl ?_
  intro p e s m args below meth c s₁ B hml hv
  obtain ⟨rfl, hsz, ⟨hP, hK, hN⟩, hD0⟩ := hv
  subst hsz
  have hD := wD_any (wC_fix cI ad) (hD0.self (sz := s.heap.size))
  generalize hAe : va_A (wC cI ad I F) s.heap.size = A at hD ⊢
  have hA : ∀ q : Nat, s.heap.size ≤ q → A q := fun q h => by rw [← hAe]; exact Or.inr h
  clear hAe hD0
  have hx := B.exec
  have hb := B.bytes
  have hr := B.returns
  have hts := atoms_spec (ws := wsX1_add) B.pre
  have hown : s.vm.findClass RX1 = some m.cls := findClass_of_methodNamed B.named
  have hlocks := B.notSynchronized
  have C : Cx p s m _ meth c cX1_add 6 (some .int) RX1 wsX1_add := ⟨hx, hb, hml, hown, hts, hr, hlocks⟩
  have hS : va_S A s.heap s.heap [] := va_S.rf
  have hl := lv_entry ([.ref (ad 1), .int x1, .int x2, .int x3, .int x4, .int x5]) (n := 6) (Nat.le_of_ble_eq_true rfl)
  rw [lg_entry_eq]
  generalize (lg_sl ([.ref (ad 1), .int x1, .int x2, .int x3, .int x4, .int x5]) ++ List.replicate (6 - (lg_sl ([.ref (ad 1), .int x1, .int x2, .int x3, .int x4, .int x5])).length) Slot.unset).toArray = ls at hl ⊢
  have hl : lv_has ls 6 [(0, .ref (ad 1)), (1, .int x1), (2, .int x2), (3, .int x3), (4, .int x4), (5, .int x5)] := hl
  unfold wX1_add at h
  refine lv_aload_n hx hb dX1_add_0 rfl (lv_at hl 0 rfl) ?_
  refine va_get (D := (dC, dI)) (ci := 1) (v := .ref (ad 5)) (C := RX1) (T := TX1) (N := 6) hx hb hts iX1_add_X1 hown hK hP 1 rfl rfl 0 (by decide) (hts (.fieldLink RX1 9 "CarrierBooks$Plan" "ageFrom" "[I") (by decide +kernel)) (fun _ h9 => h9) rfl dX1_add_1 ?_
  refine lv_aload_n hx hb dX1_add_4 rfl (lv_at hl 0 rfl) ?_
  refine va_get (D := (dC, dI)) (ci := 1) (v := .int (I 1)) (C := RX1) (T := TX1) (N := 6) hx hb hts iX1_add_X1 hown hK hP 1 rfl rfl 5 (by decide) (hts (.fieldLink RX1 27 "CarrierBooks$Plan" "size" "I") (by decide +kernel)) (fun _ h9 => h9) rfl dX1_add_5 ?_
  refine lv_iload_n hx hb dX1_add_8 rfl (lv_at hl 1 rfl) ?_
  obtain ⟨hin2, h⟩ := h
  refine ast_w (wf := wC cI ad) hx hb hK hP hD hS 5 5 rfl hin2 rfl dX1_add_9 (fun F1 eF1 H locs hP hS => ?_)
  have h := h F1 eF1
  refine lv_aload_n hx hb dX1_add_10 rfl (lv_at hl 0 rfl) ?_
  refine va_get (D := (dC, dI)) (ci := 1) (v := .ref (ad 6)) (C := RX1) (T := TX1) (N := 6) hx hb hts iX1_add_X1 hown hK hP 1 rfl rfl 1 (by decide) (hts (.fieldLink RX1 15 "CarrierBooks$Plan" "ageTo" "[I") (by decide +kernel)) (fun _ h9 => h9) rfl dX1_add_11 ?_
  refine lv_aload_n hx hb dX1_add_14 rfl (lv_at hl 0 rfl) ?_
  refine va_get (D := (dC, dI)) (ci := 1) (v := .int (I 1)) (C := RX1) (T := TX1) (N := 6) hx hb hts iX1_add_X1 hown hK hP 1 rfl rfl 5 (by decide) (hts (.fieldLink RX1 27 "CarrierBooks$Plan" "size" "I") (by decide +kernel)) (fun _ h9 => h9) rfl dX1_add_15 ?_
  refine lv_iload_n hx hb dX1_add_18 rfl (lv_at hl 2 rfl) ?_
  obtain ⟨hin4, h⟩ := h
  refine ast_w (wf := wC cI ad) hx hb hK hP hD hS 6 6 rfl hin4 rfl dX1_add_19 (fun F3 eF3 H locs hP hS => ?_)
  have h := h F3 eF3
  refine lv_aload_n hx hb dX1_add_20 rfl (lv_at hl 0 rfl) ?_
  refine va_get (D := (dC, dI)) (ci := 1) (v := .ref (ad 7)) (C := RX1) (T := TX1) (N := 6) hx hb hts iX1_add_X1 hown hK hP 1 rfl rfl 2 (by decide) (hts (.fieldLink RX1 18 "CarrierBooks$Plan" "zoneFrom" "[I") (by decide +kernel)) (fun _ h9 => h9) rfl dX1_add_21 ?_
  refine lv_aload_n hx hb dX1_add_24 rfl (lv_at hl 0 rfl) ?_
  refine va_get (D := (dC, dI)) (ci := 1) (v := .int (I 1)) (C := RX1) (T := TX1) (N := 6) hx hb hts iX1_add_X1 hown hK hP 1 rfl rfl 5 (by decide) (hts (.fieldLink RX1 27 "CarrierBooks$Plan" "size" "I") (by decide +kernel)) (fun _ h9 => h9) rfl dX1_add_25 ?_
  refine lv_iload_n hx hb dX1_add_28 rfl (lv_at hl 3 rfl) ?_
  obtain ⟨hin6, h⟩ := h
  refine ast_w (wf := wC cI ad) hx hb hK hP hD hS 7 7 rfl hin6 rfl dX1_add_29 (fun F5 eF5 H locs hP hS => ?_)
  have h := h F5 eF5
  refine lv_aload_n hx hb dX1_add_30 rfl (lv_at hl 0 rfl) ?_
  refine va_get (D := (dC, dI)) (ci := 1) (v := .ref (ad 8)) (C := RX1) (T := TX1) (N := 6) hx hb hts iX1_add_X1 hown hK hP 1 rfl rfl 3 (by decide) (hts (.fieldLink RX1 21 "CarrierBooks$Plan" "zoneTo" "[I") (by decide +kernel)) (fun _ h9 => h9) rfl dX1_add_31 ?_
  refine lv_aload_n hx hb dX1_add_34 rfl (lv_at hl 0 rfl) ?_
  refine va_get (D := (dC, dI)) (ci := 1) (v := .int (I 1)) (C := RX1) (T := TX1) (N := 6) hx hb hts iX1_add_X1 hown hK hP 1 rfl rfl 5 (by decide) (hts (.fieldLink RX1 27 "CarrierBooks$Plan" "size" "I") (by decide +kernel)) (fun _ h9 => h9) rfl dX1_add_35 ?_
  refine lv_iload hx hb dX1_add_38 (lv_at hl 4 rfl) ?_
  obtain ⟨hin8, h⟩ := h
  refine ast_w (wf := wC cI ad) hx hb hK hP hD hS 8 8 rfl hin8 rfl dX1_add_40 (fun F7 eF7 H locs hP hS => ?_)
  have h := h F7 eF7
  refine lv_aload_n hx hb dX1_add_41 rfl (lv_at hl 0 rfl) ?_
  refine va_get (D := (dC, dI)) (ci := 1) (v := .ref (ad 9)) (C := RX1) (T := TX1) (N := 6) hx hb hts iX1_add_X1 hown hK hP 1 rfl rfl 4 (by decide) (hts (.fieldLink RX1 24 "CarrierBooks$Plan" "rate" "[I") (by decide +kernel)) (fun _ h9 => h9) rfl dX1_add_42 ?_
  refine lv_aload_n hx hb dX1_add_45 rfl (lv_at hl 0 rfl) ?_
  refine va_get (D := (dC, dI)) (ci := 1) (v := .int (I 1)) (C := RX1) (T := TX1) (N := 6) hx hb hts iX1_add_X1 hown hK hP 1 rfl rfl 5 (by decide) (hts (.fieldLink RX1 27 "CarrierBooks$Plan" "size" "I") (by decide +kernel)) (fun _ h9 => h9) rfl dX1_add_46 ?_
  refine lv_iload hx hb dX1_add_49 (lv_at hl 5 rfl) ?_
  obtain ⟨hin10, h⟩ := h
  refine ast_w (wf := wC cI ad) hx hb hK hP hD hS 9 9 rfl hin10 rfl dX1_add_51 (fun F9 eF9 H locs hP hS => ?_)
  have h := h F9 eF9
  refine lv_aload_n hx hb dX1_add_52 rfl (lv_at hl 0 rfl) ?_
  refine lv_dup hx hb dX1_add_53 rfl ?_
  refine va_get (D := (dC, dI)) (ci := 1) (v := .int (I 1)) (C := RX1) (T := TX1) (N := 6) hx hb hts iX1_add_X1 hown hK hP 1 rfl rfl 5 (by decide) (hts (.fieldLink RX1 27 "CarrierBooks$Plan" "size" "I") (by decide +kernel)) (fun _ h9 => h9) rfl dX1_add_54 ?_
  refine lv_iconst (v := (1 : Int32)) hx hb dX1_add_57 (by decide) ?_
  refine lv_iadd hx hb dX1_add_58 ?_
  refine lv_topi (fun v11 ev11 => ?_)
  have h := h v11 ev11
  refine put_w (wf := wC cI ad) (ci := 1) (C := RX1) (T := TX1) (N := 6) hx hb hts iX1_add_X1 tyX1 tyX1_ok nmX1 hown hK hP hD hS 1 rfl rfl 5 (by decide) (hts (.fieldLink RX1 27 "CarrierBooks$Plan" "size" "I") (by decide +kernel)) (fun _ h9 => h9) rfl 1 (by decide +kernel) (Nat.le_of_ble_eq_true rfl) rfl dX1_add_59 (fun I12 eI12 H locs hP hS => ?_)
  have h := h I12 eI12
  refine lv_aload_n hx hb dX1_add_62 rfl (lv_at hl 0 rfl) ?_
  refine va_get (D := (dC, dI)) (ci := 1) (v := .int (I12 1)) (C := RX1) (T := TX1) (N := 6) hx hb hts iX1_add_X1 hown hK hP 1 rfl rfl 5 (by decide) (hts (.fieldLink RX1 27 "CarrierBooks$Plan" "size" "I") (by decide +kernel)) (fun _ h9 => h9) rfl dX1_add_63 ?_
  refine lv_iconst (v := (1 : Int32)) hx hb dX1_add_66 (by decide) ?_
  refine lv_isub hx hb dX1_add_67 ?_
  exact W.iret (v := ((I12 1) - (1 : Int32))) hx hb hr (fun t ht hW => ⟨⟨((I12 1) - (1 : Int32)), (I12, F9), rfl, h, by show va_P _ _ _ t.heap; rw [ht]; exact hP⟩, hS.F ht⟩) hS.2.2 dX1_add_68

theorem iX1_dropLatest_X1 : ∀ w ∈ wsX10, w ∈ wsX1_dropLatest := by decide +kernel
def wX1_dropLatest (I : Nat → Int32) (F : Nat → Nat → Int32) (post : (Nat → Int32) → (Nat → Nat → Int32) → Prop) : Prop := ∀ v1 : Int32, v1 = ((I 1) - (1 : Int32)) → ∀ I2 : Nat → Int32, I2 = va_up I 1 v1 → post I2 F
set_option maxHeartbeats 4000000 in
set_option maxRecDepth 100000 in
theorem cTX1_dropLatest (l : Launch) (dC : Nat → ClassId) (dI : Nat → Nat → Nat) (cI : ClassId) (ad : Nat → Nat) (I : Nat → Int32) (F : Nat → Nat → Int32) (sz : Nat) (post : (Nat → Int32) → (Nat → Nat → Int32) → Prop) (h : wX1_dropLatest I F post) : Met l yX1_dropLatest wsX1_dropLatest { frames := 0, cells := 0, slots := 0, locals := 0 } (va_Pc [.ref (ad 1)] (PWw dC dI cI (wC cI ad) I F sz)) (QWv dC dI (wC cI ad) post (va_A (wC cI ad I F) sz)) 0 0 (va_A (wC cI ad I F) sz) := by
  refine Met.ofW (cc := cX1_dropLatest) (maxL := 1) (ret := none) (by decide) rfl ?_
  intro p e s m args below meth c s₁ B hml hv
  obtain ⟨rfl, hsz, ⟨hP, hK, hN⟩, hD0⟩ := hv
  subst hsz
  have hD := wD_any (wC_fix cI ad) (hD0.self (sz := s.heap.size))
  generalize hAe : va_A (wC cI ad I F) s.heap.size = A at hD ⊢
  have hA : ∀ q : Nat, s.heap.size ≤ q → A q := fun q h => by rw [← hAe]; exact Or.inr h
  clear hAe hD0
  have hx := B.exec
  have hb := B.bytes
  have hr := B.returns
  have hts := atoms_spec (ws := wsX1_dropLatest) B.pre
  have hown : s.vm.findClass RX1 = some m.cls := findClass_of_methodNamed B.named
  have hlocks := B.notSynchronized
  have C : Cx p s m _ meth c cX1_dropLatest 1 none RX1 wsX1_dropLatest := ⟨hx, hb, hml, hown, hts, hr, hlocks⟩
  have hS : va_S A s.heap s.heap [] := va_S.rf
  have hl := lv_entry ([.ref (ad 1)]) (n := 1) (Nat.le_of_ble_eq_true rfl)
  rw [lg_entry_eq]
  generalize (lg_sl ([.ref (ad 1)]) ++ List.replicate (1 - (lg_sl ([.ref (ad 1)])).length) Slot.unset).toArray = ls at hl ⊢
  have hl : lv_has ls 1 [(0, .ref (ad 1))] := hl
  unfold wX1_dropLatest at h
  refine lv_aload_n hx hb dX1_dropLatest_0 rfl (lv_at hl 0 rfl) ?_
  refine lv_dup hx hb dX1_dropLatest_1 rfl ?_
  refine va_get (D := (dC, dI)) (ci := 1) (v := .int (I 1)) (C := RX1) (T := TX1) (N := 6) hx hb hts iX1_dropLatest_X1 hown hK hP 1 rfl rfl 5 (by decide) (hts (.fieldLink RX1 27 "CarrierBooks$Plan" "size" "I") (by decide +kernel)) (fun _ h9 => h9) rfl dX1_dropLatest_2 ?_
  refine lv_iconst (v := (1 : Int32)) hx hb dX1_dropLatest_5 (by decide) ?_
  refine lv_isub hx hb dX1_dropLatest_6 ?_
  refine lv_topi (fun v1 ev1 => ?_)
  have h := h v1 ev1
  refine put_w (wf := wC cI ad) (ci := 1) (C := RX1) (T := TX1) (N := 6) hx hb hts iX1_dropLatest_X1 tyX1 tyX1_ok nmX1 hown hK hP hD hS 1 rfl rfl 5 (by decide) (hts (.fieldLink RX1 27 "CarrierBooks$Plan" "size" "I") (by decide +kernel)) (fun _ h9 => h9) rfl 1 (by decide +kernel) (Nat.le_of_ble_eq_true rfl) rfl dX1_dropLatest_7 (fun I2 eI2 H locs hP hS => ?_)
  have h := h I2 eI2
  exact W.vret hx hb hr (fun t ht hW => ⟨⟨(I2, F), rfl, h, by show va_P _ _ _ t.heap; rw [ht]; exact hP⟩, hS.F ht⟩) hS.2.2 dX1_dropLatest_10

theorem iX1_isMatch_X1 : ∀ w ∈ wsX10, w ∈ wsX1_isMatch := by decide +kernel
def wX1_isMatch (I : Nat → Int32) (F : Nat → Nat → Int32) (x1 x2 x3 : Int32) (post : Int32 → Prop) : Prop := vp_in x1 8 ∧ ((x2 < (F 5 (Int32.toNatClampNeg x1)) → post (0 : Int32)) ∧ (¬ x2 < (F 5 (Int32.toNatClampNeg x1)) → vp_in x1 8 ∧ (((F 6 (Int32.toNatClampNeg x1)) < x2 → post (0 : Int32)) ∧ (¬ (F 6 (Int32.toNatClampNeg x1)) < x2 → vp_in x1 8 ∧ ((x3 < (F 7 (Int32.toNatClampNeg x1)) → post (0 : Int32)) ∧ (¬ x3 < (F 7 (Int32.toNatClampNeg x1)) → vp_in x1 8 ∧ (((F 8 (Int32.toNatClampNeg x1)) < x3 → post (0 : Int32)) ∧ (¬ (F 8 (Int32.toNatClampNeg x1)) < x3 → post (1 : Int32)))))))))
set_option maxHeartbeats 4000000 in
set_option maxRecDepth 100000 in
theorem cTX1_isMatch (l : Launch) (dC : Nat → ClassId) (dI : Nat → Nat → Nat) (cI : ClassId) (ad : Nat → Nat) (I : Nat → Int32) (F : Nat → Nat → Int32) (x1 x2 x3 : Int32) (post : Int32 → Prop) (h : wX1_isMatch I F x1 x2 x3 post) : Met l yX1_isMatch wsX1_isMatch { frames := 0, cells := 0, slots := 0, locals := 0 } (va_Pc [.ref (ad 1), .int x1, .int x2, .int x3] (PW dC dI cI (wC cI ad) I F)) (vp_Si post) 0 0 (fun _ => False) := by
  refine Met.ofW (cc := cX1_isMatch) (maxL := 4) (ret := (some .boolean)) (by decide) rfl ?_
  intro p e s m args below meth c s₁ B hml hv
  obtain ⟨rfl, hP, hK, hN⟩ := hv
  have hx := B.exec
  have hb := B.bytes
  have hr := B.returns
  have hts := atoms_spec (ws := wsX1_isMatch) B.pre
  have hown : s.vm.findClass RX1 = some m.cls := findClass_of_methodNamed B.named
  have hlocks := B.notSynchronized
  have C : Cx p s m _ meth c cX1_isMatch 4 (some .boolean) RX1 wsX1_isMatch := ⟨hx, hb, hml, hown, hts, hr, hlocks⟩
  have hl := lv_entry ([.ref (ad 1), .int x1, .int x2, .int x3]) (n := 4) (Nat.le_of_ble_eq_true rfl)
  rw [lg_entry_eq]
  generalize (lg_sl ([.ref (ad 1), .int x1, .int x2, .int x3]) ++ List.replicate (4 - (lg_sl ([.ref (ad 1), .int x1, .int x2, .int x3])).length) Slot.unset).toArray = ls at hl ⊢
  have hl : lv_has ls 4 [(0, .ref (ad 1)), (1, .int x1), (2, .int x2), (3, .int x3)] := hl
  unfold wX1_isMatch at h
  refine lv_aload_n hx hb dX1_isMatch_0 rfl (lv_at hl 0 rfl) ?_
  refine va_get (D := (dC, dI)) (ci := 1) (v := .ref (ad 5)) (C := RX1) (T := TX1) (N := 6) hx hb hts iX1_isMatch_X1 hown hK hP 1 rfl rfl 0 (by decide) (hts (.fieldLink RX1 9 "CarrierBooks$Plan" "ageFrom" "[I") (by decide +kernel)) (fun _ h9 => h9) rfl dX1_isMatch_1 ?_
  refine lv_iload_n hx hb dX1_isMatch_4 rfl (lv_at hl 1 rfl) ?_
  obtain ⟨hin1, h⟩ := h
  refine va_iald hx hb hK hP 5 0 rfl rfl hin1 dX1_isMatch_5 ?_
  refine lv_iload_n hx hb dX1_isMatch_6 rfl (lv_at hl 2 rfl) ?_
  refine lv_icmp_gt (tgt := 44) hx hb dX1_isMatch_7 (by decide) (fun c2 => ?_) (fun c2 => ?_)
  · have h := h.1 c2
    refine lv_iconst (v := (0 : Int32)) hx hb dX1_isMatch_44 (by decide) ?_
    exact W.zret (v := (0 : Int32)) hx hb hr rfl (fun t ht hW => ⟨_, rfl, h, ht⟩) (fun q hq => by cases hq) dX1_isMatch_45
  · have h := h.2 c2
    refine lv_iload_n hx hb dX1_isMatch_10 rfl (lv_at hl 2 rfl) ?_
    refine lv_aload_n hx hb dX1_isMatch_11 rfl (lv_at hl 0 rfl) ?_
    refine va_get (D := (dC, dI)) (ci := 1) (v := .ref (ad 6)) (C := RX1) (T := TX1) (N := 6) hx hb hts iX1_isMatch_X1 hown hK hP 1 rfl rfl 1 (by decide) (hts (.fieldLink RX1 15 "CarrierBooks$Plan" "ageTo" "[I") (by decide +kernel)) (fun _ h9 => h9) rfl dX1_isMatch_12 ?_
    refine lv_iload_n hx hb dX1_isMatch_15 rfl (lv_at hl 1 rfl) ?_
    obtain ⟨hin3, h⟩ := h
    refine va_iald hx hb hK hP 6 0 rfl rfl hin3 dX1_isMatch_16 ?_
    refine lv_icmp_gt (tgt := 44) hx hb dX1_isMatch_17 (by decide) (fun c4 => ?_) (fun c4 => ?_)
    · have h := h.1 c4
      refine lv_iconst (v := (0 : Int32)) hx hb dX1_isMatch_44 (by decide) ?_
      exact W.zret (v := (0 : Int32)) hx hb hr rfl (fun t ht hW => ⟨_, rfl, h, ht⟩) (fun q hq => by cases hq) dX1_isMatch_45
    · have h := h.2 c4
      refine lv_aload_n hx hb dX1_isMatch_20 rfl (lv_at hl 0 rfl) ?_
      refine va_get (D := (dC, dI)) (ci := 1) (v := .ref (ad 7)) (C := RX1) (T := TX1) (N := 6) hx hb hts iX1_isMatch_X1 hown hK hP 1 rfl rfl 2 (by decide) (hts (.fieldLink RX1 18 "CarrierBooks$Plan" "zoneFrom" "[I") (by decide +kernel)) (fun _ h9 => h9) rfl dX1_isMatch_21 ?_
      refine lv_iload_n hx hb dX1_isMatch_24 rfl (lv_at hl 1 rfl) ?_
      obtain ⟨hin5, h⟩ := h
      refine va_iald hx hb hK hP 7 0 rfl rfl hin5 dX1_isMatch_25 ?_
      refine lv_iload_n hx hb dX1_isMatch_26 rfl (lv_at hl 3 rfl) ?_
      refine lv_icmp_gt (tgt := 44) hx hb dX1_isMatch_27 (by decide) (fun c6 => ?_) (fun c6 => ?_)
      · have h := h.1 c6
        refine lv_iconst (v := (0 : Int32)) hx hb dX1_isMatch_44 (by decide) ?_
        exact W.zret (v := (0 : Int32)) hx hb hr rfl (fun t ht hW => ⟨_, rfl, h, ht⟩) (fun q hq => by cases hq) dX1_isMatch_45
      · have h := h.2 c6
        refine lv_iload_n hx hb dX1_isMatch_30 rfl (lv_at hl 3 rfl) ?_
        refine lv_aload_n hx hb dX1_isMatch_31 rfl (lv_at hl 0 rfl) ?_
        refine va_get (D := (dC, dI)) (ci := 1) (v := .ref (ad 8)) (C := RX1) (T := TX1) (N := 6) hx hb hts iX1_isMatch_X1 hown hK hP 1 rfl rfl 3 (by decide) (hts (.fieldLink RX1 21 "CarrierBooks$Plan" "zoneTo" "[I") (by decide +kernel)) (fun _ h9 => h9) rfl dX1_isMatch_32 ?_
        refine lv_iload_n hx hb dX1_isMatch_35 rfl (lv_at hl 1 rfl) ?_
        obtain ⟨hin7, h⟩ := h
        refine va_iald hx hb hK hP 8 0 rfl rfl hin7 dX1_isMatch_36 ?_
        refine lv_icmp_gt (tgt := 44) hx hb dX1_isMatch_37 (by decide) (fun c8 => ?_) (fun c8 => ?_)
        · have h := h.1 c8
          refine lv_iconst (v := (0 : Int32)) hx hb dX1_isMatch_44 (by decide) ?_
          exact W.zret (v := (0 : Int32)) hx hb hr rfl (fun t ht hW => ⟨_, rfl, h, ht⟩) (fun q hq => by cases hq) dX1_isMatch_45
        · have h := h.2 c8
          refine lv_iconst (v := (1 : Int32)) hx hb dX1_isMatch_40 (by decide) ?_
          refine lv_goto (tgt := 45) hx hb dX1_isMatch_41 (by decide) ?_
          exact W.zret (v := (1 : Int32)) hx hb hr rfl (fun t ht hW => ⟨_, rfl, h, ht⟩) (fun q hq => by cases hq) dX1_isMatch_45

theorem iX1_matches_X1 : ∀ w ∈ wsX10, w ∈ wsX1_matches := by decide +kernel
def bX1_matches_5 (I : Nat → Int32) (F : Nat → Nat → Int32) (post : Int32 → Prop) : Nat → Int32 → Int32 → Int32 → Int32 → Prop
  | 0 => fun _ _ _ _ => False
  | n + 1 => fun x1 x2 x3 x4 => (((I 1) ≤ x4 → post x3) ∧ (¬ (I 1) ≤ x4 → wX1_isMatch I F x4 x1 x2 (fun r2 => ((r2 = (0 : Int32) → ∀ v4 : Int32, v4 = x4 + (1 : Int32) → bX1_matches_5 I F post n x1 x2 x3 v4) ∧ (¬ r2 = (0 : Int32) → ∀ v5 : Int32, v5 = x3 + (1 : Int32) → ∀ v6 : Int32, v6 = x4 + (1 : Int32) → bX1_matches_5 I F post n x1 x2 v5 v6)))))
def wX1_matches (I : Nat → Int32) (F : Nat → Nat → Int32) (x1 x2 : Int32) (post : Int32 → Prop) : Prop := ∃ n5 : Nat, bX1_matches_5 I F post n5 x1 x2 (0 : Int32) (0 : Int32)
set_option maxHeartbeats 4000000 in
set_option maxRecDepth 100000 in
theorem sX1_matches_5 {p : Program} {l : Launch} {e : Env} {s : State} {m : MethodId} {args : Array Value} {below : List Frame} {meth : Method} {c : Code} {dC : Nat → ClassId} {dI : Nat → Nat → Nat} {cI : ClassId} {ad : Nat → Nat} {I : Nat → Int32} {F : Nat → Nat → Int32} (C : Cx p s m args meth c cX1_matches 5 (some .int) RX1 wsX1_matches) (hP : va_P (dC, dI) vwCl (wC cI ad I F) s.heap) (hK : va_K (dC, dI) vwCl [(cI, .int)] s) (hN : NW s) (post : Int32 → Prop) : ∀ (n : Nat) (x1 x2 x3 x4 : Int32), bX1_matches_5 I F post n x1 x2 x3 x4 → ∀ (ls : Array Slot), lv_has ls 5 [(0, .ref (ad 1)), (1, .int x1), (2, .int x2), (3, .int x3), (4, .int x4)] → W p l e { frames := 1, cells := 0, slots := 0, locals := 23 } s m args below meth c s.heap [] 0 0 (MQ below (vp_Si post) args s 0 0 (fun _ => False)) (F0 m 5 ls []) := by
  obtain ⟨hx, hb, hml, hown, hts, hr, hlocks⟩ := id C
  intro n
  induction n with
  | zero =>
    intro x1 x2 x3 x4 h ls hl
    exact h.elim
  | succ n ih =>
    intro x1 x2 x3 x4 h ls hl
    unfold bX1_matches_5 at h
    refine lv_iload hx hb dX1_matches_5 (lv_at hl 4 rfl) ?_
    refine lv_aload_n hx hb dX1_matches_7 rfl (lv_at hl 0 rfl) ?_
    refine va_get (D := (dC, dI)) (ci := 1) (v := .int (I 1)) (C := RX1) (T := TX1) (N := 6) hx hb hts iX1_matches_X1 hown hK hP 1 rfl rfl 5 (by decide) (hts (.fieldLink RX1 27 "CarrierBooks$Plan" "size" "I") (by decide +kernel)) (fun _ h9 => h9) rfl dX1_matches_8 ?_
    refine lv_icmp_ge (tgt := 34) hx hb dX1_matches_11 (by decide) (fun c1 => ?_) (fun c1 => ?_)
    · have h := h.1 c1
      refine lv_iload_n hx hb dX1_matches_34 rfl (lv_at hl 3 rfl) ?_
      exact W.iret (v := x3) hx hb hr (fun t ht hW => ⟨_, rfl, h, ht⟩) (fun q hq => by cases hq) dX1_matches_35
    · have h := h.2 c1
      refine lv_aload_n hx hb dX1_matches_14 rfl (lv_at hl 0 rfl) ?_
      refine lv_iload hx hb dX1_matches_15 (lv_at hl 4 rfl) ?_
      refine lv_iload_n hx hb dX1_matches_17 rfl (lv_at hl 1 rfl) ?_
      refine lv_iload_n hx hb dX1_matches_18 rfl (lv_at hl 2 rfl) ?_
      refine vp_callSi (cr_of (va_runV (As := [.int x4, .int x1, .int x2]) (rest := []) ⟨hx, hb, hml, hown, hts⟩ (cTX1_isMatch l dC dI cI ad I F x4 x1 x2 _ h) (cwV 3 hts gX1_matches_X1_isMatch rfl rfl rfl (by decide +kernel) ⟨Nat.le_of_ble_eq_true rfl, Nat.le_of_ble_eq_true rfl⟩) (pv_R hP hK hN 1 1 rfl rfl _) rfl rfl hl.1 rfl (lv_room (Nat.le_of_ble_eq_true rfl)) dX1_matches_19 ⟨Nat.le_of_ble_eq_true rfl, Nat.le_of_ble_eq_true rfl⟩)) (fun r2 h => ?_)
      refine lv_if_eq (tgt := 28) hx hb dX1_matches_22 (by decide) (fun c3 => ?_) (fun c3 => ?_)
      · have h := h.1 c3
        obtain ⟨v4, ev4⟩ : ∃ y : Int32, y = x4 + (1 : Int32) := ⟨_, rfl⟩
        have h := h v4 ev4
        refine lv_iinc (v := v4) (lv' := [(4, .int v4), (0, .ref (ad 1)), (1, .int x1), (2, .int x2), (3, .int x3)]) hx hb dX1_matches_28 hl (k := 4) rfl (by rw [ev4]; rfl) (by decide) rfl (fun ls hl => ?_)
        refine lv_goto (tgt := 5) hx hb dX1_matches_31 (by decide) ?_
        exact ih x1 x2 x3 v4 h ls (lv_sub hl [1, 2, 3, 4, 0] rfl)
      · have h := h.2 c3
        obtain ⟨v5, ev5⟩ : ∃ y : Int32, y = x3 + (1 : Int32) := ⟨_, rfl⟩
        have h := h v5 ev5
        refine lv_iinc (v := v5) (lv' := [(3, .int v5), (0, .ref (ad 1)), (1, .int x1), (2, .int x2), (4, .int x4)]) hx hb dX1_matches_25 hl (k := 3) rfl (by rw [ev5]; rfl) (by decide) rfl (fun ls hl => ?_)
        obtain ⟨v6, ev6⟩ : ∃ y : Int32, y = x4 + (1 : Int32) := ⟨_, rfl⟩
        have h := h v6 ev6
        refine lv_iinc (v := v6) (lv' := [(4, .int v6), (3, .int v5), (0, .ref (ad 1)), (1, .int x1), (2, .int x2)]) hx hb dX1_matches_28 hl (k := 4) rfl (by rw [ev6]; rfl) (by decide) rfl (fun ls hl => ?_)
        refine lv_goto (tgt := 5) hx hb dX1_matches_31 (by decide) ?_
        exact ih x1 x2 v5 v6 h ls (lv_sub hl [2, 3, 4, 1, 0] rfl)
set_option maxHeartbeats 4000000 in
set_option maxRecDepth 100000 in
theorem cTX1_matches (l : Launch) (dC : Nat → ClassId) (dI : Nat → Nat → Nat) (cI : ClassId) (ad : Nat → Nat) (I : Nat → Int32) (F : Nat → Nat → Int32) (x1 x2 : Int32) (post : Int32 → Prop) (h : wX1_matches I F x1 x2 post) : Met l yX1_matches wsX1_matches { frames := 1, cells := 0, slots := 0, locals := 23 } (va_Pc [.ref (ad 1), .int x1, .int x2] (PW dC dI cI (wC cI ad) I F)) (vp_Si post) 0 0 (fun _ => False) := by
  refine Met.ofW (cc := cX1_matches) (maxL := 5) (ret := (some .int)) (by decide) rfl ?_
  intro p e s m args below meth c s₁ B hml hv
  obtain ⟨rfl, hP, hK, hN⟩ := hv
  have hx := B.exec
  have hb := B.bytes
  have hr := B.returns
  have hts := atoms_spec (ws := wsX1_matches) B.pre
  have hown : s.vm.findClass RX1 = some m.cls := findClass_of_methodNamed B.named
  have hlocks := B.notSynchronized
  have C : Cx p s m _ meth c cX1_matches 5 (some .int) RX1 wsX1_matches := ⟨hx, hb, hml, hown, hts, hr, hlocks⟩
  have hl := lv_entry ([.ref (ad 1), .int x1, .int x2]) (n := 5) (Nat.le_of_ble_eq_true rfl)
  rw [lg_entry_eq]
  generalize (lg_sl ([.ref (ad 1), .int x1, .int x2]) ++ List.replicate (5 - (lg_sl ([.ref (ad 1), .int x1, .int x2])).length) Slot.unset).toArray = ls at hl ⊢
  have hl : lv_has ls 5 [(0, .ref (ad 1)), (1, .int x1), (2, .int x2)] := hl
  unfold wX1_matches at h
  refine lv_iconst (v := (0 : Int32)) hx hb dX1_matches_0 (by decide) ?_
  refine lv_istore_n (lv' := [(3, .int (0 : Int32)), (0, .ref (ad 1)), (1, .int x1), (2, .int x2)]) hx hb dX1_matches_1 rfl hl (by decide) rfl (fun ls hl => ?_)
  refine lv_iconst (v := (0 : Int32)) hx hb dX1_matches_2 (by decide) ?_
  refine lv_istore (lv' := [(4, .int (0 : Int32)), (3, .int (0 : Int32)), (0, .ref (ad 1)), (1, .int x1), (2, .int x2)]) hx hb dX1_matches_3 hl (by decide) rfl (fun ls hl => ?_)
  obtain ⟨n9, h⟩ := h
  exact sX1_matches_5 C hP hK hN post n9 x1 x2 (0 : Int32) (0 : Int32) h ls (lv_sub hl [2, 3, 4, 1, 0] rfl)

def bX1_firstFault_10 (I : Nat → Int32) (F : Nat → Nat → Int32) (K2 : Int32 → Prop) (post : Int32 → Prop) : Nat → Int32 → Int32 → Prop
  | 0 => fun _ _ => False
  | n + 1 => fun x1 x2 => (((9 : Int32) < x2 → ∀ v2 : Int32, v2 = x1 + (1 : Int32) → K2 v2) ∧ (¬ (9 : Int32) < x2 → wX1_matches I F x1 x2 (fun r3 => ((r3 = (1 : Int32) → ∀ v5 : Int32, v5 = x2 + (1 : Int32) → bX1_firstFault_10 I F K2 post n x1 v5) ∧ (¬ r3 = (1 : Int32) → post (((10 : Int32) * x1) + x2))))))
def bX1_firstFault_2 (I : Nat → Int32) (F : Nat → Nat → Int32) (post : Int32 → Prop) : Nat → Int32 → Prop
  | 0 => fun _ => False
  | n + 1 => fun x1 => (((49 : Int32) < x1 → post (-1 : Int32)) ∧ (¬ (49 : Int32) < x1 → ∃ n10 : Nat, bX1_firstFault_10 I F (bX1_firstFault_2 I F post n) post n10 x1 (0 : Int32)))
def wX1_firstFault (I : Nat → Int32) (F : Nat → Nat → Int32) (post : Int32 → Prop) : Prop := ∃ n2 : Nat, bX1_firstFault_2 I F post n2 (0 : Int32)
set_option maxHeartbeats 4000000 in
set_option maxRecDepth 100000 in
theorem sX1_firstFault_10 {p : Program} {l : Launch} {e : Env} {s : State} {m : MethodId} {args : Array Value} {below : List Frame} {meth : Method} {c : Code} {dC : Nat → ClassId} {dI : Nat → Nat → Nat} {cI : ClassId} {ad : Nat → Nat} {I : Nat → Int32} {F : Nat → Nat → Int32} (C : Cx p s m args meth c cX1_firstFault 3 (some .int) RX1 wsX1_firstFault) (hP : va_P (dC, dI) vwCl (wC cI ad I F) s.heap) (hK : va_K (dC, dI) vwCl [(cI, .int)] s) (hN : NW s) (post : Int32 → Prop) (K2 : Int32 → Prop) (hK2 : ∀ (x1 : Int32), K2 x1 → ∀ (ls : Array Slot), lv_has ls 3 [(0, .ref (ad 1)), (1, .int x1)] → W p l e { frames := 2, cells := 0, slots := 0, locals := 47 } s m args below meth c s.heap [] 0 0 (MQ below (vp_Si post) args s 0 0 (fun _ => False)) (F0 m 2 ls [])) : ∀ (n : Nat) (x1 x2 : Int32), bX1_firstFault_10 I F K2 post n x1 x2 → ∀ (ls : Array Slot), lv_has ls 3 [(0, .ref (ad 1)), (1, .int x1), (2, .int x2)] → W p l e { frames := 2, cells := 0, slots := 0, locals := 47 } s m args below meth c s.heap [] 0 0 (MQ below (vp_Si post) args s 0 0 (fun _ => False)) (F0 m 10 ls []) := by
  obtain ⟨hx, hb, hml, hown, hts, hr, hlocks⟩ := id C
  intro n
  induction n with
  | zero =>
    intro x1 x2 h ls hl
    exact h.elim
  | succ n ih =>
    intro x1 x2 h ls hl
    unfold bX1_firstFault_10 at h
    refine lv_iload_n hx hb dX1_firstFault_10 rfl (lv_at hl 2 rfl) ?_
    refine lv_bipush (v := (9 : Int32)) hx hb dX1_firstFault_11 (by decide) ?_
    refine lv_icmp_gt (tgt := 39) hx hb dX1_firstFault_13 (by decide) (fun c1 => ?_) (fun c1 => ?_)
    · have h := h.1 c1
      obtain ⟨v2, ev2⟩ : ∃ y : Int32, y = x1 + (1 : Int32) := ⟨_, rfl⟩
      have h := h v2 ev2
      refine lv_iinc (v := v2) (lv' := [(1, .int v2), (0, .ref (ad 1)), (2, .int x2)]) hx hb dX1_firstFault_39 hl (k := 1) rfl (by rw [ev2]; rfl) (by decide) rfl (fun ls hl => ?_)
      refine lv_goto (tgt := 2) hx hb dX1_firstFault_42 (by decide) ?_
      exact hK2 v2 h ls (lv_sub hl [1, 0] rfl)
    · have h := h.2 c1
      refine lv_aload_n hx hb dX1_firstFault_16 rfl (lv_at hl 0 rfl) ?_
      refine lv_iload_n hx hb dX1_firstFault_17 rfl (lv_at hl 1 rfl) ?_
      refine lv_iload_n hx hb dX1_firstFault_18 rfl (lv_at hl 2 rfl) ?_
      refine vp_callSi (cr_of (va_runV (As := [.int x1, .int x2]) (rest := []) ⟨hx, hb, hml, hown, hts⟩ (cTX1_matches l dC dI cI ad I F x1 x2 _ h) (cwV 2 hts gX1_firstFault_X1_matches rfl rfl rfl (by decide +kernel) ⟨Nat.le_of_ble_eq_true rfl, Nat.le_of_ble_eq_true rfl⟩) (pv_R hP hK hN 1 1 rfl rfl _) rfl rfl hl.1 rfl (lv_room (Nat.le_of_ble_eq_true rfl)) dX1_firstFault_19 ⟨Nat.le_of_ble_eq_true rfl, Nat.le_of_ble_eq_true rfl⟩)) (fun r3 h => ?_)
      refine lv_iconst (v := (1 : Int32)) hx hb dX1_firstFault_22 (by decide) ?_
      refine lv_icmp_eq (tgt := 33) hx hb dX1_firstFault_23 (by decide) (fun c4 => ?_) (fun c4 => ?_)
      · have h := h.1 c4
        obtain ⟨v5, ev5⟩ : ∃ y : Int32, y = x2 + (1 : Int32) := ⟨_, rfl⟩
        have h := h v5 ev5
        refine lv_iinc (v := v5) (lv' := [(2, .int v5), (0, .ref (ad 1)), (1, .int x1)]) hx hb dX1_firstFault_33 hl (k := 2) rfl (by rw [ev5]; rfl) (by decide) rfl (fun ls hl => ?_)
        refine lv_goto (tgt := 10) hx hb dX1_firstFault_36 (by decide) ?_
        exact ih x1 v5 h ls (lv_sub hl [1, 2, 0] rfl)
      · have h := h.2 c4
        refine lv_bipush (v := (10 : Int32)) hx hb dX1_firstFault_26 (by decide) ?_
        refine lv_iload_n hx hb dX1_firstFault_28 rfl (lv_at hl 1 rfl) ?_
        refine lv_imul hx hb dX1_firstFault_29 ?_
        refine lv_iload_n hx hb dX1_firstFault_30 rfl (lv_at hl 2 rfl) ?_
        refine lv_iadd hx hb dX1_firstFault_31 ?_
        exact W.iret (v := (((10 : Int32) * x1) + x2)) hx hb hr (fun t ht hW => ⟨_, rfl, h, ht⟩) (fun q hq => by cases hq) dX1_firstFault_32
set_option maxHeartbeats 4000000 in
set_option maxRecDepth 100000 in
theorem sX1_firstFault_2 {p : Program} {l : Launch} {e : Env} {s : State} {m : MethodId} {args : Array Value} {below : List Frame} {meth : Method} {c : Code} {dC : Nat → ClassId} {dI : Nat → Nat → Nat} {cI : ClassId} {ad : Nat → Nat} {I : Nat → Int32} {F : Nat → Nat → Int32} (C : Cx p s m args meth c cX1_firstFault 3 (some .int) RX1 wsX1_firstFault) (hP : va_P (dC, dI) vwCl (wC cI ad I F) s.heap) (hK : va_K (dC, dI) vwCl [(cI, .int)] s) (hN : NW s) (post : Int32 → Prop) : ∀ (n : Nat) (x1 : Int32), bX1_firstFault_2 I F post n x1 → ∀ (ls : Array Slot), lv_has ls 3 [(0, .ref (ad 1)), (1, .int x1)] → W p l e { frames := 2, cells := 0, slots := 0, locals := 47 } s m args below meth c s.heap [] 0 0 (MQ below (vp_Si post) args s 0 0 (fun _ => False)) (F0 m 2 ls []) := by
  obtain ⟨hx, hb, hml, hown, hts, hr, hlocks⟩ := id C
  intro n
  induction n with
  | zero =>
    intro x1 h ls hl
    exact h.elim
  | succ n ih =>
    intro x1 h ls hl
    unfold bX1_firstFault_2 at h
    refine lv_iload_n hx hb dX1_firstFault_2 rfl (lv_at hl 1 rfl) ?_
    refine lv_bipush (v := (49 : Int32)) hx hb dX1_firstFault_3 (by decide) ?_
    refine lv_icmp_gt (tgt := 45) hx hb dX1_firstFault_5 (by decide) (fun c6 => ?_) (fun c6 => ?_)
    · have h := h.1 c6
      refine lv_iconst (v := (-1 : Int32)) hx hb dX1_firstFault_45 (by decide) ?_
      exact W.iret (v := (-1 : Int32)) hx hb hr (fun t ht hW => ⟨_, rfl, h, ht⟩) (fun q hq => by cases hq) dX1_firstFault_46
    · have h := h.2 c6
      refine lv_iconst (v := (0 : Int32)) hx hb dX1_firstFault_8 (by decide) ?_
      refine lv_istore_n (lv' := [(2, .int (0 : Int32)), (0, .ref (ad 1)), (1, .int x1)]) hx hb dX1_firstFault_9 rfl hl (by decide) rfl (fun ls hl => ?_)
      obtain ⟨n9, h⟩ := h
      exact sX1_firstFault_10 C hP hK hN post (bX1_firstFault_2 I F post n) ih n9 x1 (0 : Int32) h ls (lv_sub hl [1, 2, 0] rfl)
set_option maxHeartbeats 4000000 in
set_option maxRecDepth 100000 in
theorem cTX1_firstFault (l : Launch) (dC : Nat → ClassId) (dI : Nat → Nat → Nat) (cI : ClassId) (ad : Nat → Nat) (I : Nat → Int32) (F : Nat → Nat → Int32) (post : Int32 → Prop) (h : wX1_firstFault I F post) : Met l yX1_firstFault wsX1_firstFault { frames := 2, cells := 0, slots := 0, locals := 47 } (va_Pc [.ref (ad 1)] (PW dC dI cI (wC cI ad) I F)) (vp_Si post) 0 0 (fun _ => False) := by
  refine Met.ofW (cc := cX1_firstFault) (maxL := 3) (ret := (some .int)) (by decide) rfl ?_
  intro p e s m args below meth c s₁ B hml hv
  obtain ⟨rfl, hP, hK, hN⟩ := hv
  have hx := B.exec
  have hb := B.bytes
  have hr := B.returns
  have hts := atoms_spec (ws := wsX1_firstFault) B.pre
  have hown : s.vm.findClass RX1 = some m.cls := findClass_of_methodNamed B.named
  have hlocks := B.notSynchronized
  have C : Cx p s m _ meth c cX1_firstFault 3 (some .int) RX1 wsX1_firstFault := ⟨hx, hb, hml, hown, hts, hr, hlocks⟩
  have hl := lv_entry ([.ref (ad 1)]) (n := 3) (Nat.le_of_ble_eq_true rfl)
  rw [lg_entry_eq]
  generalize (lg_sl ([.ref (ad 1)]) ++ List.replicate (3 - (lg_sl ([.ref (ad 1)])).length) Slot.unset).toArray = ls at hl ⊢
  have hl : lv_has ls 3 [(0, .ref (ad 1))] := hl
  unfold wX1_firstFault at h
  refine lv_iconst (v := (0 : Int32)) hx hb dX1_firstFault_0 (by decide) ?_
  refine lv_istore_n (lv' := [(1, .int (0 : Int32)), (0, .ref (ad 1))]) hx hb dX1_firstFault_1 rfl hl (by decide) rfl (fun ls hl => ?_)
  obtain ⟨n9, h⟩ := h
  exact sX1_firstFault_2 C hP hK hN post n9 (0 : Int32) h ls (lv_sub hl [1, 0] rfl)

theorem iX1_rateOf_X1 : ∀ w ∈ wsX10, w ∈ wsX1_rateOf := by decide +kernel
def bX1_rateOf_2 (I : Nat → Int32) (F : Nat → Nat → Int32) (post : Int32 → Prop) : Nat → Int32 → Int32 → Int32 → Prop
  | 0 => fun _ _ _ => False
  | n + 1 => fun x1 x2 x3 => (((I 1) ≤ x3 → post (0 : Int32)) ∧ (¬ (I 1) ≤ x3 → wX1_isMatch I F x3 x1 x2 (fun r2 => ((r2 = (0 : Int32) → ∀ v4 : Int32, v4 = x3 + (1 : Int32) → bX1_rateOf_2 I F post n x1 x2 v4) ∧ (¬ r2 = (0 : Int32) → vp_in x3 8 ∧ post (F 9 (Int32.toNatClampNeg x3)))))))
def wX1_rateOf (I : Nat → Int32) (F : Nat → Nat → Int32) (x1 x2 : Int32) (post : Int32 → Prop) : Prop := ∃ n2 : Nat, bX1_rateOf_2 I F post n2 x1 x2 (0 : Int32)
set_option maxHeartbeats 4000000 in
set_option maxRecDepth 100000 in
theorem sX1_rateOf_2 {p : Program} {l : Launch} {e : Env} {s : State} {m : MethodId} {args : Array Value} {below : List Frame} {meth : Method} {c : Code} {dC : Nat → ClassId} {dI : Nat → Nat → Nat} {cI : ClassId} {ad : Nat → Nat} {I : Nat → Int32} {F : Nat → Nat → Int32} (C : Cx p s m args meth c cX1_rateOf 4 (some .int) RX1 wsX1_rateOf) (hP : va_P (dC, dI) vwCl (wC cI ad I F) s.heap) (hK : va_K (dC, dI) vwCl [(cI, .int)] s) (hN : NW s) (post : Int32 → Prop) : ∀ (n : Nat) (x1 x2 x3 : Int32), bX1_rateOf_2 I F post n x1 x2 x3 → ∀ (ls : Array Slot), lv_has ls 4 [(0, .ref (ad 1)), (1, .int x1), (2, .int x2), (3, .int x3)] → W p l e { frames := 1, cells := 0, slots := 0, locals := 23 } s m args below meth c s.heap [] 0 0 (MQ below (vp_Si post) args s 0 0 (fun _ => False)) (F0 m 2 ls []) := by
  obtain ⟨hx, hb, hml, hown, hts, hr, hlocks⟩ := id C
  intro n
  induction n with
  | zero =>
    intro x1 x2 x3 h ls hl
    exact h.elim
  | succ n ih =>
    intro x1 x2 x3 h ls hl
    unfold bX1_rateOf_2 at h
    refine lv_iload_n hx hb dX1_rateOf_2 rfl (lv_at hl 3 rfl) ?_
    refine lv_aload_n hx hb dX1_rateOf_3 rfl (lv_at hl 0 rfl) ?_
    refine va_get (D := (dC, dI)) (ci := 1) (v := .int (I 1)) (C := RX1) (T := TX1) (N := 6) hx hb hts iX1_rateOf_X1 hown hK hP 1 rfl rfl 5 (by decide) (hts (.fieldLink RX1 27 "CarrierBooks$Plan" "size" "I") (by decide +kernel)) (fun _ h9 => h9) rfl dX1_rateOf_4 ?_
    refine lv_icmp_ge (tgt := 33) hx hb dX1_rateOf_7 (by decide) (fun c1 => ?_) (fun c1 => ?_)
    · have h := h.1 c1
      refine lv_iconst (v := (0 : Int32)) hx hb dX1_rateOf_33 (by decide) ?_
      exact W.iret (v := (0 : Int32)) hx hb hr (fun t ht hW => ⟨_, rfl, h, ht⟩) (fun q hq => by cases hq) dX1_rateOf_34
    · have h := h.2 c1
      refine lv_aload_n hx hb dX1_rateOf_10 rfl (lv_at hl 0 rfl) ?_
      refine lv_iload_n hx hb dX1_rateOf_11 rfl (lv_at hl 3 rfl) ?_
      refine lv_iload_n hx hb dX1_rateOf_12 rfl (lv_at hl 1 rfl) ?_
      refine lv_iload_n hx hb dX1_rateOf_13 rfl (lv_at hl 2 rfl) ?_
      refine vp_callSi (cr_of (va_runV (As := [.int x3, .int x1, .int x2]) (rest := []) ⟨hx, hb, hml, hown, hts⟩ (cTX1_isMatch l dC dI cI ad I F x3 x1 x2 _ h) (cwV 3 hts gX1_rateOf_X1_isMatch rfl rfl rfl (by decide +kernel) ⟨Nat.le_of_ble_eq_true rfl, Nat.le_of_ble_eq_true rfl⟩) (pv_R hP hK hN 1 1 rfl rfl _) rfl rfl hl.1 rfl (lv_room (Nat.le_of_ble_eq_true rfl)) dX1_rateOf_14 ⟨Nat.le_of_ble_eq_true rfl, Nat.le_of_ble_eq_true rfl⟩)) (fun r2 h => ?_)
      refine lv_if_eq (tgt := 27) hx hb dX1_rateOf_17 (by decide) (fun c3 => ?_) (fun c3 => ?_)
      · have h := h.1 c3
        obtain ⟨v4, ev4⟩ : ∃ y : Int32, y = x3 + (1 : Int32) := ⟨_, rfl⟩
        have h := h v4 ev4
        refine lv_iinc (v := v4) (lv' := [(3, .int v4), (0, .ref (ad 1)), (1, .int x1), (2, .int x2)]) hx hb dX1_rateOf_27 hl (k := 3) rfl (by rw [ev4]; rfl) (by decide) rfl (fun ls hl => ?_)
        refine lv_goto (tgt := 2) hx hb dX1_rateOf_30 (by decide) ?_
        exact ih x1 x2 v4 h ls (lv_sub hl [1, 2, 3, 0] rfl)
      · have h := h.2 c3
        refine lv_aload_n hx hb dX1_rateOf_20 rfl (lv_at hl 0 rfl) ?_
        refine va_get (D := (dC, dI)) (ci := 1) (v := .ref (ad 9)) (C := RX1) (T := TX1) (N := 6) hx hb hts iX1_rateOf_X1 hown hK hP 1 rfl rfl 4 (by decide) (hts (.fieldLink RX1 24 "CarrierBooks$Plan" "rate" "[I") (by decide +kernel)) (fun _ h9 => h9) rfl dX1_rateOf_21 ?_
        refine lv_iload_n hx hb dX1_rateOf_24 rfl (lv_at hl 3 rfl) ?_
        obtain ⟨hin5, h⟩ := h
        refine va_iald hx hb hK hP 9 0 rfl rfl hin5 dX1_rateOf_25 ?_
        exact W.iret (v := (F 9 (Int32.toNatClampNeg x3))) hx hb hr (fun t ht hW => ⟨_, rfl, h, ht⟩) (fun q hq => by cases hq) dX1_rateOf_26
set_option maxHeartbeats 4000000 in
set_option maxRecDepth 100000 in
theorem cTX1_rateOf (l : Launch) (dC : Nat → ClassId) (dI : Nat → Nat → Nat) (cI : ClassId) (ad : Nat → Nat) (I : Nat → Int32) (F : Nat → Nat → Int32) (x1 x2 : Int32) (post : Int32 → Prop) (h : wX1_rateOf I F x1 x2 post) : Met l yX1_rateOf wsX1_rateOf { frames := 1, cells := 0, slots := 0, locals := 23 } (va_Pc [.ref (ad 1), .int x1, .int x2] (PW dC dI cI (wC cI ad) I F)) (vp_Si post) 0 0 (fun _ => False) := by
  refine Met.ofW (cc := cX1_rateOf) (maxL := 4) (ret := (some .int)) (by decide) rfl ?_
  intro p e s m args below meth c s₁ B hml hv
  obtain ⟨rfl, hP, hK, hN⟩ := hv
  have hx := B.exec
  have hb := B.bytes
  have hr := B.returns
  have hts := atoms_spec (ws := wsX1_rateOf) B.pre
  have hown : s.vm.findClass RX1 = some m.cls := findClass_of_methodNamed B.named
  have hlocks := B.notSynchronized
  have C : Cx p s m _ meth c cX1_rateOf 4 (some .int) RX1 wsX1_rateOf := ⟨hx, hb, hml, hown, hts, hr, hlocks⟩
  have hl := lv_entry ([.ref (ad 1), .int x1, .int x2]) (n := 4) (Nat.le_of_ble_eq_true rfl)
  rw [lg_entry_eq]
  generalize (lg_sl ([.ref (ad 1), .int x1, .int x2]) ++ List.replicate (4 - (lg_sl ([.ref (ad 1), .int x1, .int x2])).length) Slot.unset).toArray = ls at hl ⊢
  have hl : lv_has ls 4 [(0, .ref (ad 1)), (1, .int x1), (2, .int x2)] := hl
  unfold wX1_rateOf at h
  refine lv_iconst (v := (0 : Int32)) hx hb dX1_rateOf_0 (by decide) ?_
  refine lv_istore_n (lv' := [(3, .int (0 : Int32)), (0, .ref (ad 1)), (1, .int x1), (2, .int x2)]) hx hb dX1_rateOf_1 rfl hl (by decide) rfl (fun ls hl => ?_)
  obtain ⟨n9, h⟩ := h
  exact sX1_rateOf_2 C hP hK hN post n9 x1 x2 (0 : Int32) h ls (lv_sub hl [1, 2, 3, 0] rfl)
