theorem iX0_hasRoomFor_X0 : ∀ w ∈ wsX00, w ∈ wsX0_hasRoomFor := by decide +kernel
def wX0_hasRoomFor (I : Nat → Int32) (F : Nat → Nat → Int32) (x1 x2 x3 : Int32) (post : Int32 → Prop) : Prop := wX0_needed x1 (fun r1 => wX0_needed x2 (fun r2 => wX0_needed x3 (fun r3 => (((90 : Int32) < ((((I 14) + r1) + r2) + r3) → post (0 : Int32)) ∧ (¬ (90 : Int32) < ((((I 14) + r1) + r2) + r3) → post (1 : Int32))))))
set_option maxHeartbeats 4000000 in
set_option maxRecDepth 100000 in
theorem cTX0_hasRoomFor (l : Launch) (dC : Nat → ClassId) (dI : Nat → Nat → Nat) (cI : ClassId) (ad : Nat → Nat) (I : Nat → Int32) (F : Nat → Nat → Int32) (x1 x2 x3 : Int32) (post : Int32 → Prop) (h : wX0_hasRoomFor I F x1 x2 x3 post) : Met l yX0_hasRoomFor wsX0_hasRoomFor { frames := 1, cells := 0, slots := 0, locals := 20 } (va_Pc [.ref (ad 4), .int x1, .int x2, .int x3] (PW dC dI cI (wC cI ad) I F)) (vp_Si post) 0 0 (fun _ => False) := by
  refine Met.ofW (cc := cX0_hasRoomFor) (maxL := 4) (ret := (some .boolean)) (by decide) rfl ?_
  intro p e s m args below meth c s₁ B hml hv
  obtain ⟨rfl, hP, hK, hN⟩ := hv
  have hx := B.exec
  have hb := B.bytes
  have hr := B.returns
  have hts := atoms_spec (ws := wsX0_hasRoomFor) B.pre
  have hown : s.vm.findClass RX0 = some m.cls := findClass_of_methodNamed B.named
  have hlocks := B.notSynchronized
  have C : Cx p s m _ meth c cX0_hasRoomFor 4 (some .boolean) RX0 wsX0_hasRoomFor := ⟨hx, hb, hml, hown, hts, hr, hlocks⟩
  have hl := lv_entry ([.ref (ad 4), .int x1, .int x2, .int x3]) (n := 4) (Nat.le_of_ble_eq_true rfl)
  rw [lg_entry_eq]
  generalize (lg_sl ([.ref (ad 4), .int x1, .int x2, .int x3]) ++ List.replicate (4 - (lg_sl ([.ref (ad 4), .int x1, .int x2, .int x3])).length) Slot.unset).toArray = ls at hl ⊢
  have hl : lv_has ls 4 [(0, .ref (ad 4)), (1, .int x1), (2, .int x2), (3, .int x3)] := hl
  unfold wX0_hasRoomFor at h
  refine lv_aload_n hx hb dX0_hasRoomFor_0 rfl (lv_at hl 0 rfl) ?_
  refine va_get (D := (dC, dI)) (ci := 0) (v := .int (I 14)) (C := RX0) (T := TX0) (N := 3) hx hb hts iX0_hasRoomFor_X0 hown hK hP 4 rfl rfl 2 (by decide) (hts (.fieldLink RX0 18 "CarrierBooks$Journal" "size" "I") (by decide +kernel)) (fun _ h9 => h9) rfl dX0_hasRoomFor_1 ?_
  refine lv_iload_n hx hb dX0_hasRoomFor_4 rfl (lv_at hl 1 rfl) ?_
  refine vp_callSi (cr_of (va_runS (As := [.int x1]) (rest := [.int (I 14)]) ⟨hx, hb, hml, hown, hts⟩ (cTX0_needed l x1 _ h) (va_cwS 1 hts gX0_hasRoomFor_X0_needed rfl rfl rfl (by decide +kernel) ⟨Nat.le_of_ble_eq_true rfl, Nat.le_of_ble_eq_true rfl⟩) (pv_S _) rfl rfl hl.1 rfl (lv_room (Nat.le_of_ble_eq_true rfl)) dX0_hasRoomFor_5 ⟨Nat.le_of_ble_eq_true rfl, Nat.le_of_ble_eq_true rfl⟩)) (fun r1 h => ?_)
  refine lv_iadd hx hb dX0_hasRoomFor_8 ?_
  refine lv_iload_n hx hb dX0_hasRoomFor_9 rfl (lv_at hl 2 rfl) ?_
  refine vp_callSi (cr_of (va_runS (As := [.int x2]) (rest := [.int ((I 14) + r1)]) ⟨hx, hb, hml, hown, hts⟩ (cTX0_needed l x2 _ h) (va_cwS 1 hts gX0_hasRoomFor_X0_needed rfl rfl rfl (by decide +kernel) ⟨Nat.le_of_ble_eq_true rfl, Nat.le_of_ble_eq_true rfl⟩) (pv_S _) rfl rfl hl.1 rfl (lv_room (Nat.le_of_ble_eq_true rfl)) dX0_hasRoomFor_10 ⟨Nat.le_of_ble_eq_true rfl, Nat.le_of_ble_eq_true rfl⟩)) (fun r2 h => ?_)
  refine lv_iadd hx hb dX0_hasRoomFor_13 ?_
  refine lv_iload_n hx hb dX0_hasRoomFor_14 rfl (lv_at hl 3 rfl) ?_
  refine vp_callSi (cr_of (va_runS (As := [.int x3]) (rest := [.int (((I 14) + r1) + r2)]) ⟨hx, hb, hml, hown, hts⟩ (cTX0_needed l x3 _ h) (va_cwS 1 hts gX0_hasRoomFor_X0_needed rfl rfl rfl (by decide +kernel) ⟨Nat.le_of_ble_eq_true rfl, Nat.le_of_ble_eq_true rfl⟩) (pv_S _) rfl rfl hl.1 rfl (lv_room (Nat.le_of_ble_eq_true rfl)) dX0_hasRoomFor_15 ⟨Nat.le_of_ble_eq_true rfl, Nat.le_of_ble_eq_true rfl⟩)) (fun r3 h => ?_)
  refine lv_iadd hx hb dX0_hasRoomFor_18 ?_
  refine lv_bipush (v := (90 : Int32)) hx hb dX0_hasRoomFor_19 (by decide) ?_
  refine lv_icmp_gt (tgt := 28) hx hb dX0_hasRoomFor_21 (by decide) (fun c4 => ?_) (fun c4 => ?_)
  · have h := h.1 c4
    refine lv_iconst (v := (0 : Int32)) hx hb dX0_hasRoomFor_28 (by decide) ?_
    exact W.zret (v := (0 : Int32)) hx hb hr rfl (fun t ht hW => ⟨_, rfl, h, ht⟩) (fun q hq => by cases hq) dX0_hasRoomFor_29
  · have h := h.2 c4
    refine lv_iconst (v := (1 : Int32)) hx hb dX0_hasRoomFor_24 (by decide) ?_
    refine lv_goto (tgt := 29) hx hb dX0_hasRoomFor_25 (by decide) ?_
    exact W.zret (v := (1 : Int32)) hx hb hr rfl (fun t ht hW => ⟨_, rfl, h, ht⟩) (fun q hq => by cases hq) dX0_hasRoomFor_29

theorem iX0_enter_X0 : ∀ w ∈ wsX00, w ∈ wsX0_enter := by decide +kernel
def wX0_enter (I : Nat → Int32) (F : Nat → Nat → Int32) (x1 x2 x3 : Int32) (post : (Nat → Int32) → (Nat → Nat → Int32) → Prop) : Prop := ∀ v1 : Int32, v1 = ((I 14) * (3 : Int32)) → vp_in v1 270 ∧ ∀ F2 : Nat → Nat → Int32, F2 = va_up F 20 (upd (F 20) (Int32.toNatClampNeg v1) x2) → vp_in (v1 + (1 : Int32)) 270 ∧ ∀ F4 : Nat → Nat → Int32, F4 = va_up F2 20 (upd (F2 20) (Int32.toNatClampNeg (v1 + (1 : Int32))) x3) → vp_in (v1 + (2 : Int32)) 270 ∧ ∀ F6 : Nat → Nat → Int32, F6 = va_up F4 20 (upd (F4 20) (Int32.toNatClampNeg (v1 + (2 : Int32))) x1) → ∀ v8 : Int32, v8 = ((I 14) + (1 : Int32)) → ∀ I9 : Nat → Int32, I9 = va_up I 14 v8 → vp_in x2 7 ∧ ∀ v11 : Int32, v11 = ((F6 21 (Int32.toNatClampNeg x2)) - x1) → vp_in x2 7 ∧ ∀ F12 : Nat → Nat → Int32, F12 = va_up F6 21 (upd (F6 21) (Int32.toNatClampNeg x2) v11) → vp_in x3 7 ∧ ∀ v15 : Int32, v15 = ((F12 21 (Int32.toNatClampNeg x3)) + x1) → vp_in x3 7 ∧ ∀ F16 : Nat → Nat → Int32, F16 = va_up F12 21 (upd (F12 21) (Int32.toNatClampNeg x3) v15) → post I9 F16
set_option maxHeartbeats 4000000 in
set_option maxRecDepth 100000 in
theorem cTX0_enter (l : Launch) (dC : Nat → ClassId) (dI : Nat → Nat → Nat) (cI : ClassId) (ad : Nat → Nat) (I : Nat → Int32) (F : Nat → Nat → Int32) (sz : Nat) (x1 x2 x3 : Int32) (post : (Nat → Int32) → (Nat → Nat → Int32) → Prop) (h : wX0_enter I F x1 x2 x3 post) : Met l yX0_enter wsX0_enter { frames := 0, cells := 0, slots := 0, locals := 0 } (va_Pc [.ref (ad 4), .int x1, .int x2, .int x3] (PWw dC dI cI (wC cI ad) I F sz)) (QWv dC dI (wC cI ad) post (va_A (wC cI ad I F) sz)) 0 0 (va_A (wC cI ad I F) sz) := by
  refine Met.ofW (cc := cX0_enter) (maxL := 5) (ret := none) (by decide) rfl ?_
  intro p e s m args below meth c s₁ B hml hv
  obtain ⟨rfl, hsz, ⟨hP, hK, hN⟩, hD0⟩ := hv
  subst hsz
  have hD := wD_any (wC_fix cI ad) (hD0.self (sz := s.heap.size))
  generalize hAe : va_A (wC cI ad I F) s.heap.size = A at hD ⊢
  have hA : ∀ q : Nat, s.heap.size ≤ q → A q := fun q h => by rw [← hAe]; exact Or.inr h
  clear hAe hD0
  have hx := B.exec
  have hb := B.bytes
  have hr := B.returns
  have hts := atoms_spec (ws := wsX0_enter) B.pre
  have hown : s.vm.findClass RX0 = some m.cls := findClass_of_methodNamed B.named
  have hlocks := B.notSynchronized
  have C : Cx p s m _ meth c cX0_enter 5 none RX0 wsX0_enter := ⟨hx, hb, hml, hown, hts, hr, hlocks⟩
  have hS : va_S A s.heap s.heap [] := va_S.rf
  have hl := lv_entry ([.ref (ad 4), .int x1, .int x2, .int x3]) (n := 5) (Nat.le_of_ble_eq_true rfl)
  rw [lg_entry_eq]
  generalize (lg_sl ([.ref (ad 4), .int x1, .int x2, .int x3]) ++ List.replicate (5 - (lg_sl ([.ref (ad 4), .int x1, .int x2, .int x3])).length) Slot.unset).toArray = ls at hl ⊢
  have hl : lv_has ls 5 [(0, .ref (ad 4)), (1, .int x1), (2, .int x2), (3, .int x3)] := hl
  unfold wX0_enter at h
  refine lv_aload_n hx hb dX0_enter_0 rfl (lv_at hl 0 rfl) ?_
  refine va_get (D := (dC, dI)) (ci := 0) (v := .int (I 14)) (C := RX0) (T := TX0) (N := 3) hx hb hts iX0_enter_X0 hown hK hP 4 rfl rfl 2 (by decide) (hts (.fieldLink RX0 18 "CarrierBooks$Journal" "size" "I") (by decide +kernel)) (fun _ h9 => h9) rfl dX0_enter_1 ?_
  refine lv_iconst (v := (3 : Int32)) hx hb dX0_enter_4 (by decide) ?_
  refine lv_imul hx hb dX0_enter_5 ?_
  refine lv_topi (fun v1 ev1 => ?_)
  have h := h v1 ev1
  refine lv_istore (lv' := [(4, .int v1), (0, .ref (ad 4)), (1, .int x1), (2, .int x2), (3, .int x3)]) hx hb dX0_enter_6 hl (by decide) rfl (fun ls hl => ?_)
  refine lv_aload_n hx hb dX0_enter_8 rfl (lv_at hl 1 rfl) ?_
  refine va_get (D := (dC, dI)) (ci := 0) (v := .ref (ad 20)) (C := RX0) (T := TX0) (N := 3) hx hb hts iX0_enter_X0 hown hK hP 4 rfl rfl 0 (by decide) (hts (.fieldLink RX0 9 "CarrierBooks$Journal" "figures" "[I") (by decide +kernel)) (fun _ h9 => h9) rfl dX0_enter_9 ?_
  refine lv_iload hx hb dX0_enter_12 (lv_at hl 0 rfl) ?_
  refine lv_iload_n hx hb dX0_enter_14 rfl (lv_at hl 3 rfl) ?_
  obtain ⟨hin3, h⟩ := h
  refine ast_w (wf := wC cI ad) hx hb hK hP hD hS 20 20 rfl hin3 rfl dX0_enter_15 (fun F2 eF2 H locs hP hS => ?_)
  have h := h F2 eF2
  refine lv_aload_n hx hb dX0_enter_16 rfl (lv_at hl 1 rfl) ?_
  refine va_get (D := (dC, dI)) (ci := 0) (v := .ref (ad 20)) (C := RX0) (T := TX0) (N := 3) hx hb hts iX0_enter_X0 hown hK hP 4 rfl rfl 0 (by decide) (hts (.fieldLink RX0 9 "CarrierBooks$Journal" "figures" "[I") (by decide +kernel)) (fun _ h9 => h9) rfl dX0_enter_17 ?_
  refine lv_iload hx hb dX0_enter_20 (lv_at hl 0 rfl) ?_
  refine lv_iconst (v := (1 : Int32)) hx hb dX0_enter_22 (by decide) ?_
  refine lv_iadd hx hb dX0_enter_23 ?_
  refine lv_iload_n hx hb dX0_enter_24 rfl (lv_at hl 4 rfl) ?_
  obtain ⟨hin5, h⟩ := h
  refine ast_w (wf := wC cI ad) hx hb hK hP hD hS 20 20 rfl hin5 rfl dX0_enter_25 (fun F4 eF4 H locs hP hS => ?_)
  have h := h F4 eF4
  refine lv_aload_n hx hb dX0_enter_26 rfl (lv_at hl 1 rfl) ?_
  refine va_get (D := (dC, dI)) (ci := 0) (v := .ref (ad 20)) (C := RX0) (T := TX0) (N := 3) hx hb hts iX0_enter_X0 hown hK hP 4 rfl rfl 0 (by decide) (hts (.fieldLink RX0 9 "CarrierBooks$Journal" "figures" "[I") (by decide +kernel)) (fun _ h9 => h9) rfl dX0_enter_27 ?_
  refine lv_iload hx hb dX0_enter_30 (lv_at hl 0 rfl) ?_
  refine lv_iconst (v := (2 : Int32)) hx hb dX0_enter_32 (by decide) ?_
  refine lv_iadd hx hb dX0_enter_33 ?_
  refine lv_iload_n hx hb dX0_enter_34 rfl (lv_at hl 2 rfl) ?_
  obtain ⟨hin7, h⟩ := h
  refine ast_w (wf := wC cI ad) hx hb hK hP hD hS 20 20 rfl hin7 rfl dX0_enter_35 (fun F6 eF6 H locs hP hS => ?_)
  have h := h F6 eF6
  refine lv_aload_n hx hb dX0_enter_36 rfl (lv_at hl 1 rfl) ?_
  refine lv_dup hx hb dX0_enter_37 rfl ?_
  refine va_get (D := (dC, dI)) (ci := 0) (v := .int (I 14)) (C := RX0) (T := TX0) (N := 3) hx hb hts iX0_enter_X0 hown hK hP 4 rfl rfl 2 (by decide) (hts (.fieldLink RX0 18 "CarrierBooks$Journal" "size" "I") (by decide +kernel)) (fun _ h9 => h9) rfl dX0_enter_38 ?_
  refine lv_iconst (v := (1 : Int32)) hx hb dX0_enter_41 (by decide) ?_
  refine lv_iadd hx hb dX0_enter_42 ?_
  refine lv_topi (fun v8 ev8 => ?_)
  have h := h v8 ev8
  refine put_w (wf := wC cI ad) (ci := 0) (C := RX0) (T := TX0) (N := 3) hx hb hts iX0_enter_X0 tyX0 tyX0_ok nmX0 hown hK hP hD hS 4 rfl rfl 2 (by decide) (hts (.fieldLink RX0 18 "CarrierBooks$Journal" "size" "I") (by decide +kernel)) (fun _ h9 => h9) rfl 14 (by decide +kernel) (Nat.le_of_ble_eq_true rfl) rfl dX0_enter_43 (fun I9 eI9 H locs hP hS => ?_)
  have h := h I9 eI9
  refine lv_aload_n hx hb dX0_enter_46 rfl (lv_at hl 1 rfl) ?_
  refine va_get (D := (dC, dI)) (ci := 0) (v := .ref (ad 21)) (C := RX0) (T := TX0) (N := 3) hx hb hts iX0_enter_X0 hown hK hP 4 rfl rfl 1 (by decide) (hts (.fieldLink RX0 15 "CarrierBooks$Journal" "balances" "[I") (by decide +kernel)) (fun _ h9 => h9) rfl dX0_enter_47 ?_
  refine lv_iload_n hx hb dX0_enter_50 rfl (lv_at hl 3 rfl) ?_
  refine lv_dup2_11 hx hb dX0_enter_51 rfl rfl ?_
  obtain ⟨hin10, h⟩ := h
  refine va_iald hx hb hK hP 21 0 rfl rfl hin10 dX0_enter_52 ?_
  refine lv_iload_n hx hb dX0_enter_53 rfl (lv_at hl 2 rfl) ?_
  refine lv_isub hx hb dX0_enter_54 ?_
  refine lv_topi (fun v11 ev11 => ?_)
  have h := h v11 ev11
  obtain ⟨hin13, h⟩ := h
  refine ast_w (wf := wC cI ad) hx hb hK hP hD hS 21 21 rfl hin13 rfl dX0_enter_55 (fun F12 eF12 H locs hP hS => ?_)
  have h := h F12 eF12
  refine lv_aload_n hx hb dX0_enter_56 rfl (lv_at hl 1 rfl) ?_
  refine va_get (D := (dC, dI)) (ci := 0) (v := .ref (ad 21)) (C := RX0) (T := TX0) (N := 3) hx hb hts iX0_enter_X0 hown hK hP 4 rfl rfl 1 (by decide) (hts (.fieldLink RX0 15 "CarrierBooks$Journal" "balances" "[I") (by decide +kernel)) (fun _ h9 => h9) rfl dX0_enter_57 ?_
  refine lv_iload_n hx hb dX0_enter_60 rfl (lv_at hl 4 rfl) ?_
  refine lv_dup2_11 hx hb dX0_enter_61 rfl rfl ?_
  obtain ⟨hin14, h⟩ := h
  refine va_iald hx hb hK hP 21 0 rfl rfl hin14 dX0_enter_62 ?_
  refine lv_iload_n hx hb dX0_enter_63 rfl (lv_at hl 2 rfl) ?_
  refine lv_iadd hx hb dX0_enter_64 ?_
  refine lv_topi (fun v15 ev15 => ?_)
  have h := h v15 ev15
  obtain ⟨hin17, h⟩ := h
  refine ast_w (wf := wC cI ad) hx hb hK hP hD hS 21 21 rfl hin17 rfl dX0_enter_65 (fun F16 eF16 H locs hP hS => ?_)
  have h := h F16 eF16
  exact W.vret hx hb hr (fun t ht hW => ⟨⟨(I9, F16), rfl, h, by show va_P _ _ _ t.heap; rw [ht]; exact hP⟩, hS.F ht⟩) hS.2.2 dX0_enter_66

def wX0_post (I : Nat → Int32) (F : Nat → Nat → Int32) (x1 x2 x3 : Int32) (post : (Nat → Int32) → (Nat → Nat → Int32) → Prop) : Prop := ((x1 ≤ (0 : Int32) → (((0 : Int32) ≤ x1 → post I F) ∧ (¬ (0 : Int32) ≤ x1 → wX0_enter I F (-x1) x3 x2 (fun I4 F5 => post I4 F5)))) ∧ (¬ x1 ≤ (0 : Int32) → wX0_enter I F x1 x2 x3 (fun I7 F8 => post I7 F8)))
set_option maxHeartbeats 4000000 in
set_option maxRecDepth 100000 in
theorem cTX0_post (l : Launch) (dC : Nat → ClassId) (dI : Nat → Nat → Nat) (cI : ClassId) (ad : Nat → Nat) (I : Nat → Int32) (F : Nat → Nat → Int32) (sz : Nat) (x1 x2 x3 : Int32) (post : (Nat → Int32) → (Nat → Nat → Int32) → Prop) (h : wX0_post I F x1 x2 x3 post) : Met l yX0_post wsX0_post { frames := 1, cells := 0, slots := 0, locals := 24 } (va_Pc [.ref (ad 4), .int x1, .int x2, .int x3] (PWw dC dI cI (wC cI ad) I F sz)) (QWv dC dI (wC cI ad) post (va_A (wC cI ad I F) sz)) 0 0 (va_A (wC cI ad I F) sz) := by
  refine Met.ofW (cc := cX0_post) (maxL := 4) (ret := none) (by decide) rfl ?_
  intro p e s m args below meth c s₁ B hml hv
  obtain ⟨rfl, hsz, ⟨hP, hK, hN⟩, hD0⟩ := hv
  subst hsz
  have hD := wD_any (wC_fix cI ad) (hD0.self (sz := s.heap.size))
  generalize hAe : va_A (wC cI ad I F) s.heap.size = A at hD ⊢
  have hA : ∀ q : Nat, s.heap.size ≤ q → A q := fun q h => by rw [← hAe]; exact Or.inr h
  clear hAe hD0
  have hx := B.exec
  have hb := B.bytes
  have hr := B.returns
  have hts := atoms_spec (ws := wsX0_post) B.pre
  have hown : s.vm.findClass RX0 = some m.cls := findClass_of_methodNamed B.named
  have hlocks := B.notSynchronized
  have C : Cx p s m _ meth c cX0_post 4 none RX0 wsX0_post := ⟨hx, hb, hml, hown, hts, hr, hlocks⟩
  have hS : va_S A s.heap s.heap [] := va_S.rf
  have hl := lv_entry ([.ref (ad 4), .int x1, .int x2, .int x3]) (n := 4) (Nat.le_of_ble_eq_true rfl)
  rw [lg_entry_eq]
  generalize (lg_sl ([.ref (ad 4), .int x1, .int x2, .int x3]) ++ List.replicate (4 - (lg_sl ([.ref (ad 4), .int x1, .int x2, .int x3])).length) Slot.unset).toArray = ls at hl ⊢
  have hl : lv_has ls 4 [(0, .ref (ad 4)), (1, .int x1), (2, .int x2), (3, .int x3)] := hl
  unfold wX0_post at h
  refine lv_iload_n hx hb dX0_post_0 rfl (lv_at hl 1 rfl) ?_
  refine lv_if_le (tgt := 14) hx hb dX0_post_1 (by decide) (fun c1 => ?_) (fun c1 => ?_)
  · have h := h.1 c1
    refine lv_iload_n hx hb dX0_post_14 rfl (lv_at hl 1 rfl) ?_
    refine lv_if_ge (tgt := 26) hx hb dX0_post_15 (by decide) (fun c2 => ?_) (fun c2 => ?_)
    · have h := h.1 c2
      exact W.vret hx hb hr (fun t ht hW => ⟨⟨(I, F), rfl, h, by show va_P _ _ _ t.heap; rw [ht]; exact hP⟩, hS.F ht⟩) hS.2.2 dX0_post_26
    · have h := h.2 c2
      refine lv_aload_n hx hb dX0_post_18 rfl (lv_at hl 0 rfl) ?_
      refine lv_iload_n hx hb dX0_post_19 rfl (lv_at hl 1 rfl) ?_
      refine lv_ineg hx hb dX0_post_20 ?_
      refine lv_iload_n hx hb dX0_post_21 rfl (lv_at hl 3 rfl) ?_
      refine lv_iload_n hx hb dX0_post_22 rfl (lv_at hl 2 rfl) ?_
      refine wcall_v (va_runV (As := [.int (-x1), .int x3, .int x2]) (rest := []) ⟨hx, hb, hml, hown, hts⟩ (cTX0_enter l dC dI cI ad I F s.heap.size (-x1) x3 x2 _ h) (cwV 3 hts gX0_post_X0_enter rfl rfl rfl (by decide +kernel) ⟨Nat.le_of_ble_eq_true rfl, Nat.le_of_ble_eq_true rfl⟩) (pv_W hP hK hN ((hD _ _).weaken (fun _ _ _ _ => trivial)) 4 0 rfl rfl _) rfl rfl hl.1 rfl (lv_room (Nat.le_of_ble_eq_true rfl)) dX0_post_23 ⟨Nat.le_of_ble_eq_true rfl, Nat.le_of_ble_eq_true rfl⟩) hD hS hA (fun I4 F5 h H locs hP hS => ?_)
      exact W.vret hx hb hr (fun t ht hW => ⟨⟨(I4, F5), rfl, h, by show va_P _ _ _ t.heap; rw [ht]; exact hP⟩, hS.F ht⟩) hS.2.2 dX0_post_26
  · have h := h.2 c1
    refine lv_aload_n hx hb dX0_post_4 rfl (lv_at hl 0 rfl) ?_
    refine lv_iload_n hx hb dX0_post_5 rfl (lv_at hl 1 rfl) ?_
    refine lv_iload_n hx hb dX0_post_6 rfl (lv_at hl 2 rfl) ?_
    refine lv_iload_n hx hb dX0_post_7 rfl (lv_at hl 3 rfl) ?_
    refine wcall_v (va_runV (As := [.int x1, .int x2, .int x3]) (rest := []) ⟨hx, hb, hml, hown, hts⟩ (cTX0_enter l dC dI cI ad I F s.heap.size x1 x2 x3 _ h) (cwV 3 hts gX0_post_X0_enter rfl rfl rfl (by decide +kernel) ⟨Nat.le_of_ble_eq_true rfl, Nat.le_of_ble_eq_true rfl⟩) (pv_W hP hK hN ((hD _ _).weaken (fun _ _ _ _ => trivial)) 4 0 rfl rfl _) rfl rfl hl.1 rfl (lv_room (Nat.le_of_ble_eq_true rfl)) dX0_post_8 ⟨Nat.le_of_ble_eq_true rfl, Nat.le_of_ble_eq_true rfl⟩) hD hS hA (fun I7 F8 h H locs hP hS => ?_)
    refine lv_goto (tgt := 26) hx hb dX0_post_11 (by decide) ?_
    exact W.vret hx hb hr (fun t ht hW => ⟨⟨(I7, F8), rfl, h, by show va_P _ _ _ t.heap; rw [ht]; exact hP⟩, hS.F ht⟩) hS.2.2 dX0_post_26

theorem iX3_setTerms_X3 : ∀ w ∈ wsX30, w ∈ wsX3_setTerms := by decide +kernel
def wX3_setTerms (I : Nat → Int32) (F : Nat → Nat → Int32) (x1 x2 x3 : Int32) (post : (Nat → Int32) → (Nat → Nat → Int32) → Prop) : Prop := ∀ I1 : Nat → Int32, I1 = va_up I 4 x1 → ∀ I2 : Nat → Int32, I2 = va_up I1 5 x2 → ∀ I3 : Nat → Int32, I3 = va_up I2 6 x3 → post I3 F
set_option maxHeartbeats 4000000 in
set_option maxRecDepth 100000 in
theorem cTX3_setTerms (l : Launch) (dC : Nat → ClassId) (dI : Nat → Nat → Nat) (cI : ClassId) (ad : Nat → Nat) (I : Nat → Int32) (F : Nat → Nat → Int32) (sz : Nat) (x1 x2 x3 : Int32) (post : (Nat → Int32) → (Nat → Nat → Int32) → Prop) (h : wX3_setTerms I F x1 x2 x3 post) : Met l yX3_setTerms wsX3_setTerms { frames := 0, cells := 0, slots := 0, locals := 0 } (va_Pc [.ref (ad 3), .int x1, .int x2, .int x3] (PWw dC dI cI (wC cI ad) I F sz)) (QWv dC dI (wC cI ad) post (va_A (wC cI ad I F) sz)) 0 0 (va_A (wC cI ad I F) sz) := by
  refine Met.ofW (cc := cX3_setTerms) (maxL := 4) (ret := none) (by decide) rfl ?_
  intro p e s m args below meth c s₁ B hml hv
  obtain ⟨rfl, hsz, ⟨hP, hK, hN⟩, hD0⟩ := hv
  subst hsz
  have hD := wD_any (wC_fix cI ad) (hD0.self (sz := s.heap.size))
  generalize hAe : va_A (wC cI ad I F) s.heap.size = A at hD ⊢
  have hA : ∀ q : Nat, s.heap.size ≤ q → A q := fun q h => by rw [← hAe]; exact Or.inr h
  clear hAe hD0
  have hx := B.exec
  have hb := B.bytes
  have hr := B.returns
  have hts := atoms_spec (ws := wsX3_setTerms) B.pre
  have hown : s.vm.findClass RX3 = some m.cls := findClass_of_methodNamed B.named
  have hlocks := B.notSynchronized
  have C : Cx p s m _ meth c cX3_setTerms 4 none RX3 wsX3_setTerms := ⟨hx, hb, hml, hown, hts, hr, hlocks⟩
  have hS : va_S A s.heap s.heap [] := va_S.rf
  have hl := lv_entry ([.ref (ad 3), .int x1, .int x2, .int x3]) (n := 4) (Nat.le_of_ble_eq_true rfl)
  rw [lg_entry_eq]
  generalize (lg_sl ([.ref (ad 3), .int x1, .int x2, .int x3]) ++ List.replicate (4 - (lg_sl ([.ref (ad 3), .int x1, .int x2, .int x3])).length) Slot.unset).toArray = ls at hl ⊢
  have hl : lv_has ls 4 [(0, .ref (ad 3)), (1, .int x1), (2, .int x2), (3, .int x3)] := hl
  unfold wX3_setTerms at h
  refine lv_aload_n hx hb dX3_setTerms_0 rfl (lv_at hl 0 rfl) ?_
  refine lv_iload_n hx hb dX3_setTerms_1 rfl (lv_at hl 1 rfl) ?_
  refine put_w (wf := wC cI ad) (ci := 3) (C := RX3) (T := TX3) (N := 12) hx hb hts iX3_setTerms_X3 tyX3 tyX3_ok nmX3 hown hK hP hD hS 3 rfl rfl 0 (by decide) (hts (.fieldLink RX3 9 "CarrierBooks$Settlements" "deductible" "I") (by decide +kernel)) (fun _ h9 => h9) rfl 4 (by decide +kernel) (Nat.le_of_ble_eq_true rfl) rfl dX3_setTerms_2 (fun I1 eI1 H locs hP hS => ?_)
  have h := h I1 eI1
  refine lv_aload_n hx hb dX3_setTerms_5 rfl (lv_at hl 0 rfl) ?_
  refine lv_iload_n hx hb dX3_setTerms_6 rfl (lv_at hl 2 rfl) ?_
  refine put_w (wf := wC cI ad) (ci := 3) (C := RX3) (T := TX3) (N := 12) hx hb hts iX3_setTerms_X3 tyX3 tyX3_ok nmX3 hown hK hP hD hS 3 rfl rfl 1 (by decide) (hts (.fieldLink RX3 15 "CarrierBooks$Settlements" "limit" "I") (by decide +kernel)) (fun _ h9 => h9) rfl 5 (by decide +kernel) (Nat.le_of_ble_eq_true rfl) rfl dX3_setTerms_7 (fun I2 eI2 H locs hP hS => ?_)
  have h := h I2 eI2
  refine lv_aload_n hx hb dX3_setTerms_10 rfl (lv_at hl 0 rfl) ?_
  refine lv_iload_n hx hb dX3_setTerms_11 rfl (lv_at hl 3 rfl) ?_
  refine put_w (wf := wC cI ad) (ci := 3) (C := RX3) (T := TX3) (N := 12) hx hb hts iX3_setTerms_X3 tyX3 tyX3_ok nmX3 hown hK hP hD hS 3 rfl rfl 2 (by decide) (hts (.fieldLink RX3 18 "CarrierBooks$Settlements" "aggregate" "I") (by decide +kernel)) (fun _ h9 => h9) rfl 6 (by decide +kernel) (Nat.le_of_ble_eq_true rfl) rfl dX3_setTerms_12 (fun I3 eI3 H locs hP hS => ?_)
  have h := h I3 eI3
  exact W.vret hx hb hr (fun t ht hW => ⟨⟨(I3, F), rfl, h, by show va_P _ _ _ t.heap; rw [ht]; exact hP⟩, hS.F ht⟩) hS.2.2 dX3_setTerms_15

theorem iX3_setLayer_X3 : ∀ w ∈ wsX30, w ∈ wsX3_setLayer := by decide +kernel
def wX3_setLayer (I : Nat → Int32) (F : Nat → Nat → Int32) (x1 x2 x3 x4 : Int32) (post : (Nat → Int32) → (Nat → Nat → Int32) → Prop) : Prop := ∀ I1 : Nat → Int32, I1 = va_up I 7 x1 → ∀ I2 : Nat → Int32, I2 = va_up I1 8 x2 → ∀ I3 : Nat → Int32, I3 = va_up I2 9 x3 → ∀ I4 : Nat → Int32, I4 = va_up I3 10 x4 → post I4 F
set_option maxHeartbeats 4000000 in
set_option maxRecDepth 100000 in
theorem cTX3_setLayer (l : Launch) (dC : Nat → ClassId) (dI : Nat → Nat → Nat) (cI : ClassId) (ad : Nat → Nat) (I : Nat → Int32) (F : Nat → Nat → Int32) (sz : Nat) (x1 x2 x3 x4 : Int32) (post : (Nat → Int32) → (Nat → Nat → Int32) → Prop) (h : wX3_setLayer I F x1 x2 x3 x4 post) : Met l yX3_setLayer wsX3_setLayer { frames := 0, cells := 0, slots := 0, locals := 0 } (va_Pc [.ref (ad 3), .int x1, .int x2, .int x3, .int x4] (PWw dC dI cI (wC cI ad) I F sz)) (QWv dC dI (wC cI ad) post (va_A (wC cI ad I F) sz)) 0 0 (va_A (wC cI ad I F) sz) := by
  refine Met.ofW (cc := cX3_setLayer) (maxL := 5) (ret := none) (by decide) rfl ?_
  intro p e s m args below meth c s₁ B hml hv
  obtain ⟨rfl, hsz, ⟨hP, hK, hN⟩, hD0⟩ := hv
  subst hsz
  have hD := wD_any (wC_fix cI ad) (hD0.self (sz := s.heap.size))
  generalize hAe : va_A (wC cI ad I F) s.heap.size = A at hD ⊢
  have hA : ∀ q : Nat, s.heap.size ≤ q → A q := fun q h => by rw [← hAe]; exact Or.inr h
  clear hAe hD0
  have hx := B.exec
  have hb := B.bytes
  have hr := B.returns
  have hts := atoms_spec (ws := wsX3_setLayer) B.pre
  have hown : s.vm.findClass RX3 = some m.cls := findClass_of_methodNamed B.named
  have hlocks := B.notSynchronized
  have C : Cx p s m _ meth c cX3_setLayer 5 none RX3 wsX3_setLayer := ⟨hx, hb, hml, hown, hts, hr, hlocks⟩
  have hS : va_S A s.heap s.heap [] := va_S.rf
  have hl := lv_entry ([.ref (ad 3), .int x1, .int x2, .int x3, .int x4]) (n := 5) (Nat.le_of_ble_eq_true rfl)
  rw [lg_entry_eq]
  generalize (lg_sl ([.ref (ad 3), .int x1, .int x2, .int x3, .int x4]) ++ List.replicate (5 - (lg_sl ([.ref (ad 3), .int x1, .int x2, .int x3, .int x4])).length) Slot.unset).toArray = ls at hl ⊢
  have hl : lv_has ls 5 [(0, .ref (ad 3)), (1, .int x1), (2, .int x2), (3, .int x3), (4, .int x4)] := hl
  unfold wX3_setLayer at h
  refine lv_aload_n hx hb dX3_setLayer_0 rfl (lv_at hl 0 rfl) ?_
  refine lv_iload_n hx hb dX3_setLayer_1 rfl (lv_at hl 1 rfl) ?_
  refine put_w (wf := wC cI ad) (ci := 3) (C := RX3) (T := TX3) (N := 12) hx hb hts iX3_setLayer_X3 tyX3 tyX3_ok nmX3 hown hK hP hD hS 3 rfl rfl 3 (by decide) (hts (.fieldLink RX3 21 "CarrierBooks$Settlements" "retention" "I") (by decide +kernel)) (fun _ h9 => h9) rfl 7 (by decide +kernel) (Nat.le_of_ble_eq_true rfl) rfl dX3_setLayer_2 (fun I1 eI1 H locs hP hS => ?_)
  have h := h I1 eI1
  refine lv_aload_n hx hb dX3_setLayer_5 rfl (lv_at hl 0 rfl) ?_
  refine lv_iload_n hx hb dX3_setLayer_6 rfl (lv_at hl 2 rfl) ?_
  refine put_w (wf := wC cI ad) (ci := 3) (C := RX3) (T := TX3) (N := 12) hx hb hts iX3_setLayer_X3 tyX3 tyX3_ok nmX3 hown hK hP hD hS 3 rfl rfl 4 (by decide) (hts (.fieldLink RX3 24 "CarrierBooks$Settlements" "layer" "I") (by decide +kernel)) (fun _ h9 => h9) rfl 8 (by decide +kernel) (Nat.le_of_ble_eq_true rfl) rfl dX3_setLayer_7 (fun I2 eI2 H locs hP hS => ?_)
  have h := h I2 eI2
  refine lv_aload_n hx hb dX3_setLayer_10 rfl (lv_at hl 0 rfl) ?_
  refine lv_iload_n hx hb dX3_setLayer_11 rfl (lv_at hl 3 rfl) ?_
  refine put_w (wf := wC cI ad) (ci := 3) (C := RX3) (T := TX3) (N := 12) hx hb hts iX3_setLayer_X3 tyX3 tyX3_ok nmX3 hown hK hP hD hS 3 rfl rfl 5 (by decide) (hts (.fieldLink RX3 27 "CarrierBooks$Settlements" "times" "I") (by decide +kernel)) (fun _ h9 => h9) rfl 9 (by decide +kernel) (Nat.le_of_ble_eq_true rfl) rfl dX3_setLayer_12 (fun I3 eI3 H locs hP hS => ?_)
  have h := h I3 eI3
  refine lv_aload_n hx hb dX3_setLayer_15 rfl (lv_at hl 0 rfl) ?_
  refine lv_iload hx hb dX3_setLayer_16 (lv_at hl 4 rfl) ?_
  refine put_w (wf := wC cI ad) (ci := 3) (C := RX3) (T := TX3) (N := 12) hx hb hts iX3_setLayer_X3 tyX3 tyX3_ok nmX3 hown hK hP hD hS 3 rfl rfl 6 (by decide) (hts (.fieldLink RX3 30 "CarrierBooks$Settlements" "price" "I") (by decide +kernel)) (fun _ h9 => h9) rfl 10 (by decide +kernel) (Nat.le_of_ble_eq_true rfl) rfl dX3_setLayer_18 (fun I4 eI4 H locs hP hS => ?_)
  have h := h I4 eI4
  exact W.vret hx hb hr (fun t ht hW => ⟨⟨(I4, F), rfl, h, by show va_P _ _ _ t.heap; rw [ht]; exact hP⟩, hS.F ht⟩) hS.2.2 dX3_setLayer_21

theorem iX3_payable_X3 : ∀ w ∈ wsX30, w ∈ wsX3_payable := by decide +kernel
def wX3_payable (I : Nat → Int32) (F : Nat → Nat → Int32) (x1 x2 : Int32) (post : Int32 → Prop) : Prop := vp_in x1 6 ∧ ∀ v2 : Int32, v2 = ((I 6) - (F 18 (Int32.toNatClampNeg x1))) → ∀ v3 : Int32, v3 = (if (x2 - (I 4)) < (0 : Int32) then (0 : Int32) else (x2 - (I 4))) → ∀ v4 : Int32, v4 = (if v2 < (I 5) then v2 else (I 5)) → ∀ v5 : Int32, v5 = (if v4 < v3 then v4 else v3) → post v5
set_option maxHeartbeats 4000000 in
set_option maxRecDepth 100000 in
theorem cTX3_payable (l : Launch) (dC : Nat → ClassId) (dI : Nat → Nat → Nat) (cI : ClassId) (ad : Nat → Nat) (I : Nat → Int32) (F : Nat → Nat → Int32) (x1 x2 : Int32) (post : Int32 → Prop) (h : wX3_payable I F x1 x2 post) : Met l yX3_payable wsX3_payable { frames := 1, cells := 0, slots := 0, locals := 16 } (va_Pc [.ref (ad 3), .int x1, .int x2] (PW dC dI cI (wC cI ad) I F)) (vp_Si post) 0 0 (fun _ => False) := by
  refine Met.ofW (cc := cX3_payable) (maxL := 4) (ret := (some .int)) (by decide) rfl ?_
  intro p e s m args below meth c s₁ B hml hv
  obtain ⟨rfl, hP, hK, hN⟩ := hv
  have hx := B.exec
  have hb := B.bytes
  have hr := B.returns
  have hts := atoms_spec (ws := wsX3_payable) B.pre
  have hown : s.vm.findClass RX3 = some m.cls := findClass_of_methodNamed B.named
  have hlocks := B.notSynchronized
  have C : Cx p s m _ meth c cX3_payable 4 (some .int) RX3 wsX3_payable := ⟨hx, hb, hml, hown, hts, hr, hlocks⟩
  have hl := lv_entry ([.ref (ad 3), .int x1, .int x2]) (n := 4) (Nat.le_of_ble_eq_true rfl)
  rw [lg_entry_eq]
  generalize (lg_sl ([.ref (ad 3), .int x1, .int x2]) ++ List.replicate (4 - (lg_sl ([.ref (ad 3), .int x1, .int x2])).length) Slot.unset).toArray = ls at hl ⊢
  have hl : lv_has ls 4 [(0, .ref (ad 3)), (1, .int x1), (2, .int x2)] := hl
  unfold wX3_payable at h
  refine lv_aload_n hx hb dX3_payable_0 rfl (lv_at hl 0 rfl) ?_
  refine va_get (D := (dC, dI)) (ci := 3) (v := .int (I 6)) (C := RX3) (T := TX3) (N := 12) hx hb hts iX3_payable_X3 hown hK hP 3 rfl rfl 2 (by decide) (hts (.fieldLink RX3 18 "CarrierBooks$Settlements" "aggregate" "I") (by decide +kernel)) (fun _ h9 => h9) rfl dX3_payable_1 ?_
  refine lv_aload_n hx hb dX3_payable_4 rfl (lv_at hl 0 rfl) ?_
  refine va_get (D := (dC, dI)) (ci := 3) (v := .ref (ad 18)) (C := RX3) (T := TX3) (N := 12) hx hb hts iX3_payable_X3 hown hK hP 3 rfl rfl 7 (by decide) (hts (.fieldLink RX3 33 "CarrierBooks$Settlements" "paidFor" "[I") (by decide +kernel)) (fun _ h9 => h9) rfl dX3_payable_5 ?_
  refine lv_iload_n hx hb dX3_payable_8 rfl (lv_at hl 1 rfl) ?_
  obtain ⟨hin1, h⟩ := h
  refine va_iald hx hb hK hP 18 0 rfl rfl hin1 dX3_payable_9 ?_
  refine lv_isub hx hb dX3_payable_10 ?_
  refine lv_topi (fun v2 ev2 => ?_)
  have h := h v2 ev2
  refine lv_istore_n (lv' := [(3, .int v2), (0, .ref (ad 3)), (1, .int x1), (2, .int x2)]) hx hb dX3_payable_11 rfl hl (by decide) rfl (fun ls hl => ?_)
  refine lv_iload_n hx hb dX3_payable_12 rfl (lv_at hl 3 rfl) ?_
  refine lv_aload_n hx hb dX3_payable_13 rfl (lv_at hl 1 rfl) ?_
  refine va_get (D := (dC, dI)) (ci := 3) (v := .int (I 4)) (C := RX3) (T := TX3) (N := 12) hx hb hts iX3_payable_X3 hown hK hP 3 rfl rfl 0 (by decide) (hts (.fieldLink RX3 9 "CarrierBooks$Settlements" "deductible" "I") (by decide +kernel)) (fun _ h9 => h9) rfl dX3_payable_14 ?_
  refine lv_isub hx hb dX3_payable_17 ?_
  refine lv_iconst (v := (0 : Int32)) hx hb dX3_payable_18 (by decide) ?_
  refine va_mmax hx hb (hml.trans hl.1.symm) hown (hts (.methodLink RX3 40 Lib.Math.max.name) (by decide +kernel)) (hts (.static Lib.Math.max.name) (by decide +kernel)) (hts (.initialized "java/lang/Math") (by decide +kernel)) (hts (.code Lib.Math.max.name Lib.Math.max.code 2 (some .int)) (by decide +kernel)) (Nat.le_of_ble_eq_true rfl) (Nat.le_of_ble_eq_true rfl) (Nat.zero_le _) (Nat.zero_le _) dX3_payable_19 ?_
  refine lv_topi (fun v3 ev3 => ?_)
  have h := h v3 ev3
  refine lv_aload_n hx hb dX3_payable_22 rfl (lv_at hl 1 rfl) ?_
  refine va_get (D := (dC, dI)) (ci := 3) (v := .int (I 5)) (C := RX3) (T := TX3) (N := 12) hx hb hts iX3_payable_X3 hown hK hP 3 rfl rfl 1 (by decide) (hts (.fieldLink RX3 15 "CarrierBooks$Settlements" "limit" "I") (by decide +kernel)) (fun _ h9 => h9) rfl dX3_payable_23 ?_
  refine lv_iload_n hx hb dX3_payable_26 rfl (lv_at hl 0 rfl) ?_
  refine va_mmin hx hb (hml.trans hl.1.symm) hown (hts (.methodLink RX3 46 Lib.Math.min.name) (by decide +kernel)) (hts (.static Lib.Math.min.name) (by decide +kernel)) (hts (.initialized "java/lang/Math") (by decide +kernel)) (hts (.code Lib.Math.min.name Lib.Math.min.code 2 (some .int)) (by decide +kernel)) (Nat.le_of_ble_eq_true rfl) (Nat.le_of_ble_eq_true rfl) (Nat.zero_le _) (Nat.zero_le _) dX3_payable_27 ?_
  refine lv_topi (fun v4 ev4 => ?_)
  have h := h v4 ev4
  refine va_mmin hx hb (hml.trans hl.1.symm) hown (hts (.methodLink RX3 46 Lib.Math.min.name) (by decide +kernel)) (hts (.static Lib.Math.min.name) (by decide +kernel)) (hts (.initialized "java/lang/Math") (by decide +kernel)) (hts (.code Lib.Math.min.name Lib.Math.min.code 2 (some .int)) (by decide +kernel)) (Nat.le_of_ble_eq_true rfl) (Nat.le_of_ble_eq_true rfl) (Nat.zero_le _) (Nat.zero_le _) dX3_payable_30 ?_
  refine lv_topi (fun v5 ev5 => ?_)
  have h := h v5 ev5
  exact W.iret (v := v5) hx hb hr (fun t ht hW => ⟨_, rfl, h, ht⟩) (fun q hq => by cases hq) dX3_payable_33

theorem iX3_layerPartOf_X3 : ∀ w ∈ wsX30, w ∈ wsX3_layerPartOf := by decide +kernel
def wX3_layerPartOf (I : Nat → Int32) (F : Nat → Nat → Int32) (x1 : Int32) (post : Int32 → Prop) : Prop := ∀ v1 : Int32, v1 = (((I 8) * ((1 : Int32) + (I 9))) - (I 11)) → ∀ v2 : Int32, v2 = (if (x1 - (I 7)) < (0 : Int32) then (0 : Int32) else (x1 - (I 7))) → ∀ v3 : Int32, v3 = (if v1 < (I 8) then v1 else (I 8)) → ∀ v4 : Int32, v4 = (if v3 < v2 then v3 else v2) → post v4
set_option maxHeartbeats 4000000 in
set_option maxRecDepth 100000 in
theorem cTX3_layerPartOf (l : Launch) (dC : Nat → ClassId) (dI : Nat → Nat → Nat) (cI : ClassId) (ad : Nat → Nat) (I : Nat → Int32) (F : Nat → Nat → Int32) (x1 : Int32) (post : Int32 → Prop) (h : wX3_layerPartOf I F x1 post) : Met l yX3_layerPartOf wsX3_layerPartOf { frames := 1, cells := 0, slots := 0, locals := 16 } (va_Pc [.ref (ad 3), .int x1] (PW dC dI cI (wC cI ad) I F)) (vp_Si post) 0 0 (fun _ => False) := by
  refine Met.ofW (cc := cX3_layerPartOf) (maxL := 3) (ret := (some .int)) (by decide) rfl ?_
  intro p e s m args below meth c s₁ B hml hv
  obtain ⟨rfl, hP, hK, hN⟩ := hv
  have hx := B.exec
  have hb := B.bytes
  have hr := B.returns
  have hts := atoms_spec (ws := wsX3_layerPartOf) B.pre
  have hown : s.vm.findClass RX3 = some m.cls := findClass_of_methodNamed B.named
  have hlocks := B.notSynchronized
  have C : Cx p s m _ meth c cX3_layerPartOf 3 (some .int) RX3 wsX3_layerPartOf := ⟨hx, hb, hml, hown, hts, hr, hlocks⟩
  have hl := lv_entry ([.ref (ad 3), .int x1]) (n := 3) (Nat.le_of_ble_eq_true rfl)
  rw [lg_entry_eq]
  generalize (lg_sl ([.ref (ad 3), .int x1]) ++ List.replicate (3 - (lg_sl ([.ref (ad 3), .int x1])).length) Slot.unset).toArray = ls at hl ⊢
  have hl : lv_has ls 3 [(0, .ref (ad 3)), (1, .int x1)] := hl
  unfold wX3_layerPartOf at h
  refine lv_aload_n hx hb dX3_layerPartOf_0 rfl (lv_at hl 0 rfl) ?_
  refine va_get (D := (dC, dI)) (ci := 3) (v := .int (I 8)) (C := RX3) (T := TX3) (N := 12) hx hb hts iX3_layerPartOf_X3 hown hK hP 3 rfl rfl 4 (by decide) (hts (.fieldLink RX3 24 "CarrierBooks$Settlements" "layer" "I") (by decide +kernel)) (fun _ h9 => h9) rfl dX3_layerPartOf_1 ?_
  refine lv_iconst (v := (1 : Int32)) hx hb dX3_layerPartOf_4 (by decide) ?_
  refine lv_aload_n hx hb dX3_layerPartOf_5 rfl (lv_at hl 0 rfl) ?_
  refine va_get (D := (dC, dI)) (ci := 3) (v := .int (I 9)) (C := RX3) (T := TX3) (N := 12) hx hb hts iX3_layerPartOf_X3 hown hK hP 3 rfl rfl 5 (by decide) (hts (.fieldLink RX3 27 "CarrierBooks$Settlements" "times" "I") (by decide +kernel)) (fun _ h9 => h9) rfl dX3_layerPartOf_6 ?_
  refine lv_iadd hx hb dX3_layerPartOf_9 ?_
  refine lv_imul hx hb dX3_layerPartOf_10 ?_
  refine lv_aload_n hx hb dX3_layerPartOf_11 rfl (lv_at hl 0 rfl) ?_
  refine va_get (D := (dC, dI)) (ci := 3) (v := .int (I 11)) (C := RX3) (T := TX3) (N := 12) hx hb hts iX3_layerPartOf_X3 hown hK hP 3 rfl rfl 8 (by decide) (hts (.fieldLink RX3 49 "CarrierBooks$Settlements" "layerUsed" "I") (by decide +kernel)) (fun _ h9 => h9) rfl dX3_layerPartOf_12 ?_
  refine lv_isub hx hb dX3_layerPartOf_15 ?_
  refine lv_topi (fun v1 ev1 => ?_)
  have h := h v1 ev1
  refine lv_istore_n (lv' := [(2, .int v1), (0, .ref (ad 3)), (1, .int x1)]) hx hb dX3_layerPartOf_16 rfl hl (by decide) rfl (fun ls hl => ?_)
  refine lv_iload_n hx hb dX3_layerPartOf_17 rfl (lv_at hl 2 rfl) ?_
  refine lv_aload_n hx hb dX3_layerPartOf_18 rfl (lv_at hl 1 rfl) ?_
  refine va_get (D := (dC, dI)) (ci := 3) (v := .int (I 7)) (C := RX3) (T := TX3) (N := 12) hx hb hts iX3_layerPartOf_X3 hown hK hP 3 rfl rfl 3 (by decide) (hts (.fieldLink RX3 21 "CarrierBooks$Settlements" "retention" "I") (by decide +kernel)) (fun _ h9 => h9) rfl dX3_layerPartOf_19 ?_
  refine lv_isub hx hb dX3_layerPartOf_22 ?_
  refine lv_iconst (v := (0 : Int32)) hx hb dX3_layerPartOf_23 (by decide) ?_
  refine va_mmax hx hb (hml.trans hl.1.symm) hown (hts (.methodLink RX3 40 Lib.Math.max.name) (by decide +kernel)) (hts (.static Lib.Math.max.name) (by decide +kernel)) (hts (.initialized "java/lang/Math") (by decide +kernel)) (hts (.code Lib.Math.max.name Lib.Math.max.code 2 (some .int)) (by decide +kernel)) (Nat.le_of_ble_eq_true rfl) (Nat.le_of_ble_eq_true rfl) (Nat.zero_le _) (Nat.zero_le _) dX3_layerPartOf_24 ?_
  refine lv_topi (fun v2 ev2 => ?_)
  have h := h v2 ev2
  refine lv_aload_n hx hb dX3_layerPartOf_27 rfl (lv_at hl 1 rfl) ?_
  refine va_get (D := (dC, dI)) (ci := 3) (v := .int (I 8)) (C := RX3) (T := TX3) (N := 12) hx hb hts iX3_layerPartOf_X3 hown hK hP 3 rfl rfl 4 (by decide) (hts (.fieldLink RX3 24 "CarrierBooks$Settlements" "layer" "I") (by decide +kernel)) (fun _ h9 => h9) rfl dX3_layerPartOf_28 ?_
  refine lv_iload_n hx hb dX3_layerPartOf_31 rfl (lv_at hl 0 rfl) ?_
  refine va_mmin hx hb (hml.trans hl.1.symm) hown (hts (.methodLink RX3 46 Lib.Math.min.name) (by decide +kernel)) (hts (.static Lib.Math.min.name) (by decide +kernel)) (hts (.initialized "java/lang/Math") (by decide +kernel)) (hts (.code Lib.Math.min.name Lib.Math.min.code 2 (some .int)) (by decide +kernel)) (Nat.le_of_ble_eq_true rfl) (Nat.le_of_ble_eq_true rfl) (Nat.zero_le _) (Nat.zero_le _) dX3_layerPartOf_32 ?_
  refine lv_topi (fun v3 ev3 => ?_)
  have h := h v3 ev3
  refine va_mmin hx hb (hml.trans hl.1.symm) hown (hts (.methodLink RX3 46 Lib.Math.min.name) (by decide +kernel)) (hts (.static Lib.Math.min.name) (by decide +kernel)) (hts (.initialized "java/lang/Math") (by decide +kernel)) (hts (.code Lib.Math.min.name Lib.Math.min.code 2 (some .int)) (by decide +kernel)) (Nat.le_of_ble_eq_true rfl) (Nat.le_of_ble_eq_true rfl) (Nat.zero_le _) (Nat.zero_le _) dX3_layerPartOf_35 ?_
  refine lv_topi (fun v4 ev4 => ?_)
  have h := h v4 ev4
  exact W.iret (v := v4) hx hb hr (fun t ht hW => ⟨_, rfl, h, ht⟩) (fun q hq => by cases hq) dX3_layerPartOf_38

theorem iX3_renewedOf_X3 : ∀ w ∈ wsX30, w ∈ wsX3_renewedOf := by decide +kernel
def wX3_renewedOf (I : Nat → Int32) (F : Nat → Nat → Int32) (x1 : Int32) (post : Int32 → Prop) : Prop := ∀ v1 : Int32, v1 = (if (((I 8) * (I 9)) - (I 12)) < x1 then (((I 8) * (I 9)) - (I 12)) else x1) → post v1
set_option maxHeartbeats 4000000 in
set_option maxRecDepth 100000 in
theorem cTX3_renewedOf (l : Launch) (dC : Nat → ClassId) (dI : Nat → Nat → Nat) (cI : ClassId) (ad : Nat → Nat) (I : Nat → Int32) (F : Nat → Nat → Int32) (x1 : Int32) (post : Int32 → Prop) (h : wX3_renewedOf I F x1 post) : Met l yX3_renewedOf wsX3_renewedOf { frames := 1, cells := 0, slots := 0, locals := 16 } (va_Pc [.ref (ad 3), .int x1] (PW dC dI cI (wC cI ad) I F)) (vp_Si post) 0 0 (fun _ => False) := by
  refine Met.ofW (cc := cX3_renewedOf) (maxL := 2) (ret := (some .int)) (by decide) rfl ?_
  intro p e s m args below meth c s₁ B hml hv
  obtain ⟨rfl, hP, hK, hN⟩ := hv
  have hx := B.exec
  have hb := B.bytes
  have hr := B.returns
  have hts := atoms_spec (ws := wsX3_renewedOf) B.pre
  have hown : s.vm.findClass RX3 = some m.cls := findClass_of_methodNamed B.named
  have hlocks := B.notSynchronized
  have C : Cx p s m _ meth c cX3_renewedOf 2 (some .int) RX3 wsX3_renewedOf := ⟨hx, hb, hml, hown, hts, hr, hlocks⟩
  have hl := lv_entry ([.ref (ad 3), .int x1]) (n := 2) (Nat.le_of_ble_eq_true rfl)
  rw [lg_entry_eq]
  generalize (lg_sl ([.ref (ad 3), .int x1]) ++ List.replicate (2 - (lg_sl ([.ref (ad 3), .int x1])).length) Slot.unset).toArray = ls at hl ⊢
  have hl : lv_has ls 2 [(0, .ref (ad 3)), (1, .int x1)] := hl
  unfold wX3_renewedOf at h
  refine lv_iload_n hx hb dX3_renewedOf_0 rfl (lv_at hl 1 rfl) ?_
  refine lv_aload_n hx hb dX3_renewedOf_1 rfl (lv_at hl 0 rfl) ?_
  refine va_get (D := (dC, dI)) (ci := 3) (v := .int (I 8)) (C := RX3) (T := TX3) (N := 12) hx hb hts iX3_renewedOf_X3 hown hK hP 3 rfl rfl 4 (by decide) (hts (.fieldLink RX3 24 "CarrierBooks$Settlements" "layer" "I") (by decide +kernel)) (fun _ h9 => h9) rfl dX3_renewedOf_2 ?_
  refine lv_aload_n hx hb dX3_renewedOf_5 rfl (lv_at hl 0 rfl) ?_
  refine va_get (D := (dC, dI)) (ci := 3) (v := .int (I 9)) (C := RX3) (T := TX3) (N := 12) hx hb hts iX3_renewedOf_X3 hown hK hP 3 rfl rfl 5 (by decide) (hts (.fieldLink RX3 27 "CarrierBooks$Settlements" "times" "I") (by decide +kernel)) (fun _ h9 => h9) rfl dX3_renewedOf_6 ?_
  refine lv_imul hx hb dX3_renewedOf_9 ?_
  refine lv_aload_n hx hb dX3_renewedOf_10 rfl (lv_at hl 0 rfl) ?_
  refine va_get (D := (dC, dI)) (ci := 3) (v := .int (I 12)) (C := RX3) (T := TX3) (N := 12) hx hb hts iX3_renewedOf_X3 hown hK hP 3 rfl rfl 9 (by decide) (hts (.fieldLink RX3 52 "CarrierBooks$Settlements" "layerRenewed" "I") (by decide +kernel)) (fun _ h9 => h9) rfl dX3_renewedOf_11 ?_
  refine lv_isub hx hb dX3_renewedOf_14 ?_
  refine va_mmin hx hb (hml.trans hl.1.symm) hown (hts (.methodLink RX3 46 Lib.Math.min.name) (by decide +kernel)) (hts (.static Lib.Math.min.name) (by decide +kernel)) (hts (.initialized "java/lang/Math") (by decide +kernel)) (hts (.code Lib.Math.min.name Lib.Math.min.code 2 (some .int)) (by decide +kernel)) (Nat.le_of_ble_eq_true rfl) (Nat.le_of_ble_eq_true rfl) (Nat.zero_le _) (Nat.zero_le _) dX3_renewedOf_15 ?_
  refine lv_topi (fun v1 ev1 => ?_)
  have h := h v1 ev1
  exact W.iret (v := v1) hx hb hr (fun t ht hW => ⟨_, rfl, h, ht⟩) (fun q hq => by cases hq) dX3_renewedOf_18

theorem iX3_keep_X3 : ∀ w ∈ wsX30, w ∈ wsX3_keep := by decide +kernel
def wX3_keep (I : Nat → Int32) (F : Nat → Nat → Int32) (x1 x2 x3 x4 x5 x6 : Int32) (post : (Nat → Int32) → (Nat → Nat → Int32) → Prop) : Prop := ∀ v1 : Int32, v1 = ((I 13) * (6 : Int32)) → vp_in v1 120 ∧ ∀ F2 : Nat → Nat → Int32, F2 = va_up F 19 (upd (F 19) (Int32.toNatClampNeg v1) x1) → vp_in (v1 + (1 : Int32)) 120 ∧ ∀ F4 : Nat → Nat → Int32, F4 = va_up F2 19 (upd (F2 19) (Int32.toNatClampNeg (v1 + (1 : Int32))) x2) → vp_in (v1 + (2 : Int32)) 120 ∧ ∀ F6 : Nat → Nat → Int32, F6 = va_up F4 19 (upd (F4 19) (Int32.toNatClampNeg (v1 + (2 : Int32))) x3) → vp_in (v1 + (3 : Int32)) 120 ∧ ∀ F8 : Nat → Nat → Int32, F8 = va_up F6 19 (upd (F6 19) (Int32.toNatClampNeg (v1 + (3 : Int32))) x4) → vp_in (v1 + (4 : Int32)) 120 ∧ ∀ F10 : Nat → Nat → Int32, F10 = va_up F8 19 (upd (F8 19) (Int32.toNatClampNeg (v1 + (4 : Int32))) x5) → vp_in (v1 + (5 : Int32)) 120 ∧ ∀ F12 : Nat → Nat → Int32, F12 = va_up F10 19 (upd (F10 19) (Int32.toNatClampNeg (v1 + (5 : Int32))) x6) → ∀ v14 : Int32, v14 = ((I 13) + (1 : Int32)) → ∀ I15 : Nat → Int32, I15 = va_up I 13 v14 → vp_in x1 6 ∧ ∀ v17 : Int32, v17 = ((F12 18 (Int32.toNatClampNeg x1)) + x3) → vp_in x1 6 ∧ ∀ F18 : Nat → Nat → Int32, F18 = va_up F12 18 (upd (F12 18) (Int32.toNatClampNeg x1) v17) → ∀ v20 : Int32, v20 = ((I15 11) + x5) → ∀ I21 : Nat → Int32, I21 = va_up I15 11 v20 → ∀ v22 : Int32, v22 = ((I21 12) + x6) → ∀ I23 : Nat → Int32, I23 = va_up I21 12 v22 → post I23 F18
set_option maxHeartbeats 4000000 in
set_option maxRecDepth 100000 in
theorem cTX3_keep (l : Launch) (dC : Nat → ClassId) (dI : Nat → Nat → Nat) (cI : ClassId) (ad : Nat → Nat) (I : Nat → Int32) (F : Nat → Nat → Int32) (sz : Nat) (x1 x2 x3 x4 x5 x6 : Int32) (post : (Nat → Int32) → (Nat → Nat → Int32) → Prop) (h : wX3_keep I F x1 x2 x3 x4 x5 x6 post) : Met l yX3_keep wsX3_keep { frames := 0, cells := 0, slots := 0, locals := 0 } (va_Pc [.ref (ad 3), .int x1, .int x2, .int x3, .int x4, .int x5, .int x6] (PWw dC dI cI (wC cI ad) I F sz)) (QWv dC dI (wC cI ad) post (va_A (wC cI ad I F) sz)) 0 0 (va_A (wC cI ad I F) sz) := by
  refine Met.ofW (cc := cX3_keep) (maxL := 8) (ret := none) (by decide) rfl ?_
  intro p e s m args below meth c s₁ B hml hv
  obtain ⟨rfl, hsz, ⟨hP, hK, hN⟩, hD0⟩ := hv
  subst hsz
  have hD := wD_any (wC_fix cI ad) (hD0.self (sz := s.heap.size))
  generalize hAe : va_A (wC cI ad I F) s.heap.size = A at hD ⊢
  have hA : ∀ q : Nat, s.heap.size ≤ q → A q := fun q h => by rw [← hAe]; exact Or.inr h
  clear hAe hD0
  have hx := B.exec
  have hb := B.bytes
  have hr := B.returns
  have hts := atoms_spec (ws := wsX3_keep) B.pre
  have hown : s.vm.findClass RX3 = some m.cls := findClass_of_methodNamed B.named
  have hlocks := B.notSynchronized
  have C : Cx p s m _ meth c cX3_keep 8 none RX3 wsX3_keep := ⟨hx, hb, hml, hown, hts, hr, hlocks⟩
  have hS : va_S A s.heap s.heap [] := va_S.rf
  have hl := lv_entry ([.ref (ad 3), .int x1, .int x2, .int x3, .int x4, .int x5, .int x6]) (n := 8) (Nat.le_of_ble_eq_true rfl)
  rw [lg_entry_eq]
  generalize (lg_sl ([.ref (ad 3), .int x1, .int x2, .int x3, .int x4, .int x5, .int x6]) ++ List.replicate (8 - (lg_sl ([.ref (ad 3), .int x1, .int x2, .int x3, .int x4, .int x5, .int x6])).length) Slot.unset).toArray = ls at hl ⊢
  have hl : lv_has ls 8 [(0, .ref (ad 3)), (1, .int x1), (2, .int x2), (3, .int x3), (4, .int x4), (5, .int x5), (6, .int x6)] := hl
  unfold wX3_keep at h
  refine lv_aload_n hx hb dX3_keep_0 rfl (lv_at hl 0 rfl) ?_
  refine va_get (D := (dC, dI)) (ci := 3) (v := .int (I 13)) (C := RX3) (T := TX3) (N := 12) hx hb hts iX3_keep_X3 hown hK hP 3 rfl rfl 11 (by decide) (hts (.fieldLink RX3 55 "CarrierBooks$Settlements" "size" "I") (by decide +kernel)) (fun _ h9 => h9) rfl dX3_keep_1 ?_
  refine lv_bipush (v := (6 : Int32)) hx hb dX3_keep_4 (by decide) ?_
  refine lv_imul hx hb dX3_keep_6 ?_
  refine lv_topi (fun v1 ev1 => ?_)
  have h := h v1 ev1
  refine lv_istore (lv' := [(7, .int v1), (0, .ref (ad 3)), (1, .int x1), (2, .int x2), (3, .int x3), (4, .int x4), (5, .int x5), (6, .int x6)]) hx hb dX3_keep_7 hl (by decide) rfl (fun ls hl => ?_)
  refine lv_aload_n hx hb dX3_keep_9 rfl (lv_at hl 1 rfl) ?_
  refine va_get (D := (dC, dI)) (ci := 3) (v := .ref (ad 19)) (C := RX3) (T := TX3) (N := 12) hx hb hts iX3_keep_X3 hown hK hP 3 rfl rfl 10 (by decide) (hts (.fieldLink RX3 37 "CarrierBooks$Settlements" "figures" "[I") (by decide +kernel)) (fun _ h9 => h9) rfl dX3_keep_10 ?_
  refine lv_iload hx hb dX3_keep_13 (lv_at hl 0 rfl) ?_
  refine lv_iload_n hx hb dX3_keep_15 rfl (lv_at hl 2 rfl) ?_
  obtain ⟨hin3, h⟩ := h
  refine ast_w (wf := wC cI ad) hx hb hK hP hD hS 19 19 rfl hin3 rfl dX3_keep_16 (fun F2 eF2 H locs hP hS => ?_)
  have h := h F2 eF2
  refine lv_aload_n hx hb dX3_keep_17 rfl (lv_at hl 1 rfl) ?_
  refine va_get (D := (dC, dI)) (ci := 3) (v := .ref (ad 19)) (C := RX3) (T := TX3) (N := 12) hx hb hts iX3_keep_X3 hown hK hP 3 rfl rfl 10 (by decide) (hts (.fieldLink RX3 37 "CarrierBooks$Settlements" "figures" "[I") (by decide +kernel)) (fun _ h9 => h9) rfl dX3_keep_18 ?_
  refine lv_iload hx hb dX3_keep_21 (lv_at hl 0 rfl) ?_
  refine lv_iconst (v := (1 : Int32)) hx hb dX3_keep_23 (by decide) ?_
  refine lv_iadd hx hb dX3_keep_24 ?_
  refine lv_iload_n hx hb dX3_keep_25 rfl (lv_at hl 3 rfl) ?_
  obtain ⟨hin5, h⟩ := h
  refine ast_w (wf := wC cI ad) hx hb hK hP hD hS 19 19 rfl hin5 rfl dX3_keep_26 (fun F4 eF4 H locs hP hS => ?_)
  have h := h F4 eF4
  refine lv_aload_n hx hb dX3_keep_27 rfl (lv_at hl 1 rfl) ?_
  refine va_get (D := (dC, dI)) (ci := 3) (v := .ref (ad 19)) (C := RX3) (T := TX3) (N := 12) hx hb hts iX3_keep_X3 hown hK hP 3 rfl rfl 10 (by decide) (hts (.fieldLink RX3 37 "CarrierBooks$Settlements" "figures" "[I") (by decide +kernel)) (fun _ h9 => h9) rfl dX3_keep_28 ?_
  refine lv_iload hx hb dX3_keep_31 (lv_at hl 0 rfl) ?_
  refine lv_iconst (v := (2 : Int32)) hx hb dX3_keep_33 (by decide) ?_
  refine lv_iadd hx hb dX3_keep_34 ?_
  refine lv_iload_n hx hb dX3_keep_35 rfl (lv_at hl 4 rfl) ?_
  obtain ⟨hin7, h⟩ := h
  refine ast_w (wf := wC cI ad) hx hb hK hP hD hS 19 19 rfl hin7 rfl dX3_keep_36 (fun F6 eF6 H locs hP hS => ?_)
  have h := h F6 eF6
  refine lv_aload_n hx hb dX3_keep_37 rfl (lv_at hl 1 rfl) ?_
  refine va_get (D := (dC, dI)) (ci := 3) (v := .ref (ad 19)) (C := RX3) (T := TX3) (N := 12) hx hb hts iX3_keep_X3 hown hK hP 3 rfl rfl 10 (by decide) (hts (.fieldLink RX3 37 "CarrierBooks$Settlements" "figures" "[I") (by decide +kernel)) (fun _ h9 => h9) rfl dX3_keep_38 ?_
  refine lv_iload hx hb dX3_keep_41 (lv_at hl 0 rfl) ?_
  refine lv_iconst (v := (3 : Int32)) hx hb dX3_keep_43 (by decide) ?_
  refine lv_iadd hx hb dX3_keep_44 ?_
  refine lv_iload hx hb dX3_keep_45 (lv_at hl 5 rfl) ?_
  obtain ⟨hin9, h⟩ := h
  refine ast_w (wf := wC cI ad) hx hb hK hP hD hS 19 19 rfl hin9 rfl dX3_keep_47 (fun F8 eF8 H locs hP hS => ?_)
  have h := h F8 eF8
  refine lv_aload_n hx hb dX3_keep_48 rfl (lv_at hl 1 rfl) ?_
  refine va_get (D := (dC, dI)) (ci := 3) (v := .ref (ad 19)) (C := RX3) (T := TX3) (N := 12) hx hb hts iX3_keep_X3 hown hK hP 3 rfl rfl 10 (by decide) (hts (.fieldLink RX3 37 "CarrierBooks$Settlements" "figures" "[I") (by decide +kernel)) (fun _ h9 => h9) rfl dX3_keep_49 ?_
  refine lv_iload hx hb dX3_keep_52 (lv_at hl 0 rfl) ?_
  refine lv_iconst (v := (4 : Int32)) hx hb dX3_keep_54 (by decide) ?_
  refine lv_iadd hx hb dX3_keep_55 ?_
  refine lv_iload hx hb dX3_keep_56 (lv_at hl 6 rfl) ?_
  obtain ⟨hin11, h⟩ := h
  refine ast_w (wf := wC cI ad) hx hb hK hP hD hS 19 19 rfl hin11 rfl dX3_keep_58 (fun F10 eF10 H locs hP hS => ?_)
  have h := h F10 eF10
  refine lv_aload_n hx hb dX3_keep_59 rfl (lv_at hl 1 rfl) ?_
  refine va_get (D := (dC, dI)) (ci := 3) (v := .ref (ad 19)) (C := RX3) (T := TX3) (N := 12) hx hb hts iX3_keep_X3 hown hK hP 3 rfl rfl 10 (by decide) (hts (.fieldLink RX3 37 "CarrierBooks$Settlements" "figures" "[I") (by decide +kernel)) (fun _ h9 => h9) rfl dX3_keep_60 ?_
  refine lv_iload hx hb dX3_keep_63 (lv_at hl 0 rfl) ?_
  refine lv_iconst (v := (5 : Int32)) hx hb dX3_keep_65 (by decide) ?_
  refine lv_iadd hx hb dX3_keep_66 ?_
  refine lv_iload hx hb dX3_keep_67 (lv_at hl 7 rfl) ?_
  obtain ⟨hin13, h⟩ := h
  refine ast_w (wf := wC cI ad) hx hb hK hP hD hS 19 19 rfl hin13 rfl dX3_keep_69 (fun F12 eF12 H locs hP hS => ?_)
  have h := h F12 eF12
  refine lv_aload_n hx hb dX3_keep_70 rfl (lv_at hl 1 rfl) ?_
  refine lv_dup hx hb dX3_keep_71 rfl ?_
  refine va_get (D := (dC, dI)) (ci := 3) (v := .int (I 13)) (C := RX3) (T := TX3) (N := 12) hx hb hts iX3_keep_X3 hown hK hP 3 rfl rfl 11 (by decide) (hts (.fieldLink RX3 55 "CarrierBooks$Settlements" "size" "I") (by decide +kernel)) (fun _ h9 => h9) rfl dX3_keep_72 ?_
  refine lv_iconst (v := (1 : Int32)) hx hb dX3_keep_75 (by decide) ?_
  refine lv_iadd hx hb dX3_keep_76 ?_
  refine lv_topi (fun v14 ev14 => ?_)
  have h := h v14 ev14
  refine put_w (wf := wC cI ad) (ci := 3) (C := RX3) (T := TX3) (N := 12) hx hb hts iX3_keep_X3 tyX3 tyX3_ok nmX3 hown hK hP hD hS 3 rfl rfl 11 (by decide) (hts (.fieldLink RX3 55 "CarrierBooks$Settlements" "size" "I") (by decide +kernel)) (fun _ h9 => h9) rfl 13 (by decide +kernel) (Nat.le_of_ble_eq_true rfl) rfl dX3_keep_77 (fun I15 eI15 H locs hP hS => ?_)
  have h := h I15 eI15
  refine lv_aload_n hx hb dX3_keep_80 rfl (lv_at hl 1 rfl) ?_
  refine va_get (D := (dC, dI)) (ci := 3) (v := .ref (ad 18)) (C := RX3) (T := TX3) (N := 12) hx hb hts iX3_keep_X3 hown hK hP 3 rfl rfl 7 (by decide) (hts (.fieldLink RX3 33 "CarrierBooks$Settlements" "paidFor" "[I") (by decide +kernel)) (fun _ h9 => h9) rfl dX3_keep_81 ?_
  refine lv_iload_n hx hb dX3_keep_84 rfl (lv_at hl 2 rfl) ?_
  refine lv_dup2_11 hx hb dX3_keep_85 rfl rfl ?_
  obtain ⟨hin16, h⟩ := h
  refine va_iald hx hb hK hP 18 0 rfl rfl hin16 dX3_keep_86 ?_
  refine lv_iload_n hx hb dX3_keep_87 rfl (lv_at hl 4 rfl) ?_
  refine lv_iadd hx hb dX3_keep_88 ?_
  refine lv_topi (fun v17 ev17 => ?_)
  have h := h v17 ev17
  obtain ⟨hin19, h⟩ := h
  refine ast_w (wf := wC cI ad) hx hb hK hP hD hS 18 18 rfl hin19 rfl dX3_keep_89 (fun F18 eF18 H locs hP hS => ?_)
  have h := h F18 eF18
  refine lv_aload_n hx hb dX3_keep_90 rfl (lv_at hl 1 rfl) ?_
  refine lv_dup hx hb dX3_keep_91 rfl ?_
  refine va_get (D := (dC, dI)) (ci := 3) (v := .int (I15 11)) (C := RX3) (T := TX3) (N := 12) hx hb hts iX3_keep_X3 hown hK hP 3 rfl rfl 8 (by decide) (hts (.fieldLink RX3 49 "CarrierBooks$Settlements" "layerUsed" "I") (by decide +kernel)) (fun _ h9 => h9) rfl dX3_keep_92 ?_
  refine lv_iload hx hb dX3_keep_95 (lv_at hl 6 rfl) ?_
  refine lv_iadd hx hb dX3_keep_97 ?_
  refine lv_topi (fun v20 ev20 => ?_)
  have h := h v20 ev20
  refine put_w (wf := wC cI ad) (ci := 3) (C := RX3) (T := TX3) (N := 12) hx hb hts iX3_keep_X3 tyX3 tyX3_ok nmX3 hown hK hP hD hS 3 rfl rfl 8 (by decide) (hts (.fieldLink RX3 49 "CarrierBooks$Settlements" "layerUsed" "I") (by decide +kernel)) (fun _ h9 => h9) rfl 11 (by decide +kernel) (Nat.le_of_ble_eq_true rfl) rfl dX3_keep_98 (fun I21 eI21 H locs hP hS => ?_)
  have h := h I21 eI21
  refine lv_aload_n hx hb dX3_keep_101 rfl (lv_at hl 1 rfl) ?_
  refine lv_dup hx hb dX3_keep_102 rfl ?_
  refine va_get (D := (dC, dI)) (ci := 3) (v := .int (I21 12)) (C := RX3) (T := TX3) (N := 12) hx hb hts iX3_keep_X3 hown hK hP 3 rfl rfl 9 (by decide) (hts (.fieldLink RX3 52 "CarrierBooks$Settlements" "layerRenewed" "I") (by decide +kernel)) (fun _ h9 => h9) rfl dX3_keep_103 ?_
  refine lv_iload hx hb dX3_keep_106 (lv_at hl 7 rfl) ?_
  refine lv_iadd hx hb dX3_keep_108 ?_
  refine lv_topi (fun v22 ev22 => ?_)
  have h := h v22 ev22
  refine put_w (wf := wC cI ad) (ci := 3) (C := RX3) (T := TX3) (N := 12) hx hb hts iX3_keep_X3 tyX3 tyX3_ok nmX3 hown hK hP hD hS 3 rfl rfl 9 (by decide) (hts (.fieldLink RX3 52 "CarrierBooks$Settlements" "layerRenewed" "I") (by decide +kernel)) (fun _ h9 => h9) rfl 12 (by decide +kernel) (Nat.le_of_ble_eq_true rfl) rfl dX3_keep_109 (fun I23 eI23 H locs hP hS => ?_)
  have h := h I23 eI23
  exact W.vret hx hb hr (fun t ht hW => ⟨⟨(I23, F18), rfl, h, by show va_P _ _ _ t.heap; rw [ht]; exact hP⟩, hS.F ht⟩) hS.2.2 dX3_keep_112
