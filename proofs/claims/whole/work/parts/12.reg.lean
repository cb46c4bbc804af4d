theorem iX2_isFull_X2 : ∀ w ∈ wsX20, w ∈ wsX2_isFull := by decide +kernel
def wX2_isFull (I : Nat → Int32) (F : Nat → Nat → Int32) (post : Int32 → Prop) : Prop := ((¬ (I 3) = (40 : Int32) → post (0 : Int32)) ∧ ((I 3) = (40 : Int32) → post (1 : Int32)))
set_option maxHeartbeats 4000000 in
set_option maxRecDepth 100000 in
theorem cTX2_isFull (l : Launch) (dC : Nat → ClassId) (dI : Nat → Nat → Nat) (cI : ClassId) (ad : Nat → Nat) (I : Nat → Int32) (F : Nat → Nat → Int32) (post : Int32 → Prop) (h : wX2_isFull I F post) : Met l yX2_isFull wsX2_isFull { frames := 0, cells := 0, slots := 0, locals := 0 } (va_Pc [.ref (ad 2)] (PW dC dI cI (wC cI ad) I F)) (vp_Si post) 0 0 (fun _ => False) := by
  refine Met.ofW (cc := cX2_isFull) (maxL := 1) (ret := (some .boolean)) (by decide) rfl ?_
  intro p e s m args below meth c s₁ B hml hv
  obtain ⟨rfl, hP, hK, hN⟩ := hv
  have hx := B.exec
  have hb := B.bytes
  have hr := B.returns
  have hts := atoms_spec (ws := wsX2_isFull) B.pre
  have hown : s.vm.findClass RX2 = some m.cls := findClass_of_methodNamed B.named
  have hlocks := B.notSynchronized
  have C : Cx p s m _ meth c cX2_isFull 1 (some .boolean) RX2 wsX2_isFull := ⟨hx, hb, hml, hown, hts, hr, hlocks⟩
  have hl := lv_entry ([.ref (ad 2)]) (n := 1) (Nat.le_of_ble_eq_true rfl)
  rw [lg_entry_eq]
  generalize (lg_sl ([.ref (ad 2)]) ++ List.replicate (1 - (lg_sl ([.ref (ad 2)])).length) Slot.unset).toArray = ls at hl ⊢
  have hl : lv_has ls 1 [(0, .ref (ad 2))] := hl
  unfold wX2_isFull at h
  refine lv_aload_n hx hb dX2_isFull_0 rfl (lv_at hl 0 rfl) ?_
  refine va_get (D := (dC, dI)) (ci := 2) (v := .int (I 3)) (C := RX2) (T := TX2) (N := 10) hx hb hts iX2_isFull_X2 hown hK hP 2 rfl rfl 9 (by decide) (hts (.fieldLink RX2 36 "CarrierBooks$Register" "bookings" "I") (by decide +kernel)) (fun _ h9 => h9) rfl dX2_isFull_1 ?_
  refine lv_bipush (v := (40 : Int32)) hx hb dX2_isFull_4 (by decide) ?_
  refine lv_icmp_ne (tgt := 13) hx hb dX2_isFull_6 (by decide) (fun c1 => ?_) (fun c1 => ?_)
  · have h := h.1 c1
    refine lv_iconst (v := (0 : Int32)) hx hb dX2_isFull_13 (by decide) ?_
    exact W.zret (v := (0 : Int32)) hx hb hr rfl (fun t ht hW => ⟨_, rfl, h, ht⟩) (fun q hq => by cases hq) dX2_isFull_14
  · have h := h.2 c1
    refine lv_iconst (v := (1 : Int32)) hx hb dX2_isFull_9 (by decide) ?_
    refine lv_goto (tgt := 14) hx hb dX2_isFull_10 (by decide) ?_
    exact W.zret (v := (1 : Int32)) hx hb hr rfl (fun t ht hW => ⟨_, rfl, h, ht⟩) (fun q hq => by cases hq) dX2_isFull_14

theorem iX2_pencil_X2 : ∀ w ∈ wsX20, w ∈ wsX2_pencil := by decide +kernel
def wX2_pencil (I : Nat → Int32) (F : Nat → Nat → Int32) (x1 x2 x3 x4 : Int32) (post : (Nat → Int32) → (Nat → Nat → Int32) → Prop) : Prop := vp_in (I 3) 40 ∧ ∀ F1 : Nat → Nat → Int32, F1 = va_up F 14 (upd (F 14) (Int32.toNatClampNeg (I 3)) x1) → vp_in (I 3) 40 ∧ ∀ F3 : Nat → Nat → Int32, F3 = va_up F1 15 (upd (F1 15) (Int32.toNatClampNeg (I 3)) x2) → vp_in (I 3) 40 ∧ ∀ F5 : Nat → Nat → Int32, F5 = va_up F3 16 (upd (F3 16) (Int32.toNatClampNeg (I 3)) x3) → vp_in (I 3) 40 ∧ ∀ F7 : Nat → Nat → Int32, F7 = va_up F5 17 (upd (F5 17) (Int32.toNatClampNeg (I 3)) x4) → post I F7
set_option maxHeartbeats 4000000 in
set_option maxRecDepth 100000 in
theorem cTX2_pencil (l : Launch) (dC : Nat → ClassId) (dI : Nat → Nat → Nat) (cI : ClassId) (ad : Nat → Nat) (I : Nat → Int32) (F : Nat → Nat → Int32) (sz : Nat) (x1 x2 x3 x4 : Int32) (post : (Nat → Int32) → (Nat → Nat → Int32) → Prop) (h : wX2_pencil I F x1 x2 x3 x4 post) : Met l yX2_pencil wsX2_pencil { frames := 0, cells := 0, slots := 0, locals := 0 } (va_Pc [.ref (ad 2), .int x1, .int x2, .int x3, .int x4] (PWw dC dI cI (wC cI ad) I F sz)) (QWv dC dI (wC cI ad) post (va_A (wC cI ad I F) sz)) 0 0 (va_A (wC cI ad I F) sz) := by
  refine Met.ofW (cc := cX2_pencil) (maxL := 5) (ret := none) (by decide) rfl ?_
  intro p e s m args below meth c s₁ B hml hv
  obtain ⟨rfl, hsz, ⟨hP, hK, hN⟩, hD0⟩ := hv
  subst hsz
  have hD := wD_any (wC_fix cI ad) (hD0.self (sz := s.heap.size))
  generalize hAe : va_A (wC cI ad I F) s.heap.size = A at hD ⊢
  have hA : ∀ q : Nat, s.heap.size ≤ q → A q := fun q h => by rw [← hAe]; exact Or.inr h
  clear hAe hD0
  have hx := B.exec
  have hb := B.bytes
  have hr := B.returns
  have hts := atoms_spec (ws := wsX2_pencil) B.pre
  have hown : s.vm.findClass RX2 = some m.cls := findClass_of_methodNamed B.named
  have hlocks := B.notSynchronized
  have C : Cx p s m _ meth c cX2_pencil 5 none RX2 wsX2_pencil := ⟨hx, hb, hml, hown, hts, hr, hlocks⟩
  have hS : va_S A s.heap s.heap [] := va_S.rf
  have hl := lv_entry ([.ref (ad 2), .int x1, .int x2, .int x3, .int x4]) (n := 5) (Nat.le_of_ble_eq_true rfl)
  rw [lg_entry_eq]
  generalize (lg_sl ([.ref (ad 2), .int x1, .int x2, .int x3, .int x4]) ++ List.replicate (5 - (lg_sl ([.ref (ad 2), .int x1, .int x2, .int x3, .int x4])).length) Slot.unset).toArray = ls at hl ⊢
  have hl : lv_has ls 5 [(0, .ref (ad 2)), (1, .int x1), (2, .int x2), (3, .int x3), (4, .int x4)] := hl
  unfold wX2_pencil at h
  refine lv_aload_n hx hb dX2_pencil_0 rfl (lv_at hl 0 rfl) ?_
  refine va_get (D := (dC, dI)) (ci := 2) (v := .ref (ad 14)) (C := RX2) (T := TX2) (N := 10) hx hb hts iX2_pencil_X2 hown hK hP 2 rfl rfl 5 (by decide) (hts (.fieldLink RX2 24 "CarrierBooks$Register" "policyOf" "[I") (by decide +kernel)) (fun _ h9 => h9) rfl dX2_pencil_1 ?_
  refine lv_aload_n hx hb dX2_pencil_4 rfl (lv_at hl 0 rfl) ?_
  refine va_get (D := (dC, dI)) (ci := 2) (v := .int (I 3)) (C := RX2) (T := TX2) (N := 10) hx hb hts iX2_pencil_X2 hown hK hP 2 rfl rfl 9 (by decide) (hts (.fieldLink RX2 36 "CarrierBooks$Register" "bookings" "I") (by decide +kernel)) (fun _ h9 => h9) rfl dX2_pencil_5 ?_
  refine lv_iload_n hx hb dX2_pencil_8 rfl (lv_at hl 1 rfl) ?_
  obtain ⟨hin2, h⟩ := h
  refine ast_w (wf := wC cI ad) hx hb hK hP hD hS 14 14 rfl hin2 rfl dX2_pencil_9 (fun F1 eF1 H locs hP hS => ?_)
  have h := h F1 eF1
  refine lv_aload_n hx hb dX2_pencil_10 rfl (lv_at hl 0 rfl) ?_
  refine va_get (D := (dC, dI)) (ci := 2) (v := .ref (ad 15)) (C := RX2) (T := TX2) (N := 10) hx hb hts iX2_pencil_X2 hown hK hP 2 rfl rfl 6 (by decide) (hts (.fieldLink RX2 27 "CarrierBooks$Register" "dayOf" "[I") (by decide +kernel)) (fun _ h9 => h9) rfl dX2_pencil_11 ?_
  refine lv_aload_n hx hb dX2_pencil_14 rfl (lv_at hl 0 rfl) ?_
  refine va_get (D := (dC, dI)) (ci := 2) (v := .int (I 3)) (C := RX2) (T := TX2) (N := 10) hx hb hts iX2_pencil_X2 hown hK hP 2 rfl rfl 9 (by decide) (hts (.fieldLink RX2 36 "CarrierBooks$Register" "bookings" "I") (by decide +kernel)) (fun _ h9 => h9) rfl dX2_pencil_15 ?_
  refine lv_iload_n hx hb dX2_pencil_18 rfl (lv_at hl 2 rfl) ?_
  obtain ⟨hin4, h⟩ := h
  refine ast_w (wf := wC cI ad) hx hb hK hP hD hS 15 15 rfl hin4 rfl dX2_pencil_19 (fun F3 eF3 H locs hP hS => ?_)
  have h := h F3 eF3
  refine lv_aload_n hx hb dX2_pencil_20 rfl (lv_at hl 0 rfl) ?_
  refine va_get (D := (dC, dI)) (ci := 2) (v := .ref (ad 16)) (C := RX2) (T := TX2) (N := 10) hx hb hts iX2_pencil_X2 hown hK hP 2 rfl rfl 7 (by decide) (hts (.fieldLink RX2 30 "CarrierBooks$Register" "factOf" "[I") (by decide +kernel)) (fun _ h9 => h9) rfl dX2_pencil_21 ?_
  refine lv_aload_n hx hb dX2_pencil_24 rfl (lv_at hl 0 rfl) ?_
  refine va_get (D := (dC, dI)) (ci := 2) (v := .int (I 3)) (C := RX2) (T := TX2) (N := 10) hx hb hts iX2_pencil_X2 hown hK hP 2 rfl rfl 9 (by decide) (hts (.fieldLink RX2 36 "CarrierBooks$Register" "bookings" "I") (by decide +kernel)) (fun _ h9 => h9) rfl dX2_pencil_25 ?_
  refine lv_iload_n hx hb dX2_pencil_28 rfl (lv_at hl 3 rfl) ?_
  obtain ⟨hin6, h⟩ := h
  refine ast_w (wf := wC cI ad) hx hb hK hP hD hS 16 16 rfl hin6 rfl dX2_pencil_29 (fun F5 eF5 H locs hP hS => ?_)
  have h := h F5 eF5
  refine lv_aload_n hx hb dX2_pencil_30 rfl (lv_at hl 0 rfl) ?_
  refine va_get (D := (dC, dI)) (ci := 2) (v := .ref (ad 17)) (C := RX2) (T := TX2) (N := 10) hx hb hts iX2_pencil_X2 hown hK hP 2 rfl rfl 8 (by decide) (hts (.fieldLink RX2 33 "CarrierBooks$Register" "valueOf" "[I") (by decide +kernel)) (fun _ h9 => h9) rfl dX2_pencil_31 ?_
  refine lv_aload_n hx hb dX2_pencil_34 rfl (lv_at hl 0 rfl) ?_
  refine va_get (D := (dC, dI)) (ci := 2) (v := .int (I 3)) (C := RX2) (T := TX2) (N := 10) hx hb hts iX2_pencil_X2 hown hK hP 2 rfl rfl 9 (by decide) (hts (.fieldLink RX2 36 "CarrierBooks$Register" "bookings" "I") (by decide +kernel)) (fun _ h9 => h9) rfl dX2_pencil_35 ?_
  refine lv_iload hx hb dX2_pencil_38 (lv_at hl 4 rfl) ?_
  obtain ⟨hin8, h⟩ := h
  refine ast_w (wf := wC cI ad) hx hb hK hP hD hS 17 17 rfl hin8 rfl dX2_pencil_40 (fun F7 eF7 H locs hP hS => ?_)
  have h := h F7 eF7
  exact W.vret hx hb hr (fun t ht hW => ⟨⟨(I, F7), rfl, h, by show va_P _ _ _ t.heap; rw [ht]; exact hP⟩, hS.F ht⟩) hS.2.2 dX2_pencil_41

theorem iX2_pencilBind_X2 : ∀ w ∈ wsX20, w ∈ wsX2_pencilBind := by decide +kernel
def wX2_pencilBind (I : Nat → Int32) (F : Nat → Nat → Int32) (x1 x2 x3 x4 x5 : Int32) (post : (Nat → Int32) → (Nat → Nat → Int32) → Prop) : Prop := vp_in (I 2) 6 ∧ ∀ F1 : Nat → Nat → Int32, F1 = va_up F 10 (upd (F 10) (Int32.toNatClampNeg (I 2)) x1) → ∀ v3 : Int32, v3 = (if (1000 : Int32) < (x1 + x2) then (1000 : Int32) else (x1 + x2)) → vp_in (I 2) 6 ∧ ∀ F4 : Nat → Nat → Int32, F4 = va_up F1 11 (upd (F1 11) (Int32.toNatClampNeg (I 2)) v3) → ∀ v6 : Int32, v6 = (I 3) → vp_in (I 2) 6 ∧ ∀ F7 : Nat → Nat → Int32, F7 = va_up F4 12 (upd (F4 12) (Int32.toNatClampNeg (I 2)) v6) → ∀ v9 : Int32, v9 = ((I 2) * (4 : Int32)) → vp_in (v9 + (0 : Int32)) 24 ∧ ∀ F10 : Nat → Nat → Int32, F10 = va_up F7 13 (upd (F7 13) (Int32.toNatClampNeg (v9 + (0 : Int32))) x3) → vp_in (v9 + (1 : Int32)) 24 ∧ ∀ F12 : Nat → Nat → Int32, F12 = va_up F10 13 (upd (F10 13) (Int32.toNatClampNeg (v9 + (1 : Int32))) x4) → vp_in (v9 + (2 : Int32)) 24 ∧ ∀ F14 : Nat → Nat → Int32, F14 = va_up F12 13 (upd (F12 13) (Int32.toNatClampNeg (v9 + (2 : Int32))) x5) → vp_in (v9 + (3 : Int32)) 24 ∧ ∀ F16 : Nat → Nat → Int32, F16 = va_up F14 13 (upd (F14 13) (Int32.toNatClampNeg (v9 + (3 : Int32))) (1 : Int32)) → wX2_pencil I F16 (I 2) x1 (-1 : Int32) (0 : Int32) (fun I19 F20 => post I19 F20)
set_option maxHeartbeats 4000000 in
set_option maxRecDepth 100000 in
theorem cTX2_pencilBind (l : Launch) (dC : Nat → ClassId) (dI : Nat → Nat → Nat) (cI : ClassId) (ad : Nat → Nat) (I : Nat → Int32) (F : Nat → Nat → Int32) (sz : Nat) (x1 x2 x3 x4 x5 : Int32) (post : (Nat → Int32) → (Nat → Nat → Int32) → Prop) (h : wX2_pencilBind I F x1 x2 x3 x4 x5 post) : Met l yX2_pencilBind wsX2_pencilBind { frames := 1, cells := 0, slots := 0, locals := 24 } (va_Pc [.ref (ad 2), .int x1, .int x2, .int x3, .int x4, .int x5] (PWw dC dI cI (wC cI ad) I F sz)) (QWv dC dI (wC cI ad) post (va_A (wC cI ad I F) sz)) 0 0 (va_A (wC cI ad I F) sz) := by
  refine Met.ofW (cc := cX2_pencilBind) (maxL := 7) (ret := none) (by decide) rfl ?_
  intro p e s m args below meth c s₁ B hml hv
  obtain ⟨rfl, hsz, ⟨hP, hK, hN⟩, hD0⟩ := hv
  subst hsz
  have hD := wD_any (wC_fix cI ad) (hD0.self (sz := s.heap.size))
  generalize hAe : va_A (wC cI ad I F) s.heap.size = A at hD ⊢
  have hA : ∀ q : Nat, s.heap.size ≤ q → A q := fun q h => by rw [← hAe]; exact Or.inr h
  clear hAe hD0
  have hx := B.exec
  have hb := B.bytes
  have hr := B.returns
  have hts := atoms_spec (ws := wsX2_pencilBind) B.pre
  have hown : s.vm.findClass RX2 = some m.cls := findClass_of_methodNamed B.named
  have hlocks := B.notSynchronized
  have C : Cx p s m _ meth c cX2_pencilBind 7 none RX2 wsX2_pencilBind := ⟨hx, hb, hml, hown, hts, hr, hlocks⟩
  have hS : va_S A s.heap s.heap [] := va_S.rf
  have hl := lv_entry ([.ref (ad 2), .int x1, .int x2, .int x3, .int x4, .int x5]) (n := 7) (Nat.le_of_ble_eq_true rfl)
  rw [lg_entry_eq]
  generalize (lg_sl ([.ref (ad 2), .int x1, .int x2, .int x3, .int x4, .int x5]) ++ List.replicate (7 - (lg_sl ([.ref (ad 2), .int x1, .int x2, .int x3, .int x4, .int x5])).length) Slot.unset).toArray = ls at hl ⊢
  have hl : lv_has ls 7 [(0, .ref (ad 2)), (1, .int x1), (2, .int x2), (3, .int x3), (4, .int x4), (5, .int x5)] := hl
  unfold wX2_pencilBind at h
  refine lv_aload_n hx hb dX2_pencilBind_0 rfl (lv_at hl 0 rfl) ?_
  refine va_get (D := (dC, dI)) (ci := 2) (v := .ref (ad 10)) (C := RX2) (T := TX2) (N := 10) hx hb hts iX2_pencilBind_X2 hown hK hP 2 rfl rfl 0 (by decide) (hts (.fieldLink RX2 9 "CarrierBooks$Register" "start" "[I") (by decide +kernel)) (fun _ h9 => h9) rfl dX2_pencilBind_1 ?_
  refine lv_aload_n hx hb dX2_pencilBind_4 rfl (lv_at hl 0 rfl) ?_
  refine va_get (D := (dC, dI)) (ci := 2) (v := .int (I 2)) (C := RX2) (T := TX2) (N := 10) hx hb hts iX2_pencilBind_X2 hown hK hP 2 rfl rfl 4 (by decide) (hts (.fieldLink RX2 40 "CarrierBooks$Register" "policies" "I") (by decide +kernel)) (fun _ h9 => h9) rfl dX2_pencilBind_5 ?_
  refine lv_iload_n hx hb dX2_pencilBind_8 rfl (lv_at hl 1 rfl) ?_
  obtain ⟨hin2, h⟩ := h
  refine ast_w (wf := wC cI ad) hx hb hK hP hD hS 10 10 rfl hin2 rfl dX2_pencilBind_9 (fun F1 eF1 H locs hP hS => ?_)
  have h := h F1 eF1
  refine lv_aload_n hx hb dX2_pencilBind_10 rfl (lv_at hl 0 rfl) ?_
  refine va_get (D := (dC, dI)) (ci := 2) (v := .ref (ad 11)) (C := RX2) (T := TX2) (N := 10) hx hb hts iX2_pencilBind_X2 hown hK hP 2 rfl rfl 1 (by decide) (hts (.fieldLink RX2 15 "CarrierBooks$Register" "end" "[I") (by decide +kernel)) (fun _ h9 => h9) rfl dX2_pencilBind_11 ?_
  refine lv_aload_n hx hb dX2_pencilBind_14 rfl (lv_at hl 0 rfl) ?_
  refine va_get (D := (dC, dI)) (ci := 2) (v := .int (I 2)) (C := RX2) (T := TX2) (N := 10) hx hb hts iX2_pencilBind_X2 hown hK hP 2 rfl rfl 4 (by decide) (hts (.fieldLink RX2 40 "CarrierBooks$Register" "policies" "I") (by decide +kernel)) (fun _ h9 => h9) rfl dX2_pencilBind_15 ?_
  refine lv_iload_n hx hb dX2_pencilBind_18 rfl (lv_at hl 1 rfl) ?_
  refine lv_iload_n hx hb dX2_pencilBind_19 rfl (lv_at hl 2 rfl) ?_
  refine lv_iadd hx hb dX2_pencilBind_20 ?_
  refine lv_sipush (v := (1000 : Int32)) hx hb dX2_pencilBind_21 (by decide) ?_
  refine va_mmin hx hb (hml.trans hl.1.symm) hown (hts (.methodLink RX2 43 Lib.Math.min.name) (by decide +kernel)) (hts (.static Lib.Math.min.name) (by decide +kernel)) (hts (.initialized "java/lang/Math") (by decide +kernel)) (hts (.code Lib.Math.min.name Lib.Math.min.code 2 (some .int)) (by decide +kernel)) (Nat.le_of_ble_eq_true rfl) (Nat.le_of_ble_eq_true rfl) (Nat.zero_le _) (Nat.zero_le _) dX2_pencilBind_24 ?_
  refine lv_topi (fun v3 ev3 => ?_)
  have h := h v3 ev3
  obtain ⟨hin5, h⟩ := h
  refine ast_w (wf := wC cI ad) hx hb hK hP hD hS 11 11 rfl hin5 rfl dX2_pencilBind_27 (fun F4 eF4 H locs hP hS => ?_)
  have h := h F4 eF4
  refine lv_aload_n hx hb dX2_pencilBind_28 rfl (lv_at hl 0 rfl) ?_
  refine va_get (D := (dC, dI)) (ci := 2) (v := .ref (ad 12)) (C := RX2) (T := TX2) (N := 10) hx hb hts iX2_pencilBind_X2 hown hK hP 2 rfl rfl 2 (by decide) (hts (.fieldLink RX2 18 "CarrierBooks$Register" "boundBy" "[I") (by decide +kernel)) (fun _ h9 => h9) rfl dX2_pencilBind_29 ?_
  refine lv_aload_n hx hb dX2_pencilBind_32 rfl (lv_at hl 0 rfl) ?_
  refine va_get (D := (dC, dI)) (ci := 2) (v := .int (I 2)) (C := RX2) (T := TX2) (N := 10) hx hb hts iX2_pencilBind_X2 hown hK hP 2 rfl rfl 4 (by decide) (hts (.fieldLink RX2 40 "CarrierBooks$Register" "policies" "I") (by decide +kernel)) (fun _ h9 => h9) rfl dX2_pencilBind_33 ?_
  refine lv_aload_n hx hb dX2_pencilBind_36 rfl (lv_at hl 0 rfl) ?_
  refine va_get (D := (dC, dI)) (ci := 2) (v := .int (I 3)) (C := RX2) (T := TX2) (N := 10) hx hb hts iX2_pencilBind_X2 hown hK hP 2 rfl rfl 9 (by decide) (hts (.fieldLink RX2 36 "CarrierBooks$Register" "bookings" "I") (by decide +kernel)) (fun _ h9 => h9) rfl dX2_pencilBind_37 ?_
  refine lv_topi (fun v6 ev6 => ?_)
  have h := h v6 ev6
  obtain ⟨hin8, h⟩ := h
  refine ast_w (wf := wC cI ad) hx hb hK hP hD hS 12 12 rfl hin8 rfl dX2_pencilBind_40 (fun F7 eF7 H locs hP hS => ?_)
  have h := h F7 eF7
  refine lv_aload_n hx hb dX2_pencilBind_41 rfl (lv_at hl 0 rfl) ?_
  refine va_get (D := (dC, dI)) (ci := 2) (v := .int (I 2)) (C := RX2) (T := TX2) (N := 10) hx hb hts iX2_pencilBind_X2 hown hK hP 2 rfl rfl 4 (by decide) (hts (.fieldLink RX2 40 "CarrierBooks$Register" "policies" "I") (by decide +kernel)) (fun _ h9 => h9) rfl dX2_pencilBind_42 ?_
  refine lv_iconst (v := (4 : Int32)) hx hb dX2_pencilBind_45 (by decide) ?_
  refine lv_imul hx hb dX2_pencilBind_46 ?_
  refine lv_topi (fun v9 ev9 => ?_)
  have h := h v9 ev9
  refine lv_istore (lv' := [(6, .int v9), (0, .ref (ad 2)), (1, .int x1), (2, .int x2), (3, .int x3), (4, .int x4), (5, .int x5)]) hx hb dX2_pencilBind_47 hl (by decide) rfl (fun ls hl => ?_)
  refine lv_aload_n hx hb dX2_pencilBind_49 rfl (lv_at hl 1 rfl) ?_
  refine va_get (D := (dC, dI)) (ci := 2) (v := .ref (ad 13)) (C := RX2) (T := TX2) (N := 10) hx hb hts iX2_pencilBind_X2 hown hK hP 2 rfl rfl 3 (by decide) (hts (.fieldLink RX2 21 "CarrierBooks$Register" "firstFacts" "[I") (by decide +kernel)) (fun _ h9 => h9) rfl dX2_pencilBind_50 ?_
  refine lv_iload hx hb dX2_pencilBind_53 (lv_at hl 0 rfl) ?_
  refine lv_iconst (v := (0 : Int32)) hx hb dX2_pencilBind_55 (by decide) ?_
  refine lv_iadd hx hb dX2_pencilBind_56 ?_
  refine lv_iload_n hx hb dX2_pencilBind_57 rfl (lv_at hl 4 rfl) ?_
  obtain ⟨hin11, h⟩ := h
  refine ast_w (wf := wC cI ad) hx hb hK hP hD hS 13 13 rfl hin11 rfl dX2_pencilBind_58 (fun F10 eF10 H locs hP hS => ?_)
  have h := h F10 eF10
  refine lv_aload_n hx hb dX2_pencilBind_59 rfl (lv_at hl 1 rfl) ?_
  refine va_get (D := (dC, dI)) (ci := 2) (v := .ref (ad 13)) (C := RX2) (T := TX2) (N := 10) hx hb hts iX2_pencilBind_X2 hown hK hP 2 rfl rfl 3 (by decide) (hts (.fieldLink RX2 21 "CarrierBooks$Register" "firstFacts" "[I") (by decide +kernel)) (fun _ h9 => h9) rfl dX2_pencilBind_60 ?_
  refine lv_iload hx hb dX2_pencilBind_63 (lv_at hl 0 rfl) ?_
  refine lv_iconst (v := (1 : Int32)) hx hb dX2_pencilBind_65 (by decide) ?_
  refine lv_iadd hx hb dX2_pencilBind_66 ?_
  refine lv_iload hx hb dX2_pencilBind_67 (lv_at hl 5 rfl) ?_
  obtain ⟨hin13, h⟩ := h
  refine ast_w (wf := wC cI ad) hx hb hK hP hD hS 13 13 rfl hin13 rfl dX2_pencilBind_69 (fun F12 eF12 H locs hP hS => ?_)
  have h := h F12 eF12
  refine lv_aload_n hx hb dX2_pencilBind_70 rfl (lv_at hl 1 rfl) ?_
  refine va_get (D := (dC, dI)) (ci := 2) (v := .ref (ad 13)) (C := RX2) (T := TX2) (N := 10) hx hb hts iX2_pencilBind_X2 hown hK hP 2 rfl rfl 3 (by decide) (hts (.fieldLink RX2 21 "CarrierBooks$Register" "firstFacts" "[I") (by decide +kernel)) (fun _ h9 => h9) rfl dX2_pencilBind_71 ?_
  refine lv_iload hx hb dX2_pencilBind_74 (lv_at hl 0 rfl) ?_
  refine lv_iconst (v := (2 : Int32)) hx hb dX2_pencilBind_76 (by decide) ?_
  refine lv_iadd hx hb dX2_pencilBind_77 ?_
  refine lv_iload hx hb dX2_pencilBind_78 (lv_at hl 6 rfl) ?_
  obtain ⟨hin15, h⟩ := h
  refine ast_w (wf := wC cI ad) hx hb hK hP hD hS 13 13 rfl hin15 rfl dX2_pencilBind_80 (fun F14 eF14 H locs hP hS => ?_)
  have h := h F14 eF14
  refine lv_aload_n hx hb dX2_pencilBind_81 rfl (lv_at hl 1 rfl) ?_
  refine va_get (D := (dC, dI)) (ci := 2) (v := .ref (ad 13)) (C := RX2) (T := TX2) (N := 10) hx hb hts iX2_pencilBind_X2 hown hK hP 2 rfl rfl 3 (by decide) (hts (.fieldLink RX2 21 "CarrierBooks$Register" "firstFacts" "[I") (by decide +kernel)) (fun _ h9 => h9) rfl dX2_pencilBind_82 ?_
  refine lv_iload hx hb dX2_pencilBind_85 (lv_at hl 0 rfl) ?_
  refine lv_iconst (v := (3 : Int32)) hx hb dX2_pencilBind_87 (by decide) ?_
  refine lv_iadd hx hb dX2_pencilBind_88 ?_
  refine lv_iconst (v := (1 : Int32)) hx hb dX2_pencilBind_89 (by decide) ?_
  obtain ⟨hin17, h⟩ := h
  refine ast_w (wf := wC cI ad) hx hb hK hP hD hS 13 13 rfl hin17 rfl dX2_pencilBind_90 (fun F16 eF16 H locs hP hS => ?_)
  have h := h F16 eF16
  refine lv_aload_n hx hb dX2_pencilBind_91 rfl (lv_at hl 1 rfl) ?_
  refine lv_aload_n hx hb dX2_pencilBind_92 rfl (lv_at hl 1 rfl) ?_
  refine va_get (D := (dC, dI)) (ci := 2) (v := .int (I 2)) (C := RX2) (T := TX2) (N := 10) hx hb hts iX2_pencilBind_X2 hown hK hP 2 rfl rfl 4 (by decide) (hts (.fieldLink RX2 40 "CarrierBooks$Register" "policies" "I") (by decide +kernel)) (fun _ h9 => h9) rfl dX2_pencilBind_93 ?_
  refine lv_iload_n hx hb dX2_pencilBind_96 rfl (lv_at hl 2 rfl) ?_
  refine lv_iconst (v := (-1 : Int32)) hx hb dX2_pencilBind_97 (by decide) ?_
  refine lv_iconst (v := (0 : Int32)) hx hb dX2_pencilBind_98 (by decide) ?_
  refine wcall_v (va_runV (As := [.int (I 2), .int x1, .int (-1 : Int32), .int (0 : Int32)]) (rest := []) ⟨hx, hb, hml, hown, hts⟩ (cTX2_pencil l dC dI cI ad I F16 H.size (I 2) x1 (-1 : Int32) (0 : Int32) _ h) (cwV 4 hts gX2_pencilBind_X2_pencil rfl rfl rfl (by decide +kernel) ⟨Nat.le_of_ble_eq_true rfl, Nat.le_of_ble_eq_true rfl⟩) (pv_W hP hK hN ((hD _ _).weaken (fun _ _ _ _ => trivial)) 2 2 rfl rfl _) rfl rfl hl.1 rfl (lv_room (Nat.le_of_ble_eq_true rfl)) dX2_pencilBind_99 ⟨Nat.le_of_ble_eq_true rfl, Nat.le_of_ble_eq_true rfl⟩) hD hS hA (fun I19 F20 h H locs hP hS => ?_)
  exact W.vret hx hb hr (fun t ht hW => ⟨⟨(I19, F20), rfl, h, by show va_P _ _ _ t.heap; rw [ht]; exact hP⟩, hS.F ht⟩) hS.2.2 dX2_pencilBind_102

theorem iX2_confirmBind_X2 : ∀ w ∈ wsX20, w ∈ wsX2_confirmBind := by decide +kernel
def wX2_confirmBind (I : Nat → Int32) (F : Nat → Nat → Int32) (post : (Nat → Int32) → (Nat → Nat → Int32) → Prop) : Prop := ∀ v1 : Int32, v1 = ((I 2) + (1 : Int32)) → ∀ I2 : Nat → Int32, I2 = va_up I 2 v1 → ∀ v3 : Int32, v3 = ((I2 3) + (1 : Int32)) → ∀ I4 : Nat → Int32, I4 = va_up I2 3 v3 → post I4 F
set_option maxHeartbeats 4000000 in
set_option maxRecDepth 100000 in
theorem cTX2_confirmBind (l : Launch) (dC : Nat → ClassId) (dI : Nat → Nat → Nat) (cI : ClassId) (ad : Nat → Nat) (I : Nat → Int32) (F : Nat → Nat → Int32) (sz : Nat) (post : (Nat → Int32) → (Nat → Nat → Int32) → Prop) (h : wX2_confirmBind I F post) : Met l yX2_confirmBind wsX2_confirmBind { frames := 0, cells := 0, slots := 0, locals := 0 } (va_Pc [.ref (ad 2)] (PWw dC dI cI (wC cI ad) I F sz)) (QWv dC dI (wC cI ad) post (va_A (wC cI ad I F) sz)) 0 0 (va_A (wC cI ad I F) sz) := by
  refine Met.ofW (cc := cX2_confirmBind) (maxL := 1) (ret := none) (by decide) rfl ?_
  intro p e s m args below meth c s₁ B hml hv
  obtain ⟨rfl, hsz, ⟨hP, hK, hN⟩, hD0⟩ := hv
  subst hsz
  have hD := wD_any (wC_fix cI ad) (hD0.self (sz := s.heap.size))
  generalize hAe : va_A (wC cI ad I F) s.heap.size = A at hD ⊢
  have hA : ∀ q : Nat, s.heap.size ≤ q → A q := fun q h => by rw [← hAe]; exact Or.inr h
  clear hAe hD0
  have hx := B.exec
  have hb := B.bytes
  have hr := B.returns
  have hts := atoms_spec (ws := wsX2_confirmBind) B.pre
  have hown : s.vm.findClass RX2 = some m.cls := findClass_of_methodNamed B.named
  have hlocks := B.notSynchronized
  have C : Cx p s m _ meth c cX2_confirmBind 1 none RX2 wsX2_confirmBind := ⟨hx, hb, hml, hown, hts, hr, hlocks⟩
  have hS : va_S A s.heap s.heap [] := va_S.rf
  have hl := lv_entry ([.ref (ad 2)]) (n := 1) (Nat.le_of_ble_eq_true rfl)
  rw [lg_entry_eq]
  generalize (lg_sl ([.ref (ad 2)]) ++ List.replicate (1 - (lg_sl ([.ref (ad 2)])).length) Slot.unset).toArray = ls at hl ⊢
  have hl : lv_has ls 1 [(0, .ref (ad 2))] := hl
  unfold wX2_confirmBind at h
  refine lv_aload_n hx hb dX2_confirmBind_0 rfl (lv_at hl 0 rfl) ?_
  refine lv_dup hx hb dX2_confirmBind_1 rfl ?_
  refine va_get (D := (dC, dI)) (ci := 2) (v := .int (I 2)) (C := RX2) (T := TX2) (N := 10) hx hb hts iX2_confirmBind_X2 hown hK hP 2 rfl rfl 4 (by decide) (hts (.fieldLink RX2 40 "CarrierBooks$Register" "policies" "I") (by decide +kernel)) (fun _ h9 => h9) rfl dX2_confirmBind_2 ?_
  refine lv_iconst (v := (1 : Int32)) hx hb dX2_confirmBind_5 (by decide) ?_
  refine lv_iadd hx hb dX2_confirmBind_6 ?_
  refine lv_topi (fun v1 ev1 => ?_)
  have h := h v1 ev1
  refine put_w (wf := wC cI ad) (ci := 2) (C := RX2) (T := TX2) (N := 10) hx hb hts iX2_confirmBind_X2 tyX2 tyX2_ok nmX2 hown hK hP hD hS 2 rfl rfl 4 (by decide) (hts (.fieldLink RX2 40 "CarrierBooks$Register" "policies" "I") (by decide +kernel)) (fun _ h9 => h9) rfl 2 (by decide +kernel) (Nat.le_of_ble_eq_true rfl) rfl dX2_confirmBind_7 (fun I2 eI2 H locs hP hS => ?_)
  have h := h I2 eI2
  refine lv_aload_n hx hb dX2_confirmBind_10 rfl (lv_at hl 0 rfl) ?_
  refine lv_dup hx hb dX2_confirmBind_11 rfl ?_
  refine va_get (D := (dC, dI)) (ci := 2) (v := .int (I2 3)) (C := RX2) (T := TX2) (N := 10) hx hb hts iX2_confirmBind_X2 hown hK hP 2 rfl rfl 9 (by decide) (hts (.fieldLink RX2 36 "CarrierBooks$Register" "bookings" "I") (by decide +kernel)) (fun _ h9 => h9) rfl dX2_confirmBind_12 ?_
  refine lv_iconst (v := (1 : Int32)) hx hb dX2_confirmBind_15 (by decide) ?_
  refine lv_iadd hx hb dX2_confirmBind_16 ?_
  refine lv_topi (fun v3 ev3 => ?_)
  have h := h v3 ev3
  refine put_w (wf := wC cI ad) (ci := 2) (C := RX2) (T := TX2) (N := 10) hx hb hts iX2_confirmBind_X2 tyX2 tyX2_ok nmX2 hown hK hP hD hS 2 rfl rfl 9 (by decide) (hts (.fieldLink RX2 36 "CarrierBooks$Register" "bookings" "I") (by decide +kernel)) (fun _ h9 => h9) rfl 3 (by decide +kernel) (Nat.le_of_ble_eq_true rfl) rfl dX2_confirmBind_17 (fun I4 eI4 H locs hP hS => ?_)
  have h := h I4 eI4
  exact W.vret hx hb hr (fun t ht hW => ⟨⟨(I4, F), rfl, h, by show va_P _ _ _ t.heap; rw [ht]; exact hP⟩, hS.F ht⟩) hS.2.2 dX2_confirmBind_20

theorem iX2_confirm_X2 : ∀ w ∈ wsX20, w ∈ wsX2_confirm := by decide +kernel
def wX2_confirm (I : Nat → Int32) (F : Nat → Nat → Int32) (post : Int32 → (Nat → Int32) → (Nat → Nat → Int32) → Prop) : Prop := ∀ v1 : Int32, v1 = ((I 3) + (1 : Int32)) → ∀ I2 : Nat → Int32, I2 = va_up I 3 v1 → post ((I2 3) - (1 : Int32)) I2 F
set_option maxHeartbeats 4000000 in
set_option maxRecDepth 100000 in
theorem cTX2_confirm (l : Launch) (dC : Nat → ClassId) (dI : Nat → Nat → Nat) (cI : ClassId) (ad : Nat → Nat) (I : Nat → Int32) (F : Nat → Nat → Int32) (sz : Nat) (post : Int32 → (Nat → Int32) → (Nat → Nat → Int32) → Prop) (h : wX2_confirm I F post) : Met l yX2_confirm wsX2_confirm { frames := 0, cells := 0, slots := 0, locals := 0 } (va_Pc [.ref (ad 2)] (PWw dC dI cI (wC cI ad) I F sz)) (QWi dC dI (wC cI ad) post (va_A (wC cI ad I F) sz)) 0 0 (va_A (wC cI ad I F) sz) := by
  refine Met.ofW (cc := cX2_confirm) (maxL := 1) (ret := (some .int)) (by decide) rfl ?_
  intro p e s m args below meth c s₁ B hml hv
  obtain ⟨rfl, hsz, ⟨hP, hK, hN⟩, hD0⟩ := hv
  subst hsz
  have hD := wD_any (wC_fix cI ad) (hD0.self (sz := s.heap.size))
  generalize hAe : va_A (wC cI ad I F) s.heap.size = A at hD ⊢
  have hA : ∀ q : Nat, s.heap.size ≤ q → A q := fun q h => by rw [← hAe]; exact Or.inr h
  clear hAe hD0
  have hx := B.exec
  have hb := B.bytes
  have hr := B.returns
  have hts := atoms_spec (ws := wsX2_confirm) B.pre
  have hown : s.vm.findClass RX2 = some m.cls := findClass_of_methodNamed B.named
  have hlocks := B.notSynchronized
  have C : Cx p s m _ meth c cX2_confirm 1 (some .int) RX2 wsX2_confirm := ⟨hx, hb, hml, hown, hts, hr, hlocks⟩
  have hS : va_S A s.heap s.heap [] := va_S.rf
  have hl := lv_entry ([.ref (ad 2)]) (n := 1) (Nat.le_of_ble_eq_true rfl)
  rw [lg_entry_eq]
  generalize (lg_sl ([.ref (ad 2)]) ++ List.replicate (1 - (lg_sl ([.ref (ad 2)])).length) Slot.unset).toArray = ls at hl ⊢
  have hl : lv_has ls 1 [(0, .ref (ad 2))] := hl
  unfold wX2_confirm at h
  refine lv_aload_n hx hb dX2_confirm_0 rfl (lv_at hl 0 rfl) ?_
  refine lv_dup hx hb dX2_confirm_1 rfl ?_
  refine va_get (D := (dC, dI)) (ci := 2) (v := .int (I 3)) (C := RX2) (T := TX2) (N := 10) hx hb hts iX2_confirm_X2 hown hK hP 2 rfl rfl 9 (by decide) (hts (.fieldLink RX2 36 "CarrierBooks$Register" "bookings" "I") (by decide +kernel)) (fun _ h9 => h9) rfl dX2_confirm_2 ?_
  refine lv_iconst (v := (1 : Int32)) hx hb dX2_confirm_5 (by decide) ?_
  refine lv_iadd hx hb dX2_confirm_6 ?_
  refine lv_topi (fun v1 ev1 => ?_)
  have h := h v1 ev1
  refine put_w (wf := wC cI ad) (ci := 2) (C := RX2) (T := TX2) (N := 10) hx hb hts iX2_confirm_X2 tyX2 tyX2_ok nmX2 hown hK hP hD hS 2 rfl rfl 9 (by decide) (hts (.fieldLink RX2 36 "CarrierBooks$Register" "bookings" "I") (by decide +kernel)) (fun _ h9 => h9) rfl 3 (by decide +kernel) (Nat.le_of_ble_eq_true rfl) rfl dX2_confirm_7 (fun I2 eI2 H locs hP hS => ?_)
  have h := h I2 eI2
  refine lv_aload_n hx hb dX2_confirm_10 rfl (lv_at hl 0 rfl) ?_
  refine va_get (D := (dC, dI)) (ci := 2) (v := .int (I2 3)) (C := RX2) (T := TX2) (N := 10) hx hb hts iX2_confirm_X2 hown hK hP 2 rfl rfl 9 (by decide) (hts (.fieldLink RX2 36 "CarrierBooks$Register" "bookings" "I") (by decide +kernel)) (fun _ h9 => h9) rfl dX2_confirm_11 ?_
  refine lv_iconst (v := (1 : Int32)) hx hb dX2_confirm_14 (by decide) ?_
  refine lv_isub hx hb dX2_confirm_15 ?_
  exact W.iret (v := ((I2 3) - (1 : Int32))) hx hb hr (fun t ht hW => ⟨⟨((I2 3) - (1 : Int32)), (I2, F), rfl, h, by show va_P _ _ _ t.heap; rw [ht]; exact hP⟩, hS.F ht⟩) hS.2.2 dX2_confirm_16

theorem iX2_countedAsOf_X2 : ∀ w ∈ wsX20, w ∈ wsX2_countedAsOf := by decide +kernel
def wX2_countedAsOf (I : Nat → Int32) (F : Nat → Nat → Int32) (x1 : Int32) (post : Int32 → Prop) : Prop := ∀ v1 : Int32, v1 = (if ((I 3) - (1 : Int32)) < x1 then ((I 3) - (1 : Int32)) else x1) → ∀ v2 : Int32, v2 = (if (0 : Int32) < (v1 + (1 : Int32)) then (v1 + (1 : Int32)) else (0 : Int32)) → post v2
set_option maxHeartbeats 4000000 in
set_option maxRecDepth 100000 in
theorem cTX2_countedAsOf (l : Launch) (dC : Nat → ClassId) (dI : Nat → Nat → Nat) (cI : ClassId) (ad : Nat → Nat) (I : Nat → Int32) (F : Nat → Nat → Int32) (x1 : Int32) (post : Int32 → Prop) (h : wX2_countedAsOf I F x1 post) : Met l yX2_countedAsOf wsX2_countedAsOf { frames := 1, cells := 0, slots := 0, locals := 16 } (va_Pc [.ref (ad 2), .int x1] (PW dC dI cI (wC cI ad) I F)) (vp_Si post) 0 0 (fun _ => False) := by
  refine Met.ofW (cc := cX2_countedAsOf) (maxL := 2) (ret := (some .int)) (by decide) rfl ?_
  intro p e s m args below meth c s₁ B hml hv
  obtain ⟨rfl, hP, hK, hN⟩ := hv
  have hx := B.exec
  have hb := B.bytes
  have hr := B.returns
  have hts := atoms_spec (ws := wsX2_countedAsOf) B.pre
  have hown : s.vm.findClass RX2 = some m.cls := findClass_of_methodNamed B.named
  have hlocks := B.notSynchronized
  have C : Cx p s m _ meth c cX2_countedAsOf 2 (some .int) RX2 wsX2_countedAsOf := ⟨hx, hb, hml, hown, hts, hr, hlocks⟩
  have hl := lv_entry ([.ref (ad 2), .int x1]) (n := 2) (Nat.le_of_ble_eq_true rfl)
  rw [lg_entry_eq]
  generalize (lg_sl ([.ref (ad 2), .int x1]) ++ List.replicate (2 - (lg_sl ([.ref (ad 2), .int x1])).length) Slot.unset).toArray = ls at hl ⊢
  have hl : lv_has ls 2 [(0, .ref (ad 2)), (1, .int x1)] := hl
  unfold wX2_countedAsOf at h
  refine lv_iconst (v := (0 : Int32)) hx hb dX2_countedAsOf_0 (by decide) ?_
  refine lv_iload_n hx hb dX2_countedAsOf_1 rfl (lv_at hl 1 rfl) ?_
  refine lv_aload_n hx hb dX2_countedAsOf_2 rfl (lv_at hl 0 rfl) ?_
  refine va_get (D := (dC, dI)) (ci := 2) (v := .int (I 3)) (C := RX2) (T := TX2) (N := 10) hx hb hts iX2_countedAsOf_X2 hown hK hP 2 rfl rfl 9 (by decide) (hts (.fieldLink RX2 36 "CarrierBooks$Register" "bookings" "I") (by decide +kernel)) (fun _ h9 => h9) rfl dX2_countedAsOf_3 ?_
  refine lv_iconst (v := (1 : Int32)) hx hb dX2_countedAsOf_6 (by decide) ?_
  refine lv_isub hx hb dX2_countedAsOf_7 ?_
  refine va_mmin hx hb (hml.trans hl.1.symm) hown (hts (.methodLink RX2 43 Lib.Math.min.name) (by decide +kernel)) (hts (.static Lib.Math.min.name) (by decide +kernel)) (hts (.initialized "java/lang/Math") (by decide +kernel)) (hts (.code Lib.Math.min.name Lib.Math.min.code 2 (some .int)) (by decide +kernel)) (Nat.le_of_ble_eq_true rfl) (Nat.le_of_ble_eq_true rfl) (Nat.zero_le _) (Nat.zero_le _) dX2_countedAsOf_8 ?_
  refine lv_topi (fun v1 ev1 => ?_)
  have h := h v1 ev1
  refine lv_iconst (v := (1 : Int32)) hx hb dX2_countedAsOf_11 (by decide) ?_
  refine lv_iadd hx hb dX2_countedAsOf_12 ?_
  refine va_mmax hx hb (hml.trans hl.1.symm) hown (hts (.methodLink RX2 53 Lib.Math.max.name) (by decide +kernel)) (hts (.static Lib.Math.max.name) (by decide +kernel)) (hts (.initialized "java/lang/Math") (by decide +kernel)) (hts (.code Lib.Math.max.name Lib.Math.max.code 2 (some .int)) (by decide +kernel)) (Nat.le_of_ble_eq_true rfl) (Nat.le_of_ble_eq_true rfl) (Nat.zero_le _) (Nat.zero_le _) dX2_countedAsOf_13 ?_
  refine lv_topi (fun v2 ev2 => ?_)
  have h := h v2 ev2
  exact W.iret (v := v2) hx hb hr (fun t ht hW => ⟨_, rfl, h, ht⟩) (fun q hq => by cases hq) dX2_countedAsOf_16

theorem iX2_isBound_X2 : ∀ w ∈ wsX20, w ∈ wsX2_isBound := by decide +kernel
def wX2_isBound (I : Nat → Int32) (F : Nat → Nat → Int32) (x1 x2 : Int32) (post : Int32 → Prop) : Prop := vp_in x1 6 ∧ ((x2 ≤ (F 12 (Int32.toNatClampNeg x1)) → post (0 : Int32)) ∧ (¬ x2 ≤ (F 12 (Int32.toNatClampNeg x1)) → post (1 : Int32)))
set_option maxHeartbeats 4000000 in
set_option maxRecDepth 100000 in
theorem cTX2_isBound (l : Launch) (dC : Nat → ClassId) (dI : Nat → Nat → Nat) (cI : ClassId) (ad : Nat → Nat) (I : Nat → Int32) (F : Nat → Nat → Int32) (x1 x2 : Int32) (post : Int32 → Prop) (h : wX2_isBound I F x1 x2 post) : Met l yX2_isBound wsX2_isBound { frames := 0, cells := 0, slots := 0, locals := 0 } (va_Pc [.ref (ad 2), .int x1, .int x2] (PW dC dI cI (wC cI ad) I F)) (vp_Si post) 0 0 (fun _ => False) := by
  refine Met.ofW (cc := cX2_isBound) (maxL := 3) (ret := (some .boolean)) (by decide) rfl ?_
  intro p e s m args below meth c s₁ B hml hv
  obtain ⟨rfl, hP, hK, hN⟩ := hv
  have hx := B.exec
  have hb := B.bytes
  have hr := B.returns
  have hts := atoms_spec (ws := wsX2_isBound) B.pre
  have hown : s.vm.findClass RX2 = some m.cls := findClass_of_methodNamed B.named
  have hlocks := B.notSynchronized
  have C : Cx p s m _ meth c cX2_isBound 3 (some .boolean) RX2 wsX2_isBound := ⟨hx, hb, hml, hown, hts, hr, hlocks⟩
  have hl := lv_entry ([.ref (ad 2), .int x1, .int x2]) (n := 3) (Nat.le_of_ble_eq_true rfl)
  rw [lg_entry_eq]
  generalize (lg_sl ([.ref (ad 2), .int x1, .int x2]) ++ List.replicate (3 - (lg_sl ([.ref (ad 2), .int x1, .int x2])).length) Slot.unset).toArray = ls at hl ⊢
  have hl : lv_has ls 3 [(0, .ref (ad 2)), (1, .int x1), (2, .int x2)] := hl
  unfold wX2_isBound at h
  refine lv_aload_n hx hb dX2_isBound_0 rfl (lv_at hl 0 rfl) ?_
  refine va_get (D := (dC, dI)) (ci := 2) (v := .ref (ad 12)) (C := RX2) (T := TX2) (N := 10) hx hb hts iX2_isBound_X2 hown hK hP 2 rfl rfl 2 (by decide) (hts (.fieldLink RX2 18 "CarrierBooks$Register" "boundBy" "[I") (by decide +kernel)) (fun _ h9 => h9) rfl dX2_isBound_1 ?_
  refine lv_iload_n hx hb dX2_isBound_4 rfl (lv_at hl 1 rfl) ?_
  obtain ⟨hin1, h⟩ := h
  refine va_iald hx hb hK hP 12 0 rfl rfl hin1 dX2_isBound_5 ?_
  refine lv_iload_n hx hb dX2_isBound_6 rfl (lv_at hl 2 rfl) ?_
  refine lv_icmp_ge (tgt := 14) hx hb dX2_isBound_7 (by decide) (fun c2 => ?_) (fun c2 => ?_)
  · have h := h.1 c2
    refine lv_iconst (v := (0 : Int32)) hx hb dX2_isBound_14 (by decide) ?_
    exact W.zret (v := (0 : Int32)) hx hb hr rfl (fun t ht hW => ⟨_, rfl, h, ht⟩) (fun q hq => by cases hq) dX2_isBound_15
  · have h := h.2 c2
    refine lv_iconst (v := (1 : Int32)) hx hb dX2_isBound_10 (by decide) ?_
    refine lv_goto (tgt := 15) hx hb dX2_isBound_11 (by decide) ?_
    exact W.zret (v := (1 : Int32)) hx hb hr rfl (fun t ht hW => ⟨_, rfl, h, ht⟩) (fun q hq => by cases hq) dX2_isBound_15

theorem iX2_isInTerm_X2 : ∀ w ∈ wsX20, w ∈ wsX2_isInTerm := by decide +kernel
def wX2_isInTerm (I : Nat → Int32) (F : Nat → Nat → Int32) (x1 x2 : Int32) (post : Int32 → Prop) : Prop := vp_in x1 6 ∧ ((x2 < (F 10 (Int32.toNatClampNeg x1)) → post (0 : Int32)) ∧ (¬ x2 < (F 10 (Int32.toNatClampNeg x1)) → vp_in x1 6 ∧ (((F 11 (Int32.toNatClampNeg x1)) ≤ x2 → post (0 : Int32)) ∧ (¬ (F 11 (Int32.toNatClampNeg x1)) ≤ x2 → post (1 : Int32)))))
set_option maxHeartbeats 4000000 in
set_option maxRecDepth 100000 in
theorem cTX2_isInTerm (l : Launch) (dC : Nat → ClassId) (dI : Nat → Nat → Nat) (cI : ClassId) (ad : Nat → Nat) (I : Nat → Int32) (F : Nat → Nat → Int32) (x1 x2 : Int32) (post : Int32 → Prop) (h : wX2_isInTerm I F x1 x2 post) : Met l yX2_isInTerm wsX2_isInTerm { frames := 0, cells := 0, slots := 0, locals := 0 } (va_Pc [.ref (ad 2), .int x1, .int x2] (PW dC dI cI (wC cI ad) I F)) (vp_Si post) 0 0 (fun _ => False) := by
  refine Met.ofW (cc := cX2_isInTerm) (maxL := 3) (ret := (some .boolean)) (by decide) rfl ?_
  intro p e s m args below meth c s₁ B hml hv
  obtain ⟨rfl, hP, hK, hN⟩ := hv
  have hx := B.exec
  have hb := B.bytes
  have hr := B.returns
  have hts := atoms_spec (ws := wsX2_isInTerm) B.pre
  have hown : s.vm.findClass RX2 = some m.cls := findClass_of_methodNamed B.named
  have hlocks := B.notSynchronized
  have C : Cx p s m _ meth c cX2_isInTerm 3 (some .boolean) RX2 wsX2_isInTerm := ⟨hx, hb, hml, hown, hts, hr, hlocks⟩
  have hl := lv_entry ([.ref (ad 2), .int x1, .int x2]) (n := 3) (Nat.le_of_ble_eq_true rfl)
  rw [lg_entry_eq]
  generalize (lg_sl ([.ref (ad 2), .int x1, .int x2]) ++ List.replicate (3 - (lg_sl ([.ref (ad 2), .int x1, .int x2])).length) Slot.unset).toArray = ls at hl ⊢
  have hl : lv_has ls 3 [(0, .ref (ad 2)), (1, .int x1), (2, .int x2)] := hl
  unfold wX2_isInTerm at h
  refine lv_aload_n hx hb dX2_isInTerm_0 rfl (lv_at hl 0 rfl) ?_
  refine va_get (D := (dC, dI)) (ci := 2) (v := .ref (ad 10)) (C := RX2) (T := TX2) (N := 10) hx hb hts iX2_isInTerm_X2 hown hK hP 2 rfl rfl 0 (by decide) (hts (.fieldLink RX2 9 "CarrierBooks$Register" "start" "[I") (by decide +kernel)) (fun _ h9 => h9) rfl dX2_isInTerm_1 ?_
  refine lv_iload_n hx hb dX2_isInTerm_4 rfl (lv_at hl 1 rfl) ?_
  obtain ⟨hin1, h⟩ := h
  refine va_iald hx hb hK hP 10 0 rfl rfl hin1 dX2_isInTerm_5 ?_
  refine lv_iload_n hx hb dX2_isInTerm_6 rfl (lv_at hl 2 rfl) ?_
  refine lv_icmp_gt (tgt := 24) hx hb dX2_isInTerm_7 (by decide) (fun c2 => ?_) (fun c2 => ?_)
  · have h := h.1 c2
    refine lv_iconst (v := (0 : Int32)) hx hb dX2_isInTerm_24 (by decide) ?_
    exact W.zret (v := (0 : Int32)) hx hb hr rfl (fun t ht hW => ⟨_, rfl, h, ht⟩) (fun q hq => by cases hq) dX2_isInTerm_25
  · have h := h.2 c2
    refine lv_iload_n hx hb dX2_isInTerm_10 rfl (lv_at hl 2 rfl) ?_
    refine lv_aload_n hx hb dX2_isInTerm_11 rfl (lv_at hl 0 rfl) ?_
    refine va_get (D := (dC, dI)) (ci := 2) (v := .ref (ad 11)) (C := RX2) (T := TX2) (N := 10) hx hb hts iX2_isInTerm_X2 hown hK hP 2 rfl rfl 1 (by decide) (hts (.fieldLink RX2 15 "CarrierBooks$Register" "end" "[I") (by decide +kernel)) (fun _ h9 => h9) rfl dX2_isInTerm_12 ?_
    refine lv_iload_n hx hb dX2_isInTerm_15 rfl (lv_at hl 1 rfl) ?_
    obtain ⟨hin3, h⟩ := h
    refine va_iald hx hb hK hP 11 0 rfl rfl hin3 dX2_isInTerm_16 ?_
    refine lv_icmp_ge (tgt := 24) hx hb dX2_isInTerm_17 (by decide) (fun c4 => ?_) (fun c4 => ?_)
    · have h := h.1 c4
      refine lv_iconst (v := (0 : Int32)) hx hb dX2_isInTerm_24 (by decide) ?_
      exact W.zret (v := (0 : Int32)) hx hb hr rfl (fun t ht hW => ⟨_, rfl, h, ht⟩) (fun q hq => by cases hq) dX2_isInTerm_25
    · have h := h.2 c4
      refine lv_iconst (v := (1 : Int32)) hx hb dX2_isInTerm_20 (by decide) ?_
      refine lv_goto (tgt := 25) hx hb dX2_isInTerm_21 (by decide) ?_
      exact W.zret (v := (1 : Int32)) hx hb hr rfl (fun t ht hW => ⟨_, rfl, h, ht⟩) (fun q hq => by cases hq) dX2_isInTerm_25

theorem iX2_valueOn_X2 : ∀ w ∈ wsX20, w ∈ wsX2_valueOn := by decide +kernel
def bX2_valueOn_30 (I : Nat → Int32) (F : Nat → Nat → Int32) (post : Int32 → Prop) : Nat → Int32 → Int32 → Int32 → Int32 → Int32 → Int32 → Int32 → Prop
  | 0 => fun _ _ _ _ _ _ _ => False
  | n + 1 => fun x1 x2 x3 x4 x5 x6 x7 => ((x4 ≤ x7 → post x6) ∧ (¬ x4 ≤ x7 → vp_in x7 40 ∧ ((¬ (F 14 (Int32.toNatClampNeg x7)) = x1 → ∀ v4 : Int32, v4 = x7 + (1 : Int32) → bX2_valueOn_30 I F post n x1 x2 x3 x4 x5 x6 v4) ∧ ((F 14 (Int32.toNatClampNeg x7)) = x1 → vp_in x7 40 ∧ ((¬ (F 16 (Int32.toNatClampNeg x7)) = x2 → ∀ v7 : Int32, v7 = x7 + (1 : Int32) → bX2_valueOn_30 I F post n x1 x2 x3 x4 x5 x6 v7) ∧ ((F 16 (Int32.toNatClampNeg x7)) = x2 → vp_in x7 40 ∧ wX4_isWithin x5 (F 15 (Int32.toNatClampNeg x7)) x3 (fun r9 => ((r9 = (0 : Int32) → ∀ v11 : Int32, v11 = x7 + (1 : Int32) → bX2_valueOn_30 I F post n x1 x2 x3 x4 x5 x6 v11) ∧ (¬ r9 = (0 : Int32) → vp_in x7 40 ∧ ∀ v13 : Int32, v13 = (F 15 (Int32.toNatClampNeg x7)) → vp_in x7 40 ∧ ∀ v15 : Int32, v15 = (F 17 (Int32.toNatClampNeg x7)) → ∀ v16 : Int32, v16 = x7 + (1 : Int32) → bX2_valueOn_30 I F post n x1 x2 x3 x4 v13 v15 v16)))))))))
def wX2_valueOn (I : Nat → Int32) (F : Nat → Nat → Int32) (x1 x2 x3 x4 : Int32) (post : Int32 → Prop) : Prop := vp_in x1 6 ∧ ∀ v18 : Int32, v18 = (F 10 (Int32.toNatClampNeg x1)) → vp_in ((x1 * (4 : Int32)) + x2) 24 ∧ ∀ v20 : Int32, v20 = (F 13 (Int32.toNatClampNeg ((x1 * (4 : Int32)) + x2))) → vp_in x1 6 ∧ ∀ v22 : Int32, v22 = ((F 12 (Int32.toNatClampNeg x1)) + (1 : Int32)) → ∃ n30 : Nat, bX2_valueOn_30 I F post n30 x1 x2 x3 x4 v18 v20 v22
set_option maxHeartbeats 4000000 in
set_option maxRecDepth 100000 in
theorem sX2_valueOn_30 {p : Program} {l : Launch} {e : Env} {s : State} {m : MethodId} {args : Array Value} {below : List Frame} {meth : Method} {c : Code} {dC : Nat → ClassId} {dI : Nat → Nat → Nat} {cI : ClassId} {ad : Nat → Nat} {I : Nat → Int32} {F : Nat → Nat → Int32} (C : Cx p s m args meth c cX2_valueOn 8 (some .int) RX2 wsX2_valueOn) (hP : va_P (dC, dI) vwCl (wC cI ad I F) s.heap) (hK : va_K (dC, dI) vwCl [(cI, .int)] s) (hN : NW s) (post : Int32 → Prop) : ∀ (n : Nat) (x1 x2 x3 x4 x5 x6 x7 : Int32), bX2_valueOn_30 I F post n x1 x2 x3 x4 x5 x6 x7 → ∀ (ls : Array Slot), lv_has ls 8 [(0, .ref (ad 2)), (1, .int x1), (2, .int x2), (3, .int x3), (4, .int x4), (5, .int x5), (6, .int x6), (7, .int x7)] → W p l e { frames := 1, cells := 0, slots := 0, locals := 22 } s m args below meth c s.heap [] 0 0 (MQ below (vp_Si post) args s 0 0 (fun _ => False)) (F0 m 30 ls []) := by
  obtain ⟨hx, hb, hml, hown, hts, hr, hlocks⟩ := id C
  intro n
  induction n with
  | zero =>
    intro x1 x2 x3 x4 x5 x6 x7 h ls hl
    exact h.elim
  | succ n ih =>
    intro x1 x2 x3 x4 x5 x6 x7 h ls hl
    unfold bX2_valueOn_30 at h
    refine lv_iload hx hb dX2_valueOn_30 (lv_at hl 7 rfl) ?_
    refine lv_iload hx hb dX2_valueOn_32 (lv_at hl 4 rfl) ?_
    refine lv_icmp_ge (tgt := 99) hx hb dX2_valueOn_34 (by decide) (fun c1 => ?_) (fun c1 => ?_)
    · have h := h.1 c1
      refine lv_iload hx hb dX2_valueOn_99 (lv_at hl 6 rfl) ?_
      exact W.iret (v := x6) hx hb hr (fun t ht hW => ⟨_, rfl, h, ht⟩) (fun q hq => by cases hq) dX2_valueOn_101
    · have h := h.2 c1
      refine lv_aload_n hx hb dX2_valueOn_37 rfl (lv_at hl 0 rfl) ?_
      refine va_get (D := (dC, dI)) (ci := 2) (v := .ref (ad 14)) (C := RX2) (T := TX2) (N := 10) hx hb hts iX2_valueOn_X2 hown hK hP 2 rfl rfl 5 (by decide) (hts (.fieldLink RX2 24 "CarrierBooks$Register" "policyOf" "[I") (by decide +kernel)) (fun _ h9 => h9) rfl dX2_valueOn_38 ?_
      refine lv_iload hx hb dX2_valueOn_41 (lv_at hl 7 rfl) ?_
      obtain ⟨hin2, h⟩ := h
      refine va_iald hx hb hK hP 14 0 rfl rfl hin2 dX2_valueOn_43 ?_
      refine lv_iload_n hx hb dX2_valueOn_44 rfl (lv_at hl 1 rfl) ?_
      refine lv_icmp_ne (tgt := 93) hx hb dX2_valueOn_45 (by decide) (fun c3 => ?_) (fun c3 => ?_)
      · have h := h.1 c3
        obtain ⟨v4, ev4⟩ : ∃ y : Int32, y = x7 + (1 : Int32) := ⟨_, rfl⟩
        have h := h v4 ev4
        refine lv_iinc (v := v4) (lv' := [(7, .int v4), (0, .ref (ad 2)), (1, .int x1), (2, .int x2), (3, .int x3), (4, .int x4), (5, .int x5), (6, .int x6)]) hx hb dX2_valueOn_93 hl (k := 7) rfl (by rw [ev4]; rfl) (by decide) rfl (fun ls hl => ?_)
        refine lv_goto (tgt := 30) hx hb dX2_valueOn_96 (by decide) ?_
        exact ih x1 x2 x3 x4 x5 x6 v4 h ls (lv_sub hl [1, 2, 3, 4, 5, 6, 7, 0] rfl)
      · have h := h.2 c3
        refine lv_aload_n hx hb dX2_valueOn_48 rfl (lv_at hl 0 rfl) ?_
        refine va_get (D := (dC, dI)) (ci := 2) (v := .ref (ad 16)) (C := RX2) (T := TX2) (N := 10) hx hb hts iX2_valueOn_X2 hown hK hP 2 rfl rfl 7 (by decide) (hts (.fieldLink RX2 30 "CarrierBooks$Register" "factOf" "[I") (by decide +kernel)) (fun _ h9 => h9) rfl dX2_valueOn_49 ?_
        refine lv_iload hx hb dX2_valueOn_52 (lv_at hl 7 rfl) ?_
        obtain ⟨hin5, h⟩ := h
        refine va_iald hx hb hK hP 16 0 rfl rfl hin5 dX2_valueOn_54 ?_
        refine lv_iload_n hx hb dX2_valueOn_55 rfl (lv_at hl 2 rfl) ?_
        refine lv_icmp_ne (tgt := 93) hx hb dX2_valueOn_56 (by decide) (fun c6 => ?_) (fun c6 => ?_)
        · have h := h.1 c6
          obtain ⟨v7, ev7⟩ : ∃ y : Int32, y = x7 + (1 : Int32) := ⟨_, rfl⟩
          have h := h v7 ev7
          refine lv_iinc (v := v7) (lv' := [(7, .int v7), (0, .ref (ad 2)), (1, .int x1), (2, .int x2), (3, .int x3), (4, .int x4), (5, .int x5), (6, .int x6)]) hx hb dX2_valueOn_93 hl (k := 7) rfl (by rw [ev7]; rfl) (by decide) rfl (fun ls hl => ?_)
          refine lv_goto (tgt := 30) hx hb dX2_valueOn_96 (by decide) ?_
          exact ih x1 x2 x3 x4 x5 x6 v7 h ls (lv_sub hl [1, 2, 3, 4, 5, 6, 7, 0] rfl)
        · have h := h.2 c6
          refine lv_iload hx hb dX2_valueOn_59 (lv_at hl 5 rfl) ?_
          refine lv_aload_n hx hb dX2_valueOn_61 rfl (lv_at hl 0 rfl) ?_
          refine va_get (D := (dC, dI)) (ci := 2) (v := .ref (ad 15)) (C := RX2) (T := TX2) (N := 10) hx hb hts iX2_valueOn_X2 hown hK hP 2 rfl rfl 6 (by decide) (hts (.fieldLink RX2 27 "CarrierBooks$Register" "dayOf" "[I") (by decide +kernel)) (fun _ h9 => h9) rfl dX2_valueOn_62 ?_
          refine lv_iload hx hb dX2_valueOn_65 (lv_at hl 7 rfl) ?_
          obtain ⟨hin8, h⟩ := h
          refine va_iald hx hb hK hP 15 0 rfl rfl hin8 dX2_valueOn_67 ?_
          refine lv_iload_n hx hb dX2_valueOn_68 rfl (lv_at hl 3 rfl) ?_
          refine vp_callSi (cr_of (va_runSN (As := [.int x5, .int (F 15 (Int32.toNatClampNeg x7)), .int x3]) (rest := []) ⟨hx, hb, hml, hown, hts⟩ (cTX4_isWithin l x5 (F 15 (Int32.toNatClampNeg x7)) x3 _ h) ⟨va_cnB 3 hts gX2_valueOn_X4_isWithin_n64 rfl rfl rfl (hN (.methodLinkNest RX2 64 yX4_isWithin RX4) (by decide +kernel)) (hts (.initialized RX4) (by decide +kernel)) (by decide +kernel) ⟨Nat.le_of_ble_eq_true rfl, Nat.le_of_ble_eq_true rfl⟩, hts (.static yX4_isWithin) (by decide +kernel), trivial⟩ (pv_S _) rfl rfl hl.1 rfl (lv_room (Nat.le_of_ble_eq_true rfl)) dX2_valueOn_69 ⟨Nat.le_of_ble_eq_true rfl, Nat.le_of_ble_eq_true rfl⟩)) (fun r9 h => ?_)
          refine lv_if_eq (tgt := 93) hx hb dX2_valueOn_72 (by decide) (fun c10 => ?_) (fun c10 => ?_)
          · have h := h.1 c10
            obtain ⟨v11, ev11⟩ : ∃ y : Int32, y = x7 + (1 : Int32) := ⟨_, rfl⟩
            have h := h v11 ev11
            refine lv_iinc (v := v11) (lv' := [(7, .int v11), (0, .ref (ad 2)), (1, .int x1), (2, .int x2), (3, .int x3), (4, .int x4), (5, .int x5), (6, .int x6)]) hx hb dX2_valueOn_93 hl (k := 7) rfl (by rw [ev11]; rfl) (by decide) rfl (fun ls hl => ?_)
            refine lv_goto (tgt := 30) hx hb dX2_valueOn_96 (by decide) ?_
            exact ih x1 x2 x3 x4 x5 x6 v11 h ls (lv_sub hl [1, 2, 3, 4, 5, 6, 7, 0] rfl)
          · have h := h.2 c10
            refine lv_aload_n hx hb dX2_valueOn_75 rfl (lv_at hl 0 rfl) ?_
            refine va_get (D := (dC, dI)) (ci := 2) (v := .ref (ad 15)) (C := RX2) (T := TX2) (N := 10) hx hb hts iX2_valueOn_X2 hown hK hP 2 rfl rfl 6 (by decide) (hts (.fieldLink RX2 27 "CarrierBooks$Register" "dayOf" "[I") (by decide +kernel)) (fun _ h9 => h9) rfl dX2_valueOn_76 ?_
            refine lv_iload hx hb dX2_valueOn_79 (lv_at hl 7 rfl) ?_
            obtain ⟨hin12, h⟩ := h
            refine va_iald hx hb hK hP 15 0 rfl rfl hin12 dX2_valueOn_81 ?_
            refine lv_topi (fun v13 ev13 => ?_)
            have h := h v13 ev13
            refine lv_istore (lv' := [(5, .int v13), (0, .ref (ad 2)), (1, .int x1), (2, .int x2), (3, .int x3), (4, .int x4), (6, .int x6), (7, .int x7)]) hx hb dX2_valueOn_82 hl (by decide) rfl (fun ls hl => ?_)
            refine lv_aload_n hx hb dX2_valueOn_84 rfl (lv_at hl 1 rfl) ?_
            refine va_get (D := (dC, dI)) (ci := 2) (v := .ref (ad 17)) (C := RX2) (T := TX2) (N := 10) hx hb hts iX2_valueOn_X2 hown hK hP 2 rfl rfl 8 (by decide) (hts (.fieldLink RX2 33 "CarrierBooks$Register" "valueOf" "[I") (by decide +kernel)) (fun _ h9 => h9) rfl dX2_valueOn_85 ?_
            refine lv_iload hx hb dX2_valueOn_88 (lv_at hl 7 rfl) ?_
            obtain ⟨hin14, h⟩ := h
            refine va_iald hx hb hK hP 17 0 rfl rfl hin14 dX2_valueOn_90 ?_
            refine lv_topi (fun v15 ev15 => ?_)
            have h := h v15 ev15
            refine lv_istore (lv' := [(6, .int v15), (5, .int v13), (0, .ref (ad 2)), (1, .int x1), (2, .int x2), (3, .int x3), (4, .int x4), (7, .int x7)]) hx hb dX2_valueOn_91 hl (by decide) rfl (fun ls hl => ?_)
            obtain ⟨v16, ev16⟩ : ∃ y : Int32, y = x7 + (1 : Int32) := ⟨_, rfl⟩
            have h := h v16 ev16
            refine lv_iinc (v := v16) (lv' := [(7, .int v16), (6, .int v15), (5, .int v13), (0, .ref (ad 2)), (1, .int x1), (2, .int x2), (3, .int x3), (4, .int x4)]) hx hb dX2_valueOn_93 hl (k := 7) rfl (by rw [ev16]; rfl) (by decide) rfl (fun ls hl => ?_)
            refine lv_goto (tgt := 30) hx hb dX2_valueOn_96 (by decide) ?_
            exact ih x1 x2 x3 x4 v13 v15 v16 h ls (lv_sub hl [3, 4, 5, 6, 7, 2, 1, 0] rfl)
set_option maxHeartbeats 4000000 in
set_option maxRecDepth 100000 in
theorem cTX2_valueOn (l : Launch) (dC : Nat → ClassId) (dI : Nat → Nat → Nat) (cI : ClassId) (ad : Nat → Nat) (I : Nat → Int32) (F : Nat → Nat → Int32) (x1 x2 x3 x4 : Int32) (post : Int32 → Prop) (h : wX2_valueOn I F x1 x2 x3 x4 post) : Met l yX2_valueOn wsX2_valueOn { frames := 1, cells := 0, slots := 0, locals := 22 } (va_Pc [.ref (ad 2), .int x1, .int x2, .int x3, .int x4] (PW dC dI cI (wC cI ad) I F)) (vp_Si post) 0 0 (fun _ => False) := by
  refine Met.ofW (cc := cX2_valueOn) (maxL := 8) (ret := (some .int)) (by decide) rfl ?_
  intro p e s m args below meth c s₁ B hml hv
  obtain ⟨rfl, hP, hK, hN⟩ := hv
  have hx := B.exec
  have hb := B.bytes
  have hr := B.returns
  have hts := atoms_spec (ws := wsX2_valueOn) B.pre
  have hown : s.vm.findClass RX2 = some m.cls := findClass_of_methodNamed B.named
  have hlocks := B.notSynchronized
  have C : Cx p s m _ meth c cX2_valueOn 8 (some .int) RX2 wsX2_valueOn := ⟨hx, hb, hml, hown, hts, hr, hlocks⟩
  have hl := lv_entry ([.ref (ad 2), .int x1, .int x2, .int x3, .int x4]) (n := 8) (Nat.le_of_ble_eq_true rfl)
  rw [lg_entry_eq]
  generalize (lg_sl ([.ref (ad 2), .int x1, .int x2, .int x3, .int x4]) ++ List.replicate (8 - (lg_sl ([.ref (ad 2), .int x1, .int x2, .int x3, .int x4])).length) Slot.unset).toArray = ls at hl ⊢
  have hl : lv_has ls 8 [(0, .ref (ad 2)), (1, .int x1), (2, .int x2), (3, .int x3), (4, .int x4)] := hl
  unfold wX2_valueOn at h
  refine lv_aload_n hx hb dX2_valueOn_0 rfl (lv_at hl 0 rfl) ?_
  refine va_get (D := (dC, dI)) (ci := 2) (v := .ref (ad 10)) (C := RX2) (T := TX2) (N := 10) hx hb hts iX2_valueOn_X2 hown hK hP 2 rfl rfl 0 (by decide) (hts (.fieldLink RX2 9 "CarrierBooks$Register" "start" "[I") (by decide +kernel)) (fun _ h9 => h9) rfl dX2_valueOn_1 ?_
  refine lv_iload_n hx hb dX2_valueOn_4 rfl (lv_at hl 1 rfl) ?_
  obtain ⟨hin17, h⟩ := h
  refine va_iald hx hb hK hP 10 0 rfl rfl hin17 dX2_valueOn_5 ?_
  refine lv_topi (fun v18 ev18 => ?_)
  have h := h v18 ev18
  refine lv_istore (lv' := [(5, .int v18), (0, .ref (ad 2)), (1, .int x1), (2, .int x2), (3, .int x3), (4, .int x4)]) hx hb dX2_valueOn_6 hl (by decide) rfl (fun ls hl => ?_)
  refine lv_aload_n hx hb dX2_valueOn_8 rfl (lv_at hl 1 rfl) ?_
  refine va_get (D := (dC, dI)) (ci := 2) (v := .ref (ad 13)) (C := RX2) (T := TX2) (N := 10) hx hb hts iX2_valueOn_X2 hown hK hP 2 rfl rfl 3 (by decide) (hts (.fieldLink RX2 21 "CarrierBooks$Register" "firstFacts" "[I") (by decide +kernel)) (fun _ h9 => h9) rfl dX2_valueOn_9 ?_
  refine lv_iload_n hx hb dX2_valueOn_12 rfl (lv_at hl 2 rfl) ?_
  refine lv_iconst (v := (4 : Int32)) hx hb dX2_valueOn_13 (by decide) ?_
  refine lv_imul hx hb dX2_valueOn_14 ?_
  refine lv_iload_n hx hb dX2_valueOn_15 rfl (lv_at hl 3 rfl) ?_
  refine lv_iadd hx hb dX2_valueOn_16 ?_
  obtain ⟨hin19, h⟩ := h
  refine va_iald hx hb hK hP 13 0 rfl rfl hin19 dX2_valueOn_17 ?_
  refine lv_topi (fun v20 ev20 => ?_)
  have h := h v20 ev20
  refine lv_istore (lv' := [(6, .int v20), (5, .int v18), (0, .ref (ad 2)), (1, .int x1), (2, .int x2), (3, .int x3), (4, .int x4)]) hx hb dX2_valueOn_18 hl (by decide) rfl (fun ls hl => ?_)
  refine lv_aload_n hx hb dX2_valueOn_20 rfl (lv_at hl 2 rfl) ?_
  refine va_get (D := (dC, dI)) (ci := 2) (v := .ref (ad 12)) (C := RX2) (T := TX2) (N := 10) hx hb hts iX2_valueOn_X2 hown hK hP 2 rfl rfl 2 (by decide) (hts (.fieldLink RX2 18 "CarrierBooks$Register" "boundBy" "[I") (by decide +kernel)) (fun _ h9 => h9) rfl dX2_valueOn_21 ?_
  refine lv_iload_n hx hb dX2_valueOn_24 rfl (lv_at hl 3 rfl) ?_
  obtain ⟨hin21, h⟩ := h
  refine va_iald hx hb hK hP 12 0 rfl rfl hin21 dX2_valueOn_25 ?_
  refine lv_iconst (v := (1 : Int32)) hx hb dX2_valueOn_26 (by decide) ?_
  refine lv_iadd hx hb dX2_valueOn_27 ?_
  refine lv_topi (fun v22 ev22 => ?_)
  have h := h v22 ev22
  refine lv_istore (lv' := [(7, .int v22), (6, .int v20), (5, .int v18), (0, .ref (ad 2)), (1, .int x1), (2, .int x2), (3, .int x3), (4, .int x4)]) hx hb dX2_valueOn_28 hl (by decide) rfl (fun ls hl => ?_)
  obtain ⟨n9, h⟩ := h
  exact sX2_valueOn_30 C hP hK hN post n9 x1 x2 x3 x4 v18 v20 v22 h ls (lv_sub hl [3, 4, 5, 6, 7, 2, 1, 0] rfl)

theorem iX2_isInForce_X2 : ∀ w ∈ wsX20, w ∈ wsX2_isInForce := by decide +kernel
def wX2_isInForce (I : Nat → Int32) (F : Nat → Nat → Int32) (x1 x2 : Int32) (post : Int32 → Prop) : Prop := wX2_isInTerm I F x1 x2 (fun r1 => ((r1 = (0 : Int32) → post (0 : Int32)) ∧ (¬ r1 = (0 : Int32) → wX2_valueOn I F x1 (3 : Int32) x2 (I 3) (fun r3 => ((¬ r3 = (1 : Int32) → post (0 : Int32)) ∧ (r3 = (1 : Int32) → post (1 : Int32)))))))
set_option maxHeartbeats 4000000 in
set_option maxRecDepth 100000 in
theorem cTX2_isInForce (l : Launch) (dC : Nat → ClassId) (dI : Nat → Nat → Nat) (cI : ClassId) (ad : Nat → Nat) (I : Nat → Int32) (F : Nat → Nat → Int32) (x1 x2 : Int32) (post : Int32 → Prop) (h : wX2_isInForce I F x1 x2 post) : Met l yX2_isInForce wsX2_isInForce { frames := 2, cells := 0, slots := 0, locals := 49 } (va_Pc [.ref (ad 2), .int x1, .int x2] (PW dC dI cI (wC cI ad) I F)) (vp_Si post) 0 0 (fun _ => False) := by
  refine Met.ofW (cc := cX2_isInForce) (maxL := 3) (ret := (some .boolean)) (by decide) rfl ?_
  intro p e s m args below meth c s₁ B hml hv
  obtain ⟨rfl, hP, hK, hN⟩ := hv
  have hx := B.exec
  have hb := B.bytes
  have hr := B.returns
  have hts := atoms_spec (ws := wsX2_isInForce) B.pre
  have hown : s.vm.findClass RX2 = some m.cls := findClass_of_methodNamed B.named
  have hlocks := B.notSynchronized
  have C : Cx p s m _ meth c cX2_isInForce 3 (some .boolean) RX2 wsX2_isInForce := ⟨hx, hb, hml, hown, hts, hr, hlocks⟩
  have hl := lv_entry ([.ref (ad 2), .int x1, .int x2]) (n := 3) (Nat.le_of_ble_eq_true rfl)
  rw [lg_entry_eq]
  generalize (lg_sl ([.ref (ad 2), .int x1, .int x2]) ++ List.replicate (3 - (lg_sl ([.ref (ad 2), .int x1, .int x2])).length) Slot.unset).toArray = ls at hl ⊢
  have hl : lv_has ls 3 [(0, .ref (ad 2)), (1, .int x1), (2, .int x2)] := hl
  unfold wX2_isInForce at h
  refine lv_aload_n hx hb dX2_isInForce_0 rfl (lv_at hl 0 rfl) ?_
  refine lv_iload_n hx hb dX2_isInForce_1 rfl (lv_at hl 1 rfl) ?_
  refine lv_iload_n hx hb dX2_isInForce_2 rfl (lv_at hl 2 rfl) ?_
  refine vp_callSi (cr_of (va_runV (As := [.int x1, .int x2]) (rest := []) ⟨hx, hb, hml, hown, hts⟩ (cTX2_isInTerm l dC dI cI ad I F x1 x2 _ h) (cwV 2 hts gX2_isInForce_X2_isInTerm rfl rfl rfl (by decide +kernel) ⟨Nat.le_of_ble_eq_true rfl, Nat.le_of_ble_eq_true rfl⟩) (pv_R hP hK hN 2 2 rfl rfl _) rfl rfl hl.1 rfl (lv_room (Nat.le_of_ble_eq_true rfl)) dX2_isInForce_3 ⟨Nat.le_of_ble_eq_true rfl, Nat.le_of_ble_eq_true rfl⟩)) (fun r1 h => ?_)
  refine lv_if_eq (tgt := 28) hx hb dX2_isInForce_6 (by decide) (fun c2 => ?_) (fun c2 => ?_)
  · have h := h.1 c2
    refine lv_iconst (v := (0 : Int32)) hx hb dX2_isInForce_28 (by decide) ?_
    exact W.zret (v := (0 : Int32)) hx hb hr rfl (fun t ht hW => ⟨_, rfl, h, ht⟩) (fun q hq => by cases hq) dX2_isInForce_29
  · have h := h.2 c2
    refine lv_aload_n hx hb dX2_isInForce_9 rfl (lv_at hl 0 rfl) ?_
    refine lv_iload_n hx hb dX2_isInForce_10 rfl (lv_at hl 1 rfl) ?_
    refine lv_iconst (v := (3 : Int32)) hx hb dX2_isInForce_11 (by decide) ?_
    refine lv_iload_n hx hb dX2_isInForce_12 rfl (lv_at hl 2 rfl) ?_
    refine lv_aload_n hx hb dX2_isInForce_13 rfl (lv_at hl 0 rfl) ?_
    refine va_get (D := (dC, dI)) (ci := 2) (v := .int (I 3)) (C := RX2) (T := TX2) (N := 10) hx hb hts iX2_isInForce_X2 hown hK hP 2 rfl rfl 9 (by decide) (hts (.fieldLink RX2 36 "CarrierBooks$Register" "bookings" "I") (by decide +kernel)) (fun _ h9 => h9) rfl dX2_isInForce_14 ?_
    refine vp_callSi (cr_of (va_runV (As := [.int x1, .int (3 : Int32), .int x2, .int (I 3)]) (rest := []) ⟨hx, hb, hml, hown, hts⟩ (cTX2_valueOn l dC dI cI ad I F x1 (3 : Int32) x2 (I 3) _ h) (cwV 4 hts gX2_isInForce_X2_valueOn rfl rfl rfl (by decide +kernel) ⟨Nat.le_of_ble_eq_true rfl, Nat.le_of_ble_eq_true rfl⟩) (pv_R hP hK hN 2 2 rfl rfl _) rfl rfl hl.1 rfl (lv_room (Nat.le_of_ble_eq_true rfl)) dX2_isInForce_17 ⟨Nat.le_of_ble_eq_true rfl, Nat.le_of_ble_eq_true rfl⟩)) (fun r3 h => ?_)
    refine lv_iconst (v := (1 : Int32)) hx hb dX2_isInForce_20 (by decide) ?_
    refine lv_icmp_ne (tgt := 28) hx hb dX2_isInForce_21 (by decide) (fun c4 => ?_) (fun c4 => ?_)
    · have h := h.1 c4
      refine lv_iconst (v := (0 : Int32)) hx hb dX2_isInForce_28 (by decide) ?_
      exact W.zret (v := (0 : Int32)) hx hb hr rfl (fun t ht hW => ⟨_, rfl, h, ht⟩) (fun q hq => by cases hq) dX2_isInForce_29
    · have h := h.2 c4
      refine lv_iconst (v := (1 : Int32)) hx hb dX2_isInForce_24 (by decide) ?_
      refine lv_goto (tgt := 29) hx hb dX2_isInForce_25 (by decide) ?_
      exact W.zret (v := (1 : Int32)) hx hb hr rfl (fun t ht hW => ⟨_, rfl, h, ht⟩) (fun q hq => by cases hq) dX2_isInForce_29

def wX2_chargeOn (I : Nat → Int32) (F : Nat → Nat → Int32) (x2 x3 x4 : Int32) (post : Int32 → Prop) : Prop := wX2_valueOn I F x2 (3 : Int32) x3 x4 (fun r1 => ((¬ r1 = (0 : Int32) → wX2_valueOn I F x2 (0 : Int32) x3 x4 (fun r3 => wX2_valueOn I F x2 (1 : Int32) x3 x4 (fun r4 => wX2_valueOn I F x2 (2 : Int32) x3 x4 (fun r5 => wX1_rateOf I F r3 r4 (fun r6 => post (r5 * r6)))))) ∧ (r1 = (0 : Int32) → post (0 : Int32))))
set_option maxHeartbeats 4000000 in
set_option maxRecDepth 100000 in
theorem cTX2_chargeOn (l : Launch) (dC : Nat → ClassId) (dI : Nat → Nat → Nat) (cI : ClassId) (ad : Nat → Nat) (I : Nat → Int32) (F : Nat → Nat → Int32) (x2 x3 x4 : Int32) (post : Int32 → Prop) (h : wX2_chargeOn I F x2 x3 x4 post) : Met l yX2_chargeOn wsX2_chargeOn { frames := 2, cells := 0, slots := 0, locals := 49 } (va_Pc [.ref (ad 2), .ref (ad 1), .int x2, .int x3, .int x4] (PW dC dI cI (wC cI ad) I F)) (vp_Si post) 0 0 (fun _ => False) := by
  refine Met.ofW (cc := cX2_chargeOn) (maxL := 7) (ret := (some .int)) (by decide) rfl ?_
  intro p e s m args below meth c s₁ B hml hv
  obtain ⟨rfl, hP, hK, hN⟩ := hv
  have hx := B.exec
  have hb := B.bytes
  have hr := B.returns
  have hts := atoms_spec (ws := wsX2_chargeOn) B.pre
  have hown : s.vm.findClass RX2 = some m.cls := findClass_of_methodNamed B.named
  have hlocks := B.notSynchronized
  have C : Cx p s m _ meth c cX2_chargeOn 7 (some .int) RX2 wsX2_chargeOn := ⟨hx, hb, hml, hown, hts, hr, hlocks⟩
  have hl := lv_entry ([.ref (ad 2), .ref (ad 1), .int x2, .int x3, .int x4]) (n := 7) (Nat.le_of_ble_eq_true rfl)
  rw [lg_entry_eq]
  generalize (lg_sl ([.ref (ad 2), .ref (ad 1), .int x2, .int x3, .int x4]) ++ List.replicate (7 - (lg_sl ([.ref (ad 2), .ref (ad 1), .int x2, .int x3, .int x4])).length) Slot.unset).toArray = ls at hl ⊢
  have hl : lv_has ls 7 [(0, .ref (ad 2)), (1, .ref (ad 1)), (2, .int x2), (3, .int x3), (4, .int x4)] := hl
  unfold wX2_chargeOn at h
  refine lv_aload_n hx hb dX2_chargeOn_0 rfl (lv_at hl 0 rfl) ?_
  refine lv_iload_n hx hb dX2_chargeOn_1 rfl (lv_at hl 2 rfl) ?_
  refine lv_iconst (v := (3 : Int32)) hx hb dX2_chargeOn_2 (by decide) ?_
  refine lv_iload_n hx hb dX2_chargeOn_3 rfl (lv_at hl 3 rfl) ?_
  refine lv_iload hx hb dX2_chargeOn_4 (lv_at hl 4 rfl) ?_
  refine vp_callSi (cr_of (va_runV (As := [.int x2, .int (3 : Int32), .int x3, .int x4]) (rest := []) ⟨hx, hb, hml, hown, hts⟩ (cTX2_valueOn l dC dI cI ad I F x2 (3 : Int32) x3 x4 _ h) (cwV 4 hts gX2_chargeOn_X2_valueOn rfl rfl rfl (by decide +kernel) ⟨Nat.le_of_ble_eq_true rfl, Nat.le_of_ble_eq_true rfl⟩) (pv_R hP hK hN 2 2 rfl rfl _) rfl rfl hl.1 rfl (lv_room (Nat.le_of_ble_eq_true rfl)) dX2_chargeOn_6 ⟨Nat.le_of_ble_eq_true rfl, Nat.le_of_ble_eq_true rfl⟩)) (fun r1 h => ?_)
  refine lv_if_ne (tgt := 14) hx hb dX2_chargeOn_9 (by decide) (fun c2 => ?_) (fun c2 => ?_)
  · have h := h.1 c2
    refine lv_aload_n hx hb dX2_chargeOn_14 rfl (lv_at hl 0 rfl) ?_
    refine lv_iload_n hx hb dX2_chargeOn_15 rfl (lv_at hl 2 rfl) ?_
    refine lv_iconst (v := (0 : Int32)) hx hb dX2_chargeOn_16 (by decide) ?_
    refine lv_iload_n hx hb dX2_chargeOn_17 rfl (lv_at hl 3 rfl) ?_
    refine lv_iload hx hb dX2_chargeOn_18 (lv_at hl 4 rfl) ?_
    refine vp_callSi (cr_of (va_runV (As := [.int x2, .int (0 : Int32), .int x3, .int x4]) (rest := []) ⟨hx, hb, hml, hown, hts⟩ (cTX2_valueOn l dC dI cI ad I F x2 (0 : Int32) x3 x4 _ h) (cwV 4 hts gX2_chargeOn_X2_valueOn rfl rfl rfl (by decide +kernel) ⟨Nat.le_of_ble_eq_true rfl, Nat.le_of_ble_eq_true rfl⟩) (pv_R hP hK hN 2 2 rfl rfl _) rfl rfl hl.1 rfl (lv_room (Nat.le_of_ble_eq_true rfl)) dX2_chargeOn_20 ⟨Nat.le_of_ble_eq_true rfl, Nat.le_of_ble_eq_true rfl⟩)) (fun r3 h => ?_)
    refine lv_istore (lv' := [(5, .int r3), (0, .ref (ad 2)), (1, .ref (ad 1)), (2, .int x2), (3, .int x3), (4, .int x4)]) hx hb dX2_chargeOn_23 hl (by decide) rfl (fun ls hl => ?_)
    refine lv_aload_n hx hb dX2_chargeOn_25 rfl (lv_at hl 1 rfl) ?_
    refine lv_iload_n hx hb dX2_chargeOn_26 rfl (lv_at hl 3 rfl) ?_
    refine lv_iconst (v := (1 : Int32)) hx hb dX2_chargeOn_27 (by decide) ?_
    refine lv_iload_n hx hb dX2_chargeOn_28 rfl (lv_at hl 4 rfl) ?_
    refine lv_iload hx hb dX2_chargeOn_29 (lv_at hl 5 rfl) ?_
    refine vp_callSi (cr_of (va_runV (As := [.int x2, .int (1 : Int32), .int x3, .int x4]) (rest := []) ⟨hx, hb, hml, hown, hts⟩ (cTX2_valueOn l dC dI cI ad I F x2 (1 : Int32) x3 x4 _ h) (cwV 4 hts gX2_chargeOn_X2_valueOn rfl rfl rfl (by decide +kernel) ⟨Nat.le_of_ble_eq_true rfl, Nat.le_of_ble_eq_true rfl⟩) (pv_R hP hK hN 2 2 rfl rfl _) rfl rfl hl.1 rfl (lv_room (Nat.le_of_ble_eq_true rfl)) dX2_chargeOn_31 ⟨Nat.le_of_ble_eq_true rfl, Nat.le_of_ble_eq_true rfl⟩)) (fun r4 h => ?_)
    refine lv_istore (lv' := [(6, .int r4), (5, .int r3), (0, .ref (ad 2)), (1, .ref (ad 1)), (2, .int x2), (3, .int x3), (4, .int x4)]) hx hb dX2_chargeOn_34 hl (by decide) rfl (fun ls hl => ?_)
    refine lv_aload_n hx hb dX2_chargeOn_36 rfl (lv_at hl 2 rfl) ?_
    refine lv_iload_n hx hb dX2_chargeOn_37 rfl (lv_at hl 4 rfl) ?_
    refine lv_iconst (v := (2 : Int32)) hx hb dX2_chargeOn_38 (by decide) ?_
    refine lv_iload_n hx hb dX2_chargeOn_39 rfl (lv_at hl 5 rfl) ?_
    refine lv_iload hx hb dX2_chargeOn_40 (lv_at hl 6 rfl) ?_
    refine vp_callSi (cr_of (va_runV (As := [.int x2, .int (2 : Int32), .int x3, .int x4]) (rest := []) ⟨hx, hb, hml, hown, hts⟩ (cTX2_valueOn l dC dI cI ad I F x2 (2 : Int32) x3 x4 _ h) (cwV 4 hts gX2_chargeOn_X2_valueOn rfl rfl rfl (by decide +kernel) ⟨Nat.le_of_ble_eq_true rfl, Nat.le_of_ble_eq_true rfl⟩) (pv_R hP hK hN 2 2 rfl rfl _) rfl rfl hl.1 rfl (lv_room (Nat.le_of_ble_eq_true rfl)) dX2_chargeOn_42 ⟨Nat.le_of_ble_eq_true rfl, Nat.le_of_ble_eq_true rfl⟩)) (fun r5 h => ?_)
    refine lv_aload_n hx hb dX2_chargeOn_45 rfl (lv_at hl 3 rfl) ?_
    refine lv_iload hx hb dX2_chargeOn_46 (lv_at hl 1 rfl) ?_
    refine lv_iload hx hb dX2_chargeOn_48 (lv_at hl 0 rfl) ?_
    refine vp_callSi (cr_of (va_runVN (As := [.int r3, .int r4]) (rest := [.int r5]) ⟨hx, hb, hml, hown, hts⟩ (cTX1_rateOf l dC dI cI ad I F r3 r4 _ h) ⟨va_cnB 2 hts gX2_chargeOn_X1_rateOf_n68 rfl rfl rfl (hN (.methodLinkNest RX2 68 yX1_rateOf RX4) (by decide +kernel)) (hts (.initialized RX1) (by decide +kernel)) (by decide +kernel) ⟨Nat.le_of_ble_eq_true rfl, Nat.le_of_ble_eq_true rfl⟩, hts (.instanceMethod yX1_rateOf) (by decide +kernel), hts (.selects RX1 yX1_rateOf yX1_rateOf) (by decide +kernel)⟩ (pv_R hP hK hN 1 1 rfl rfl _) rfl rfl hl.1 rfl (lv_room (Nat.le_of_ble_eq_true rfl)) dX2_chargeOn_50 ⟨Nat.le_of_ble_eq_true rfl, Nat.le_of_ble_eq_true rfl⟩)) (fun r6 h => ?_)
    refine lv_imul hx hb dX2_chargeOn_53 ?_
    exact W.iret (v := (r5 * r6)) hx hb hr (fun t ht hW => ⟨_, rfl, h, ht⟩) (fun q hq => by cases hq) dX2_chargeOn_54
  · have h := h.2 c2
    refine lv_iconst (v := (0 : Int32)) hx hb dX2_chargeOn_12 (by decide) ?_
    exact W.iret (v := (0 : Int32)) hx hb hr (fun t ht hW => ⟨_, rfl, h, ht⟩) (fun q hq => by cases hq) dX2_chargeOn_13

theorem iX2_nextToldDay_X2 : ∀ w ∈ wsX20, w ∈ wsX2_nextToldDay := by decide +kernel
def bX2_nextToldDay_18 (I : Nat → Int32) (F : Nat → Nat → Int32) (post : Int32 → Prop) : Nat → Int32 → Int32 → Int32 → Int32 → Int32 → Prop
  | 0 => fun _ _ _ _ _ => False
  | n + 1 => fun x1 x2 x3 x4 x5 => ((x3 ≤ x5 → post x4) ∧ (¬ x3 ≤ x5 → vp_in x5 40 ∧ ((¬ (F 14 (Int32.toNatClampNeg x5)) = x1 → ∀ v4 : Int32, v4 = x5 + (1 : Int32) → bX2_nextToldDay_18 I F post n x1 x2 x3 x4 v4) ∧ ((F 14 (Int32.toNatClampNeg x5)) = x1 → vp_in x5 40 ∧ (((F 15 (Int32.toNatClampNeg x5)) ≤ x2 → ∀ v7 : Int32, v7 = x5 + (1 : Int32) → bX2_nextToldDay_18 I F post n x1 x2 x3 x4 v7) ∧ (¬ (F 15 (Int32.toNatClampNeg x5)) ≤ x2 → vp_in x5 40 ∧ ∀ v9 : Int32, v9 = (if (F 15 (Int32.toNatClampNeg x5)) < x4 then (F 15 (Int32.toNatClampNeg x5)) else x4) → ∀ v10 : Int32, v10 = x5 + (1 : Int32) → bX2_nextToldDay_18 I F post n x1 x2 x3 v9 v10))))))
def wX2_nextToldDay (I : Nat → Int32) (F : Nat → Nat → Int32) (x1 x2 x3 : Int32) (post : Int32 → Prop) : Prop := vp_in x1 6 ∧ ∀ v12 : Int32, v12 = (F 11 (Int32.toNatClampNeg x1)) → vp_in x1 6 ∧ ∀ v14 : Int32, v14 = ((F 12 (Int32.toNatClampNeg x1)) + (1 : Int32)) → ∃ n18 : Nat, bX2_nextToldDay_18 I F post n18 x1 x2 x3 v12 v14
set_option maxHeartbeats 4000000 in
set_option maxRecDepth 100000 in
theorem sX2_nextToldDay_18 {p : Program} {l : Launch} {e : Env} {s : State} {m : MethodId} {args : Array Value} {below : List Frame} {meth : Method} {c : Code} {dC : Nat → ClassId} {dI : Nat → Nat → Nat} {cI : ClassId} {ad : Nat → Nat} {I : Nat → Int32} {F : Nat → Nat → Int32} (C : Cx p s m args meth c cX2_nextToldDay 6 (some .int) RX2 wsX2_nextToldDay) (hP : va_P (dC, dI) vwCl (wC cI ad I F) s.heap) (hK : va_K (dC, dI) vwCl [(cI, .int)] s) (hN : NW s) (post : Int32 → Prop) : ∀ (n : Nat) (x1 x2 x3 x4 x5 : Int32), bX2_nextToldDay_18 I F post n x1 x2 x3 x4 x5 → ∀ (ls : Array Slot), lv_has ls 6 [(0, .ref (ad 2)), (1, .int x1), (2, .int x2), (3, .int x3), (4, .int x4), (5, .int x5)] → W p l e { frames := 1, cells := 0, slots := 0, locals := 16 } s m args below meth c s.heap [] 0 0 (MQ below (vp_Si post) args s 0 0 (fun _ => False)) (F0 m 18 ls []) := by
  obtain ⟨hx, hb, hml, hown, hts, hr, hlocks⟩ := id C
  intro n
  induction n with
  | zero =>
    intro x1 x2 x3 x4 x5 h ls hl
    exact h.elim
  | succ n ih =>
    intro x1 x2 x3 x4 x5 h ls hl
    unfold bX2_nextToldDay_18 at h
    refine lv_iload hx hb dX2_nextToldDay_18 (lv_at hl 5 rfl) ?_
    refine lv_iload_n hx hb dX2_nextToldDay_20 rfl (lv_at hl 3 rfl) ?_
    refine lv_icmp_ge (tgt := 66) hx hb dX2_nextToldDay_21 (by decide) (fun c1 => ?_) (fun c1 => ?_)
    · have h := h.1 c1
      refine lv_iload hx hb dX2_nextToldDay_66 (lv_at hl 4 rfl) ?_
      exact W.iret (v := x4) hx hb hr (fun t ht hW => ⟨_, rfl, h, ht⟩) (fun q hq => by cases hq) dX2_nextToldDay_68
    · have h := h.2 c1
      refine lv_aload_n hx hb dX2_nextToldDay_24 rfl (lv_at hl 0 rfl) ?_
      refine va_get (D := (dC, dI)) (ci := 2) (v := .ref (ad 14)) (C := RX2) (T := TX2) (N := 10) hx hb hts iX2_nextToldDay_X2 hown hK hP 2 rfl rfl 5 (by decide) (hts (.fieldLink RX2 24 "CarrierBooks$Register" "policyOf" "[I") (by decide +kernel)) (fun _ h9 => h9) rfl dX2_nextToldDay_25 ?_
      refine lv_iload hx hb dX2_nextToldDay_28 (lv_at hl 5 rfl) ?_
      obtain ⟨hin2, h⟩ := h
      refine va_iald hx hb hK hP 14 0 rfl rfl hin2 dX2_nextToldDay_30 ?_
      refine lv_iload_n hx hb dX2_nextToldDay_31 rfl (lv_at hl 1 rfl) ?_
      refine lv_icmp_ne (tgt := 60) hx hb dX2_nextToldDay_32 (by decide) (fun c3 => ?_) (fun c3 => ?_)
      · have h := h.1 c3
        obtain ⟨v4, ev4⟩ : ∃ y : Int32, y = x5 + (1 : Int32) := ⟨_, rfl⟩
        have h := h v4 ev4
        refine lv_iinc (v := v4) (lv' := [(5, .int v4), (0, .ref (ad 2)), (1, .int x1), (2, .int x2), (3, .int x3), (4, .int x4)]) hx hb dX2_nextToldDay_60 hl (k := 5) rfl (by rw [ev4]; rfl) (by decide) rfl (fun ls hl => ?_)
        refine lv_goto (tgt := 18) hx hb dX2_nextToldDay_63 (by decide) ?_
        exact ih x1 x2 x3 x4 v4 h ls (lv_sub hl [1, 2, 3, 4, 5, 0] rfl)
      · have h := h.2 c3
        refine lv_aload_n hx hb dX2_nextToldDay_35 rfl (lv_at hl 0 rfl) ?_
        refine va_get (D := (dC, dI)) (ci := 2) (v := .ref (ad 15)) (C := RX2) (T := TX2) (N := 10) hx hb hts iX2_nextToldDay_X2 hown hK hP 2 rfl rfl 6 (by decide) (hts (.fieldLink RX2 27 "CarrierBooks$Register" "dayOf" "[I") (by decide +kernel)) (fun _ h9 => h9) rfl dX2_nextToldDay_36 ?_
        refine lv_iload hx hb dX2_nextToldDay_39 (lv_at hl 5 rfl) ?_
        obtain ⟨hin5, h⟩ := h
        refine va_iald hx hb hK hP 15 0 rfl rfl hin5 dX2_nextToldDay_41 ?_
        refine lv_iload_n hx hb dX2_nextToldDay_42 rfl (lv_at hl 2 rfl) ?_
        refine lv_icmp_le (tgt := 60) hx hb dX2_nextToldDay_43 (by decide) (fun c6 => ?_) (fun c6 => ?_)
        · have h := h.1 c6
          obtain ⟨v7, ev7⟩ : ∃ y : Int32, y = x5 + (1 : Int32) := ⟨_, rfl⟩
          have h := h v7 ev7
          refine lv_iinc (v := v7) (lv' := [(5, .int v7), (0, .ref (ad 2)), (1, .int x1), (2, .int x2), (3, .int x3), (4, .int x4)]) hx hb dX2_nextToldDay_60 hl (k := 5) rfl (by rw [ev7]; rfl) (by decide) rfl (fun ls hl => ?_)
          refine lv_goto (tgt := 18) hx hb dX2_nextToldDay_63 (by decide) ?_
          exact ih x1 x2 x3 x4 v7 h ls (lv_sub hl [1, 2, 3, 4, 5, 0] rfl)
        · have h := h.2 c6
          refine lv_iload hx hb dX2_nextToldDay_46 (lv_at hl 4 rfl) ?_
          refine lv_aload_n hx hb dX2_nextToldDay_48 rfl (lv_at hl 0 rfl) ?_
          refine va_get (D := (dC, dI)) (ci := 2) (v := .ref (ad 15)) (C := RX2) (T := TX2) (N := 10) hx hb hts iX2_nextToldDay_X2 hown hK hP 2 rfl rfl 6 (by decide) (hts (.fieldLink RX2 27 "CarrierBooks$Register" "dayOf" "[I") (by decide +kernel)) (fun _ h9 => h9) rfl dX2_nextToldDay_49 ?_
          refine lv_iload hx hb dX2_nextToldDay_52 (lv_at hl 5 rfl) ?_
          obtain ⟨hin8, h⟩ := h
          refine va_iald hx hb hK hP 15 0 rfl rfl hin8 dX2_nextToldDay_54 ?_
          refine va_mmin hx hb (hml.trans hl.1.symm) hown (hts (.methodLink RX2 43 Lib.Math.min.name) (by decide +kernel)) (hts (.static Lib.Math.min.name) (by decide +kernel)) (hts (.initialized "java/lang/Math") (by decide +kernel)) (hts (.code Lib.Math.min.name Lib.Math.min.code 2 (some .int)) (by decide +kernel)) (Nat.le_of_ble_eq_true rfl) (Nat.le_of_ble_eq_true rfl) (Nat.zero_le _) (Nat.zero_le _) dX2_nextToldDay_55 ?_
          refine lv_topi (fun v9 ev9 => ?_)
          have h := h v9 ev9
          refine lv_istore (lv' := [(4, .int v9), (0, .ref (ad 2)), (1, .int x1), (2, .int x2), (3, .int x3), (5, .int x5)]) hx hb dX2_nextToldDay_58 hl (by decide) rfl (fun ls hl => ?_)
          obtain ⟨v10, ev10⟩ : ∃ y : Int32, y = x5 + (1 : Int32) := ⟨_, rfl⟩
          have h := h v10 ev10
          refine lv_iinc (v := v10) (lv' := [(5, .int v10), (4, .int v9), (0, .ref (ad 2)), (1, .int x1), (2, .int x2), (3, .int x3)]) hx hb dX2_nextToldDay_60 hl (k := 5) rfl (by rw [ev10]; rfl) (by decide) rfl (fun ls hl => ?_)
          refine lv_goto (tgt := 18) hx hb dX2_nextToldDay_63 (by decide) ?_
          exact ih x1 x2 x3 v9 v10 h ls (lv_sub hl [2, 3, 4, 5, 1, 0] rfl)
set_option maxHeartbeats 4000000 in
set_option maxRecDepth 100000 in
theorem cTX2_nextToldDay (l : Launch) (dC : Nat → ClassId) (dI : Nat → Nat → Nat) (cI : ClassId) (ad : Nat → Nat) (I : Nat → Int32) (F : Nat → Nat → Int32) (x1 x2 x3 : Int32) (post : Int32 → Prop) (h : wX2_nextToldDay I F x1 x2 x3 post) : Met l yX2_nextToldDay wsX2_nextToldDay { frames := 1, cells := 0, slots := 0, locals := 16 } (va_Pc [.ref (ad 2), .int x1, .int x2, .int x3] (PW dC dI cI (wC cI ad) I F)) (vp_Si post) 0 0 (fun _ => False) := by
  refine Met.ofW (cc := cX2_nextToldDay) (maxL := 6) (ret := (some .int)) (by decide) rfl ?_
  intro p e s m args below meth c s₁ B hml hv
  obtain ⟨rfl, hP, hK, hN⟩ := hv
  have hx := B.exec
  have hb := B.bytes
  have hr := B.returns
  have hts := atoms_spec (ws := wsX2_nextToldDay) B.pre
  have hown : s.vm.findClass RX2 = some m.cls := findClass_of_methodNamed B.named
  have hlocks := B.notSynchronized
  have C : Cx p s m _ meth c cX2_nextToldDay 6 (some .int) RX2 wsX2_nextToldDay := ⟨hx, hb, hml, hown, hts, hr, hlocks⟩
  have hl := lv_entry ([.ref (ad 2), .int x1, .int x2, .int x3]) (n := 6) (Nat.le_of_ble_eq_true rfl)
  rw [lg_entry_eq]
  generalize (lg_sl ([.ref (ad 2), .int x1, .int x2, .int x3]) ++ List.replicate (6 - (lg_sl ([.ref (ad 2), .int x1, .int x2, .int x3])).length) Slot.unset).toArray = ls at hl ⊢
  have hl : lv_has ls 6 [(0, .ref (ad 2)), (1, .int x1), (2, .int x2), (3, .int x3)] := hl
  unfold wX2_nextToldDay at h
  refine lv_aload_n hx hb dX2_nextToldDay_0 rfl (lv_at hl 0 rfl) ?_
  refine va_get (D := (dC, dI)) (ci := 2) (v := .ref (ad 11)) (C := RX2) (T := TX2) (N := 10) hx hb hts iX2_nextToldDay_X2 hown hK hP 2 rfl rfl 1 (by decide) (hts (.fieldLink RX2 15 "CarrierBooks$Register" "end" "[I") (by decide +kernel)) (fun _ h9 => h9) rfl dX2_nextToldDay_1 ?_
  refine lv_iload_n hx hb dX2_nextToldDay_4 rfl (lv_at hl 1 rfl) ?_
  obtain ⟨hin11, h⟩ := h
  refine va_iald hx hb hK hP 11 0 rfl rfl hin11 dX2_nextToldDay_5 ?_
  refine lv_topi (fun v12 ev12 => ?_)
  have h := h v12 ev12
  refine lv_istore (lv' := [(4, .int v12), (0, .ref (ad 2)), (1, .int x1), (2, .int x2), (3, .int x3)]) hx hb dX2_nextToldDay_6 hl (by decide) rfl (fun ls hl => ?_)
  refine lv_aload_n hx hb dX2_nextToldDay_8 rfl (lv_at hl 1 rfl) ?_
  refine va_get (D := (dC, dI)) (ci := 2) (v := .ref (ad 12)) (C := RX2) (T := TX2) (N := 10) hx hb hts iX2_nextToldDay_X2 hown hK hP 2 rfl rfl 2 (by decide) (hts (.fieldLink RX2 18 "CarrierBooks$Register" "boundBy" "[I") (by decide +kernel)) (fun _ h9 => h9) rfl dX2_nextToldDay_9 ?_
  refine lv_iload_n hx hb dX2_nextToldDay_12 rfl (lv_at hl 2 rfl) ?_
  obtain ⟨hin13, h⟩ := h
  refine va_iald hx hb hK hP 12 0 rfl rfl hin13 dX2_nextToldDay_13 ?_
  refine lv_iconst (v := (1 : Int32)) hx hb dX2_nextToldDay_14 (by decide) ?_
  refine lv_iadd hx hb dX2_nextToldDay_15 ?_
  refine lv_topi (fun v14 ev14 => ?_)
  have h := h v14 ev14
  refine lv_istore (lv' := [(5, .int v14), (4, .int v12), (0, .ref (ad 2)), (1, .int x1), (2, .int x2), (3, .int x3)]) hx hb dX2_nextToldDay_16 hl (by decide) rfl (fun ls hl => ?_)
  obtain ⟨n9, h⟩ := h
  exact sX2_nextToldDay_18 C hP hK hN post n9 x1 x2 x3 v12 v14 h ls (lv_sub hl [2, 3, 4, 5, 1, 0] rfl)

theorem iX2_premiumBefore_X2 : ∀ w ∈ wsX20, w ∈ wsX2_premiumBefore := by decide +kernel
def bX2_premiumBefore_38 (I : Nat → Int32) (F : Nat → Nat → Int32) (post : Int32 → Prop) : Nat → Int32 → Int32 → Int32 → Int32 → Int32 → Int32 → Prop
  | 0 => fun _ _ _ _ _ _ => False
  | n + 1 => fun x2 x4 x5 x6 x7 x8 => ((x4 ≤ x8 → post (x7 / (1000 : Int32))) ∧ (¬ x4 ≤ x8 → ((x5 ≤ x6 → post (x7 / (1000 : Int32))) ∧ (¬ x5 ≤ x6 → wX2_nextToldDay I F x2 x6 x4 (fun r3 => ∀ v4 : Int32, v4 = (if x5 < r3 then x5 else r3) → wX2_chargeOn I F x2 x6 x4 (fun r5 => ∀ v6 : Int32, v6 = (x7 + ((v4 - x6) * r5)) → ∀ v7 : Int32, v7 = x8 + (1 : Int32) → bX2_premiumBefore_38 I F post n x2 x4 x5 v4 v6 v7))))))
def wX2_premiumBefore (I : Nat → Int32) (F : Nat → Nat → Int32) (x2 x3 x4 : Int32) (post : Int32 → Prop) : Prop := wX2_isBound I F x2 x4 (fun r8 => ((¬ r8 = (0 : Int32) → vp_in x2 6 ∧ ∀ v11 : Int32, v11 = (if (F 11 (Int32.toNatClampNeg x2)) < x3 then (F 11 (Int32.toNatClampNeg x2)) else x3) → vp_in x2 6 ∧ ∀ v13 : Int32, v13 = (F 10 (Int32.toNatClampNeg x2)) → ∃ n38 : Nat, bX2_premiumBefore_38 I F post n38 x2 x4 v11 v13 (0 : Int32) (0 : Int32)) ∧ (r8 = (0 : Int32) → post (0 : Int32))))
set_option maxHeartbeats 4000000 in
set_option maxRecDepth 100000 in
theorem sX2_premiumBefore_38 {p : Program} {l : Launch} {e : Env} {s : State} {m : MethodId} {args : Array Value} {below : List Frame} {meth : Method} {c : Code} {dC : Nat → ClassId} {dI : Nat → Nat → Nat} {cI : ClassId} {ad : Nat → Nat} {I : Nat → Int32} {F : Nat → Nat → Int32} (C : Cx p s m args meth c cX2_premiumBefore 10 (some .int) RX2 wsX2_premiumBefore) (hP : va_P (dC, dI) vwCl (wC cI ad I F) s.heap) (hK : va_K (dC, dI) vwCl [(cI, .int)] s) (hN : NW s) (post : Int32 → Prop) : ∀ (n : Nat) (x2 x4 x5 x6 x7 x8 : Int32), bX2_premiumBefore_38 I F post n x2 x4 x5 x6 x7 x8 → ∀ (ls : Array Slot), lv_has ls 10 [(0, .ref (ad 2)), (1, .ref (ad 1)), (2, .int x2), (4, .int x4), (5, .int x5), (6, .int x6), (7, .int x7), (8, .int x8)] → W p l e { frames := 3, cells := 0, slots := 0, locals := 75 } s m args below meth c s.heap [] 0 0 (MQ below (vp_Si post) args s 0 0 (fun _ => False)) (F0 m 38 ls []) := by
  obtain ⟨hx, hb, hml, hown, hts, hr, hlocks⟩ := id C
  intro n
  induction n with
  | zero =>
    intro x2 x4 x5 x6 x7 x8 h ls hl
    exact h.elim
  | succ n ih =>
    intro x2 x4 x5 x6 x7 x8 h ls hl
    unfold bX2_premiumBefore_38 at h
    refine lv_iload hx hb dX2_premiumBefore_38 (lv_at hl 7 rfl) ?_
    refine lv_iload hx hb dX2_premiumBefore_40 (lv_at hl 3 rfl) ?_
    refine lv_icmp_ge (tgt := 99) hx hb dX2_premiumBefore_42 (by decide) (fun c1 => ?_) (fun c1 => ?_)
    · have h := h.1 c1
      refine lv_iload hx hb dX2_premiumBefore_99 (lv_at hl 6 rfl) ?_
      refine lv_sipush (v := (1000 : Int32)) hx hb dX2_premiumBefore_101 (by decide) ?_
      refine lv_idiv hx hb dX2_premiumBefore_104 (by decide) ?_
      exact W.iret (v := (x7 / (1000 : Int32))) hx hb hr (fun t ht hW => ⟨_, rfl, h, ht⟩) (fun q hq => by cases hq) dX2_premiumBefore_105
    · have h := h.2 c1
      refine lv_iload hx hb dX2_premiumBefore_45 (lv_at hl 5 rfl) ?_
      refine lv_iload hx hb dX2_premiumBefore_47 (lv_at hl 4 rfl) ?_
      refine lv_icmp_ge (tgt := 99) hx hb dX2_premiumBefore_49 (by decide) (fun c2 => ?_) (fun c2 => ?_)
      · have h := h.1 c2
        refine lv_iload hx hb dX2_premiumBefore_99 (lv_at hl 6 rfl) ?_
        refine lv_sipush (v := (1000 : Int32)) hx hb dX2_premiumBefore_101 (by decide) ?_
        refine lv_idiv hx hb dX2_premiumBefore_104 (by decide) ?_
        exact W.iret (v := (x7 / (1000 : Int32))) hx hb hr (fun t ht hW => ⟨_, rfl, h, ht⟩) (fun q hq => by cases hq) dX2_premiumBefore_105
      · have h := h.2 c2
        refine lv_aload_n hx hb dX2_premiumBefore_52 rfl (lv_at hl 0 rfl) ?_
        refine lv_iload_n hx hb dX2_premiumBefore_53 rfl (lv_at hl 2 rfl) ?_
        refine lv_iload hx hb dX2_premiumBefore_54 (lv_at hl 5 rfl) ?_
        refine lv_iload hx hb dX2_premiumBefore_56 (lv_at hl 3 rfl) ?_
        refine vp_callSi (cr_of (va_runV (As := [.int x2, .int x6, .int x4]) (rest := []) ⟨hx, hb, hml, hown, hts⟩ (cTX2_nextToldDay l dC dI cI ad I F x2 x6 x4 _ h) (cwV 3 hts gX2_premiumBefore_X2_nextToldDay rfl rfl rfl (by decide +kernel) ⟨Nat.le_of_ble_eq_true rfl, Nat.le_of_ble_eq_true rfl⟩) (pv_R hP hK hN 2 2 rfl rfl _) rfl rfl hl.1 rfl (lv_room (Nat.le_of_ble_eq_true rfl)) dX2_premiumBefore_58 ⟨Nat.le_of_ble_eq_true rfl, Nat.le_of_ble_eq_true rfl⟩)) (fun r3 h => ?_)
        refine lv_iload hx hb dX2_premiumBefore_61 (lv_at hl 4 rfl) ?_
        refine va_mmin hx hb (hml.trans hl.1.symm) hown (hts (.methodLink RX2 43 Lib.Math.min.name) (by decide +kernel)) (hts (.static Lib.Math.min.name) (by decide +kernel)) (hts (.initialized "java/lang/Math") (by decide +kernel)) (hts (.code Lib.Math.min.name Lib.Math.min.code 2 (some .int)) (by decide +kernel)) (Nat.le_of_ble_eq_true rfl) (Nat.le_of_ble_eq_true rfl) (Nat.zero_le _) (Nat.zero_le _) dX2_premiumBefore_63 ?_
        refine lv_topi (fun v4 ev4 => ?_)
        have h := h v4 ev4
        refine lv_istore (lv' := [(9, .int v4), (0, .ref (ad 2)), (1, .ref (ad 1)), (2, .int x2), (4, .int x4), (5, .int x5), (6, .int x6), (7, .int x7), (8, .int x8)]) hx hb dX2_premiumBefore_66 hl (by decide) rfl (fun ls hl => ?_)
        refine lv_iload hx hb dX2_premiumBefore_68 (lv_at hl 7 rfl) ?_
        refine lv_iload hx hb dX2_premiumBefore_70 (lv_at hl 0 rfl) ?_
        refine lv_iload hx hb dX2_premiumBefore_72 (lv_at hl 6 rfl) ?_
        refine lv_isub hx hb dX2_premiumBefore_74 ?_
        refine lv_aload_n hx hb dX2_premiumBefore_75 rfl (lv_at hl 1 rfl) ?_
        refine lv_aload_n hx hb dX2_premiumBefore_76 rfl (lv_at hl 2 rfl) ?_
        refine lv_iload_n hx hb dX2_premiumBefore_77 rfl (lv_at hl 3 rfl) ?_
        refine lv_iload hx hb dX2_premiumBefore_78 (lv_at hl 6 rfl) ?_
        refine lv_iload hx hb dX2_premiumBefore_80 (lv_at hl 4 rfl) ?_
        refine vp_callSi (cr_of (va_runV (As := [.ref (ad 1), .int x2, .int x6, .int x4]) (rest := [.int (v4 - x6), .int x7]) ⟨hx, hb, hml, hown, hts⟩ (cTX2_chargeOn l dC dI cI ad I F x2 x6 x4 _ h) (cwV 4 hts gX2_premiumBefore_X2_chargeOn rfl rfl rfl (by decide +kernel) ⟨Nat.le_of_ble_eq_true rfl, Nat.le_of_ble_eq_true rfl⟩) (pv_R hP hK hN 2 2 rfl rfl _) rfl rfl hl.1 rfl (lv_room (Nat.le_of_ble_eq_true rfl)) dX2_premiumBefore_82 ⟨Nat.le_of_ble_eq_true rfl, Nat.le_of_ble_eq_true rfl⟩)) (fun r5 h => ?_)
        refine lv_imul hx hb dX2_premiumBefore_85 ?_
        refine lv_iadd hx hb dX2_premiumBefore_86 ?_
        refine lv_topi (fun v6 ev6 => ?_)
        have h := h v6 ev6
        refine lv_istore (lv' := [(7, .int v6), (9, .int v4), (0, .ref (ad 2)), (1, .ref (ad 1)), (2, .int x2), (4, .int x4), (5, .int x5), (6, .int x6), (8, .int x8)]) hx hb dX2_premiumBefore_87 hl (by decide) rfl (fun ls hl => ?_)
        refine lv_iload hx hb dX2_premiumBefore_89 (lv_at hl 1 rfl) ?_
        refine lv_istore (lv' := [(6, .int v4), (7, .int v6), (9, .int v4), (0, .ref (ad 2)), (1, .ref (ad 1)), (2, .int x2), (4, .int x4), (5, .int x5), (8, .int x8)]) hx hb dX2_premiumBefore_91 hl (by decide) rfl (fun ls hl => ?_)
        obtain ⟨v7, ev7⟩ : ∃ y : Int32, y = x8 + (1 : Int32) := ⟨_, rfl⟩
        have h := h v7 ev7
        refine lv_iinc (v := v7) (lv' := [(8, .int v7), (6, .int v4), (7, .int v6), (9, .int v4), (0, .ref (ad 2)), (1, .ref (ad 1)), (2, .int x2), (4, .int x4), (5, .int x5)]) hx hb dX2_premiumBefore_93 hl (k := 8) rfl (by rw [ev7]; rfl) (by decide) rfl (fun ls hl => ?_)
        refine lv_goto (tgt := 38) hx hb dX2_premiumBefore_96 (by decide) ?_
        exact ih x2 x4 x5 v4 v6 v7 h ls (lv_sub hl [4, 5, 6, 7, 8, 1, 2, 0] rfl)
set_option maxHeartbeats 4000000 in
set_option maxRecDepth 100000 in
theorem cTX2_premiumBefore (l : Launch) (dC : Nat → ClassId) (dI : Nat → Nat → Nat) (cI : ClassId) (ad : Nat → Nat) (I : Nat → Int32) (F : Nat → Nat → Int32) (x2 x3 x4 : Int32) (post : Int32 → Prop) (h : wX2_premiumBefore I F x2 x3 x4 post) : Met l yX2_premiumBefore wsX2_premiumBefore { frames := 3, cells := 0, slots := 0, locals := 75 } (va_Pc [.ref (ad 2), .ref (ad 1), .int x2, .int x3, .int x4] (PW dC dI cI (wC cI ad) I F)) (vp_Si post) 0 0 (fun _ => False) := by
  refine Met.ofW (cc := cX2_premiumBefore) (maxL := 10) (ret := (some .int)) (by decide) rfl ?_
  intro p e s m args below meth c s₁ B hml hv
  obtain ⟨rfl, hP, hK, hN⟩ := hv
  have hx := B.exec
  have hb := B.bytes
  have hr := B.returns
  have hts := atoms_spec (ws := wsX2_premiumBefore) B.pre
  have hown : s.vm.findClass RX2 = some m.cls := findClass_of_methodNamed B.named
  have hlocks := B.notSynchronized
  have C : Cx p s m _ meth c cX2_premiumBefore 10 (some .int) RX2 wsX2_premiumBefore := ⟨hx, hb, hml, hown, hts, hr, hlocks⟩
  have hl := lv_entry ([.ref (ad 2), .ref (ad 1), .int x2, .int x3, .int x4]) (n := 10) (Nat.le_of_ble_eq_true rfl)
  rw [lg_entry_eq]
  generalize (lg_sl ([.ref (ad 2), .ref (ad 1), .int x2, .int x3, .int x4]) ++ List.replicate (10 - (lg_sl ([.ref (ad 2), .ref (ad 1), .int x2, .int x3, .int x4])).length) Slot.unset).toArray = ls at hl ⊢
  have hl : lv_has ls 10 [(0, .ref (ad 2)), (1, .ref (ad 1)), (2, .int x2), (3, .int x3), (4, .int x4)] := hl
  unfold wX2_premiumBefore at h
  refine lv_aload_n hx hb dX2_premiumBefore_0 rfl (lv_at hl 0 rfl) ?_
  refine lv_iload_n hx hb dX2_premiumBefore_1 rfl (lv_at hl 2 rfl) ?_
  refine lv_iload hx hb dX2_premiumBefore_2 (lv_at hl 4 rfl) ?_
  refine vp_callSi (cr_of (va_runV (As := [.int x2, .int x4]) (rest := []) ⟨hx, hb, hml, hown, hts⟩ (cTX2_isBound l dC dI cI ad I F x2 x4 _ h) (cwV 2 hts gX2_premiumBefore_X2_isBound rfl rfl rfl (by decide +kernel) ⟨Nat.le_of_ble_eq_true rfl, Nat.le_of_ble_eq_true rfl⟩) (pv_R hP hK hN 2 2 rfl rfl _) rfl rfl hl.1 rfl (lv_room (Nat.le_of_ble_eq_true rfl)) dX2_premiumBefore_4 ⟨Nat.le_of_ble_eq_true rfl, Nat.le_of_ble_eq_true rfl⟩)) (fun r8 h => ?_)
  refine lv_if_ne (tgt := 12) hx hb dX2_premiumBefore_7 (by decide) (fun c9 => ?_) (fun c9 => ?_)
  · have h := h.1 c9
    refine lv_iload_n hx hb dX2_premiumBefore_12 rfl (lv_at hl 3 rfl) ?_
    refine lv_aload_n hx hb dX2_premiumBefore_13 rfl (lv_at hl 0 rfl) ?_
    refine va_get (D := (dC, dI)) (ci := 2) (v := .ref (ad 11)) (C := RX2) (T := TX2) (N := 10) hx hb hts iX2_premiumBefore_X2 hown hK hP 2 rfl rfl 1 (by decide) (hts (.fieldLink RX2 15 "CarrierBooks$Register" "end" "[I") (by decide +kernel)) (fun _ h9 => h9) rfl dX2_premiumBefore_14 ?_
    refine lv_iload_n hx hb dX2_premiumBefore_17 rfl (lv_at hl 2 rfl) ?_
    obtain ⟨hin10, h⟩ := h
    refine va_iald hx hb hK hP 11 0 rfl rfl hin10 dX2_premiumBefore_18 ?_
    refine va_mmin hx hb (hml.trans hl.1.symm) hown (hts (.methodLink RX2 43 Lib.Math.min.name) (by decide +kernel)) (hts (.static Lib.Math.min.name) (by decide +kernel)) (hts (.initialized "java/lang/Math") (by decide +kernel)) (hts (.code Lib.Math.min.name Lib.Math.min.code 2 (some .int)) (by decide +kernel)) (Nat.le_of_ble_eq_true rfl) (Nat.le_of_ble_eq_true rfl) (Nat.zero_le _) (Nat.zero_le _) dX2_premiumBefore_19 ?_
    refine lv_topi (fun v11 ev11 => ?_)
    have h := h v11 ev11
    refine lv_istore (lv' := [(5, .int v11), (0, .ref (ad 2)), (1, .ref (ad 1)), (2, .int x2), (3, .int x3), (4, .int x4)]) hx hb dX2_premiumBefore_22 hl (by decide) rfl (fun ls hl => ?_)
    refine lv_aload_n hx hb dX2_premiumBefore_24 rfl (lv_at hl 1 rfl) ?_
    refine va_get (D := (dC, dI)) (ci := 2) (v := .ref (ad 10)) (C := RX2) (T := TX2) (N := 10) hx hb hts iX2_premiumBefore_X2 hown hK hP 2 rfl rfl 0 (by decide) (hts (.fieldLink RX2 9 "CarrierBooks$Register" "start" "[I") (by decide +kernel)) (fun _ h9 => h9) rfl dX2_premiumBefore_25 ?_
    refine lv_iload_n hx hb dX2_premiumBefore_28 rfl (lv_at hl 3 rfl) ?_
    obtain ⟨hin12, h⟩ := h
    refine va_iald hx hb hK hP 10 0 rfl rfl hin12 dX2_premiumBefore_29 ?_
    refine lv_topi (fun v13 ev13 => ?_)
    have h := h v13 ev13
    refine lv_istore (lv' := [(6, .int v13), (5, .int v11), (0, .ref (ad 2)), (1, .ref (ad 1)), (2, .int x2), (3, .int x3), (4, .int x4)]) hx hb dX2_premiumBefore_30 hl (by decide) rfl (fun ls hl => ?_)
    refine lv_iconst (v := (0 : Int32)) hx hb dX2_premiumBefore_32 (by decide) ?_
    refine lv_istore (lv' := [(7, .int (0 : Int32)), (6, .int v13), (5, .int v11), (0, .ref (ad 2)), (1, .ref (ad 1)), (2, .int x2), (3, .int x3), (4, .int x4)]) hx hb dX2_premiumBefore_33 hl (by decide) rfl (fun ls hl => ?_)
    refine lv_iconst (v := (0 : Int32)) hx hb dX2_premiumBefore_35 (by decide) ?_
    refine lv_istore (lv' := [(8, .int (0 : Int32)), (7, .int (0 : Int32)), (6, .int v13), (5, .int v11), (0, .ref (ad 2)), (1, .ref (ad 1)), (2, .int x2), (3, .int x3), (4, .int x4)]) hx hb dX2_premiumBefore_36 hl (by decide) rfl (fun ls hl => ?_)
    obtain ⟨n9, h⟩ := h
    exact sX2_premiumBefore_38 C hP hK hN post n9 x2 x4 v11 v13 (0 : Int32) (0 : Int32) h ls (lv_sub hl [4, 5, 6, 8, 3, 2, 1, 0] rfl)
  · have h := h.2 c9
    refine lv_iconst (v := (0 : Int32)) hx hb dX2_premiumBefore_10 (by decide) ?_
    exact W.iret (v := (0 : Int32)) hx hb hr (fun t ht hW => ⟨_, rfl, h, ht⟩) (fun q hq => by cases hq) dX2_premiumBefore_11
