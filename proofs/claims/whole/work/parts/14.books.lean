theorem iX4_isPlanClosed_X2 : ∀ w ∈ wsX20, w ∈ wsX4_isPlanClosed := by decide +kernel
theorem iX4_isPlanClosed_X4 : ∀ w ∈ wsX40, w ∈ wsX4_isPlanClosed := by decide +kernel
def wX4_isPlanClosed (I : Nat → Int32) (F : Nat → Nat → Int32) (post : Int32 → Prop) : Prop := (((I 2) ≤ (0 : Int32) → post (0 : Int32)) ∧ (¬ (I 2) ≤ (0 : Int32) → post (1 : Int32)))
set_option maxHeartbeats 4000000 in
set_option maxRecDepth 100000 in
theorem cTX4_isPlanClosed (l : Launch) (dC : Nat → ClassId) (dI : Nat → Nat → Nat) (cI : ClassId) (ad : Nat → Nat) (I : Nat → Int32) (F : Nat → Nat → Int32) (post : Int32 → Prop) (h : wX4_isPlanClosed I F post) : Met l yX4_isPlanClosed wsX4_isPlanClosed { frames := 0, cells := 0, slots := 0, locals := 0 } (va_Pc [.ref (ad 0)] (PW dC dI cI (wC cI ad) I F)) (vp_Si post) 0 0 (fun _ => False) := by
  refine Met.ofW (cc := cX4_isPlanClosed) (maxL := 1) (ret := (some .boolean)) (by decide) rfl ?_
  intro p e s m args below meth c s₁ B hml hv
  obtain ⟨rfl, hP, hK, hN⟩ := hv
  have hx := B.exec
  have hb := B.bytes
  have hr := B.returns
  have hts := atoms_spec (ws := wsX4_isPlanClosed) B.pre
  have hown : s.vm.findClass RX4 = some m.cls := findClass_of_methodNamed B.named
  have hlocks := B.notSynchronized
  have C : Cx p s m _ meth c cX4_isPlanClosed 1 (some .boolean) RX4 wsX4_isPlanClosed := ⟨hx, hb, hml, hown, hts, hr, hlocks⟩
  have hl := lv_entry ([.ref (ad 0)]) (n := 1) (Nat.le_of_ble_eq_true rfl)
  rw [lg_entry_eq]
  generalize (lg_sl ([.ref (ad 0)]) ++ List.replicate (1 - (lg_sl ([.ref (ad 0)])).length) Slot.unset).toArray = ls at hl ⊢
  have hl : lv_has ls 1 [(0, .ref (ad 0))] := hl
  unfold wX4_isPlanClosed at h
  refine lv_aload_n hx hb dX4_isPlanClosed_0 rfl (lv_at hl 0 rfl) ?_
  refine va_get (D := (dC, dI)) (ci := 4) (v := .ref (ad 2)) (C := RX4) (T := TX4) (N := 5) hx hb hts iX4_isPlanClosed_X4 hown hK hP 0 rfl rfl 1 (by decide) (hts (.fieldLink RX4 19 "CarrierBooks" "register" "LCarrierBooks$Register;") (by decide +kernel)) (fun _ h9 => h9) rfl dX4_isPlanClosed_1 ?_
  refine va_getN (host := RX4) (D := (dC, dI)) (ci := 2) (v := .int (I 2)) (C := RX2) (T := TX2) (N := 10) hx hb hts iX4_isPlanClosed_X2 hown hK hP 2 rfl rfl 4 (by decide) (va_Nw.use rfl (hN (.fieldLinkNest RX4 69 "CarrierBooks$Register" "policies" "I" RX4) (by decide +kernel))) (fun _ h9 => h9) rfl dX4_isPlanClosed_4 ?_
  refine lv_if_le (tgt := 14) hx hb dX4_isPlanClosed_7 (by decide) (fun c1 => ?_) (fun c1 => ?_)
  · have h := h.1 c1
    refine lv_iconst (v := (0 : Int32)) hx hb dX4_isPlanClosed_14 (by decide) ?_
    exact W.zret (v := (0 : Int32)) hx hb hr rfl (fun t ht hW => ⟨_, rfl, h, ht⟩) (fun q hq => by cases hq) dX4_isPlanClosed_15
  · have h := h.2 c1
    refine lv_iconst (v := (1 : Int32)) hx hb dX4_isPlanClosed_10 (by decide) ?_
    refine lv_goto (tgt := 15) hx hb dX4_isPlanClosed_11 (by decide) ?_
    exact W.zret (v := (1 : Int32)) hx hb hr rfl (fun t ht hW => ⟨_, rfl, h, ht⟩) (fun q hq => by cases hq) dX4_isPlanClosed_15

theorem iX4_witness_X4 : ∀ w ∈ wsX40, w ∈ wsX4_witness := by decide +kernel
def wX4_witness (I : Nat → Int32) (F : Nat → Nat → Int32) (post : Int32 → Prop) : Prop := wX1_firstFault I F (fun r1 => post r1)
set_option maxHeartbeats 4000000 in
set_option maxRecDepth 100000 in
theorem cTX4_witness (l : Launch) (dC : Nat → ClassId) (dI : Nat → Nat → Nat) (cI : ClassId) (ad : Nat → Nat) (I : Nat → Int32) (F : Nat → Nat → Int32) (post : Int32 → Prop) (h : wX4_witness I F post) : Met l yX4_witness wsX4_witness { frames := 3, cells := 0, slots := 0, locals := 69 } (va_Pc [.ref (ad 0)] (PW dC dI cI (wC cI ad) I F)) (vp_Si post) 0 0 (fun _ => False) := by
  refine Met.ofW (cc := cX4_witness) (maxL := 1) (ret := (some .int)) (by decide) rfl ?_
  intro p e s m args below meth c s₁ B hml hv
  obtain ⟨rfl, hP, hK, hN⟩ := hv
  have hx := B.exec
  have hb := B.bytes
  have hr := B.returns
  have hts := atoms_spec (ws := wsX4_witness) B.pre
  have hown : s.vm.findClass RX4 = some m.cls := findClass_of_methodNamed B.named
  have hlocks := B.notSynchronized
  have C : Cx p s m _ meth c cX4_witness 1 (some .int) RX4 wsX4_witness := ⟨hx, hb, hml, hown, hts, hr, hlocks⟩
  have hl := lv_entry ([.ref (ad 0)]) (n := 1) (Nat.le_of_ble_eq_true rfl)
  rw [lg_entry_eq]
  generalize (lg_sl ([.ref (ad 0)]) ++ List.replicate (1 - (lg_sl ([.ref (ad 0)])).length) Slot.unset).toArray = ls at hl ⊢
  have hl : lv_has ls 1 [(0, .ref (ad 0))] := hl
  unfold wX4_witness at h
  refine lv_aload_n hx hb dX4_witness_0 rfl (lv_at hl 0 rfl) ?_
  refine va_get (D := (dC, dI)) (ci := 4) (v := .ref (ad 1)) (C := RX4) (T := TX4) (N := 5) hx hb hts iX4_witness_X4 hown hK hP 0 rfl rfl 0 (by decide) (hts (.fieldLink RX4 10 "CarrierBooks" "plan" "LCarrierBooks$Plan;") (by decide +kernel)) (fun _ h9 => h9) rfl dX4_witness_1 ?_
  refine vp_callSi (cr_of (va_runVN (As := []) (rest := []) ⟨hx, hb, hml, hown, hts⟩ (cTX1_firstFault l dC dI cI ad I F _ h) ⟨va_cnB 0 hts gX4_witness_X1_firstFault_n65 rfl rfl rfl (hN (.methodLinkNest RX4 65 yX1_firstFault RX4) (by decide +kernel)) (hts (.initialized RX1) (by decide +kernel)) (by decide +kernel) ⟨Nat.le_of_ble_eq_true rfl, Nat.le_of_ble_eq_true rfl⟩, hts (.instanceMethod yX1_firstFault) (by decide +kernel), hts (.selects RX1 yX1_firstFault yX1_firstFault) (by decide +kernel)⟩ (pv_R hP hK hN 1 1 rfl rfl _) rfl rfl hl.1 rfl (lv_room (Nat.le_of_ble_eq_true rfl)) dX4_witness_4 ⟨Nat.le_of_ble_eq_true rfl, Nat.le_of_ble_eq_true rfl⟩)) (fun r1 h => ?_)
  exact W.iret (v := r1) hx hb hr (fun t ht hW => ⟨_, rfl, h, ht⟩) (fun q hq => by cases hq) dX4_witness_7

theorem iX4_isPlanGood_X4 : ∀ w ∈ wsX40, w ∈ wsX4_isPlanGood := by decide +kernel
def wX4_isPlanGood (I : Nat → Int32) (F : Nat → Nat → Int32) (post : Int32 → Prop) : Prop := wX4_isPlanClosed I F (fun r1 => ((¬ r1 = (0 : Int32) → post (1 : Int32)) ∧ (r1 = (0 : Int32) → wX1_firstFault I F (fun r3 => ((¬ r3 = (-1 : Int32) → post (0 : Int32)) ∧ (r3 = (-1 : Int32) → post (1 : Int32)))))))
set_option maxHeartbeats 4000000 in
set_option maxRecDepth 100000 in
theorem cTX4_isPlanGood (l : Launch) (dC : Nat → ClassId) (dI : Nat → Nat → Nat) (cI : ClassId) (ad : Nat → Nat) (I : Nat → Int32) (F : Nat → Nat → Int32) (post : Int32 → Prop) (h : wX4_isPlanGood I F post) : Met l yX4_isPlanGood wsX4_isPlanGood { frames := 3, cells := 0, slots := 0, locals := 69 } (va_Pc [.ref (ad 0)] (PW dC dI cI (wC cI ad) I F)) (vp_Si post) 0 0 (fun _ => False) := by
  refine Met.ofW (cc := cX4_isPlanGood) (maxL := 1) (ret := (some .boolean)) (by decide) rfl ?_
  intro p e s m args below meth c s₁ B hml hv
  obtain ⟨rfl, hP, hK, hN⟩ := hv
  have hx := B.exec
  have hb := B.bytes
  have hr := B.returns
  have hts := atoms_spec (ws := wsX4_isPlanGood) B.pre
  have hown : s.vm.findClass RX4 = some m.cls := findClass_of_methodNamed B.named
  have hlocks := B.notSynchronized
  have C : Cx p s m _ meth c cX4_isPlanGood 1 (some .boolean) RX4 wsX4_isPlanGood := ⟨hx, hb, hml, hown, hts, hr, hlocks⟩
  have hl := lv_entry ([.ref (ad 0)]) (n := 1) (Nat.le_of_ble_eq_true rfl)
  rw [lg_entry_eq]
  generalize (lg_sl ([.ref (ad 0)]) ++ List.replicate (1 - (lg_sl ([.ref (ad 0)])).length) Slot.unset).toArray = ls at hl ⊢
  have hl : lv_has ls 1 [(0, .ref (ad 0))] := hl
  unfold wX4_isPlanGood at h
  refine lv_aload_n hx hb dX4_isPlanGood_0 rfl (lv_at hl 0 rfl) ?_
  refine vp_callSi (cr_of (va_runV (As := []) (rest := []) ⟨hx, hb, hml, hown, hts⟩ (cTX4_isPlanClosed l dC dI cI ad I F _ h) (cwV 0 hts gX4_isPlanGood_X4_isPlanClosed rfl rfl rfl (by decide +kernel) ⟨Nat.le_of_ble_eq_true rfl, Nat.le_of_ble_eq_true rfl⟩) (pv_R hP hK hN 0 4 rfl rfl _) rfl rfl hl.1 rfl (lv_room (Nat.le_of_ble_eq_true rfl)) dX4_isPlanGood_1 ⟨Nat.le_of_ble_eq_true rfl, Nat.le_of_ble_eq_true rfl⟩)) (fun r1 h => ?_)
  refine lv_if_ne (tgt := 18) hx hb dX4_isPlanGood_4 (by decide) (fun c2 => ?_) (fun c2 => ?_)
  · have h := h.1 c2
    refine lv_iconst (v := (1 : Int32)) hx hb dX4_isPlanGood_18 (by decide) ?_
    refine lv_goto (tgt := 23) hx hb dX4_isPlanGood_19 (by decide) ?_
    exact W.zret (v := (1 : Int32)) hx hb hr rfl (fun t ht hW => ⟨_, rfl, h, ht⟩) (fun q hq => by cases hq) dX4_isPlanGood_23
  · have h := h.2 c2
    refine lv_aload_n hx hb dX4_isPlanGood_7 rfl (lv_at hl 0 rfl) ?_
    refine va_get (D := (dC, dI)) (ci := 4) (v := .ref (ad 1)) (C := RX4) (T := TX4) (N := 5) hx hb hts iX4_isPlanGood_X4 hown hK hP 0 rfl rfl 0 (by decide) (hts (.fieldLink RX4 10 "CarrierBooks" "plan" "LCarrierBooks$Plan;") (by decide +kernel)) (fun _ h9 => h9) rfl dX4_isPlanGood_8 ?_
    refine vp_callSi (cr_of (va_runVN (As := []) (rest := []) ⟨hx, hb, hml, hown, hts⟩ (cTX1_firstFault l dC dI cI ad I F _ h) ⟨va_cnB 0 hts gX4_isPlanGood_X1_firstFault_n65 rfl rfl rfl (hN (.methodLinkNest RX4 65 yX1_firstFault RX4) (by decide +kernel)) (hts (.initialized RX1) (by decide +kernel)) (by decide +kernel) ⟨Nat.le_of_ble_eq_true rfl, Nat.le_of_ble_eq_true rfl⟩, hts (.instanceMethod yX1_firstFault) (by decide +kernel), hts (.selects RX1 yX1_firstFault yX1_firstFault) (by decide +kernel)⟩ (pv_R hP hK hN 1 1 rfl rfl _) rfl rfl hl.1 rfl (lv_room (Nat.le_of_ble_eq_true rfl)) dX4_isPlanGood_11 ⟨Nat.le_of_ble_eq_true rfl, Nat.le_of_ble_eq_true rfl⟩)) (fun r3 h => ?_)
    refine lv_iconst (v := (-1 : Int32)) hx hb dX4_isPlanGood_14 (by decide) ?_
    refine lv_icmp_ne (tgt := 22) hx hb dX4_isPlanGood_15 (by decide) (fun c4 => ?_) (fun c4 => ?_)
    · have h := h.1 c4
      refine lv_iconst (v := (0 : Int32)) hx hb dX4_isPlanGood_22 (by decide) ?_
      exact W.zret (v := (0 : Int32)) hx hb hr rfl (fun t ht hW => ⟨_, rfl, h, ht⟩) (fun q hq => by cases hq) dX4_isPlanGood_23
    · have h := h.2 c4
      refine lv_iconst (v := (1 : Int32)) hx hb dX4_isPlanGood_18 (by decide) ?_
      refine lv_goto (tgt := 23) hx hb dX4_isPlanGood_19 (by decide) ?_
      exact W.zret (v := (1 : Int32)) hx hb hr rfl (fun t ht hW => ⟨_, rfl, h, ht⟩) (fun q hq => by cases hq) dX4_isPlanGood_23

theorem iX4_isPolicy_X2 : ∀ w ∈ wsX20, w ∈ wsX4_isPolicy := by decide +kernel
theorem iX4_isPolicy_X4 : ∀ w ∈ wsX40, w ∈ wsX4_isPolicy := by decide +kernel
def wX4_isPolicy (I : Nat → Int32) (F : Nat → Nat → Int32) (x1 : Int32) (post : Int32 → Prop) : Prop := wX4_isIndex x1 (I 2) (fun r1 => (narrow FieldType.boolean (.int r1) = .int r1 ∧ post r1))
set_option maxHeartbeats 4000000 in
set_option maxRecDepth 100000 in
theorem cTX4_isPolicy (l : Launch) (dC : Nat → ClassId) (dI : Nat → Nat → Nat) (cI : ClassId) (ad : Nat → Nat) (I : Nat → Int32) (F : Nat → Nat → Int32) (x1 : Int32) (post : Int32 → Prop) (h : wX4_isPolicy I F x1 post) : Met l yX4_isPolicy wsX4_isPolicy { frames := 1, cells := 0, slots := 0, locals := 21 } (va_Pc [.ref (ad 0), .int x1] (PW dC dI cI (wC cI ad) I F)) (vp_Si post) 0 0 (fun _ => False) := by
  refine Met.ofW (cc := cX4_isPolicy) (maxL := 2) (ret := (some .boolean)) (by decide) rfl ?_
  intro p e s m args below meth c s₁ B hml hv
  obtain ⟨rfl, hP, hK, hN⟩ := hv
  have hx := B.exec
  have hb := B.bytes
  have hr := B.returns
  have hts := atoms_spec (ws := wsX4_isPolicy) B.pre
  have hown : s.vm.findClass RX4 = some m.cls := findClass_of_methodNamed B.named
  have hlocks := B.notSynchronized
  have C : Cx p s m _ meth c cX4_isPolicy 2 (some .boolean) RX4 wsX4_isPolicy := ⟨hx, hb, hml, hown, hts, hr, hlocks⟩
  have hl := lv_entry ([.ref (ad 0), .int x1]) (n := 2) (Nat.le_of_ble_eq_true rfl)
  rw [lg_entry_eq]
  generalize (lg_sl ([.ref (ad 0), .int x1]) ++ List.replicate (2 - (lg_sl ([.ref (ad 0), .int x1])).length) Slot.unset).toArray = ls at hl ⊢
  have hl : lv_has ls 2 [(0, .ref (ad 0)), (1, .int x1)] := hl
  unfold wX4_isPolicy at h
  refine lv_iload_n hx hb dX4_isPolicy_0 rfl (lv_at hl 1 rfl) ?_
  refine lv_aload_n hx hb dX4_isPolicy_1 rfl (lv_at hl 0 rfl) ?_
  refine va_get (D := (dC, dI)) (ci := 4) (v := .ref (ad 2)) (C := RX4) (T := TX4) (N := 5) hx hb hts iX4_isPolicy_X4 hown hK hP 0 rfl rfl 1 (by decide) (hts (.fieldLink RX4 19 "CarrierBooks" "register" "LCarrierBooks$Register;") (by decide +kernel)) (fun _ h9 => h9) rfl dX4_isPolicy_2 ?_
  refine va_getN (host := RX4) (D := (dC, dI)) (ci := 2) (v := .int (I 2)) (C := RX2) (T := TX2) (N := 10) hx hb hts iX4_isPolicy_X2 hown hK hP 2 rfl rfl 4 (by decide) (va_Nw.use rfl (hN (.fieldLinkNest RX4 69 "CarrierBooks$Register" "policies" "I" RX4) (by decide +kernel))) (fun _ h9 => h9) rfl dX4_isPolicy_5 ?_
  refine vp_callSi (cr_of (va_runS (As := [.int x1, .int (I 2)]) (rest := []) ⟨hx, hb, hml, hown, hts⟩ (cTX4_isIndex l x1 (I 2) _ h) (va_cwS 2 hts gX4_isPolicy_X4_isIndex rfl rfl rfl (by decide +kernel) ⟨Nat.le_of_ble_eq_true rfl, Nat.le_of_ble_eq_true rfl⟩) (pv_S _) rfl rfl hl.1 rfl (lv_room (Nat.le_of_ble_eq_true rfl)) dX4_isPolicy_8 ⟨Nat.le_of_ble_eq_true rfl, Nat.le_of_ble_eq_true rfl⟩)) (fun r1 h => ?_)
  obtain ⟨hnr, h⟩ := h
  exact W.zret (v := r1) hx hb hr hnr (fun t ht hW => ⟨_, rfl, h, ht⟩) (fun q hq => by cases hq) dX4_isPolicy_11

theorem iX4_count_X0 : ∀ w ∈ wsX00, w ∈ wsX4_count := by decide +kernel
theorem iX4_count_X1 : ∀ w ∈ wsX10, w ∈ wsX4_count := by decide +kernel
theorem iX4_count_X2 : ∀ w ∈ wsX20, w ∈ wsX4_count := by decide +kernel
theorem iX4_count_X3 : ∀ w ∈ wsX30, w ∈ wsX4_count := by decide +kernel
theorem iX4_count_X4 : ∀ w ∈ wsX40, w ∈ wsX4_count := by decide +kernel
def wX4_count (I : Nat → Int32) (F : Nat → Nat → Int32) (x1 : Int32) (post : Int32 → Prop) : Prop := ((x1 = (0 : Int32) → post (I 2)) ∧ (x1 = (1 : Int32) → post (I 3)) ∧ (x1 = (2 : Int32) → post (I 13)) ∧ (x1 = (3 : Int32) → post (I 14)) ∧ (x1 = (4 : Int32) → post (I 1)) ∧ (¬ x1 = (0 : Int32) → ¬ x1 = (1 : Int32) → ¬ x1 = (2 : Int32) → ¬ x1 = (3 : Int32) → ¬ x1 = (4 : Int32) → post (-1 : Int32)))
set_option maxHeartbeats 4000000 in
set_option maxRecDepth 100000 in
theorem cTX4_count (l : Launch) (dC : Nat → ClassId) (dI : Nat → Nat → Nat) (cI : ClassId) (ad : Nat → Nat) (I : Nat → Int32) (F : Nat → Nat → Int32) (x1 : Int32) (post : Int32 → Prop) (h : wX4_count I F x1 post) : Met l yX4_count wsX4_count { frames := 0, cells := 0, slots := 0, locals := 0 } (va_Pc [.ref (ad 0), .int x1] (PW dC dI cI (wC cI ad) I F)) (vp_Si post) 0 0 (fun _ => False) := by
  refine Met.ofW (cc := cX4_count) (maxL := 2) (ret := (some .int)) (by decide) rfl ?_
  intro p e s m args below meth c s₁ B hml hv
  obtain ⟨rfl, hP, hK, hN⟩ := hv
  have hx := B.exec
  have hb := B.bytes
  have hr := B.returns
  have hts := atoms_spec (ws := wsX4_count) B.pre
  have hown : s.vm.findClass RX4 = some m.cls := findClass_of_methodNamed B.named
  have hlocks := B.notSynchronized
  have C : Cx p s m _ meth c cX4_count 2 (some .int) RX4 wsX4_count := ⟨hx, hb, hml, hown, hts, hr, hlocks⟩
  have hl := lv_entry ([.ref (ad 0), .int x1]) (n := 2) (Nat.le_of_ble_eq_true rfl)
  rw [lg_entry_eq]
  generalize (lg_sl ([.ref (ad 0), .int x1]) ++ List.replicate (2 - (lg_sl ([.ref (ad 0), .int x1])).length) Slot.unset).toArray = ls at hl ⊢
  have hl : lv_has ls 2 [(0, .ref (ad 0)), (1, .int x1)] := hl
  unfold wX4_count at h
  refine lv_iload_n hx hb dX4_count_0 rfl (lv_at hl 1 rfl) ?_
  by_cases c1 : x1 = (0 : Int32)
  · have h := h.1 c1
    refine lv_tableIn (tgt := 36) hx hb dX4_count_1 (by rw [c1]; decide) (by rw [c1]; decide) (by rw [c1]; rfl) (by decide) ?_
    refine lv_aload_n hx hb dX4_count_36 rfl (lv_at hl 0 rfl) ?_
    refine va_get (D := (dC, dI)) (ci := 4) (v := .ref (ad 2)) (C := RX4) (T := TX4) (N := 5) hx hb hts iX4_count_X4 hown hK hP 0 rfl rfl 1 (by decide) (hts (.fieldLink RX4 19 "CarrierBooks" "register" "LCarrierBooks$Register;") (by decide +kernel)) (fun _ h9 => h9) rfl dX4_count_37 ?_
    refine va_getN (host := RX4) (D := (dC, dI)) (ci := 2) (v := .int (I 2)) (C := RX2) (T := TX2) (N := 10) hx hb hts iX4_count_X2 hown hK hP 2 rfl rfl 4 (by decide) (va_Nw.use rfl (hN (.fieldLinkNest RX4 69 "CarrierBooks$Register" "policies" "I" RX4) (by decide +kernel))) (fun _ h9 => h9) rfl dX4_count_40 ?_
    exact W.iret (v := (I 2)) hx hb hr (fun t ht hW => ⟨_, rfl, h, ht⟩) (fun q hq => by cases hq) dX4_count_43
  have h := h.2
  by_cases c2 : x1 = (1 : Int32)
  · have h := h.1 c2
    refine lv_tableIn (tgt := 44) hx hb dX4_count_1 (by rw [c2]; decide) (by rw [c2]; decide) (by rw [c2]; rfl) (by decide) ?_
    refine lv_aload_n hx hb dX4_count_44 rfl (lv_at hl 0 rfl) ?_
    refine va_get (D := (dC, dI)) (ci := 4) (v := .ref (ad 2)) (C := RX4) (T := TX4) (N := 5) hx hb hts iX4_count_X4 hown hK hP 0 rfl rfl 1 (by decide) (hts (.fieldLink RX4 19 "CarrierBooks" "register" "LCarrierBooks$Register;") (by decide +kernel)) (fun _ h9 => h9) rfl dX4_count_45 ?_
    refine va_getN (host := RX4) (D := (dC, dI)) (ci := 2) (v := .int (I 3)) (C := RX2) (T := TX2) (N := 10) hx hb hts iX4_count_X2 hown hK hP 2 rfl rfl 9 (by decide) (va_Nw.use rfl (hN (.fieldLinkNest RX4 149 "CarrierBooks$Register" "bookings" "I" RX4) (by decide +kernel))) (fun _ h9 => h9) rfl dX4_count_48 ?_
    exact W.iret (v := (I 3)) hx hb hr (fun t ht hW => ⟨_, rfl, h, ht⟩) (fun q hq => by cases hq) dX4_count_51
  have h := h.2
  by_cases c3 : x1 = (2 : Int32)
  · have h := h.1 c3
    refine lv_tableIn (tgt := 52) hx hb dX4_count_1 (by rw [c3]; decide) (by rw [c3]; decide) (by rw [c3]; rfl) (by decide) ?_
    refine lv_aload_n hx hb dX4_count_52 rfl (lv_at hl 0 rfl) ?_
    refine va_get (D := (dC, dI)) (ci := 4) (v := .ref (ad 3)) (C := RX4) (T := TX4) (N := 5) hx hb hts iX4_count_X4 hown hK hP 0 rfl rfl 2 (by decide) (hts (.fieldLink RX4 26 "CarrierBooks" "settlements" "LCarrierBooks$Settlements;") (by decide +kernel)) (fun _ h9 => h9) rfl dX4_count_53 ?_
    refine va_getN (host := RX4) (D := (dC, dI)) (ci := 3) (v := .int (I 13)) (C := RX3) (T := TX3) (N := 12) hx hb hts iX4_count_X3 hown hK hP 3 rfl rfl 11 (by decide) (va_Nw.use rfl (hN (.fieldLinkNest RX4 75 "CarrierBooks$Settlements" "size" "I" RX4) (by decide +kernel))) (fun _ h9 => h9) rfl dX4_count_56 ?_
    exact W.iret (v := (I 13)) hx hb hr (fun t ht hW => ⟨_, rfl, h, ht⟩) (fun q hq => by cases hq) dX4_count_59
  have h := h.2
  by_cases c4 : x1 = (3 : Int32)
  · have h := h.1 c4
    refine lv_tableIn (tgt := 60) hx hb dX4_count_1 (by rw [c4]; decide) (by rw [c4]; decide) (by rw [c4]; rfl) (by decide) ?_
    refine lv_aload_n hx hb dX4_count_60 rfl (lv_at hl 0 rfl) ?_
    refine va_get (D := (dC, dI)) (ci := 4) (v := .ref (ad 4)) (C := RX4) (T := TX4) (N := 5) hx hb hts iX4_count_X4 hown hK hP 0 rfl rfl 3 (by decide) (hts (.fieldLink RX4 33 "CarrierBooks" "journal" "LCarrierBooks$Journal;") (by decide +kernel)) (fun _ h9 => h9) rfl dX4_count_61 ?_
    refine va_getN (host := RX4) (D := (dC, dI)) (ci := 0) (v := .int (I 14)) (C := RX0) (T := TX0) (N := 3) hx hb hts iX4_count_X0 hown hK hP 4 rfl rfl 2 (by decide) (va_Nw.use rfl (hN (.fieldLinkNest RX4 152 "CarrierBooks$Journal" "size" "I" RX4) (by decide +kernel))) (fun _ h9 => h9) rfl dX4_count_64 ?_
    exact W.iret (v := (I 14)) hx hb hr (fun t ht hW => ⟨_, rfl, h, ht⟩) (fun q hq => by cases hq) dX4_count_67
  have h := h.2
  by_cases c5 : x1 = (4 : Int32)
  · have h := h.1 c5
    refine lv_tableIn (tgt := 68) hx hb dX4_count_1 (by rw [c5]; decide) (by rw [c5]; decide) (by rw [c5]; rfl) (by decide) ?_
    refine lv_aload_n hx hb dX4_count_68 rfl (lv_at hl 0 rfl) ?_
    refine va_get (D := (dC, dI)) (ci := 4) (v := .ref (ad 1)) (C := RX4) (T := TX4) (N := 5) hx hb hts iX4_count_X4 hown hK hP 0 rfl rfl 0 (by decide) (hts (.fieldLink RX4 10 "CarrierBooks" "plan" "LCarrierBooks$Plan;") (by decide +kernel)) (fun _ h9 => h9) rfl dX4_count_69 ?_
    refine va_getN (host := RX4) (D := (dC, dI)) (ci := 1) (v := .int (I 1)) (C := RX1) (T := TX1) (N := 6) hx hb hts iX4_count_X1 hown hK hP 1 rfl rfl 5 (by decide) (va_Nw.use rfl (hN (.fieldLinkNest RX4 41 "CarrierBooks$Plan" "size" "I" RX4) (by decide +kernel))) (fun _ h9 => h9) rfl dX4_count_72 ?_
    exact W.iret (v := (I 1)) hx hb hr (fun t ht hW => ⟨_, rfl, h, ht⟩) (fun q hq => by cases hq) dX4_count_75
  have h := h.2
  have h := h c1 c2 c3 c4 c5
  have tc1 : ¬ x1.toInt = 0 := lv_neT c1 rfl
  have tc2 : ¬ x1.toInt = 1 := lv_neT c2 rfl
  have tc3 : ¬ x1.toInt = 2 := lv_neT c3 rfl
  have tc4 : ¬ x1.toInt = 3 := lv_neT c4 rfl
  have tc5 : ¬ x1.toInt = 4 := lv_neT c5 rfl
  refine lv_tableOut (tgt := 76) hx hb dX4_count_1 (by omega) (by decide) ?_
  refine lv_iconst (v := (-1 : Int32)) hx hb dX4_count_76 (by decide) ?_
  exact W.iret (v := (-1 : Int32)) hx hb hr (fun t ht hW => ⟨_, rfl, h, ht⟩) (fun q hq => by cases hq) dX4_count_77
