def wX0_needed (x0 : Int32) (post : Int32 → Prop) : Prop := ((¬ x0 = (0 : Int32) → post (1 : Int32)) ∧ (x0 = (0 : Int32) → post (0 : Int32)))
set_option maxHeartbeats 4000000 in
set_option maxRecDepth 100000 in
theorem cTX0_needed (l : Launch) (x0 : Int32) (post : Int32 → Prop) (h : wX0_needed x0 post) : Met l yX0_needed wsX0_needed { frames := 0, cells := 0, slots := 0, locals := 0 } (va_Pc [.int x0] (fun _ => True)) (vp_Si post) 0 0 (fun _ => False) := by
  refine Met.ofW (cc := cX0_needed) (maxL := 1) (ret := (some .int)) (by decide) rfl ?_
  intro p e s m args below meth c s₁ B hml hv
  obtain ⟨rfl, -⟩ := hv
  have hx := B.exec
  have hb := B.bytes
  have hr := B.returns
  have hts := atoms_spec (ws := wsX0_needed) B.pre
  have hown : s.vm.findClass RX0 = some m.cls := findClass_of_methodNamed B.named
  have hlocks := B.notSynchronized
  have C : Cx p s m _ meth c cX0_needed 1 (some .int) RX0 wsX0_needed := ⟨hx, hb, hml, hown, hts, hr, hlocks⟩
  have hl := lv_entry ([.int x0]) (n := 1) (Nat.le_of_ble_eq_true rfl)
  rw [lg_entry_eq]
  generalize (lg_sl ([.int x0]) ++ List.replicate (1 - (lg_sl ([.int x0])).length) Slot.unset).toArray = ls at hl ⊢
  have hl : lv_has ls 1 [(0, .int x0)] := hl
  unfold wX0_needed at h
  refine lv_iload_n hx hb dX0_needed_0 rfl (lv_at hl 0 rfl) ?_
  refine lv_if_ne (tgt := 8) hx hb dX0_needed_1 (by decide) (fun c1 => ?_) (fun c1 => ?_)
  · have h := h.1 c1
    refine lv_iconst (v := (1 : Int32)) hx hb dX0_needed_8 (by decide) ?_
    exact W.iret (v := (1 : Int32)) hx hb hr (fun t ht hW => ⟨_, rfl, h, ht⟩) (fun q hq => by cases hq) dX0_needed_9
  · have h := h.2 c1
    refine lv_iconst (v := (0 : Int32)) hx hb dX0_needed_4 (by decide) ?_
    refine lv_goto (tgt := 9) hx hb dX0_needed_5 (by decide) ?_
    exact W.iret (v := (0 : Int32)) hx hb hr (fun t ht hW => ⟨_, rfl, h, ht⟩) (fun q hq => by cases hq) dX0_needed_9

def wX4_isWithin (x0 x1 x2 : Int32) (post : Int32 → Prop) : Prop := ((x1 < x0 → post (0 : Int32)) ∧ (¬ x1 < x0 → ((x2 < x1 → post (0 : Int32)) ∧ (¬ x2 < x1 → post (1 : Int32)))))
set_option maxHeartbeats 4000000 in
set_option maxRecDepth 100000 in
theorem cTX4_isWithin (l : Launch) (x0 x1 x2 : Int32) (post : Int32 → Prop) (h : wX4_isWithin x0 x1 x2 post) : Met l yX4_isWithin wsX4_isWithin { frames := 0, cells := 0, slots := 0, locals := 0 } (va_Pc [.int x0, .int x1, .int x2] (fun _ => True)) (vp_Si post) 0 0 (fun _ => False) := by
  refine Met.ofW (cc := cX4_isWithin) (maxL := 3) (ret := (some .boolean)) (by decide) rfl ?_
  intro p e s m args below meth c s₁ B hml hv
  obtain ⟨rfl, -⟩ := hv
  have hx := B.exec
  have hb := B.bytes
  have hr := B.returns
  have hts := atoms_spec (ws := wsX4_isWithin) B.pre
  have hown : s.vm.findClass RX4 = some m.cls := findClass_of_methodNamed B.named
  have hlocks := B.notSynchronized
  have C : Cx p s m _ meth c cX4_isWithin 3 (some .boolean) RX4 wsX4_isWithin := ⟨hx, hb, hml, hown, hts, hr, hlocks⟩
  have hl := lv_entry ([.int x0, .int x1, .int x2]) (n := 3) (Nat.le_of_ble_eq_true rfl)
  rw [lg_entry_eq]
  generalize (lg_sl ([.int x0, .int x1, .int x2]) ++ List.replicate (3 - (lg_sl ([.int x0, .int x1, .int x2])).length) Slot.unset).toArray = ls at hl ⊢
  have hl : lv_has ls 3 [(0, .int x0), (1, .int x1), (2, .int x2)] := hl
  unfold wX4_isWithin at h
  refine lv_iload_n hx hb dX4_isWithin_0 rfl (lv_at hl 0 rfl) ?_
  refine lv_iload_n hx hb dX4_isWithin_1 rfl (lv_at hl 1 rfl) ?_
  refine lv_icmp_gt (tgt := 14) hx hb dX4_isWithin_2 (by decide) (fun c1 => ?_) (fun c1 => ?_)
  · have h := h.1 c1
    refine lv_iconst (v := (0 : Int32)) hx hb dX4_isWithin_14 (by decide) ?_
    exact W.zret (v := (0 : Int32)) hx hb hr rfl (fun t ht hW => ⟨_, rfl, h, ht⟩) (fun q hq => by cases hq) dX4_isWithin_15
  · have h := h.2 c1
    refine lv_iload_n hx hb dX4_isWithin_5 rfl (lv_at hl 1 rfl) ?_
    refine lv_iload_n hx hb dX4_isWithin_6 rfl (lv_at hl 2 rfl) ?_
    refine lv_icmp_gt (tgt := 14) hx hb dX4_isWithin_7 (by decide) (fun c2 => ?_) (fun c2 => ?_)
    · have h := h.1 c2
      refine lv_iconst (v := (0 : Int32)) hx hb dX4_isWithin_14 (by decide) ?_
      exact W.zret (v := (0 : Int32)) hx hb hr rfl (fun t ht hW => ⟨_, rfl, h, ht⟩) (fun q hq => by cases hq) dX4_isWithin_15
    · have h := h.2 c2
      refine lv_iconst (v := (1 : Int32)) hx hb dX4_isWithin_10 (by decide) ?_
      refine lv_goto (tgt := 15) hx hb dX4_isWithin_11 (by decide) ?_
      exact W.zret (v := (1 : Int32)) hx hb hr rfl (fun t ht hW => ⟨_, rfl, h, ht⟩) (fun q hq => by cases hq) dX4_isWithin_15

def wX4_isSpan (x0 x1 x2 : Int32) (post : Int32 → Prop) : Prop := ((x0 < (0 : Int32) → post (0 : Int32)) ∧ (¬ x0 < (0 : Int32) → ((x1 < x0 → post (0 : Int32)) ∧ (¬ x1 < x0 → ((x2 < x1 → post (0 : Int32)) ∧ (¬ x2 < x1 → post (1 : Int32)))))))
set_option maxHeartbeats 4000000 in
set_option maxRecDepth 100000 in
theorem cTX4_isSpan (l : Launch) (x0 x1 x2 : Int32) (post : Int32 → Prop) (h : wX4_isSpan x0 x1 x2 post) : Met l yX4_isSpan wsX4_isSpan { frames := 0, cells := 0, slots := 0, locals := 0 } (va_Pc [.int x0, .int x1, .int x2] (fun _ => True)) (vp_Si post) 0 0 (fun _ => False) := by
  refine Met.ofW (cc := cX4_isSpan) (maxL := 3) (ret := (some .boolean)) (by decide) rfl ?_
  intro p e s m args below meth c s₁ B hml hv
  obtain ⟨rfl, -⟩ := hv
  have hx := B.exec
  have hb := B.bytes
  have hr := B.returns
  have hts := atoms_spec (ws := wsX4_isSpan) B.pre
  have hown : s.vm.findClass RX4 = some m.cls := findClass_of_methodNamed B.named
  have hlocks := B.notSynchronized
  have C : Cx p s m _ meth c cX4_isSpan 3 (some .boolean) RX4 wsX4_isSpan := ⟨hx, hb, hml, hown, hts, hr, hlocks⟩
  have hl := lv_entry ([.int x0, .int x1, .int x2]) (n := 3) (Nat.le_of_ble_eq_true rfl)
  rw [lg_entry_eq]
  generalize (lg_sl ([.int x0, .int x1, .int x2]) ++ List.replicate (3 - (lg_sl ([.int x0, .int x1, .int x2])).length) Slot.unset).toArray = ls at hl ⊢
  have hl : lv_has ls 3 [(0, .int x0), (1, .int x1), (2, .int x2)] := hl
  unfold wX4_isSpan at h
  refine lv_iconst (v := (0 : Int32)) hx hb dX4_isSpan_0 (by decide) ?_
  refine lv_iload_n hx hb dX4_isSpan_1 rfl (lv_at hl 0 rfl) ?_
  refine lv_icmp_gt (tgt := 19) hx hb dX4_isSpan_2 (by decide) (fun c1 => ?_) (fun c1 => ?_)
  · have h := h.1 c1
    refine lv_iconst (v := (0 : Int32)) hx hb dX4_isSpan_19 (by decide) ?_
    exact W.zret (v := (0 : Int32)) hx hb hr rfl (fun t ht hW => ⟨_, rfl, h, ht⟩) (fun q hq => by cases hq) dX4_isSpan_20
  · have h := h.2 c1
    refine lv_iload_n hx hb dX4_isSpan_5 rfl (lv_at hl 0 rfl) ?_
    refine lv_iload_n hx hb dX4_isSpan_6 rfl (lv_at hl 1 rfl) ?_
    refine lv_icmp_gt (tgt := 19) hx hb dX4_isSpan_7 (by decide) (fun c2 => ?_) (fun c2 => ?_)
    · have h := h.1 c2
      refine lv_iconst (v := (0 : Int32)) hx hb dX4_isSpan_19 (by decide) ?_
      exact W.zret (v := (0 : Int32)) hx hb hr rfl (fun t ht hW => ⟨_, rfl, h, ht⟩) (fun q hq => by cases hq) dX4_isSpan_20
    · have h := h.2 c2
      refine lv_iload_n hx hb dX4_isSpan_10 rfl (lv_at hl 1 rfl) ?_
      refine lv_iload_n hx hb dX4_isSpan_11 rfl (lv_at hl 2 rfl) ?_
      refine lv_icmp_gt (tgt := 19) hx hb dX4_isSpan_12 (by decide) (fun c3 => ?_) (fun c3 => ?_)
      · have h := h.1 c3
        refine lv_iconst (v := (0 : Int32)) hx hb dX4_isSpan_19 (by decide) ?_
        exact W.zret (v := (0 : Int32)) hx hb hr rfl (fun t ht hW => ⟨_, rfl, h, ht⟩) (fun q hq => by cases hq) dX4_isSpan_20
      · have h := h.2 c3
        refine lv_iconst (v := (1 : Int32)) hx hb dX4_isSpan_15 (by decide) ?_
        refine lv_goto (tgt := 20) hx hb dX4_isSpan_16 (by decide) ?_
        exact W.zret (v := (1 : Int32)) hx hb hr rfl (fun t ht hW => ⟨_, rfl, h, ht⟩) (fun q hq => by cases hq) dX4_isSpan_20

def wX4_isIndex (x0 x1 : Int32) (post : Int32 → Prop) : Prop := ((x0 < (0 : Int32) → post (0 : Int32)) ∧ (¬ x0 < (0 : Int32) → ((x1 ≤ x0 → post (0 : Int32)) ∧ (¬ x1 ≤ x0 → post (1 : Int32)))))
set_option maxHeartbeats 4000000 in
set_option maxRecDepth 100000 in
theorem cTX4_isIndex (l : Launch) (x0 x1 : Int32) (post : Int32 → Prop) (h : wX4_isIndex x0 x1 post) : Met l yX4_isIndex wsX4_isIndex { frames := 0, cells := 0, slots := 0, locals := 0 } (va_Pc [.int x0, .int x1] (fun _ => True)) (vp_Si post) 0 0 (fun _ => False) := by
  refine Met.ofW (cc := cX4_isIndex) (maxL := 2) (ret := (some .boolean)) (by decide) rfl ?_
  intro p e s m args below meth c s₁ B hml hv
  obtain ⟨rfl, -⟩ := hv
  have hx := B.exec
  have hb := B.bytes
  have hr := B.returns
  have hts := atoms_spec (ws := wsX4_isIndex) B.pre
  have hown : s.vm.findClass RX4 = some m.cls := findClass_of_methodNamed B.named
  have hlocks := B.notSynchronized
  have C : Cx p s m _ meth c cX4_isIndex 2 (some .boolean) RX4 wsX4_isIndex := ⟨hx, hb, hml, hown, hts, hr, hlocks⟩
  have hl := lv_entry ([.int x0, .int x1]) (n := 2) (Nat.le_of_ble_eq_true rfl)
  rw [lg_entry_eq]
  generalize (lg_sl ([.int x0, .int x1]) ++ List.replicate (2 - (lg_sl ([.int x0, .int x1])).length) Slot.unset).toArray = ls at hl ⊢
  have hl : lv_has ls 2 [(0, .int x0), (1, .int x1)] := hl
  unfold wX4_isIndex at h
  refine lv_iconst (v := (0 : Int32)) hx hb dX4_isIndex_0 (by decide) ?_
  refine lv_iload_n hx hb dX4_isIndex_1 rfl (lv_at hl 0 rfl) ?_
  refine lv_icmp_gt (tgt := 14) hx hb dX4_isIndex_2 (by decide) (fun c1 => ?_) (fun c1 => ?_)
  · have h := h.1 c1
    refine lv_iconst (v := (0 : Int32)) hx hb dX4_isIndex_14 (by decide) ?_
    exact W.zret (v := (0 : Int32)) hx hb hr rfl (fun t ht hW => ⟨_, rfl, h, ht⟩) (fun q hq => by cases hq) dX4_isIndex_15
  · have h := h.2 c1
    refine lv_iload_n hx hb dX4_isIndex_5 rfl (lv_at hl 0 rfl) ?_
    refine lv_iload_n hx hb dX4_isIndex_6 rfl (lv_at hl 1 rfl) ?_
    refine lv_icmp_ge (tgt := 14) hx hb dX4_isIndex_7 (by decide) (fun c2 => ?_) (fun c2 => ?_)
    · have h := h.1 c2
      refine lv_iconst (v := (0 : Int32)) hx hb dX4_isIndex_14 (by decide) ?_
      exact W.zret (v := (0 : Int32)) hx hb hr rfl (fun t ht hW => ⟨_, rfl, h, ht⟩) (fun q hq => by cases hq) dX4_isIndex_15
    · have h := h.2 c2
      refine lv_iconst (v := (1 : Int32)) hx hb dX4_isIndex_10 (by decide) ?_
      refine lv_goto (tgt := 15) hx hb dX4_isIndex_11 (by decide) ?_
      exact W.zret (v := (1 : Int32)) hx hb hr rfl (fun t ht hW => ⟨_, rfl, h, ht⟩) (fun q hq => by cases hq) dX4_isIndex_15

def wX4_isDay (x0 : Int32) (post : Int32 → Prop) : Prop := wX4_isIndex x0 (1000 : Int32) (fun r1 => (narrow FieldType.boolean (.int r1) = .int r1 ∧ post r1))
set_option maxHeartbeats 4000000 in
set_option maxRecDepth 100000 in
theorem cTX4_isDay (l : Launch) (x0 : Int32) (post : Int32 → Prop) (h : wX4_isDay x0 post) : Met l yX4_isDay wsX4_isDay { frames := 1, cells := 0, slots := 0, locals := 21 } (va_Pc [.int x0] (fun _ => True)) (vp_Si post) 0 0 (fun _ => False) := by
  refine Met.ofW (cc := cX4_isDay) (maxL := 1) (ret := (some .boolean)) (by decide) rfl ?_
  intro p e s m args below meth c s₁ B hml hv
  obtain ⟨rfl, -⟩ := hv
  have hx := B.exec
  have hb := B.bytes
  have hr := B.returns
  have hts := atoms_spec (ws := wsX4_isDay) B.pre
  have hown : s.vm.findClass RX4 = some m.cls := findClass_of_methodNamed B.named
  have hlocks := B.notSynchronized
  have C : Cx p s m _ meth c cX4_isDay 1 (some .boolean) RX4 wsX4_isDay := ⟨hx, hb, hml, hown, hts, hr, hlocks⟩
  have hl := lv_entry ([.int x0]) (n := 1) (Nat.le_of_ble_eq_true rfl)
  rw [lg_entry_eq]
  generalize (lg_sl ([.int x0]) ++ List.replicate (1 - (lg_sl ([.int x0])).length) Slot.unset).toArray = ls at hl ⊢
  have hl : lv_has ls 1 [(0, .int x0)] := hl
  unfold wX4_isDay at h
  refine lv_iload_n hx hb dX4_isDay_0 rfl (lv_at hl 0 rfl) ?_
  refine lv_sipush (v := (1000 : Int32)) hx hb dX4_isDay_1 (by decide) ?_
  refine vp_callSi (cr_of (va_runS (As := [.int x0, .int (1000 : Int32)]) (rest := []) ⟨hx, hb, hml, hown, hts⟩ (cTX4_isIndex l x0 (1000 : Int32) _ h) (va_cwS 2 hts gX4_isDay_X4_isIndex rfl rfl rfl (by decide +kernel) ⟨Nat.le_of_ble_eq_true rfl, Nat.le_of_ble_eq_true rfl⟩) (pv_S _) rfl rfl hl.1 rfl (lv_room (Nat.le_of_ble_eq_true rfl)) dX4_isDay_4 ⟨Nat.le_of_ble_eq_true rfl, Nat.le_of_ble_eq_true rfl⟩)) (fun r1 h => ?_)
  obtain ⟨hnr, h⟩ := h
  exact W.zret (v := r1) hx hb hr hnr (fun t ht hW => ⟨_, rfl, h, ht⟩) (fun q hq => by cases hq) dX4_isDay_7

def wX4_isValueOf (x0 x1 : Int32) (post : Int32 → Prop) : Prop := ((x0 = (0 : Int32) → wX4_isWithin (0 : Int32) x1 (49 : Int32) (fun r2 => (narrow FieldType.boolean (.int r2) = .int r2 ∧ post r2))) ∧ (x0 = (1 : Int32) → wX4_isWithin (0 : Int32) x1 (9 : Int32) (fun r4 => (narrow FieldType.boolean (.int r4) = .int r4 ∧ post r4))) ∧ (x0 = (2 : Int32) → wX4_isWithin (1 : Int32) x1 (999 : Int32) (fun r6 => (narrow FieldType.boolean (.int r6) = .int r6 ∧ post r6))) ∧ (¬ x0 = (0 : Int32) → ¬ x0 = (1 : Int32) → ¬ x0 = (2 : Int32) → post (0 : Int32)))
set_option maxHeartbeats 4000000 in
set_option maxRecDepth 100000 in
theorem cTX4_isValueOf (l : Launch) (x0 x1 : Int32) (post : Int32 → Prop) (h : wX4_isValueOf x0 x1 post) : Met l yX4_isValueOf wsX4_isValueOf { frames := 1, cells := 0, slots := 0, locals := 22 } (va_Pc [.int x0, .int x1] (fun _ => True)) (vp_Si post) 0 0 (fun _ => False) := by
  refine Met.ofW (cc := cX4_isValueOf) (maxL := 2) (ret := (some .boolean)) (by decide) rfl ?_
  intro p e s m args below meth c s₁ B hml hv
  obtain ⟨rfl, -⟩ := hv
  have hx := B.exec
  have hb := B.bytes
  have hr := B.returns
  have hts := atoms_spec (ws := wsX4_isValueOf) B.pre
  have hown : s.vm.findClass RX4 = some m.cls := findClass_of_methodNamed B.named
  have hlocks := B.notSynchronized
  have C : Cx p s m _ meth c cX4_isValueOf 2 (some .boolean) RX4 wsX4_isValueOf := ⟨hx, hb, hml, hown, hts, hr, hlocks⟩
  have hl := lv_entry ([.int x0, .int x1]) (n := 2) (Nat.le_of_ble_eq_true rfl)
  rw [lg_entry_eq]
  generalize (lg_sl ([.int x0, .int x1]) ++ List.replicate (2 - (lg_sl ([.int x0, .int x1])).length) Slot.unset).toArray = ls at hl ⊢
  have hl : lv_has ls 2 [(0, .int x0), (1, .int x1)] := hl
  unfold wX4_isValueOf at h
  refine lv_iload_n hx hb dX4_isValueOf_0 rfl (lv_at hl 0 rfl) ?_
  by_cases c1 : x0 = (0 : Int32)
  · have h := h.1 c1
    refine lv_tableIn (tgt := 28) hx hb dX4_isValueOf_1 (by rw [c1]; decide) (by rw [c1]; decide) (by rw [c1]; rfl) (by decide) ?_
    refine lv_iconst (v := (0 : Int32)) hx hb dX4_isValueOf_28 (by decide) ?_
    refine lv_iload_n hx hb dX4_isValueOf_29 rfl (lv_at hl 1 rfl) ?_
    refine lv_bipush (v := (49 : Int32)) hx hb dX4_isValueOf_30 (by decide) ?_
    refine vp_callSi (cr_of (va_runS (As := [.int (0 : Int32), .int x1, .int (49 : Int32)]) (rest := []) ⟨hx, hb, hml, hown, hts⟩ (cTX4_isWithin l (0 : Int32) x1 (49 : Int32) _ h) (va_cwS 3 hts gX4_isValueOf_X4_isWithin rfl rfl rfl (by decide +kernel) ⟨Nat.le_of_ble_eq_true rfl, Nat.le_of_ble_eq_true rfl⟩) (pv_S _) rfl rfl hl.1 rfl (lv_room (Nat.le_of_ble_eq_true rfl)) dX4_isValueOf_32 ⟨Nat.le_of_ble_eq_true rfl, Nat.le_of_ble_eq_true rfl⟩)) (fun r2 h => ?_)
    obtain ⟨hnr, h⟩ := h
    exact W.zret (v := r2) hx hb hr hnr (fun t ht hW => ⟨_, rfl, h, ht⟩) (fun q hq => by cases hq) dX4_isValueOf_35
  have h := h.2
  by_cases c3 : x0 = (1 : Int32)
  · have h := h.1 c3
    refine lv_tableIn (tgt := 36) hx hb dX4_isValueOf_1 (by rw [c3]; decide) (by rw [c3]; decide) (by rw [c3]; rfl) (by decide) ?_
    refine lv_iconst (v := (0 : Int32)) hx hb dX4_isValueOf_36 (by decide) ?_
    refine lv_iload_n hx hb dX4_isValueOf_37 rfl (lv_at hl 1 rfl) ?_
    refine lv_bipush (v := (9 : Int32)) hx hb dX4_isValueOf_38 (by decide) ?_
    refine vp_callSi (cr_of (va_runS (As := [.int (0 : Int32), .int x1, .int (9 : Int32)]) (rest := []) ⟨hx, hb, hml, hown, hts⟩ (cTX4_isWithin l (0 : Int32) x1 (9 : Int32) _ h) (va_cwS 3 hts gX4_isValueOf_X4_isWithin rfl rfl rfl (by decide +kernel) ⟨Nat.le_of_ble_eq_true rfl, Nat.le_of_ble_eq_true rfl⟩) (pv_S _) rfl rfl hl.1 rfl (lv_room (Nat.le_of_ble_eq_true rfl)) dX4_isValueOf_40 ⟨Nat.le_of_ble_eq_true rfl, Nat.le_of_ble_eq_true rfl⟩)) (fun r4 h => ?_)
    obtain ⟨hnr, h⟩ := h
    exact W.zret (v := r4) hx hb hr hnr (fun t ht hW => ⟨_, rfl, h, ht⟩) (fun q hq => by cases hq) dX4_isValueOf_43
  have h := h.2
  by_cases c5 : x0 = (2 : Int32)
  · have h := h.1 c5
    refine lv_tableIn (tgt := 44) hx hb dX4_isValueOf_1 (by rw [c5]; decide) (by rw [c5]; decide) (by rw [c5]; rfl) (by decide) ?_
    refine lv_iconst (v := (1 : Int32)) hx hb dX4_isValueOf_44 (by decide) ?_
    refine lv_iload_n hx hb dX4_isValueOf_45 rfl (lv_at hl 1 rfl) ?_
    refine lv_sipush (v := (999 : Int32)) hx hb dX4_isValueOf_46 (by decide) ?_
    refine vp_callSi (cr_of (va_runS (As := [.int (1 : Int32), .int x1, .int (999 : Int32)]) (rest := []) ⟨hx, hb, hml, hown, hts⟩ (cTX4_isWithin l (1 : Int32) x1 (999 : Int32) _ h) (va_cwS 3 hts gX4_isValueOf_X4_isWithin rfl rfl rfl (by decide +kernel) ⟨Nat.le_of_ble_eq_true rfl, Nat.le_of_ble_eq_true rfl⟩) (pv_S _) rfl rfl hl.1 rfl (lv_room (Nat.le_of_ble_eq_true rfl)) dX4_isValueOf_49 ⟨Nat.le_of_ble_eq_true rfl, Nat.le_of_ble_eq_true rfl⟩)) (fun r6 h => ?_)
    obtain ⟨hnr, h⟩ := h
    exact W.zret (v := r6) hx hb hr hnr (fun t ht hW => ⟨_, rfl, h, ht⟩) (fun q hq => by cases hq) dX4_isValueOf_52
  have h := h.2
  have h := h c1 c3 c5
  have tc1 : ¬ x0.toInt = 0 := lv_neT c1 rfl
  have tc3 : ¬ x0.toInt = 1 := lv_neT c3 rfl
  have tc5 : ¬ x0.toInt = 2 := lv_neT c5 rfl
  refine lv_tableOut (tgt := 53) hx hb dX4_isValueOf_1 (by omega) (by decide) ?_
  refine lv_iconst (v := (0 : Int32)) hx hb dX4_isValueOf_53 (by decide) ?_
  exact W.zret (v := (0 : Int32)) hx hb hr rfl (fun t ht hW => ⟨_, rfl, h, ht⟩) (fun q hq => by cases hq) dX4_isValueOf_54

def wJ9_floorDiv_7cf53 (x0 x1 : Int32) (post : Int32 → Prop) : Prop := ¬ x1 = 0 ∧ ∀ v1 : Int32, v1 = (x0 / x1) → (((0 : Int32) ≤ (x0 ^^^ x1) → post v1) ∧ (¬ (0 : Int32) ≤ (x0 ^^^ x1) → (((v1 * x1) = x0 → post v1) ∧ (¬ (v1 * x1) = x0 → post (v1 - (1 : Int32))))))
set_option maxHeartbeats 4000000 in
set_option maxRecDepth 100000 in
theorem cTJ9_floorDiv_7cf53 (l : Launch) (x0 x1 : Int32) (post : Int32 → Prop) (h : wJ9_floorDiv_7cf53 x0 x1 post) : Met l yJ9_floorDiv_7cf53 wsJ9_floorDiv_7cf53 { frames := 0, cells := 0, slots := 0, locals := 0 } (va_Pc [.int x0, .int x1] (fun _ => True)) (vp_Si post) 0 0 (fun _ => False) := by
  refine va_MetF (cc := cJ9_floorDiv_7cf53) (maxL := 3) (ret := (some .int)) (by decide +kernel) rfl ?_
  intro p e s m args below meth c s₁ B hml hv
  obtain ⟨rfl, -⟩ := hv
  have hx := B.exec
  have hb := B.bytes
  have hr := B.returns
  have hts := atoms_spec (ws := wsJ9_floorDiv_7cf53) B.pre
  have hown : s.vm.findClass RJ9 = some m.cls := findClass_of_methodNamed B.named
  have hlocks := B.notSynchronized
  have C : Cx p s m _ meth c cJ9_floorDiv_7cf53 3 (some .int) RJ9 wsJ9_floorDiv_7cf53 := ⟨hx, hb, hml, hown, hts, hr, hlocks⟩
  have hl := lv_entry ([.int x0, .int x1]) (n := 3) (Nat.le_of_ble_eq_true rfl)
  rw [lg_entry_eq]
  generalize (lg_sl ([.int x0, .int x1]) ++ List.replicate (3 - (lg_sl ([.int x0, .int x1])).length) Slot.unset).toArray = ls at hl ⊢
  have hl : lv_has ls 3 [(0, .int x0), (1, .int x1)] := hl
  unfold wJ9_floorDiv_7cf53 at h
  refine lv_iload_n hx hb dJ9_floorDiv_7cf53_0 rfl (lv_at hl 0 rfl) ?_
  refine lv_iload_n hx hb dJ9_floorDiv_7cf53_1 rfl (lv_at hl 1 rfl) ?_
  obtain ⟨hz, h⟩ := h
  refine lv_idiv hx hb dJ9_floorDiv_7cf53_2 hz ?_
  refine lv_topi (fun v1 ev1 => ?_)
  have h := h v1 ev1
  refine lv_istore_n (lv' := [(2, .int v1), (0, .int x0), (1, .int x1)]) hx hb dJ9_floorDiv_7cf53_3 rfl hl (by decide) rfl (fun ls hl => ?_)
  refine lv_iload_n hx hb dJ9_floorDiv_7cf53_4 rfl (lv_at hl 1 rfl) ?_
  refine lv_iload_n hx hb dJ9_floorDiv_7cf53_5 rfl (lv_at hl 2 rfl) ?_
  refine lv_ixor hx hb dJ9_floorDiv_7cf53_6 ?_
  refine lv_if_ge (tgt := 21) hx hb dJ9_floorDiv_7cf53_7 (by decide) (fun c2 => ?_) (fun c2 => ?_)
  · have h := h.1 c2
    refine lv_iload_n hx hb dJ9_floorDiv_7cf53_21 rfl (lv_at hl 0 rfl) ?_
    exact W.iret (v := v1) hx hb hr (fun t ht hW => ⟨_, rfl, h, ht⟩) (fun q hq => by cases hq) dJ9_floorDiv_7cf53_22
  · have h := h.2 c2
    refine lv_iload_n hx hb dJ9_floorDiv_7cf53_10 rfl (lv_at hl 0 rfl) ?_
    refine lv_iload_n hx hb dJ9_floorDiv_7cf53_11 rfl (lv_at hl 2 rfl) ?_
    refine lv_imul hx hb dJ9_floorDiv_7cf53_12 ?_
    refine lv_iload_n hx hb dJ9_floorDiv_7cf53_13 rfl (lv_at hl 1 rfl) ?_
    refine lv_icmp_eq (tgt := 21) hx hb dJ9_floorDiv_7cf53_14 (by decide) (fun c3 => ?_) (fun c3 => ?_)
    · have h := h.1 c3
      refine lv_iload_n hx hb dJ9_floorDiv_7cf53_21 rfl (lv_at hl 0 rfl) ?_
      exact W.iret (v := v1) hx hb hr (fun t ht hW => ⟨_, rfl, h, ht⟩) (fun q hq => by cases hq) dJ9_floorDiv_7cf53_22
    · have h := h.2 c3
      refine lv_iload_n hx hb dJ9_floorDiv_7cf53_17 rfl (lv_at hl 0 rfl) ?_
      refine lv_iconst (v := (1 : Int32)) hx hb dJ9_floorDiv_7cf53_18 (by decide) ?_
      refine lv_isub hx hb dJ9_floorDiv_7cf53_19 ?_
      exact W.iret (v := (v1 - (1 : Int32))) hx hb hr (fun t ht hW => ⟨_, rfl, h, ht⟩) (fun q hq => by cases hq) dJ9_floorDiv_7cf53_20

def wX4_percentOf (x0 x1 : Int32) (post : Int32 → Prop) : Prop := wJ9_floorDiv_7cf53 (x0 * x1) (100 : Int32) (fun r1 => post r1)
set_option maxHeartbeats 4000000 in
set_option maxRecDepth 100000 in
theorem cTX4_percentOf (l : Launch) (x0 x1 : Int32) (post : Int32 → Prop) (h : wX4_percentOf x0 x1 post) : Met l yX4_percentOf wsX4_percentOf { frames := 1, cells := 0, slots := 0, locals := 22 } (va_Pc [.int x0, .int x1] (fun _ => True)) (vp_Si post) 0 0 (fun _ => False) := by
  refine Met.ofW (cc := cX4_percentOf) (maxL := 2) (ret := (some .int)) (by decide) rfl ?_
  intro p e s m args below meth c s₁ B hml hv
  obtain ⟨rfl, -⟩ := hv
  have hx := B.exec
  have hb := B.bytes
  have hr := B.returns
  have hts := atoms_spec (ws := wsX4_percentOf) B.pre
  have hown : s.vm.findClass RX4 = some m.cls := findClass_of_methodNamed B.named
  have hlocks := B.notSynchronized
  have C : Cx p s m _ meth c cX4_percentOf 2 (some .int) RX4 wsX4_percentOf := ⟨hx, hb, hml, hown, hts, hr, hlocks⟩
  have hl := lv_entry ([.int x0, .int x1]) (n := 2) (Nat.le_of_ble_eq_true rfl)
  rw [lg_entry_eq]
  generalize (lg_sl ([.int x0, .int x1]) ++ List.replicate (2 - (lg_sl ([.int x0, .int x1])).length) Slot.unset).toArray = ls at hl ⊢
  have hl : lv_has ls 2 [(0, .int x0), (1, .int x1)] := hl
  unfold wX4_percentOf at h
  refine lv_iload_n hx hb dX4_percentOf_0 rfl (lv_at hl 0 rfl) ?_
  refine lv_iload_n hx hb dX4_percentOf_1 rfl (lv_at hl 1 rfl) ?_
  refine lv_imul hx hb dX4_percentOf_2 ?_
  refine lv_bipush (v := (100 : Int32)) hx hb dX4_percentOf_3 (by decide) ?_
  refine vp_callSi (cr_of (va_runS (As := [.int (x0 * x1), .int (100 : Int32)]) (rest := []) ⟨hx, hb, hml, hown, hts⟩ (cTJ9_floorDiv_7cf53 l (x0 * x1) (100 : Int32) _ h) (va_cwS 2 hts gX4_percentOf_J9_floorDiv_7cf53 rfl rfl rfl (by decide +kernel) ⟨Nat.le_of_ble_eq_true rfl, Nat.le_of_ble_eq_true rfl⟩) (pv_S _) rfl rfl hl.1 rfl (lv_room (Nat.le_of_ble_eq_true rfl)) dX4_percentOf_5 ⟨Nat.le_of_ble_eq_true rfl, Nat.le_of_ble_eq_true rfl⟩)) (fun r1 h => ?_)
  exact W.iret (v := r1) hx hb hr (fun t ht hW => ⟨_, rfl, h, ht⟩) (fun q hq => by cases hq) dX4_percentOf_8

def wX5_outside (x0 x1 x2 : Int32) (post : Int32 → Prop) : Prop := ((x0 < x1 → post (1 : Int32)) ∧ (¬ x0 < x1 → ((x0 ≤ x2 → post (0 : Int32)) ∧ (¬ x0 ≤ x2 → post (1 : Int32)))))
set_option maxHeartbeats 4000000 in
set_option maxRecDepth 100000 in
theorem cTX5_outside (l : Launch) (x0 x1 x2 : Int32) (post : Int32 → Prop) (h : wX5_outside x0 x1 x2 post) : Met l yX5_outside wsX5_outside { frames := 0, cells := 0, slots := 0, locals := 0 } (va_Pc [.int x0, .int x1, .int x2] (fun _ => True)) (vp_Si post) 0 0 (fun _ => False) := by
  refine Met.ofW (cc := cX5_outside) (maxL := 3) (ret := (some .boolean)) (by decide) rfl ?_
  intro p e s m args below meth c s₁ B hml hv
  obtain ⟨rfl, -⟩ := hv
  have hx := B.exec
  have hb := B.bytes
  have hr := B.returns
  have hts := atoms_spec (ws := wsX5_outside) B.pre
  have hown : s.vm.findClass RX5 = some m.cls := findClass_of_methodNamed B.named
  have hlocks := B.notSynchronized
  have C : Cx p s m _ meth c cX5_outside 3 (some .boolean) RX5 wsX5_outside := ⟨hx, hb, hml, hown, hts, hr, hlocks⟩
  have hl := lv_entry ([.int x0, .int x1, .int x2]) (n := 3) (Nat.le_of_ble_eq_true rfl)
  rw [lg_entry_eq]
  generalize (lg_sl ([.int x0, .int x1, .int x2]) ++ List.replicate (3 - (lg_sl ([.int x0, .int x1, .int x2])).length) Slot.unset).toArray = ls at hl ⊢
  have hl : lv_has ls 3 [(0, .int x0), (1, .int x1), (2, .int x2)] := hl
  unfold wX5_outside at h
  refine lv_iload_n hx hb dX5_outside_0 rfl (lv_at hl 0 rfl) ?_
  refine lv_iload_n hx hb dX5_outside_1 rfl (lv_at hl 1 rfl) ?_
  refine lv_icmp_lt (tgt := 10) hx hb dX5_outside_2 (by decide) (fun c1 => ?_) (fun c1 => ?_)
  · have h := h.1 c1
    refine lv_iconst (v := (1 : Int32)) hx hb dX5_outside_10 (by decide) ?_
    refine lv_goto (tgt := 15) hx hb dX5_outside_11 (by decide) ?_
    exact W.zret (v := (1 : Int32)) hx hb hr rfl (fun t ht hW => ⟨_, rfl, h, ht⟩) (fun q hq => by cases hq) dX5_outside_15
  · have h := h.2 c1
    refine lv_iload_n hx hb dX5_outside_5 rfl (lv_at hl 0 rfl) ?_
    refine lv_iload_n hx hb dX5_outside_6 rfl (lv_at hl 2 rfl) ?_
    refine lv_icmp_le (tgt := 14) hx hb dX5_outside_7 (by decide) (fun c2 => ?_) (fun c2 => ?_)
    · have h := h.1 c2
      refine lv_iconst (v := (0 : Int32)) hx hb dX5_outside_14 (by decide) ?_
      exact W.zret (v := (0 : Int32)) hx hb hr rfl (fun t ht hW => ⟨_, rfl, h, ht⟩) (fun q hq => by cases hq) dX5_outside_15
    · have h := h.2 c2
      refine lv_iconst (v := (1 : Int32)) hx hb dX5_outside_10 (by decide) ?_
      refine lv_goto (tgt := 15) hx hb dX5_outside_11 (by decide) ?_
      exact W.zret (v := (1 : Int32)) hx hb hr rfl (fun t ht hW => ⟨_, rfl, h, ht⟩) (fun q hq => by cases hq) dX5_outside_15

def wX5_down (x0 x1 : Int32) (post : Int32 → Prop) : Prop := ¬ x1 = 0 ∧ ∀ v1 : Int32, v1 = (x0 / x1) → ¬ x1 = 0 ∧ (((0 : Int32) ≤ (x0 - x0 / x1 * x1) → post v1) ∧ (¬ (0 : Int32) ≤ (x0 - x0 / x1 * x1) → post (v1 - (1 : Int32))))
set_option maxHeartbeats 4000000 in
set_option maxRecDepth 100000 in
theorem cTX5_down (l : Launch) (x0 x1 : Int32) (post : Int32 → Prop) (h : wX5_down x0 x1 post) : Met l yX5_down wsX5_down { frames := 0, cells := 0, slots := 0, locals := 0 } (va_Pc [.int x0, .int x1] (fun _ => True)) (vp_Si post) 0 0 (fun _ => False) := by
  refine Met.ofW (cc := cX5_down) (maxL := 3) (ret := (some .int)) (by decide) rfl ?_
  intro p e s m args below meth c s₁ B hml hv
  obtain ⟨rfl, -⟩ := hv
  have hx := B.exec
  have hb := B.bytes
  have hr := B.returns
  have hts := atoms_spec (ws := wsX5_down) B.pre
  have hown : s.vm.findClass RX5 = some m.cls := findClass_of_methodNamed B.named
  have hlocks := B.notSynchronized
  have C : Cx p s m _ meth c cX5_down 3 (some .int) RX5 wsX5_down := ⟨hx, hb, hml, hown, hts, hr, hlocks⟩
  have hl := lv_entry ([.int x0, .int x1]) (n := 3) (Nat.le_of_ble_eq_true rfl)
  rw [lg_entry_eq]
  generalize (lg_sl ([.int x0, .int x1]) ++ List.replicate (3 - (lg_sl ([.int x0, .int x1])).length) Slot.unset).toArray = ls at hl ⊢
  have hl : lv_has ls 3 [(0, .int x0), (1, .int x1)] := hl
  unfold wX5_down at h
  refine lv_iload_n hx hb dX5_down_0 rfl (lv_at hl 0 rfl) ?_
  refine lv_iload_n hx hb dX5_down_1 rfl (lv_at hl 1 rfl) ?_
  obtain ⟨hz, h⟩ := h
  refine lv_idiv hx hb dX5_down_2 hz ?_
  refine lv_topi (fun v1 ev1 => ?_)
  have h := h v1 ev1
  refine lv_istore_n (lv' := [(2, .int v1), (0, .int x0), (1, .int x1)]) hx hb dX5_down_3 rfl hl (by decide) rfl (fun ls hl => ?_)
  refine lv_iload_n hx hb dX5_down_4 rfl (lv_at hl 1 rfl) ?_
  refine lv_iload_n hx hb dX5_down_5 rfl (lv_at hl 2 rfl) ?_
  obtain ⟨hz, h⟩ := h
  refine lv_irem hx hb dX5_down_6 hz ?_
  refine lv_if_ge (tgt := 16) hx hb dX5_down_7 (by decide) (fun c2 => ?_) (fun c2 => ?_)
  · have h := h.1 c2
    refine lv_iload_n hx hb dX5_down_16 rfl (lv_at hl 0 rfl) ?_
    exact W.iret (v := v1) hx hb hr (fun t ht hW => ⟨_, rfl, h, ht⟩) (fun q hq => by cases hq) dX5_down_17
  · have h := h.2 c2
    refine lv_iload_n hx hb dX5_down_10 rfl (lv_at hl 0 rfl) ?_
    refine lv_iconst (v := (1 : Int32)) hx hb dX5_down_11 (by decide) ?_
    refine lv_isub hx hb dX5_down_12 ?_
    refine lv_goto (tgt := 17) hx hb dX5_down_13 (by decide) ?_
    exact W.iret (v := (v1 - (1 : Int32))) hx hb hr (fun t ht hW => ⟨_, rfl, h, ht⟩) (fun q hq => by cases hq) dX5_down_17

def wX5_least (x0 x1 : Int32) (post : Int32 → Prop) : Prop := ((x1 ≤ x0 → post x1) ∧ (¬ x1 ≤ x0 → post x0))
set_option maxHeartbeats 4000000 in
set_option maxRecDepth 100000 in
theorem cTX5_least (l : Launch) (x0 x1 : Int32) (post : Int32 → Prop) (h : wX5_least x0 x1 post) : Met l yX5_least wsX5_least { frames := 0, cells := 0, slots := 0, locals := 0 } (va_Pc [.int x0, .int x1] (fun _ => True)) (vp_Si post) 0 0 (fun _ => False) := by
  refine Met.ofW (cc := cX5_least) (maxL := 2) (ret := (some .int)) (by decide) rfl ?_
  intro p e s m args below meth c s₁ B hml hv
  obtain ⟨rfl, -⟩ := hv
  have hx := B.exec
  have hb := B.bytes
  have hr := B.returns
  have hts := atoms_spec (ws := wsX5_least) B.pre
  have hown : s.vm.findClass RX5 = some m.cls := findClass_of_methodNamed B.named
  have hlocks := B.notSynchronized
  have C : Cx p s m _ meth c cX5_least 2 (some .int) RX5 wsX5_least := ⟨hx, hb, hml, hown, hts, hr, hlocks⟩
  have hl := lv_entry ([.int x0, .int x1]) (n := 2) (Nat.le_of_ble_eq_true rfl)
  rw [lg_entry_eq]
  generalize (lg_sl ([.int x0, .int x1]) ++ List.replicate (2 - (lg_sl ([.int x0, .int x1])).length) Slot.unset).toArray = ls at hl ⊢
  have hl : lv_has ls 2 [(0, .int x0), (1, .int x1)] := hl
  unfold wX5_least at h
  refine lv_iload_n hx hb dX5_least_0 rfl (lv_at hl 0 rfl) ?_
  refine lv_iload_n hx hb dX5_least_1 rfl (lv_at hl 1 rfl) ?_
  refine lv_icmp_ge (tgt := 9) hx hb dX5_least_2 (by decide) (fun c1 => ?_) (fun c1 => ?_)
  · have h := h.1 c1
    refine lv_iload_n hx hb dX5_least_9 rfl (lv_at hl 1 rfl) ?_
    exact W.iret (v := x1) hx hb hr (fun t ht hW => ⟨_, rfl, h, ht⟩) (fun q hq => by cases hq) dX5_least_10
  · have h := h.2 c1
    refine lv_iload_n hx hb dX5_least_5 rfl (lv_at hl 0 rfl) ?_
    refine lv_goto (tgt := 10) hx hb dX5_least_6 (by decide) ?_
    exact W.iret (v := x0) hx hb hr (fun t ht hW => ⟨_, rfl, h, ht⟩) (fun q hq => by cases hq) dX5_least_10

def wX5_isValue (x0 x1 : Int32) (post : Int32 → Prop) : Prop := ((¬ x0 = (0 : Int32) → ((¬ x0 = (1 : Int32) → wX5_outside x1 (1 : Int32) (999 : Int32) (fun r3 => ((¬ r3 = (0 : Int32) → post (0 : Int32)) ∧ (r3 = (0 : Int32) → post (1 : Int32))))) ∧ (x0 = (1 : Int32) → wX5_outside x1 (0 : Int32) (9 : Int32) (fun r5 => ((¬ r5 = (0 : Int32) → post (0 : Int32)) ∧ (r5 = (0 : Int32) → post (1 : Int32))))))) ∧ (x0 = (0 : Int32) → wX5_outside x1 (0 : Int32) (49 : Int32) (fun r7 => ((¬ r7 = (0 : Int32) → post (0 : Int32)) ∧ (r7 = (0 : Int32) → post (1 : Int32))))))
set_option maxHeartbeats 4000000 in
set_option maxRecDepth 100000 in
theorem cTX5_isValue (l : Launch) (x0 x1 : Int32) (post : Int32 → Prop) (h : wX5_isValue x0 x1 post) : Met l yX5_isValue wsX5_isValue { frames := 1, cells := 0, slots := 0, locals := 22 } (va_Pc [.int x0, .int x1] (fun _ => True)) (vp_Si post) 0 0 (fun _ => False) := by
  refine Met.ofW (cc := cX5_isValue) (maxL := 2) (ret := (some .boolean)) (by decide) rfl ?_
  intro p e s m args below meth c s₁ B hml hv
  obtain ⟨rfl, -⟩ := hv
  have hx := B.exec
  have hb := B.bytes
  have hr := B.returns
  have hts := atoms_spec (ws := wsX5_isValue) B.pre
  have hown : s.vm.findClass RX5 = some m.cls := findClass_of_methodNamed B.named
  have hlocks := B.notSynchronized
  have C : Cx p s m _ meth c cX5_isValue 2 (some .boolean) RX5 wsX5_isValue := ⟨hx, hb, hml, hown, hts, hr, hlocks⟩
  have hl := lv_entry ([.int x0, .int x1]) (n := 2) (Nat.le_of_ble_eq_true rfl)
  rw [lg_entry_eq]
  generalize (lg_sl ([.int x0, .int x1]) ++ List.replicate (2 - (lg_sl ([.int x0, .int x1])).length) Slot.unset).toArray = ls at hl ⊢
  have hl : lv_has ls 2 [(0, .int x0), (1, .int x1)] := hl
  unfold wX5_isValue at h
  refine lv_iload_n hx hb dX5_isValue_0 rfl (lv_at hl 0 rfl) ?_
  refine lv_if_ne (tgt := 22) hx hb dX5_isValue_1 (by decide) (fun c1 => ?_) (fun c1 => ?_)
  · have h := h.1 c1
    refine lv_iload_n hx hb dX5_isValue_22 rfl (lv_at hl 0 rfl) ?_
    refine lv_iconst (v := (1 : Int32)) hx hb dX5_isValue_23 (by decide) ?_
    refine lv_icmp_ne (tgt := 45) hx hb dX5_isValue_24 (by decide) (fun c2 => ?_) (fun c2 => ?_)
    · have h := h.1 c2
      refine lv_iload_n hx hb dX5_isValue_45 rfl (lv_at hl 1 rfl) ?_
      refine lv_iconst (v := (1 : Int32)) hx hb dX5_isValue_46 (by decide) ?_
      refine lv_sipush (v := (999 : Int32)) hx hb dX5_isValue_47 (by decide) ?_
      refine vp_callSi (cr_of (va_runS (As := [.int x1, .int (1 : Int32), .int (999 : Int32)]) (rest := []) ⟨hx, hb, hml, hown, hts⟩ (cTX5_outside l x1 (1 : Int32) (999 : Int32) _ h) (va_cwS 3 hts gX5_isValue_X5_outside rfl rfl rfl (by decide +kernel) ⟨Nat.le_of_ble_eq_true rfl, Nat.le_of_ble_eq_true rfl⟩) (pv_S _) rfl rfl hl.1 rfl (lv_room (Nat.le_of_ble_eq_true rfl)) dX5_isValue_50 ⟨Nat.le_of_ble_eq_true rfl, Nat.le_of_ble_eq_true rfl⟩)) (fun r3 h => ?_)
      refine lv_if_ne (tgt := 60) hx hb dX5_isValue_53 (by decide) (fun c4 => ?_) (fun c4 => ?_)
      · have h := h.1 c4
        refine lv_iconst (v := (0 : Int32)) hx hb dX5_isValue_60 (by decide) ?_
        exact W.zret (v := (0 : Int32)) hx hb hr rfl (fun t ht hW => ⟨_, rfl, h, ht⟩) (fun q hq => by cases hq) dX5_isValue_61
      · have h := h.2 c4
        refine lv_iconst (v := (1 : Int32)) hx hb dX5_isValue_56 (by decide) ?_
        refine lv_goto (tgt := 61) hx hb dX5_isValue_57 (by decide) ?_
        exact W.zret (v := (1 : Int32)) hx hb hr rfl (fun t ht hW => ⟨_, rfl, h, ht⟩) (fun q hq => by cases hq) dX5_isValue_61
    · have h := h.2 c2
      refine lv_iload_n hx hb dX5_isValue_27 rfl (lv_at hl 1 rfl) ?_
      refine lv_iconst (v := (0 : Int32)) hx hb dX5_isValue_28 (by decide) ?_
      refine lv_bipush (v := (9 : Int32)) hx hb dX5_isValue_29 (by decide) ?_
      refine vp_callSi (cr_of (va_runS (As := [.int x1, .int (0 : Int32), .int (9 : Int32)]) (rest := []) ⟨hx, hb, hml, hown, hts⟩ (cTX5_outside l x1 (0 : Int32) (9 : Int32) _ h) (va_cwS 3 hts gX5_isValue_X5_outside rfl rfl rfl (by decide +kernel) ⟨Nat.le_of_ble_eq_true rfl, Nat.le_of_ble_eq_true rfl⟩) (pv_S _) rfl rfl hl.1 rfl (lv_room (Nat.le_of_ble_eq_true rfl)) dX5_isValue_31 ⟨Nat.le_of_ble_eq_true rfl, Nat.le_of_ble_eq_true rfl⟩)) (fun r5 h => ?_)
      refine lv_if_ne (tgt := 41) hx hb dX5_isValue_34 (by decide) (fun c6 => ?_) (fun c6 => ?_)
      · have h := h.1 c6
        refine lv_iconst (v := (0 : Int32)) hx hb dX5_isValue_41 (by decide) ?_
        refine lv_goto (tgt := 61) hx hb dX5_isValue_42 (by decide) ?_
        exact W.zret (v := (0 : Int32)) hx hb hr rfl (fun t ht hW => ⟨_, rfl, h, ht⟩) (fun q hq => by cases hq) dX5_isValue_61
      · have h := h.2 c6
        refine lv_iconst (v := (1 : Int32)) hx hb dX5_isValue_37 (by decide) ?_
        refine lv_goto (tgt := 61) hx hb dX5_isValue_38 (by decide) ?_
        exact W.zret (v := (1 : Int32)) hx hb hr rfl (fun t ht hW => ⟨_, rfl, h, ht⟩) (fun q hq => by cases hq) dX5_isValue_61
  · have h := h.2 c1
    refine lv_iload_n hx hb dX5_isValue_4 rfl (lv_at hl 1 rfl) ?_
    refine lv_iconst (v := (0 : Int32)) hx hb dX5_isValue_5 (by decide) ?_
    refine lv_bipush (v := (49 : Int32)) hx hb dX5_isValue_6 (by decide) ?_
    refine vp_callSi (cr_of (va_runS (As := [.int x1, .int (0 : Int32), .int (49 : Int32)]) (rest := []) ⟨hx, hb, hml, hown, hts⟩ (cTX5_outside l x1 (0 : Int32) (49 : Int32) _ h) (va_cwS 3 hts gX5_isValue_X5_outside rfl rfl rfl (by decide +kernel) ⟨Nat.le_of_ble_eq_true rfl, Nat.le_of_ble_eq_true rfl⟩) (pv_S _) rfl rfl hl.1 rfl (lv_room (Nat.le_of_ble_eq_true rfl)) dX5_isValue_8 ⟨Nat.le_of_ble_eq_true rfl, Nat.le_of_ble_eq_true rfl⟩)) (fun r7 h => ?_)
    refine lv_if_ne (tgt := 18) hx hb dX5_isValue_11 (by decide) (fun c8 => ?_) (fun c8 => ?_)
    · have h := h.1 c8
      refine lv_iconst (v := (0 : Int32)) hx hb dX5_isValue_18 (by decide) ?_
      refine lv_goto (tgt := 61) hx hb dX5_isValue_19 (by decide) ?_
      exact W.zret (v := (0 : Int32)) hx hb hr rfl (fun t ht hW => ⟨_, rfl, h, ht⟩) (fun q hq => by cases hq) dX5_isValue_61
    · have h := h.2 c8
      refine lv_iconst (v := (1 : Int32)) hx hb dX5_isValue_14 (by decide) ?_
      refine lv_goto (tgt := 61) hx hb dX5_isValue_15 (by decide) ?_
      exact W.zret (v := (1 : Int32)) hx hb hr rfl (fun t ht hW => ⟨_, rfl, h, ht⟩) (fun q hq => by cases hq) dX5_isValue_61
