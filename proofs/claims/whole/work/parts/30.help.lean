theorem tw_cast {args : Array Value} {s : State} {E : String} (hT : TW s) (h : Cond.castable E E ∈ twL) : (Cond.castable E E).before args s = true := va_Nw.use rfl (hT _ h)
def wL_row (I : Nat → Int32) (F : Nat → Nat → Int32) (g : Nat → Int64) (x1 x2 x3 x4 x5 : Int32) (post : Int32 → (Nat → Int32) → (Nat → Nat → Int32) → (Nat → Int64) → Prop) : Prop := wX4_row I F x1 x2 x3 x4 x5 (fun r I1 F1 => post (0 : Int32) I1 F1 (vp_updL g 0 r.toInt64)) (fun E I1 F1 => (E = "java/lang/IllegalStateException" ∧ post (1 : Int32) I1 F1 g) ∨ (E = "java/lang/IllegalArgumentException" ∧ post (2 : Int32) I1 F1 g))
set_option maxHeartbeats 4000000 in
set_option maxRecDepth 100000 in
theorem cTL_row (l : Launch) (hst : l.stackTraces = false) (dC : Nat → ClassId) (dI : Nat → Nat → Nat) (cI cJ : ClassId) (ad : Nat → Nat) (ao : Nat) (I : Nat → Int32) (F : Nat → Nat → Int32) (g : Nat → Int64) (sz : Nat) (x1 x2 x3 x4 x5 : Int32) (post : Int32 → (Nat → Int32) → (Nat → Nat → Int32) → (Nat → Int64) → Prop) (h : wL_row I F g x1 x2 x3 x4 x5 post) : Met l yL_row wsL_row { frames := 7, cells := 1, slots := 6, locals := 114 } (va_Pc [.ref (ad 0), .int x1, .int x2, .int x3, .int x4, .int x5, .ref ao] (PH dC dI cI cJ ad ao I F g sz)) (QH dC dI cI cJ ad ao post (AH cI ad ao I F sz)) 1 6 (AH cI ad ao I F sz) := by
  refine va_MetW (cc := cL_row) (maxL := 8) (ret := (some .int)) (by decide) rfl ?_
  intro p e s m args below meth c s₁ B hml hv
  obtain ⟨rfl, hsz, hP, hO, hK2, hN, hD0, hap, hT, hC, hZ⟩ := hv
  subst hsz
  have hK : va_K (dC, dI) vwCl [(cI, .int)] s := hK2.sub [0] rfl
  have hx := B.exec
  have hb := B.bytes
  have hr := B.returns
  have hts := atoms_spec (ws := wsL_row) B.pre
  have htab := vx_table (x := yL_row) B (hts _ List.mem_cons_self)
  have hown : s.vm.findClass RL = some m.cls := findClass_of_methodNamed B.named
  have hlocks := B.notSynchronized
  have hD := wD_any (wC_fix cI ad) ((hD0.self (sz := s.heap.size)).weaken (B := AH cI ad ao I F s.heap.size) (fun _ _ _ h => Or.inl h))
  have hA : ∀ q : Nat, s.heap.size ≤ q → AH cI ad ao I F s.heap.size q := fun q h => Or.inl (Or.inr h)
  have hAo : AH cI ad ao I F s.heap.size ao := Or.inr rfl
  generalize AH cI ad ao I F s.heap.size = A at hD hA hAo hZ ⊢
  have hS : va_S A s.heap s.heap [] := va_S.rf
  have hl := lv_entry ([.ref (ad 0), .int x1, .int x2, .int x3, .int x4, .int x5, .ref ao]) (n := 8) (Nat.le_of_ble_eq_true rfl)
  rw [lg_entry_eq]
  generalize (lg_sl ([.ref (ad 0), .int x1, .int x2, .int x3, .int x4, .int x5, .ref ao]) ++ List.replicate (8 - (lg_sl ([.ref (ad 0), .int x1, .int x2, .int x3, .int x4, .int x5, .ref ao])).length) Slot.unset).toArray = ls at hl ⊢
  have hl : lv_has ls 8 [(0, .ref (ad 0)), (1, .int x1), (2, .int x2), (3, .int x3), (4, .int x4), (5, .int x5), (6, .ref ao)] := hl
  unfold wL_row at h
  refine lv_aload hx hb dL_row_0 (lv_at hl 6 rfl) ?_
  refine lv_iconst (v := (0 : Int32)) hx hb dL_row_2 (by decide) ?_
  refine lv_aload_n hx hb dL_row_3 rfl (lv_at hl 0 rfl) ?_
  refine lv_iload_n hx hb dL_row_4 rfl (lv_at hl 1 rfl) ?_
  refine lv_iload_n hx hb dL_row_5 rfl (lv_at hl 2 rfl) ?_
  refine lv_iload_n hx hb dL_row_6 rfl (lv_at hl 3 rfl) ?_
  refine lv_iload hx hb dL_row_7 (lv_at hl 4 rfl) ?_
  refine lv_iload hx hb dL_row_9 (lv_at hl 5 rfl) ?_
  refine hcall_i (wf := wC cI ad) (vx_runV (As := [.int x1, .int x2, .int x3, .int x4, .int x5]) (rest := [.int (0 : Int32), .ref ao]) ⟨hx, hb, hml, hown, hts⟩ (cTX4_row l hst dC dI cI ad I F s.heap.size x1 x2 x3 x4 x5 _ _ h) (cwV 5 hts gL_row_X4_row rfl rfl rfl (by decide +kernel) ⟨(Nat.le_of_ble_eq_true rfl), (Nat.le_of_ble_eq_true rfl)⟩) (pv_T hP hK hN hT hZ hS hD hA 0 4 rfl rfl _) rfl rfl hl.1 rfl (lv_room (Nat.le_of_ble_eq_true rfl)) dL_row_11 ⟨(Nat.le_of_ble_eq_true rfl), (Nat.le_of_ble_eq_true rfl)⟩) hD hS hA hO hap (fun E ce q9 I1 F1 h H locs hP hO hS hc9 hv9 hcl9 => ?_) (fun r I1 F1 h H locs hP hO hS => ?_)
  · rcases h with ⟨rfl, h⟩ | ⟨rfl, h⟩
    · refine vx_catch (own := RL) (name := "java/lang/IllegalStateException") hown [] ⟨0, 16, 19, 13⟩ [⟨0, 16, 23, 15⟩] htab (fun z hz => by cases hz) (by decide) (by decide) (hts (.classLink RL 13 "java/lang/IllegalStateException") (by decide +kernel)) (tw_cast hT (by decide +kernel)) hc9 hv9 hcl9 ?_
      refine lv_astore (lv' := [(7, .ref q9), (0, .ref (ad 0)), (1, .int x1), (2, .int x2), (3, .int x3), (4, .int x4), (5, .int x5), (6, .ref ao)]) hx hb dL_row_19 hl (by decide) rfl (fun ls hl => ?_)
      refine lv_iconst (v := (1 : Int32)) hx hb dL_row_21 (by decide) ?_
      exact W.iret (v := (1 : Int32)) hx hb hr (fun t ht hW => ⟨⟨(1 : Int32), ((I1, F1), g), rfl, h, by show va_P _ _ _ t.heap; rw [ht]; exact hP, by show va_P _ _ _ t.heap; rw [ht]; exact hO⟩, hS.F ht⟩) hS.2.2 dL_row_22
    · refine vx_catch (own := RL) (name := "java/lang/IllegalArgumentException") hown [⟨0, 16, 19, 13⟩] ⟨0, 16, 23, 15⟩ [] htab (fun z hz => by rcases List.mem_singleton.mp hz with rfl; exact Or.inr ⟨by decide, "java/lang/IllegalStateException", hts (.classLink RL 13 "java/lang/IllegalStateException") (by decide +kernel), hC ("java/lang/IllegalArgumentException", "java/lang/IllegalStateException") (by decide +kernel)⟩) (by decide) (by decide) (hts (.classLink RL 15 "java/lang/IllegalArgumentException") (by decide +kernel)) (tw_cast hT (by decide +kernel)) hc9 hv9 hcl9 ?_
      refine lv_astore (lv' := [(7, .ref q9), (0, .ref (ad 0)), (1, .int x1), (2, .int x2), (3, .int x3), (4, .int x4), (5, .int x5), (6, .ref ao)]) hx hb dL_row_23 hl (by decide) rfl (fun ls hl => ?_)
      refine lv_iconst (v := (2 : Int32)) hx hb dL_row_25 (by decide) ?_
      exact W.iret (v := (2 : Int32)) hx hb hr (fun t ht hW => ⟨⟨(2 : Int32), ((I1, F1), g), rfl, h, by show va_P _ _ _ t.heap; rw [ht]; exact hP, by show va_P _ _ _ t.heap; rw [ht]; exact hO⟩, hS.F ht⟩) hS.2.2 dL_row_26
  · refine lv_i2l (v := r.toInt64) hx hb dL_row_14 rfl ?_
    refine last_h hx hb hK2 hP hO (hD _ _) hAo (hap.any (wC_fix cI ad) _ _) hS dL_row_15 (fun H locs hP hO hS => ?_)
    refine lv_goto (tgt := 27) hx hb dL_row_16 (by decide) ?_
    refine lv_iconst (v := (0 : Int32)) hx hb dL_row_27 (by decide) ?_
    exact W.iret (v := (0 : Int32)) hx hb hr (fun t ht hW => ⟨⟨(0 : Int32), ((I1, F1), vp_updL g 0 r.toInt64), rfl, h, by show va_P _ _ _ t.heap; rw [ht]; exact hP, by show va_P _ _ _ t.heap; rw [ht]; exact hO⟩, hS.F ht⟩) hS.2.2 dL_row_28
def wL_undo (I : Nat → Int32) (F : Nat → Nat → Int32) (g : Nat → Int64) (post : Int32 → (Nat → Int32) → (Nat → Nat → Int32) → (Nat → Int64) → Prop) : Prop := wX4_undo I F (fun I1 F1 => post (0 : Int32) I1 F1 g) (fun E I1 F1 => (E = "java/lang/IllegalStateException" ∧ post (1 : Int32) I1 F1 g))
set_option maxHeartbeats 4000000 in
set_option maxRecDepth 100000 in
theorem cTL_undo (l : Launch) (hst : l.stackTraces = false) (dC : Nat → ClassId) (dI : Nat → Nat → Nat) (cI cJ : ClassId) (ad : Nat → Nat) (ao : Nat) (I : Nat → Int32) (F : Nat → Nat → Int32) (g : Nat → Int64) (sz : Nat) (post : Int32 → (Nat → Int32) → (Nat → Nat → Int32) → (Nat → Int64) → Prop) (h : wL_undo I F g post) : Met l yL_undo wsL_undo { frames := 7, cells := 1, slots := 6, locals := 109 } (va_Pc [.ref (ad 0)] (PH dC dI cI cJ ad ao I F g sz)) (QH dC dI cI cJ ad ao post (AH cI ad ao I F sz)) 1 6 (AH cI ad ao I F sz) := by
  refine va_MetW (cc := cL_undo) (maxL := 2) (ret := (some .int)) (by decide) rfl ?_
  intro p e s m args below meth c s₁ B hml hv
  obtain ⟨rfl, hsz, hP, hO, hK2, hN, hD0, hap, hT, hC, hZ⟩ := hv
  subst hsz
  have hK : va_K (dC, dI) vwCl [(cI, .int)] s := hK2.sub [0] rfl
  have hx := B.exec
  have hb := B.bytes
  have hr := B.returns
  have hts := atoms_spec (ws := wsL_undo) B.pre
  have htab := vx_table (x := yL_undo) B (hts _ List.mem_cons_self)
  have hown : s.vm.findClass RL = some m.cls := findClass_of_methodNamed B.named
  have hlocks := B.notSynchronized
  have hD := wD_any (wC_fix cI ad) ((hD0.self (sz := s.heap.size)).weaken (B := AH cI ad ao I F s.heap.size) (fun _ _ _ h => Or.inl h))
  have hA : ∀ q : Nat, s.heap.size ≤ q → AH cI ad ao I F s.heap.size q := fun q h => Or.inl (Or.inr h)
  have hAo : AH cI ad ao I F s.heap.size ao := Or.inr rfl
  generalize AH cI ad ao I F s.heap.size = A at hD hA hAo hZ ⊢
  have hS : va_S A s.heap s.heap [] := va_S.rf
  have hl := lv_entry ([.ref (ad 0)]) (n := 2) (Nat.le_of_ble_eq_true rfl)
  rw [lg_entry_eq]
  generalize (lg_sl ([.ref (ad 0)]) ++ List.replicate (2 - (lg_sl ([.ref (ad 0)])).length) Slot.unset).toArray = ls at hl ⊢
  have hl : lv_has ls 2 [(0, .ref (ad 0))] := hl
  unfold wL_undo at h
  refine lv_aload_n hx hb dL_undo_0 rfl (lv_at hl 0 rfl) ?_
  refine hcall_v (wf := wC cI ad) (vx_runV (As := []) (rest := []) ⟨hx, hb, hml, hown, hts⟩ (cTX4_undo l hst dC dI cI ad I F s.heap.size _ _ h) (cwV 0 hts gL_undo_X4_undo rfl rfl rfl (by decide +kernel) ⟨(Nat.le_of_ble_eq_true rfl), (Nat.le_of_ble_eq_true rfl)⟩) (pv_T hP hK hN hT hZ hS hD hA 0 4 rfl rfl _) rfl rfl hl.1 rfl (lv_room (Nat.le_of_ble_eq_true rfl)) dL_undo_1 ⟨(Nat.le_of_ble_eq_true rfl), (Nat.le_of_ble_eq_true rfl)⟩) hD hS hA hO hap (fun E ce q9 I1 F1 h H locs hP hO hS hc9 hv9 hcl9 => ?_) (fun I1 F1 h H locs hP hO hS => ?_)
  · rcases h with ⟨rfl, h⟩
    · refine vx_catch (own := RL) (name := "java/lang/IllegalStateException") hown [] ⟨0, 4, 7, 13⟩ [] htab (fun z hz => by cases hz) (by decide) (by decide) (hts (.classLink RL 13 "java/lang/IllegalStateException") (by decide +kernel)) (tw_cast hT (by decide +kernel)) hc9 hv9 hcl9 ?_
      refine lv_astore_n (lv' := [(1, .ref q9), (0, .ref (ad 0))]) hx hb dL_undo_7 rfl hl (by decide) rfl (fun ls hl => ?_)
      refine lv_iconst (v := (1 : Int32)) hx hb dL_undo_8 (by decide) ?_
      exact W.iret (v := (1 : Int32)) hx hb hr (fun t ht hW => ⟨⟨(1 : Int32), ((I1, F1), g), rfl, h, by show va_P _ _ _ t.heap; rw [ht]; exact hP, by show va_P _ _ _ t.heap; rw [ht]; exact hO⟩, hS.F ht⟩) hS.2.2 dL_undo_9
  · refine lv_goto (tgt := 10) hx hb dL_undo_4 (by decide) ?_
    refine lv_iconst (v := (0 : Int32)) hx hb dL_undo_10 (by decide) ?_
    exact W.iret (v := (0 : Int32)) hx hb hr (fun t ht hW => ⟨⟨(0 : Int32), ((I1, F1), g), rfl, h, by show va_P _ _ _ t.heap; rw [ht]; exact hP, by show va_P _ _ _ t.heap; rw [ht]; exact hO⟩, hS.F ht⟩) hS.2.2 dL_undo_11
def wL_quota (I : Nat → Int32) (F : Nat → Nat → Int32) (g : Nat → Int64) (x1 : Int32) (post : Int32 → (Nat → Int32) → (Nat → Nat → Int32) → (Nat → Int64) → Prop) : Prop := wX4_quota I F x1 (fun I1 F1 => post (0 : Int32) I1 F1 g) (fun E I1 F1 => (E = "java/lang/IllegalStateException" ∧ post (1 : Int32) I1 F1 g) ∨ (E = "java/lang/IllegalArgumentException" ∧ post (2 : Int32) I1 F1 g))
set_option maxHeartbeats 4000000 in
set_option maxRecDepth 100000 in
theorem cTL_quota (l : Launch) (hst : l.stackTraces = false) (dC : Nat → ClassId) (dI : Nat → Nat → Nat) (cI cJ : ClassId) (ad : Nat → Nat) (ao : Nat) (I : Nat → Int32) (F : Nat → Nat → Int32) (g : Nat → Int64) (sz : Nat) (x1 : Int32) (post : Int32 → (Nat → Int32) → (Nat → Nat → Int32) → (Nat → Int64) → Prop) (h : wL_quota I F g x1 post) : Met l yL_quota wsL_quota { frames := 7, cells := 1, slots := 6, locals := 110 } (va_Pc [.ref (ad 0), .int x1] (PH dC dI cI cJ ad ao I F g sz)) (QH dC dI cI cJ ad ao post (AH cI ad ao I F sz)) 1 6 (AH cI ad ao I F sz) := by
  refine va_MetW (cc := cL_quota) (maxL := 3) (ret := (some .int)) (by decide) rfl ?_
  intro p e s m args below meth c s₁ B hml hv
  obtain ⟨rfl, hsz, hP, hO, hK2, hN, hD0, hap, hT, hC, hZ⟩ := hv
  subst hsz
  have hK : va_K (dC, dI) vwCl [(cI, .int)] s := hK2.sub [0] rfl
  have hx := B.exec
  have hb := B.bytes
  have hr := B.returns
  have hts := atoms_spec (ws := wsL_quota) B.pre
  have htab := vx_table (x := yL_quota) B (hts _ List.mem_cons_self)
  have hown : s.vm.findClass RL = some m.cls := findClass_of_methodNamed B.named
  have hlocks := B.notSynchronized
  have hD := wD_any (wC_fix cI ad) ((hD0.self (sz := s.heap.size)).weaken (B := AH cI ad ao I F s.heap.size) (fun _ _ _ h => Or.inl h))
  have hA : ∀ q : Nat, s.heap.size ≤ q → AH cI ad ao I F s.heap.size q := fun q h => Or.inl (Or.inr h)
  have hAo : AH cI ad ao I F s.heap.size ao := Or.inr rfl
  generalize AH cI ad ao I F s.heap.size = A at hD hA hAo hZ ⊢
  have hS : va_S A s.heap s.heap [] := va_S.rf
  have hl := lv_entry ([.ref (ad 0), .int x1]) (n := 3) (Nat.le_of_ble_eq_true rfl)
  rw [lg_entry_eq]
  generalize (lg_sl ([.ref (ad 0), .int x1]) ++ List.replicate (3 - (lg_sl ([.ref (ad 0), .int x1])).length) Slot.unset).toArray = ls at hl ⊢
  have hl : lv_has ls 3 [(0, .ref (ad 0)), (1, .int x1)] := hl
  unfold wL_quota at h
  refine lv_aload_n hx hb dL_quota_0 rfl (lv_at hl 0 rfl) ?_
  refine lv_iload_n hx hb dL_quota_1 rfl (lv_at hl 1 rfl) ?_
  refine hcall_v (wf := wC cI ad) (vx_runV (As := [.int x1]) (rest := []) ⟨hx, hb, hml, hown, hts⟩ (cTX4_quota l hst dC dI cI ad I F s.heap.size x1 _ _ h) (cwV 1 hts gL_quota_X4_quota rfl rfl rfl (by decide +kernel) ⟨(Nat.le_of_ble_eq_true rfl), (Nat.le_of_ble_eq_true rfl)⟩) (pv_T hP hK hN hT hZ hS hD hA 0 4 rfl rfl _) rfl rfl hl.1 rfl (lv_room (Nat.le_of_ble_eq_true rfl)) dL_quota_2 ⟨(Nat.le_of_ble_eq_true rfl), (Nat.le_of_ble_eq_true rfl)⟩) hD hS hA hO hap (fun E ce q9 I1 F1 h H locs hP hO hS hc9 hv9 hcl9 => ?_) (fun I1 F1 h H locs hP hO hS => ?_)
  · rcases h with ⟨rfl, h⟩ | ⟨rfl, h⟩
    · refine vx_catch (own := RL) (name := "java/lang/IllegalStateException") hown [] ⟨0, 5, 8, 13⟩ [⟨0, 5, 11, 15⟩] htab (fun z hz => by cases hz) (by decide) (by decide) (hts (.classLink RL 13 "java/lang/IllegalStateException") (by decide +kernel)) (tw_cast hT (by decide +kernel)) hc9 hv9 hcl9 ?_
      refine lv_astore_n (lv' := [(2, .ref q9), (0, .ref (ad 0)), (1, .int x1)]) hx hb dL_quota_8 rfl hl (by decide) rfl (fun ls hl => ?_)
      refine lv_iconst (v := (1 : Int32)) hx hb dL_quota_9 (by decide) ?_
      exact W.iret (v := (1 : Int32)) hx hb hr (fun t ht hW => ⟨⟨(1 : Int32), ((I1, F1), g), rfl, h, by show va_P _ _ _ t.heap; rw [ht]; exact hP, by show va_P _ _ _ t.heap; rw [ht]; exact hO⟩, hS.F ht⟩) hS.2.2 dL_quota_10
    · refine vx_catch (own := RL) (name := "java/lang/IllegalArgumentException") hown [⟨0, 5, 8, 13⟩] ⟨0, 5, 11, 15⟩ [] htab (fun z hz => by rcases List.mem_singleton.mp hz with rfl; exact Or.inr ⟨by decide, "java/lang/IllegalStateException", hts (.classLink RL 13 "java/lang/IllegalStateException") (by decide +kernel), hC ("java/lang/IllegalArgumentException", "java/lang/IllegalStateException") (by decide +kernel)⟩) (by decide) (by decide) (hts (.classLink RL 15 "java/lang/IllegalArgumentException") (by decide +kernel)) (tw_cast hT (by decide +kernel)) hc9 hv9 hcl9 ?_
      refine lv_astore_n (lv' := [(2, .ref q9), (0, .ref (ad 0)), (1, .int x1)]) hx hb dL_quota_11 rfl hl (by decide) rfl (fun ls hl => ?_)
      refine lv_iconst (v := (2 : Int32)) hx hb dL_quota_12 (by decide) ?_
      exact W.iret (v := (2 : Int32)) hx hb hr (fun t ht hW => ⟨⟨(2 : Int32), ((I1, F1), g), rfl, h, by show va_P _ _ _ t.heap; rw [ht]; exact hP, by show va_P _ _ _ t.heap; rw [ht]; exact hO⟩, hS.F ht⟩) hS.2.2 dL_quota_13
  · refine lv_goto (tgt := 14) hx hb dL_quota_5 (by decide) ?_
    refine lv_iconst (v := (0 : Int32)) hx hb dL_quota_14 (by decide) ?_
    exact W.iret (v := (0 : Int32)) hx hb hr (fun t ht hW => ⟨⟨(0 : Int32), ((I1, F1), g), rfl, h, by show va_P _ _ _ t.heap; rw [ht]; exact hP, by show va_P _ _ _ t.heap; rw [ht]; exact hO⟩, hS.F ht⟩) hS.2.2 dL_quota_15
def wL_terms (I : Nat → Int32) (F : Nat → Nat → Int32) (g : Nat → Int64) (x1 x2 x3 : Int32) (post : Int32 → (Nat → Int32) → (Nat → Nat → Int32) → (Nat → Int64) → Prop) : Prop := wX4_terms I F x1 x2 x3 (fun I1 F1 => post (0 : Int32) I1 F1 g) (fun E I1 F1 => (E = "java/lang/IllegalStateException" ∧ post (1 : Int32) I1 F1 g) ∨ (E = "java/lang/IllegalArgumentException" ∧ post (2 : Int32) I1 F1 g))
set_option maxHeartbeats 4000000 in
set_option maxRecDepth 100000 in
theorem cTL_terms (l : Launch) (hst : l.stackTraces = false) (dC : Nat → ClassId) (dI : Nat → Nat → Nat) (cI cJ : ClassId) (ad : Nat → Nat) (ao : Nat) (I : Nat → Int32) (F : Nat → Nat → Int32) (g : Nat → Int64) (sz : Nat) (x1 x2 x3 : Int32) (post : Int32 → (Nat → Int32) → (Nat → Nat → Int32) → (Nat → Int64) → Prop) (h : wL_terms I F g x1 x2 x3 post) : Met l yL_terms wsL_terms { frames := 7, cells := 1, slots := 6, locals := 112 } (va_Pc [.ref (ad 0), .int x1, .int x2, .int x3] (PH dC dI cI cJ ad ao I F g sz)) (QH dC dI cI cJ ad ao post (AH cI ad ao I F sz)) 1 6 (AH cI ad ao I F sz) := by
  refine va_MetW (cc := cL_terms) (maxL := 5) (ret := (some .int)) (by decide) rfl ?_
  intro p e s m args below meth c s₁ B hml hv
  obtain ⟨rfl, hsz, hP, hO, hK2, hN, hD0, hap, hT, hC, hZ⟩ := hv
  subst hsz
  have hK : va_K (dC, dI) vwCl [(cI, .int)] s := hK2.sub [0] rfl
  have hx := B.exec
  have hb := B.bytes
  have hr := B.returns
  have hts := atoms_spec (ws := wsL_terms) B.pre
  have htab := vx_table (x := yL_terms) B (hts _ List.mem_cons_self)
  have hown : s.vm.findClass RL = some m.cls := findClass_of_methodNamed B.named
  have hlocks := B.notSynchronized
  have hD := wD_any (wC_fix cI ad) ((hD0.self (sz := s.heap.size)).weaken (B := AH cI ad ao I F s.heap.size) (fun _ _ _ h => Or.inl h))
  have hA : ∀ q : Nat, s.heap.size ≤ q → AH cI ad ao I F s.heap.size q := fun q h => Or.inl (Or.inr h)
  have hAo : AH cI ad ao I F s.heap.size ao := Or.inr rfl
  generalize AH cI ad ao I F s.heap.size = A at hD hA hAo hZ ⊢
  have hS : va_S A s.heap s.heap [] := va_S.rf
  have hl := lv_entry ([.ref (ad 0), .int x1, .int x2, .int x3]) (n := 5) (Nat.le_of_ble_eq_true rfl)
  rw [lg_entry_eq]
  generalize (lg_sl ([.ref (ad 0), .int x1, .int x2, .int x3]) ++ List.replicate (5 - (lg_sl ([.ref (ad 0), .int x1, .int x2, .int x3])).length) Slot.unset).toArray = ls at hl ⊢
  have hl : lv_has ls 5 [(0, .ref (ad 0)), (1, .int x1), (2, .int x2), (3, .int x3)] := hl
  unfold wL_terms at h
  refine lv_aload_n hx hb dL_terms_0 rfl (lv_at hl 0 rfl) ?_
  refine lv_iload_n hx hb dL_terms_1 rfl (lv_at hl 1 rfl) ?_
  refine lv_iload_n hx hb dL_terms_2 rfl (lv_at hl 2 rfl) ?_
  refine lv_iload_n hx hb dL_terms_3 rfl (lv_at hl 3 rfl) ?_
  refine hcall_v (wf := wC cI ad) (vx_runV (As := [.int x1, .int x2, .int x3]) (rest := []) ⟨hx, hb, hml, hown, hts⟩ (cTX4_terms l hst dC dI cI ad I F s.heap.size x1 x2 x3 _ _ h) (cwV 3 hts gL_terms_X4_terms rfl rfl rfl (by decide +kernel) ⟨(Nat.le_of_ble_eq_true rfl), (Nat.le_of_ble_eq_true rfl)⟩) (pv_T hP hK hN hT hZ hS hD hA 0 4 rfl rfl _) rfl rfl hl.1 rfl (lv_room (Nat.le_of_ble_eq_true rfl)) dL_terms_4 ⟨(Nat.le_of_ble_eq_true rfl), (Nat.le_of_ble_eq_true rfl)⟩) hD hS hA hO hap (fun E ce q9 I1 F1 h H locs hP hO hS hc9 hv9 hcl9 => ?_) (fun I1 F1 h H locs hP hO hS => ?_)
  · rcases h with ⟨rfl, h⟩ | ⟨rfl, h⟩
    · refine vx_catch (own := RL) (name := "java/lang/IllegalStateException") hown [] ⟨0, 7, 10, 13⟩ [⟨0, 7, 14, 15⟩] htab (fun z hz => by cases hz) (by decide) (by decide) (hts (.classLink RL 13 "java/lang/IllegalStateException") (by decide +kernel)) (tw_cast hT (by decide +kernel)) hc9 hv9 hcl9 ?_
      refine lv_astore (lv' := [(4, .ref q9), (0, .ref (ad 0)), (1, .int x1), (2, .int x2), (3, .int x3)]) hx hb dL_terms_10 hl (by decide) rfl (fun ls hl => ?_)
      refine lv_iconst (v := (1 : Int32)) hx hb dL_terms_12 (by decide) ?_
      exact W.iret (v := (1 : Int32)) hx hb hr (fun t ht hW => ⟨⟨(1 : Int32), ((I1, F1), g), rfl, h, by show va_P _ _ _ t.heap; rw [ht]; exact hP, by show va_P _ _ _ t.heap; rw [ht]; exact hO⟩, hS.F ht⟩) hS.2.2 dL_terms_13
    · refine vx_catch (own := RL) (name := "java/lang/IllegalArgumentException") hown [⟨0, 7, 10, 13⟩] ⟨0, 7, 14, 15⟩ [] htab (fun z hz => by rcases List.mem_singleton.mp hz with rfl; exact Or.inr ⟨by decide, "java/lang/IllegalStateException", hts (.classLink RL 13 "java/lang/IllegalStateException") (by decide +kernel), hC ("java/lang/IllegalArgumentException", "java/lang/IllegalStateException") (by decide +kernel)⟩) (by decide) (by decide) (hts (.classLink RL 15 "java/lang/IllegalArgumentException") (by decide +kernel)) (tw_cast hT (by decide +kernel)) hc9 hv9 hcl9 ?_
      refine lv_astore (lv' := [(4, .ref q9), (0, .ref (ad 0)), (1, .int x1), (2, .int x2), (3, .int x3)]) hx hb dL_terms_14 hl (by decide) rfl (fun ls hl => ?_)
      refine lv_iconst (v := (2 : Int32)) hx hb dL_terms_16 (by decide) ?_
      exact W.iret (v := (2 : Int32)) hx hb hr (fun t ht hW => ⟨⟨(2 : Int32), ((I1, F1), g), rfl, h, by show va_P _ _ _ t.heap; rw [ht]; exact hP, by show va_P _ _ _ t.heap; rw [ht]; exact hO⟩, hS.F ht⟩) hS.2.2 dL_terms_17
  · refine lv_goto (tgt := 18) hx hb dL_terms_7 (by decide) ?_
    refine lv_iconst (v := (0 : Int32)) hx hb dL_terms_18 (by decide) ?_
    exact W.iret (v := (0 : Int32)) hx hb hr (fun t ht hW => ⟨⟨(0 : Int32), ((I1, F1), g), rfl, h, by show va_P _ _ _ t.heap; rw [ht]; exact hP, by show va_P _ _ _ t.heap; rw [ht]; exact hO⟩, hS.F ht⟩) hS.2.2 dL_terms_19
def wL_layer (I : Nat → Int32) (F : Nat → Nat → Int32) (g : Nat → Int64) (x1 x2 x3 x4 : Int32) (post : Int32 → (Nat → Int32) → (Nat → Nat → Int32) → (Nat → Int64) → Prop) : Prop := wX4_layer I F x1 x2 x3 x4 (fun I1 F1 => post (0 : Int32) I1 F1 g) (fun E I1 F1 => (E = "java/lang/IllegalStateException" ∧ post (1 : Int32) I1 F1 g) ∨ (E = "java/lang/IllegalArgumentException" ∧ post (2 : Int32) I1 F1 g))
set_option maxHeartbeats 4000000 in
set_option maxRecDepth 100000 in
theorem cTL_layer (l : Launch) (hst : l.stackTraces = false) (dC : Nat → ClassId) (dI : Nat → Nat → Nat) (cI cJ : ClassId) (ad : Nat → Nat) (ao : Nat) (I : Nat → Int32) (F : Nat → Nat → Int32) (g : Nat → Int64) (sz : Nat) (x1 x2 x3 x4 : Int32) (post : Int32 → (Nat → Int32) → (Nat → Nat → Int32) → (Nat → Int64) → Prop) (h : wL_layer I F g x1 x2 x3 x4 post) : Met l yL_layer wsL_layer { frames := 7, cells := 1, slots := 6, locals := 113 } (va_Pc [.ref (ad 0), .int x1, .int x2, .int x3, .int x4] (PH dC dI cI cJ ad ao I F g sz)) (QH dC dI cI cJ ad ao post (AH cI ad ao I F sz)) 1 6 (AH cI ad ao I F sz) := by
  refine va_MetW (cc := cL_layer) (maxL := 6) (ret := (some .int)) (by decide) rfl ?_
  intro p e s m args below meth c s₁ B hml hv
  obtain ⟨rfl, hsz, hP, hO, hK2, hN, hD0, hap, hT, hC, hZ⟩ := hv
  subst hsz
  have hK : va_K (dC, dI) vwCl [(cI, .int)] s := hK2.sub [0] rfl
  have hx := B.exec
  have hb := B.bytes
  have hr := B.returns
  have hts := atoms_spec (ws := wsL_layer) B.pre
  have htab := vx_table (x := yL_layer) B (hts _ List.mem_cons_self)
  have hown : s.vm.findClass RL = some m.cls := findClass_of_methodNamed B.named
  have hlocks := B.notSynchronized
  have hD := wD_any (wC_fix cI ad) ((hD0.self (sz := s.heap.size)).weaken (B := AH cI ad ao I F s.heap.size) (fun _ _ _ h => Or.inl h))
  have hA : ∀ q : Nat, s.heap.size ≤ q → AH cI ad ao I F s.heap.size q := fun q h => Or.inl (Or.inr h)
  have hAo : AH cI ad ao I F s.heap.size ao := Or.inr rfl
  generalize AH cI ad ao I F s.heap.size = A at hD hA hAo hZ ⊢
  have hS : va_S A s.heap s.heap [] := va_S.rf
  have hl := lv_entry ([.ref (ad 0), .int x1, .int x2, .int x3, .int x4]) (n := 6) (Nat.le_of_ble_eq_true rfl)
  rw [lg_entry_eq]
  generalize (lg_sl ([.ref (ad 0), .int x1, .int x2, .int x3, .int x4]) ++ List.replicate (6 - (lg_sl ([.ref (ad 0), .int x1, .int x2, .int x3, .int x4])).length) Slot.unset).toArray = ls at hl ⊢
  have hl : lv_has ls 6 [(0, .ref (ad 0)), (1, .int x1), (2, .int x2), (3, .int x3), (4, .int x4)] := hl
  unfold wL_layer at h
  refine lv_aload_n hx hb dL_layer_0 rfl (lv_at hl 0 rfl) ?_
  refine lv_iload_n hx hb dL_layer_1 rfl (lv_at hl 1 rfl) ?_
  refine lv_iload_n hx hb dL_layer_2 rfl (lv_at hl 2 rfl) ?_
  refine lv_iload_n hx hb dL_layer_3 rfl (lv_at hl 3 rfl) ?_
  refine lv_iload hx hb dL_layer_4 (lv_at hl 4 rfl) ?_
  refine hcall_v (wf := wC cI ad) (vx_runV (As := [.int x1, .int x2, .int x3, .int x4]) (rest := []) ⟨hx, hb, hml, hown, hts⟩ (cTX4_layer l hst dC dI cI ad I F s.heap.size x1 x2 x3 x4 _ _ h) (cwV 4 hts gL_layer_X4_layer rfl rfl rfl (by decide +kernel) ⟨(Nat.le_of_ble_eq_true rfl), (Nat.le_of_ble_eq_true rfl)⟩) (pv_T hP hK hN hT hZ hS hD hA 0 4 rfl rfl _) rfl rfl hl.1 rfl (lv_room (Nat.le_of_ble_eq_true rfl)) dL_layer_6 ⟨(Nat.le_of_ble_eq_true rfl), (Nat.le_of_ble_eq_true rfl)⟩) hD hS hA hO hap (fun E ce q9 I1 F1 h H locs hP hO hS hc9 hv9 hcl9 => ?_) (fun I1 F1 h H locs hP hO hS => ?_)
  · rcases h with ⟨rfl, h⟩ | ⟨rfl, h⟩
    · refine vx_catch (own := RL) (name := "java/lang/IllegalStateException") hown [] ⟨0, 9, 12, 13⟩ [⟨0, 9, 16, 15⟩] htab (fun z hz => by cases hz) (by decide) (by decide) (hts (.classLink RL 13 "java/lang/IllegalStateException") (by decide +kernel)) (tw_cast hT (by decide +kernel)) hc9 hv9 hcl9 ?_
      refine lv_astore (lv' := [(5, .ref q9), (0, .ref (ad 0)), (1, .int x1), (2, .int x2), (3, .int x3), (4, .int x4)]) hx hb dL_layer_12 hl (by decide) rfl (fun ls hl => ?_)
      refine lv_iconst (v := (1 : Int32)) hx hb dL_layer_14 (by decide) ?_
      exact W.iret (v := (1 : Int32)) hx hb hr (fun t ht hW => ⟨⟨(1 : Int32), ((I1, F1), g), rfl, h, by show va_P _ _ _ t.heap; rw [ht]; exact hP, by show va_P _ _ _ t.heap; rw [ht]; exact hO⟩, hS.F ht⟩) hS.2.2 dL_layer_15
    · refine vx_catch (own := RL) (name := "java/lang/IllegalArgumentException") hown [⟨0, 9, 12, 13⟩] ⟨0, 9, 16, 15⟩ [] htab (fun z hz => by rcases List.mem_singleton.mp hz with rfl; exact Or.inr ⟨by decide, "java/lang/IllegalStateException", hts (.classLink RL 13 "java/lang/IllegalStateException") (by decide +kernel), hC ("java/lang/IllegalArgumentException", "java/lang/IllegalStateException") (by decide +kernel)⟩) (by decide) (by decide) (hts (.classLink RL 15 "java/lang/IllegalArgumentException") (by decide +kernel)) (tw_cast hT (by decide +kernel)) hc9 hv9 hcl9 ?_
      refine lv_astore (lv' := [(5, .ref q9), (0, .ref (ad 0)), (1, .int x1), (2, .int x2), (3, .int x3), (4, .int x4)]) hx hb dL_layer_16 hl (by decide) rfl (fun ls hl => ?_)
      refine lv_iconst (v := (2 : Int32)) hx hb dL_layer_18 (by decide) ?_
      exact W.iret (v := (2 : Int32)) hx hb hr (fun t ht hW => ⟨⟨(2 : Int32), ((I1, F1), g), rfl, h, by show va_P _ _ _ t.heap; rw [ht]; exact hP, by show va_P _ _ _ t.heap; rw [ht]; exact hO⟩, hS.F ht⟩) hS.2.2 dL_layer_19
  · refine lv_goto (tgt := 20) hx hb dL_layer_9 (by decide) ?_
    refine lv_iconst (v := (0 : Int32)) hx hb dL_layer_20 (by decide) ?_
    exact W.iret (v := (0 : Int32)) hx hb hr (fun t ht hW => ⟨⟨(0 : Int32), ((I1, F1), g), rfl, h, by show va_P _ _ _ t.heap; rw [ht]; exact hP, by show va_P _ _ _ t.heap; rw [ht]; exact hO⟩, hS.F ht⟩) hS.2.2 dL_layer_21
def wL_bind (I : Nat → Int32) (F : Nat → Nat → Int32) (g : Nat → Int64) (x1 x2 x3 x4 x5 : Int32) (post : Int32 → (Nat → Int32) → (Nat → Nat → Int32) → (Nat → Int64) → Prop) : Prop := wX4_bind I F x1 x2 x3 x4 x5 (fun r I1 F1 => post (0 : Int32) I1 F1 (vp_updL g 0 r.toInt64)) (fun E I1 F1 => (E = "java/lang/IllegalStateException" ∧ post (1 : Int32) I1 F1 g) ∨ (E = "java/lang/IllegalArgumentException" ∧ post (2 : Int32) I1 F1 g) ∨ (E = "java/lang/UnsupportedOperationException" ∧ post (3 : Int32) I1 F1 g))
set_option maxHeartbeats 4000000 in
set_option maxRecDepth 100000 in
theorem cTL_bind (l : Launch) (hst : l.stackTraces = false) (dC : Nat → ClassId) (dI : Nat → Nat → Nat) (cI cJ : ClassId) (ad : Nat → Nat) (ao : Nat) (I : Nat → Int32) (F : Nat → Nat → Int32) (g : Nat → Int64) (sz : Nat) (x1 x2 x3 x4 x5 : Int32) (post : Int32 → (Nat → Int32) → (Nat → Nat → Int32) → (Nat → Int64) → Prop) (h : wL_bind I F g x1 x2 x3 x4 x5 post) : Met l yL_bind wsL_bind { frames := 8, cells := 1, slots := 6, locals := 156 } (va_Pc [.ref (ad 0), .int x1, .int x2, .int x3, .int x4, .int x5, .ref ao] (PH dC dI cI cJ ad ao I F g sz)) (QH dC dI cI cJ ad ao post (AH cI ad ao I F sz)) 1 6 (AH cI ad ao I F sz) := by
  refine va_MetW (cc := cL_bind) (maxL := 8) (ret := (some .int)) (by decide) rfl ?_
  intro p e s m args below meth c s₁ B hml hv
  obtain ⟨rfl, hsz, hP, hO, hK2, hN, hD0, hap, hT, hC, hZ⟩ := hv
  subst hsz
  have hK : va_K (dC, dI) vwCl [(cI, .int)] s := hK2.sub [0] rfl
  have hx := B.exec
  have hb := B.bytes
  have hr := B.returns
  have hts := atoms_spec (ws := wsL_bind) B.pre
  have htab := vx_table (x := yL_bind) B (hts _ List.mem_cons_self)
  have hown : s.vm.findClass RL = some m.cls := findClass_of_methodNamed B.named
  have hlocks := B.notSynchronized
  have hD := wD_any (wC_fix cI ad) ((hD0.self (sz := s.heap.size)).weaken (B := AH cI ad ao I F s.heap.size) (fun _ _ _ h => Or.inl h))
  have hA : ∀ q : Nat, s.heap.size ≤ q → AH cI ad ao I F s.heap.size q := fun q h => Or.inl (Or.inr h)
  have hAo : AH cI ad ao I F s.heap.size ao := Or.inr rfl
  generalize AH cI ad ao I F s.heap.size = A at hD hA hAo hZ ⊢
  have hS : va_S A s.heap s.heap [] := va_S.rf
  have hl := lv_entry ([.ref (ad 0), .int x1, .int x2, .int x3, .int x4, .int x5, .ref ao]) (n := 8) (Nat.le_of_ble_eq_true rfl)
  rw [lg_entry_eq]
  generalize (lg_sl ([.ref (ad 0), .int x1, .int x2, .int x3, .int x4, .int x5, .ref ao]) ++ List.replicate (8 - (lg_sl ([.ref (ad 0), .int x1, .int x2, .int x3, .int x4, .int x5, .ref ao])).length) Slot.unset).toArray = ls at hl ⊢
  have hl : lv_has ls 8 [(0, .ref (ad 0)), (1, .int x1), (2, .int x2), (3, .int x3), (4, .int x4), (5, .int x5), (6, .ref ao)] := hl
  unfold wL_bind at h
  refine lv_aload hx hb dL_bind_0 (lv_at hl 6 rfl) ?_
  refine lv_iconst (v := (0 : Int32)) hx hb dL_bind_2 (by decide) ?_
  refine lv_aload_n hx hb dL_bind_3 rfl (lv_at hl 0 rfl) ?_
  refine lv_iload_n hx hb dL_bind_4 rfl (lv_at hl 1 rfl) ?_
  refine lv_iload_n hx hb dL_bind_5 rfl (lv_at hl 2 rfl) ?_
  refine lv_iload_n hx hb dL_bind_6 rfl (lv_at hl 3 rfl) ?_
  refine lv_iload hx hb dL_bind_7 (lv_at hl 4 rfl) ?_
  refine lv_iload hx hb dL_bind_9 (lv_at hl 5 rfl) ?_
  refine hcall_i (wf := wC cI ad) (vx_runV (As := [.int x1, .int x2, .int x3, .int x4, .int x5]) (rest := [.int (0 : Int32), .ref ao]) ⟨hx, hb, hml, hown, hts⟩ (cTX4_bind l hst dC dI cI ad I F s.heap.size x1 x2 x3 x4 x5 _ _ h) (cwV 5 hts gL_bind_X4_bind rfl rfl rfl (by decide +kernel) ⟨(Nat.le_of_ble_eq_true rfl), (Nat.le_of_ble_eq_true rfl)⟩) (pv_T hP hK hN hT hZ hS hD hA 0 4 rfl rfl _) rfl rfl hl.1 rfl (lv_room (Nat.le_of_ble_eq_true rfl)) dL_bind_11 ⟨(Nat.le_of_ble_eq_true rfl), (Nat.le_of_ble_eq_true rfl)⟩) hD hS hA hO hap (fun E ce q9 I1 F1 h H locs hP hO hS hc9 hv9 hcl9 => ?_) (fun r I1 F1 h H locs hP hO hS => ?_)
  · rcases h with ⟨rfl, h⟩ | ⟨rfl, h⟩ | ⟨rfl, h⟩
    · refine vx_catch (own := RL) (name := "java/lang/IllegalStateException") hown [] ⟨0, 16, 19, 13⟩ [⟨0, 16, 23, 15⟩, ⟨0, 16, 27, 35⟩] htab (fun z hz => by cases hz) (by decide) (by decide) (hts (.classLink RL 13 "java/lang/IllegalStateException") (by decide +kernel)) (tw_cast hT (by decide +kernel)) hc9 hv9 hcl9 ?_
      refine lv_astore (lv' := [(7, .ref q9), (0, .ref (ad 0)), (1, .int x1), (2, .int x2), (3, .int x3), (4, .int x4), (5, .int x5), (6, .ref ao)]) hx hb dL_bind_19 hl (by decide) rfl (fun ls hl => ?_)
      refine lv_iconst (v := (1 : Int32)) hx hb dL_bind_21 (by decide) ?_
      exact W.iret (v := (1 : Int32)) hx hb hr (fun t ht hW => ⟨⟨(1 : Int32), ((I1, F1), g), rfl, h, by show va_P _ _ _ t.heap; rw [ht]; exact hP, by show va_P _ _ _ t.heap; rw [ht]; exact hO⟩, hS.F ht⟩) hS.2.2 dL_bind_22
    · refine vx_catch (own := RL) (name := "java/lang/IllegalArgumentException") hown [⟨0, 16, 19, 13⟩] ⟨0, 16, 23, 15⟩ [⟨0, 16, 27, 35⟩] htab (fun z hz => by rcases List.mem_singleton.mp hz with rfl; exact Or.inr ⟨by decide, "java/lang/IllegalStateException", hts (.classLink RL 13 "java/lang/IllegalStateException") (by decide +kernel), hC ("java/lang/IllegalArgumentException", "java/lang/IllegalStateException") (by decide +kernel)⟩) (by decide) (by decide) (hts (.classLink RL 15 "java/lang/IllegalArgumentException") (by decide +kernel)) (tw_cast hT (by decide +kernel)) hc9 hv9 hcl9 ?_
      refine lv_astore (lv' := [(7, .ref q9), (0, .ref (ad 0)), (1, .int x1), (2, .int x2), (3, .int x3), (4, .int x4), (5, .int x5), (6, .ref ao)]) hx hb dL_bind_23 hl (by decide) rfl (fun ls hl => ?_)
      refine lv_iconst (v := (2 : Int32)) hx hb dL_bind_25 (by decide) ?_
      exact W.iret (v := (2 : Int32)) hx hb hr (fun t ht hW => ⟨⟨(2 : Int32), ((I1, F1), g), rfl, h, by show va_P _ _ _ t.heap; rw [ht]; exact hP, by show va_P _ _ _ t.heap; rw [ht]; exact hO⟩, hS.F ht⟩) hS.2.2 dL_bind_26
    · refine vx_catch (own := RL) (name := "java/lang/UnsupportedOperationException") hown [⟨0, 16, 19, 13⟩, ⟨0, 16, 23, 15⟩] ⟨0, 16, 27, 35⟩ [] htab (fun z hz => by
      simp only [List.mem_cons, List.not_mem_nil, or_false] at hz
      rcases hz with rfl | rfl
      · exact Or.inr ⟨by decide, "java/lang/IllegalStateException", hts (.classLink RL 13 "java/lang/IllegalStateException") (by decide +kernel), hC ("java/lang/UnsupportedOperationException", "java/lang/IllegalStateException") (by decide +kernel)⟩
      · exact Or.inr ⟨by decide, "java/lang/IllegalArgumentException", hts (.classLink RL 15 "java/lang/IllegalArgumentException") (by decide +kernel), hC ("java/lang/UnsupportedOperationException", "java/lang/IllegalArgumentException") (by decide +kernel)⟩) (by decide) (by decide) (hts (.classLink RL 35 "java/lang/UnsupportedOperationException") (by decide +kernel)) (tw_cast hT (by decide +kernel)) hc9 hv9 hcl9 ?_
      refine lv_astore (lv' := [(7, .ref q9), (0, .ref (ad 0)), (1, .int x1), (2, .int x2), (3, .int x3), (4, .int x4), (5, .int x5), (6, .ref ao)]) hx hb dL_bind_27 hl (by decide) rfl (fun ls hl => ?_)
      refine lv_iconst (v := (3 : Int32)) hx hb dL_bind_29 (by decide) ?_
      exact W.iret (v := (3 : Int32)) hx hb hr (fun t ht hW => ⟨⟨(3 : Int32), ((I1, F1), g), rfl, h, by show va_P _ _ _ t.heap; rw [ht]; exact hP, by show va_P _ _ _ t.heap; rw [ht]; exact hO⟩, hS.F ht⟩) hS.2.2 dL_bind_30
  · refine lv_i2l (v := r.toInt64) hx hb dL_bind_14 rfl ?_
    refine last_h hx hb hK2 hP hO (hD _ _) hAo (hap.any (wC_fix cI ad) _ _) hS dL_bind_15 (fun H locs hP hO hS => ?_)
    refine lv_goto (tgt := 31) hx hb dL_bind_16 (by decide) ?_
    refine lv_iconst (v := (0 : Int32)) hx hb dL_bind_31 (by decide) ?_
    exact W.iret (v := (0 : Int32)) hx hb hr (fun t ht hW => ⟨⟨(0 : Int32), ((I1, F1), vp_updL g 0 r.toInt64), rfl, h, by show va_P _ _ _ t.heap; rw [ht]; exact hP, by show va_P _ _ _ t.heap; rw [ht]; exact hO⟩, hS.F ht⟩) hS.2.2 dL_bind_32
def wL_change (I : Nat → Int32) (F : Nat → Nat → Int32) (g : Nat → Int64) (x1 x2 x3 x4 : Int32) (post : Int32 → (Nat → Int32) → (Nat → Nat → Int32) → (Nat → Int64) → Prop) : Prop := wX4_change I F x1 x2 x3 x4 (fun r I1 F1 => post (0 : Int32) I1 F1 (vp_updL g 0 r.toInt64)) (fun E I1 F1 => (E = "java/util/NoSuchElementException" ∧ post (1 : Int32) I1 F1 g) ∨ (E = "java/lang/IllegalArgumentException" ∧ post (2 : Int32) I1 F1 g) ∨ (E = "java/lang/IllegalStateException" ∧ post (3 : Int32) I1 F1 g) ∨ (E = "java/lang/UnsupportedOperationException" ∧ post (4 : Int32) I1 F1 g))
set_option maxHeartbeats 4000000 in
set_option maxRecDepth 100000 in
theorem cTL_change (l : Launch) (hst : l.stackTraces = false) (dC : Nat → ClassId) (dI : Nat → Nat → Nat) (cI cJ : ClassId) (ad : Nat → Nat) (ao : Nat) (I : Nat → Int32) (F : Nat → Nat → Int32) (g : Nat → Int64) (sz : Nat) (x1 x2 x3 x4 : Int32) (post : Int32 → (Nat → Int32) → (Nat → Nat → Int32) → (Nat → Int64) → Prop) (h : wL_change I F g x1 x2 x3 x4 post) : Met l yL_change wsL_change { frames := 9, cells := 1, slots := 6, locals := 179 } (va_Pc [.ref (ad 0), .int x1, .int x2, .int x3, .int x4, .ref ao] (PH dC dI cI cJ ad ao I F g sz)) (QH dC dI cI cJ ad ao post (AH cI ad ao I F sz)) 1 6 (AH cI ad ao I F sz) := by
  refine va_MetW (cc := cL_change) (maxL := 7) (ret := (some .int)) (by decide) rfl ?_
  intro p e s m args below meth c s₁ B hml hv
  obtain ⟨rfl, hsz, hP, hO, hK2, hN, hD0, hap, hT, hC, hZ⟩ := hv
  subst hsz
  have hK : va_K (dC, dI) vwCl [(cI, .int)] s := hK2.sub [0] rfl
  have hx := B.exec
  have hb := B.bytes
  have hr := B.returns
  have hts := atoms_spec (ws := wsL_change) B.pre
  have htab := vx_table (x := yL_change) B (hts _ List.mem_cons_self)
  have hown : s.vm.findClass RL = some m.cls := findClass_of_methodNamed B.named
  have hlocks := B.notSynchronized
  have hD := wD_any (wC_fix cI ad) ((hD0.self (sz := s.heap.size)).weaken (B := AH cI ad ao I F s.heap.size) (fun _ _ _ h => Or.inl h))
  have hA : ∀ q : Nat, s.heap.size ≤ q → AH cI ad ao I F s.heap.size q := fun q h => Or.inl (Or.inr h)
  have hAo : AH cI ad ao I F s.heap.size ao := Or.inr rfl
  generalize AH cI ad ao I F s.heap.size = A at hD hA hAo hZ ⊢
  have hS : va_S A s.heap s.heap [] := va_S.rf
  have hl := lv_entry ([.ref (ad 0), .int x1, .int x2, .int x3, .int x4, .ref ao]) (n := 7) (Nat.le_of_ble_eq_true rfl)
  rw [lg_entry_eq]
  generalize (lg_sl ([.ref (ad 0), .int x1, .int x2, .int x3, .int x4, .ref ao]) ++ List.replicate (7 - (lg_sl ([.ref (ad 0), .int x1, .int x2, .int x3, .int x4, .ref ao])).length) Slot.unset).toArray = ls at hl ⊢
  have hl : lv_has ls 7 [(0, .ref (ad 0)), (1, .int x1), (2, .int x2), (3, .int x3), (4, .int x4), (5, .ref ao)] := hl
  unfold wL_change at h
  refine lv_aload hx hb dL_change_0 (lv_at hl 5 rfl) ?_
  refine lv_iconst (v := (0 : Int32)) hx hb dL_change_2 (by decide) ?_
  refine lv_aload_n hx hb dL_change_3 rfl (lv_at hl 0 rfl) ?_
  refine lv_iload_n hx hb dL_change_4 rfl (lv_at hl 1 rfl) ?_
  refine lv_iload_n hx hb dL_change_5 rfl (lv_at hl 2 rfl) ?_
  refine lv_iload_n hx hb dL_change_6 rfl (lv_at hl 3 rfl) ?_
  refine lv_iload hx hb dL_change_7 (lv_at hl 4 rfl) ?_
  refine hcall_i (wf := wC cI ad) (vx_runV (As := [.int x1, .int x2, .int x3, .int x4]) (rest := [.int (0 : Int32), .ref ao]) ⟨hx, hb, hml, hown, hts⟩ (cTX4_change l hst dC dI cI ad I F s.heap.size x1 x2 x3 x4 _ _ h) (cwV 4 hts gL_change_X4_change rfl rfl rfl (by decide +kernel) ⟨(Nat.le_of_ble_eq_true rfl), (Nat.le_of_ble_eq_true rfl)⟩) (pv_T hP hK hN hT hZ hS hD hA 0 4 rfl rfl _) rfl rfl hl.1 rfl (lv_room (Nat.le_of_ble_eq_true rfl)) dL_change_9 ⟨(Nat.le_of_ble_eq_true rfl), (Nat.le_of_ble_eq_true rfl)⟩) hD hS hA hO hap (fun E ce q9 I1 F1 h H locs hP hO hS hc9 hv9 hcl9 => ?_) (fun r I1 F1 h H locs hP hO hS => ?_)
  · rcases h with ⟨rfl, h⟩ | ⟨rfl, h⟩ | ⟨rfl, h⟩ | ⟨rfl, h⟩
    · refine vx_catch (own := RL) (name := "java/util/NoSuchElementException") hown [] ⟨0, 14, 17, 41⟩ [⟨0, 14, 21, 15⟩, ⟨0, 14, 25, 13⟩, ⟨0, 14, 29, 35⟩] htab (fun z hz => by cases hz) (by decide) (by decide) (hts (.classLink RL 41 "java/util/NoSuchElementException") (by decide +kernel)) (tw_cast hT (by decide +kernel)) hc9 hv9 hcl9 ?_
      refine lv_astore (lv' := [(6, .ref q9), (0, .ref (ad 0)), (1, .int x1), (2, .int x2), (3, .int x3), (4, .int x4), (5, .ref ao)]) hx hb dL_change_17 hl (by decide) rfl (fun ls hl => ?_)
      refine lv_iconst (v := (1 : Int32)) hx hb dL_change_19 (by decide) ?_
      exact W.iret (v := (1 : Int32)) hx hb hr (fun t ht hW => ⟨⟨(1 : Int32), ((I1, F1), g), rfl, h, by show va_P _ _ _ t.heap; rw [ht]; exact hP, by show va_P _ _ _ t.heap; rw [ht]; exact hO⟩, hS.F ht⟩) hS.2.2 dL_change_20
    · refine vx_catch (own := RL) (name := "java/lang/IllegalArgumentException") hown [⟨0, 14, 17, 41⟩] ⟨0, 14, 21, 15⟩ [⟨0, 14, 25, 13⟩, ⟨0, 14, 29, 35⟩] htab (fun z hz => by rcases List.mem_singleton.mp hz with rfl; exact Or.inr ⟨by decide, "java/util/NoSuchElementException", hts (.classLink RL 41 "java/util/NoSuchElementException") (by decide +kernel), hC ("java/lang/IllegalArgumentException", "java/util/NoSuchElementException") (by decide +kernel)⟩) (by decide) (by decide) (hts (.classLink RL 15 "java/lang/IllegalArgumentException") (by decide +kernel)) (tw_cast hT (by decide +kernel)) hc9 hv9 hcl9 ?_
      refine lv_astore (lv' := [(6, .ref q9), (0, .ref (ad 0)), (1, .int x1), (2, .int x2), (3, .int x3), (4, .int x4), (5, .ref ao)]) hx hb dL_change_21 hl (by decide) rfl (fun ls hl => ?_)
      refine lv_iconst (v := (2 : Int32)) hx hb dL_change_23 (by decide) ?_
      exact W.iret (v := (2 : Int32)) hx hb hr (fun t ht hW => ⟨⟨(2 : Int32), ((I1, F1), g), rfl, h, by show va_P _ _ _ t.heap; rw [ht]; exact hP, by show va_P _ _ _ t.heap; rw [ht]; exact hO⟩, hS.F ht⟩) hS.2.2 dL_change_24
    · refine vx_catch (own := RL) (name := "java/lang/IllegalStateException") hown [⟨0, 14, 17, 41⟩, ⟨0, 14, 21, 15⟩] ⟨0, 14, 25, 13⟩ [⟨0, 14, 29, 35⟩] htab (fun z hz => by
      simp only [List.mem_cons, List.not_mem_nil, or_false] at hz
      rcases hz with rfl | rfl
      · exact Or.inr ⟨by decide, "java/util/NoSuchElementException", hts (.classLink RL 41 "java/util/NoSuchElementException") (by decide +kernel), hC ("java/lang/IllegalStateException", "java/util/NoSuchElementException") (by decide +kernel)⟩
      · exact Or.inr ⟨by decide, "java/lang/IllegalArgumentException", hts (.classLink RL 15 "java/lang/IllegalArgumentException") (by decide +kernel), hC ("java/lang/IllegalStateException", "java/lang/IllegalArgumentException") (by decide +kernel)⟩) (by decide) (by decide) (hts (.classLink RL 13 "java/lang/IllegalStateException") (by decide +kernel)) (tw_cast hT (by decide +kernel)) hc9 hv9 hcl9 ?_
      refine lv_astore (lv' := [(6, .ref q9), (0, .ref (ad 0)), (1, .int x1), (2, .int x2), (3, .int x3), (4, .int x4), (5, .ref ao)]) hx hb dL_change_25 hl (by decide) rfl (fun ls hl => ?_)
      refine lv_iconst (v := (3 : Int32)) hx hb dL_change_27 (by decide) ?_
      exact W.iret (v := (3 : Int32)) hx hb hr (fun t ht hW => ⟨⟨(3 : Int32), ((I1, F1), g), rfl, h, by show va_P _ _ _ t.heap; rw [ht]; exact hP, by show va_P _ _ _ t.heap; rw [ht]; exact hO⟩, hS.F ht⟩) hS.2.2 dL_change_28
    · refine vx_catch (own := RL) (name := "java/lang/UnsupportedOperationException") hown [⟨0, 14, 17, 41⟩, ⟨0, 14, 21, 15⟩, ⟨0, 14, 25, 13⟩] ⟨0, 14, 29, 35⟩ [] htab (fun z hz => by
      simp only [List.mem_cons, List.not_mem_nil, or_false] at hz
      rcases hz with rfl | rfl | rfl
      · exact Or.inr ⟨by decide, "java/util/NoSuchElementException", hts (.classLink RL 41 "java/util/NoSuchElementException") (by decide +kernel), hC ("java/lang/UnsupportedOperationException", "java/util/NoSuchElementException") (by decide +kernel)⟩
      · exact Or.inr ⟨by decide, "java/lang/IllegalArgumentException", hts (.classLink RL 15 "java/lang/IllegalArgumentException") (by decide +kernel), hC ("java/lang/UnsupportedOperationException", "java/lang/IllegalArgumentException") (by decide +kernel)⟩
      · exact Or.inr ⟨by decide, "java/lang/IllegalStateException", hts (.classLink RL 13 "java/lang/IllegalStateException") (by decide +kernel), hC ("java/lang/UnsupportedOperationException", "java/lang/IllegalStateException") (by decide +kernel)⟩) (by decide) (by decide) (hts (.classLink RL 35 "java/lang/UnsupportedOperationException") (by decide +kernel)) (tw_cast hT (by decide +kernel)) hc9 hv9 hcl9 ?_
      refine lv_astore (lv' := [(6, .ref q9), (0, .ref (ad 0)), (1, .int x1), (2, .int x2), (3, .int x3), (4, .int x4), (5, .ref ao)]) hx hb dL_change_29 hl (by decide) rfl (fun ls hl => ?_)
      refine lv_iconst (v := (4 : Int32)) hx hb dL_change_31 (by decide) ?_
      exact W.iret (v := (4 : Int32)) hx hb hr (fun t ht hW => ⟨⟨(4 : Int32), ((I1, F1), g), rfl, h, by show va_P _ _ _ t.heap; rw [ht]; exact hP, by show va_P _ _ _ t.heap; rw [ht]; exact hO⟩, hS.F ht⟩) hS.2.2 dL_change_32
  · refine lv_i2l (v := r.toInt64) hx hb dL_change_12 rfl ?_
    refine last_h hx hb hK2 hP hO (hD _ _) hAo (hap.any (wC_fix cI ad) _ _) hS dL_change_13 (fun H locs hP hO hS => ?_)
    refine lv_goto (tgt := 33) hx hb dL_change_14 (by decide) ?_
    refine lv_iconst (v := (0 : Int32)) hx hb dL_change_33 (by decide) ?_
    exact W.iret (v := (0 : Int32)) hx hb hr (fun t ht hW => ⟨⟨(0 : Int32), ((I1, F1), vp_updL g 0 r.toInt64), rfl, h, by show va_P _ _ _ t.heap; rw [ht]; exact hP, by show va_P _ _ _ t.heap; rw [ht]; exact hO⟩, hS.F ht⟩) hS.2.2 dL_change_34
def wL_cancel (I : Nat → Int32) (F : Nat → Nat → Int32) (g : Nat → Int64) (x1 x2 x3 : Int32) (post : Int32 → (Nat → Int32) → (Nat → Nat → Int32) → (Nat → Int64) → Prop) : Prop := wX4_cancel I F x1 x2 x3 (fun r I1 F1 => post (0 : Int32) I1 F1 (vp_updL g 0 r.toInt64)) (fun E I1 F1 => (E = "java/util/NoSuchElementException" ∧ post (1 : Int32) I1 F1 g) ∨ (E = "java/lang/IllegalArgumentException" ∧ post (2 : Int32) I1 F1 g) ∨ (E = "java/lang/IllegalStateException" ∧ post (3 : Int32) I1 F1 g) ∨ (E = "java/lang/UnsupportedOperationException" ∧ post (4 : Int32) I1 F1 g))
set_option maxHeartbeats 4000000 in
set_option maxRecDepth 100000 in
theorem cTL_cancel (l : Launch) (hst : l.stackTraces = false) (dC : Nat → ClassId) (dI : Nat → Nat → Nat) (cI cJ : ClassId) (ad : Nat → Nat) (ao : Nat) (I : Nat → Int32) (F : Nat → Nat → Int32) (g : Nat → Int64) (sz : Nat) (x1 x2 x3 : Int32) (post : Int32 → (Nat → Int32) → (Nat → Nat → Int32) → (Nat → Int64) → Prop) (h : wL_cancel I F g x1 x2 x3 post) : Met l yL_cancel wsL_cancel { frames := 9, cells := 1, slots := 6, locals := 178 } (va_Pc [.ref (ad 0), .int x1, .int x2, .int x3, .ref ao] (PH dC dI cI cJ ad ao I F g sz)) (QH dC dI cI cJ ad ao post (AH cI ad ao I F sz)) 1 6 (AH cI ad ao I F sz) := by
  refine va_MetW (cc := cL_cancel) (maxL := 6) (ret := (some .int)) (by decide) rfl ?_
  intro p e s m args below meth c s₁ B hml hv
  obtain ⟨rfl, hsz, hP, hO, hK2, hN, hD0, hap, hT, hC, hZ⟩ := hv
  subst hsz
  have hK : va_K (dC, dI) vwCl [(cI, .int)] s := hK2.sub [0] rfl
  have hx := B.exec
  have hb := B.bytes
  have hr := B.returns
  have hts := atoms_spec (ws := wsL_cancel) B.pre
  have htab := vx_table (x := yL_cancel) B (hts _ List.mem_cons_self)
  have hown : s.vm.findClass RL = some m.cls := findClass_of_methodNamed B.named
  have hlocks := B.notSynchronized
  have hD := wD_any (wC_fix cI ad) ((hD0.self (sz := s.heap.size)).weaken (B := AH cI ad ao I F s.heap.size) (fun _ _ _ h => Or.inl h))
  have hA : ∀ q : Nat, s.heap.size ≤ q → AH cI ad ao I F s.heap.size q := fun q h => Or.inl (Or.inr h)
  have hAo : AH cI ad ao I F s.heap.size ao := Or.inr rfl
  generalize AH cI ad ao I F s.heap.size = A at hD hA hAo hZ ⊢
  have hS : va_S A s.heap s.heap [] := va_S.rf
  have hl := lv_entry ([.ref (ad 0), .int x1, .int x2, .int x3, .ref ao]) (n := 6) (Nat.le_of_ble_eq_true rfl)
  rw [lg_entry_eq]
  generalize (lg_sl ([.ref (ad 0), .int x1, .int x2, .int x3, .ref ao]) ++ List.replicate (6 - (lg_sl ([.ref (ad 0), .int x1, .int x2, .int x3, .ref ao])).length) Slot.unset).toArray = ls at hl ⊢
  have hl : lv_has ls 6 [(0, .ref (ad 0)), (1, .int x1), (2, .int x2), (3, .int x3), (4, .ref ao)] := hl
  unfold wL_cancel at h
  refine lv_aload hx hb dL_cancel_0 (lv_at hl 4 rfl) ?_
  refine lv_iconst (v := (0 : Int32)) hx hb dL_cancel_2 (by decide) ?_
  refine lv_aload_n hx hb dL_cancel_3 rfl (lv_at hl 0 rfl) ?_
  refine lv_iload_n hx hb dL_cancel_4 rfl (lv_at hl 1 rfl) ?_
  refine lv_iload_n hx hb dL_cancel_5 rfl (lv_at hl 2 rfl) ?_
  refine lv_iload_n hx hb dL_cancel_6 rfl (lv_at hl 3 rfl) ?_
  refine hcall_i (wf := wC cI ad) (vx_runV (As := [.int x1, .int x2, .int x3]) (rest := [.int (0 : Int32), .ref ao]) ⟨hx, hb, hml, hown, hts⟩ (cTX4_cancel l hst dC dI cI ad I F s.heap.size x1 x2 x3 _ _ h) (cwV 3 hts gL_cancel_X4_cancel rfl rfl rfl (by decide +kernel) ⟨(Nat.le_of_ble_eq_true rfl), (Nat.le_of_ble_eq_true rfl)⟩) (pv_T hP hK hN hT hZ hS hD hA 0 4 rfl rfl _) rfl rfl hl.1 rfl (lv_room (Nat.le_of_ble_eq_true rfl)) dL_cancel_7 ⟨(Nat.le_of_ble_eq_true rfl), (Nat.le_of_ble_eq_true rfl)⟩) hD hS hA hO hap (fun E ce q9 I1 F1 h H locs hP hO hS hc9 hv9 hcl9 => ?_) (fun r I1 F1 h H locs hP hO hS => ?_)
  · rcases h with ⟨rfl, h⟩ | ⟨rfl, h⟩ | ⟨rfl, h⟩ | ⟨rfl, h⟩
    · refine vx_catch (own := RL) (name := "java/util/NoSuchElementException") hown [] ⟨0, 12, 15, 41⟩ [⟨0, 12, 19, 15⟩, ⟨0, 12, 23, 13⟩, ⟨0, 12, 27, 35⟩] htab (fun z hz => by cases hz) (by decide) (by decide) (hts (.classLink RL 41 "java/util/NoSuchElementException") (by decide +kernel)) (tw_cast hT (by decide +kernel)) hc9 hv9 hcl9 ?_
      refine lv_astore (lv' := [(5, .ref q9), (0, .ref (ad 0)), (1, .int x1), (2, .int x2), (3, .int x3), (4, .ref ao)]) hx hb dL_cancel_15 hl (by decide) rfl (fun ls hl => ?_)
      refine lv_iconst (v := (1 : Int32)) hx hb dL_cancel_17 (by decide) ?_
      exact W.iret (v := (1 : Int32)) hx hb hr (fun t ht hW => ⟨⟨(1 : Int32), ((I1, F1), g), rfl, h, by show va_P _ _ _ t.heap; rw [ht]; exact hP, by show va_P _ _ _ t.heap; rw [ht]; exact hO⟩, hS.F ht⟩) hS.2.2 dL_cancel_18
    · refine vx_catch (own := RL) (name := "java/lang/IllegalArgumentException") hown [⟨0, 12, 15, 41⟩] ⟨0, 12, 19, 15⟩ [⟨0, 12, 23, 13⟩, ⟨0, 12, 27, 35⟩] htab (fun z hz => by rcases List.mem_singleton.mp hz with rfl; exact Or.inr ⟨by decide, "java/util/NoSuchElementException", hts (.classLink RL 41 "java/util/NoSuchElementException") (by decide +kernel), hC ("java/lang/IllegalArgumentException", "java/util/NoSuchElementException") (by decide +kernel)⟩) (by decide) (by decide) (hts (.classLink RL 15 "java/lang/IllegalArgumentException") (by decide +kernel)) (tw_cast hT (by decide +kernel)) hc9 hv9 hcl9 ?_
      refine lv_astore (lv' := [(5, .ref q9), (0, .ref (ad 0)), (1, .int x1), (2, .int x2), (3, .int x3), (4, .ref ao)]) hx hb dL_cancel_19 hl (by decide) rfl (fun ls hl => ?_)
      refine lv_iconst (v := (2 : Int32)) hx hb dL_cancel_21 (by decide) ?_
      exact W.iret (v := (2 : Int32)) hx hb hr (fun t ht hW => ⟨⟨(2 : Int32), ((I1, F1), g), rfl, h, by show va_P _ _ _ t.heap; rw [ht]; exact hP, by show va_P _ _ _ t.heap; rw [ht]; exact hO⟩, hS.F ht⟩) hS.2.2 dL_cancel_22
    · refine vx_catch (own := RL) (name := "java/lang/IllegalStateException") hown [⟨0, 12, 15, 41⟩, ⟨0, 12, 19, 15⟩] ⟨0, 12, 23, 13⟩ [⟨0, 12, 27, 35⟩] htab (fun z hz => by
      simp only [List.mem_cons, List.not_mem_nil, or_false] at hz
      rcases hz with rfl | rfl
      · exact Or.inr ⟨by decide, "java/util/NoSuchElementException", hts (.classLink RL 41 "java/util/NoSuchElementException") (by decide +kernel), hC ("java/lang/IllegalStateException", "java/util/NoSuchElementException") (by decide +kernel)⟩
      · exact Or.inr ⟨by decide, "java/lang/IllegalArgumentException", hts (.classLink RL 15 "java/lang/IllegalArgumentException") (by decide +kernel), hC ("java/lang/IllegalStateException", "java/lang/IllegalArgumentException") (by decide +kernel)⟩) (by decide) (by decide) (hts (.classLink RL 13 "java/lang/IllegalStateException") (by decide +kernel)) (tw_cast hT (by decide +kernel)) hc9 hv9 hcl9 ?_
      refine lv_astore (lv' := [(5, .ref q9), (0, .ref (ad 0)), (1, .int x1), (2, .int x2), (3, .int x3), (4, .ref ao)]) hx hb dL_cancel_23 hl (by decide) rfl (fun ls hl => ?_)
      refine lv_iconst (v := (3 : Int32)) hx hb dL_cancel_25 (by decide) ?_
      exact W.iret (v := (3 : Int32)) hx hb hr (fun t ht hW => ⟨⟨(3 : Int32), ((I1, F1), g), rfl, h, by show va_P _ _ _ t.heap; rw [ht]; exact hP, by show va_P _ _ _ t.heap; rw [ht]; exact hO⟩, hS.F ht⟩) hS.2.2 dL_cancel_26
    · refine vx_catch (own := RL) (name := "java/lang/UnsupportedOperationException") hown [⟨0, 12, 15, 41⟩, ⟨0, 12, 19, 15⟩, ⟨0, 12, 23, 13⟩] ⟨0, 12, 27, 35⟩ [] htab (fun z hz => by
      simp only [List.mem_cons, List.not_mem_nil, or_false] at hz
      rcases hz with rfl | rfl | rfl
      · exact Or.inr ⟨by decide, "java/util/NoSuchElementException", hts (.classLink RL 41 "java/util/NoSuchElementException") (by decide +kernel), hC ("java/lang/UnsupportedOperationException", "java/util/NoSuchElementException") (by decide +kernel)⟩
      · exact Or.inr ⟨by decide, "java/lang/IllegalArgumentException", hts (.classLink RL 15 "java/lang/IllegalArgumentException") (by decide +kernel), hC ("java/lang/UnsupportedOperationException", "java/lang/IllegalArgumentException") (by decide +kernel)⟩
      · exact Or.inr ⟨by decide, "java/lang/IllegalStateException", hts (.classLink RL 13 "java/lang/IllegalStateException") (by decide +kernel), hC ("java/lang/UnsupportedOperationException", "java/lang/IllegalStateException") (by decide +kernel)⟩) (by decide) (by decide) (hts (.classLink RL 35 "java/lang/UnsupportedOperationException") (by decide +kernel)) (tw_cast hT (by decide +kernel)) hc9 hv9 hcl9 ?_
      refine lv_astore (lv' := [(5, .ref q9), (0, .ref (ad 0)), (1, .int x1), (2, .int x2), (3, .int x3), (4, .ref ao)]) hx hb dL_cancel_27 hl (by decide) rfl (fun ls hl => ?_)
      refine lv_iconst (v := (4 : Int32)) hx hb dL_cancel_29 (by decide) ?_
      exact W.iret (v := (4 : Int32)) hx hb hr (fun t ht hW => ⟨⟨(4 : Int32), ((I1, F1), g), rfl, h, by show va_P _ _ _ t.heap; rw [ht]; exact hP, by show va_P _ _ _ t.heap; rw [ht]; exact hO⟩, hS.F ht⟩) hS.2.2 dL_cancel_30
  · refine lv_i2l (v := r.toInt64) hx hb dL_cancel_10 rfl ?_
    refine last_h hx hb hK2 hP hO (hD _ _) hAo (hap.any (wC_fix cI ad) _ _) hS dL_cancel_11 (fun H locs hP hO hS => ?_)
    refine lv_goto (tgt := 31) hx hb dL_cancel_12 (by decide) ?_
    refine lv_iconst (v := (0 : Int32)) hx hb dL_cancel_31 (by decide) ?_
    exact W.iret (v := (0 : Int32)) hx hb hr (fun t ht hW => ⟨⟨(0 : Int32), ((I1, F1), vp_updL g 0 r.toInt64), rfl, h, by show va_P _ _ _ t.heap; rw [ht]; exact hP, by show va_P _ _ _ t.heap; rw [ht]; exact hO⟩, hS.F ht⟩) hS.2.2 dL_cancel_32
def wL_reinstate (I : Nat → Int32) (F : Nat → Nat → Int32) (g : Nat → Int64) (x1 x2 : Int32) (post : Int32 → (Nat → Int32) → (Nat → Nat → Int32) → (Nat → Int64) → Prop) : Prop := wX4_reinstate I F x1 x2 (fun r I1 F1 => post (0 : Int32) I1 F1 (vp_updL g 0 r.toInt64)) (fun E I1 F1 => (E = "java/util/NoSuchElementException" ∧ post (1 : Int32) I1 F1 g) ∨ (E = "java/lang/IllegalArgumentException" ∧ post (2 : Int32) I1 F1 g) ∨ (E = "java/lang/IllegalStateException" ∧ post (3 : Int32) I1 F1 g) ∨ (E = "java/lang/UnsupportedOperationException" ∧ post (4 : Int32) I1 F1 g))
set_option maxHeartbeats 4000000 in
set_option maxRecDepth 100000 in
theorem cTL_reinstate (l : Launch) (hst : l.stackTraces = false) (dC : Nat → ClassId) (dI : Nat → Nat → Nat) (cI cJ : ClassId) (ad : Nat → Nat) (ao : Nat) (I : Nat → Int32) (F : Nat → Nat → Int32) (g : Nat → Int64) (sz : Nat) (x1 x2 : Int32) (post : Int32 → (Nat → Int32) → (Nat → Nat → Int32) → (Nat → Int64) → Prop) (h : wL_reinstate I F g x1 x2 post) : Met l yL_reinstate wsL_reinstate { frames := 9, cells := 1, slots := 6, locals := 177 } (va_Pc [.ref (ad 0), .int x1, .int x2, .ref ao] (PH dC dI cI cJ ad ao I F g sz)) (QH dC dI cI cJ ad ao post (AH cI ad ao I F sz)) 1 6 (AH cI ad ao I F sz) := by
  refine va_MetW (cc := cL_reinstate) (maxL := 5) (ret := (some .int)) (by decide) rfl ?_
  intro p e s m args below meth c s₁ B hml hv
  obtain ⟨rfl, hsz, hP, hO, hK2, hN, hD0, hap, hT, hC, hZ⟩ := hv
  subst hsz
  have hK : va_K (dC, dI) vwCl [(cI, .int)] s := hK2.sub [0] rfl
  have hx := B.exec
  have hb := B.bytes
  have hr := B.returns
  have hts := atoms_spec (ws := wsL_reinstate) B.pre
  have htab := vx_table (x := yL_reinstate) B (hts _ List.mem_cons_self)
  have hown : s.vm.findClass RL = some m.cls := findClass_of_methodNamed B.named
  have hlocks := B.notSynchronized
  have hD := wD_any (wC_fix cI ad) ((hD0.self (sz := s.heap.size)).weaken (B := AH cI ad ao I F s.heap.size) (fun _ _ _ h => Or.inl h))
  have hA : ∀ q : Nat, s.heap.size ≤ q → AH cI ad ao I F s.heap.size q := fun q h => Or.inl (Or.inr h)
  have hAo : AH cI ad ao I F s.heap.size ao := Or.inr rfl
  generalize AH cI ad ao I F s.heap.size = A at hD hA hAo hZ ⊢
  have hS : va_S A s.heap s.heap [] := va_S.rf
  have hl := lv_entry ([.ref (ad 0), .int x1, .int x2, .ref ao]) (n := 5) (Nat.le_of_ble_eq_true rfl)
  rw [lg_entry_eq]
  generalize (lg_sl ([.ref (ad 0), .int x1, .int x2, .ref ao]) ++ List.replicate (5 - (lg_sl ([.ref (ad 0), .int x1, .int x2, .ref ao])).length) Slot.unset).toArray = ls at hl ⊢
  have hl : lv_has ls 5 [(0, .ref (ad 0)), (1, .int x1), (2, .int x2), (3, .ref ao)] := hl
  unfold wL_reinstate at h
  refine lv_aload_n hx hb dL_reinstate_0 rfl (lv_at hl 3 rfl) ?_
  refine lv_iconst (v := (0 : Int32)) hx hb dL_reinstate_1 (by decide) ?_
  refine lv_aload_n hx hb dL_reinstate_2 rfl (lv_at hl 0 rfl) ?_
  refine lv_iload_n hx hb dL_reinstate_3 rfl (lv_at hl 1 rfl) ?_
  refine lv_iload_n hx hb dL_reinstate_4 rfl (lv_at hl 2 rfl) ?_
  refine hcall_i (wf := wC cI ad) (vx_runV (As := [.int x1, .int x2]) (rest := [.int (0 : Int32), .ref ao]) ⟨hx, hb, hml, hown, hts⟩ (cTX4_reinstate l hst dC dI cI ad I F s.heap.size x1 x2 _ _ h) (cwV 2 hts gL_reinstate_X4_reinstate rfl rfl rfl (by decide +kernel) ⟨(Nat.le_of_ble_eq_true rfl), (Nat.le_of_ble_eq_true rfl)⟩) (pv_T hP hK hN hT hZ hS hD hA 0 4 rfl rfl _) rfl rfl hl.1 rfl (lv_room (Nat.le_of_ble_eq_true rfl)) dL_reinstate_5 ⟨(Nat.le_of_ble_eq_true rfl), (Nat.le_of_ble_eq_true rfl)⟩) hD hS hA hO hap (fun E ce q9 I1 F1 h H locs hP hO hS hc9 hv9 hcl9 => ?_) (fun r I1 F1 h H locs hP hO hS => ?_)
  · rcases h with ⟨rfl, h⟩ | ⟨rfl, h⟩ | ⟨rfl, h⟩ | ⟨rfl, h⟩
    · refine vx_catch (own := RL) (name := "java/util/NoSuchElementException") hown [] ⟨0, 10, 13, 41⟩ [⟨0, 10, 17, 15⟩, ⟨0, 10, 21, 13⟩, ⟨0, 10, 25, 35⟩] htab (fun z hz => by cases hz) (by decide) (by decide) (hts (.classLink RL 41 "java/util/NoSuchElementException") (by decide +kernel)) (tw_cast hT (by decide +kernel)) hc9 hv9 hcl9 ?_
      refine lv_astore (lv' := [(4, .ref q9), (0, .ref (ad 0)), (1, .int x1), (2, .int x2), (3, .ref ao)]) hx hb dL_reinstate_13 hl (by decide) rfl (fun ls hl => ?_)
      refine lv_iconst (v := (1 : Int32)) hx hb dL_reinstate_15 (by decide) ?_
      exact W.iret (v := (1 : Int32)) hx hb hr (fun t ht hW => ⟨⟨(1 : Int32), ((I1, F1), g), rfl, h, by show va_P _ _ _ t.heap; rw [ht]; exact hP, by show va_P _ _ _ t.heap; rw [ht]; exact hO⟩, hS.F ht⟩) hS.2.2 dL_reinstate_16
    · refine vx_catch (own := RL) (name := "java/lang/IllegalArgumentException") hown [⟨0, 10, 13, 41⟩] ⟨0, 10, 17, 15⟩ [⟨0, 10, 21, 13⟩, ⟨0, 10, 25, 35⟩] htab (fun z hz => by rcases List.mem_singleton.mp hz with rfl; exact Or.inr ⟨by decide, "java/util/NoSuchElementException", hts (.classLink RL 41 "java/util/NoSuchElementException") (by decide +kernel), hC ("java/lang/IllegalArgumentException", "java/util/NoSuchElementException") (by decide +kernel)⟩) (by decide) (by decide) (hts (.classLink RL 15 "java/lang/IllegalArgumentException") (by decide +kernel)) (tw_cast hT (by decide +kernel)) hc9 hv9 hcl9 ?_
      refine lv_astore (lv' := [(4, .ref q9), (0, .ref (ad 0)), (1, .int x1), (2, .int x2), (3, .ref ao)]) hx hb dL_reinstate_17 hl (by decide) rfl (fun ls hl => ?_)
      refine lv_iconst (v := (2 : Int32)) hx hb dL_reinstate_19 (by decide) ?_
      exact W.iret (v := (2 : Int32)) hx hb hr (fun t ht hW => ⟨⟨(2 : Int32), ((I1, F1), g), rfl, h, by show va_P _ _ _ t.heap; rw [ht]; exact hP, by show va_P _ _ _ t.heap; rw [ht]; exact hO⟩, hS.F ht⟩) hS.2.2 dL_reinstate_20
    · refine vx_catch (own := RL) (name := "java/lang/IllegalStateException") hown [⟨0, 10, 13, 41⟩, ⟨0, 10, 17, 15⟩] ⟨0, 10, 21, 13⟩ [⟨0, 10, 25, 35⟩] htab (fun z hz => by
      simp only [List.mem_cons, List.not_mem_nil, or_false] at hz
      rcases hz with rfl | rfl
      · exact Or.inr ⟨by decide, "java/util/NoSuchElementException", hts (.classLink RL 41 "java/util/NoSuchElementException") (by decide +kernel), hC ("java/lang/IllegalStateException", "java/util/NoSuchElementException") (by decide +kernel)⟩
      · exact Or.inr ⟨by decide, "java/lang/IllegalArgumentException", hts (.classLink RL 15 "java/lang/IllegalArgumentException") (by decide +kernel), hC ("java/lang/IllegalStateException", "java/lang/IllegalArgumentException") (by decide +kernel)⟩) (by decide) (by decide) (hts (.classLink RL 13 "java/lang/IllegalStateException") (by decide +kernel)) (tw_cast hT (by decide +kernel)) hc9 hv9 hcl9 ?_
      refine lv_astore (lv' := [(4, .ref q9), (0, .ref (ad 0)), (1, .int x1), (2, .int x2), (3, .ref ao)]) hx hb dL_reinstate_21 hl (by decide) rfl (fun ls hl => ?_)
      refine lv_iconst (v := (3 : Int32)) hx hb dL_reinstate_23 (by decide) ?_
      exact W.iret (v := (3 : Int32)) hx hb hr (fun t ht hW => ⟨⟨(3 : Int32), ((I1, F1), g), rfl, h, by show va_P _ _ _ t.heap; rw [ht]; exact hP, by show va_P _ _ _ t.heap; rw [ht]; exact hO⟩, hS.F ht⟩) hS.2.2 dL_reinstate_24
    · refine vx_catch (own := RL) (name := "java/lang/UnsupportedOperationException") hown [⟨0, 10, 13, 41⟩, ⟨0, 10, 17, 15⟩, ⟨0, 10, 21, 13⟩] ⟨0, 10, 25, 35⟩ [] htab (fun z hz => by
      simp only [List.mem_cons, List.not_mem_nil, or_false] at hz
      rcases hz with rfl | rfl | rfl
      · exact Or.inr ⟨by decide, "java/util/NoSuchElementException", hts (.classLink RL 41 "java/util/NoSuchElementException") (by decide +kernel), hC ("java/lang/UnsupportedOperationException", "java/util/NoSuchElementException") (by decide +kernel)⟩
      · exact Or.inr ⟨by decide, "java/lang/IllegalArgumentException", hts (.classLink RL 15 "java/lang/IllegalArgumentException") (by decide +kernel), hC ("java/lang/UnsupportedOperationException", "java/lang/IllegalArgumentException") (by decide +kernel)⟩
      · exact Or.inr ⟨by decide, "java/lang/IllegalStateException", hts (.classLink RL 13 "java/lang/IllegalStateException") (by decide +kernel), hC ("java/lang/UnsupportedOperationException", "java/lang/IllegalStateException") (by decide +kernel)⟩) (by decide) (by decide) (hts (.classLink RL 35 "java/lang/UnsupportedOperationException") (by decide +kernel)) (tw_cast hT (by decide +kernel)) hc9 hv9 hcl9 ?_
      refine lv_astore (lv' := [(4, .ref q9), (0, .ref (ad 0)), (1, .int x1), (2, .int x2), (3, .ref ao)]) hx hb dL_reinstate_25 hl (by decide) rfl (fun ls hl => ?_)
      refine lv_iconst (v := (4 : Int32)) hx hb dL_reinstate_27 (by decide) ?_
      exact W.iret (v := (4 : Int32)) hx hb hr (fun t ht hW => ⟨⟨(4 : Int32), ((I1, F1), g), rfl, h, by show va_P _ _ _ t.heap; rw [ht]; exact hP, by show va_P _ _ _ t.heap; rw [ht]; exact hO⟩, hS.F ht⟩) hS.2.2 dL_reinstate_28
  · refine lv_i2l (v := r.toInt64) hx hb dL_reinstate_8 rfl ?_
    refine last_h hx hb hK2 hP hO (hD _ _) hAo (hap.any (wC_fix cI ad) _ _) hS dL_reinstate_9 (fun H locs hP hO hS => ?_)
    refine lv_goto (tgt := 29) hx hb dL_reinstate_10 (by decide) ?_
    refine lv_iconst (v := (0 : Int32)) hx hb dL_reinstate_29 (by decide) ?_
    exact W.iret (v := (0 : Int32)) hx hb hr (fun t ht hW => ⟨⟨(0 : Int32), ((I1, F1), vp_updL g 0 r.toInt64), rfl, h, by show va_P _ _ _ t.heap; rw [ht]; exact hP, by show va_P _ _ _ t.heap; rw [ht]; exact hO⟩, hS.F ht⟩) hS.2.2 dL_reinstate_30
def wL_claim (I : Nat → Int32) (F : Nat → Nat → Int32) (g : Nat → Int64) (x1 x2 x3 : Int32) (post : Int32 → (Nat → Int32) → (Nat → Nat → Int32) → (Nat → Int64) → Prop) : Prop := wX4_claim I F x1 x2 x3 (fun r I1 F1 => post (0 : Int32) I1 F1 (vp_updL g 0 r.toInt64)) (fun E I1 F1 => (E = "java/util/NoSuchElementException" ∧ post (1 : Int32) I1 F1 g) ∨ (E = "java/lang/IllegalArgumentException" ∧ post (2 : Int32) I1 F1 g) ∨ (E = "java/lang/IllegalStateException" ∧ post (3 : Int32) I1 F1 g) ∨ (E = "java/lang/UnsupportedOperationException" ∧ post (4 : Int32) I1 F1 g))
set_option maxHeartbeats 4000000 in
set_option maxRecDepth 100000 in
theorem cTL_claim (l : Launch) (hst : l.stackTraces = false) (dC : Nat → ClassId) (dI : Nat → Nat → Nat) (cI cJ : ClassId) (ad : Nat → Nat) (ao : Nat) (I : Nat → Int32) (F : Nat → Nat → Int32) (g : Nat → Int64) (sz : Nat) (x1 x2 x3 : Int32) (post : Int32 → (Nat → Int32) → (Nat → Nat → Int32) → (Nat → Int64) → Prop) (h : wL_claim I F g x1 x2 x3 post) : Met l yL_claim wsL_claim { frames := 8, cells := 1, slots := 6, locals := 139 } (va_Pc [.ref (ad 0), .int x1, .int x2, .int x3, .ref ao] (PH dC dI cI cJ ad ao I F g sz)) (QH dC dI cI cJ ad ao post (AH cI ad ao I F sz)) 1 6 (AH cI ad ao I F sz) := by
  refine va_MetW (cc := cL_claim) (maxL := 6) (ret := (some .int)) (by decide) rfl ?_
  intro p e s m args below meth c s₁ B hml hv
  obtain ⟨rfl, hsz, hP, hO, hK2, hN, hD0, hap, hT, hC, hZ⟩ := hv
  subst hsz
  have hK : va_K (dC, dI) vwCl [(cI, .int)] s := hK2.sub [0] rfl
  have hx := B.exec
  have hb := B.bytes
  have hr := B.returns
  have hts := atoms_spec (ws := wsL_claim) B.pre
  have htab := vx_table (x := yL_claim) B (hts _ List.mem_cons_self)
  have hown : s.vm.findClass RL = some m.cls := findClass_of_methodNamed B.named
  have hlocks := B.notSynchronized
  have hD := wD_any (wC_fix cI ad) ((hD0.self (sz := s.heap.size)).weaken (B := AH cI ad ao I F s.heap.size) (fun _ _ _ h => Or.inl h))
  have hA : ∀ q : Nat, s.heap.size ≤ q → AH cI ad ao I F s.heap.size q := fun q h => Or.inl (Or.inr h)
  have hAo : AH cI ad ao I F s.heap.size ao := Or.inr rfl
  generalize AH cI ad ao I F s.heap.size = A at hD hA hAo hZ ⊢
  have hS : va_S A s.heap s.heap [] := va_S.rf
  have hl := lv_entry ([.ref (ad 0), .int x1, .int x2, .int x3, .ref ao]) (n := 6) (Nat.le_of_ble_eq_true rfl)
  rw [lg_entry_eq]
  generalize (lg_sl ([.ref (ad 0), .int x1, .int x2, .int x3, .ref ao]) ++ List.replicate (6 - (lg_sl ([.ref (ad 0), .int x1, .int x2, .int x3, .ref ao])).length) Slot.unset).toArray = ls at hl ⊢
  have hl : lv_has ls 6 [(0, .ref (ad 0)), (1, .int x1), (2, .int x2), (3, .int x3), (4, .ref ao)] := hl
  unfold wL_claim at h
  refine lv_aload hx hb dL_claim_0 (lv_at hl 4 rfl) ?_
  refine lv_iconst (v := (0 : Int32)) hx hb dL_claim_2 (by decide) ?_
  refine lv_aload_n hx hb dL_claim_3 rfl (lv_at hl 0 rfl) ?_
  refine lv_iload_n hx hb dL_claim_4 rfl (lv_at hl 1 rfl) ?_
  refine lv_iload_n hx hb dL_claim_5 rfl (lv_at hl 2 rfl) ?_
  refine lv_iload_n hx hb dL_claim_6 rfl (lv_at hl 3 rfl) ?_
  refine hcall_i (wf := wC cI ad) (vx_runV (As := [.int x1, .int x2, .int x3]) (rest := [.int (0 : Int32), .ref ao]) ⟨hx, hb, hml, hown, hts⟩ (cTX4_claim l hst dC dI cI ad I F s.heap.size x1 x2 x3 _ _ h) (cwV 3 hts gL_claim_X4_claim rfl rfl rfl (by decide +kernel) ⟨(Nat.le_of_ble_eq_true rfl), (Nat.le_of_ble_eq_true rfl)⟩) (pv_T hP hK hN hT hZ hS hD hA 0 4 rfl rfl _) rfl rfl hl.1 rfl (lv_room (Nat.le_of_ble_eq_true rfl)) dL_claim_7 ⟨(Nat.le_of_ble_eq_true rfl), (Nat.le_of_ble_eq_true rfl)⟩) hD hS hA hO hap (fun E ce q9 I1 F1 h H locs hP hO hS hc9 hv9 hcl9 => ?_) (fun r I1 F1 h H locs hP hO hS => ?_)
  · rcases h with ⟨rfl, h⟩ | ⟨rfl, h⟩ | ⟨rfl, h⟩ | ⟨rfl, h⟩
    · refine vx_catch (own := RL) (name := "java/util/NoSuchElementException") hown [] ⟨0, 12, 15, 41⟩ [⟨0, 12, 19, 15⟩, ⟨0, 12, 23, 13⟩, ⟨0, 12, 27, 35⟩] htab (fun z hz => by cases hz) (by decide) (by decide) (hts (.classLink RL 41 "java/util/NoSuchElementException") (by decide +kernel)) (tw_cast hT (by decide +kernel)) hc9 hv9 hcl9 ?_
      refine lv_astore (lv' := [(5, .ref q9), (0, .ref (ad 0)), (1, .int x1), (2, .int x2), (3, .int x3), (4, .ref ao)]) hx hb dL_claim_15 hl (by decide) rfl (fun ls hl => ?_)
      refine lv_iconst (v := (1 : Int32)) hx hb dL_claim_17 (by decide) ?_
      exact W.iret (v := (1 : Int32)) hx hb hr (fun t ht hW => ⟨⟨(1 : Int32), ((I1, F1), g), rfl, h, by show va_P _ _ _ t.heap; rw [ht]; exact hP, by show va_P _ _ _ t.heap; rw [ht]; exact hO⟩, hS.F ht⟩) hS.2.2 dL_claim_18
    · refine vx_catch (own := RL) (name := "java/lang/IllegalArgumentException") hown [⟨0, 12, 15, 41⟩] ⟨0, 12, 19, 15⟩ [⟨0, 12, 23, 13⟩, ⟨0, 12, 27, 35⟩] htab (fun z hz => by rcases List.mem_singleton.mp hz with rfl; exact Or.inr ⟨by decide, "java/util/NoSuchElementException", hts (.classLink RL 41 "java/util/NoSuchElementException") (by decide +kernel), hC ("java/lang/IllegalArgumentException", "java/util/NoSuchElementException") (by decide +kernel)⟩) (by decide) (by decide) (hts (.classLink RL 15 "java/lang/IllegalArgumentException") (by decide +kernel)) (tw_cast hT (by decide +kernel)) hc9 hv9 hcl9 ?_
      refine lv_astore (lv' := [(5, .ref q9), (0, .ref (ad 0)), (1, .int x1), (2, .int x2), (3, .int x3), (4, .ref ao)]) hx hb dL_claim_19 hl (by decide) rfl (fun ls hl => ?_)
      refine lv_iconst (v := (2 : Int32)) hx hb dL_claim_21 (by decide) ?_
      exact W.iret (v := (2 : Int32)) hx hb hr (fun t ht hW => ⟨⟨(2 : Int32), ((I1, F1), g), rfl, h, by show va_P _ _ _ t.heap; rw [ht]; exact hP, by show va_P _ _ _ t.heap; rw [ht]; exact hO⟩, hS.F ht⟩) hS.2.2 dL_claim_22
    · refine vx_catch (own := RL) (name := "java/lang/IllegalStateException") hown [⟨0, 12, 15, 41⟩, ⟨0, 12, 19, 15⟩] ⟨0, 12, 23, 13⟩ [⟨0, 12, 27, 35⟩] htab (fun z hz => by
      simp only [List.mem_cons, List.not_mem_nil, or_false] at hz
      rcases hz with rfl | rfl
      · exact Or.inr ⟨by decide, "java/util/NoSuchElementException", hts (.classLink RL 41 "java/util/NoSuchElementException") (by decide +kernel), hC ("java/lang/IllegalStateException", "java/util/NoSuchElementException") (by decide +kernel)⟩
      · exact Or.inr ⟨by decide, "java/lang/IllegalArgumentException", hts (.classLink RL 15 "java/lang/IllegalArgumentException") (by decide +kernel), hC ("java/lang/IllegalStateException", "java/lang/IllegalArgumentException") (by decide +kernel)⟩) (by decide) (by decide) (hts (.classLink RL 13 "java/lang/IllegalStateException") (by decide +kernel)) (tw_cast hT (by decide +kernel)) hc9 hv9 hcl9 ?_
      refine lv_astore (lv' := [(5, .ref q9), (0, .ref (ad 0)), (1, .int x1), (2, .int x2), (3, .int x3), (4, .ref ao)]) hx hb dL_claim_23 hl (by decide) rfl (fun ls hl => ?_)
      refine lv_iconst (v := (3 : Int32)) hx hb dL_claim_25 (by decide) ?_
      exact W.iret (v := (3 : Int32)) hx hb hr (fun t ht hW => ⟨⟨(3 : Int32), ((I1, F1), g), rfl, h, by show va_P _ _ _ t.heap; rw [ht]; exact hP, by show va_P _ _ _ t.heap; rw [ht]; exact hO⟩, hS.F ht⟩) hS.2.2 dL_claim_26
    · refine vx_catch (own := RL) (name := "java/lang/UnsupportedOperationException") hown [⟨0, 12, 15, 41⟩, ⟨0, 12, 19, 15⟩, ⟨0, 12, 23, 13⟩] ⟨0, 12, 27, 35⟩ [] htab (fun z hz => by
      simp only [List.mem_cons, List.not_mem_nil, or_false] at hz
      rcases hz with rfl | rfl | rfl
      · exact Or.inr ⟨by decide, "java/util/NoSuchElementException", hts (.classLink RL 41 "java/util/NoSuchElementException") (by decide +kernel), hC ("java/lang/UnsupportedOperationException", "java/util/NoSuchElementException") (by decide +kernel)⟩
      · exact Or.inr ⟨by decide, "java/lang/IllegalArgumentException", hts (.classLink RL 15 "java/lang/IllegalArgumentException") (by decide +kernel), hC ("java/lang/UnsupportedOperationException", "java/lang/IllegalArgumentException") (by decide +kernel)⟩
      · exact Or.inr ⟨by decide, "java/lang/IllegalStateException", hts (.classLink RL 13 "java/lang/IllegalStateException") (by decide +kernel), hC ("java/lang/UnsupportedOperationException", "java/lang/IllegalStateException") (by decide +kernel)⟩) (by decide) (by decide) (hts (.classLink RL 35 "java/lang/UnsupportedOperationException") (by decide +kernel)) (tw_cast hT (by decide +kernel)) hc9 hv9 hcl9 ?_
      refine lv_astore (lv' := [(5, .ref q9), (0, .ref (ad 0)), (1, .int x1), (2, .int x2), (3, .int x3), (4, .ref ao)]) hx hb dL_claim_27 hl (by decide) rfl (fun ls hl => ?_)
      refine lv_iconst (v := (4 : Int32)) hx hb dL_claim_29 (by decide) ?_
      exact W.iret (v := (4 : Int32)) hx hb hr (fun t ht hW => ⟨⟨(4 : Int32), ((I1, F1), g), rfl, h, by show va_P _ _ _ t.heap; rw [ht]; exact hP, by show va_P _ _ _ t.heap; rw [ht]; exact hO⟩, hS.F ht⟩) hS.2.2 dL_claim_30
  · refine lv_i2l (v := r.toInt64) hx hb dL_claim_10 rfl ?_
    refine last_h hx hb hK2 hP hO (hD _ _) hAo (hap.any (wC_fix cI ad) _ _) hS dL_claim_11 (fun H locs hP hO hS => ?_)
    refine lv_goto (tgt := 31) hx hb dL_claim_12 (by decide) ?_
    refine lv_iconst (v := (0 : Int32)) hx hb dL_claim_31 (by decide) ?_
    exact W.iret (v := (0 : Int32)) hx hb hr (fun t ht hW => ⟨⟨(0 : Int32), ((I1, F1), vp_updL g 0 r.toInt64), rfl, h, by show va_P _ _ _ t.heap; rw [ht]; exact hP, by show va_P _ _ _ t.heap; rw [ht]; exact hO⟩, hS.F ht⟩) hS.2.2 dL_claim_32
def wL_fact (I : Nat → Int32) (F : Nat → Nat → Int32) (g : Nat → Int64) (x1 x2 x3 x4 : Int32) (post : Int32 → (Nat → Int32) → (Nat → Nat → Int32) → (Nat → Int64) → Prop) : Prop := wX4_fact I F x1 x2 x3 x4 (fun r I1 F1 => post (0 : Int32) I1 F1 (vp_updL g 0 r.toInt64)) (fun E I1 F1 => (E = "java/util/NoSuchElementException" ∧ post (1 : Int32) I1 F1 g))
set_option maxHeartbeats 4000000 in
set_option maxRecDepth 100000 in
theorem cTL_fact (l : Launch) (hst : l.stackTraces = false) (dC : Nat → ClassId) (dI : Nat → Nat → Nat) (cI cJ : ClassId) (ad : Nat → Nat) (ao : Nat) (I : Nat → Int32) (F : Nat → Nat → Int32) (g : Nat → Int64) (sz : Nat) (x1 x2 x3 x4 : Int32) (post : Int32 → (Nat → Int32) → (Nat → Nat → Int32) → (Nat → Int64) → Prop) (h : wL_fact I F g x1 x2 x3 x4 post) : Met l yL_fact wsL_fact { frames := 7, cells := 1, slots := 6, locals := 114 } (va_Pc [.ref (ad 0), .int x1, .int x2, .int x3, .int x4, .ref ao] (PH dC dI cI cJ ad ao I F g sz)) (QH dC dI cI cJ ad ao post (AH cI ad ao I F sz)) 1 6 (AH cI ad ao I F sz) := by
  refine va_MetW (cc := cL_fact) (maxL := 7) (ret := (some .int)) (by decide) rfl ?_
  intro p e s m args below meth c s₁ B hml hv
  obtain ⟨rfl, hsz, hP, hO, hK2, hN, hD0, hap, hT, hC, hZ⟩ := hv
  subst hsz
  have hK : va_K (dC, dI) vwCl [(cI, .int)] s := hK2.sub [0] rfl
  have hx := B.exec
  have hb := B.bytes
  have hr := B.returns
  have hts := atoms_spec (ws := wsL_fact) B.pre
  have htab := vx_table (x := yL_fact) B (hts _ List.mem_cons_self)
  have hown : s.vm.findClass RL = some m.cls := findClass_of_methodNamed B.named
  have hlocks := B.notSynchronized
  have hD := wD_any (wC_fix cI ad) ((hD0.self (sz := s.heap.size)).weaken (B := AH cI ad ao I F s.heap.size) (fun _ _ _ h => Or.inl h))
  have hA : ∀ q : Nat, s.heap.size ≤ q → AH cI ad ao I F s.heap.size q := fun q h => Or.inl (Or.inr h)
  have hAo : AH cI ad ao I F s.heap.size ao := Or.inr rfl
  generalize AH cI ad ao I F s.heap.size = A at hD hA hAo hZ ⊢
  have hS : va_S A s.heap s.heap [] := va_S.rf
  have hl := lv_entry ([.ref (ad 0), .int x1, .int x2, .int x3, .int x4, .ref ao]) (n := 7) (Nat.le_of_ble_eq_true rfl)
  rw [lg_entry_eq]
  generalize (lg_sl ([.ref (ad 0), .int x1, .int x2, .int x3, .int x4, .ref ao]) ++ List.replicate (7 - (lg_sl ([.ref (ad 0), .int x1, .int x2, .int x3, .int x4, .ref ao])).length) Slot.unset).toArray = ls at hl ⊢
  have hl : lv_has ls 7 [(0, .ref (ad 0)), (1, .int x1), (2, .int x2), (3, .int x3), (4, .int x4), (5, .ref ao)] := hl
  unfold wL_fact at h
  refine lv_aload hx hb dL_fact_0 (lv_at hl 5 rfl) ?_
  refine lv_iconst (v := (0 : Int32)) hx hb dL_fact_2 (by decide) ?_
  refine lv_aload_n hx hb dL_fact_3 rfl (lv_at hl 0 rfl) ?_
  refine lv_iload_n hx hb dL_fact_4 rfl (lv_at hl 1 rfl) ?_
  refine lv_iload_n hx hb dL_fact_5 rfl (lv_at hl 2 rfl) ?_
  refine lv_iload_n hx hb dL_fact_6 rfl (lv_at hl 3 rfl) ?_
  refine lv_iload hx hb dL_fact_7 (lv_at hl 4 rfl) ?_
  refine hcall_i (wf := wC cI ad) (vx_runV (As := [.int x1, .int x2, .int x3, .int x4]) (rest := [.int (0 : Int32), .ref ao]) ⟨hx, hb, hml, hown, hts⟩ (cTX4_fact l hst dC dI cI ad I F s.heap.size x1 x2 x3 x4 _ _ h) (cwV 4 hts gL_fact_X4_fact rfl rfl rfl (by decide +kernel) ⟨(Nat.le_of_ble_eq_true rfl), (Nat.le_of_ble_eq_true rfl)⟩) (pv_T hP hK hN hT hZ hS hD hA 0 4 rfl rfl _) rfl rfl hl.1 rfl (lv_room (Nat.le_of_ble_eq_true rfl)) dL_fact_9 ⟨(Nat.le_of_ble_eq_true rfl), (Nat.le_of_ble_eq_true rfl)⟩) hD hS hA hO hap (fun E ce q9 I1 F1 h H locs hP hO hS hc9 hv9 hcl9 => ?_) (fun r I1 F1 h H locs hP hO hS => ?_)
  · rcases h with ⟨rfl, h⟩
    · refine vx_catch (own := RL) (name := "java/util/NoSuchElementException") hown [] ⟨0, 14, 17, 41⟩ [] htab (fun z hz => by cases hz) (by decide) (by decide) (hts (.classLink RL 41 "java/util/NoSuchElementException") (by decide +kernel)) (tw_cast hT (by decide +kernel)) hc9 hv9 hcl9 ?_
      refine lv_astore (lv' := [(6, .ref q9), (0, .ref (ad 0)), (1, .int x1), (2, .int x2), (3, .int x3), (4, .int x4), (5, .ref ao)]) hx hb dL_fact_17 hl (by decide) rfl (fun ls hl => ?_)
      refine lv_iconst (v := (1 : Int32)) hx hb dL_fact_19 (by decide) ?_
      exact W.iret (v := (1 : Int32)) hx hb hr (fun t ht hW => ⟨⟨(1 : Int32), ((I1, F1), g), rfl, h, by show va_P _ _ _ t.heap; rw [ht]; exact hP, by show va_P _ _ _ t.heap; rw [ht]; exact hO⟩, hS.F ht⟩) hS.2.2 dL_fact_20
  · refine lv_i2l (v := r.toInt64) hx hb dL_fact_12 rfl ?_
    refine last_h hx hb hK2 hP hO (hD _ _) hAo (hap.any (wC_fix cI ad) _ _) hS dL_fact_13 (fun H locs hP hO hS => ?_)
    refine lv_goto (tgt := 21) hx hb dL_fact_14 (by decide) ?_
    refine lv_iconst (v := (0 : Int32)) hx hb dL_fact_21 (by decide) ?_
    exact W.iret (v := (0 : Int32)) hx hb hr (fun t ht hW => ⟨⟨(0 : Int32), ((I1, F1), vp_updL g 0 r.toInt64), rfl, h, by show va_P _ _ _ t.heap; rw [ht]; exact hP, by show va_P _ _ _ t.heap; rw [ht]; exact hO⟩, hS.F ht⟩) hS.2.2 dL_fact_22
def wL_written (I : Nat → Int32) (F : Nat → Nat → Int32) (g : Nat → Int64) (x1 x2 : Int32) (post : Int32 → (Nat → Int32) → (Nat → Nat → Int32) → (Nat → Int64) → Prop) : Prop := wX4_written I F x1 x2 (fun r I1 F1 => post (0 : Int32) I1 F1 (vp_updL g 0 r.toInt64)) (fun E I1 F1 => (E = "java/util/NoSuchElementException" ∧ post (1 : Int32) I1 F1 g))
set_option maxHeartbeats 4000000 in
set_option maxRecDepth 100000 in
theorem cTL_written (l : Launch) (hst : l.stackTraces = false) (dC : Nat → ClassId) (dI : Nat → Nat → Nat) (cI cJ : ClassId) (ad : Nat → Nat) (ao : Nat) (I : Nat → Int32) (F : Nat → Nat → Int32) (g : Nat → Int64) (sz : Nat) (x1 x2 : Int32) (post : Int32 → (Nat → Int32) → (Nat → Nat → Int32) → (Nat → Int64) → Prop) (h : wL_written I F g x1 x2 post) : Met l yL_written wsL_written { frames := 7, cells := 1, slots := 6, locals := 126 } (va_Pc [.ref (ad 0), .int x1, .int x2, .ref ao] (PH dC dI cI cJ ad ao I F g sz)) (QH dC dI cI cJ ad ao post (AH cI ad ao I F sz)) 1 6 (AH cI ad ao I F sz) := by
  refine va_MetW (cc := cL_written) (maxL := 5) (ret := (some .int)) (by decide) rfl ?_
  intro p e s m args below meth c s₁ B hml hv
  obtain ⟨rfl, hsz, hP, hO, hK2, hN, hD0, hap, hT, hC, hZ⟩ := hv
  subst hsz
  have hK : va_K (dC, dI) vwCl [(cI, .int)] s := hK2.sub [0] rfl
  have hx := B.exec
  have hb := B.bytes
  have hr := B.returns
  have hts := atoms_spec (ws := wsL_written) B.pre
  have htab := vx_table (x := yL_written) B (hts _ List.mem_cons_self)
  have hown : s.vm.findClass RL = some m.cls := findClass_of_methodNamed B.named
  have hlocks := B.notSynchronized
  have hD := wD_any (wC_fix cI ad) ((hD0.self (sz := s.heap.size)).weaken (B := AH cI ad ao I F s.heap.size) (fun _ _ _ h => Or.inl h))
  have hA : ∀ q : Nat, s.heap.size ≤ q → AH cI ad ao I F s.heap.size q := fun q h => Or.inl (Or.inr h)
  have hAo : AH cI ad ao I F s.heap.size ao := Or.inr rfl
  generalize AH cI ad ao I F s.heap.size = A at hD hA hAo hZ ⊢
  have hS : va_S A s.heap s.heap [] := va_S.rf
  have hl := lv_entry ([.ref (ad 0), .int x1, .int x2, .ref ao]) (n := 5) (Nat.le_of_ble_eq_true rfl)
  rw [lg_entry_eq]
  generalize (lg_sl ([.ref (ad 0), .int x1, .int x2, .ref ao]) ++ List.replicate (5 - (lg_sl ([.ref (ad 0), .int x1, .int x2, .ref ao])).length) Slot.unset).toArray = ls at hl ⊢
  have hl : lv_has ls 5 [(0, .ref (ad 0)), (1, .int x1), (2, .int x2), (3, .ref ao)] := hl
  unfold wL_written at h
  refine lv_aload_n hx hb dL_written_0 rfl (lv_at hl 3 rfl) ?_
  refine lv_iconst (v := (0 : Int32)) hx hb dL_written_1 (by decide) ?_
  refine lv_aload_n hx hb dL_written_2 rfl (lv_at hl 0 rfl) ?_
  refine lv_iload_n hx hb dL_written_3 rfl (lv_at hl 1 rfl) ?_
  refine lv_iload_n hx hb dL_written_4 rfl (lv_at hl 2 rfl) ?_
  refine hcall_i (wf := wC cI ad) (vx_runV (As := [.int x1, .int x2]) (rest := [.int (0 : Int32), .ref ao]) ⟨hx, hb, hml, hown, hts⟩ (cTX4_written l hst dC dI cI ad I F s.heap.size x1 x2 _ _ h) (cwV 2 hts gL_written_X4_written rfl rfl rfl (by decide +kernel) ⟨(Nat.le_of_ble_eq_true rfl), (Nat.le_of_ble_eq_true rfl)⟩) (pv_T hP hK hN hT hZ hS hD hA 0 4 rfl rfl _) rfl rfl hl.1 rfl (lv_room (Nat.le_of_ble_eq_true rfl)) dL_written_5 ⟨(Nat.le_of_ble_eq_true rfl), (Nat.le_of_ble_eq_true rfl)⟩) hD hS hA hO hap (fun E ce q9 I1 F1 h H locs hP hO hS hc9 hv9 hcl9 => ?_) (fun r I1 F1 h H locs hP hO hS => ?_)
  · rcases h with ⟨rfl, h⟩
    · refine vx_catch (own := RL) (name := "java/util/NoSuchElementException") hown [] ⟨0, 10, 13, 41⟩ [] htab (fun z hz => by cases hz) (by decide) (by decide) (hts (.classLink RL 41 "java/util/NoSuchElementException") (by decide +kernel)) (tw_cast hT (by decide +kernel)) hc9 hv9 hcl9 ?_
      refine lv_astore (lv' := [(4, .ref q9), (0, .ref (ad 0)), (1, .int x1), (2, .int x2), (3, .ref ao)]) hx hb dL_written_13 hl (by decide) rfl (fun ls hl => ?_)
      refine lv_iconst (v := (1 : Int32)) hx hb dL_written_15 (by decide) ?_
      exact W.iret (v := (1 : Int32)) hx hb hr (fun t ht hW => ⟨⟨(1 : Int32), ((I1, F1), g), rfl, h, by show va_P _ _ _ t.heap; rw [ht]; exact hP, by show va_P _ _ _ t.heap; rw [ht]; exact hO⟩, hS.F ht⟩) hS.2.2 dL_written_16
  · refine lv_i2l (v := r.toInt64) hx hb dL_written_8 rfl ?_
    refine last_h hx hb hK2 hP hO (hD _ _) hAo (hap.any (wC_fix cI ad) _ _) hS dL_written_9 (fun H locs hP hO hS => ?_)
    refine lv_goto (tgt := 17) hx hb dL_written_10 (by decide) ?_
    refine lv_iconst (v := (0 : Int32)) hx hb dL_written_17 (by decide) ?_
    exact W.iret (v := (0 : Int32)) hx hb hr (fun t ht hW => ⟨⟨(0 : Int32), ((I1, F1), vp_updL g 0 r.toInt64), rfl, h, by show va_P _ _ _ t.heap; rw [ht]; exact hP, by show va_P _ _ _ t.heap; rw [ht]; exact hO⟩, hS.F ht⟩) hS.2.2 dL_written_18
def wL_earned (I : Nat → Int32) (F : Nat → Nat → Int32) (g : Nat → Int64) (x1 x2 x3 : Int32) (post : Int32 → (Nat → Int32) → (Nat → Nat → Int32) → (Nat → Int64) → Prop) : Prop := wX4_earned I F x1 x2 x3 (fun r I1 F1 => post (0 : Int32) I1 F1 (vp_updL g 0 r.toInt64)) (fun E I1 F1 => (E = "java/util/NoSuchElementException" ∧ post (1 : Int32) I1 F1 g))
set_option maxHeartbeats 4000000 in
set_option maxRecDepth 100000 in
theorem cTL_earned (l : Launch) (hst : l.stackTraces = false) (dC : Nat → ClassId) (dI : Nat → Nat → Nat) (cI cJ : ClassId) (ad : Nat → Nat) (ao : Nat) (I : Nat → Int32) (F : Nat → Nat → Int32) (g : Nat → Int64) (sz : Nat) (x1 x2 x3 : Int32) (post : Int32 → (Nat → Int32) → (Nat → Nat → Int32) → (Nat → Int64) → Prop) (h : wL_earned I F g x1 x2 x3 post) : Met l yL_earned wsL_earned { frames := 7, cells := 1, slots := 6, locals := 127 } (va_Pc [.ref (ad 0), .int x1, .int x2, .int x3, .ref ao] (PH dC dI cI cJ ad ao I F g sz)) (QH dC dI cI cJ ad ao post (AH cI ad ao I F sz)) 1 6 (AH cI ad ao I F sz) := by
  refine va_MetW (cc := cL_earned) (maxL := 6) (ret := (some .int)) (by decide) rfl ?_
  intro p e s m args below meth c s₁ B hml hv
  obtain ⟨rfl, hsz, hP, hO, hK2, hN, hD0, hap, hT, hC, hZ⟩ := hv
  subst hsz
  have hK : va_K (dC, dI) vwCl [(cI, .int)] s := hK2.sub [0] rfl
  have hx := B.exec
  have hb := B.bytes
  have hr := B.returns
  have hts := atoms_spec (ws := wsL_earned) B.pre
  have htab := vx_table (x := yL_earned) B (hts _ List.mem_cons_self)
  have hown : s.vm.findClass RL = some m.cls := findClass_of_methodNamed B.named
  have hlocks := B.notSynchronized
  have hD := wD_any (wC_fix cI ad) ((hD0.self (sz := s.heap.size)).weaken (B := AH cI ad ao I F s.heap.size) (fun _ _ _ h => Or.inl h))
  have hA : ∀ q : Nat, s.heap.size ≤ q → AH cI ad ao I F s.heap.size q := fun q h => Or.inl (Or.inr h)
  have hAo : AH cI ad ao I F s.heap.size ao := Or.inr rfl
  generalize AH cI ad ao I F s.heap.size = A at hD hA hAo hZ ⊢
  have hS : va_S A s.heap s.heap [] := va_S.rf
  have hl := lv_entry ([.ref (ad 0), .int x1, .int x2, .int x3, .ref ao]) (n := 6) (Nat.le_of_ble_eq_true rfl)
  rw [lg_entry_eq]
  generalize (lg_sl ([.ref (ad 0), .int x1, .int x2, .int x3, .ref ao]) ++ List.replicate (6 - (lg_sl ([.ref (ad 0), .int x1, .int x2, .int x3, .ref ao])).length) Slot.unset).toArray = ls at hl ⊢
  have hl : lv_has ls 6 [(0, .ref (ad 0)), (1, .int x1), (2, .int x2), (3, .int x3), (4, .ref ao)] := hl
  unfold wL_earned at h
  refine lv_aload hx hb dL_earned_0 (lv_at hl 4 rfl) ?_
  refine lv_iconst (v := (0 : Int32)) hx hb dL_earned_2 (by decide) ?_
  refine lv_aload_n hx hb dL_earned_3 rfl (lv_at hl 0 rfl) ?_
  refine lv_iload_n hx hb dL_earned_4 rfl (lv_at hl 1 rfl) ?_
  refine lv_iload_n hx hb dL_earned_5 rfl (lv_at hl 2 rfl) ?_
  refine lv_iload_n hx hb dL_earned_6 rfl (lv_at hl 3 rfl) ?_
  refine hcall_i (wf := wC cI ad) (vx_runV (As := [.int x1, .int x2, .int x3]) (rest := [.int (0 : Int32), .ref ao]) ⟨hx, hb, hml, hown, hts⟩ (cTX4_earned l hst dC dI cI ad I F s.heap.size x1 x2 x3 _ _ h) (cwV 3 hts gL_earned_X4_earned rfl rfl rfl (by decide +kernel) ⟨(Nat.le_of_ble_eq_true rfl), (Nat.le_of_ble_eq_true rfl)⟩) (pv_T hP hK hN hT hZ hS hD hA 0 4 rfl rfl _) rfl rfl hl.1 rfl (lv_room (Nat.le_of_ble_eq_true rfl)) dL_earned_7 ⟨(Nat.le_of_ble_eq_true rfl), (Nat.le_of_ble_eq_true rfl)⟩) hD hS hA hO hap (fun E ce q9 I1 F1 h H locs hP hO hS hc9 hv9 hcl9 => ?_) (fun r I1 F1 h H locs hP hO hS => ?_)
  · rcases h with ⟨rfl, h⟩
    · refine vx_catch (own := RL) (name := "java/util/NoSuchElementException") hown [] ⟨0, 12, 15, 41⟩ [] htab (fun z hz => by cases hz) (by decide) (by decide) (hts (.classLink RL 41 "java/util/NoSuchElementException") (by decide +kernel)) (tw_cast hT (by decide +kernel)) hc9 hv9 hcl9 ?_
      refine lv_astore (lv' := [(5, .ref q9), (0, .ref (ad 0)), (1, .int x1), (2, .int x2), (3, .int x3), (4, .ref ao)]) hx hb dL_earned_15 hl (by decide) rfl (fun ls hl => ?_)
      refine lv_iconst (v := (1 : Int32)) hx hb dL_earned_17 (by decide) ?_
      exact W.iret (v := (1 : Int32)) hx hb hr (fun t ht hW => ⟨⟨(1 : Int32), ((I1, F1), g), rfl, h, by show va_P _ _ _ t.heap; rw [ht]; exact hP, by show va_P _ _ _ t.heap; rw [ht]; exact hO⟩, hS.F ht⟩) hS.2.2 dL_earned_18
  · refine lv_i2l (v := r.toInt64) hx hb dL_earned_10 rfl ?_
    refine last_h hx hb hK2 hP hO (hD _ _) hAo (hap.any (wC_fix cI ad) _ _) hS dL_earned_11 (fun H locs hP hO hS => ?_)
    refine lv_goto (tgt := 19) hx hb dL_earned_12 (by decide) ?_
    refine lv_iconst (v := (0 : Int32)) hx hb dL_earned_19 (by decide) ?_
    exact W.iret (v := (0 : Int32)) hx hb hr (fun t ht hW => ⟨⟨(0 : Int32), ((I1, F1), vp_updL g 0 r.toInt64), rfl, h, by show va_P _ _ _ t.heap; rw [ht]; exact hP, by show va_P _ _ _ t.heap; rw [ht]; exact hO⟩, hS.F ht⟩) hS.2.2 dL_earned_20
def wL_settled (I : Nat → Int32) (F : Nat → Nat → Int32) (g : Nat → Int64) (x1 x2 : Int32) (post : Int32 → (Nat → Int32) → (Nat → Nat → Int32) → (Nat → Int64) → Prop) : Prop := wX4_settled I F x1 x2 (fun r I1 F1 => post (0 : Int32) I1 F1 (vp_updL g 0 r.toInt64)) (fun E I1 F1 => (E = "java/util/NoSuchElementException" ∧ post (1 : Int32) I1 F1 g))
set_option maxHeartbeats 4000000 in
set_option maxRecDepth 100000 in
theorem cTL_settled (l : Launch) (hst : l.stackTraces = false) (dC : Nat → ClassId) (dI : Nat → Nat → Nat) (cI cJ : ClassId) (ad : Nat → Nat) (ao : Nat) (I : Nat → Int32) (F : Nat → Nat → Int32) (g : Nat → Int64) (sz : Nat) (x1 x2 : Int32) (post : Int32 → (Nat → Int32) → (Nat → Nat → Int32) → (Nat → Int64) → Prop) (h : wL_settled I F g x1 x2 post) : Met l yL_settled wsL_settled { frames := 7, cells := 1, slots := 6, locals := 111 } (va_Pc [.ref (ad 0), .int x1, .int x2, .ref ao] (PH dC dI cI cJ ad ao I F g sz)) (QH dC dI cI cJ ad ao post (AH cI ad ao I F sz)) 1 6 (AH cI ad ao I F sz) := by
  refine va_MetW (cc := cL_settled) (maxL := 5) (ret := (some .int)) (by decide) rfl ?_
  intro p e s m args below meth c s₁ B hml hv
  obtain ⟨rfl, hsz, hP, hO, hK2, hN, hD0, hap, hT, hC, hZ⟩ := hv
  subst hsz
  have hK : va_K (dC, dI) vwCl [(cI, .int)] s := hK2.sub [0] rfl
  have hx := B.exec
  have hb := B.bytes
  have hr := B.returns
  have hts := atoms_spec (ws := wsL_settled) B.pre
  have htab := vx_table (x := yL_settled) B (hts _ List.mem_cons_self)
  have hown : s.vm.findClass RL = some m.cls := findClass_of_methodNamed B.named
  have hlocks := B.notSynchronized
  have hD := wD_any (wC_fix cI ad) ((hD0.self (sz := s.heap.size)).weaken (B := AH cI ad ao I F s.heap.size) (fun _ _ _ h => Or.inl h))
  have hA : ∀ q : Nat, s.heap.size ≤ q → AH cI ad ao I F s.heap.size q := fun q h => Or.inl (Or.inr h)
  have hAo : AH cI ad ao I F s.heap.size ao := Or.inr rfl
  generalize AH cI ad ao I F s.heap.size = A at hD hA hAo hZ ⊢
  have hS : va_S A s.heap s.heap [] := va_S.rf
  have hl := lv_entry ([.ref (ad 0), .int x1, .int x2, .ref ao]) (n := 5) (Nat.le_of_ble_eq_true rfl)
  rw [lg_entry_eq]
  generalize (lg_sl ([.ref (ad 0), .int x1, .int x2, .ref ao]) ++ List.replicate (5 - (lg_sl ([.ref (ad 0), .int x1, .int x2, .ref ao])).length) Slot.unset).toArray = ls at hl ⊢
  have hl : lv_has ls 5 [(0, .ref (ad 0)), (1, .int x1), (2, .int x2), (3, .ref ao)] := hl
  unfold wL_settled at h
  refine lv_aload_n hx hb dL_settled_0 rfl (lv_at hl 3 rfl) ?_
  refine lv_iconst (v := (0 : Int32)) hx hb dL_settled_1 (by decide) ?_
  refine lv_aload_n hx hb dL_settled_2 rfl (lv_at hl 0 rfl) ?_
  refine lv_iload_n hx hb dL_settled_3 rfl (lv_at hl 1 rfl) ?_
  refine lv_iload_n hx hb dL_settled_4 rfl (lv_at hl 2 rfl) ?_
  refine hcall_i (wf := wC cI ad) (vx_runV (As := [.int x1, .int x2]) (rest := [.int (0 : Int32), .ref ao]) ⟨hx, hb, hml, hown, hts⟩ (cTX4_settled l hst dC dI cI ad I F s.heap.size x1 x2 _ _ h) (cwV 2 hts gL_settled_X4_settled rfl rfl rfl (by decide +kernel) ⟨(Nat.le_of_ble_eq_true rfl), (Nat.le_of_ble_eq_true rfl)⟩) (pv_T hP hK hN hT hZ hS hD hA 0 4 rfl rfl _) rfl rfl hl.1 rfl (lv_room (Nat.le_of_ble_eq_true rfl)) dL_settled_5 ⟨(Nat.le_of_ble_eq_true rfl), (Nat.le_of_ble_eq_true rfl)⟩) hD hS hA hO hap (fun E ce q9 I1 F1 h H locs hP hO hS hc9 hv9 hcl9 => ?_) (fun r I1 F1 h H locs hP hO hS => ?_)
  · rcases h with ⟨rfl, h⟩
    · refine vx_catch (own := RL) (name := "java/util/NoSuchElementException") hown [] ⟨0, 10, 13, 41⟩ [] htab (fun z hz => by cases hz) (by decide) (by decide) (hts (.classLink RL 41 "java/util/NoSuchElementException") (by decide +kernel)) (tw_cast hT (by decide +kernel)) hc9 hv9 hcl9 ?_
      refine lv_astore (lv' := [(4, .ref q9), (0, .ref (ad 0)), (1, .int x1), (2, .int x2), (3, .ref ao)]) hx hb dL_settled_13 hl (by decide) rfl (fun ls hl => ?_)
      refine lv_iconst (v := (1 : Int32)) hx hb dL_settled_15 (by decide) ?_
      exact W.iret (v := (1 : Int32)) hx hb hr (fun t ht hW => ⟨⟨(1 : Int32), ((I1, F1), g), rfl, h, by show va_P _ _ _ t.heap; rw [ht]; exact hP, by show va_P _ _ _ t.heap; rw [ht]; exact hO⟩, hS.F ht⟩) hS.2.2 dL_settled_16
  · refine lv_i2l (v := r.toInt64) hx hb dL_settled_8 rfl ?_
    refine last_h hx hb hK2 hP hO (hD _ _) hAo (hap.any (wC_fix cI ad) _ _) hS dL_settled_9 (fun H locs hP hO hS => ?_)
    refine lv_goto (tgt := 17) hx hb dL_settled_10 (by decide) ?_
    refine lv_iconst (v := (0 : Int32)) hx hb dL_settled_17 (by decide) ?_
    exact W.iret (v := (0 : Int32)) hx hb hr (fun t ht hW => ⟨⟨(0 : Int32), ((I1, F1), vp_updL g 0 r.toInt64), rfl, h, by show va_P _ _ _ t.heap; rw [ht]; exact hP, by show va_P _ _ _ t.heap; rw [ht]; exact hO⟩, hS.F ht⟩) hS.2.2 dL_settled_18
def wL_posting (I : Nat → Int32) (F : Nat → Nat → Int32) (g : Nat → Int64) (x1 x2 : Int32) (post : Int32 → (Nat → Int32) → (Nat → Nat → Int32) → (Nat → Int64) → Prop) : Prop := wX4_posting I F x1 x2 (fun r I1 F1 => post (0 : Int32) I1 F1 (vp_updL g 0 r.toInt64)) (fun E I1 F1 => (E = "java/util/NoSuchElementException" ∧ post (1 : Int32) I1 F1 g))
set_option maxHeartbeats 4000000 in
set_option maxRecDepth 100000 in
theorem cTL_posting (l : Launch) (hst : l.stackTraces = false) (dC : Nat → ClassId) (dI : Nat → Nat → Nat) (cI cJ : ClassId) (ad : Nat → Nat) (ao : Nat) (I : Nat → Int32) (F : Nat → Nat → Int32) (g : Nat → Int64) (sz : Nat) (x1 x2 : Int32) (post : Int32 → (Nat → Int32) → (Nat → Nat → Int32) → (Nat → Int64) → Prop) (h : wL_posting I F g x1 x2 post) : Met l yL_posting wsL_posting { frames := 7, cells := 1, slots := 6, locals := 111 } (va_Pc [.ref (ad 0), .int x1, .int x2, .ref ao] (PH dC dI cI cJ ad ao I F g sz)) (QH dC dI cI cJ ad ao post (AH cI ad ao I F sz)) 1 6 (AH cI ad ao I F sz) := by
  refine va_MetW (cc := cL_posting) (maxL := 5) (ret := (some .int)) (by decide) rfl ?_
  intro p e s m args below meth c s₁ B hml hv
  obtain ⟨rfl, hsz, hP, hO, hK2, hN, hD0, hap, hT, hC, hZ⟩ := hv
  subst hsz
  have hK : va_K (dC, dI) vwCl [(cI, .int)] s := hK2.sub [0] rfl
  have hx := B.exec
  have hb := B.bytes
  have hr := B.returns
  have hts := atoms_spec (ws := wsL_posting) B.pre
  have htab := vx_table (x := yL_posting) B (hts _ List.mem_cons_self)
  have hown : s.vm.findClass RL = some m.cls := findClass_of_methodNamed B.named
  have hlocks := B.notSynchronized
  have hD := wD_any (wC_fix cI ad) ((hD0.self (sz := s.heap.size)).weaken (B := AH cI ad ao I F s.heap.size) (fun _ _ _ h => Or.inl h))
  have hA : ∀ q : Nat, s.heap.size ≤ q → AH cI ad ao I F s.heap.size q := fun q h => Or.inl (Or.inr h)
  have hAo : AH cI ad ao I F s.heap.size ao := Or.inr rfl
  generalize AH cI ad ao I F s.heap.size = A at hD hA hAo hZ ⊢
  have hS : va_S A s.heap s.heap [] := va_S.rf
  have hl := lv_entry ([.ref (ad 0), .int x1, .int x2, .ref ao]) (n := 5) (Nat.le_of_ble_eq_true rfl)
  rw [lg_entry_eq]
  generalize (lg_sl ([.ref (ad 0), .int x1, .int x2, .ref ao]) ++ List.replicate (5 - (lg_sl ([.ref (ad 0), .int x1, .int x2, .ref ao])).length) Slot.unset).toArray = ls at hl ⊢
  have hl : lv_has ls 5 [(0, .ref (ad 0)), (1, .int x1), (2, .int x2), (3, .ref ao)] := hl
  unfold wL_posting at h
  refine lv_aload_n hx hb dL_posting_0 rfl (lv_at hl 3 rfl) ?_
  refine lv_iconst (v := (0 : Int32)) hx hb dL_posting_1 (by decide) ?_
  refine lv_aload_n hx hb dL_posting_2 rfl (lv_at hl 0 rfl) ?_
  refine lv_iload_n hx hb dL_posting_3 rfl (lv_at hl 1 rfl) ?_
  refine lv_iload_n hx hb dL_posting_4 rfl (lv_at hl 2 rfl) ?_
  refine hcall_i (wf := wC cI ad) (vx_runV (As := [.int x1, .int x2]) (rest := [.int (0 : Int32), .ref ao]) ⟨hx, hb, hml, hown, hts⟩ (cTX4_posting l hst dC dI cI ad I F s.heap.size x1 x2 _ _ h) (cwV 2 hts gL_posting_X4_posting rfl rfl rfl (by decide +kernel) ⟨(Nat.le_of_ble_eq_true rfl), (Nat.le_of_ble_eq_true rfl)⟩) (pv_T hP hK hN hT hZ hS hD hA 0 4 rfl rfl _) rfl rfl hl.1 rfl (lv_room (Nat.le_of_ble_eq_true rfl)) dL_posting_5 ⟨(Nat.le_of_ble_eq_true rfl), (Nat.le_of_ble_eq_true rfl)⟩) hD hS hA hO hap (fun E ce q9 I1 F1 h H locs hP hO hS hc9 hv9 hcl9 => ?_) (fun r I1 F1 h H locs hP hO hS => ?_)
  · rcases h with ⟨rfl, h⟩
    · refine vx_catch (own := RL) (name := "java/util/NoSuchElementException") hown [] ⟨0, 10, 13, 41⟩ [] htab (fun z hz => by cases hz) (by decide) (by decide) (hts (.classLink RL 41 "java/util/NoSuchElementException") (by decide +kernel)) (tw_cast hT (by decide +kernel)) hc9 hv9 hcl9 ?_
      refine lv_astore (lv' := [(4, .ref q9), (0, .ref (ad 0)), (1, .int x1), (2, .int x2), (3, .ref ao)]) hx hb dL_posting_13 hl (by decide) rfl (fun ls hl => ?_)
      refine lv_iconst (v := (1 : Int32)) hx hb dL_posting_15 (by decide) ?_
      exact W.iret (v := (1 : Int32)) hx hb hr (fun t ht hW => ⟨⟨(1 : Int32), ((I1, F1), g), rfl, h, by show va_P _ _ _ t.heap; rw [ht]; exact hP, by show va_P _ _ _ t.heap; rw [ht]; exact hO⟩, hS.F ht⟩) hS.2.2 dL_posting_16
  · refine lv_i2l (v := r.toInt64) hx hb dL_posting_8 rfl ?_
    refine last_h hx hb hK2 hP hO (hD _ _) hAo (hap.any (wC_fix cI ad) _ _) hS dL_posting_9 (fun H locs hP hO hS => ?_)
    refine lv_goto (tgt := 17) hx hb dL_posting_10 (by decide) ?_
    refine lv_iconst (v := (0 : Int32)) hx hb dL_posting_17 (by decide) ?_
    exact W.iret (v := (0 : Int32)) hx hb hr (fun t ht hW => ⟨⟨(0 : Int32), ((I1, F1), vp_updL g 0 r.toInt64), rfl, h, by show va_P _ _ _ t.heap; rw [ht]; exact hP, by show va_P _ _ _ t.heap; rw [ht]; exact hO⟩, hS.F ht⟩) hS.2.2 dL_posting_18
def wL_balance (I : Nat → Int32) (F : Nat → Nat → Int32) (g : Nat → Int64) (x1 : Int32) (post : Int32 → (Nat → Int32) → (Nat → Nat → Int32) → (Nat → Int64) → Prop) : Prop := wX4_balance I F x1 (fun r I1 F1 => post (0 : Int32) I1 F1 (vp_updL g 0 r.toInt64)) (fun E I1 F1 => (E = "java/util/NoSuchElementException" ∧ post (1 : Int32) I1 F1 g))
set_option maxHeartbeats 4000000 in
set_option maxRecDepth 100000 in
theorem cTL_balance (l : Launch) (hst : l.stackTraces = false) (dC : Nat → ClassId) (dI : Nat → Nat → Nat) (cI cJ : ClassId) (ad : Nat → Nat) (ao : Nat) (I : Nat → Int32) (F : Nat → Nat → Int32) (g : Nat → Int64) (sz : Nat) (x1 : Int32) (post : Int32 → (Nat → Int32) → (Nat → Nat → Int32) → (Nat → Int64) → Prop) (h : wL_balance I F g x1 post) : Met l yL_balance wsL_balance { frames := 7, cells := 1, slots := 6, locals := 110 } (va_Pc [.ref (ad 0), .int x1, .ref ao] (PH dC dI cI cJ ad ao I F g sz)) (QH dC dI cI cJ ad ao post (AH cI ad ao I F sz)) 1 6 (AH cI ad ao I F sz) := by
  refine va_MetW (cc := cL_balance) (maxL := 4) (ret := (some .int)) (by decide) rfl ?_
  intro p e s m args below meth c s₁ B hml hv
  obtain ⟨rfl, hsz, hP, hO, hK2, hN, hD0, hap, hT, hC, hZ⟩ := hv
  subst hsz
  have hK : va_K (dC, dI) vwCl [(cI, .int)] s := hK2.sub [0] rfl
  have hx := B.exec
  have hb := B.bytes
  have hr := B.returns
  have hts := atoms_spec (ws := wsL_balance) B.pre
  have htab := vx_table (x := yL_balance) B (hts _ List.mem_cons_self)
  have hown : s.vm.findClass RL = some m.cls := findClass_of_methodNamed B.named
  have hlocks := B.notSynchronized
  have hD := wD_any (wC_fix cI ad) ((hD0.self (sz := s.heap.size)).weaken (B := AH cI ad ao I F s.heap.size) (fun _ _ _ h => Or.inl h))
  have hA : ∀ q : Nat, s.heap.size ≤ q → AH cI ad ao I F s.heap.size q := fun q h => Or.inl (Or.inr h)
  have hAo : AH cI ad ao I F s.heap.size ao := Or.inr rfl
  generalize AH cI ad ao I F s.heap.size = A at hD hA hAo hZ ⊢
  have hS : va_S A s.heap s.heap [] := va_S.rf
  have hl := lv_entry ([.ref (ad 0), .int x1, .ref ao]) (n := 4) (Nat.le_of_ble_eq_true rfl)
  rw [lg_entry_eq]
  generalize (lg_sl ([.ref (ad 0), .int x1, .ref ao]) ++ List.replicate (4 - (lg_sl ([.ref (ad 0), .int x1, .ref ao])).length) Slot.unset).toArray = ls at hl ⊢
  have hl : lv_has ls 4 [(0, .ref (ad 0)), (1, .int x1), (2, .ref ao)] := hl
  unfold wL_balance at h
  refine lv_aload_n hx hb dL_balance_0 rfl (lv_at hl 2 rfl) ?_
  refine lv_iconst (v := (0 : Int32)) hx hb dL_balance_1 (by decide) ?_
  refine lv_aload_n hx hb dL_balance_2 rfl (lv_at hl 0 rfl) ?_
  refine lv_iload_n hx hb dL_balance_3 rfl (lv_at hl 1 rfl) ?_
  refine hcall_i (wf := wC cI ad) (vx_runV (As := [.int x1]) (rest := [.int (0 : Int32), .ref ao]) ⟨hx, hb, hml, hown, hts⟩ (cTX4_balance l hst dC dI cI ad I F s.heap.size x1 _ _ h) (cwV 1 hts gL_balance_X4_balance rfl rfl rfl (by decide +kernel) ⟨(Nat.le_of_ble_eq_true rfl), (Nat.le_of_ble_eq_true rfl)⟩) (pv_T hP hK hN hT hZ hS hD hA 0 4 rfl rfl _) rfl rfl hl.1 rfl (lv_room (Nat.le_of_ble_eq_true rfl)) dL_balance_4 ⟨(Nat.le_of_ble_eq_true rfl), (Nat.le_of_ble_eq_true rfl)⟩) hD hS hA hO hap (fun E ce q9 I1 F1 h H locs hP hO hS hc9 hv9 hcl9 => ?_) (fun r I1 F1 h H locs hP hO hS => ?_)
  · rcases h with ⟨rfl, h⟩
    · refine vx_catch (own := RL) (name := "java/util/NoSuchElementException") hown [] ⟨0, 9, 12, 41⟩ [] htab (fun z hz => by cases hz) (by decide) (by decide) (hts (.classLink RL 41 "java/util/NoSuchElementException") (by decide +kernel)) (tw_cast hT (by decide +kernel)) hc9 hv9 hcl9 ?_
      refine lv_astore_n (lv' := [(3, .ref q9), (0, .ref (ad 0)), (1, .int x1), (2, .ref ao)]) hx hb dL_balance_12 rfl hl (by decide) rfl (fun ls hl => ?_)
      refine lv_iconst (v := (1 : Int32)) hx hb dL_balance_13 (by decide) ?_
      exact W.iret (v := (1 : Int32)) hx hb hr (fun t ht hW => ⟨⟨(1 : Int32), ((I1, F1), g), rfl, h, by show va_P _ _ _ t.heap; rw [ht]; exact hP, by show va_P _ _ _ t.heap; rw [ht]; exact hO⟩, hS.F ht⟩) hS.2.2 dL_balance_14
  · refine lv_i2l (v := r.toInt64) hx hb dL_balance_7 rfl ?_
    refine last_h hx hb hK2 hP hO (hD _ _) hAo (hap.any (wC_fix cI ad) _ _) hS dL_balance_8 (fun H locs hP hO hS => ?_)
    refine lv_goto (tgt := 15) hx hb dL_balance_9 (by decide) ?_
    refine lv_iconst (v := (0 : Int32)) hx hb dL_balance_15 (by decide) ?_
    exact W.iret (v := (0 : Int32)) hx hb hr (fun t ht hW => ⟨⟨(0 : Int32), ((I1, F1), vp_updL g 0 r.toInt64), rfl, h, by show va_P _ _ _ t.heap; rw [ht]; exact hP, by show va_P _ _ _ t.heap; rw [ht]; exact hO⟩, hS.F ht⟩) hS.2.2 dL_balance_16
